/-! What undoes an insertion, by Lagrange -/
theorem zm_neg (a b : Nat → Int) (n : Nat) : zm a (fun i => -(b i)) n = -(zm a b n) := by
  have h := zm_smulr (-1) a b n
  rw [zm_congr (a' := a) (b := fun i => -(b i)) (b' := fun k => -1 * b k) (fun _ _ => rfl) (fun i _ => by omega), h]
  omega
theorem zm_w {a W : Nat → Int} (h : W 0 = 0) (k : Nat) : zm a W (k + 1) = zm a (zs W) k := by
  rw [zm_comm, zm_step, h, Int.zero_mul, Int.zero_add, zm_comm]
theorem lag_a {q F : Nat → Int} {D m : Nat} (h : ∀ i, i ≤ D → Cg (zm q (zs F) i) (z1 i)) (hm : m ≤ D) (hp : m < 1000003) : Cg (zm (zp q (m + 1)) (zd F) m) (if m = 0 then 1 else 0) := by
  generalize hu : zs F = u at h
  have hd : ∀ n, zd F n = ((n + 1 : Nat) : Int) * u n := fun n => by rw [← hu]; rfl
  cases m with
  | zero =>
    rw [if_pos rfl, zm_0, hd]
    have e := h 0 (Nat.zero_le _)
    rw [zm_0] at e
    refine (Cg.of ?_).tr (e.tr (Cg.of rfl))
    show zm z1 q 0 * _ = _
    rw [zm_z1]
    show q 0 * (((0 + 1 : Nat) : Int) * u 0) = _
    rw [show ((0 + 1 : Nat) : Int) = 1 from rfl, Int.one_mul]
  | succ k =>
    rw [if_neg (by omega)]
    refine Cg_can (a := k + 1) (by omega) hp ?_
    rw [Int.zero_mul]
    have e0 : zm (zp q (k + 1 + 1)) (zd F) (k + 1) = zm (zp q (k + 1 + 1)) u (k + 1) + zm (zp q (k + 1 + 1)) (zd u) k := by
      rw [zm_congr (a' := zp q (k + 1 + 1)) (b' := fun n => u n + (n : Int) * u n) (fun _ _ => rfl) (fun n _ => by rw [hd, Int.natCast_add, Int.add_mul]; omega), zm_addr]
      congr 1
      rw [zm_w (by simp)]
      rfl
    have e1 : Cg (zm (zp q (k + 1 + 1)) u (k + 1)) (zp q (k + 1) (k + 1)) := by
      refine (Cg.of (zm_assoc (zp q (k + 1)) q u (k + 1))).tr ?_
      refine (Cg.cv (a := zp q (k + 1)) (a' := zp q (k + 1)) (b' := z1) (fun _ _ => Cg.rf _) (fun i hi => h i (by omega))).tr (Cg.of ?_)
      exact zm_e0r _ _
    have e2 : Cg (zm (zp q (k + 1 + 1)) (zd u) k) (-(zm (zp q k) (zd q) k)) := by
      refine (Cg.of (zm_assoc (zp q (k + 1)) q (zd u) k)).tr ?_
      have e3 : ∀ i, i ≤ k → Cg (zm q (zd u) i) (-(zm (zd q) u i)) := by
        intro i hi
        have a1 := zd_zm q u i
        have a2 : Cg (zd (zm q u) i) 0 := by
          show Cg (((i + 1 : Nat) : Int) * zm q u (i + 1)) 0
          refine (Cg.mul (Cg.rf _) (h (i + 1) (by omega))).tr (Cg.of ?_)
          rw [z1, if_neg (by omega), Int.mul_zero]
        rw [a1] at a2
        have a3 := Cg.sub a2 (Cg.rf (zm (zd q) u i))
        refine (Cg.of ?_).tr (a3.tr (Cg.of ?_)) <;> omega
      refine (Cg.cv (a := zp q (k + 1)) (a' := zp q (k + 1)) (fun _ _ => Cg.rf _) e3).tr ?_
      rw [zm_neg]
      have a4 : Cg (zm (zp q (k + 1)) (zm (zd q) u) k) (zm (zp q k) (zd q) k) := by
        refine (Cg.of (zm_swap (zp q k) q (zd q) u k)).tr ?_
        refine (Cg.cv (a := zm (zp q k) (zd q)) (a' := zm (zp q k) (zd q)) (b' := z1) (fun _ _ => Cg.rf _) (fun i hi => h i (by omega))).tr (Cg.of ?_)
        exact zm_e0r _ _
      have a5 := Cg.sub (Cg.rf 0) a4
      refine (Cg.of ?_).tr (a5.tr (Cg.of ?_)) <;> omega
    have e4 : ((k + 1 : Nat) : Int) * zm (zp q k) (zd q) k = ((k + 1 : Nat) : Int) * zp q (k + 1) (k + 1) := by
      rw [← zd_zp]
      rfl
    rw [e0]
    refine (Cg.mul (Cg.add e1 e2) (Cg.rf _)).tr (Cg.of ?_)
    rw [Int.add_mul, Int.mul_comm _ ((k + 1 : Nat) : Int), ← e4, Int.mul_comm _ ((k + 1 : Nat) : Int), Int.mul_neg]
    omega
theorem lag_s {q F : Nat → Int} {D : Nat} (h0 : F 0 = 0) (h : ∀ i, i ≤ D → Cg (zm q (zs F) i) (z1 i)) (Y : Nat → Int) (a : Nat) {i : Nat} (hi : i ≤ D) : Cg (zm (zp q (a + 1)) (zm F Y) (i + 1)) (zm (zp q a) Y i) := by
  have e1 : zm (zp q (a + 1)) (zm F Y) (i + 1) = zm (zs F) (zm Y (zp q (a + 1))) i := by
    rw [zm_comm, zm_assoc, zm_step, h0, Int.zero_mul, Int.zero_add]
  have e2 : zm (zs F) (zm Y (zp q (a + 1))) i = zm Y (zm (zm (zp q a) q) (zs F)) i := by
    rw [zm_comm, zm_assoc]
    rfl
  rw [e1, e2, zm_comm (zp q a) Y]
  refine Cg.cv (fun _ _ => Cg.rf _) (fun j hj => ?_)
  rw [zm_assoc]
  refine (Cg.cv (a := zp q a) (a' := zp q a) (b' := z1) (fun _ _ => Cg.rf _) (fun m hm => h m (by omega))).tr (Cg.of ?_)
  exact zm_e0r _ _
theorem lag_b {q F : Nat → Int} {D : Nat} (h0 : F 0 = 0) (h : ∀ i, i ≤ D → Cg (zm q (zs F) i) (z1 i)) (Y : Nat → Int) (c j : Nat) : c + j ≤ D + 1 → Cg (zm (zp q (c + j + 1)) (zm (zp F j) Y) (c + j)) (zm (zp q (c + 1)) Y c) := by
  induction j with
  | zero =>
    intro _
    refine Cg.of (zm_congr (fun _ _ => rfl) (fun k _ => ?_))
    exact zm_z1 Y k
  | succ j ih =>
    intro hc
    have e1 : zm (zp q (c + (j + 1) + 1)) (zm (zp F (j + 1)) Y) (c + (j + 1)) = zm (zp q (c + j + 1 + 1)) (zm F (zm (zp F j) Y)) (c + j + 1) := by
      refine zm_congr (fun _ _ => rfl) (fun k _ => ?_)
      show zm (zm (zp F j) F) Y k = _
      rw [zm_congr (fun i _ => zm_comm (zp F j) F i) (fun _ _ => rfl), zm_assoc]
    rw [e1]
    exact (lag_s h0 h (zm (zp F j) Y) (c + j + 1) (by omega)).tr (ih (by omega))
theorem zm_zz (A c : Nat → Int) (B : Nat → Nat → Int) (N k : Nat) : zm A (fun i => zz (fun m => c m * B m i) N) k = zz (fun m => c m * zm A (B m) k) N := by
  unfold zm
  have h1 : zz (fun t => A t * zz (fun m => c m * B m (k - t)) N) (k + 1) = zz (fun t => zz (fun m => c m * (A t * B m (k - t))) N) (k + 1) := by
    refine zz_congr (fun t _ => ?_)
    rw [← zz_mulc]
    refine zz_congr (fun m _ => ?_)
    rw [← Int.mul_assoc, ← Int.mul_assoc, Int.mul_comm (A t) (c m)]
  rw [h1, zz_comm]
  refine zz_congr (fun m _ => ?_)
  rw [zz_mulc]
theorem qp_cg (f : Nat → Nat) (s k i : Nat) : Cg (qp f s k i : Nat) (zp (zN (dv oneS (uu f s))) (k + 1) i) := by
  induction k generalizing i with
  | zero =>
    refine Cg.of ?_
    show zN (dv oneS (uu f s)) i = zm z1 (zN (dv oneS (uu f s))) i
    exact (zm_z1 _ i).symm
  | succ k ih => exact (cf_cg _ _ _).tr (Cg.cv (fun j _ => ih j) (fun _ _ => Cg.rf _))
theorem uu_t {f : Nat → Nat} {s j : Nat} (h : j < s - 1) : uu f s j = f (j + 1) := by unfold uu; rw [if_pos h]
theorem q_u {f : Nat → Nat} {s : Nat} (hs : 2 ≤ s) (h0 : 0 < f 1) (h1 : f 1 < 1000003) : ∀ i, i ≤ s - 2 → Cg (zm (zN (dv oneS (uu f s))) (zs (zN f)) i) (z1 i) := by
  intro i hi
  have e0 : uu f s 0 = f 1 := uu_t (by omega)
  have e := dv_cg (x := oneS) (y := uu f s) (by rw [e0]; exact h0) (by rw [e0]; exact h1) i
  refine (Cg.of (zm_congr (fun _ _ => rfl) (fun k hk => ?_))).tr (e.tr (Cg.of (zN_one i)))
  show zN f (k + 1) = zN (uu f s) k
  unfold zN
  rw [uu_t (by omega)]
theorem lag {f r : Nat → Nat} {s : Nat} (hs : 2 ≤ s) (hs2 : s ≤ 10) (f0 : f 0 = 0) (h0 : 0 < f 1) (h1 : f 1 < 1000003) (hr : ∀ i, i < s → r i < 1000003) (h : ∀ i, i < s → Cg (zi (zN r) (zN f) i) (zt i)) : ∀ n, n < s → r n = rvs f s n := by
  have F0 := zN_0 f0
  have hq := q_u hs h0 h1
  have hqp := fun k i => qp_cg f s k i
  intro n hn
  unfold rvs
  cases n with
  | zero =>
    rw [if_pos rfl]
    have e := h 0 hn
    rw [zi_0] at e
    exact Cg_nat (hr 0 hn) (by decide) e
  | succ k =>
    rw [if_neg (by omega), show k + 1 - 1 = k from rfl]
    generalize zN (dv oneS (uu f s)) = q at *
    generalize hF : zN f = F at *
    generalize hR : zN r = R at *
    refine Cg_nat (hr _ hn) (Nat.mod_lt _ (by decide)) (Cg_can (a := k + 1) (by omega) (by omega) ?_)
    -- the right hand side
    have er : Cg (((qp f s k k * nv (k + 1) % 1000003 : Nat) : Int) * ((k + 1 : Nat) : Int)) (zp q (k + 1) k) := by
      refine (Cg.mul (Cg_md _) (Cg.rf _)).tr ?_
      rw [Int.natCast_mul, Int.mul_assoc]
      refine (Cg.mul (hqp k k) (nv_inv (by omega) (by omega))).tr (Cg.of (Int.mul_one _))
    refine Cg.tr ?_ er.sy
    -- the left hand side
    have ea : Cg (zm (zp q (k + 1)) (zd (zi R F)) k) (zp q (k + 1) k) := by
      refine (Cg.cv (a := zp q (k + 1)) (a' := zp q (k + 1)) (b' := z1) (fun _ _ => Cg.rf _) (fun i hi => ?_)).tr (Cg.of (zm_e0r _ _))
      show Cg (((i + 1 : Nat) : Int) * zi R F (i + 1)) (z1 i)
      refine (Cg.mul (Cg.rf _) (h (i + 1) (by omega))).tr (Cg.of ?_)
      unfold zt z1
      by_cases e : i = 0
      · subst e
        rfl
      · rw [if_neg (by omega), if_neg e, Int.mul_zero]
    have eb : zm (zp q (k + 1)) (zd (zi R F)) k = zz (fun m => R m * zm (zp q (k + 1)) (zd (zp F m)) k) (k + 2) := by
      rw [← zm_zz]
      refine zm_congr (fun _ _ => rfl) (fun i hi => ?_)
      show ((i + 1 : Nat) : Int) * zi R F (i + 1) = zz (fun m => R m * zd (zp F m) i) (k + 2)
      rw [← zi_big F0 R (show i + 1 < k + 2 by omega), ← zz_mulc]
      refine zz_congr (fun m _ => ?_)
      show ((i + 1 : Nat) : Int) * (R m * zp F m (i + 1)) = R m * (((i + 1 : Nat) : Int) * zp F m (i + 1))
      rw [← Int.mul_assoc, ← Int.mul_assoc, Int.mul_comm (R m)]
    have et : ∀ j, j ≤ k → Cg (zm (zp q (k + 1)) (zd (zp F (j + 1))) k) (((j + 1 : Nat) : Int) * (if k - j = 0 then 1 else 0)) := by
      intro j hj
      have e1 : zm (zp q (k + 1)) (zd (zp F (j + 1))) k = ((j + 1 : Nat) : Int) * zm (zp q (k + 1)) (zm (zp F j) (zd F)) k := by
        rw [← zm_smulr]
        exact zm_congr (fun _ _ => rfl) (fun i _ => zd_zp F j i)
      rw [e1]
      refine Cg.mul (Cg.rf _) ?_
      have e2 := lag_b F0 hq (zd F) (k - j) j (by omega)
      rw [show k - j + j = k by omega] at e2
      exact e2.tr (lag_a hq (by omega) (by omega))
    have e0 : zm (zp q (k + 1)) (zd (zp F 0)) k = 0 := zm_low (fun i _ => by
      show ((i + 1 : Nat) : Int) * z1 (i + 1) = 0
      rw [z1, if_neg (by omega), Int.mul_zero])
    refine Cg.tr ?_ ((Cg.of eb.symm).tr ea)
    rw [zz]
    have ez : Cg (zz (fun m => R m * zm (zp q (k + 1)) (zd (zp F m)) k) (k + 1)) 0 := by
      refine (Cg.sm (g := fun _ => 0) (fun m hm => ?_)).tr (Cg.of (zz_zero (fun _ _ => rfl)))
      cases m with
      | zero => rw [e0, Int.mul_zero]; exact Cg.rf 0
      | succ j =>
        refine (Cg.mul (Cg.rf _) (et j (by omega))).tr (Cg.of ?_)
        rw [if_neg (by omega), Int.mul_zero, Int.mul_zero]
    have el := Cg.mul (Cg.rf (R (k + 1))) (et k (Nat.le_refl _))
    rw [if_pos (Nat.sub_self k), Int.mul_one] at el
    have := Cg.add ez el
    rw [Int.zero_add] at this
    refine Cg.tr (Cg.of ?_) this.sy
    rw [← hR]
    rfl
