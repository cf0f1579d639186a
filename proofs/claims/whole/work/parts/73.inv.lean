/-! Triangular matrices: what solves them; inverses, A, Z -/
theorem un_mul {a b : Nat} (a0 : 0 < a) (a1 : a < 1000003) (b0 : 0 < b) (b1 : b < 1000003) : 0 < a * b % 1000003 := by
  refine Nat.pos_of_ne_zero (fun h => ?_)
  have hd := Nat.dvd_of_mod_eq_zero h
  have := (pr_cop b0 b1).dvd_of_dvd_mul_right hd
  have := Nat.le_of_dvd a0 this
  omega
theorem zp_diag {f : Nat → Nat} (f0 : f 0 = 0) (h0 : 0 < f 1) (h1 : f 1 < 1000003) (i : Nat) : ∃ c : Nat, 0 < c ∧ c < 1000003 ∧ Cg (zp (zN f) i i) c := by
  have F0 := zN_0 f0
  induction i with
  | zero => exact ⟨1, by decide, by decide, Cg.rf _⟩
  | succ i ih =>
    obtain ⟨c, c0, c1, hc⟩ := ih
    refine ⟨c * f 1 % 1000003, un_mul c0 c1 h0 h1, Nat.mod_lt _ (by decide), ?_⟩
    have e : zp (zN f) (i + 1) (i + 1) = zp (zN f) i i * zN f 1 := by
      show zm (zp (zN f) i) (zN f) (i + 1) = _
      rw [zm_last, F0, Int.mul_zero, Int.add_zero, zz, show i + 1 - i = 1 by omega]
      rw [zz_zero (fun t ht => by rw [zp_low F0 i t ht, Int.zero_mul]), Int.zero_add]
    rw [e]
    refine Cg.tr (Cg.mul hc (Cg.rf _)) ?_
    refine (Cg.of ?_).tr (Cg_md _).sy
    exact (Int.natCast_mul _ _).symm
theorem cm_diag {s : Nat} {g f : Nat → Nat} (g0 : 0 < g 0) (g1 : g 0 < 1000003) (f0 : f 0 = 0) (h0 : 0 < f 1) (h1 : f 1 < 1000003) {i : Nat} (hi : i < s) (hg : g i < 1000003) : 0 < cm s g f i i ∧ cm s g f i i < 1000003 := by
  refine ⟨Nat.pos_of_ne_zero (fun h => ?_), col_lt hg i⟩
  obtain ⟨c, c0, c1, hc⟩ := zp_diag f0 h0 h1 i
  have e := col_cg (s := s) (g := g) (f := f) i hi
  rw [show col s g f i i = 0 from h] at e
  have e2 : zm (zN g) (zp (zN f) i) i = zN g 0 * zp (zN f) i i := by
    rw [zm_comm, zm_last]
    rw [zz_zero (fun t ht => by rw [zp_low (zN_0 f0) i t ht, Int.zero_mul]), Int.zero_add, Int.mul_comm]
  rw [e2] at e
  have e3 := (e.tr (Cg.mul (Cg.rf (zN g 0)) hc)).tr (Cg.of (Int.natCast_mul (g 0) c).symm)
  have e4 : Cg ((0 : Nat) : Int) ((g 0 * c % 1000003 : Nat) : Int) := e3.tr (Cg_md _).sy
  have := Cg_nat (by decide) (Nat.mod_lt _ (by decide)) e4
  have := un_mul g0 g1 c0 c1
  omega
theorem slv_ok {A B : Nat → Nat → Nat} {i : Nat} (a0 : 0 < A i i) (a1 : A i i < 1000003) (j : Nat) : Cg (zz (fun k => ((A i k * slv A B k j : Nat) : Int)) (i + 1)) (B i j) := by
  rw [zz]
  have e : Cg ((A i i * slv A B i j : Nat) : Int) ((B i j : Int) - zz (fun k => ((A i k * slv A B k j : Nat) : Int)) i) := by
    rw [Int.natCast_mul, Int.mul_comm, slv_eq]
    refine (Cg.mul (Cg_md _) (Cg.rf _)).tr ?_
    rw [Int.natCast_mul, Int.mul_assoc]
    refine (Cg.mul (Cg_rst _) (nv_inv a0 a1)).tr (Cg.of (Int.mul_one _))
  refine (Cg.add (Cg.rf _) e).tr (Cg.of ?_)
  omega
theorem slv_uni {A B : Nat → Nat → Nat} {X : Nat → Nat} {s j : Nat} (ha : ∀ i, i < s → 0 < A i i ∧ A i i < 1000003) (h : ∀ i, i < s → Cg (zz (fun k => ((A i k * X k : Nat) : Int)) (i + 1)) (B i j)) (hX : ∀ i, i < s → X i < 1000003) : ∀ i, i < s → slv A B i j = X i := by
  intro i
  induction i using Nat.strongRecOn with
  | _ i ih =>
    intro hi
    refine Cg_nat (slv_lt _ _ _ _) (hX i hi) (Cg_can (a := A i i) (ha i hi).1 (ha i hi).2 ?_)
    have e1 := (slv_ok (A := A) (B := B) (ha i hi).1 (ha i hi).2 j).tr (h i hi).sy
    rw [zz, zz] at e1
    rw [zz_congr (g := fun k => ((A i k * X k : Nat) : Int)) (fun k hk => by rw [ih k hk (by omega)])] at e1
    have e2 := Cg.sub e1 (Cg.rf (zz (fun k => ((A i k * X k : Nat) : Int)) i))
    refine (Cg.of ?_).tr (e2.tr (Cg.of ?_))
    · rw [← Int.natCast_mul, Nat.mul_comm (slv A B i j)]
      omega
    · rw [← Int.natCast_mul, Nat.mul_comm (X i)]
      omega
theorem zp_zt (k n : Nat) : zp zt k n = if n = k then 1 else 0 := by
  induction k generalizing n with
  | zero => rfl
  | succ k ih =>
    show zm (zp zt k) zt n = _
    rw [zm_comm]
    cases n with
    | zero => rw [zm_0, if_neg (by omega), zt, if_neg (by omega), Int.zero_mul]
    | succ n =>
      rw [zm_zt, ih]
      by_cases e : n = k
      · rw [if_pos e, if_pos (by omega)]
      · rw [if_neg e, if_neg (by omega)]
theorem zi_ztr (x : Nat → Int) (n : Nat) : zi x zt n = x n := by
  unfold zi
  rw [zz, zz_zero (fun k hk => by rw [zp_zt, if_neg (by omega), Int.mul_zero]), zp_zt, if_pos rfl, Int.mul_one, Int.zero_add]
/-- the reverse, inserted -/
theorem rvs_slv {f : Nat → Nat} {s : Nat} (hs : 2 ≤ s) (hs2 : s ≤ 10) (f0 : f 0 = 0) (h0 : 0 < f 1) (h1 : f 1 < 1000003) : (∀ i, i < s → slv (cm s oneS f) idm i 1 = rvs f s i) ∧ ∀ i, i < s → Cg (zi (zN (rvs f s)) (zN f) i) (zt i) := by
  have e : ∀ i, i < s → Cg (zi (zN (fun k => slv (cm s oneS f) idm k 1)) (zN f) i) (zt i) := by
    intro i hi
    have hd := cm_diag (s := s) (g := oneS) (f := f) (by decide) (by decide) f0 h0 h1 hi (by unfold oneS; split <;> decide)
    have e1 := slv_ok (A := cm s oneS f) (B := idm) hd.1 hd.2 1
    refine Cg.tr (Cg.sm (fun k hk => ?_)) (e1.tr (Cg.of ?_))
    · rw [Int.natCast_mul, Int.mul_comm]
      refine Cg.mul ?_ (Cg.rf _)
      refine ((col_cg (s := s) (g := oneS) (f := f) k hi).tr (Cg.of ?_)).sy
      rw [zm_congr (fun m _ => zN_one m) (fun _ _ => rfl), zm_z1]
    · unfold idm zt
      split <;> rfl
  have e2 := lag hs hs2 f0 h0 h1 (fun i _ => slv_lt _ _ _ _) e
  refine ⟨e2, fun i hi => ?_⟩
  refine Cg.tr (Cg.of (zi_congr (fun k hk => ?_) (fun _ _ => rfl))) (e i hi)
  exact congrArg (fun z : Nat => (z : Int)) (e2 k (by omega)).symm
theorem rvs_0 (f : Nat → Nat) (s : Nat) : rvs f s 0 = 0 := by unfold rvs; rw [if_pos rfl]
theorem mulF_rvs {f : Nat → Nat} {s : Nat} (hs : 2 ≤ s) (hs2 : s ≤ 10) (f0 : f 0 = 0) (h0 : 0 < f 1) (h1 : f 1 < 1000003) {i : Nat} (hi : i < s) : mulF s f (rvs f s) i = tS i := by
  refine Cg_eq (hn_lt (fun i _ => rvs_lt _ _ _) hs2 s i) (by unfold tS; split <;> decide) (((mulF_cg f0 hi).tr ((rvs_slv hs hs2 f0 h0 h1).2 i hi))) (Cg.of (zN_t i))
theorem hn_0 {x y : Nat → Nat} {s : Nat} (hs : 1 ≤ s) : hn x y s s 0 = x 0 := by
  obtain ⟨d, rfl⟩ : ∃ d, s = d + 1 := ⟨s - 1, by omega⟩
  rw [hn, if_pos rfl, show d + 1 - 1 - d = 0 by omega]
/-- g of the reverse, f inserted, is g -/
theorem gr_f {g f : Nat → Nat} {s : Nat} (hs : 2 ≤ s) (hs2 : s ≤ 10) (f0 : f 0 = 0) (h0 : 0 < f 1) (h1 : f 1 < 1000003) {i : Nat} (hi : i < s) : Cg (zi (zN (hn g (rvs f s) s s)) (zN f) i) (zN g i) := by
  refine (Cg.cm (x' := zi (zN g) (zN (rvs f s))) (fun k hk => hn_zi (rvs_0 f s) (by omega)) (fun _ _ => Cg.rf _)).tr ?_
  rw [zi_assoc (zN_0 f0) (zN_0 (rvs_0 f s))]
  refine (Cg.cm (f' := zt) (fun _ _ => Cg.rf _) (fun k hk => (rvs_slv hs hs2 f0 h0 h1).2 k (by omega))).tr (Cg.of ?_)
  exact zi_ztr _ _
theorem mulG_inv {g f : Nat → Nat} {s : Nat} (hs : 2 ≤ s) (hs2 : s ≤ 10) (g0 : 0 < g 0) (g1 : g 0 < 1000003) (f0 : f 0 = 0) (h0 : 0 < f 1) (h1 : f 1 < 1000003) {i : Nat} (hi : i < s) : mulG s g f (invG s g f) i = oneS i := by
  refine Cg_eq (mulG_lt hi) (by unfold oneS; split <;> decide) (((mulG_cg f0 hi).tr ?_)) (Cg.of (zN_one i))
  rw [zm_comm]
  refine (Cg.cv (a := zi (zN (invG s g f)) (zN f)) (a' := zi (zN (invG s g f)) (zN f)) (fun _ _ => Cg.rf _) (fun k hk => (gr_f (s := s) hs hs2 f0 h0 h1 (show k < s by omega)).sy)).tr ?_
  rw [← zi_mul (zN_0 f0)]
  have e9 : hn g (rvs f s) s s 0 = g 0 := hn_0 (by omega)
  refine (Cg.cm (x' := z1) (fun k hk => ?_) (fun _ _ => Cg.rf _)).tr (Cg.of (zi_z1 (zN_0 f0) i))
  have := dv_cg (x := oneS) (y := hn g (rvs f s) s s) (by rw [e9]; exact g0) (by rw [e9]; exact g1) k
  exact this.tr (Cg.of (zN_one k))
theorem cm_congr {s : Nat} {g g' f f' : Nat → Nat} (hg : ∀ i, i < s → g i = g' i) (hf : ∀ i, i < s → f i = f' i) (j : Nat) : ∀ i, i < s → col s g f j i = col s g' f' j i := by
  induction j with
  | zero => exact hg
  | succ j ih =>
    intro i hi
    show ml s (col s g f j) f i = ml s (col s g' f' j) f' i
    exact ml_congr (fun k hk => ih k (by omega)) (fun k hk => hf k (by omega))
theorem cm_id {s : Nat} {i j : Nat} (hi : i < s) : cm s oneS tS i j = idm i j := by
  refine Cg_nat (col_lt (by unfold oneS; split <;> decide) j) (by unfold idm; split <;> decide) ((col_cg j hi).tr (Cg.of ?_))
  rw [zm_congr (fun m _ => zN_one m) (fun m hm => zp_congr (fun k _ => zN_t k) j m (Nat.le_refl _)), zm_z1, zp_zt]
  unfold idm
  by_cases e : i = j
  · rw [if_pos e, if_pos e]; rfl
  · rw [if_neg e, if_neg e]; rfl
/-- the inverse -/
theorem inv_ok {g f : Nat → Nat} {s : Nat} (hs : 2 ≤ s) (hs2 : s ≤ 10) (hg : ∀ i, i < s → g i < 1000003) (g0 : 0 < g 0) (f0 : f 0 = 0) (h0 : 0 < f 1) (h1 : f 1 < 1000003) {i j : Nat} (hi : i < s) (hj : j < s) : slv (cm s g f) idm i j = cm s (invG s g f) (rvs f s) i j := by
  refine slv_uni (s := s) (X := fun i => cm s (invG s g f) (rvs f s) i j) (fun i hi => cm_diag g0 (hg 0 (by omega)) f0 h0 h1 hi (hg i hi)) (fun i hi => ?_) (fun i hi => col_lt (dv_lt _ _ _) j) i hi
  have e1 := pm_mul (s := s) (sg := g) (sf := f) (tg := invG s g f) (tf := rvs f s) f0 (rvs_0 f s) hi hj
  have e2 : cm s (mulG s g f (invG s g f)) (mulF s f (rvs f s)) i j = idm i j := by
    rw [← cm_id (s := s) hi]
    exact cm_congr (fun i hi => mulG_inv hs hs2 g0 (hg 0 (by omega)) f0 h0 h1 hi) (fun i hi => mulF_rvs hs hs2 f0 h0 h1 hi) j i hi
  rw [e2] at e1
  rw [← e1]
  refine Cg.tr (Cg.of ?_) (Cg_rst _).sy
  refine (zz_ext (by omega) (fun k h1 h2 => ?_)).symm
  show ((col s g f k i * _ : Nat) : Int) = 0
  rw [col_up f0 (by omega) hi (hg i hi), Nat.zero_mul]
  rfl
/-- the table of a matrix -/
theorem tab_of {G F : Nat → Nat} {s : Nat} (g0 : 0 < G 0) (g1 : G 0 < 1000003) (hF : ∀ i, i < s → F i < 1000003) {i : Nat} (hi : i < s) : dv (fun k => cm s G F k 1) (fun k => cm s G F k 0) i = F i := by
  refine (Cg_nat (hF i hi) (dv_lt _ _ _) (dv_uni (n := i) (q := zN F) (y := fun k => cm s G F k 0) g0 g1 (fun j hj => ?_) i (Nat.le_refl _))).symm
  refine Cg.sy ((col_cg 1 (show j < s by omega)).tr (Cg.of ?_))
  rw [zm_comm]
  refine zm_congr (fun k _ => ?_) (fun _ _ => rfl)
  exact zm_z1 _ k
/-! A and Z -/
theorem r_zs {f : Nat → Nat} {s : Nat} (hs : 2 ≤ s) (hs2 : s ≤ 10) (f0 : f 0 = 0) (h0 : 0 < f 1) (h1 : f 1 < 1000003) : 0 < rvs f s 1 := by
  refine Nat.pos_of_ne_zero (fun h => ?_)
  have e := (rvs_slv hs hs2 f0 h0 h1).2 1 (by omega)
  have e2 : zi (zN (rvs f s)) (zN f) 1 = 0 := zz_zero (fun k hk => by
    rcases (show k = 0 ∨ k = 1 by omega) with rfl | rfl
    · rw [zN_0 (rvs_0 f s), Int.zero_mul]
    · rw [show zN (rvs f s) 1 = 0 from by unfold zN; rw [h]; rfl, Int.zero_mul])
  rw [e2] at e
  exact absurd (show (0 : Int) % 1000003 = zt 1 % 1000003 from e) (by decide)
theorem zm_shift {a r : Nat → Int} (h : r 0 = 0) (i : Nat) : zm a r (i + 1) = zm a (zs r) i := zm_w h i
/-- f is t A(f), for what makes t with the reverse -/
theorem A_of {f a : Nat → Nat} {s : Nat} (hs : 2 ≤ s) (hs2 : s ≤ 10) (f0 : f 0 = 0) (h0 : 0 < f 1) (h1 : f 1 < 1000003) (ha : ∀ i, i < s - 1 → a i = dv oneS (uu (rvs f s) s) i) {i : Nat} (hi : i < s - 1) : Cg (zi (zN a) (zN f) i) (zN f (i + 1)) := by
  have hq := q_u (f := rvs f s) hs (r_zs hs hs2 f0 h0 h1) (rvs_lt _ _ _)
  have R0 := zN_0 (rvs_0 f s)
  have e1 : ∀ k, k ≤ s - 1 → Cg (zm (zN a) (zN (rvs f s)) k) (zt k) := by
    intro k hk
    cases k with
    | zero => rw [zm_0, R0, Int.mul_zero]; exact Cg.rf _
    | succ k =>
      rw [zm_shift R0]
      refine Cg.tr (Cg.of (zm_congr (fun m hm => ?_) (fun _ _ => rfl))) ((hq k (by omega)).tr (Cg.of ?_))
      · unfold zN
        rw [ha m (by omega)]
      · unfold z1 zt
        by_cases e : k = 0
        · rw [if_pos e, if_pos (by omega)]
        · rw [if_neg e, if_neg (by omega)]
  have e2 : Cg (zi (zm (zN a) (zN (rvs f s))) (zN f) (i + 1)) (zN f (i + 1)) := by
    refine (Cg.cm (x' := zt) (fun k hk => e1 k (by omega)) (fun _ _ => Cg.rf _)).tr (Cg.of ?_)
    exact zi_zt (zN_0 f0) _
  rw [zi_mul (zN_0 f0)] at e2
  refine Cg.tr ?_ e2
  refine Cg.sy ((Cg.cv (a := zi (zN a) (zN f)) (a' := zi (zN a) (zN f)) (b' := zt) (fun _ _ => Cg.rf _) (fun k hk => (rvs_slv hs hs2 f0 h0 h1).2 k (by omega))).tr (Cg.of ?_))
  rw [zm_comm, zm_zt]
def nxm (A : Nat → Nat → Nat) (i j : Nat) : Nat := A (i + 1) j
theorem prod_1 {g f : Nat → Nat} {s : Nat} (hs : 2 ≤ s) (hs2 : s ≤ 10) (hg : ∀ i, i < s → g i < 1000003) (g0 : 0 < g 0) (f0 : f 0 = 0) (h0 : 0 < f 1) (h1 : f 1 < 1000003) {i : Nat} (hi : i < s - 1) : slv (cm s g f) (nxm (cm s g f)) i 1 = prA s f i := by
  have pa : ∀ i, i < s - 1 → prA s f i = dv oneS (uu (rvs f s) s) i := fun i hi => by unfold prA; rw [if_neg (by omega)]
  refine slv_uni (s := s - 1) (X := prA s f) (fun i hi => cm_diag g0 (hg 0 (by omega)) f0 h0 h1 (by omega) (hg i (by omega))) (fun i hi => ?_) (fun i hi => by rw [pa i hi]; exact dv_lt _ _ _) i hi
  have e1 : Cg (zz (fun k => ((cm s g f i k * prA s f k : Nat) : Int)) (i + 1)) (zm (zN g) (zi (zN (prA s f)) (zN f)) i) := by
    rw [zm_zi (zN_0 f0) (zN (prA s f)) (zN g) (Nat.lt_succ_self i)]
    refine Cg.sm (fun k hk => ?_)
    rw [Int.natCast_mul, Int.mul_comm]
    exact Cg.mul (Cg.rf _) (col_cg k (by omega))
  refine e1.tr ?_
  refine Cg.sy ((col_cg (s := s) (g := g) (f := f) 1 (show i + 1 < s by omega)).tr ?_)
  have e2 : zm (zN g) (zp (zN f) 1) (i + 1) = zm (zN g) (zs (zN f)) i := by
    rw [show zm (zN g) (zp (zN f) 1) (i + 1) = zm (zN g) (zN f) (i + 1) from zm_congr (fun _ _ => rfl) (fun k _ => zm_z1 (zN f) k)]
    exact zm_shift (zN_0 f0) i
  rw [e2]
  exact Cg.cv (fun _ _ => Cg.rf _) (fun k hk => (A_of hs hs2 f0 h0 h1 pa (show k < s - 1 by omega)).sy)
theorem prA_0 {f : Nat → Nat} {s : Nat} (hs : 2 ≤ s) (hs2 : s ≤ 10) (f0 : f 0 = 0) (h0 : 0 < f 1) (h1 : f 1 < 1000003) : prA s f 0 = f 1 := by
  have pa : ∀ i, i < s - 1 → prA s f i = dv oneS (uu (rvs f s) s) i := fun i hi => by unfold prA; rw [if_neg (by omega)]
  have e := A_of hs hs2 f0 h0 h1 pa (show 0 < s - 1 by omega)
  rw [zi_0] at e
  exact Cg_nat (by rw [pa 0 (by omega)]; exact dv_lt _ _ _) h1 e
theorem prod_0 {g f : Nat → Nat} {s : Nat} (hs : 2 ≤ s) (hs2 : s ≤ 10) (hg : ∀ i, i < s → g i < 1000003) (g0 : 0 < g 0) (f0 : f 0 = 0) (h0 : 0 < f 1) (h1 : f 1 < 1000003) {i : Nat} (hi : i < s - 1) : slv (cm s g f) (nxm (cm s g f)) i 0 = prZ s g f i := by
  have gr0 : hn g (rvs f s) s s 0 = g 0 := hn_0 (by omega)
  have R0 := zN_0 (rvs_0 f s)
  have r1 := r_zs hs hs2 f0 h0 h1
  have pz : ∀ i, i < s - 1 → prZ s g f i = dv (fun i => if i < s - 1 then sb 0 (zq s g f (i + 1)) else zq s g f i) (uu (rvs f s) s) i := fun i hi => by unfold prZ; rw [if_neg (by omega)]
  refine slv_uni (s := s - 1) (X := prZ s g f) (fun i hi => cm_diag g0 (hg 0 (by omega)) f0 h0 h1 (by omega) (hg i (by omega))) (fun i hi => ?_) (fun i hi => by rw [pz i hi]; exact dv_lt _ _ _) i hi
  have e1 : Cg (zz (fun k => ((cm s g f i k * prZ s g f k : Nat) : Int)) (i + 1)) (zm (zN g) (zi (zN (prZ s g f)) (zN f)) i) := by
    rw [zm_zi (zN_0 f0) (zN (prZ s g f)) (zN g) (Nat.lt_succ_self i)]
    refine Cg.sm (fun k hk => ?_)
    rw [Int.natCast_mul, Int.mul_comm]
    exact Cg.mul (Cg.rf _) (col_cg k (by omega))
  refine e1.tr ?_
  -- zq makes g0 with g(r)
  have zqm : ∀ k, k < s → Cg (zm (zN (zq s g f)) (zN (hn g (rvs f s) s s)) k) (zN g 0 * z1 k) := by
    intro k hk
    have := dv_cg (x := fun j => if j = 0 then g 0 else 0) (y := hn g (rvs f s) s s) (by rw [gr0]; exact g0) (by rw [gr0]; exact hg 0 (by omega)) k
    refine this.tr (Cg.of ?_)
    show ((if k = 0 then g 0 else 0 : Nat) : Int) = _
    unfold z1 zN
    by_cases e : k = 0
    · rw [if_pos e, if_pos e, Int.mul_one]
    · rw [if_neg e, if_neg e, Int.mul_zero]; rfl
  have zq0 : zq s g f 0 = 1 := by
    refine Cg_nat (dv_lt _ _ _) (by decide) (Cg_can (a := g 0) g0 (hg 0 (by omega)) ?_)
    have := zqm 0 (by omega)
    rw [zm_0] at this
    rw [show zN (hn g (rvs f s) s s) 0 = (g 0 : Int) from by unfold zN; rw [gr0]] at this
    refine this.tr (Cg.of ?_)
    show (g 0 : Int) * 1 = 1 * (g 0 : Int)
    omega
  -- zq(f) by g is g0
  have zqf : ∀ k, k < s → Cg (zm (zi (zN (zq s g f)) (zN f)) (zN g) k) (zN g 0 * z1 k) := by
    intro k hk
    refine (Cg.cv (a := zi (zN (zq s g f)) (zN f)) (a' := zi (zN (zq s g f)) (zN f)) (fun _ _ => Cg.rf _) (fun m hm => (gr_f (s := s) hs hs2 f0 h0 h1 (show m < s by omega)).sy)).tr ?_
    rw [← zi_mul (zN_0 f0)]
    refine (Cg.cm (x' := fun k => zN g 0 * z1 k) (fun m hm => zqm m (by omega)) (fun _ _ => Cg.rf _)).tr (Cg.of ?_)
    rw [zi_smul, zi_z1 (zN_0 f0)]
  -- Z by r is 1 less zq
  have zr : ∀ k, k < s → Cg (zm (zN (prZ s g f)) (zN (rvs f s)) k) (z1 k - zN (zq s g f) k) := by
    intro k hk
    cases k with
    | zero =>
      rw [zm_0, R0, Int.mul_zero]
      refine Cg.of ?_
      show 0 = 1 - ((zq s g f 0 : Nat) : Int)
      rw [zq0]
      rfl
    | succ k =>
      have e0 : uu (rvs f s) s 0 = rvs f s 1 := uu_t (by omega)
      have e2 := dv_cg (x := fun i => if i < s - 1 then sb 0 (zq s g f (i + 1)) else zq s g f i) (y := uu (rvs f s) s) (by rw [e0]; exact r1) (by rw [e0]; exact rvs_lt _ _ _) k
      rw [zm_shift R0]
      refine Cg.tr (Cg.of (zm_congr (fun m hm => ?_) (fun m hm => ?_))) (e2.tr ?_)
      · unfold zN
        rw [pz m (by omega)]
      · show zN (rvs f s) (m + 1) = zN (uu (rvs f s) s) m
        unfold zN
        rw [uu_t (by omega)]
      · show Cg ((if k < s - 1 then sb 0 (zq s g f (k + 1)) else zq s g f k : Nat) : Int) _
        rw [if_pos (by omega)]
        refine (sb_cg 0 (Nat.le_of_lt (dv_lt _ _ _))).tr (Cg.of ?_)
        rw [z1, if_neg (by omega)]
        rfl
  -- t Z(f) is 1 less zq(f)
  have zt' : ∀ k, k < s → Cg (zm zt (zi (zN (prZ s g f)) (zN f)) k) (z1 k - zi (zN (zq s g f)) (zN f) k) := by
    intro k hk
    have e3 : Cg (zi (zm (zN (prZ s g f)) (zN (rvs f s))) (zN f) k) (z1 k - zi (zN (zq s g f)) (zN f) k) := by
      refine (Cg.cm (x' := fun k => z1 k + (-1) * zN (zq s g f) k) (fun m hm => (zr m (by omega)).tr (Cg.of (by omega))) (fun _ _ => Cg.rf _)).tr (Cg.of ?_)
      rw [zi_add, zi_smul, zi_z1 (zN_0 f0)]
      omega
    rw [zi_mul (zN_0 f0)] at e3
    refine Cg.tr ?_ e3
    rw [zm_comm]
    exact Cg.cv (fun _ _ => Cg.rf _) (fun m hm => ((rvs_slv hs hs2 f0 h0 h1).2 m (by omega)).sy)
  -- by g
  have e4 : Cg (zm (zN g) (zm zt (zi (zN (prZ s g f)) (zN f))) (i + 1)) (zN g (i + 1)) := by
    refine (Cg.cv (a := zN g) (a' := zN g) (b' := fun k => z1 k + (-1) * zi (zN (zq s g f)) (zN f) k) (fun _ _ => Cg.rf _) (fun m hm => (zt' m (by omega)).tr (Cg.of (by omega)))).tr ?_
    rw [zm_addr, zm_smulr, zm_e0r, zm_comm]
    refine (Cg.add (Cg.rf _) (Cg.mul (Cg.rf (-1)) (zqf (i + 1) (by omega)))).tr (Cg.of ?_)
    rw [z1, if_neg (by omega), Int.mul_zero, Int.mul_zero, Int.add_zero]
  have e5 : zm (zN g) (zm zt (zi (zN (prZ s g f)) (zN f))) (i + 1) = zm (zN g) (zi (zN (prZ s g f)) (zN f)) i := by
    rw [← zm_assoc, zm_congr (fun k _ => zm_comm (zN g) zt k) (fun _ _ => rfl), zm_assoc, zm_zt]
  rw [e5] at e4
  exact e4
/-- the production, by the class's rows -/
theorem prod_eq (c : Nat → Nat → Nat) (i j : Nat) : slv (fun i j => c j i) (nxm (fun i j => c j i)) i j = pdc c j i := by
  induction i using Nat.strongRecOn with
  | _ i ih =>
    rw [slv_eq, pdc_eq]
    congr 2
    have e : (ps c (pdc c j) i i : Int) = zz (fun k => ((c k i * slv (fun i j => c j i) (nxm (fun i j => c j i)) k j : Nat) : Int)) i := by
      have : ∀ m, m ≤ i → (ps c (pdc c j) i m : Int) = zz (fun k => ((c k i * slv (fun i j => c j i) (nxm (fun i j => c j i)) k j : Nat) : Int)) m := by
        intro m
        induction m with
        | zero => exact fun _ => rfl
        | succ m ih2 => exact fun hm => by rw [ps, Int.natCast_add, ih2 (by omega), zz, ih m (by omega)]
      exact this i (Nat.le_refl _)
    rw [← e, sb_rst _ (Nat.le_of_lt (Nat.mod_lt _ (by decide)))]
    exact rst_eq (Cg.sub (Cg.rf _) (Cg_md _).sy)
