/-! Modulo the prime: what has an inverse; rows as series -/
theorem Cg_iff {a b : Int} : Cg a b ↔ (1000003 : Int) ∣ a - b := by
  unfold Cg
  rw [Int.emod_eq_emod_iff_emod_sub_eq_zero, Int.dvd_iff_emod_eq_zero]
theorem pr_can {x : Int} {a : Nat} (h0 : 0 < a) (h1 : a < 1000003) (h : (1000003 : Int) ∣ x * a) : (1000003 : Int) ∣ x := by
  have h2 : ((1000003 : Nat) : Int) ∣ x * a := h
  rw [Int.ofNat_dvd_left, Int.natAbs_mul, Int.natAbs_natCast] at h2
  have h3 := (pr_cop h0 h1).dvd_of_dvd_mul_right h2
  exact (Int.ofNat_dvd_left (n := 1000003) (z := x)).mpr h3
theorem Cg_can {a : Nat} {b c : Int} (h0 : 0 < a) (h1 : a < 1000003) (h : Cg (b * a) (c * a)) : Cg b c := by
  rw [Cg_iff] at h ⊢
  rw [← Int.sub_mul] at h
  exact pr_can h0 h1 h
theorem pow_s (a : Int) (e : Nat) : a ^ (e + 1) = a ^ e * a := Int.pow_succ a e
theorem fermat2 {a : Nat} (h0 : 0 < a) (h1 : a < 1000003) : Cg ((a : Int) ^ 1000002) 1 := by
  refine Cg_can (a := a) h0 h1 ?_
  have h := fermat1 a
  rw [Int.one_mul]
  exact (Cg.of (pow_s (a : Int) 1000002).symm).tr h
theorem nv_inv {a : Nat} (h0 : 0 < a) (h1 : a < 1000003) : Cg ((nv a : Int) * a) 1 := by
  have e : Cg (nv a : Int) ((a : Int) ^ 1000001) := by
    unfold nv
    refine (Cg_md _).tr (Cg.of ?_)
    exact Int.natCast_pow a 1000001
  exact ((Cg.mul e (Cg.rf _)).tr (Cg.of (pow_s (a : Int) 1000001).symm)).tr (fermat2 h0 h1)
def zN (x : Nat → Nat) (n : Nat) : Int := (x n : Int)
theorem sb_cg (x : Nat) {y : Nat} (h : y ≤ 1000003) : Cg (sb x y : Nat) ((x : Int) - y) := by
  rw [sb_rst x h]
  exact Cg_rst _
theorem cs_zm (x y : Nat → Nat) (i k : Nat) : (cs x y i k : Int) = zz (fun t => zN x t * zN y (i - t)) k := by
  rw [cs_zz]
  exact zz_congr (fun t _ => Int.natCast_mul _ _)
theorem cf_cg (x y : Nat → Nat) (i : Nat) : Cg (cf x y i : Nat) (zm (zN x) (zN y) i) := by
  unfold cf
  refine (Cg_md _).tr (Cg.of ?_)
  rw [cs_zm]
  rfl
theorem zm_last (a b : Nat → Int) (i : Nat) : zm a b i = zz (fun t => a t * b (i - t)) i + a i * b 0 := by
  unfold zm
  rw [zz, Nat.sub_self]
theorem dv_cg {x y : Nat → Nat} (h0 : 0 < y 0) (h1 : y 0 < 1000003) (i : Nat) : Cg (zm (zN (dv x y)) (zN y) i) (x i) := by
  rw [zm_last]
  have e : Cg (zN (dv x y) i * zN y 0) ((x i : Int) - zz (fun t => zN (dv x y) t * zN y (i - t)) i) := by
    have a1 : Cg (zN (dv x y) i) (((x i : Int) - zz (fun t => zN (dv x y) t * zN y (i - t)) i) * (nv (y 0) : Int)) := by
      unfold zN
      rw [dv_eq]
      refine (Cg_md _).tr ?_
      rw [Int.natCast_mul]
      refine Cg.mul ?_ (Cg.rf _)
      refine (sb_cg _ (Nat.le_of_lt (Nat.mod_lt _ (by decide)))).tr (Cg.sub (Cg.rf _) ?_)
      refine (Cg_md _).tr (Cg.of ?_)
      rw [cs_zm]
      rfl
    refine (Cg.mul a1 (Cg.rf (zN y 0))).tr ?_
    rw [Int.mul_assoc]
    refine (Cg.mul (Cg.rf _) (nv_inv h0 h1)).tr (Cg.of (Int.mul_one _))
  refine (Cg.add (Cg.rf _) e).tr (Cg.of ?_)
  omega
theorem dv_uni {x y : Nat → Nat} {q : Nat → Int} {n : Nat} (h0 : 0 < y 0) (h1 : y 0 < 1000003) (h : ∀ j, j ≤ n → Cg (zm q (zN y) j) (x j)) : ∀ j, j ≤ n → Cg (q j) (dv x y j : Nat) := by
  intro j
  induction j using Nat.strongRecOn with
  | _ j ih =>
    intro hj
    refine Cg_can (a := y 0) h0 h1 ?_
    have e1 := (h j hj).tr (dv_cg (x := x) (y := y) h0 h1 j).sy
    rw [zm_last, zm_last (zN (dv x y))] at e1
    have e2 : Cg (zz (fun t => q t * zN y (j - t)) j) (zz (fun t => zN (dv x y) t * zN y (j - t)) j) := Cg.sm (fun t ht => Cg.mul (ih t ht (by omega)) (Cg.rf _))
    have e3 := Cg.sub e1 e2
    refine (Cg.of ?_).tr (e3.tr (Cg.of ?_))
    · show q j * zN y 0 = _
      omega
    · show _ = zN (dv x y) j * zN y 0
      omega
theorem Cg.f0 {f a b : Nat → Int} (h0 : f 0 = 0) {n : Nat} (h : ∀ k, k < n → Cg (a k) (b k)) : Cg (zm f a n) (zm f b n) := by
  refine Cg.sm (fun k hk => ?_)
  by_cases e : k = 0
  · rw [e, h0, Int.zero_mul, Int.zero_mul]
    exact Cg.rf 0
  · exact Cg.mul (Cg.rf _) (h (n - k) (by omega))
theorem hn_cg {x y : Nat → Nat} {s : Nat} (y0 : y 0 = 0) (d : Nat) : d ≤ s → ∀ j, j < d → Cg (hn x y s d j : Nat) (zi (fun k => zN x (s - d + k)) (zN y) j) := by
  have z0 : zN y 0 = 0 := by unfold zN; rw [y0]; rfl
  induction d with
  | zero => intro _ j hj; omega
  | succ d ih =>
    intro hd j hj
    rw [hn]
    by_cases e : j = 0
    · subst e
      rw [if_pos rfl, zi_0, show s - 1 - d = s - (d + 1) + 0 by omega]
      exact Cg.rf _
    · rw [if_neg e, if_pos hj]
      refine (cf_cg _ _ _).tr ?_
      rw [zm_comm, zi_step z0, z1, if_neg e, Int.mul_zero, Int.zero_add]
      refine Cg.f0 z0 (fun k hk => ?_)
      refine (ih (by omega) k (by omega)).tr (Cg.of (zi_congr (fun i hi => ?_) (fun _ _ => rfl)))
      show zN x (s - d + i) = zN x (s - (d + 1) + (i + 1))
      rw [show s - (d + 1) + (i + 1) = s - d + i by omega]
theorem hn_zi {x y : Nat → Nat} {s j : Nat} (y0 : y 0 = 0) (hj : j < s) : Cg (hn x y s s j : Nat) (zi (zN x) (zN y) j) := by
  refine (hn_cg y0 s (Nat.le_refl _) j hj).tr (Cg.of (zi_congr (fun k _ => ?_) (fun _ _ => rfl)))
  rw [Nat.sub_self, Nat.zero_add]
theorem col_cg {s : Nat} {g f : Nat → Nat} (j : Nat) {i : Nat} (hi : i < s) : Cg (col s g f j i : Nat) (zm (zN g) (zp (zN f) j) i) := by
  induction j generalizing i with
  | zero =>
    refine Cg.of ?_
    exact (zm_e0r (zN g) i).symm
  | succ j ih =>
    show Cg (ml s (col s g f j) f i : Nat) _
    rw [ml_t hi]
    refine (cf_cg _ _ _).tr ?_
    refine (Cg.cv (b := zN f) (b' := zN f) (fun k hk => ih (i := k) (by omega)) (fun k _ => Cg.rf _)).tr (Cg.of ?_)
    exact zm_assoc _ _ _ i
theorem mulG_cg {s : Nat} {sg sf tg : Nat → Nat} (s0 : sf 0 = 0) {i : Nat} (hi : i < s) : Cg (mulG s sg sf tg i : Nat) (zm (zN sg) (zi (zN tg) (zN sf)) i) := by
  unfold mulG
  rw [ml_t hi]
  refine (cf_cg _ _ _).tr ?_
  rw [zm_comm]
  exact Cg.cv (fun k _ => Cg.rf _) (fun k hk => hn_zi s0 (by omega))
theorem mulF_cg {s : Nat} {sf tf : Nat → Nat} (s0 : sf 0 = 0) {i : Nat} (hi : i < s) : Cg (mulF s sf tf i : Nat) (zi (zN tf) (zN sf) i) := hn_zi s0 hi
theorem zN_0 {f : Nat → Nat} (h : f 0 = 0) : zN f 0 = 0 := by unfold zN; rw [h]; rfl
theorem zm_low {g a : Nat → Int} {n : Nat} (h : ∀ k, k ≤ n → a k = 0) : zm g a n = 0 := zz_zero (fun k hk => by rw [h (n - k) (by omega), Int.mul_zero])
theorem col_up {s : Nat} {g f : Nat → Nat} (h0 : f 0 = 0) {i j : Nat} (hij : i < j) (hi : i < s) (hg : g i < 1000003) : col s g f j i = 0 := by
  refine Cg_nat (col_lt hg j) (by decide) ((col_cg j hi).tr (Cg.of ?_))
  exact zm_low (fun k hk => zp_low (zN_0 h0) j k (by omega))
theorem Cg_eq {a b : Nat} {z : Int} (ha : a < 1000003) (hb : b < 1000003) (h1 : Cg a z) (h2 : Cg b z) : a = b := Cg_nat ha hb (h1.tr h2.sy)
theorem zz_cm {s : Nat} {g f x : Nat → Nat} (h0 : f 0 = 0) {i : Nat} (hi : i < s) : Cg (zz (fun k => ((cm s g f i k * x k : Nat) : Int)) s) (zm (zN g) (zi (zN x) (zN f)) i) := by
  rw [zm_zi (zN_0 h0) (zN x) (zN g) hi]
  refine Cg.sm (fun k hk => ?_)
  rw [Int.natCast_mul, Int.mul_comm]
  exact Cg.mul (Cg.rf _) (col_cg k hi)
theorem mulG_lt {s : Nat} {sg sf tg : Nat → Nat} {i : Nat} (hi : i < s) : mulG s sg sf tg i < 1000003 := by
  unfold mulG
  rw [ml_t hi]
  exact cf_lt _ _ _
/-- what a matrix makes of a row is what the table makes of it -/
theorem mk_mul {s : Nat} {g f x : Nat → Nat} (h0 : f 0 = 0) {i : Nat} (hi : i < s) : mk s (cm s g f) x i = mulG s g f x i := by
  refine Cg_eq (rst_lt _) (mulG_lt hi) ((Cg_rst _).tr (zz_cm h0 hi)) (mulG_cg h0 hi)
theorem zN_one (i : Nat) : zN oneS i = z1 i := by
  unfold zN oneS z1
  split <;> rfl
theorem zN_t (i : Nat) : zN tS i = zt i := by
  unfold zN tS zt
  split <;> rfl
theorem mk_one {s : Nat} {f x : Nat → Nat} (h0 : f 0 = 0) {i : Nat} (hi : i < s) (hx : ∀ i, i < 10 → x i < 1000003) (hs : s ≤ 10) : mk s (cm s oneS f) x i = hn x f s s i := by
  refine Cg_eq (rst_lt _) (hn_lt hx hs s i) ((Cg_rst _).tr (zz_cm h0 hi)) ((hn_zi h0 hi).tr (Cg.of ?_))
  rw [zm_congr (fun k _ => zN_one k) (fun _ _ => rfl), zm_z1]
/-- products -/
theorem pm_mul {s : Nat} {sg sf tg tf : Nat → Nat} (h0 : sf 0 = 0) (h1 : tf 0 = 0) {i j : Nat} (hi : i < s) (hj : j < s) : pm s (cm s sg sf) (cm s tg tf) i j = cm s (mulG s sg sf tg) (mulF s sf tf) i j := by
  have hF : mulF s sf tf 0 = 0 := by
    unfold mulF
    obtain ⟨d, rfl⟩ : ∃ d, s = d + 1 := ⟨s - 1, by omega⟩
    rw [hn, if_pos rfl, show d + 1 - 1 - d = 0 by omega]
    exact h1
  have e1 : pm s (cm s sg sf) (cm s tg tf) i j = mk s (cm s sg sf) (col s tg tf j) i := rfl
  rw [e1]
  refine Cg_eq (z := zm (zm (zN sg) (zi (zN tg) (zN sf))) (zp (zi (zN tf) (zN sf)) j) i) (rst_lt _) (col_lt (mulG_lt hi) j) ?_ ?_
  · refine (Cg_rst _).tr ((zz_cm h0 hi).tr ?_)
    refine (Cg.cv (a := zN sg) (a' := zN sg) (b' := zi (zm (zN tg) (zp (zN tf) j)) (zN sf)) (fun k _ => Cg.rf _) (fun k hk => Cg.cm (fun m hm => col_cg j (by omega)) (fun _ _ => Cg.rf _))).tr (Cg.of ?_)
    rw [zm_assoc]
    refine zm_congr (fun _ _ => rfl) (fun k _ => ?_)
    rw [zi_mul (zN_0 h0)]
    exact zm_congr (fun _ _ => rfl) (fun m _ => zi_zp (zN_0 h0) _ j m)
  · refine (col_cg j hi).tr ?_
    exact Cg.cv (fun k hk => mulG_cg h0 (by omega)) (fun k hk => Cg.pw (n := k) (fun m hm => mulF_cg h0 (by omega)) j k (Nat.le_refl _))
