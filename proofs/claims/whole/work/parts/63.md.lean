/-! The reference: residues, products, quotients -/
def rst (z : Int) : Nat := (z % 1000003).toNat
theorem rst_lt (z : Int) : rst z < 1000003 := by unfold rst; omega
theorem rst_eq {a b : Int} (h : Cg a b) : rst a = rst b := by
  unfold Cg at h
  unfold rst
  rw [h]
theorem Cg_rst (z : Int) : Cg (rst z : Nat) z := by
  unfold Cg rst
  omega
theorem rst_nat (n : Nat) : rst n = n % 1000003 := by
  unfold rst
  omega
theorem rst_id {n : Nat} (h : n < 1000003) : rst n = n := by
  rw [rst_nat, Nat.mod_eq_of_lt h]
theorem sb_rst (x : Nat) {y : Nat} (h : y ≤ 1000003) : sb x y = rst ((x : Int) - y) := by
  unfold sb rst
  omega
theorem lZ_nat {a : Int} (h : 0 ≤ a) : lZ a = lN a.toNat := by rw [lN_Z, Int.toNat_of_nonneg h]
theorem lr_eq {z : Int} (h1 : -4611686018427387904 < z) (h2 : z < 4611686018427387904) : lZ z - lZ z / lN 1000003 * lN 1000003 = lZ (z.tmod 1000003) := by
  rw [lN_Z]
  unfold lZ
  rw [← Int64.ofInt_tdiv (a := z) (b := ((1000003 : Nat) : Int)) (by rw [show Int64.minValue.toInt = -9223372036854775808 from by decide]; omega) (by rw [show Int64.maxValue.toInt = 9223372036854775807 from by decide]; omega) (by decide) (by decide), ← Int64.ofInt_mul, ← Int64.ofInt_sub]
  congr 1
  show z - z.tdiv 1000003 * 1000003 = z.tmod 1000003
  have := Int.tdiv_mul_add_tmod z 1000003
  omega
theorem i_lZ (v : Int32) : v.toInt64 = lZ v.toInt := by
  unfold lZ
  exact (Int64.ofInt_int32ToInt v).symm
def OKs (M : Mem) (a s : Nat) (x : Nat → Nat) : Prop := ∀ j, j < s → M a j = nI (x j) ∧ x j < 1000003
theorem OKs.kept {M M' : Mem} {a s : Nat} {x : Nat → Nat} (h : OKs M a s x) (e : M' a = M a) : OKs M' a s x := fun j hj => by rw [e]; exact h j hj
theorem OKs.le {M : Mem} {a s s' : Nat} {x : Nat → Nat} (h : OKs M a s x) (e : s' ≤ s) : OKs M a s' x := fun j hj => h j (by omega)
theorem OKs.to {M : Mem} {a s : Nat} {x x' : Nat → Nat} (h : OKs M a s x) (e : ∀ j, j < s → x j = x' j) : OKs M a s x' := fun j hj => by rw [← e j hj]; exact h j hj
/-- a row of the reference's: its first ones are told, nothing else has changed -/
def MW (M : Mem) (c s : Nat) (w : Nat → Nat) (M' : Mem) : Prop := (∀ b, b ≠ c → M' b = M b) ∧ ∀ j, j < s → M' c j = nI (w j)
theorem MW.z (M : Mem) (c : Nat) (w : Nat → Nat) : MW M c 0 w M := ⟨fun _ _ => rfl, fun j hj => absurd hj (Nat.not_lt_zero j)⟩
theorem MW.up {M M1 : Mem} {c k v : Nat} {w : Nat → Nat} (h : MW M c k w M1) (e : v = w k) : MW M c (k + 1) w (upm M1 c k (nI v)) := by
  subst e
  refine ⟨fun b hb => by rw [upm_ne _ _ _ hb]; exact h.1 b hb, fun j hj => ?_⟩
  rw [upm_at]
  by_cases q : j = k
  · rw [if_pos q, q]
  · rw [if_neg q]
    exact h.2 j (by omega)
theorem MW.ok {M M' : Mem} {c s : Nat} {w : Nat → Nat} (h : MW M c s w M') (hw : ∀ j, j < s → w j < 1000003) : OKs M' c s w := fun j hj => ⟨h.2 j hj, hw j hj⟩
theorem MW.okn {M M' : Mem} {a c s s' : Nat} {w x : Nat → Nat} (h : MW M c s w M') (hx : OKs M a s' x) (e : a ≠ c) : OKs M' a s' x := hx.kept (h.1 a e)
/-- sums of residues -/
def sn (F : Nat → Nat) : Nat → Nat
  | 0 => 0
  | k + 1 => sn F k + F k % 1000003
theorem sn_le (F : Nat → Nat) (k : Nat) : sn F k ≤ k * 1000003 := by
  induction k with
  | zero => exact Nat.zero_le _
  | succ k ih =>
    have := Nat.mod_lt (F k) (show 1000003 > 0 by decide)
    rw [sn]
    omega
theorem sn_cg (F : Nat → Nat) (k : Nat) : Cg (sn F k) (zz (fun t => (F t : Int)) k) := by
  induction k with
  | zero => exact Cg.rf 0
  | succ k ih =>
    rw [sn, Int.natCast_add, zz]
    exact Cg.add ih (Cg_md (F k))
theorem cs_zz (x y : Nat → Nat) (i k : Nat) : (cs x y i k : Int) = zz (fun t => ((x t * y (i - t) : Nat) : Int)) k := by
  induction k with
  | zero => rfl
  | succ k ih => rw [cs, Int.natCast_add, ih, zz]
theorem cf_rst (x y : Nat → Nat) (i : Nat) : cf x y i = rst (zz (fun t => ((x t * y (i - t) : Nat) : Int)) (i + 1)) := by
  rw [← cs_zz, rst_nat, cf]
theorem sn_cf (x y : Nat → Nat) (i : Nat) : rst (sn (fun t => x t * y (i - t)) (i + 1) : Nat) = cf x y i := by
  rw [cf_rst]
  exact rst_eq (sn_cg _ _)
def dz (x y w : Nat → Nat) (i : Nat) : Nat → Int
  | 0 => (x i : Nat)
  | k + 1 => dz x y w i k - ((y (k + 1) * w (i - (k + 1)) % 1000003 : Nat) : Int)
theorem dz_st {r : Int} {q k : Nat} (h1 : q < 1000003) (h2 : -((k : Int) * 1000003) ≤ r) (h3 : r < 1000003) : -(((k + 1 : Nat) : Int) * 1000003) ≤ r - (q : Int) ∧ r - (q : Int) < 1000003 := by omega
theorem dz_bd {x y w : Nat → Nat} {i k : Nat} (hx : x i < 1000003) : -((k : Int) * 1000003) ≤ dz x y w i k ∧ dz x y w i k < 1000003 := by
  induction k with
  | zero => rw [dz]; omega
  | succ k ih =>
    rw [dz]
    exact dz_st (Nat.mod_lt _ (by decide)) ih.1 ih.2
theorem dz_cg (x y w : Nat → Nat) (i k : Nat) : Cg (dz x y w i k) ((x i : Int) - zz (fun t => ((y (t + 1) * w (i - (t + 1)) : Nat) : Int)) k) := by
  induction k with
  | zero => rw [dz, zz, Int.sub_zero]; exact Cg.rf _
  | succ k ih =>
    rw [dz, zz]
    have := Cg.sub ih (Cg_md (y (k + 1) * w (i - (k + 1))))
    refine this.tr (Cg.of ?_)
    omega
theorem dz_cs (x y w : Nat → Nat) (i : Nat) : rst (dz x y w i i) = sb (x i) (cs w y i i % 1000003) := by
  rw [sb_rst _ (Nat.le_of_lt (Nat.mod_lt _ (by decide)))]
  refine rst_eq ((dz_cg x y w i i).tr (Cg.sub (Cg.rf _) (Cg.sy ?_)))
  refine (Cg_md _).tr (Cg.of ?_)
  rw [cs_zz]
  cases i with
  | zero => rfl
  | succ m =>
    rw [← zz_rev]
    refine zz_congr (fun k hk => ?_)
    rw [show m + 1 - (m - k) = k + 1 by omega, show m + 1 - (k + 1) = m - k by omega, Nat.mul_comm]
theorem dz_dv (x y : Nat → Nat) (i : Nat) : rst (dz x y (dv x y) i i) * nv (y 0) % 1000003 = dv x y i := by
  rw [dz_cs, ← dv_eq]
theorem tu_bit : ∀ k, k < 20 → nI (1000001 / 2 ^ k) &&& nI 1 = nI (1000001 / 2 ^ k % 2) := by decide +kernel
theorem tu_sh : ∀ k, k < 20 → nI (1000001 / 2 ^ k) >>> (nI 1 &&& 31) = nI (1000001 / 2 ^ (k + 1)) := by decide +kernel
theorem tu_pos : ∀ k, k < 20 → 1000001 / 2 ^ k ≠ 0 := by decide +kernel
section RZ2
variable {o : OM} {l : Launch} {m : MD} {bg : Nat × Nat} {pc pc' pc2 tgt : Nat} {L L' : List (Option Value)} {st : List Value} {h : AH} {Q : Option Value → AH → Prop}
theorem z_cmpge0 {a : Int} (hd1 : dd m pc .lcmp 1 pc') (hd2 : db m pc' (.ifCond .ge) pc2 tgt) (ha : -4611686018427387904 < a ∧ a < 4611686018427387904) (kt : 0 ≤ a → Rn o l m bg tgt L st h Q) (kf : a < 0 → Rn o l m bg pc2 L st h Q) : Rn o l m bg pc L (.long (lN 0) :: .long (lZ a) :: st) h Q := by
  refine r_lcmp hd1 ?_
  have e0 : lN 0 = lZ 0 := lN_Z 0
  have hlt : lZ a < lZ 0 ↔ a < 0 := lZ_eq ha (by decide)
  have hgt : lZ 0 < lZ a ↔ 0 < a := lZ_eq (by decide) ha
  by_cases c : a < 0
  · refine r_top (y := -1) ?_ (r_if_ge hd2 (fun q => absurd q (by decide)) (fun _ => kf c))
    unfold lg_cmp
    rw [e0, if_neg (fun q => by have := hgt.mp q; omega), if_neg (fun q => by
      have q2 := hlt.mpr c
      rw [q] at q2
      exact Int64.lt_irrefl q2)]
  · refine r_if_ge hd2 (fun _ => kt (by omega)) (fun q => absurd ?_ q)
    unfold lg_cmp
    rw [e0]
    by_cases c2 : 0 < a
    · rw [if_pos (hgt.mpr c2)]
      decide
    · obtain rfl : a = 0 := by omega
      rw [if_neg (fun q => Int64.lt_irrefl q), if_pos rfl]
      decide
end RZ2
section C63
variable {o : OM} {l : Launch} {n : Nat} {M : Mem} {S : SS}
theorem c_Md_rest {y : Int64} {z : Int} (hy : y = lZ z) (h1 : -4611686018427387904 < z) (h2 : z < 4611686018427387904) : CI o l m_Md_rest n [.long y] M (fun r M' => r = nI (rst z) ∧ M = M') := by
  subst hy
  refine ci_of rfl rfl rfl (Nat.le_of_ble_eq_true rfl) ?_
  have h4 : (-1000003 < z.tmod 1000003 ∧ z.tmod 1000003 < 1000003) ∧ (0 ≤ z.tmod 1000003 → z.tmod 1000003 = z % 1000003) ∧ (z.tmod 1000003 < 0 → z.tmod 1000003 + 1000003 = z % 1000003) := by
    have h := Int.tmod_eq_emod (a := z) (b := 1000003)
    by_cases hd : 0 ≤ z ∨ (1000003 : Int) ∣ z
    · rw [if_pos hd] at h
      omega
    · rw [if_neg hd] at h
      have : z % 1000003 ≠ 0 := fun q => hd (Or.inr (Int.dvd_of_emod_eq_zero q))
      have e9 : ((1000003 : Int).natAbs : Int) = 1000003 := rfl
      rw [e9] at h
      omega
  obtain ⟨hb, h4⟩ := h4
  refine r_lload_n d_Md_rest_0 rfl ?_
  refine r_ldc2 (v := lN 1000003) d_Md_rest_1 c_Md_102 ?_
  refine r_lrem d_Md_rest_4 (by decide) (r_topl (lr_eq h1 h2) ?_)
  refine r_lstore_n (L' := [some (.long (lZ z)), none, some (.long (lZ (z.tmod 1000003))), none]) d_Md_rest_5 (by decide) rfl ?_
  refine r_lload_n d_Md_rest_6 rfl ?_
  refine r_lconst (v := lN 0) d_Md_rest_7 (by decide) ?_
  refine z_cmpge0 d_Md_rest_8 d_Md_rest_9 (by omega) (fun hc => ?_) (fun hc => ?_)
  · refine r_lload_n d_Md_rest_20 rfl ?_
    refine r_l2i d_Md_rest_21 (r_top (y := nI (rst z)) ?_ ?_)
    · rw [lZ_nat hc, lN_i, h4.1 hc]
      rfl
    · refine g_reti d_Md_rest_22 rfl ?_
      exact ⟨rfl, rfl⟩
  · refine r_lload_n d_Md_rest_12 rfl ?_
    refine r_ldc2 (v := lN 1000003) d_Md_rest_13 c_Md_102 ?_
    refine z_ladd d_Md_rest_16 rfl (lN_Z _) ?_
    refine r_goto d_Md_rest_17 ?_
    refine r_l2i d_Md_rest_21 (r_top (y := nI (rst z)) ?_ ?_)
    · have e : z.tmod 1000003 + ((1000003 : Nat) : Int) = z % 1000003 := h4.2 hc
      rw [e, lZ_nat (by omega), lN_i]
      rfl
    · refine g_reti d_Md_rest_22 rfl ?_
      exact ⟨rfl, rfl⟩
theorem c_Md_restN {x : Nat} (h : x < 4611686018427387904) : CI o l m_Md_rest n [.long (lN x)] M (fun r M' => r = nI (rst x) ∧ M = M') := c_Md_rest (lN_Z x) (by omega) (by omega)
theorem c_Md_restI {v : Int32} : CI o l m_Md_rest n [.long v.toInt64] M (fun r M' => r = nI (fm v) ∧ M = M') := c_Md_rest (i_lZ v) (by have := v.le_toInt; omega) (by have := v.toInt_lt; omega)
theorem c_Md_turned {x : Nat} (hx : x < 1000003) : CI o l m_Md_turned n [.long (lN x)] M (fun r M' => r = nI (nv x) ∧ M = M') := by
  refine ci_of rfl rfl rfl (Nat.le_of_ble_eq_true rfl) ?_
  refine r_lload_n d_Md_turned_0 rfl ?_
  refine r_lstore_n (L' := [some (.long (lN x)), none, some (.long (lN x)), none, none, none, none]) d_Md_turned_1 (by decide) rfl ?_
  refine r_lconst (v := lN 1) d_Md_turned_2 (by decide) ?_
  refine r_lstore (L' := [some (.long (lN x)), none, some (.long (lN x)), none, some (.long (lN 1)), none, none]) d_Md_turned_3 (by decide) rfl ?_
  refine r_ldc (v := nI 1000001) d_Md_turned_5 c_Md_104 ?_
  refine r_istore (L' := [some (.long (lN x)), none, some (.long (lN x)), none, some (.long (lN 1)), none, some (.int (nI 1000001))]) d_Md_turned_7 (by decide) rfl ?_
  suffices H : ∀ d k a q, k + d = 20 → a = x ^ (1000001 % 2 ^ k) % 1000003 → q = x ^ 2 ^ k % 1000003 → Rn o l m_Md_turned (0, 0) 9 [some (.long (lN x)), none, some (.long (lN q)), none, some (.long (lN a)), none, some (.int (nI (1000001 / 2 ^ k)))] [] (gh n M) (QI n fun r M' => r = nI (nv x) ∧ M = M') from H 20 0 1 x rfl (by simp) (by simp [Nat.mod_eq_of_lt hx])
  intro d
  induction d with
  | zero =>
    intro k a q hk ha hq
    obtain rfl : k = 20 := by omega
    refine r_iload d_Md_turned_9 rfl ?_
    refine n_if_le d_Md_turned_11 (by omega) (fun hc => ?_) (fun hc => ?_)
    · refine r_lload d_Md_turned_49 rfl ?_
      refine n_l2i d_Md_turned_51 ?_
      refine g_reti d_Md_turned_52 rfl ?_
      exact ⟨by rw [ha]; rfl, rfl⟩
    · exact absurd hc (by decide)
  | succ d ih =>
    intro k a q hk ha hq
    have ha1 : a < 1000003 := by rw [ha]; exact Nat.mod_lt _ (by decide)
    have hq1 : q < 1000003 := by rw [hq]; exact Nat.mod_lt _ (by decide)
    have he : 1000001 / 2 ^ k < 2 ^ 31 := Nat.lt_of_le_of_lt (Nat.div_le_self _ _) (by decide)
    refine r_iload d_Md_turned_9 rfl ?_
    refine n_if_le d_Md_turned_11 he (fun hc => ?_) (fun hc => ?_)
    · exact absurd hc (tu_pos k (by omega))
    · refine r_iload d_Md_turned_14 rfl ?_
      refine r_iconst (v := nI 1) d_Md_turned_16 (by decide) ?_
      refine r_iand d_Md_turned_17 ?_
      refine r_top (tu_bit k (by omega)) ?_
      refine r_iconst (v := nI 1) d_Md_turned_18 (by decide) ?_
      refine n_icmp_ne d_Md_turned_19 (by omega) (by omega) (fun hb => ?_) (fun hb => ?_)
      · refine r_lload_n d_Md_turned_32 rfl ?_
        refine r_lload_n d_Md_turned_33 rfl ?_
        refine n_lmul d_Md_turned_34 ?_
        refine r_ldc2 (v := lN 1000003) d_Md_turned_35 c_Md_102 ?_
        refine n_lrem d_Md_turned_38 (by have := pp_lt hq1 hq1; omega) (by omega) (by omega) ?_
        refine r_lstore_n (L' := [some (.long (lN x)), none, some (.long (lN ((q * q) % 1000003))), none, some (.long (lN a)), none, some (.int (nI (1000001 / 2 ^ k)))]) d_Md_turned_39 (by decide) rfl ?_
        refine r_iload d_Md_turned_40 rfl ?_
        refine r_iconst (v := nI 1) d_Md_turned_42 (by decide) ?_
        refine r_ishr d_Md_turned_43 ?_
        refine r_top (tu_sh k (by omega)) ?_
        refine r_istore (L' := [some (.long (lN x)), none, some (.long (lN ((q * q) % 1000003))), none, some (.long (lN a)), none, some (.int (nI (1000001 / 2 ^ (k + 1))))]) d_Md_turned_44 (by decide) rfl ?_
        refine r_goto d_Md_turned_46 ?_
        refine ih (k + 1) _ _ (by omega) ?_ ?_
        · rw [ha, md_bit, show 1000001 / 2 ^ k % 2 = 0 by omega]; simp
        · rw [hq]; exact pw_sq x k
      · refine r_lload d_Md_turned_22 rfl ?_
        refine r_lload_n d_Md_turned_24 rfl ?_
        refine n_lmul d_Md_turned_25 ?_
        refine r_ldc2 (v := lN 1000003) d_Md_turned_26 c_Md_102 ?_
        refine n_lrem d_Md_turned_29 (by have := pp_lt ha1 hq1; omega) (by omega) (by omega) ?_
        refine r_lstore (L' := [some (.long (lN x)), none, some (.long (lN q)), none, some (.long (lN ((a * q) % 1000003))), none, some (.int (nI (1000001 / 2 ^ k)))]) d_Md_turned_30 (by decide) rfl ?_
        refine r_lload_n d_Md_turned_32 rfl ?_
        refine r_lload_n d_Md_turned_33 rfl ?_
        refine n_lmul d_Md_turned_34 ?_
        refine r_ldc2 (v := lN 1000003) d_Md_turned_35 c_Md_102 ?_
        refine n_lrem d_Md_turned_38 (by have := pp_lt hq1 hq1; omega) (by omega) (by omega) ?_
        refine r_lstore_n (L' := [some (.long (lN x)), none, some (.long (lN ((q * q) % 1000003))), none, some (.long (lN ((a * q) % 1000003))), none, some (.int (nI (1000001 / 2 ^ k)))]) d_Md_turned_39 (by decide) rfl ?_
        refine r_iload d_Md_turned_40 rfl ?_
        refine r_iconst (v := nI 1) d_Md_turned_42 (by decide) ?_
        refine r_ishr d_Md_turned_43 ?_
        refine r_top (tu_sh k (by omega)) ?_
        refine r_istore (L' := [some (.long (lN x)), none, some (.long (lN ((q * q) % 1000003))), none, some (.long (lN ((a * q) % 1000003))), none, some (.int (nI (1000001 / 2 ^ (k + 1))))]) d_Md_turned_44 (by decide) rfl ?_
        refine r_goto d_Md_turned_46 ?_
        refine ih (k + 1) _ _ (by omega) ?_ ?_
        · rw [ha, hq, pw_step, md_bit, hb, Nat.mul_one]
        · rw [hq]; exact pw_sq x k
theorem c_Md_multiplies {a b c s : Nat} {x y : Nat → Nat} (ha : gT a = (1, 10)) (hb : gT b = (1, 10)) (hc : gT c = (1, 10)) (hac : a ≠ c) (hbc : b ≠ c) (hs : s ≤ 10) (hx : OKs M a s x) (hy : OKs M b s y) : CV o l m_Md_multiplies n [.ref a, .ref b, .ref c, .int (nI s)] M (fun M' => MW M c s (cf x y) M') := by
  refine cvo_of rfl rfl rfl (Nat.le_of_ble_eq_true rfl) ?_
  refine r_iconst (v := nI 0) d_Md_multiplies_0 (by decide) ?_
  refine r_istore (L' := [some (.ref a), some (.ref b), some (.ref c), some (.int (nI s)), some (.int (nI 0)), none, none, none]) d_Md_multiplies_1 (by decide) rfl ?_
  suffices H : ∀ d k M1 u1 u2, k + d = s → MW M c k (cf x y) M1 → Rn o l m_Md_multiplies (0, 0) 3 [some (.ref a), some (.ref b), some (.ref c), some (.int (nI s)), some (.int (nI k)), u1, none, u2] [] (gh n M1) (QV n fun M' => MW M c s (cf x y) M') from H s 0 M _ _ (by omega) (MW.z M c _)
  intro d
  induction d with
  | zero =>
    intro k M1 u1 u2 hk h1
    obtain rfl : k = s := by omega
    refine r_iload d_Md_multiplies_3 rfl ?_
    refine r_iload_n d_Md_multiplies_5 rfl ?_
    refine n_icmp_ge d_Md_multiplies_6 (by omega) (by omega) (fun hc2 => ?_) (fun hc2 => ?_)
    · refine g_retv d_Md_multiplies_66 rfl ?_
      exact h1
    · omega
  | succ d ih =>
    intro k M1 u1 u2 hk h1
    refine r_iload d_Md_multiplies_3 rfl ?_
    refine r_iload_n d_Md_multiplies_5 rfl ?_
    refine n_icmp_ge d_Md_multiplies_6 (by omega) (by omega) (fun hc2 => ?_) (fun hc2 => ?_)
    · omega
    · refine r_lconst (v := lN 0) d_Md_multiplies_9 (by decide) ?_
      refine r_lstore (L' := [some (.ref a), some (.ref b), some (.ref c), some (.int (nI s)), some (.int (nI k)), some (.long (lN 0)), none, u2]) d_Md_multiplies_10 (by decide) rfl ?_
      refine r_iconst (v := nI 0) d_Md_multiplies_12 (by decide) ?_
      refine r_istore (L' := [some (.ref a), some (.ref b), some (.ref c), some (.int (nI s)), some (.int (nI k)), some (.long (lN 0)), none, some (.int (nI 0))]) d_Md_multiplies_13 (by decide) rfl ?_
      suffices H2 : ∀ d2 t, t + d2 = k + 1 → Rn o l m_Md_multiplies (0, 0) 15 [some (.ref a), some (.ref b), some (.ref c), some (.int (nI s)), some (.int (nI k)), some (.long (lN (sn (fun i => x i * y (k - i)) t))), none, some (.int (nI t))] [] (gh n M1) (QV n fun M' => MW M c s (cf x y) M') from H2 (k + 1) 0 (by omega)
      intro d2
      induction d2 with
      | zero =>
        intro t ht
        obtain rfl : t = k + 1 := by omega
        refine r_iload d_Md_multiplies_15 rfl ?_
        refine r_iload d_Md_multiplies_17 rfl ?_
        refine n_icmp_gt d_Md_multiplies_19 (by omega) (by omega) (fun hc3 => ?_) (fun hc3 => ?_)
        · refine r_aload_n d_Md_multiplies_51 rfl ?_
          refine r_iload d_Md_multiplies_52 rfl ?_
          refine r_lload d_Md_multiplies_54 rfl ?_
          refine g_Si (av := [.long (lN (sn (fun i => x i * y (k - i)) (k + 1)))]) d_Md_multiplies_56 k_Md_109 ws_Md_rest (by decide) rfl rfl (Nat.le_of_ble_eq_true rfl) (c_Md_restN (by have := sn_le (fun i => x i * y (k - i)) (k + 1); omega)) ?_
          rintro _ _ ⟨rfl, rfl⟩
          refine g_iast d_Md_multiplies_59 hc (by omega) (by omega) ?_
          refine n_iinc (c := 1) (L' := [some (.ref a), some (.ref b), some (.ref c), some (.int (nI s)), some (.int (nI (k + 1))), some (.long (lN (sn (fun i => x i * y (k - i)) (k + 1)))), none, some (.int (nI (k + 1)))]) d_Md_multiplies_60 rfl rfl (by decide) rfl ?_
          refine r_goto d_Md_multiplies_63 ?_
          exact ih (k + 1) _ _ _ (by omega) (h1.up (sn_cf x y k))
        · omega
      | succ d2 ih2 =>
        intro t ht
        refine r_iload d_Md_multiplies_15 rfl ?_
        refine r_iload d_Md_multiplies_17 rfl ?_
        refine n_icmp_gt d_Md_multiplies_19 (by omega) (by omega) (fun hc3 => ?_) (fun hc3 => ?_)
        · omega
        · refine r_lload d_Md_multiplies_22 rfl ?_
          refine r_aload_n d_Md_multiplies_24 rfl ?_
          refine r_iload d_Md_multiplies_25 rfl ?_
          refine g_iald d_Md_multiplies_27 ha (by omega) (by omega) ?_
          refine r_top (y := nI (x t)) (by rw [h1.1 a hac]; exact (hx t (by omega)).1) ?_
          refine n_i2l d_Md_multiplies_28 (by have h9 := (hx t (by omega)).2; omega) ?_
          refine r_aload_n d_Md_multiplies_29 rfl ?_
          refine r_iload d_Md_multiplies_30 rfl ?_
          refine r_iload d_Md_multiplies_32 rfl ?_
          refine n_isub d_Md_multiplies_34 (by omega) ?_
          refine g_iald d_Md_multiplies_35 hb (by omega) (by omega) ?_
          refine r_top (y := nI (y (k - t))) (by rw [h1.1 b hbc]; exact (hy (k - t) (by omega)).1) ?_
          refine n_i2l d_Md_multiplies_36 (by have h9 := (hy (k - t) (by omega)).2; omega) ?_
          refine n_lmul d_Md_multiplies_37 ?_
          refine r_ldc2 (v := lN 1000003) d_Md_multiplies_38 c_Md_102 ?_
          refine n_lrem d_Md_multiplies_41 (by have := pp_lt (hx t (by omega)).2 (hy (k - t) (by omega)).2; omega) (by omega) (by omega) ?_
          refine n_ladd d_Md_multiplies_42 ?_
          refine r_lstore (L' := [some (.ref a), some (.ref b), some (.ref c), some (.int (nI s)), some (.int (nI k)), some (.long (lN ((sn (fun i => x i * y (k - i)) t) + (((x t) * (y (k - t))) % 1000003)))), none, some (.int (nI t))]) d_Md_multiplies_43 (by decide) rfl ?_
          refine n_iinc (c := 1) (L' := [some (.ref a), some (.ref b), some (.ref c), some (.int (nI s)), some (.int (nI k)), some (.long (lN ((sn (fun i => x i * y (k - i)) t) + (((x t) * (y (k - t))) % 1000003)))), none, some (.int (nI (t + 1)))]) d_Md_multiplies_45 rfl rfl (by decide) rfl ?_
          refine r_goto d_Md_multiplies_48 ?_
          exact ih2 (t + 1) (by omega)
theorem c_Md_divides {a b c s : Nat} {x y : Nat → Nat} (ha : gT a = (1, 10)) (hb : gT b = (1, 10)) (hc : gT c = (1, 10)) (hac : a ≠ c) (hbc : b ≠ c) (hs0 : 1 ≤ s) (hs : s ≤ 10) (hx : OKs M a s x) (hy : OKs M b s y) : CV o l m_Md_divides n [.ref a, .ref b, .ref c, .int (nI s)] M (fun M' => MW M c s (dv x y) M') := by
  refine cvo_of rfl rfl rfl (Nat.le_of_ble_eq_true rfl) ?_
  refine r_aload_n d_Md_divides_0 rfl ?_
  refine r_iconst (v := nI 0) d_Md_divides_1 (by decide) ?_
  refine g_iald d_Md_divides_2 hb (by omega) (by omega) ?_
  refine r_top (y := nI (y 0)) ((hy 0 (by omega)).1) ?_
  refine n_i2l d_Md_divides_3 (by have h9 := (hy 0 (by omega)).2; omega) ?_
  refine g_Si (av := [.long (lN (y 0))]) d_Md_divides_4 k_Md_105 ws_Md_turned (by decide) rfl rfl (Nat.le_of_ble_eq_true rfl) (c_Md_turned (hy 0 (by omega)).2) ?_
  rintro _ _ ⟨rfl, rfl⟩
  refine r_istore (L' := [some (.ref a), some (.ref b), some (.ref c), some (.int (nI s)), some (.int (nI (nv (y 0)))), none, none, none, none]) d_Md_divides_7 (by decide) rfl ?_
  refine r_iconst (v := nI 0) d_Md_divides_9 (by decide) ?_
  refine r_istore (L' := [some (.ref a), some (.ref b), some (.ref c), some (.int (nI s)), some (.int (nI (nv (y 0)))), some (.int (nI 0)), none, none, none]) d_Md_divides_10 (by decide) rfl ?_
  suffices H : ∀ d k M1 u1 u2, k + d = s → MW M c k (dv x y) M1 → Rn o l m_Md_divides (0, 0) 12 [some (.ref a), some (.ref b), some (.ref c), some (.int (nI s)), some (.int (nI (nv (y 0)))), some (.int (nI k)), u1, none, u2] [] (gh n M1) (QV n fun M' => MW M c s (dv x y) M') from H s 0 M _ _ (by omega) (MW.z M c _)
  intro d
  induction d with
  | zero =>
    intro k M1 u1 u2 hk h1
    obtain rfl : k = s := by omega
    refine r_iload d_Md_divides_12 rfl ?_
    refine r_iload_n d_Md_divides_14 rfl ?_
    refine n_icmp_ge d_Md_divides_15 (by omega) (by omega) (fun hc2 => ?_) (fun hc2 => ?_)
    · refine g_retv d_Md_divides_89 rfl ?_
      exact h1
    · omega
  | succ d ih =>
    intro k M1 u1 u2 hk h1
    refine r_iload d_Md_divides_12 rfl ?_
    refine r_iload_n d_Md_divides_14 rfl ?_
    refine n_icmp_ge d_Md_divides_15 (by omega) (by omega) (fun hc2 => ?_) (fun hc2 => ?_)
    · omega
    · refine r_aload_n d_Md_divides_18 rfl ?_
      refine r_iload d_Md_divides_19 rfl ?_
      refine g_iald d_Md_divides_21 ha (by omega) (by omega) ?_
      refine r_top (y := nI (x k)) (by rw [h1.1 a hac]; exact (hx k (by omega)).1) ?_
      refine n_i2l d_Md_divides_22 (by have h9 := (hx k (by omega)).2; omega) ?_
      refine r_topl (lN_Z (x k)) ?_
      refine r_lstore (L' := [some (.ref a), some (.ref b), some (.ref c), some (.int (nI s)), some (.int (nI (nv (y 0)))), some (.int (nI k)), some (.long (lZ (x k : Nat))), none, u2]) d_Md_divides_23 (by decide) rfl ?_
      refine r_iconst (v := nI 1) d_Md_divides_25 (by decide) ?_
      refine r_istore (L' := [some (.ref a), some (.ref b), some (.ref c), some (.int (nI s)), some (.int (nI (nv (y 0)))), some (.int (nI k)), some (.long (lZ (x k : Nat))), none, some (.int (nI 1))]) d_Md_divides_26 (by decide) rfl ?_
      suffices H2 : ∀ d2 t, t + d2 = k → Rn o l m_Md_divides (0, 0) 28 [some (.ref a), some (.ref b), some (.ref c), some (.int (nI s)), some (.int (nI (nv (y 0)))), some (.int (nI k)), some (.long (lZ (dz x y (dv x y) k t))), none, some (.int (nI (t + 1)))] [] (gh n M1) (QV n fun M' => MW M c s (dv x y) M') from H2 k 0 (by omega)
      intro d2
      induction d2 with
      | zero =>
        intro t ht
        obtain rfl : t = k := by omega
        have hb9 := dz_bd (y := y) (w := dv x y) (k := t) (hx t (by omega)).2
        refine r_iload d_Md_divides_28 rfl ?_
        refine r_iload d_Md_divides_30 rfl ?_
        refine n_icmp_gt d_Md_divides_32 (by omega) (by omega) (fun hc3 => ?_) (fun hc3 => ?_)
        · refine r_aload_n d_Md_divides_64 rfl ?_
          refine r_iload d_Md_divides_65 rfl ?_
          refine r_lload d_Md_divides_67 rfl ?_
          refine g_Si (av := [.long (lZ (dz x y (dv x y) t t))]) d_Md_divides_69 k_Md_109 ws_Md_rest (by decide) rfl rfl (Nat.le_of_ble_eq_true rfl) (c_Md_rest rfl (by omega) (by omega)) ?_
          rintro _ _ ⟨rfl, rfl⟩
          refine n_i2l d_Md_divides_72 (Nat.lt_trans (rst_lt _) (by decide)) ?_
          refine r_iload d_Md_divides_73 rfl ?_
          refine n_i2l d_Md_divides_75 (Nat.lt_trans (nv_lt _) (by decide)) ?_
          refine n_lmul d_Md_divides_76 ?_
          refine r_ldc2 (v := lN 1000003) d_Md_divides_77 c_Md_102 ?_
          refine n_lrem d_Md_divides_80 (by have := pp_lt (rst_lt (dz x y (dv x y) t t)) (nv_lt (y 0)); omega) (by omega) (by omega) ?_
          refine n_l2i d_Md_divides_81 ?_
          refine g_iast d_Md_divides_82 hc (by omega) (by omega) ?_
          refine n_iinc (c := 1) (L' := [some (.ref a), some (.ref b), some (.ref c), some (.int (nI s)), some (.int (nI (nv (y 0)))), some (.int (nI (t + 1))), some (.long (lZ (dz x y (dv x y) t t))), none, some (.int (nI (t + 1)))]) d_Md_divides_83 rfl rfl (by decide) rfl ?_
          refine r_goto d_Md_divides_86 ?_
          exact ih (t + 1) _ _ _ (by omega) (h1.up (dz_dv x y t))
        · omega
      | succ d2 ih2 =>
        intro t ht
        refine r_iload d_Md_divides_28 rfl ?_
        refine r_iload d_Md_divides_30 rfl ?_
        refine n_icmp_gt d_Md_divides_32 (by omega) (by omega) (fun hc3 => ?_) (fun hc3 => ?_)
        · omega
        · refine r_lload d_Md_divides_35 rfl ?_
          refine r_aload_n d_Md_divides_37 rfl ?_
          refine r_iload d_Md_divides_38 rfl ?_
          refine g_iald d_Md_divides_40 hb (by omega) (by omega) ?_
          refine r_top (y := nI (y (t + 1))) (by rw [h1.1 b hbc]; exact (hy (t + 1) (by omega)).1) ?_
          refine n_i2l d_Md_divides_41 (by have h9 := (hy (t + 1) (by omega)).2; omega) ?_
          refine r_aload_n d_Md_divides_42 rfl ?_
          refine r_iload d_Md_divides_43 rfl ?_
          refine r_iload d_Md_divides_45 rfl ?_
          refine n_isub d_Md_divides_47 (by omega) ?_
          refine g_iald d_Md_divides_48 hc (by omega) (by omega) ?_
          refine r_top (y := nI (dv x y (k - (t + 1)))) (h1.2 (k - (t + 1)) (by omega)) ?_
          refine n_i2l d_Md_divides_49 (by have h9 := dv_lt x y (k - (t + 1)); omega) ?_
          refine n_lmul d_Md_divides_50 ?_
          refine r_ldc2 (v := lN 1000003) d_Md_divides_51 c_Md_102 ?_
          refine n_lrem d_Md_divides_54 (by have := pp_lt (hy (t + 1) (by omega)).2 (dv_lt x y (k - (t + 1))); omega) (by omega) (by omega) ?_
          refine z_lsub d_Md_divides_55 rfl (lN_Z _) ?_
          refine r_lstore (L' := [some (.ref a), some (.ref b), some (.ref c), some (.int (nI s)), some (.int (nI (nv (y 0)))), some (.int (nI k)), some (.long (lZ (((dz x y (dv x y) k t)) - ((((y (t + 1)) * (dv x y (k - (t + 1)))) % 1000003 : Nat))))), none, some (.int (nI (t + 1)))]) d_Md_divides_56 (by decide) rfl ?_
          refine n_iinc (c := 1) (L' := [some (.ref a), some (.ref b), some (.ref c), some (.int (nI s)), some (.int (nI (nv (y 0)))), some (.int (nI k)), some (.long (lZ (((dz x y (dv x y) k t)) - ((((y (t + 1)) * (dv x y (k - (t + 1)))) % 1000003 : Nat))))), none, some (.int (nI ((t + 1) + 1)))]) d_Md_divides_58 rfl rfl (by decide) rfl ?_
          refine r_goto d_Md_divides_61 ?_
          exact ih2 (t + 1) (by omega)
end C63
