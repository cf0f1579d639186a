/-- a truth as an answer -/
def BR (r : Int32) (p : Prop) : Prop := (r = nI 1 ∧ p) ∨ (r = nI 0 ∧ ¬ p)
theorem ir_eq {z : Int} (h1 : -2147483648 ≤ z) (h2 : z ≤ 2147483647) : Int32.ofInt z - Int32.ofInt z / nI 1000003 * nI 1000003 = Int32.ofInt (z.tmod 1000003) := by
  rw [show nI 1000003 = Int32.ofInt 1000003 from rfl, ← Int32.ofInt_tdiv (a := z) (b := 1000003) (by rw [show Int32.minValue.toInt = -2147483648 from by decide]; exact h1) (by rw [show Int32.maxValue.toInt = 2147483647 from by decide]; exact h2) (by decide) (by decide), ← Int32.ofInt_mul, ← Int32.ofInt_sub]
  congr 1
  have := Int.tdiv_mul_add_tmod z 1000003
  omega
theorem xr_neg (x : Int32) : (x ^^^ nI 1000003) < 0 ↔ x < 0 := by
  rw [Int32.lt_iff_toInt_lt, Int32.lt_iff_toInt_lt]
  have h1 : ((x ^^^ nI 1000003).toInt < 0) ↔ (x ^^^ nI 1000003).toBitVec.msb = true := by
    rw [BitVec.msb_eq_toInt]; exact decide_eq_true_iff.symm
  have h2 : (x.toInt < 0) ↔ x.toBitVec.msb = true := by
    rw [BitVec.msb_eq_toInt]; exact decide_eq_true_iff.symm
  have h3 : (nI 1000003).toBitVec.msb = false := by decide
  show (x ^^^ nI 1000003).toInt < 0 ↔ x.toInt < 0
  rw [h1, h2, Int32.toBitVec_xor, BitVec.msb_xor, h3]
  simp
theorem of_nat (z : Int) (h : 0 ≤ z) : Int32.ofInt z = nI z.toNat := by
  rw [nI, ← Int32.ofInt_eq_ofNat, Int.toNat_of_nonneg h]
def fm (v : Int32) : Nat := (v.toInt % 1000003).toNat
theorem fm_lt (v : Int32) : fm v < 1000003 := by unfold fm; omega
section C32
variable {o : OM} {l : Launch} {n : Nat} {M : Mem}
theorem c_Ma_floorMod (v : Int32) : CI o l m_Ma_floorMod n [.int v, .int (nI 1000003)] M (fun r M' => r = nI (fm v) ∧ M = M') := by
  refine ci_ofF (by decide +kernel) rfl rfl (Nat.le_of_ble_eq_true rfl) ?_
  have h1 := v.le_toInt
  have h2 := v.toInt_lt
  obtain ⟨z, hz⟩ : ∃ z, z = v.toInt := ⟨_, rfl⟩
  have hv : v = Int32.ofInt z := by rw [hz]; simp
  rw [← hz] at h1 h2
  have hfm : fm v = (z % 1000003).toNat := by rw [fm, hz]
  refine r_iload_n d_Ma_floorMod_0 rfl ?_
  refine r_iload_n d_Ma_floorMod_1 rfl ?_
  refine r_irem d_Ma_floorMod_2 (by decide) ?_
  refine r_top (y := Int32.ofInt (z.tmod 1000003)) (by rw [hv]; exact ir_eq (by omega) (by omega)) ?_
  refine r_istore_n (L' := [some (.int v), some (.int (nI 1000003)), some (.int (Int32.ofInt (z.tmod 1000003)))]) d_Ma_floorMod_3 (by decide) rfl ?_
  refine r_iload_n d_Ma_floorMod_4 rfl ?_
  refine r_iload_n d_Ma_floorMod_5 rfl ?_
  refine r_ixor d_Ma_floorMod_6 ?_
  refine r_if_ge d_Ma_floorMod_7 (fun hc => ?_) (fun hc => ?_)
  · refine r_iload_n d_Ma_floorMod_18 rfl ?_
    refine g_reti d_Ma_floorMod_19 rfl ?_
    refine ⟨?_, rfl⟩
    have h3 : 0 ≤ z := by
      have : ¬ v < 0 := fun q => by
        have := Int32.not_lt.mpr hc
        exact this ((xr_neg v).mpr q)
      rw [Int32.lt_iff_toInt_lt, ← hz] at this
      simpa using this
    rw [hfm, Int.tmod_eq_emod_of_nonneg h3, of_nat _ (by omega)]
  · have h3 : z < 0 := by
      have : v < 0 := (xr_neg v).mp (Int32.not_le.mp hc)
      rw [Int32.lt_iff_toInt_lt, ← hz] at this
      simpa using this
    have h4 : z.tmod 1000003 = z % 1000003 ∧ z % 1000003 = 0 ∨ z.tmod 1000003 = z % 1000003 - 1000003 ∧ z % 1000003 ≠ 0 := by
      have h := Int.tmod_eq_emod (a := z) (b := 1000003)
      by_cases hd : (1000003 : Int) ∣ z
      · rw [if_pos (Or.inr hd)] at h
        exact Or.inl ⟨by omega, Int.emod_eq_zero_of_dvd hd⟩
      · rw [if_neg (fun q => q.elim (fun q => by omega) hd)] at h
        exact Or.inr ⟨by simpa using h, fun q => hd (Int.dvd_of_emod_eq_zero q)⟩
    refine r_iload_n d_Ma_floorMod_10 rfl ?_
    refine r_if_eq d_Ma_floorMod_11 (fun hd => ?_) (fun hd => ?_)
    · refine r_iload_n d_Ma_floorMod_18 rfl ?_
      refine g_reti d_Ma_floorMod_19 rfl ?_
      refine ⟨?_, rfl⟩
      have h5 : z.tmod 1000003 = 0 := by
        have := congrArg Int32.toInt hd
        rw [Int32.toInt_ofInt_of_le (by omega) (by omega)] at this
        simpa using this
      rw [h5, hfm, show z % 1000003 = 0 by omega]
      rfl
    · refine r_iload_n d_Ma_floorMod_14 rfl ?_
      refine r_iload_n d_Ma_floorMod_15 rfl ?_
      refine r_iadd d_Ma_floorMod_16 ?_
      refine g_reti d_Ma_floorMod_17 rfl ?_
      refine ⟨?_, rfl⟩
      have h5 : z.tmod 1000003 ≠ 0 := fun q => hd (by rw [q]; rfl)
      rw [show nI 1000003 = Int32.ofInt 1000003 from rfl, ← Int32.ofInt_add, hfm, of_nat _ (by omega)]
      congr 2
      omega
theorem c_Rw_divide {a b s : Nat} {x y : Nat → Nat} (ha : gT a = (1, 10)) (hb : gT b = (1, 10)) (hne : b ≠ a) (hs : s ≤ 10) (hx : OKr M a x) (hy : OKr M b y) : CV o l m_Rw_divide n [.ref a, .ref b, .int (nI s)] M (fun M' => RW M a (fun j => if j < s then dv x y j else x j) M') := by
  refine cvo_of rfl rfl rfl (Nat.le_of_ble_eq_true rfl) ?_
  refine r_aload_n d_Rw_divide_0 rfl ?_
  refine r_iconst (v := nI 0) d_Rw_divide_1 (by decide) ?_
  refine g_iald d_Rw_divide_2 hb (by omega) (by omega) ?_
  refine r_top (y := nI (y 0)) ((hy 0 (by omega)).1) ?_
  refine g_Si (av := [.int (nI (y 0))]) d_Rw_divide_3 k_Rw_29 ws_Rw_inverse (by decide) rfl rfl (Nat.le_of_ble_eq_true rfl) (c_Rw_inverse (hy 0 (by omega)).2) ?_
  rintro r M2 ⟨rfl, rfl⟩
  refine r_istore_n (L' := [some (.ref a), some (.ref b), some (.int (nI s)), some (.int (nI (nv (y 0)))), none, none, none, none]) d_Rw_divide_6 (by decide) rfl ?_
  refine r_iconst (v := nI 0) d_Rw_divide_7 (by decide) ?_
  refine r_istore (L' := [some (.ref a), some (.ref b), some (.int (nI s)), some (.int (nI (nv (y 0)))), some (.int (nI 0)), none, none, none]) d_Rw_divide_8 (by decide) rfl ?_
  suffices H : ∀ d k M1 u1 u2, k + d = s → RW M a (fun j => if j < k then dv x y j else x j) M1 → Rn o l m_Rw_divide (0, 0) 10 [some (.ref a), some (.ref b), some (.int (nI s)), some (.int (nI (nv (y 0)))), some (.int (nI k)), u1, none, u2] [] (gh n M1) (QV n fun M' => RW M a (fun j => if j < s then dv x y j else x j) M') from H s 0 M _ _ (by omega) ((RW.rf hx).to (fun j hj => by simp))
  intro d
  induction d with
  | zero =>
    intro k M1 u1 u2 hk h1
    obtain rfl : k = s := by omega
    refine r_iload d_Rw_divide_10 rfl ?_
    refine r_iload_n d_Rw_divide_12 rfl ?_
    refine n_icmp_ge d_Rw_divide_13 (by omega) (by omega) (fun hc => ?_) (fun hc => ?_)
    · refine g_retv d_Rw_divide_82 rfl ?_
      exact h1
    · omega
  | succ d ih =>
    intro k M1 u1 u2 hk h1
    refine r_iload d_Rw_divide_10 rfl ?_
    refine r_iload_n d_Rw_divide_12 rfl ?_
    refine n_icmp_ge d_Rw_divide_13 (by omega) (by omega) (fun hc => ?_) (fun hc => ?_)
    · omega
    · refine r_weak (L' := [some (.ref a), some (.ref b), some (.int (nI s)), some (.int (nI (nv (y 0)))), some (.int (nI k)), none, none, none]) (fun i v hv => by match i, hv with | 0, h => exact h | 1, h => exact h | 2, h => exact h | 3, h => exact h | 4, h => exact h | 5, h => cases h | 6, h => cases h | 7, h => cases h | i + 8, h => simp at h) ?_
      refine r_lconst (v := lN 0) d_Rw_divide_16 (by decide) ?_
      refine r_lstore (L' := [some (.ref a), some (.ref b), some (.int (nI s)), some (.int (nI (nv (y 0)))), some (.int (nI k)), some (.long (lN 0)), none, none]) d_Rw_divide_17 (by decide) rfl ?_
      refine r_iconst (v := nI 0) d_Rw_divide_19 (by decide) ?_
      refine r_istore (L' := [some (.ref a), some (.ref b), some (.int (nI s)), some (.int (nI (nv (y 0)))), some (.int (nI k)), some (.long (lN 0)), none, some (.int (nI 0))]) d_Rw_divide_20 (by decide) rfl ?_
      suffices H2 : ∀ d2 t, t + d2 = k → Rn o l m_Rw_divide (0, 0) 22 [some (.ref a), some (.ref b), some (.int (nI s)), some (.int (nI (nv (y 0)))), some (.int (nI k)), some (.long (lN (cs (dv x y) y k t))), none, some (.int (nI t))] [] (gh n M1) (QV n fun M' => RW M a (fun j => if j < s then dv x y j else x j) M') from H2 k 0 (by omega)
      intro d2
      induction d2 with
      | zero =>
        intro t ht
        obtain rfl : t = k := by omega
        refine r_iload d_Rw_divide_22 rfl ?_
        refine r_iload d_Rw_divide_24 rfl ?_
        refine n_icmp_ge d_Rw_divide_26 (by omega) (by omega) (fun hc2 => ?_) (fun hc2 => ?_)
        · refine r_aload_n d_Rw_divide_54 rfl ?_
          refine r_iload d_Rw_divide_55 rfl ?_
          refine r_aload_n d_Rw_divide_57 rfl ?_
          refine r_iload d_Rw_divide_58 rfl ?_
          refine g_iald d_Rw_divide_60 ha (by omega) (by omega) ?_
          refine r_top (y := nI (x t)) ((h1.at (by omega)).trans (by rw [if_neg (by omega)])) ?_
          refine r_lload d_Rw_divide_61 rfl ?_
          refine r_ldc2 (v := lN 1000003) d_Rw_divide_63 c_Rw_12 ?_
          refine n_lrem d_Rw_divide_66 (by have h9 := cs_lt (x := dv x y) (y := y) (i := t) (k := t) (fun j hj => dv_lt x y j) (fun j hj => (hy j (by omega)).2); have h8 : t * 1000006000009 ≤ 10 * 1000006000009 := Nat.mul_le_mul_right _ (by omega); omega) (by omega) (by omega) ?_
          refine n_l2i d_Rw_divide_67 ?_
          refine g_Si (av := [.int (nI (x t)), .int (nI ((cs (dv x y) y t t) % 1000003))]) d_Rw_divide_68 k_Rw_21 ws_Rw_difference (by decide) rfl rfl (Nat.le_of_ble_eq_true rfl) (c_Rw_difference (hx t (by omega)).2 (Nat.mod_lt _ (by decide))) ?_
          rintro r M2 ⟨rfl, rfl⟩
          refine r_iload_n d_Rw_divide_71 rfl ?_
          refine g_Si (av := [.int (nI (sb (x t) (cs (dv x y) y t t % 1000003))), .int (nI (nv (y 0)))]) d_Rw_divide_72 k_Rw_33 ws_Rw_product (by decide) rfl rfl (Nat.le_of_ble_eq_true rfl) (c_Rw_product (sb_lt _ _) (nv_lt _)) ?_
          rintro r M2 ⟨rfl, rfl⟩
          refine g_iast d_Rw_divide_75 ha (by omega) (by omega) ?_
          refine n_iinc (c := 1) (L' := [some (.ref a), some (.ref b), some (.int (nI s)), some (.int (nI (nv (y 0)))), some (.int (nI (t + 1))), some (.long (lN (cs (dv x y) y t t))), none, some (.int (nI t))]) d_Rw_divide_76 rfl rfl (by decide) rfl ?_
          refine r_goto d_Rw_divide_79 ?_
          rw [← dv_eq]
          refine ih (t + 1) _ _ _ (by omega) (h1.upd.to (fun j hj => ?_))
          by_cases e : j = t
          · subst e; simp
          · rw [if_neg e]
            by_cases h9 : j < t
            · rw [if_pos h9, if_pos (by omega)]
            · rw [if_neg h9, if_neg (by omega)]
        · omega
      | succ d2 ih2 =>
        intro t ht
        refine r_iload d_Rw_divide_22 rfl ?_
        refine r_iload d_Rw_divide_24 rfl ?_
        refine n_icmp_ge d_Rw_divide_26 (by omega) (by omega) (fun hc2 => ?_) (fun hc2 => ?_)
        · omega
        · refine r_lload d_Rw_divide_29 rfl ?_
          refine r_aload_n d_Rw_divide_31 rfl ?_
          refine r_iload d_Rw_divide_32 rfl ?_
          refine g_iald d_Rw_divide_34 ha (by omega) (by omega) ?_
          refine r_top (y := nI (dv x y t)) ((h1.at (by omega)).trans (by rw [if_pos (by omega)])) ?_
          refine n_i2l d_Rw_divide_35 (by have h9 := dv_lt x y t; omega) ?_
          refine r_aload_n d_Rw_divide_36 rfl ?_
          refine r_iload d_Rw_divide_37 rfl ?_
          refine r_iload d_Rw_divide_39 rfl ?_
          refine n_isub d_Rw_divide_41 (by omega) ?_
          refine g_iald d_Rw_divide_42 hb (by omega) (by omega) ?_
          refine r_top (y := nI (y (k - t))) (by rw [h1.ne hne]; exact (hy (k - t) (by omega)).1) ?_
          refine n_i2l d_Rw_divide_43 (by have h9 := (hy (k - t) (by omega)).2; omega) ?_
          refine n_lmul d_Rw_divide_44 ?_
          refine n_ladd d_Rw_divide_45 ?_
          refine r_lstore (L' := [some (.ref a), some (.ref b), some (.int (nI s)), some (.int (nI (nv (y 0)))), some (.int (nI k)), some (.long (lN ((cs (dv x y) y k t) + ((dv x y t) * (y (k - t)))))), none, some (.int (nI t))]) d_Rw_divide_46 (by decide) rfl ?_
          refine n_iinc (c := 1) (L' := [some (.ref a), some (.ref b), some (.int (nI s)), some (.int (nI (nv (y 0)))), some (.int (nI k)), some (.long (lN ((cs (dv x y) y k t) + ((dv x y t) * (y (k - t)))))), none, some (.int (nI (t + 1)))]) d_Rw_divide_48 rfl rfl (by decide) rfl ?_
          refine r_goto d_Rw_divide_51 ?_
          exact ih2 (t + 1) (by omega)
theorem c_Rw_insert {a b c s : Nat} {x y : Nat → Nat} (ha : gT a = (1, 10)) (hb : gT b = (1, 10)) (hc : gT c = (1, 10)) (hac : a ≠ c) (hbc : b ≠ c) (hs0 : 1 ≤ s) (hs : s ≤ 10) (hx : OKr M a x) (hy : OKr M b y) : CV o l m_Rw_insert n [.ref a, .ref b, .int (nI s), .ref c] M (fun M' => RW M c (hn x y s s) M') := by
  refine cvo_of rfl rfl rfl (Nat.le_of_ble_eq_true rfl) ?_
  have hnlt : ∀ d j, hn x y s d j < 1000003 ∨ 10 ≤ j := by
    intro d
    induction d with
    | zero => intro j; simp [hn]
    | succ d ih =>
      intro j
      simp only [hn]
      split
      · exact Or.inl (hx _ (by omega)).2
      · split
        · exact Or.inl (cf_lt _ _ _)
        · exact ih j
  refine r_aload_n d_Rw_insert_0 rfl ?_
  refine r_iconst (v := nI 0) d_Rw_insert_1 (by decide) ?_
  refine g_Sv (av := [.ref c, .int (nI 0)]) d_Rw_insert_2 k_Rw_15 ws_Ar_fill (by decide) rfl rfl (Nat.le_of_ble_eq_true rfl) (c_Ar_fill (nI 0) hc (by omega)) ?_
  rintro M1 rfl
  refine r_iload_n d_Rw_insert_5 rfl ?_
  refine r_iconst (v := nI 1) d_Rw_insert_6 (by decide) ?_
  refine n_isub d_Rw_insert_7 (by omega) ?_
  refine r_istore (L' := [some (.ref a), some (.ref b), some (.int (nI s)), some (.ref c), some (.int (nI (s - 1)))]) d_Rw_insert_8 (by decide) rfl ?_
  suffices H : ∀ k d M1, k + d = s → RW M c (hn x y s d) M1 → Rn o l m_Rw_insert (0, 0) 10 [some (.ref a), some (.ref b), some (.int (nI s)), some (.ref c), some (.int (nI k - 1))] [] (gh n M1) (QV n fun M' => RW M c (hn x y s s) M') by
    have := H s 0 _ (by omega) (⟨_, rfl, fun j hj => by simp [fl, hj, hn]⟩ : RW M c (hn x y s 0) (wr M c (fl 10 (fun _ => nI 0) (M c))))
    rw [show nI s - 1 = nI (s - 1) from pk_sub (a := s) (b := 1) hs0] at this
    exact this
  intro k
  induction k with
  | zero =>
    intro d M1 hk h1
    obtain rfl : d = s := by omega
    refine r_iload d_Rw_insert_10 rfl ?_
    refine r_if_lt d_Rw_insert_12 (fun hc2 => ?_) (fun hc2 => ?_)
    · refine g_retv d_Rw_insert_37 rfl ?_
      exact h1
    · exact absurd (by decide) hc2
  | succ k ih =>
    intro d M1 hk h1
    rw [nI_pred]
    refine r_iload d_Rw_insert_10 rfl ?_
    refine n_if_lt d_Rw_insert_12 (by omega) ?_
    refine r_aload_n d_Rw_insert_15 rfl ?_
    refine r_aload_n d_Rw_insert_16 rfl ?_
    refine r_iload_n d_Rw_insert_17 rfl ?_
    refine r_iload d_Rw_insert_18 rfl ?_
    refine n_isub d_Rw_insert_20 (by omega) ?_
    have h1ok : OKr M1 c (hn x y s d) := h1.ok (fun j hj => (hnlt d j).resolve_right (by omega))
    refine g_Sv (av := [.ref c, .ref b, .int (nI (s - k))]) d_Rw_insert_21 k_Rw_36 ws_Rw_multiply (by decide) rfl rfl (Nat.le_of_ble_eq_true rfl) (c_Rw_multiply hc hb hbc (by omega) (by omega) h1ok (h1.okn hbc hy)) ?_
    rintro M2 h2
    have h3 := h1.trans h2
    refine r_aload_n d_Rw_insert_24 rfl ?_
    refine r_iconst (v := nI 0) d_Rw_insert_25 (by decide) ?_
    refine r_aload_n d_Rw_insert_26 rfl ?_
    refine r_iload d_Rw_insert_27 rfl ?_
    refine g_iald d_Rw_insert_29 ha (by omega) (by omega) ?_
    refine r_top (y := nI (x k)) (by rw [h3.ne hac]; exact (hx k (by omega)).1) ?_
    refine g_iast d_Rw_insert_30 hc (by omega) (by omega) ?_
    refine n_iincd (L' := [some (.ref a), some (.ref b), some (.int (nI s)), some (.ref c), some (.int (nI k - 1))]) d_Rw_insert_31 rfl (by decide) rfl ?_
    refine r_goto d_Rw_insert_34 ?_
    refine ih (d + 1) _ (by omega) (h3.upd.to (fun j hj => ?_))
    simp only [hn]
    by_cases e : j = 0
    · subst e
      rw [if_pos rfl, if_pos rfl, show s - 1 - d = k by omega]
    · rw [if_neg e, if_neg e, show s - k = d + 1 by omega]
theorem c_Rw_oneAhead {a c s : Nat} {x w : Nat → Nat} (ha : gT a = (1, 10)) (hc : gT c = (1, 10)) (hac : a ≠ c) (hs0 : 1 ≤ s) (hs : s ≤ 10) (hx : OKr M a x) (hw : ∀ j, j < 10 → M c j = nI (w j)) : CV o l m_Rw_oneAhead n [.ref a, .int (nI s), .ref c] M (fun M' => RW M c (fun j => if j < s - 1 then x (j + 1) else if j = s - 1 then 0 else w j) M') := by
  refine cvo_of rfl rfl rfl (Nat.le_of_ble_eq_true rfl) ?_
  refine r_iconst (v := nI 0) d_Rw_oneAhead_0 (by decide) ?_
  refine r_istore_n (L' := [some (.ref a), some (.int (nI s)), some (.ref c), some (.int (nI 0))]) d_Rw_oneAhead_1 (by decide) rfl ?_
  suffices H : ∀ d k M1, k + d = s - 1 → RW M c (fun j => if j < k then x (j + 1) else w j) M1 → Rn o l m_Rw_oneAhead (0, 0) 2 [some (.ref a), some (.int (nI s)), some (.ref c), some (.int (nI k))] [] (gh n M1) (QV n fun M' => RW M c (fun j => if j < s - 1 then x (j + 1) else if j = s - 1 then 0 else w j) M') from H (s - 1) 0 M (by omega) ⟨M c, (wr_self M c).symm, fun j hj => by simp [hw j hj]⟩
  intro d
  induction d with
  | zero =>
    intro k M1 hk h1
    obtain rfl : k = s - 1 := by omega
    refine r_iload_n d_Rw_oneAhead_2 rfl ?_
    refine r_iload_n d_Rw_oneAhead_3 rfl ?_
    refine r_iconst (v := nI 1) d_Rw_oneAhead_4 (by decide) ?_
    refine n_isub d_Rw_oneAhead_5 (by omega) ?_
    refine n_icmp_ge d_Rw_oneAhead_6 (by omega) (by omega) (fun hc2 => ?_) (fun hc2 => ?_)
    · refine r_aload_n d_Rw_oneAhead_23 rfl ?_
      refine r_iload_n d_Rw_oneAhead_24 rfl ?_
      refine r_iconst (v := nI 1) d_Rw_oneAhead_25 (by decide) ?_
      refine n_isub d_Rw_oneAhead_26 (by omega) ?_
      refine r_iconst (v := nI 0) d_Rw_oneAhead_27 (by decide) ?_
      refine g_iast d_Rw_oneAhead_28 hc (by omega) (by omega) ?_
      refine g_retv d_Rw_oneAhead_29 rfl ?_
      refine h1.upd.to (fun j hj => ?_)
      by_cases e : j = s - 1
      · subst e; simp
      · rw [if_neg e]
        by_cases h9 : j < s - 1
        · rw [if_pos h9, if_pos h9]
        · rw [if_neg h9, if_neg h9, if_neg e]
    · omega
  | succ d ih =>
    intro k M1 hk h1
    refine r_iload_n d_Rw_oneAhead_2 rfl ?_
    refine r_iload_n d_Rw_oneAhead_3 rfl ?_
    refine r_iconst (v := nI 1) d_Rw_oneAhead_4 (by decide) ?_
    refine n_isub d_Rw_oneAhead_5 (by omega) ?_
    refine n_icmp_ge d_Rw_oneAhead_6 (by omega) (by omega) (fun hc2 => ?_) (fun hc2 => ?_)
    · omega
    · refine r_aload_n d_Rw_oneAhead_9 rfl ?_
      refine r_iload_n d_Rw_oneAhead_10 rfl ?_
      refine r_aload_n d_Rw_oneAhead_11 rfl ?_
      refine r_iload_n d_Rw_oneAhead_12 rfl ?_
      refine r_iconst (v := nI 1) d_Rw_oneAhead_13 (by decide) ?_
      refine n_iadd d_Rw_oneAhead_14 ?_
      refine g_iald d_Rw_oneAhead_15 ha (by omega) (by omega) ?_
      refine r_top (y := nI (x (k + 1))) (by rw [h1.ne hac]; exact (hx (k + 1) (by omega)).1) ?_
      refine g_iast d_Rw_oneAhead_16 hc (by omega) (by omega) ?_
      refine n_iinc (c := 1) (L' := [some (.ref a), some (.int (nI s)), some (.ref c), some (.int (nI (k + 1)))]) d_Rw_oneAhead_17 rfl rfl (by decide) rfl ?_
      refine r_goto d_Rw_oneAhead_20 ?_
      refine ih (k + 1) _ (by omega) (h1.upd.to (fun j hj => ?_))
      by_cases e : j = k
      · subst e; simp
      · rw [if_neg e]
        by_cases h9 : j < k
        · rw [if_pos h9, if_pos (by omega)]
        · rw [if_neg h9, if_neg (by omega)]
theorem c_Rw_isZeroFrom {a f s : Nat} {x : Nat → Nat} (ha : gT a = (1, 10)) (hs : s ≤ 10) (hf : f ≤ 10) (hx : OKr M a x) : CI o l m_Rw_isZeroFrom n [.ref a, .int (nI f), .int (nI s)] M (fun r M' => BR r (∀ j, f ≤ j → j < s → x j = 0) ∧ M = M') := by
  refine ci_of rfl rfl rfl (Nat.le_of_ble_eq_true rfl) ?_
  refine r_iload_n d_Rw_isZeroFrom_0 rfl ?_
  refine r_istore_n (L' := [some (.ref a), some (.int (nI f)), some (.int (nI s)), some (.int (nI f))]) d_Rw_isZeroFrom_1 (by decide) rfl ?_
  suffices H : ∀ d k, s - k ≤ d → f ≤ k → k ≤ 10 → (∀ j, f ≤ j → j < k → x j = 0) → Rn o l m_Rw_isZeroFrom (0, 0) 2 [some (.ref a), some (.int (nI f)), some (.int (nI s)), some (.int (nI k))] [] (gh n M) (QI n fun r M' => BR r (∀ j, f ≤ j → j < s → x j = 0) ∧ M = M') from H s f (by omega) (Nat.le_refl _) hf (fun j h1 h2 => by omega)
  intro d
  induction d with
  | zero =>
    intro k hk hfk hk1 h0
    refine r_iload_n d_Rw_isZeroFrom_2 rfl ?_
    refine r_iload_n d_Rw_isZeroFrom_3 rfl ?_
    refine n_icmp_ge d_Rw_isZeroFrom_4 (by omega) (by omega) (fun hc => ?_) (fun hc => ?_)
    · refine r_iconst (v := nI 1) d_Rw_isZeroFrom_21 (by decide) ?_
      refine g_retz d_Rw_isZeroFrom_22 rfl (by decide) ?_
      exact ⟨Or.inl ⟨rfl, fun j h1 h2 => h0 j h1 (by omega)⟩, rfl⟩
    · omega
  | succ d ih =>
    intro k hk hfk hk1 h0
    refine r_iload_n d_Rw_isZeroFrom_2 rfl ?_
    refine r_iload_n d_Rw_isZeroFrom_3 rfl ?_
    refine n_icmp_ge d_Rw_isZeroFrom_4 (by omega) (by omega) (fun hc => ?_) (fun hc => ?_)
    · refine r_iconst (v := nI 1) d_Rw_isZeroFrom_21 (by decide) ?_
      refine g_retz d_Rw_isZeroFrom_22 rfl (by decide) ?_
      exact ⟨Or.inl ⟨rfl, fun j h1 h2 => h0 j h1 (by omega)⟩, rfl⟩
    · refine r_aload_n d_Rw_isZeroFrom_7 rfl ?_
      refine r_iload_n d_Rw_isZeroFrom_8 rfl ?_
      refine g_iald d_Rw_isZeroFrom_9 ha (by omega) (by omega) ?_
      refine r_top (y := nI (x k)) ((hx k (by omega)).1) ?_
      refine n_if_eq d_Rw_isZeroFrom_10 (by have h9 := (hx k (by omega)).2; omega) (fun h9 => ?_) (fun h9 => ?_)
      · refine n_iinc (c := 1) (L' := [some (.ref a), some (.int (nI f)), some (.int (nI s)), some (.int (nI (k + 1)))]) d_Rw_isZeroFrom_15 rfl rfl (by decide) rfl ?_
        refine r_goto d_Rw_isZeroFrom_18 ?_
        refine ih (k + 1) (by omega) (by omega) (by omega) (fun j h1 h2 => ?_)
        by_cases e : j = k
        · rw [e]; exact h9
        · exact h0 j h1 (by omega)
      · refine r_iconst (v := nI 0) d_Rw_isZeroFrom_13 (by decide) ?_
        refine g_retz d_Rw_isZeroFrom_14 rfl (by decide) ?_
        exact ⟨Or.inr ⟨rfl, fun q => h9 (q k hfk hc)⟩, rfl⟩
end C32
