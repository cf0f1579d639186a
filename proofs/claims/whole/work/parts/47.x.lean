theorem neg_neg32 (x : Int32) : - -x = x := Int32.neg_neg
theorem pw_cases (k : Int32) : (k < -9 ∧ ¬ (inN 10 k ∨ (k < 0 ∧ inN 10 (-k)))) ∨ (¬ k < -9 ∧ ¬ k ≤ nI 9 ∧ ¬ (inN 10 k ∨ (k < 0 ∧ inN 10 (-k)))) ∨ (¬ k < -9 ∧ k ≤ nI 9 ∧ ¬ k < 0 ∧ inN 10 k) ∨ (¬ k < -9 ∧ k ≤ nI 9 ∧ k < 0 ∧ inN 10 (-k) ∧ 1 ≤ ix (-k) ∧ k = -nI (ix (-k))) := by
  have z0 : (0 : Int32).toInt = 0 := by decide
  have z9 : (nI 9).toInt = 9 := by decide
  have z10 : (nI 10).toInt = 10 := by decide
  have zm : (-9 : Int32).toInt = -9 := by decide
  have l1 : ∀ x y : Int32, x < y ↔ x.toInt < y.toInt := fun x y => Int32.lt_iff_toInt_lt
  have l2 : ∀ x y : Int32, x ≤ y ↔ x.toInt ≤ y.toInt := fun x y => Int32.le_iff_toInt_le
  have lb := k.le_toInt
  have ub := k.toInt_lt
  have hn : -2147483648 < k.toInt → (-k).toInt = -k.toInt := fun h => by
    rw [Int32.toInt_neg]
    rw [Int.bmod_def]
    have : (Int32.size : Int) = 4294967296 := rfl
    omega
  have nin : ∀ v : Int32, inN 10 v ↔ 0 ≤ v.toInt ∧ v.toInt < 10 := fun v => by
    rcases inN_cases (N := 10) (v := v) (by decide) with ⟨h1, h2⟩ | ⟨h1, h2, h3⟩ | ⟨h1, h2, h3⟩
    · rw [l1, z0] at h1
      exact ⟨fun z => absurd z h2, fun z => by omega⟩
    · rw [l2, z10] at h2
      exact ⟨fun z => absurd z h3, fun z => by omega⟩
    · rw [l1, z0] at h1
      rw [l2, z10] at h2
      exact ⟨fun _ => by omega, fun _ => h3⟩
  by_cases a1 : k < -9
  · refine Or.inl ⟨a1, ?_⟩
    rw [l1, zm] at a1
    rintro (h | ⟨h, h2⟩)
    · rw [nin] at h
      omega
    · by_cases e : k.toInt = -2147483648
      · have : k = -2147483648 := Int32.toInt_inj.mp (by rw [e]; decide)
        subst this
        rw [nin] at h2
        revert h2
        decide
      · rw [nin, hn (by omega)] at h2
        omega
  · refine Or.inr ?_
    rw [l1, zm] at a1
    by_cases a2 : k ≤ nI 9
    · refine Or.inr ?_
      have a2' := a2
      rw [l2, z9] at a2
      by_cases a3 : k < 0
      · have a3' := a3
        rw [l1, z0] at a3
        have i1 : inN 10 (-k) := by
          rw [nin, hn (by omega)]
          omega
        refine Or.inr ⟨by rw [l1, zm]; exact a1, a2', a3', i1, ?_, ?_⟩
        · have := hn (by omega)
          unfold ix
          omega
        · rw [← i1.2, Int32.neg_neg]
      · have a3' := a3
        rw [l1, z0] at a3
        exact Or.inl ⟨by rw [l1, zm]; exact a1, a2', a3', by rw [nin]; omega⟩
    · refine Or.inl ⟨by rw [l1, zm]; exact a1, a2, ?_⟩
      rw [l2, z9] at a2
      rintro (h | ⟨h, h2⟩)
      · rw [nin] at h
        omega
      · rw [l1, z0] at h
        omega
theorem FD_ne {s : Nat} {p : Nat → Nat → Prop} (hs : s ≤ 10) (r : Int32) (h : FD s p r) : r = -1 ↔ ∀ i j, i < s → j ≤ i → ¬ p i j := by
  rcases h with ⟨i, j, h3, h4, h5, rfl, h6⟩ | ⟨rfl, h3⟩
  · refine ⟨fun e => ?_, fun z => absurd h5 (z i j h3 h4)⟩
    have := congrArg Int32.toInt e
    rw [toInt_nI (by omega)] at this
    have e2 : (-1 : Int32).toInt = -1 := by decide
    omega
  · exact ⟨fun _ => h3, fun _ => rfl⟩
theorem rec_eq {S : SS} {r : Int32} (hs : S.1 0 3 ≤ 10) (h : ((S.1 10 0 = 0 ∨ S.1 11 1 = 0) ∧ r = nI 100) ∨ (S.1 10 0 ≠ 0 ∧ S.1 11 1 ≠ 0 ∧ FD (S.1 0 3) (fun i j => S.1 (10 + i) j ≠ col (S.1 0 3) (rcG (S.1 0 3) (fun i => S.1 (10 + i))) (rcF (S.1 0 3) (fun i => S.1 (10 + i))) j i) r)) : r = rcg S := by
  unfold rcg
  rcases h with ⟨h, rfl⟩ | ⟨h1, h2, h3⟩
  · rw [ic_t h]
  · rw [ic_f (fun z => by rcases z with z | z <;> contradiction)]
    exact FD_eq hs h3
theorem WC.set {C : Core} {k i v : Nat} (h : WC C) (hk : 2 ≤ k ∧ k < 8) (hi : i < C 0 3) (hv : v < 1000003) : WC (setC C k i v) := by
  obtain ⟨h1, h2, h3, h4, h5⟩ := h
  have e : setC C k i v 0 3 = C 0 3 := by rw [setC, if_neg (by omega)]
  refine ⟨by rw [e]; exact h1, fun q hq j hj => ?_, fun h0 q hq j hj1 hj2 => ?_, fun t ht => ?_, fun a b ha hb hb2 => ?_⟩
  · unfold setC
    split
    · exact hv
    · exact h2 q hq j hj
  · rw [e] at h0 hj1
    rw [setC, if_neg (by omega)]
    exact h3 h0 q hq j hj1 hj2
  · rw [setC, if_neg (by omega), setC, if_neg (by omega), setC, if_neg (by omega)]
    exact h4 t ht
  · rw [setC, if_neg (by omega)]
    exact h5 a b ha hb hb2
theorem WC.drw {C : Core} (x : Int32) (k : Nat) (h : WC C) (h0 : 0 < C 0 3) : WC (drw C x k) ∧ drw C x k 0 3 = C 0 3 := by
  induction k generalizing C x with
  | zero => exact ⟨h, rfl⟩
  | succ k ih =>
    have m6 := Nat.mod_lt ((nxs x).toUInt32.toNat / 256) (show 6 > 0 by decide)
    have ms := Nat.mod_lt ((nxs (nxs x)).toUInt32.toNat / 256) h0
    have e : setC C (2 + dro (nxs x) 6) (dro (nxs (nxs x)) (C 0 3)) (fm (nI (dro (nxs (nxs (nxs x))) 19) - nI 9)) 0 3 = C 0 3 := by rw [setC, if_neg (by omega)]
    have := ih (nxs (nxs (nxs x))) (h.set (k := 2 + dro (nxs x) 6) (i := dro (nxs (nxs x)) (C 0 3)) (v := fm (nI (dro (nxs (nxs (nxs x))) 19) - nI 9)) ⟨by omega, by unfold dro; omega⟩ ms (fm_lt _)) (by rw [e]; exact h0)
    rw [e] at this
    exact this
section C47
variable {o : OM} {l : Launch} {n : Nat} {M : Mem} {S : SS}
theorem c_X_power {t k to : Int32} (hW : WS S) (hX : XR M S) : CI o l m_X_power n [.ref 0, .int t, .int k, .int to] M (PX M (f_power S t k to)) := by
  refine ci_of rfl rfl rfl (Nat.le_of_ble_eq_true rfl) ?_
  have x8 := hX.2.2.2.2
  refine r_aload_n d_X_power_0 rfl ?_
  refine r_iload_n d_X_power_1 rfl ?_
  by_cases hg1 : okT S t
  case neg =>
    refine g_Vi (av := [.int t]) d_X_power_2 k_X_146 ws_X_isTable (by decide) rfl rfl (Nat.le_of_ble_eq_true rfl) rfl (c_X_isTable_f hW hX hg1) ?_
    rintro _ _ ⟨rfl, rfl⟩
    refine n_if_eq d_X_power_5 (by omega) (fun _ => ?_) (fun h9 => absurd h9 (by decide))
    refine r_iconst (v := -1) d_X_power_28 (by decide) ?_
    refine g_reti d_X_power_29 rfl ?_
    exact PX.no hX (fun q9 => hg1 q9.1)
  refine g_Vi (av := [.int t]) d_X_power_2 k_X_146 ws_X_isTable (by decide) rfl rfl (Nat.le_of_ble_eq_true rfl) rfl (c_X_isTable_t hW hX hg1) ?_
  rintro _ _ ⟨rfl, rfl⟩
  refine n_if_eq d_X_power_5 (by omega) (fun h9 => absurd h9 (by decide)) (fun _ => ?_)
  refine r_aload_n d_X_power_8 rfl ?_
  refine r_iload_n d_X_power_9 rfl ?_
  by_cases hg2 : okT S to
  case neg =>
    refine g_Vi (av := [.int to]) d_X_power_10 k_X_146 ws_X_isTable (by decide) rfl rfl (Nat.le_of_ble_eq_true rfl) rfl (c_X_isTable_f hW hX hg2) ?_
    rintro _ _ ⟨rfl, rfl⟩
    refine n_if_eq d_X_power_13 (by omega) (fun _ => ?_) (fun h9 => absurd h9 (by decide))
    refine r_iconst (v := -1) d_X_power_28 (by decide) ?_
    refine g_reti d_X_power_29 rfl ?_
    exact PX.no hX (fun q9 => hg2 q9.2.1)
  refine g_Vi (av := [.int to]) d_X_power_10 k_X_146 ws_X_isTable (by decide) rfl rfl (Nat.le_of_ble_eq_true rfl) rfl (c_X_isTable_t hW hX hg2) ?_
  rintro _ _ ⟨rfl, rfl⟩
  refine n_if_eq d_X_power_13 (by omega) (fun h9 => absurd h9 (by decide)) (fun _ => ?_)
  have q1 := hg1
  have q3 := hg2
  rw [f_power]
  unfold gOf fOf
  obtain ⟨h0, ha1, ha2⟩ := hg1
  obtain ⟨_, ht1, ht2⟩ := hg2
  obtain ⟨z1, z2⟩ := hW.sz h0
  generalize ix t = a' at *
  subst ha2
  generalize ix to = t' at *
  subst ht2
  rcases pw_cases k with ⟨h1, h2⟩ | ⟨h1, h2, h3⟩ | ⟨h1, h2, h3, h4⟩ | ⟨h1, h2, h3, h4, h5, h6⟩
  · refine r_iload_n d_X_power_16 rfl ?_
    refine r_bipush (v := -9) d_X_power_17 (by decide) ?_
    refine r_icmp_lt d_X_power_19 (fun hc => ?_) (fun hc => ?_)
    · refine r_iconst (v := -1) d_X_power_28 (by decide) ?_
      refine g_reti d_X_power_29 rfl ?_
      exact PX.no hX (fun z => h2 z.2.2)
    · exact absurd h1 hc
  · refine r_iload_n d_X_power_16 rfl ?_
    refine r_bipush (v := -9) d_X_power_17 (by decide) ?_
    refine r_icmp_lt d_X_power_19 (fun hc => ?_) (fun hc => ?_)
    · exact absurd hc h1
    · refine r_iload_n d_X_power_22 rfl ?_
      refine r_bipush (v := nI 9) d_X_power_23 (by decide) ?_
      refine r_icmp_le d_X_power_25 (fun hc2 => ?_) (fun hc2 => ?_)
      · exact absurd hc2 h2
      · refine r_iconst (v := -1) d_X_power_28 (by decide) ?_
        refine g_reti d_X_power_29 rfl ?_
        exact PX.no hX (fun z => h3 z.2.2)
  · rw [ic_t ⟨q1, q3, Or.inl h4⟩, ic_f h3]
    obtain ⟨h4, h5⟩ := h4
    refine r_iload_n d_X_power_16 rfl ?_
    refine r_bipush (v := -9) d_X_power_17 (by decide) ?_
    refine r_icmp_lt d_X_power_19 (fun hc => ?_) (fun hc => ?_)
    · exact absurd hc h1
    · refine r_iload_n d_X_power_22 rfl ?_
      refine r_bipush (v := nI 9) d_X_power_23 (by decide) ?_
      refine r_icmp_le d_X_power_25 (fun hc2 => ?_) (fun hc2 => ?_)
      · refine r_aload_n d_X_power_30 rfl ?_
        refine g_getr (b := 397) d_X_power_31 f_X_53 rfl rfl rfl ?_
        refine r_aload_n d_X_power_34 rfl ?_
        refine g_getr (b := 37) d_X_power_35 f_X_24 rfl rfl rfl ?_
        refine g_getr (b := 45) d_X_power_38 f_X_171 rfl rfl rfl ?_
        refine r_iload_n d_X_power_41 rfl ?_
        refine g_aald (b := (57+3*a')) (t := 7) (N := 4) d_X_power_42 rfl (by decide) (by omega) (by omega) (g_tab ha1) ?_
        refine r_iload_n d_X_power_43 rfl ?_
        refine r_aload_n d_X_power_44 rfl ?_
        refine g_getr (b := 37) d_X_power_45 f_X_24 rfl rfl rfl ?_
        refine g_geti d_X_power_48 f_X_99 rfl rfl ?_
        refine r_top (y := (nI (S.1 0 3))) (hX.1.1) ?_
        refine g_Vv (av := [.ref (57+3*a'), .int k, .int (nI (S.1 0 3))]) d_X_power_51 k_X_183 ws_Tb_powerOf (by decide) rfl rfl (Nat.le_of_ble_eq_true rfl) rfl (c_Tb_powerOf (m := ix k) (t_tab ha1) z1 z2 (by omega) (Or.inl h5) (by omega) x8 (hX.tab hW ha1)) ?_
        rintro M1 ⟨k1, k2, hB1⟩
        refine r_aload_n d_X_power_54 rfl ?_
        refine r_iload_n d_X_power_55 rfl ?_
        refine g_Vi (av := [.int (nI t')]) d_X_power_56 k_X_164 ws_X_landTable (by decide) rfl rfl (Nat.le_of_ble_eq_true rfl) rfl (c_X_landTable hW (hX.bf hB1) h0 ht1 (k1 h5)) ?_
        rintro r M2 k4
        refine g_reti d_X_power_59 rfl ?_
        exact k4.bf hB1
      · exact absurd h2 hc2
  · rw [ic_t ⟨q1, q3, Or.inr ⟨h3, h4⟩⟩, ic_t h3]
    obtain ⟨h4, h7⟩ := h4
    refine r_iload_n d_X_power_16 rfl ?_
    refine r_bipush (v := -9) d_X_power_17 (by decide) ?_
    refine r_icmp_lt d_X_power_19 (fun hc => ?_) (fun hc => ?_)
    · exact absurd hc h1
    · refine r_iload_n d_X_power_22 rfl ?_
      refine r_bipush (v := nI 9) d_X_power_23 (by decide) ?_
      refine r_icmp_le d_X_power_25 (fun hc2 => ?_) (fun hc2 => ?_)
      · refine r_aload_n d_X_power_30 rfl ?_
        refine g_getr (b := 397) d_X_power_31 f_X_53 rfl rfl rfl ?_
        refine r_aload_n d_X_power_34 rfl ?_
        refine g_getr (b := 37) d_X_power_35 f_X_24 rfl rfl rfl ?_
        refine g_getr (b := 45) d_X_power_38 f_X_171 rfl rfl rfl ?_
        refine r_iload_n d_X_power_41 rfl ?_
        refine g_aald (b := (57+3*a')) (t := 7) (N := 4) d_X_power_42 rfl (by decide) (by omega) (by omega) (g_tab ha1) ?_
        refine r_iload_n d_X_power_43 rfl ?_
        refine r_aload_n d_X_power_44 rfl ?_
        refine g_getr (b := 37) d_X_power_45 f_X_24 rfl rfl rfl ?_
        refine g_geti d_X_power_48 f_X_99 rfl rfl ?_
        refine r_top (y := (nI (S.1 0 3))) (hX.1.1) ?_
        refine g_Vv (av := [.ref (57+3*a'), .int k, .int (nI (S.1 0 3))]) d_X_power_51 k_X_183 ws_Tb_powerOf (by decide) rfl rfl (Nat.le_of_ble_eq_true rfl) rfl (c_Tb_powerOf (m := ix (-k)) (t_tab ha1) z1 z2 (by omega) (Or.inr ⟨h6, h5⟩) (by omega) x8 (hX.tab hW ha1)) ?_
        rintro M1 ⟨k1, k2, hB1⟩
        refine r_aload_n d_X_power_54 rfl ?_
        refine r_iload_n d_X_power_55 rfl ?_
        refine g_Vi (av := [.int (nI t')]) d_X_power_56 k_X_164 ws_X_landTable (by decide) rfl rfl (Nat.le_of_ble_eq_true rfl) rfl (c_X_landTable hW (hX.bf hB1) h0 ht1 (k2 ⟨h6, h5⟩)) ?_
        rintro r M2 k4
        refine g_reti d_X_power_59 rfl ?_
        exact k4.bf hB1
      · exact absurd h2 hc2
theorem c_X_fails {t a b : Int32} (hW : WS S) (hX : XR M S) : CI o l m_X_fails n [.ref 0, .int t, .int a, .int b] M (PX M (f_fails S t a b)) := by
  refine ci_of rfl rfl rfl (Nat.le_of_ble_eq_true rfl) ?_
  have x8 := hX.2.2.2.2
  refine r_aload_n d_X_fails_0 rfl ?_
  refine r_iload_n d_X_fails_1 rfl ?_
  by_cases hg1 : okT S t
  case neg =>
    refine g_Vi (av := [.int t]) d_X_fails_2 k_X_146 ws_X_isTable (by decide) rfl rfl (Nat.le_of_ble_eq_true rfl) rfl (c_X_isTable_f hW hX hg1) ?_
    rintro _ _ ⟨rfl, rfl⟩
    refine n_if_eq d_X_fails_5 (by omega) (fun _ => ?_) (fun h9 => absurd h9 (by decide))
    refine r_iconst (v := -1) d_X_fails_24 (by decide) ?_
    refine g_reti d_X_fails_25 rfl ?_
    exact PX.no hX (fun q9 => hg1 q9.1)
  refine g_Vi (av := [.int t]) d_X_fails_2 k_X_146 ws_X_isTable (by decide) rfl rfl (Nat.le_of_ble_eq_true rfl) rfl (c_X_isTable_t hW hX hg1) ?_
  rintro _ _ ⟨rfl, rfl⟩
  refine n_if_eq d_X_fails_5 (by omega) (fun h9 => absurd h9 (by decide)) (fun _ => ?_)
  refine r_aload_n d_X_fails_8 rfl ?_
  refine r_iload_n d_X_fails_9 rfl ?_
  by_cases hg2 : okS S a
  case neg =>
    refine g_Vi (av := [.int a]) d_X_fails_10 k_X_105 ws_X_isSeries (by decide) rfl rfl (Nat.le_of_ble_eq_true rfl) rfl (c_X_isSeries_f hW hX hg2) ?_
    rintro _ _ ⟨rfl, rfl⟩
    refine n_if_eq d_X_fails_13 (by omega) (fun _ => ?_) (fun h9 => absurd h9 (by decide))
    refine r_iconst (v := -1) d_X_fails_24 (by decide) ?_
    refine g_reti d_X_fails_25 rfl ?_
    exact PX.no hX (fun q9 => hg2 q9.2.1)
  refine g_Vi (av := [.int a]) d_X_fails_10 k_X_105 ws_X_isSeries (by decide) rfl rfl (Nat.le_of_ble_eq_true rfl) rfl (c_X_isSeries_t hW hX hg2) ?_
  rintro _ _ ⟨rfl, rfl⟩
  refine n_if_eq d_X_fails_13 (by omega) (fun h9 => absurd h9 (by decide)) (fun _ => ?_)
  refine r_aload_n d_X_fails_16 rfl ?_
  refine r_iload_n d_X_fails_17 rfl ?_
  by_cases hg3 : okS S b
  case neg =>
    refine g_Vi (av := [.int b]) d_X_fails_18 k_X_105 ws_X_isSeries (by decide) rfl rfl (Nat.le_of_ble_eq_true rfl) rfl (c_X_isSeries_f hW hX hg3) ?_
    rintro _ _ ⟨rfl, rfl⟩
    refine n_if_ne d_X_fails_21 (by omega) (fun h9 => absurd h9 (by decide)) (fun _ => ?_)
    refine r_iconst (v := -1) d_X_fails_24 (by decide) ?_
    refine g_reti d_X_fails_25 rfl ?_
    exact PX.no hX (fun q9 => hg3 q9.2.2)
  refine g_Vi (av := [.int b]) d_X_fails_18 k_X_105 ws_X_isSeries (by decide) rfl rfl (Nat.le_of_ble_eq_true rfl) rfl (c_X_isSeries_t hW hX hg3) ?_
  rintro _ _ ⟨rfl, rfl⟩
  refine n_if_ne d_X_fails_21 (by omega) (fun _ => ?_) (fun h9 => absurd h9 (by decide))
  rw [f_fails, ic_t ⟨hg1, hg2, hg3⟩]
  unfold gOf fOf
  obtain ⟨h0, ha1, ha2⟩ := hg1
  obtain ⟨_, hb1, hb2⟩ := hg2
  obtain ⟨_, ht1, ht2⟩ := hg3
  obtain ⟨z1, z2⟩ := hW.sz h0
  generalize ix t = a' at *
  subst ha2
  generalize ix a = b' at *
  subst hb2
  generalize ix b = t' at *
  subst ht2
  refine r_aload_n d_X_fails_26 rfl ?_
  refine g_getr (b := 397) d_X_fails_27 f_X_53 rfl rfl rfl ?_
  refine r_aload_n d_X_fails_30 rfl ?_
  refine g_getr (b := 37) d_X_fails_31 f_X_24 rfl rfl rfl ?_
  refine g_getr (b := 45) d_X_fails_34 f_X_171 rfl rfl rfl ?_
  refine r_iload_n d_X_fails_37 rfl ?_
  refine g_aald (b := (57+3*a')) (t := 7) (N := 4) d_X_fails_38 rfl (by decide) (by omega) (by omega) (g_tab ha1) ?_
  refine r_aload_n d_X_fails_39 rfl ?_
  refine g_getr (b := 37) d_X_fails_40 f_X_24 rfl rfl rfl ?_
  refine g_getr (b := 38) d_X_fails_43 f_X_112 rfl rfl rfl ?_
  refine r_iload_n d_X_fails_46 rfl ?_
  refine g_aald (b := (39+b')) (t := 5) (N := 6) d_X_fails_47 rfl (by decide) (by omega) (by omega) (g_ser hb1) ?_
  refine r_aload_n d_X_fails_48 rfl ?_
  refine g_getr (b := 37) d_X_fails_49 f_X_24 rfl rfl rfl ?_
  refine g_geti d_X_fails_52 f_X_99 rfl rfl ?_
  refine r_top (y := (nI (S.1 0 3))) (hX.1.1) ?_
  refine g_Vv (av := [.ref (57+3*a'), .ref (39+b'), .int (nI (S.1 0 3))]) d_X_fails_55 k_X_194 ws_Tb_makeOf (by decide) rfl rfl (Nat.le_of_ble_eq_true rfl) rfl (c_Tb_makeOf (t_tab ha1) (t_ser hb1) z1 z2 (by omega) (by omega) (hX.tab hW ha1) (hX.row hW hb1)) ?_
  rintro M1 ⟨k1, k2⟩
  have hB1 : BF M M1 := BF.of x8 k2 (by decide) (by decide) (fun b b1 b2 _ => by
    obtain rfl : b = 407 := by omega
    exact ⟨_, k1⟩)
  have hX1 := hX.bf hB1
  refine r_iconst (v := nI 0) d_X_fails_58 (by decide) ?_
  refine r_istore (L' := [some (.ref 0), some (.int (nI a')), some (.int (nI b')), some (.int (nI t')), some (.int (nI 0))]) d_X_fails_59 (by decide) rfl ?_
  suffices H : ∀ d k, k + d = S.1 0 3 → (∀ i, i < k → ¬ (mulG (S.1 0 3) (S.1 (21 + 3 * a')) (S.1 (22 + 3 * a')) (S.1 (2 + b')) i ≠ S.1 (2 + t') i)) → Rn o l m_X_fails (0, 0) 61 [some (.ref 0), some (.int (nI a')), some (.int (nI b')), some (.int (nI t')), some (.int (nI k))] [] (gh n M1) (QI n (PX M (f1v (S.1 0 3) (fun i => mulG (S.1 0 3) (S.1 (21 + 3 * a')) (S.1 (22 + 3 * a')) (S.1 (2 + b')) i ≠ S.1 (2 + t') i), S))) from H (S.1 0 3) 0 (by omega) (fun i hi => by omega)
  intro d
  induction d with
  | zero =>
    intro k hk hp
    refine r_iload d_X_fails_61 rfl ?_
    refine r_aload_n d_X_fails_63 rfl ?_
    refine g_getr (b := 37) d_X_fails_64 f_X_24 rfl rfl rfl ?_
    refine g_geti d_X_fails_67 f_X_99 rfl rfl ?_
    refine r_top (y := (nI (S.1 0 3))) (hX1.1.1) ?_
    refine n_icmp_ge d_X_fails_70 (by omega) (by omega) (fun hc => ?_) (fun hc => ?_)
    · refine r_iconst (v := -1) d_X_fails_107 (by decide) ?_
      refine g_reti d_X_fails_108 rfl ?_
      exact ⟨F1_eq (Or.inr ⟨rfl, fun i hi => hp i (by omega)⟩), hX1, hB1.kx⟩
    · omega
  | succ d ih =>
    intro k hk hp
    refine r_iload d_X_fails_61 rfl ?_
    refine r_aload_n d_X_fails_63 rfl ?_
    refine g_getr (b := 37) d_X_fails_64 f_X_24 rfl rfl rfl ?_
    refine g_geti d_X_fails_67 f_X_99 rfl rfl ?_
    refine r_top (y := (nI (S.1 0 3))) (hX1.1.1) ?_
    refine n_icmp_ge d_X_fails_70 (by omega) (by omega) (fun hc => ?_) (fun hc => ?_)
    · omega
    · refine r_aload_n d_X_fails_73 rfl ?_
      refine g_getr (b := 397) d_X_fails_74 f_X_53 rfl rfl rfl ?_
      refine g_getr (b := 407) d_X_fails_77 f_X_191 rfl rfl rfl ?_
      refine r_iload d_X_fails_80 rfl ?_
      refine g_iald d_X_fails_82 rfl (by omega) (by omega) ?_
      refine r_top (y := nI (mulG (S.1 0 3) (S.1 (21 + 3 * a')) (S.1 (22 + 3 * a')) (S.1 (2 + b')) k)) ((k1 k (by omega)).1) ?_
      refine r_aload_n d_X_fails_83 rfl ?_
      refine g_getr (b := 37) d_X_fails_84 f_X_24 rfl rfl rfl ?_
      refine g_getr (b := 38) d_X_fails_87 f_X_112 rfl rfl rfl ?_
      refine r_iload_n d_X_fails_90 rfl ?_
      refine g_aald (b := (39+t')) (t := 5) (N := 6) d_X_fails_91 rfl (by decide) (by omega) (by omega) (g_ser ht1) ?_
      refine r_iload d_X_fails_92 rfl ?_
      refine g_iald d_X_fails_94 (t_ser ht1) (by omega) (by omega) ?_
      refine r_top (y := nI (S.1 (2 + t') k)) ((hX1.row hW ht1 k (by omega)).1) ?_
      refine n_icmp_eq d_X_fails_95 (by have h9 := (k1 k (by omega)).2; omega) (by have h9 := (hX1.row hW ht1 k (by omega)).2; omega) (fun hc2 => ?_) (fun hc2 => ?_)
      · refine n_iinc (c := 1) (L' := [some (.ref 0), some (.int (nI a')), some (.int (nI b')), some (.int (nI t')), some (.int (nI (k + 1)))]) d_X_fails_101 rfl rfl (by decide) rfl ?_
        refine r_goto d_X_fails_104 ?_
        refine ih (k + 1) (by omega) (fun i hi => ?_)
        by_cases e : i = k
        · rw [e]; exact fun z => z hc2
        · exact hp i (by omega)
      · refine r_iload d_X_fails_98 rfl ?_
        refine g_reti d_X_fails_100 rfl ?_
        exact ⟨F1_eq (Or.inl ⟨k, hc, hc2, rfl, hp⟩), hX1, hB1.kx⟩
theorem c_X_lay {t : Int32} (hW : WS S) (hX : XR M S) : CI o l m_X_lay n [.ref 0, .int t] M (PX M (f_lay S t)) := by
  refine ci_of rfl rfl rfl (Nat.le_of_ble_eq_true rfl) ?_
  obtain ⟨x1, ⟨nx, x2⟩, x3, x4, x8⟩ := id hX
  refine r_aload_n d_X_lay_0 rfl ?_
  refine r_iload_n d_X_lay_1 rfl ?_
  by_cases hg1 : okT S t
  case neg =>
    refine g_Vi (av := [.int t]) d_X_lay_2 k_X_146 ws_X_isTable (by decide) rfl rfl (Nat.le_of_ble_eq_true rfl) rfl (c_X_isTable_f hW hX hg1) ?_
    rintro _ _ ⟨rfl, rfl⟩
    refine n_if_ne d_X_lay_5 (by omega) (fun h9 => absurd h9 (by decide)) (fun _ => ?_)
    refine r_iconst (v := -1) d_X_lay_8 (by decide) ?_
    refine g_reti d_X_lay_9 rfl ?_
    exact PX.no hX (fun q9 => hg1 q9)
  refine g_Vi (av := [.int t]) d_X_lay_2 k_X_146 ws_X_isTable (by decide) rfl rfl (Nat.le_of_ble_eq_true rfl) rfl (c_X_isTable_t hW hX hg1) ?_
  rintro _ _ ⟨rfl, rfl⟩
  refine n_if_ne d_X_lay_5 (by omega) (fun _ => ?_) (fun h9 => absurd h9 (by decide))
  rw [f_lay, ic_t hg1]
  unfold gOf fOf
  obtain ⟨h0, ha1, ha2⟩ := hg1
  obtain ⟨z1, z2⟩ := hW.sz h0
  generalize ix t = a' at *
  subst ha2
  refine r_aload_n d_X_lay_10 rfl ?_
  refine g_getr (b := 69) d_X_lay_11 f_X_31 rfl rfl rfl ?_
  refine r_aload_n d_X_lay_14 rfl ?_
  refine g_getr (b := 37) d_X_lay_15 f_X_24 rfl rfl rfl ?_
  refine g_Vv (av := [.ref 37]) d_X_lay_18 k_X_116 ws_Hi_keep (by decide) rfl rfl (Nat.le_of_ble_eq_true rfl) rfl (c_Hi_keep x1 x2) ?_
  rintro M1 ⟨k1, k2⟩
  have x1' : StA M1 37 S.1 := x1.kept (fun z z1 z2 => k2 z (by omega))
  have x8' : BO M1 := x8.kept (fun z z1 => k2 z (by omega))
  have hT1 : TbA M1 (57 + 3 * a') (S.1 (21 + 3 * a')) (S.1 (22 + 3 * a')) := (hX.tab hW ha1).kept (k2 _ (by omega)) (k2 _ (by omega))
  refine r_aload_n d_X_lay_21 rfl ?_
  refine g_getr (b := 397) d_X_lay_22 f_X_53 rfl rfl rfl ?_
  refine r_aload_n d_X_lay_25 rfl ?_
  refine g_getr (b := 37) d_X_lay_26 f_X_24 rfl rfl rfl ?_
  refine g_getr (b := 45) d_X_lay_29 f_X_171 rfl rfl rfl ?_
  refine r_iload_n d_X_lay_32 rfl ?_
  refine g_aald (b := (57+3*a')) (t := 7) (N := 4) d_X_lay_33 rfl (by decide) (by omega) (by omega) (g_tab ha1) ?_
  refine r_aload_n d_X_lay_34 rfl ?_
  refine g_getr (b := 37) d_X_lay_35 f_X_24 rfl rfl rfl ?_
  refine g_geti d_X_lay_38 f_X_99 rfl rfl ?_
  refine r_top (y := (nI (S.1 0 3))) (x1'.1) ?_
  refine r_aload_n d_X_lay_41 rfl ?_
  refine g_getr (b := 37) d_X_lay_42 f_X_24 rfl rfl rfl ?_
  refine g_getr (b := 46) d_X_lay_45 f_X_218 rfl rfl rfl ?_
  refine g_Vv (av := [.ref (57+3*a'), .int (nI (S.1 0 3)), .ref 46]) d_X_lay_48 k_X_221 ws_Tb_layEntries (by decide) rfl rfl (Nat.le_of_ble_eq_true rfl) rfl (c_Tb_layEntries (t_tab ha1) z1 z2 (by omega) x8' hT1) ?_
  rintro M2 ⟨k3, k4, k5⟩
  have hT2 : TbA M2 (57 + 3 * a') (S.1 (21 + 3 * a')) (S.1 (22 + 3 * a')) := hT1.kept (k4 _ (by omega) (by omega)) (k4 _ (by omega) (by omega))
  refine r_aload_n d_X_lay_51 rfl ?_
  refine g_getr (b := 397) d_X_lay_52 f_X_53 rfl rfl rfl ?_
  refine r_aload_n d_X_lay_55 rfl ?_
  refine g_getr (b := 37) d_X_lay_56 f_X_24 rfl rfl rfl ?_
  refine g_getr (b := 45) d_X_lay_59 f_X_171 rfl rfl rfl ?_
  refine r_iload_n d_X_lay_62 rfl ?_
  refine g_aald (b := (57+3*a')) (t := 7) (N := 4) d_X_lay_63 rfl (by decide) (by omega) (by omega) (g_tab ha1) ?_
  refine r_aload_n d_X_lay_64 rfl ?_
  refine g_getr (b := 37) d_X_lay_65 f_X_24 rfl rfl rfl ?_
  refine g_geti d_X_lay_68 f_X_99 rfl rfl ?_
  refine r_top (y := (nI (S.1 0 3))) (by rw [k4 37 (by omega) (by omega)]; exact x1'.1) ?_
  refine g_Vi (av := [.ref (57+3*a'), .int (nI (S.1 0 3))]) d_X_lay_71 k_X_207 ws_Tb_kindsOf (by decide) rfl rfl (Nat.le_of_ble_eq_true rfl) rfl (c_Tb_kindsOf (t_tab ha1) z1 z2 (by omega) k5 hT2) ?_
  rintro r M3 ⟨rfl, hB3⟩
  refine g_reti d_X_lay_74 rfl ?_
  have y1 : StA M3 37 (layC S.1 (S.1 (21 + 3 * a')) (S.1 (22 + 3 * a'))) := by
    refine ⟨by rw [hB3.1 _ (by omega), k4 37 (by omega) (by omega), layC, if_neg (by omega)]; exact x1'.1, fun q hq j hj => ?_⟩
    have hq2 : q < 32 := by unfold rIx at hq; omega
    rw [hB3.1 _ (by omega)]
    unfold layC
    by_cases e : 10 ≤ q ∧ q < 20
    · obtain ⟨i, rfl⟩ : ∃ i, q = 10 + i := ⟨q - 10, by omega⟩
      rw [show 37 + (10 + i) = 47 + i by omega, k3 i j (by omega), show 10 + i - 10 = i by omega]
      by_cases e2 : i < S.1 0 3 ∧ j ≤ i
      · rw [if_pos e2, if_pos (by omega)]
      · rw [if_neg e2, if_neg (by omega), show 47 + i = 37 + (10 + i) by omega]
        exact x1'.2 _ hq j hj
    · rw [k4 _ (by omega) (by omega), if_neg (by omega)]
      exact x1'.2 q hq j hj
  have y2 := hX.act k1 k2 y1 (fun z q1 q2 => by rw [hB3.1 z (by omega), k4 z (by omega) (by omega)]) hB3.2
  exact ⟨rfl, y2.1, y2.2⟩
theorem c_X_unlike (hW : WS S) (hX : XR M S) : CI o l m_X_unlike n [.ref 0] M (PX M (f_unlike S)) := by
  refine ci_of rfl rfl rfl (Nat.le_of_ble_eq_true rfl) ?_
  have x8 := hX.2.2.2.2
  have hs10 := hW.sz10
  refine r_aload_n d_X_unlike_0 rfl ?_
  refine g_getr (b := 37) d_X_unlike_1 f_X_24 rfl rfl rfl ?_
  refine g_geti d_X_unlike_4 f_X_99 rfl rfl ?_
  refine r_top (y := (nI (S.1 0 3))) (hX.1.1) ?_
  refine n_if_ne d_X_unlike_7 (by omega) (fun hc => ?_) (fun hc => ?_)
  · obtain ⟨z1, z2⟩ := hW.sz (Nat.pos_of_ne_zero hc)
    rw [f_unlike, ic_f hc]
    refine r_aload_n d_X_unlike_13 rfl ?_
    refine g_getr (b := 397) d_X_unlike_14 f_X_53 rfl rfl rfl ?_
    refine r_aload_n d_X_unlike_17 rfl ?_
    refine g_getr (b := 37) d_X_unlike_18 f_X_24 rfl rfl rfl ?_
    refine g_getr (b := 46) d_X_unlike_21 f_X_218 rfl rfl rfl ?_
    refine r_aload_n d_X_unlike_24 rfl ?_
    refine g_getr (b := 37) d_X_unlike_25 f_X_24 rfl rfl rfl ?_
    refine g_geti d_X_unlike_28 f_X_99 rfl rfl ?_
    refine r_top (y := (nI (S.1 0 3))) (hX.1.1) ?_
    refine g_Vi (av := [.ref 46, .int (nI (S.1 0 3))]) d_X_unlike_31 k_X_225 ws_Tb_recognise (by decide) rfl rfl (Nat.le_of_ble_eq_true rfl) rfl (c_Tb_recognise z1 z2 x8 (fun i hi => hX.fr hW hi)) ?_
    rintro r M1 ⟨hB1, k1⟩
    refine g_reti d_X_unlike_34 rfl ?_
    refine ⟨rec_eq z2 ?_, hX.bf hB1, hB1.kx⟩
    rcases k1 with k1 | ⟨k1, k2, k3, k4⟩
    · exact Or.inl k1
    · exact Or.inr ⟨k1, k2, k3⟩
  · rw [f_unlike, ic_t hc]
    refine r_bipush (v := nI 101) d_X_unlike_10 (by decide) ?_
    refine g_reti d_X_unlike_12 rfl ?_
    exact ⟨rfl, hX, fun _ _ => rfl⟩
theorem c_X_rebuild {t : Int32} (hW : WS S) (hX : XR M S) : CI o l m_X_rebuild n [.ref 0, .int t] M (PX M (f_rebuild S t)) := by
  refine ci_of rfl rfl rfl (Nat.le_of_ble_eq_true rfl) ?_
  have x8 := hX.2.2.2.2
  by_cases hg1 : okT S t
  · refine r_aload_n d_X_rebuild_0 rfl ?_
    refine r_iload_n d_X_rebuild_1 rfl ?_
    refine g_Vi (av := [.int t]) d_X_rebuild_2 k_X_146 ws_X_isTable (by decide) rfl rfl (Nat.le_of_ble_eq_true rfl) rfl (c_X_isTable_t hW hX hg1) ?_
    rintro _ _ ⟨rfl, rfl⟩
    have q1 := hg1
    rw [f_rebuild]
    obtain ⟨h0, ha1, ha2⟩ := hg1
    obtain ⟨z1, z2⟩ := hW.sz h0
    generalize ix t = a' at *
    subst ha2
    refine n_if_eq d_X_rebuild_5 (by omega) (fun h9 => absurd h9 (by decide)) (fun _ => ?_)
    refine r_aload_n d_X_rebuild_8 rfl ?_
    refine g_getr (b := 397) d_X_rebuild_9 f_X_53 rfl rfl rfl ?_
    refine r_aload_n d_X_rebuild_12 rfl ?_
    refine g_getr (b := 37) d_X_rebuild_13 f_X_24 rfl rfl rfl ?_
    refine g_getr (b := 46) d_X_rebuild_16 f_X_218 rfl rfl rfl ?_
    refine r_aload_n d_X_rebuild_19 rfl ?_
    refine g_getr (b := 37) d_X_rebuild_20 f_X_24 rfl rfl rfl ?_
    refine g_geti d_X_rebuild_23 f_X_99 rfl rfl ?_
    refine r_top (y := (nI (S.1 0 3))) (hX.1.1) ?_
    refine g_Vi (av := [.ref 46, .int (nI (S.1 0 3))]) d_X_rebuild_26 k_X_225 ws_Tb_recognise (by decide) rfl rfl (Nat.le_of_ble_eq_true rfl) rfl (c_Tb_recognise z1 z2 x8 (fun i hi => hX.fr hW hi)) ?_
    rintro r M1 ⟨hB1, k1⟩
    have e9 : r = rcg S := rec_eq z2 (by
      rcases k1 with k1 | ⟨k1, k2, k3, k4⟩
      · exact Or.inl k1
      · exact Or.inr ⟨k1, k2, k3⟩)
    refine r_iconst (v := -1) d_X_rebuild_29 (by decide) ?_
    refine r_icmp_eq d_X_rebuild_30 (fun hc => ?_) (fun hc => ?_)
    · rw [ic_t ⟨q1, by rw [← e9]; exact hc⟩]
      have hT : TbA M1 398 (rcG (S.1 0 3) (fun i => S.1 (10 + i))) (rcF (S.1 0 3) (fun i => S.1 (10 + i))) := by
        rcases k1 with ⟨_, k1⟩ | ⟨_, _, _, k4⟩
        · rw [k1] at hc
          exact absurd hc (by decide)
        · exact k4
      refine r_aload_n d_X_rebuild_35 rfl ?_
      refine r_iload_n d_X_rebuild_36 rfl ?_
      refine g_Vi (av := [.int (nI a')]) d_X_rebuild_37 k_X_164 ws_X_landTable (by decide) rfl rfl (Nat.le_of_ble_eq_true rfl) rfl (c_X_landTable hW (hX.bf hB1) h0 ha1 hT) ?_
      rintro r M2 k4
      refine g_reti d_X_rebuild_40 rfl ?_
      exact k4.bf hB1
    · refine r_iconst (v := -1) d_X_rebuild_33 (by decide) ?_
      refine g_reti d_X_rebuild_34 rfl ?_
      exact (PX.no (hX.bf hB1) (fun z => hc (by rw [e9]; exact z.2))).bf hB1
  · refine r_aload_n d_X_rebuild_0 rfl ?_
    refine r_iload_n d_X_rebuild_1 rfl ?_
    refine g_Vi (av := [.int t]) d_X_rebuild_2 k_X_146 ws_X_isTable (by decide) rfl rfl (Nat.le_of_ble_eq_true rfl) rfl (c_X_isTable_f hW hX hg1) ?_
    rintro _ _ ⟨rfl, rfl⟩
    refine n_if_eq d_X_rebuild_5 (by omega) (fun _ => ?_) (fun h9 => absurd h9 (by decide))
    refine r_iconst (v := -1) d_X_rebuild_33 (by decide) ?_
    refine g_reti d_X_rebuild_34 rfl ?_
    exact PX.no hX (fun z => hg1 z.1)
theorem c_X_nextSeed {x : Int32} : CI o l m_X_nextSeed n [.int x] M (fun r M' => r = nxs x ∧ M = M') := by
  refine ci_of rfl rfl rfl (Nat.le_of_ble_eq_true rfl) ?_
  refine r_iload_n d_X_nextSeed_0 rfl ?_
  refine r_ldc (v := nI 1103515245) d_X_nextSeed_1 c_X_251 ?_
  refine r_imul d_X_nextSeed_3 ?_
  refine r_sipush (v := nI 12345) d_X_nextSeed_4 (by decide) ?_
  refine r_iadd d_X_nextSeed_7 ?_
  refine g_reti d_X_nextSeed_8 rfl ?_
  exact ⟨rfl, rfl⟩
theorem c_X_drawOf {x : Int32} {k : Nat} (h0 : 0 < k) (hk : k < 100) : CI o l m_X_drawOf n [.int x, .int (nI k)] M (fun r M' => r = nI (dro x k) ∧ M = M') := by
  refine ci_of rfl rfl rfl (Nat.le_of_ble_eq_true rfl) ?_
  have hx : x.toUInt32.toNat < 2 ^ 32 := x.toUInt32.toNat_lt
  refine r_iload_n d_X_drawOf_0 rfl ?_
  refine n_if_le d_X_drawOf_1 (by omega) (fun hc => ?_) (fun hc => ?_)
  · omega
  · refine r_iload_n d_X_drawOf_4 rfl ?_
    refine r_bipush (v := nI 8) d_X_drawOf_5 (by decide) ?_
    refine r_iushr d_X_drawOf_7 ?_
    refine r_top (dro_i x) ?_
    refine r_iload_n d_X_drawOf_8 rfl ?_
    refine n_irem d_X_drawOf_9 (by omega) (by omega) (by omega) ?_
    refine r_goto d_X_drawOf_10 ?_
    refine g_reti d_X_drawOf_14 rfl ?_
    exact ⟨rfl, rfl⟩
theorem c_X_drawn {k x : Int32} (hW : WS S) (hX : XR M S) : CI o l m_X_drawn n [.ref 0, .int k, .int x] M (PX M (f_drawn S k x)) := by
  refine ci_of rfl rfl rfl (Nat.le_of_ble_eq_true rfl) ?_
  obtain ⟨x1, ⟨nx, x2⟩, x3, x4, x8⟩ := id hX
  have hs10 := hW.sz10
  refine r_iload_n d_X_drawn_0 rfl ?_
  refine r_iconst (v := nI 1) d_X_drawn_1 (by decide) ?_
  refine r_icmp_lt d_X_drawn_2 (fun hc => ?_) (fun hc => ?_)
  · refine r_iconst (v := -1) d_X_drawn_11 (by decide) ?_
    refine g_reti d_X_drawn_12 rfl ?_
    refine PX.no hX (fun z => ?_)
    obtain ⟨⟨a1, a2⟩, a3⟩ := z
    rw [a2] at hc
    have := (nI_ltI (a := ix k) (b := 1) (by omega) (by decide)).mp hc
    omega
  · refine r_iload_n d_X_drawn_5 rfl ?_
    refine r_bipush (v := nI 60) d_X_drawn_6 (by decide) ?_
    refine r_icmp_le d_X_drawn_8 (fun hc2 => ?_) (fun hc2 => ?_)
    · have i1 : inN 61 k := inN_t (by decide) (fun z => hc (by
        rw [Int32.lt_iff_toInt_lt] at z ⊢
        have e1 : (0 : Int32).toInt = 0 := by decide
        have e2 : (nI 1).toInt = 1 := by decide
        omega)) (fun z => Int32.not_lt.mpr z (le_lt1 (by decide) hc2))
      have i2 : 1 ≤ ix k := by
        rcases Nat.lt_or_ge (ix k) 1 with h | h
        · exfalso
          apply hc
          rw [i1.2]
          exact (nI_ltI (by omega) (by decide)).mpr h
        · exact h
      rw [f_drawn, ic_t ⟨i1, i2⟩]
      obtain ⟨i3, i4⟩ := i1
      generalize ix k = m at *
      subst i4
      refine r_aload_n d_X_drawn_13 rfl ?_
      refine g_getr (b := 37) d_X_drawn_14 f_X_24 rfl rfl rfl ?_
      refine g_geti d_X_drawn_17 f_X_99 rfl rfl ?_
      refine r_top (y := (nI (S.1 0 3))) (hX.1.1) ?_
      refine n_if_ne d_X_drawn_20 (by omega) (fun hc3 => ?_) (fun hc3 => ?_)
      · rw [ic_f hc3]
        obtain ⟨z1, z2⟩ := hW.sz (Nat.pos_of_ne_zero hc3)
        refine r_aload_n d_X_drawn_25 rfl ?_
        refine g_getr (b := 69) d_X_drawn_26 f_X_31 rfl rfl rfl ?_
        refine r_aload_n d_X_drawn_29 rfl ?_
        refine g_getr (b := 37) d_X_drawn_30 f_X_24 rfl rfl rfl ?_
        refine g_Vv (av := [.ref 37]) d_X_drawn_33 k_X_116 ws_Hi_keep (by decide) rfl rfl (Nat.le_of_ble_eq_true rfl) rfl (c_Hi_keep x1 x2) ?_
        rintro M1 ⟨k1, k2⟩
        refine r_iload_n d_X_drawn_36 rfl ?_
        refine r_istore_n (L' := [some (.ref 0), some (.int (nI m)), some (.int x), some (.int x), none, none, none]) d_X_drawn_37 (by decide) rfl ?_
        refine r_iconst (v := nI 0) d_X_drawn_38 (by decide) ?_
        refine r_istore (L' := [some (.ref 0), some (.int (nI m)), some (.int x), some (.int x), some (.int (nI 0)), none, none]) d_X_drawn_39 (by decide) rfl ?_
        suffices H : ∀ d q y C M2 u v, q + d = m → WC C → C 0 3 = S.1 0 3 → drw C y d = drw S.1 x m → StA M2 37 C → (∀ b, (b < 37 ∨ 69 ≤ b) → M2 b = M1 b) → Rn o l m_X_drawn (0, 0) 41 [some (.ref 0), some (.int (nI m)), some (.int x), some (.int y), some (.int (nI q)), u, v] [] (gh n M2) (QI n (PX M (nI (tot (drw S.1 x m) 6 % 1000003), kp S (drw S.1 x m)))) from
          H m 0 x S.1 M1 _ _ (by omega) hW.1 rfl rfl (x1.kept (fun z a1 a2 => k2 z (by omega))) (fun _ _ => rfl)
        intro d
        induction d with
        | zero =>
          intro q y C M2 u v hq hC hs hd hA hM
          obtain rfl : q = m := by omega
          refine r_iload d_X_drawn_41 rfl ?_
          refine r_iload_n d_X_drawn_43 rfl ?_
          refine n_icmp_ge d_X_drawn_44 (by omega) (by omega) (fun hc4 => ?_) (fun hc4 => ?_)
          · refine r_aload_n d_X_drawn_116 rfl ?_
            refine g_getr (b := 37) d_X_drawn_117 f_X_24 rfl rfl rfl ?_
            have hd' : C = drw S.1 x q := hd
            refine g_Vi (av := []) d_X_drawn_120 k_X_235 ws_St_sumOfSeries (by decide) rfl rfl (Nat.le_of_ble_eq_true rfl) rfl (c_St_sumOfSeries isSt_37 hA (by omega) (fun k' h1 h2 j hj => hC.2.1 k' (Or.inl ⟨h1, h2⟩) j hj)) ?_
            rintro r M3 ⟨rfl, rfl⟩
            refine g_reti d_X_drawn_123 rfl ?_
            have y2 := hX.act k1 k2 (C' := C) hA (fun z a1 a2 => hM z a1) (x8.kept (fun z a1 => by rw [hM z (by omega)]; exact k2 z (by omega)))
            rw [← hd']
            exact ⟨rfl, y2.1, y2.2⟩
          · omega
        | succ d ih =>
          intro q y C M2 u v hq hC hs hd hA hM
          have w6 : dro (nxs y) 6 < 6 := Nat.mod_lt _ (by decide)
          have w7 : dro (nxs (nxs y)) (S.1 0 3) < S.1 0 3 := Nat.mod_lt _ (by omega)
          refine r_iload d_X_drawn_41 rfl ?_
          refine r_iload_n d_X_drawn_43 rfl ?_
          refine n_icmp_ge d_X_drawn_44 (by omega) (by omega) (fun hc4 => ?_) (fun hc4 => ?_)
          · omega
          · refine r_iload_n d_X_drawn_47 rfl ?_
            refine g_Si (av := [.int y]) d_X_drawn_48 k_X_229 ws_X_nextSeed (by decide) rfl rfl (Nat.le_of_ble_eq_true rfl) (c_X_nextSeed) ?_
            rintro _ _ ⟨rfl, rfl⟩
            refine r_istore_n (L' := [some (.ref 0), some (.int (nI m)), some (.int x), some (.int (nxs y)), some (.int (nI q)), u, v]) d_X_drawn_51 (by decide) rfl ?_
            refine r_iload_n d_X_drawn_52 rfl ?_
            refine r_bipush (v := nI 6) d_X_drawn_53 (by decide) ?_
            refine g_Si (av := [.int (nxs y), .int (nI 6)]) d_X_drawn_55 k_X_232 ws_X_drawOf (by decide) rfl rfl (Nat.le_of_ble_eq_true rfl) (c_X_drawOf (by decide) (by decide)) ?_
            rintro _ _ ⟨rfl, rfl⟩
            refine r_istore (L' := [some (.ref 0), some (.int (nI m)), some (.int x), some (.int (nxs y)), some (.int (nI q)), some (.int (nI (dro (nxs y) 6))), v]) d_X_drawn_58 (by decide) rfl ?_
            refine r_iload_n d_X_drawn_60 rfl ?_
            refine g_Si (av := [.int (nxs y)]) d_X_drawn_61 k_X_229 ws_X_nextSeed (by decide) rfl rfl (Nat.le_of_ble_eq_true rfl) (c_X_nextSeed) ?_
            rintro _ _ ⟨rfl, rfl⟩
            refine r_istore_n (L' := [some (.ref 0), some (.int (nI m)), some (.int x), some (.int (nxs (nxs y))), some (.int (nI q)), some (.int (nI (dro (nxs y) 6))), v]) d_X_drawn_64 (by decide) rfl ?_
            refine r_iload_n d_X_drawn_65 rfl ?_
            refine r_aload_n d_X_drawn_66 rfl ?_
            refine g_getr (b := 37) d_X_drawn_67 f_X_24 rfl rfl rfl ?_
            refine g_geti d_X_drawn_70 f_X_99 rfl rfl ?_
            refine r_top (y := (nI (S.1 0 3))) (by rw [← hs]; exact hA.1) ?_
            refine g_Si (av := [.int (nxs (nxs y)), .int (nI (S.1 0 3))]) d_X_drawn_73 k_X_232 ws_X_drawOf (by decide) rfl rfl (Nat.le_of_ble_eq_true rfl) (c_X_drawOf (by omega) (by omega)) ?_
            rintro _ _ ⟨rfl, rfl⟩
            refine r_istore (L' := [some (.ref 0), some (.int (nI m)), some (.int x), some (.int (nxs (nxs y))), some (.int (nI q)), some (.int (nI (dro (nxs y) 6))), some (.int (nI (dro (nxs (nxs y)) (S.1 0 3))))]) d_X_drawn_76 (by decide) rfl ?_
            refine r_iload_n d_X_drawn_78 rfl ?_
            refine g_Si (av := [.int (nxs (nxs y))]) d_X_drawn_79 k_X_229 ws_X_nextSeed (by decide) rfl rfl (Nat.le_of_ble_eq_true rfl) (c_X_nextSeed) ?_
            rintro _ _ ⟨rfl, rfl⟩
            refine r_istore_n (L' := [some (.ref 0), some (.int (nI m)), some (.int x), some (.int (nxs (nxs (nxs y)))), some (.int (nI q)), some (.int (nI (dro (nxs y) 6))), some (.int (nI (dro (nxs (nxs y)) (S.1 0 3))))]) d_X_drawn_82 (by decide) rfl ?_
            refine r_aload_n d_X_drawn_83 rfl ?_
            refine g_getr (b := 37) d_X_drawn_84 f_X_24 rfl rfl rfl ?_
            refine g_getr (b := 38) d_X_drawn_87 f_X_112 rfl rfl rfl ?_
            refine r_iload d_X_drawn_90 rfl ?_
            refine g_aald (b := (39+dro (nxs y) 6)) (t := 5) (N := 6) d_X_drawn_92 rfl (by decide) (by omega) (by omega) (g_ser w6) ?_
            refine r_iload d_X_drawn_93 rfl ?_
            refine r_iload_n d_X_drawn_95 rfl ?_
            refine r_bipush (v := nI 19) d_X_drawn_96 (by decide) ?_
            refine g_Si (av := [.int (nxs (nxs (nxs y))), .int (nI 19)]) d_X_drawn_98 k_X_232 ws_X_drawOf (by decide) rfl rfl (Nat.le_of_ble_eq_true rfl) (c_X_drawOf (by decide) (by decide)) ?_
            rintro _ _ ⟨rfl, rfl⟩
            refine r_bipush (v := nI 9) d_X_drawn_101 (by decide) ?_
            refine r_isub d_X_drawn_103 ?_
            refine r_ldc (v := nI 1000003) d_X_drawn_104 c_X_119 ?_
            refine g_Si (av := [.int ((nI (dro (nxs (nxs (nxs y))) 19)) - (nI 9)), .int (nI 1000003)]) d_X_drawn_106 k_X_120 ws_Ma_floorMod (by decide) rfl rfl (Nat.le_of_ble_eq_true rfl) (c_Ma_floorMod _) ?_
            rintro _ _ ⟨rfl, rfl⟩
            refine g_iast d_X_drawn_109 (t_ser w6) (by omega) (by omega) ?_
            refine n_iinc (c := 1) (L' := [some (.ref 0), some (.int (nI m)), some (.int x), some (.int (nxs (nxs (nxs y)))), some (.int (nI (q + 1))), some (.int (nI (dro (nxs y) 6))), some (.int (nI (dro (nxs (nxs y)) (S.1 0 3))))]) d_X_drawn_110 rfl rfl (by decide) rfl ?_
            refine r_goto d_X_drawn_113 ?_
            refine ih (q + 1) _ (setC C (2 + dro (nxs y) 6) (dro (nxs (nxs y)) (S.1 0 3)) (fm (nI (dro (nxs (nxs (nxs y))) 19) - nI 9))) _ _ _ (by omega) (hC.set ⟨by omega, by omega⟩ (by rw [hs]; exact w7) (fm_lt _)) (by rw [setC, if_neg (by omega)]; exact hs) ?_ ?_ (fun b hb => by rw [upm_ne _ _ _ (by omega)]; exact hM b hb)
            · rw [← hd, drw, hs]
            · have := hA.set (k := 2 + dro (nxs y) 6) (i := dro (nxs (nxs y)) (S.1 0 3)) (v := fm (nI (dro (nxs (nxs (nxs y))) 19) - nI 9)) (Or.inl ⟨by omega, by omega⟩) (by omega)
              rwa [show 37 + (2 + dro (nxs y) 6) = 39 + dro (nxs y) 6 by omega] at this
      · rw [ic_t hc3]
        refine r_iconst (v := nI 0) d_X_drawn_23 (by decide) ?_
        refine g_reti d_X_drawn_24 rfl ?_
        exact ⟨rfl, hX, fun _ _ => rfl⟩
    · refine r_iconst (v := -1) d_X_drawn_11 (by decide) ?_
      refine g_reti d_X_drawn_12 rfl ?_
      refine PX.no hX (fun z => ?_)
      obtain ⟨⟨a1, a2⟩, a3⟩ := z
      apply hc2
      rw [a2]
      exact (nI_leI (by omega) (by decide)).mpr (by omega)
end C47
