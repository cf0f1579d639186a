theorem rc_ok {C : Core} (hC : WC C) (h0 : 0 < C 0 3) (a0 : C 10 0 ≠ 0) (a1 : C 11 1 ≠ 0) : TOk (C 0 3) (rcG (C 0 3) (fun i => C (10 + i))) (rcF (C 0 3) (fun i => C (10 + i))) ∧ TZ (C 0 3) (rcG (C 0 3) (fun i => C (10 + i))) (rcF (C 0 3) (fun i => C (10 + i))) := by
  have hs : 2 ≤ C 0 3 ∧ C 0 3 ≤ 10 := by have := hC.1; omega
  have lt : ∀ i j, i < 10 → j < 10 → C (10 + i) j < 1000003 := fun i j hi hj => hC.2.1 _ (rx_f hi) j hj
  have f0 : dv (fun i => C (10 + i) 1) (fun i => C (10 + i) 0) 0 = 0 := by
    rw [dv_eq, show C (10 + 0) 1 = 0 from hC.2.2.2.2 0 1 (by decide) (by decide) (by decide)]
    show sb 0 (0 % 1000003) * _ % 1000003 = 0
    rw [show sb 0 (0 % 1000003) = 0 from by decide, Nat.zero_mul]
  refine ⟨⟨fun i hi => ?_, fun i hi => ?_, ?_, ?_, ?_⟩, fun j h1 _ => ?_, fun j h1 _ => ?_⟩
  · unfold rcG
    split
    · exact lt i 0 hi (by decide)
    · decide
  · unfold rcF
    split
    · exact dv_lt _ _ _
    · decide
  · unfold rcG
    rw [if_pos h0]
    exact Nat.pos_of_ne_zero a0
  · unfold rcF
    rw [if_pos h0]
    exact f0
  · unfold rcF
    rw [if_pos (by omega)]
    refine Nat.pos_of_ne_zero (fun z => ?_)
    have e := dv_cg (x := fun i => C (10 + i) 1) (y := fun i => C (10 + i) 0) (Nat.pos_of_ne_zero a0) (lt 0 0 (by decide) (by decide)) 1
    have e2 : zm (zN (dv (fun i => C (10 + i) 1) (fun i => C (10 + i) 0))) (zN (fun i => C (10 + i) 0)) 1 = 0 := zz_zero (fun k hk => by
      rcases (show k = 0 ∨ k = 1 by omega) with rfl | rfl
      · rw [show zN (dv (fun i => C (10 + i) 1) (fun i => C (10 + i) 0)) 0 = 0 from by unfold zN; rw [f0]; rfl, Int.zero_mul]
      · rw [show zN (dv (fun i => C (10 + i) 1) (fun i => C (10 + i) 0)) 1 = 0 from by unfold zN; rw [z]; rfl, Int.zero_mul])
    rw [e2] at e
    exact a1 (Cg_nat (by decide) (lt 1 1 (by decide) (by decide)) e).symm
  · unfold rcG
    rw [if_neg (by omega)]
  · unfold rcF
    rw [if_neg (by omega)]
section C79
variable {o : OM} {l : Launch} {n : Nat} {M : Mem} {S : SS}
theorem c_Md_kinds {t : Int32} (hW : WS S) (hX : MR M S) : CI o l m_Md_kinds n [.ref 436, .int t] M (PM M (f_kinds S t)) := by
  refine ci_of rfl rfl rfl (Nat.le_of_ble_eq_true rfl) ?_
  refine r_aload_n d_Md_kinds_0 rfl ?_
  refine r_iconst (v := nI 0) d_Md_kinds_1 (by decide) ?_
  refine g_puti d_Md_kinds_2 f_Md_1 ⟨rfl, rfl, rfl⟩ rfl ?_
  obtain ⟨M0, e0, hk0, hX0, -⟩ := hX.m0
  rw [e0]
  refine r_aload_n d_Md_kinds_5 rfl ?_
  refine r_iload_n d_Md_kinds_6 rfl ?_
  by_cases hg1 : okT S t
  case neg =>
    refine g_Vi (av := [.int t]) d_Md_kinds_7 k_Md_218 ws_Md_isTable (by decide) rfl rfl (Nat.le_of_ble_eq_true rfl) rfl (c_Md_isTable_f hW hX0 hg1) ?_
    rintro _ _ ⟨rfl, rfl⟩
    refine n_if_eq d_Md_kinds_10 (by omega) (fun _ => ?_) (fun h9 => absurd h9 (by decide))
    refine r_iconst (v := -1) d_Md_kinds_21 (by decide) ?_
    refine g_reti d_Md_kinds_22 rfl ?_
    exact PM.no hX0 hk0 (fun q9 => hg1 q9)
  refine g_Vi (av := [.int t]) d_Md_kinds_7 k_Md_218 ws_Md_isTable (by decide) rfl rfl (Nat.le_of_ble_eq_true rfl) rfl (c_Md_isTable_t hW hX0 hg1) ?_
  rintro _ _ ⟨rfl, rfl⟩
  refine n_if_eq d_Md_kinds_10 (by omega) (fun h9 => absurd h9 (by decide)) (fun _ => ?_)
  rw [f_kinds, ic_t hg1]
  unfold gOf fOf
  obtain ⟨h0, ha1, ha2⟩ := hg1
  generalize ix t = a' at *
  subst ha2
  refine r_aload_n d_Md_kinds_13 rfl ?_
  refine r_iload_n d_Md_kinds_14 rfl ?_
  refine g_Vi (av := [.int (nI a')]) d_Md_kinds_15 k_Md_241 ws_Md_kindsOf (by decide) rfl rfl (Nat.le_of_ble_eq_true rfl) rfl (c_Md_kindsOf hW hX0 h0 ha1) ?_
  rintro r M1 ⟨rfl, w1⟩
  refine r_goto d_Md_kinds_18 ?_
  refine g_reti d_Md_kinds_22 rfl ?_
  exact ⟨rfl, w1.mr hX0, hk0.trans w1.km⟩
theorem c_Md_differ {s t how : Int32} (hW : WS S) (hX : MR M S) : CI o l m_Md_differ n [.ref 436, .int s, .int t, .int how] M (PM M (f_differ S s t how)) := by
  refine ci_of rfl rfl rfl (Nat.le_of_ble_eq_true rfl) ?_
  have hs10 := hW.sz10
  refine r_aload_n d_Md_differ_0 rfl ?_
  refine r_iconst (v := nI 0) d_Md_differ_1 (by decide) ?_
  refine g_puti d_Md_differ_2 f_Md_1 ⟨rfl, rfl, rfl⟩ rfl ?_
  obtain ⟨M0, e0, hk0, hX0, -⟩ := hX.m0
  rw [e0]
  refine r_aload_n d_Md_differ_5 rfl ?_
  refine r_iload_n d_Md_differ_6 rfl ?_
  by_cases hg1 : okT S s
  case neg =>
    refine g_Vi (av := [.int s]) d_Md_differ_7 k_Md_218 ws_Md_isTable (by decide) rfl rfl (Nat.le_of_ble_eq_true rfl) rfl (c_Md_isTable_f hW hX0 hg1) ?_
    rintro _ _ ⟨rfl, rfl⟩
    refine n_if_eq d_Md_differ_10 (by omega) (fun _ => ?_) (fun h9 => absurd h9 (by decide))
    refine r_iconst (v := -1) d_Md_differ_30 (by decide) ?_
    refine g_reti d_Md_differ_31 rfl ?_
    exact PM.no hX0 hk0 (fun q9 => hg1 q9.1)
  refine g_Vi (av := [.int s]) d_Md_differ_7 k_Md_218 ws_Md_isTable (by decide) rfl rfl (Nat.le_of_ble_eq_true rfl) rfl (c_Md_isTable_t hW hX0 hg1) ?_
  rintro _ _ ⟨rfl, rfl⟩
  refine n_if_eq d_Md_differ_10 (by omega) (fun h9 => absurd h9 (by decide)) (fun _ => ?_)
  refine r_aload_n d_Md_differ_13 rfl ?_
  refine r_iload_n d_Md_differ_14 rfl ?_
  by_cases hg2 : okT S t
  case neg =>
    refine g_Vi (av := [.int t]) d_Md_differ_15 k_Md_218 ws_Md_isTable (by decide) rfl rfl (Nat.le_of_ble_eq_true rfl) rfl (c_Md_isTable_f hW hX0 hg2) ?_
    rintro _ _ ⟨rfl, rfl⟩
    refine n_if_eq d_Md_differ_18 (by omega) (fun _ => ?_) (fun h9 => absurd h9 (by decide))
    refine r_iconst (v := -1) d_Md_differ_30 (by decide) ?_
    refine g_reti d_Md_differ_31 rfl ?_
    exact PM.no hX0 hk0 (fun q9 => hg2 q9.2)
  refine g_Vi (av := [.int t]) d_Md_differ_15 k_Md_218 ws_Md_isTable (by decide) rfl rfl (Nat.le_of_ble_eq_true rfl) rfl (c_Md_isTable_t hW hX0 hg2) ?_
  rintro _ _ ⟨rfl, rfl⟩
  refine n_if_eq d_Md_differ_18 (by omega) (fun h9 => absurd h9 (by decide)) (fun _ => ?_)
  rw [f_differ, ic_t ⟨hg1, hg2⟩]
  by_cases hg4 : inN 2 how
  case neg =>
    refine r_iload_n d_Md_differ_21 rfl ?_
    refine r_iconst (v := nI 0) d_Md_differ_22 (by decide) ?_
    refine r_iconst (v := nI 1) d_Md_differ_23 (by decide) ?_
    refine g_Si (av := [.int how, .int (nI 0), .int (nI 1)]) d_Md_differ_24 k_Md_118 ws_Md_isIn (by decide) rfl rfl (Nat.le_of_ble_eq_true rfl) (c_Md_in0_f (by decide) hg4) ?_
    rintro _ _ ⟨rfl, rfl⟩
    refine n_if_ne d_Md_differ_27 (by omega) (fun h9 => absurd h9 (by decide)) (fun _ => ?_)
    refine r_iconst (v := -1) d_Md_differ_30 (by decide) ?_
    refine g_reti d_Md_differ_31 rfl ?_
    rw [ic_f (fun z => hg4 (by rw [z]; exact ⟨by decide, by decide⟩)), ic_f (fun z => hg4 (by rw [z]; exact ⟨by decide, by decide⟩))]
    exact ⟨rfl, hX0, hk0⟩
  refine r_iload_n d_Md_differ_21 rfl ?_
  refine r_iconst (v := nI 0) d_Md_differ_22 (by decide) ?_
  refine r_iconst (v := nI 1) d_Md_differ_23 (by decide) ?_
  refine g_Si (av := [.int how, .int (nI 0), .int (nI 1)]) d_Md_differ_24 k_Md_118 ws_Md_isIn (by decide) rfl rfl (Nat.le_of_ble_eq_true rfl) (c_Md_in0_t (by decide) hg4) ?_
  rintro _ _ ⟨rfl, rfl⟩
  unfold gOf fOf
  obtain ⟨h0, ha1, ha2⟩ := hg1
  obtain ⟨_, hb1, hb2⟩ := hg2
  obtain ⟨z1, z2⟩ := hW.sz h0
  obtain ⟨hh1, hh2⟩ := hg4
  generalize ix s = a' at *
  subst ha2
  generalize ix t = b' at *
  subst hb2
  generalize ix how = h at *
  subst hh2
  have T1 := hW.tok ha1
  have T2 := hW.tok hb1
  refine n_if_ne d_Md_differ_27 (by omega) (fun _ => ?_) (fun h9 => absurd h9 (by decide))
  refine r_aload_n d_Md_differ_32 rfl ?_
  refine r_iload_n d_Md_differ_33 rfl ?_
  refine r_aload_n d_Md_differ_34 rfl ?_
  refine g_getr (b := 448) d_Md_differ_35 f_Md_87 rfl rfl rfl ?_
  refine g_Vv (av := [.int (nI a'), .ref 448]) d_Md_differ_38 k_Md_228 ws_Md_matrix (by decide) rfl rfl (Nat.le_of_ble_eq_true rfl) rfl (c_Md_matrix (c := 448) hW hX0 h0 rfl (by decide) ha1) ?_
  rintro M1 ⟨g1, g2, g3, g4⟩
  have w1 : WK M0 M1 := wk_mx (by decide) g1
  refine r_aload_n d_Md_differ_41 rfl ?_
  refine r_iload_n d_Md_differ_42 rfl ?_
  refine r_aload_n d_Md_differ_43 rfl ?_
  refine g_getr (b := 449) d_Md_differ_44 f_Md_90 rfl rfl rfl ?_
  refine g_Vv (av := [.int (nI b'), .ref 449]) d_Md_differ_47 k_Md_228 ws_Md_matrix (by decide) rfl rfl (Nat.le_of_ble_eq_true rfl) rfl (c_Md_matrix (c := 449) hW (w1.mr hX0) h0 rfl (by decide) hb1) ?_
  rintro M2 ⟨g5, g6, g7, g8⟩
  have w2 : WK M0 M2 := w1.trans (wk_mx (by decide) g5)
  have g2 := g2.kept (g5 448 (by decide) (by decide) (by decide) (by decide) (by decide))
  rcases (show h = 0 ∨ h = 1 by omega) with rfl | rfl
  · rw [ic_t (show nI 0 = 0 from rfl)]
    refine r_iload_n d_Md_differ_50 rfl ?_
    refine n_if_ne d_Md_differ_51 (by omega) (fun h9 => absurd h9 (by decide)) (fun _ => ?_)
    refine r_aload_n d_Md_differ_54 rfl ?_
    refine r_aload_n d_Md_differ_55 rfl ?_
    refine g_getr (b := 448) d_Md_differ_56 f_Md_87 rfl rfl rfl ?_
    refine r_aload_n d_Md_differ_59 rfl ?_
    refine g_getr (b := 449) d_Md_differ_60 f_Md_90 rfl rfl rfl ?_
    refine g_Vi (av := [.ref 448, .ref 449]) d_Md_differ_63 k_Md_237 ws_Md_unlikeAt (by decide) rfl rfl (Nat.le_of_ble_eq_true rfl) rfl (c_Md_unlikeAt (a := 448) (b := 449) rfl rfl hs10 (w2.sz hX0.sz) g2 g6 (fun i j hij hj => by rw [show cm (S.1 0 3) (S.1 (21 + 3 * a')) (S.1 (22 + 3 * a')) i j = 0 from col_up T1.2.2.2.1 hij (by omega) (T1.1 i (by omega)), show cm (S.1 0 3) (S.1 (21 + 3 * b')) (S.1 (22 + 3 * b')) i j = 0 from col_up T2.2.2.2.1 hij (by omega) (T2.1 i (by omega))])) ?_
    rintro r M3 ⟨k1, k2⟩
    subst k2
    refine g_reti d_Md_differ_66 rfl ?_
    exact ⟨FD_eq hs10 k1, w2.mr hX0, hk0.trans w2.km⟩
  · rw [ic_f (show ¬ nI 1 = 0 by decide), ic_t rfl]
    refine r_iload_n d_Md_differ_50 rfl ?_
    refine n_if_ne d_Md_differ_51 (by omega) (fun _ => ?_) (fun h9 => absurd h9 (by decide))
    refine r_aload_n d_Md_differ_67 rfl ?_
    refine g_getr (b := 448) d_Md_differ_68 f_Md_87 rfl rfl rfl ?_
    refine r_aload_n d_Md_differ_71 rfl ?_
    refine g_getr (b := 449) d_Md_differ_72 f_Md_90 rfl rfl rfl ?_
    refine r_aload_n d_Md_differ_75 rfl ?_
    refine g_getr (b := 450) d_Md_differ_76 f_Md_93 rfl rfl rfl ?_
    refine r_aload_n d_Md_differ_79 rfl ?_
    refine g_Vi (av := []) d_Md_differ_80 k_Md_173 ws_Md_wide (by decide) rfl rfl (Nat.le_of_ble_eq_true rfl) rfl (c_Md_wide (w2.sz hX0.sz)) ?_
    rintro _ _ ⟨rfl, rfl⟩
    refine g_Sv (av := [.ref 448, .ref 449, .ref 450, .int (nI (S.1 0 3))]) d_Md_differ_83 k_Md_231 ws_Md_product (by decide) rfl rfl (Nat.le_of_ble_eq_true rfl) (c_Md_product (a := 448) (b := 449) (c := 450) rfl rfl rfl (by decide) (by decide) hs10 g2 g6) ?_
    rintro M3 ⟨g9, g10⟩
    have w3 : WK M0 M3 := w2.trans (WK.of (fun b hb => g9 b (by omega)))
    refine r_aload_n d_Md_differ_86 rfl ?_
    refine g_getr (b := 449) d_Md_differ_87 f_Md_90 rfl rfl rfl ?_
    refine r_aload_n d_Md_differ_90 rfl ?_
    refine g_getr (b := 448) d_Md_differ_91 f_Md_87 rfl rfl rfl ?_
    refine r_aload_n d_Md_differ_94 rfl ?_
    refine g_getr (b := 451) d_Md_differ_95 f_Md_96 rfl rfl rfl ?_
    refine r_aload_n d_Md_differ_98 rfl ?_
    refine g_Vi (av := []) d_Md_differ_99 k_Md_173 ws_Md_wide (by decide) rfl rfl (Nat.le_of_ble_eq_true rfl) rfl (c_Md_wide (w3.sz hX0.sz)) ?_
    rintro _ _ ⟨rfl, rfl⟩
    refine g_Sv (av := [.ref 449, .ref 448, .ref 451, .int (nI (S.1 0 3))]) d_Md_differ_102 k_Md_231 ws_Md_product (by decide) rfl rfl (Nat.le_of_ble_eq_true rfl) (c_Md_product (a := 449) (b := 448) (c := 451) rfl rfl rfl (by decide) (by decide) hs10 (g6.kept (g9 449 (by decide))) (g2.kept (g9 448 (by decide)))) ?_
    rintro M4 ⟨g11, g12⟩
    have w4 : WK M0 M4 := w3.trans (WK.of (fun b hb => g11 b (by omega)))
    have T3 := (TOk.mul z1 z2 T1 T2).1
    have T4 := (TOk.mul z1 z2 T2 T1).1
    have g10 := (g10.kept (g11 450 (by decide))).to (fun i j hi hj => pm_mul T1.2.2.2.1 T2.2.2.2.1 hi hj)
    have g12 := g12.to (fun i j hi hj => pm_mul T2.2.2.2.1 T1.2.2.2.1 hi hj)
    refine r_aload_n d_Md_differ_105 rfl ?_
    refine r_aload_n d_Md_differ_106 rfl ?_
    refine g_getr (b := 450) d_Md_differ_107 f_Md_93 rfl rfl rfl ?_
    refine r_aload_n d_Md_differ_110 rfl ?_
    refine g_getr (b := 451) d_Md_differ_111 f_Md_96 rfl rfl rfl ?_
    refine g_Vi (av := [.ref 450, .ref 451]) d_Md_differ_114 k_Md_237 ws_Md_unlikeAt (by decide) rfl rfl (Nat.le_of_ble_eq_true rfl) rfl (c_Md_unlikeAt (a := 450) (b := 451) rfl rfl hs10 (w4.sz hX0.sz) g10 g12 (fun i j hij hj => (show cm _ _ _ i j = 0 from col_up T3.2.2.2.1 hij (by omega) (T3.1 i (by omega))).trans (show cm _ _ _ i j = 0 from col_up T4.2.2.2.1 hij (by omega) (T4.1 i (by omega))).symm)) ?_
    rintro r M5 ⟨k1, k2⟩
    subst k2
    refine g_reti d_Md_differ_117 rfl ?_
    exact ⟨FD_eq hs10 k1, w4.mr hX0, hk0.trans w4.km⟩
theorem c_Md_lay {t : Int32} (hW : WS S) (hX : MR M S) : CI o l m_Md_lay n [.ref 436, .int t] M (PM M (f_lay S t)) := by
  refine ci_of rfl rfl rfl (Nat.le_of_ble_eq_true rfl) ?_
  have hs10 := hW.sz10
  refine r_aload_n d_Md_lay_0 rfl ?_
  refine r_iconst (v := nI 0) d_Md_lay_1 (by decide) ?_
  refine g_puti d_Md_lay_2 f_Md_1 ⟨rfl, rfl, rfl⟩ rfl ?_
  obtain ⟨M0, e0, hk0, hX0, -⟩ := hX.m0
  rw [e0]
  refine r_aload_n d_Md_lay_5 rfl ?_
  refine r_iload_n d_Md_lay_6 rfl ?_
  by_cases hg1 : okT S t
  case neg =>
    refine g_Vi (av := [.int t]) d_Md_lay_7 k_Md_218 ws_Md_isTable (by decide) rfl rfl (Nat.le_of_ble_eq_true rfl) rfl (c_Md_isTable_f hW hX0 hg1) ?_
    rintro _ _ ⟨rfl, rfl⟩
    refine n_if_ne d_Md_lay_10 (by omega) (fun h9 => absurd h9 (by decide)) (fun _ => ?_)
    refine r_iconst (v := -1) d_Md_lay_13 (by decide) ?_
    refine g_reti d_Md_lay_14 rfl ?_
    exact PM.no hX0 hk0 (fun q9 => hg1 q9)
  refine g_Vi (av := [.int t]) d_Md_lay_7 k_Md_218 ws_Md_isTable (by decide) rfl rfl (Nat.le_of_ble_eq_true rfl) rfl (c_Md_isTable_t hW hX0 hg1) ?_
  rintro _ _ ⟨rfl, rfl⟩
  refine n_if_ne d_Md_lay_10 (by omega) (fun _ => ?_) (fun h9 => absurd h9 (by decide))
  rw [f_lay, ic_t hg1]
  unfold gOf fOf
  obtain ⟨h0, ha1, ha2⟩ := hg1
  obtain ⟨z1, z2⟩ := hW.sz h0
  generalize ix t = a' at *
  subst ha2
  have T1 := hW.tok ha1
  have hC' := hW.1.lay (f := S.1 (22 + 3 * a')) T1.1
  have hW' := hW.kp hC'
  refine r_aload_n d_Md_lay_15 rfl ?_
  refine g_Vv (av := []) d_Md_lay_16 k_Md_177 ws_Md_snap (by decide) rfl rfl (Nat.le_of_ble_eq_true rfl) rfl (c_Md_snap hX0) ?_
  rintro M1 ⟨q1, q2, q3⟩
  have hX1 : MR M1 (kp S S.1) := hX0.act q1 (hX0.am.kept (q2 438 (by decide) (by decide))) (fun k hk => q3 k (by omega)) (fun b hb => q2 b (by omega) (by omega))
  have km1 : KM M0 M1 := fun b hb => q2 b (by omega) (by omega)
  refine r_aload_n d_Md_lay_19 rfl ?_
  refine r_iload_n d_Md_lay_20 rfl ?_
  refine r_aload_n d_Md_lay_21 rfl ?_
  refine g_getr (b := 448) d_Md_lay_22 f_Md_87 rfl rfl rfl ?_
  refine g_Vv (av := [.int (nI a'), .ref 448]) d_Md_lay_25 k_Md_228 ws_Md_matrix (by decide) rfl rfl (Nat.le_of_ble_eq_true rfl) rfl (c_Md_matrix (S := kp S S.1) (c := 448) (hW.kp hW.1) hX1 h0 rfl (by decide) ha1) ?_
  rintro M2 ⟨g1, g2, g3, g4⟩
  have w2 : WK M1 M2 := wk_mx (by decide) g1
  have hX2 := w2.mr hX1
  have g2 : MX M2 448 (S.1 0 3) (cm (S.1 0 3) (S.1 (21 + 3 * a')) (S.1 (22 + 3 * a'))) := g2
  have hz2 : M2 438 0 = nI (S.1 0 3) := hX2.sz
  have fin : ∀ (M4 : Mem) (u v : Option Value), (∀ b, b ≠ 438 → M4 b = M2 b) → (∀ j, j < 241 → M4 438 j = if 141 ≤ j ∧ (j - 141) / 10 < S.1 0 3 ∧ (j - 141) % 10 < S.1 0 3 then nI (cm (S.1 0 3) (S.1 (21 + 3 * a')) (S.1 (22 + 3 * a')) ((j - 141) / 10) ((j - 141) % 10)) else M2 438 j) → Rn o l m_Md_lay (0, 0) 86 [some (.ref 436), some (.int (nI a')), u, v] [] (gh n M4) (QI n (PM M (nI (kin (S.1 0 3) (S.1 (21 + 3 * a')) (S.1 (22 + 3 * a'))), kp S (layC S.1 (S.1 (21 + 3 * a')) (S.1 (22 + 3 * a')))))) := by
    intro M4 u v f1 f2
    have hX4 : MR M4 (kp S (layC S.1 (S.1 (21 + 3 * a')) (S.1 (22 + 3 * a')))) := by
      refine hX0.act (S := S) ?_ (fun j hj => ?_) (fun k hk => by rw [f1 436 (by decide), w2.2 k (by omega)]; exact q3 k (by omega)) (fun b hb => by rw [f1 b (by omega), w2.1 b (by omega) (by omega)]; exact q2 b (by omega) (by omega))
      · exact (hX2.2.1).kept (by rw [f1 436 (by decide)]) (f1 441 (by decide))
      · rw [Nat.zero_add, f2 j hj, nw_lay S.1 hs10 j hj]
        have e2 : M2 438 j = nI (nw S.1 j) := hX2.nw hj
        by_cases e : 141 ≤ j ∧ (j - 141) / 10 < S.1 0 3 ∧ (j - 141) % 10 < S.1 0 3
        · rw [if_pos e]
          by_cases e3 : (j - 141) % 10 ≤ (j - 141) / 10
          · rw [if_pos (by omega)]
            rfl
          · rw [if_neg (by omega)]
            obtain ⟨i, k, hi, hk, rfl⟩ : ∃ i k, i < 10 ∧ k < 10 ∧ j = 141 + 10 * i + k := ⟨(j - 141) / 10, (j - 141) % 10, by omega, by omega, by omega⟩
            rw [show (141 + 10 * i + k - 141) / 10 = i by omega, show (141 + 10 * i + k - 141) % 10 = k by omega] at e3 e ⊢
            rw [nw_fr S.1 hi hk, hW.1.2.2.2.2 i k hi (by omega) hk]
            congr 1
            exact col_up T1.2.2.2.1 (by omega) (by omega) (T1.1 i (by omega))
        · rw [if_neg e, if_neg (by omega), e2]
    have l0 : layC S.1 (S.1 (21 + 3 * a')) (S.1 (22 + 3 * a')) 0 3 = S.1 0 3 := by unfold layC; rw [if_neg (by omega)]
    refine r_aload_n d_Md_lay_86 rfl ?_
    refine r_iload_n d_Md_lay_87 rfl ?_
    refine g_Vi (av := [.int (nI a')]) d_Md_lay_88 k_Md_241 ws_Md_kindsOf (by decide) rfl rfl (Nat.le_of_ble_eq_true rfl) rfl (c_Md_kindsOf (S := kp S (layC S.1 (S.1 (21 + 3 * a')) (S.1 (22 + 3 * a')))) hW' hX4 (by rw [show (kp S (layC S.1 (S.1 (21 + 3 * a')) (S.1 (22 + 3 * a')))).1 0 3 = S.1 0 3 from l0]; exact h0) ha1) ?_
    rintro r M5 ⟨hr, w5⟩
    refine g_reti d_Md_lay_91 rfl ?_
    refine ⟨hr.trans ?_, w5.mr hX4, ((hk0.trans km1).trans w2.km).trans (KM.trans (fun b hb => f1 b (by omega)) w5.km)⟩
    have l1 : layC S.1 (S.1 (21 + 3 * a')) (S.1 (22 + 3 * a')) (21 + 3 * a') = S.1 (21 + 3 * a') := by funext j; unfold layC; rw [if_neg (by omega)]
    have l2 : layC S.1 (S.1 (21 + 3 * a')) (S.1 (22 + 3 * a')) (22 + 3 * a') = S.1 (22 + 3 * a') := by funext j; unfold layC; rw [if_neg (by omega)]
    show nI (kin (layC S.1 (S.1 (21 + 3 * a')) (S.1 (22 + 3 * a')) 0 3) (layC S.1 (S.1 (21 + 3 * a')) (S.1 (22 + 3 * a')) (21 + 3 * a')) (layC S.1 (S.1 (21 + 3 * a')) (S.1 (22 + 3 * a')) (22 + 3 * a'))) = _
    rw [l0, l1, l2]
  generalize hA : cm (S.1 0 3) (S.1 (21 + 3 * a')) (S.1 (22 + 3 * a')) = A at *
  refine r_iconst (v := nI 0) d_Md_lay_28 (by decide) ?_
  refine r_istore_n (L' := [some (.ref 436), some (.int (nI a')), some (.int (nI 0)), none]) d_Md_lay_29 (by decide) rfl ?_
  refine lp (a := 0) (N := S.1 0 3) (R := fun i M' => Rn o l m_Md_lay (0, 0) 30 [some (.ref 436), some (.int (nI a')), some (.int (nI i)), none] [] (gh n M') (QI n (PM M (nI (kin (S.1 0 3) (S.1 (21 + 3 * a')) (S.1 (22 + 3 * a'))), kp S (layC S.1 (S.1 (21 + 3 * a')) (S.1 (22 + 3 * a'))))))) (P := fun i M' => (∀ b, b ≠ 438 → M' b = M2 b) ∧ ∀ j, j < 241 → M' 438 j = if 141 ≤ j ∧ (j - 141) / 10 < i ∧ (j - 141) % 10 < S.1 0 3 then nI (A ((j - 141) / 10) ((j - 141) % 10)) else M2 438 j) (by omega) ?_ ?_ ?_
  · exact ⟨fun _ _ => rfl, fun j hj => by rw [if_neg (by omega)]⟩
  · intro M3 f3
    refine r_iload_n d_Md_lay_30 rfl ?_
    refine r_aload_n d_Md_lay_31 rfl ?_
    refine g_Vi (av := []) d_Md_lay_32 k_Md_173 ws_Md_wide (by decide) rfl rfl (Nat.le_of_ble_eq_true rfl) rfl (c_Md_wide (by rw [f3.2 0 (by decide), if_neg (by omega)]; exact hz2)) ?_
    rintro _ _ ⟨rfl, rfl⟩
    refine n_icmp_ge d_Md_lay_35 (by omega) (by omega) (fun _ => ?_) (fun h9 => absurd h9 (by omega))
    exact fin M3 _ _ f3.1 f3.2
  · intro i M3 hi f3 ih
    refine r_iload_n d_Md_lay_30 rfl ?_
    refine r_aload_n d_Md_lay_31 rfl ?_
    refine g_Vi (av := []) d_Md_lay_32 k_Md_173 ws_Md_wide (by decide) rfl rfl (Nat.le_of_ble_eq_true rfl) rfl (c_Md_wide (by rw [f3.2 0 (by decide), if_neg (by omega)]; exact hz2)) ?_
    rintro _ _ ⟨rfl, rfl⟩
    refine n_icmp_ge d_Md_lay_35 (by omega) (by omega) (fun h9 => absurd h9 (by omega)) (fun _ => ?_)
    refine r_iconst (v := nI 0) d_Md_lay_38 (by decide) ?_
    refine r_istore_n (L' := [some (.ref 436), some (.int (nI a')), some (.int (nI i)), some (.int (nI 0))]) d_Md_lay_39 (by decide) rfl ?_
    refine lp (a := 0) (N := S.1 0 3) (R := fun m M' => Rn o l m_Md_lay (0, 0) 40 [some (.ref 436), some (.int (nI a')), some (.int (nI i)), some (.int (nI m))] [] (gh n M') (QI n (PM M (nI (kin (S.1 0 3) (S.1 (21 + 3 * a')) (S.1 (22 + 3 * a'))), kp S (layC S.1 (S.1 (21 + 3 * a')) (S.1 (22 + 3 * a'))))))) (P := fun m M' => (∀ b, b ≠ 438 → M' b = M2 b) ∧ ∀ j, j < 241 → M' 438 j = if 141 ≤ j ∧ (j - 141) % 10 < S.1 0 3 ∧ ((j - 141) / 10 < i ∨ (j - 141) / 10 = i ∧ (j - 141) % 10 < m) then nI (A ((j - 141) / 10) ((j - 141) % 10)) else M2 438 j) (by omega) ?_ ?_ ?_
    · refine ⟨f3.1, fun j hj => ?_⟩
      rw [f3.2 j hj]
      by_cases e : 141 ≤ j ∧ (j - 141) / 10 < i ∧ (j - 141) % 10 < S.1 0 3
      · rw [if_pos e, if_pos (by omega)]
      · rw [if_neg e, if_neg (by omega)]
    · intro M4 f4
      refine r_iload_n d_Md_lay_40 rfl ?_
      refine r_aload_n d_Md_lay_41 rfl ?_
      refine g_Vi (av := []) d_Md_lay_42 k_Md_173 ws_Md_wide (by decide) rfl rfl (Nat.le_of_ble_eq_true rfl) rfl (c_Md_wide (by rw [f4.2 0 (by decide), if_neg (by omega)]; exact hz2)) ?_
      rintro _ _ ⟨rfl, rfl⟩
      refine n_icmp_ge d_Md_lay_45 (by omega) (by omega) (fun _ => ?_) (fun h9 => absurd h9 (by omega))
      refine n_iinc (c := 1) (L' := [some (.ref 436), some (.int (nI a')), some (.int (nI (i + 1))), some (.int (nI (S.1 0 3)))]) d_Md_lay_80 rfl rfl (by decide) rfl ?_
      refine r_goto d_Md_lay_83 ?_
      refine r_weak (L' := [some (.ref 436), some (.int (nI a')), some (.int (nI (i + 1))), none]) (wk_s (wk_s (wk_s (wk_n wk_0)))) (ih _ ?_)
      refine ⟨f4.1, fun j hj => ?_⟩
      rw [f4.2 j hj]
      by_cases e : 141 ≤ j ∧ (j - 141) % 10 < S.1 0 3 ∧ ((j - 141) / 10 < i ∨ (j - 141) / 10 = i ∧ (j - 141) % 10 < S.1 0 3)
      · rw [if_pos e, if_pos (by omega)]
      · rw [if_neg e, if_neg (by omega)]
    · intro m M4 hm f4 ih2
      refine r_iload_n d_Md_lay_40 rfl ?_
      refine r_aload_n d_Md_lay_41 rfl ?_
      refine g_Vi (av := []) d_Md_lay_42 k_Md_173 ws_Md_wide (by decide) rfl rfl (Nat.le_of_ble_eq_true rfl) rfl (c_Md_wide (by rw [f4.2 0 (by decide), if_neg (by omega)]; exact hz2)) ?_
      rintro _ _ ⟨rfl, rfl⟩
      refine n_icmp_ge d_Md_lay_45 (by omega) (by omega) (fun h9 => absurd h9 (by omega)) (fun _ => ?_)
      refine r_aload_n d_Md_lay_48 rfl ?_
      refine g_getr (b := 438) d_Md_lay_49 f_Md_56 rfl rfl rfl ?_
      refine r_sipush (v := nI 141) d_Md_lay_52 (by decide) ?_
      refine r_bipush (v := nI 10) d_Md_lay_55 (by decide) ?_
      refine r_iload_n d_Md_lay_57 rfl ?_
      refine n_imul d_Md_lay_58 ?_
      refine n_iadd d_Md_lay_59 ?_
      refine r_iload_n d_Md_lay_60 rfl ?_
      refine n_iadd d_Md_lay_61 ?_
      refine r_aload_n d_Md_lay_62 rfl ?_
      refine g_getr (b := 448) d_Md_lay_63 f_Md_87 rfl rfl rfl ?_
      refine r_bipush (v := nI 10) d_Md_lay_66 (by decide) ?_
      refine r_iload_n d_Md_lay_68 rfl ?_
      refine n_imul d_Md_lay_69 ?_
      refine r_iload_n d_Md_lay_70 rfl ?_
      refine n_iadd d_Md_lay_71 ?_
      refine g_iald d_Md_lay_72 rfl (by omega) (by omega) ?_
      refine r_top (y := nI (A i m)) (by rw [f4.1 448 (by decide)]; exact (g2 i m (by omega) (by omega)).1) ?_
      refine g_iast d_Md_lay_73 rfl (by omega) (by omega) ?_
      refine n_iinc (c := 1) (L' := [some (.ref 436), some (.int (nI a')), some (.int (nI i)), some (.int (nI (m + 1)))]) d_Md_lay_74 rfl rfl (by decide) rfl ?_
      refine r_goto d_Md_lay_77 ?_
      refine ih2 _ ?_
      refine ⟨fun b hb => by rw [upm_ne _ _ _ hb]; exact f4.1 b hb, fun j hj => ?_⟩
      rw [upm_at]
      by_cases e : j = 141 + 10 * i + m
      · rw [if_pos e, if_pos (by omega), show (j - 141) / 10 = i by omega, show (j - 141) % 10 = m by omega]
      · rw [if_neg e, f4.2 j hj]
        by_cases e2 : 141 ≤ j ∧ (j - 141) % 10 < S.1 0 3 ∧ ((j - 141) / 10 < i ∨ (j - 141) / 10 = i ∧ (j - 141) % 10 < m)
        · rw [if_pos e2, if_pos (by omega)]
        · rw [if_neg e2, if_neg (by omega)]
theorem c_Md_unlikeNow (hW : WS S) (hX : MR M S) : CI o l m_Md_unlikeNow n [.ref 436] M (fun r M' => WK M M' ∧ ((S.1 0 3 = 0 ∧ r = nI 101) ∨ (0 < S.1 0 3 ∧ r = rcg S ∧ (r = -1 → (S.1 10 0 ≠ 0 ∧ S.1 11 1 ≠ 0) ∧ MX M' 448 (S.1 0 3) (cm (S.1 0 3) (rcG (S.1 0 3) (fun i => S.1 (10 + i))) (rcF (S.1 0 3) (fun i => S.1 (10 + i)))))))) := by
  refine ci_of rfl rfl rfl (Nat.le_of_ble_eq_true rfl) ?_
  have hs10 := hW.sz10
  refine r_aload_n d_Md_unlikeNow_0 rfl ?_
  refine g_Vi (av := []) d_Md_unlikeNow_1 k_Md_173 ws_Md_wide (by decide) rfl rfl (Nat.le_of_ble_eq_true rfl) rfl (c_Md_wide (hX.sz)) ?_
  rintro _ _ ⟨rfl, rfl⟩
  refine n_if_ne d_Md_unlikeNow_4 (by omega) (fun hs => ?_) (fun hs => ?_)
  · obtain ⟨z1, z2⟩ := hW.sz (Nat.pos_of_ne_zero hs)
    have h0 : 0 < S.1 0 3 := by omega
    have frl : ∀ i j, i < 10 → j < 10 → S.1 (10 + i) j < 1000003 := fun i j hi hj => hW.rlt (rx_f hi) hj
    refine r_iconst (v := nI 0) d_Md_unlikeNow_10 (by decide) ?_
    refine r_istore_n (L' := [some (.ref 436), some (.int (nI 0))]) d_Md_unlikeNow_11 (by decide) rfl ?_
    refine lp (a := 0) (N := 100) (R := fun k M' => Rn o l m_Md_unlikeNow (0, 0) 12 [some (.ref 436), some (.int (nI k))] [] (gh n M') (QI n (fun r M' => WK M M' ∧ ((S.1 0 3 = 0 ∧ r = nI 101) ∨ (0 < S.1 0 3 ∧ r = rcg S ∧ (r = -1 → (S.1 10 0 ≠ 0 ∧ S.1 11 1 ≠ 0) ∧ MX M' 448 (S.1 0 3) (cm (S.1 0 3) (rcG (S.1 0 3) (fun i => S.1 (10 + i))) (rcF (S.1 0 3) (fun i => S.1 (10 + i)))))))))) (P := fun k M' => (∀ b, b ≠ 449 → M' b = M b) ∧ ∀ j, j < k → M' 449 j = M 438 (141 + j)) (by omega) ?_ ?_ ?_
    · exact ⟨fun _ _ => rfl, fun j hj => absurd hj (Nat.not_lt_zero j)⟩
    · intro M1 f1
      have t1 : ∀ i j, i < 10 → j < 10 → M1 449 (10 * i + j) = nI (S.1 (10 + i) j) := fun i j hi hj => by
        rw [f1.2 _ (by omega), show 141 + (10 * i + j) = 141 + 10 * i + j by omega]
        exact hX.fr hi hj
      refine r_iload_n d_Md_unlikeNow_12 rfl ?_
      refine r_bipush (v := nI 100) d_Md_unlikeNow_13 (by decide) ?_
      refine n_icmp_ge d_Md_unlikeNow_15 (by omega) (by omega) (fun _ => ?_) (fun h9 => absurd h9 (by omega))
      refine r_iconst (v := nI 0) d_Md_unlikeNow_40 (by decide) ?_
      refine r_istore_n (L' := [some (.ref 436), some (.int (nI 0))]) d_Md_unlikeNow_41 (by decide) rfl ?_
      refine lp (a := 0) (N := 10) (R := fun i M' => Rn o l m_Md_unlikeNow (0, 0) 42 [some (.ref 436), some (.int (nI i))] [] (gh n M') (QI n (fun r M' => WK M M' ∧ ((S.1 0 3 = 0 ∧ r = nI 101) ∨ (0 < S.1 0 3 ∧ r = rcg S ∧ (r = -1 → (S.1 10 0 ≠ 0 ∧ S.1 11 1 ≠ 0) ∧ MX M' 448 (S.1 0 3) (cm (S.1 0 3) (rcG (S.1 0 3) (fun i => S.1 (10 + i))) (rcF (S.1 0 3) (fun i => S.1 (10 + i)))))))))) (P := fun i M' => (∀ b, b ≠ 443 → b ≠ 444 → M' b = M1 b) ∧ ∀ j, j < i → M' 443 j = nI (S.1 (10 + j) 0) ∧ M' 444 j = nI (S.1 (10 + j) 1)) (by omega) ?_ ?_ ?_
      · exact ⟨fun _ _ _ => rfl, fun j hj => absurd hj (Nat.not_lt_zero j)⟩
      · intro M2 f2
        have w2 : WK M M2 := WK.of (fun b hb => by rw [f2.1 b (by omega) (by omega), f1.1 b (by omega)])
        have up2 : OKs M2 443 10 (fun i => S.1 (10 + i) 0) := fun j hj => ⟨(f2.2 j hj).1, frl j 0 hj (by decide)⟩
        have lo2 : OKs M2 444 10 (fun i => S.1 (10 + i) 1) := fun j hj => ⟨(f2.2 j hj).2, frl j 1 hj (by decide)⟩
        have a9 : S.1 10 0 < 1000003 := frl 0 0 (by decide) (by decide)
        have b9 : S.1 11 1 < 1000003 := frl 1 1 (by decide) (by decide)
        have bad : (S.1 10 0 = 0 ∨ S.1 11 1 = 0) → Rn o l m_Md_unlikeNow (0, 0) 104 [some (.ref 436), some (.int (nI 10))] [] (gh n M2) (QI n (fun r M' => WK M M' ∧ ((S.1 0 3 = 0 ∧ r = nI 101) ∨ (0 < S.1 0 3 ∧ r = rcg S ∧ (r = -1 → (S.1 10 0 ≠ 0 ∧ S.1 11 1 ≠ 0) ∧ MX M' 448 (S.1 0 3) (cm (S.1 0 3) (rcG (S.1 0 3) (fun i => S.1 (10 + i))) (rcF (S.1 0 3) (fun i => S.1 (10 + i))))))))) := by
          intro hb
          refine r_bipush (v := nI 100) d_Md_unlikeNow_104 (by decide) ?_
          refine g_reti d_Md_unlikeNow_106 rfl ?_
          exact ⟨w2, Or.inr ⟨h0, by rw [rcg, ic_t hb], fun z => absurd z (by decide)⟩⟩
        refine r_iload_n d_Md_unlikeNow_42 rfl ?_
        refine r_bipush (v := nI 10) d_Md_unlikeNow_43 (by decide) ?_
        refine n_icmp_ge d_Md_unlikeNow_45 (by omega) (by omega) (fun _ => ?_) (fun h9 => absurd h9 (by omega))
        refine r_aload_n d_Md_unlikeNow_86 rfl ?_
        refine g_getr (b := 443) d_Md_unlikeNow_87 f_Md_72 rfl rfl rfl ?_
        refine r_iconst (v := nI 0) d_Md_unlikeNow_90 (by decide) ?_
        refine g_iald d_Md_unlikeNow_91 rfl (by omega) (by omega) ?_
        refine r_top (y := nI (S.1 10 0)) ((f2.2 0 (by decide)).1) ?_
        refine n_if_eq d_Md_unlikeNow_92 (by have h9 := a9; omega) (fun c0 => ?_) (fun c0 => ?_)
        · exact bad (Or.inl c0)
        · refine r_aload_n d_Md_unlikeNow_95 rfl ?_
          refine g_getr (b := 444) d_Md_unlikeNow_96 f_Md_75 rfl rfl rfl ?_
          refine r_iconst (v := nI 1) d_Md_unlikeNow_99 (by decide) ?_
          refine g_iald d_Md_unlikeNow_100 rfl (by omega) (by omega) ?_
          refine r_top (y := nI (S.1 11 1)) ((f2.2 1 (by decide)).2) ?_
          refine n_if_ne d_Md_unlikeNow_101 (by have h9 := b9; omega) (fun c1 => ?_) (fun c1 => ?_)
          · refine r_aload_n d_Md_unlikeNow_107 rfl ?_
            refine g_getr (b := 444) d_Md_unlikeNow_108 f_Md_75 rfl rfl rfl ?_
            refine r_aload_n d_Md_unlikeNow_111 rfl ?_
            refine g_getr (b := 443) d_Md_unlikeNow_112 f_Md_72 rfl rfl rfl ?_
            refine r_aload_n d_Md_unlikeNow_115 rfl ?_
            refine g_getr (b := 445) d_Md_unlikeNow_116 f_Md_78 rfl rfl rfl ?_
            refine r_aload_n d_Md_unlikeNow_119 rfl ?_
            refine g_Vi (av := []) d_Md_unlikeNow_120 k_Md_173 ws_Md_wide (by decide) rfl rfl (Nat.le_of_ble_eq_true rfl) rfl (c_Md_wide (w2.sz hX.sz)) ?_
            rintro _ _ ⟨rfl, rfl⟩
            refine g_Sv (av := [.ref 444, .ref 443, .ref 445, .int (nI (S.1 0 3))]) d_Md_unlikeNow_123 k_Md_133 ws_Md_divides (by decide) rfl rfl (Nat.le_of_ble_eq_true rfl) (c_Md_divides (a := 444) (b := 443) (c := 445) (x := fun i => S.1 (10 + i) 1) (y := fun i => S.1 (10 + i) 0) rfl rfl rfl (by decide) (by decide) (by omega) hs10 (lo2.le hs10) (up2.le hs10)) ?_
            rintro M3 f3
            have w3 : WK M M3 := w2.trans (WK.w f3 (by decide))
            refine r_aload_n d_Md_unlikeNow_126 rfl ?_
            refine r_aload_n d_Md_unlikeNow_127 rfl ?_
            refine g_getr (b := 443) d_Md_unlikeNow_128 f_Md_72 rfl rfl rfl ?_
            refine r_aload_n d_Md_unlikeNow_131 rfl ?_
            refine g_getr (b := 445) d_Md_unlikeNow_132 f_Md_78 rfl rfl rfl ?_
            refine r_aload_n d_Md_unlikeNow_135 rfl ?_
            refine g_getr (b := 448) d_Md_unlikeNow_136 f_Md_87 rfl rfl rfl ?_
            refine g_Vv (av := [.ref 443, .ref 445, .ref 448]) d_Md_unlikeNow_139 k_Md_196 ws_Md_columns (by decide) rfl rfl (Nat.le_of_ble_eq_true rfl) rfl (c_Md_columns (a := 443) (b := 445) (c := 448) (g := fun i => S.1 (10 + i) 0) (f := dv (fun i => S.1 (10 + i) 1) (fun i => S.1 (10 + i) 0)) rfl rfl rfl (by decide) ⟨by decide, by decide, by decide⟩ (by decide) hs10 (w3.sz hX.sz) (up2.kept (f3.1 443 (by decide))) (f3.ok (fun j _ => dv_lt _ _ _))) ?_
            rintro M4 ⟨f4, f5⟩
            have w4 : WK M M4 := w3.trans (WK.of (fun b hb => f4 b (by omega) (by omega) (by omega)))
            have R := rc_ok hW.1 h0 c0 c1
            have f5 : MX M4 448 (S.1 0 3) (cm (S.1 0 3) (rcG (S.1 0 3) (fun i => S.1 (10 + i))) (rcF (S.1 0 3) (fun i => S.1 (10 + i)))) := f5.to (fun i j hi hj => cm_congr (fun k hk => by unfold rcG; rw [if_pos hk]) (fun k hk => by unfold rcF; rw [if_pos hk]) j i hi)
            have fr4 : MX M4 449 (S.1 0 3) (fun i j => S.1 (10 + i) j) := fun i j hi hj => ⟨by rw [f4 449 (by decide) (by decide) (by decide), f3.1 449 (by decide), f2.1 449 (by decide) (by decide)]; exact t1 i j (by omega) (by omega), frl i j (by omega) (by omega)⟩
            refine r_aload_n d_Md_unlikeNow_142 rfl ?_
            refine r_aload_n d_Md_unlikeNow_143 rfl ?_
            refine g_getr (b := 449) d_Md_unlikeNow_144 f_Md_90 rfl rfl rfl ?_
            refine r_aload_n d_Md_unlikeNow_147 rfl ?_
            refine g_getr (b := 448) d_Md_unlikeNow_148 f_Md_87 rfl rfl rfl ?_
            refine g_Vi (av := [.ref 449, .ref 448]) d_Md_unlikeNow_151 k_Md_237 ws_Md_unlikeAt (by decide) rfl rfl (Nat.le_of_ble_eq_true rfl) rfl (c_Md_unlikeAt (a := 449) (b := 448) rfl rfl hs10 (w4.sz hX.sz) fr4 f5 (fun i j hij hj => (hW.1.2.2.2.2 i j (by omega) hij (by omega)).trans (show cm _ _ _ i j = 0 from col_up R.1.2.2.2.1 hij (by omega) (R.1.1 i (by omega))).symm)) ?_
            rintro r M5 ⟨k1, k2⟩
            subst k2
            refine g_reti d_Md_unlikeNow_154 rfl ?_
            refine ⟨w4, Or.inr ⟨h0, ?_, fun _ => ⟨⟨c0, c1⟩, f5⟩⟩⟩
            rw [rcg, ic_f (fun z => z.elim c0 c1)]
            exact FD_eq hs10 k1
          · exact bad (Or.inr c1)
      · intro i M2 hi f2 ih
        refine r_iload_n d_Md_unlikeNow_42 rfl ?_
        refine r_bipush (v := nI 10) d_Md_unlikeNow_43 (by decide) ?_
        refine n_icmp_ge d_Md_unlikeNow_45 (by omega) (by omega) (fun h9 => absurd h9 (by omega)) (fun _ => ?_)
        refine r_aload_n d_Md_unlikeNow_48 rfl ?_
        refine g_getr (b := 443) d_Md_unlikeNow_49 f_Md_72 rfl rfl rfl ?_
        refine r_iload_n d_Md_unlikeNow_52 rfl ?_
        refine r_aload_n d_Md_unlikeNow_53 rfl ?_
        refine g_getr (b := 449) d_Md_unlikeNow_54 f_Md_90 rfl rfl rfl ?_
        refine r_bipush (v := nI 10) d_Md_unlikeNow_57 (by decide) ?_
        refine r_iload_n d_Md_unlikeNow_59 rfl ?_
        refine n_imul d_Md_unlikeNow_60 ?_
        refine g_iald d_Md_unlikeNow_61 rfl (by omega) (by omega) ?_
        refine r_top (y := nI (S.1 (10 + i) 0)) (by rw [f2.1 449 (by decide) (by decide)]; exact t1 i 0 (by omega) (by decide)) ?_
        refine g_iast d_Md_unlikeNow_62 rfl (by omega) (by omega) ?_
        refine r_aload_n d_Md_unlikeNow_63 rfl ?_
        refine g_getr (b := 444) d_Md_unlikeNow_64 f_Md_75 rfl rfl rfl ?_
        refine r_iload_n d_Md_unlikeNow_67 rfl ?_
        refine r_aload_n d_Md_unlikeNow_68 rfl ?_
        refine g_getr (b := 449) d_Md_unlikeNow_69 f_Md_90 rfl rfl rfl ?_
        refine r_bipush (v := nI 10) d_Md_unlikeNow_72 (by decide) ?_
        refine r_iload_n d_Md_unlikeNow_74 rfl ?_
        refine n_imul d_Md_unlikeNow_75 ?_
        refine r_iconst (v := nI 1) d_Md_unlikeNow_76 (by decide) ?_
        refine n_iadd d_Md_unlikeNow_77 ?_
        refine g_iald d_Md_unlikeNow_78 rfl (by omega) (by omega) ?_
        refine r_top (y := nI (S.1 (10 + i) 1)) (by rw [upm_ne _ _ _ (by decide), f2.1 449 (by decide) (by decide)]; exact t1 i 1 (by omega) (by decide)) ?_
        refine g_iast d_Md_unlikeNow_79 rfl (by omega) (by omega) ?_
        refine n_iinc (c := 1) (L' := [some (.ref 436), some (.int (nI (i + 1)))]) d_Md_unlikeNow_80 rfl rfl (by decide) rfl ?_
        refine r_goto d_Md_unlikeNow_83 ?_
        refine ih _ ?_
        refine ⟨fun b b1 b2 => by rw [upm_ne _ _ _ b2, upm_ne _ _ _ b1]; exact f2.1 b b1 b2, fun j hj => ?_⟩
        rw [upm_ne (upm M2 443 i _) _ _ (show 443 ≠ 444 by decide), upm_at, upm_at, upm_ne _ _ _ (by decide)]
        by_cases e : j = i
        · rw [if_pos e, if_pos e, e]
          exact ⟨rfl, rfl⟩
        · rw [if_neg e, if_neg e]
          exact f2.2 j (by omega)
    · intro k M1 hk f1 ih
      refine r_iload_n d_Md_unlikeNow_12 rfl ?_
      refine r_bipush (v := nI 100) d_Md_unlikeNow_13 (by decide) ?_
      refine n_icmp_ge d_Md_unlikeNow_15 (by omega) (by omega) (fun h9 => absurd h9 (by omega)) (fun _ => ?_)
      refine r_aload_n d_Md_unlikeNow_18 rfl ?_
      refine g_getr (b := 449) d_Md_unlikeNow_19 f_Md_90 rfl rfl rfl ?_
      refine r_iload_n d_Md_unlikeNow_22 rfl ?_
      refine r_aload_n d_Md_unlikeNow_23 rfl ?_
      refine g_getr (b := 438) d_Md_unlikeNow_24 f_Md_56 rfl rfl rfl ?_
      refine r_sipush (v := nI 141) d_Md_unlikeNow_27 (by decide) ?_
      refine r_iload_n d_Md_unlikeNow_30 rfl ?_
      refine n_iadd d_Md_unlikeNow_31 ?_
      refine g_iald d_Md_unlikeNow_32 rfl (by omega) (by omega) ?_
      refine g_iast d_Md_unlikeNow_33 rfl (by omega) (by omega) ?_
      refine n_iinc (c := 1) (L' := [some (.ref 436), some (.int (nI (k + 1)))]) d_Md_unlikeNow_34 rfl rfl (by decide) rfl ?_
      refine r_goto d_Md_unlikeNow_37 ?_
      refine ih _ ?_
      refine ⟨fun b hb => by rw [upm_ne _ _ _ hb]; exact f1.1 b hb, fun j hj => ?_⟩
      rw [upm_at]
      by_cases e : j = k
      · rw [if_pos e, e, f1.1 438 (by decide)]
      · rw [if_neg e]
        exact f1.2 j (by omega)
  · refine r_bipush (v := nI 101) d_Md_unlikeNow_7 (by decide) ?_
    refine g_reti d_Md_unlikeNow_9 rfl ?_
    exact ⟨WK.rf, Or.inl ⟨hs, rfl⟩⟩
theorem c_Md_unlike (hW : WS S) (hX : MR M S) : CI o l m_Md_unlike n [.ref 436] M (PM M (f_unlike S)) := by
  refine ci_of rfl rfl rfl (Nat.le_of_ble_eq_true rfl) ?_
  refine r_aload_n d_Md_unlike_0 rfl ?_
  refine r_iconst (v := nI 0) d_Md_unlike_1 (by decide) ?_
  refine g_puti d_Md_unlike_2 f_Md_1 ⟨rfl, rfl, rfl⟩ rfl ?_
  obtain ⟨M0, e0, hk0, hX0, -⟩ := hX.m0
  rw [e0]
  refine r_aload_n d_Md_unlike_5 rfl ?_
  refine g_Vi (av := []) d_Md_unlike_6 k_Md_244 ws_Md_unlikeNow (by decide) rfl rfl (Nat.le_of_ble_eq_true rfl) rfl (c_Md_unlikeNow hW hX0) ?_
  rintro r M1 ⟨w1, k1⟩
  refine g_reti d_Md_unlike_9 rfl ?_
  rcases k1 with ⟨k1, rfl⟩ | ⟨k1, rfl, k2⟩
  · rw [f_unlike, ic_t k1]
    exact ⟨rfl, w1.mr hX0, hk0.trans w1.km⟩
  · rw [f_unlike, ic_f (by omega)]
    exact ⟨rfl, w1.mr hX0, hk0.trans w1.km⟩
theorem c_Md_rebuild {t : Int32} (hW : WS S) (hX : MR M S) : CI o l m_Md_rebuild n [.ref 436, .int t] M (PM M (f_rebuild S t)) := by
  refine ci_of rfl rfl rfl (Nat.le_of_ble_eq_true rfl) ?_
  refine r_aload_n d_Md_rebuild_0 rfl ?_
  refine r_iconst (v := nI 0) d_Md_rebuild_1 (by decide) ?_
  refine g_puti d_Md_rebuild_2 f_Md_1 ⟨rfl, rfl, rfl⟩ rfl ?_
  obtain ⟨M0, e0, hk0, hX0, -⟩ := hX.m0
  rw [e0]
  refine r_aload_n d_Md_rebuild_5 rfl ?_
  refine r_iload_n d_Md_rebuild_6 rfl ?_
  by_cases hg1 : okT S t
  case neg =>
    refine g_Vi (av := [.int t]) d_Md_rebuild_7 k_Md_218 ws_Md_isTable (by decide) rfl rfl (Nat.le_of_ble_eq_true rfl) rfl (c_Md_isTable_f hW hX0 hg1) ?_
    rintro _ _ ⟨rfl, rfl⟩
    refine n_if_eq d_Md_rebuild_10 (by omega) (fun _ => ?_) (fun h9 => absurd h9 (by decide))
    refine r_iconst (v := -1) d_Md_rebuild_21 (by decide) ?_
    refine r_goto d_Md_rebuild_22 ?_
    refine g_reti d_Md_rebuild_34 rfl ?_
    exact PM.no hX0 hk0 (fun q9 => hg1 q9.1)
  refine g_Vi (av := [.int t]) d_Md_rebuild_7 k_Md_218 ws_Md_isTable (by decide) rfl rfl (Nat.le_of_ble_eq_true rfl) rfl (c_Md_isTable_t hW hX0 hg1) ?_
  rintro _ _ ⟨rfl, rfl⟩
  refine n_if_eq d_Md_rebuild_10 (by omega) (fun h9 => absurd h9 (by decide)) (fun _ => ?_)
  have q1 := hg1
  rw [f_rebuild]
  obtain ⟨h0, ha1, ha2⟩ := hg1
  generalize ix t = a' at *
  subst ha2
  refine r_aload_n d_Md_rebuild_13 rfl ?_
  refine g_Vi (av := []) d_Md_rebuild_14 k_Md_244 ws_Md_unlikeNow (by decide) rfl rfl (Nat.le_of_ble_eq_true rfl) rfl (c_Md_unlikeNow hW hX0) ?_
  rintro r M1 ⟨w1, k1⟩
  rcases k1 with ⟨k1, rfl⟩ | ⟨k1, e9, k2⟩
  · omega
  · refine r_iconst (v := -1) d_Md_rebuild_17 (by decide) ?_
    refine r_icmp_eq d_Md_rebuild_18 (fun hc => ?_) (fun hc => ?_)
    · rw [ic_t ⟨q1, e9.symm.trans hc⟩]
      obtain ⟨k3, k4⟩ := k2 hc
      have R := rc_ok hW.1 h0 k3.1 k3.2
      refine r_aload_n d_Md_rebuild_25 rfl ?_
      refine r_aload_n d_Md_rebuild_26 rfl ?_
      refine g_getr (b := 448) d_Md_rebuild_27 f_Md_87 rfl rfl rfl ?_
      refine r_iload_n d_Md_rebuild_30 rfl ?_
      refine g_Vi (av := [.ref 448, .int (nI a')]) d_Md_rebuild_31 k_Md_221 ws_Md_comesAs (by decide) rfl rfl (Nat.le_of_ble_eq_true rfl) rfl (c_Md_comesAs hW (w1.mr hX0) h0 rfl (by decide) ha1 k4 R.1 R.2) ?_
      rintro r M2 k5
      refine g_reti d_Md_rebuild_34 rfl ?_
      exact PM.of (hk0.trans w1.km) k5
    · refine r_iconst (v := -1) d_Md_rebuild_21 (by decide) ?_
      refine r_goto d_Md_rebuild_22 ?_
      refine g_reti d_Md_rebuild_34 rfl ?_
      exact PM.no (w1.mr hX0) (hk0.trans w1.km) (fun z => hc (e9.trans z.2))
theorem c_Md_power {t k to : Int32} (hW : WS S) (hX : MR M S) : CI o l m_Md_power n [.ref 436, .int t, .int k, .int to] M (PM M (f_power S t k to)) := by
  refine ci_of rfl rfl rfl (Nat.le_of_ble_eq_true rfl) ?_
  have hs10 := hW.sz10
  refine r_aload_n d_Md_power_0 rfl ?_
  refine r_iconst (v := nI 0) d_Md_power_1 (by decide) ?_
  refine g_puti d_Md_power_2 f_Md_1 ⟨rfl, rfl, rfl⟩ rfl ?_
  obtain ⟨M0, e0, hk0, hX0, -⟩ := hX.m0
  rw [e0]
  refine r_aload_n d_Md_power_5 rfl ?_
  refine r_iload_n d_Md_power_6 rfl ?_
  by_cases hg1 : okT S t
  case neg =>
    refine g_Vi (av := [.int t]) d_Md_power_7 k_Md_218 ws_Md_isTable (by decide) rfl rfl (Nat.le_of_ble_eq_true rfl) rfl (c_Md_isTable_f hW hX0 hg1) ?_
    rintro _ _ ⟨rfl, rfl⟩
    refine n_if_eq d_Md_power_10 (by omega) (fun _ => ?_) (fun h9 => absurd h9 (by decide))
    refine r_iconst (v := -1) d_Md_power_32 (by decide) ?_
    refine g_reti d_Md_power_33 rfl ?_
    exact PM.no hX0 hk0 (fun q9 => hg1 q9.1)
  refine g_Vi (av := [.int t]) d_Md_power_7 k_Md_218 ws_Md_isTable (by decide) rfl rfl (Nat.le_of_ble_eq_true rfl) rfl (c_Md_isTable_t hW hX0 hg1) ?_
  rintro _ _ ⟨rfl, rfl⟩
  refine n_if_eq d_Md_power_10 (by omega) (fun h9 => absurd h9 (by decide)) (fun _ => ?_)
  refine r_aload_n d_Md_power_13 rfl ?_
  refine r_iload_n d_Md_power_14 rfl ?_
  by_cases hg2 : okT S to
  case neg =>
    refine g_Vi (av := [.int to]) d_Md_power_15 k_Md_218 ws_Md_isTable (by decide) rfl rfl (Nat.le_of_ble_eq_true rfl) rfl (c_Md_isTable_f hW hX0 hg2) ?_
    rintro _ _ ⟨rfl, rfl⟩
    refine n_if_eq d_Md_power_18 (by omega) (fun _ => ?_) (fun h9 => absurd h9 (by decide))
    refine r_iconst (v := -1) d_Md_power_32 (by decide) ?_
    refine g_reti d_Md_power_33 rfl ?_
    exact PM.no hX0 hk0 (fun q9 => hg2 q9.2.1)
  refine g_Vi (av := [.int to]) d_Md_power_15 k_Md_218 ws_Md_isTable (by decide) rfl rfl (Nat.le_of_ble_eq_true rfl) rfl (c_Md_isTable_t hW hX0 hg2) ?_
  rintro _ _ ⟨rfl, rfl⟩
  refine n_if_eq d_Md_power_18 (by omega) (fun h9 => absurd h9 (by decide)) (fun _ => ?_)
  have q1 := hg1
  have q3 := hg2
  rw [f_power]
  unfold gOf fOf
  obtain ⟨h0, ha1, ha2⟩ := hg1
  obtain ⟨_, ht1, ht2⟩ := hg2
  obtain ⟨z1, z2⟩ := hW.sz h0
  generalize ix t = a' at *
  subst ha2
  generalize ix to = t' at *
  subst ht2
  have T1 := hW.tok ha1
  -- the loop of products
  have PL : ∀ (m : Nat) (M3 : Mem) (u : Option Value) (G F : Nat → Nat), m ≤ 9 → TOk (S.1 0 3) G F → MX M3 448 (S.1 0 3) (cm (S.1 0 3) G F) → WK M0 M3 → (∀ (M' : Mem) (q : Nat), q ≤ 9 → (m ≤ q → Rn o l m_Md_power (0, 0) 183 [some (.ref 436), some (.int (nI a')), some (.int k), some (.int (nI t')), some (.int (nI q)), none] [] (gh n M') (QI n (PM M (lndT S t' (pwr (S.1 0 3) G F m).1 (pwr (S.1 0 3) G F m).2)))) → (q < m → Rn o l m_Md_power (0, 0) 128 [some (.ref 436), some (.int (nI a')), some (.int k), some (.int (nI t')), some (.int (nI q)), none] [] (gh n M') (QI n (PM M (lndT S t' (pwr (S.1 0 3) G F m).1 (pwr (S.1 0 3) G F m).2)))) → Rn o l m_Md_power (0, 0) 113 [some (.ref 436), some (.int (nI a')), some (.int k), some (.int (nI t')), some (.int (nI q)), none] [] (gh n M') (QI n (PM M (lndT S t' (pwr (S.1 0 3) G F m).1 (pwr (S.1 0 3) G F m).2)))) → Rn o l m_Md_power (0, 0) 103 [some (.ref 436), some (.int (nI a')), some (.int k), some (.int (nI t')), u, none] [] (gh n M3) (QI n (PM M (lndT S t' (pwr (S.1 0 3) G F m).1 (pwr (S.1 0 3) G F m).2))) := by
    intro m M3 u G F hm hT hA w3 hd
    refine r_aload_n d_Md_power_103 rfl ?_
    refine g_getr (b := 449) d_Md_power_104 f_Md_90 rfl rfl rfl ?_
    refine g_Sv (av := [.ref 449]) d_Md_power_107 k_Md_207 ws_Md_ones (by decide) rfl rfl (Nat.le_of_ble_eq_true rfl) (c_Md_ones (c := 449) rfl) ?_
    rintro M4 ⟨g1, g2⟩
    have w4 : WK M0 M4 := w3.trans (WK.of (fun b hb => g1 b (by omega)))
    refine r_iconst (v := nI 0) d_Md_power_110 (by decide) ?_
    refine r_istore (L' := [some (.ref 436), some (.int (nI a')), some (.int k), some (.int (nI t')), some (.int (nI 0)), none]) d_Md_power_111 (by decide) rfl ?_
    refine lp (a := 0) (N := m) (R := fun q M' => Rn o l m_Md_power (0, 0) 113 [some (.ref 436), some (.int (nI a')), some (.int k), some (.int (nI t')), some (.int (nI q)), none] [] (gh n M') (QI n (PM M (lndT S t' (pwr (S.1 0 3) G F m).1 (pwr (S.1 0 3) G F m).2)))) (P := fun q M' => (∀ b, b ≠ 449 → b ≠ 450 → M' b = M4 b) ∧ MX M' 449 (S.1 0 3) (cm (S.1 0 3) (pwr (S.1 0 3) G F q).1 (pwr (S.1 0 3) G F q).2)) (by omega) ?_ ?_ ?_
    · exact ⟨fun _ _ _ => rfl, fun i j hi hj => ⟨by rw [(g2 i j (by omega) (by omega)).1]; congr 1; exact (cm_id hi).symm, TOk.mx hs10 (TOk.pwr z1 z2 hT 0).1 hi⟩⟩
    · intro M5 f5
      have w5 : WK M0 M5 := w4.trans (WK.of (fun b hb => f5.1 b (by omega) (by omega)))
      refine hd M5 m hm (fun _ => ?_) (fun h9 => absurd h9 (by omega))
      refine r_aload_n d_Md_power_183 rfl ?_
      refine r_aload_n d_Md_power_184 rfl ?_
      refine g_getr (b := 449) d_Md_power_185 f_Md_90 rfl rfl rfl ?_
      refine r_iload_n d_Md_power_188 rfl ?_
      have R := TOk.pwr z1 z2 hT m
      refine g_Vi (av := [.ref 449, .int (nI t')]) d_Md_power_189 k_Md_221 ws_Md_comesAs (by decide) rfl rfl (Nat.le_of_ble_eq_true rfl) rfl (c_Md_comesAs hW (w5.mr hX0) h0 rfl (by decide) ht1 f5.2 R.1 R.2) ?_
      rintro r M6 k6
      refine g_reti d_Md_power_192 rfl ?_
      exact PM.of (hk0.trans w5.km) k6
    · intro q M5 hq f5 ih
      have w5 : WK M0 M5 := w4.trans (WK.of (fun b hb => f5.1 b (by omega) (by omega)))
      refine hd M5 q (by omega) (fun h9 => absurd h9 (by omega)) (fun _ => ?_)
      have R := (TOk.pwr z1 z2 hT q).1
      refine r_aload_n d_Md_power_128 rfl ?_
      refine g_getr (b := 449) d_Md_power_129 f_Md_90 rfl rfl rfl ?_
      refine r_aload_n d_Md_power_132 rfl ?_
      refine g_getr (b := 448) d_Md_power_133 f_Md_87 rfl rfl rfl ?_
      refine r_aload_n d_Md_power_136 rfl ?_
      refine g_getr (b := 450) d_Md_power_137 f_Md_93 rfl rfl rfl ?_
      refine r_aload_n d_Md_power_140 rfl ?_
      refine g_Vi (av := []) d_Md_power_141 k_Md_173 ws_Md_wide (by decide) rfl rfl (Nat.le_of_ble_eq_true rfl) rfl (c_Md_wide (w5.sz hX0.sz)) ?_
      rintro _ _ ⟨rfl, rfl⟩
      refine g_Sv (av := [.ref 449, .ref 448, .ref 450, .int (nI (S.1 0 3))]) d_Md_power_144 k_Md_231 ws_Md_product (by decide) rfl rfl (Nat.le_of_ble_eq_true rfl) (c_Md_product (a := 449) (b := 448) (c := 450) rfl rfl rfl (by decide) (by decide) hs10 f5.2 (hA.kept (by rw [f5.1 448 (by decide) (by decide), g1 448 (by decide)]))) ?_
      rintro M6 ⟨g3, g4⟩
      have g4 := g4.to (fun i j hi hj => pm_mul R.2.2.2.1 hT.2.2.2.1 hi hj)
      refine r_iconst (v := nI 0) d_Md_power_147 (by decide) ?_
      refine r_istore (L' := [some (.ref 436), some (.int (nI a')), some (.int k), some (.int (nI t')), some (.int (nI q)), some (.int (nI 0))]) d_Md_power_148 (by decide) rfl ?_
      refine lp (a := 0) (N := 100) (R := fun i M' => Rn o l m_Md_power (0, 0) 150 [some (.ref 436), some (.int (nI a')), some (.int k), some (.int (nI t')), some (.int (nI q)), some (.int (nI i))] [] (gh n M') (QI n (PM M (lndT S t' (pwr (S.1 0 3) G F m).1 (pwr (S.1 0 3) G F m).2)))) (P := fun i M' => (∀ b, b ≠ 449 → M' b = M6 b) ∧ ∀ j, j < i → M' 449 j = M6 450 j) (by omega) ?_ ?_ ?_
      · exact ⟨fun _ _ => rfl, fun j hj => absurd hj (Nat.not_lt_zero j)⟩
      · intro M7 f7
        refine r_iload d_Md_power_150 rfl ?_
        refine r_bipush (v := nI 100) d_Md_power_152 (by decide) ?_
        refine n_icmp_ge d_Md_power_154 (by omega) (by omega) (fun _ => ?_) (fun h9 => absurd h9 (by omega))
        refine n_iinc (c := 1) (L' := [some (.ref 436), some (.int (nI a')), some (.int k), some (.int (nI t')), some (.int (nI (q + 1))), some (.int (nI 100))]) d_Md_power_177 rfl rfl (by decide) rfl ?_
        refine r_goto d_Md_power_180 ?_
        refine r_weak (L' := [some (.ref 436), some (.int (nI a')), some (.int k), some (.int (nI t')), some (.int (nI (q + 1))), none]) (wk_s (wk_s (wk_s (wk_s (wk_s (wk_n wk_0)))))) ?_
        refine ih _ ⟨fun b b1 b2 => by rw [f7.1 b b1, g3 b b2]; exact f5.1 b b1 b2, fun i j hi hj => ?_⟩
        rw [f7.2 _ (by omega)]
        exact g4 i j hi hj
      · intro i M7 hi f7 ih2
        refine r_iload d_Md_power_150 rfl ?_
        refine r_bipush (v := nI 100) d_Md_power_152 (by decide) ?_
        refine n_icmp_ge d_Md_power_154 (by omega) (by omega) (fun h9 => absurd h9 (by omega)) (fun _ => ?_)
        refine r_aload_n d_Md_power_157 rfl ?_
        refine g_getr (b := 449) d_Md_power_158 f_Md_90 rfl rfl rfl ?_
        refine r_iload d_Md_power_161 rfl ?_
        refine r_aload_n d_Md_power_163 rfl ?_
        refine g_getr (b := 450) d_Md_power_164 f_Md_93 rfl rfl rfl ?_
        refine r_iload d_Md_power_167 rfl ?_
        refine g_iald d_Md_power_169 rfl (by omega) (by omega) ?_
        refine g_iast d_Md_power_170 rfl (by omega) (by omega) ?_
        refine n_iinc (c := 1) (L' := [some (.ref 436), some (.int (nI a')), some (.int k), some (.int (nI t')), some (.int (nI q)), some (.int (nI (i + 1)))]) d_Md_power_171 rfl rfl (by decide) rfl ?_
        refine r_goto d_Md_power_174 ?_
        refine ih2 _ ?_
        refine ⟨fun b hb => by rw [upm_ne _ _ _ hb]; exact f7.1 b hb, fun j hj => ?_⟩
        rw [upm_at]
        by_cases e : j = i
        · rw [if_pos e, e, f7.1 450 (by decide)]
        · rw [if_neg e]
          exact f7.2 j (by omega)
  refine r_iload_n d_Md_power_21 rfl ?_
  refine r_bipush (v := -9) d_Md_power_22 (by decide) ?_
  refine r_bipush (v := nI 9) d_Md_power_24 (by decide) ?_
  have m9 : ∀ x : Int32, (-9 ≤ x ↔ ¬ x < -9) := fun x => Int32.not_lt.symm
  refine g_Si (av := [.int k, .int (-9), .int (nI 9)]) d_Md_power_26 k_Md_118 ws_Md_isIn (by decide) rfl rfl (Nat.le_of_ble_eq_true rfl) (c_Md_isIn) ?_
  rintro r _ ⟨⟨rfl, hg3⟩ | ⟨rfl, hg3⟩, rfl⟩
  · refine n_if_ne d_Md_power_29 (by omega) (fun _ => ?_) (fun h9 => absurd h9 (by decide))
    refine r_aload_n d_Md_power_34 rfl ?_
    refine r_iload_n d_Md_power_35 rfl ?_
    refine r_aload_n d_Md_power_36 rfl ?_
    refine g_getr (b := 448) d_Md_power_37 f_Md_87 rfl rfl rfl ?_
    refine g_Vv (av := [.int (nI a'), .ref 448]) d_Md_power_40 k_Md_228 ws_Md_matrix (by decide) rfl rfl (Nat.le_of_ble_eq_true rfl) rfl (c_Md_matrix (c := 448) hW hX0 h0 rfl (by decide) ha1) ?_
    rintro M1 ⟨g1, g2, g3, g4⟩
    have w1 : WK M0 M1 := wk_mx (by decide) g1
    rcases pw_cases k with ⟨h1, h2⟩ | ⟨h1, h2, h3⟩ | ⟨h1, h2, h3, h4⟩ | ⟨h1, h2, h3, h4, h5, h6⟩
    · exact absurd h1 ((m9 k).mp hg3.1)
    · exact absurd hg3.2 h2
    · rw [ic_t ⟨q1, q3, Or.inl h4⟩, ic_f h3]
      obtain ⟨h4, h5⟩ := h4
      refine r_iload_n d_Md_power_43 rfl ?_
      refine r_if_ge d_Md_power_44 (fun hc => ?_) (fun hc => ?_)
      · refine PL (ix k) M1 _ _ _ (by omega) T1 g2 w1 (fun M' q hq ke kb => ?_)
        refine r_iload d_Md_power_113 rfl ?_
        refine r_iload_n d_Md_power_115 rfl ?_
        refine r_if_ge d_Md_power_116 (fun _ => ?_) (fun h9 => absurd (Int32.not_lt.mp h3) h9)
        refine r_iload_n d_Md_power_124 rfl ?_
        refine r_top (y := nI (ix k)) h5 ?_
        refine n_icmp_ge d_Md_power_125 (by omega) (by omega) ke kb
      · exact absurd (Int32.not_lt.mp h3) hc
    · rw [ic_t ⟨q1, q3, Or.inr ⟨h3, h4⟩⟩, ic_t h3]
      obtain ⟨h4, h7⟩ := h4
      refine r_iload_n d_Md_power_43 rfl ?_
      refine r_if_ge d_Md_power_44 (fun hc => ?_) (fun hc => ?_)
      · exact absurd h3 (Int32.not_lt.mpr hc)
      · refine r_aload_n d_Md_power_47 rfl ?_
        refine g_getr (b := 449) d_Md_power_48 f_Md_90 rfl rfl rfl ?_
        refine g_Sv (av := [.ref 449]) d_Md_power_51 k_Md_207 ws_Md_ones (by decide) rfl rfl (Nat.le_of_ble_eq_true rfl) (c_Md_ones (c := 449) rfl) ?_
        rintro M2 ⟨g5, g6⟩
        have w2 : WK M0 M2 := w1.trans (WK.of (fun b hb => g5 b (by omega)))
        refine r_aload_n d_Md_power_54 rfl ?_
        refine g_getr (b := 448) d_Md_power_55 f_Md_87 rfl rfl rfl ?_
        refine r_aload_n d_Md_power_58 rfl ?_
        refine g_getr (b := 449) d_Md_power_59 f_Md_90 rfl rfl rfl ?_
        refine r_aload_n d_Md_power_62 rfl ?_
        refine g_getr (b := 450) d_Md_power_63 f_Md_93 rfl rfl rfl ?_
        refine r_aload_n d_Md_power_66 rfl ?_
        refine g_Vi (av := []) d_Md_power_67 k_Md_173 ws_Md_wide (by decide) rfl rfl (Nat.le_of_ble_eq_true rfl) rfl (c_Md_wide (w2.sz hX0.sz)) ?_
        rintro _ _ ⟨rfl, rfl⟩
        refine g_Sv (av := [.ref 448, .ref 449, .ref 450, .int (nI (S.1 0 3))]) d_Md_power_70 k_Md_211 ws_Md_solves (by decide) rfl rfl (Nat.le_of_ble_eq_true rfl) (c_Md_solves (a := 448) (b := 449) (c := 450) (B := idm) rfl rfl rfl (by decide) (by decide) hs10 (g2.kept (g5 448 (by decide))) (fun i j hi hj => g6 i j (by omega) (by omega))) ?_
        rintro M3 ⟨g7, g8⟩
        have w3 : WK M0 M3 := w2.trans (WK.of (fun b hb => g7 b (by omega)))
        have g8 := g8.to (fun i j hi hj => inv_ok z1 z2 (fun i hi => T1.1 i (by omega)) T1.2.2.1 T1.2.2.2.1 T1.2.2.2.2 (T1.2.1 1 (by decide)) hi hj)
        refine r_iconst (v := nI 0) d_Md_power_73 (by decide) ?_
        refine r_istore (L' := [some (.ref 436), some (.int (nI a')), some (.int k), some (.int (nI t')), some (.int (nI 0)), none]) d_Md_power_74 (by decide) rfl ?_
        refine lp (a := 0) (N := 100) (R := fun i M' => Rn o l m_Md_power (0, 0) 76 [some (.ref 436), some (.int (nI a')), some (.int k), some (.int (nI t')), some (.int (nI i)), none] [] (gh n M') (QI n (PM M (lndT S t' (pwr (S.1 0 3) (invG (S.1 0 3) (S.1 (21 + 3 * a')) (S.1 (22 + 3 * a'))) (rvs (S.1 (22 + 3 * a')) (S.1 0 3)) (ix (-k))).1 (pwr (S.1 0 3) (invG (S.1 0 3) (S.1 (21 + 3 * a')) (S.1 (22 + 3 * a'))) (rvs (S.1 (22 + 3 * a')) (S.1 0 3)) (ix (-k))).2)))) (P := fun i M' => (∀ b, b ≠ 448 → M' b = M3 b) ∧ ∀ j, j < i → M' 448 j = M3 450 j) (by omega) ?_ ?_ ?_
        · exact ⟨fun _ _ => rfl, fun j hj => absurd hj (Nat.not_lt_zero j)⟩
        · intro M4 f4
          refine r_iload d_Md_power_76 rfl ?_
          refine r_bipush (v := nI 100) d_Md_power_78 (by decide) ?_
          refine n_icmp_ge d_Md_power_80 (by omega) (by omega) (fun _ => ?_) (fun h9 => absurd h9 (by omega))
          refine PL (ix (-k)) M4 _ _ _ (by omega) (T1.inv z1 z2) (fun i j hi hj => ?_) (w3.trans (WK.of (fun b hb => f4.1 b (by omega)))) (fun M' q hq ke kb => ?_)
          · rw [f4.2 _ (by omega)]
            exact g8 i j hi hj
          · refine r_iload d_Md_power_113 rfl ?_
            refine r_iload_n d_Md_power_115 rfl ?_
            refine r_if_ge d_Md_power_116 (fun h9 => absurd h3 (Int32.not_lt.mpr h9)) (fun _ => ?_)
            refine r_iload_n d_Md_power_119 rfl ?_
            refine r_ineg d_Md_power_120 ?_
            refine r_goto d_Md_power_121 ?_
            refine r_top (y := nI (ix (-k))) h7 ?_
            refine n_icmp_ge d_Md_power_125 (by omega) (by omega) ke kb
        · intro i M4 hi f4 ih2
          refine r_iload d_Md_power_76 rfl ?_
          refine r_bipush (v := nI 100) d_Md_power_78 (by decide) ?_
          refine n_icmp_ge d_Md_power_80 (by omega) (by omega) (fun h9 => absurd h9 (by omega)) (fun _ => ?_)
          refine r_aload_n d_Md_power_83 rfl ?_
          refine g_getr (b := 448) d_Md_power_84 f_Md_87 rfl rfl rfl ?_
          refine r_iload d_Md_power_87 rfl ?_
          refine r_aload_n d_Md_power_89 rfl ?_
          refine g_getr (b := 450) d_Md_power_90 f_Md_93 rfl rfl rfl ?_
          refine r_iload d_Md_power_93 rfl ?_
          refine g_iald d_Md_power_95 rfl (by omega) (by omega) ?_
          refine g_iast d_Md_power_96 rfl (by omega) (by omega) ?_
          refine n_iinc (c := 1) (L' := [some (.ref 436), some (.int (nI a')), some (.int k), some (.int (nI t')), some (.int (nI (i + 1))), none]) d_Md_power_97 rfl rfl (by decide) rfl ?_
          refine r_goto d_Md_power_100 ?_
          refine ih2 _ ?_
          refine ⟨fun b hb => by rw [upm_ne _ _ _ hb]; exact f4.1 b hb, fun j hj => ?_⟩
          rw [upm_at]
          by_cases e : j = i
          · rw [if_pos e, e, f4.1 450 (by decide)]
          · rw [if_neg e]
            exact f4.2 j (by omega)
  · refine n_if_ne d_Md_power_29 (by omega) (fun h9 => absurd h9 (by decide)) (fun _ => ?_)
    refine r_iconst (v := -1) d_Md_power_32 (by decide) ?_
    refine g_reti d_Md_power_33 rfl ?_
    refine PM.no hX0 hk0 (fun z => hg3 ?_)
    rcases pw_cases k with ⟨h1, h2⟩ | ⟨h1, h2, h3⟩ | ⟨h1, h2, h3, h4⟩ | ⟨h1, h2, h3, h4, h5, h6⟩
    · exact absurd z.2.2 h2
    · exact absurd z.2.2 h3
    · exact ⟨(m9 k).mpr h1, h2⟩
    · exact ⟨(m9 k).mpr h1, h2⟩
end C79
