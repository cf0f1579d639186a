theorem trnO {h : Nat} {x : Nat → Nat} (h4 : h < 4) : trnOk h x := ⟨by omega, fun q => absurd q (by omega), fun q => absurd q (by omega)⟩
section C75
variable {o : OM} {l : Launch} {n : Nat} {M : Mem} {S : SS}
theorem c_Md_turn {a how to : Int32} (hW : WS S) (hX : MR M S) : CI o l m_Md_turn n [.ref 436, .int a, .int how, .int to] M (PM M (f_turn S a how to)) := by
  refine ci_of rfl rfl rfl (Nat.le_of_ble_eq_true rfl) ?_
  have hs10 := hW.sz10
  refine r_aload_n d_Md_turn_0 rfl ?_
  refine r_iconst (v := nI 0) d_Md_turn_1 (by decide) ?_
  refine g_puti d_Md_turn_2 f_Md_1 ⟨rfl, rfl, rfl⟩ rfl ?_
  obtain ⟨M0, e0, hk0, hX0, -⟩ := hX.m0
  rw [e0]
  refine r_aload_n d_Md_turn_5 rfl ?_
  refine r_iload_n d_Md_turn_6 rfl ?_
  by_cases hg1 : okS S a
  case neg =>
    refine g_Vi (av := [.int a]) d_Md_turn_7 k_Md_180 ws_Md_isSeries (by decide) rfl rfl (Nat.le_of_ble_eq_true rfl) rfl (c_Md_isSeries_f hW hX0 hg1) ?_
    rintro _ _ ⟨rfl, rfl⟩
    refine n_if_eq d_Md_turn_10 (by omega) (fun _ => ?_) (fun h9 => absurd h9 (by decide))
    refine r_iconst (v := -1) d_Md_turn_30 (by decide) ?_
    refine g_reti d_Md_turn_31 rfl ?_
    exact PM.no hX0 hk0 (fun q9 => hg1 q9.1)
  refine g_Vi (av := [.int a]) d_Md_turn_7 k_Md_180 ws_Md_isSeries (by decide) rfl rfl (Nat.le_of_ble_eq_true rfl) rfl (c_Md_isSeries_t hW hX0 hg1) ?_
  rintro _ _ ⟨rfl, rfl⟩
  refine n_if_eq d_Md_turn_10 (by omega) (fun h9 => absurd h9 (by decide)) (fun _ => ?_)
  refine r_aload_n d_Md_turn_13 rfl ?_
  refine r_iload_n d_Md_turn_14 rfl ?_
  by_cases hg2 : okS S to
  case neg =>
    refine g_Vi (av := [.int to]) d_Md_turn_15 k_Md_180 ws_Md_isSeries (by decide) rfl rfl (Nat.le_of_ble_eq_true rfl) rfl (c_Md_isSeries_f hW hX0 hg2) ?_
    rintro _ _ ⟨rfl, rfl⟩
    refine n_if_eq d_Md_turn_18 (by omega) (fun _ => ?_) (fun h9 => absurd h9 (by decide))
    refine r_iconst (v := -1) d_Md_turn_30 (by decide) ?_
    refine g_reti d_Md_turn_31 rfl ?_
    exact PM.no hX0 hk0 (fun q9 => hg2 q9.2.1)
  refine g_Vi (av := [.int to]) d_Md_turn_15 k_Md_180 ws_Md_isSeries (by decide) rfl rfl (Nat.le_of_ble_eq_true rfl) rfl (c_Md_isSeries_t hW hX0 hg2) ?_
  rintro _ _ ⟨rfl, rfl⟩
  refine n_if_eq d_Md_turn_18 (by omega) (fun h9 => absurd h9 (by decide)) (fun _ => ?_)
  have q1 := hg1
  have q3 := hg2
  rw [f_turn]
  by_cases hg4 : inN 6 how
  case neg =>
    refine r_iload_n d_Md_turn_21 rfl ?_
    refine r_iconst (v := nI 0) d_Md_turn_22 (by decide) ?_
    refine r_iconst (v := nI 5) d_Md_turn_23 (by decide) ?_
    refine g_Si (av := [.int how, .int (nI 0), .int (nI 5)]) d_Md_turn_24 k_Md_118 ws_Md_isIn (by decide) rfl rfl (Nat.le_of_ble_eq_true rfl) (c_Md_in0_f (by decide) hg4) ?_
    rintro _ _ ⟨rfl, rfl⟩
    refine n_if_ne d_Md_turn_27 (by omega) (fun h9 => absurd h9 (by decide)) (fun _ => ?_)
    refine r_iconst (v := -1) d_Md_turn_30 (by decide) ?_
    refine g_reti d_Md_turn_31 rfl ?_
    exact PM.no hX0 hk0 (fun z => hg4 ⟨z.2.2.2.1, z.2.2.1⟩)
  refine r_iload_n d_Md_turn_21 rfl ?_
  refine r_iconst (v := nI 0) d_Md_turn_22 (by decide) ?_
  refine r_iconst (v := nI 5) d_Md_turn_23 (by decide) ?_
  refine g_Si (av := [.int how, .int (nI 0), .int (nI 5)]) d_Md_turn_24 k_Md_118 ws_Md_isIn (by decide) rfl rfl (Nat.le_of_ble_eq_true rfl) (c_Md_in0_t (by decide) hg4) ?_
  rintro _ _ ⟨rfl, rfl⟩
  obtain ⟨h0, ha1, ha2⟩ := hg1
  obtain ⟨_, ht1, ht2⟩ := hg2
  obtain ⟨z1, z2⟩ := hW.sz h0
  obtain ⟨hh1, hh2⟩ := hg4
  generalize ix a = a' at *
  subst ha2
  generalize ix to = t' at *
  subst ht2
  generalize ix how = h at *
  subst hh2
  refine n_if_ne d_Md_turn_27 (by omega) (fun _ => ?_) (fun h9 => absurd h9 (by decide))
  refine r_aload_n d_Md_turn_32 rfl ?_
  refine r_iconst (v := nI 1) d_Md_turn_33 (by decide) ?_
  refine r_bipush (v := nI 10) d_Md_turn_34 (by decide) ?_
  refine r_iload_n d_Md_turn_36 rfl ?_
  refine n_imul d_Md_turn_37 ?_
  refine n_iadd d_Md_turn_38 ?_
  refine r_aload_n d_Md_turn_39 rfl ?_
  refine g_getr (b := 443) d_Md_turn_40 f_Md_72 rfl rfl rfl ?_
  refine g_Vv (av := [.int (nI (1 + (10 * a'))), .ref 443]) d_Md_turn_43 k_Md_189 ws_Md_takes (by decide) rfl rfl (Nat.le_of_ble_eq_true rfl) rfl (c_Md_tser (c := 443) hW hX0 h0 rfl (by decide) ha1) ?_
  rintro M1 ⟨w1, g1, g2⟩
  have hX1 := w1.mr hX0
  have hk1 := hk0.trans w1.km
  have al := fun j hj => hW.rlt (rx_s ha1) (j := j) hj
  generalize hx : S.1 (2 + a') = x at *
  generalize hS : S.1 0 3 = s at *
  have hz1 : M1 438 0 = nI s := by rw [← hS]; exact hX1.sz
  have fin : ∀ (M3 : Mem) (u v r : Option Value), WK M1 M3 → trnOk h x → (∀ j, j < s → M3 445 j = nI (trn h x s j)) → Rn o l m_Md_turn (0, 0) 280 [some (.ref 436), some (.int (nI a')), some (.int (nI h)), some (.int (nI t')), u, v, r] [] (gh n M3) (QI n (PM M (ic (okS S (nI a') ∧ okS S (nI t') ∧ nI h = nI h ∧ trnOk h x) (lndS S t' (trn h x s)) (-1, S)))) := by
    intro M3 u v r w3 hok hw
    have hX3 := w3.mr hX1
    rw [ic_t ⟨q1, q3, rfl, hok⟩]
    refine r_aload_n d_Md_turn_280 rfl ?_
    refine r_aload_n d_Md_turn_281 rfl ?_
    refine g_getr (b := 445) d_Md_turn_282 f_Md_78 rfl rfl rfl ?_
    refine r_iload_n d_Md_turn_285 rfl ?_
    refine r_aload_n d_Md_turn_286 rfl ?_
    refine g_Vi (av := []) d_Md_turn_287 k_Md_173 ws_Md_wide (by decide) rfl rfl (Nat.le_of_ble_eq_true rfl) rfl (c_Md_wide (w3.sz hz1)) ?_
    rintro _ _ ⟨rfl, rfl⟩
    refine r_iconst (v := nI 1) d_Md_turn_290 (by decide) ?_
    refine n_isub d_Md_turn_291 (by omega) ?_
    refine g_Vi (av := [.ref 445, .int (nI t'), .int (nI (s - 1))]) d_Md_turn_292 k_Md_203 ws_Md_comes (by decide) rfl rfl (Nat.le_of_ble_eq_true rfl) rfl (c_Md_comes (w := trn h x s) hW hX3 rfl (by decide) ht1 (by omega) (fun j hj => hw j (by omega))) ?_
    rintro r M4 k4
    refine g_reti d_Md_turn_295 rfl ?_
    have k5 := PM.of (hk1.trans w3.km) k4
    have e9 : lndS S t' (trn h x s) = (nI (trn h x s (s - 1)), kp S (rowC S.1 (2 + t') (trn h x s))) := by rw [lndS, hS]
    rw [e9]
    exact k5
  rcases (show h = 0 ∨ h = 1 ∨ h = 2 ∨ h = 3 ∨ h = 4 ∨ h = 5 by omega) with rfl | rfl | rfl | rfl | rfl | rfl
  · refine r_iload_n d_Md_turn_46 rfl ?_
    refine r_iconst (v := nI 4) d_Md_turn_47 (by decide) ?_
    refine n_icmp_ne d_Md_turn_48 (by omega) (by omega) (fun _ => ?_) (fun h9 => absurd h9 (by decide))
    refine r_iload_n d_Md_turn_69 rfl ?_
    refine r_iconst (v := nI 5) d_Md_turn_70 (by decide) ?_
    refine n_icmp_ne d_Md_turn_71 (by omega) (by omega) (fun _ => ?_) (fun h9 => absurd h9 (by decide))
    refine r_iconst (v := nI 0) d_Md_turn_85 (by decide) ?_
    refine r_istore (L' := [some (.ref 436), some (.int (nI a')), some (.int (nI 0)), some (.int (nI t')), some (.int (nI 0)), none, none]) d_Md_turn_86 (by decide) rfl ?_
    refine lp (a := 0) (N := s) (R := fun i M' => Rn o l m_Md_turn (0, 0) 88 [some (.ref 436), some (.int (nI a')), some (.int (nI 0)), some (.int (nI t')), some (.int (nI i)), none, none] [] (gh n M') (QI n (PM M (ic (okS S (nI a') ∧ okS S (nI t') ∧ nI 0 = nI 0 ∧ trnOk 0 x) (lndS S t' (trn 0 x s)) (-1, S))))) (P := fun i M' => (∀ q, q ≠ 445 → M' q = M1 q) ∧ ∀ j, j < i → M' 445 j = nI (trn 0 x s j)) (by omega) ?_ ?_ ?_
    · exact ⟨fun _ _ => rfl, fun j hj => absurd hj (Nat.not_lt_zero j)⟩
    · intro M2 f2
      have w2 : WK M1 M2 := WK.of (fun b hb => f2.1 b (by omega))
      refine r_iload d_Md_turn_88 rfl ?_
      refine r_aload_n d_Md_turn_90 rfl ?_
      refine g_Vi (av := []) d_Md_turn_91 k_Md_173 ws_Md_wide (by decide) rfl rfl (Nat.le_of_ble_eq_true rfl) rfl (c_Md_wide (w2.sz hz1)) ?_
      rintro _ _ ⟨rfl, rfl⟩
      refine n_icmp_ge d_Md_turn_94 (by omega) (by omega) (fun _ => ?_) (fun h9 => absurd h9 (by omega))
      refine r_iload_n d_Md_turn_235 rfl ?_
      refine r_iconst (v := nI 4) d_Md_turn_236 (by decide) ?_
      refine n_icmp_ne d_Md_turn_237 (by omega) (by omega) (fun _ => ?_) (fun h9 => absurd h9 (by decide))
      refine r_iload_n d_Md_turn_252 rfl ?_
      refine r_iconst (v := nI 5) d_Md_turn_253 (by decide) ?_
      refine n_icmp_ne d_Md_turn_254 (by omega) (by omega) (fun _ => ?_) (fun h9 => absurd h9 (by decide))
      exact fin M2 _ _ _ w2 (trnO (by decide)) f2.2
    · intro i M2 hi f2 ih
      have w2 : WK M1 M2 := WK.of (fun b hb => f2.1 b (by omega))
      have r2 : ∀ j, j < 10 → M2 443 j = nI (x j) := fun j hj => by rw [f2.1 443 (by decide)]; exact (g2 j hj).1
      have B : ∀ av nx, av = (if i = 0 then 0 else x (i - 1)) → nx = (if i + 1 < s then x (i + 1) else 0) → av < 1000003 → nx < 1000003 → Rn o l m_Md_turn (0, 0) 143 [some (.ref 436), some (.int (nI a')), some (.int (nI 0)), some (.int (nI t')), some (.int (nI i)), some (.int (nI av)), some (.int (nI nx))] [] (gh n M2) (QI n (PM M (ic (okS S (nI a') ∧ okS S (nI t') ∧ nI 0 = nI 0 ∧ trnOk 0 x) (lndS S t' (trn 0 x s)) (-1, S)))) := by
        intro av nx hav hnx av1 nx1
        have st : ∀ v, v = trn 0 x s i → (∀ q, q ≠ 445 → upm M2 445 i (nI v) q = M1 q) ∧ ∀ j, j < i + 1 → upm M2 445 i (nI v) 445 j = nI (trn 0 x s j) := by
          intro v hv
          have := MW.up (M := M1) ⟨f2.1, f2.2⟩ hv
          exact this
        refine r_iload_n d_Md_turn_143 rfl ?_
        refine n_if_ne d_Md_turn_144 (by omega) (fun h9 => absurd h9 (by decide)) (fun _ => ?_)
        refine r_aload_n d_Md_turn_147 rfl ?_
        refine g_getr (b := 445) d_Md_turn_148 f_Md_78 rfl rfl rfl ?_
        refine r_iload d_Md_turn_151 rfl ?_
        refine r_iload d_Md_turn_153 rfl ?_
        refine g_iast d_Md_turn_155 rfl (by omega) (by omega) ?_
        refine r_iload_n d_Md_turn_156 rfl ?_
        refine r_iconst (v := nI 1) d_Md_turn_157 (by decide) ?_
        refine n_icmp_ne d_Md_turn_158 (by omega) (by omega) (fun _ => ?_) (fun h9 => absurd h9 (by decide))
        refine r_iload_n d_Md_turn_170 rfl ?_
        refine r_iconst (v := nI 2) d_Md_turn_171 (by decide) ?_
        refine n_icmp_ne d_Md_turn_172 (by omega) (by omega) (fun _ => ?_) (fun h9 => absurd h9 (by decide))
        refine r_iload_n d_Md_turn_194 rfl ?_
        refine r_iconst (v := nI 3) d_Md_turn_195 (by decide) ?_
        refine n_icmp_ne d_Md_turn_196 (by omega) (by omega) (fun _ => ?_) (fun h9 => absurd h9 (by decide))
        refine n_iinc (c := 1) (L' := [some (.ref 436), some (.int (nI a')), some (.int (nI 0)), some (.int (nI t')), some (.int (nI (i + 1))), some (.int (nI av)), some (.int (nI nx))]) d_Md_turn_229 rfl rfl (by decide) rfl ?_
        refine r_goto d_Md_turn_232 ?_
        refine r_weak (L' := [some (.ref 436), some (.int (nI a')), some (.int (nI 0)), some (.int (nI t')), some (.int (nI (i + 1))), none, none]) (wk_s (wk_s (wk_s (wk_s (wk_s (wk_n (wk_n wk_0))))))) (ih _ ?_)
        exact st av (by rw [trn_0]; exact hav)
      have B2 : ∀ av, av = (if i = 0 then 0 else x (i - 1)) → av < 1000003 → Rn o l m_Md_turn (0, 0) 117 [some (.ref 436), some (.int (nI a')), some (.int (nI 0)), some (.int (nI t')), some (.int (nI i)), some (.int (nI av)), none] [] (gh n M2) (QI n (PM M (ic (okS S (nI a') ∧ okS S (nI t') ∧ nI 0 = nI 0 ∧ trnOk 0 x) (lndS S t' (trn 0 x s)) (-1, S)))) := by
        intro av hav av1
        refine r_iload d_Md_turn_117 rfl ?_
        refine r_iconst (v := nI 1) d_Md_turn_119 (by decide) ?_
        refine n_iadd d_Md_turn_120 ?_
        refine r_aload_n d_Md_turn_121 rfl ?_
        refine g_Vi (av := []) d_Md_turn_122 k_Md_173 ws_Md_wide (by decide) rfl rfl (Nat.le_of_ble_eq_true rfl) rfl (c_Md_wide (w2.sz hz1)) ?_
        rintro _ _ ⟨rfl, rfl⟩
        refine n_icmp_ge d_Md_turn_125 (by omega) (by omega) (fun cn => ?_) (fun cn => ?_)
        · refine r_iconst (v := nI 0) d_Md_turn_140 (by decide) ?_
          refine r_istore (L' := [some (.ref 436), some (.int (nI a')), some (.int (nI 0)), some (.int (nI t')), some (.int (nI i)), some (.int (nI av)), some (.int (nI 0))]) d_Md_turn_141 (by decide) rfl ?_
          exact B av 0 hav (by rw [if_neg (by omega)]) av1 (by decide)
        · refine r_aload_n d_Md_turn_128 rfl ?_
          refine g_getr (b := 443) d_Md_turn_129 f_Md_72 rfl rfl rfl ?_
          refine r_iload d_Md_turn_132 rfl ?_
          refine r_iconst (v := nI 1) d_Md_turn_134 (by decide) ?_
          refine n_iadd d_Md_turn_135 ?_
          refine g_iald d_Md_turn_136 rfl (by omega) (by omega) ?_
          refine r_top (y := nI (x (i + 1))) (r2 (i + 1) (by omega)) ?_
          refine r_goto d_Md_turn_137 ?_
          refine r_istore (L' := [some (.ref 436), some (.int (nI a')), some (.int (nI 0)), some (.int (nI t')), some (.int (nI i)), some (.int (nI av)), some (.int (nI (x (i + 1))))]) d_Md_turn_141 (by decide) rfl ?_
          exact B av _ hav (by rw [if_pos cn]) av1 (al _ (by omega))
      refine r_iload d_Md_turn_88 rfl ?_
      refine r_aload_n d_Md_turn_90 rfl ?_
      refine g_Vi (av := []) d_Md_turn_91 k_Md_173 ws_Md_wide (by decide) rfl rfl (Nat.le_of_ble_eq_true rfl) rfl (c_Md_wide (w2.sz hz1)) ?_
      rintro _ _ ⟨rfl, rfl⟩
      refine n_icmp_ge d_Md_turn_94 (by omega) (by omega) (fun h9 => absurd h9 (by omega)) (fun _ => ?_)
      refine r_iload d_Md_turn_97 rfl ?_
      refine n_if_le d_Md_turn_99 (by omega) (fun ci => ?_) (fun ci => ?_)
      · refine r_iconst (v := nI 0) d_Md_turn_114 (by decide) ?_
        refine r_istore (L' := [some (.ref 436), some (.int (nI a')), some (.int (nI 0)), some (.int (nI t')), some (.int (nI i)), some (.int (nI 0)), none]) d_Md_turn_115 (by decide) rfl ?_
        exact B2 0 (by rw [if_pos ci]) (by decide)
      · refine r_aload_n d_Md_turn_102 rfl ?_
        refine g_getr (b := 443) d_Md_turn_103 f_Md_72 rfl rfl rfl ?_
        refine r_iload d_Md_turn_106 rfl ?_
        refine r_iconst (v := nI 1) d_Md_turn_108 (by decide) ?_
        refine n_isub d_Md_turn_109 (by omega) ?_
        refine g_iald d_Md_turn_110 rfl (by omega) (by omega) ?_
        refine r_top (y := nI (x (i - 1))) (r2 (i - 1) (by omega)) ?_
        refine r_goto d_Md_turn_111 ?_
        refine r_istore (L' := [some (.ref 436), some (.int (nI a')), some (.int (nI 0)), some (.int (nI t')), some (.int (nI i)), some (.int (nI (x (i - 1)))), none]) d_Md_turn_115 (by decide) rfl ?_
        exact B2 _ (by rw [if_neg (by omega)]) (al _ (by omega))
  · refine r_iload_n d_Md_turn_46 rfl ?_
    refine r_iconst (v := nI 4) d_Md_turn_47 (by decide) ?_
    refine n_icmp_ne d_Md_turn_48 (by omega) (by omega) (fun _ => ?_) (fun h9 => absurd h9 (by decide))
    refine r_iload_n d_Md_turn_69 rfl ?_
    refine r_iconst (v := nI 5) d_Md_turn_70 (by decide) ?_
    refine n_icmp_ne d_Md_turn_71 (by omega) (by omega) (fun _ => ?_) (fun h9 => absurd h9 (by decide))
    refine r_iconst (v := nI 0) d_Md_turn_85 (by decide) ?_
    refine r_istore (L' := [some (.ref 436), some (.int (nI a')), some (.int (nI 1)), some (.int (nI t')), some (.int (nI 0)), none, none]) d_Md_turn_86 (by decide) rfl ?_
    refine lp (a := 0) (N := s) (R := fun i M' => Rn o l m_Md_turn (0, 0) 88 [some (.ref 436), some (.int (nI a')), some (.int (nI 1)), some (.int (nI t')), some (.int (nI i)), none, none] [] (gh n M') (QI n (PM M (ic (okS S (nI a') ∧ okS S (nI t') ∧ nI 1 = nI 1 ∧ trnOk 1 x) (lndS S t' (trn 1 x s)) (-1, S))))) (P := fun i M' => (∀ q, q ≠ 445 → M' q = M1 q) ∧ ∀ j, j < i → M' 445 j = nI (trn 1 x s j)) (by omega) ?_ ?_ ?_
    · exact ⟨fun _ _ => rfl, fun j hj => absurd hj (Nat.not_lt_zero j)⟩
    · intro M2 f2
      have w2 : WK M1 M2 := WK.of (fun b hb => f2.1 b (by omega))
      refine r_iload d_Md_turn_88 rfl ?_
      refine r_aload_n d_Md_turn_90 rfl ?_
      refine g_Vi (av := []) d_Md_turn_91 k_Md_173 ws_Md_wide (by decide) rfl rfl (Nat.le_of_ble_eq_true rfl) rfl (c_Md_wide (w2.sz hz1)) ?_
      rintro _ _ ⟨rfl, rfl⟩
      refine n_icmp_ge d_Md_turn_94 (by omega) (by omega) (fun _ => ?_) (fun h9 => absurd h9 (by omega))
      refine r_iload_n d_Md_turn_235 rfl ?_
      refine r_iconst (v := nI 4) d_Md_turn_236 (by decide) ?_
      refine n_icmp_ne d_Md_turn_237 (by omega) (by omega) (fun _ => ?_) (fun h9 => absurd h9 (by decide))
      refine r_iload_n d_Md_turn_252 rfl ?_
      refine r_iconst (v := nI 5) d_Md_turn_253 (by decide) ?_
      refine n_icmp_ne d_Md_turn_254 (by omega) (by omega) (fun _ => ?_) (fun h9 => absurd h9 (by decide))
      exact fin M2 _ _ _ w2 (trnO (by decide)) f2.2
    · intro i M2 hi f2 ih
      have w2 : WK M1 M2 := WK.of (fun b hb => f2.1 b (by omega))
      have r2 : ∀ j, j < 10 → M2 443 j = nI (x j) := fun j hj => by rw [f2.1 443 (by decide)]; exact (g2 j hj).1
      have B : ∀ av nx, av = (if i = 0 then 0 else x (i - 1)) → nx = (if i + 1 < s then x (i + 1) else 0) → av < 1000003 → nx < 1000003 → Rn o l m_Md_turn (0, 0) 143 [some (.ref 436), some (.int (nI a')), some (.int (nI 1)), some (.int (nI t')), some (.int (nI i)), some (.int (nI av)), some (.int (nI nx))] [] (gh n M2) (QI n (PM M (ic (okS S (nI a') ∧ okS S (nI t') ∧ nI 1 = nI 1 ∧ trnOk 1 x) (lndS S t' (trn 1 x s)) (-1, S)))) := by
        intro av nx hav hnx av1 nx1
        have st : ∀ v, v = trn 1 x s i → (∀ q, q ≠ 445 → upm M2 445 i (nI v) q = M1 q) ∧ ∀ j, j < i + 1 → upm M2 445 i (nI v) 445 j = nI (trn 1 x s j) := by
          intro v hv
          have := MW.up (M := M1) ⟨f2.1, f2.2⟩ hv
          exact this
        refine r_iload_n d_Md_turn_143 rfl ?_
        refine n_if_ne d_Md_turn_144 (by omega) (fun _ => ?_) (fun h9 => absurd h9 (by decide))
        refine r_iload_n d_Md_turn_156 rfl ?_
        refine r_iconst (v := nI 1) d_Md_turn_157 (by decide) ?_
        refine n_icmp_ne d_Md_turn_158 (by omega) (by omega) (fun h9 => absurd h9 (by decide)) (fun _ => ?_)
        refine r_aload_n d_Md_turn_161 rfl ?_
        refine g_getr (b := 445) d_Md_turn_162 f_Md_78 rfl rfl rfl ?_
        refine r_iload d_Md_turn_165 rfl ?_
        refine r_iload d_Md_turn_167 rfl ?_
        refine g_iast d_Md_turn_169 rfl (by omega) (by omega) ?_
        refine r_iload_n d_Md_turn_170 rfl ?_
        refine r_iconst (v := nI 2) d_Md_turn_171 (by decide) ?_
        refine n_icmp_ne d_Md_turn_172 (by omega) (by omega) (fun _ => ?_) (fun h9 => absurd h9 (by decide))
        refine r_iload_n d_Md_turn_194 rfl ?_
        refine r_iconst (v := nI 3) d_Md_turn_195 (by decide) ?_
        refine n_icmp_ne d_Md_turn_196 (by omega) (by omega) (fun _ => ?_) (fun h9 => absurd h9 (by decide))
        refine n_iinc (c := 1) (L' := [some (.ref 436), some (.int (nI a')), some (.int (nI 1)), some (.int (nI t')), some (.int (nI (i + 1))), some (.int (nI av)), some (.int (nI nx))]) d_Md_turn_229 rfl rfl (by decide) rfl ?_
        refine r_goto d_Md_turn_232 ?_
        refine r_weak (L' := [some (.ref 436), some (.int (nI a')), some (.int (nI 1)), some (.int (nI t')), some (.int (nI (i + 1))), none, none]) (wk_s (wk_s (wk_s (wk_s (wk_s (wk_n (wk_n wk_0))))))) (ih _ ?_)
        refine st nx ?_
        rw [trn_1, hnx]
        by_cases e : i + 1 < s
        · rw [if_pos e, if_pos (by omega)]
        · rw [if_neg e, if_neg (by omega)]
      have B2 : ∀ av, av = (if i = 0 then 0 else x (i - 1)) → av < 1000003 → Rn o l m_Md_turn (0, 0) 117 [some (.ref 436), some (.int (nI a')), some (.int (nI 1)), some (.int (nI t')), some (.int (nI i)), some (.int (nI av)), none] [] (gh n M2) (QI n (PM M (ic (okS S (nI a') ∧ okS S (nI t') ∧ nI 1 = nI 1 ∧ trnOk 1 x) (lndS S t' (trn 1 x s)) (-1, S)))) := by
        intro av hav av1
        refine r_iload d_Md_turn_117 rfl ?_
        refine r_iconst (v := nI 1) d_Md_turn_119 (by decide) ?_
        refine n_iadd d_Md_turn_120 ?_
        refine r_aload_n d_Md_turn_121 rfl ?_
        refine g_Vi (av := []) d_Md_turn_122 k_Md_173 ws_Md_wide (by decide) rfl rfl (Nat.le_of_ble_eq_true rfl) rfl (c_Md_wide (w2.sz hz1)) ?_
        rintro _ _ ⟨rfl, rfl⟩
        refine n_icmp_ge d_Md_turn_125 (by omega) (by omega) (fun cn => ?_) (fun cn => ?_)
        · refine r_iconst (v := nI 0) d_Md_turn_140 (by decide) ?_
          refine r_istore (L' := [some (.ref 436), some (.int (nI a')), some (.int (nI 1)), some (.int (nI t')), some (.int (nI i)), some (.int (nI av)), some (.int (nI 0))]) d_Md_turn_141 (by decide) rfl ?_
          exact B av 0 hav (by rw [if_neg (by omega)]) av1 (by decide)
        · refine r_aload_n d_Md_turn_128 rfl ?_
          refine g_getr (b := 443) d_Md_turn_129 f_Md_72 rfl rfl rfl ?_
          refine r_iload d_Md_turn_132 rfl ?_
          refine r_iconst (v := nI 1) d_Md_turn_134 (by decide) ?_
          refine n_iadd d_Md_turn_135 ?_
          refine g_iald d_Md_turn_136 rfl (by omega) (by omega) ?_
          refine r_top (y := nI (x (i + 1))) (r2 (i + 1) (by omega)) ?_
          refine r_goto d_Md_turn_137 ?_
          refine r_istore (L' := [some (.ref 436), some (.int (nI a')), some (.int (nI 1)), some (.int (nI t')), some (.int (nI i)), some (.int (nI av)), some (.int (nI (x (i + 1))))]) d_Md_turn_141 (by decide) rfl ?_
          exact B av _ hav (by rw [if_pos cn]) av1 (al _ (by omega))
      refine r_iload d_Md_turn_88 rfl ?_
      refine r_aload_n d_Md_turn_90 rfl ?_
      refine g_Vi (av := []) d_Md_turn_91 k_Md_173 ws_Md_wide (by decide) rfl rfl (Nat.le_of_ble_eq_true rfl) rfl (c_Md_wide (w2.sz hz1)) ?_
      rintro _ _ ⟨rfl, rfl⟩
      refine n_icmp_ge d_Md_turn_94 (by omega) (by omega) (fun h9 => absurd h9 (by omega)) (fun _ => ?_)
      refine r_iload d_Md_turn_97 rfl ?_
      refine n_if_le d_Md_turn_99 (by omega) (fun ci => ?_) (fun ci => ?_)
      · refine r_iconst (v := nI 0) d_Md_turn_114 (by decide) ?_
        refine r_istore (L' := [some (.ref 436), some (.int (nI a')), some (.int (nI 1)), some (.int (nI t')), some (.int (nI i)), some (.int (nI 0)), none]) d_Md_turn_115 (by decide) rfl ?_
        exact B2 0 (by rw [if_pos ci]) (by decide)
      · refine r_aload_n d_Md_turn_102 rfl ?_
        refine g_getr (b := 443) d_Md_turn_103 f_Md_72 rfl rfl rfl ?_
        refine r_iload d_Md_turn_106 rfl ?_
        refine r_iconst (v := nI 1) d_Md_turn_108 (by decide) ?_
        refine n_isub d_Md_turn_109 (by omega) ?_
        refine g_iald d_Md_turn_110 rfl (by omega) (by omega) ?_
        refine r_top (y := nI (x (i - 1))) (r2 (i - 1) (by omega)) ?_
        refine r_goto d_Md_turn_111 ?_
        refine r_istore (L' := [some (.ref 436), some (.int (nI a')), some (.int (nI 1)), some (.int (nI t')), some (.int (nI i)), some (.int (nI (x (i - 1)))), none]) d_Md_turn_115 (by decide) rfl ?_
        exact B2 _ (by rw [if_neg (by omega)]) (al _ (by omega))
  · refine r_iload_n d_Md_turn_46 rfl ?_
    refine r_iconst (v := nI 4) d_Md_turn_47 (by decide) ?_
    refine n_icmp_ne d_Md_turn_48 (by omega) (by omega) (fun _ => ?_) (fun h9 => absurd h9 (by decide))
    refine r_iload_n d_Md_turn_69 rfl ?_
    refine r_iconst (v := nI 5) d_Md_turn_70 (by decide) ?_
    refine n_icmp_ne d_Md_turn_71 (by omega) (by omega) (fun _ => ?_) (fun h9 => absurd h9 (by decide))
    refine r_iconst (v := nI 0) d_Md_turn_85 (by decide) ?_
    refine r_istore (L' := [some (.ref 436), some (.int (nI a')), some (.int (nI 2)), some (.int (nI t')), some (.int (nI 0)), none, none]) d_Md_turn_86 (by decide) rfl ?_
    refine lp (a := 0) (N := s) (R := fun i M' => Rn o l m_Md_turn (0, 0) 88 [some (.ref 436), some (.int (nI a')), some (.int (nI 2)), some (.int (nI t')), some (.int (nI i)), none, none] [] (gh n M') (QI n (PM M (ic (okS S (nI a') ∧ okS S (nI t') ∧ nI 2 = nI 2 ∧ trnOk 2 x) (lndS S t' (trn 2 x s)) (-1, S))))) (P := fun i M' => (∀ q, q ≠ 445 → M' q = M1 q) ∧ ∀ j, j < i → M' 445 j = nI (trn 2 x s j)) (by omega) ?_ ?_ ?_
    · exact ⟨fun _ _ => rfl, fun j hj => absurd hj (Nat.not_lt_zero j)⟩
    · intro M2 f2
      have w2 : WK M1 M2 := WK.of (fun b hb => f2.1 b (by omega))
      refine r_iload d_Md_turn_88 rfl ?_
      refine r_aload_n d_Md_turn_90 rfl ?_
      refine g_Vi (av := []) d_Md_turn_91 k_Md_173 ws_Md_wide (by decide) rfl rfl (Nat.le_of_ble_eq_true rfl) rfl (c_Md_wide (w2.sz hz1)) ?_
      rintro _ _ ⟨rfl, rfl⟩
      refine n_icmp_ge d_Md_turn_94 (by omega) (by omega) (fun _ => ?_) (fun h9 => absurd h9 (by omega))
      refine r_iload_n d_Md_turn_235 rfl ?_
      refine r_iconst (v := nI 4) d_Md_turn_236 (by decide) ?_
      refine n_icmp_ne d_Md_turn_237 (by omega) (by omega) (fun _ => ?_) (fun h9 => absurd h9 (by decide))
      refine r_iload_n d_Md_turn_252 rfl ?_
      refine r_iconst (v := nI 5) d_Md_turn_253 (by decide) ?_
      refine n_icmp_ne d_Md_turn_254 (by omega) (by omega) (fun _ => ?_) (fun h9 => absurd h9 (by decide))
      exact fin M2 _ _ _ w2 (trnO (by decide)) f2.2
    · intro i M2 hi f2 ih
      have w2 : WK M1 M2 := WK.of (fun b hb => f2.1 b (by omega))
      have r2 : ∀ j, j < 10 → M2 443 j = nI (x j) := fun j hj => by rw [f2.1 443 (by decide)]; exact (g2 j hj).1
      have B : ∀ av nx, av = (if i = 0 then 0 else x (i - 1)) → nx = (if i + 1 < s then x (i + 1) else 0) → av < 1000003 → nx < 1000003 → Rn o l m_Md_turn (0, 0) 143 [some (.ref 436), some (.int (nI a')), some (.int (nI 2)), some (.int (nI t')), some (.int (nI i)), some (.int (nI av)), some (.int (nI nx))] [] (gh n M2) (QI n (PM M (ic (okS S (nI a') ∧ okS S (nI t') ∧ nI 2 = nI 2 ∧ trnOk 2 x) (lndS S t' (trn 2 x s)) (-1, S)))) := by
        intro av nx hav hnx av1 nx1
        have st : ∀ v, v = trn 2 x s i → (∀ q, q ≠ 445 → upm M2 445 i (nI v) q = M1 q) ∧ ∀ j, j < i + 1 → upm M2 445 i (nI v) 445 j = nI (trn 2 x s j) := by
          intro v hv
          have := MW.up (M := M1) ⟨f2.1, f2.2⟩ hv
          exact this
        have mb : (i + 1) * nx ≤ 10 * 1000003 := Nat.mul_le_mul (by omega) (by omega)
        refine r_iload_n d_Md_turn_143 rfl ?_
        refine n_if_ne d_Md_turn_144 (by omega) (fun _ => ?_) (fun h9 => absurd h9 (by decide))
        refine r_iload_n d_Md_turn_156 rfl ?_
        refine r_iconst (v := nI 1) d_Md_turn_157 (by decide) ?_
        refine n_icmp_ne d_Md_turn_158 (by omega) (by omega) (fun _ => ?_) (fun h9 => absurd h9 (by decide))
        refine r_iload_n d_Md_turn_170 rfl ?_
        refine r_iconst (v := nI 2) d_Md_turn_171 (by decide) ?_
        refine n_icmp_ne d_Md_turn_172 (by omega) (by omega) (fun h9 => absurd h9 (by decide)) (fun _ => ?_)
        refine r_aload_n d_Md_turn_175 rfl ?_
        refine g_getr (b := 445) d_Md_turn_176 f_Md_78 rfl rfl rfl ?_
        refine r_iload d_Md_turn_179 rfl ?_
        refine r_iload d_Md_turn_181 rfl ?_
        refine n_i2l d_Md_turn_183 (by omega) ?_
        refine r_lconst (v := lN 1) d_Md_turn_184 (by decide) ?_
        refine n_ladd d_Md_turn_185 ?_
        refine r_iload d_Md_turn_186 rfl ?_
        refine n_i2l d_Md_turn_188 (by omega) ?_
        refine n_lmul d_Md_turn_189 ?_
        refine g_Si (av := [.long (lN ((i + 1) * nx))]) d_Md_turn_190 k_Md_109 ws_Md_rest (by decide) rfl rfl (Nat.le_of_ble_eq_true rfl) (c_Md_restN (by omega)) ?_
        rintro _ _ ⟨rfl, rfl⟩
        refine g_iast d_Md_turn_193 rfl (by omega) (by omega) ?_
        refine r_iload_n d_Md_turn_194 rfl ?_
        refine r_iconst (v := nI 3) d_Md_turn_195 (by decide) ?_
        refine n_icmp_ne d_Md_turn_196 (by omega) (by omega) (fun _ => ?_) (fun h9 => absurd h9 (by decide))
        refine n_iinc (c := 1) (L' := [some (.ref 436), some (.int (nI a')), some (.int (nI 2)), some (.int (nI t')), some (.int (nI (i + 1))), some (.int (nI av)), some (.int (nI nx))]) d_Md_turn_229 rfl rfl (by decide) rfl ?_
        refine r_goto d_Md_turn_232 ?_
        refine r_weak (L' := [some (.ref 436), some (.int (nI a')), some (.int (nI 2)), some (.int (nI t')), some (.int (nI (i + 1))), none, none]) (wk_s (wk_s (wk_s (wk_s (wk_s (wk_n (wk_n wk_0))))))) (ih _ ?_)
        refine st _ ?_
        rw [trn_2, rst_nat, hnx]
        by_cases e : i + 1 < s
        · rw [if_pos e, if_pos (by omega), Nat.mul_comm]
        · rw [if_neg e, if_neg (by omega), Nat.mul_zero]
      have B2 : ∀ av, av = (if i = 0 then 0 else x (i - 1)) → av < 1000003 → Rn o l m_Md_turn (0, 0) 117 [some (.ref 436), some (.int (nI a')), some (.int (nI 2)), some (.int (nI t')), some (.int (nI i)), some (.int (nI av)), none] [] (gh n M2) (QI n (PM M (ic (okS S (nI a') ∧ okS S (nI t') ∧ nI 2 = nI 2 ∧ trnOk 2 x) (lndS S t' (trn 2 x s)) (-1, S)))) := by
        intro av hav av1
        refine r_iload d_Md_turn_117 rfl ?_
        refine r_iconst (v := nI 1) d_Md_turn_119 (by decide) ?_
        refine n_iadd d_Md_turn_120 ?_
        refine r_aload_n d_Md_turn_121 rfl ?_
        refine g_Vi (av := []) d_Md_turn_122 k_Md_173 ws_Md_wide (by decide) rfl rfl (Nat.le_of_ble_eq_true rfl) rfl (c_Md_wide (w2.sz hz1)) ?_
        rintro _ _ ⟨rfl, rfl⟩
        refine n_icmp_ge d_Md_turn_125 (by omega) (by omega) (fun cn => ?_) (fun cn => ?_)
        · refine r_iconst (v := nI 0) d_Md_turn_140 (by decide) ?_
          refine r_istore (L' := [some (.ref 436), some (.int (nI a')), some (.int (nI 2)), some (.int (nI t')), some (.int (nI i)), some (.int (nI av)), some (.int (nI 0))]) d_Md_turn_141 (by decide) rfl ?_
          exact B av 0 hav (by rw [if_neg (by omega)]) av1 (by decide)
        · refine r_aload_n d_Md_turn_128 rfl ?_
          refine g_getr (b := 443) d_Md_turn_129 f_Md_72 rfl rfl rfl ?_
          refine r_iload d_Md_turn_132 rfl ?_
          refine r_iconst (v := nI 1) d_Md_turn_134 (by decide) ?_
          refine n_iadd d_Md_turn_135 ?_
          refine g_iald d_Md_turn_136 rfl (by omega) (by omega) ?_
          refine r_top (y := nI (x (i + 1))) (r2 (i + 1) (by omega)) ?_
          refine r_goto d_Md_turn_137 ?_
          refine r_istore (L' := [some (.ref 436), some (.int (nI a')), some (.int (nI 2)), some (.int (nI t')), some (.int (nI i)), some (.int (nI av)), some (.int (nI (x (i + 1))))]) d_Md_turn_141 (by decide) rfl ?_
          exact B av _ hav (by rw [if_pos cn]) av1 (al _ (by omega))
      refine r_iload d_Md_turn_88 rfl ?_
      refine r_aload_n d_Md_turn_90 rfl ?_
      refine g_Vi (av := []) d_Md_turn_91 k_Md_173 ws_Md_wide (by decide) rfl rfl (Nat.le_of_ble_eq_true rfl) rfl (c_Md_wide (w2.sz hz1)) ?_
      rintro _ _ ⟨rfl, rfl⟩
      refine n_icmp_ge d_Md_turn_94 (by omega) (by omega) (fun h9 => absurd h9 (by omega)) (fun _ => ?_)
      refine r_iload d_Md_turn_97 rfl ?_
      refine n_if_le d_Md_turn_99 (by omega) (fun ci => ?_) (fun ci => ?_)
      · refine r_iconst (v := nI 0) d_Md_turn_114 (by decide) ?_
        refine r_istore (L' := [some (.ref 436), some (.int (nI a')), some (.int (nI 2)), some (.int (nI t')), some (.int (nI i)), some (.int (nI 0)), none]) d_Md_turn_115 (by decide) rfl ?_
        exact B2 0 (by rw [if_pos ci]) (by decide)
      · refine r_aload_n d_Md_turn_102 rfl ?_
        refine g_getr (b := 443) d_Md_turn_103 f_Md_72 rfl rfl rfl ?_
        refine r_iload d_Md_turn_106 rfl ?_
        refine r_iconst (v := nI 1) d_Md_turn_108 (by decide) ?_
        refine n_isub d_Md_turn_109 (by omega) ?_
        refine g_iald d_Md_turn_110 rfl (by omega) (by omega) ?_
        refine r_top (y := nI (x (i - 1))) (r2 (i - 1) (by omega)) ?_
        refine r_goto d_Md_turn_111 ?_
        refine r_istore (L' := [some (.ref 436), some (.int (nI a')), some (.int (nI 2)), some (.int (nI t')), some (.int (nI i)), some (.int (nI (x (i - 1)))), none]) d_Md_turn_115 (by decide) rfl ?_
        exact B2 _ (by rw [if_neg (by omega)]) (al _ (by omega))
  · refine r_iload_n d_Md_turn_46 rfl ?_
    refine r_iconst (v := nI 4) d_Md_turn_47 (by decide) ?_
    refine n_icmp_ne d_Md_turn_48 (by omega) (by omega) (fun _ => ?_) (fun h9 => absurd h9 (by decide))
    refine r_iload_n d_Md_turn_69 rfl ?_
    refine r_iconst (v := nI 5) d_Md_turn_70 (by decide) ?_
    refine n_icmp_ne d_Md_turn_71 (by omega) (by omega) (fun _ => ?_) (fun h9 => absurd h9 (by decide))
    refine r_iconst (v := nI 0) d_Md_turn_85 (by decide) ?_
    refine r_istore (L' := [some (.ref 436), some (.int (nI a')), some (.int (nI 3)), some (.int (nI t')), some (.int (nI 0)), none, none]) d_Md_turn_86 (by decide) rfl ?_
    refine lp (a := 0) (N := s) (R := fun i M' => Rn o l m_Md_turn (0, 0) 88 [some (.ref 436), some (.int (nI a')), some (.int (nI 3)), some (.int (nI t')), some (.int (nI i)), none, none] [] (gh n M') (QI n (PM M (ic (okS S (nI a') ∧ okS S (nI t') ∧ nI 3 = nI 3 ∧ trnOk 3 x) (lndS S t' (trn 3 x s)) (-1, S))))) (P := fun i M' => (∀ q, q ≠ 445 → M' q = M1 q) ∧ ∀ j, j < i → M' 445 j = nI (trn 3 x s j)) (by omega) ?_ ?_ ?_
    · exact ⟨fun _ _ => rfl, fun j hj => absurd hj (Nat.not_lt_zero j)⟩
    · intro M2 f2
      have w2 : WK M1 M2 := WK.of (fun b hb => f2.1 b (by omega))
      refine r_iload d_Md_turn_88 rfl ?_
      refine r_aload_n d_Md_turn_90 rfl ?_
      refine g_Vi (av := []) d_Md_turn_91 k_Md_173 ws_Md_wide (by decide) rfl rfl (Nat.le_of_ble_eq_true rfl) rfl (c_Md_wide (w2.sz hz1)) ?_
      rintro _ _ ⟨rfl, rfl⟩
      refine n_icmp_ge d_Md_turn_94 (by omega) (by omega) (fun _ => ?_) (fun h9 => absurd h9 (by omega))
      refine r_iload_n d_Md_turn_235 rfl ?_
      refine r_iconst (v := nI 4) d_Md_turn_236 (by decide) ?_
      refine n_icmp_ne d_Md_turn_237 (by omega) (by omega) (fun _ => ?_) (fun h9 => absurd h9 (by decide))
      refine r_iload_n d_Md_turn_252 rfl ?_
      refine r_iconst (v := nI 5) d_Md_turn_253 (by decide) ?_
      refine n_icmp_ne d_Md_turn_254 (by omega) (by omega) (fun _ => ?_) (fun h9 => absurd h9 (by decide))
      exact fin M2 _ _ _ w2 (trnO (by decide)) f2.2
    · intro i M2 hi f2 ih
      have w2 : WK M1 M2 := WK.of (fun b hb => f2.1 b (by omega))
      have r2 : ∀ j, j < 10 → M2 443 j = nI (x j) := fun j hj => by rw [f2.1 443 (by decide)]; exact (g2 j hj).1
      have B : ∀ av nx, av = (if i = 0 then 0 else x (i - 1)) → nx = (if i + 1 < s then x (i + 1) else 0) → av < 1000003 → nx < 1000003 → Rn o l m_Md_turn (0, 0) 143 [some (.ref 436), some (.int (nI a')), some (.int (nI 3)), some (.int (nI t')), some (.int (nI i)), some (.int (nI av)), some (.int (nI nx))] [] (gh n M2) (QI n (PM M (ic (okS S (nI a') ∧ okS S (nI t') ∧ nI 3 = nI 3 ∧ trnOk 3 x) (lndS S t' (trn 3 x s)) (-1, S)))) := by
        intro av nx hav hnx av1 nx1
        have st : ∀ v, v = trn 3 x s i → (∀ q, q ≠ 445 → upm M2 445 i (nI v) q = M1 q) ∧ ∀ j, j < i + 1 → upm M2 445 i (nI v) 445 j = nI (trn 3 x s j) := by
          intro v hv
          have := MW.up (M := M1) ⟨f2.1, f2.2⟩ hv
          exact this
        refine r_iload_n d_Md_turn_143 rfl ?_
        refine n_if_ne d_Md_turn_144 (by omega) (fun _ => ?_) (fun h9 => absurd h9 (by decide))
        refine r_iload_n d_Md_turn_156 rfl ?_
        refine r_iconst (v := nI 1) d_Md_turn_157 (by decide) ?_
        refine n_icmp_ne d_Md_turn_158 (by omega) (by omega) (fun _ => ?_) (fun h9 => absurd h9 (by decide))
        refine r_iload_n d_Md_turn_170 rfl ?_
        refine r_iconst (v := nI 2) d_Md_turn_171 (by decide) ?_
        refine n_icmp_ne d_Md_turn_172 (by omega) (by omega) (fun _ => ?_) (fun h9 => absurd h9 (by decide))
        refine r_iload_n d_Md_turn_194 rfl ?_
        refine r_iconst (v := nI 3) d_Md_turn_195 (by decide) ?_
        refine n_icmp_ne d_Md_turn_196 (by omega) (by omega) (fun h9 => absurd h9 (by decide)) (fun _ => ?_)
        refine r_aload_n d_Md_turn_199 rfl ?_
        refine g_getr (b := 445) d_Md_turn_200 f_Md_78 rfl rfl rfl ?_
        refine r_iload d_Md_turn_203 rfl ?_
        refine r_iload d_Md_turn_205 rfl ?_
        refine n_if_ne d_Md_turn_207 (by omega) (fun ci => ?_) (fun ci => ?_)
        · have mb := pp_lt av1 (nv_lt i)
          refine r_iload d_Md_turn_214 rfl ?_
          refine n_i2l d_Md_turn_216 (by omega) ?_
          refine r_iload d_Md_turn_217 rfl ?_
          refine n_i2l d_Md_turn_219 (by omega) ?_
          refine g_Si (av := [.long (lN i)]) d_Md_turn_220 k_Md_105 ws_Md_turned (by decide) rfl rfl (Nat.le_of_ble_eq_true rfl) (c_Md_turned (by omega)) ?_
          rintro _ _ ⟨rfl, rfl⟩
          refine n_i2l d_Md_turn_223 (Nat.lt_trans (nv_lt _) (by decide)) ?_
          refine n_lmul d_Md_turn_224 ?_
          refine g_Si (av := [.long (lN (av * (nv i)))]) d_Md_turn_225 k_Md_109 ws_Md_rest (by decide) rfl rfl (Nat.le_of_ble_eq_true rfl) (c_Md_restN (by omega)) ?_
          rintro _ _ ⟨rfl, rfl⟩
          refine g_iast d_Md_turn_228 rfl (by omega) (by omega) ?_
          refine n_iinc (c := 1) (L' := [some (.ref 436), some (.int (nI a')), some (.int (nI 3)), some (.int (nI t')), some (.int (nI (i + 1))), some (.int (nI av)), some (.int (nI nx))]) d_Md_turn_229 rfl rfl (by decide) rfl ?_
          refine r_goto d_Md_turn_232 ?_
          refine r_weak (L' := [some (.ref 436), some (.int (nI a')), some (.int (nI 3)), some (.int (nI t')), some (.int (nI (i + 1))), none, none]) (wk_s (wk_s (wk_s (wk_s (wk_s (wk_n (wk_n wk_0))))))) (ih _ ?_)
          exact st _ (by rw [trn_3, rst_nat, hav, if_neg ci, if_neg ci])
        · refine r_iconst (v := nI 0) d_Md_turn_210 (by decide) ?_
          refine r_goto d_Md_turn_211 ?_
          refine g_iast d_Md_turn_228 rfl (by omega) (by omega) ?_
          refine n_iinc (c := 1) (L' := [some (.ref 436), some (.int (nI a')), some (.int (nI 3)), some (.int (nI t')), some (.int (nI (i + 1))), some (.int (nI av)), some (.int (nI nx))]) d_Md_turn_229 rfl rfl (by decide) rfl ?_
          refine r_goto d_Md_turn_232 ?_
          refine r_weak (L' := [some (.ref 436), some (.int (nI a')), some (.int (nI 3)), some (.int (nI t')), some (.int (nI (i + 1))), none, none]) (wk_s (wk_s (wk_s (wk_s (wk_s (wk_n (wk_n wk_0))))))) (ih _ ?_)
          exact st 0 (by rw [trn_3, if_pos ci])
      have B2 : ∀ av, av = (if i = 0 then 0 else x (i - 1)) → av < 1000003 → Rn o l m_Md_turn (0, 0) 117 [some (.ref 436), some (.int (nI a')), some (.int (nI 3)), some (.int (nI t')), some (.int (nI i)), some (.int (nI av)), none] [] (gh n M2) (QI n (PM M (ic (okS S (nI a') ∧ okS S (nI t') ∧ nI 3 = nI 3 ∧ trnOk 3 x) (lndS S t' (trn 3 x s)) (-1, S)))) := by
        intro av hav av1
        refine r_iload d_Md_turn_117 rfl ?_
        refine r_iconst (v := nI 1) d_Md_turn_119 (by decide) ?_
        refine n_iadd d_Md_turn_120 ?_
        refine r_aload_n d_Md_turn_121 rfl ?_
        refine g_Vi (av := []) d_Md_turn_122 k_Md_173 ws_Md_wide (by decide) rfl rfl (Nat.le_of_ble_eq_true rfl) rfl (c_Md_wide (w2.sz hz1)) ?_
        rintro _ _ ⟨rfl, rfl⟩
        refine n_icmp_ge d_Md_turn_125 (by omega) (by omega) (fun cn => ?_) (fun cn => ?_)
        · refine r_iconst (v := nI 0) d_Md_turn_140 (by decide) ?_
          refine r_istore (L' := [some (.ref 436), some (.int (nI a')), some (.int (nI 3)), some (.int (nI t')), some (.int (nI i)), some (.int (nI av)), some (.int (nI 0))]) d_Md_turn_141 (by decide) rfl ?_
          exact B av 0 hav (by rw [if_neg (by omega)]) av1 (by decide)
        · refine r_aload_n d_Md_turn_128 rfl ?_
          refine g_getr (b := 443) d_Md_turn_129 f_Md_72 rfl rfl rfl ?_
          refine r_iload d_Md_turn_132 rfl ?_
          refine r_iconst (v := nI 1) d_Md_turn_134 (by decide) ?_
          refine n_iadd d_Md_turn_135 ?_
          refine g_iald d_Md_turn_136 rfl (by omega) (by omega) ?_
          refine r_top (y := nI (x (i + 1))) (r2 (i + 1) (by omega)) ?_
          refine r_goto d_Md_turn_137 ?_
          refine r_istore (L' := [some (.ref 436), some (.int (nI a')), some (.int (nI 3)), some (.int (nI t')), some (.int (nI i)), some (.int (nI av)), some (.int (nI (x (i + 1))))]) d_Md_turn_141 (by decide) rfl ?_
          exact B av _ hav (by rw [if_pos cn]) av1 (al _ (by omega))
      refine r_iload d_Md_turn_88 rfl ?_
      refine r_aload_n d_Md_turn_90 rfl ?_
      refine g_Vi (av := []) d_Md_turn_91 k_Md_173 ws_Md_wide (by decide) rfl rfl (Nat.le_of_ble_eq_true rfl) rfl (c_Md_wide (w2.sz hz1)) ?_
      rintro _ _ ⟨rfl, rfl⟩
      refine n_icmp_ge d_Md_turn_94 (by omega) (by omega) (fun h9 => absurd h9 (by omega)) (fun _ => ?_)
      refine r_iload d_Md_turn_97 rfl ?_
      refine n_if_le d_Md_turn_99 (by omega) (fun ci => ?_) (fun ci => ?_)
      · refine r_iconst (v := nI 0) d_Md_turn_114 (by decide) ?_
        refine r_istore (L' := [some (.ref 436), some (.int (nI a')), some (.int (nI 3)), some (.int (nI t')), some (.int (nI i)), some (.int (nI 0)), none]) d_Md_turn_115 (by decide) rfl ?_
        exact B2 0 (by rw [if_pos ci]) (by decide)
      · refine r_aload_n d_Md_turn_102 rfl ?_
        refine g_getr (b := 443) d_Md_turn_103 f_Md_72 rfl rfl rfl ?_
        refine r_iload d_Md_turn_106 rfl ?_
        refine r_iconst (v := nI 1) d_Md_turn_108 (by decide) ?_
        refine n_isub d_Md_turn_109 (by omega) ?_
        refine g_iald d_Md_turn_110 rfl (by omega) (by omega) ?_
        refine r_top (y := nI (x (i - 1))) (r2 (i - 1) (by omega)) ?_
        refine r_goto d_Md_turn_111 ?_
        refine r_istore (L' := [some (.ref 436), some (.int (nI a')), some (.int (nI 3)), some (.int (nI t')), some (.int (nI i)), some (.int (nI (x (i - 1)))), none]) d_Md_turn_115 (by decide) rfl ?_
        exact B2 _ (by rw [if_neg (by omega)]) (al _ (by omega))
  · refine r_iload_n d_Md_turn_46 rfl ?_
    refine r_iconst (v := nI 4) d_Md_turn_47 (by decide) ?_
    refine n_icmp_ne d_Md_turn_48 (by omega) (by omega) (fun h9 => absurd h9 (by decide)) (fun _ => ?_)
    refine r_aload_n d_Md_turn_51 rfl ?_
    refine g_getr (b := 443) d_Md_turn_52 f_Md_72 rfl rfl rfl ?_
    refine r_iconst (v := nI 0) d_Md_turn_55 (by decide) ?_
    refine g_iald d_Md_turn_56 rfl (by omega) (by omega) ?_
    refine r_top (y := nI (x 0)) ((g2 0 (by omega)).1) ?_
    refine n_if_ne d_Md_turn_57 (by have h9 := (g2 0 (by omega)).2; omega) (fun c0 => ?_) (fun c0 => ?_)
    · refine r_iconst (v := -1) d_Md_turn_83 (by decide) ?_
      refine g_reti d_Md_turn_84 rfl ?_
      exact PM.no hX1 hk1 (fun z => c0 (z.2.2.2.2.1 rfl).1)
    · refine r_aload_n d_Md_turn_60 rfl ?_
      refine g_getr (b := 443) d_Md_turn_61 f_Md_72 rfl rfl rfl ?_
      refine r_iconst (v := nI 1) d_Md_turn_64 (by decide) ?_
      refine g_iald d_Md_turn_65 rfl (by omega) (by omega) ?_
      refine r_top (y := nI (x 1)) ((g2 1 (by omega)).1) ?_
      refine n_if_eq d_Md_turn_66 (by have h9 := (g2 1 (by omega)).2; omega) (fun c1 => ?_) (fun c1 => ?_)
      · refine r_iconst (v := -1) d_Md_turn_83 (by decide) ?_
        refine g_reti d_Md_turn_84 rfl ?_
        exact PM.no hX1 hk1 (fun z => (z.2.2.2.2.1 rfl).2 c1)
      · refine r_iload_n d_Md_turn_69 rfl ?_
        refine r_iconst (v := nI 5) d_Md_turn_70 (by decide) ?_
        refine n_icmp_ne d_Md_turn_71 (by omega) (by omega) (fun _ => ?_) (fun h9 => absurd h9 (by decide))
        refine r_iconst (v := nI 0) d_Md_turn_85 (by decide) ?_
        refine r_istore (L' := [some (.ref 436), some (.int (nI a')), some (.int (nI 4)), some (.int (nI t')), some (.int (nI 0)), none, none]) d_Md_turn_86 (by decide) rfl ?_
        refine lp (a := 0) (N := s) (R := fun i M' => Rn o l m_Md_turn (0, 0) 88 [some (.ref 436), some (.int (nI a')), some (.int (nI 4)), some (.int (nI t')), some (.int (nI i)), none, none] [] (gh n M') (QI n (PM M (ic (okS S (nI a') ∧ okS S (nI t') ∧ nI 4 = nI 4 ∧ trnOk 4 x) (lndS S t' (trn 4 x s)) (-1, S))))) (P := fun i M' => (∀ q, q ≠ 445 → M' q = M1 q)) (by omega) ?_ ?_ ?_
        · exact fun _ _ => rfl
        · intro M2 f2
          have w2 : WK M1 M2 := WK.of (fun b hb => f2 b (by omega))
          refine r_iload d_Md_turn_88 rfl ?_
          refine r_aload_n d_Md_turn_90 rfl ?_
          refine g_Vi (av := []) d_Md_turn_91 k_Md_173 ws_Md_wide (by decide) rfl rfl (Nat.le_of_ble_eq_true rfl) rfl (c_Md_wide (w2.sz hz1)) ?_
          rintro _ _ ⟨rfl, rfl⟩
          refine n_icmp_ge d_Md_turn_94 (by omega) (by omega) (fun _ => ?_) (fun h9 => absurd h9 (by omega))
          refine r_iload_n d_Md_turn_235 rfl ?_
          refine r_iconst (v := nI 4) d_Md_turn_236 (by decide) ?_
          refine n_icmp_ne d_Md_turn_237 (by omega) (by omega) (fun h9 => absurd h9 (by decide)) (fun _ => ?_)
          refine r_aload_n d_Md_turn_240 rfl ?_
          refine r_aload_n d_Md_turn_241 rfl ?_
          refine g_getr (b := 443) d_Md_turn_242 f_Md_72 rfl rfl rfl ?_
          refine r_aload_n d_Md_turn_245 rfl ?_
          refine g_getr (b := 445) d_Md_turn_246 f_Md_78 rfl rfl rfl ?_
          refine g_Vv (av := [.ref 443, .ref 445]) d_Md_turn_249 k_Md_214 ws_Md_reverses (by decide) rfl rfl (Nat.le_of_ble_eq_true rfl) rfl (c_Md_reverses z1 z2 (w2.sz hz1) (g2.kept (f2 443 (by decide)))) ?_
          rintro M3 ⟨w3, g5⟩
          refine r_iload_n d_Md_turn_252 rfl ?_
          refine r_iconst (v := nI 5) d_Md_turn_253 (by decide) ?_
          refine n_icmp_ne d_Md_turn_254 (by omega) (by omega) (fun _ => ?_) (fun h9 => absurd h9 (by decide))
          exact fin M3 _ _ _ (w2.trans w3) ⟨by decide, fun _ => ⟨c0, c1⟩, fun q => absurd q (by decide)⟩ (fun j hj => by rw [g5 j hj, trn_4, (rvs_slv z1 z2 c0 (Nat.pos_of_ne_zero c1) (al 1 (by decide))).1 j hj])
        · intro i M2 hi f2 ih
          have w2 : WK M1 M2 := WK.of (fun b hb => f2 b (by omega))
          have r2 : ∀ j, j < 10 → M2 443 j = nI (x j) := fun j hj => by rw [f2 443 (by decide)]; exact (g2 j hj).1
          have B : ∀ av nx, av = (if i = 0 then 0 else x (i - 1)) → nx = (if i + 1 < s then x (i + 1) else 0) → av < 1000003 → nx < 1000003 → Rn o l m_Md_turn (0, 0) 143 [some (.ref 436), some (.int (nI a')), some (.int (nI 4)), some (.int (nI t')), some (.int (nI i)), some (.int (nI av)), some (.int (nI nx))] [] (gh n M2) (QI n (PM M (ic (okS S (nI a') ∧ okS S (nI t') ∧ nI 4 = nI 4 ∧ trnOk 4 x) (lndS S t' (trn 4 x s)) (-1, S)))) := by
            intro av nx hav hnx av1 nx1
            refine r_iload_n d_Md_turn_143 rfl ?_
            refine n_if_ne d_Md_turn_144 (by omega) (fun _ => ?_) (fun h9 => absurd h9 (by decide))
            refine r_iload_n d_Md_turn_156 rfl ?_
            refine r_iconst (v := nI 1) d_Md_turn_157 (by decide) ?_
            refine n_icmp_ne d_Md_turn_158 (by omega) (by omega) (fun _ => ?_) (fun h9 => absurd h9 (by decide))
            refine r_iload_n d_Md_turn_170 rfl ?_
            refine r_iconst (v := nI 2) d_Md_turn_171 (by decide) ?_
            refine n_icmp_ne d_Md_turn_172 (by omega) (by omega) (fun _ => ?_) (fun h9 => absurd h9 (by decide))
            refine r_iload_n d_Md_turn_194 rfl ?_
            refine r_iconst (v := nI 3) d_Md_turn_195 (by decide) ?_
            refine n_icmp_ne d_Md_turn_196 (by omega) (by omega) (fun _ => ?_) (fun h9 => absurd h9 (by decide))
            refine n_iinc (c := 1) (L' := [some (.ref 436), some (.int (nI a')), some (.int (nI 4)), some (.int (nI t')), some (.int (nI (i + 1))), some (.int (nI av)), some (.int (nI nx))]) d_Md_turn_229 rfl rfl (by decide) rfl ?_
            refine r_goto d_Md_turn_232 ?_
            refine r_weak (L' := [some (.ref 436), some (.int (nI a')), some (.int (nI 4)), some (.int (nI t')), some (.int (nI (i + 1))), none, none]) (wk_s (wk_s (wk_s (wk_s (wk_s (wk_n (wk_n wk_0))))))) (ih _ ?_)
            exact f2
          have B2 : ∀ av, av = (if i = 0 then 0 else x (i - 1)) → av < 1000003 → Rn o l m_Md_turn (0, 0) 117 [some (.ref 436), some (.int (nI a')), some (.int (nI 4)), some (.int (nI t')), some (.int (nI i)), some (.int (nI av)), none] [] (gh n M2) (QI n (PM M (ic (okS S (nI a') ∧ okS S (nI t') ∧ nI 4 = nI 4 ∧ trnOk 4 x) (lndS S t' (trn 4 x s)) (-1, S)))) := by
            intro av hav av1
            refine r_iload d_Md_turn_117 rfl ?_
            refine r_iconst (v := nI 1) d_Md_turn_119 (by decide) ?_
            refine n_iadd d_Md_turn_120 ?_
            refine r_aload_n d_Md_turn_121 rfl ?_
            refine g_Vi (av := []) d_Md_turn_122 k_Md_173 ws_Md_wide (by decide) rfl rfl (Nat.le_of_ble_eq_true rfl) rfl (c_Md_wide (w2.sz hz1)) ?_
            rintro _ _ ⟨rfl, rfl⟩
            refine n_icmp_ge d_Md_turn_125 (by omega) (by omega) (fun cn => ?_) (fun cn => ?_)
            · refine r_iconst (v := nI 0) d_Md_turn_140 (by decide) ?_
              refine r_istore (L' := [some (.ref 436), some (.int (nI a')), some (.int (nI 4)), some (.int (nI t')), some (.int (nI i)), some (.int (nI av)), some (.int (nI 0))]) d_Md_turn_141 (by decide) rfl ?_
              exact B av 0 hav (by rw [if_neg (by omega)]) av1 (by decide)
            · refine r_aload_n d_Md_turn_128 rfl ?_
              refine g_getr (b := 443) d_Md_turn_129 f_Md_72 rfl rfl rfl ?_
              refine r_iload d_Md_turn_132 rfl ?_
              refine r_iconst (v := nI 1) d_Md_turn_134 (by decide) ?_
              refine n_iadd d_Md_turn_135 ?_
              refine g_iald d_Md_turn_136 rfl (by omega) (by omega) ?_
              refine r_top (y := nI (x (i + 1))) (r2 (i + 1) (by omega)) ?_
              refine r_goto d_Md_turn_137 ?_
              refine r_istore (L' := [some (.ref 436), some (.int (nI a')), some (.int (nI 4)), some (.int (nI t')), some (.int (nI i)), some (.int (nI av)), some (.int (nI (x (i + 1))))]) d_Md_turn_141 (by decide) rfl ?_
              exact B av _ hav (by rw [if_pos cn]) av1 (al _ (by omega))
          refine r_iload d_Md_turn_88 rfl ?_
          refine r_aload_n d_Md_turn_90 rfl ?_
          refine g_Vi (av := []) d_Md_turn_91 k_Md_173 ws_Md_wide (by decide) rfl rfl (Nat.le_of_ble_eq_true rfl) rfl (c_Md_wide (w2.sz hz1)) ?_
          rintro _ _ ⟨rfl, rfl⟩
          refine n_icmp_ge d_Md_turn_94 (by omega) (by omega) (fun h9 => absurd h9 (by omega)) (fun _ => ?_)
          refine r_iload d_Md_turn_97 rfl ?_
          refine n_if_le d_Md_turn_99 (by omega) (fun ci => ?_) (fun ci => ?_)
          · refine r_iconst (v := nI 0) d_Md_turn_114 (by decide) ?_
            refine r_istore (L' := [some (.ref 436), some (.int (nI a')), some (.int (nI 4)), some (.int (nI t')), some (.int (nI i)), some (.int (nI 0)), none]) d_Md_turn_115 (by decide) rfl ?_
            exact B2 0 (by rw [if_pos ci]) (by decide)
          · refine r_aload_n d_Md_turn_102 rfl ?_
            refine g_getr (b := 443) d_Md_turn_103 f_Md_72 rfl rfl rfl ?_
            refine r_iload d_Md_turn_106 rfl ?_
            refine r_iconst (v := nI 1) d_Md_turn_108 (by decide) ?_
            refine n_isub d_Md_turn_109 (by omega) ?_
            refine g_iald d_Md_turn_110 rfl (by omega) (by omega) ?_
            refine r_top (y := nI (x (i - 1))) (r2 (i - 1) (by omega)) ?_
            refine r_goto d_Md_turn_111 ?_
            refine r_istore (L' := [some (.ref 436), some (.int (nI a')), some (.int (nI 4)), some (.int (nI t')), some (.int (nI i)), some (.int (nI (x (i - 1)))), none]) d_Md_turn_115 (by decide) rfl ?_
            exact B2 _ (by rw [if_neg (by omega)]) (al _ (by omega))
  · refine r_iload_n d_Md_turn_46 rfl ?_
    refine r_iconst (v := nI 4) d_Md_turn_47 (by decide) ?_
    refine n_icmp_ne d_Md_turn_48 (by omega) (by omega) (fun _ => ?_) (fun h9 => absurd h9 (by decide))
    refine r_iload_n d_Md_turn_69 rfl ?_
    refine r_iconst (v := nI 5) d_Md_turn_70 (by decide) ?_
    refine n_icmp_ne d_Md_turn_71 (by omega) (by omega) (fun h9 => absurd h9 (by decide)) (fun _ => ?_)
    refine r_aload_n d_Md_turn_74 rfl ?_
    refine g_getr (b := 443) d_Md_turn_75 f_Md_72 rfl rfl rfl ?_
    refine r_iconst (v := nI 0) d_Md_turn_78 (by decide) ?_
    refine g_iald d_Md_turn_79 rfl (by omega) (by omega) ?_
    refine r_top (y := nI (x 0)) ((g2 0 (by omega)).1) ?_
    refine n_if_ne d_Md_turn_80 (by have h9 := (g2 0 (by omega)).2; omega) (fun c0 => ?_) (fun c0 => ?_)
    · refine r_iconst (v := nI 0) d_Md_turn_85 (by decide) ?_
      refine r_istore (L' := [some (.ref 436), some (.int (nI a')), some (.int (nI 5)), some (.int (nI t')), some (.int (nI 0)), none, none]) d_Md_turn_86 (by decide) rfl ?_
      refine lp (a := 0) (N := s) (R := fun i M' => Rn o l m_Md_turn (0, 0) 88 [some (.ref 436), some (.int (nI a')), some (.int (nI 5)), some (.int (nI t')), some (.int (nI i)), none, none] [] (gh n M') (QI n (PM M (ic (okS S (nI a') ∧ okS S (nI t') ∧ nI 5 = nI 5 ∧ trnOk 5 x) (lndS S t' (trn 5 x s)) (-1, S))))) (P := fun i M' => (∀ q, q ≠ 445 → M' q = M1 q)) (by omega) ?_ ?_ ?_
      · exact fun _ _ => rfl
      · intro M2 f2
        have w2 : WK M1 M2 := WK.of (fun b hb => f2 b (by omega))
        refine r_iload d_Md_turn_88 rfl ?_
        refine r_aload_n d_Md_turn_90 rfl ?_
        refine g_Vi (av := []) d_Md_turn_91 k_Md_173 ws_Md_wide (by decide) rfl rfl (Nat.le_of_ble_eq_true rfl) rfl (c_Md_wide (w2.sz hz1)) ?_
        rintro _ _ ⟨rfl, rfl⟩
        refine n_icmp_ge d_Md_turn_94 (by omega) (by omega) (fun _ => ?_) (fun h9 => absurd h9 (by omega))
        refine r_iload_n d_Md_turn_235 rfl ?_
        refine r_iconst (v := nI 4) d_Md_turn_236 (by decide) ?_
        refine n_icmp_ne d_Md_turn_237 (by omega) (by omega) (fun _ => ?_) (fun h9 => absurd h9 (by decide))
        refine r_iload_n d_Md_turn_252 rfl ?_
        refine r_iconst (v := nI 5) d_Md_turn_253 (by decide) ?_
        refine n_icmp_ne d_Md_turn_254 (by omega) (by omega) (fun h9 => absurd h9 (by decide)) (fun _ => ?_)
        refine r_aload_n d_Md_turn_257 rfl ?_
        refine g_Vv (av := []) d_Md_turn_258 k_Md_193 ws_Md_laysUnit (by decide) rfl rfl (Nat.le_of_ble_eq_true rfl) rfl (c_Md_laysUnit) ?_
        rintro M3 g5
        have w3 : WK M1 M3 := w2.trans (WK.w g5 (by decide))
        refine r_aload_n d_Md_turn_261 rfl ?_
        refine g_getr (b := 452) d_Md_turn_262 f_Md_99 rfl rfl rfl ?_
        refine r_aload_n d_Md_turn_265 rfl ?_
        refine g_getr (b := 443) d_Md_turn_266 f_Md_72 rfl rfl rfl ?_
        refine r_aload_n d_Md_turn_269 rfl ?_
        refine g_getr (b := 445) d_Md_turn_270 f_Md_78 rfl rfl rfl ?_
        refine r_aload_n d_Md_turn_273 rfl ?_
        refine g_Vi (av := []) d_Md_turn_274 k_Md_173 ws_Md_wide (by decide) rfl rfl (Nat.le_of_ble_eq_true rfl) rfl (c_Md_wide (w3.sz hz1)) ?_
        rintro _ _ ⟨rfl, rfl⟩
        refine g_Sv (av := [.ref 452, .ref 443, .ref 445, .int (nI s)]) d_Md_turn_277 k_Md_133 ws_Md_divides (by decide) rfl rfl (Nat.le_of_ble_eq_true rfl) (c_Md_divides (a := 452) (b := 443) (c := 445) rfl rfl rfl (by decide) (by decide) (by omega) z2 ((g5.ok (fun j _ => by unfold oneS; split <;> decide)).le z2) ((g2.kept (by rw [g5.1 443 (by decide), f2 443 (by decide)])).le z2)) ?_
        rintro M4 g6
        exact fin M4 _ _ _ (w3.trans (WK.w g6 (by decide))) ⟨by decide, fun q => absurd q (by decide), fun _ => c0⟩ (fun j hj => by rw [g6.2 j hj, trn_5])
      · intro i M2 hi f2 ih
        have w2 : WK M1 M2 := WK.of (fun b hb => f2 b (by omega))
        have r2 : ∀ j, j < 10 → M2 443 j = nI (x j) := fun j hj => by rw [f2 443 (by decide)]; exact (g2 j hj).1
        have B : ∀ av nx, av = (if i = 0 then 0 else x (i - 1)) → nx = (if i + 1 < s then x (i + 1) else 0) → av < 1000003 → nx < 1000003 → Rn o l m_Md_turn (0, 0) 143 [some (.ref 436), some (.int (nI a')), some (.int (nI 5)), some (.int (nI t')), some (.int (nI i)), some (.int (nI av)), some (.int (nI nx))] [] (gh n M2) (QI n (PM M (ic (okS S (nI a') ∧ okS S (nI t') ∧ nI 5 = nI 5 ∧ trnOk 5 x) (lndS S t' (trn 5 x s)) (-1, S)))) := by
          intro av nx hav hnx av1 nx1
          refine r_iload_n d_Md_turn_143 rfl ?_
          refine n_if_ne d_Md_turn_144 (by omega) (fun _ => ?_) (fun h9 => absurd h9 (by decide))
          refine r_iload_n d_Md_turn_156 rfl ?_
          refine r_iconst (v := nI 1) d_Md_turn_157 (by decide) ?_
          refine n_icmp_ne d_Md_turn_158 (by omega) (by omega) (fun _ => ?_) (fun h9 => absurd h9 (by decide))
          refine r_iload_n d_Md_turn_170 rfl ?_
          refine r_iconst (v := nI 2) d_Md_turn_171 (by decide) ?_
          refine n_icmp_ne d_Md_turn_172 (by omega) (by omega) (fun _ => ?_) (fun h9 => absurd h9 (by decide))
          refine r_iload_n d_Md_turn_194 rfl ?_
          refine r_iconst (v := nI 3) d_Md_turn_195 (by decide) ?_
          refine n_icmp_ne d_Md_turn_196 (by omega) (by omega) (fun _ => ?_) (fun h9 => absurd h9 (by decide))
          refine n_iinc (c := 1) (L' := [some (.ref 436), some (.int (nI a')), some (.int (nI 5)), some (.int (nI t')), some (.int (nI (i + 1))), some (.int (nI av)), some (.int (nI nx))]) d_Md_turn_229 rfl rfl (by decide) rfl ?_
          refine r_goto d_Md_turn_232 ?_
          refine r_weak (L' := [some (.ref 436), some (.int (nI a')), some (.int (nI 5)), some (.int (nI t')), some (.int (nI (i + 1))), none, none]) (wk_s (wk_s (wk_s (wk_s (wk_s (wk_n (wk_n wk_0))))))) (ih _ ?_)
          exact f2
        have B2 : ∀ av, av = (if i = 0 then 0 else x (i - 1)) → av < 1000003 → Rn o l m_Md_turn (0, 0) 117 [some (.ref 436), some (.int (nI a')), some (.int (nI 5)), some (.int (nI t')), some (.int (nI i)), some (.int (nI av)), none] [] (gh n M2) (QI n (PM M (ic (okS S (nI a') ∧ okS S (nI t') ∧ nI 5 = nI 5 ∧ trnOk 5 x) (lndS S t' (trn 5 x s)) (-1, S)))) := by
          intro av hav av1
          refine r_iload d_Md_turn_117 rfl ?_
          refine r_iconst (v := nI 1) d_Md_turn_119 (by decide) ?_
          refine n_iadd d_Md_turn_120 ?_
          refine r_aload_n d_Md_turn_121 rfl ?_
          refine g_Vi (av := []) d_Md_turn_122 k_Md_173 ws_Md_wide (by decide) rfl rfl (Nat.le_of_ble_eq_true rfl) rfl (c_Md_wide (w2.sz hz1)) ?_
          rintro _ _ ⟨rfl, rfl⟩
          refine n_icmp_ge d_Md_turn_125 (by omega) (by omega) (fun cn => ?_) (fun cn => ?_)
          · refine r_iconst (v := nI 0) d_Md_turn_140 (by decide) ?_
            refine r_istore (L' := [some (.ref 436), some (.int (nI a')), some (.int (nI 5)), some (.int (nI t')), some (.int (nI i)), some (.int (nI av)), some (.int (nI 0))]) d_Md_turn_141 (by decide) rfl ?_
            exact B av 0 hav (by rw [if_neg (by omega)]) av1 (by decide)
          · refine r_aload_n d_Md_turn_128 rfl ?_
            refine g_getr (b := 443) d_Md_turn_129 f_Md_72 rfl rfl rfl ?_
            refine r_iload d_Md_turn_132 rfl ?_
            refine r_iconst (v := nI 1) d_Md_turn_134 (by decide) ?_
            refine n_iadd d_Md_turn_135 ?_
            refine g_iald d_Md_turn_136 rfl (by omega) (by omega) ?_
            refine r_top (y := nI (x (i + 1))) (r2 (i + 1) (by omega)) ?_
            refine r_goto d_Md_turn_137 ?_
            refine r_istore (L' := [some (.ref 436), some (.int (nI a')), some (.int (nI 5)), some (.int (nI t')), some (.int (nI i)), some (.int (nI av)), some (.int (nI (x (i + 1))))]) d_Md_turn_141 (by decide) rfl ?_
            exact B av _ hav (by rw [if_pos cn]) av1 (al _ (by omega))
        refine r_iload d_Md_turn_88 rfl ?_
        refine r_aload_n d_Md_turn_90 rfl ?_
        refine g_Vi (av := []) d_Md_turn_91 k_Md_173 ws_Md_wide (by decide) rfl rfl (Nat.le_of_ble_eq_true rfl) rfl (c_Md_wide (w2.sz hz1)) ?_
        rintro _ _ ⟨rfl, rfl⟩
        refine n_icmp_ge d_Md_turn_94 (by omega) (by omega) (fun h9 => absurd h9 (by omega)) (fun _ => ?_)
        refine r_iload d_Md_turn_97 rfl ?_
        refine n_if_le d_Md_turn_99 (by omega) (fun ci => ?_) (fun ci => ?_)
        · refine r_iconst (v := nI 0) d_Md_turn_114 (by decide) ?_
          refine r_istore (L' := [some (.ref 436), some (.int (nI a')), some (.int (nI 5)), some (.int (nI t')), some (.int (nI i)), some (.int (nI 0)), none]) d_Md_turn_115 (by decide) rfl ?_
          exact B2 0 (by rw [if_pos ci]) (by decide)
        · refine r_aload_n d_Md_turn_102 rfl ?_
          refine g_getr (b := 443) d_Md_turn_103 f_Md_72 rfl rfl rfl ?_
          refine r_iload d_Md_turn_106 rfl ?_
          refine r_iconst (v := nI 1) d_Md_turn_108 (by decide) ?_
          refine n_isub d_Md_turn_109 (by omega) ?_
          refine g_iald d_Md_turn_110 rfl (by omega) (by omega) ?_
          refine r_top (y := nI (x (i - 1))) (r2 (i - 1) (by omega)) ?_
          refine r_goto d_Md_turn_111 ?_
          refine r_istore (L' := [some (.ref 436), some (.int (nI a')), some (.int (nI 5)), some (.int (nI t')), some (.int (nI i)), some (.int (nI (x (i - 1)))), none]) d_Md_turn_115 (by decide) rfl ?_
          exact B2 _ (by rw [if_neg (by omega)]) (al _ (by omega))
    · refine r_iconst (v := -1) d_Md_turn_83 (by decide) ?_
      refine g_reti d_Md_turn_84 rfl ?_
      exact PM.no hX1 hk1 (fun z => z.2.2.2.2.2 rfl c0)
theorem c_Md_raise {a k to : Int32} (hW : WS S) (hX : MR M S) : CI o l m_Md_raise n [.ref 436, .int a, .int k, .int to] M (PM M (f_raise S a k to)) := by
  refine ci_of rfl rfl rfl (Nat.le_of_ble_eq_true rfl) ?_
  have hs10 := hW.sz10
  refine r_aload_n d_Md_raise_0 rfl ?_
  refine r_iconst (v := nI 0) d_Md_raise_1 (by decide) ?_
  refine g_puti d_Md_raise_2 f_Md_1 ⟨rfl, rfl, rfl⟩ rfl ?_
  obtain ⟨M0, e0, hk0, hX0, -⟩ := hX.m0
  rw [e0]
  refine r_aload_n d_Md_raise_5 rfl ?_
  refine r_iload_n d_Md_raise_6 rfl ?_
  by_cases hg1 : okS S a
  case neg =>
    refine g_Vi (av := [.int a]) d_Md_raise_7 k_Md_180 ws_Md_isSeries (by decide) rfl rfl (Nat.le_of_ble_eq_true rfl) rfl (c_Md_isSeries_f hW hX0 hg1) ?_
    rintro _ _ ⟨rfl, rfl⟩
    refine n_if_eq d_Md_raise_10 (by omega) (fun _ => ?_) (fun h9 => absurd h9 (by decide))
    refine r_iconst (v := -1) d_Md_raise_31 (by decide) ?_
    refine g_reti d_Md_raise_32 rfl ?_
    exact PM.no hX0 hk0 (fun q9 => hg1 q9.1)
  refine g_Vi (av := [.int a]) d_Md_raise_7 k_Md_180 ws_Md_isSeries (by decide) rfl rfl (Nat.le_of_ble_eq_true rfl) rfl (c_Md_isSeries_t hW hX0 hg1) ?_
  rintro _ _ ⟨rfl, rfl⟩
  refine n_if_eq d_Md_raise_10 (by omega) (fun h9 => absurd h9 (by decide)) (fun _ => ?_)
  refine r_aload_n d_Md_raise_13 rfl ?_
  refine r_iload_n d_Md_raise_14 rfl ?_
  by_cases hg2 : okS S to
  case neg =>
    refine g_Vi (av := [.int to]) d_Md_raise_15 k_Md_180 ws_Md_isSeries (by decide) rfl rfl (Nat.le_of_ble_eq_true rfl) rfl (c_Md_isSeries_f hW hX0 hg2) ?_
    rintro _ _ ⟨rfl, rfl⟩
    refine n_if_eq d_Md_raise_18 (by omega) (fun _ => ?_) (fun h9 => absurd h9 (by decide))
    refine r_iconst (v := -1) d_Md_raise_31 (by decide) ?_
    refine g_reti d_Md_raise_32 rfl ?_
    exact PM.no hX0 hk0 (fun q9 => hg2 q9.2.1)
  refine g_Vi (av := [.int to]) d_Md_raise_15 k_Md_180 ws_Md_isSeries (by decide) rfl rfl (Nat.le_of_ble_eq_true rfl) rfl (c_Md_isSeries_t hW hX0 hg2) ?_
  rintro _ _ ⟨rfl, rfl⟩
  refine n_if_eq d_Md_raise_18 (by omega) (fun h9 => absurd h9 (by decide)) (fun _ => ?_)
  refine r_iload_n d_Md_raise_21 rfl ?_
  refine r_iconst (v := nI 0) d_Md_raise_22 (by decide) ?_
  refine r_bipush (v := nI 99) d_Md_raise_23 (by decide) ?_
  by_cases hg3 : inN 100 k
  case neg =>
    refine g_Si (av := [.int k, .int (nI 0), .int (nI 99)]) d_Md_raise_25 k_Md_118 ws_Md_isIn (by decide) rfl rfl (Nat.le_of_ble_eq_true rfl) (c_Md_in0_f (by decide) hg3) ?_
    rintro _ _ ⟨rfl, rfl⟩
    refine n_if_ne d_Md_raise_28 (by omega) (fun h9 => absurd h9 (by decide)) (fun _ => ?_)
    refine r_iconst (v := -1) d_Md_raise_31 (by decide) ?_
    refine g_reti d_Md_raise_32 rfl ?_
    exact PM.no hX0 hk0 (fun q9 => hg3 q9.2.2)
  refine g_Si (av := [.int k, .int (nI 0), .int (nI 99)]) d_Md_raise_25 k_Md_118 ws_Md_isIn (by decide) rfl rfl (Nat.le_of_ble_eq_true rfl) (c_Md_in0_t (by decide) hg3) ?_
  rintro _ _ ⟨rfl, rfl⟩
  refine n_if_ne d_Md_raise_28 (by omega) (fun _ => ?_) (fun h9 => absurd h9 (by decide))
  rw [f_raise, ic_t ⟨hg1, hg2, hg3⟩]
  obtain ⟨h0, ha1, ha2⟩ := hg1
  obtain ⟨_, ht1, ht2⟩ := hg2
  obtain ⟨z1, z2⟩ := hW.sz h0
  obtain ⟨hh1, hh2⟩ := hg3
  generalize ix a = a' at *
  subst ha2
  generalize ix to = t' at *
  subst ht2
  generalize ix k = k' at *
  subst hh2
  refine r_aload_n d_Md_raise_33 rfl ?_
  refine r_iconst (v := nI 1) d_Md_raise_34 (by decide) ?_
  refine r_bipush (v := nI 10) d_Md_raise_35 (by decide) ?_
  refine r_iload_n d_Md_raise_37 rfl ?_
  refine n_imul d_Md_raise_38 ?_
  refine n_iadd d_Md_raise_39 ?_
  refine r_aload_n d_Md_raise_40 rfl ?_
  refine g_getr (b := 443) d_Md_raise_41 f_Md_72 rfl rfl rfl ?_
  refine g_Vv (av := [.int (nI (1 + (10 * a'))), .ref 443]) d_Md_raise_44 k_Md_189 ws_Md_takes (by decide) rfl rfl (Nat.le_of_ble_eq_true rfl) rfl (c_Md_tser (c := 443) hW hX0 h0 rfl (by decide) ha1) ?_
  rintro M1 ⟨w1, g1, g2⟩
  have hX1 := w1.mr hX0
  have hk1 := hk0.trans w1.km
  generalize hx : S.1 (2 + a') = x at *
  generalize hS : S.1 0 3 = s at *
  have hz1 : M1 438 0 = nI s := by rw [← hS]; exact hX1.sz
  have e9 : lndS S t' (rz x k' s 7) = (nI (rz x k' s 7 (s - 1)), kp S (rowC S.1 (2 + t') (rz x k' s 7))) := by rw [lndS, hS]
  rw [e9]
  refine r_iconst (v := nI 0) d_Md_raise_47 (by decide) ?_
  refine r_istore (L' := [some (.ref 436), some (.int (nI a')), some (.int (nI k')), some (.int (nI t')), some (.int (nI 0)), none]) d_Md_raise_48 (by decide) rfl ?_
  refine lp (a := 0) (N := 10) (R := fun i M' => Rn o l m_Md_raise (0, 0) 50 [some (.ref 436), some (.int (nI a')), some (.int (nI k')), some (.int (nI t')), some (.int (nI i)), none] [] (gh n M') (QI n (PM M (nI (rz x k' s 7 (s - 1)), kp S (rowC S.1 (2 + t') (rz x k' s 7)))))) (P := fun i M' => MW M1 445 i oneS M') (by omega) ?_ ?_ ?_
  · exact MW.z M1 445 _
  · intro M2 f2
    have w2 : WK M1 M2 := WK.w f2 (by decide)
    refine r_iload d_Md_raise_50 rfl ?_
    refine r_bipush (v := nI 10) d_Md_raise_52 (by decide) ?_
    refine n_icmp_ge d_Md_raise_54 (by omega) (by omega) (fun _ => ?_) (fun h9 => absurd h9 (by omega))
    refine r_iconst (v := nI 0) d_Md_raise_80 (by decide) ?_
    refine r_istore (L' := [some (.ref 436), some (.int (nI a')), some (.int (nI k')), some (.int (nI t')), some (.int (nI 0)), none]) d_Md_raise_81 (by decide) rfl ?_
    refine lp (a := 0) (N := k') (R := fun m M' => Rn o l m_Md_raise (0, 0) 83 [some (.ref 436), some (.int (nI a')), some (.int (nI k')), some (.int (nI t')), some (.int (nI m)), none] [] (gh n M') (QI n (PM M (nI (rz x k' s 7 (s - 1)), kp S (rowC S.1 (2 + t') (rz x k' s 7)))))) (P := fun m M' => (∀ q, q ≠ 445 → q ≠ 446 → M' q = M1 q) ∧ ∀ j, j < 10 → M' 445 j = nI (pwm x s m j)) (by omega) ?_ ?_ ?_
    · exact ⟨fun q q1 _ => f2.1 q q1, f2.2⟩
    · intro M3 f3
      have w3 : WK M1 M3 := WK.of (fun b hb => f3.1 b (by omega) (by omega))
      refine r_iload d_Md_raise_83 rfl ?_
      refine r_iload_n d_Md_raise_85 rfl ?_
      refine n_icmp_ge d_Md_raise_86 (by omega) (by omega) (fun _ => ?_) (fun h9 => absurd h9 (by omega))
      refine r_aload_n d_Md_raise_146 rfl ?_
      refine r_aload_n d_Md_raise_147 rfl ?_
      refine g_getr (b := 445) d_Md_raise_148 f_Md_78 rfl rfl rfl ?_
      refine r_iload_n d_Md_raise_151 rfl ?_
      refine r_aload_n d_Md_raise_152 rfl ?_
      refine g_Vi (av := []) d_Md_raise_153 k_Md_173 ws_Md_wide (by decide) rfl rfl (Nat.le_of_ble_eq_true rfl) rfl (c_Md_wide (w3.sz hz1)) ?_
      rintro _ _ ⟨rfl, rfl⟩
      refine r_iconst (v := nI 1) d_Md_raise_156 (by decide) ?_
      refine n_isub d_Md_raise_157 (by omega) ?_
      refine g_Vi (av := [.ref 445, .int (nI t'), .int (nI (s - 1))]) d_Md_raise_158 k_Md_203 ws_Md_comes (by decide) rfl rfl (Nat.le_of_ble_eq_true rfl) rfl (c_Md_comes (w := rz x k' s 7) hW (w3.mr hX1) rfl (by decide) ht1 (by omega) (fun j hj => by rw [f3.2 j (by omega), pwm_rz hh1 (by omega)])) ?_
      rintro r M4 k4
      refine g_reti d_Md_raise_161 rfl ?_
      exact PM.of (hk1.trans w3.km) k4
    · intro m M3 hm f3 ih
      have w3 : WK M1 M3 := WK.of (fun b hb => f3.1 b (by omega) (by omega))
      refine r_iload d_Md_raise_83 rfl ?_
      refine r_iload_n d_Md_raise_85 rfl ?_
      refine n_icmp_ge d_Md_raise_86 (by omega) (by omega) (fun h9 => absurd h9 (by omega)) (fun _ => ?_)
      refine r_aload_n d_Md_raise_89 rfl ?_
      refine g_getr (b := 445) d_Md_raise_90 f_Md_78 rfl rfl rfl ?_
      refine r_aload_n d_Md_raise_93 rfl ?_
      refine g_getr (b := 443) d_Md_raise_94 f_Md_72 rfl rfl rfl ?_
      refine r_aload_n d_Md_raise_97 rfl ?_
      refine g_getr (b := 446) d_Md_raise_98 f_Md_81 rfl rfl rfl ?_
      refine r_aload_n d_Md_raise_101 rfl ?_
      refine g_Vi (av := []) d_Md_raise_102 k_Md_173 ws_Md_wide (by decide) rfl rfl (Nat.le_of_ble_eq_true rfl) rfl (c_Md_wide (w3.sz hz1)) ?_
      rintro _ _ ⟨rfl, rfl⟩
      refine g_Sv (av := [.ref 445, .ref 443, .ref 446, .int (nI s)]) d_Md_raise_105 k_Md_186 ws_Md_multiplies (by decide) rfl rfl (Nat.le_of_ble_eq_true rfl) (c_Md_multiplies (a := 445) (b := 443) (c := 446) (x := pwm x s m) (y := x) rfl rfl rfl (by decide) (by decide) z2 (fun j hj => ⟨f3.2 j (by omega), pwm_lt _ _ _ _⟩) ((g2.kept (f3.1 443 (by decide) (by decide))).le z2)) ?_
      rintro M4 f4
      have w4 : WK M1 M4 := w3.trans (WK.w f4 (by decide))
      refine r_iconst (v := nI 0) d_Md_raise_108 (by decide) ?_
      refine r_istore (L' := [some (.ref 436), some (.int (nI a')), some (.int (nI k')), some (.int (nI t')), some (.int (nI m)), some (.int (nI 0))]) d_Md_raise_109 (by decide) rfl ?_
      refine lp (a := 0) (N := s) (R := fun i M' => Rn o l m_Md_raise (0, 0) 111 [some (.ref 436), some (.int (nI a')), some (.int (nI k')), some (.int (nI t')), some (.int (nI m)), some (.int (nI i))] [] (gh n M') (QI n (PM M (nI (rz x k' s 7 (s - 1)), kp S (rowC S.1 (2 + t') (rz x k' s 7)))))) (P := fun i M' => (∀ q, q ≠ 445 → M' q = M4 q) ∧ ∀ j, j < 10 → M' 445 j = nI (if j < i then cf (pwm x s m) x j else pwm x s m j)) (by omega) ?_ ?_ ?_
      · exact ⟨fun _ _ => rfl, fun j hj => by rw [if_neg (by omega), f4.1 445 (by decide)]; exact f3.2 j hj⟩
      · intro M5 f5
        have w5 : WK M1 M5 := w4.trans (WK.of (fun b hb => f5.1 b (by omega)))
        refine r_iload d_Md_raise_111 rfl ?_
        refine r_aload_n d_Md_raise_113 rfl ?_
        refine g_Vi (av := []) d_Md_raise_114 k_Md_173 ws_Md_wide (by decide) rfl rfl (Nat.le_of_ble_eq_true rfl) rfl (c_Md_wide (w5.sz hz1)) ?_
        rintro _ _ ⟨rfl, rfl⟩
        refine n_icmp_ge d_Md_raise_117 (by omega) (by omega) (fun _ => ?_) (fun h9 => absurd h9 (by omega))
        refine n_iinc (c := 1) (L' := [some (.ref 436), some (.int (nI a')), some (.int (nI k')), some (.int (nI t')), some (.int (nI (m + 1))), some (.int (nI s))]) d_Md_raise_140 rfl rfl (by decide) rfl ?_
        refine r_goto d_Md_raise_143 ?_
        refine r_weak (L' := [some (.ref 436), some (.int (nI a')), some (.int (nI k')), some (.int (nI t')), some (.int (nI (m + 1))), none]) (wk_s (wk_s (wk_s (wk_s (wk_s (wk_n wk_0)))))) (ih _ ?_)
        exact ⟨fun q q1 q2 => by rw [f5.1 q q1, f4.1 q q2]; exact f3.1 q q1 q2, fun j hj => f5.2 j hj⟩
      · intro i M5 hi f5 ih2
        have w5 : WK M1 M5 := w4.trans (WK.of (fun b hb => f5.1 b (by omega)))
        refine r_iload d_Md_raise_111 rfl ?_
        refine r_aload_n d_Md_raise_113 rfl ?_
        refine g_Vi (av := []) d_Md_raise_114 k_Md_173 ws_Md_wide (by decide) rfl rfl (Nat.le_of_ble_eq_true rfl) rfl (c_Md_wide (w5.sz hz1)) ?_
        rintro _ _ ⟨rfl, rfl⟩
        refine n_icmp_ge d_Md_raise_117 (by omega) (by omega) (fun h9 => absurd h9 (by omega)) (fun _ => ?_)
        refine r_aload_n d_Md_raise_120 rfl ?_
        refine g_getr (b := 445) d_Md_raise_121 f_Md_78 rfl rfl rfl ?_
        refine r_iload d_Md_raise_124 rfl ?_
        refine r_aload_n d_Md_raise_126 rfl ?_
        refine g_getr (b := 446) d_Md_raise_127 f_Md_81 rfl rfl rfl ?_
        refine r_iload d_Md_raise_130 rfl ?_
        refine g_iald d_Md_raise_132 rfl (by omega) (by omega) ?_
        refine r_top (y := nI (cf (pwm x s m) x i)) (by rw [f5.1 446 (by decide)]; exact f4.2 i (by omega)) ?_
        refine g_iast d_Md_raise_133 rfl (by omega) (by omega) ?_
        refine n_iinc (c := 1) (L' := [some (.ref 436), some (.int (nI a')), some (.int (nI k')), some (.int (nI t')), some (.int (nI m)), some (.int (nI (i + 1)))]) d_Md_raise_134 rfl rfl (by decide) rfl ?_
        refine r_goto d_Md_raise_137 ?_
        refine ih2 _ ?_
        refine ⟨fun q hq => by rw [upm_ne _ _ _ hq]; exact f5.1 q hq, fun j hj => ?_⟩
        rw [upm_at]
        by_cases e : j = i
        · rw [if_pos e, if_pos (by omega), e]
        · rw [if_neg e, f5.2 j hj]
          by_cases e2 : j < i
          · rw [if_pos e2, if_pos (by omega)]
          · rw [if_neg e2, if_neg (by omega)]
  · intro i M2 hi f2 ih
    refine r_iload d_Md_raise_50 rfl ?_
    refine r_bipush (v := nI 10) d_Md_raise_52 (by decide) ?_
    refine n_icmp_ge d_Md_raise_54 (by omega) (by omega) (fun h9 => absurd h9 (by omega)) (fun _ => ?_)
    refine r_aload_n d_Md_raise_57 rfl ?_
    refine g_getr (b := 445) d_Md_raise_58 f_Md_78 rfl rfl rfl ?_
    refine r_iload d_Md_raise_61 rfl ?_
    refine r_iload d_Md_raise_63 rfl ?_
    refine n_if_ne d_Md_raise_65 (by omega) (fun hc => ?_) (fun hc => ?_)
    · refine r_iconst (v := nI 0) d_Md_raise_72 (by decide) ?_
      refine g_iast d_Md_raise_73 rfl (by omega) (by omega) ?_
      refine n_iinc (c := 1) (L' := [some (.ref 436), some (.int (nI a')), some (.int (nI k')), some (.int (nI t')), some (.int (nI (i + 1))), none]) d_Md_raise_74 rfl rfl (by decide) rfl ?_
      refine r_goto d_Md_raise_77 ?_
      refine ih _ ?_
      exact f2.up (v := 0) (by unfold oneS; rw [if_neg hc])
    · refine r_iconst (v := nI 1) d_Md_raise_68 (by decide) ?_
      refine r_goto d_Md_raise_69 ?_
      refine g_iast d_Md_raise_73 rfl (by omega) (by omega) ?_
      refine n_iinc (c := 1) (L' := [some (.ref 436), some (.int (nI a')), some (.int (nI k')), some (.int (nI t')), some (.int (nI (i + 1))), none]) d_Md_raise_74 rfl rfl (by decide) rfl ?_
      refine r_goto d_Md_raise_77 ?_
      refine ih _ ?_
      exact f2.up (v := 1) (by unfold oneS; rw [if_pos hc])
end C75
