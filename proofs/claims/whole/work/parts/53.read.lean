section C53
variable {o : OM} {l : Launch} {n : Nat} {M : Mem} {T : Nat → Nat} {w : Nat}
theorem StA.row2 {M M' : Mem} {C : Core} {k : Nat} {x : Nat → Nat} (h : StA M 2 C) (hk : rIx k) (h2 : ∀ b, 2 ≤ b → b < 34 → b ≠ 2 + k → M' b = M b) (h3 : ∀ j, j < 10 → M' (2 + k) j = nI (x j)) : StA M' 2 (rowA C k x) := by
  have hk2 : 2 ≤ k := by unfold rIx at hk; omega
  refine ⟨by rw [h2 2 (by omega) (by omega) (by omega), rowA, if_neg (by omega)]; exact h.1, fun q hq j hj => ?_⟩
  have : q < 32 := by unfold rIx at hq; omega
  unfold rowA
  by_cases e : q = k
  · rw [if_pos e, e]
    exact h3 j hj
  · rw [if_neg e, h2 _ (by omega) (by omega) (by omega)]
    exact h.2 q hq j hj
theorem c_Re_readSeriesLine {s a b p : Nat} {C : Core} (hO : OS o) (hs2 : 2 ≤ s ∧ s ≤ 10) (hQ : RQ M T w s a b p C) : CI o l m_Re_readSeriesLine n [.ref 1] M (fun x M' => RL M M' ∧ ((x = nI 1 ∧ M' 1 7 = M 1 7 ∧ (serL T w s a C p).1 = 0 ∧ a < 6 ∧ RQ M' T w s (a + 1) b (serL T w s a C p).2.2.2 (serL T w s a C p).2.2.1) ∨ (x = nI 0 ∧ (serL T w s a C p).1 ≠ 0 ∧ RB M' (serL T w s a C p).1 (serL T w s a C p).2.1))) := by
  refine ci_of rfl rfl rfl (Nat.le_of_ble_eq_true rfl) ?_
  obtain ⟨rt, tk, stA, wc, c3, a6, b4, m8, m9, m10, o36⟩ := hQ
  generalize hres : serL T w s a C p = res
  unfold serL at hres
  refine r_aload_n d_Re_readSeriesLine_0 rfl ?_
  refine g_geti d_Re_readSeriesLine_1 f_Re_39 rfl rfl ?_
  refine r_top (y := (nI a)) (m8) ?_
  refine r_bipush (v := nI 6) d_Re_readSeriesLine_4 (by decide) ?_
  refine n_icmp_lt d_Re_readSeriesLine_6 (by omega) (by omega) (fun hc => ?_) (fun hc => ?_)
  · rw [if_neg (show ¬ 6 ≤ a by omega)] at hres
    refine r_aload_n d_Re_readSeriesLine_15 rfl ?_
    refine g_getr (b := 2) d_Re_readSeriesLine_16 f_Re_12 rfl rfl rfl ?_
    refine g_getr (b := 3) d_Re_readSeriesLine_19 f_Re_80 rfl rfl rfl ?_
    refine r_aload_n d_Re_readSeriesLine_22 rfl ?_
    refine g_geti d_Re_readSeriesLine_23 f_Re_39 rfl rfl ?_
    refine r_top (y := (nI a)) (m8) ?_
    refine g_aald (b := (4+a)) (t := 5) (N := 6) d_Re_readSeriesLine_26 rfl (by decide) (by omega) (by omega) (g_ser2 hc) ?_
    refine r_astore_n (L' := [some (.ref 1), some (.ref (4+a))]) d_Re_readSeriesLine_27 (by decide) rfl ?_
    refine r_aload_n d_Re_readSeriesLine_28 rfl ?_
    refine g_Vv (av := []) d_Re_readSeriesLine_29 k_Re_51 ws_Re_step (by decide) rfl rfl (Nat.le_of_ble_eq_true rfl) rfl (c_Re_next hO rt tk) ?_
    rintro M1 ⟨k1, k2⟩
    generalize tE T w p = p1 at *
    have rt1 := rt.rf k1
    have o1 : Ok M1 36 := o36.kept (k1.1 36 (by decide))
    refine r_aload_n d_Re_readSeriesLine_32 rfl ?_
    refine r_aload_n d_Re_readSeriesLine_33 rfl ?_
    refine r_iconst (v := nI 0) d_Re_readSeriesLine_34 (by decide) ?_
    refine g_Vi (av := [.ref (4+a), .int (nI 0)]) d_Re_readSeriesLine_35 k_Re_84 ws_Re_readSum (by decide) rfl rfl (Nat.le_of_ble_eq_true rfl) rfl (c_Re_readSum (bb := 0) hO rt1 k2 (t_ser2 hc) (by omega) (by rw [k1.1 2 (by decide), ← c3]; exact stA.1) hs2.2 (by decide)) ?_
    rintro x M2 ⟨g1, g2, g3⟩
    have z1 := rdS_z (T := T) (w := w) (bb := 0) (d := s) (i := 0) (p := p1) (row := fun _ => 0) (fun _ _ => rfl)
    have l1 := rdS_lt (T := T) (w := w) (bb := 0) (d := s) (i := 0) (p := p1) (row := fun _ => 0) (fun _ => by decide)
    generalize rdS T w 0 s 0 p1 (fun _ => 0) = r1 at *
    have l2 : RL M M2 := ⟨fun q hq => by rw [g1 q (by omega) (by omega), k1.1 q (by omega)], o1.kept (g1 36 (by decide) (by omega))⟩
    rcases g3 with ⟨rfl, f0, g4, g5⟩ | ⟨rfl, f0, g4⟩
    · rw [if_neg (fun z => z f0)] at hres
      have rt2 : RT M2 T w := rt1.kept (g1 _ (by decide) (by omega)) (g1 _ (by decide) (by omega))
      have kle := tK_le (T := T) (w := w) r1.2.2
      have st2 : StA M2 2 (rowA C (2 + a) r1.2.1) := stA.row2 (Or.inl ⟨by omega, by omega⟩) (fun q q1 q2 q3 => by rw [g1 q (by omega) (by omega), k1.1 q (by omega)]) (fun j hj => by rw [show 2 + (2 + a) = 4 + a by omega]; exact (g2 j hj).1)
      have f2 : ∀ k, k ≠ 3 → k ≠ 4 → k ≠ 5 → k ≠ 6 → M2 1 k = M 1 k := fun k b1 b2 b3 b4 => by rw [g4.2 k b1 b2 b3 b4, k1.2 k b1 b2 b3 b4]
      -- the end of the line
      have fin : ∀ (x : Nat → Nat) (q : Nat) (M3 : Mem), serE T w a C x q = res → (∀ j, j < 10 → x j < 1000003) → (∀ j, s ≤ j → j < 10 → x j = 0) → RT M3 T w → TK M3 T w q → StA M3 2 (rowA C (2 + a) x) → (∀ k, k ≠ 3 → k ≠ 4 → k ≠ 5 → k ≠ 6 → M3 1 k = M 1 k) → RL M M3 → Rn o l m_Re_readSeriesLine (0, 0) 85 [some (.ref 1), some (.ref (4 + a))] [] (gh n M3) (QI n (fun x M' => RL M M' ∧ ((x = nI 1 ∧ M' 1 7 = M 1 7 ∧ res.1 = 0 ∧ a < 6 ∧ RQ M' T w s (a + 1) b res.2.2.2 res.2.2.1) ∨ (x = nI 0 ∧ res.1 ≠ 0 ∧ RB M' res.1 res.2.1)))) := by
        intro x q M3 he xl xz rt3 tk3 st3 f3 l3
        unfold serE at he
        refine r_aload_n d_Re_readSeriesLine_85 rfl ?_
        refine r_dup d_Re_readSeriesLine_86 rfl ?_
        refine g_geti d_Re_readSeriesLine_87 f_Re_39 rfl rfl ?_
        refine r_top (y := (nI a)) (by rw [f3 8 (by decide) (by decide) (by decide) (by decide)]; exact m8) ?_
        refine r_iconst (v := nI 1) d_Re_readSeriesLine_90 (by decide) ?_
        refine n_iadd d_Re_readSeriesLine_91 ?_
        refine g_puti d_Re_readSeriesLine_92 f_Re_39 ⟨rfl, rfl, rfl⟩ rfl ?_
        have h4 : ∀ b, b ≠ 1 → upm M3 1 8 (nI (a + 1)) b = M3 b := fun b hb => upm_ne _ _ _ hb
        have h5 : ∀ k, k ≠ 8 → upm M3 1 8 (nI (a + 1)) 1 k = M3 1 k := fun k hk => by rw [upm_at, if_neg hk]
        have h6 : upm M3 1 8 (nI (a + 1)) 1 8 = nI (a + 1) := by rw [upm_at, if_pos rfl]
        generalize upm M3 1 8 (nI (a + 1)) = M4 at *
        refine r_aload_n d_Re_readSeriesLine_95 rfl ?_
        have rt4 : RT M4 T w := rt3.kept (h4 _ (by decide)) (h4 _ (by decide))
        refine g_Vi (av := []) d_Re_readSeriesLine_96 k_Re_77 ws_Re_readSemicolon (by decide) rfl rfl (Nat.le_of_ble_eq_true rfl) rfl (c_Re_readSemicolon hO rt4 (tk3.kept (fun k _ _ => h5 k (by omega)))) ?_
        rintro y M5 ⟨k5, k6⟩
        refine g_retz d_Re_readSeriesLine_99 rfl (by rcases k6 with k6 | k6 <;> (rw [k6.1]; decide)) ?_
        have l5 : RL M M5 := ⟨fun q hq => by rw [k5 q (by omega), h4 q (by omega)]; exact l3.1 q hq, l3.2.kept (by rw [k5 36 (by decide), h4 36 (by decide)])⟩
        refine ⟨l5, ?_⟩
        rcases k6 with ⟨rfl, k7, k8, k9⟩ | ⟨rfl, k7, k8⟩
        · rw [if_neg (fun z => z k7)] at he
          subst he
          have q8 : ∀ k, k ≠ 3 → k ≠ 4 → k ≠ 5 → k ≠ 6 → k ≠ 8 → M5 1 k = M 1 k := fun k a1 a2 a3 a4 a5 => by rw [k8.2 k a1 a2 a3 a4, h5 k a5, f3 k a1 a2 a3 a4]
          refine Or.inl ⟨rfl, q8 7 (by decide) (by decide) (by decide) (by decide) (by decide), rfl, hc, rt4.rf k8, k9, st3.kept (fun q a1 a2 => by rw [k5 q (by omega), h4 q (by omega)]), wc.row ⟨by omega, by omega⟩ xl (fun _ j hj hj2 => xz j (by omega) hj2), ?_, by omega, b4, ?_, by rw [q8 9 (by decide) (by decide) (by decide) (by decide) (by decide)]; exact m9, by rw [q8 10 (by decide) (by decide) (by decide) (by decide) (by decide)]; exact m10, l5.2⟩
          · show rowA C (2 + a) x 0 3 = s
            rw [rowA, if_neg (by omega)]
            exact c3
          · rw [k8.2 8 (by decide) (by decide) (by decide) (by decide)]
            exact h6
        · rw [if_pos k7] at he
          subst he
          exact Or.inr ⟨rfl, (show 1 ≠ 0 by decide), k8⟩
      refine n_if_ne d_Re_readSeriesLine_38 (by omega) (fun _ => ?_) (fun h9 => absurd h9 (by decide))
      refine r_aload_n d_Re_readSeriesLine_43 rfl ?_
      refine g_geti d_Re_readSeriesLine_44 f_Re_54 rfl rfl ?_
      refine r_top (y := (nI (tK T w r1.2.2))) (g5.2.1) ?_
      refine r_bipush (v := nI 7) d_Re_readSeriesLine_47 (by decide) ?_
      refine n_icmp_ne d_Re_readSeriesLine_49 (by omega) (by omega) (fun hc7 => ?_) (fun hc7 => ?_)
      · rw [if_pos hc7] at hres
        exact fin r1.2.1 r1.2.2 M2 hres (fun j hj => l1 j) (fun j hj _ => z1 j (by omega)) rt2 g5 st2 f2 l2
      · rw [if_neg (fun z => z hc7)] at hres
        refine r_aload_n d_Re_readSeriesLine_52 rfl ?_
        refine g_Vv (av := []) d_Re_readSeriesLine_53 k_Re_51 ws_Re_step (by decide) rfl rfl (Nat.le_of_ble_eq_true rfl) rfl (c_Re_next hO rt2 g5) ?_
        rintro M3 ⟨k3, k4⟩
        generalize tE T w r1.2.2 = p3 at *
        have rt3 := rt2.rf k3
        refine r_aload_n d_Re_readSeriesLine_56 rfl ?_
        refine r_aload_n d_Re_readSeriesLine_57 rfl ?_
        refine g_getr (b := 36) d_Re_readSeriesLine_58 f_Re_25 rfl rfl rfl ?_
        refine r_iconst (v := nI 1) d_Re_readSeriesLine_61 (by decide) ?_
        refine g_Vi (av := [.ref 36, .int (nI 1)]) d_Re_readSeriesLine_62 k_Re_84 ws_Re_readSum (by decide) rfl rfl (Nat.le_of_ble_eq_true rfl) rfl (c_Re_readSum (bb := 1) (s := s) hO rt3 k4 rfl (by decide) (by rw [k3.1 2 (by decide), g1 2 (by decide) (by omega), k1.1 2 (by decide), ← c3]; exact stA.1) hs2.2 (by decide)) ?_
        rintro x M4 ⟨h1, h2, h3⟩
        have l9 := rdS_lt (T := T) (w := w) (bb := 1) (d := s) (i := 0) (p := p3) (row := fun _ => 0) (fun _ => by decide)
        generalize rdS T w 1 s 0 p3 (fun _ => 0) = r2 at *
        have l4 : RL M M4 := ⟨fun q hq => by rw [h1 q (by omega) (by omega), k3.1 q (by omega)]; exact l2.1 q hq, ⟨_, h2⟩⟩
        rcases h3 with ⟨rfl, f0', h4, h5⟩ | ⟨rfl, f0', h4⟩
        · rw [if_neg (fun z => z f0')] at hres
          have rt4 : RT M4 T w := rt3.kept (h1 _ (by decide) (by decide)) (h1 _ (by decide) (by decide))
          have ok4 : OKr M4 (4 + a) r1.2.1 := (g2.kept (M' := M3) (k3.1 _ (by omega))).kept (h1 _ (by omega) (by omega))
          refine n_if_ne d_Re_readSeriesLine_65 (by omega) (fun _ => ?_) (fun h9 => absurd h9 (by decide))
          refine r_aload_n d_Re_readSeriesLine_70 rfl ?_
          refine r_aload_n d_Re_readSeriesLine_71 rfl ?_
          refine g_getr (b := 36) d_Re_readSeriesLine_72 f_Re_25 rfl rfl rfl ?_
          refine r_aload_n d_Re_readSeriesLine_75 rfl ?_
          refine g_getr (b := 2) d_Re_readSeriesLine_76 f_Re_12 rfl rfl rfl ?_
          refine g_geti d_Re_readSeriesLine_79 f_Re_74 rfl rfl ?_
          refine r_top (y := (nI s)) (by rw [h1 2 (by decide) (by decide), k3.1 2 (by decide), g1 2 (by decide) (by omega), k1.1 2 (by decide), ← c3]; exact stA.1) ?_
          refine g_Sv (av := [.ref (4+a), .ref 36, .int (nI s)]) d_Re_readSeriesLine_82 k_Re_88 ws_Rw_divide (by decide) rfl rfl (Nat.le_of_ble_eq_true rfl) (c_Rw_divide (t_ser2 hc) rfl (by omega) hs2.2 ok4 h2) ?_
          rintro M5 m5
          have n5 : ∀ q, q ≠ 4 + a → M5 q = M4 q := fun q hq => m5.ne hq
          refine fin _ r2.2.2 M5 hres (fun j hj => ?_) (fun j hj _ => ?_) (rt4.kept (n5 _ (by omega)) (n5 _ (by omega))) (h5.kept (fun k _ _ => by rw [n5 1 (by omega)])) ?_ (fun k b1 b2 b3 b4 => by rw [n5 1 (by omega), h4.2 k b1 b2 b3 b4, k3.2 k b1 b2 b3 b4, f2 k b1 b2 b3 b4]) ⟨fun q hq => by rw [n5 q (by omega)]; exact l4.1 q hq, l4.2.kept (n5 36 (by omega))⟩
          · try dsimp only
            split
            · exact dv_lt _ _ _
            · exact l1 j
          · try dsimp only
            rw [if_neg (by omega)]
            exact z1 j (by omega)
          · refine stA.row2 (Or.inl ⟨by omega, by omega⟩) (fun q q1 q2 q3 => by rw [n5 q (by omega), h1 q (by omega) (by omega), k3.1 q (by omega), g1 q (by omega) (by omega), k1.1 q (by omega)]) (fun j hj => ?_)
            rw [show 2 + (2 + a) = 4 + a by omega]
            exact m5.at hj
        · rw [if_pos f0'] at hres
          subst hres
          refine n_if_ne d_Re_readSeriesLine_65 (by omega) (fun h9 => absurd h9 (by decide)) (fun _ => ?_)
          refine r_iconst (v := nI 0) d_Re_readSeriesLine_68 (by decide) ?_
          refine g_retz d_Re_readSeriesLine_69 rfl (by decide) ?_
          exact ⟨l4, Or.inr ⟨rfl, f0', h4⟩⟩
    · rw [if_pos f0] at hres
      subst hres
      refine n_if_ne d_Re_readSeriesLine_38 (by omega) (fun h9 => absurd h9 (by decide)) (fun _ => ?_)
      refine r_iconst (v := nI 0) d_Re_readSeriesLine_41 (by decide) ?_
      refine g_retz d_Re_readSeriesLine_42 rfl (by decide) ?_
      exact ⟨l2, Or.inr ⟨rfl, f0, g4⟩⟩
  · rw [if_pos hc] at hres
    subst hres
    refine r_aload_n d_Re_readSeriesLine_9 rfl ?_
    refine r_iconst (v := nI 3) d_Re_readSeriesLine_10 (by decide) ?_
    refine g_Vi (av := [.int (nI 3)]) d_Re_readSeriesLine_11 k_Re_61 ws_Re_refuse (by decide) rfl rfl (Nat.le_of_ble_eq_true rfl) rfl (c_Re_refuse) ?_
    rintro x M4 ⟨rfl, e4⟩
    refine g_retz d_Re_readSeriesLine_14 rfl (by decide) ?_
    refine ⟨RL.one (fun b b1 => by rw [e4, rf_ne b1]) o36, Or.inr ⟨rfl, (show 3 ≠ 0 by decide), ?_⟩⟩
    rw [e4]
    exact rf_at tk.2.2.1
theorem c_Re_readTableLine {s a b p : Nat} {C : Core} (hO : OS o) (hs2 : 2 ≤ s ∧ s ≤ 10) (hQ : RQ M T w s a b p C) : CI o l m_Re_readTableLine n [.ref 1] M (fun x M' => RL M M' ∧ ((x = nI 1 ∧ M' 1 7 = M 1 7 ∧ (tabL T w a b C p).1 = 0 ∧ b < 4 ∧ RQ M' T w s a (b + 1) (tabL T w a b C p).2.2.2 (tabL T w a b C p).2.2.1) ∨ (x = nI 0 ∧ (tabL T w a b C p).1 ≠ 0 ∧ RB M' (tabL T w a b C p).1 (tabL T w a b C p).2.1))) := by
  refine ci_of rfl rfl rfl (Nat.le_of_ble_eq_true rfl) ?_
  obtain ⟨rt, tk, stA, wc, c3, a6, b4, m8, m9, m10, o36⟩ := hQ
  generalize hres : tabL T w a b C p = res
  unfold tabL at hres
  refine r_aload_n d_Re_readTableLine_0 rfl ?_
  refine g_geti d_Re_readTableLine_1 f_Re_42 rfl rfl ?_
  refine r_top (y := (nI b)) (m9) ?_
  refine r_iconst (v := nI 4) d_Re_readTableLine_4 (by decide) ?_
  refine n_icmp_lt d_Re_readTableLine_5 (by omega) (by omega) (fun hc => ?_) (fun hc => ?_)
  · rw [if_neg (show ¬ 4 ≤ b by omega)] at hres
    refine r_aload_n d_Re_readTableLine_14 rfl ?_
    refine g_Vv (av := []) d_Re_readTableLine_15 k_Re_51 ws_Re_step (by decide) rfl rfl (Nat.le_of_ble_eq_true rfl) rfl (c_Re_next hO rt tk) ?_
    rintro M1 ⟨k1, k2⟩
    generalize tE T w p = p1 at *
    have rt1 := rt.rf k1
    have l1 : RL M M1 := RL.of k1 o36
    refine r_aload_n d_Re_readTableLine_18 rfl ?_
    refine g_Vi (av := []) d_Re_readTableLine_19 k_Re_104 ws_Re_isToldSeries (by decide) rfl rfl (Nat.le_of_ble_eq_true rfl) rfl (c_Re_isToldSeries k2 (by rw [k1.2 8 (by decide) (by decide) (by decide) (by decide)]; exact m8) a6) ?_
    rintro x M2 ⟨g1, g2⟩
    rcases g2 with ⟨rfl, e1, e2, rfl⟩ | ⟨rfl, g2⟩
    · rw [if_neg (fun z => z e1), if_neg (show ¬ a ≤ tV T w p1 by omega)] at hres
      generalize hu : tV T w p1 = u at *
      refine n_if_ne d_Re_readTableLine_22 (by omega) (fun _ => ?_) (fun h9 => absurd h9 (by decide))
      refine r_aload_n d_Re_readTableLine_27 rfl ?_
      refine g_getr (b := 2) d_Re_readTableLine_28 f_Re_12 rfl rfl rfl ?_
      refine g_getr (b := 3) d_Re_readTableLine_31 f_Re_80 rfl rfl rfl ?_
      refine r_aload_n d_Re_readTableLine_34 rfl ?_
      refine g_geti d_Re_readTableLine_35 f_Re_71 rfl rfl ?_
      refine r_top (y := (nI u)) (by rw [← hu]; exact k2.2.2.2.1 e1) ?_
      refine g_aald (b := (4+u)) (t := 5) (N := 6) d_Re_readTableLine_38 rfl (by decide) (by omega) (by omega) (g_ser2 (by omega)) ?_
      refine r_astore_n (L' := [some (.ref 1), some (.ref (4+u)), none]) d_Re_readTableLine_39 (by decide) rfl ?_
      refine r_aload_n d_Re_readTableLine_40 rfl ?_
      refine g_Vv (av := []) d_Re_readTableLine_41 k_Re_51 ws_Re_step (by decide) rfl rfl (Nat.le_of_ble_eq_true rfl) rfl (c_Re_next hO rt1 k2) ?_
      rintro M3 ⟨k3, k4⟩
      generalize tE T w p1 = p2 at *
      have rt3 := rt1.rf k3
      have l3 : RL M M3 := l1.trans (RL.of k3 l1.2)
      have f3 : ∀ k, k ≠ 3 → k ≠ 4 → k ≠ 5 → k ≠ 6 → M3 1 k = M 1 k := fun k b1 b2 b3 b4 => by rw [k3.2 k b1 b2 b3 b4, k1.2 k b1 b2 b3 b4]
      refine r_aload_n d_Re_readTableLine_44 rfl ?_
      refine g_Vi (av := []) d_Re_readTableLine_45 k_Re_104 ws_Re_isToldSeries (by decide) rfl rfl (Nat.le_of_ble_eq_true rfl) rfl (c_Re_isToldSeries k4 (by rw [f3 8 (by decide) (by decide) (by decide) (by decide)]; exact m8) a6) ?_
      rintro x M4 ⟨g3, g4⟩
      rcases g4 with ⟨rfl, e3, e4, rfl⟩ | ⟨rfl, g4⟩
      · rw [if_neg (fun z => z e3), if_neg (show ¬ a ≤ tV T w p2 by omega)] at hres
        generalize hv : tV T w p2 = v at *
        have n3 : ∀ q, q ≠ 1 → M3 q = M q := fun q hq => by rw [k3.1 q hq, k1.1 q hq]
        have ok : ∀ z, z < 6 → OKr M3 (4 + z) (C (2 + z)) := fun z hz j hj => ⟨by rw [n3 _ (by omega), show 4 + z = 2 + (2 + z) by omega]; exact stA.2 _ (Or.inl ⟨by omega, by omega⟩) j hj, wc.2.1 _ (Or.inl ⟨by omega, by omega⟩) j hj⟩
        refine n_if_ne d_Re_readTableLine_48 (by omega) (fun _ => ?_) (fun h9 => absurd h9 (by decide))
        refine r_aload_n d_Re_readTableLine_53 rfl ?_
        refine g_getr (b := 2) d_Re_readTableLine_54 f_Re_12 rfl rfl rfl ?_
        refine g_getr (b := 3) d_Re_readTableLine_57 f_Re_80 rfl rfl rfl ?_
        refine r_aload_n d_Re_readTableLine_60 rfl ?_
        refine g_geti d_Re_readTableLine_61 f_Re_71 rfl rfl ?_
        refine r_top (y := (nI v)) (by rw [← hv]; exact k4.2.2.2.1 e3) ?_
        refine g_aald (b := (4+v)) (t := 5) (N := 6) d_Re_readTableLine_64 rfl (by decide) (by omega) (by omega) (g_ser2 (by omega)) ?_
        refine r_astore_n (L' := [some (.ref 1), some (.ref (4+u)), some (.ref (4+v))]) d_Re_readTableLine_65 (by decide) rfl ?_
        refine r_aload_n d_Re_readTableLine_66 rfl ?_
        refine r_aload_n d_Re_readTableLine_67 rfl ?_
        refine g_Si (av := [.ref (4+u), .ref (4+v)]) d_Re_readTableLine_68 k_Re_107 ws_Rw_makeTable (by decide) rfl rfl (Nat.le_of_ble_eq_true rfl) (c_Rw_makeTable (t_ser2 (by omega)) (t_ser2 (by omega)) (ok u (by omega)) (ok v (by omega))) ?_
        rintro x _ ⟨⟨rfl, k5⟩ | ⟨rfl, k5⟩, rfl⟩
        · rw [if_neg (fun z => z k5)] at hres
          refine n_if_ne d_Re_readTableLine_71 (by omega) (fun _ => ?_) (fun h9 => absurd h9 (by decide))
          refine r_aload_n d_Re_readTableLine_80 rfl ?_
          refine g_getr (b := 2) d_Re_readTableLine_81 f_Re_12 rfl rfl rfl ?_
          refine g_getr (b := 10) d_Re_readTableLine_84 f_Re_111 rfl rfl rfl ?_
          refine r_aload_n d_Re_readTableLine_87 rfl ?_
          refine g_geti d_Re_readTableLine_88 f_Re_42 rfl rfl ?_
          refine r_top (y := (nI b)) (by rw [f3 9 (by decide) (by decide) (by decide) (by decide)]; exact m9) ?_
          refine g_aald (b := (22+3*b)) (t := 7) (N := 4) d_Re_readTableLine_91 rfl (by decide) (by omega) (by omega) (g_tab2 hc) ?_
          refine r_aload_n d_Re_readTableLine_92 rfl ?_
          refine r_aload_n d_Re_readTableLine_93 rfl ?_
          refine g_Vv (av := [.ref (4+u), .ref (4+v)]) d_Re_readTableLine_94 k_Re_115 ws_Ta_become (by decide) rfl rfl (Nat.le_of_ble_eq_true rfl) (by rw [((t_tab2 hc).1)]) (c_Ta_become (t_tab2 hc) (t_ser2 (by omega)) (t_ser2 (by omega)) (by omega)) ?_
          rintro M5 ⟨k6, k7⟩
          have st5 : StA M5 2 (tabC C b (C (2 + u)) (C (2 + v))) := by
            refine ⟨by rw [k7 2 (by omega), n3 2 (by decide), tabC, if_neg (by omega), if_neg (by omega)]; exact stA.1, fun q hq j hj => ?_⟩
            have hq2 : q < 32 := by unfold rIx at hq; omega
            unfold tabC
            by_cases e : q = 21 + 3 * b
            · rw [if_pos e, e, show 2 + (21 + 3 * b) = 22 + 3 * b + 1 by omega, (k6 j hj).1]
              exact (ok u (by omega) j hj).1
            · rw [if_neg e]
              by_cases e2 : q = 22 + 3 * b
              · rw [if_pos e2, e2, show 2 + (22 + 3 * b) = 22 + 3 * b + 2 by omega, (k6 j hj).2]
                exact (ok v (by omega) j hj).1
              · rw [if_neg e2, k7 _ (by omega), n3 _ (by unfold rIx at hq; omega)]
                exact stA.2 q hq j hj
          refine r_aload_n d_Re_readTableLine_97 rfl ?_
          refine r_dup d_Re_readTableLine_98 rfl ?_
          refine g_geti d_Re_readTableLine_99 f_Re_42 rfl rfl ?_
          refine r_top (y := (nI b)) (by rw [k7 1 (by omega), f3 9 (by decide) (by decide) (by decide) (by decide)]; exact m9) ?_
          refine r_iconst (v := nI 1) d_Re_readTableLine_102 (by decide) ?_
          refine n_iadd d_Re_readTableLine_103 ?_
          refine g_puti d_Re_readTableLine_104 f_Re_42 ⟨rfl, rfl, rfl⟩ rfl ?_
          have h4 : ∀ q, q ≠ 1 → upm M5 1 9 (nI (b + 1)) q = M5 q := fun q hb => upm_ne _ _ _ hb
          have h5 : ∀ k, k ≠ 9 → upm M5 1 9 (nI (b + 1)) 1 k = M3 1 k := fun k hk => by rw [upm_at, if_neg hk, k7 1 (by omega)]
          have h6 : upm M5 1 9 (nI (b + 1)) 1 9 = nI (b + 1) := by rw [upm_at, if_pos rfl]
          generalize upm M5 1 9 (nI (b + 1)) = M6 at *
          refine r_aload_n d_Re_readTableLine_107 rfl ?_
          have rt6 : RT M6 T w := rt3.kept (by rw [h4 _ (by decide), k7 _ (by omega)]) (by rw [h4 _ (by decide), k7 _ (by omega)])
          refine g_Vv (av := []) d_Re_readTableLine_108 k_Re_51 ws_Re_step (by decide) rfl rfl (Nat.le_of_ble_eq_true rfl) rfl (c_Re_next hO rt6 (k4.kept (fun k _ _ => h5 k (by omega)))) ?_
          rintro M7 ⟨k8, k9⟩
          generalize tE T w p2 = p3 at *
          refine r_aload_n d_Re_readTableLine_111 rfl ?_
          refine g_Vi (av := []) d_Re_readTableLine_112 k_Re_77 ws_Re_readSemicolon (by decide) rfl rfl (Nat.le_of_ble_eq_true rfl) rfl (c_Re_readSemicolon hO (rt6.rf k8) k9) ?_
          rintro y M8 ⟨j1, j2⟩
          refine g_retz d_Re_readTableLine_115 rfl (by rcases j2 with j2 | j2 <;> (rw [j2.1]; decide)) ?_
          have l8 : RL M M8 := ⟨fun q hq => by rw [j1 q (by omega), k8.1 q (by omega), h4 q (by omega), k7 q (by omega), n3 q (by omega)], o36.kept (by rw [j1 36 (by decide), k8.1 36 (by decide), h4 36 (by decide), k7 36 (by omega), n3 36 (by decide)])⟩
          refine ⟨l8, ?_⟩
          rcases j2 with ⟨rfl, j3, j4, j5⟩ | ⟨rfl, j3, j4⟩
          · rw [if_neg (fun z => z j3)] at hres
            subst hres
            have q8 : ∀ k, k ≠ 3 → k ≠ 4 → k ≠ 5 → k ≠ 6 → k ≠ 9 → M8 1 k = M 1 k := fun k a1 a2 a3 a4 a5 => by rw [j4.2 k a1 a2 a3 a4, k8.2 k a1 a2 a3 a4, h5 k a5, f3 k a1 a2 a3 a4]
            refine Or.inl ⟨rfl, q8 7 (by decide) (by decide) (by decide) (by decide) (by decide), rfl, hc, (rt6.rf k8).rf j4, j5, st5.kept (fun q a1 a2 => by rw [j1 q (by omega), k8.1 q (by omega), h4 q (by omega)]), wc.tab hc (fun j hj => (ok u (by omega) j hj).2) (fun j hj => (ok v (by omega) j hj).2) (fun z j h1 h2 => wc.2.2.1 z _ (Or.inl ⟨by omega, by omega⟩) j h1 h2) (fun z j h1 h2 => wc.2.2.1 z _ (Or.inl ⟨by omega, by omega⟩) j h1 h2) k5, ?_, a6, by omega, by rw [q8 8 (by decide) (by decide) (by decide) (by decide) (by decide)]; exact m8, ?_, by rw [q8 10 (by decide) (by decide) (by decide) (by decide) (by decide)]; exact m10, l8.2⟩
            · show tabC C b (C (2 + u)) (C (2 + v)) 0 3 = s
              rw [tabC, if_neg (by omega), if_neg (by omega)]
              exact c3
            · rw [j4.2 9 (by decide) (by decide) (by decide) (by decide), k8.2 9 (by decide) (by decide) (by decide) (by decide)]
              exact h6
          · rw [if_pos j3] at hres
            subst hres
            exact Or.inr ⟨rfl, (show 1 ≠ 0 by decide), j4⟩
        · rw [if_pos k5] at hres
          subst hres
          refine n_if_ne d_Re_readTableLine_71 (by omega) (fun h9 => absurd h9 (by decide)) (fun _ => ?_)
          refine r_aload_n d_Re_readTableLine_74 rfl ?_
          refine r_iconst (v := nI 4) d_Re_readTableLine_75 (by decide) ?_
          refine g_Vi (av := [.int (nI 4)]) d_Re_readTableLine_76 k_Re_61 ws_Re_refuse (by decide) rfl rfl (Nat.le_of_ble_eq_true rfl) rfl (c_Re_refuse) ?_
          rintro x M5 ⟨rfl, e5⟩
          refine g_retz d_Re_readTableLine_79 rfl (by decide) ?_
          refine ⟨l3.trans (RL.one (fun b b1 => by rw [e5, rf_ne b1]) l3.2), Or.inr ⟨rfl, (show 4 ≠ 0 by decide), ?_⟩⟩
          rw [e5]
          exact rf_at k4.2.2.1
      · refine n_if_ne d_Re_readTableLine_48 (by omega) (fun h9 => absurd h9 (by decide)) (fun _ => ?_)
        refine r_iconst (v := nI 0) d_Re_readTableLine_51 (by decide) ?_
        refine g_retz d_Re_readTableLine_52 rfl (by decide) ?_
        refine ⟨l3.trans (RL.one g3 l3.2), Or.inr ?_⟩
        rcases g4 with ⟨q1, q2⟩ | ⟨q1, q2, q3⟩
        · rw [if_pos q1] at hres
          subst hres
          exact ⟨rfl, (show 1 ≠ 0 by decide), q2⟩
        · rw [if_neg (fun z => z q1), if_pos q2] at hres
          subst hres
          exact ⟨rfl, (show 2 ≠ 0 by decide), q3⟩
    · refine n_if_ne d_Re_readTableLine_22 (by omega) (fun h9 => absurd h9 (by decide)) (fun _ => ?_)
      refine r_iconst (v := nI 0) d_Re_readTableLine_25 (by decide) ?_
      refine g_retz d_Re_readTableLine_26 rfl (by decide) ?_
      refine ⟨l1.trans (RL.one g1 l1.2), Or.inr ?_⟩
      rcases g2 with ⟨q1, q2⟩ | ⟨q1, q2, q3⟩
      · rw [if_pos q1] at hres
        subst hres
        exact ⟨rfl, (show 1 ≠ 0 by decide), q2⟩
      · rw [if_neg (fun z => z q1), if_pos q2] at hres
        subst hres
        exact ⟨rfl, (show 2 ≠ 0 by decide), q3⟩
  · rw [if_pos hc] at hres
    subst hres
    refine r_aload_n d_Re_readTableLine_8 rfl ?_
    refine r_iconst (v := nI 3) d_Re_readTableLine_9 (by decide) ?_
    refine g_Vi (av := [.int (nI 3)]) d_Re_readTableLine_10 k_Re_61 ws_Re_refuse (by decide) rfl rfl (Nat.le_of_ble_eq_true rfl) rfl (c_Re_refuse) ?_
    rintro x M4 ⟨rfl, e4⟩
    refine g_retz d_Re_readTableLine_13 rfl (by decide) ?_
    refine ⟨RL.one (fun b b1 => by rw [e4, rf_ne b1]) o36, Or.inr ⟨rfl, (show 3 ≠ 0 by decide), ?_⟩⟩
    rw [e4]
    exact rf_at tk.2.2.1
end C53
