/-- lines, by what was told -/
def lin (C : Core) (a b : Nat) : Nat := if C 0 3 = 0 then 0 else 1 + a + b
noncomputable def f_text (S : SS) : Int32 × SS :=
  if (txt S.2.2.2.1 S.2.2.2.2.1).1 = 0 then (nI (lin (txt S.2.2.2.1 S.2.2.2.2.1).2.2.1 (txt S.2.2.2.1 S.2.2.2.2.1).2.2.2.1 (txt S.2.2.2.1 S.2.2.2.2.1).2.2.2.2), ((txt S.2.2.2.1 S.2.2.2.2.1).2.2.1, [], S.2.2.1, S.2.2.2.1, 0, 0, (txt S.2.2.2.1 S.2.2.2.2.1).2.2.2.1, (txt S.2.2.2.1 S.2.2.2.2.1).2.2.2.2))
  else (-1 - nI (txt S.2.2.2.1 S.2.2.2.2.1).2.1, (S.1, S.2.1, S.2.2.1, S.2.2.2.1, 0, (txt S.2.2.2.1 S.2.2.2.2.1).1, S.2.2.2.2.2.2.1, S.2.2.2.2.2.2.2))
section C54
variable {o : OM} {l : Launch} {n : Nat} {M : Mem} {T : Nat → Nat} {w : Nat}
theorem c_Re_readText (hO : OS o) (hR : RT M T w) (h36 : Ok M 36) : CI o l m_Re_readText n [.ref 1] M (fun x M' => RL M M' ∧ ((x = nI 1 ∧ (txt T w).1 = 0 ∧ WC (txt T w).2.2.1 ∧ StA M' 2 (txt T w).2.2.1 ∧ M' 1 7 = nI (lin (txt T w).2.2.1 (txt T w).2.2.2.1 (txt T w).2.2.2.2) ∧ M' 1 8 = nI (txt T w).2.2.2.1 ∧ M' 1 9 = nI (txt T w).2.2.2.2 ∧ M' 1 10 = nI 0) ∨ (x = nI 0 ∧ (txt T w).1 ≠ 0 ∧ RB M' (txt T w).1 (txt T w).2.1))) := by
  refine ci_of rfl rfl rfl (Nat.le_of_ble_eq_true rfl) ?_
  generalize hres : txt T w = res
  unfold txt at hres
  refine r_aload_n d_Re_readText_0 rfl ?_
  refine g_getr (b := 2) d_Re_readText_1 f_Re_12 rfl rfl rfl ?_
  refine g_Vv (av := []) d_Re_readText_4 k_Re_29 ws_St_becomeAsAtFirst (by decide) rfl rfl (Nat.le_of_ble_eq_true rfl) rfl (c_St_becomeAsAtFirst isSt_2) ?_
  rintro M1 ⟨k1, k2⟩
  refine r_aload_n d_Re_readText_7 rfl ?_
  refine r_iconst (v := nI 0) d_Re_readText_8 (by decide) ?_
  refine g_puti d_Re_readText_9 f_Re_32 ⟨rfl, rfl, rfl⟩ rfl ?_
  refine r_aload_n d_Re_readText_12 rfl ?_
  refine r_iconst (v := nI 0) d_Re_readText_13 (by decide) ?_
  refine g_puti d_Re_readText_14 f_Re_36 ⟨rfl, rfl, rfl⟩ rfl ?_
  refine r_aload_n d_Re_readText_17 rfl ?_
  refine r_iconst (v := nI 0) d_Re_readText_18 (by decide) ?_
  refine g_puti d_Re_readText_19 f_Re_39 ⟨rfl, rfl, rfl⟩ rfl ?_
  refine r_aload_n d_Re_readText_22 rfl ?_
  refine r_iconst (v := nI 0) d_Re_readText_23 (by decide) ?_
  refine g_puti d_Re_readText_24 f_Re_42 ⟨rfl, rfl, rfl⟩ rfl ?_
  refine r_aload_n d_Re_readText_27 rfl ?_
  refine r_iconst (v := nI 0) d_Re_readText_28 (by decide) ?_
  refine g_puti d_Re_readText_29 f_Re_45 ⟨rfl, rfl, rfl⟩ rfl ?_
  refine r_aload_n d_Re_readText_32 rfl ?_
  refine r_iconst (v := nI 0) d_Re_readText_33 (by decide) ?_
  refine g_puti d_Re_readText_34 f_Re_48 ⟨rfl, rfl, rfl⟩ rfl ?_
  generalize hM2 : upm (upm (upm (upm (upm (upm M1 1 3 (nI 0)) 1 7 (nI 0)) 1 8 (nI 0)) 1 9 (nI 0)) 1 10 (nI 0)) 1 11 (nI 0) = M2
  have f1 : ∀ b, b ≠ 1 → M2 b = M1 b := fun b hb => by rw [← hM2, upm_ne _ _ _ hb, upm_ne _ _ _ hb, upm_ne _ _ _ hb, upm_ne _ _ _ hb, upm_ne _ _ _ hb, upm_ne _ _ _ hb]
  have m3 : M2 1 3 = nI 0 := by rw [← hM2]; rfl
  have m7 : M2 1 7 = nI 0 := by rw [← hM2]; rfl
  have m8 : M2 1 8 = nI 0 := by rw [← hM2]; rfl
  have m9 : M2 1 9 = nI 0 := by rw [← hM2]; rfl
  have m10 : M2 1 10 = nI 0 := by rw [← hM2]; rfl
  clear hM2
  have l2 : RL M M2 := ⟨fun b hb => by rw [f1 b (by omega), k2 b (by omega)], h36.kept (by rw [f1 36 (by decide), k2 36 (by decide)])⟩
  have rt2 : RT M2 T w := hR.kept (l2.1 34 (by decide)) (l2.1 35 (by decide))
  refine r_aload_n d_Re_readText_37 rfl ?_
  refine g_Vv (av := []) d_Re_readText_38 k_Re_51 ws_Re_step (by decide) rfl rfl (Nat.le_of_ble_eq_true rfl) rfl (c_Re_step hO rt2 (Nat.zero_le _) m3) ?_
  rintro M3 ⟨k3, k4⟩
  have l3 : RL M M3 := l2.trans (RL.of k3 l2.2)
  have rt3 := rt2.rf k3
  have st3 : StA M3 2 C0 := k1.kept (fun q q1 q2 => by rw [k3.1 q (by omega), f1 q (by omega)])
  have g7 : M3 1 7 = nI 0 := by rw [k3.2 7 (by decide) (by decide) (by decide) (by decide)]; exact m7
  have g8 : M3 1 8 = nI 0 := by rw [k3.2 8 (by decide) (by decide) (by decide) (by decide)]; exact m8
  have g9 : M3 1 9 = nI 0 := by rw [k3.2 9 (by decide) (by decide) (by decide) (by decide)]; exact m9
  have g10 : M3 1 10 = nI 0 := by rw [k3.2 10 (by decide) (by decide) (by decide) (by decide)]; exact m10
  have kle := tK_le (T := T) (w := w) 0
  refine r_aload_n d_Re_readText_41 rfl ?_
  refine g_geti d_Re_readText_42 f_Re_54 rfl rfl ?_
  refine r_top (y := (nI (tK T w 0))) (k4.2.1) ?_
  refine r_iconst (v := nI 1) d_Re_readText_45 (by decide) ?_
  refine n_icmp_ne d_Re_readText_46 (by omega) (by omega) (fun hc => ?_) (fun hc => ?_)
  · rw [if_neg hc] at hres
    refine r_aload_n d_Re_readText_51 rfl ?_
    refine g_Vi (av := []) d_Re_readText_52 k_Re_57 ws_Re_readSizeLine (by decide) rfl rfl (Nat.le_of_ble_eq_true rfl) rfl (c_Re_readSizeLine hO rt3 k4 st3 l3.2 g8 g9 g10) ?_
    rintro x M4 ⟨k5, k6⟩
    have l4 := l3.trans k5
    generalize hz : sizL T w 0 = z at *
    rcases k6 with ⟨rfl, e7, e0, k6⟩ | ⟨rfl, e0, k6⟩
    · rw [if_neg (fun q => q e0)] at hres
      have hs2 : 2 ≤ z.2.2.1 ∧ z.2.2.1 ≤ 10 := by
        have w1 := k6.2.2.2.1.1
        have w2 := k6.2.2.2.2.1
        rw [w2] at w1
        rcases w1 with w1 | w1
        · exfalso
          unfold sizL at hz
          split at hz
          · rw [← hz] at e0; exact absurd (show 1 = 0 from e0) (by decide)
          split at hz
          · rw [← hz] at e0; exact absurd (show 1 = 0 from e0) (by decide)
          split at hz
          · rw [← hz] at e0; exact absurd (show 2 = 0 from e0) (by decide)
          split at hz
          · rw [← hz] at e0; exact absurd (show 1 = 0 from e0) (by decide)
          · rw [← hz] at w1
            have w1 : tV T w (tE T w 0) = 0 := w1
            omega
        · exact w1
      generalize z.2.2.1 = s at *
      generalize z.2.2.2 = p at *
      clear hz
      refine n_if_ne d_Re_readText_55 (by omega) (fun _ => ?_) (fun h9 => absurd h9 (by decide))
      refine r_aload_n d_Re_readText_60 rfl ?_
      refine r_iconst (v := nI 1) d_Re_readText_61 (by decide) ?_
      refine g_puti d_Re_readText_62 f_Re_36 ⟨rfl, rfl, rfl⟩ rfl ?_
      suffices H : ∀ d C a b p M5, a + b + d = 11 → lnS T w s d C a b p = res → RQ M5 T w s a b p C → M5 1 7 = nI (1 + a + b) → RL M M5 → Rn o l m_Re_readText (0, 0) 65 [some (.ref 1)] [] (gh n M5) (QI n (fun x M' => RL M M' ∧ ((x = nI 1 ∧ res.1 = 0 ∧ WC res.2.2.1 ∧ StA M' 2 res.2.2.1 ∧ M' 1 7 = nI (lin res.2.2.1 res.2.2.2.1 res.2.2.2.2) ∧ M' 1 8 = nI res.2.2.2.1 ∧ M' 1 9 = nI res.2.2.2.2 ∧ M' 1 10 = nI 0) ∨ (x = nI 0 ∧ res.1 ≠ 0 ∧ RB M' res.1 res.2.1)))) by
        obtain ⟨q1, q2, q3, q4, q5, q6, q7, q8, q9, q10, q11⟩ := k6
        have n1 : ∀ b, b ≠ 1 → upm M4 1 7 (nI 1) b = M4 b := fun b hb => upm_ne _ _ _ hb
        have n2 : ∀ k, k ≠ 7 → upm M4 1 7 (nI 1) 1 k = M4 1 k := fun k hk => by rw [upm_at, if_neg hk]
        refine H 11 _ 0 0 p _ rfl hres ⟨q1.kept (n1 _ (by decide)) (n1 _ (by decide)), q2.kept (fun k _ _ => n2 k (by omega)), q3.kept (fun a a1 a2 => n1 a (by omega)), q4, q5, q6, q7, by rw [n2 8 (by decide)]; exact q8, by rw [n2 9 (by decide)]; exact q9, by rw [n2 10 (by decide)]; exact q10, q11.kept (n1 36 (by decide))⟩ (by rw [upm_at, if_pos rfl]) (l4.trans (RL.one n1 l4.2))
      clear hres k6
      intro d
      induction d with
      | zero =>
        intro C a b p M5 hd hr hQ h7 hl
        have := hQ.2.2.2.2.2.1
        have := hQ.2.2.2.2.2.2.1
        omega
      | succ d ih =>
        intro C a b p M5 hd hr hQ h7 hl
        have a6 := hQ.2.2.2.2.2.1
        have b4 := hQ.2.2.2.2.2.2.1
        have kle := tK_le (T := T) (w := w) p
        have again : ∀ C' a' b' p' M6, a' + b' = a + b + 1 → lnS T w s d C' a' b' p' = res → RQ M6 T w s a' b' p' C' → M6 1 7 = M5 1 7 → RL M M6 → Rn o l m_Re_readText (0, 0) 135 [some (.ref 1)] [] (gh n M6) (QI n (fun x M' => RL M M' ∧ ((x = nI 1 ∧ res.1 = 0 ∧ WC res.2.2.1 ∧ StA M' 2 res.2.2.1 ∧ M' 1 7 = nI (lin res.2.2.1 res.2.2.2.1 res.2.2.2.2) ∧ M' 1 8 = nI res.2.2.2.1 ∧ M' 1 9 = nI res.2.2.2.2 ∧ M' 1 10 = nI 0) ∨ (x = nI 0 ∧ res.1 ≠ 0 ∧ RB M' res.1 res.2.1)))) := by
          intro C' a' b' p' M6 hab hr' hQ' h7' hl'
          refine r_aload_n d_Re_readText_135 rfl ?_
          refine r_dup d_Re_readText_136 rfl ?_
          refine g_geti d_Re_readText_137 f_Re_36 rfl rfl ?_
          refine r_top (y := (nI (1+a+b))) (by rw [h7']; exact h7) ?_
          refine r_iconst (v := nI 1) d_Re_readText_140 (by decide) ?_
          refine n_iadd d_Re_readText_141 ?_
          refine g_puti d_Re_readText_142 f_Re_36 ⟨rfl, rfl, rfl⟩ rfl ?_
          refine r_goto d_Re_readText_145 ?_
          obtain ⟨q1, q2, q3, q4, q5, q6, q7, q8, q9, q10, q11⟩ := hQ'
          have n1 : ∀ q, q ≠ 1 → upm M6 1 7 (nI (1 + a + b + 1)) q = M6 q := fun q hb => upm_ne _ _ _ hb
          have n2 : ∀ k, k ≠ 7 → upm M6 1 7 (nI (1 + a + b + 1)) 1 k = M6 1 k := fun k hk => by rw [upm_at, if_neg hk]
          exact ih C' a' b' p' _ (by omega) hr' ⟨q1.kept (n1 _ (by decide)) (n1 _ (by decide)), q2.kept (fun k _ _ => n2 k (by omega)), q3.kept (fun a a1 a2 => n1 a (by omega)), q4, q5, q6, q7, by rw [n2 8 (by decide)]; exact q8, by rw [n2 9 (by decide)]; exact q9, by rw [n2 10 (by decide)]; exact q10, q11.kept (n1 36 (by decide))⟩ (by rw [upm_at, if_pos rfl, show 1 + a' + b' = 1 + a + b + 1 by omega]) (hl'.trans (RL.one n1 hl'.2))
        have lineS : tK T w p = 6 → Rn o l m_Re_readText (0, 0) 107 [some (.ref 1)] [] (gh n M5) (QI n (fun x M' => RL M M' ∧ ((x = nI 1 ∧ res.1 = 0 ∧ WC res.2.2.1 ∧ StA M' 2 res.2.2.1 ∧ M' 1 7 = nI (lin res.2.2.1 res.2.2.2.1 res.2.2.2.2) ∧ M' 1 8 = nI res.2.2.2.1 ∧ M' 1 9 = nI res.2.2.2.2 ∧ M' 1 10 = nI 0) ∨ (x = nI 0 ∧ res.1 ≠ 0 ∧ RB M' res.1 res.2.1)))) := by
          intro h6
          rw [lnS, if_neg (by omega), if_pos h6] at hr
          refine r_aload_n d_Re_readText_107 rfl ?_
          refine g_geti d_Re_readText_108 f_Re_54 rfl rfl ?_
          refine r_top (y := (nI (tK T w p))) (hQ.2.1.2.1) ?_
          refine r_bipush (v := nI 6) d_Re_readText_111 (by decide) ?_
          refine n_icmp_ne d_Re_readText_113 (by omega) (by omega) (fun hc6 => ?_) (fun hc6 => ?_)
          · omega
          · refine r_aload_n d_Re_readText_116 rfl ?_
            refine g_Vi (av := []) d_Re_readText_117 k_Re_65 ws_Re_readSeriesLine (by decide) rfl rfl (Nat.le_of_ble_eq_true rfl) rfl (c_Re_readSeriesLine hO hs2 hQ) ?_
            rintro x M6 ⟨k7, k8⟩
            rcases k8 with ⟨rfl, j7, j0, ja, jq⟩ | ⟨rfl, j0, jb⟩
            · rw [if_neg (fun q => q j0)] at hr
              refine n_if_eq d_Re_readText_120 (by omega) (fun h9 => absurd h9 (by decide)) (fun _ => ?_)
              refine r_goto d_Re_readText_123 ?_
              exact again _ (a + 1) b _ M6 (by omega) hr jq j7 (hl.trans k7)
            · rw [if_pos j0] at hr
              subst hr
              refine n_if_eq d_Re_readText_120 (by omega) (fun _ => ?_) (fun h9 => absurd h9 (by decide))
              refine r_iconst (v := nI 0) d_Re_readText_133 (by decide) ?_
              refine g_retz d_Re_readText_134 rfl (by decide) ?_
              exact ⟨hl.trans k7, Or.inr ⟨rfl, j0, jb⟩⟩
        have lineT : tK T w p = 8 → Rn o l m_Re_readText (0, 0) 107 [some (.ref 1)] [] (gh n M5) (QI n (fun x M' => RL M M' ∧ ((x = nI 1 ∧ res.1 = 0 ∧ WC res.2.2.1 ∧ StA M' 2 res.2.2.1 ∧ M' 1 7 = nI (lin res.2.2.1 res.2.2.2.1 res.2.2.2.2) ∧ M' 1 8 = nI res.2.2.2.1 ∧ M' 1 9 = nI res.2.2.2.2 ∧ M' 1 10 = nI 0) ∨ (x = nI 0 ∧ res.1 ≠ 0 ∧ RB M' res.1 res.2.1)))) := by
          intro h8
          rw [lnS, if_neg (by omega), if_neg (by omega), if_pos h8] at hr
          refine r_aload_n d_Re_readText_107 rfl ?_
          refine g_geti d_Re_readText_108 f_Re_54 rfl rfl ?_
          refine r_top (y := (nI (tK T w p))) (hQ.2.1.2.1) ?_
          refine r_bipush (v := nI 6) d_Re_readText_111 (by decide) ?_
          refine n_icmp_ne d_Re_readText_113 (by omega) (by omega) (fun hc6 => ?_) (fun hc6 => ?_)
          · refine r_aload_n d_Re_readText_126 rfl ?_
            refine g_Vi (av := []) d_Re_readText_127 k_Re_68 ws_Re_readTableLine (by decide) rfl rfl (Nat.le_of_ble_eq_true rfl) rfl (c_Re_readTableLine hO hs2 hQ) ?_
            rintro x M6 ⟨k7, k8⟩
            rcases k8 with ⟨rfl, j7, j0, ja, jq⟩ | ⟨rfl, j0, jb⟩
            · rw [if_neg (fun q => q j0)] at hr
              refine n_if_ne d_Re_readText_130 (by omega) (fun _ => ?_) (fun h9 => absurd h9 (by decide))
              exact again _ a (b + 1) _ M6 (by omega) hr jq j7 (hl.trans k7)
            · rw [if_pos j0] at hr
              subst hr
              refine n_if_ne d_Re_readText_130 (by omega) (fun h9 => absurd h9 (by decide)) (fun _ => ?_)
              refine r_iconst (v := nI 0) d_Re_readText_133 (by decide) ?_
              refine g_retz d_Re_readText_134 rfl (by decide) ?_
              exact ⟨hl.trans k7, Or.inr ⟨rfl, j0, jb⟩⟩
          · omega
        refine r_aload_n d_Re_readText_65 rfl ?_
        refine g_geti d_Re_readText_66 f_Re_36 rfl rfl ?_
        refine r_top (y := (nI (1+a+b))) (h7) ?_
        refine r_sipush (v := nI 500) d_Re_readText_69 (by decide) ?_
        refine n_icmp_ge d_Re_readText_72 (by omega) (by omega) (fun h1 => ?_) (fun h1 => ?_)
        · omega
        · refine r_aload_n d_Re_readText_75 rfl ?_
          refine g_geti d_Re_readText_76 f_Re_54 rfl rfl ?_
          refine r_top (y := (nI (tK T w p))) (hQ.2.1.2.1) ?_
          refine r_iconst (v := nI 1) d_Re_readText_79 (by decide) ?_
          refine n_icmp_eq d_Re_readText_80 (by omega) (by omega) (fun h2 => ?_) (fun h2 => ?_)
          · rw [lnS, if_pos h2] at hr
            subst hr
            refine r_iconst (v := nI 1) d_Re_readText_148 (by decide) ?_
            refine g_retz d_Re_readText_149 rfl (by decide) ?_
            refine ⟨hl, Or.inl ⟨rfl, rfl, hQ.2.2.2.1, hQ.2.2.1, ?_, hQ.2.2.2.2.2.2.2.1, hQ.2.2.2.2.2.2.2.2.1, hQ.2.2.2.2.2.2.2.2.2.1⟩⟩
            show M5 1 7 = nI (lin C a b)
            rw [lin, if_neg (by have := hQ.2.2.2.2.1; omega)]
            exact h7
          · refine r_aload_n d_Re_readText_83 rfl ?_
            refine g_geti d_Re_readText_84 f_Re_54 rfl rfl ?_
            refine r_top (y := (nI (tK T w p))) (hQ.2.1.2.1) ?_
            refine r_bipush (v := nI 6) d_Re_readText_87 (by decide) ?_
            refine n_icmp_eq d_Re_readText_89 (by omega) (by omega) (fun h3 => ?_) (fun h3 => ?_)
            · exact lineS h3
            · refine r_aload_n d_Re_readText_92 rfl ?_
              refine g_geti d_Re_readText_93 f_Re_54 rfl rfl ?_
              refine r_top (y := (nI (tK T w p))) (hQ.2.1.2.1) ?_
              refine r_bipush (v := nI 8) d_Re_readText_96 (by decide) ?_
              refine n_icmp_eq d_Re_readText_98 (by omega) (by omega) (fun h4 => ?_) (fun h4 => ?_)
              · exact lineT h4
              · rw [lnS, if_neg h2, if_neg h3, if_neg h4] at hr
                subst hr
                refine r_aload_n d_Re_readText_101 rfl ?_
                refine r_iconst (v := nI 1) d_Re_readText_102 (by decide) ?_
                refine g_Vi (av := [.int (nI 1)]) d_Re_readText_103 k_Re_61 ws_Re_refuse (by decide) rfl rfl (Nat.le_of_ble_eq_true rfl) rfl (c_Re_refuse) ?_
                rintro x M6 ⟨rfl, e6⟩
                refine g_retz d_Re_readText_106 rfl (by decide) ?_
                refine ⟨hl.trans (RL.one (fun b b1 => by rw [e6, rf_ne b1]) hl.2), Or.inr ⟨rfl, (show 1 ≠ 0 by decide), ?_⟩⟩
                rw [e6]
                exact rf_at hQ.2.1.2.2.1
    · rw [if_pos e0] at hres
      subst hres
      refine n_if_ne d_Re_readText_55 (by omega) (fun h9 => absurd h9 (by decide)) (fun _ => ?_)
      refine r_iconst (v := nI 0) d_Re_readText_58 (by decide) ?_
      refine g_retz d_Re_readText_59 rfl (by decide) ?_
      exact ⟨l4, Or.inr ⟨rfl, e0, k6⟩⟩
  · rw [if_pos hc] at hres
    subst hres
    refine r_iconst (v := nI 1) d_Re_readText_49 (by decide) ?_
    refine g_retz d_Re_readText_50 rfl (by decide) ?_
    refine ⟨l3, Or.inl ⟨rfl, rfl, WC.c0, st3, ?_, g8, g9, g10⟩⟩
    rw [g7]
    rfl
theorem c_X_text {S : SS} (hO : OS o) (hX : XR M S) : CI o l m_X_text n [.ref 0] M (PX M (f_text S)) := by
  refine ci_of rfl rfl rfl (Nat.le_of_ble_eq_true rfl) ?_
  obtain ⟨x1, ⟨nx, x2⟩, x3, ⟨x4, x5, x6, x7, x9, x10⟩, x8⟩ := id hX
  unfold f_text
  generalize hT : S.2.2.2.1 = T at *
  generalize hw : S.2.2.2.2.1 = w at *
  have hR : RT M T w := ⟨x4, x5, x6⟩
  refine r_aload_n d_X_text_0 rfl ?_
  refine g_getr (b := 1) d_X_text_1 f_X_10 rfl rfl rfl ?_
  refine g_Vi (av := []) d_X_text_4 k_X_67 ws_Re_readText (by decide) rfl rfl (Nat.le_of_ble_eq_true rfl) rfl (c_Re_readText hO hR x8.2) ?_
  rintro x M1 ⟨k1, k2⟩
  generalize txt T w = res at *
  have bo1 : BO M1 := ⟨fun b b1 b2 b3 => (x8.1 b b1 b2 b3).kept (k1.1 b (by omega)), k1.2⟩
  rcases k2 with ⟨rfl, e0, wc, st1, m7, m8, m9, m10⟩ | ⟨rfl, e0, m10, m11⟩
  · rw [if_pos e0]
    refine r_istore_n (L' := [some (.ref 0), some (.int (nI 1))]) d_X_text_7 (by decide) rfl ?_
    refine r_aload_n d_X_text_8 rfl ?_
    refine g_getr (b := 34) d_X_text_9 f_X_20 rfl rfl rfl ?_
    refine r_iconst (v := nI 0) d_X_text_12 (by decide) ?_
    refine g_puti d_X_text_13 f_X_57 ⟨rfl, rfl, rfl⟩ rfl ?_
    have a1 : ∀ b, b ≠ 34 → upm M1 34 1 (nI 0) b = M1 b := fun b hb => upm_ne _ _ _ hb
    have a2 : upm M1 34 1 (nI 0) 34 1 = nI 0 := by rw [upm_at, if_pos rfl]
    generalize upm M1 34 1 (nI 0) = M2 at *
    refine r_aload_n d_X_text_16 rfl ?_
    refine r_aload_n d_X_text_17 rfl ?_
    refine g_getr (b := 1) d_X_text_18 f_X_10 rfl rfl rfl ?_
    refine g_geti d_X_text_21 f_X_71 rfl rfl ?_
    refine r_top (y := (nI 0)) (by rw [a1 1 (by decide)]; exact m10) ?_
    refine g_puti d_X_text_24 f_X_74 ⟨rfl, rfl, rfl⟩ rfl ?_
    have b1 : ∀ b, b ≠ 0 → upm M2 0 8 (nI 0) b = M2 b := fun b hb => upm_ne _ _ _ hb
    have b2 : upm M2 0 8 (nI 0) 0 8 = nI 0 := by rw [upm_at, if_pos rfl]
    generalize upm M2 0 8 (nI 0) = M3 at *
    refine r_iload_n d_X_text_27 rfl ?_
    refine n_if_ne d_X_text_28 (by omega) (fun _ => ?_) (fun h9 => absurd h9 (by decide))
    refine r_aload_n d_X_text_41 rfl ?_
    refine g_getr (b := 37) d_X_text_42 f_X_24 rfl rfl rfl ?_
    refine r_aload_n d_X_text_45 rfl ?_
    refine g_getr (b := 1) d_X_text_46 f_X_10 rfl rfl rfl ?_
    refine g_getr (b := 2) d_X_text_49 f_X_78 rfl rfl rfl ?_
    refine g_Vv (av := [.ref 2]) d_X_text_52 k_X_81 ws_St_copyFrom (by decide) rfl rfl (Nat.le_of_ble_eq_true rfl) rfl (c_St_copyFrom isSt_37 isSt_2 (by decide) (st1.kept (M' := M3) (fun q q1 q2 => by rw [b1 q (by omega), a1 q (by omega)]))) ?_
    rintro M4 ⟨c1, c2⟩
    have r1 : M4 1 = M1 1 := by rw [c2 1 (by decide), b1 1 (by decide), a1 1 (by decide)]
    refine r_aload_n d_X_text_55 rfl ?_
    refine r_aload_n d_X_text_56 rfl ?_
    refine g_getr (b := 1) d_X_text_57 f_X_10 rfl rfl rfl ?_
    refine g_geti d_X_text_60 f_X_85 rfl rfl ?_
    refine r_top (y := (nI res.2.2.2.1)) (by rw [r1]; exact m8) ?_
    refine g_puti d_X_text_63 f_X_88 ⟨rfl, rfl, rfl⟩ rfl ?_
    have d1 : ∀ b, b ≠ 0 → upm M4 0 9 (nI res.2.2.2.1) b = M4 b := fun b hb => upm_ne _ _ _ hb
    have d2 : upm M4 0 9 (nI res.2.2.2.1) 0 9 = nI res.2.2.2.1 := by rw [upm_at, if_pos rfl]
    have d3 : upm M4 0 9 (nI res.2.2.2.1) 0 8 = nI 0 := by rw [upm_at, if_neg (by decide), c2 0 (by decide)]; exact b2
    generalize upm M4 0 9 (nI res.2.2.2.1) = M5 at *
    refine r_aload_n d_X_text_66 rfl ?_
    refine r_aload_n d_X_text_67 rfl ?_
    refine g_getr (b := 1) d_X_text_68 f_X_10 rfl rfl rfl ?_
    refine g_geti d_X_text_71 f_X_89 rfl rfl ?_
    refine r_top (y := (nI res.2.2.2.2)) (by rw [d1 1 (by decide), r1]; exact m9) ?_
    refine g_puti d_X_text_74 f_X_92 ⟨rfl, rfl, rfl⟩ rfl ?_
    have e1 : ∀ b, b ≠ 0 → upm M5 0 10 (nI res.2.2.2.2) b = M5 b := fun b hb => upm_ne _ _ _ hb
    have e2 : upm M5 0 10 (nI res.2.2.2.2) 0 10 = nI res.2.2.2.2 := by rw [upm_at, if_pos rfl]
    have e3 : upm M5 0 10 (nI res.2.2.2.2) 0 8 = nI 0 := by rw [upm_at, if_neg (by decide)]; exact d3
    have e4 : upm M5 0 10 (nI res.2.2.2.2) 0 9 = nI res.2.2.2.1 := by rw [upm_at, if_neg (by decide)]; exact d2
    generalize upm M5 0 10 (nI res.2.2.2.2) = M6 at *
    have n6 : ∀ b, b ≠ 0 → b ≠ 34 → (b < 37 ∨ 69 ≤ b) → M6 b = M1 b := fun b h1 h2 h3 => by rw [e1 b h1, d1 b h1, c2 b (by omega), b1 b h1, a1 b h2]
    have h6 : HiA M6 S.2.1 nx := x2.kept (fun b h1 h2 => by rw [n6 b (by omega) (by omega) (by omega)]; exact k1.1 b (by omega))
    refine r_aload_n d_X_text_77 rfl ?_
    refine g_getr (b := 69) d_X_text_78 f_X_31 rfl rfl rfl ?_
    refine g_Vv (av := []) d_X_text_81 k_X_93 ws_Hi_forget (by decide) rfl rfl (Nat.le_of_ble_eq_true rfl) rfl (c_Hi_forget h6) ?_
    rintro M7 ⟨f1, f2⟩
    refine r_aload_n d_X_text_84 rfl ?_
    refine g_getr (b := 1) d_X_text_85 f_X_10 rfl rfl rfl ?_
    refine g_geti d_X_text_88 f_X_96 rfl rfl ?_
    refine r_top (y := (nI (lin res.2.2.1 res.2.2.2.1 res.2.2.2.2))) (by rw [f2 1 (by decide), n6 1 (by decide) (by decide) (by decide)]; exact m7) ?_
    refine g_reti d_X_text_91 rfl ?_
    refine ⟨rfl, ⟨c1.kept (fun q q1 q2 => by rw [f2 q (by omega), e1 q (by omega), d1 q (by omega)]), ⟨nx, f1⟩, x3.kept (fun q q1 q2 => by rw [f2 q (by omega), n6 q (by omega) (by omega) (by omega)]; exact k1.1 q (by omega)), ⟨?_, Nat.zero_le 540, fun j hj => absurd hj (Nat.not_lt_zero j), ?_, ?_, ?_⟩, bo1.kept (fun q hq => by rw [f2 q (by omega), n6 q (by omega) (by omega) (by omega)])⟩, fun q hq => by rw [f2 q (by omega), n6 q (by omega) (by omega) (by omega)]; exact k1.1 q (by omega)⟩
    · rw [f2 34 (by decide), e1 34 (by decide), d1 34 (by decide), c2 34 (by decide), b1 34 (by decide)]
      exact a2
    · rw [f2 0 (by decide)]; exact e3
    · rw [f2 0 (by decide)]; exact e4
    · rw [f2 0 (by decide)]; exact e2
  · rw [if_neg e0]
    refine r_istore_n (L' := [some (.ref 0), some (.int (nI 0))]) d_X_text_7 (by decide) rfl ?_
    refine r_aload_n d_X_text_8 rfl ?_
    refine g_getr (b := 34) d_X_text_9 f_X_20 rfl rfl rfl ?_
    refine r_iconst (v := nI 0) d_X_text_12 (by decide) ?_
    refine g_puti d_X_text_13 f_X_57 ⟨rfl, rfl, rfl⟩ rfl ?_
    have a1 : ∀ b, b ≠ 34 → upm M1 34 1 (nI 0) b = M1 b := fun b hb => upm_ne _ _ _ hb
    have a2 : upm M1 34 1 (nI 0) 34 1 = nI 0 := by rw [upm_at, if_pos rfl]
    generalize upm M1 34 1 (nI 0) = M2 at *
    refine r_aload_n d_X_text_16 rfl ?_
    refine r_aload_n d_X_text_17 rfl ?_
    refine g_getr (b := 1) d_X_text_18 f_X_10 rfl rfl rfl ?_
    refine g_geti d_X_text_21 f_X_71 rfl rfl ?_
    refine r_top (y := (nI res.1)) (by rw [a1 1 (by decide)]; exact m10) ?_
    refine g_puti d_X_text_24 f_X_74 ⟨rfl, rfl, rfl⟩ rfl ?_
    have b1 : ∀ b, b ≠ 0 → upm M2 0 8 (nI res.1) b = M2 b := fun b hb => upm_ne _ _ _ hb
    have b2 : upm M2 0 8 (nI res.1) 0 8 = nI res.1 := by rw [upm_at, if_pos rfl]
    have b3 : ∀ k, k ≠ 8 → upm M2 0 8 (nI res.1) 0 k = M 0 k := fun k hk => by rw [upm_at, if_neg hk, a1 0 (by decide), k1.1 0 (Or.inl rfl)]
    generalize upm M2 0 8 (nI res.1) = M3 at *
    refine r_iload_n d_X_text_27 rfl ?_
    refine n_if_ne d_X_text_28 (by omega) (fun h9 => absurd h9 (by decide)) (fun _ => ?_)
    refine r_iconst (v := -1) d_X_text_31 (by decide) ?_
    refine r_aload_n d_X_text_32 rfl ?_
    refine g_getr (b := 1) d_X_text_33 f_X_10 rfl rfl rfl ?_
    refine g_geti d_X_text_36 f_X_75 rfl rfl ?_
    refine r_top (y := (nI res.2.1)) (by rw [b1 1 (by decide), a1 1 (by decide)]; exact m11) ?_
    refine r_isub d_X_text_39 ?_
    refine g_reti d_X_text_40 rfl ?_
    have n3 : ∀ b, b ≠ 0 → b ≠ 34 → M3 b = M1 b := fun b h1 h2 => by rw [b1 b h1, a1 b h2]
    refine ⟨rfl, ⟨x1.kept (fun q q1 q2 => by rw [n3 q (by omega) (by omega)]; exact k1.1 q (by omega)), ⟨nx, x2.kept (fun q q1 q2 => by rw [n3 q (by omega) (by omega)]; exact k1.1 q (by omega))⟩, x3.kept (fun q q1 q2 => by rw [n3 q (by omega) (by omega)]; exact k1.1 q (by omega)), ⟨?_, Nat.zero_le 540, fun j hj => absurd hj (Nat.not_lt_zero j), b2, ?_, ?_⟩, bo1.kept (fun q hq => n3 q (by omega) (by omega))⟩, fun q hq => by rw [n3 q (by omega) (by omega)]; exact k1.1 q (by omega)⟩
    · rw [b1 34 (by decide)]; exact a2
    · rw [b3 9 (by decide)]; exact x9
    · rw [b3 10 (by decide)]; exact x10
end C54
