/-! The reference: the text -/
def PSer (M : Mem) (T : Nat → Nat) (w s a : Nat) (C : Core) (p : Nat) (r : Int32) (M' : Mem) : Prop := KRd M M' ∧ ((r = nI 1 ∧ a < 6 ∧ ∃ x p', serL T w s a C p = serE T w a C x p' ∧ (∀ j, j < 10 → x j < 1000003) ∧ (∀ j, s ≤ j → j < 10 → x j = 0) ∧ TM M' T w p' ∧ AM M' 439 0 (rowA C (2 + a) x) ∧ M' 436 18 = nI (a + 1) ∧ M' 436 19 = M 436 19 ∧ M' 436 8 = M 436 8) ∨ (r = nI 0 ∧ (serL T w s a C p).1 ≠ 0 ∧ FLt M' (serL T w s a C p).1 (serL T w s a C p).2.1))
def PTab (M : Mem) (T : Nat → Nat) (w a b : Nat) (C : Core) (p : Nat) (r : Int32) (M' : Mem) : Prop := KRd M M' ∧ ((r = nI 1 ∧ b < 4 ∧ ∃ p3 g f, tabL T w a b C p = (if tK T w p3 ≠ 3 then (1, tQ T w p3, C, p) else (0, 0, tabC C b g f, tE T w p3)) ∧ WC (tabC C b g f) ∧ TM M' T w p3 ∧ AM M' 439 0 (tabC C b g f) ∧ M' 436 19 = nI (b + 1) ∧ M' 436 18 = M 436 18 ∧ M' 436 8 = M 436 8) ∨ (r = nI 0 ∧ (tabL T w a b C p).1 ≠ 0 ∧ FLt M' (tabL T w a b C p).1 (tabL T w a b C p).2.1))
theorem nw_C0 : ∀ j, j < 241 → nw C0 j = if 61 ≤ j ∧ j < 141 ∧ ((j - 61) % 20 = 0 ∨ (j - 61) % 20 = 11) then 1 else 0 := by decide +kernel
section C69
variable {o : OM} {l : Launch} {n : Nat} {M : Mem} {T : Nat → Nat} {w : Nat}
theorem c_Md_readSeries {s a p : Nat} {C : Core} (hR : MTp M T w) (hK : TM M T w p) (h6 : tK T w p = 6) (hC : AM M 439 0 C) (hW : WC C) (hs : C 0 3 = s) (hs2 : 2 ≤ s ∧ s ≤ 10) (ha : a ≤ 6) (h18 : M 436 18 = nI a) : CI o l m_Md_readSeries n [.ref 436] M (PSer M T w s a C p) := by
  refine ci_of rfl rfl rfl (Nat.le_of_ble_eq_true rfl) ?_
  generalize hL : serL T w s a C p = Lr
  unfold serL at hL
  unfold PSer
  rw [show serL T w s a C p = Lr from by rw [← hL]; rfl]
  refine r_aload_n d_Md_readSeries_0 rfl ?_
  refine g_geti d_Md_readSeries_1 f_Md_122 rfl rfl ?_
  refine r_top (y := (nI a)) (h18) ?_
  refine r_bipush (v := nI 6) d_Md_readSeries_4 (by decide) ?_
  refine n_icmp_ne d_Md_readSeries_6 (by omega) (by omega) (fun h9 => ?_) (fun h9 => ?_)
  · rw [if_neg (by omega)] at hL
    have a6 : a < 6 := by omega
    refine r_aload_n d_Md_readSeries_15 rfl ?_
    refine g_Vv (av := []) d_Md_readSeries_16 k_Md_112 ws_Md_next (by decide) rfl rfl (Nat.le_of_ble_eq_true rfl) rfl (c_Md_step hR hK (by omega)) ?_
    rintro M1 ⟨g1, g2⟩
    have c1 : AM M1 439 0 C := hC.kept (g1.1 439 (by decide))
    have z1 : M1 439 0 = nI s := by rw [← hs]; exact c1 0 (by decide)
    generalize tE T w p = p1 at *
    refine r_aload_n d_Md_readSeries_19 rfl ?_
    refine r_aload_n d_Md_readSeries_20 rfl ?_
    refine g_getr (b := 443) d_Md_readSeries_21 f_Md_72 rfl rfl rfl ?_
    refine r_iconst (v := nI 0) d_Md_readSeries_24 (by decide) ?_
    refine g_Vi (av := [.ref 443, .int (nI 0)]) d_Md_readSeries_25 k_Md_125 ws_Md_readSum (by decide) rfl rfl (Nat.le_of_ble_eq_true rfl) rfl (c_Md_readSum (c := 443) (s := s) (bb := 0) (hR.nf g1) g2 (Or.inl rfl) z1 (by omega) hs2.2 (by decide)) ?_
    rintro r M2 k2
    have kr2 : KRd M M2 := g1.kr.trans (k2.kr (Or.inl rfl))
    have rl := rdS_lt (T := T) (w := w) (bb := 0) (d := s) (i := 0) (p := p1) (row := fun _ => 0) (fun _ => by decide)
    have rzz := rdS_z (T := T) (w := w) (bb := 0) (d := s) (i := 0) (p := p1) (row := fun _ => 0) (fun _ _ => rfl)
    generalize rdS T w 0 s 0 p1 (fun _ => 0) = R0 at *
    obtain ⟨e1, e2, k2⟩ := k2
    rcases k2 with ⟨rfl, q1, q2, q3, q8, q4, q5⟩ | ⟨rfl, k2⟩
    · rw [if_neg (fun z => z q1)] at hL
      have hR2 : MTp M2 T w := hR.kr kr2
      have c2 : AM M2 439 0 C := c1.kept (e1 439 (by decide) (by decide))
      have s18 : M2 436 18 = nI a := by rw [e2 18 (by omega), g1.2 18 (by decide) (by decide) (by decide) (by decide)]; exact h18
      have s19 : M2 436 19 = M 436 19 := by rw [e2 19 (by omega), g1.2 19 (by decide) (by decide) (by decide) (by decide)]
      have s8 : M2 436 8 = M 436 8 := by rw [q8, g1.2 8 (by decide) (by decide) (by decide) (by decide)]
      -- behind the sums
      have tail : ∀ (u : Option Value) (M4 : Mem) (y x : Nat → Nat) (p' : Nat), KRd M M4 → AM M4 439 0 C → M4 436 18 = nI a → M4 436 19 = M 436 19 → M4 436 8 = M 436 8 → TM M4 T w p' → (∀ j, j < 10 → M4 443 j = nI (R0.2.1 j)) → OKs M4 444 s y → (∀ j, j < s → dv R0.2.1 y j = x j) → (∀ j, j < 10 → x j < 1000003) → (∀ j, s ≤ j → j < 10 → x j = 0) → Lr = serE T w a C x p' → Rn o l m_Md_readSeries (0, 0) 97 [some (.ref 436), u] [] (gh n M4) (QI n (fun r M' => KRd M M' ∧ ((r = nI 1 ∧ a < 6 ∧ ∃ x p', Lr = serE T w a C x p' ∧ (∀ j, j < 10 → x j < 1000003) ∧ (∀ j, s ≤ j → j < 10 → x j = 0) ∧ TM M' T w p' ∧ AM M' 439 0 (rowA C (2 + a) x) ∧ M' 436 18 = nI (a + 1) ∧ M' 436 19 = M 436 19 ∧ M' 436 8 = M 436 8) ∨ (r = nI 0 ∧ Lr.1 ≠ 0 ∧ FLt M' Lr.1 Lr.2.1)))) := by
        intro u M4 y x p' kr4 c4 t18 t19 t8 hK4 up4 low4 hx xl xz hLr
        have z4 : M4 439 0 = nI s := by rw [← hs]; exact c4 0 (by decide)
        refine r_aload_n d_Md_readSeries_97 rfl ?_
        refine g_getr (b := 443) d_Md_readSeries_98 f_Md_72 rfl rfl rfl ?_
        refine r_aload_n d_Md_readSeries_101 rfl ?_
        refine g_getr (b := 444) d_Md_readSeries_102 f_Md_75 rfl rfl rfl ?_
        refine r_aload_n d_Md_readSeries_105 rfl ?_
        refine g_getr (b := 445) d_Md_readSeries_106 f_Md_78 rfl rfl rfl ?_
        refine r_aload_n d_Md_readSeries_109 rfl ?_
        refine g_getr (b := 439) d_Md_readSeries_110 f_Md_59 rfl rfl rfl ?_
        refine r_iconst (v := nI 0) d_Md_readSeries_113 (by decide) ?_
        refine g_iald d_Md_readSeries_114 rfl (by omega) (by omega) ?_
        refine r_top (y := nI s) (z4) ?_
        refine g_Sv (av := [.ref 443, .ref 444, .ref 445, .int (nI s)]) d_Md_readSeries_115 k_Md_133 ws_Md_divides (by decide) rfl rfl (Nat.le_of_ble_eq_true rfl) (c_Md_divides (a := 443) (b := 444) (c := 445) (x := R0.2.1) (y := y) rfl rfl rfl (by decide) (by decide) (by omega) hs2.2 (fun j hj => ⟨up4 j (by omega), rl j⟩) low4) ?_
        rintro M5 k5
        have z5 : M5 439 0 = nI s := by rw [k5.1 439 (by decide)]; exact z4
        refine r_iconst (v := nI 0) d_Md_readSeries_118 (by decide) ?_
        refine r_istore_n (L' := [some (.ref 436), some (.int (nI 0))]) d_Md_readSeries_119 (by decide) rfl ?_
        refine lp (a := 0) (N := s) (R := fun k M' => Rn o l m_Md_readSeries (0, 0) 120 [some (.ref 436), some (.int (nI k))] [] (gh n M') (QI n (fun r M' => KRd M M' ∧ ((r = nI 1 ∧ a < 6 ∧ ∃ x p', Lr = serE T w a C x p' ∧ (∀ j, j < 10 → x j < 1000003) ∧ (∀ j, s ≤ j → j < 10 → x j = 0) ∧ TM M' T w p' ∧ AM M' 439 0 (rowA C (2 + a) x) ∧ M' 436 18 = nI (a + 1) ∧ M' 436 19 = M 436 19 ∧ M' 436 8 = M 436 8) ∨ (r = nI 0 ∧ Lr.1 ≠ 0 ∧ FLt M' Lr.1 Lr.2.1))))) (P := fun k M' => (∀ b, b ≠ 439 → M' b = M5 b) ∧ ∀ j, j < 241 → M' 439 j = if 1 + 10 * a ≤ j ∧ j < 1 + 10 * a + k then nI (x (j - (1 + 10 * a))) else M5 439 j) (by omega) ?_ ?_ ?_
        · exact ⟨fun _ _ => rfl, fun j hj => by rw [if_neg (by omega)]⟩
        · intro M6 f6
          have z6 : M6 439 0 = nI s := by rw [f6.2 0 (by decide), if_neg (by omega)]; exact z5
          refine r_iload_n d_Md_readSeries_120 rfl ?_
          refine r_aload_n d_Md_readSeries_121 rfl ?_
          refine g_getr (b := 439) d_Md_readSeries_122 f_Md_59 rfl rfl rfl ?_
          refine r_iconst (v := nI 0) d_Md_readSeries_125 (by decide) ?_
          refine g_iald d_Md_readSeries_126 rfl (by omega) (by omega) ?_
          refine r_top (y := nI s) (z6) ?_
          refine n_icmp_ge d_Md_readSeries_127 (by omega) (by omega) (fun _ => ?_) (fun h9 => absurd h9 (by omega))
          have t6 : ∀ k, M6 436 k = M4 436 k := fun k => by rw [f6.1 436 (by decide), k5.1 436 (by decide)]
          refine r_aload_n d_Md_readSeries_158 rfl ?_
          refine r_dup d_Md_readSeries_159 rfl ?_
          refine g_geti d_Md_readSeries_160 f_Md_122 rfl rfl ?_
          refine r_top (y := (nI a)) (by rw [t6]; exact t18) ?_
          refine r_iconst (v := nI 1) d_Md_readSeries_163 (by decide) ?_
          refine n_iadd d_Md_readSeries_164 ?_
          refine g_puti d_Md_readSeries_165 f_Md_122 ⟨rfl, rfl, rfl⟩ rfl ?_
          refine r_iconst (v := nI 1) d_Md_readSeries_168 (by decide) ?_
          refine g_retz d_Md_readSeries_169 rfl (by decide) ?_
          have kr6 : KRd M M6 := kr4.trans ⟨fun b b1 b2 b3 b4 b5 => by rw [f6.1 b b2, k5.1 b b5], fun k _ _ _ => t6 k⟩
          refine ⟨kr6.up (by omega), Or.inl ⟨rfl, a6, x, p', hLr, xl, xz, hK4.kept (fun k k1 k2 => by rw [upm_at, if_neg (by omega), t6]), ?_, by rw [upm_at, if_pos rfl], by rw [upm_at, if_neg (by decide), t6]; exact t19, by rw [upm_at, if_neg (by decide), t6]; exact t8⟩⟩
          refine AM.kept (M := M6) (fun j hj => ?_) (upm_ne _ _ _ (by decide))
          rw [Nat.zero_add, f6.2 j hj, nw_rowA C a6 j hj]
          by_cases e : 1 + 10 * a ≤ j ∧ j < 1 + 10 * a + s
          · rw [if_pos e, if_pos (by omega)]
          · rw [if_neg e, k5.1 439 (by decide)]
            have hc9 := c4 j hj
            rw [Nat.zero_add] at hc9
            rw [hc9]
            by_cases e2 : 1 + 10 * a ≤ j ∧ j < 1 + 10 * a + 10
            · rw [if_pos e2, xz (j - (1 + 10 * a)) (by omega) (by omega)]
              obtain ⟨i, rfl⟩ : ∃ i, j = 1 + 10 * a + i := ⟨j - (1 + 10 * a), by omega⟩
              rw [nw_ser C a6 (by omega), hW.2.2.1 (by omega) _ (rx_s a6) i (by omega) (by omega)]
            · rw [if_neg e2]
        · intro k M6 hk f6 ih
          have z6 : M6 439 0 = nI s := by rw [f6.2 0 (by decide), if_neg (by omega)]; exact z5
          refine r_iload_n d_Md_readSeries_120 rfl ?_
          refine r_aload_n d_Md_readSeries_121 rfl ?_
          refine g_getr (b := 439) d_Md_readSeries_122 f_Md_59 rfl rfl rfl ?_
          refine r_iconst (v := nI 0) d_Md_readSeries_125 (by decide) ?_
          refine g_iald d_Md_readSeries_126 rfl (by omega) (by omega) ?_
          refine r_top (y := nI s) (z6) ?_
          refine n_icmp_ge d_Md_readSeries_127 (by omega) (by omega) (fun h9 => absurd h9 (by omega)) (fun _ => ?_)
          refine r_aload_n d_Md_readSeries_130 rfl ?_
          refine g_getr (b := 439) d_Md_readSeries_131 f_Md_59 rfl rfl rfl ?_
          refine r_iconst (v := nI 1) d_Md_readSeries_134 (by decide) ?_
          refine r_bipush (v := nI 10) d_Md_readSeries_135 (by decide) ?_
          refine r_aload_n d_Md_readSeries_137 rfl ?_
          refine g_geti d_Md_readSeries_138 f_Md_122 rfl rfl ?_
          refine r_top (y := (nI a)) (by rw [f6.1 436 (by decide), k5.1 436 (by decide)]; exact t18) ?_
          refine n_imul d_Md_readSeries_141 ?_
          refine n_iadd d_Md_readSeries_142 ?_
          refine r_iload_n d_Md_readSeries_143 rfl ?_
          refine n_iadd d_Md_readSeries_144 ?_
          refine r_aload_n d_Md_readSeries_145 rfl ?_
          refine g_getr (b := 445) d_Md_readSeries_146 f_Md_78 rfl rfl rfl ?_
          refine r_iload_n d_Md_readSeries_149 rfl ?_
          refine g_iald d_Md_readSeries_150 rfl (by omega) (by omega) ?_
          refine r_top (y := nI (x k)) (by rw [f6.1 445 (by decide), k5.2 k (by omega), hx k (by omega)]) ?_
          refine g_iast d_Md_readSeries_151 rfl (by omega) (by omega) ?_
          refine n_iinc (c := 1) (L' := [some (.ref 436), some (.int (nI (k + 1)))]) d_Md_readSeries_152 rfl rfl (by decide) rfl ?_
          refine r_goto d_Md_readSeries_155 ?_
          refine ih _ ?_
          refine ⟨fun z hz => by rw [upm_ne _ _ _ hz]; exact f6.1 z hz, fun j hj => ?_⟩
          rw [upm_at]
          by_cases e : j = 1 + 10 * a + k
          · rw [if_pos e, if_pos (by omega), show j - (1 + 10 * a) = k by omega]
          · rw [if_neg e, f6.2 j hj]
            by_cases e2 : 1 + 10 * a ≤ j ∧ j < 1 + 10 * a + k
            · rw [if_pos e2, if_pos (by omega)]
            · rw [if_neg e2, if_neg (by omega)]
      refine n_if_ne d_Md_readSeries_28 (by omega) (fun _ => ?_) (fun h9 => absurd h9 (by decide))
      refine r_iconst (v := nI 0) d_Md_readSeries_33 (by decide) ?_
      refine r_istore_n (L' := [some (.ref 436), some (.int (nI 0))]) d_Md_readSeries_34 (by decide) rfl ?_
      refine lp (a := 0) (N := 10) (R := fun k M' => Rn o l m_Md_readSeries (0, 0) 35 [some (.ref 436), some (.int (nI k))] [] (gh n M') (QI n (fun r M' => KRd M M' ∧ ((r = nI 1 ∧ a < 6 ∧ ∃ x p', Lr = serE T w a C x p' ∧ (∀ j, j < 10 → x j < 1000003) ∧ (∀ j, s ≤ j → j < 10 → x j = 0) ∧ TM M' T w p' ∧ AM M' 439 0 (rowA C (2 + a) x) ∧ M' 436 18 = nI (a + 1) ∧ M' 436 19 = M 436 19 ∧ M' 436 8 = M 436 8) ∨ (r = nI 0 ∧ Lr.1 ≠ 0 ∧ FLt M' Lr.1 Lr.2.1))))) (P := fun k M' => MW M2 444 k oneS M') (by omega) ?_ ?_ ?_
      · exact MW.z M2 444 _
      · intro M3 g3
        have kr3 : KRd M M3 := kr2.trans ⟨fun b b1 b2 b3 b4 b5 => g3.1 b b4, fun k _ _ _ => by rw [g3.1 436 (by decide)]⟩
        have hR3 := hR.kr kr3
        have hK3 : TM M3 T w R0.2.2 := q4.kept (fun k _ _ => by rw [g3.1 436 (by decide)])
        have c3 : AM M3 439 0 C := c2.kept (g3.1 439 (by decide))
        have up3 : ∀ j, j < 10 → M3 443 j = nI (R0.2.1 j) := fun j hj => by rw [g3.1 443 (by decide)]; exact q5 j hj
        refine r_iload_n d_Md_readSeries_35 rfl ?_
        refine r_bipush (v := nI 10) d_Md_readSeries_36 (by decide) ?_
        refine n_icmp_ge d_Md_readSeries_38 (by omega) (by omega) (fun _ => ?_) (fun h9 => absurd h9 (by omega))
        refine r_aload_n d_Md_readSeries_62 rfl ?_
        refine r_bipush (v := nI 111) d_Md_readSeries_63 (by decide) ?_
        refine r_bipush (v := nI 118) d_Md_readSeries_65 (by decide) ?_
        refine r_bipush (v := nI 101) d_Md_readSeries_67 (by decide) ?_
        refine r_bipush (v := nI 114) d_Md_readSeries_69 (by decide) ?_
        refine r_iconst (v := nI 0) d_Md_readSeries_71 (by decide) ?_
        refine r_iconst (v := nI 0) d_Md_readSeries_72 (by decide) ?_
        refine g_Vi (av := [.int (nI 111), .int (nI 118), .int (nI 101), .int (nI 114), .int (nI 0), .int (nI 0)]) d_Md_readSeries_73 k_Md_129 ws_Md_isWord (by decide) rfl rfl (Nat.le_of_ble_eq_true rfl) rfl (c_Md_isWord_2 hR3 hK3) ?_
        rintro r _ ⟨⟨rfl, h7⟩ | ⟨rfl, h7⟩, rfl⟩
        · rw [if_neg (fun z => z h7)] at hL
          refine n_if_eq d_Md_readSeries_76 (by omega) (fun h9 => absurd h9 (by decide)) (fun _ => ?_)
          refine r_aload_n d_Md_readSeries_79 rfl ?_
          refine g_Vv (av := []) d_Md_readSeries_80 k_Md_112 ws_Md_next (by decide) rfl rfl (Nat.le_of_ble_eq_true rfl) rfl (c_Md_step hR3 hK3 (by omega)) ?_
          rintro M4 ⟨g4, g5⟩
          have c4 : AM M4 439 0 C := c3.kept (g4.1 439 (by decide))
          have z4 : M4 439 0 = nI s := by rw [← hs]; exact c4 0 (by decide)
          refine r_aload_n d_Md_readSeries_83 rfl ?_
          refine r_aload_n d_Md_readSeries_84 rfl ?_
          refine g_getr (b := 444) d_Md_readSeries_85 f_Md_75 rfl rfl rfl ?_
          refine r_iconst (v := nI 1) d_Md_readSeries_88 (by decide) ?_
          refine g_Vi (av := [.ref 444, .int (nI 1)]) d_Md_readSeries_89 k_Md_125 ws_Md_readSum (by decide) rfl rfl (Nat.le_of_ble_eq_true rfl) rfl (c_Md_readSum (c := 444) (s := s) (bb := 1) (hR3.nf g4) g5 (Or.inr rfl) z4 (by omega) hs2.2 (by decide)) ?_
          rintro r M5 k5
          have kr5 : KRd M M5 := (kr3.trans g4.kr).trans (k5.kr (Or.inr rfl))
          have rl1 := rdS_lt (T := T) (w := w) (bb := 1) (d := s) (i := 0) (p := tE T w R0.2.2) (row := fun _ => 0) (fun _ => by decide)
          generalize rdS T w 1 s 0 (tE T w R0.2.2) (fun _ => 0) = R1 at *
          obtain ⟨i1, i2, k5⟩ := k5
          have t5 : ∀ k, k = 18 ∨ k = 19 → M5 436 k = M2 436 k := fun k hk => by rw [i2 k (by omega), g4.2 k (by omega) (by omega) (by omega) (by omega), g3.1 436 (by decide)]
          rcases k5 with ⟨rfl, j1, j2, j3, j8, j4, j5⟩ | ⟨rfl, k5⟩
          · rw [if_neg (fun z => z j1)] at hL
            refine n_if_ne d_Md_readSeries_92 (by omega) (fun _ => ?_) (fun h9 => absurd h9 (by decide))
            refine tail _ M5 R1.2.1 (fun j => if j < s then dv R0.2.1 R1.2.1 j else R0.2.1 j) R1.2.2 kr5 (c4.kept (i1 439 (by decide) (by decide))) (by rw [t5 18 (by omega)]; exact s18) (by rw [t5 19 (by omega)]; exact s19) (by rw [j8, g4.2 8 (by decide) (by decide) (by decide) (by decide), g3.1 436 (by decide)]; exact s8) j4 (fun j hj => by rw [i1 443 (by decide) (by decide), g4.1 443 (by decide)]; exact up3 j hj) (fun j hj => ⟨j5 j (by omega), rl1 j⟩) (fun j hj => by rw [if_pos hj]) (fun j hj => by
              show (if j < s then dv R0.2.1 R1.2.1 j else R0.2.1 j) < 1000003
              split
              · exact dv_lt _ _ _
              · exact rl j) (fun j h1 h2 => by
              show (if j < s then dv R0.2.1 R1.2.1 j else R0.2.1 j) = 0
              rw [if_neg (by omega)]
              exact rzz j (by omega)) hL.symm
          · refine n_if_ne d_Md_readSeries_92 (by omega) (fun h9 => absurd h9 (by decide)) (fun _ => ?_)
            refine r_iconst (v := nI 0) d_Md_readSeries_95 (by decide) ?_
            refine g_retz d_Md_readSeries_96 rfl (by decide) ?_
            refine ⟨kr5, Or.inr ⟨rfl, ?_⟩⟩
            rcases k5 with ⟨j1, j2⟩ | ⟨j1, j2, j3⟩
            · rw [if_pos j1] at hL
              rw [← hL]
              exact ⟨j1, j2⟩
            · rw [if_neg (fun z => z j1), serE, if_pos (by omega)] at hL
              rw [← hL]
              exact ⟨Nat.one_ne_zero, j3⟩
        · rw [if_pos h7] at hL
          refine n_if_eq d_Md_readSeries_76 (by omega) (fun _ => ?_) (fun h9 => absurd h9 (by decide))
          refine tail _ M3 oneS R0.2.1 R0.2.2 kr3 c3 (by rw [g3.1 436 (by decide)]; exact s18) (by rw [g3.1 436 (by decide)]; exact s19) (by rw [g3.1 436 (by decide)]; exact s8) hK3 up3 (fun j hj => ⟨g3.2 j (by omega), by unfold oneS; split <;> decide⟩) (fun j hj => dv_one (rl j)) (fun j hj => rl j) (fun j h1 h2 => rzz j (by omega)) hL.symm
      · intro k M3 hk g3 ih
        refine r_iload_n d_Md_readSeries_35 rfl ?_
        refine r_bipush (v := nI 10) d_Md_readSeries_36 (by decide) ?_
        refine n_icmp_ge d_Md_readSeries_38 (by omega) (by omega) (fun h9 => absurd h9 (by omega)) (fun _ => ?_)
        refine r_aload_n d_Md_readSeries_41 rfl ?_
        refine g_getr (b := 444) d_Md_readSeries_42 f_Md_75 rfl rfl rfl ?_
        refine r_iload_n d_Md_readSeries_45 rfl ?_
        refine r_iload_n d_Md_readSeries_46 rfl ?_
        refine n_if_ne d_Md_readSeries_47 (by omega) (fun hc => ?_) (fun hc => ?_)
        · refine r_iconst (v := nI 0) d_Md_readSeries_54 (by decide) ?_
          refine g_iast d_Md_readSeries_55 rfl (by omega) (by omega) ?_
          refine n_iinc (c := 1) (L' := [some (.ref 436), some (.int (nI (k + 1)))]) d_Md_readSeries_56 rfl rfl (by decide) rfl ?_
          refine r_goto d_Md_readSeries_59 ?_
          refine ih _ ?_
          exact g3.up (v := 0) (by unfold oneS; rw [if_neg hc])
        · refine r_iconst (v := nI 1) d_Md_readSeries_50 (by decide) ?_
          refine r_goto d_Md_readSeries_51 ?_
          refine g_iast d_Md_readSeries_55 rfl (by omega) (by omega) ?_
          refine n_iinc (c := 1) (L' := [some (.ref 436), some (.int (nI (k + 1)))]) d_Md_readSeries_56 rfl rfl (by decide) rfl ?_
          refine r_goto d_Md_readSeries_59 ?_
          refine ih _ ?_
          exact g3.up (v := 1) (by unfold oneS; rw [if_pos hc])
    · refine n_if_ne d_Md_readSeries_28 (by omega) (fun h9 => absurd h9 (by decide)) (fun _ => ?_)
      refine r_iconst (v := nI 0) d_Md_readSeries_31 (by decide) ?_
      refine g_retz d_Md_readSeries_32 rfl (by decide) ?_
      refine ⟨kr2, Or.inr ⟨rfl, ?_⟩⟩
      rcases k2 with ⟨j1, j2⟩ | ⟨j1, j2, j3⟩
      · rw [if_pos j1] at hL
        rw [← hL]
        exact ⟨j1, j2⟩
      · rw [if_neg (fun z => z j1), if_pos (by omega), serE, if_pos (by omega)] at hL
        rw [← hL]
        exact ⟨Nat.one_ne_zero, j3⟩
  · rw [if_pos (by omega)] at hL
    refine r_aload_n d_Md_readSeries_9 rfl ?_
    refine r_iconst (v := nI 3) d_Md_readSeries_10 (by decide) ?_
    refine g_Vi (av := [.int (nI 3)]) d_Md_readSeries_11 k_Md_115 ws_Md_bad (by decide) rfl rfl (Nat.le_of_ble_eq_true rfl) rfl (c_Md_bad hK (Or.inl (by omega))) ?_
    rintro r M2 ⟨rfl, g3, g4⟩
    refine g_retz d_Md_readSeries_14 rfl (by decide) ?_
    refine ⟨g4.kr, Or.inr ⟨rfl, ?_⟩⟩
    rw [← hL]
    exact ⟨Nat.succ_ne_zero 2, g3⟩
theorem c_Md_readTable {s a b p : Nat} {C : Core} (hR : MTp M T w) (hK : TM M T w p) (h8 : tK T w p = 8) (hC : AM M 439 0 C) (hW : WC C) (hs : C 0 3 = s) (hs2 : 2 ≤ s ∧ s ≤ 10) (ha : a ≤ 6) (hb : b ≤ 4) (h18 : M 436 18 = nI a) (h19 : M 436 19 = nI b) : CI o l m_Md_readTable n [.ref 436] M (PTab M T w a b C p) := by
  refine ci_of rfl rfl rfl (Nat.le_of_ble_eq_true rfl) ?_
  generalize hL : tabL T w a b C p = Lr
  unfold tabL at hL
  unfold PTab
  rw [show tabL T w a b C p = Lr from by rw [← hL]; rfl]
  refine r_aload_n d_Md_readTable_0 rfl ?_
  refine g_geti d_Md_readTable_1 f_Md_137 rfl rfl ?_
  refine r_top (y := (nI b)) (h19) ?_
  refine r_iconst (v := nI 4) d_Md_readTable_4 (by decide) ?_
  refine n_icmp_ne d_Md_readTable_5 (by omega) (by omega) (fun h9 => ?_) (fun h9 => ?_)
  · rw [if_neg (by omega)] at hL
    have b4 : b < 4 := by omega
    refine r_aload_n d_Md_readTable_14 rfl ?_
    refine g_Vv (av := []) d_Md_readTable_15 k_Md_112 ws_Md_next (by decide) rfl rfl (Nat.le_of_ble_eq_true rfl) rfl (c_Md_step hR hK (by omega)) ?_
    rintro M1 ⟨g1, g2⟩
    have c1 : AM M1 439 0 C := hC.kept (g1.1 439 (by decide))
    have hR1 := hR.nf g1
    generalize tE T w p = p1 at *
    obtain ⟨a1, a2, k, e, a3, a4, a5, ⟨t1, t2, t3, t4, t5, t6, t7⟩, a7⟩ := id g2
    have u18 : M1 436 18 = nI a := by rw [g1.2 18 (by decide) (by decide) (by decide) (by decide)]; exact h18
    have u19 : M1 436 19 = nI b := by rw [g1.2 19 (by decide) (by decide) (by decide) (by decide)]; exact h19
    refine r_iconst (v := nI 0) d_Md_readTable_18 (by decide) ?_
    refine r_istore_n (L' := [some (.ref 436), some (.int (nI 0)), none, none, none]) d_Md_readTable_19 (by decide) rfl ?_
    refine r_iconst (v := nI 0) d_Md_readTable_20 (by decide) ?_
    refine r_istore_n (L' := [some (.ref 436), some (.int (nI 0)), some (.int (nI 0)), none, none]) d_Md_readTable_21 (by decide) rfl ?_
    refine r_iload_n d_Md_readTable_22 rfl ?_
    refine r_iconst (v := nI 2) d_Md_readTable_23 (by decide) ?_
    refine n_icmp_ge d_Md_readTable_24 (by omega) (by omega) (fun h9 => absurd h9 (by decide)) (fun _ => ?_)
    refine r_aload_n d_Md_readTable_27 rfl ?_
    refine g_geti d_Md_readTable_28 f_Md_27 rfl rfl ?_
    refine r_top (y := (nI k)) (a3) ?_
    refine r_iconst (v := nI 3) d_Md_readTable_31 (by decide) ?_
    refine n_icmp_eq d_Md_readTable_32 (by omega) (by omega) (fun hk => ?_) (fun hk => ?_)
    · have e2 := t3.mpr hk
      have v9 := tV_lt e2
      rw [if_neg (fun z => z e2)] at hL
      refine r_aload_n d_Md_readTable_41 rfl ?_
      refine g_geti d_Md_readTable_42 f_Md_37 rfl rfl ?_
      refine r_top (y := (nI (tV T w p1))) (a7 e2) ?_
      refine r_aload_n d_Md_readTable_45 rfl ?_
      refine g_geti d_Md_readTable_46 f_Md_122 rfl rfl ?_
      refine r_top (y := (nI a)) (u18) ?_
      refine n_icmp_lt d_Md_readTable_49 (by omega) (by omega) (fun hv => ?_) (fun hv => ?_)
      · rw [if_neg (by omega)] at hL
        generalize tV T w p1 = v1 at *
        refine r_iconst (v := nI 1) d_Md_readTable_58 (by decide) ?_
        refine r_bipush (v := nI 10) d_Md_readTable_59 (by decide) ?_
        refine r_aload_n d_Md_readTable_61 rfl ?_
        refine g_geti d_Md_readTable_62 f_Md_37 rfl rfl ?_
        refine r_top (y := (nI v1)) (a7 e2) ?_
        refine n_imul d_Md_readTable_65 ?_
        refine n_iadd d_Md_readTable_66 ?_
        refine r_istore_n (L' := [some (.ref 436), some (.int (nI 0)), some (.int (nI 0)), some (.int (nI (1 + (10 * v1)))), none]) d_Md_readTable_67 (by decide) rfl ?_
        refine r_iload_n d_Md_readTable_68 rfl ?_
        refine r_iconst (v := nI 1) d_Md_readTable_69 (by decide) ?_
        refine n_icmp_ne d_Md_readTable_70 (by omega) (by omega) (fun _ => ?_) (fun h9 => absurd h9 (by decide))
        refine r_iload_n d_Md_readTable_164 rfl ?_
        refine r_istore_n (L' := [some (.ref 436), some (.int (nI (1 + (10 * v1)))), some (.int (nI 0)), some (.int (nI (1 + (10 * v1)))), none]) d_Md_readTable_165 (by decide) rfl ?_
        refine r_aload_n d_Md_readTable_166 rfl ?_
        refine g_Vv (av := []) d_Md_readTable_167 k_Md_112 ws_Md_next (by decide) rfl rfl (Nat.le_of_ble_eq_true rfl) rfl (c_Md_step hR1 g2 (by omega)) ?_
        rintro M2 ⟨g3, g4⟩
        have c2 : AM M2 439 0 C := c1.kept (g3.1 439 (by decide))
        have hR2 := hR1.nf g3
        generalize tE T w p1 = p2 at *
        obtain ⟨d1, d2, k', e', d3, d4, d5, ⟨s1, s2, s3, s4, s5, s6, s7⟩, d7⟩ := id g4
        have w18 : M2 436 18 = nI a := by rw [g3.2 18 (by decide) (by decide) (by decide) (by decide)]; exact u18
        have w19 : M2 436 19 = nI b := by rw [g3.2 19 (by decide) (by decide) (by decide) (by decide)]; exact u19
        refine n_iinc (c := 1) (L' := [some (.ref 436), some (.int (nI (1 + (10 * v1)))), some (.int (nI 1)), some (.int (nI (1 + (10 * v1)))), none]) d_Md_readTable_170 rfl rfl (by decide) rfl ?_
        refine r_goto d_Md_readTable_173 ?_
        refine r_iload_n d_Md_readTable_22 rfl ?_
        refine r_iconst (v := nI 2) d_Md_readTable_23 (by decide) ?_
        refine n_icmp_ge d_Md_readTable_24 (by omega) (by omega) (fun h9 => absurd h9 (by decide)) (fun _ => ?_)
        refine r_aload_n d_Md_readTable_27 rfl ?_
        refine g_geti d_Md_readTable_28 f_Md_27 rfl rfl ?_
        refine r_top (y := (nI k')) (d3) ?_
        refine r_iconst (v := nI 3) d_Md_readTable_31 (by decide) ?_
        refine n_icmp_eq d_Md_readTable_32 (by omega) (by omega) (fun hk2 => ?_) (fun hk2 => ?_)
        · have e3 := s3.mpr hk2
          have v8 := tV_lt e3
          rw [if_neg (fun z => z e3)] at hL
          refine r_aload_n d_Md_readTable_41 rfl ?_
          refine g_geti d_Md_readTable_42 f_Md_37 rfl rfl ?_
          refine r_top (y := (nI (tV T w p2))) (d7 e3) ?_
          refine r_aload_n d_Md_readTable_45 rfl ?_
          refine g_geti d_Md_readTable_46 f_Md_122 rfl rfl ?_
          refine r_top (y := (nI a)) (w18) ?_
          refine n_icmp_lt d_Md_readTable_49 (by omega) (by omega) (fun hv2 => ?_) (fun hv2 => ?_)
          · rw [if_neg (by omega)] at hL
            generalize tV T w p2 = v2 at *
            have rd : ∀ v j, v < 6 → j < 10 → M2 439 (1 + 10 * v + j) = nI (C (2 + v) j) ∧ C (2 + v) j < 1000003 := fun v j hv hj => by
              have := c2 (1 + 10 * v + j) (by omega)
              rw [Nat.zero_add, nw_ser C hv hj] at this
              exact ⟨this, hW.2.1 _ (rx_s hv) j hj⟩
            refine r_iconst (v := nI 1) d_Md_readTable_58 (by decide) ?_
            refine r_bipush (v := nI 10) d_Md_readTable_59 (by decide) ?_
            refine r_aload_n d_Md_readTable_61 rfl ?_
            refine g_geti d_Md_readTable_62 f_Md_37 rfl rfl ?_
            refine r_top (y := (nI v2)) (d7 e3) ?_
            refine n_imul d_Md_readTable_65 ?_
            refine n_iadd d_Md_readTable_66 ?_
            refine r_istore_n (L' := [some (.ref 436), some (.int (nI (1 + (10 * v1)))), some (.int (nI 1)), some (.int (nI (1 + (10 * v2)))), none]) d_Md_readTable_67 (by decide) rfl ?_
            refine r_iload_n d_Md_readTable_68 rfl ?_
            refine r_iconst (v := nI 1) d_Md_readTable_69 (by decide) ?_
            refine n_icmp_ne d_Md_readTable_70 (by omega) (by omega) (fun h9 => absurd h9 (by decide)) (fun _ => ?_)
            refine r_aload_n d_Md_readTable_73 rfl ?_
            refine g_getr (b := 439) d_Md_readTable_74 f_Md_59 rfl rfl rfl ?_
            refine r_iload_n d_Md_readTable_77 rfl ?_
            refine r_iload_n d_Md_readTable_78 rfl ?_
            refine g_Si (av := [.ref 439, .int (nI (1 + (10 * v1))), .int (nI (1 + (10 * v2)))]) d_Md_readTable_79 k_Md_140 ws_Md_makesTable (by decide) rfl rfl (Nat.le_of_ble_eq_true rfl) (c_Md_makesTable (c := 439) (x0 := C (2 + v1) 0) (y0 := C (2 + v2) 0) (y1 := C (2 + v2) 1) rfl (by omega) (by omega) (rd v1 0 (by omega) (by decide)) (rd v2 0 (by omega) (by decide)) (rd v2 1 (by omega) (by decide))) ?_
            rintro r _ ⟨⟨rfl, hm⟩ | ⟨rfl, hm⟩, rfl⟩
            · rw [if_neg (fun z => z hm)] at hL
              refine n_if_ne d_Md_readTable_82 (by omega) (fun _ => ?_) (fun h9 => absurd h9 (by decide))
              refine r_iconst (v := nI 0) d_Md_readTable_91 (by decide) ?_
              refine r_istore (L' := [some (.ref 436), some (.int (nI (1 + (10 * v1)))), some (.int (nI 1)), some (.int (nI (1 + (10 * v2)))), some (.int (nI 0))]) d_Md_readTable_92 (by decide) rfl ?_
              refine lp (a := 0) (N := 10) (R := fun k9 M' => Rn o l m_Md_readTable (0, 0) 94 [some (.ref 436), some (.int (nI (1 + 10 * v1))), some (.int (nI 1)), some (.int (nI (1 + 10 * v2))), some (.int (nI k9))] [] (gh n M') (QI n (fun r M' => KRd M M' ∧ ((r = nI 1 ∧ b < 4 ∧ ∃ p3 g f, Lr = (if tK T w p3 ≠ 3 then (1, tQ T w p3, C, p) else (0, 0, tabC C b g f, tE T w p3)) ∧ WC (tabC C b g f) ∧ TM M' T w p3 ∧ AM M' 439 0 (tabC C b g f) ∧ M' 436 19 = nI (b + 1) ∧ M' 436 18 = M 436 18 ∧ M' 436 8 = M 436 8) ∨ (r = nI 0 ∧ Lr.1 ≠ 0 ∧ FLt M' Lr.1 Lr.2.1))))) (P := fun k9 M' => (∀ q, q ≠ 439 → M' q = M2 q) ∧ ∀ j, j < 241 → M' 439 j = if 61 + 20 * b ≤ j ∧ j < 61 + 20 * b + k9 then nI (C (2 + v1) (j - (61 + 20 * b))) else if 61 + 20 * b + 10 ≤ j ∧ j < 61 + 20 * b + 10 + k9 then nI (C (2 + v2) (j - (61 + 20 * b + 10))) else M2 439 j) (by omega) ?_ ?_ ?_
              · exact ⟨fun _ _ => rfl, fun j hj => by rw [if_neg (by omega), if_neg (by omega)]⟩
              · intro M3 f3
                have kr3 : KRd M M3 := (g1.kr.trans g3.kr).trans ⟨fun q _ b2 _ _ _ => f3.1 q b2, fun k _ _ _ => by rw [f3.1 436 (by decide)]⟩
                have hK3 : TM M3 T w p2 := g4.kept (fun k _ _ => by rw [f3.1 436 (by decide)])
                refine r_iload d_Md_readTable_94 rfl ?_
                refine r_bipush (v := nI 10) d_Md_readTable_96 (by decide) ?_
                refine n_icmp_ge d_Md_readTable_98 (by omega) (by omega) (fun _ => ?_) (fun h9 => absurd h9 (by omega))
                refine r_iload_n d_Md_readTable_164 rfl ?_
                refine r_istore_n (L' := [some (.ref 436), some (.int (nI (1 + 10 * v2))), some (.int (nI 1)), some (.int (nI (1 + 10 * v2))), some (.int (nI 10))]) d_Md_readTable_165 (by decide) rfl ?_
                refine r_aload_n d_Md_readTable_166 rfl ?_
                refine g_Vv (av := []) d_Md_readTable_167 k_Md_112 ws_Md_next (by decide) rfl rfl (Nat.le_of_ble_eq_true rfl) rfl (c_Md_step (hR.kr kr3) hK3 (by omega)) ?_
                rintro M4 ⟨g5, g6⟩
                have x19 : M4 436 19 = nI b := by rw [g5.2 19 (by decide) (by decide) (by decide) (by decide), f3.1 436 (by decide)]; exact w19
                refine n_iinc (c := 1) (L' := [some (.ref 436), some (.int (nI (1 + 10 * v2))), some (.int (nI 2)), some (.int (nI (1 + 10 * v2))), some (.int (nI 10))]) d_Md_readTable_170 rfl rfl (by decide) rfl ?_
                refine r_goto d_Md_readTable_173 ?_
                refine r_iload_n d_Md_readTable_22 rfl ?_
                refine r_iconst (v := nI 2) d_Md_readTable_23 (by decide) ?_
                refine n_icmp_ge d_Md_readTable_24 (by omega) (by omega) (fun _ => ?_) (fun h9 => absurd h9 (by decide))
                refine r_aload_n d_Md_readTable_176 rfl ?_
                refine r_dup d_Md_readTable_177 rfl ?_
                refine g_geti d_Md_readTable_178 f_Md_137 rfl rfl ?_
                refine r_top (y := (nI b)) (x19) ?_
                refine r_iconst (v := nI 1) d_Md_readTable_181 (by decide) ?_
                refine n_iadd d_Md_readTable_182 ?_
                refine g_puti d_Md_readTable_183 f_Md_137 ⟨rfl, rfl, rfl⟩ rfl ?_
                refine r_iconst (v := nI 1) d_Md_readTable_186 (by decide) ?_
                refine g_retz d_Md_readTable_187 rfl (by decide) ?_
                refine ⟨(kr3.trans g5.kr).up (by omega), Or.inl ⟨rfl, b4, tE T w p2, C (2 + v1), C (2 + v2), hL.symm, ?_, g6.kept (fun k _ _ => by rw [upm_at, if_neg (by omega)]), ?_, by rw [upm_at, if_pos rfl], ?_, ?_⟩⟩
                · exact hW.tab b4 (fun j hj => hW.2.1 _ (rx_s (by omega)) j hj) (fun j hj => hW.2.1 _ (rx_s (by omega)) j hj) (fun h j h1 h2 => hW.2.2.1 h _ (rx_s (by omega)) j h1 h2) (fun h j h1 h2 => hW.2.2.1 h _ (rx_s (by omega)) j h1 h2) hm
                · refine AM.kept (M := M4) (AM.kept (M := M3) (fun j hj => ?_) (g5.1 439 (by decide))) (upm_ne _ _ _ (by decide))
                  rw [Nat.zero_add, f3.2 j hj, nw_tab C b4 j hj]
                  by_cases e5 : 61 + 20 * b ≤ j ∧ j < 61 + 20 * b + 10
                  · rw [if_pos e5, if_pos e5]
                  · rw [if_neg e5, if_neg e5]
                    by_cases e6 : 61 + 20 * b + 10 ≤ j ∧ j < 61 + 20 * b + 20
                    · rw [if_pos (by omega), if_pos e6]
                    · rw [if_neg (by omega), if_neg e6]
                      have := c2 j hj
                      rwa [Nat.zero_add] at this
                · rw [upm_at, if_neg (by decide), g5.2 18 (by decide) (by decide) (by decide) (by decide), f3.1 436 (by decide), g3.2 18 (by decide) (by decide) (by decide) (by decide), g1.2 18 (by decide) (by decide) (by decide) (by decide)]
                · rw [upm_at, if_neg (by decide), g5.2 8 (by decide) (by decide) (by decide) (by decide), f3.1 436 (by decide), g3.2 8 (by decide) (by decide) (by decide) (by decide), g1.2 8 (by decide) (by decide) (by decide) (by decide)]
              · intro k9 M3 hk9 f3 ih
                have y19 : M3 436 19 = nI b := by rw [f3.1 436 (by decide)]; exact w19
                refine r_iload d_Md_readTable_94 rfl ?_
                refine r_bipush (v := nI 10) d_Md_readTable_96 (by decide) ?_
                refine n_icmp_ge d_Md_readTable_98 (by omega) (by omega) (fun h9 => absurd h9 (by omega)) (fun _ => ?_)
                refine r_aload_n d_Md_readTable_101 rfl ?_
                refine g_getr (b := 439) d_Md_readTable_102 f_Md_59 rfl rfl rfl ?_
                refine r_bipush (v := nI 61) d_Md_readTable_105 (by decide) ?_
                refine r_bipush (v := nI 20) d_Md_readTable_107 (by decide) ?_
                refine r_aload_n d_Md_readTable_109 rfl ?_
                refine g_geti d_Md_readTable_110 f_Md_137 rfl rfl ?_
                refine r_top (y := (nI b)) (y19) ?_
                refine n_imul d_Md_readTable_113 ?_
                refine n_iadd d_Md_readTable_114 ?_
                refine r_iload d_Md_readTable_115 rfl ?_
                refine n_iadd d_Md_readTable_117 ?_
                refine r_aload_n d_Md_readTable_118 rfl ?_
                refine g_getr (b := 439) d_Md_readTable_119 f_Md_59 rfl rfl rfl ?_
                refine r_iload_n d_Md_readTable_122 rfl ?_
                refine r_iload d_Md_readTable_123 rfl ?_
                refine n_iadd d_Md_readTable_125 ?_
                refine g_iald d_Md_readTable_126 rfl (by omega) (by omega) ?_
                refine r_top (y := nI (C (2 + v1) k9)) (by rw [f3.2 _ (by omega), if_neg (by omega), if_neg (by omega)]; exact (rd v1 k9 (by omega) (by omega)).1) ?_
                refine g_iast d_Md_readTable_127 rfl (by omega) (by omega) ?_
                generalize hM4 : upm M3 439 (61 + 20 * b + k9) (nI (C (2 + v1) k9)) = M4
                have f4 : ∀ q, q ≠ 439 → M4 q = M3 q := fun q hq => by rw [← hM4, upm_ne _ _ _ hq]
                have f5 : ∀ j, M4 439 j = if j = 61 + 20 * b + k9 then nI (C (2 + v1) k9) else M3 439 j := fun j => by rw [← hM4, upm_at]
                refine r_aload_n d_Md_readTable_128 rfl ?_
                refine g_getr (b := 439) d_Md_readTable_129 f_Md_59 rfl rfl rfl ?_
                refine r_bipush (v := nI 61) d_Md_readTable_132 (by decide) ?_
                refine r_bipush (v := nI 20) d_Md_readTable_134 (by decide) ?_
                refine r_aload_n d_Md_readTable_136 rfl ?_
                refine g_geti d_Md_readTable_137 f_Md_137 rfl rfl ?_
                refine r_top (y := (nI b)) (by rw [f4 436 (by decide)]; exact y19) ?_
                refine n_imul d_Md_readTable_140 ?_
                refine n_iadd d_Md_readTable_141 ?_
                refine r_bipush (v := nI 10) d_Md_readTable_142 (by decide) ?_
                refine n_iadd d_Md_readTable_144 ?_
                refine r_iload d_Md_readTable_145 rfl ?_
                refine n_iadd d_Md_readTable_147 ?_
                refine r_aload_n d_Md_readTable_148 rfl ?_
                refine g_getr (b := 439) d_Md_readTable_149 f_Md_59 rfl rfl rfl ?_
                refine r_iload_n d_Md_readTable_152 rfl ?_
                refine r_iload d_Md_readTable_153 rfl ?_
                refine n_iadd d_Md_readTable_155 ?_
                refine g_iald d_Md_readTable_156 rfl (by omega) (by omega) ?_
                refine r_top (y := nI (C (2 + v2) k9)) (by rw [f5, if_neg (by omega), f3.2 _ (by omega), if_neg (by omega), if_neg (by omega)]; exact (rd v2 k9 (by omega) (by omega)).1) ?_
                refine g_iast d_Md_readTable_157 rfl (by omega) (by omega) ?_
                refine n_iinc (c := 1) (L' := [some (.ref 436), some (.int (nI (1 + 10 * v1))), some (.int (nI 1)), some (.int (nI (1 + 10 * v2))), some (.int (nI (k9 + 1)))]) d_Md_readTable_158 rfl rfl (by decide) rfl ?_
                refine r_goto d_Md_readTable_161 ?_
                refine ih _ ?_
                refine ⟨fun q hq => by rw [upm_ne _ _ _ hq, f4 q hq]; exact f3.1 q hq, fun j hj => ?_⟩
                rw [upm_at, f5]
                by_cases e5 : j = 61 + 20 * b + 10 + k9
                · rw [if_pos e5, if_neg (by omega), if_pos (by omega), show j - (61 + 20 * b + 10) = k9 by omega]
                · rw [if_neg e5]
                  by_cases e6 : j = 61 + 20 * b + k9
                  · rw [if_pos e6, if_pos (by omega), show j - (61 + 20 * b) = k9 by omega]
                  · rw [if_neg e6, f3.2 j hj]
                    by_cases e7 : 61 + 20 * b ≤ j ∧ j < 61 + 20 * b + k9
                    · rw [if_pos e7, if_pos (by omega)]
                    · rw [if_neg e7, if_neg (show ¬ (61 + 20 * b ≤ j ∧ j < 61 + 20 * b + (k9 + 1)) by omega)]
                      by_cases e8 : 61 + 20 * b + 10 ≤ j ∧ j < 61 + 20 * b + 10 + k9
                      · rw [if_pos e8, if_pos (by omega)]
                      · rw [if_neg e8, if_neg (by omega)]
            · rw [if_pos hm] at hL
              refine n_if_ne d_Md_readTable_82 (by omega) (fun h9 => absurd h9 (by decide)) (fun _ => ?_)
              refine r_aload_n d_Md_readTable_85 rfl ?_
              refine r_iconst (v := nI 4) d_Md_readTable_86 (by decide) ?_
              refine g_Vi (av := [.int (nI 4)]) d_Md_readTable_87 k_Md_115 ws_Md_bad (by decide) rfl rfl (Nat.le_of_ble_eq_true rfl) rfl (c_Md_bad g4 (Or.inl (by omega))) ?_
              rintro r M3 ⟨rfl, g5, g6⟩
              refine g_retz d_Md_readTable_90 rfl (by decide) ?_
              refine ⟨(g1.kr.trans g3.kr).trans g6.kr, Or.inr ⟨rfl, ?_⟩⟩
              rw [← hL]
              exact ⟨Nat.succ_ne_zero 3, g5⟩
          · rw [if_pos hv2] at hL
            refine r_aload_n d_Md_readTable_52 rfl ?_
            refine r_iconst (v := nI 2) d_Md_readTable_53 (by decide) ?_
            refine g_Vi (av := [.int (nI 2)]) d_Md_readTable_54 k_Md_115 ws_Md_bad (by decide) rfl rfl (Nat.le_of_ble_eq_true rfl) rfl (c_Md_bad g4 (Or.inl (by omega))) ?_
            rintro r M3 ⟨rfl, g5, g6⟩
            refine g_retz d_Md_readTable_57 rfl (by decide) ?_
            refine ⟨(g1.kr.trans g3.kr).trans g6.kr, Or.inr ⟨rfl, ?_⟩⟩
            rw [← hL]
            exact ⟨Nat.succ_ne_zero 1, g5⟩
        · rw [if_pos (fun z => hk2 (s3.mp z))] at hL
          refine r_aload_n d_Md_readTable_35 rfl ?_
          refine r_iconst (v := nI 1) d_Md_readTable_36 (by decide) ?_
          refine g_Vi (av := [.int (nI 1)]) d_Md_readTable_37 k_Md_115 ws_Md_bad (by decide) rfl rfl (Nat.le_of_ble_eq_true rfl) rfl (c_Md_bad g4 (Or.inr rfl)) ?_
          rintro r M3 ⟨rfl, g5, g6⟩
          refine g_retz d_Md_readTable_40 rfl (by decide) ?_
          refine ⟨(g1.kr.trans g3.kr).trans g6.kr, Or.inr ⟨rfl, ?_⟩⟩
          rw [← hL]
          exact ⟨Nat.one_ne_zero, g5⟩
      · rw [if_pos hv] at hL
        refine r_aload_n d_Md_readTable_52 rfl ?_
        refine r_iconst (v := nI 2) d_Md_readTable_53 (by decide) ?_
        refine g_Vi (av := [.int (nI 2)]) d_Md_readTable_54 k_Md_115 ws_Md_bad (by decide) rfl rfl (Nat.le_of_ble_eq_true rfl) rfl (c_Md_bad g2 (Or.inl (by omega))) ?_
        rintro r M3 ⟨rfl, g5, g6⟩
        refine g_retz d_Md_readTable_57 rfl (by decide) ?_
        refine ⟨g1.kr.trans g6.kr, Or.inr ⟨rfl, ?_⟩⟩
        rw [← hL]
        exact ⟨Nat.succ_ne_zero 1, g5⟩
    · rw [if_pos (fun z => hk (t3.mp z))] at hL
      refine r_aload_n d_Md_readTable_35 rfl ?_
      refine r_iconst (v := nI 1) d_Md_readTable_36 (by decide) ?_
      refine g_Vi (av := [.int (nI 1)]) d_Md_readTable_37 k_Md_115 ws_Md_bad (by decide) rfl rfl (Nat.le_of_ble_eq_true rfl) rfl (c_Md_bad g2 (Or.inr rfl)) ?_
      rintro r M3 ⟨rfl, g5, g6⟩
      refine g_retz d_Md_readTable_40 rfl (by decide) ?_
      refine ⟨g1.kr.trans g6.kr, Or.inr ⟨rfl, ?_⟩⟩
      rw [← hL]
      exact ⟨Nat.one_ne_zero, g5⟩
  · rw [if_pos (by omega)] at hL
    refine r_aload_n d_Md_readTable_8 rfl ?_
    refine r_iconst (v := nI 3) d_Md_readTable_9 (by decide) ?_
    refine g_Vi (av := [.int (nI 3)]) d_Md_readTable_10 k_Md_115 ws_Md_bad (by decide) rfl rfl (Nat.le_of_ble_eq_true rfl) rfl (c_Md_bad hK (Or.inl (by omega))) ?_
    rintro r M2 ⟨rfl, g3, g4⟩
    refine g_retz d_Md_readTable_13 rfl (by decide) ?_
    refine ⟨g4.kr, Or.inr ⟨rfl, ?_⟩⟩
    rw [← hL]
    exact ⟨Nat.succ_ne_zero 2, g3⟩
end C69
