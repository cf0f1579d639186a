/-! The reference: the calls on tables -/
theorem mulG_0 {s : Nat} {sg sf tg : Nat → Nat} (hs : 1 ≤ s) : mulG s sg sf tg 0 = tg 0 * sg 0 % 1000003 := by
  unfold mulG
  rw [ml_t (by omega)]
  show (0 + hn tg sf s s 0 * sg 0) % 1000003 = _
  rw [Nat.zero_add, hn_0 hs]
theorem mulF_0 {s : Nat} {sf tf : Nat → Nat} (hs : 1 ≤ s) : mulF s sf tf 0 = tf 0 := hn_0 hs
theorem mulF_1 {s : Nat} {sf tf : Nat → Nat} (hs : 2 ≤ s) (hs2 : s ≤ 10) (s0 : sf 0 = 0) (ht : ∀ i, i < 10 → tf i < 1000003) : mulF s sf tf 1 = tf 1 * sf 1 % 1000003 := by
  refine Cg_nat (hn_lt ht hs2 s 1) (Nat.mod_lt _ (by decide)) ((mulF_cg s0 (by omega)).tr ?_)
  refine Cg.tr (Cg.of ?_) (Cg_md _).sy
  rw [Int.natCast_mul]
  show zz (fun k => zN tf k * zp (zN sf) k 1) 2 = _
  rw [zz, zz, zz]
  have e1 : zp (zN sf) 0 1 = 0 := rfl
  have e2 : zp (zN sf) 1 1 = (sf 1 : Int) := zm_z1 (zN sf) 1
  rw [e1, e2, Int.mul_zero, Int.add_zero, Int.zero_add]
  rfl
/-- a table's rows: residues, nothing beyond the size, what makes a table -/
def TOk (s : Nat) (g f : Nat → Nat) : Prop := (∀ i, i < 10 → g i < 1000003) ∧ (∀ i, i < 10 → f i < 1000003) ∧ 0 < g 0 ∧ f 0 = 0 ∧ 0 < f 1
def TZ (s : Nat) (g f : Nat → Nat) : Prop := (∀ j, s ≤ j → j < 10 → g j = 0) ∧ ∀ j, s ≤ j → j < 10 → f j = 0
theorem WS.tok {S : SS} (hW : WS S) {t : Nat} (ht : t < 4) : TOk (S.1 0 3) (S.1 (21 + 3 * t)) (S.1 (22 + 3 * t)) := ⟨fun i hi => hW.rlt (rx_g ht) hi, fun i hi => hW.rlt (rx_h ht) hi, Nat.pos_of_ne_zero (hW.1.2.2.2.1 t ht).1, (hW.1.2.2.2.1 t ht).2.1, Nat.pos_of_ne_zero (hW.1.2.2.2.1 t ht).2.2⟩
theorem WS.tz {S : SS} (hW : WS S) (h0 : 0 < S.1 0 3) {t : Nat} (ht : t < 4) : TZ (S.1 0 3) (S.1 (21 + 3 * t)) (S.1 (22 + 3 * t)) := ⟨fun j h1 h2 => hW.rz h0 (rx_g ht) h1 h2, fun j h1 h2 => hW.rz h0 (rx_h ht) h1 h2⟩
theorem ml_lt2 {s : Nat} {x y : Nat → Nat} {i : Nat} (h : x i < 1000003) : ml s x y i < 1000003 := ml_lt h
theorem TOk.mul {s : Nat} {sg sf tg tf : Nat → Nat} (hs : 2 ≤ s) (hs2 : s ≤ 10) (h : TOk s sg sf) (h2 : TOk s tg tf) : TOk s (mulG s sg sf tg) (mulF s sf tf) ∧ TZ s (mulG s sg sf tg) (mulF s sf tf) := by
  obtain ⟨a1, a2, a3, a4, a5⟩ := h
  obtain ⟨b1, b2, b3, b4, b5⟩ := h2
  refine ⟨⟨fun i hi => ml_lt (hn_lt b1 hs2 s i), fun i _ => hn_lt b2 hs2 s i, ?_, ?_, ?_⟩, fun j h1 _ => ?_, fun j h1 _ => hn_zero (by omega) h1⟩
  · rw [mulG_0 (by omega)]
    exact un_mul b3 (b1 0 (by decide)) a3 (a1 0 (by decide))
  · rw [mulF_0 (by omega)]
    exact b4
  · rw [mulF_1 hs hs2 a4 b2]
    exact un_mul b5 (b2 1 (by decide)) a5 (a2 1 (by decide))
  · unfold mulG
    rw [ml_f h1]
    exact hn_zero (by omega) h1
theorem TOk.inv {s : Nat} {g f : Nat → Nat} (hs : 2 ≤ s) (hs2 : s ≤ 10) (h : TOk s g f) : TOk s (invG s g f) (rvs f s) := by
  obtain ⟨a1, a2, a3, a4, a5⟩ := h
  refine ⟨fun i _ => dv_lt _ _ _, fun i _ => rvs_lt _ _ _, Nat.pos_of_ne_zero (fun z => ?_), rvs_0 f s, r_zs hs hs2 a4 a5 (a2 1 (by decide))⟩
  have e := mulG_inv hs hs2 a3 (a1 0 (by decide)) a4 a5 (a2 1 (by decide)) (show 0 < s by omega)
  rw [mulG_0 (by omega), z, Nat.zero_mul] at e
  exact absurd e (by decide)
theorem TOk.pwr {s : Nat} {g f : Nat → Nat} (hs : 2 ≤ s) (hs2 : s ≤ 10) (h : TOk s g f) (m : Nat) : TOk s (pwr s g f m).1 (pwr s g f m).2 ∧ TZ s (pwr s g f m).1 (pwr s g f m).2 := by
  induction m with
  | zero =>
    refine ⟨⟨fun i _ => ?_, fun i _ => ?_, show 0 < oneS 0 by decide, show tS 0 = 0 by decide, show 0 < tS 1 by decide⟩, fun j h1 _ => ?_, fun j h1 _ => ?_⟩
    · show oneS i < _
      unfold oneS
      split <;> decide
    · show tS i < _
      unfold tS
      split <;> decide
    · show oneS j = 0
      unfold oneS
      rw [if_neg (by omega)]
    · show tS j = 0
      unfold tS
      rw [if_neg (by omega)]
  | succ m ih => exact TOk.mul hs hs2 ih.1 h
/-- what stands in row i, column j -/
theorem TOk.mx {s : Nat} {g f : Nat → Nat} (hs : s ≤ 10) (h : TOk s g f) {i j : Nat} (hi : i < s) : cm s g f i j < 1000003 := col_lt (h.1 i (by omega)) j
section C76
variable {o : OM} {l : Launch} {n : Nat} {M : Mem} {S : SS}
theorem c_Md_comesAs {c t : Nat} {G F : Nat → Nat} (hW : WS S) (hX : MR M S) (h0 : 0 < S.1 0 3) (hc : gT c = (1, 100)) (hc2 : 448 ≤ c ∧ c < 452) (ht : t < 4) (hA : MX M c (S.1 0 3) (cm (S.1 0 3) G F)) (hT : TOk (S.1 0 3) G F) (hTz : TZ (S.1 0 3) G F) : CI o l m_Md_comesAs n [.ref 436, .ref c, .int (nI t)] M (PM M (lndT S t G F)) := by
  refine ci_of rfl rfl rfl (Nat.le_of_ble_eq_true rfl) ?_
  obtain ⟨z1, z2⟩ := hW.sz h0
  unfold lndT
  have hsz := hX.sz
  have wz : ∀ j, S.1 0 3 ≤ j → j < 10 → S.1 (21 + 3 * t) j = 0 ∧ S.1 (22 + 3 * t) j = 0 := fun j h1 h2 => ⟨hW.rz h0 (rx_g ht) h1 h2, hW.rz h0 (rx_h ht) h1 h2⟩
  generalize hS : S.1 0 3 = s at *
  refine r_iconst (v := nI 0) d_Md_comesAs_0 (by decide) ?_
  refine r_istore_n (L' := [some (.ref 436), some (.ref c), some (.int (nI t)), some (.int (nI 0))]) d_Md_comesAs_1 (by decide) rfl ?_
  refine lp (a := 0) (N := s) (R := fun i M' => Rn o l m_Md_comesAs (0, 0) 2 [some (.ref 436), some (.ref c), some (.int (nI t)), some (.int (nI i))] [] (gh n M') (QI n (PM M (nI (col s G F 1 (s - 1)), kp S (tabC S.1 t G F))))) (P := fun i M' => (∀ q, q ≠ 443 → q ≠ 444 → M' q = M q) ∧ ∀ j, j < i → M' 443 j = nI (cm s G F j 0) ∧ M' 444 j = nI (cm s G F j 1)) (by omega) ?_ ?_ ?_
  · exact ⟨fun _ _ _ => rfl, fun j hj => absurd hj (Nat.not_lt_zero j)⟩
  · intro M1 g1
    have w1 : WK M M1 := WK.of (fun b hb => g1.1 b (by omega) (by omega))
    refine r_iload_n d_Md_comesAs_2 rfl ?_
    refine r_aload_n d_Md_comesAs_3 rfl ?_
    refine g_Vi (av := []) d_Md_comesAs_4 k_Md_173 ws_Md_wide (by decide) rfl rfl (Nat.le_of_ble_eq_true rfl) rfl (c_Md_wide (w1.sz hsz)) ?_
    rintro _ _ ⟨rfl, rfl⟩
    refine n_icmp_ge d_Md_comesAs_7 (by omega) (by omega) (fun _ => ?_) (fun h9 => absurd h9 (by omega))
    refine r_aload_n d_Md_comesAs_42 rfl ?_
    refine g_getr (b := 444) d_Md_comesAs_43 f_Md_75 rfl rfl rfl ?_
    refine r_aload_n d_Md_comesAs_46 rfl ?_
    refine g_getr (b := 443) d_Md_comesAs_47 f_Md_72 rfl rfl rfl ?_
    refine r_aload_n d_Md_comesAs_50 rfl ?_
    refine g_getr (b := 445) d_Md_comesAs_51 f_Md_78 rfl rfl rfl ?_
    refine r_aload_n d_Md_comesAs_54 rfl ?_
    refine g_Vi (av := []) d_Md_comesAs_55 k_Md_173 ws_Md_wide (by decide) rfl rfl (Nat.le_of_ble_eq_true rfl) rfl (c_Md_wide (w1.sz hsz)) ?_
    rintro _ _ ⟨rfl, rfl⟩
    refine g_Sv (av := [.ref 444, .ref 443, .ref 445, .int (nI s)]) d_Md_comesAs_58 k_Md_133 ws_Md_divides (by decide) rfl rfl (Nat.le_of_ble_eq_true rfl) (c_Md_divides (a := 444) (b := 443) (c := 445) (x := fun k => cm s G F k 1) (y := fun k => cm s G F k 0) rfl rfl rfl (by decide) (by decide) (by omega) z2 (fun j hj => ⟨(g1.2 j hj).2, hT.mx z2 hj⟩) (fun j hj => ⟨(g1.2 j hj).1, hT.mx z2 hj⟩)) ?_
    rintro M2 g2
    have w2 : WK M M2 := w1.trans (WK.w g2 (by decide))
    have hX2 := w2.mr hX
    refine r_aload_n d_Md_comesAs_61 rfl ?_
    refine g_Vv (av := []) d_Md_comesAs_62 k_Md_177 ws_Md_snap (by decide) rfl rfl (Nat.le_of_ble_eq_true rfl) rfl (c_Md_snap hX2) ?_
    rintro M3 ⟨k1, k2, k3⟩
    have hz3 : M3 438 0 = nI s := by rw [k2 438 (by decide) (by decide)]; exact w2.sz hsz
    have up3 : ∀ j, j < s → M3 443 j = nI (G j) := fun j hj => by rw [k2 443 (by decide) (by decide), g2.1 443 (by decide)]; exact (g1.2 j hj).1
    have md3 : ∀ j, j < s → M3 445 j = nI (F j) := fun j hj => by rw [k2 445 (by decide) (by decide), g2.2 j hj, tab_of hT.2.2.1 (hT.1 0 (by decide)) (fun i hi => hT.2.1 i (by omega)) hj]
    refine r_iconst (v := nI 0) d_Md_comesAs_65 (by decide) ?_
    refine r_istore_n (L' := [some (.ref 436), some (.ref c), some (.int (nI t)), some (.int (nI 0))]) d_Md_comesAs_66 (by decide) rfl ?_
    refine lp (a := 0) (N := s) (R := fun i M' => Rn o l m_Md_comesAs (0, 0) 67 [some (.ref 436), some (.ref c), some (.int (nI t)), some (.int (nI i))] [] (gh n M') (QI n (PM M (nI (col s G F 1 (s - 1)), kp S (tabC S.1 t G F))))) (P := fun i M' => (∀ b, b ≠ 438 → M' b = M3 b) ∧ ∀ j, j < 241 → M' 438 j = if 61 + 20 * t ≤ j ∧ j < 61 + 20 * t + i then nI (G (j - (61 + 20 * t))) else if 61 + 20 * t + 10 ≤ j ∧ j < 61 + 20 * t + 10 + i then nI (F (j - (61 + 20 * t + 10))) else M3 438 j) (by omega) ?_ ?_ ?_
    · exact ⟨fun _ _ => rfl, fun j hj => by rw [if_neg (by omega), if_neg (by omega)]⟩
    · intro M4 f4
      have hz4 : M4 438 0 = nI s := by rw [f4.2 0 (by decide), if_neg (by omega), if_neg (by omega)]; exact hz3
      refine r_iload_n d_Md_comesAs_67 rfl ?_
      refine r_aload_n d_Md_comesAs_68 rfl ?_
      refine g_Vi (av := []) d_Md_comesAs_69 k_Md_173 ws_Md_wide (by decide) rfl rfl (Nat.le_of_ble_eq_true rfl) rfl (c_Md_wide (hz4)) ?_
      rintro _ _ ⟨rfl, rfl⟩
      refine n_icmp_ge d_Md_comesAs_72 (by omega) (by omega) (fun _ => ?_) (fun h9 => absurd h9 (by omega))
      refine r_aload_n d_Md_comesAs_124 rfl ?_
      refine r_bipush (v := nI 10) d_Md_comesAs_125 (by decide) ?_
      refine r_aload_n d_Md_comesAs_127 rfl ?_
      refine g_Vi (av := []) d_Md_comesAs_128 k_Md_173 ws_Md_wide (by decide) rfl rfl (Nat.le_of_ble_eq_true rfl) rfl (c_Md_wide (hz4)) ?_
      rintro _ _ ⟨rfl, rfl⟩
      refine r_iconst (v := nI 1) d_Md_comesAs_131 (by decide) ?_
      refine n_isub d_Md_comesAs_132 (by omega) ?_
      refine n_imul d_Md_comesAs_133 ?_
      refine r_iconst (v := nI 1) d_Md_comesAs_134 (by decide) ?_
      refine n_iadd d_Md_comesAs_135 ?_
      refine g_iald d_Md_comesAs_136 hc (by omega) (by omega) ?_
      refine r_top (y := nI (cm s G F (s - 1) 1)) (by rw [f4.1 c (by omega), k2 c (by omega) (by omega), g2.1 c (by omega), g1.1 c (by omega) (by omega)]; exact (hA (s - 1) 1 (by omega) (by omega)).1) ?_
      refine g_reti d_Md_comesAs_137 rfl ?_
      refine ⟨rfl, hX2.act (k1.kept (by rw [f4.1 436 (by decide)]) (f4.1 441 (by decide))) (fun j hj => ?_) (fun k hk => by rw [f4.1 436 (by decide)]; exact k3 k (by omega)) (fun b hb => by rw [f4.1 b (by omega)]; exact k2 b (by omega) (by omega)), w2.km.trans (fun b hb => by rw [f4.1 b (by omega)]; exact k2 b (by omega) (by omega))⟩
      rw [Nat.zero_add, f4.2 j hj, nw_tab S.1 ht j hj, k2 438 (by decide) (by decide), hX2.nw hj]
      by_cases e1 : 61 + 20 * t ≤ j ∧ j < 61 + 20 * t + s
      · rw [if_pos e1, if_pos (by omega)]
      · rw [if_neg e1]
        by_cases e2 : 61 + 20 * t ≤ j ∧ j < 61 + 20 * t + 10
        · rw [if_neg (by omega), if_pos e2]
          obtain ⟨i, rfl⟩ : ∃ i, j = 61 + 20 * t + i := ⟨j - (61 + 20 * t), by omega⟩
          rw [nw_g S.1 ht (by omega), (wz i (by omega) (by omega)).1, show 61 + 20 * t + i - (61 + 20 * t) = i by omega, hTz.1 i (by omega) (by omega)]
        · rw [if_neg e2]
          by_cases e3 : 61 + 20 * t + 10 ≤ j ∧ j < 61 + 20 * t + 10 + s
          · rw [if_pos e3, if_pos (by omega)]
          · rw [if_neg e3]
            by_cases e4 : 61 + 20 * t + 10 ≤ j ∧ j < 61 + 20 * t + 20
            · rw [if_pos e4]
              obtain ⟨i, rfl⟩ : ∃ i, j = 61 + 20 * t + 10 + i := ⟨j - (61 + 20 * t + 10), by omega⟩
              rw [nw_f S.1 ht (by omega), (wz i (by omega) (by omega)).2, show 61 + 20 * t + 10 + i - (61 + 20 * t + 10) = i by omega, hTz.2 i (by omega) (by omega)]
            · rw [if_neg e4]
    · intro i M4 hi f4 ih
      have hz4 : M4 438 0 = nI s := by rw [f4.2 0 (by decide), if_neg (by omega), if_neg (by omega)]; exact hz3
      refine r_iload_n d_Md_comesAs_67 rfl ?_
      refine r_aload_n d_Md_comesAs_68 rfl ?_
      refine g_Vi (av := []) d_Md_comesAs_69 k_Md_173 ws_Md_wide (by decide) rfl rfl (Nat.le_of_ble_eq_true rfl) rfl (c_Md_wide (hz4)) ?_
      rintro _ _ ⟨rfl, rfl⟩
      refine n_icmp_ge d_Md_comesAs_72 (by omega) (by omega) (fun h9 => absurd h9 (by omega)) (fun _ => ?_)
      refine r_aload_n d_Md_comesAs_75 rfl ?_
      refine g_getr (b := 438) d_Md_comesAs_76 f_Md_56 rfl rfl rfl ?_
      refine r_bipush (v := nI 61) d_Md_comesAs_79 (by decide) ?_
      refine r_bipush (v := nI 20) d_Md_comesAs_81 (by decide) ?_
      refine r_iload_n d_Md_comesAs_83 rfl ?_
      refine n_imul d_Md_comesAs_84 ?_
      refine n_iadd d_Md_comesAs_85 ?_
      refine r_iload_n d_Md_comesAs_86 rfl ?_
      refine n_iadd d_Md_comesAs_87 ?_
      refine r_aload_n d_Md_comesAs_88 rfl ?_
      refine g_getr (b := 443) d_Md_comesAs_89 f_Md_72 rfl rfl rfl ?_
      refine r_iload_n d_Md_comesAs_92 rfl ?_
      refine g_iald d_Md_comesAs_93 rfl (by omega) (by omega) ?_
      refine r_top (y := nI (G i)) (by rw [f4.1 443 (by decide)]; exact up3 i (by omega)) ?_
      refine g_iast d_Md_comesAs_94 rfl (by omega) (by omega) ?_
      refine r_aload_n d_Md_comesAs_95 rfl ?_
      refine g_getr (b := 438) d_Md_comesAs_96 f_Md_56 rfl rfl rfl ?_
      refine r_bipush (v := nI 61) d_Md_comesAs_99 (by decide) ?_
      refine r_bipush (v := nI 20) d_Md_comesAs_101 (by decide) ?_
      refine r_iload_n d_Md_comesAs_103 rfl ?_
      refine n_imul d_Md_comesAs_104 ?_
      refine n_iadd d_Md_comesAs_105 ?_
      refine r_bipush (v := nI 10) d_Md_comesAs_106 (by decide) ?_
      refine n_iadd d_Md_comesAs_108 ?_
      refine r_iload_n d_Md_comesAs_109 rfl ?_
      refine n_iadd d_Md_comesAs_110 ?_
      refine r_aload_n d_Md_comesAs_111 rfl ?_
      refine g_getr (b := 445) d_Md_comesAs_112 f_Md_78 rfl rfl rfl ?_
      refine r_iload_n d_Md_comesAs_115 rfl ?_
      refine g_iald d_Md_comesAs_116 rfl (by omega) (by omega) ?_
      refine r_top (y := nI (F i)) (by rw [upm_ne _ _ _ (by decide), f4.1 445 (by decide)]; exact md3 i (by omega)) ?_
      refine g_iast d_Md_comesAs_117 rfl (by omega) (by omega) ?_
      refine n_iinc (c := 1) (L' := [some (.ref 436), some (.ref c), some (.int (nI t)), some (.int (nI (i + 1)))]) d_Md_comesAs_118 rfl rfl (by decide) rfl ?_
      refine r_goto d_Md_comesAs_121 ?_
      refine ih _ ?_
      refine ⟨fun b hb => by rw [upm_ne _ _ _ hb, upm_ne _ _ _ hb]; exact f4.1 b hb, fun j hj => ?_⟩
      rw [upm_at, upm_at]
      by_cases e5 : j = 61 + 20 * t + 10 + i
      · rw [if_pos e5, if_neg (by omega), if_pos (by omega), show j - (61 + 20 * t + 10) = i by omega]
      · rw [if_neg e5]
        by_cases e6 : j = 61 + 20 * t + i
        · rw [if_pos e6, if_pos (by omega), show j - (61 + 20 * t) = i by omega]
        · rw [if_neg e6, f4.2 j hj]
          by_cases e7 : 61 + 20 * t ≤ j ∧ j < 61 + 20 * t + i
          · rw [if_pos e7, if_pos (by omega)]
          · rw [if_neg e7, if_neg (show ¬ (61 + 20 * t ≤ j ∧ j < 61 + 20 * t + (i + 1)) by omega)]
            by_cases e8 : 61 + 20 * t + 10 ≤ j ∧ j < 61 + 20 * t + 10 + i
            · rw [if_pos e8, if_pos (by omega)]
            · rw [if_neg e8, if_neg (by omega)]
  · intro i M1 hi g1 ih
    have w1 : WK M M1 := WK.of (fun b hb => g1.1 b (by omega) (by omega))
    refine r_iload_n d_Md_comesAs_2 rfl ?_
    refine r_aload_n d_Md_comesAs_3 rfl ?_
    refine g_Vi (av := []) d_Md_comesAs_4 k_Md_173 ws_Md_wide (by decide) rfl rfl (Nat.le_of_ble_eq_true rfl) rfl (c_Md_wide (w1.sz hsz)) ?_
    rintro _ _ ⟨rfl, rfl⟩
    refine n_icmp_ge d_Md_comesAs_7 (by omega) (by omega) (fun h9 => absurd h9 (by omega)) (fun _ => ?_)
    refine r_aload_n d_Md_comesAs_10 rfl ?_
    refine g_getr (b := 443) d_Md_comesAs_11 f_Md_72 rfl rfl rfl ?_
    refine r_iload_n d_Md_comesAs_14 rfl ?_
    refine r_aload_n d_Md_comesAs_15 rfl ?_
    refine r_bipush (v := nI 10) d_Md_comesAs_16 (by decide) ?_
    refine r_iload_n d_Md_comesAs_18 rfl ?_
    refine n_imul d_Md_comesAs_19 ?_
    refine g_iald d_Md_comesAs_20 hc (by omega) (by omega) ?_
    refine r_top (y := nI (cm s G F i 0)) (by rw [g1.1 c (by omega) (by omega)]; exact (hA i 0 (by omega) (by omega)).1) ?_
    refine g_iast d_Md_comesAs_21 rfl (by omega) (by omega) ?_
    refine r_aload_n d_Md_comesAs_22 rfl ?_
    refine g_getr (b := 444) d_Md_comesAs_23 f_Md_75 rfl rfl rfl ?_
    refine r_iload_n d_Md_comesAs_26 rfl ?_
    refine r_aload_n d_Md_comesAs_27 rfl ?_
    refine r_bipush (v := nI 10) d_Md_comesAs_28 (by decide) ?_
    refine r_iload_n d_Md_comesAs_30 rfl ?_
    refine n_imul d_Md_comesAs_31 ?_
    refine r_iconst (v := nI 1) d_Md_comesAs_32 (by decide) ?_
    refine n_iadd d_Md_comesAs_33 ?_
    refine g_iald d_Md_comesAs_34 hc (by omega) (by omega) ?_
    refine r_top (y := nI (cm s G F i 1)) (by rw [upm_ne _ _ _ (by omega), g1.1 c (by omega) (by omega)]; exact (hA i 1 (by omega) (by omega)).1) ?_
    refine g_iast d_Md_comesAs_35 rfl (by omega) (by omega) ?_
    refine n_iinc (c := 1) (L' := [some (.ref 436), some (.ref c), some (.int (nI t)), some (.int (nI (i + 1)))]) d_Md_comesAs_36 rfl rfl (by decide) rfl ?_
    refine r_goto d_Md_comesAs_39 ?_
    refine ih _ ?_
    refine ⟨fun b b1 b2 => by rw [upm_ne _ _ _ b2, upm_ne _ _ _ b1]; exact g1.1 b b1 b2, fun j hj => ?_⟩
    rw [upm_ne (upm M1 443 i _) _ _ (show 443 ≠ 444 by decide), upm_at, upm_at, upm_ne _ _ _ (by decide)]
    by_cases e : j = i
    · rw [if_pos e, if_pos e, e]
      exact ⟨rfl, rfl⟩
    · rw [if_neg e, if_neg e]
      exact g1.2 j (by omega)
theorem c_Md_pair {g f to : Int32} (hW : WS S) (hX : MR M S) : CI o l m_Md_pair n [.ref 436, .int g, .int f, .int to] M (PM M (f_pair S g f to)) := by
  refine ci_of rfl rfl rfl (Nat.le_of_ble_eq_true rfl) ?_
  have hs10 := hW.sz10
  refine r_aload_n d_Md_pair_0 rfl ?_
  refine r_iconst (v := nI 0) d_Md_pair_1 (by decide) ?_
  refine g_puti d_Md_pair_2 f_Md_1 ⟨rfl, rfl, rfl⟩ rfl ?_
  obtain ⟨M0, e0, hk0, hX0, -⟩ := hX.m0
  rw [e0]
  refine r_aload_n d_Md_pair_5 rfl ?_
  refine r_iload_n d_Md_pair_6 rfl ?_
  by_cases hg1 : okS S g
  case neg =>
    refine g_Vi (av := [.int g]) d_Md_pair_7 k_Md_180 ws_Md_isSeries (by decide) rfl rfl (Nat.le_of_ble_eq_true rfl) rfl (c_Md_isSeries_f hW hX0 hg1) ?_
    rintro _ _ ⟨rfl, rfl⟩
    refine n_if_eq d_Md_pair_10 (by omega) (fun _ => ?_) (fun h9 => absurd h9 (by decide))
    refine r_iconst (v := -1) d_Md_pair_51 (by decide) ?_
    refine g_reti d_Md_pair_52 rfl ?_
    exact PM.no hX0 hk0 (fun q9 => hg1 q9.1)
  refine g_Vi (av := [.int g]) d_Md_pair_7 k_Md_180 ws_Md_isSeries (by decide) rfl rfl (Nat.le_of_ble_eq_true rfl) rfl (c_Md_isSeries_t hW hX0 hg1) ?_
  rintro _ _ ⟨rfl, rfl⟩
  refine n_if_eq d_Md_pair_10 (by omega) (fun h9 => absurd h9 (by decide)) (fun _ => ?_)
  refine r_aload_n d_Md_pair_13 rfl ?_
  refine r_iload_n d_Md_pair_14 rfl ?_
  by_cases hg2 : okS S f
  case neg =>
    refine g_Vi (av := [.int f]) d_Md_pair_15 k_Md_180 ws_Md_isSeries (by decide) rfl rfl (Nat.le_of_ble_eq_true rfl) rfl (c_Md_isSeries_f hW hX0 hg2) ?_
    rintro _ _ ⟨rfl, rfl⟩
    refine n_if_eq d_Md_pair_18 (by omega) (fun _ => ?_) (fun h9 => absurd h9 (by decide))
    refine r_iconst (v := -1) d_Md_pair_51 (by decide) ?_
    refine g_reti d_Md_pair_52 rfl ?_
    exact PM.no hX0 hk0 (fun q9 => hg2 q9.2.1)
  refine g_Vi (av := [.int f]) d_Md_pair_15 k_Md_180 ws_Md_isSeries (by decide) rfl rfl (Nat.le_of_ble_eq_true rfl) rfl (c_Md_isSeries_t hW hX0 hg2) ?_
  rintro _ _ ⟨rfl, rfl⟩
  refine n_if_eq d_Md_pair_18 (by omega) (fun h9 => absurd h9 (by decide)) (fun _ => ?_)
  refine r_aload_n d_Md_pair_21 rfl ?_
  refine r_iload_n d_Md_pair_22 rfl ?_
  by_cases hg3 : okT S to
  case neg =>
    refine g_Vi (av := [.int to]) d_Md_pair_23 k_Md_218 ws_Md_isTable (by decide) rfl rfl (Nat.le_of_ble_eq_true rfl) rfl (c_Md_isTable_f hW hX0 hg3) ?_
    rintro _ _ ⟨rfl, rfl⟩
    refine n_if_eq d_Md_pair_26 (by omega) (fun _ => ?_) (fun h9 => absurd h9 (by decide))
    refine r_iconst (v := -1) d_Md_pair_51 (by decide) ?_
    refine g_reti d_Md_pair_52 rfl ?_
    exact PM.no hX0 hk0 (fun q9 => hg3 q9.2.2.1)
  refine g_Vi (av := [.int to]) d_Md_pair_23 k_Md_218 ws_Md_isTable (by decide) rfl rfl (Nat.le_of_ble_eq_true rfl) rfl (c_Md_isTable_t hW hX0 hg3) ?_
  rintro _ _ ⟨rfl, rfl⟩
  refine n_if_eq d_Md_pair_26 (by omega) (fun h9 => absurd h9 (by decide)) (fun _ => ?_)
  have q1 := hg1
  have q2 := hg2
  have q3 := hg3
  rw [f_pair]
  obtain ⟨h0, ha1, ha2⟩ := hg1
  obtain ⟨_, hb1, hb2⟩ := hg2
  obtain ⟨_, ht1, ht2⟩ := hg3
  obtain ⟨z1, z2⟩ := hW.sz h0
  generalize ix g = a' at *
  subst ha2
  generalize ix f = b' at *
  subst hb2
  generalize ix to = t' at *
  subst ht2
  refine r_aload_n d_Md_pair_29 rfl ?_
  refine g_getr (b := 438) d_Md_pair_30 f_Md_56 rfl rfl rfl ?_
  refine r_iconst (v := nI 1) d_Md_pair_33 (by decide) ?_
  refine r_bipush (v := nI 10) d_Md_pair_34 (by decide) ?_
  refine r_iload_n d_Md_pair_36 rfl ?_
  refine n_imul d_Md_pair_37 ?_
  refine n_iadd d_Md_pair_38 ?_
  refine r_iconst (v := nI 1) d_Md_pair_39 (by decide) ?_
  refine r_bipush (v := nI 10) d_Md_pair_40 (by decide) ?_
  refine r_iload_n d_Md_pair_42 rfl ?_
  refine n_imul d_Md_pair_43 ?_
  refine n_iadd d_Md_pair_44 ?_
  refine g_Si (av := [.ref 438, .int (nI (1 + (10 * a'))), .int (nI (1 + (10 * b')))]) d_Md_pair_45 k_Md_140 ws_Md_makesTable (by decide) rfl rfl (Nat.le_of_ble_eq_true rfl) (c_Md_makesTable (c := 438) (x0 := S.1 (2 + a') 0) (y0 := S.1 (2 + b') 0) (y1 := S.1 (2 + b') 1) rfl (by omega) (by omega) ⟨hX0.ser ha1 (j := 0) (by decide), hW.rlt (rx_s ha1) (by decide)⟩ ⟨hX0.ser hb1 (j := 0) (by decide), hW.rlt (rx_s hb1) (by decide)⟩ ⟨hX0.ser hb1 (j := 1) (by decide), hW.rlt (rx_s hb1) (by decide)⟩) ?_
  rintro r _ ⟨⟨rfl, hm⟩ | ⟨rfl, hm⟩, rfl⟩
  · rw [ic_t ⟨q1, q2, q3, hm⟩]
    refine n_if_ne d_Md_pair_48 (by omega) (fun _ => ?_) (fun h9 => absurd h9 (by decide))
    refine r_aload_n d_Md_pair_53 rfl ?_
    refine r_iconst (v := nI 1) d_Md_pair_54 (by decide) ?_
    refine r_bipush (v := nI 10) d_Md_pair_55 (by decide) ?_
    refine r_iload_n d_Md_pair_57 rfl ?_
    refine n_imul d_Md_pair_58 ?_
    refine n_iadd d_Md_pair_59 ?_
    refine r_aload_n d_Md_pair_60 rfl ?_
    refine g_getr (b := 443) d_Md_pair_61 f_Md_72 rfl rfl rfl ?_
    refine g_Vv (av := [.int (nI (1 + (10 * a'))), .ref 443]) d_Md_pair_64 k_Md_189 ws_Md_takes (by decide) rfl rfl (Nat.le_of_ble_eq_true rfl) rfl (c_Md_tser (c := 443) hW hX0 h0 rfl (by decide) ha1) ?_
    rintro M1 ⟨w1, g1, g2⟩
    refine r_aload_n d_Md_pair_67 rfl ?_
    refine r_iconst (v := nI 1) d_Md_pair_68 (by decide) ?_
    refine r_bipush (v := nI 10) d_Md_pair_69 (by decide) ?_
    refine r_iload_n d_Md_pair_71 rfl ?_
    refine n_imul d_Md_pair_72 ?_
    refine n_iadd d_Md_pair_73 ?_
    refine r_aload_n d_Md_pair_74 rfl ?_
    refine g_getr (b := 444) d_Md_pair_75 f_Md_75 rfl rfl rfl ?_
    refine g_Vv (av := [.int (nI (1 + (10 * b'))), .ref 444]) d_Md_pair_78 k_Md_189 ws_Md_takes (by decide) rfl rfl (Nat.le_of_ble_eq_true rfl) rfl (c_Md_tser (c := 444) hW (w1.mr hX0) h0 rfl (by decide) hb1) ?_
    rintro M2 ⟨w2, g3, g4⟩
    have wk := w1.trans w2
    refine r_aload_n d_Md_pair_81 rfl ?_
    refine r_aload_n d_Md_pair_82 rfl ?_
    refine g_getr (b := 443) d_Md_pair_83 f_Md_72 rfl rfl rfl ?_
    refine r_aload_n d_Md_pair_86 rfl ?_
    refine g_getr (b := 444) d_Md_pair_87 f_Md_75 rfl rfl rfl ?_
    refine r_aload_n d_Md_pair_90 rfl ?_
    refine g_getr (b := 448) d_Md_pair_91 f_Md_87 rfl rfl rfl ?_
    refine g_Vv (av := [.ref 443, .ref 444, .ref 448]) d_Md_pair_94 k_Md_196 ws_Md_columns (by decide) rfl rfl (Nat.le_of_ble_eq_true rfl) rfl (c_Md_columns (c := 448) rfl rfl rfl (by decide) ⟨by decide, by decide, by decide⟩ (by decide) hs10 (wk.sz hX0.sz) (g2.kept (g3 443 (by decide))) (g4.le hs10)) ?_
    rintro M3 ⟨g5, g6⟩
    have w3 : WK M0 M3 := wk.trans (WK.of (fun b hb => g5 b (by omega) (by omega) (by omega)))
    refine r_aload_n d_Md_pair_97 rfl ?_
    refine r_aload_n d_Md_pair_98 rfl ?_
    refine g_getr (b := 448) d_Md_pair_99 f_Md_87 rfl rfl rfl ?_
    refine r_iload_n d_Md_pair_102 rfl ?_
    refine g_Vi (av := [.ref 448, .int (nI t')]) d_Md_pair_103 k_Md_221 ws_Md_comesAs (by decide) rfl rfl (Nat.le_of_ble_eq_true rfl) rfl (c_Md_comesAs hW (w3.mr hX0) h0 rfl (by decide) ht1 g6 ⟨fun i hi => hW.rlt (rx_s ha1) hi, fun i hi => hW.rlt (rx_s hb1) hi, Nat.pos_of_ne_zero hm.1, hm.2.1, Nat.pos_of_ne_zero hm.2.2⟩ ⟨fun j h1 h2 => hW.rz h0 (rx_s ha1) h1 h2, fun j h1 h2 => hW.rz h0 (rx_s hb1) h1 h2⟩) ?_
    rintro r M4 k4
    refine g_reti d_Md_pair_106 rfl ?_
    exact PM.of (hk0.trans w3.km) k4
  · refine n_if_ne d_Md_pair_48 (by omega) (fun h9 => absurd h9 (by decide)) (fun _ => ?_)
    refine r_iconst (v := -1) d_Md_pair_51 (by decide) ?_
    refine g_reti d_Md_pair_52 rfl ?_
    exact PM.no hX0 hk0 (fun z => hm z.2.2.2)
theorem wk_mx {c : Nat} {M1 : Mem} (hc : 443 ≤ c ∧ c < 453) (g : ∀ q, q ≠ 443 → q ≠ 444 → q ≠ 446 → q ≠ 447 → q ≠ c → M1 q = M q) : WK M M1 := WK.of (fun b hb => g b (by omega) (by omega) (by omega) (by omega) (by omega))
theorem c_Md_times {s t to : Int32} (hW : WS S) (hX : MR M S) : CI o l m_Md_times n [.ref 436, .int s, .int t, .int to] M (PM M (f_times S s t to)) := by
  refine ci_of rfl rfl rfl (Nat.le_of_ble_eq_true rfl) ?_
  have hs10 := hW.sz10
  refine r_aload_n d_Md_times_0 rfl ?_
  refine r_iconst (v := nI 0) d_Md_times_1 (by decide) ?_
  refine g_puti d_Md_times_2 f_Md_1 ⟨rfl, rfl, rfl⟩ rfl ?_
  obtain ⟨M0, e0, hk0, hX0, -⟩ := hX.m0
  rw [e0]
  refine r_aload_n d_Md_times_5 rfl ?_
  refine r_iload_n d_Md_times_6 rfl ?_
  by_cases hg1 : okT S s
  case neg =>
    refine g_Vi (av := [.int s]) d_Md_times_7 k_Md_218 ws_Md_isTable (by decide) rfl rfl (Nat.le_of_ble_eq_true rfl) rfl (c_Md_isTable_f hW hX0 hg1) ?_
    rintro _ _ ⟨rfl, rfl⟩
    refine n_if_eq d_Md_times_10 (by omega) (fun _ => ?_) (fun h9 => absurd h9 (by decide))
    refine r_iconst (v := -1) d_Md_times_29 (by decide) ?_
    refine g_reti d_Md_times_30 rfl ?_
    exact PM.no hX0 hk0 (fun q9 => hg1 q9.1)
  refine g_Vi (av := [.int s]) d_Md_times_7 k_Md_218 ws_Md_isTable (by decide) rfl rfl (Nat.le_of_ble_eq_true rfl) rfl (c_Md_isTable_t hW hX0 hg1) ?_
  rintro _ _ ⟨rfl, rfl⟩
  refine n_if_eq d_Md_times_10 (by omega) (fun h9 => absurd h9 (by decide)) (fun _ => ?_)
  refine r_aload_n d_Md_times_13 rfl ?_
  refine r_iload_n d_Md_times_14 rfl ?_
  by_cases hg2 : okT S t
  case neg =>
    refine g_Vi (av := [.int t]) d_Md_times_15 k_Md_218 ws_Md_isTable (by decide) rfl rfl (Nat.le_of_ble_eq_true rfl) rfl (c_Md_isTable_f hW hX0 hg2) ?_
    rintro _ _ ⟨rfl, rfl⟩
    refine n_if_eq d_Md_times_18 (by omega) (fun _ => ?_) (fun h9 => absurd h9 (by decide))
    refine r_iconst (v := -1) d_Md_times_29 (by decide) ?_
    refine g_reti d_Md_times_30 rfl ?_
    exact PM.no hX0 hk0 (fun q9 => hg2 q9.2.1)
  refine g_Vi (av := [.int t]) d_Md_times_15 k_Md_218 ws_Md_isTable (by decide) rfl rfl (Nat.le_of_ble_eq_true rfl) rfl (c_Md_isTable_t hW hX0 hg2) ?_
  rintro _ _ ⟨rfl, rfl⟩
  refine n_if_eq d_Md_times_18 (by omega) (fun h9 => absurd h9 (by decide)) (fun _ => ?_)
  refine r_aload_n d_Md_times_21 rfl ?_
  refine r_iload_n d_Md_times_22 rfl ?_
  by_cases hg3 : okT S to
  case neg =>
    refine g_Vi (av := [.int to]) d_Md_times_23 k_Md_218 ws_Md_isTable (by decide) rfl rfl (Nat.le_of_ble_eq_true rfl) rfl (c_Md_isTable_f hW hX0 hg3) ?_
    rintro _ _ ⟨rfl, rfl⟩
    refine n_if_ne d_Md_times_26 (by omega) (fun h9 => absurd h9 (by decide)) (fun _ => ?_)
    refine r_iconst (v := -1) d_Md_times_29 (by decide) ?_
    refine g_reti d_Md_times_30 rfl ?_
    exact PM.no hX0 hk0 (fun q9 => hg3 q9.2.2)
  refine g_Vi (av := [.int to]) d_Md_times_23 k_Md_218 ws_Md_isTable (by decide) rfl rfl (Nat.le_of_ble_eq_true rfl) rfl (c_Md_isTable_t hW hX0 hg3) ?_
  rintro _ _ ⟨rfl, rfl⟩
  refine n_if_ne d_Md_times_26 (by omega) (fun _ => ?_) (fun h9 => absurd h9 (by decide))
  rw [f_times, ic_t ⟨hg1, hg2, hg3⟩]
  unfold gOf fOf
  obtain ⟨h0, ha1, ha2⟩ := hg1
  obtain ⟨_, hb1, hb2⟩ := hg2
  obtain ⟨_, ht1, ht2⟩ := hg3
  obtain ⟨z1, z2⟩ := hW.sz h0
  generalize ix s = a' at *
  subst ha2
  generalize ix t = b' at *
  subst hb2
  generalize ix to = t' at *
  subst ht2
  refine r_aload_n d_Md_times_31 rfl ?_
  refine r_iload_n d_Md_times_32 rfl ?_
  refine r_aload_n d_Md_times_33 rfl ?_
  refine g_getr (b := 448) d_Md_times_34 f_Md_87 rfl rfl rfl ?_
  refine g_Vv (av := [.int (nI a'), .ref 448]) d_Md_times_37 k_Md_228 ws_Md_matrix (by decide) rfl rfl (Nat.le_of_ble_eq_true rfl) rfl (c_Md_matrix (c := 448) hW hX0 h0 rfl (by decide) ha1) ?_
  rintro M1 ⟨g1, g2, g3, g4⟩
  have w1 : WK M0 M1 := wk_mx (by decide) g1
  refine r_aload_n d_Md_times_40 rfl ?_
  refine r_iload_n d_Md_times_41 rfl ?_
  refine r_aload_n d_Md_times_42 rfl ?_
  refine g_getr (b := 449) d_Md_times_43 f_Md_90 rfl rfl rfl ?_
  refine g_Vv (av := [.int (nI b'), .ref 449]) d_Md_times_46 k_Md_228 ws_Md_matrix (by decide) rfl rfl (Nat.le_of_ble_eq_true rfl) rfl (c_Md_matrix (c := 449) hW (w1.mr hX0) h0 rfl (by decide) hb1) ?_
  rintro M2 ⟨g5, g6, g7, g8⟩
  have w2 : WK M0 M2 := w1.trans (wk_mx (by decide) g5)
  refine r_aload_n d_Md_times_49 rfl ?_
  refine g_getr (b := 448) d_Md_times_50 f_Md_87 rfl rfl rfl ?_
  refine r_aload_n d_Md_times_53 rfl ?_
  refine g_getr (b := 449) d_Md_times_54 f_Md_90 rfl rfl rfl ?_
  refine r_aload_n d_Md_times_57 rfl ?_
  refine g_getr (b := 450) d_Md_times_58 f_Md_93 rfl rfl rfl ?_
  refine r_aload_n d_Md_times_61 rfl ?_
  refine g_Vi (av := []) d_Md_times_62 k_Md_173 ws_Md_wide (by decide) rfl rfl (Nat.le_of_ble_eq_true rfl) rfl (c_Md_wide (w2.sz hX0.sz)) ?_
  rintro _ _ ⟨rfl, rfl⟩
  refine g_Sv (av := [.ref 448, .ref 449, .ref 450, .int (nI (S.1 0 3))]) d_Md_times_65 k_Md_231 ws_Md_product (by decide) rfl rfl (Nat.le_of_ble_eq_true rfl) (c_Md_product (a := 448) (b := 449) (c := 450) rfl rfl rfl (by decide) (by decide) hs10 (g2.kept (g5 448 (by decide) (by decide) (by decide) (by decide) (by decide))) g6) ?_
  rintro M3 ⟨g9, g10⟩
  have w3 : WK M0 M3 := w2.trans (WK.of (fun b hb => g9 b (by omega)))
  have T1 := hW.tok ha1
  have T2 := hW.tok hb1
  have T3 := TOk.mul z1 z2 T1 T2
  refine r_aload_n d_Md_times_68 rfl ?_
  refine r_aload_n d_Md_times_69 rfl ?_
  refine g_getr (b := 450) d_Md_times_70 f_Md_93 rfl rfl rfl ?_
  refine r_iload_n d_Md_times_73 rfl ?_
  refine g_Vi (av := [.ref 450, .int (nI t')]) d_Md_times_74 k_Md_221 ws_Md_comesAs (by decide) rfl rfl (Nat.le_of_ble_eq_true rfl) rfl (c_Md_comesAs hW (w3.mr hX0) h0 rfl (by decide) ht1 (g10.to (fun i j hi hj => pm_mul T1.2.2.2.1 T2.2.2.2.1 hi hj)) T3.1 T3.2) ?_
  rintro r M4 k4
  refine g_reti d_Md_times_77 rfl ?_
  exact PM.of (hk0.trans w3.km) k4
theorem c_Md_apply {t s to : Int32} (hW : WS S) (hX : MR M S) : CI o l m_Md_apply n [.ref 436, .int t, .int s, .int to] M (PM M (f_apply S t s to)) := by
  refine ci_of rfl rfl rfl (Nat.le_of_ble_eq_true rfl) ?_
  have hs10 := hW.sz10
  refine r_aload_n d_Md_apply_0 rfl ?_
  refine r_iconst (v := nI 0) d_Md_apply_1 (by decide) ?_
  refine g_puti d_Md_apply_2 f_Md_1 ⟨rfl, rfl, rfl⟩ rfl ?_
  obtain ⟨M0, e0, hk0, hX0, -⟩ := hX.m0
  rw [e0]
  refine r_aload_n d_Md_apply_5 rfl ?_
  refine r_iload_n d_Md_apply_6 rfl ?_
  by_cases hg1 : okT S t
  case neg =>
    refine g_Vi (av := [.int t]) d_Md_apply_7 k_Md_218 ws_Md_isTable (by decide) rfl rfl (Nat.le_of_ble_eq_true rfl) rfl (c_Md_isTable_f hW hX0 hg1) ?_
    rintro _ _ ⟨rfl, rfl⟩
    refine n_if_eq d_Md_apply_10 (by omega) (fun _ => ?_) (fun h9 => absurd h9 (by decide))
    refine r_iconst (v := -1) d_Md_apply_29 (by decide) ?_
    refine g_reti d_Md_apply_30 rfl ?_
    exact PM.no hX0 hk0 (fun q9 => hg1 q9.1)
  refine g_Vi (av := [.int t]) d_Md_apply_7 k_Md_218 ws_Md_isTable (by decide) rfl rfl (Nat.le_of_ble_eq_true rfl) rfl (c_Md_isTable_t hW hX0 hg1) ?_
  rintro _ _ ⟨rfl, rfl⟩
  refine n_if_eq d_Md_apply_10 (by omega) (fun h9 => absurd h9 (by decide)) (fun _ => ?_)
  refine r_aload_n d_Md_apply_13 rfl ?_
  refine r_iload_n d_Md_apply_14 rfl ?_
  by_cases hg2 : okS S s
  case neg =>
    refine g_Vi (av := [.int s]) d_Md_apply_15 k_Md_180 ws_Md_isSeries (by decide) rfl rfl (Nat.le_of_ble_eq_true rfl) rfl (c_Md_isSeries_f hW hX0 hg2) ?_
    rintro _ _ ⟨rfl, rfl⟩
    refine n_if_eq d_Md_apply_18 (by omega) (fun _ => ?_) (fun h9 => absurd h9 (by decide))
    refine r_iconst (v := -1) d_Md_apply_29 (by decide) ?_
    refine g_reti d_Md_apply_30 rfl ?_
    exact PM.no hX0 hk0 (fun q9 => hg2 q9.2.1)
  refine g_Vi (av := [.int s]) d_Md_apply_15 k_Md_180 ws_Md_isSeries (by decide) rfl rfl (Nat.le_of_ble_eq_true rfl) rfl (c_Md_isSeries_t hW hX0 hg2) ?_
  rintro _ _ ⟨rfl, rfl⟩
  refine n_if_eq d_Md_apply_18 (by omega) (fun h9 => absurd h9 (by decide)) (fun _ => ?_)
  refine r_aload_n d_Md_apply_21 rfl ?_
  refine r_iload_n d_Md_apply_22 rfl ?_
  by_cases hg3 : okS S to
  case neg =>
    refine g_Vi (av := [.int to]) d_Md_apply_23 k_Md_180 ws_Md_isSeries (by decide) rfl rfl (Nat.le_of_ble_eq_true rfl) rfl (c_Md_isSeries_f hW hX0 hg3) ?_
    rintro _ _ ⟨rfl, rfl⟩
    refine n_if_ne d_Md_apply_26 (by omega) (fun h9 => absurd h9 (by decide)) (fun _ => ?_)
    refine r_iconst (v := -1) d_Md_apply_29 (by decide) ?_
    refine g_reti d_Md_apply_30 rfl ?_
    exact PM.no hX0 hk0 (fun q9 => hg3 q9.2.2)
  refine g_Vi (av := [.int to]) d_Md_apply_23 k_Md_180 ws_Md_isSeries (by decide) rfl rfl (Nat.le_of_ble_eq_true rfl) rfl (c_Md_isSeries_t hW hX0 hg3) ?_
  rintro _ _ ⟨rfl, rfl⟩
  refine n_if_ne d_Md_apply_26 (by omega) (fun _ => ?_) (fun h9 => absurd h9 (by decide))
  rw [f_apply, ic_t ⟨hg1, hg2, hg3⟩]
  unfold gOf fOf
  obtain ⟨h0, ha1, ha2⟩ := hg1
  obtain ⟨_, hb1, hb2⟩ := hg2
  obtain ⟨_, ht1, ht2⟩ := hg3
  obtain ⟨z1, z2⟩ := hW.sz h0
  generalize ix t = a' at *
  subst ha2
  generalize ix s = b' at *
  subst hb2
  generalize ix to = t' at *
  subst ht2
  refine r_aload_n d_Md_apply_31 rfl ?_
  refine r_iload_n d_Md_apply_32 rfl ?_
  refine r_aload_n d_Md_apply_33 rfl ?_
  refine g_getr (b := 448) d_Md_apply_34 f_Md_87 rfl rfl rfl ?_
  refine g_Vv (av := [.int (nI a'), .ref 448]) d_Md_apply_37 k_Md_228 ws_Md_matrix (by decide) rfl rfl (Nat.le_of_ble_eq_true rfl) rfl (c_Md_matrix (c := 448) hW hX0 h0 rfl (by decide) ha1) ?_
  rintro M1 ⟨g1, g2, g3, g4⟩
  have w1 : WK M0 M1 := wk_mx (by decide) g1
  refine r_aload_n d_Md_apply_40 rfl ?_
  refine r_iconst (v := nI 1) d_Md_apply_41 (by decide) ?_
  refine r_bipush (v := nI 10) d_Md_apply_42 (by decide) ?_
  refine r_iload_n d_Md_apply_44 rfl ?_
  refine n_imul d_Md_apply_45 ?_
  refine n_iadd d_Md_apply_46 ?_
  refine r_aload_n d_Md_apply_47 rfl ?_
  refine g_getr (b := 443) d_Md_apply_48 f_Md_72 rfl rfl rfl ?_
  refine g_Vv (av := [.int (nI (1 + (10 * b'))), .ref 443]) d_Md_apply_51 k_Md_189 ws_Md_takes (by decide) rfl rfl (Nat.le_of_ble_eq_true rfl) rfl (c_Md_tser (c := 443) hW (w1.mr hX0) h0 rfl (by decide) hb1) ?_
  rintro M2 ⟨w2, g5, g6⟩
  have w2 := w1.trans w2
  refine r_aload_n d_Md_apply_54 rfl ?_
  refine r_aload_n d_Md_apply_55 rfl ?_
  refine g_getr (b := 448) d_Md_apply_56 f_Md_87 rfl rfl rfl ?_
  refine r_aload_n d_Md_apply_59 rfl ?_
  refine g_getr (b := 443) d_Md_apply_60 f_Md_72 rfl rfl rfl ?_
  refine r_aload_n d_Md_apply_63 rfl ?_
  refine g_getr (b := 445) d_Md_apply_64 f_Md_78 rfl rfl rfl ?_
  refine g_Vv (av := [.ref 448, .ref 443, .ref 445]) d_Md_apply_67 k_Md_200 ws_Md_makes (by decide) rfl rfl (Nat.le_of_ble_eq_true rfl) rfl (c_Md_makes (a := 448) (b := 443) (c := 445) rfl rfl rfl (by decide) (by decide) hs10 (w2.sz hX0.sz) (by decide) (g2.kept (g5 448 (by decide))) (g6.le hs10)) ?_
  rintro M3 g7
  have w3 : WK M0 M3 := w2.trans (WK.w g7 (by decide))
  have T1 := hW.tok ha1
  refine r_aload_n d_Md_apply_70 rfl ?_
  refine r_aload_n d_Md_apply_71 rfl ?_
  refine g_getr (b := 445) d_Md_apply_72 f_Md_78 rfl rfl rfl ?_
  refine r_iload_n d_Md_apply_75 rfl ?_
  refine r_aload_n d_Md_apply_76 rfl ?_
  refine g_Vi (av := []) d_Md_apply_77 k_Md_173 ws_Md_wide (by decide) rfl rfl (Nat.le_of_ble_eq_true rfl) rfl (c_Md_wide (w3.sz hX0.sz)) ?_
  rintro _ _ ⟨rfl, rfl⟩
  refine r_iconst (v := nI 1) d_Md_apply_80 (by decide) ?_
  refine n_isub d_Md_apply_81 (by omega) ?_
  refine g_Vi (av := [.ref 445, .int (nI t'), .int (nI ((S.1 0 3) - 1))]) d_Md_apply_82 k_Md_203 ws_Md_comes (by decide) rfl rfl (Nat.le_of_ble_eq_true rfl) rfl (c_Md_comes (w := mulG (S.1 0 3) (S.1 (21 + 3 * a')) (S.1 (22 + 3 * a')) (S.1 (2 + b'))) hW (w3.mr hX0) rfl (by decide) ht1 (by omega) (fun j hj => by rw [g7.2 j hj, mk_mul T1.2.2.2.1 hj])) ?_
  rintro r M4 k4
  refine g_reti d_Md_apply_85 rfl ?_
  exact PM.of (hk0.trans w3.km) k4
theorem c_Md_fails {t a b : Int32} (hW : WS S) (hX : MR M S) : CI o l m_Md_fails n [.ref 436, .int t, .int a, .int b] M (PM M (f_fails S t a b)) := by
  refine ci_of rfl rfl rfl (Nat.le_of_ble_eq_true rfl) ?_
  have hs10 := hW.sz10
  refine r_aload_n d_Md_fails_0 rfl ?_
  refine r_iconst (v := nI 0) d_Md_fails_1 (by decide) ?_
  refine g_puti d_Md_fails_2 f_Md_1 ⟨rfl, rfl, rfl⟩ rfl ?_
  obtain ⟨M0, e0, hk0, hX0, -⟩ := hX.m0
  rw [e0]
  refine r_aload_n d_Md_fails_5 rfl ?_
  refine r_iload_n d_Md_fails_6 rfl ?_
  by_cases hg1 : okT S t
  case neg =>
    refine g_Vi (av := [.int t]) d_Md_fails_7 k_Md_218 ws_Md_isTable (by decide) rfl rfl (Nat.le_of_ble_eq_true rfl) rfl (c_Md_isTable_f hW hX0 hg1) ?_
    rintro _ _ ⟨rfl, rfl⟩
    refine n_if_eq d_Md_fails_10 (by omega) (fun _ => ?_) (fun h9 => absurd h9 (by decide))
    refine r_iconst (v := -1) d_Md_fails_29 (by decide) ?_
    refine g_reti d_Md_fails_30 rfl ?_
    exact PM.no hX0 hk0 (fun q9 => hg1 q9.1)
  refine g_Vi (av := [.int t]) d_Md_fails_7 k_Md_218 ws_Md_isTable (by decide) rfl rfl (Nat.le_of_ble_eq_true rfl) rfl (c_Md_isTable_t hW hX0 hg1) ?_
  rintro _ _ ⟨rfl, rfl⟩
  refine n_if_eq d_Md_fails_10 (by omega) (fun h9 => absurd h9 (by decide)) (fun _ => ?_)
  refine r_aload_n d_Md_fails_13 rfl ?_
  refine r_iload_n d_Md_fails_14 rfl ?_
  by_cases hg2 : okS S a
  case neg =>
    refine g_Vi (av := [.int a]) d_Md_fails_15 k_Md_180 ws_Md_isSeries (by decide) rfl rfl (Nat.le_of_ble_eq_true rfl) rfl (c_Md_isSeries_f hW hX0 hg2) ?_
    rintro _ _ ⟨rfl, rfl⟩
    refine n_if_eq d_Md_fails_18 (by omega) (fun _ => ?_) (fun h9 => absurd h9 (by decide))
    refine r_iconst (v := -1) d_Md_fails_29 (by decide) ?_
    refine g_reti d_Md_fails_30 rfl ?_
    exact PM.no hX0 hk0 (fun q9 => hg2 q9.2.1)
  refine g_Vi (av := [.int a]) d_Md_fails_15 k_Md_180 ws_Md_isSeries (by decide) rfl rfl (Nat.le_of_ble_eq_true rfl) rfl (c_Md_isSeries_t hW hX0 hg2) ?_
  rintro _ _ ⟨rfl, rfl⟩
  refine n_if_eq d_Md_fails_18 (by omega) (fun h9 => absurd h9 (by decide)) (fun _ => ?_)
  refine r_aload_n d_Md_fails_21 rfl ?_
  refine r_iload_n d_Md_fails_22 rfl ?_
  by_cases hg3 : okS S b
  case neg =>
    refine g_Vi (av := [.int b]) d_Md_fails_23 k_Md_180 ws_Md_isSeries (by decide) rfl rfl (Nat.le_of_ble_eq_true rfl) rfl (c_Md_isSeries_f hW hX0 hg3) ?_
    rintro _ _ ⟨rfl, rfl⟩
    refine n_if_ne d_Md_fails_26 (by omega) (fun h9 => absurd h9 (by decide)) (fun _ => ?_)
    refine r_iconst (v := -1) d_Md_fails_29 (by decide) ?_
    refine g_reti d_Md_fails_30 rfl ?_
    exact PM.no hX0 hk0 (fun q9 => hg3 q9.2.2)
  refine g_Vi (av := [.int b]) d_Md_fails_23 k_Md_180 ws_Md_isSeries (by decide) rfl rfl (Nat.le_of_ble_eq_true rfl) rfl (c_Md_isSeries_t hW hX0 hg3) ?_
  rintro _ _ ⟨rfl, rfl⟩
  refine n_if_ne d_Md_fails_26 (by omega) (fun _ => ?_) (fun h9 => absurd h9 (by decide))
  rw [f_fails, ic_t ⟨hg1, hg2, hg3⟩]
  unfold gOf fOf
  obtain ⟨h0, ha1, ha2⟩ := hg1
  obtain ⟨_, hb1, hb2⟩ := hg2
  obtain ⟨_, ht1, ht2⟩ := hg3
  obtain ⟨z1, z2⟩ := hW.sz h0
  generalize ix t = a' at *
  subst ha2
  generalize ix a = b' at *
  subst hb2
  generalize ix b = t' at *
  subst ht2
  refine r_aload_n d_Md_fails_31 rfl ?_
  refine r_iload_n d_Md_fails_32 rfl ?_
  refine r_aload_n d_Md_fails_33 rfl ?_
  refine g_getr (b := 448) d_Md_fails_34 f_Md_87 rfl rfl rfl ?_
  refine g_Vv (av := [.int (nI a'), .ref 448]) d_Md_fails_37 k_Md_228 ws_Md_matrix (by decide) rfl rfl (Nat.le_of_ble_eq_true rfl) rfl (c_Md_matrix (c := 448) hW hX0 h0 rfl (by decide) ha1) ?_
  rintro M1 ⟨g1, g2, g3, g4⟩
  have w1 : WK M0 M1 := wk_mx (by decide) g1
  refine r_aload_n d_Md_fails_40 rfl ?_
  refine r_iconst (v := nI 1) d_Md_fails_41 (by decide) ?_
  refine r_bipush (v := nI 10) d_Md_fails_42 (by decide) ?_
  refine r_iload_n d_Md_fails_44 rfl ?_
  refine n_imul d_Md_fails_45 ?_
  refine n_iadd d_Md_fails_46 ?_
  refine r_aload_n d_Md_fails_47 rfl ?_
  refine g_getr (b := 443) d_Md_fails_48 f_Md_72 rfl rfl rfl ?_
  refine g_Vv (av := [.int (nI (1 + (10 * b'))), .ref 443]) d_Md_fails_51 k_Md_189 ws_Md_takes (by decide) rfl rfl (Nat.le_of_ble_eq_true rfl) rfl (c_Md_tser (c := 443) hW (w1.mr hX0) h0 rfl (by decide) hb1) ?_
  rintro M2 ⟨w2, g5, g6⟩
  have w2 := w1.trans w2
  refine r_aload_n d_Md_fails_54 rfl ?_
  refine r_aload_n d_Md_fails_55 rfl ?_
  refine g_getr (b := 448) d_Md_fails_56 f_Md_87 rfl rfl rfl ?_
  refine r_aload_n d_Md_fails_59 rfl ?_
  refine g_getr (b := 443) d_Md_fails_60 f_Md_72 rfl rfl rfl ?_
  refine r_aload_n d_Md_fails_63 rfl ?_
  refine g_getr (b := 445) d_Md_fails_64 f_Md_78 rfl rfl rfl ?_
  refine g_Vv (av := [.ref 448, .ref 443, .ref 445]) d_Md_fails_67 k_Md_200 ws_Md_makes (by decide) rfl rfl (Nat.le_of_ble_eq_true rfl) rfl (c_Md_makes (a := 448) (b := 443) (c := 445) rfl rfl rfl (by decide) (by decide) hs10 (w2.sz hX0.sz) (by decide) (g2.kept (g5 448 (by decide))) (g6.le hs10)) ?_
  rintro M3 g7
  have w3 : WK M0 M3 := w2.trans (WK.w g7 (by decide))
  have hX3 := w3.mr hX0
  have T1 := hW.tok ha1
  have md : ∀ j, j < S.1 0 3 → M3 445 j = nI (mulG (S.1 0 3) (S.1 (21 + 3 * a')) (S.1 (22 + 3 * a')) (S.1 (2 + b')) j) := fun j hj => by rw [g7.2 j hj, mk_mul T1.2.2.2.1 hj]
  have ml9 : ∀ j, j < S.1 0 3 → mulG (S.1 0 3) (S.1 (21 + 3 * a')) (S.1 (22 + 3 * a')) (S.1 (2 + b')) j < 1000003 := fun j hj => mulG_lt hj
  generalize mulG (S.1 0 3) (S.1 (21 + 3 * a')) (S.1 (22 + 3 * a')) (S.1 (2 + b')) = v at *
  refine r_iconst (v := nI 0) d_Md_fails_70 (by decide) ?_
  refine r_istore (L' := [some (.ref 436), some (.int (nI a')), some (.int (nI b')), some (.int (nI t')), some (.int (nI 0))]) d_Md_fails_71 (by decide) rfl ?_
  refine lp (a := 0) (N := S.1 0 3) (R := fun k M' => Rn o l m_Md_fails (0, 0) 73 [some (.ref 436), some (.int (nI a')), some (.int (nI b')), some (.int (nI t')), some (.int (nI k))] [] (gh n M') (QI n (PM M (f1v (S.1 0 3) (fun i => v i ≠ S.1 (2 + t') i), S)))) (P := fun k M' => M' = M3 ∧ ∀ i, i < k → ¬ (v i ≠ S.1 (2 + t') i)) (by omega) ?_ ?_ ?_
  · exact ⟨rfl, fun i hi => absurd hi (Nat.not_lt_zero i)⟩
  · rintro _ ⟨rfl, h1⟩
    refine r_iload d_Md_fails_73 rfl ?_
    refine r_aload_n d_Md_fails_75 rfl ?_
    refine g_Vi (av := []) d_Md_fails_76 k_Md_173 ws_Md_wide (by decide) rfl rfl (Nat.le_of_ble_eq_true rfl) rfl (c_Md_wide (hX3.sz)) ?_
    rintro _ _ ⟨rfl, rfl⟩
    refine n_icmp_ge d_Md_fails_79 (by omega) (by omega) (fun _ => ?_) (fun h9 => absurd h9 (by omega))
    refine r_iconst (v := -1) d_Md_fails_115 (by decide) ?_
    refine g_reti d_Md_fails_116 rfl ?_
    exact ⟨F1_eq (Or.inr ⟨rfl, h1⟩), hX3, hk0.trans w3.km⟩
  · rintro k _ hk ⟨rfl, h1⟩ ih
    have b9 := hW.rlt (rx_s ht1) (j := k) (by omega)
    have v9 := ml9 k hk.2
    refine r_iload d_Md_fails_73 rfl ?_
    refine r_aload_n d_Md_fails_75 rfl ?_
    refine g_Vi (av := []) d_Md_fails_76 k_Md_173 ws_Md_wide (by decide) rfl rfl (Nat.le_of_ble_eq_true rfl) rfl (c_Md_wide (hX3.sz)) ?_
    rintro _ _ ⟨rfl, rfl⟩
    refine n_icmp_ge d_Md_fails_79 (by omega) (by omega) (fun h9 => absurd h9 (by omega)) (fun _ => ?_)
    refine r_aload_n d_Md_fails_82 rfl ?_
    refine g_getr (b := 445) d_Md_fails_83 f_Md_78 rfl rfl rfl ?_
    refine r_iload d_Md_fails_86 rfl ?_
    refine g_iald d_Md_fails_88 rfl (by omega) (by omega) ?_
    refine r_top (y := nI (v k)) (md k hk.2) ?_
    refine r_aload_n d_Md_fails_89 rfl ?_
    refine g_getr (b := 438) d_Md_fails_90 f_Md_56 rfl rfl rfl ?_
    refine r_iconst (v := nI 1) d_Md_fails_93 (by decide) ?_
    refine r_bipush (v := nI 10) d_Md_fails_94 (by decide) ?_
    refine r_iload_n d_Md_fails_96 rfl ?_
    refine n_imul d_Md_fails_97 ?_
    refine n_iadd d_Md_fails_98 ?_
    refine r_iload d_Md_fails_99 rfl ?_
    refine n_iadd d_Md_fails_101 ?_
    refine g_iald d_Md_fails_102 rfl (by omega) (by omega) ?_
    refine r_top (y := nI (S.1 (2 + t') k)) (hX3.ser ht1 (by omega)) ?_
    refine n_icmp_eq d_Md_fails_103 (by have h9 := v9; omega) (by have h9 := b9; omega) (fun hc => ?_) (fun hc => ?_)
    · refine n_iinc (c := 1) (L' := [some (.ref 436), some (.int (nI a')), some (.int (nI b')), some (.int (nI t')), some (.int (nI (k + 1)))]) d_Md_fails_109 rfl rfl (by decide) rfl ?_
      refine r_goto d_Md_fails_112 ?_
      refine ih _ ?_
      refine ⟨rfl, fun i hi => ?_⟩
      by_cases e : i = k
      · rw [e]; exact fun z => z hc
      · exact h1 i (by omega)
    · refine r_iload d_Md_fails_106 rfl ?_
      refine g_reti d_Md_fails_108 rfl ?_
      exact ⟨F1_eq (Or.inl ⟨k, hk.2, hc, rfl, h1⟩), hX3, hk0.trans w3.km⟩
end C76
