section C70
variable {o : OM} {l : Launch} {n : Nat} {M : Mem} {T : Nat → Nat} {w : Nat}
theorem c_Md_readLine0 {p : Nat} (hR : MTp M T w) (hK : TM M T w p) (hC : AM M 439 0 C0) : CI o l m_Md_readLine n [.ref 436] M (fun r M' => KRd M M' ∧ ((r = nI 1 ∧ sizL T w p = (if tK T w (tE T w (tE T w p)) ≠ 3 then (1, tQ T w (tE T w (tE T w p)), 0, p) else (0, 0, tV T w (tE T w p), tE T w (tE T w (tE T w p)))) ∧ 2 ≤ tV T w (tE T w p) ∧ tV T w (tE T w p) ≤ 10 ∧ TM M' T w (tE T w (tE T w p)) ∧ AM M' 439 0 (szC (tV T w (tE T w p))) ∧ ∀ k, (k = 8 ∨ k = 18 ∨ k = 19) → M' 436 k = M 436 k) ∨ (r = nI 0 ∧ (sizL T w p).1 ≠ 0 ∧ FLt M' (sizL T w p).1 (sizL T w p).2.1))) := by
  refine ci_of rfl rfl rfl (Nat.le_of_ble_eq_true rfl) ?_
  refine r_aload_n d_Md_readLine_0 rfl ?_
  refine g_getr (b := 439) d_Md_readLine_1 f_Md_59 rfl rfl rfl ?_
  refine r_iconst (v := nI 0) d_Md_readLine_4 (by decide) ?_
  refine g_iald d_Md_readLine_5 rfl (by omega) (by omega) ?_
  refine r_top (y := nI 0) (hC 0 (by decide)) ?_
  refine n_if_ne d_Md_readLine_6 (by omega) (fun h9 => absurd h9 (by decide)) (fun _ => ?_)
  refine r_aload_n d_Md_readLine_9 rfl ?_
  refine r_bipush (v := nI 115) d_Md_readLine_10 (by decide) ?_
  refine r_bipush (v := nI 105) d_Md_readLine_12 (by decide) ?_
  refine r_bipush (v := nI 122) d_Md_readLine_14 (by decide) ?_
  refine r_bipush (v := nI 101) d_Md_readLine_16 (by decide) ?_
  refine r_iconst (v := nI 0) d_Md_readLine_18 (by decide) ?_
  refine r_iconst (v := nI 0) d_Md_readLine_19 (by decide) ?_
  refine g_Vi (av := [.int (nI 115), .int (nI 105), .int (nI 122), .int (nI 101), .int (nI 0), .int (nI 0)]) d_Md_readLine_20 k_Md_129 ws_Md_isWord (by decide) rfl rfl (Nat.le_of_ble_eq_true rfl) rfl (c_Md_isWord_0 hR hK) ?_
  rintro r _ ⟨⟨rfl, h5⟩ | ⟨rfl, h5⟩, rfl⟩
  · refine n_if_eq d_Md_readLine_23 (by omega) (fun h9 => absurd h9 (by decide)) (fun _ => ?_)
    refine r_aload_n d_Md_readLine_26 rfl ?_
    refine g_Vi (av := []) d_Md_readLine_27 k_Md_144 ws_Md_readSize (by decide) rfl rfl (Nat.le_of_ble_eq_true rfl) rfl (c_Md_readSize hR hK h5 hC) ?_
    rintro r M1 k1
    refine r_goto d_Md_readLine_30 ?_
    refine g_retz d_Md_readLine_38 rfl (by rcases k1.2 with k | k <;> (rw [k.1]; decide)) ?_
    exact k1
  · refine n_if_eq d_Md_readLine_23 (by omega) (fun _ => ?_) (fun h9 => absurd h9 (by decide))
    refine r_aload_n d_Md_readLine_33 rfl ?_
    refine r_iconst (v := nI 1) d_Md_readLine_34 (by decide) ?_
    refine g_Vi (av := [.int (nI 1)]) d_Md_readLine_35 k_Md_115 ws_Md_bad (by decide) rfl rfl (Nat.le_of_ble_eq_true rfl) rfl (c_Md_bad hK (Or.inr rfl)) ?_
    rintro r M1 ⟨rfl, g3, g4⟩
    refine g_retz d_Md_readLine_38 rfl (by decide) ?_
    refine ⟨g4.kr, Or.inr ⟨rfl, ?_⟩⟩
    unfold sizL
    rw [if_pos h5]
    exact ⟨Nat.one_ne_zero, g3⟩
theorem c_Md_readLine1 {s a b p : Nat} {C : Core} (hR : MTp M T w) (hK : TM M T w p) (hC : AM M 439 0 C) (hW : WC C) (hs : C 0 3 = s) (hs2 : 2 ≤ s ∧ s ≤ 10) (ha : a ≤ 6) (hb : b ≤ 4) (h18 : M 436 18 = nI a) (h19 : M 436 19 = nI b) : CI o l m_Md_readLine n [.ref 436] M (fun r M' => (r = nI 0 ∨ r = nI 1) ∧ (tK T w p = 6 → PSer M T w s a C p r M') ∧ (tK T w p = 8 → PTab M T w a b C p r M') ∧ (tK T w p ≠ 6 → tK T w p ≠ 8 → r = nI 0 ∧ KRd M M' ∧ FLt M' 1 (tQ T w p))) := by
  refine ci_of rfl rfl rfl (Nat.le_of_ble_eq_true rfl) ?_
  refine r_aload_n d_Md_readLine_0 rfl ?_
  refine g_getr (b := 439) d_Md_readLine_1 f_Md_59 rfl rfl rfl ?_
  refine r_iconst (v := nI 0) d_Md_readLine_4 (by decide) ?_
  refine g_iald d_Md_readLine_5 rfl (by omega) (by omega) ?_
  refine r_top (y := nI s) (by rw [← hs]; exact hC 0 (by decide)) ?_
  refine n_if_ne d_Md_readLine_6 (by omega) (fun h0 => ?_) (fun h0 => ?_)
  · refine r_aload_n d_Md_readLine_39 rfl ?_
    refine r_bipush (v := nI 115) d_Md_readLine_40 (by decide) ?_
    refine r_bipush (v := nI 101) d_Md_readLine_42 (by decide) ?_
    refine r_bipush (v := nI 114) d_Md_readLine_44 (by decide) ?_
    refine r_bipush (v := nI 105) d_Md_readLine_46 (by decide) ?_
    refine r_bipush (v := nI 101) d_Md_readLine_48 (by decide) ?_
    refine r_bipush (v := nI 115) d_Md_readLine_50 (by decide) ?_
    refine g_Vi (av := [.int (nI 115), .int (nI 101), .int (nI 114), .int (nI 105), .int (nI 101), .int (nI 115)]) d_Md_readLine_52 k_Md_129 ws_Md_isWord (by decide) rfl rfl (Nat.le_of_ble_eq_true rfl) rfl (c_Md_isWord_1 hR hK) ?_
    rintro r _ ⟨⟨rfl, h5⟩ | ⟨rfl, h5⟩, rfl⟩
    · refine n_if_eq d_Md_readLine_55 (by omega) (fun h9 => absurd h9 (by decide)) (fun _ => ?_)
      refine r_aload_n d_Md_readLine_58 rfl ?_
      refine g_Vi (av := []) d_Md_readLine_59 k_Md_148 ws_Md_readSeries (by decide) rfl rfl (Nat.le_of_ble_eq_true rfl) rfl (c_Md_readSeries hR hK h5 hC hW hs hs2 ha h18) ?_
      rintro r M1 k1
      have hz : r = nI 0 ∨ r = nI 1 := by
        rcases k1.2 with k | k
        · exact Or.inr k.1
        · exact Or.inl k.1
      refine g_retz d_Md_readLine_62 rfl (by rcases hz with hz | hz <;> (rw [hz]; decide)) ?_
      exact ⟨hz, fun _ => k1, fun z => by omega, fun z => absurd h5 z⟩
    · refine n_if_eq d_Md_readLine_55 (by omega) (fun _ => ?_) (fun h9 => absurd h9 (by decide))
      refine r_aload_n d_Md_readLine_63 rfl ?_
      refine r_bipush (v := nI 116) d_Md_readLine_64 (by decide) ?_
      refine r_bipush (v := nI 97) d_Md_readLine_66 (by decide) ?_
      refine r_bipush (v := nI 98) d_Md_readLine_68 (by decide) ?_
      refine r_bipush (v := nI 108) d_Md_readLine_70 (by decide) ?_
      refine r_bipush (v := nI 101) d_Md_readLine_72 (by decide) ?_
      refine r_iconst (v := nI 0) d_Md_readLine_74 (by decide) ?_
      refine g_Vi (av := [.int (nI 116), .int (nI 97), .int (nI 98), .int (nI 108), .int (nI 101), .int (nI 0)]) d_Md_readLine_75 k_Md_129 ws_Md_isWord (by decide) rfl rfl (Nat.le_of_ble_eq_true rfl) rfl (c_Md_isWord_3 hR hK) ?_
      rintro r _ ⟨⟨rfl, h6⟩ | ⟨rfl, h6⟩, rfl⟩
      · refine n_if_eq d_Md_readLine_78 (by omega) (fun h9 => absurd h9 (by decide)) (fun _ => ?_)
        refine r_aload_n d_Md_readLine_81 rfl ?_
        refine g_Vi (av := []) d_Md_readLine_82 k_Md_151 ws_Md_readTable (by decide) rfl rfl (Nat.le_of_ble_eq_true rfl) rfl (c_Md_readTable hR hK h6 hC hW hs hs2 ha hb h18 h19) ?_
        rintro r M1 k1
        have hz : r = nI 0 ∨ r = nI 1 := by
          rcases k1.2 with k | k
          · exact Or.inr k.1
          · exact Or.inl k.1
        refine r_goto d_Md_readLine_85 ?_
        refine g_retz d_Md_readLine_93 rfl (by rcases hz with hz | hz <;> (rw [hz]; decide)) ?_
        exact ⟨hz, fun z => by omega, fun _ => k1, fun _ z => absurd h6 z⟩
      · refine n_if_eq d_Md_readLine_78 (by omega) (fun _ => ?_) (fun h9 => absurd h9 (by decide))
        refine r_aload_n d_Md_readLine_88 rfl ?_
        refine r_iconst (v := nI 1) d_Md_readLine_89 (by decide) ?_
        refine g_Vi (av := [.int (nI 1)]) d_Md_readLine_90 k_Md_115 ws_Md_bad (by decide) rfl rfl (Nat.le_of_ble_eq_true rfl) rfl (c_Md_bad hK (Or.inr rfl)) ?_
        rintro r M1 ⟨rfl, g3, g4⟩
        refine g_retz d_Md_readLine_93 rfl (by decide) ?_
        exact ⟨Or.inl rfl, fun z => absurd z h5, fun z => absurd z h6, fun _ _ => ⟨rfl, g4.kr, g3⟩⟩
  · omega
theorem c_Md_text {S : SS} (hX : MR M S) : CI o l m_Md_text n [.ref 436] M (PM M (f_text S)) := by
  refine ci_of rfl rfl rfl (Nat.le_of_ble_eq_true rfl) ?_
  obtain ⟨x1, x2, x3, x4, x5, x6, x7, x8, x9⟩ := id hX
  unfold f_text
  generalize S.2.2.2.1 = T at *
  generalize S.2.2.2.2.1 = w at *
  generalize hres : txt T w = res
  unfold txt at hres
  refine r_aload_n d_Md_text_0 rfl ?_
  refine r_iconst (v := nI 0) d_Md_text_1 (by decide) ?_
  refine g_puti d_Md_text_2 f_Md_1 ⟨rfl, rfl, rfl⟩ rfl ?_
  refine r_aload_n d_Md_text_5 rfl ?_
  refine r_aload_n d_Md_text_6 rfl ?_
  refine g_geti d_Md_text_7 f_Md_11 rfl rfl ?_
  refine r_top (y := (nI w)) (by rw [upm_at, if_neg (by decide)]; exact x4) ?_
  refine g_puti d_Md_text_10 f_Md_18 ⟨rfl, rfl, rfl⟩ rfl ?_
  refine r_aload_n d_Md_text_13 rfl ?_
  refine r_iconst (v := nI 0) d_Md_text_14 (by decide) ?_
  refine g_puti d_Md_text_15 f_Md_11 ⟨rfl, rfl, rfl⟩ rfl ?_
  refine r_aload_n d_Md_text_18 rfl ?_
  refine r_iconst (v := nI 0) d_Md_text_19 (by decide) ?_
  refine g_puti d_Md_text_20 f_Md_44 ⟨rfl, rfl, rfl⟩ rfl ?_
  refine r_aload_n d_Md_text_23 rfl ?_
  refine r_iconst (v := nI 0) d_Md_text_24 (by decide) ?_
  refine g_puti d_Md_text_25 f_Md_21 ⟨rfl, rfl, rfl⟩ rfl ?_
  refine r_aload_n d_Md_text_28 rfl ?_
  refine r_iconst (v := nI 0) d_Md_text_29 (by decide) ?_
  refine g_puti d_Md_text_30 f_Md_122 ⟨rfl, rfl, rfl⟩ rfl ?_
  refine r_aload_n d_Md_text_33 rfl ?_
  refine r_iconst (v := nI 0) d_Md_text_34 (by decide) ?_
  refine g_puti d_Md_text_35 f_Md_137 ⟨rfl, rfl, rfl⟩ rfl ?_
  refine r_iconst (v := nI 0) d_Md_text_38 (by decide) ?_
  refine r_istore_n (L' := [some (.ref 436), some (.int (nI 0)), none]) d_Md_text_39 (by decide) rfl ?_
  refine r_iconst (v := nI 0) d_Md_text_40 (by decide) ?_
  refine r_istore_n (L' := [some (.ref 436), some (.int (nI 0)), some (.int (nI 0))]) d_Md_text_41 (by decide) rfl ?_
  generalize hM1 : upm (upm (upm (upm (upm (upm (upm M 436 0 (nI 0)) 436 3 (nI w)) 436 2 (nI 0)) 436 8 (nI 0)) 436 4 (nI 0)) 436 18 (nI 0)) 436 19 (nI 0) = M1
  have f1 : ∀ b, b ≠ 436 → M1 b = M b := fun b hb => by rw [← hM1, upm_ne _ _ _ hb, upm_ne _ _ _ hb, upm_ne _ _ _ hb, upm_ne _ _ _ hb, upm_ne _ _ _ hb, upm_ne _ _ _ hb, upm_ne _ _ _ hb]
  have m2 : M1 436 2 = nI 0 := by rw [← hM1]; rfl
  have m3 : M1 436 3 = nI w := by rw [← hM1]; rfl
  have m4 : M1 436 4 = nI 0 := by rw [← hM1]; rfl
  have m8 : M1 436 8 = nI 0 := by rw [← hM1]; rfl
  have m18 : M1 436 18 = nI 0 := by rw [← hM1]; rfl
  have m19 : M1 436 19 = nI 0 := by rw [← hM1]; rfl
  have m15 : ∀ k, k = 15 ∨ k = 16 ∨ k = 17 → M1 436 k = M 436 k := fun k hk => by rw [← hM1, upm_at, if_neg (by omega), upm_at, if_neg (by omega), upm_at, if_neg (by omega), upm_at, if_neg (by omega), upm_at, if_neg (by omega), upm_at, if_neg (by omega), upm_at, if_neg (by omega)]
  clear hM1
  have hR1 : MTp M1 T w := ⟨m3, x5, by rw [f1 437 (by decide)]; exact x6⟩
  -- what a fault leaves
  have BADF : ∀ (M5 : Mem) (K q : Nat) (u v : Option Value), KRd M1 M5 → FLt M5 K q → res.1 = K → res.2.1 = q → K ≠ 0 → Rn o l m_Md_text (0, 0) 129 [some (.ref 436), u, v] [] (gh n M5) (QI n (PM M (if res.1 = 0 then (nI (lin res.2.2.1 res.2.2.2.1 res.2.2.2.2), (res.2.2.1, [], S.2.2.1, T, 0, 0, res.2.2.2.1, res.2.2.2.2)) else (-1 - nI res.2.1, (S.1, S.2.1, S.2.2.1, T, 0, res.1, S.2.2.2.2.2.2.1, S.2.2.2.2.2.2.2))))) := by
    intro M5 K q u v kr hF h1 h2 h3
    rw [if_neg (by rw [h1]; exact h3), h1, h2]
    refine r_iconst (v := -1) d_Md_text_129 (by decide) ?_
    refine r_aload_n d_Md_text_130 rfl ?_
    refine g_geti d_Md_text_131 f_Md_47 rfl rfl ?_
    refine r_top (y := (nI q)) (hF.2) ?_
    refine r_isub d_Md_text_134 ?_
    refine g_reti d_Md_text_135 rfl ?_
    have kb : ∀ b, b = 437 ∨ b = 438 ∨ b = 440 ∨ b = 441 ∨ b = 442 → M5 b = M b := fun b hb => by rw [kr.1 b (by omega) (by omega) (by omega) (by omega) (by omega), f1 b (by omega)]
    have kk : ∀ k, k = 15 ∨ k = 16 ∨ k = 17 → M5 436 k = M 436 k := fun k hk => by rw [kr.2 k (by omega) (by omega) (by omega), m15 k hk]
    refine ⟨rfl, ⟨x1.kept (kb 438 (by omega)), x2.kept (kk 15 (by omega)) (kb 441 (by omega)), ?_, ⟨by rw [kr.2 2 (by omega) (by decide) (by decide)]; exact m2, by show 0 ≤ 540; omega, fun j hj => absurd hj (Nat.not_lt_zero j), hF.1, by rw [kk 16 (by omega)]; exact x8, by rw [kk 17 (by omega)]; exact x9⟩⟩, fun b hb => by rw [kr.1 b (by omega) (by omega) (by omega) (by omega) (by omega), f1 b (by omega)]⟩
    exact fun q hq => ⟨fun D hD => ⟨by rw [kb 442 (by omega)]; exact ((x3 q hq).1 D hD).1, ((x3 q hq).1 D hD).2.kept (kb 440 (by omega))⟩, fun e => by rw [kb 442 (by omega)]; exact (x3 q hq).2 e⟩
  -- what a text without a fault leaves
  have FIN : ∀ (M5 : Mem) (C : Core) (a b ln : Nat) (v : Option Value), KRd M1 M5 → AM M5 439 0 C → M5 436 8 = nI 0 → M5 436 18 = nI a → M5 436 19 = nI b → res = (0, 0, C, a, b) → ln = lin C a b → Rn o l m_Md_text (0, 0) 142 [some (.ref 436), some (.int (nI ln)), v] [] (gh n M5) (QI n (PM M (if res.1 = 0 then (nI (lin res.2.2.1 res.2.2.2.1 res.2.2.2.2), (res.2.2.1, [], S.2.2.1, T, 0, 0, res.2.2.2.1, res.2.2.2.2)) else (-1 - nI res.2.1, (S.1, S.2.1, S.2.2.1, T, 0, res.1, S.2.2.2.2.2.2.1, S.2.2.2.2.2.2.2))))) := by
    intro M5 C a b ln v kr hC h8 h18 h19 hr hln
    subst hr
    rw [if_pos rfl, hln]
    refine r_aload_n d_Md_text_142 rfl ?_
    refine g_getr (b := 439) d_Md_text_143 f_Md_59 rfl rfl rfl ?_
    refine r_iconst (v := nI 0) d_Md_text_146 (by decide) ?_
    refine r_aload_n d_Md_text_147 rfl ?_
    refine g_getr (b := 438) d_Md_text_148 f_Md_56 rfl rfl rfl ?_
    refine r_iconst (v := nI 0) d_Md_text_151 (by decide) ?_
    refine g_Sv (av := [.ref 439, .int (nI 0), .ref 438, .int (nI 0)]) d_Md_text_152 k_Md_160 ws_Md_copy (by decide) rfl rfl (Nat.le_of_ble_eq_true rfl) (c_Md_copy (a := 439) (b := 438) (p := 0) (q := 0) rfl rfl (by decide) (by decide) (by decide) (by decide)) ?_
    rintro M6 ⟨g1, g2, g3⟩
    refine r_aload_n d_Md_text_155 rfl ?_
    refine r_iconst (v := nI 0) d_Md_text_156 (by decide) ?_
    refine g_puti d_Md_text_157 f_Md_164 ⟨rfl, rfl, rfl⟩ rfl ?_
    refine r_aload_n d_Md_text_160 rfl ?_
    refine r_aload_n d_Md_text_161 rfl ?_
    refine g_geti d_Md_text_162 f_Md_122 rfl rfl ?_
    refine r_top (y := (nI a)) (by rw [upm_at, if_neg (by decide), g1 436 (by decide)]; exact h18) ?_
    refine g_puti d_Md_text_165 f_Md_167 ⟨rfl, rfl, rfl⟩ rfl ?_
    refine r_aload_n d_Md_text_168 rfl ?_
    refine r_aload_n d_Md_text_169 rfl ?_
    refine g_geti d_Md_text_170 f_Md_137 rfl rfl ?_
    refine r_top (y := (nI b)) (by rw [upm_at, if_neg (by decide), upm_at, if_neg (by decide), g1 436 (by decide)]; exact h19) ?_
    refine g_puti d_Md_text_173 f_Md_170 ⟨rfl, rfl, rfl⟩ rfl ?_
    refine r_iload_n d_Md_text_176 rfl ?_
    refine g_reti d_Md_text_177 rfl ?_
    generalize hM7 : upm (upm (upm M6 436 15 (nI 0)) 436 16 (nI a)) 436 17 (nI b) = M7
    have k1 : ∀ b, b ≠ 436 → M7 b = M6 b := fun b hb => by rw [← hM7, upm_ne _ _ _ hb, upm_ne _ _ _ hb, upm_ne _ _ _ hb]
    have k2 : ∀ k, k ≠ 15 → k ≠ 16 → k ≠ 17 → M7 436 k = M5 436 k := fun k a1 a2 a3 => by rw [← hM7, upm_at, if_neg a3, upm_at, if_neg a2, upm_at, if_neg a1, g1 436 (by decide)]
    have k15 : M7 436 15 = nI 0 := by rw [← hM7]; rfl
    have k16 : M7 436 16 = nI a := by rw [← hM7]; rfl
    have k17 : M7 436 17 = nI b := by rw [← hM7]; rfl
    have kb : ∀ b, b = 440 ∨ b = 442 → M7 b = M b := fun b hb => by rw [k1 b (by omega), g1 b (by omega), kr.1 b (by omega) (by omega) (by omega) (by omega) (by omega), f1 b (by omega)]
    refine ⟨rfl, ⟨fun j hj _ => ?_, ⟨k15, Nat.zero_le 8, fun i C hC j hj => by cases hC⟩, ?_, ⟨by rw [k2 2 (by decide) (by decide) (by decide), kr.2 2 (by omega) (by decide) (by decide)]; exact m2, by show 0 ≤ 540; omega, fun j hj => absurd hj (Nat.not_lt_zero j), by rw [k2 8 (by decide) (by decide) (by decide)]; exact h8, k16, k17⟩⟩, fun b hb => by rw [k1 b (by omega), g1 b (by omega), kr.1 b (by omega) (by omega) (by omega) (by omega) (by omega), f1 b (by omega)]⟩
    · rw [k1 438 (by decide), g2 j hj]
      exact hC j hj
    · exact fun q hq => ⟨fun D hD => ⟨by rw [kb 442 (by omega)]; exact ((x3 q hq).1 D hD).1, ((x3 q hq).1 D hD).2.kept (kb 440 (by omega))⟩, fun e => by rw [kb 442 (by omega)]; exact (x3 q hq).2 e⟩
  refine lp (a := 0) (N := 241) (R := fun k M' => Rn o l m_Md_text (0, 0) 42 [some (.ref 436), some (.int (nI 0)), some (.int (nI k))] [] (gh n M') (QI n (PM M (if res.1 = 0 then (nI (lin res.2.2.1 res.2.2.2.1 res.2.2.2.2), (res.2.2.1, [], S.2.2.1, T, 0, 0, res.2.2.2.1, res.2.2.2.2)) else (-1 - nI res.2.1, (S.1, S.2.1, S.2.2.1, T, 0, res.1, S.2.2.2.2.2.2.1, S.2.2.2.2.2.2.2)))))) (P := fun k M' => (∀ b, b ≠ 439 → M' b = M1 b) ∧ ∀ j, j < k → M' 439 j = nI 0) (by omega) ?_ ?_ ?_
  · exact ⟨fun _ _ => rfl, fun j hj => absurd hj (Nat.not_lt_zero j)⟩
  · intro M2 f2
    refine r_iload_n d_Md_text_42 rfl ?_
    refine r_sipush (v := nI 241) d_Md_text_43 (by decide) ?_
    refine n_icmp_ge d_Md_text_46 (by omega) (by omega) (fun _ => ?_) (fun h9 => absurd h9 (by omega))
    refine r_iconst (v := nI 0) d_Md_text_62 (by decide) ?_
    refine r_istore_n (L' := [some (.ref 436), some (.int (nI 0)), some (.int (nI 0))]) d_Md_text_63 (by decide) rfl ?_
    refine lp (a := 0) (N := 4) (R := fun t M' => Rn o l m_Md_text (0, 0) 64 [some (.ref 436), some (.int (nI 0)), some (.int (nI t))] [] (gh n M') (QI n (PM M (if res.1 = 0 then (nI (lin res.2.2.1 res.2.2.2.1 res.2.2.2.2), (res.2.2.1, [], S.2.2.1, T, 0, 0, res.2.2.2.1, res.2.2.2.2)) else (-1 - nI res.2.1, (S.1, S.2.1, S.2.2.1, T, 0, res.1, S.2.2.2.2.2.2.1, S.2.2.2.2.2.2.2)))))) (P := fun t M' => (∀ b, b ≠ 439 → M' b = M1 b) ∧ ∀ j, j < 241 → M' 439 j = nI (if 61 ≤ j ∧ j < 61 + 20 * t ∧ ((j - 61) % 20 = 0 ∨ (j - 61) % 20 = 11) then 1 else 0)) (by omega) ?_ ?_ ?_
    · exact ⟨f2.1, fun j hj => by rw [if_neg (by omega)]; exact f2.2 j hj⟩
    · intro M3 f3
      have c3 : AM M3 439 0 C0 := fun j hj => by rw [Nat.zero_add, nw_C0 j hj]; exact f3.2 j hj
      have kr3 : KRd M1 M3 := ⟨fun b _ b2 _ _ _ => f3.1 b b2, fun k _ _ _ => by rw [f3.1 436 (by decide)]⟩
      refine r_iload_n d_Md_text_64 rfl ?_
      refine r_iconst (v := nI 4) d_Md_text_65 (by decide) ?_
      refine n_icmp_ge d_Md_text_66 (by omega) (by omega) (fun _ => ?_) (fun h9 => absurd h9 (by omega))
      refine r_aload_n d_Md_text_104 rfl ?_
      refine g_Vv (av := []) d_Md_text_105 k_Md_112 ws_Md_next (by decide) rfl rfl (Nat.le_of_ble_eq_true rfl) rfl (c_Md_next (p := 0) (hR1.kr kr3) (Nat.zero_le _) (by rw [f3.1 436 (by decide)]; exact m4)) ?_
      rintro M4 ⟨g1, g2⟩
      have kr4 : KRd M1 M4 := kr3.trans g1.kr
      have c4 : AM M4 439 0 C0 := c3.kept (g1.1 439 (by decide))
      have e8 : ∀ k, k = 8 ∨ k = 18 ∨ k = 19 → M4 436 k = M1 436 k := fun k hk => by rw [g1.2 k (by omega) (by omega) (by omega) (by omega), f3.1 436 (by decide)]
      obtain ⟨a1, a2, k, e, a3, a4, a5, ⟨t1, t2, t3, t4, t5, t6, t7⟩, a7⟩ := id g2
      refine r_aload_n d_Md_text_108 rfl ?_
      refine g_geti d_Md_text_109 f_Md_27 rfl rfl ?_
      refine r_top (y := (nI k)) (a3) ?_
      refine n_if_eq d_Md_text_112 (by omega) (fun hk => ?_) (fun hk => ?_)
      · rw [if_pos (t2.mpr hk)] at hres
        exact FIN M4 C0 0 0 0 _ kr4 c4 (by rw [e8 8 (by omega)]; exact m8) (by rw [e8 18 (by omega)]; exact m18) (by rw [e8 19 (by omega)]; exact m19) hres.symm rfl
      · rw [if_neg (fun z => hk (t2.mp z))] at hres
        refine r_aload_n d_Md_text_115 rfl ?_
        refine g_Vi (av := []) d_Md_text_116 k_Md_154 ws_Md_readLine (by decide) rfl rfl (Nat.le_of_ble_eq_true rfl) rfl (c_Md_readLine0 (hR1.kr kr4) g2 c4) ?_
        rintro r M5 ⟨k5, k6⟩
        have kr5 := kr4.trans k5
        rcases k6 with ⟨rfl, i1, i2, i3, i4, i5, i6⟩ | ⟨rfl, i1, i2⟩
        · refine n_if_eq d_Md_text_119 (by omega) (fun h9 => absurd h9 (by decide)) (fun _ => ?_)
          refine r_aload_n d_Md_text_122 rfl ?_
          refine g_Vi (av := []) d_Md_text_123 k_Md_157 ws_Md_readEnd (by decide) rfl rfl (Nat.le_of_ble_eq_true rfl) rfl (c_Md_readEnd (hR1.kr kr5) i4) ?_
          rintro r M6 ⟨k7, k8⟩
          have kr6 := kr5.trans k7
          rcases k8 with ⟨rfl, j1, j2, j3⟩ | ⟨rfl, j1, j2⟩
          · rw [if_neg (fun z => z j1)] at i1
            rw [i1, if_neg (fun z => z rfl)] at hres
            have hres : lnS T w (tV T w (tE T w 0)) 11 (szC (tV T w (tE T w 0))) 0 0 (tE T w (tE T w (tE T w 0))) = res := hres
            generalize tE T w (tE T w (tE T w 0)) = p3 at *
            generalize tV T w (tE T w 0) = s at *
            have hwc := WC.sz0 ⟨i2, i3⟩
            refine n_if_ne d_Md_text_126 (by omega) (fun _ => ?_) (fun h9 => absurd h9 (by decide))
            refine n_iinc (c := 1) (L' := [some (.ref 436), some (.int (nI 1)), some (.int (nI 4))]) d_Md_text_136 rfl rfl (by decide) rfl ?_
            refine r_goto d_Md_text_139 ?_
            suffices H : ∀ d C a b p M7 v, a + b + d = 11 → lnS T w s d C a b p = res → KRd M1 M7 → TM M7 T w p → AM M7 439 0 C → WC C → C 0 3 = s → a ≤ 6 → b ≤ 4 → M7 436 18 = nI a → M7 436 19 = nI b → M7 436 8 = nI 0 → Rn o l m_Md_text (0, 0) 108 [some (.ref 436), some (.int (nI (1 + a + b))), v] [] (gh n M7) (QI n (PM M (if res.1 = 0 then (nI (lin res.2.2.1 res.2.2.2.1 res.2.2.2.2), (res.2.2.1, [], S.2.2.1, T, 0, 0, res.2.2.2.1, res.2.2.2.2)) else (-1 - nI res.2.1, (S.1, S.2.1, S.2.2.1, T, 0, res.1, S.2.2.2.2.2.2.1, S.2.2.2.2.2.2.2))))) from
              H 11 _ 0 0 p3 M6 _ rfl hres kr6 j3 (i5.kept (j2.1 439 (by decide))) hwc.1 hwc.2 (by decide) (by decide) (by rw [j2.2 18 (by decide) (by decide) (by decide) (by decide), i6 18 (by omega), e8 18 (by omega)]; exact m18) (by rw [j2.2 19 (by decide) (by decide) (by decide) (by decide), i6 19 (by omega), e8 19 (by omega)]; exact m19) (by rw [j2.2 8 (by decide) (by decide) (by decide) (by decide), i6 8 (by omega), e8 8 (by omega)]; exact m8)
            clear hres i1 i4 i5 j3 hwc
            intro d
            induction d with
            | zero =>
              intro C a b p M7 v hd hr kr hK hC hW hs ha hb
              omega
            | succ d ih =>
              intro C a b p M7 v hd hr kr hK hC hW hs ha hb h18 h19 h8
              obtain ⟨q1, q2, k', e', q3, q4, q5, ⟨u1, u2, u3, u4, u5, u6, u7⟩, q7⟩ := id hK
              rw [lnS] at hr
              refine r_aload_n d_Md_text_108 rfl ?_
              refine g_geti d_Md_text_109 f_Md_27 rfl rfl ?_
              refine r_top (y := (nI k')) (q3) ?_
              refine n_if_eq d_Md_text_112 (by omega) (fun hk' => ?_) (fun hk' => ?_)
              · rw [if_pos (u2.mpr hk')] at hr
                exact FIN M7 C a b _ _ kr hC h8 h18 h19 hr.symm (by unfold lin; rw [if_neg (by omega)])
              · rw [if_neg (fun z => hk' (u2.mp z))] at hr
                refine r_aload_n d_Md_text_115 rfl ?_
                refine g_Vi (av := []) d_Md_text_116 k_Md_154 ws_Md_readLine (by decide) rfl rfl (Nat.le_of_ble_eq_true rfl) rfl (c_Md_readLine1 (hR1.kr kr) hK hC hW hs ⟨i2, i3⟩ ha hb h18 h19) ?_
                rintro r M8 ⟨r1, r2, r3, r4⟩
                by_cases h6 : tK T w p = 6
                · rw [if_pos h6] at hr
                  obtain ⟨kr8, r2⟩ := r2 h6
                  have kr8 := kr.trans kr8
                  rcases r2 with ⟨rfl, y1, x, p', y2, y3, y4, y5, y6, y7, y8, y9⟩ | ⟨rfl, y1, y2⟩
                  · refine n_if_eq d_Md_text_119 (by omega) (fun h9 => absurd h9 (by decide)) (fun _ => ?_)
                    refine r_aload_n d_Md_text_122 rfl ?_
                    refine g_Vi (av := []) d_Md_text_123 k_Md_157 ws_Md_readEnd (by decide) rfl rfl (Nat.le_of_ble_eq_true rfl) rfl (c_Md_readEnd (hR1.kr kr8) y5) ?_
                    rintro r M9 ⟨z1, z2⟩
                    rw [y2, serE] at hr
                    rcases z2 with ⟨rfl, z3, z4, z5⟩ | ⟨rfl, z3, z4⟩
                    · rw [if_neg (show ¬ tK T w p' ≠ 3 from fun z => z z3), if_neg (fun z => z rfl)] at hr
                      refine n_if_ne d_Md_text_126 (by omega) (fun _ => ?_) (fun h9 => absurd h9 (by decide))
                      refine n_iinc (c := 1) (L' := [some (.ref 436), some (.int (nI ((1 + a + b) + 1))), v]) d_Md_text_136 rfl rfl (by decide) rfl ?_
                      refine r_goto d_Md_text_139 ?_
                      have := ih (rowA C (2 + a) x) (a + 1) b (tE T w p') M9 v (by omega) hr (kr8.trans z1) z5 (y6.kept (z4.1 439 (by decide))) (hW.row ⟨by omega, by omega⟩ y3 (fun _ j h1 h2 => y4 j (by omega) h2)) (by rw [rowA, if_neg (by omega)]; exact hs) (by omega) hb (by rw [z4.2 18 (by decide) (by decide) (by decide) (by decide)]; exact y7) (by rw [z4.2 19 (by decide) (by decide) (by decide) (by decide), y8]; exact h19) (by rw [z4.2 8 (by decide) (by decide) (by decide) (by decide), y9]; exact h8)
                      rw [show 1 + (a + 1) + b = 1 + a + b + 1 by omega] at this
                      exact this
                    · rw [if_pos z3, if_pos Nat.one_ne_zero] at hr
                      refine n_if_ne d_Md_text_126 (by omega) (fun h9 => absurd h9 (by decide)) (fun _ => ?_)
                      exact BADF M9 1 _ _ _ (kr8.trans z1) z4 (by rw [← hr]) (by rw [← hr]) (by decide)
                  · rw [if_pos y1] at hr
                    refine n_if_eq d_Md_text_119 (by omega) (fun _ => ?_) (fun h9 => absurd h9 (by decide))
                    exact BADF M8 _ _ _ _ kr8 y2 (by rw [← hr]) (by rw [← hr]) y1
                · rw [if_neg h6] at hr
                  by_cases h8' : tK T w p = 8
                  · rw [if_pos h8'] at hr
                    obtain ⟨kr8, r3⟩ := r3 h8'
                    have kr8 := kr.trans kr8
                    rcases r3 with ⟨rfl, y1, p', g, f, y2, y4, y5, y6, y7, y8, y9⟩ | ⟨rfl, y1, y2⟩
                    · refine n_if_eq d_Md_text_119 (by omega) (fun h9 => absurd h9 (by decide)) (fun _ => ?_)
                      refine r_aload_n d_Md_text_122 rfl ?_
                      refine g_Vi (av := []) d_Md_text_123 k_Md_157 ws_Md_readEnd (by decide) rfl rfl (Nat.le_of_ble_eq_true rfl) rfl (c_Md_readEnd (hR1.kr kr8) y5) ?_
                      rintro r M9 ⟨z1, z2⟩
                      rw [y2] at hr
                      rcases z2 with ⟨rfl, z3, z4, z5⟩ | ⟨rfl, z3, z4⟩
                      · rw [if_neg (show ¬ tK T w p' ≠ 3 from fun z => z z3), if_neg (fun z => z rfl)] at hr
                        refine n_if_ne d_Md_text_126 (by omega) (fun _ => ?_) (fun h9 => absurd h9 (by decide))
                        refine n_iinc (c := 1) (L' := [some (.ref 436), some (.int (nI ((1 + a + b) + 1))), v]) d_Md_text_136 rfl rfl (by decide) rfl ?_
                        refine r_goto d_Md_text_139 ?_
                        have := ih (tabC C b g f) a (b + 1) (tE T w p') M9 v (by omega) hr (kr8.trans z1) z5 (y6.kept (z4.1 439 (by decide))) y4 (by rw [tabC, if_neg (by omega), if_neg (by omega)]; exact hs) ha (by omega) (by rw [z4.2 18 (by decide) (by decide) (by decide) (by decide), y8]; exact h18) (by rw [z4.2 19 (by decide) (by decide) (by decide) (by decide)]; exact y7) (by rw [z4.2 8 (by decide) (by decide) (by decide) (by decide), y9]; exact h8)
                        rw [show 1 + a + (b + 1) = 1 + a + b + 1 by omega] at this
                        exact this
                      · rw [if_pos z3, if_pos Nat.one_ne_zero] at hr
                        refine n_if_ne d_Md_text_126 (by omega) (fun h9 => absurd h9 (by decide)) (fun _ => ?_)
                        exact BADF M9 1 _ _ _ (kr8.trans z1) z4 (by rw [← hr]) (by rw [← hr]) (by decide)
                    · rw [if_pos y1] at hr
                      refine n_if_eq d_Md_text_119 (by omega) (fun _ => ?_) (fun h9 => absurd h9 (by decide))
                      exact BADF M8 _ _ _ _ kr8 y2 (by rw [← hr]) (by rw [← hr]) y1
                  · rw [if_neg h8'] at hr
                    obtain ⟨rfl, y1, y2⟩ := r4 h6 h8'
                    refine n_if_eq d_Md_text_119 (by omega) (fun _ => ?_) (fun h9 => absurd h9 (by decide))
                    exact BADF M8 1 _ _ _ (kr.trans y1) y2 (by rw [← hr]) (by rw [← hr]) (by decide)
          · rw [if_pos j1] at i1
            rw [i1, if_pos Nat.one_ne_zero] at hres
            refine n_if_ne d_Md_text_126 (by omega) (fun h9 => absurd h9 (by decide)) (fun _ => ?_)
            exact BADF M6 1 _ _ _ kr6 j2 (by rw [← hres]) (by rw [← hres]) (by decide)
        · rw [if_pos i1] at hres
          refine n_if_eq d_Md_text_119 (by omega) (fun _ => ?_) (fun h9 => absurd h9 (by decide))
          exact BADF M5 _ _ _ _ kr5 i2 (by rw [← hres]) (by rw [← hres]) i1
    · intro t M3 ht f3 ih
      refine r_iload_n d_Md_text_64 rfl ?_
      refine r_iconst (v := nI 4) d_Md_text_65 (by decide) ?_
      refine n_icmp_ge d_Md_text_66 (by omega) (by omega) (fun h9 => absurd h9 (by omega)) (fun _ => ?_)
      refine r_aload_n d_Md_text_69 rfl ?_
      refine g_getr (b := 439) d_Md_text_70 f_Md_59 rfl rfl rfl ?_
      refine r_bipush (v := nI 61) d_Md_text_73 (by decide) ?_
      refine r_bipush (v := nI 20) d_Md_text_75 (by decide) ?_
      refine r_iload_n d_Md_text_77 rfl ?_
      refine n_imul d_Md_text_78 ?_
      refine n_iadd d_Md_text_79 ?_
      refine r_iconst (v := nI 1) d_Md_text_80 (by decide) ?_
      refine g_iast d_Md_text_81 rfl (by omega) (by omega) ?_
      refine r_aload_n d_Md_text_82 rfl ?_
      refine g_getr (b := 439) d_Md_text_83 f_Md_59 rfl rfl rfl ?_
      refine r_bipush (v := nI 61) d_Md_text_86 (by decide) ?_
      refine r_bipush (v := nI 20) d_Md_text_88 (by decide) ?_
      refine r_iload_n d_Md_text_90 rfl ?_
      refine n_imul d_Md_text_91 ?_
      refine n_iadd d_Md_text_92 ?_
      refine r_bipush (v := nI 11) d_Md_text_93 (by decide) ?_
      refine n_iadd d_Md_text_95 ?_
      refine r_iconst (v := nI 1) d_Md_text_96 (by decide) ?_
      refine g_iast d_Md_text_97 rfl (by omega) (by omega) ?_
      refine n_iinc (c := 1) (L' := [some (.ref 436), some (.int (nI 0)), some (.int (nI (t + 1)))]) d_Md_text_98 rfl rfl (by decide) rfl ?_
      refine r_goto d_Md_text_101 ?_
      refine ih _ ?_
      refine ⟨fun b hb => by rw [upm_ne _ _ _ hb, upm_ne _ _ _ hb]; exact f3.1 b hb, fun j hj => ?_⟩
      rw [upm_at, upm_at]
      by_cases e1 : j = 61 + 20 * t + 11
      · rw [if_pos e1, if_pos (by omega)]
      · rw [if_neg e1]
        by_cases e2 : j = 61 + 20 * t
        · rw [if_pos e2, if_pos (by omega)]
        · rw [if_neg e2, f3.2 j hj]
          congr 1
          by_cases e3 : 61 ≤ j ∧ j < 61 + 20 * t ∧ ((j - 61) % 20 = 0 ∨ (j - 61) % 20 = 11)
          · rw [if_pos e3, if_pos (by omega)]
          · rw [if_neg e3, if_neg (by omega)]
  · intro k M2 hk f2 ih
    refine r_iload_n d_Md_text_42 rfl ?_
    refine r_sipush (v := nI 241) d_Md_text_43 (by decide) ?_
    refine n_icmp_ge d_Md_text_46 (by omega) (by omega) (fun h9 => absurd h9 (by omega)) (fun _ => ?_)
    refine r_aload_n d_Md_text_49 rfl ?_
    refine g_getr (b := 439) d_Md_text_50 f_Md_59 rfl rfl rfl ?_
    refine r_iload_n d_Md_text_53 rfl ?_
    refine r_iconst (v := nI 0) d_Md_text_54 (by decide) ?_
    refine g_iast d_Md_text_55 rfl (by omega) (by omega) ?_
    refine n_iinc (c := 1) (L' := [some (.ref 436), some (.int (nI 0)), some (.int (nI (k + 1)))]) d_Md_text_56 rfl rfl (by decide) rfl ?_
    refine r_goto d_Md_text_59 ?_
    refine ih _ ?_
    refine ⟨fun b hb => by rw [upm_ne _ _ _ hb]; exact f2.1 b hb, fun j hj => ?_⟩
    rw [upm_at]
    by_cases e : j = k
    · rw [if_pos e]
    · rw [if_neg e]
      exact f2.2 j (by omega)
end C70
