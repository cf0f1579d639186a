theorem g_free {i : Nat} (h : i < 10) : gR 46 i = some (47 + i) := (isSt_37.2.2.2.2.2.2.2.2.2 i h).1
theorem t_free {i : Nat} (h : i < 10) : gT (47 + i) = (1, 10) := (isSt_37.2.2.2.2.2.2.2.2.2 i h).2
/-- the table of a free table's first two columns -/
def rcG (s : Nat) (fr : Nat → Nat → Nat) (j : Nat) : Nat := if j < s then fr j 0 else 0
def rcF (s : Nat) (fr : Nat → Nat → Nat) (j : Nat) : Nat := if j < s then dv (fun i => fr i 1) (fun i => fr i 0) j else 0
section C41
variable {o : OM} {l : Launch} {n : Nat} {M : Mem}
theorem c_Tb_layEntries {t s : Nat} {g f : Nat → Nat} (ht : isTb t) (hs0 : 2 ≤ s) (hs : s ≤ 10) (hd : t + 2 < 394) (hB : BO M) (hT : TbA M t g f) : CV o l m_Tb_layEntries n [.ref 397, .ref t, .int (nI s), .ref 46] M (fun M' => (∀ i j, i < 10 → M' (47 + i) j = if i < s ∧ j ≤ i then nI (col s g f j i) else M (47 + i) j) ∧ (∀ b, (b < 47 ∨ 57 ≤ b) → (b < 394 ∨ 436 ≤ b) → M' b = M b) ∧ BO M') := by
  refine cvo_of rfl rfl rfl (Nat.le_of_ble_eq_true rfl) ?_
  refine r_aload_n d_Tb_layEntries_0 rfl ?_
  refine r_iload_n d_Tb_layEntries_1 rfl ?_
  refine r_aload_n d_Tb_layEntries_2 rfl ?_
  refine g_getr (b := 410) d_Tb_layEntries_3 f_Tb_36 rfl rfl rfl ?_
  refine g_Sv (av := [.ref t, .int (nI s), .ref 410]) d_Tb_layEntries_6 k_Tb_116 ws_Tb_fillColumns (by decide) rfl rfl (Nat.le_of_ble_eq_true rfl) (c_Tb_fillColumns ht isCo_410 hs0 hs (by omega) hT) ?_
  rintro M1 ⟨k1, k2⟩
  have hB1 := BF.cols hB k2 (by decide) (by omega) k1
  refine r_iconst (v := nI 0) d_Tb_layEntries_9 (by decide) ?_
  refine r_istore (L' := [some (.ref 397), some (.ref t), some (.int (nI s)), some (.ref 46), some (.int (nI 0)), none]) d_Tb_layEntries_10 (by decide) rfl ?_
  suffices H : ∀ d k u M2, k + d = s → (∀ i j, i < 10 → M2 (47 + i) j = if i < k ∧ j ≤ i then nI (col s g f j i) else M (47 + i) j) → (∀ b, (b < 47 ∨ 57 ≤ b) → M2 b = M1 b) → Rn o l m_Tb_layEntries (0, 0) 12 [some (.ref 397), some (.ref t), some (.int (nI s)), some (.ref 46), some (.int (nI k)), u] [] (gh n M2) (QV n fun M' => (∀ i j, i < 10 → M' (47 + i) j = if i < s ∧ j ≤ i then nI (col s g f j i) else M (47 + i) j) ∧ (∀ b, (b < 47 ∨ 57 ≤ b) → (b < 394 ∨ 436 ≤ b) → M' b = M b) ∧ BO M') from
    H s 0 _ M1 (by omega) (fun i j hi => by rw [if_neg (by omega), hB1.1 _ (by omega)]) (fun _ _ => rfl)
  intro d
  induction d with
  | zero =>
    intro k u M2 hk h1 h2
    obtain rfl : k = s := by omega
    refine r_iload d_Tb_layEntries_12 rfl ?_
    refine r_iload_n d_Tb_layEntries_14 rfl ?_
    refine n_icmp_ge d_Tb_layEntries_15 (by omega) (by omega) (fun hc => ?_) (fun hc => ?_)
    · refine g_retv d_Tb_layEntries_57 rfl ?_
      exact ⟨h1, fun b b1 b2 => by rw [h2 b b1, hB1.1 b b2], ⟨fun b b1 b2 b3 => (hB1.2.at b b1 b2 b3).kept (h2 b (by omega)), hB1.2.2.kept (h2 36 (by omega))⟩⟩
    · omega
  | succ d ih =>
    intro k u M2 hk h1 h2
    refine r_iload d_Tb_layEntries_12 rfl ?_
    refine r_iload_n d_Tb_layEntries_14 rfl ?_
    refine n_icmp_ge d_Tb_layEntries_15 (by omega) (by omega) (fun hc => ?_) (fun hc => ?_)
    · omega
    · refine r_iconst (v := nI 0) d_Tb_layEntries_18 (by decide) ?_
      refine r_istore (L' := [some (.ref 397), some (.ref t), some (.int (nI s)), some (.ref 46), some (.int (nI k)), some (.int (nI 0))]) d_Tb_layEntries_19 (by decide) rfl ?_
      suffices H2 : ∀ d2 q M3, q + d2 = k + 1 → (∀ i j, i < 10 → M3 (47 + i) j = if (i < k ∧ j ≤ i) ∨ (i = k ∧ j < q) then nI (col s g f j i) else M (47 + i) j) → (∀ b, (b < 47 ∨ 57 ≤ b) → M3 b = M1 b) → Rn o l m_Tb_layEntries (0, 0) 21 [some (.ref 397), some (.ref t), some (.int (nI s)), some (.ref 46), some (.int (nI k)), some (.int (nI q))] [] (gh n M3) (QV n fun M' => (∀ i j, i < 10 → M' (47 + i) j = if i < s ∧ j ≤ i then nI (col s g f j i) else M (47 + i) j) ∧ (∀ b, (b < 47 ∨ 57 ≤ b) → (b < 394 ∨ 436 ≤ b) → M' b = M b) ∧ BO M') from
        H2 (k + 1) 0 M2 (by omega) (fun i j hi => by
          rw [h1 i j hi]
          by_cases e : i < k ∧ j ≤ i
          · rw [if_pos e, if_pos (Or.inl e)]
          · rw [if_neg e, if_neg (by omega)]) h2
      intro d2
      induction d2 with
      | zero =>
        intro q M3 hq m1 m2
        obtain rfl : q = k + 1 := by omega
        refine r_iload d_Tb_layEntries_21 rfl ?_
        refine r_iload d_Tb_layEntries_23 rfl ?_
        refine n_icmp_gt d_Tb_layEntries_25 (by omega) (by omega) (fun hc2 => ?_) (fun hc2 => ?_)
        · refine n_iinc (c := 1) (L' := [some (.ref 397), some (.ref t), some (.int (nI s)), some (.ref 46), some (.int (nI (k + 1))), some (.int (nI (k + 1)))]) d_Tb_layEntries_51 rfl rfl (by decide) rfl ?_
          refine r_goto d_Tb_layEntries_54 ?_
          refine ih (k + 1) _ M3 (by omega) (fun i j hi => ?_) m2
          rw [m1 i j hi]
          by_cases e : i < k + 1 ∧ j ≤ i
          · rw [if_pos e, if_pos (by omega)]
          · rw [if_neg e, if_neg (by omega)]
        · omega
      | succ d2 ih2 =>
        intro q M3 hq m1 m2
        refine r_iload d_Tb_layEntries_21 rfl ?_
        refine r_iload d_Tb_layEntries_23 rfl ?_
        refine n_icmp_gt d_Tb_layEntries_25 (by omega) (by omega) (fun hc2 => ?_) (fun hc2 => ?_)
        · omega
        · refine r_aload_n d_Tb_layEntries_28 rfl ?_
          refine r_iload d_Tb_layEntries_29 rfl ?_
          refine g_aald (b := (47+k)) (t := 5) (N := 10) d_Tb_layEntries_31 rfl (by decide) (by omega) (by omega) (g_free (by omega)) ?_
          refine r_iload d_Tb_layEntries_32 rfl ?_
          refine r_aload_n d_Tb_layEntries_34 rfl ?_
          refine g_getr (b := 410) d_Tb_layEntries_35 f_Tb_36 rfl rfl rfl ?_
          refine r_iload d_Tb_layEntries_38 rfl ?_
          refine g_aald (b := (411+q)) (t := 5) (N := 10) d_Tb_layEntries_40 rfl (by decide) (by omega) (by omega) (g_cols (by omega)) ?_
          refine r_iload d_Tb_layEntries_41 rfl ?_
          refine g_iald d_Tb_layEntries_43 (t_cols (by omega)) (by omega) (by omega) ?_
          refine r_top (y := nI (col s g f q k)) (by rw [m2 _ (by omega)]; exact (k1 q (by omega) k (by omega)).1) ?_
          refine g_iast d_Tb_layEntries_44 (t_free (by omega)) (by omega) (by omega) ?_
          refine n_iinc (c := 1) (L' := [some (.ref 397), some (.ref t), some (.int (nI s)), some (.ref 46), some (.int (nI k)), some (.int (nI (q + 1)))]) d_Tb_layEntries_45 rfl rfl (by decide) rfl ?_
          refine r_goto d_Tb_layEntries_48 ?_
          refine ih2 (q + 1) _ (by omega) (fun i j hi => ?_) (fun b hb => by rw [upm_ne _ _ _ (by omega)]; exact m2 b hb)
          by_cases e : i = k
          · subst e
            rw [upm_at]
            by_cases e2 : j = q
            · subst e2; rw [if_pos rfl, if_pos (by omega)]
            · rw [if_neg e2, m1 i j hi]
              by_cases e3 : (i < i ∧ j ≤ i) ∨ (i = i ∧ j < q)
              · rw [if_pos e3, if_pos (by omega)]
              · rw [if_neg e3, if_neg (by omega)]
          · rw [upm_ne _ _ _ (by omega), m1 i j hi]
            by_cases e3 : (i < k ∧ j ≤ i) ∨ (i = k ∧ j < q)
            · rw [if_pos e3, if_pos (by omega)]
            · rw [if_neg e3, if_neg (by omega)]
theorem c_Tb_recognise {s : Nat} {fr : Nat → Nat → Nat} (hs0 : 2 ≤ s) (hs : s ≤ 10) (hB : BO M) (hF : ∀ i, i < 10 → OKr M (47 + i) (fr i)) : CI o l m_Tb_recognise n [.ref 397, .ref 46, .int (nI s)] M (fun r M' => BF M M' ∧ (((fr 0 0 = 0 ∨ fr 1 1 = 0) ∧ r = nI 100) ∨ (fr 0 0 ≠ 0 ∧ fr 1 1 ≠ 0 ∧ FD s (fun i j => fr i j ≠ col s (rcG s fr) (rcF s fr) j i) r ∧ TbA M' 398 (rcG s fr) (rcF s fr)))) := by
  refine ci_of rfl rfl rfl (Nat.le_of_ble_eq_true rfl) ?_
  refine r_aload_n d_Tb_recognise_0 rfl ?_
  refine r_iconst (v := nI 0) d_Tb_recognise_1 (by decide) ?_
  refine g_aald (b := 47) (t := 5) (N := 10) d_Tb_recognise_2 rfl (by decide) (by omega) (by omega) rfl ?_
  refine r_iconst (v := nI 0) d_Tb_recognise_3 (by decide) ?_
  refine g_iald d_Tb_recognise_4 rfl (by omega) (by omega) ?_
  refine r_top (y := nI (fr 0 0)) ((hF 0 (by omega) 0 (by omega)).1) ?_
  refine n_if_eq d_Tb_recognise_5 (by have h9 := (hF 0 (by omega) 0 (by omega)).2; omega) (fun hc => ?_) (fun hc => ?_)
  · refine r_bipush (v := nI 100) d_Tb_recognise_16 (by decide) ?_
    refine g_reti d_Tb_recognise_18 rfl ?_
    exact ⟨BF.rf hB, Or.inl ⟨Or.inl hc, rfl⟩⟩
  · refine r_aload_n d_Tb_recognise_8 rfl ?_
    refine r_iconst (v := nI 1) d_Tb_recognise_9 (by decide) ?_
    refine g_aald (b := 48) (t := 5) (N := 10) d_Tb_recognise_10 rfl (by decide) (by omega) (by omega) rfl ?_
    refine r_iconst (v := nI 1) d_Tb_recognise_11 (by decide) ?_
    refine g_iald d_Tb_recognise_12 rfl (by omega) (by omega) ?_
    refine r_top (y := nI (fr 1 1)) ((hF 1 (by omega) 1 (by omega)).1) ?_
    refine n_if_ne d_Tb_recognise_13 (by have h9 := (hF 1 (by omega) 1 (by omega)).2; omega) (fun hc1 => ?_) (fun hc1 => ?_)
    · refine r_aload_n d_Tb_recognise_19 rfl ?_
      refine g_getr (b := 398) d_Tb_recognise_20 f_Tb_12 rfl rfl rfl ?_
      refine g_Vv (av := []) d_Tb_recognise_23 k_Tb_90 ws_Ta_becomeOne (by decide) rfl rfl (Nat.le_of_ble_eq_true rfl) rfl (c_Ta_becomeOne isTb_398) ?_
      rintro M1 ⟨k1, k2⟩
      refine r_iconst (v := nI 0) d_Tb_recognise_26 (by decide) ?_
      refine r_istore_n (L' := [some (.ref 397), some (.ref 46), some (.int (nI s)), some (.int (nI 0)), none]) d_Tb_recognise_27 (by decide) rfl ?_
      suffices H : ∀ d k M2, k + d = s → (∀ j, j < 10 → M2 399 j = nI (if j < k then fr j 0 else oneS j)) → (∀ j, j < 10 → M2 400 j = nI (if j < k then fr j 1 else tS j)) → (∀ b, b ≠ 399 → b ≠ 400 → M2 b = M b) → Rn o l m_Tb_recognise (0, 0) 28 [some (.ref 397), some (.ref 46), some (.int (nI s)), some (.int (nI k)), none] [] (gh n M2) (QI n fun r M' => BF M M' ∧ (((fr 0 0 = 0 ∨ fr 1 1 = 0) ∧ r = nI 100) ∨ (fr 0 0 ≠ 0 ∧ fr 1 1 ≠ 0 ∧ FD s (fun i j => fr i j ≠ col s (rcG s fr) (rcF s fr) j i) r ∧ TbA M' 398 (rcG s fr) (rcF s fr)))) from
        H s 0 M1 (by omega) (fun j hj => (k1 j hj).1) (fun j hj => (k1 j hj).2) (fun b b1 b2 => k2 b (by omega))
      intro d
      induction d with
      | succ d ih =>
        intro k M2 hk h1 h2 h3
        refine r_iload_n d_Tb_recognise_28 rfl ?_
        refine r_iload_n d_Tb_recognise_29 rfl ?_
        refine n_icmp_ge d_Tb_recognise_30 (by omega) (by omega) (fun hc2 => ?_) (fun hc2 => ?_)
        · omega
        · refine r_aload_n d_Tb_recognise_33 rfl ?_
          refine g_getr (b := 398) d_Tb_recognise_34 f_Tb_12 rfl rfl rfl ?_
          refine g_getr (b := 399) d_Tb_recognise_37 f_Tb_49 rfl rfl rfl ?_
          refine r_iload_n d_Tb_recognise_40 rfl ?_
          refine r_aload_n d_Tb_recognise_41 rfl ?_
          refine r_iload_n d_Tb_recognise_42 rfl ?_
          refine g_aald (b := (47+k)) (t := 5) (N := 10) d_Tb_recognise_43 rfl (by decide) (by omega) (by omega) (g_free (by omega)) ?_
          refine r_iconst (v := nI 0) d_Tb_recognise_44 (by decide) ?_
          refine g_iald d_Tb_recognise_45 (t_free (by omega)) (by omega) (by omega) ?_
          refine r_top (y := nI (fr k 0)) (by rw [h3 _ (by omega) (by omega)]; exact (hF k (by omega) 0 (by omega)).1) ?_
          refine g_iast d_Tb_recognise_46 rfl (by omega) (by omega) ?_
          generalize hM3 : upm M2 399 k (nI (fr k 0)) = M3
          have e0 : ∀ b, b ≠ 399 → M3 b = M2 b := fun b hb => by rw [← hM3, upm_ne _ _ _ hb]
          refine r_aload_n d_Tb_recognise_47 rfl ?_
          refine g_getr (b := 398) d_Tb_recognise_48 f_Tb_12 rfl rfl rfl ?_
          refine g_getr (b := 400) d_Tb_recognise_51 f_Tb_58 rfl rfl rfl ?_
          refine r_iload_n d_Tb_recognise_54 rfl ?_
          refine r_aload_n d_Tb_recognise_55 rfl ?_
          refine r_iload_n d_Tb_recognise_56 rfl ?_
          refine g_aald (b := (47+k)) (t := 5) (N := 10) d_Tb_recognise_57 rfl (by decide) (by omega) (by omega) (g_free (by omega)) ?_
          refine r_iconst (v := nI 1) d_Tb_recognise_58 (by decide) ?_
          refine g_iald d_Tb_recognise_59 (t_free (by omega)) (by omega) (by omega) ?_
          refine r_top (y := nI (fr k 1)) (by rw [e0 _ (by omega), h3 _ (by omega) (by omega)]; exact (hF k (by omega) 1 (by omega)).1) ?_
          refine g_iast d_Tb_recognise_60 rfl (by omega) (by omega) ?_
          refine n_iinc (c := 1) (L' := [some (.ref 397), some (.ref 46), some (.int (nI s)), some (.int (nI (k + 1))), none]) d_Tb_recognise_61 rfl rfl (by decide) rfl ?_
          refine r_goto d_Tb_recognise_64 ?_
          refine ih (k + 1) _ (by omega) (fun j hj => ?_) (fun j hj => ?_) (fun b b1 b2 => by rw [upm_ne _ _ _ b2, e0 b b1]; exact h3 b b1 b2)
          · rw [upm_ne _ _ _ (by decide), ← hM3, upm_at]
            by_cases e : j = k
            · subst e; rw [if_pos rfl, if_pos (by omega)]
            · rw [if_neg e, h1 j hj]
              by_cases e2 : j < k
              · rw [if_pos e2, if_pos (by omega)]
              · rw [if_neg e2, if_neg (by omega)]
          · rw [upm_at, e0 400 (by decide)]
            by_cases e : j = k
            · subst e; rw [if_pos rfl, if_pos (by omega)]
            · rw [if_neg e, h2 j hj]
              by_cases e2 : j < k
              · rw [if_pos e2, if_pos (by omega)]
              · rw [if_neg e2, if_neg (by omega)]
      | zero =>
        intro k M2 hk h1 h2 h3
        obtain rfl : k = s := by omega
        have q1 : OKr M2 399 (rcG k fr) := fun j hj => ⟨by
          rw [h1 j hj, rcG]
          by_cases e : j < k
          · rw [if_pos e, if_pos e]
          · rw [if_neg e, if_neg e, oneS, if_neg (by omega)], by
          unfold rcG
          split
          · exact (hF j hj 0 (by omega)).2
          · decide⟩
        have q2 : OKr M2 400 (fun j => if j < k then fr j 1 else 0) := fun j hj => ⟨by
          rw [h2 j hj]
          show _ = nI (if j < k then fr j 1 else 0)
          by_cases e : j < k
          · rw [if_pos e, if_pos e]
          · rw [if_neg e, if_neg e, tS, if_neg (by omega)], by
          try dsimp only
          split
          · exact (hF j hj 1 (by omega)).2
          · decide⟩
        refine r_iload_n d_Tb_recognise_28 rfl ?_
        refine r_iload_n d_Tb_recognise_29 rfl ?_
        refine n_icmp_ge d_Tb_recognise_30 (by omega) (by omega) (fun hc2 => ?_) (fun hc2 => ?_)
        · refine r_aload_n d_Tb_recognise_67 rfl ?_
          refine g_getr (b := 398) d_Tb_recognise_68 f_Tb_12 rfl rfl rfl ?_
          refine g_getr (b := 400) d_Tb_recognise_71 f_Tb_58 rfl rfl rfl ?_
          refine r_aload_n d_Tb_recognise_74 rfl ?_
          refine g_getr (b := 398) d_Tb_recognise_75 f_Tb_12 rfl rfl rfl ?_
          refine g_getr (b := 399) d_Tb_recognise_78 f_Tb_49 rfl rfl rfl ?_
          refine r_iload_n d_Tb_recognise_81 rfl ?_
          refine g_Sv (av := [.ref 400, .ref 399, .int (nI k)]) d_Tb_recognise_82 k_Tb_79 ws_Rw_divide (by decide) rfl rfl (Nat.le_of_ble_eq_true rfl) (c_Rw_divide rfl rfl (by decide) hs q2 q1) ?_
          rintro M4 m4
          have q4 : TbA M4 398 (rcG k fr) (rcF k fr) := ⟨m4.okn (by decide) q1, (m4.ok (fun j hj => by
            try dsimp only
            split
            · exact dv_lt _ _ _
            · decide)).to (fun j hj => by
            unfold rcF
            by_cases e : j < k
            · rw [if_pos e, if_pos e]
              exact dv_congr (fun i hi => by rw [if_pos (by omega)]) (fun i hi => by rw [rcG, if_pos (by omega)])
            · rw [if_neg e, if_neg e, if_neg e])⟩
          have hB4 : BF M M4 := BF.tab hB (fun b hb => by rw [m4.ne (by omega)]; exact h3 b (by omega) (by omega)) (by decide) (by decide) q4
          refine r_aload_n d_Tb_recognise_85 rfl ?_
          refine g_getr (b := 398) d_Tb_recognise_86 f_Tb_12 rfl rfl rfl ?_
          refine r_iload_n d_Tb_recognise_89 rfl ?_
          refine r_aload_n d_Tb_recognise_90 rfl ?_
          refine g_getr (b := 410) d_Tb_recognise_91 f_Tb_36 rfl rfl rfl ?_
          refine g_Sv (av := [.ref 398, .int (nI k), .ref 410]) d_Tb_recognise_94 k_Tb_116 ws_Tb_fillColumns (by decide) rfl rfl (Nat.le_of_ble_eq_true rfl) (c_Tb_fillColumns isTb_398 isCo_410 hs0 hs (by decide) q4) ?_
          rintro M5 ⟨m5, m6⟩
          have hB5 := hB4.trans (BF.cols hB4.2 m6 (by decide) (by omega) m5)
          have q5 : TbA M5 398 (rcG k fr) (rcF k fr) := q4.kept (m6 _ (by omega)) (m6 _ (by omega))
          have f5 : ∀ i, i < 10 → OKr M5 (47 + i) (fr i) := fun i hi => (hF i hi).kept (hB5.1 _ (by omega))
          refine r_iconst (v := nI 0) d_Tb_recognise_97 (by decide) ?_
          refine r_istore_n (L' := [some (.ref 397), some (.ref 46), some (.int (nI k)), some (.int (nI 0)), none]) d_Tb_recognise_98 (by decide) rfl ?_
          suffices H : ∀ d q u, q + d = k → (∀ i j, i < q → j ≤ i → ¬ (fr i j ≠ col k (rcG k fr) (rcF k fr) j i)) → Rn o l m_Tb_recognise (0, 0) 99 [some (.ref 397), some (.ref 46), some (.int (nI k)), some (.int (nI q)), u] [] (gh n M5) (QI n fun r M' => BF M M' ∧ (((fr 0 0 = 0 ∨ fr 1 1 = 0) ∧ r = nI 100) ∨ (fr 0 0 ≠ 0 ∧ fr 1 1 ≠ 0 ∧ FD k (fun i j => fr i j ≠ col k (rcG k fr) (rcF k fr) j i) r ∧ TbA M' 398 (rcG k fr) (rcF k fr)))) from H k 0 _ (by omega) (fun i j h => by omega)
          intro d
          induction d with
          | zero =>
            intro q u hq h0
            obtain rfl : q = k := by omega
            refine r_iload_n d_Tb_recognise_99 rfl ?_
            refine r_iload_n d_Tb_recognise_100 rfl ?_
            refine n_icmp_ge d_Tb_recognise_101 (by omega) (by omega) (fun hc3 => ?_) (fun hc3 => ?_)
            · refine r_iconst (v := -1) d_Tb_recognise_151 (by decide) ?_
              refine g_reti d_Tb_recognise_152 rfl ?_
              exact ⟨hB5, Or.inr ⟨hc, hc1, Or.inr ⟨rfl, h0⟩, q5⟩⟩
            · omega
          | succ d ih =>
            intro q u hq h0
            refine r_iload_n d_Tb_recognise_99 rfl ?_
            refine r_iload_n d_Tb_recognise_100 rfl ?_
            refine n_icmp_ge d_Tb_recognise_101 (by omega) (by omega) (fun hc3 => ?_) (fun hc3 => ?_)
            · omega
            · refine r_iconst (v := nI 0) d_Tb_recognise_104 (by decide) ?_
              refine r_istore (L' := [some (.ref 397), some (.ref 46), some (.int (nI k)), some (.int (nI q)), some (.int (nI 0))]) d_Tb_recognise_105 (by decide) rfl ?_
              suffices H2 : ∀ d2 r, r + d2 = q + 1 → (∀ j, j < r → ¬ (fr q j ≠ col k (rcG k fr) (rcF k fr) j q)) → Rn o l m_Tb_recognise (0, 0) 107 [some (.ref 397), some (.ref 46), some (.int (nI k)), some (.int (nI q)), some (.int (nI r))] [] (gh n M5) (QI n fun r M' => BF M M' ∧ (((fr 0 0 = 0 ∨ fr 1 1 = 0) ∧ r = nI 100) ∨ (fr 0 0 ≠ 0 ∧ fr 1 1 ≠ 0 ∧ FD k (fun i j => fr i j ≠ col k (rcG k fr) (rcF k fr) j i) r ∧ TbA M' 398 (rcG k fr) (rcF k fr)))) from H2 (q + 1) 0 (by omega) (fun j h => by omega)
              intro d2
              induction d2 with
              | zero =>
                intro r hr h1
                obtain rfl : r = q + 1 := by omega
                refine r_iload d_Tb_recognise_107 rfl ?_
                refine r_iload_n d_Tb_recognise_109 rfl ?_
                refine n_icmp_gt d_Tb_recognise_110 (by omega) (by omega) (fun hc4 => ?_) (fun hc4 => ?_)
                · refine n_iinc (c := 1) (L' := [some (.ref 397), some (.ref 46), some (.int (nI k)), some (.int (nI (q + 1))), some (.int (nI (q + 1)))]) d_Tb_recognise_145 rfl rfl (by decide) rfl ?_
                  refine r_goto d_Tb_recognise_148 ?_
                  refine ih (q + 1) _ (by omega) (fun i j hi hj => ?_)
                  by_cases e : i = q
                  · subst e; exact h1 j (by omega)
                  · exact h0 i j (by omega) hj
                · omega
              | succ d2 ih2 =>
                intro r hr h1
                refine r_iload d_Tb_recognise_107 rfl ?_
                refine r_iload_n d_Tb_recognise_109 rfl ?_
                refine n_icmp_gt d_Tb_recognise_110 (by omega) (by omega) (fun hc4 => ?_) (fun hc4 => ?_)
                · omega
                · refine r_aload_n d_Tb_recognise_113 rfl ?_
                  refine r_iload_n d_Tb_recognise_114 rfl ?_
                  refine g_aald (b := (47+q)) (t := 5) (N := 10) d_Tb_recognise_115 rfl (by decide) (by omega) (by omega) (g_free (by omega)) ?_
                  refine r_iload d_Tb_recognise_116 rfl ?_
                  refine g_iald d_Tb_recognise_118 (t_free (by omega)) (by omega) (by omega) ?_
                  refine r_top (y := nI (fr q r)) ((f5 q (by omega) r (by omega)).1) ?_
                  refine r_aload_n d_Tb_recognise_119 rfl ?_
                  refine g_getr (b := 410) d_Tb_recognise_120 f_Tb_36 rfl rfl rfl ?_
                  refine r_iload d_Tb_recognise_123 rfl ?_
                  refine g_aald (b := (411+r)) (t := 5) (N := 10) d_Tb_recognise_125 rfl (by decide) (by omega) (by omega) (g_cols (by omega)) ?_
                  refine r_iload_n d_Tb_recognise_126 rfl ?_
                  refine g_iald d_Tb_recognise_127 (t_cols (by omega)) (by omega) (by omega) ?_
                  refine r_top (y := nI (col k (rcG k fr) (rcF k fr) r q)) ((m5 r (by omega) q (by omega)).1) ?_
                  refine n_icmp_eq d_Tb_recognise_128 (by have h9 := (f5 q (by omega) r (by omega)).2; omega) (by have h9 := (m5 r (by omega) q (by omega)).2; omega) (fun h9 => ?_) (fun h9 => ?_)
                  · refine n_iinc (c := 1) (L' := [some (.ref 397), some (.ref 46), some (.int (nI k)), some (.int (nI q)), some (.int (nI (r + 1)))]) d_Tb_recognise_139 rfl rfl (by decide) rfl ?_
                    refine r_goto d_Tb_recognise_142 ?_
                    refine ih2 (r + 1) (by omega) (fun j hj => ?_)
                    by_cases e : j = r
                    · rw [e]; exact fun z => z h9
                    · exact h1 j (by omega)
                  · refine r_bipush (v := nI 10) d_Tb_recognise_131 (by decide) ?_
                    refine r_iload_n d_Tb_recognise_133 rfl ?_
                    refine n_imul d_Tb_recognise_134 ?_
                    refine r_iload d_Tb_recognise_135 rfl ?_
                    refine n_iadd d_Tb_recognise_137 ?_
                    refine g_reti d_Tb_recognise_138 rfl ?_
                    refine ⟨hB5, Or.inr ⟨hc, hc1, Or.inl ⟨q, r, hc3, by omega, h9, rfl, fun i' j' hj hlt => ?_⟩, q5⟩⟩
                    rcases hlt with hlt | ⟨rfl, hlt⟩
                    · exact h0 i' j' hlt hj
                    · exact h1 j' hlt
        · omega
    · refine r_bipush (v := nI 100) d_Tb_recognise_16 (by decide) ?_
      refine g_reti d_Tb_recognise_18 rfl ?_
      exact ⟨BF.rf hB, Or.inl ⟨Or.inr hc1, rfl⟩⟩
end C41
