/-- what turn() makes: by how -/
def trn (h : Nat) (x : Nat → Nat) (s j : Nat) : Nat :=
  if h = 0 then (if j = 0 then 0 else x (j - 1))
  else if h = 1 then (if j < s - 1 then x (j + 1) else 0)
  else if h = 2 then (if j < s - 1 then x (j + 1) * (j + 1) % 1000003 else 0)
  else if h = 3 then (if j = 0 then 0 else x (j - 1) * nv j % 1000003)
  else if h = 4 then rvs x s j
  else dv oneS x j
theorem trn_0 (x : Nat → Nat) (s j : Nat) : trn 0 x s j = if j = 0 then 0 else x (j - 1) := by unfold trn; rw [if_pos rfl]
theorem trn_1 (x : Nat → Nat) (s j : Nat) : trn 1 x s j = if j < s - 1 then x (j + 1) else 0 := by unfold trn; rw [if_neg (by decide), if_pos rfl]
theorem trn_2 (x : Nat → Nat) (s j : Nat) : trn 2 x s j = if j < s - 1 then x (j + 1) * (j + 1) % 1000003 else 0 := by unfold trn; rw [if_neg (by decide), if_neg (by decide), if_pos rfl]
theorem trn_3 (x : Nat → Nat) (s j : Nat) : trn 3 x s j = if j = 0 then 0 else x (j - 1) * nv j % 1000003 := by unfold trn; rw [if_neg (by decide), if_neg (by decide), if_neg (by decide), if_pos rfl]
theorem trn_4 (x : Nat → Nat) (s j : Nat) : trn 4 x s j = rvs x s j := by unfold trn; rw [if_neg (by decide), if_neg (by decide), if_neg (by decide), if_neg (by decide), if_pos rfl]
theorem trn_5 (x : Nat → Nat) (s j : Nat) : trn 5 x s j = dv oneS x j := by unfold trn; rw [if_neg (by decide), if_neg (by decide), if_neg (by decide), if_neg (by decide), if_neg (by decide)]
def trnOk (h : Nat) (x : Nat → Nat) : Prop := h < 6 ∧ (h = 4 → x 0 = 0 ∧ x 1 ≠ 0) ∧ (h = 5 → x 0 ≠ 0)
theorem trn_lt {h : Nat} {x : Nat → Nat} {s j : Nat} (hx : ∀ i, i < 10 → x i < 1000003) (hj : j < 10) (hs : s ≤ 10) : trn h x s j < 1000003 := by
  unfold trn
  split
  · split
    · decide
    · exact hx _ (by omega)
  · split
    · split
      · exact hx _ (by omega)
      · decide
    · split
      · split
        · exact Nat.mod_lt _ (by decide)
        · decide
      · split
        · split
          · decide
          · exact Nat.mod_lt _ (by decide)
        · split
          · exact rvs_lt _ _ _
          · exact dv_lt _ _ _
section C36
variable {o : OM} {l : Launch} {n : Nat} {M : Mem}
theorem c_Sb_differentiate {a s : Nat} {x : Nat → Nat} (ha : gT a = (1, 10)) (ha4 : a ≠ 394) (hs0 : 2 ≤ s) (hs : s ≤ 10) (hx : OKr M a x) (hO : Ok M 394) : CV o l m_Sb_differentiate n [.ref 393, .ref a, .int (nI s)] M (fun M' => RS M 394 s (trn 2 x s) M') := by
  refine cvo_of rfl rfl rfl (Nat.le_of_ble_eq_true rfl) ?_
  obtain ⟨w, hw⟩ := hO
  refine r_iconst (v := nI 1) d_Sb_differentiate_0 (by decide) ?_
  refine r_istore_n (L' := [some (.ref 393), some (.ref a), some (.int (nI s)), some (.int (nI 1))]) d_Sb_differentiate_1 (by decide) rfl ?_
  suffices H : ∀ d k M1, k + d = s → 1 ≤ k → RW M 394 (fun j => if j < k - 1 then trn 2 x s j else w j) M1 → Rn o l m_Sb_differentiate (0, 0) 2 [some (.ref 393), some (.ref a), some (.int (nI s)), some (.int (nI k))] [] (gh n M1) (QV n fun M' => RS M 394 s (trn 2 x s) M') from H (s - 1) 1 M (by omega) (Nat.le_refl _) ((RW.rf hw).to (fun j hj => by simp))
  intro d
  induction d with
  | zero =>
    intro k M1 hk hk1 h1
    obtain rfl : k = s := by omega
    refine r_iload_n d_Sb_differentiate_2 rfl ?_
    refine r_iload_n d_Sb_differentiate_3 rfl ?_
    refine n_icmp_ge d_Sb_differentiate_4 (by omega) (by omega) (fun hc => ?_) (fun hc => ?_)
    · refine r_aload_n d_Sb_differentiate_28 rfl ?_
      refine g_getr (b := 394) d_Sb_differentiate_29 f_Sb_9 rfl rfl rfl ?_
      refine r_iload_n d_Sb_differentiate_32 rfl ?_
      refine r_iconst (v := nI 1) d_Sb_differentiate_33 (by decide) ?_
      refine n_isub d_Sb_differentiate_34 (by omega) ?_
      refine r_iconst (v := nI 0) d_Sb_differentiate_35 (by decide) ?_
      refine g_iast d_Sb_differentiate_36 rfl (by omega) (by omega) ?_
      refine g_retv d_Sb_differentiate_37 rfl ?_
      refine ⟨_, h1.upd, fun j hj => ?_, fun j hj => ?_⟩
      · try dsimp only
        split
        · decide
        · split
          · exact trn_lt (fun i hi => (hx i hi).2) hj (by omega)
          · exact (hw j hj).2
      · try dsimp only
        by_cases e : j = k - 1
        · rw [if_pos e]; subst e; simp [trn]
        · rw [if_neg e, if_pos (by omega)]
    · omega
  | succ d ih =>
    intro k M1 hk hk1 h1
    refine r_iload_n d_Sb_differentiate_2 rfl ?_
    refine r_iload_n d_Sb_differentiate_3 rfl ?_
    refine n_icmp_ge d_Sb_differentiate_4 (by omega) (by omega) (fun hc => ?_) (fun hc => ?_)
    · omega
    · refine r_aload_n d_Sb_differentiate_7 rfl ?_
      refine g_getr (b := 394) d_Sb_differentiate_8 f_Sb_9 rfl rfl rfl ?_
      refine r_iload_n d_Sb_differentiate_11 rfl ?_
      refine r_iconst (v := nI 1) d_Sb_differentiate_12 (by decide) ?_
      refine n_isub d_Sb_differentiate_13 (by omega) ?_
      refine r_aload_n d_Sb_differentiate_14 rfl ?_
      refine r_iload_n d_Sb_differentiate_15 rfl ?_
      refine g_iald d_Sb_differentiate_16 ha (by omega) (by omega) ?_
      refine r_top (y := nI (x k)) (by rw [h1.ne ha4]; exact (hx k (by omega)).1) ?_
      refine r_iload_n d_Sb_differentiate_17 rfl ?_
      refine g_Si (av := [.int (nI (x k)), .int (nI k)]) d_Sb_differentiate_18 k_Sb_67 ws_Rw_product (by decide) rfl rfl (Nat.le_of_ble_eq_true rfl) (c_Rw_product (hx k (by omega)).2 (by omega)) ?_
      rintro r M7 ⟨rfl, rfl⟩
      refine g_iast d_Sb_differentiate_21 rfl (by omega) (by omega) ?_
      refine n_iinc (c := 1) (L' := [some (.ref 393), some (.ref a), some (.int (nI s)), some (.int (nI (k + 1)))]) d_Sb_differentiate_22 rfl rfl (by decide) rfl ?_
      refine r_goto d_Sb_differentiate_25 ?_
      refine ih (k + 1) _ (by omega) (by omega) (h1.upd.to (fun j hj => ?_))
      by_cases e : j = k - 1
      · rw [if_pos e, if_pos (by omega)]
        rw [trn_2, if_pos (by omega), show j + 1 = k by omega]
      · rw [if_neg e]
        by_cases h9 : j < k - 1
        · rw [if_pos h9, if_pos (by omega)]
        · rw [if_neg h9, if_neg (by omega)]
theorem c_Sb_integrate {a s : Nat} {x : Nat → Nat} (ha : gT a = (1, 10)) (ha4 : a ≠ 394) (hs0 : 2 ≤ s) (hs : s ≤ 10) (hx : OKr M a x) (hO : Ok M 394) : CV o l m_Sb_integrate n [.ref 393, .ref a, .int (nI s)] M (fun M' => RS M 394 s (trn 3 x s) M') := by
  refine cvo_of rfl rfl rfl (Nat.le_of_ble_eq_true rfl) ?_
  obtain ⟨w, hw⟩ := hO
  refine r_aload_n d_Sb_integrate_0 rfl ?_
  refine g_getr (b := 394) d_Sb_integrate_1 f_Sb_9 rfl rfl rfl ?_
  refine r_iconst (v := nI 0) d_Sb_integrate_4 (by decide) ?_
  refine r_iconst (v := nI 0) d_Sb_integrate_5 (by decide) ?_
  refine g_iast d_Sb_integrate_6 rfl (by omega) (by omega) ?_
  refine r_iconst (v := nI 1) d_Sb_integrate_7 (by decide) ?_
  refine r_istore_n (L' := [some (.ref 393), some (.ref a), some (.int (nI s)), some (.int (nI 1))]) d_Sb_integrate_8 (by decide) rfl ?_
  suffices H : ∀ d k M1, k + d = s → 1 ≤ k → RW M 394 (fun j => if j < k then trn 3 x s j else w j) M1 → Rn o l m_Sb_integrate (0, 0) 9 [some (.ref 393), some (.ref a), some (.int (nI s)), some (.int (nI k))] [] (gh n M1) (QV n fun M' => RS M 394 s (trn 3 x s) M') from H (s - 1) 1 _ (by omega) (Nat.le_refl _) (((RW.rf hw).upd).to (fun j hj => by
    by_cases e : j = 0
    · subst e; simp [trn]
    · rw [if_neg e, if_neg (by omega)]))
  intro d
  induction d with
  | zero =>
    intro k M1 hk hk1 h1
    obtain rfl : k = s := by omega
    refine r_iload_n d_Sb_integrate_9 rfl ?_
    refine r_iload_n d_Sb_integrate_10 rfl ?_
    refine n_icmp_ge d_Sb_integrate_11 (by omega) (by omega) (fun hc => ?_) (fun hc => ?_)
    · refine g_retv d_Sb_integrate_38 rfl ?_
      refine ⟨_, h1, fun j hj => ?_, fun j hj => by rw [if_pos hj]⟩
      try dsimp only
      split
      · exact trn_lt (fun i hi => (hx i hi).2) hj (by omega)
      · exact (hw j hj).2
    · omega
  | succ d ih =>
    intro k M1 hk hk1 h1
    refine r_iload_n d_Sb_integrate_9 rfl ?_
    refine r_iload_n d_Sb_integrate_10 rfl ?_
    refine n_icmp_ge d_Sb_integrate_11 (by omega) (by omega) (fun hc => ?_) (fun hc => ?_)
    · omega
    · refine r_aload_n d_Sb_integrate_14 rfl ?_
      refine g_getr (b := 394) d_Sb_integrate_15 f_Sb_9 rfl rfl rfl ?_
      refine r_iload_n d_Sb_integrate_18 rfl ?_
      refine r_aload_n d_Sb_integrate_19 rfl ?_
      refine r_iload_n d_Sb_integrate_20 rfl ?_
      refine r_iconst (v := nI 1) d_Sb_integrate_21 (by decide) ?_
      refine n_isub d_Sb_integrate_22 (by omega) ?_
      refine g_iald d_Sb_integrate_23 ha (by omega) (by omega) ?_
      refine r_top (y := nI (x (k - 1))) (by rw [h1.ne ha4]; exact (hx (k - 1) (by omega)).1) ?_
      refine r_iload_n d_Sb_integrate_24 rfl ?_
      refine g_Si (av := [.int (nI k)]) d_Sb_integrate_25 k_Sb_71 ws_Rw_inverse (by decide) rfl rfl (Nat.le_of_ble_eq_true rfl) (c_Rw_inverse (by omega)) ?_
      rintro r M7 ⟨rfl, rfl⟩
      refine g_Si (av := [.int (nI (x (k - 1))), .int (nI (nv k))]) d_Sb_integrate_28 k_Sb_67 ws_Rw_product (by decide) rfl rfl (Nat.le_of_ble_eq_true rfl) (c_Rw_product (hx (k - 1) (by omega)).2 (nv_lt _)) ?_
      rintro r M7 ⟨rfl, rfl⟩
      refine g_iast d_Sb_integrate_31 rfl (by omega) (by omega) ?_
      refine n_iinc (c := 1) (L' := [some (.ref 393), some (.ref a), some (.int (nI s)), some (.int (nI (k + 1)))]) d_Sb_integrate_32 rfl rfl (by decide) rfl ?_
      refine r_goto d_Sb_integrate_35 ?_
      refine ih (k + 1) _ (by omega) (by omega) (h1.upd.to (fun j hj => ?_))
      by_cases e : j = k
      · subst e
        rw [if_pos rfl, if_pos (by omega)]
        rw [trn_3, if_neg (by omega)]
      · rw [if_neg e]
        by_cases h9 : j < k
        · rw [if_pos h9, if_pos (by omega)]
        · rw [if_neg h9, if_neg (by omega)]
/-- what a call on the first bench leaves: the rows 394 to 396 may be others, of residues still -/
def B3 (M M' : Mem) : Prop := (∀ a, a ≠ 394 → a ≠ 395 → a ≠ 396 → M' a = M a) ∧ Ok M' 394 ∧ Ok M' 395 ∧ Ok M' 396
theorem c_Sb_turnAbout {a s : Nat} {how : Int32} {x : Nat → Nat} (ha : gT a = (1, 10)) (ha4 : a ≠ 394) (ha5 : a ≠ 395) (hs0 : 2 ≤ s) (hs : s ≤ 10) (hx : OKr M a x) (hO : Ok M 394) (hO2 : Ok M 395) (hO3 : Ok M 396) :
    CI o l m_Sb_turnAbout n [.ref 393, .ref a, .int how, .int (nI s)] M (fun r M' => B3 M M' ∧ ((∃ h, how = nI h ∧ trnOk h x ∧ r = nI 1 ∧ ∀ j, j < s → M' 394 j = nI (trn h x s j)) ∨ ((∀ h, how = nI h → ¬ trnOk h x) ∧ r = nI 0))) := by
  refine ci_of rfl rfl rfl (Nat.le_of_ble_eq_true rfl) ?_
  have b3 : ∀ {w : Nat → Nat} {M2 : Mem}, RS M 394 s w M2 → B3 M M2 := fun h => ⟨fun b h1 _ _ => h.ne h1, h.ok, hO2.kept (h.ne (by decide)), hO3.kept (h.ne (by decide))⟩
  have b0 : B3 M M := ⟨fun _ _ _ _ => rfl, hO, hO2, hO3⟩
  rcases pk_ix how (n := 6) (by decide) with hlt | hge | ⟨h, hh, rfl⟩
  · refine r_iload_n d_Sb_turnAbout_0 rfl ?_
    refine r_tsOut (tgt := 137) d_Sb_turnAbout_1 (Or.inl (by have := Int32.lt_iff_toInt_lt.mp hlt; simpa using this)) rfl ?_
    refine r_iconst (v := nI 0) d_Sb_turnAbout_137 (by decide) ?_
    refine g_retz d_Sb_turnAbout_138 rfl (by decide) ?_
    refine ⟨b0, Or.inr ⟨fun h e q => ?_, rfl⟩⟩
    rw [e] at hlt
    exact nI_pos (by have := q.1; omega) hlt
  · refine r_iload_n d_Sb_turnAbout_0 rfl ?_
    refine r_tsOut (tgt := 137) d_Sb_turnAbout_1 (Or.inr (by have := Int32.le_iff_toInt_le.mp hge; rw [nI_toInt (by omega)] at this; omega)) rfl ?_
    refine r_iconst (v := nI 0) d_Sb_turnAbout_137 (by decide) ?_
    refine g_retz d_Sb_turnAbout_138 rfl (by decide) ?_
    refine ⟨b0, Or.inr ⟨fun h e q => ?_, rfl⟩⟩
    rw [e] at hge
    have h5 := q.1
    exact absurd ((nI_leI (by omega) (by omega)).mp hge) (by omega)
  · rcases (show h = 0 ∨ h = 1 ∨ h = 2 ∨ h = 3 ∨ h = 4 ∨ h = 5 by omega) with rfl | rfl | rfl | rfl | rfl | rfl
    · obtain ⟨w, hw⟩ := hO
      refine r_iload_n d_Sb_turnAbout_0 rfl ?_
      refine r_tsIn (tgt := 40) d_Sb_turnAbout_1 (by decide) (by decide) rfl rfl ?_
      refine r_aload_n d_Sb_turnAbout_40 rfl ?_
      refine r_iconst (v := nI 0) d_Sb_turnAbout_41 (by decide) ?_
      refine r_aload_n d_Sb_turnAbout_42 rfl ?_
      refine g_getr (b := 394) d_Sb_turnAbout_43 f_Sb_9 rfl rfl rfl ?_
      refine r_iconst (v := nI 1) d_Sb_turnAbout_46 (by decide) ?_
      refine r_iload_n d_Sb_turnAbout_47 rfl ?_
      refine r_iconst (v := nI 1) d_Sb_turnAbout_48 (by decide) ?_
      refine n_isub d_Sb_turnAbout_49 (by omega) ?_
      refine g_copy d_Sb_turnAbout_50 k_Sb_21 (by decide) ha rfl (by omega) (by omega) (by omega) (Nat.le_of_ble_eq_true rfl) ?_
      refine r_aload_n d_Sb_turnAbout_53 rfl ?_
      refine g_getr (b := 394) d_Sb_turnAbout_54 f_Sb_9 rfl rfl rfl ?_
      refine r_iconst (v := nI 0) d_Sb_turnAbout_57 (by decide) ?_
      refine r_iconst (v := nI 0) d_Sb_turnAbout_58 (by decide) ?_
      refine g_iast d_Sb_turnAbout_59 rfl (by omega) (by omega) ?_
      refine r_iconst (v := nI 1) d_Sb_turnAbout_60 (by decide) ?_
      refine g_retz d_Sb_turnAbout_61 rfl (by decide) ?_
      have k1 : RW M 394 (fun j => if j = 0 then 0 else if j < s then x (j - 1) else w j) (upm (wr M 394 (va_cpy (M a) (M 394) 0 1 (s - 1))) 394 0 (nI 0)) := by
        refine ⟨_, upm_w _ _ _ _ _, fun j hj => ?_⟩
        dsimp only
        by_cases e : j = 0
        · rw [if_pos e, if_pos e]
        · rw [if_neg e, if_neg e, va_cpy]
          by_cases e2 : j < s
          · rw [if_pos (by omega), if_pos e2, Nat.zero_add]; exact (hx _ (by omega)).1
          · rw [if_neg (by omega), if_neg e2]; exact (hw j hj).1
      have k2 : RS M 394 s (trn 0 x s) _ := ⟨_, k1, fun j hj => by
        try dsimp only
        split
        · decide
        · split
          · exact (hx _ (by omega)).2
          · exact (hw j hj).2, fun j hj => by
        rw [trn_0]
        by_cases e : j = 0
        · rw [if_pos e, if_pos e]
        · rw [if_neg e, if_neg e, if_pos hj]⟩
      exact ⟨b3 k2, Or.inl ⟨0, rfl, ⟨by decide, fun e => absurd e (by decide), fun e => absurd e (by decide)⟩, rfl, fun j hj => k2.at hs hj⟩⟩
    · obtain ⟨w, hw⟩ := hO
      refine r_iload_n d_Sb_turnAbout_0 rfl ?_
      refine r_tsIn (tgt := 62) d_Sb_turnAbout_1 (by decide) (by decide) rfl rfl ?_
      refine r_aload_n d_Sb_turnAbout_62 rfl ?_
      refine r_iload_n d_Sb_turnAbout_63 rfl ?_
      refine r_aload_n d_Sb_turnAbout_64 rfl ?_
      refine g_getr (b := 394) d_Sb_turnAbout_65 f_Sb_9 rfl rfl rfl ?_
      refine g_Sv (av := [.ref a, .int (nI s), .ref 394]) d_Sb_turnAbout_68 k_Sb_46 ws_Rw_oneAhead (by decide) rfl rfl (Nat.le_of_ble_eq_true rfl) (c_Rw_oneAhead ha rfl ha4 (by omega) hs hx (fun j hj => (hw j hj).1)) ?_
      rintro M2 h2
      refine r_iconst (v := nI 1) d_Sb_turnAbout_71 (by decide) ?_
      refine g_retz d_Sb_turnAbout_72 rfl (by decide) ?_
      have k2 : RS M 394 s (trn 1 x s) M2 := ⟨_, h2, fun j hj => by
        try dsimp only
        split
        · exact (hx _ (by omega)).2
        · split
          · decide
          · exact (hw j hj).2, fun j hj => by
        rw [trn_1]
        by_cases e : j < s - 1
        · rw [if_pos e, if_pos e]
        · rw [if_neg e, if_neg e, if_pos (by omega)]⟩
      exact ⟨b3 k2, Or.inl ⟨1, rfl, ⟨by decide, fun e => absurd e (by decide), fun e => absurd e (by decide)⟩, rfl, fun j hj => k2.at hs hj⟩⟩
    · refine r_iload_n d_Sb_turnAbout_0 rfl ?_
      refine r_tsIn (tgt := 73) d_Sb_turnAbout_1 (by decide) (by decide) rfl rfl ?_
      refine r_aload_n d_Sb_turnAbout_73 rfl ?_
      refine r_aload_n d_Sb_turnAbout_74 rfl ?_
      refine r_iload_n d_Sb_turnAbout_75 rfl ?_
      refine g_Vv (av := [.ref a, .int (nI s)]) d_Sb_turnAbout_76 k_Sb_50 ws_Sb_differentiate (by decide) rfl rfl (Nat.le_of_ble_eq_true rfl) rfl (c_Sb_differentiate ha ha4 hs0 hs hx hO) ?_
      rintro M2 k2
      refine r_iconst (v := nI 1) d_Sb_turnAbout_79 (by decide) ?_
      refine g_retz d_Sb_turnAbout_80 rfl (by decide) ?_
      exact ⟨b3 k2, Or.inl ⟨2, rfl, ⟨by decide, fun e => absurd e (by decide), fun e => absurd e (by decide)⟩, rfl, fun j hj => k2.at hs hj⟩⟩
    · refine r_iload_n d_Sb_turnAbout_0 rfl ?_
      refine r_tsIn (tgt := 81) d_Sb_turnAbout_1 (by decide) (by decide) rfl rfl ?_
      refine r_aload_n d_Sb_turnAbout_81 rfl ?_
      refine r_aload_n d_Sb_turnAbout_82 rfl ?_
      refine r_iload_n d_Sb_turnAbout_83 rfl ?_
      refine g_Vv (av := [.ref a, .int (nI s)]) d_Sb_turnAbout_84 k_Sb_54 ws_Sb_integrate (by decide) rfl rfl (Nat.le_of_ble_eq_true rfl) rfl (c_Sb_integrate ha ha4 hs0 hs hx hO) ?_
      rintro M2 k2
      refine r_iconst (v := nI 1) d_Sb_turnAbout_87 (by decide) ?_
      refine g_retz d_Sb_turnAbout_88 rfl (by decide) ?_
      exact ⟨b3 k2, Or.inl ⟨3, rfl, ⟨by decide, fun e => absurd e (by decide), fun e => absurd e (by decide)⟩, rfl, fun j hj => k2.at hs hj⟩⟩
    · refine r_iload_n d_Sb_turnAbout_0 rfl ?_
      refine r_tsIn (tgt := 89) d_Sb_turnAbout_1 (by decide) (by decide) rfl rfl ?_
      refine r_aload_n d_Sb_turnAbout_89 rfl ?_
      refine g_Si (av := [.ref a]) d_Sb_turnAbout_90 k_Sb_57 ws_Rw_canBeReversed (by decide) rfl rfl (Nat.le_of_ble_eq_true rfl) (c_Rw_canBeReversed ha hx) ?_
      rintro r M2 ⟨h9 | h9, rfl⟩
      · obtain ⟨rfl, h9⟩ := h9
        refine n_if_ne d_Sb_turnAbout_93 (by omega) (fun hd => ?_) (fun hd => ?_)
        · refine r_aload_n d_Sb_turnAbout_98 rfl ?_
          refine r_aload_n d_Sb_turnAbout_99 rfl ?_
          refine r_iload_n d_Sb_turnAbout_100 rfl ?_
          refine r_aload_n d_Sb_turnAbout_101 rfl ?_
          refine g_getr (b := 394) d_Sb_turnAbout_102 f_Sb_9 rfl rfl rfl ?_
          refine g_Vv (av := [.ref a, .int (nI s), .ref 394]) d_Sb_turnAbout_105 k_Sb_61 ws_Sb_reverse (by decide) rfl rfl (Nat.le_of_ble_eq_true rfl) rfl (c_Sb_reverse isSb_393 ha rfl hs0 hs ha5 (by decide) (by decide) hx hO hO2) ?_
          rintro M2 ⟨k1, k2, k3, k4, k5⟩
          refine r_iconst (v := nI 1) d_Sb_turnAbout_108 (by decide) ?_
          refine g_retz d_Sb_turnAbout_109 rfl (by decide) ?_
          exact ⟨⟨k1, k3, k4, k5⟩, Or.inl ⟨4, rfl, ⟨by decide, fun _ => h9, fun e => absurd e (by decide)⟩, rfl, fun j hj => by rw [trn_4]; exact k2 j hj⟩⟩
        · omega
      · obtain ⟨rfl, h9⟩ := h9
        refine n_if_ne d_Sb_turnAbout_93 (by omega) (fun hd => ?_) (fun hd => ?_)
        · omega
        · refine r_iconst (v := nI 0) d_Sb_turnAbout_96 (by decide) ?_
          refine g_retz d_Sb_turnAbout_97 rfl (by decide) ?_
          refine ⟨b0, Or.inr ⟨fun h e q => ?_, rfl⟩⟩
          have h5 := q.1
          have e3 := (nI_eq (by omega) (by omega)).mp e
          exact h9 (q.2.1 e3.symm)
    · refine r_iload_n d_Sb_turnAbout_0 rfl ?_
      refine r_tsIn (tgt := 110) d_Sb_turnAbout_1 (by decide) (by decide) rfl rfl ?_
      refine r_aload_n d_Sb_turnAbout_110 rfl ?_
      refine r_iconst (v := nI 0) d_Sb_turnAbout_111 (by decide) ?_
      refine g_iald d_Sb_turnAbout_112 ha (by omega) (by omega) ?_
      refine r_top (y := nI (x 0)) ((hx 0 (by omega)).1) ?_
      refine n_if_ne d_Sb_turnAbout_113 (by have h9 := (hx 0 (by omega)).2; omega) (fun hc => ?_) (fun hc => ?_)
      · refine r_aload_n d_Sb_turnAbout_118 rfl ?_
        refine g_getr (b := 394) d_Sb_turnAbout_119 f_Sb_9 rfl rfl rfl ?_
        refine r_iconst (v := nI 1) d_Sb_turnAbout_122 (by decide) ?_
        refine g_Sv (av := [.ref 394, .int (nI 1)]) d_Sb_turnAbout_123 k_Sb_64 ws_Rw_becomeNumber (by decide) rfl rfl (Nat.le_of_ble_eq_true rfl) (c_Rw_becomeNumber rfl) ?_
        rintro M2 h2
        refine r_aload_n d_Sb_turnAbout_126 rfl ?_
        refine g_getr (b := 394) d_Sb_turnAbout_127 f_Sb_9 rfl rfl rfl ?_
        refine r_aload_n d_Sb_turnAbout_130 rfl ?_
        refine r_iload_n d_Sb_turnAbout_131 rfl ?_
        refine g_Sv (av := [.ref 394, .ref a, .int (nI s)]) d_Sb_turnAbout_132 k_Sb_39 ws_Rw_divide (by decide) rfl rfl (Nat.le_of_ble_eq_true rfl) (c_Rw_divide rfl ha ha4 hs (h2.ok (fun j hj => by split <;> decide)) (h2.okn ha4 hx)) ?_
        rintro M3 h3
        refine r_iconst (v := nI 1) d_Sb_turnAbout_135 (by decide) ?_
        refine g_retz d_Sb_turnAbout_136 rfl (by decide) ?_
        have k2 : RS M 394 s (trn 5 x s) M3 := ⟨_, h2.trans h3, fun j hj => by
          try dsimp only
          split
          · exact dv_lt _ _ _
          · split <;> decide, fun j hj => by
          rw [if_pos hj]
          rw [trn_5]
          exact dv_congr (fun i _ => rfl) (fun i _ => rfl)⟩
        exact ⟨b3 k2, Or.inl ⟨5, rfl, ⟨by decide, fun e => absurd e (by decide), fun _ => hc⟩, rfl, fun j hj => k2.at hs hj⟩⟩
      · refine r_iconst (v := nI 0) d_Sb_turnAbout_116 (by decide) ?_
        refine g_retz d_Sb_turnAbout_117 rfl (by decide) ?_
        refine ⟨b0, Or.inr ⟨fun h e q => ?_, rfl⟩⟩
        have h5 := q.1
        have e3 := (nI_eq (by omega) (by omega)).mp e
        exact q.2.2 e3.symm hc
theorem c_Sb_raiseTo {a s k : Nat} {x : Nat → Nat} (ha : gT a = (1, 10)) (ha4 : a ≠ 394) (ha5 : a ≠ 395) (hs0 : 2 ≤ s) (hs : s ≤ 10) (hk : k < 100) (hx : OKr M a x) (hO3 : Ok M 396) :
    CV o l m_Sb_raiseTo n [.ref 393, .ref a, .int (nI k), .int (nI s)] M (fun M' => B3 M M' ∧ ∀ j, j < s → M' 394 j = nI (rz x k s 7 j)) := by
  refine cvo_of rfl rfl rfl (Nat.le_of_ble_eq_true rfl) ?_
  refine r_aload_n d_Sb_raiseTo_0 rfl ?_
  refine g_getr (b := 394) d_Sb_raiseTo_1 f_Sb_9 rfl rfl rfl ?_
  refine r_iconst (v := nI 1) d_Sb_raiseTo_4 (by decide) ?_
  refine g_Sv (av := [.ref 394, .int (nI 1)]) d_Sb_raiseTo_5 k_Sb_64 ws_Rw_becomeNumber (by decide) rfl rfl (Nat.le_of_ble_eq_true rfl) (c_Rw_becomeNumber rfl) ?_
  rintro M1 h1
  refine r_bipush (v := nI 6) d_Sb_raiseTo_8 (by decide) ?_
  refine r_istore (L' := [some (.ref 393), some (.ref a), some (.int (nI k)), some (.int (nI s)), some (.int (nI 6))]) d_Sb_raiseTo_10 (by decide) rfl ?_
  suffices H : ∀ b i M2, b + i = 7 → (∀ c, c ≠ 394 → c ≠ 395 → M2 c = M c) → OKr M2 394 (rz x k s i) → (i = 0 ∨ Ok M2 395) → Rn o l m_Sb_raiseTo (0, 0) 12 [some (.ref 393), some (.ref a), some (.int (nI k)), some (.int (nI s)), some (.int (nI b - 1))] [] (gh n M2) (QV n fun M' => B3 M M' ∧ ∀ j, j < s → M' 394 j = nI (rz x k s 7 j)) from
    H 7 0 M1 (by decide) (fun c hc _ => h1.ne hc) (h1.ok (fun j hj => by split <;> decide)) (Or.inl rfl)
  intro b
  induction b with
  | zero =>
    intro i M2 hb f1 f2 f3
    obtain rfl : i = 7 := by omega
    refine r_iload d_Sb_raiseTo_12 rfl ?_
    refine r_if_lt d_Sb_raiseTo_14 (fun hc2 => ?_) (fun hc2 => ?_)
    · refine g_retv d_Sb_raiseTo_68 rfl ?_
      exact ⟨⟨fun c c1 c2 _ => f1 c c1 c2, f2.ok, f3.resolve_left (by decide), hO3.kept (f1 _ (by decide) (by decide))⟩, fun j hj => (f2 j (by omega)).1⟩
    · exact absurd (by decide) hc2
  | succ b ih =>
    intro i M2 hb f1 f2 f3
    rw [nI_pred]
    refine r_iload d_Sb_raiseTo_12 rfl ?_
    refine n_if_lt d_Sb_raiseTo_14 (by omega) ?_
    refine r_aload_n d_Sb_raiseTo_17 rfl ?_
    refine g_getr (b := 394) d_Sb_raiseTo_18 f_Sb_9 rfl rfl rfl ?_
    refine r_iconst (v := nI 0) d_Sb_raiseTo_21 (by decide) ?_
    refine r_aload_n d_Sb_raiseTo_22 rfl ?_
    refine g_getr (b := 395) d_Sb_raiseTo_23 f_Sb_15 rfl rfl rfl ?_
    refine r_iconst (v := nI 0) d_Sb_raiseTo_26 (by decide) ?_
    refine r_bipush (v := nI 10) d_Sb_raiseTo_27 (by decide) ?_
    refine g_copy d_Sb_raiseTo_29 k_Sb_21 (by decide) rfl rfl (by omega) (by omega) (by omega) (Nat.le_of_ble_eq_true rfl) ?_
    generalize hM3 : wr M2 395 (va_cpy (M2 394) (M2 395) 0 0 10) = M3
    have g1 : ∀ c, c ≠ 395 → M3 c = M2 c := fun c hc => by rw [← hM3, wr_ne _ _ hc]
    have g2 : OKr M3 395 (rz x k s i) := fun j hj => ⟨by rw [← hM3, wr_cpy hj]; exact (f2 j hj).1, (f2 j hj).2⟩
    have g3 : OKr M3 394 (rz x k s i) := f2.kept (g1 _ (by decide))
    refine r_aload_n d_Sb_raiseTo_32 rfl ?_
    refine g_getr (b := 394) d_Sb_raiseTo_33 f_Sb_9 rfl rfl rfl ?_
    refine r_aload_n d_Sb_raiseTo_36 rfl ?_
    refine g_getr (b := 395) d_Sb_raiseTo_37 f_Sb_15 rfl rfl rfl ?_
    refine r_iload_n d_Sb_raiseTo_40 rfl ?_
    refine g_Sv (av := [.ref 394, .ref 395, .int (nI s)]) d_Sb_raiseTo_41 k_Sb_36 ws_Rw_multiply (by decide) rfl rfl (Nat.le_of_ble_eq_true rfl) (c_Rw_multiply rfl rfl (by decide) (by omega) hs g3 g2) ?_
    rintro M4 h4
    have g4 : OKr M4 394 (ml s (rz x k s i) (rz x k s i)) := h4.ok (fun j hj => ml_lt (rz_lt _ _ _ _ _))
    have g5 : OKr M4 a x := (hx.kept (f1 a ha4 ha5)).kept (by rw [h4.ne ha4, g1 a ha5])
    have g6 : Ok M4 395 := (g2.ok).kept (h4.ne (by decide))
    have g7 : ∀ c, c ≠ 394 → c ≠ 395 → M4 c = M c := fun c c1 c2 => by rw [h4.ne c1, g1 c c2, f1 c c1 c2]
    refine r_iload_n d_Sb_raiseTo_44 rfl ?_
    refine r_iload d_Sb_raiseTo_45 rfl ?_
    refine r_ishr d_Sb_raiseTo_47 ?_
    refine r_iconst (v := nI 1) d_Sb_raiseTo_48 (by decide) ?_
    refine r_iand d_Sb_raiseTo_49 ?_
    refine r_top (bit_k k hk b (by omega)) ?_
    refine n_if_eq d_Sb_raiseTo_50 (by omega) (fun hc => ?_) (fun hc => ?_)
    · refine n_iincd (L' := [some (.ref 393), some (.ref a), some (.int (nI k)), some (.int (nI s)), some (.int (nI b - 1))]) d_Sb_raiseTo_62 rfl (by decide) rfl ?_
      refine r_goto d_Sb_raiseTo_65 ?_
      refine ih (i + 1) M4 (by omega) g7 ?_ (Or.inr g6)
      rw [rz, show 6 - i = b by omega, if_pos hc]
      exact g4
    · refine r_aload_n d_Sb_raiseTo_53 rfl ?_
      refine g_getr (b := 394) d_Sb_raiseTo_54 f_Sb_9 rfl rfl rfl ?_
      refine r_aload_n d_Sb_raiseTo_57 rfl ?_
      refine r_iload_n d_Sb_raiseTo_58 rfl ?_
      refine g_Sv (av := [.ref 394, .ref a, .int (nI s)]) d_Sb_raiseTo_59 k_Sb_36 ws_Rw_multiply (by decide) rfl rfl (Nat.le_of_ble_eq_true rfl) (c_Rw_multiply rfl ha ha4 (by omega) hs g4 g5) ?_
      rintro M5 h5
      refine n_iincd (L' := [some (.ref 393), some (.ref a), some (.int (nI k)), some (.int (nI s)), some (.int (nI b - 1))]) d_Sb_raiseTo_62 rfl (by decide) rfl ?_
      refine r_goto d_Sb_raiseTo_65 ?_
      refine ih (i + 1) M5 (by omega) (fun c c1 c2 => by rw [h5.ne c1, g7 c c1 c2]) ?_ (Or.inr (g6.kept (h5.ne (by decide))))
      rw [rz, show 6 - i = b by omega, if_neg hc]
      exact h5.ok (fun j hj => ml_lt (ml_lt (rz_lt _ _ _ _ _)))
end C36
