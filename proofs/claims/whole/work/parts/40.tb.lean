noncomputable def kd (p : Prop) (v : Nat) : Nat := @ite Nat p (Classical.propDecidable p) v 0
theorem kd_t {p : Prop} {v : Nat} (h : p) : kd p v = v := by unfold kd; rw [if_pos h]
theorem kd_f {p : Prop} {v : Nat} (h : ¬ p) : kd p v = 0 := by unfold kd; rw [if_neg h]
theorem kd_le (p : Prop) (v : Nat) : kd p v = 0 ∨ kd p v = v := by
  by_cases h : p
  · exact Or.inr (kd_t h)
  · exact Or.inl (kd_f h)
def pOne (s : Nat) (x : Nat → Nat) : Prop := x 0 = 1 ∧ ∀ j, 1 ≤ j → j < s → x j = 0
def pT (s : Nat) (x : Nat → Nat) : Prop := x 0 = 0 ∧ x 1 = 1 ∧ ∀ j, 2 ≤ j → j < s → x j = 0
def pSh (s : Nat) (g f : Nat → Nat) : Prop := ∀ i, 1 ≤ i → i < s → f i = g (i - 1)
def pDe (s : Nat) (g f : Nat → Nat) : Prop := ∀ i, 1 ≤ i → i < s → g (i - 1) = f i * i % 1000003
def pCh (s : Nat) (c : Nat → Nat → Nat) : Prop := ∀ j q, j + 1 + 2 * q < s → c j (j + 1 + 2 * q) = 0
def pOw (s : Nat) (g f : Nat → Nat) : Prop := pOne s (mulG s g f g) ∧ pT s (mulF s f f)
noncomputable def kin (s : Nat) (g f : Nat → Nat) : Nat := kd (pT s f) 1 + kd (pOne s g) 2 + kd (pSh s g f) 4 + kd (pDe s g f) 8 + kd (pCh s (col s g f)) 16 + kd (pOw s g f) 32
theorem or_1 : ∀ a, a < 1 → nI a ||| nI 1 = nI (a + 1) := by decide
theorem or_2 : ∀ a, a < 2 → nI a ||| nI 2 = nI (a + 2) := by decide
theorem or_4 : ∀ a, a < 4 → nI a ||| nI 4 = nI (a + 4) := by decide
theorem or_8 : ∀ a, a < 8 → nI a ||| nI 8 = nI (a + 8) := by decide
theorem or_16 : ∀ a, a < 16 → nI a ||| nI 16 = nI (a + 16) := by decide
theorem or_32 : ∀ a, a < 32 → nI a ||| nI 32 = nI (a + 32) := by decide
/-- the first place (row by row, up to the diagonal) of which p holds -/
def FD (s : Nat) (p : Nat → Nat → Prop) (r : Int32) : Prop := (∃ i j, i < s ∧ j ≤ i ∧ p i j ∧ r = nI (10 * i + j) ∧ ∀ i' j', j' ≤ i' → (i' < i ∨ i' = i ∧ j' < j) → ¬ p i' j') ∨ (r = -1 ∧ ∀ i j, i < s → j ≤ i → ¬ p i j)
section C40
variable {o : OM} {l : Launch} {n : Nat} {M : Mem}
theorem c_Tb_isShifted {t s : Nat} {g f : Nat → Nat} (ht : isTb t) (hs : s ≤ 10) (hT : TbA M t g f) : CI o l m_Tb_isShifted n [.ref t, .int (nI s)] M (fun r M' => BR r (pSh s g f) ∧ M = M') := by
  refine ci_of rfl rfl rfl (Nat.le_of_ble_eq_true rfl) ?_
  obtain ⟨t0, t1, t2, t3, t4⟩ := id ht
  obtain ⟨hg, hf⟩ := hT
  refine r_iconst (v := nI 1) d_Tb_isShifted_0 (by decide) ?_
  refine r_istore_n (L' := [some (.ref t), some (.int (nI s)), some (.int (nI 1))]) d_Tb_isShifted_1 (by decide) rfl ?_
  suffices H : ∀ d k, s - k ≤ d → 1 ≤ k → k < 2 ^ 30 → (∀ i, 1 ≤ i → i < k → i < s → f i = g (i - 1)) → Rn o l m_Tb_isShifted (0, 0) 2 [some (.ref t), some (.int (nI s)), some (.int (nI k))] [] (gh n M) (QI n fun r M' => BR r (pSh s g f) ∧ M = M') from H s 1 (by omega) (Nat.le_refl _) (by decide) (fun i h1 h2 => by omega)
  intro d
  induction d with
  | zero =>
    intro k hk hk1 hk2 h0
    refine r_iload_n d_Tb_isShifted_2 rfl ?_
    refine r_iload_n d_Tb_isShifted_3 rfl ?_
    refine n_icmp_ge d_Tb_isShifted_4 (by omega) (by omega) (fun hc => ?_) (fun hc => ?_)
    · refine r_iconst (v := nI 1) d_Tb_isShifted_32 (by decide) ?_
      refine g_retz d_Tb_isShifted_33 rfl (by decide) ?_
      exact ⟨Or.inl ⟨rfl, fun i h1 h2 => h0 i h1 (by omega) h2⟩, rfl⟩
    · omega
  | succ d ih =>
    intro k hk hk1 hk2 h0
    refine r_iload_n d_Tb_isShifted_2 rfl ?_
    refine r_iload_n d_Tb_isShifted_3 rfl ?_
    refine n_icmp_ge d_Tb_isShifted_4 (by omega) (by omega) (fun hc => ?_) (fun hc => ?_)
    · refine r_iconst (v := nI 1) d_Tb_isShifted_32 (by decide) ?_
      refine g_retz d_Tb_isShifted_33 rfl (by decide) ?_
      exact ⟨Or.inl ⟨rfl, fun i h1 h2 => h0 i h1 (by omega) h2⟩, rfl⟩
    · refine r_aload_n d_Tb_isShifted_7 rfl ?_
      refine g_getr (b := (t+2)) d_Tb_isShifted_8 f_Tb_58 rfl (by rw [t0]) t2 ?_
      refine r_iload_n d_Tb_isShifted_11 rfl ?_
      refine g_iald d_Tb_isShifted_12 t4 (by omega) (by omega) ?_
      refine r_top (y := nI (f k)) ((hf k (by omega)).1) ?_
      refine r_aload_n d_Tb_isShifted_13 rfl ?_
      refine g_getr (b := (t+1)) d_Tb_isShifted_14 f_Tb_49 rfl (by rw [t0]) t1 ?_
      refine r_iload_n d_Tb_isShifted_17 rfl ?_
      refine r_iconst (v := nI 1) d_Tb_isShifted_18 (by decide) ?_
      refine n_isub d_Tb_isShifted_19 (by omega) ?_
      refine g_iald d_Tb_isShifted_20 t3 (by omega) (by omega) ?_
      refine r_top (y := nI (g (k - 1))) ((hg (k - 1) (by omega)).1) ?_
      refine n_icmp_eq d_Tb_isShifted_21 (by have h9 := (hf k (by omega)).2; omega) (by have h9 := (hg (k - 1) (by omega)).2; omega) (fun h9 => ?_) (fun h9 => ?_)
      · refine n_iinc (c := 1) (L' := [some (.ref t), some (.int (nI s)), some (.int (nI (k + 1)))]) d_Tb_isShifted_26 rfl rfl (by decide) rfl ?_
        refine r_goto d_Tb_isShifted_29 ?_
        refine ih (k + 1) (by omega) (by omega) (by omega) (fun i h1 h2 h3 => ?_)
        by_cases e : i = k
        · rw [e]; exact h9
        · exact h0 i h1 (by omega) h3
      · refine r_iconst (v := nI 0) d_Tb_isShifted_24 (by decide) ?_
        refine g_retz d_Tb_isShifted_25 rfl (by decide) ?_
        exact ⟨Or.inr ⟨rfl, fun q => h9 (q k hk1 hc)⟩, rfl⟩
theorem c_Tb_isDerivative {t s : Nat} {g f : Nat → Nat} (ht : isTb t) (hs : s ≤ 10) (hT : TbA M t g f) : CI o l m_Tb_isDerivative n [.ref t, .int (nI s)] M (fun r M' => BR r (pDe s g f) ∧ M = M') := by
  refine ci_of rfl rfl rfl (Nat.le_of_ble_eq_true rfl) ?_
  obtain ⟨t0, t1, t2, t3, t4⟩ := id ht
  obtain ⟨hg, hf⟩ := hT
  refine r_iconst (v := nI 1) d_Tb_isDerivative_0 (by decide) ?_
  refine r_istore_n (L' := [some (.ref t), some (.int (nI s)), some (.int (nI 1))]) d_Tb_isDerivative_1 (by decide) rfl ?_
  suffices H : ∀ d k, s - k ≤ d → 1 ≤ k → k < 2 ^ 30 → (∀ i, 1 ≤ i → i < k → i < s → g (i - 1) = f i * i % 1000003) → Rn o l m_Tb_isDerivative (0, 0) 2 [some (.ref t), some (.int (nI s)), some (.int (nI k))] [] (gh n M) (QI n fun r M' => BR r (pDe s g f) ∧ M = M') from H s 1 (by omega) (Nat.le_refl _) (by decide) (fun i h1 h2 => by omega)
  intro d
  induction d with
  | zero =>
    intro k hk hk1 hk2 h0
    refine r_iload_n d_Tb_isDerivative_2 rfl ?_
    refine r_iload_n d_Tb_isDerivative_3 rfl ?_
    refine n_icmp_ge d_Tb_isDerivative_4 (by omega) (by omega) (fun hc => ?_) (fun hc => ?_)
    · refine r_iconst (v := nI 1) d_Tb_isDerivative_36 (by decide) ?_
      refine g_retz d_Tb_isDerivative_37 rfl (by decide) ?_
      exact ⟨Or.inl ⟨rfl, fun i h1 h2 => h0 i h1 (by omega) h2⟩, rfl⟩
    · omega
  | succ d ih =>
    intro k hk hk1 hk2 h0
    refine r_iload_n d_Tb_isDerivative_2 rfl ?_
    refine r_iload_n d_Tb_isDerivative_3 rfl ?_
    refine n_icmp_ge d_Tb_isDerivative_4 (by omega) (by omega) (fun hc => ?_) (fun hc => ?_)
    · refine r_iconst (v := nI 1) d_Tb_isDerivative_36 (by decide) ?_
      refine g_retz d_Tb_isDerivative_37 rfl (by decide) ?_
      exact ⟨Or.inl ⟨rfl, fun i h1 h2 => h0 i h1 (by omega) h2⟩, rfl⟩
    · refine r_aload_n d_Tb_isDerivative_7 rfl ?_
      refine g_getr (b := (t+1)) d_Tb_isDerivative_8 f_Tb_49 rfl (by rw [t0]) t1 ?_
      refine r_iload_n d_Tb_isDerivative_11 rfl ?_
      refine r_iconst (v := nI 1) d_Tb_isDerivative_12 (by decide) ?_
      refine n_isub d_Tb_isDerivative_13 (by omega) ?_
      refine g_iald d_Tb_isDerivative_14 t3 (by omega) (by omega) ?_
      refine r_top (y := nI (g (k - 1))) ((hg (k - 1) (by omega)).1) ?_
      refine r_aload_n d_Tb_isDerivative_15 rfl ?_
      refine g_getr (b := (t+2)) d_Tb_isDerivative_16 f_Tb_58 rfl (by rw [t0]) t2 ?_
      refine r_iload_n d_Tb_isDerivative_19 rfl ?_
      refine g_iald d_Tb_isDerivative_20 t4 (by omega) (by omega) ?_
      refine r_top (y := nI (f k)) ((hf k (by omega)).1) ?_
      refine r_iload_n d_Tb_isDerivative_21 rfl ?_
      refine g_Si (av := [.int (nI (f k)), .int (nI k)]) d_Tb_isDerivative_22 k_Tb_130 ws_Rw_product (by decide) rfl rfl (Nat.le_of_ble_eq_true rfl) (c_Rw_product (hf k (by omega)).2 (by omega)) ?_
      rintro r M3 ⟨rfl, rfl⟩
      refine n_icmp_eq d_Tb_isDerivative_25 (by have h9 := (hg (k - 1) (by omega)).2; omega) (by have h9 := Nat.mod_lt (f k * k) (show 0 < 1000003 by decide); omega) (fun h9 => ?_) (fun h9 => ?_)
      · refine n_iinc (c := 1) (L' := [some (.ref t), some (.int (nI s)), some (.int (nI (k + 1)))]) d_Tb_isDerivative_30 rfl rfl (by decide) rfl ?_
        refine r_goto d_Tb_isDerivative_33 ?_
        refine ih (k + 1) (by omega) (by omega) (by omega) (fun i h1 h2 h3 => ?_)
        by_cases e : i = k
        · rw [e]; exact h9
        · exact h0 i h1 (by omega) h3
      · refine r_iconst (v := nI 0) d_Tb_isDerivative_28 (by decide) ?_
        refine g_retz d_Tb_isDerivative_29 rfl (by decide) ?_
        exact ⟨Or.inr ⟨rfl, fun q => h9 (q k hk1 hc)⟩, rfl⟩
theorem c_Tb_isChequered {t s : Nat} {g f : Nat → Nat} (ht : isTb t) (hs0 : 2 ≤ s) (hs : s ≤ 10) (hd : t + 2 < 394) (hB : BO M) (hT : TbA M t g f) : CI o l m_Tb_isChequered n [.ref 397, .ref t, .int (nI s)] M (fun r M' => BR r (pCh s (col s g f)) ∧ BF M M') := by
  refine ci_of rfl rfl rfl (Nat.le_of_ble_eq_true rfl) ?_
  refine r_aload_n d_Tb_isChequered_0 rfl ?_
  refine r_iload_n d_Tb_isChequered_1 rfl ?_
  refine r_aload_n d_Tb_isChequered_2 rfl ?_
  refine g_getr (b := 410) d_Tb_isChequered_3 f_Tb_36 rfl rfl rfl ?_
  refine g_Sv (av := [.ref t, .int (nI s), .ref 410]) d_Tb_isChequered_6 k_Tb_116 ws_Tb_fillColumns (by decide) rfl rfl (Nat.le_of_ble_eq_true rfl) (c_Tb_fillColumns ht isCo_410 hs0 hs (by omega) hT) ?_
  rintro M1 ⟨k1, k2⟩
  have hB1 := BF.cols hB k2 (by decide) (by omega) k1
  refine r_iconst (v := nI 0) d_Tb_isChequered_9 (by decide) ?_
  refine r_istore_n (L' := [some (.ref 397), some (.ref t), some (.int (nI s)), some (.int (nI 0)), none]) d_Tb_isChequered_10 (by decide) rfl ?_
  suffices H : ∀ d k u, k + d = s → (∀ j q, j < k → j + 1 + 2 * q < s → col s g f j (j + 1 + 2 * q) = 0) → Rn o l m_Tb_isChequered (0, 0) 11 [some (.ref 397), some (.ref t), some (.int (nI s)), some (.int (nI k)), u] [] (gh n M1) (QI n fun r M' => BR r (pCh s (col s g f)) ∧ BF M M') from H s 0 _ (by omega) (fun j q h => by omega)
  intro d
  induction d with
  | zero =>
    intro k u hk h0
    obtain rfl : k = s := by omega
    refine r_iload_n d_Tb_isChequered_11 rfl ?_
    refine r_iload_n d_Tb_isChequered_12 rfl ?_
    refine n_icmp_ge d_Tb_isChequered_13 (by omega) (by omega) (fun hc => ?_) (fun hc => ?_)
    · refine r_iconst (v := nI 1) d_Tb_isChequered_53 (by decide) ?_
      refine g_retz d_Tb_isChequered_54 rfl (by decide) ?_
      exact ⟨Or.inl ⟨rfl, fun j q h => h0 j q (by omega) h⟩, hB1⟩
    · omega
  | succ d ih =>
    intro k u hk h0
    refine r_iload_n d_Tb_isChequered_11 rfl ?_
    refine r_iload_n d_Tb_isChequered_12 rfl ?_
    refine n_icmp_ge d_Tb_isChequered_13 (by omega) (by omega) (fun hc => ?_) (fun hc => ?_)
    · omega
    · refine r_iload_n d_Tb_isChequered_16 rfl ?_
      refine r_iconst (v := nI 1) d_Tb_isChequered_17 (by decide) ?_
      refine n_iadd d_Tb_isChequered_18 ?_
      refine r_istore (L' := [some (.ref 397), some (.ref t), some (.int (nI s)), some (.int (nI k)), some (.int (nI (k + 1)))]) d_Tb_isChequered_19 (by decide) rfl ?_
      suffices H2 : ∀ d2 q, s - (k + 1 + 2 * q) ≤ d2 → q < 2 ^ 28 → (∀ q', q' < q → k + 1 + 2 * q' < s → col s g f k (k + 1 + 2 * q') = 0) → Rn o l m_Tb_isChequered (0, 0) 21 [some (.ref 397), some (.ref t), some (.int (nI s)), some (.int (nI k)), some (.int (nI (k + 1 + 2 * q)))] [] (gh n M1) (QI n fun r M' => BR r (pCh s (col s g f)) ∧ BF M M') from H2 s 0 (by omega) (by decide) (fun q' h => by omega)
      intro d2
      induction d2 with
      | zero =>
        intro q hq hq2 h1
        refine r_iload d_Tb_isChequered_21 rfl ?_
        refine r_iload_n d_Tb_isChequered_23 rfl ?_
        refine n_icmp_ge d_Tb_isChequered_24 (by omega) (by omega) (fun hc2 => ?_) (fun hc2 => ?_)
        · refine n_iinc (c := 1) (L' := [some (.ref 397), some (.ref t), some (.int (nI s)), some (.int (nI (k + 1))), some (.int (nI (k + 1 + 2 * q)))]) d_Tb_isChequered_47 rfl rfl (by decide) rfl ?_
          refine r_goto d_Tb_isChequered_50 ?_
          refine ih (k + 1) _ (by omega) (fun j q' hj hlt => ?_)
          by_cases e : j = k
          · subst e; exact h1 q' (by omega) hlt
          · exact h0 j q' (by omega) hlt
        · omega
      | succ d2 ih2 =>
        intro q hq hq2 h1
        refine r_iload d_Tb_isChequered_21 rfl ?_
        refine r_iload_n d_Tb_isChequered_23 rfl ?_
        refine n_icmp_ge d_Tb_isChequered_24 (by omega) (by omega) (fun hc2 => ?_) (fun hc2 => ?_)
        · refine n_iinc (c := 1) (L' := [some (.ref 397), some (.ref t), some (.int (nI s)), some (.int (nI (k + 1))), some (.int (nI (k + 1 + 2 * q)))]) d_Tb_isChequered_47 rfl rfl (by decide) rfl ?_
          refine r_goto d_Tb_isChequered_50 ?_
          refine ih (k + 1) _ (by omega) (fun j q' hj hlt => ?_)
          by_cases e : j = k
          · subst e; exact h1 q' (by omega) hlt
          · exact h0 j q' (by omega) hlt
        · refine r_aload_n d_Tb_isChequered_27 rfl ?_
          refine g_getr (b := 410) d_Tb_isChequered_28 f_Tb_36 rfl rfl rfl ?_
          refine r_iload_n d_Tb_isChequered_31 rfl ?_
          refine g_aald (b := (411+k)) (t := 5) (N := 10) d_Tb_isChequered_32 rfl (by decide) (by omega) (by omega) (g_cols (by omega)) ?_
          refine r_iload d_Tb_isChequered_33 rfl ?_
          refine g_iald d_Tb_isChequered_35 (t_cols (by omega)) (by omega) (by omega) ?_
          refine r_top (y := nI (col s g f k (k + 1 + 2 * q))) ((k1 k (by omega) (k + 1 + 2 * q) (by omega)).1) ?_
          refine n_if_eq d_Tb_isChequered_36 (by have h9 := (k1 k (by omega) (k + 1 + 2 * q) (by omega)).2; omega) (fun h9 => ?_) (fun h9 => ?_)
          · refine n_iinc (c := 2) (L' := [some (.ref 397), some (.ref t), some (.int (nI s)), some (.int (nI k)), some (.int (nI ((k + 1 + 2 * q) + 2)))]) d_Tb_isChequered_41 rfl rfl (by decide) rfl ?_
            refine r_goto d_Tb_isChequered_44 ?_
            refine ih2 (q + 1) (by omega) (by omega) (fun q' h2 h3 => ?_)
            by_cases e : q' = q
            · rw [e]; exact h9
            · exact h1 q' (by omega) h3
          · refine r_iconst (v := nI 0) d_Tb_isChequered_39 (by decide) ?_
            refine g_retz d_Tb_isChequered_40 rfl (by decide) ?_
            exact ⟨Or.inr ⟨rfl, fun z => h9 (z k q hc2)⟩, hB1⟩
theorem c_Tb_kindsOf {t s : Nat} {g f : Nat → Nat} (ht : isTb t) (hs0 : 2 ≤ s) (hs : s ≤ 10) (hd : t + 2 < 394) (hB : BO M) (hT : TbA M t g f) : CI o l m_Tb_kindsOf n [.ref 397, .ref t, .int (nI s)] M (fun r M' => r = nI (kin s g f) ∧ BF M M') := by
  refine ci_of rfl rfl rfl (Nat.le_of_ble_eq_true rfl) ?_
  obtain ⟨t0, t1, t2, t3, t4⟩ := id ht
  obtain ⟨hg, hf⟩ := id hT
  have a1 := kd_le (pT s f) 1
  have a2 := kd_le (pOne s g) 2
  have a3 := kd_le (pSh s g f) 4
  have a4 := kd_le (pDe s g f) 8
  have a5 := kd_le (pCh s (col s g f)) 16
  have J6 : ∀ (b : Nat) (M1 : Mem), b = kin s g f → BF M M1 → Rn o l m_Tb_kindsOf (0, 0) 114 [some (.ref 397), some (.ref t), some (.int (nI s)), some (.int (nI b))] [] (gh n M1) (QI n fun r M' => r = nI (kin s g f) ∧ BF M M') := by
    intro b M1 hb hB1
    refine r_iload_n d_Tb_kindsOf_114 rfl ?_
    refine g_reti d_Tb_kindsOf_115 rfl ?_
    exact ⟨by rw [hb], hB1⟩
  have J5 : ∀ (b : Nat) (M1 : Mem), b = kd (pT s f) 1 + kd (pOne s g) 2 + kd (pSh s g f) 4 + kd (pDe s g f) 8 + kd (pCh s (col s g f)) 16 → BF M M1 → Rn o l m_Tb_kindsOf (0, 0) 71 [some (.ref 397), some (.ref t), some (.int (nI s)), some (.int (nI b))] [] (gh n M1) (QI n fun r M' => r = nI (kin s g f) ∧ BF M M') := by
    intro b M1 hb hB1
    have hT1 : TbA M1 t g f := hT.kept (hB1.1 _ (by omega)) (hB1.1 _ (by omega))
    refine r_aload_n d_Tb_kindsOf_71 rfl ?_
    refine r_aload_n d_Tb_kindsOf_72 rfl ?_
    refine r_iload_n d_Tb_kindsOf_73 rfl ?_
    refine r_aload_n d_Tb_kindsOf_74 rfl ?_
    refine g_getr (b := 401) d_Tb_kindsOf_75 f_Tb_18 rfl rfl rfl ?_
    refine g_Sv (av := [.ref t, .ref t, .int (nI s), .ref 401]) d_Tb_kindsOf_78 k_Tb_99 ws_Tb_multiply (by decide) rfl rfl (Nat.le_of_ble_eq_true rfl) (c_Tb_multiply ht ht isTb_401 hs0 hs (by omega) (by omega) hT1 hT1) ?_
    rintro M2 ⟨k1, k2⟩
    have hB2 := hB1.trans (BF.tab hB1.2 k2 (by decide) (by decide) k1)
    refine r_aload_n d_Tb_kindsOf_81 rfl ?_
    refine g_getr (b := 401) d_Tb_kindsOf_82 f_Tb_18 rfl rfl rfl ?_
    refine g_getr (b := 402) d_Tb_kindsOf_85 f_Tb_49 rfl rfl rfl ?_
    refine r_iload_n d_Tb_kindsOf_88 rfl ?_
    refine g_Si (av := [.ref 402, .int (nI s)]) d_Tb_kindsOf_89 k_Tb_137 ws_Rw_isOne (by decide) rfl rfl (Nat.le_of_ble_eq_true rfl) (c_Rw_isOne rfl hs k1.1) ?_
    rintro r M3 ⟨h9 | h9, rfl⟩
    · obtain ⟨rfl, h9⟩ := h9
      refine n_if_eq d_Tb_kindsOf_92 (by omega) (fun hd9 => ?_) (fun hd9 => ?_)
      · omega
      · refine r_aload_n d_Tb_kindsOf_95 rfl ?_
        refine g_getr (b := 401) d_Tb_kindsOf_96 f_Tb_18 rfl rfl rfl ?_
        refine g_getr (b := 403) d_Tb_kindsOf_99 f_Tb_58 rfl rfl rfl ?_
        refine r_iload_n d_Tb_kindsOf_102 rfl ?_
        refine g_Si (av := [.ref 403, .int (nI s)]) d_Tb_kindsOf_103 k_Tb_133 ws_Rw_isT (by decide) rfl rfl (Nat.le_of_ble_eq_true rfl) (c_Rw_isT rfl hs k1.2) ?_
        rintro r M3 ⟨h8 | h8, rfl⟩
        · obtain ⟨rfl, h8⟩ := h8
          refine n_if_eq d_Tb_kindsOf_106 (by omega) (fun hd9 => ?_) (fun hd9 => ?_)
          · omega
          · refine r_iload_n d_Tb_kindsOf_109 rfl ?_
            refine r_bipush (v := nI 32) d_Tb_kindsOf_110 (by decide) ?_
            refine r_ior d_Tb_kindsOf_112 ?_
            refine r_top (or_32 b (by omega)) ?_
            refine r_istore_n (L' := [some (.ref 397), some (.ref t), some (.int (nI s)), some (.int (nI (b + 32)))]) d_Tb_kindsOf_113 (by decide) rfl ?_
            exact J6 _ M2 (by rw [hb, kin, kd_t (p := pOw s g f) ⟨h9, h8⟩]) hB2
        · obtain ⟨rfl, h8⟩ := h8
          refine n_if_eq d_Tb_kindsOf_106 (by omega) (fun hd9 => ?_) (fun hd9 => ?_)
          · exact J6 _ M2 (by rw [hb, kin, kd_f (p := pOw s g f) (fun q => h8 q.2)]; omega) hB2
          · omega
    · obtain ⟨rfl, h9⟩ := h9
      refine n_if_eq d_Tb_kindsOf_92 (by omega) (fun hd9 => ?_) (fun hd9 => ?_)
      · exact J6 _ M2 (by rw [hb, kin, kd_f (p := pOw s g f) (fun q => h9 q.1)]; omega) hB2
      · omega
  have J4 : ∀ (b : Nat), b = kd (pT s f) 1 + kd (pOne s g) 2 + kd (pSh s g f) 4 + kd (pDe s g f) 8 → Rn o l m_Tb_kindsOf (0, 0) 57 [some (.ref 397), some (.ref t), some (.int (nI s)), some (.int (nI b))] [] (gh n M) (QI n fun r M' => r = nI (kin s g f) ∧ BF M M') := by
    intro b hb
    refine r_aload_n d_Tb_kindsOf_57 rfl ?_
    refine r_aload_n d_Tb_kindsOf_58 rfl ?_
    refine r_iload_n d_Tb_kindsOf_59 rfl ?_
    refine g_Vi (av := [.ref t, .int (nI s)]) d_Tb_kindsOf_60 k_Tb_147 ws_Tb_isChequered (by decide) rfl rfl (Nat.le_of_ble_eq_true rfl) rfl (c_Tb_isChequered ht hs0 hs hd hB hT) ?_
    rintro r M1 ⟨h9 | h9, hB1⟩
    · obtain ⟨rfl, h9⟩ := h9
      refine n_if_eq d_Tb_kindsOf_63 (by omega) (fun hd9 => ?_) (fun hd9 => ?_)
      · omega
      · refine r_iload_n d_Tb_kindsOf_66 rfl ?_
        refine r_bipush (v := nI 16) d_Tb_kindsOf_67 (by decide) ?_
        refine r_ior d_Tb_kindsOf_69 ?_
        refine r_top (or_16 b (by omega)) ?_
        refine r_istore_n (L' := [some (.ref 397), some (.ref t), some (.int (nI s)), some (.int (nI (b + 16)))]) d_Tb_kindsOf_70 (by decide) rfl ?_
        exact J5 _ M1 (by rw [hb, kd_t h9]) hB1
    · obtain ⟨rfl, h9⟩ := h9
      refine n_if_eq d_Tb_kindsOf_63 (by omega) (fun hd9 => ?_) (fun hd9 => ?_)
      · exact J5 _ M1 (by rw [hb, kd_f h9]; omega) hB1
      · omega
  have J3 : ∀ (b : Nat), b = kd (pT s f) 1 + kd (pOne s g) 2 + kd (pSh s g f) 4 → Rn o l m_Tb_kindsOf (0, 0) 44 [some (.ref 397), some (.ref t), some (.int (nI s)), some (.int (nI b))] [] (gh n M) (QI n fun r M' => r = nI (kin s g f) ∧ BF M M') := by
    intro b hb
    refine r_aload_n d_Tb_kindsOf_44 rfl ?_
    refine r_iload_n d_Tb_kindsOf_45 rfl ?_
    refine g_Si (av := [.ref t, .int (nI s)]) d_Tb_kindsOf_46 k_Tb_144 ws_Tb_isDerivative (by decide) rfl rfl (Nat.le_of_ble_eq_true rfl) (c_Tb_isDerivative ht hs hT) ?_
    rintro r M1 ⟨h9 | h9, rfl⟩
    · obtain ⟨rfl, h9⟩ := h9
      refine n_if_eq d_Tb_kindsOf_49 (by omega) (fun hd9 => ?_) (fun hd9 => ?_)
      · omega
      · refine r_iload_n d_Tb_kindsOf_52 rfl ?_
        refine r_bipush (v := nI 8) d_Tb_kindsOf_53 (by decide) ?_
        refine r_ior d_Tb_kindsOf_55 ?_
        refine r_top (or_8 b (by omega)) ?_
        refine r_istore_n (L' := [some (.ref 397), some (.ref t), some (.int (nI s)), some (.int (nI (b + 8)))]) d_Tb_kindsOf_56 (by decide) rfl ?_
        exact J4 _ (by rw [hb, kd_t h9])
    · obtain ⟨rfl, h9⟩ := h9
      refine n_if_eq d_Tb_kindsOf_49 (by omega) (fun hd9 => ?_) (fun hd9 => ?_)
      · exact J4 _ (by rw [hb, kd_f h9]; omega)
      · omega
  have J2 : ∀ (b : Nat), b = kd (pT s f) 1 + kd (pOne s g) 2 → Rn o l m_Tb_kindsOf (0, 0) 32 [some (.ref 397), some (.ref t), some (.int (nI s)), some (.int (nI b))] [] (gh n M) (QI n fun r M' => r = nI (kin s g f) ∧ BF M M') := by
    intro b hb
    refine r_aload_n d_Tb_kindsOf_32 rfl ?_
    refine r_iload_n d_Tb_kindsOf_33 rfl ?_
    refine g_Si (av := [.ref t, .int (nI s)]) d_Tb_kindsOf_34 k_Tb_140 ws_Tb_isShifted (by decide) rfl rfl (Nat.le_of_ble_eq_true rfl) (c_Tb_isShifted ht hs hT) ?_
    rintro r M1 ⟨h9 | h9, rfl⟩
    · obtain ⟨rfl, h9⟩ := h9
      refine n_if_eq d_Tb_kindsOf_37 (by omega) (fun hd9 => ?_) (fun hd9 => ?_)
      · omega
      · refine r_iload_n d_Tb_kindsOf_40 rfl ?_
        refine r_iconst (v := nI 4) d_Tb_kindsOf_41 (by decide) ?_
        refine r_ior d_Tb_kindsOf_42 ?_
        refine r_top (or_4 b (by omega)) ?_
        refine r_istore_n (L' := [some (.ref 397), some (.ref t), some (.int (nI s)), some (.int (nI (b + 4)))]) d_Tb_kindsOf_43 (by decide) rfl ?_
        exact J3 _ (by rw [hb, kd_t h9])
    · obtain ⟨rfl, h9⟩ := h9
      refine n_if_eq d_Tb_kindsOf_37 (by omega) (fun hd9 => ?_) (fun hd9 => ?_)
      · exact J3 _ (by rw [hb, kd_f h9]; omega)
      · omega
  have J1 : ∀ (b : Nat), b = kd (pT s f) 1 → Rn o l m_Tb_kindsOf (0, 0) 17 [some (.ref 397), some (.ref t), some (.int (nI s)), some (.int (nI b))] [] (gh n M) (QI n fun r M' => r = nI (kin s g f) ∧ BF M M') := by
    intro b hb
    refine r_aload_n d_Tb_kindsOf_17 rfl ?_
    refine g_getr (b := (t+1)) d_Tb_kindsOf_18 f_Tb_49 rfl (by rw [t0]) t1 ?_
    refine r_iload_n d_Tb_kindsOf_21 rfl ?_
    refine g_Si (av := [.ref (t+1), .int (nI s)]) d_Tb_kindsOf_22 k_Tb_137 ws_Rw_isOne (by decide) rfl rfl (Nat.le_of_ble_eq_true rfl) (c_Rw_isOne t3 hs hg) ?_
    rintro r M1 ⟨h9 | h9, rfl⟩
    · obtain ⟨rfl, h9⟩ := h9
      refine n_if_eq d_Tb_kindsOf_25 (by omega) (fun hd9 => ?_) (fun hd9 => ?_)
      · omega
      · refine r_iload_n d_Tb_kindsOf_28 rfl ?_
        refine r_iconst (v := nI 2) d_Tb_kindsOf_29 (by decide) ?_
        refine r_ior d_Tb_kindsOf_30 ?_
        refine r_top (or_2 b (by omega)) ?_
        refine r_istore_n (L' := [some (.ref 397), some (.ref t), some (.int (nI s)), some (.int (nI (b + 2)))]) d_Tb_kindsOf_31 (by decide) rfl ?_
        exact J2 _ (by rw [hb, kd_t (p := pOne s g) h9])
    · obtain ⟨rfl, h9⟩ := h9
      refine n_if_eq d_Tb_kindsOf_25 (by omega) (fun hd9 => ?_) (fun hd9 => ?_)
      · exact J2 _ (by rw [hb, kd_f (p := pOne s g) h9]; omega)
      · omega
  refine r_iconst (v := nI 0) d_Tb_kindsOf_0 (by decide) ?_
  refine r_istore_n (L' := [some (.ref 397), some (.ref t), some (.int (nI s)), some (.int (nI 0))]) d_Tb_kindsOf_1 (by decide) rfl ?_
  refine r_aload_n d_Tb_kindsOf_2 rfl ?_
  refine g_getr (b := (t+2)) d_Tb_kindsOf_3 f_Tb_58 rfl (by rw [t0]) t2 ?_
  refine r_iload_n d_Tb_kindsOf_6 rfl ?_
  refine g_Si (av := [.ref (t+2), .int (nI s)]) d_Tb_kindsOf_7 k_Tb_133 ws_Rw_isT (by decide) rfl rfl (Nat.le_of_ble_eq_true rfl) (c_Rw_isT t4 hs hf) ?_
  rintro r M1 ⟨h9 | h9, rfl⟩
  · obtain ⟨rfl, h9⟩ := h9
    refine n_if_eq d_Tb_kindsOf_10 (by omega) (fun hd9 => ?_) (fun hd9 => ?_)
    · omega
    · refine r_iload_n d_Tb_kindsOf_13 rfl ?_
      refine r_iconst (v := nI 1) d_Tb_kindsOf_14 (by decide) ?_
      refine r_ior d_Tb_kindsOf_15 ?_
      refine r_top (or_1 0 (by omega)) ?_
      refine r_istore_n (L' := [some (.ref 397), some (.ref t), some (.int (nI s)), some (.int (nI (0 + 1)))]) d_Tb_kindsOf_16 (by decide) rfl ?_
      exact J1 _ (by rw [kd_t (p := pT s f) h9])
  · obtain ⟨rfl, h9⟩ := h9
    refine n_if_eq d_Tb_kindsOf_10 (by omega) (fun hd9 => ?_) (fun hd9 => ?_)
    · exact J1 _ (by rw [kd_f (p := pT s f) h9])
    · omega
theorem c_Tb_firstDifference {a b s : Nat} {g f g' f' : Nat → Nat} (ha : isTb a) (hb : isTb b) (hs0 : 2 ≤ s) (hs : s ≤ 10) (hda : a + 2 < 410) (hdb : b + 2 < 410) (hB : BO M) (hA : TbA M a g f) (hB9 : TbA M b g' f') : CI o l m_Tb_firstDifference n [.ref 397, .ref a, .ref b, .int (nI s)] M (fun r M' => FD s (fun i j => col s g f j i ≠ col s g' f' j i) r ∧ BF M M') := by
  refine ci_of rfl rfl rfl (Nat.le_of_ble_eq_true rfl) ?_
  refine r_aload_n d_Tb_firstDifference_0 rfl ?_
  refine r_iload_n d_Tb_firstDifference_1 rfl ?_
  refine r_aload_n d_Tb_firstDifference_2 rfl ?_
  refine g_getr (b := 410) d_Tb_firstDifference_3 f_Tb_36 rfl rfl rfl ?_
  refine g_Sv (av := [.ref a, .int (nI s), .ref 410]) d_Tb_firstDifference_6 k_Tb_116 ws_Tb_fillColumns (by decide) rfl rfl (Nat.le_of_ble_eq_true rfl) (c_Tb_fillColumns ha isCo_410 hs0 hs (by omega) hA) ?_
  rintro M1 ⟨k1, k2⟩
  have hB1 := BF.cols hB k2 (by decide) (by omega) k1
  refine r_aload_n d_Tb_firstDifference_9 rfl ?_
  refine r_iload_n d_Tb_firstDifference_10 rfl ?_
  refine r_aload_n d_Tb_firstDifference_11 rfl ?_
  refine g_getr (b := 421) d_Tb_firstDifference_12 f_Tb_39 rfl rfl rfl ?_
  refine g_Sv (av := [.ref b, .int (nI s), .ref 421]) d_Tb_firstDifference_15 k_Tb_116 ws_Tb_fillColumns (by decide) rfl rfl (Nat.le_of_ble_eq_true rfl) (c_Tb_fillColumns hb isCo_421 hs0 hs (by omega) (hB9.kept (k2 _ (by omega)) (k2 _ (by omega)))) ?_
  rintro M2 ⟨k3, k4⟩
  have hB2 := hB1.trans (BF.cols hB1.2 k4 (by decide) (by omega) k3)
  have k5 : ∀ j, j < s → OKr M2 (411 + j) (col s g f j) := fun j hj => (k1 j hj).kept (k4 _ (by omega))
  refine r_iconst (v := nI 0) d_Tb_firstDifference_18 (by decide) ?_
  refine r_istore (L' := [some (.ref 397), some (.ref a), some (.ref b), some (.int (nI s)), some (.int (nI 0)), none]) d_Tb_firstDifference_19 (by decide) rfl ?_
  suffices H : ∀ d k u, k + d = s → (∀ i j, i < k → j ≤ i → ¬ (col s g f j i ≠ col s g' f' j i)) → Rn o l m_Tb_firstDifference (0, 0) 21 [some (.ref 397), some (.ref a), some (.ref b), some (.int (nI s)), some (.int (nI k)), u] [] (gh n M2) (QI n fun r M' => FD s (fun i j => col s g f j i ≠ col s g' f' j i) r ∧ BF M M') from H s 0 _ (by omega) (fun i j h => by omega)
  intro d
  induction d with
  | zero =>
    intro k u hk h0
    obtain rfl : k = s := by omega
    refine r_iload d_Tb_firstDifference_21 rfl ?_
    refine r_iload_n d_Tb_firstDifference_23 rfl ?_
    refine n_icmp_ge d_Tb_firstDifference_24 (by omega) (by omega) (fun hc => ?_) (fun hc => ?_)
    · refine r_iconst (v := -1) d_Tb_firstDifference_81 (by decide) ?_
      refine g_reti d_Tb_firstDifference_82 rfl ?_
      exact ⟨Or.inr ⟨rfl, h0⟩, hB2⟩
    · omega
  | succ d ih =>
    intro k u hk h0
    refine r_iload d_Tb_firstDifference_21 rfl ?_
    refine r_iload_n d_Tb_firstDifference_23 rfl ?_
    refine n_icmp_ge d_Tb_firstDifference_24 (by omega) (by omega) (fun hc => ?_) (fun hc => ?_)
    · omega
    · refine r_iconst (v := nI 0) d_Tb_firstDifference_27 (by decide) ?_
      refine r_istore (L' := [some (.ref 397), some (.ref a), some (.ref b), some (.int (nI s)), some (.int (nI k)), some (.int (nI 0))]) d_Tb_firstDifference_28 (by decide) rfl ?_
      suffices H2 : ∀ d2 q, q + d2 = k + 1 → (∀ j, j < q → ¬ (col s g f j k ≠ col s g' f' j k)) → Rn o l m_Tb_firstDifference (0, 0) 30 [some (.ref 397), some (.ref a), some (.ref b), some (.int (nI s)), some (.int (nI k)), some (.int (nI q))] [] (gh n M2) (QI n fun r M' => FD s (fun i j => col s g f j i ≠ col s g' f' j i) r ∧ BF M M') from H2 (k + 1) 0 (by omega) (fun j h => by omega)
      intro d2
      induction d2 with
      | zero =>
        intro q hq h1
        obtain rfl : q = k + 1 := by omega
        refine r_iload d_Tb_firstDifference_30 rfl ?_
        refine r_iload d_Tb_firstDifference_32 rfl ?_
        refine n_icmp_gt d_Tb_firstDifference_34 (by omega) (by omega) (fun hc2 => ?_) (fun hc2 => ?_)
        · refine n_iinc (c := 1) (L' := [some (.ref 397), some (.ref a), some (.ref b), some (.int (nI s)), some (.int (nI (k + 1))), some (.int (nI (k + 1)))]) d_Tb_firstDifference_75 rfl rfl (by decide) rfl ?_
          refine r_goto d_Tb_firstDifference_78 ?_
          refine ih (k + 1) _ (by omega) (fun i j hi hj => ?_)
          by_cases e : i = k
          · subst e; exact h1 j (by omega)
          · exact h0 i j (by omega) hj
        · omega
      | succ d2 ih2 =>
        intro q hq h1
        refine r_iload d_Tb_firstDifference_30 rfl ?_
        refine r_iload d_Tb_firstDifference_32 rfl ?_
        refine n_icmp_gt d_Tb_firstDifference_34 (by omega) (by omega) (fun hc2 => ?_) (fun hc2 => ?_)
        · omega
        · refine r_aload_n d_Tb_firstDifference_37 rfl ?_
          refine g_getr (b := 410) d_Tb_firstDifference_38 f_Tb_36 rfl rfl rfl ?_
          refine r_iload d_Tb_firstDifference_41 rfl ?_
          refine g_aald (b := (411+q)) (t := 5) (N := 10) d_Tb_firstDifference_43 rfl (by decide) (by omega) (by omega) (g_cols (by omega)) ?_
          refine r_iload d_Tb_firstDifference_44 rfl ?_
          refine g_iald d_Tb_firstDifference_46 (t_cols (by omega)) (by omega) (by omega) ?_
          refine r_top (y := nI (col s g f q k)) ((k5 q (by omega) k (by omega)).1) ?_
          refine r_aload_n d_Tb_firstDifference_47 rfl ?_
          refine g_getr (b := 421) d_Tb_firstDifference_48 f_Tb_39 rfl rfl rfl ?_
          refine r_iload d_Tb_firstDifference_51 rfl ?_
          refine g_aald (b := (422+q)) (t := 5) (N := 10) d_Tb_firstDifference_53 rfl (by decide) (by omega) (by omega) (g_cols2 (by omega)) ?_
          refine r_iload d_Tb_firstDifference_54 rfl ?_
          refine g_iald d_Tb_firstDifference_56 (t_cols2 (by omega)) (by omega) (by omega) ?_
          refine r_top (y := nI (col s g' f' q k)) ((k3 q (by omega) k (by omega)).1) ?_
          refine n_icmp_eq d_Tb_firstDifference_57 (by have h9 := (k5 q (by omega) k (by omega)).2; omega) (by have h9 := (k3 q (by omega) k (by omega)).2; omega) (fun h9 => ?_) (fun h9 => ?_)
          · refine n_iinc (c := 1) (L' := [some (.ref 397), some (.ref a), some (.ref b), some (.int (nI s)), some (.int (nI k)), some (.int (nI (q + 1)))]) d_Tb_firstDifference_69 rfl rfl (by decide) rfl ?_
            refine r_goto d_Tb_firstDifference_72 ?_
            refine ih2 (q + 1) (by omega) (fun j hj => ?_)
            by_cases e : j = q
            · rw [e]; exact fun z => z h9
            · exact h1 j (by omega)
          · refine r_bipush (v := nI 10) d_Tb_firstDifference_60 (by decide) ?_
            refine r_iload d_Tb_firstDifference_62 rfl ?_
            refine n_imul d_Tb_firstDifference_64 ?_
            refine r_iload d_Tb_firstDifference_65 rfl ?_
            refine n_iadd d_Tb_firstDifference_67 ?_
            refine g_reti d_Tb_firstDifference_68 rfl ?_
            refine ⟨Or.inl ⟨k, q, hc, by omega, h9, rfl, fun i' j' hj hlt => ?_⟩, hB2⟩
            rcases hlt with hlt | ⟨rfl, hlt⟩
            · exact h0 i' j' hlt hj
            · exact h1 j' hlt
theorem c_Tb_firstOfChangedPlaces {a b s : Nat} {g f g' f' : Nat → Nat} (ha : isTb a) (hb : isTb b) (hs0 : 2 ≤ s) (hs : s ≤ 10) (hda : a + 2 < 394) (hdb : b + 2 < 394) (hB : BO M) (hA : TbA M a g f) (hB9 : TbA M b g' f') : CI o l m_Tb_firstOfChangedPlaces n [.ref 397, .ref a, .ref b, .int (nI s)] M (fun r M' => FD s (fun i j => col s (mulG s g f g') (mulF s f f') j i ≠ col s (mulG s g' f' g) (mulF s f' f) j i) r ∧ BF M M') := by
  refine ci_of rfl rfl rfl (Nat.le_of_ble_eq_true rfl) ?_
  refine r_aload_n d_Tb_firstOfChangedPlaces_0 rfl ?_
  refine r_aload_n d_Tb_firstOfChangedPlaces_1 rfl ?_
  refine r_iload_n d_Tb_firstOfChangedPlaces_2 rfl ?_
  refine r_aload_n d_Tb_firstOfChangedPlaces_3 rfl ?_
  refine g_getr (b := 401) d_Tb_firstOfChangedPlaces_4 f_Tb_18 rfl rfl rfl ?_
  refine g_Sv (av := [.ref a, .ref b, .int (nI s), .ref 401]) d_Tb_firstOfChangedPlaces_7 k_Tb_99 ws_Tb_multiply (by decide) rfl rfl (Nat.le_of_ble_eq_true rfl) (c_Tb_multiply ha hb isTb_401 hs0 hs (by omega) (by omega) hA hB9) ?_
  rintro M1 ⟨k1, k2⟩
  have hB1 := BF.tab hB k2 (by decide) (by decide) k1
  refine r_aload_n d_Tb_firstOfChangedPlaces_10 rfl ?_
  refine r_aload_n d_Tb_firstOfChangedPlaces_11 rfl ?_
  refine r_iload_n d_Tb_firstOfChangedPlaces_12 rfl ?_
  refine r_aload_n d_Tb_firstOfChangedPlaces_13 rfl ?_
  refine g_getr (b := 404) d_Tb_firstOfChangedPlaces_14 f_Tb_21 rfl rfl rfl ?_
  refine g_Sv (av := [.ref b, .ref a, .int (nI s), .ref 404]) d_Tb_firstOfChangedPlaces_17 k_Tb_99 ws_Tb_multiply (by decide) rfl rfl (Nat.le_of_ble_eq_true rfl) (c_Tb_multiply hb ha isTb_404 hs0 hs (by omega) (by omega) (hB9.kept (k2 _ (by omega)) (k2 _ (by omega))) (hA.kept (k2 _ (by omega)) (k2 _ (by omega)))) ?_
  rintro M2 ⟨k3, k4⟩
  have hB2 := hB1.trans (BF.tab hB1.2 k4 (by decide) (by decide) k3)
  refine r_aload_n d_Tb_firstOfChangedPlaces_20 rfl ?_
  refine r_aload_n d_Tb_firstOfChangedPlaces_21 rfl ?_
  refine g_getr (b := 401) d_Tb_firstOfChangedPlaces_22 f_Tb_18 rfl rfl rfl ?_
  refine r_aload_n d_Tb_firstOfChangedPlaces_25 rfl ?_
  refine g_getr (b := 404) d_Tb_firstOfChangedPlaces_26 f_Tb_21 rfl rfl rfl ?_
  refine r_iload_n d_Tb_firstOfChangedPlaces_29 rfl ?_
  refine g_Vi (av := [.ref 401, .ref 404, .int (nI s)]) d_Tb_firstOfChangedPlaces_30 k_Tb_150 ws_Tb_firstDifference (by decide) rfl rfl (Nat.le_of_ble_eq_true rfl) rfl (c_Tb_firstDifference isTb_401 isTb_404 hs0 hs (by decide) (by decide) hB2.2 (k1.kept (k4 _ (by decide)) (k4 _ (by decide))) k3) ?_
  rintro r M3 ⟨h1, h2⟩
  refine g_reti d_Tb_firstOfChangedPlaces_33 rfl ?_
  exact ⟨h1, hB2.trans h2⟩
end C40
