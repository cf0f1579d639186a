theorem g_ring {j : Nat} (h : j < 8) : gR 70 j = some (71 + 32 * j) := by simp [gR, h]
/-- sums of the first ones -/
def rs (x : Nat → Nat) : Nat → Nat
  | 0 => 0
  | j + 1 => rs x j + x j
def tot (C : Nat → Nat → Nat) : Nat → Nat
  | 0 => 0
  | k + 1 => tot C k + rs (C (2 + k)) (C 0 3)
/-- the acts kept, the latest first -/
def HiA (M : Mem) (hs : List (Nat → Nat → Nat)) (nx : Nat) : Prop := M 69 1 = nI hs.length ∧ M 69 2 = nI nx ∧ nx < 8 ∧ hs.length ≤ 8 ∧ ∀ i C, hs[i]? = some C → StA M (71 + 32 * ((nx + 7 - i) % 8)) C
section C34
variable {o : OM} {l : Launch} {n : Nat} {M : Mem}
theorem c_St_becomeAsAtFirst {b : Nat} (hb : isSt b) : CV o l m_St_becomeAsAtFirst n [.ref b] M (fun M' => StA M' b C0 ∧ FB M M' b (b + 32)) := by
  refine cvo_of rfl rfl rfl (Nat.le_of_ble_eq_true rfl) ?_
  obtain ⟨t0, t1, t2, t3, t4, t5, t6, t7, t8, t9⟩ := id hb
  refine r_aload_n d_St_becomeAsAtFirst_0 rfl ?_
  refine r_iconst (v := nI 0) d_St_becomeAsAtFirst_1 (by decide) ?_
  refine g_puti d_St_becomeAsAtFirst_2 f_St_26 ⟨rfl, rfl, rfl⟩ (by rw [t0]) ?_
  refine r_iconst (v := nI 0) d_St_becomeAsAtFirst_5 (by decide) ?_
  refine r_istore_n (L' := [some (.ref b), some (.int (nI 0))]) d_St_becomeAsAtFirst_6 (by decide) rfl ?_
  suffices H : ∀ d k M1, k + d = 6 → M1 b 3 = nI 0 → (∀ q, rIx q → q < 2 + k → ∀ j, j < 10 → M1 (b + q) j = nI (C0 q j)) → FB M M1 b (b + 32) → Rn o l m_St_becomeAsAtFirst (0, 0) 7 [some (.ref b), some (.int (nI k))] [] (gh n M1) (QV n fun M' => StA M' b C0 ∧ FB M M' b (b + 32)) from
    H 6 0 _ (by omega) (by simp [upm_eq]) (fun q hq h => by unfold rIx at hq; omega) (FB.rf.upm (by omega) (by omega))
  intro d
  induction d with
  | succ d ih =>
    intro k M1 hk h1 h2 h3
    refine r_iload_n d_St_becomeAsAtFirst_7 rfl ?_
    refine r_bipush (v := nI 6) d_St_becomeAsAtFirst_8 (by decide) ?_
    refine n_icmp_ge d_St_becomeAsAtFirst_10 (by omega) (by omega) (fun hc => ?_) (fun hc => ?_)
    · omega
    · refine r_aload_n d_St_becomeAsAtFirst_13 rfl ?_
      refine g_getr (b := (b+1)) d_St_becomeAsAtFirst_14 f_St_11 rfl (by rw [t0]) t1 ?_
      refine r_iload_n d_St_becomeAsAtFirst_17 rfl ?_
      refine g_aald (b := (b+2+k)) (t := 5) (N := 6) d_St_becomeAsAtFirst_18 t4 (by decide) (by omega) (by omega) ((t7 k (by omega)).1) ?_
      refine r_iconst (v := nI 0) d_St_becomeAsAtFirst_19 (by decide) ?_
      refine g_Sv (av := [.ref (b+2+k), .int (nI 0)]) d_St_becomeAsAtFirst_20 k_St_30 ws_Ar_fill (by decide) rfl rfl (Nat.le_of_ble_eq_true rfl) (c_Ar_fill (nI 0) (t7 k (by omega)).2 (by omega)) ?_
      rintro M2 rfl
      refine n_iinc (c := 1) (L' := [some (.ref b), some (.int (nI (k + 1)))]) d_St_becomeAsAtFirst_23 rfl rfl (by decide) rfl ?_
      refine r_goto d_St_becomeAsAtFirst_26 ?_
      refine ih (k + 1) _ (by omega) (by rw [wr_ne _ _ (by omega)]; exact h1) (fun q hq h j hj => ?_) (h3.wr (by omega) (by omega))
      by_cases e : q = 2 + k
      · subst e
        rw [← Nat.add_assoc, wr_eq, fl, if_pos hj, C0, if_neg (by omega)]
      · rw [wr_ne _ _ (by omega)]
        exact h2 q hq (by omega) j hj
  | zero =>
    intro k M1 hk h1 h2 h3
    obtain rfl : k = 6 := by omega
    refine r_iload_n d_St_becomeAsAtFirst_7 rfl ?_
    refine r_bipush (v := nI 6) d_St_becomeAsAtFirst_8 (by decide) ?_
    refine n_icmp_ge d_St_becomeAsAtFirst_10 (by omega) (by omega) (fun hc => ?_) (fun hc => ?_)
    · refine r_iconst (v := nI 0) d_St_becomeAsAtFirst_29 (by decide) ?_
      refine r_istore_n (L' := [some (.ref b), some (.int (nI 0))]) d_St_becomeAsAtFirst_30 (by decide) rfl ?_
      suffices H : ∀ d k M1, k + d = 4 → M1 b 3 = nI 0 → (∀ q, rIx q → (q < 8 ∨ 20 ≤ q ∧ q < 20 + 3 * k) → ∀ j, j < 10 → M1 (b + q) j = nI (C0 q j)) → FB M M1 b (b + 32) → Rn o l m_St_becomeAsAtFirst (0, 0) 31 [some (.ref b), some (.int (nI k))] [] (gh n M1) (QV n fun M' => StA M' b C0 ∧ FB M M' b (b + 32)) from
        H 4 0 _ (by omega) h1 (fun q hq h => h2 q hq (by omega)) h3
      clear h1 h2 h3 hc
      intro d
      induction d with
      | succ d ih =>
        intro k M1 hk h1 h2 h3
        obtain ⟨v1, v2⟩ := t8 k (by omega)
        refine r_iload_n d_St_becomeAsAtFirst_31 rfl ?_
        refine r_iconst (v := nI 4) d_St_becomeAsAtFirst_32 (by decide) ?_
        refine n_icmp_ge d_St_becomeAsAtFirst_33 (by omega) (by omega) (fun hc => ?_) (fun hc => ?_)
        · omega
        · refine r_aload_n d_St_becomeAsAtFirst_36 rfl ?_
          refine g_getr (b := (b+8)) d_St_becomeAsAtFirst_37 f_St_18 rfl (by rw [t0]) t2 ?_
          refine r_iload_n d_St_becomeAsAtFirst_40 rfl ?_
          refine g_aald (b := (b+20+3*k)) (t := 7) (N := 4) d_St_becomeAsAtFirst_41 t5 (by decide) (by omega) (by omega) v1 ?_
          refine g_Vv (av := []) d_St_becomeAsAtFirst_42 k_St_36 ws_Ta_becomeOne (by decide) rfl rfl (Nat.le_of_ble_eq_true rfl) (by rw [v2.1]) (c_Ta_becomeOne v2) ?_
          rintro M2 ⟨h4, h5⟩
          refine n_iinc (c := 1) (L' := [some (.ref b), some (.int (nI (k + 1)))]) d_St_becomeAsAtFirst_45 rfl rfl (by decide) rfl ?_
          refine r_goto d_St_becomeAsAtFirst_48 ?_
          refine ih (k + 1) M2 (by omega) (by rw [h5 b (by omega)]; exact h1) (fun q hq h j hj => ?_) (h3.trans (h5.mono (by omega) (by omega)))
          by_cases e1 : q = 21 + 3 * k
          · subst e1
            rw [show b + (21 + 3 * k) = b + 20 + 3 * k + 1 by omega, (h4 j hj).1, C0]
            congr 1
            by_cases e : j = 0
            · rw [if_pos e, if_pos (by omega)]
            · rw [if_neg e, if_neg (by omega)]
          · by_cases e2 : q = 22 + 3 * k
            · subst e2
              rw [show b + (22 + 3 * k) = b + 20 + 3 * k + 2 by omega, (h4 j hj).2, C0]
              congr 1
              by_cases e : j = 1
              · rw [if_pos e, if_pos (by omega)]
              · rw [if_neg e, if_neg (by omega)]
            · have e3 : q < 8 ∨ 20 ≤ q ∧ q < 20 + 3 * k := by unfold rIx at hq; omega
              rw [h5 _ (by omega)]
              exact h2 q hq e3 j hj
      | zero =>
        intro k M1 hk h1 h2 h3
        obtain rfl : k = 4 := by omega
        refine r_iload_n d_St_becomeAsAtFirst_31 rfl ?_
        refine r_iconst (v := nI 4) d_St_becomeAsAtFirst_32 (by decide) ?_
        refine n_icmp_ge d_St_becomeAsAtFirst_33 (by omega) (by omega) (fun hc => ?_) (fun hc => ?_)
        · refine r_iconst (v := nI 0) d_St_becomeAsAtFirst_51 (by decide) ?_
          refine r_istore_n (L' := [some (.ref b), some (.int (nI 0))]) d_St_becomeAsAtFirst_52 (by decide) rfl ?_
          suffices H : ∀ d k M1, k + d = 10 → M1 b 3 = nI 0 → (∀ q, rIx q → (q < 10 + k ∨ 20 ≤ q) → ∀ j, j < 10 → M1 (b + q) j = nI (C0 q j)) → FB M M1 b (b + 32) → Rn o l m_St_becomeAsAtFirst (0, 0) 53 [some (.ref b), some (.int (nI k))] [] (gh n M1) (QV n fun M' => StA M' b C0 ∧ FB M M' b (b + 32)) from
            H 10 0 _ (by omega) h1 (fun q hq h => h2 q hq (by unfold rIx at hq; omega)) h3
          clear h1 h2 h3 hc
          intro d
          induction d with
          | succ d ih =>
            intro k M1 hk h1 h2 h3
            refine r_iload_n d_St_becomeAsAtFirst_53 rfl ?_
            refine r_bipush (v := nI 10) d_St_becomeAsAtFirst_54 (by decide) ?_
            refine n_icmp_ge d_St_becomeAsAtFirst_56 (by omega) (by omega) (fun hc => ?_) (fun hc => ?_)
            · omega
            · refine r_aload_n d_St_becomeAsAtFirst_59 rfl ?_
              refine g_getr (b := (b+9)) d_St_becomeAsAtFirst_60 f_St_22 rfl (by rw [t0]) t3 ?_
              refine r_iload_n d_St_becomeAsAtFirst_63 rfl ?_
              refine g_aald (b := (b+10+k)) (t := 5) (N := 10) d_St_becomeAsAtFirst_64 t6 (by decide) (by omega) (by omega) ((t9 k (by omega)).1) ?_
              refine r_iconst (v := nI 0) d_St_becomeAsAtFirst_65 (by decide) ?_
              refine g_Sv (av := [.ref (b+10+k), .int (nI 0)]) d_St_becomeAsAtFirst_66 k_St_30 ws_Ar_fill (by decide) rfl rfl (Nat.le_of_ble_eq_true rfl) (c_Ar_fill (nI 0) (t9 k (by omega)).2 (by omega)) ?_
              rintro M2 rfl
              refine n_iinc (c := 1) (L' := [some (.ref b), some (.int (nI (k + 1)))]) d_St_becomeAsAtFirst_69 rfl rfl (by decide) rfl ?_
              refine r_goto d_St_becomeAsAtFirst_72 ?_
              refine ih (k + 1) _ (by omega) (by rw [wr_ne _ _ (by omega)]; exact h1) (fun q hq h j hj => ?_) (h3.wr (by omega) (by omega))
              by_cases e : q = 10 + k
              · subst e
                rw [← Nat.add_assoc, wr_eq, fl, if_pos hj, C0, if_neg (by omega)]
              · rw [wr_ne _ _ (by omega)]
                exact h2 q hq (by omega) j hj
          | zero =>
            intro k M1 hk h1 h2 h3
            obtain rfl : k = 10 := by omega
            refine r_iload_n d_St_becomeAsAtFirst_53 rfl ?_
            refine r_bipush (v := nI 10) d_St_becomeAsAtFirst_54 (by decide) ?_
            refine n_icmp_ge d_St_becomeAsAtFirst_56 (by omega) (by omega) (fun hc => ?_) (fun hc => ?_)
            · refine g_retv d_St_becomeAsAtFirst_75 rfl ?_
              exact ⟨⟨h1, fun q hq => h2 q hq (by unfold rIx at hq; omega)⟩, h3⟩
            · omega
        · omega
    · omega
theorem c_St_sumOfSeries {b : Nat} {C : Nat → Nat → Nat} (hb : isSt b) (hC : StA M b C) (hs : C 0 3 ≤ 10) (hr : ∀ k, 2 ≤ k → k < 8 → ∀ j, j < 10 → C k j < 1000003) : CI o l m_St_sumOfSeries n [.ref b] M (fun r M' => r = nI (tot C 6 % 1000003) ∧ M = M') := by
  refine ci_of rfl rfl rfl (Nat.le_of_ble_eq_true rfl) ?_
  obtain ⟨t0, t1, t2, t3, t4, t5, t6, t7, t8, t9⟩ := id hb
  refine r_iconst (v := nI 0) d_St_sumOfSeries_0 (by decide) ?_
  refine r_istore_n (L' := [some (.ref b), some (.int (nI 0)), none, none]) d_St_sumOfSeries_1 (by decide) rfl ?_
  refine r_iconst (v := nI 0) d_St_sumOfSeries_2 (by decide) ?_
  refine r_istore_n (L' := [some (.ref b), some (.int (nI 0)), some (.int (nI 0)), none]) d_St_sumOfSeries_3 (by decide) rfl ?_
  suffices H : ∀ d k u, k + d = 6 → Rn o l m_St_sumOfSeries (0, 0) 4 [some (.ref b), some (.int (nI (tot C k % 1000003))), some (.int (nI k)), u] [] (gh n M) (QI n fun r M' => r = nI (tot C 6 % 1000003) ∧ M = M') from H 6 0 _ (by omega)
  intro d
  induction d with
  | zero =>
    intro k u hk
    obtain rfl : k = 6 := by omega
    refine r_iload_n d_St_sumOfSeries_4 rfl ?_
    refine r_bipush (v := nI 6) d_St_sumOfSeries_5 (by decide) ?_
    refine n_icmp_ge d_St_sumOfSeries_7 (by omega) (by omega) (fun hc => ?_) (fun hc => ?_)
    · refine r_iload_n d_St_sumOfSeries_46 rfl ?_
      refine g_reti d_St_sumOfSeries_47 rfl ?_
      exact ⟨rfl, rfl⟩
    · omega
  | succ d ih =>
    intro k u hk
    refine r_iload_n d_St_sumOfSeries_4 rfl ?_
    refine r_bipush (v := nI 6) d_St_sumOfSeries_5 (by decide) ?_
    refine n_icmp_ge d_St_sumOfSeries_7 (by omega) (by omega) (fun hc => ?_) (fun hc => ?_)
    · omega
    · refine r_iconst (v := nI 0) d_St_sumOfSeries_10 (by decide) ?_
      refine r_istore_n (L' := [some (.ref b), some (.int (nI (tot C k % 1000003))), some (.int (nI k)), some (.int (nI 0))]) d_St_sumOfSeries_11 (by decide) rfl ?_
      suffices H2 : ∀ d2 j, j + d2 = C 0 3 → Rn o l m_St_sumOfSeries (0, 0) 12 [some (.ref b), some (.int (nI ((tot C k + rs (C (2 + k)) j) % 1000003))), some (.int (nI k)), some (.int (nI j))] [] (gh n M) (QI n fun r M' => r = nI (tot C 6 % 1000003) ∧ M = M') from H2 (C 0 3) 0 (by omega)
      intro d2
      induction d2 with
      | zero =>
        intro j hj
        obtain rfl : j = C 0 3 := by omega
        refine r_iload_n d_St_sumOfSeries_12 rfl ?_
        refine r_aload_n d_St_sumOfSeries_13 rfl ?_
        refine g_geti d_St_sumOfSeries_14 f_St_26 rfl (by rw [t0]) ?_
        refine r_top (y := (nI (C 0 3))) (hC.1) ?_
        refine n_icmp_ge d_St_sumOfSeries_17 (by omega) (by omega) (fun hc2 => ?_) (fun hc2 => ?_)
        · refine n_iinc (c := 1) (L' := [some (.ref b), some (.int (nI ((tot C k + rs (C (2 + k)) (C 0 3)) % 1000003))), some (.int (nI (k + 1))), some (.int (nI (C 0 3)))]) d_St_sumOfSeries_40 rfl rfl (by decide) rfl ?_
          refine r_goto d_St_sumOfSeries_43 ?_
          exact ih (k + 1) _ (by omega)
        · omega
      | succ d2 ih2 =>
        intro j hj
        refine r_iload_n d_St_sumOfSeries_12 rfl ?_
        refine r_aload_n d_St_sumOfSeries_13 rfl ?_
        refine g_geti d_St_sumOfSeries_14 f_St_26 rfl (by rw [t0]) ?_
        refine r_top (y := (nI (C 0 3))) (hC.1) ?_
        refine n_icmp_ge d_St_sumOfSeries_17 (by omega) (by omega) (fun hc2 => ?_) (fun hc2 => ?_)
        · omega
        · refine r_iload_n d_St_sumOfSeries_20 rfl ?_
          refine r_aload_n d_St_sumOfSeries_21 rfl ?_
          refine g_getr (b := (b+1)) d_St_sumOfSeries_22 f_St_11 rfl (by rw [t0]) t1 ?_
          refine r_iload_n d_St_sumOfSeries_25 rfl ?_
          refine g_aald (b := (b+2+k)) (t := 5) (N := 6) d_St_sumOfSeries_26 t4 (by decide) (by omega) (by omega) ((t7 k (by omega)).1) ?_
          refine r_iload_n d_St_sumOfSeries_27 rfl ?_
          refine g_iald d_St_sumOfSeries_28 ((t7 k (by omega)).2) (by omega) (by omega) ?_
          refine r_top (y := nI (C (2+k) j)) (by rw [Nat.add_assoc]; exact hC.2 _ (by unfold rIx; omega) _ (by omega)) ?_
          refine n_iadd d_St_sumOfSeries_29 ?_
          refine r_ldc (v := nI 1000003) d_St_sumOfSeries_30 c_St_49 ?_
          refine n_irem d_St_sumOfSeries_32 (by have h9 := hr (2+k) (by omega) (by omega) j (by omega); omega) (by omega) (by omega) ?_
          refine r_istore_n (L' := [some (.ref b), some (.int (nI ((((tot C k + rs (C (2 + k)) j) % 1000003) + (C (2+k) j)) % 1000003))), some (.int (nI k)), some (.int (nI j))]) d_St_sumOfSeries_33 (by decide) rfl ?_
          refine n_iinc (c := 1) (L' := [some (.ref b), some (.int (nI ((((tot C k + rs (C (2 + k)) j) % 1000003) + (C (2+k) j)) % 1000003))), some (.int (nI k)), some (.int (nI (j + 1)))]) d_St_sumOfSeries_34 rfl rfl (by decide) rfl ?_
          refine r_goto d_St_sumOfSeries_37 ?_
          rw [show ((tot C k + rs (C (2 + k)) j) % 1000003 + C (2 + k) j) % 1000003 = (tot C k + rs (C (2 + k)) (j + 1)) % 1000003 from by simp only [rs]; omega]
          exact ih2 (j + 1) (by omega)
theorem c_Hi_keep {C : Nat → Nat → Nat} {hs : List (Nat → Nat → Nat)} {nx : Nat} (hC : StA M 37 C) (hH : HiA M hs nx) : CV o l m_Hi_keep n [.ref 69, .ref 37] M (fun M' => HiA M' ((C :: hs).take 8) ((nx + 1) % 8) ∧ FB M M' 69 327) := by
  refine cvo_of rfl rfl rfl (Nat.le_of_ble_eq_true rfl) ?_
  obtain ⟨h1, h2, h3, h4, h5⟩ := hH
  refine r_aload_n d_Hi_keep_0 rfl ?_
  refine g_getr (b := 70) d_Hi_keep_1 f_Hi_11 rfl rfl rfl ?_
  refine r_aload_n d_Hi_keep_4 rfl ?_
  refine g_geti d_Hi_keep_5 f_Hi_18 rfl rfl ?_
  refine r_top (y := (nI nx)) (h2) ?_
  refine g_aald (b := (71+32*nx)) (t := 6) (N := 8) d_Hi_keep_8 rfl (by decide) (by omega) (by omega) (g_ring h3) ?_
  refine r_aload_n d_Hi_keep_9 rfl ?_
  refine g_Vv (av := [.ref 37]) d_Hi_keep_10 k_Hi_22 ws_St_copyFrom (by decide) rfl rfl (Nat.le_of_ble_eq_true rfl) (by rw [((isSt_ring nx h3).1)]) (c_St_copyFrom (isSt_ring nx h3) isSt_37 (by omega) hC) ?_
  rintro M1 ⟨h6, h7⟩
  refine r_aload_n d_Hi_keep_13 rfl ?_
  refine r_aload_n d_Hi_keep_14 rfl ?_
  refine g_geti d_Hi_keep_15 f_Hi_18 rfl rfl ?_
  refine r_top (y := (nI nx)) (by rw [h7 69 (by omega)]; exact h2) ?_
  refine r_iconst (v := nI 1) d_Hi_keep_18 (by decide) ?_
  refine n_iadd d_Hi_keep_19 ?_
  refine r_bipush (v := nI 8) d_Hi_keep_20 (by decide) ?_
  refine n_irem d_Hi_keep_22 (by omega) (by omega) (by omega) ?_
  refine g_puti d_Hi_keep_23 f_Hi_18 ⟨rfl, rfl, rfl⟩ rfl ?_
  generalize hM2 : upm M1 69 2 (nI ((nx + 1) % 8)) = M2
  have e2 : M2 69 2 = nI ((nx + 1) % 8) := by rw [← hM2]; simp [upm_eq]
  have e1 : M2 69 1 = nI hs.length := by rw [← hM2]; simp [upm_eq]; rw [h7 69 (by omega)]; exact h1
  have e0 : ∀ a, a ≠ 69 → M2 a = M1 a := fun a ha => by rw [← hM2, upm_ne _ _ _ ha]
  refine r_aload_n d_Hi_keep_26 rfl ?_
  refine r_aload_n d_Hi_keep_27 rfl ?_
  refine g_geti d_Hi_keep_28 f_Hi_26 rfl rfl ?_
  refine r_top (y := (nI hs.length)) (e1) ?_
  refine r_iconst (v := nI 1) d_Hi_keep_31 (by decide) ?_
  refine n_iadd d_Hi_keep_32 ?_
  refine r_bipush (v := nI 8) d_Hi_keep_33 (by decide) ?_
  refine r_mmin d_Hi_keep_35 k_Hi_29 (by decide) (Nat.le_of_ble_eq_true rfl) (by omega) (by omega) ?_
  refine g_puti d_Hi_keep_38 f_Hi_26 ⟨rfl, rfl, rfl⟩ rfl ?_
  refine g_retv d_Hi_keep_41 rfl ?_
  refine ⟨⟨?_, ?_, Nat.mod_lt _ (by decide), ?_, fun i C' hi => ?_⟩, fun a ha => ?_⟩
  · rw [upm_eq, List.length_take, List.length_cons, Nat.min_comm 8]
    simp
  · rw [upm_eq]; simp [e2]
  · rw [List.length_take]; omega
  · have hi8 : i < 8 := by
      have := (List.getElem?_eq_some_iff.mp hi).1
      rw [List.length_take] at this; omega
    rw [List.getElem?_take, if_pos hi8] at hi
    match i, hi with
    | 0, hi =>
      cases hi
      rw [show 71 + 32 * (((nx + 1) % 8 + 7 - 0) % 8) = 71 + 32 * nx by omega]
      exact h6.kept (fun a ha hb => by rw [upm_ne _ _ _ (by omega), e0 a (by omega)])
    | i + 1, hi =>
      have hi' : hs[i]? = some C' := hi
      have hil := (List.getElem?_eq_some_iff.mp hi').1
      rw [show 71 + 32 * (((nx + 1) % 8 + 7 - (i + 1)) % 8) = 71 + 32 * ((nx + 7 - i) % 8) by omega]
      exact (h5 i C' hi').kept (fun a ha hb => by rw [upm_ne _ _ _ (by omega), e0 a (by omega), h7 a (by omega)])
  · rw [upm_ne _ _ _ (by omega), e0 a (by omega), h7 a (by omega)]
theorem c_Hi_takeBack {C : Nat → Nat → Nat} {hs : List (Nat → Nat → Nat)} {nx : Nat} (hH : HiA M (C :: hs) nx) : CV o l m_Hi_takeBack n [.ref 69, .ref 37] M (fun M' => StA M' 37 C ∧ HiA M' hs ((nx + 7) % 8) ∧ FB M M' 37 70) := by
  refine cvo_of rfl rfl rfl (Nat.le_of_ble_eq_true rfl) ?_
  obtain ⟨h1, h2, h3, h4, h5⟩ := hH
  simp only [List.length_cons] at h1 h4
  refine r_aload_n d_Hi_takeBack_0 rfl ?_
  refine g_geti d_Hi_takeBack_1 f_Hi_26 rfl rfl ?_
  refine r_top (y := (nI (hs.length + 1))) (h1) ?_
  refine n_if_le d_Hi_takeBack_4 (by omega) (fun hc => ?_) (fun hc => ?_)
  · omega
  · refine r_aload_n d_Hi_takeBack_7 rfl ?_
    refine r_aload_n d_Hi_takeBack_8 rfl ?_
    refine g_geti d_Hi_takeBack_9 f_Hi_18 rfl rfl ?_
    refine r_top (y := (nI nx)) (h2) ?_
    refine r_bipush (v := nI 8) d_Hi_takeBack_12 (by decide) ?_
    refine n_iadd d_Hi_takeBack_14 ?_
    refine r_iconst (v := nI 1) d_Hi_takeBack_15 (by decide) ?_
    refine n_isub d_Hi_takeBack_16 (by omega) ?_
    refine r_bipush (v := nI 8) d_Hi_takeBack_17 (by decide) ?_
    refine n_irem d_Hi_takeBack_19 (by omega) (by omega) (by omega) ?_
    refine g_puti d_Hi_takeBack_20 f_Hi_18 ⟨rfl, rfl, rfl⟩ rfl ?_
    rw [show nx + 8 - 1 = nx + 7 by omega]
    generalize hM2 : upm M 69 2 (nI ((nx + 7) % 8)) = M2
    have e2 : M2 69 2 = nI ((nx + 7) % 8) := by rw [← hM2]; simp [upm_eq]
    have e1 : M2 69 1 = nI (hs.length + 1) := by rw [← hM2]; simp [upm_eq]; exact h1
    have e0 : ∀ a, a ≠ 69 → M2 a = M a := fun a ha => by rw [← hM2, upm_ne _ _ _ ha]
    have hn8 : (nx + 7) % 8 < 8 := Nat.mod_lt _ (by decide)
    refine r_aload_n d_Hi_takeBack_23 rfl ?_
    refine r_aload_n d_Hi_takeBack_24 rfl ?_
    refine g_getr (b := 70) d_Hi_takeBack_25 f_Hi_11 rfl rfl rfl ?_
    refine r_aload_n d_Hi_takeBack_28 rfl ?_
    refine g_geti d_Hi_takeBack_29 f_Hi_18 rfl rfl ?_
    refine r_top (y := (nI ((nx + 7) % 8))) (e2) ?_
    refine g_aald (b := (71+32*((nx+7)%8))) (t := 6) (N := 8) d_Hi_takeBack_32 rfl (by decide) (by omega) (by omega) (g_ring hn8) ?_
    have hC := (h5 0 C rfl).kept (M' := M2) (fun a ha hb => e0 a (by omega))
    rw [Nat.sub_zero] at hC
    refine g_Vv (av := [.ref (71+32*((nx+7)%8))]) d_Hi_takeBack_33 k_Hi_22 ws_St_copyFrom (by decide) rfl rfl (Nat.le_of_ble_eq_true rfl) rfl (c_St_copyFrom isSt_37 (isSt_ring _ hn8) (by omega) hC) ?_
    rintro M1 ⟨h6, h7⟩
    refine r_aload_n d_Hi_takeBack_36 rfl ?_
    refine r_dup d_Hi_takeBack_37 rfl ?_
    refine g_geti d_Hi_takeBack_38 f_Hi_26 rfl rfl ?_
    refine r_top (y := (nI (hs.length + 1))) (by rw [h7 69 (by omega)]; exact e1) ?_
    refine r_iconst (v := nI 1) d_Hi_takeBack_41 (by decide) ?_
    refine n_isub d_Hi_takeBack_42 (by omega) ?_
    refine g_puti d_Hi_takeBack_43 f_Hi_26 ⟨rfl, rfl, rfl⟩ rfl ?_
    refine g_retv d_Hi_takeBack_46 rfl ?_
    rw [Nat.add_sub_cancel]
    refine ⟨h6.kept (fun a ha hb => upm_ne _ _ _ (by omega)), ⟨by simp [upm_eq], by simp [upm_eq]; rw [h7 69 (by omega)]; exact e2, hn8, by omega, fun i C' hi => ?_⟩, fun a ha => by rw [upm_ne _ _ _ (by omega), h7 a (by omega), e0 a (by omega)]⟩
    have hil := (List.getElem?_eq_some_iff.mp hi).1
    rw [show 71 + 32 * (((nx + 7) % 8 + 7 - i) % 8) = 71 + 32 * ((nx + 7 - (i + 1)) % 8) by omega]
    exact (h5 (i + 1) C' hi).kept (fun a ha hb => by rw [upm_ne _ _ _ (by omega), h7 a (by omega), e0 a (by omega)])
theorem c_Hi_forget {hs : List (Nat → Nat → Nat)} {nx : Nat} (hH : HiA M hs nx) : CV o l m_Hi_forget n [.ref 69] M (fun M' => HiA M' [] nx ∧ FB M M' 69 70) := by
  refine cvo_of rfl rfl rfl (Nat.le_of_ble_eq_true rfl) ?_
  refine r_aload_n d_Hi_forget_0 rfl ?_
  refine r_iconst (v := nI 0) d_Hi_forget_1 (by decide) ?_
  refine g_puti d_Hi_forget_2 f_Hi_26 ⟨rfl, rfl, rfl⟩ rfl ?_
  refine g_retv d_Hi_forget_5 rfl ?_
  exact ⟨⟨by simp [upm_eq], by simp [upm_eq]; exact hH.2.1, hH.2.2.1, by simp, fun i C' hi => by simp at hi⟩, fun a ha => upm_ne _ _ _ (by omega)⟩
end C34
