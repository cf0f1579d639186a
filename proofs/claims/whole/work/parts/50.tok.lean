section C50
variable {o : OM} {l : Launch} {n : Nat} {M : Mem} {T : Nat → Nat} {w : Nat}
theorem lc_le (T : Nat → Nat) (q k : Nat) : lc T q k ≤ k := by
  induction k with
  | zero => exact Nat.le_refl _
  | succ k ih =>
    unfold lc
    split <;> omega
theorem c_Re_readWordOrNumber {q : Nat} (hO : OS o) (hR : RT M T w) (hq : q ≤ w) (h3 : M 1 3 = nI q) (h5 : M 1 5 = nI q) : CV o l m_Re_readWordOrNumber n [.ref 1] M (fun M' => RF M M' ∧ M' 1 3 = nI (en T w q) ∧ M' 1 4 = nI (wrd T q (en T w q)) ∧ M' 1 5 = nI q ∧ (wrd T q (en T w q) = 2 → M' 1 6 = nI (vl T q (en T w q - q)))) := by
  refine cvo_of rfl rfl rfl (Nat.le_of_ble_eq_true rfl) ?_
  obtain ⟨r1, r2, r3⟩ := id hR
  obtain ⟨en1, en2⟩ := en_le (T := T) hq
  have lE := lc_le T q (en T w q - q)
  -- what stands behind the loop
  have J : ∀ (u : Option Value) (M2 : Mem), RF M M2 → M2 1 3 = nI (en T w q) → M2 1 5 = nI q → (lc T q (en T w q - q) = 0 → en T w q - q ≤ 3 → M2 1 6 = nI (vl T q (en T w q - q))) → Rn o l m_Re_readWordOrNumber (0, 0) 97 [some (.ref 1), some (.int (nI (lc T q (en T w q - q)))), some (.int (nI (en T w q - q - lc T q (en T w q - q)))), u] [] (gh n M2) (QV n (fun M' => RF M M' ∧ M' 1 3 = nI (en T w q) ∧ M' 1 4 = nI (wrd T q (en T w q)) ∧ M' 1 5 = nI q ∧ (wrd T q (en T w q) = 2 → M' 1 6 = nI (vl T q (en T w q - q))))) := by
    intro u M2 f1 f2 f3 f4
    have hR2 : RT M2 T w := hR.rf f1
    generalize hE : en T w q = E at *
    generalize hlt : lc T q (E - q) = lt at *
    have K : ∀ (k : Nat) (pc : Nat), k = wrd T q E → ∃ x : Unit, (RF M (upm M2 1 4 (nI k)) ∧ upm M2 1 4 (nI k) 1 3 = nI E ∧ upm M2 1 4 (nI k) 1 4 = nI (wrd T q E) ∧ upm M2 1 4 (nI k) 1 5 = nI q ∧ (wrd T q E = 2 → upm M2 1 4 (nI k) 1 6 = nI (vl T q (E - q)))) := by
      intro k pc hk
      refine ⟨(), f1.up (by omega), by rw [upm_at, if_neg (by omega)]; exact f2, by rw [upm_at, if_pos rfl, hk], by rw [upm_at, if_neg (by omega)]; exact f3, fun z => ?_⟩
      rw [upm_at, if_neg (by omega)]
      obtain ⟨z1, z2, z3⟩ := wrd_v z
      exact f4 (by rw [← hlt]; exact z1) z3
    have nn : ∀ (hno : ¬ (lt = 0 ∧ 1 ≤ E - q ∧ E - q ≤ 3)), Rn o l m_Re_readWordOrNumber (0, 0) 119 [some (.ref 1), some (.int (nI lt)), some (.int (nI (E - q - lt))), u] [] (gh n M2) (QV n (fun M' => RF M M' ∧ M' 1 3 = nI E ∧ M' 1 4 = nI (wrd T q E) ∧ M' 1 5 = nI q ∧ (wrd T q E = 2 → M' 1 6 = nI (vl T q (E - q))))) := by
      intro hno
      rw [← hlt] at hno
      refine r_aload_n d_Re_readWordOrNumber_119 rfl ?_
      refine r_ldcS (i := 0) hO (by decide) rfl d_Re_readWordOrNumber_120 ?_
      refine g_Vi (av := [.retAddr 1]) d_Re_readWordOrNumber_122 k_Re_145 ws_Re_isWord (by decide) rfl rfl (Nat.le_of_ble_eq_true rfl) rfl (c_Re_isWord (i := 0) hO (by decide) hR2 en1 en2 f2 f3) ?_
      rintro r _ ⟨h9 | h9, rfl⟩
      · obtain ⟨rfl, h9⟩ := h9
        refine n_if_eq d_Re_readWordOrNumber_125 (by omega) (fun h9 => absurd h9 (by decide)) (fun _ => ?_)
        refine r_aload_n d_Re_readWordOrNumber_128 rfl ?_
        refine r_iconst (v := nI 5) d_Re_readWordOrNumber_129 (by decide) ?_
        refine g_puti d_Re_readWordOrNumber_130 f_Re_54 ⟨rfl, rfl, rfl⟩ rfl ?_
        refine r_goto d_Re_readWordOrNumber_133 ?_
        refine g_retv d_Re_readWordOrNumber_195 rfl ?_
        exact (K _ 0 (by rw [wrd, ic_f hno, ic_t h9])).choose_spec
      · obtain ⟨rfl, h9⟩ := h9
        refine n_if_eq d_Re_readWordOrNumber_125 (by omega) (fun _ => ?_) (fun h9 => absurd h9 (by decide))
        refine r_aload_n d_Re_readWordOrNumber_136 rfl ?_
        refine r_ldcS (i := 1) hO (by decide) rfl d_Re_readWordOrNumber_137 ?_
        refine g_Vi (av := [.retAddr 2]) d_Re_readWordOrNumber_139 k_Re_145 ws_Re_isWord (by decide) rfl rfl (Nat.le_of_ble_eq_true rfl) rfl (c_Re_isWord (i := 1) hO (by decide) hR2 en1 en2 f2 f3) ?_
        rintro r _ ⟨h8 | h8, rfl⟩
        · obtain ⟨rfl, h8⟩ := h8
          refine n_if_eq d_Re_readWordOrNumber_142 (by omega) (fun h9 => absurd h9 (by decide)) (fun _ => ?_)
          refine r_aload_n d_Re_readWordOrNumber_145 rfl ?_
          refine r_bipush (v := nI 6) d_Re_readWordOrNumber_146 (by decide) ?_
          refine g_puti d_Re_readWordOrNumber_148 f_Re_54 ⟨rfl, rfl, rfl⟩ rfl ?_
          refine r_goto d_Re_readWordOrNumber_151 ?_
          refine g_retv d_Re_readWordOrNumber_195 rfl ?_
          exact (K _ 0 (by rw [wrd, ic_f hno, ic_f h9, ic_t h8])).choose_spec
        · obtain ⟨rfl, h8⟩ := h8
          refine n_if_eq d_Re_readWordOrNumber_142 (by omega) (fun _ => ?_) (fun h9 => absurd h9 (by decide))
          refine r_aload_n d_Re_readWordOrNumber_154 rfl ?_
          refine r_ldcS (i := 2) hO (by decide) rfl d_Re_readWordOrNumber_155 ?_
          refine g_Vi (av := [.retAddr 3]) d_Re_readWordOrNumber_157 k_Re_145 ws_Re_isWord (by decide) rfl rfl (Nat.le_of_ble_eq_true rfl) rfl (c_Re_isWord (i := 2) hO (by decide) hR2 en1 en2 f2 f3) ?_
          rintro r _ ⟨h7 | h7, rfl⟩
          · obtain ⟨rfl, h7⟩ := h7
            refine n_if_eq d_Re_readWordOrNumber_160 (by omega) (fun h9 => absurd h9 (by decide)) (fun _ => ?_)
            refine r_aload_n d_Re_readWordOrNumber_163 rfl ?_
            refine r_bipush (v := nI 7) d_Re_readWordOrNumber_164 (by decide) ?_
            refine g_puti d_Re_readWordOrNumber_166 f_Re_54 ⟨rfl, rfl, rfl⟩ rfl ?_
            refine r_goto d_Re_readWordOrNumber_169 ?_
            refine g_retv d_Re_readWordOrNumber_195 rfl ?_
            exact (K _ 0 (by rw [wrd, ic_f hno, ic_f h9, ic_f h8, ic_t h7])).choose_spec
          · obtain ⟨rfl, h7⟩ := h7
            refine n_if_eq d_Re_readWordOrNumber_160 (by omega) (fun _ => ?_) (fun h9 => absurd h9 (by decide))
            refine r_aload_n d_Re_readWordOrNumber_172 rfl ?_
            refine r_ldcS (i := 3) hO (by decide) rfl d_Re_readWordOrNumber_173 ?_
            refine g_Vi (av := [.retAddr 4]) d_Re_readWordOrNumber_175 k_Re_145 ws_Re_isWord (by decide) rfl rfl (Nat.le_of_ble_eq_true rfl) rfl (c_Re_isWord (i := 3) hO (by decide) hR2 en1 en2 f2 f3) ?_
            rintro r _ ⟨h6 | h6, rfl⟩
            · obtain ⟨rfl, h6⟩ := h6
              refine n_if_eq d_Re_readWordOrNumber_178 (by omega) (fun h9 => absurd h9 (by decide)) (fun _ => ?_)
              refine r_aload_n d_Re_readWordOrNumber_181 rfl ?_
              refine r_bipush (v := nI 8) d_Re_readWordOrNumber_182 (by decide) ?_
              refine g_puti d_Re_readWordOrNumber_184 f_Re_54 ⟨rfl, rfl, rfl⟩ rfl ?_
              refine r_goto d_Re_readWordOrNumber_187 ?_
              refine g_retv d_Re_readWordOrNumber_195 rfl ?_
              exact (K _ 0 (by rw [wrd, ic_f hno, ic_f h9, ic_f h8, ic_f h7, ic_t h6])).choose_spec
            · obtain ⟨rfl, h6⟩ := h6
              refine n_if_eq d_Re_readWordOrNumber_178 (by omega) (fun _ => ?_) (fun h9 => absurd h9 (by decide))
              refine r_aload_n d_Re_readWordOrNumber_190 rfl ?_
              refine r_iconst (v := nI 0) d_Re_readWordOrNumber_191 (by decide) ?_
              refine g_puti d_Re_readWordOrNumber_192 f_Re_54 ⟨rfl, rfl, rfl⟩ rfl ?_
              refine g_retv d_Re_readWordOrNumber_195 rfl ?_
              exact (K _ 0 (by rw [wrd, ic_f hno, ic_f h9, ic_f h8, ic_f h7, ic_f h6])).choose_spec
    refine r_iload_n d_Re_readWordOrNumber_97 rfl ?_
    refine n_if_ne d_Re_readWordOrNumber_98 (by omega) (fun hc => ?_) (fun hc => ?_)
    · exact nn (fun z => hc z.1)
    · refine r_iload_n d_Re_readWordOrNumber_101 rfl ?_
      refine r_iconst (v := nI 1) d_Re_readWordOrNumber_102 (by decide) ?_
      refine n_icmp_lt d_Re_readWordOrNumber_103 (by omega) (by omega) (fun hc2 => ?_) (fun hc2 => ?_)
      · exact nn (fun z => by omega)
      · refine r_iload_n d_Re_readWordOrNumber_106 rfl ?_
        refine r_iconst (v := nI 3) d_Re_readWordOrNumber_107 (by decide) ?_
        refine n_icmp_gt d_Re_readWordOrNumber_108 (by omega) (by omega) (fun hc3 => ?_) (fun hc3 => ?_)
        · exact nn (fun z => by omega)
        · refine r_aload_n d_Re_readWordOrNumber_111 rfl ?_
          refine r_iconst (v := nI 2) d_Re_readWordOrNumber_112 (by decide) ?_
          refine g_puti d_Re_readWordOrNumber_113 f_Re_54 ⟨rfl, rfl, rfl⟩ rfl ?_
          refine r_goto d_Re_readWordOrNumber_116 ?_
          refine g_retv d_Re_readWordOrNumber_195 rfl ?_
          exact (K _ 0 (by rw [wrd, ic_t (by rw [hlt]; omega)])).choose_spec
  refine r_iconst (v := nI 0) d_Re_readWordOrNumber_0 (by decide) ?_
  refine r_istore_n (L' := [some (.ref 1), some (.int (nI 0)), none, none]) d_Re_readWordOrNumber_1 (by decide) rfl ?_
  refine r_iconst (v := nI 0) d_Re_readWordOrNumber_2 (by decide) ?_
  refine r_istore_n (L' := [some (.ref 1), some (.int (nI 0)), some (.int (nI 0)), none]) d_Re_readWordOrNumber_3 (by decide) rfl ?_
  refine r_aload_n d_Re_readWordOrNumber_4 rfl ?_
  refine r_iconst (v := nI 0) d_Re_readWordOrNumber_5 (by decide) ?_
  refine g_puti d_Re_readWordOrNumber_6 f_Re_71 ⟨rfl, rfl, rfl⟩ rfl ?_
  suffices H : ∀ d k u M2, k + d = w - q → enF T w d (q + k) = en T w q → RF M M2 → M2 1 3 = nI (q + k) → M2 1 5 = nI q → (lc T q k = 0 → k ≤ 3 → M2 1 6 = nI (vl T q k)) → Rn o l m_Re_readWordOrNumber (0, 0) 9 [some (.ref 1), some (.int (nI (lc T q k))), some (.int (nI (k - lc T q k))), u] [] (gh n M2) (QV n (fun M' => RF M M' ∧ M' 1 3 = nI (en T w q) ∧ M' 1 4 = nI (wrd T q (en T w q)) ∧ M' 1 5 = nI q ∧ (wrd T q (en T w q) = 2 → M' 1 6 = nI (vl T q (en T w q - q))))) from
    H (w - q) 0 _ _ (by omega) rfl (RF.rf.up (by omega)) (by rw [upm_at, if_neg (by omega)]; exact h3) (by rw [upm_at, if_neg (by omega)]; exact h5) (fun _ _ => by rw [upm_at, if_pos rfl]; rfl)
  intro d
  induction d with
  | zero =>
    intro k u M2 hk he f1 f2 f3 f4
    have he : q + k = en T w q := he
    have hR2 : RT M2 T w := hR.rf f1
    have lk := lc_le T q k
    refine r_aload_n d_Re_readWordOrNumber_9 rfl ?_
    refine g_geti d_Re_readWordOrNumber_10 f_Re_32 rfl rfl ?_
    refine r_top (y := (nI (q+k))) (f2) ?_
    refine r_aload_n d_Re_readWordOrNumber_13 rfl ?_
    refine g_getr (b := 34) d_Re_readWordOrNumber_14 f_Re_21 rfl rfl rfl ?_
    refine g_geti d_Re_readWordOrNumber_17 f_Re_124 rfl rfl ?_
    refine r_top (y := (nI w)) (hR2.1) ?_
    refine n_icmp_ge d_Re_readWordOrNumber_20 (by omega) (by omega) (fun hc => ?_) (fun hc => ?_)
    · have e9 : en T w q - q = k := by omega
      have := J u M2 f1 (by rw [← he]; exact f2) f3 (by rw [e9]; exact f4)
      rw [e9] at this ⊢
      exact this
    · omega
  | succ d ih =>
    intro k u M2 hk he f1 f2 f3 f4
    have hR2 : RT M2 T w := hR.rf f1
    have lk := lc_le T q k
    have b9 := hR2.2.2 (q + k) (by omega)
    have out : ¬ (q + k < w ∧ al (T (q + k))) → ∀ u, Rn o l m_Re_readWordOrNumber (0, 0) 97 [some (.ref 1), some (.int (nI (lc T q k))), some (.int (nI (k - lc T q k))), u] [] (gh n M2) (QV n (fun M' => RF M M' ∧ M' 1 3 = nI (en T w q) ∧ M' 1 4 = nI (wrd T q (en T w q)) ∧ M' 1 5 = nI q ∧ (wrd T q (en T w q) = 2 → M' 1 6 = nI (vl T q (en T w q - q))))) := by
      intro hno u
      rw [enF, ic_f hno] at he
      have e9 : en T w q - q = k := by omega
      have := J u M2 f1 (by rw [← he]; exact f2) f3 (by rw [e9]; exact f4)
      rw [e9] at this ⊢
      exact this
    refine r_aload_n d_Re_readWordOrNumber_9 rfl ?_
    refine g_geti d_Re_readWordOrNumber_10 f_Re_32 rfl rfl ?_
    refine r_top (y := (nI (q+k))) (f2) ?_
    refine r_aload_n d_Re_readWordOrNumber_13 rfl ?_
    refine g_getr (b := 34) d_Re_readWordOrNumber_14 f_Re_21 rfl rfl rfl ?_
    refine g_geti d_Re_readWordOrNumber_17 f_Re_124 rfl rfl ?_
    refine r_top (y := (nI w)) (hR2.1) ?_
    refine n_icmp_ge d_Re_readWordOrNumber_20 (by omega) (by omega) (fun hc => ?_) (fun hc => ?_)
    · omega
    · refine r_aload_n d_Re_readWordOrNumber_23 rfl ?_
      refine g_getr (b := 34) d_Re_readWordOrNumber_24 f_Re_21 rfl rfl rfl ?_
      refine g_getr (b := 35) d_Re_readWordOrNumber_27 f_Re_127 rfl rfl rfl ?_
      refine r_aload_n d_Re_readWordOrNumber_30 rfl ?_
      refine g_geti d_Re_readWordOrNumber_31 f_Re_32 rfl rfl ?_
      refine r_top (y := (nI (q+k))) (f2) ?_
      refine g_bald d_Re_readWordOrNumber_34 rfl (by omega) (by omega) ?_
      refine r_top (y := sB (T (q+k))) ((hR2.2.2 (q+k) (by omega)).2) ?_
      refine r_istore_n (L' := [some (.ref 1), some (.int (nI (lc T q k))), some (.int (nI (k-lc T q k))), some (.int (sB (T (q+k))))]) d_Re_readWordOrNumber_35 (by decide) rfl ?_
      refine r_iload_n d_Re_readWordOrNumber_36 rfl ?_
      refine g_Si (av := [.int (sB (T (q+k)))]) d_Re_readWordOrNumber_37 k_Re_138 ws_Re_isDigit (by decide) rfl rfl (Nat.le_of_ble_eq_true rfl) (c_Re_isDigit b9.1) ?_
      rintro r _ ⟨h9 | h9, rfl⟩
      · obtain ⟨rfl, h9⟩ := h9
        have yes : q + k < w ∧ al (T (q + k)) := ⟨hc, Or.inl h9⟩
        rw [enF, ic_t yes] at he
        have l9 : lc T q (k + 1) = lc T q k := by rw [lc, if_neg (by omega)]; rfl
        have s9 : sB (T (q + k)) = nI (T (q + k)) := by
          rcases sB_c _ b9.1 with z | z
          · exact z.2
          · omega
        rw [s9]
        generalize hz : M2 1 6 = z at *
        refine n_if_eq d_Re_readWordOrNumber_40 (by omega) (fun h9 => absurd h9 (by decide)) (fun _ => ?_)
        refine n_iinc (c := 1) (L' := [some (.ref 1), some (.int (nI (lc T q k))), some (.int (nI ((k-lc T q k) + 1))), some (.int (nI (T (q+k))))]) d_Re_readWordOrNumber_43 rfl rfl (by decide) rfl ?_
        refine r_aload_n d_Re_readWordOrNumber_46 rfl ?_
        refine r_iload_n d_Re_readWordOrNumber_47 rfl ?_
        refine r_iconst (v := nI 3) d_Re_readWordOrNumber_48 (by decide) ?_
        have L9 : k - lc T q k + 1 = k + 1 - lc T q (k + 1) := by rw [l9]; omega
        refine n_icmp_gt d_Re_readWordOrNumber_49 (by omega) (by omega) (fun hc2 => ?_) (fun hc2 => ?_)
        · refine r_iconst (v := nI 0) d_Re_readWordOrNumber_67 (by decide) ?_
          refine g_puti d_Re_readWordOrNumber_68 f_Re_71 ⟨rfl, rfl, rfl⟩ rfl ?_
          refine r_goto d_Re_readWordOrNumber_71 ?_
          generalize hM3 : upm M2 1 6 (nI 0) = M3
          refine r_aload_n d_Re_readWordOrNumber_84 rfl ?_
          refine r_dup d_Re_readWordOrNumber_85 rfl ?_
          refine g_geti d_Re_readWordOrNumber_86 f_Re_32 rfl rfl ?_
          refine r_top (y := (nI (q+k))) (by rw [← hM3, upm_at, if_neg (by omega)]; exact f2) ?_
          refine r_iconst (v := nI 1) d_Re_readWordOrNumber_89 (by decide) ?_
          refine n_iadd d_Re_readWordOrNumber_90 ?_
          refine g_puti d_Re_readWordOrNumber_91 f_Re_32 ⟨rfl, rfl, rfl⟩ rfl ?_
          refine r_goto d_Re_readWordOrNumber_94 ?_
          have := ih (k + 1) (some (.int (nI (T (q + k))))) (upm M3 1 3 (nI (q + k + 1))) (by omega) he (by rw [← hM3]; exact (f1.up (by omega)).up (by omega)) (by rw [upm_at, if_pos rfl]; rfl) (by rw [upm_at, if_neg (by omega), ← hM3, upm_at, if_neg (by omega)]; exact f3) (fun a1 a2 => by omega)
          rw [← L9, l9] at this
          exact this
        · refine r_aload_n d_Re_readWordOrNumber_52 rfl ?_
          refine g_geti d_Re_readWordOrNumber_53 f_Re_71 rfl rfl ?_
          refine r_top (y := z) (hz) ?_
          refine r_bipush (v := nI 10) d_Re_readWordOrNumber_56 (by decide) ?_
          refine r_imul d_Re_readWordOrNumber_58 ?_
          refine r_iload_n d_Re_readWordOrNumber_59 rfl ?_
          refine r_iadd d_Re_readWordOrNumber_60 ?_
          refine r_bipush (v := nI 48) d_Re_readWordOrNumber_61 (by decide) ?_
          refine r_isub d_Re_readWordOrNumber_63 ?_
          refine r_goto d_Re_readWordOrNumber_64 ?_
          refine g_puti d_Re_readWordOrNumber_68 f_Re_71 ⟨rfl, rfl, rfl⟩ rfl ?_
          refine r_goto d_Re_readWordOrNumber_71 ?_
          generalize hM3 : upm M2 1 6 (z * nI 10 + nI (T (q + k)) - nI 48) = M3
          refine r_aload_n d_Re_readWordOrNumber_84 rfl ?_
          refine r_dup d_Re_readWordOrNumber_85 rfl ?_
          refine g_geti d_Re_readWordOrNumber_86 f_Re_32 rfl rfl ?_
          refine r_top (y := (nI (q+k))) (by rw [← hM3, upm_at, if_neg (by omega)]; exact f2) ?_
          refine r_iconst (v := nI 1) d_Re_readWordOrNumber_89 (by decide) ?_
          refine n_iadd d_Re_readWordOrNumber_90 ?_
          refine g_puti d_Re_readWordOrNumber_91 f_Re_32 ⟨rfl, rfl, rfl⟩ rfl ?_
          refine r_goto d_Re_readWordOrNumber_94 ?_
          have := ih (k + 1) (some (.int (nI (T (q + k))))) (upm M3 1 3 (nI (q + k + 1))) (by omega) he (by rw [← hM3]; exact (f1.up (by omega)).up (by omega)) (by rw [upm_at, if_pos rfl]; rfl) (by rw [upm_at, if_neg (by omega), ← hM3, upm_at, if_neg (by omega)]; exact f3) (fun a1 a2 => by
            rw [upm_at, if_neg (by omega), ← hM3, upm_at, if_pos rfl, f4 (by omega) (by omega), pk_mul, nI_add, pk_sub (by omega)]
            rfl)
          rw [← L9, l9] at this
          exact this
      · obtain ⟨rfl, h9⟩ := h9
        refine n_if_eq d_Re_readWordOrNumber_40 (by omega) (fun _ => ?_) (fun h9 => absurd h9 (by decide))
        refine r_iload_n d_Re_readWordOrNumber_74 rfl ?_
        refine g_Si (av := [.int (sB (T (q+k)))]) d_Re_readWordOrNumber_75 k_Re_141 ws_Re_isLetter (by decide) rfl rfl (Nat.le_of_ble_eq_true rfl) (c_Re_isLetter b9.1) ?_
        rintro r _ ⟨h8 | h8, rfl⟩
        · obtain ⟨rfl, h8⟩ := h8
          have yes : q + k < w ∧ al (T (q + k)) := ⟨hc, Or.inr h8⟩
          rw [enF, ic_t yes] at he
          have l9 : lc T q (k + 1) = lc T q k + 1 := by rw [lc, if_pos (by omega)]
          refine n_if_eq d_Re_readWordOrNumber_78 (by omega) (fun h9 => absurd h9 (by decide)) (fun _ => ?_)
          refine n_iinc (c := 1) (L' := [some (.ref 1), some (.int (nI ((lc T q k) + 1))), some (.int (nI (k-lc T q k))), some (.int (sB (T (q+k))))]) d_Re_readWordOrNumber_81 rfl rfl (by decide) rfl ?_
          refine r_aload_n d_Re_readWordOrNumber_84 rfl ?_
          refine r_dup d_Re_readWordOrNumber_85 rfl ?_
          refine g_geti d_Re_readWordOrNumber_86 f_Re_32 rfl rfl ?_
          refine r_top (y := (nI (q+k))) (f2) ?_
          refine r_iconst (v := nI 1) d_Re_readWordOrNumber_89 (by decide) ?_
          refine n_iadd d_Re_readWordOrNumber_90 ?_
          refine g_puti d_Re_readWordOrNumber_91 f_Re_32 ⟨rfl, rfl, rfl⟩ rfl ?_
          refine r_goto d_Re_readWordOrNumber_94 ?_
          have L9 : k - lc T q k = k + 1 - lc T q (k + 1) := by rw [l9]; omega
          rw [← l9, L9]
          exact ih (k + 1) _ (upm M2 1 3 (nI (q + k + 1))) (by omega) he (f1.up (by omega)) (by rw [upm_at, if_pos rfl]; rfl) (by rw [upm_at, if_neg (by omega)]; exact f3) (fun a1 a2 => by omega)
        · obtain ⟨rfl, h8⟩ := h8
          refine n_if_eq d_Re_readWordOrNumber_78 (by omega) (fun _ => ?_) (fun h9 => absurd h9 (by decide))
          exact out (fun z => by rcases z.2 with z | z <;> contradiction) _
theorem c_Re_step {p : Nat} (hO : OS o) (hR : RT M T w) (hp : p ≤ w) (h3 : M 1 3 = nI p) : CV o l m_Re_step n [.ref 1] M (fun M' => RF M M' ∧ TK M' T w p) := by
  refine cvo_of rfl rfl rfl (Nat.le_of_ble_eq_true rfl) ?_
  obtain ⟨r1, r2, r3⟩ := id hR
  obtain ⟨sk1, sk2⟩ := sk_le (T := T) hp
  have J : ∀ M2 : Mem, RF M M2 → M2 1 3 = nI (sk T w p) → Rn o l m_Re_step (0, 0) 45 [some (.ref 1)] [] (gh n M2) (QV n (fun M' => RF M M' ∧ TK M' T w p)) := by
    intro M2 f1 f2
    unfold TK tE tK tQ tV
    generalize sk T w p = q at *
    have hR2 : RT M2 T w := hR.rf f1
    refine r_aload_n d_Re_step_45 rfl ?_
    refine r_aload_n d_Re_step_46 rfl ?_
    refine g_geti d_Re_step_47 f_Re_32 rfl rfl ?_
    refine r_top (y := (nI q)) (f2) ?_
    refine g_puti d_Re_step_50 f_Re_121 ⟨rfl, rfl, rfl⟩ rfl ?_
    generalize hM3 : upm M2 1 5 (nI q) = M3
    have g1 : RF M M3 := by rw [← hM3]; exact f1.up (by omega)
    have g2 : M3 1 3 = nI q := by rw [← hM3, upm_at, if_neg (by omega)]; exact f2
    have g3 : M3 1 5 = nI q := by rw [← hM3, upm_at, if_pos rfl]
    have hR3 : RT M3 T w := hR.rf g1
    have tl : ¬ (500 < w ∧ 500 ≤ q) → Rn o l m_Re_step (0, 0) 91 [some (.ref 1)] [] (gh n M3) (QV n (fun M' => RF M M' ∧ M' 1 3 = nI (if 500 < w ∧ 500 ≤ q then q else if w ≤ q then q else if T q = 59 then q + 1 else if T q = 45 then q + 1 else en T w q) ∧ M' 1 4 = nI (if 500 < w ∧ 500 ≤ q then 0 else if w ≤ q then 1 else if T q = 59 then 3 else if T q = 45 then 4 else wrd T q (en T w q)) ∧ M' 1 5 = nI (if 500 < w ∧ 500 ≤ q then 500 else q) ∧ ((if 500 < w ∧ 500 ≤ q then 0 else if w ≤ q then 1 else if T q = 59 then 3 else if T q = 45 then 4 else wrd T q (en T w q)) = 2 → M' 1 6 = nI (vl T q (en T w q - q))) ∧ p ≤ w)) := by
      intro hno
      rw [if_neg hno, if_neg hno, if_neg hno]
      refine r_aload_n d_Re_step_91 rfl ?_
      refine g_geti d_Re_step_92 f_Re_32 rfl rfl ?_
      refine r_top (y := (nI q)) (g2) ?_
      refine r_aload_n d_Re_step_95 rfl ?_
      refine g_getr (b := 34) d_Re_step_96 f_Re_21 rfl rfl rfl ?_
      refine g_geti d_Re_step_99 f_Re_124 rfl rfl ?_
      refine r_top (y := (nI w)) (hR3.1) ?_
      refine n_icmp_lt d_Re_step_102 (by omega) (by omega) (fun hc => ?_) (fun hc => ?_)
      · have b9 := hR3.2.2 q hc
        rw [if_neg (show ¬ w ≤ q by omega), if_neg (show ¬ w ≤ q by omega)]
        refine r_aload_n d_Re_step_113 rfl ?_
        refine g_getr (b := 34) d_Re_step_114 f_Re_21 rfl rfl rfl ?_
        refine g_getr (b := 35) d_Re_step_117 f_Re_127 rfl rfl rfl ?_
        refine r_aload_n d_Re_step_120 rfl ?_
        refine g_geti d_Re_step_121 f_Re_32 rfl rfl ?_
        refine r_top (y := (nI q)) (g2) ?_
        refine g_bald d_Re_step_124 rfl (by omega) (by omega) ?_
        refine r_top (y := sB (T q)) ((hR3.2.2 q (by omega)).2) ?_
        refine r_bipush (v := nI 59) d_Re_step_125 (by decide) ?_
        refine r_icmp_ne d_Re_step_127 (fun hc2 => ?_) (fun hc2 => ?_)
        · refine r_aload_n d_Re_step_148 rfl ?_
          refine g_getr (b := 34) d_Re_step_149 f_Re_21 rfl rfl rfl ?_
          refine g_getr (b := 35) d_Re_step_152 f_Re_127 rfl rfl rfl ?_
          refine r_aload_n d_Re_step_155 rfl ?_
          refine g_geti d_Re_step_156 f_Re_32 rfl rfl ?_
          refine r_top (y := (nI q)) (g2) ?_
          refine g_bald d_Re_step_159 rfl (by omega) (by omega) ?_
          refine r_top (y := sB (T q)) ((hR3.2.2 q (by omega)).2) ?_
          refine r_bipush (v := nI 45) d_Re_step_160 (by decide) ?_
          have n59 : ¬ T q = 59 := fun z => hc2 ((sB_eq b9.1 (by decide)).mpr z)
          rw [if_neg n59, if_neg n59]
          refine r_icmp_ne d_Re_step_162 (fun hc3 => ?_) (fun hc3 => ?_)
          · have n45 : ¬ T q = 45 := fun z => hc3 ((sB_eq b9.1 (by decide)).mpr z)
            rw [if_neg n45, if_neg n45]
            refine r_aload_n d_Re_step_183 rfl ?_
            refine g_Vv (av := []) d_Re_step_184 k_Re_135 ws_Re_readWordOrNumber (by decide) rfl rfl (Nat.le_of_ble_eq_true rfl) rfl (c_Re_readWordOrNumber hO hR3 sk2 g2 g3) ?_
            rintro M4 ⟨k1, k2, k3, k4, k5⟩
            refine g_retv d_Re_step_187 rfl ?_
            exact ⟨g1.trans k1, k2, k3, k4, k5, hp⟩
          · have e45 : T q = 45 := (sB_eq b9.1 (by decide)).mp hc3
            rw [if_pos e45, if_pos e45]
            refine r_aload_n d_Re_step_165 rfl ?_
            refine r_iconst (v := nI 4) d_Re_step_166 (by decide) ?_
            refine g_puti d_Re_step_167 f_Re_54 ⟨rfl, rfl, rfl⟩ rfl ?_
            refine r_aload_n d_Re_step_170 rfl ?_
            refine r_dup d_Re_step_171 rfl ?_
            refine g_geti d_Re_step_172 f_Re_32 rfl rfl ?_
            refine r_top (y := (nI q)) (by rw [upm_at, if_neg (by omega)]; exact g2) ?_
            refine r_iconst (v := nI 1) d_Re_step_175 (by decide) ?_
            refine n_iadd d_Re_step_176 ?_
            refine g_puti d_Re_step_177 f_Re_32 ⟨rfl, rfl, rfl⟩ rfl ?_
            refine r_goto d_Re_step_180 ?_
            refine g_retv d_Re_step_187 rfl ?_
            exact ⟨(g1.up (by omega)).up (by omega), by rw [upm_at, if_pos rfl], by rw [upm_at, if_neg (by omega), upm_at, if_pos rfl], by rw [upm_at, if_neg (by omega), upm_at, if_neg (by omega)]; exact g3, fun z => by omega, hp⟩
        · have e59 : T q = 59 := (sB_eq b9.1 (by decide)).mp hc2
          rw [if_pos e59, if_pos e59]
          refine r_aload_n d_Re_step_130 rfl ?_
          refine r_iconst (v := nI 3) d_Re_step_131 (by decide) ?_
          refine g_puti d_Re_step_132 f_Re_54 ⟨rfl, rfl, rfl⟩ rfl ?_
          refine r_aload_n d_Re_step_135 rfl ?_
          refine r_dup d_Re_step_136 rfl ?_
          refine g_geti d_Re_step_137 f_Re_32 rfl rfl ?_
          refine r_top (y := (nI q)) (by rw [upm_at, if_neg (by omega)]; exact g2) ?_
          refine r_iconst (v := nI 1) d_Re_step_140 (by decide) ?_
          refine n_iadd d_Re_step_141 ?_
          refine g_puti d_Re_step_142 f_Re_32 ⟨rfl, rfl, rfl⟩ rfl ?_
          refine r_goto d_Re_step_145 ?_
          refine g_retv d_Re_step_187 rfl ?_
          exact ⟨(g1.up (by omega)).up (by omega), by rw [upm_at, if_pos rfl], by rw [upm_at, if_neg (by omega), upm_at, if_pos rfl], by rw [upm_at, if_neg (by omega), upm_at, if_neg (by omega)]; exact g3, fun z => by omega, hp⟩
      · rw [if_pos hc, if_pos hc]
        refine r_aload_n d_Re_step_105 rfl ?_
        refine r_iconst (v := nI 1) d_Re_step_106 (by decide) ?_
        refine g_puti d_Re_step_107 f_Re_54 ⟨rfl, rfl, rfl⟩ rfl ?_
        refine r_goto d_Re_step_110 ?_
        refine g_retv d_Re_step_187 rfl ?_
        exact ⟨g1.up (by omega), by rw [upm_at, if_neg (by omega)]; exact g2, by rw [upm_at, if_pos rfl], by rw [upm_at, if_neg (by omega)]; exact g3, fun z => by omega, hp⟩
    refine r_aload_n d_Re_step_53 rfl ?_
    refine g_getr (b := 34) d_Re_step_54 f_Re_21 rfl rfl rfl ?_
    refine g_geti d_Re_step_57 f_Re_124 rfl rfl ?_
    refine r_top (y := (nI w)) (hR3.1) ?_
    refine r_sipush (v := nI 500) d_Re_step_60 (by decide) ?_
    refine n_icmp_le d_Re_step_63 (by omega) (by omega) (fun hc => ?_) (fun hc => ?_)
    · exact tl (by omega)
    · refine r_aload_n d_Re_step_66 rfl ?_
      refine g_geti d_Re_step_67 f_Re_32 rfl rfl ?_
      refine r_top (y := (nI q)) (g2) ?_
      refine r_sipush (v := nI 500) d_Re_step_70 (by decide) ?_
      refine n_icmp_lt d_Re_step_73 (by omega) (by omega) (fun hc2 => ?_) (fun hc2 => ?_)
      · exact tl (by omega)
      · refine r_aload_n d_Re_step_76 rfl ?_
        refine r_sipush (v := nI 500) d_Re_step_77 (by decide) ?_
        refine g_puti d_Re_step_80 f_Re_121 ⟨rfl, rfl, rfl⟩ rfl ?_
        refine r_aload_n d_Re_step_83 rfl ?_
        refine r_iconst (v := nI 0) d_Re_step_84 (by decide) ?_
        refine g_puti d_Re_step_85 f_Re_54 ⟨rfl, rfl, rfl⟩ rfl ?_
        refine r_goto d_Re_step_88 ?_
        refine g_retv d_Re_step_187 rfl ?_
        rw [if_pos ⟨hc, hc2⟩, if_pos ⟨hc, hc2⟩, if_pos ⟨hc, hc2⟩]
        exact ⟨(g1.up (by omega)).up (by omega), by rw [upm_at, if_neg (by omega), upm_at, if_neg (by omega)]; exact g2, by rw [upm_at, if_pos rfl], by rw [upm_at, if_neg (by omega), upm_at, if_pos rfl], fun z => by omega, hp⟩
  suffices H : ∀ d q M2, q + d = w → p ≤ q → skF T w d q = sk T w p → RF M M2 → M2 1 3 = nI q → Rn o l m_Re_step (0, 0) 0 [some (.ref 1)] [] (gh n M2) (QV n (fun M' => RF M M' ∧ TK M' T w p)) from H (w - p) p M (by omega) (by omega) rfl RF.rf h3
  intro d
  induction d with
  | zero =>
    intro q M2 hq hpq hs f1 f2
    have hs : q = sk T w p := hs
    have hR2 : RT M2 T w := hR.rf f1
    refine r_aload_n d_Re_step_0 rfl ?_
    refine g_geti d_Re_step_1 f_Re_32 rfl rfl ?_
    refine r_top (y := (nI q)) (f2) ?_
    refine r_aload_n d_Re_step_4 rfl ?_
    refine g_getr (b := 34) d_Re_step_5 f_Re_21 rfl rfl rfl ?_
    refine g_geti d_Re_step_8 f_Re_124 rfl rfl ?_
    refine r_top (y := (nI w)) (hR2.1) ?_
    refine n_icmp_ge d_Re_step_11 (by omega) (by omega) (fun hc => ?_) (fun hc => ?_)
    · exact J M2 f1 (by rw [← hs]; exact f2)
    · omega
  | succ d ih =>
    intro q M2 hq hpq hs f1 f2
    have hR2 : RT M2 T w := hR.rf f1
    have b9 := hR2.2.2 q (by omega)
    unfold skF at hs
    refine r_aload_n d_Re_step_0 rfl ?_
    refine g_geti d_Re_step_1 f_Re_32 rfl rfl ?_
    refine r_top (y := (nI q)) (f2) ?_
    refine r_aload_n d_Re_step_4 rfl ?_
    refine g_getr (b := 34) d_Re_step_5 f_Re_21 rfl rfl rfl ?_
    refine g_geti d_Re_step_8 f_Re_124 rfl rfl ?_
    refine r_top (y := (nI w)) (hR2.1) ?_
    refine n_icmp_ge d_Re_step_11 (by omega) (by omega) (fun hc => ?_) (fun hc => ?_)
    · omega
    · refine r_aload_n d_Re_step_14 rfl ?_
      refine g_getr (b := 34) d_Re_step_15 f_Re_21 rfl rfl rfl ?_
      refine g_getr (b := 35) d_Re_step_18 f_Re_127 rfl rfl rfl ?_
      refine r_aload_n d_Re_step_21 rfl ?_
      refine g_geti d_Re_step_22 f_Re_32 rfl rfl ?_
      refine r_top (y := (nI q)) (f2) ?_
      refine g_bald d_Re_step_25 rfl (by omega) (by omega) ?_
      refine r_top (y := sB (T q)) ((hR2.2.2 q (by omega)).2) ?_
      refine g_Si (av := [.int (sB (T q))]) d_Re_step_26 k_Re_131 ws_Re_isBlank (by decide) rfl rfl (Nat.le_of_ble_eq_true rfl) (c_Re_isBlank b9.1) ?_
      rintro r _ ⟨h9 | h9, rfl⟩
      · obtain ⟨rfl, h9⟩ := h9
        rw [if_pos ⟨hc, h9⟩] at hs
        refine n_if_eq d_Re_step_29 (by omega) (fun h9 => absurd h9 (by decide)) (fun _ => ?_)
        refine r_aload_n d_Re_step_32 rfl ?_
        refine r_dup d_Re_step_33 rfl ?_
        refine g_geti d_Re_step_34 f_Re_32 rfl rfl ?_
        refine r_top (y := (nI q)) (f2) ?_
        refine r_iconst (v := nI 1) d_Re_step_37 (by decide) ?_
        refine n_iadd d_Re_step_38 ?_
        refine g_puti d_Re_step_39 f_Re_32 ⟨rfl, rfl, rfl⟩ rfl ?_
        refine r_goto d_Re_step_42 ?_
        exact ih (q + 1) _ (by omega) (by omega) hs (f1.up (by omega)) (by rw [upm_at, if_pos rfl])
      · obtain ⟨rfl, h9⟩ := h9
        rw [if_neg (fun z => h9 z.2)] at hs
        refine n_if_eq d_Re_step_29 (by omega) (fun _ => ?_) (fun h9 => absurd h9 (by decide))
        exact J M2 f1 (by rw [← hs]; exact f2)
end C50
