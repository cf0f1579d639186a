/-! The reference: tokens -/
def MTp (M : Mem) (T : Nat → Nat) (w : Nat) : Prop := M 436 3 = nI w ∧ w ≤ 540 ∧ ∀ j, j < w → T j < 256 ∧ M 437 j = nI (T j)
def NF (M M' : Mem) : Prop := (∀ b, b ≠ 436 → M' b = M b) ∧ ∀ k, k ≠ 4 → k ≠ 5 → k ≠ 6 → k ≠ 7 → M' 436 k = M 436 k
theorem NF.rf {M : Mem} : NF M M := ⟨fun _ _ => rfl, fun _ _ _ _ _ => rfl⟩
theorem NF.trans {M M1 M2 : Mem} (h : NF M M1) (h2 : NF M1 M2) : NF M M2 := ⟨fun b hb => (h2.1 b hb).trans (h.1 b hb), fun k k1 k2 k3 k4 => (h2.2 k k1 k2 k3 k4).trans (h.2 k k1 k2 k3 k4)⟩
theorem NF.up {M M1 : Mem} {k : Nat} {v : Int32} (h : NF M M1) (hk : k = 4 ∨ k = 5 ∨ k = 6 ∨ k = 7) : NF M (upm M1 436 k v) := ⟨fun b hb => by rw [upm_ne _ _ _ hb]; exact h.1 b hb, fun q q1 q2 q3 q4 => by rw [upm_at, if_neg (by omega)]; exact h.2 q q1 q2 q3 q4⟩
theorem MTp.nf {M M' : Mem} {T : Nat → Nat} {w : Nat} (h : MTp M T w) (hf : NF M M') : MTp M' T w := ⟨by rw [hf.2 3 (by decide) (by decide) (by decide) (by decide)]; exact h.1, h.2.1, by rw [hf.1 437 (by decide)]; exact h.2.2⟩
def KE (T : Nat → Nat) (w p k e : Nat) : Prop := (tK T w p ≠ 0 → e = tE T w p) ∧ (tK T w p = 1 ↔ k = 0) ∧ (tK T w p = 2 ↔ k = 3) ∧ (tK T w p = 3 ↔ k = 4) ∧ (tK T w p = 4 ↔ k = 5) ∧ (5 ≤ tK T w p → k = 2) ∧ (k = 2 → tQ T w p ≤ e ∧ e ≤ w ∧ ∀ i, i < 4 → (tK T w p = 5 + i ↔ isW T (tQ T w p) e i))
def TM (M : Mem) (T : Nat → Nat) (w p : Nat) : Prop := p ≤ w ∧ M 436 5 = nI (tQ T w p) ∧ ∃ k e, M 436 6 = nI k ∧ M 436 4 = nI e ∧ k < 6 ∧ KE T w p k e ∧ (tK T w p = 2 → M 436 7 = nI (tV T w p))
theorem TM.kept {M M' : Mem} {T : Nat → Nat} {w p : Nat} (h : TM M T w p) (e : ∀ k, 4 ≤ k → k ≤ 7 → M' 436 k = M 436 k) : TM M' T w p := by
  obtain ⟨h1, h2, k, e9, h3, h4, h5, h6, h7⟩ := h
  exact ⟨h1, by rw [e 5 (by decide) (by decide)]; exact h2, k, e9, by rw [e 6 (by decide) (by decide)]; exact h3, by rw [e 4 (by decide) (by decide)]; exact h4, h5, h6, fun z => by rw [e 7 (by decide) (by decide)]; exact h7 z⟩
theorem lc_all {T : Nat → Nat} {q k : Nat} (h : ∀ j, j < k → 97 ≤ T (q + j)) : lc T q k = k := by
  induction k with
  | zero => rfl
  | succ k ih => rw [lc, ih (fun j hj => h j (by omega)), if_pos (h k (by omega))]
theorem lc_pos {T : Nat → Nat} {q k : Nat} (h : 97 ≤ T q) (hk : 1 ≤ k) : 1 ≤ lc T q k := by
  induction k with
  | zero => omega
  | succ k ih =>
    rw [lc]
    by_cases e : k = 0
    · subst e
      rw [Nat.add_zero, if_pos h]
      omega
    · have := ih (by omega)
      omega
theorem lc_lt {T : Nat → Nat} {q k : Nat} (h : ¬ 97 ≤ T q) (hk : 1 ≤ k) : lc T q k < k := by
  induction k with
  | zero => omega
  | succ k ih =>
    rw [lc]
    by_cases e : k = 0
    · subst e
      rw [Nat.add_zero, if_neg h]
      exact Nat.lt_succ_self 0
    · have := ih (by omega)
      split <;> omega
theorem sCh_let : ∀ i, i < 4 → ∀ j, j < sLn.getD i 0 → 97 ≤ sCh i j := by decide
theorem sLn_pos : ∀ i, i < 4 → 0 < sLn.getD i 0 := by decide
theorem sw_u : ∀ i, i < 4 → ∀ j, j < 4 → sLn.getD i 0 = sLn.getD j 0 → sCh i 0 = sCh j 0 → i = j := by decide
theorem isW_lc {T : Nat → Nat} {q e i : Nat} (hi : i < 4) (h : isW T q e i) : lc T q (e - q) = e - q ∧ 97 ≤ T q ∧ 1 ≤ e - q := by
  have hp := sLn_pos i hi
  refine ⟨lc_all (fun j hj => ?_), ?_, by rw [h.1]; exact hp⟩
  · rw [h.1] at hj
    rw [h.2 j hj]
    exact sCh_let i hi j hj
  · have := h.2 0 hp
    rw [Nat.add_zero] at this
    rw [this]
    exact sCh_let i hi 0 hp
theorem isW_u {T : Nat → Nat} {q e i j : Nat} (hi : i < 4) (hj : j < 4) (h : isW T q e i) (h2 : isW T q e j) : i = j := by
  have a1 := h.2 0 (sLn_pos i hi)
  have a2 := h2.2 0 (sLn_pos j hj)
  exact sw_u i hi j hj (h.1.symm.trans h2.1) (a1.symm.trans a2)
theorem wrd_i {T : Nat → Nat} {q e i : Nat} (hi : i < 4) (hn : ¬ (lc T q (e - q) = 0 ∧ 1 ≤ e - q ∧ e - q ≤ 3)) : wrd T q e = 5 + i ↔ isW T q e i := by
  rw [wrd, ic_f hn]
  by_cases h0 : isW T q e 0
  · rw [ic_t h0]
    exact ⟨fun z => (show 0 = i by omega) ▸ h0, fun z => by rw [isW_u hi (by decide) z h0]⟩
  rw [ic_f h0]
  by_cases h1 : isW T q e 1
  · rw [ic_t h1]
    exact ⟨fun z => (show 1 = i by omega) ▸ h1, fun z => by rw [isW_u hi (by decide) z h1]⟩
  rw [ic_f h1]
  by_cases h2 : isW T q e 2
  · rw [ic_t h2]
    exact ⟨fun z => (show 2 = i by omega) ▸ h2, fun z => by rw [isW_u hi (by decide) z h2]⟩
  rw [ic_f h2]
  by_cases h3 : isW T q e 3
  · rw [ic_t h3]
    exact ⟨fun z => (show 3 = i by omega) ▸ h3, fun z => by rw [isW_u hi (by decide) z h3]⟩
  rw [ic_f h3]
  refine ⟨fun z => by omega, fun z => ?_⟩
  rcases (show i = 0 ∨ i = 1 ∨ i = 2 ∨ i = 3 by omega) with rfl | rfl | rfl | rfl
  · exact absurd z h0
  · exact absurd z h1
  · exact absurd z h2
  · exact absurd z h3
theorem wrd_c (T : Nat → Nat) (q e : Nat) : wrd T q e = 0 ∨ wrd T q e = 2 ∨ ∃ i, i < 4 ∧ wrd T q e = 5 + i := by
  unfold wrd
  by_cases c : lc T q (e - q) = 0 ∧ 1 ≤ e - q ∧ e - q ≤ 3
  · rw [ic_t c]; exact Or.inr (Or.inl rfl)
  rw [ic_f c]
  by_cases h0 : isW T q e 0
  · rw [ic_t h0]; exact Or.inr (Or.inr ⟨0, by decide, rfl⟩)
  rw [ic_f h0]
  by_cases h1 : isW T q e 1
  · rw [ic_t h1]; exact Or.inr (Or.inr ⟨1, by decide, rfl⟩)
  rw [ic_f h1]
  by_cases h2 : isW T q e 2
  · rw [ic_t h2]; exact Or.inr (Or.inr ⟨2, by decide, rfl⟩)
  rw [ic_f h2]
  by_cases h3 : isW T q e 3
  · rw [ic_t h3]; exact Or.inr (Or.inr ⟨3, by decide, rfl⟩)
  rw [ic_f h3]
  exact Or.inl rfl
/-- the kind that the reference tells of letters and digits -/
def kkM (T : Nat → Nat) (q m bl : Nat) : Nat := if lc T q m ≠ bl * m then 1 else if bl = 0 ∧ 3 < m then 1 else if bl = 0 then 3 else 2
theorem kkM_ok {T : Nat → Nat} {q e bl : Nat} (he : 1 ≤ e - q) (hb : (bl = 1 ∧ 97 ≤ T q) ∨ (bl = 0 ∧ ¬ 97 ≤ T q)) : (wrd T q e = 2 ↔ kkM T q (e - q) bl = 3) ∧ (5 ≤ wrd T q e → kkM T q (e - q) bl = 2) ∧ (kkM T q (e - q) bl = 2 → ∀ i, i < 4 → (wrd T q e = 5 + i ↔ isW T q e i)) ∧ kkM T q (e - q) bl ≠ 0 ∧ kkM T q (e - q) bl < 4 := by
  have hv : wrd T q e = 2 ↔ (lc T q (e - q) = 0 ∧ 1 ≤ e - q ∧ e - q ≤ 3) := by
    refine ⟨wrd_v, fun z => ?_⟩
    rw [wrd, ic_t z]
  have hw : 5 ≤ wrd T q e → lc T q (e - q) = e - q ∧ 97 ≤ T q := by
    intro z
    rcases wrd_c T q e with h | h | ⟨i, hi, h⟩
    · omega
    · omega
    · have hn : ¬ (lc T q (e - q) = 0 ∧ 1 ≤ e - q ∧ e - q ≤ 3) := fun y => by
        have := hv.mpr y
        omega
      have := isW_lc hi ((wrd_i hi hn).mp h)
      exact ⟨this.1, this.2.1⟩
  rcases hb with ⟨rfl, hb⟩ | ⟨rfl, hb⟩
  · have h1 := lc_pos (q := q) hb he
    unfold kkM
    rw [Nat.one_mul]
    by_cases c : lc T q (e - q) = e - q
    · rw [if_neg (fun z => z c), if_neg (by omega), if_neg (by decide)]
      refine ⟨⟨fun z => ?_, fun z => by omega⟩, fun _ => rfl, fun _ i hi => wrd_i hi (by omega), by decide, by decide⟩
      have := hv.mp z
      omega
    · rw [if_pos c]
      refine ⟨⟨fun z => ?_, fun z => by omega⟩, fun z => absurd (hw z).1 c, fun z => by omega, by decide, by decide⟩
      have := hv.mp z
      omega
  · have h1 := lc_lt (q := q) hb he
    unfold kkM
    rw [Nat.zero_mul]
    by_cases c : lc T q (e - q) = 0
    · rw [if_neg (fun z => z c)]
      by_cases c2 : 3 < e - q
      · rw [if_pos ⟨rfl, c2⟩]
        refine ⟨⟨fun z => ?_, fun z => by omega⟩, fun z => absurd (hw z).2 hb, fun z => by omega, by decide, by decide⟩
        have := hv.mp z
        omega
      · rw [if_neg (fun z => c2 z.2), if_pos rfl]
        exact ⟨⟨fun _ => rfl, fun _ => hv.mpr ⟨c, he, by omega⟩⟩, fun z => absurd (hw z).2 hb, fun z => by omega, by decide, by decide⟩
    · rw [if_pos c]
      refine ⟨⟨fun z => ?_, fun z => by omega⟩, fun z => absurd (hw z).2 hb, fun z => by omega, by decide, by decide⟩
      have := hv.mp z
      omega
section C67
variable {o : OM} {l : Launch} {n : Nat} {M : Mem} {T : Nat → Nat} {w : Nat}
theorem c_Md_isDigit {x : Nat} (hx : x < 256) : CI o l m_Md_isDigit n [.int (nI x)] M (fun r M' => BR r (48 ≤ x ∧ x ≤ 57) ∧ M = M') := by
  refine ci_of rfl rfl rfl (Nat.le_of_ble_eq_true rfl) ?_
  refine r_iload_n d_Md_isDigit_0 rfl ?_
  refine r_bipush (v := nI 48) d_Md_isDigit_1 (by decide) ?_
  refine n_icmp_lt d_Md_isDigit_3 (by omega) (by omega) (fun hc => ?_) (fun hc => ?_)
  · refine r_iconst (v := nI 0) d_Md_isDigit_16 (by decide) ?_
    refine g_retz d_Md_isDigit_17 rfl (by decide) ?_
    exact ⟨Or.inr ⟨rfl, by omega⟩, rfl⟩
  · refine r_iload_n d_Md_isDigit_6 rfl ?_
    refine r_bipush (v := nI 57) d_Md_isDigit_7 (by decide) ?_
    refine n_icmp_gt d_Md_isDigit_9 (by omega) (by omega) (fun hc2 => ?_) (fun hc2 => ?_)
    · refine r_iconst (v := nI 0) d_Md_isDigit_16 (by decide) ?_
      refine g_retz d_Md_isDigit_17 rfl (by decide) ?_
      exact ⟨Or.inr ⟨rfl, by omega⟩, rfl⟩
    · refine r_iconst (v := nI 1) d_Md_isDigit_12 (by decide) ?_
      refine r_goto d_Md_isDigit_13 ?_
      refine g_retz d_Md_isDigit_17 rfl (by decide) ?_
      exact ⟨Or.inl ⟨rfl, by omega⟩, rfl⟩
theorem c_Md_isLetter {x : Nat} (hx : x < 256) : CI o l m_Md_isLetter n [.int (nI x)] M (fun r M' => BR r (97 ≤ x ∧ x ≤ 122) ∧ M = M') := by
  refine ci_of rfl rfl rfl (Nat.le_of_ble_eq_true rfl) ?_
  refine r_iload_n d_Md_isLetter_0 rfl ?_
  refine r_bipush (v := nI 97) d_Md_isLetter_1 (by decide) ?_
  refine n_icmp_lt d_Md_isLetter_3 (by omega) (by omega) (fun hc => ?_) (fun hc => ?_)
  · refine r_iconst (v := nI 0) d_Md_isLetter_16 (by decide) ?_
    refine g_retz d_Md_isLetter_17 rfl (by decide) ?_
    exact ⟨Or.inr ⟨rfl, by omega⟩, rfl⟩
  · refine r_iload_n d_Md_isLetter_6 rfl ?_
    refine r_bipush (v := nI 122) d_Md_isLetter_7 (by decide) ?_
    refine n_icmp_gt d_Md_isLetter_9 (by omega) (by omega) (fun hc2 => ?_) (fun hc2 => ?_)
    · refine r_iconst (v := nI 0) d_Md_isLetter_16 (by decide) ?_
      refine g_retz d_Md_isLetter_17 rfl (by decide) ?_
      exact ⟨Or.inr ⟨rfl, by omega⟩, rfl⟩
    · refine r_iconst (v := nI 1) d_Md_isLetter_12 (by decide) ?_
      refine r_goto d_Md_isLetter_13 ?_
      refine g_retz d_Md_isLetter_17 rfl (by decide) ?_
      exact ⟨Or.inl ⟨rfl, by omega⟩, rfl⟩
theorem c_Md_tapeAt {p : Nat} (hp : p ≤ w) (hR : MTp M T w) : CI o l m_Md_tapeAt n [.ref 436, .int (nI p)] M (fun r M' => r = nI (if p < w then T p else 0) ∧ M = M') := by
  refine ci_of rfl rfl rfl (Nat.le_of_ble_eq_true rfl) ?_
  obtain ⟨r1, r2, r3⟩ := hR
  refine r_iload_n d_Md_tapeAt_0 rfl ?_
  refine r_aload_n d_Md_tapeAt_1 rfl ?_
  refine g_geti d_Md_tapeAt_2 f_Md_18 rfl rfl ?_
  refine r_top (y := (nI w)) (r1) ?_
  refine n_icmp_ge d_Md_tapeAt_5 (by omega) (by omega) (fun hc => ?_) (fun hc => ?_)
  · refine r_iconst (v := nI 0) d_Md_tapeAt_17 (by decide) ?_
    refine g_reti d_Md_tapeAt_18 rfl ?_
    exact ⟨by rw [if_neg (by omega)], rfl⟩
  · refine r_aload_n d_Md_tapeAt_8 rfl ?_
    refine g_getr (b := 437) d_Md_tapeAt_9 f_Md_7 rfl rfl rfl ?_
    refine r_iload_n d_Md_tapeAt_12 rfl ?_
    refine g_iald d_Md_tapeAt_13 rfl (by omega) (by omega) ?_
    refine r_top (y := nI (T p)) ((r3 p (by omega)).2) ?_
    refine r_goto d_Md_tapeAt_14 ?_
    refine g_reti d_Md_tapeAt_18 rfl ?_
    exact ⟨by rw [if_pos hc], rfl⟩
theorem c_Md_next {p : Nat} (hR : MTp M T w) (hp : p ≤ w) (h4 : M 436 4 = nI p) : CV o l m_Md_next n [.ref 436] M (fun M' => NF M M' ∧ TM M' T w p) := by
  refine cvo_of rfl rfl rfl (Nat.le_of_ble_eq_true rfl) ?_
  obtain ⟨r1, r2, r3⟩ := id hR
  obtain ⟨sk1, sk2⟩ := sk_le (T := T) hp
  have J : ∀ M2 : Mem, NF M M2 → M2 436 4 = nI (sk T w p) → Rn o l m_Md_next (0, 0) 52 [some (.ref 436), none, none, none, none] [] (gh n M2) (QV n (fun M' => NF M M' ∧ TM M' T w p)) := by
    intro M2 f1 f2
    unfold TM KE tE tK tQ tV
    generalize sk T w p = q at *
    refine r_aload_n d_Md_next_52 rfl ?_
    refine r_aload_n d_Md_next_53 rfl ?_
    refine g_geti d_Md_next_54 f_Md_21 rfl rfl ?_
    refine r_top (y := (nI q)) (f2) ?_
    refine g_puti d_Md_next_57 f_Md_24 ⟨rfl, rfl, rfl⟩ rfl ?_
    generalize hM3 : upm M2 436 5 (nI q) = M3
    have g1 : NF M M3 := by rw [← hM3]; exact f1.up (by omega)
    have g2 : M3 436 4 = nI q := by rw [← hM3, upm_at, if_neg (by omega)]; exact f2
    have g3 : M3 436 5 = nI q := by rw [← hM3, upm_at, if_pos rfl]
    have hR3 : MTp M3 T w := hR.nf g1
    clear hM3
    by_cases big : 500 < w ∧ 500 ≤ q
    · rw [if_pos big, if_pos big, if_pos big]
      refine r_aload_n d_Md_next_60 rfl ?_
      refine g_geti d_Md_next_61 f_Md_18 rfl rfl ?_
      refine r_top (y := (nI w)) (hR3.1) ?_
      refine r_sipush (v := nI 500) d_Md_next_64 (by decide) ?_
      refine n_icmp_le d_Md_next_67 (by omega) (by omega) (fun hc => ?_) (fun hc => ?_)
      · omega
      · refine r_aload_n d_Md_next_70 rfl ?_
        refine g_geti d_Md_next_71 f_Md_24 rfl rfl ?_
        refine r_top (y := (nI q)) (g3) ?_
        refine r_sipush (v := nI 500) d_Md_next_74 (by decide) ?_
        refine n_icmp_lt d_Md_next_77 (by omega) (by omega) (fun hc2 => ?_) (fun hc2 => ?_)
        · omega
        · refine r_aload_n d_Md_next_80 rfl ?_
          refine r_sipush (v := nI 500) d_Md_next_81 (by decide) ?_
          refine g_puti d_Md_next_84 f_Md_24 ⟨rfl, rfl, rfl⟩ rfl ?_
          refine r_aload_n d_Md_next_87 rfl ?_
          refine r_iconst (v := nI 1) d_Md_next_88 (by decide) ?_
          refine g_puti d_Md_next_89 f_Md_27 ⟨rfl, rfl, rfl⟩ rfl ?_
          refine g_retv d_Md_next_92 rfl ?_
          refine ⟨(g1.up (by omega)).up (by omega), hp, by rw [upm_at, if_neg (by omega), upm_at, if_pos rfl], 1, q, by rw [upm_at, if_pos rfl], by rw [upm_at, if_neg (by omega), upm_at, if_neg (by omega)]; exact g2, by decide, ⟨fun z => absurd rfl z, by omega, by omega, by omega, by omega, by omega, by omega⟩, by omega⟩
    · rw [if_neg big, if_neg big, if_neg big]
      have tl : Rn o l m_Md_next (0, 0) 93 [some (.ref 436), none, none, none, none] [] (gh n M3) (QV n (fun M' => NF M M' ∧ p ≤ w ∧ M' 436 5 = nI q ∧ ∃ k e, M' 436 6 = nI k ∧ M' 436 4 = nI e ∧ k < 6 ∧ (((if w ≤ q then 1 else if T q = 59 then 3 else if T q = 45 then 4 else wrd T q (en T w q)) ≠ 0 → e = if w ≤ q then q else if T q = 59 then q + 1 else if T q = 45 then q + 1 else en T w q) ∧ ((if w ≤ q then 1 else if T q = 59 then 3 else if T q = 45 then 4 else wrd T q (en T w q)) = 1 ↔ k = 0) ∧ ((if w ≤ q then 1 else if T q = 59 then 3 else if T q = 45 then 4 else wrd T q (en T w q)) = 2 ↔ k = 3) ∧ ((if w ≤ q then 1 else if T q = 59 then 3 else if T q = 45 then 4 else wrd T q (en T w q)) = 3 ↔ k = 4) ∧ ((if w ≤ q then 1 else if T q = 59 then 3 else if T q = 45 then 4 else wrd T q (en T w q)) = 4 ↔ k = 5) ∧ (5 ≤ (if w ≤ q then 1 else if T q = 59 then 3 else if T q = 45 then 4 else wrd T q (en T w q)) → k = 2) ∧ (k = 2 → q ≤ e ∧ e ≤ w ∧ ∀ i, i < 4 → ((if w ≤ q then 1 else if T q = 59 then 3 else if T q = 45 then 4 else wrd T q (en T w q)) = 5 + i ↔ isW T q e i))) ∧ ((if w ≤ q then 1 else if T q = 59 then 3 else if T q = 45 then 4 else wrd T q (en T w q)) = 2 → M' 436 7 = nI (vl T q (en T w q - q))))) := by
        refine r_aload_n d_Md_next_93 rfl ?_
        refine g_geti d_Md_next_94 f_Md_21 rfl rfl ?_
        refine r_top (y := (nI q)) (g2) ?_
        refine r_aload_n d_Md_next_97 rfl ?_
        refine g_geti d_Md_next_98 f_Md_18 rfl rfl ?_
        refine r_top (y := (nI w)) (hR3.1) ?_
        refine n_icmp_lt d_Md_next_101 (by omega) (by omega) (fun hc => ?_) (fun hc => ?_)
        · rw [if_neg (show ¬ w ≤ q by omega), if_neg (show ¬ w ≤ q by omega)]
          have b9 := hR3.2.2 q hc
          refine r_aload_n d_Md_next_110 rfl ?_
          refine g_getr (b := 437) d_Md_next_111 f_Md_7 rfl rfl rfl ?_
          refine r_aload_n d_Md_next_114 rfl ?_
          refine g_geti d_Md_next_115 f_Md_21 rfl rfl ?_
          refine r_top (y := (nI q)) (g2) ?_
          refine g_iald d_Md_next_118 rfl (by omega) (by omega) ?_
          refine r_top (y := nI (T q)) ((hR3.2.2 q (by omega)).2) ?_
          refine r_istore_n (L' := [some (.ref 436), some (.int (nI (T q))), none, none, none]) d_Md_next_119 (by decide) rfl ?_
          -- what stands behind a letter or a digit
          have AL : ∀ bl, ((bl = 1 ∧ 97 ≤ T q) ∨ (bl = 0 ∧ ¬ 97 ≤ T q)) → al (T q) → T q ≠ 59 → T q ≠ 45 → Rn o l m_Md_next (0, 0) 175 [some (.ref 436), some (.int (nI (T q))), some (.int (nI bl)), none, none] [] (gh n M3) (QV n (fun M' => NF M M' ∧ p ≤ w ∧ M' 436 5 = nI q ∧ ∃ k e, M' 436 6 = nI k ∧ M' 436 4 = nI e ∧ k < 6 ∧ (((if T q = 59 then 3 else if T q = 45 then 4 else wrd T q (en T w q)) ≠ 0 → e = if T q = 59 then q + 1 else if T q = 45 then q + 1 else en T w q) ∧ ((if T q = 59 then 3 else if T q = 45 then 4 else wrd T q (en T w q)) = 1 ↔ k = 0) ∧ ((if T q = 59 then 3 else if T q = 45 then 4 else wrd T q (en T w q)) = 2 ↔ k = 3) ∧ ((if T q = 59 then 3 else if T q = 45 then 4 else wrd T q (en T w q)) = 3 ↔ k = 4) ∧ ((if T q = 59 then 3 else if T q = 45 then 4 else wrd T q (en T w q)) = 4 ↔ k = 5) ∧ (5 ≤ (if T q = 59 then 3 else if T q = 45 then 4 else wrd T q (en T w q)) → k = 2) ∧ (k = 2 → q ≤ e ∧ e ≤ w ∧ ∀ i, i < 4 → ((if T q = 59 then 3 else if T q = 45 then 4 else wrd T q (en T w q)) = 5 + i ↔ isW T q e i))) ∧ ((if T q = 59 then 3 else if T q = 45 then 4 else wrd T q (en T w q)) = 2 → M' 436 7 = nI (vl T q (en T w q - q))))) := by
            intro bl hbl hal n59 n45
            have hbl2 : bl < 2 := by omega
            simp only [if_neg n59, if_neg n45]
            obtain ⟨en1, en2⟩ := en_le (T := T) sk2
            have en3 : q < en T w q := by
              unfold en
              obtain ⟨d, hd⟩ : ∃ d, w - q = d + 1 := ⟨w - q - 1, by omega⟩
              rw [hd, enF, ic_t ⟨hc, hal⟩]
              have := (enF_le (T := T) (n := w) d (q + 1) (by omega)).1
              omega
            -- behind the loop
            have J3 : ∀ (u : Option Value) (M4 : Mem), NF M M4 → M4 436 4 = nI (en T w q) → M4 436 5 = nI q → M4 436 7 = nI (vl T q (if en T w q - q ≤ 3 then en T w q - q else 3)) → Rn o l m_Md_next (0, 0) 283 [some (.ref 436), some (.int (nI (T q))), some (.int (nI bl)), some (.int (nI (if lc T q (en T w q - q) = bl * (en T w q - q) then 1 else 0))), u] [] (gh n M4) (QV n (fun M' => NF M M' ∧ p ≤ w ∧ M' 436 5 = nI q ∧ ∃ k e, M' 436 6 = nI k ∧ M' 436 4 = nI e ∧ k < 6 ∧ ((wrd T q (en T w q) ≠ 0 → e = en T w q) ∧ (wrd T q (en T w q) = 1 ↔ k = 0) ∧ (wrd T q (en T w q) = 2 ↔ k = 3) ∧ (wrd T q (en T w q) = 3 ↔ k = 4) ∧ (wrd T q (en T w q) = 4 ↔ k = 5) ∧ (5 ≤ wrd T q (en T w q) → k = 2) ∧ (k = 2 → q ≤ e ∧ e ≤ w ∧ ∀ i, i < 4 → (wrd T q (en T w q) = 5 + i ↔ isW T q e i))) ∧ (wrd T q (en T w q) = 2 → M' 436 7 = nI (vl T q (en T w q - q))))) := by
              intro u M4 f1 f2 f3 f4
              have hk := kkM_ok (T := T) (q := q) (e := en T w q) (bl := bl) (by omega) hbl
              have wc := wrd_c T q (en T w q)
              generalize hE : en T w q = E at *
              have fin : ∀ k, k = kkM T q (E - q) bl → NF M (upm M4 436 6 (nI k)) ∧ p ≤ w ∧ upm M4 436 6 (nI k) 436 5 = nI q ∧ ∃ k' e, upm M4 436 6 (nI k) 436 6 = nI k' ∧ upm M4 436 6 (nI k) 436 4 = nI e ∧ k' < 6 ∧ ((wrd T q E ≠ 0 → e = E) ∧ (wrd T q E = 1 ↔ k' = 0) ∧ (wrd T q E = 2 ↔ k' = 3) ∧ (wrd T q E = 3 ↔ k' = 4) ∧ (wrd T q E = 4 ↔ k' = 5) ∧ (5 ≤ wrd T q E → k' = 2) ∧ (k' = 2 → q ≤ e ∧ e ≤ w ∧ ∀ i, i < 4 → (wrd T q E = 5 + i ↔ isW T q e i))) ∧ (wrd T q E = 2 → upm M4 436 6 (nI k) 436 7 = nI (vl T q (E - q))) := by
                rintro k rfl
                obtain ⟨k1, k2, k3, k4, k5⟩ := hk
                refine ⟨f1.up (by omega), hp, by rw [upm_at, if_neg (by decide)]; exact f3, _, E, by rw [upm_at, if_pos rfl], by rw [upm_at, if_neg (by decide)]; exact f2, by omega, ⟨fun _ => rfl, ⟨fun z => ?_, fun z => absurd z k4⟩, k1, ⟨fun z => ?_, fun z => by omega⟩, ⟨fun z => ?_, fun z => by omega⟩, k2, fun z => ⟨en1, en2, k3 z⟩⟩, fun z => ?_⟩
                · rcases wc with h | h | ⟨i, hi, h⟩ <;> omega
                · rcases wc with h | h | ⟨i, hi, h⟩ <;> omega
                · rcases wc with h | h | ⟨i, hi, h⟩ <;> omega
                · rw [upm_at, if_neg (by decide), f4, if_pos (wrd_v z).2.2]
              by_cases cg : lc T q (E - q) = bl * (E - q)
              · rw [if_pos cg]
                refine r_aload_n d_Md_next_283 rfl ?_
                refine r_iload_n d_Md_next_284 rfl ?_
                refine n_if_eq d_Md_next_285 (by omega) (fun h9 => absurd h9 (by decide)) (fun _ => ?_)
                refine r_iload_n d_Md_next_288 rfl ?_
                refine n_if_ne d_Md_next_289 (by omega) (fun cb => ?_) (fun cb => ?_)
                · refine r_iload_n d_Md_next_309 rfl ?_
                  refine n_if_eq d_Md_next_310 (by omega) (fun cb2 => ?_) (fun cb2 => ?_)
                  · omega
                  · refine r_iconst (v := nI 2) d_Md_next_313 (by decide) ?_
                    refine r_goto d_Md_next_314 ?_
                    refine g_puti d_Md_next_318 f_Md_27 ⟨rfl, rfl, rfl⟩ rfl ?_
                    refine g_retv d_Md_next_321 rfl ?_
                    exact fin 2 (by unfold kkM; rw [if_neg (fun z => z cg), if_neg (by omega), if_neg cb])
                · refine r_aload_n d_Md_next_292 rfl ?_
                  refine g_geti d_Md_next_293 f_Md_21 rfl rfl ?_
                  refine r_top (y := (nI E)) (f2) ?_
                  refine r_aload_n d_Md_next_296 rfl ?_
                  refine g_geti d_Md_next_297 f_Md_24 rfl rfl ?_
                  refine r_top (y := (nI q)) (f3) ?_
                  refine n_isub d_Md_next_300 (by omega) ?_
                  refine r_iconst (v := nI 3) d_Md_next_301 (by decide) ?_
                  refine n_icmp_le d_Md_next_302 (by omega) (by omega) (fun c3 => ?_) (fun c3 => ?_)
                  · refine r_iload_n d_Md_next_309 rfl ?_
                    refine n_if_eq d_Md_next_310 (by omega) (fun cb2 => ?_) (fun cb2 => ?_)
                    · refine r_iconst (v := nI 3) d_Md_next_317 (by decide) ?_
                      refine g_puti d_Md_next_318 f_Md_27 ⟨rfl, rfl, rfl⟩ rfl ?_
                      refine g_retv d_Md_next_321 rfl ?_
                      exact fin 3 (by unfold kkM; rw [if_neg (fun z => z cg), if_neg (by omega), if_pos cb])
                    · omega
                  · refine r_iconst (v := nI 1) d_Md_next_305 (by decide) ?_
                    refine r_goto d_Md_next_306 ?_
                    refine g_puti d_Md_next_318 f_Md_27 ⟨rfl, rfl, rfl⟩ rfl ?_
                    refine g_retv d_Md_next_321 rfl ?_
                    exact fin 1 (by unfold kkM; rw [if_neg (fun z => z cg), if_pos ⟨cb, c3⟩])
              · rw [if_neg cg]
                refine r_aload_n d_Md_next_283 rfl ?_
                refine r_iload_n d_Md_next_284 rfl ?_
                refine n_if_eq d_Md_next_285 (by omega) (fun _ => ?_) (fun h9 => absurd h9 (by decide))
                refine r_iconst (v := nI 1) d_Md_next_305 (by decide) ?_
                refine r_goto d_Md_next_306 ?_
                refine g_puti d_Md_next_318 f_Md_27 ⟨rfl, rfl, rfl⟩ rfl ?_
                refine g_retv d_Md_next_321 rfl ?_
                exact fin 1 (by unfold kkM; rw [if_pos cg])
            refine r_iconst (v := nI 1) d_Md_next_175 (by decide) ?_
            refine r_istore_n (L' := [some (.ref 436), some (.int (nI (T q))), some (.int (nI bl)), some (.int (nI 1)), none]) d_Md_next_176 (by decide) rfl ?_
            refine r_aload_n d_Md_next_177 rfl ?_
            refine r_iconst (v := nI 0) d_Md_next_178 (by decide) ?_
            refine g_puti d_Md_next_179 f_Md_37 ⟨rfl, rfl, rfl⟩ rfl ?_
            suffices H : ∀ d k u M4, k + d = w - q → enF T w d (q + k) = en T w q → NF M M4 → M4 436 4 = nI (q + k) → M4 436 5 = nI q → M4 436 7 = nI (vl T q (if k ≤ 3 then k else 3)) → Rn o l m_Md_next (0, 0) 182 [some (.ref 436), some (.int (nI (T q))), some (.int (nI bl)), some (.int (nI (if lc T q k = bl * k then 1 else 0))), u] [] (gh n M4) (QV n (fun M' => NF M M' ∧ p ≤ w ∧ M' 436 5 = nI q ∧ ∃ k e, M' 436 6 = nI k ∧ M' 436 4 = nI e ∧ k < 6 ∧ ((wrd T q (en T w q) ≠ 0 → e = en T w q) ∧ (wrd T q (en T w q) = 1 ↔ k = 0) ∧ (wrd T q (en T w q) = 2 ↔ k = 3) ∧ (wrd T q (en T w q) = 3 ↔ k = 4) ∧ (wrd T q (en T w q) = 4 ↔ k = 5) ∧ (5 ≤ wrd T q (en T w q) → k = 2) ∧ (k = 2 → q ≤ e ∧ e ≤ w ∧ ∀ i, i < 4 → (wrd T q (en T w q) = 5 + i ↔ isW T q e i))) ∧ (wrd T q (en T w q) = 2 → M' 436 7 = nI (vl T q (en T w q - q))))) by
              have := H (w - q) 0 none (upm M3 436 7 (nI 0)) (by omega) rfl (g1.up (by omega)) (by rw [upm_at, if_neg (by decide)]; exact g2) (by rw [upm_at, if_neg (by decide)]; exact g3) (by rw [upm_at, if_pos rfl]; rfl)
              rw [if_pos (show lc T q 0 = bl * 0 from rfl)] at this
              exact this
            intro d
            induction d with
            | zero =>
              intro k u M4 hk he f1 f2 f3 f4
              have he : q + k = en T w q := he
              have ek : en T w q - q = k := by omega
              have hR4 := hR.nf f1
              refine r_aload_n d_Md_next_182 rfl ?_
              refine r_aload_n d_Md_next_183 rfl ?_
              refine g_geti d_Md_next_184 f_Md_21 rfl rfl ?_
              refine r_top (y := (nI (q+k))) (f2) ?_
              refine g_Vi (av := [.int (nI (q+k))]) d_Md_next_187 k_Md_40 ws_Md_tapeAt (by decide) rfl rfl (Nat.le_of_ble_eq_true rfl) rfl (c_Md_tapeAt (p := q + k) (by omega) hR4) ?_
              rintro r _ ⟨rfl, rfl⟩
              rw [if_neg (show ¬ q + k < w by omega)]
              refine g_Si (av := [.int (nI 0)]) d_Md_next_190 k_Md_30 ws_Md_isLetter (by decide) rfl rfl (Nat.le_of_ble_eq_true rfl) (c_Md_isLetter (by decide)) ?_
              rintro r _ ⟨⟨_, h9⟩ | ⟨rfl, _⟩, rfl⟩
              · omega
              · refine n_if_ne d_Md_next_193 (by omega) (fun h9 => absurd h9 (by decide)) (fun _ => ?_)
                refine r_aload_n d_Md_next_196 rfl ?_
                refine r_aload_n d_Md_next_197 rfl ?_
                refine g_geti d_Md_next_198 f_Md_21 rfl rfl ?_
                refine r_top (y := (nI (q+k))) (f2) ?_
                refine g_Vi (av := [.int (nI (q+k))]) d_Md_next_201 k_Md_40 ws_Md_tapeAt (by decide) rfl rfl (Nat.le_of_ble_eq_true rfl) rfl (c_Md_tapeAt (p := q + k) (by omega) hR4) ?_
                rintro r _ ⟨rfl, rfl⟩
                rw [if_neg (show ¬ q + k < w by omega)]
                refine g_Si (av := [.int (nI 0)]) d_Md_next_204 k_Md_34 ws_Md_isDigit (by decide) rfl rfl (Nat.le_of_ble_eq_true rfl) (c_Md_isDigit (by decide)) ?_
                rintro r _ ⟨⟨_, h9⟩ | ⟨rfl, _⟩, rfl⟩
                · omega
                · refine n_if_eq d_Md_next_207 (by omega) (fun _ => ?_) (fun h9 => absurd h9 (by decide))
                  have := J3 u M4 f1 (by rw [← he]; exact f2) f3 (by rw [ek]; exact f4)
                  rw [ek] at this ⊢
                  exact this
            | succ d ih =>
              intro k u M4 hk he f1 f2 f3 f4
              have hR4 := hR.nf f1
              have qk : q + k < w := by omega
              have b8 := (hR4.2.2 (q + k) qk).1
              rw [enF] at he
              have lk := lc_le T q k
              -- a letter or a digit goes on
              have go : al (T (q + k)) → Rn o l m_Md_next (0, 0) 210 [some (.ref 436), some (.int (nI (T q))), some (.int (nI bl)), some (.int (nI (if lc T q k = bl * k then 1 else 0))), u] [] (gh n M4) (QV n (fun M' => NF M M' ∧ p ≤ w ∧ M' 436 5 = nI q ∧ ∃ k e, M' 436 6 = nI k ∧ M' 436 4 = nI e ∧ k < 6 ∧ ((wrd T q (en T w q) ≠ 0 → e = en T w q) ∧ (wrd T q (en T w q) = 1 ↔ k = 0) ∧ (wrd T q (en T w q) = 2 ↔ k = 3) ∧ (wrd T q (en T w q) = 3 ↔ k = 4) ∧ (wrd T q (en T w q) = 4 ↔ k = 5) ∧ (5 ≤ wrd T q (en T w q) → k = 2) ∧ (k = 2 → q ≤ e ∧ e ≤ w ∧ ∀ i, i < 4 → (wrd T q (en T w q) = 5 + i ↔ isW T q e i))) ∧ (wrd T q (en T w q) = 2 → M' 436 7 = nI (vl T q (en T w q - q))))) := by
                intro ha
                rw [ic_t ⟨qk, ha⟩] at he
                have ha48 : 48 ≤ T (q + k) := by unfold al at ha; omega
                -- the number
                have num : ∀ gd, gd = (if lc T q (k + 1) = bl * (k + 1) then 1 else 0) → Rn o l m_Md_next (0, 0) 239 [some (.ref 436), some (.int (nI (T q))), some (.int (nI bl)), some (.int (nI (if lc T q k = bl * k then 1 else 0))), some (.int (nI (T (q + k))))] [.int (nI gd)] (gh n M4) (QV n (fun M' => NF M M' ∧ p ≤ w ∧ M' 436 5 = nI q ∧ ∃ k e, M' 436 6 = nI k ∧ M' 436 4 = nI e ∧ k < 6 ∧ ((wrd T q (en T w q) ≠ 0 → e = en T w q) ∧ (wrd T q (en T w q) = 1 ↔ k = 0) ∧ (wrd T q (en T w q) = 2 ↔ k = 3) ∧ (wrd T q (en T w q) = 3 ↔ k = 4) ∧ (wrd T q (en T w q) = 4 ↔ k = 5) ∧ (5 ≤ wrd T q (en T w q) → k = 2) ∧ (k = 2 → q ≤ e ∧ e ≤ w ∧ ∀ i, i < 4 → (wrd T q (en T w q) = 5 + i ↔ isW T q e i))) ∧ (wrd T q (en T w q) = 2 → M' 436 7 = nI (vl T q (en T w q - q))))) := by
                  intro gd hgd
                  refine r_istore_n (L' := [some (.ref 436), some (.int (nI (T q))), some (.int (nI bl)), some (.int (nI gd)), some (.int (nI (T (q + k))))]) d_Md_next_239 (by decide) rfl ?_
                  refine r_aload_n d_Md_next_240 rfl ?_
                  refine g_geti d_Md_next_241 f_Md_21 rfl rfl ?_
                  refine r_top (y := (nI (q+k))) (f2) ?_
                  refine r_aload_n d_Md_next_244 rfl ?_
                  refine g_geti d_Md_next_245 f_Md_24 rfl rfl ?_
                  refine r_top (y := (nI q)) (f3) ?_
                  refine n_isub d_Md_next_248 (by omega) ?_
                  refine r_iconst (v := nI 3) d_Md_next_249 (by decide) ?_
                  refine n_icmp_ge d_Md_next_250 (by omega) (by omega) (fun c3 => ?_) (fun c3 => ?_)
                  · refine r_aload_n d_Md_next_270 rfl ?_
                    refine r_dup d_Md_next_271 rfl ?_
                    refine g_geti d_Md_next_272 f_Md_21 rfl rfl ?_
                    refine r_top (y := (nI (q+k))) (f2) ?_
                    refine r_iconst (v := nI 1) d_Md_next_275 (by decide) ?_
                    refine n_iadd d_Md_next_276 ?_
                    refine g_puti d_Md_next_277 f_Md_21 ⟨rfl, rfl, rfl⟩ rfl ?_
                    refine r_goto d_Md_next_280 ?_
                    rw [hgd]
                    refine ih (k + 1) _ _ (by omega) he (f1.up (by omega)) (by rw [upm_at, if_pos rfl]; rfl) (by rw [upm_at, if_neg (by decide)]; exact f3) ?_
                    rw [upm_at, if_neg (by decide), f4, if_neg (show ¬ k + 1 ≤ 3 by omega)]
                    by_cases e3 : k ≤ 3
                    · rw [if_pos e3, show k = 3 by omega]
                    · rw [if_neg e3]
                  · rw [if_pos (show k ≤ 3 by omega)] at f4
                    refine r_aload_n d_Md_next_253 rfl ?_
                    refine r_bipush (v := nI 10) d_Md_next_254 (by decide) ?_
                    refine r_aload_n d_Md_next_256 rfl ?_
                    refine g_geti d_Md_next_257 f_Md_37 rfl rfl ?_
                    refine r_top (y := (nI (vl T q k))) (f4) ?_
                    refine n_imul d_Md_next_260 ?_
                    refine r_iload d_Md_next_261 rfl ?_
                    refine n_iadd d_Md_next_263 ?_
                    refine r_bipush (v := nI 48) d_Md_next_264 (by decide) ?_
                    refine n_isub d_Md_next_266 (by omega) ?_
                    refine g_puti d_Md_next_267 f_Md_37 ⟨rfl, rfl, rfl⟩ rfl ?_
                    refine r_aload_n d_Md_next_270 rfl ?_
                    refine r_dup d_Md_next_271 rfl ?_
                    refine g_geti d_Md_next_272 f_Md_21 rfl rfl ?_
                    refine r_top (y := (nI (q+k))) (by rw [upm_at, if_neg (by decide)]; exact f2) ?_
                    refine r_iconst (v := nI 1) d_Md_next_275 (by decide) ?_
                    refine n_iadd d_Md_next_276 ?_
                    refine g_puti d_Md_next_277 f_Md_21 ⟨rfl, rfl, rfl⟩ rfl ?_
                    refine r_goto d_Md_next_280 ?_
                    rw [hgd]
                    refine ih (k + 1) _ _ (by omega) he ((f1.up (by omega)).up (by omega)) (by rw [upm_at, if_pos rfl]; rfl) (by rw [upm_at, if_neg (by decide), upm_at, if_neg (by decide)]; exact f3) ?_
                    rw [upm_at, if_neg (by decide), upm_at, if_pos rfl, if_pos (show k + 1 ≤ 3 by omega), vl, Nat.mul_comm 10]
                have lc1 : lc T q (k + 1) = lc T q k + (if 97 ≤ T (q + k) then 1 else 0) := rfl
                refine r_aload_n d_Md_next_210 rfl ?_
                refine g_getr (b := 437) d_Md_next_211 f_Md_7 rfl rfl rfl ?_
                refine r_aload_n d_Md_next_214 rfl ?_
                refine g_geti d_Md_next_215 f_Md_21 rfl rfl ?_
                refine r_top (y := (nI (q+k))) (f2) ?_
                refine g_iald d_Md_next_218 rfl (by omega) (by omega) ?_
                refine r_top (y := nI (T (q+k))) ((hR4.2.2 (q+k) (by omega)).2) ?_
                refine r_istore (L' := [some (.ref 436), some (.int (nI (T q))), some (.int (nI bl)), some (.int (nI (if lc T q k = bl * k then 1 else 0))), some (.int (nI (T (q+k))))]) d_Md_next_219 (by decide) rfl ?_
                by_cases cg : lc T q k = bl * k
                · rw [if_pos cg] at num ⊢
                  refine r_iload_n d_Md_next_221 rfl ?_
                  refine n_if_eq d_Md_next_222 (by omega) (fun h9 => absurd h9 (by decide)) (fun _ => ?_)
                  refine r_iload d_Md_next_225 rfl ?_
                  refine g_Si (av := [.int (nI (T (q + k)))]) d_Md_next_227 k_Md_30 ws_Md_isLetter (by decide) rfl rfl (Nat.le_of_ble_eq_true rfl) (c_Md_isLetter b8) ?_
                  rintro r _ ⟨⟨rfl, h9⟩ | ⟨rfl, h9⟩, rfl⟩
                  · refine r_iload_n d_Md_next_230 rfl ?_
                    refine n_icmp_ne d_Md_next_231 (by omega) (by omega) (fun hx => ?_) (fun hx => ?_)
                    · refine r_iconst (v := nI 0) d_Md_next_238 (by decide) ?_
                      refine num 0 ?_
                      rw [lc1, if_pos h9.1, cg, show bl = 0 by omega, if_neg (by omega)]
                    · refine r_iconst (v := nI 1) d_Md_next_234 (by decide) ?_
                      refine r_goto d_Md_next_235 ?_
                      refine num 1 ?_
                      rw [lc1, if_pos h9.1, cg, ← hx, if_pos (by omega)]
                  · refine r_iload_n d_Md_next_230 rfl ?_
                    have h97 : ¬ 97 ≤ T (q + k) := by unfold al at ha; omega
                    refine n_icmp_ne d_Md_next_231 (by omega) (by omega) (fun hx => ?_) (fun hx => ?_)
                    · refine r_iconst (v := nI 0) d_Md_next_238 (by decide) ?_
                      refine num 0 ?_
                      rw [lc1, if_neg h97, cg, show bl = 1 by omega, if_neg (by omega)]
                    · refine r_iconst (v := nI 1) d_Md_next_234 (by decide) ?_
                      refine r_goto d_Md_next_235 ?_
                      refine num 1 ?_
                      rw [lc1, if_neg h97, cg, ← hx, if_pos (by omega)]
                · rw [if_neg cg] at num ⊢
                  refine r_iload_n d_Md_next_221 rfl ?_
                  refine n_if_eq d_Md_next_222 (by omega) (fun _ => ?_) (fun h9 => absurd h9 (by decide))
                  refine r_iconst (v := nI 0) d_Md_next_238 (by decide) ?_
                  refine num 0 ?_
                  rw [if_neg]
                  intro z
                  rw [lc1] at z
                  have l1 : lc T q k ≤ k := lk
                  rcases (show bl = 0 ∨ bl = 1 by omega) with rfl | rfl
                  · split at z <;> omega
                  · split at z <;> omega
              refine r_aload_n d_Md_next_182 rfl ?_
              refine r_aload_n d_Md_next_183 rfl ?_
              refine g_geti d_Md_next_184 f_Md_21 rfl rfl ?_
              refine r_top (y := (nI (q+k))) (f2) ?_
              refine g_Vi (av := [.int (nI (q+k))]) d_Md_next_187 k_Md_40 ws_Md_tapeAt (by decide) rfl rfl (Nat.le_of_ble_eq_true rfl) rfl (c_Md_tapeAt (p := q + k) (by omega) hR4) ?_
              rintro r _ ⟨rfl, rfl⟩
              rw [if_pos qk]
              refine g_Si (av := [.int (nI (T (q + k)))]) d_Md_next_190 k_Md_30 ws_Md_isLetter (by decide) rfl rfl (Nat.le_of_ble_eq_true rfl) (c_Md_isLetter b8) ?_
              rintro r _ ⟨⟨rfl, h9⟩ | ⟨rfl, h9⟩, rfl⟩
              · refine n_if_ne d_Md_next_193 (by omega) (fun _ => ?_) (fun h9 => absurd h9 (by decide))
                exact go (Or.inr h9)
              · refine n_if_ne d_Md_next_193 (by omega) (fun h9 => absurd h9 (by decide)) (fun _ => ?_)
                refine r_aload_n d_Md_next_196 rfl ?_
                refine r_aload_n d_Md_next_197 rfl ?_
                refine g_geti d_Md_next_198 f_Md_21 rfl rfl ?_
                refine r_top (y := (nI (q+k))) (f2) ?_
                refine g_Vi (av := [.int (nI (q+k))]) d_Md_next_201 k_Md_40 ws_Md_tapeAt (by decide) rfl rfl (Nat.le_of_ble_eq_true rfl) rfl (c_Md_tapeAt (p := q + k) (by omega) hR4) ?_
                rintro r _ ⟨rfl, rfl⟩
                rw [if_pos qk]
                refine g_Si (av := [.int (nI (T (q + k)))]) d_Md_next_204 k_Md_34 ws_Md_isDigit (by decide) rfl rfl (Nat.le_of_ble_eq_true rfl) (c_Md_isDigit b8) ?_
                rintro r _ ⟨⟨rfl, h8⟩ | ⟨rfl, h8⟩, rfl⟩
                · refine n_if_eq d_Md_next_207 (by omega) (fun h9 => absurd h9 (by decide)) (fun _ => ?_)
                  exact go (Or.inl h8)
                · refine n_if_eq d_Md_next_207 (by omega) (fun _ => ?_) (fun h9 => absurd h9 (by decide))
                  rw [ic_f (fun z => by unfold al at z; omega)] at he
                  have ek : en T w q - q = k := by omega
                  have := J3 u M4 f1 (by rw [← he]; exact f2) f3 (by rw [ek]; exact f4)
                  rw [ek] at this ⊢
                  exact this
          refine r_iload_n d_Md_next_120 rfl ?_
          refine g_Si (av := [.int (nI (T q))]) d_Md_next_121 k_Md_30 ws_Md_isLetter (by decide) rfl rfl (Nat.le_of_ble_eq_true rfl) (c_Md_isLetter b9.1) ?_
          rintro r _ ⟨⟨rfl, h9⟩ | ⟨rfl, h9⟩, rfl⟩
          · refine n_if_ne d_Md_next_124 (by omega) (fun _ => ?_) (fun h9 => absurd h9 (by decide))
            refine r_iload_n d_Md_next_170 rfl ?_
            refine g_Si (av := [.int (nI (T q))]) d_Md_next_171 k_Md_30 ws_Md_isLetter (by decide) rfl rfl (Nat.le_of_ble_eq_true rfl) (c_Md_isLetter b9.1) ?_
            rintro r _ ⟨⟨rfl, h8⟩ | ⟨rfl, h8⟩, rfl⟩
            · refine r_istore_n (L' := [some (.ref 436), some (.int (nI (T q))), some (.int (nI 1)), none, none]) d_Md_next_174 (by decide) rfl ?_
              exact AL 1 (Or.inl ⟨rfl, h9.1⟩) (Or.inr h9) (by omega) (by omega)
            · exact absurd h9 h8
          · refine n_if_ne d_Md_next_124 (by omega) (fun h9 => absurd h9 (by decide)) (fun _ => ?_)
            refine r_iload_n d_Md_next_127 rfl ?_
            refine g_Si (av := [.int (nI (T q))]) d_Md_next_128 k_Md_34 ws_Md_isDigit (by decide) rfl rfl (Nat.le_of_ble_eq_true rfl) (c_Md_isDigit b9.1) ?_
            rintro r _ ⟨⟨rfl, h8⟩ | ⟨rfl, h8⟩, rfl⟩
            · refine n_if_ne d_Md_next_131 (by omega) (fun _ => ?_) (fun h9 => absurd h9 (by decide))
              refine r_iload_n d_Md_next_170 rfl ?_
              refine g_Si (av := [.int (nI (T q))]) d_Md_next_171 k_Md_30 ws_Md_isLetter (by decide) rfl rfl (Nat.le_of_ble_eq_true rfl) (c_Md_isLetter b9.1) ?_
              rintro r _ ⟨⟨rfl, h7⟩ | ⟨rfl, h7⟩, rfl⟩
              · exact absurd h7 h9
              · refine r_istore_n (L' := [some (.ref 436), some (.int (nI (T q))), some (.int (nI 0)), none, none]) d_Md_next_174 (by decide) rfl ?_
                exact AL 0 (Or.inr ⟨rfl, by omega⟩) (Or.inl h8) (by omega) (by omega)
            · refine n_if_ne d_Md_next_131 (by omega) (fun h9 => absurd h9 (by decide)) (fun _ => ?_)
              refine r_aload_n d_Md_next_134 rfl ?_
              refine r_iload_n d_Md_next_135 rfl ?_
              refine r_bipush (v := nI 59) d_Md_next_136 (by decide) ?_
              refine n_icmp_ne d_Md_next_138 (by omega) (by omega) (fun c59 => ?_) (fun c59 => ?_)
              · rw [if_neg c59, if_neg c59]
                refine r_iload_n d_Md_next_145 rfl ?_
                refine r_bipush (v := nI 45) d_Md_next_146 (by decide) ?_
                refine n_icmp_ne d_Md_next_148 (by omega) (by omega) (fun c45 => ?_) (fun c45 => ?_)
                · rw [if_neg c45, if_neg c45]
                  refine r_iconst (v := nI 1) d_Md_next_155 (by decide) ?_
                  refine g_puti d_Md_next_156 f_Md_27 ⟨rfl, rfl, rfl⟩ rfl ?_
                  refine r_aload_n d_Md_next_159 rfl ?_
                  refine r_dup d_Md_next_160 rfl ?_
                  refine g_geti d_Md_next_161 f_Md_21 rfl rfl ?_
                  refine r_top (y := (nI q)) (by rw [upm_at, if_neg (by decide)]; exact g2) ?_
                  refine r_iconst (v := nI 1) d_Md_next_164 (by decide) ?_
                  refine n_iadd d_Md_next_165 ?_
                  refine g_puti d_Md_next_166 f_Md_21 ⟨rfl, rfl, rfl⟩ rfl ?_
                  refine g_retv d_Md_next_169 rfl ?_
                  have nal : ¬ al (T q) := fun z => by unfold al at z; omega
                  have een : en T w q = q := by
                    unfold en
                    obtain ⟨d, hd⟩ : ∃ d, w - q = d + 1 := ⟨w - q - 1, by omega⟩
                    rw [hd, enF, ic_f (fun z => nal z.2)]
                  have e0 : wrd T q (en T w q) = 0 := by
                    rw [een]
                    rcases wrd_c T q q with h | h | ⟨i, hi, h⟩
                    · exact h
                    · have := (wrd_v h).2.1
                      omega
                    · have := (isW_lc hi ((wrd_i hi (by omega)).mp h)).2.2
                      omega
                  rw [e0]
                  exact ⟨(g1.up (by omega)).up (by omega), hp, by rw [upm_at, if_neg (by decide), upm_at, if_neg (by decide)]; exact g3, 1, q + 1, by rw [upm_at, if_neg (by decide), upm_at, if_pos rfl], by rw [upm_at, if_pos rfl], by decide, ⟨fun z => absurd rfl z, by omega, by omega, by omega, by omega, by omega, by omega⟩, by omega⟩
                · rw [if_pos c45, if_pos c45]
                  refine r_iconst (v := nI 5) d_Md_next_151 (by decide) ?_
                  refine r_goto d_Md_next_152 ?_
                  refine g_puti d_Md_next_156 f_Md_27 ⟨rfl, rfl, rfl⟩ rfl ?_
                  refine r_aload_n d_Md_next_159 rfl ?_
                  refine r_dup d_Md_next_160 rfl ?_
                  refine g_geti d_Md_next_161 f_Md_21 rfl rfl ?_
                  refine r_top (y := (nI q)) (by rw [upm_at, if_neg (by decide)]; exact g2) ?_
                  refine r_iconst (v := nI 1) d_Md_next_164 (by decide) ?_
                  refine n_iadd d_Md_next_165 ?_
                  refine g_puti d_Md_next_166 f_Md_21 ⟨rfl, rfl, rfl⟩ rfl ?_
                  refine g_retv d_Md_next_169 rfl ?_
                  exact ⟨(g1.up (by omega)).up (by omega), hp, by rw [upm_at, if_neg (by decide), upm_at, if_neg (by decide)]; exact g3, 5, q + 1, by rw [upm_at, if_neg (by decide), upm_at, if_pos rfl], by rw [upm_at, if_pos rfl], by decide, ⟨fun z => rfl, by omega, by omega, by omega, by omega, by omega, by omega⟩, by omega⟩
              · rw [if_pos c59, if_pos c59]
                refine r_iconst (v := nI 4) d_Md_next_141 (by decide) ?_
                refine r_goto d_Md_next_142 ?_
                refine g_puti d_Md_next_156 f_Md_27 ⟨rfl, rfl, rfl⟩ rfl ?_
                refine r_aload_n d_Md_next_159 rfl ?_
                refine r_dup d_Md_next_160 rfl ?_
                refine g_geti d_Md_next_161 f_Md_21 rfl rfl ?_
                refine r_top (y := (nI q)) (by rw [upm_at, if_neg (by decide)]; exact g2) ?_
                refine r_iconst (v := nI 1) d_Md_next_164 (by decide) ?_
                refine n_iadd d_Md_next_165 ?_
                refine g_puti d_Md_next_166 f_Md_21 ⟨rfl, rfl, rfl⟩ rfl ?_
                refine g_retv d_Md_next_169 rfl ?_
                exact ⟨(g1.up (by omega)).up (by omega), hp, by rw [upm_at, if_neg (by decide), upm_at, if_neg (by decide)]; exact g3, 4, q + 1, by rw [upm_at, if_neg (by decide), upm_at, if_pos rfl], by rw [upm_at, if_pos rfl], by decide, ⟨fun z => rfl, by omega, by omega, by omega, by omega, by omega, by omega⟩, by omega⟩
        · rw [if_pos hc, if_pos hc]
          refine r_aload_n d_Md_next_104 rfl ?_
          refine r_iconst (v := nI 0) d_Md_next_105 (by decide) ?_
          refine g_puti d_Md_next_106 f_Md_27 ⟨rfl, rfl, rfl⟩ rfl ?_
          refine g_retv d_Md_next_109 rfl ?_
          exact ⟨g1.up (by omega), hp, by rw [upm_at, if_neg (by decide)]; exact g3, 0, q, by rw [upm_at, if_pos rfl], by rw [upm_at, if_neg (by decide)]; exact g2, by decide, ⟨fun z => rfl, by omega, by omega, by omega, by omega, by omega, by omega⟩, by omega⟩
      refine r_aload_n d_Md_next_60 rfl ?_
      refine g_geti d_Md_next_61 f_Md_18 rfl rfl ?_
      refine r_top (y := (nI w)) (hR3.1) ?_
      refine r_sipush (v := nI 500) d_Md_next_64 (by decide) ?_
      refine n_icmp_le d_Md_next_67 (by omega) (by omega) (fun hc => ?_) (fun hc => ?_)
      · exact tl
      · refine r_aload_n d_Md_next_70 rfl ?_
        refine g_geti d_Md_next_71 f_Md_24 rfl rfl ?_
        refine r_top (y := (nI q)) (g3) ?_
        refine r_sipush (v := nI 500) d_Md_next_74 (by decide) ?_
        refine n_icmp_lt d_Md_next_77 (by omega) (by omega) (fun hc2 => ?_) (fun hc2 => ?_)
        · exact tl
        · omega
  suffices H : ∀ d q M2, q + d = w → p ≤ q → skF T w d q = sk T w p → NF M M2 → M2 436 4 = nI q → Rn o l m_Md_next (0, 0) 0 [some (.ref 436), none, none, none, none] [] (gh n M2) (QV n (fun M' => NF M M' ∧ TM M' T w p)) from H (w - p) p M (by omega) (by omega) rfl NF.rf h4
  intro d
  induction d with
  | zero =>
    intro q M2 hq hpq hs f1 f2
    have hs : q = sk T w p := hs
    have hR2 := hR.nf f1
    refine r_aload_n d_Md_next_0 rfl ?_
    refine g_geti d_Md_next_1 f_Md_21 rfl rfl ?_
    refine r_top (y := (nI q)) (f2) ?_
    refine r_aload_n d_Md_next_4 rfl ?_
    refine g_geti d_Md_next_5 f_Md_18 rfl rfl ?_
    refine r_top (y := (nI w)) (hR2.1) ?_
    refine n_icmp_ge d_Md_next_8 (by omega) (by omega) (fun hc => ?_) (fun hc => ?_)
    · exact J M2 f1 (by rw [← hs]; exact f2)
    · omega
  | succ d ih =>
    intro q M2 hq hpq hs f1 f2
    have hR2 := hR.nf f1
    have b9 := hR2.2.2 q (by omega)
    unfold skF at hs
    refine r_aload_n d_Md_next_0 rfl ?_
    refine g_geti d_Md_next_1 f_Md_21 rfl rfl ?_
    refine r_top (y := (nI q)) (f2) ?_
    refine r_aload_n d_Md_next_4 rfl ?_
    refine g_geti d_Md_next_5 f_Md_18 rfl rfl ?_
    refine r_top (y := (nI w)) (hR2.1) ?_
    refine n_icmp_ge d_Md_next_8 (by omega) (by omega) (fun hc => ?_) (fun hc => ?_)
    · omega
    · refine r_aload_n d_Md_next_11 rfl ?_
      refine g_getr (b := 437) d_Md_next_12 f_Md_7 rfl rfl rfl ?_
      refine r_aload_n d_Md_next_15 rfl ?_
      refine g_geti d_Md_next_16 f_Md_21 rfl rfl ?_
      refine r_top (y := (nI q)) (f2) ?_
      refine g_iald d_Md_next_19 rfl (by omega) (by omega) ?_
      refine r_top (y := nI (T q)) ((hR2.2.2 q (by omega)).2) ?_
      refine r_bipush (v := nI 32) d_Md_next_20 (by decide) ?_
      refine n_icmp_eq d_Md_next_22 (by omega) (by omega) (fun h32 => ?_) (fun h32 => ?_)
      · rw [if_pos ⟨hc, Or.inl h32⟩] at hs
        refine r_aload_n d_Md_next_39 rfl ?_
        refine r_dup d_Md_next_40 rfl ?_
        refine g_geti d_Md_next_41 f_Md_21 rfl rfl ?_
        refine r_top (y := (nI q)) (f2) ?_
        refine r_iconst (v := nI 1) d_Md_next_44 (by decide) ?_
        refine n_iadd d_Md_next_45 ?_
        refine g_puti d_Md_next_46 f_Md_21 ⟨rfl, rfl, rfl⟩ rfl ?_
        refine r_goto d_Md_next_49 ?_
        exact ih (q + 1) _ (by omega) (by omega) hs (f1.up (by omega)) (by rw [upm_at, if_pos rfl])
      · refine r_aload_n d_Md_next_25 rfl ?_
        refine g_getr (b := 437) d_Md_next_26 f_Md_7 rfl rfl rfl ?_
        refine r_aload_n d_Md_next_29 rfl ?_
        refine g_geti d_Md_next_30 f_Md_21 rfl rfl ?_
        refine r_top (y := (nI q)) (f2) ?_
        refine g_iald d_Md_next_33 rfl (by omega) (by omega) ?_
        refine r_top (y := nI (T q)) ((hR2.2.2 q (by omega)).2) ?_
        refine r_bipush (v := nI 10) d_Md_next_34 (by decide) ?_
        refine n_icmp_ne d_Md_next_36 (by omega) (by omega) (fun h10 => ?_) (fun h10 => ?_)
        · rw [if_neg (fun z => z.2.elim h32 h10)] at hs
          exact J M2 f1 (by rw [← hs]; exact f2)
        · rw [if_pos ⟨hc, Or.inr h10⟩] at hs
          refine r_aload_n d_Md_next_39 rfl ?_
          refine r_dup d_Md_next_40 rfl ?_
          refine g_geti d_Md_next_41 f_Md_21 rfl rfl ?_
          refine r_top (y := (nI q)) (f2) ?_
          refine r_iconst (v := nI 1) d_Md_next_44 (by decide) ?_
          refine n_iadd d_Md_next_45 ?_
          refine g_puti d_Md_next_46 f_Md_21 ⟨rfl, rfl, rfl⟩ rfl ?_
          refine r_goto d_Md_next_49 ?_
          exact ih (q + 1) _ (by omega) (by omega) hs (f1.up (by omega)) (by rw [upm_at, if_pos rfl])
end C67
