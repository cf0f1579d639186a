/-- the benches' rows, and the reader's divisor, are of residues -/
def BO (M : Mem) : Prop := (∀ b, 394 ≤ b → b < 436 → gT b = (1, 10) → Ok M b) ∧ Ok M 36
/-- what a call on the benches leaves -/
def BF (M M' : Mem) : Prop := FB M M' 394 436 ∧ BO M'
theorem BO.fb {M M' : Mem} {lo hi : Nat} (h : BO M) (hf : FB M M' lo hi) (hlo : 394 ≤ lo) (hk : ∀ b, lo ≤ b → b < hi → gT b = (1, 10) → Ok M' b) : BO M' := by
  refine ⟨fun b b1 b2 b3 => ?_, h.2.kept (hf 36 (by omega))⟩
  by_cases e : lo ≤ b ∧ b < hi
  · exact hk b e.1 e.2 b3
  · exact (h.1 b b1 b2 b3).kept (hf b (by omega))
theorem BF.rf {M : Mem} (h : BO M) : BF M M := ⟨FB.rf, h⟩
theorem BF.trans {M M1 M2 : Mem} (h : BF M M1) (h2 : BF M1 M2) : BF M M2 := ⟨h.1.trans h2.1, h2.2⟩
theorem BF.of {M M' : Mem} {lo hi : Nat} (h : BO M) (hf : FB M M' lo hi) (hlo : 394 ≤ lo) (hhi : hi ≤ 436) (hk : ∀ b, lo ≤ b → b < hi → gT b = (1, 10) → Ok M' b) : BF M M' := ⟨hf.mono hlo hhi, h.fb hf hlo hk⟩
theorem BF.row {M M' : Mem} {a : Nat} {w : Nat → Nat} (h : BO M) (hr : RW M a w M') (hlo : 394 ≤ a) (hhi : a < 436) (hw : ∀ j, j < 10 → w j < 1000003) : BF M M' := BF.of h hr.fb hlo (by omega) (fun b b1 b2 _ => by
  obtain rfl : b = a := by omega
  exact ⟨_, hr.ok hw⟩)
theorem BF.tab {M M' : Mem} {c : Nat} {g f : Nat → Nat} (h : BO M) (hf : FB M M' (c + 1) (c + 3)) (hlo : 394 ≤ c) (hhi : c + 3 ≤ 436) (hT : TbA M' c g f) : BF M M' := BF.of h hf (by omega) hhi (fun b b1 b2 _ => by
  rcases (show b = c + 1 ∨ b = c + 2 by omega) with rfl | rfl
  · exact ⟨_, hT.1⟩
  · exact ⟨_, hT.2⟩)
theorem BF.cols {M M' : Mem} {c s : Nat} {g f : Nat → Nat} (h : BO M) (hf : FB M M' (c + 1) (c + 1 + s)) (hlo : 394 ≤ c) (hhi : c + 1 + s ≤ 436) (hT : ∀ j, j < s → OKr M' (c + 1 + j) (col s g f j)) : BF M M' := BF.of h hf (by omega) hhi (fun b b1 b2 _ => by
  obtain ⟨j, rfl⟩ : ∃ j, b = c + 1 + j := ⟨b - (c + 1), by omega⟩
  exact ⟨_, hT j (by omega)⟩)
theorem BO.at {M : Mem} (h : BO M) (b : Nat) (h1 : 394 ≤ b) (h2 : b < 436) (h3 : gT b = (1, 10)) : Ok M b := h.1 b h1 h2 h3
/-- A of a table, Z of a table -/
def prA (s : Nat) (f : Nat → Nat) (j : Nat) : Nat := if j = s - 1 then 0 else dv oneS (uu (rvs f s) s) j
def zq (s : Nat) (g f : Nat → Nat) : Nat → Nat := dv (fun j => if j = 0 then g 0 else 0) (hn g (rvs f s) s s)
def prZ (s : Nat) (g f : Nat → Nat) (j : Nat) : Nat := if j = s - 1 then 0 else dv (fun i => if i < s - 1 then sb 0 (zq s g f (i + 1)) else zq s g f i) (uu (rvs f s) s) j
section C38
variable {o : OM} {l : Launch} {n : Nat} {M : Mem}
theorem c_Tb_powerOf {t s m : Nat} {k : Int32} {g f : Nat → Nat} (ht : isTb t) (hs0 : 2 ≤ s) (hs : s ≤ 10) (hm : m ≤ 9) (hk : k = nI m ∨ (k = -nI m ∧ 1 ≤ m)) (hd : t + 2 < 397) (hB : BO M) (hT : TbA M t g f) : CV o l m_Tb_powerOf n [.ref 397, .ref t, .int k, .int (nI s)] M (fun M' => (k = nI m → TbA M' 398 (pwr s g f m).1 (pwr s g f m).2) ∧ (k = -nI m ∧ 1 ≤ m → TbA M' 398 (pwr s (invG s g f) (rvs f s) m).1 (pwr s (invG s g f) (rvs f s) m).2) ∧ BF M M') := by
  refine cvo_of rfl rfl rfl (Nat.le_of_ble_eq_true rfl) ?_
  obtain ⟨t0, t1, t2, t3, t4⟩ := id ht
  have hab : (if 0 ≤ k then k else 0 - k) = nI m := by
    rcases hk with rfl | ⟨rfl, h1⟩
    · rw [if_pos (nI_pos' (by omega))]
    · rcases (show m = 1 ∨ m = 2 ∨ m = 3 ∨ m = 4 ∨ m = 5 ∨ m = 6 ∨ m = 7 ∨ m = 8 ∨ m = 9 by omega) with rfl | rfl | rfl | rfl | rfl | rfl | rfl | rfl | rfl <;> decide
  have hsg : k = nI m ∧ 0 ≤ k ∨ (k = -nI m ∧ 1 ≤ m) ∧ ¬ 0 ≤ k ∧ k ≠ nI m := by
    rcases hk with rfl | ⟨rfl, h1⟩
    · exact Or.inl ⟨rfl, nI_pos' (by omega)⟩
    · refine Or.inr ⟨⟨rfl, h1⟩, ?_⟩
      rcases (show m = 1 ∨ m = 2 ∨ m = 3 ∨ m = 4 ∨ m = 5 ∨ m = 6 ∨ m = 7 ∨ m = 8 ∨ m = 9 by omega) with rfl | rfl | rfl | rfl | rfl | rfl | rfl | rfl | rfl <;> decide
  -- from the join on
  have tail : ∀ (g2 f2 : Nat → Nat) (M1 : Mem), BF M M1 → (∃ g' f', TbA M1 401 g' f' ∧ (∀ j, j < s → g' j = g2 j) ∧ ∀ j, j < s → f' j = f2 j) → (∀ M', TbA M' 398 (pwr s g2 f2 m).1 (pwr s g2 f2 m).2 → BF M M' → (k = nI m → TbA M' 398 (pwr s g f m).1 (pwr s g f m).2) ∧ (k = -nI m ∧ 1 ≤ m → TbA M' 398 (pwr s (invG s g f) (rvs f s) m).1 (pwr s (invG s g f) (rvs f s) m).2) ∧ BF M M') → Rn o l m_Tb_powerOf (0, 0) 25 [some (.ref 397), some (.ref t), some (.int k), some (.int (nI s)), none] [] (gh n M1) (QV n (fun M' => (k = nI m → TbA M' 398 (pwr s g f m).1 (pwr s g f m).2) ∧ (k = -nI m ∧ 1 ≤ m → TbA M' 398 (pwr s (invG s g f) (rvs f s) m).1 (pwr s (invG s g f) (rvs f s) m).2) ∧ BF M M')) := by
    intro g2 f2 M1 hB1 hT1 hQ
    refine r_aload_n d_Tb_powerOf_25 rfl ?_
    refine g_getr (b := 398) d_Tb_powerOf_26 f_Tb_12 rfl rfl rfl ?_
    refine g_Vv (av := []) d_Tb_powerOf_29 k_Tb_90 ws_Ta_becomeOne (by decide) rfl rfl (Nat.le_of_ble_eq_true rfl) rfl (c_Ta_becomeOne isTb_398) ?_
    rintro M2 ⟨k1, k2⟩
    have hT2 : TbA M2 398 oneS tS := ⟨fun j hj => ⟨(k1 j hj).1, by unfold oneS; split <;> decide⟩, fun j hj => ⟨(k1 j hj).2, by unfold tS; split <;> decide⟩⟩
    have hB2 : BF M M2 := hB1.trans (BF.tab hB1.2 k2 (by decide) (by decide) hT2)
    have hS2 : ∃ g' f', TbA M2 401 g' f' ∧ (∀ j, j < s → g' j = g2 j) ∧ ∀ j, j < s → f' j = f2 j := by
      obtain ⟨g', f', e1, e2⟩ := hT1
      exact ⟨g', f', e1.kept (k2 _ (by decide)) (k2 _ (by decide)), e2⟩
    refine r_iconst (v := nI 0) d_Tb_powerOf_32 (by decide) ?_
    refine r_istore (L' := [some (.ref 397), some (.ref t), some (.int k), some (.int (nI s)), some (.int (nI 0))]) d_Tb_powerOf_33 (by decide) rfl ?_
    suffices H : ∀ d i M3, i + d = m → TbA M3 398 (pwr s g2 f2 i).1 (pwr s g2 f2 i).2 → (∃ g' f', TbA M3 401 g' f' ∧ (∀ j, j < s → g' j = g2 j) ∧ ∀ j, j < s → f' j = f2 j) → BF M M3 → Rn o l m_Tb_powerOf (0, 0) 35 [some (.ref 397), some (.ref t), some (.int k), some (.int (nI s)), some (.int (nI i))] [] (gh n M3) (QV n (fun M' => (k = nI m → TbA M' 398 (pwr s g f m).1 (pwr s g f m).2) ∧ (k = -nI m ∧ 1 ≤ m → TbA M' 398 (pwr s (invG s g f) (rvs f s) m).1 (pwr s (invG s g f) (rvs f s) m).2) ∧ BF M M')) from H m 0 M2 (by omega) hT2 hS2 hB2
    intro d
    induction d with
    | zero =>
      intro i M3 hi h1 h2 h3
      obtain rfl : i = m := by omega
      refine r_iload d_Tb_powerOf_35 rfl ?_
      refine r_iload_n d_Tb_powerOf_37 rfl ?_
      refine r_mabs d_Tb_powerOf_38 k_Tb_93 (by decide) (Nat.le_of_ble_eq_true rfl) ?_
      refine r_top hab ?_
      refine n_icmp_ge d_Tb_powerOf_41 (by omega) (by omega) (fun hc => ?_) (fun hc => ?_)
      · refine g_retv d_Tb_powerOf_77 rfl ?_
        exact hQ M3 h1 h3
      · omega
    | succ d ih =>
      intro i M3 hi h1 h2 h3
      obtain ⟨g', f', e1, e2, e3⟩ := h2
      refine r_iload d_Tb_powerOf_35 rfl ?_
      refine r_iload_n d_Tb_powerOf_37 rfl ?_
      refine r_mabs d_Tb_powerOf_38 k_Tb_93 (by decide) (Nat.le_of_ble_eq_true rfl) ?_
      refine r_top hab ?_
      refine n_icmp_ge d_Tb_powerOf_41 (by omega) (by omega) (fun hc => ?_) (fun hc => ?_)
      · omega
      · refine r_aload_n d_Tb_powerOf_44 rfl ?_
        refine g_getr (b := 398) d_Tb_powerOf_45 f_Tb_12 rfl rfl rfl ?_
        refine r_aload_n d_Tb_powerOf_48 rfl ?_
        refine g_getr (b := 401) d_Tb_powerOf_49 f_Tb_18 rfl rfl rfl ?_
        refine r_iload_n d_Tb_powerOf_52 rfl ?_
        refine r_aload_n d_Tb_powerOf_53 rfl ?_
        refine g_getr (b := 404) d_Tb_powerOf_54 f_Tb_21 rfl rfl rfl ?_
        refine g_Sv (av := [.ref 398, .ref 401, .int (nI s), .ref 404]) d_Tb_powerOf_57 k_Tb_99 ws_Tb_multiply (by decide) rfl rfl (Nat.le_of_ble_eq_true rfl) (c_Tb_multiply isTb_398 isTb_401 isTb_404 hs0 hs (by decide) (by decide) h1 e1) ?_
        rintro M4 ⟨k4, k5⟩
        have hB4 : BF M M4 := h3.trans (BF.tab h3.2 k5 (by decide) (by decide) k4)
        have k6 : TbA M4 404 (pwr s g2 f2 (i + 1)).1 (pwr s g2 f2 (i + 1)).2 := ⟨k4.1.to (fun j _ => mulG_congr e2 j), k4.2.to (fun j _ => mulF_congr e3 j)⟩
        refine r_aload_n d_Tb_powerOf_60 rfl ?_
        refine g_getr (b := 398) d_Tb_powerOf_61 f_Tb_12 rfl rfl rfl ?_
        refine r_aload_n d_Tb_powerOf_64 rfl ?_
        refine g_getr (b := 404) d_Tb_powerOf_65 f_Tb_21 rfl rfl rfl ?_
        refine g_Vv (av := [.ref 404]) d_Tb_powerOf_68 k_Tb_86 ws_Ta_copyFrom (by decide) rfl rfl (Nat.le_of_ble_eq_true rfl) rfl (c_Ta_copyFrom isTb_398 isTb_404 (by decide)) ?_
        rintro M5 ⟨k7, k8⟩
        refine n_iinc (c := 1) (L' := [some (.ref 397), some (.ref t), some (.int k), some (.int (nI s)), some (.int (nI (i + 1)))]) d_Tb_powerOf_71 rfl rfl (by decide) rfl ?_
        refine r_goto d_Tb_powerOf_74 ?_
        have k9 : TbA M5 398 (pwr s g2 f2 (i + 1)).1 (pwr s g2 f2 (i + 1)).2 := ⟨fun j hj => ⟨by rw [(k7 j hj).1]; exact (k6.1 j hj).1, (k6.1 j hj).2⟩, fun j hj => ⟨by rw [(k7 j hj).2]; exact (k6.2 j hj).1, (k6.2 j hj).2⟩⟩
        exact ih (i + 1) M5 (by omega) k9 ⟨g', f', e1.kept (by rw [k8 _ (by decide), k5 _ (by decide)]) (by rw [k8 _ (by decide), k5 _ (by decide)]), e2, e3⟩ (hB4.trans (BF.tab hB4.2 k8 (by decide) (by decide) k9))
  rcases hsg with ⟨h1, h2⟩ | ⟨h1, h2, h3⟩
  · refine r_iload_n d_Tb_powerOf_0 rfl ?_
    refine r_if_ge d_Tb_powerOf_1 (fun hc => ?_) (fun hc => ?_)
    · refine r_aload_n d_Tb_powerOf_17 rfl ?_
      refine g_getr (b := 401) d_Tb_powerOf_18 f_Tb_18 rfl rfl rfl ?_
      refine r_aload_n d_Tb_powerOf_21 rfl ?_
      refine g_Vv (av := [.ref t]) d_Tb_powerOf_22 k_Tb_86 ws_Ta_copyFrom (by decide) rfl rfl (Nat.le_of_ble_eq_true rfl) rfl (c_Ta_copyFrom isTb_401 ht (by omega)) ?_
      rintro M1 ⟨k1, k2⟩
      have k3 : TbA M1 401 g f := ⟨fun j hj => ⟨by rw [(k1 j hj).1]; exact (hT.1 j hj).1, (hT.1 j hj).2⟩, fun j hj => ⟨by rw [(k1 j hj).2]; exact (hT.2 j hj).1, (hT.2 j hj).2⟩⟩
      refine tail g f M1 (BF.tab hB k2 (by decide) (by decide) k3) ⟨g, f, k3, fun _ _ => rfl, fun _ _ => rfl⟩ (fun M' q1 q2 => ⟨fun _ => q1, fun q => ?_, q2⟩)
      rcases hk with q5 | q5
      · exfalso
        obtain ⟨q6, q7⟩ := q
        rw [h1] at q6
        rcases (show m = 1 ∨ m = 2 ∨ m = 3 ∨ m = 4 ∨ m = 5 ∨ m = 6 ∨ m = 7 ∨ m = 8 ∨ m = 9 by omega) with rfl | rfl | rfl | rfl | rfl | rfl | rfl | rfl | rfl <;> exact absurd q6 (by decide)
      · exfalso
        obtain ⟨q6, q7⟩ := q
        rw [h1] at q6
        rcases (show m = 1 ∨ m = 2 ∨ m = 3 ∨ m = 4 ∨ m = 5 ∨ m = 6 ∨ m = 7 ∨ m = 8 ∨ m = 9 by omega) with rfl | rfl | rfl | rfl | rfl | rfl | rfl | rfl | rfl <;> exact absurd q6 (by decide)
    · exact absurd h2 hc
  · refine r_iload_n d_Tb_powerOf_0 rfl ?_
    refine r_if_ge d_Tb_powerOf_1 (fun hc => ?_) (fun hc => ?_)
    · exact absurd hc h2
    · refine r_aload_n d_Tb_powerOf_4 rfl ?_
      refine r_aload_n d_Tb_powerOf_5 rfl ?_
      refine r_iload_n d_Tb_powerOf_6 rfl ?_
      refine r_aload_n d_Tb_powerOf_7 rfl ?_
      refine g_getr (b := 401) d_Tb_powerOf_8 f_Tb_18 rfl rfl rfl ?_
      refine g_Vv (av := [.ref t, .int (nI s), .ref 401]) d_Tb_powerOf_11 k_Tb_82 ws_Tb_invert (by decide) rfl rfl (Nat.le_of_ble_eq_true rfl) rfl (c_Tb_invert ht hs0 hs hd hT (hB.at 403 (by decide) (by decide) rfl) (hB.at 434 (by decide) (by decide) rfl)) ?_
      rintro M1 ⟨k1, k2, k3, k4, k5, k6, k7⟩
      refine r_goto d_Tb_powerOf_14 ?_
      have hB1 : BF M M1 := ⟨fun b hb => k7 b (by omega) (by omega) (by omega) (by omega) (by omega), fun b b1 b2 b3 => by
        by_cases e1 : b = 402
        · rw [e1]; exact k2
        by_cases e2 : b = 403
        · rw [e2]; exact k3
        by_cases e3 : b = 409
        · rw [e3]; exact k4
        by_cases e4 : b = 434
        · rw [e4]; exact k5
        by_cases e5 : b = 435
        · rw [e5]; exact k6
        exact (hB.at b b1 b2 b3).kept (k7 b e1 e2 e3 e4 e5), hB.2.kept (k7 36 (by decide) (by decide) (by decide) (by decide) (by decide))⟩
      obtain ⟨g', hg'⟩ := k2
      obtain ⟨f', hf'⟩ := k3
      refine tail (invG s g f) (rvs f s) M1 hB1 ⟨g', f', ⟨hg', hf'⟩, fun j hj => ?_, fun j hj => ?_⟩ (fun M' q1 q2 => ⟨fun q => absurd q h3, fun _ => q1, q2⟩)
      · have h8 := hg' j (by omega)
        rw [(k1 j hj).1] at h8
        exact ((nI_eq (by have := dv_lt oneS (hn g (rvs f s) s s) j; unfold invG; omega) (by omega)).mp h8.1).symm
      · have h8 := hf' j (by omega)
        rw [(k1 j hj).2] at h8
        exact ((nI_eq (by have := rvs_lt f s j; omega) (by omega)).mp h8.1).symm
end C38
