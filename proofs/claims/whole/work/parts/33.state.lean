/-- outside these the memory stays -/
def FB (M M' : Mem) (lo hi : Nat) : Prop := ∀ a, (a < lo ∨ hi ≤ a) → M' a = M a
theorem FB.rf {M : Mem} {lo hi : Nat} : FB M M lo hi := fun _ _ => rfl
theorem FB.trans {M M1 M2 : Mem} {lo hi : Nat} (h : FB M M1 lo hi) (h2 : FB M1 M2 lo hi) : FB M M2 lo hi := fun a ha => (h2 a ha).trans (h a ha)
theorem FB.mono {M M1 : Mem} {lo hi lo' hi' : Nat} (h : FB M M1 lo hi) (h1 : lo' ≤ lo) (h2 : hi ≤ hi') : FB M M1 lo' hi' := fun a ha => h a (by omega)
theorem FB.wr {M M1 : Mem} {lo hi a : Nat} {f : Nat → Int32} (h : FB M M1 lo hi) (h1 : lo ≤ a) (h2 : a < hi) : FB M (wr M1 a f) lo hi := fun b hb => by
  rw [wr_ne _ _ (by omega)]; exact h b hb
theorem FB.upm {M M1 : Mem} {lo hi a k : Nat} {v : Int32} (h : FB M M1 lo hi) (h1 : lo ≤ a) (h2 : a < hi) : FB M (upm M1 a k v) lo hi := by
  rw [upm_wr]; exact h.wr h1 h2
theorem RW.fb {M M' : Mem} {a : Nat} {w : Nat → Nat} (h : RW M a w M') : FB M M' a (a + 1) := fun b hb => h.ne (by omega)
theorem wr_cpy {M : Mem} {a b j : Nat} (hj : j < 10) : wr M b (va_cpy (M a) (M b) 0 0 10) b j = M a j := by
  rw [wr_eq, va_cpy, if_pos (by omega), Nat.zero_add, Nat.sub_zero]
def isTb (t : Nat) : Prop := gT t = (14, 0) ∧ gR t 0 = some (t + 1) ∧ gR t 1 = some (t + 2) ∧ gT (t + 1) = (1, 10) ∧ gT (t + 2) = (1, 10)
def isSt (b : Nat) : Prop := gT b = (13, 0) ∧ gR b 0 = some (b + 1) ∧ gR b 1 = some (b + 8) ∧ gR b 2 = some (b + 9) ∧ gT (b + 1) = (5, 6) ∧ gT (b + 8) = (7, 4) ∧ gT (b + 9) = (5, 10) ∧ (∀ j, j < 6 → gR (b + 1) j = some (b + 2 + j) ∧ gT (b + 2 + j) = (1, 10)) ∧ (∀ t, t < 4 → gR (b + 8) t = some (b + 20 + 3 * t) ∧ isTb (b + 20 + 3 * t)) ∧ ∀ i, i < 10 → gR (b + 9) i = some (b + 10 + i) ∧ gT (b + 10 + i) = (1, 10)
theorem isSt_2 : isSt 2 := by unfold isSt isTb; decide
theorem isSt_37 : isSt 37 := by unfold isSt isTb; decide
theorem isSt_ring : ∀ k, k < 8 → isSt (71 + 32 * k) := by
  intro k hk
  rcases (show k = 0 ∨ k = 1 ∨ k = 2 ∨ k = 3 ∨ k = 4 ∨ k = 5 ∨ k = 6 ∨ k = 7 by omega) with rfl | rfl | rfl | rfl | rfl | rfl | rfl | rfl <;> (unfold isSt isTb; decide)
theorem isSt_img : ∀ k, k < 2 → isSt (328 + 32 * k) := by
  intro k hk
  rcases (show k = 0 ∨ k = 1 by omega) with rfl | rfl <;> (unfold isSt isTb; decide)
def rIx (k : Nat) : Prop := (2 ≤ k ∧ k < 8) ∨ (10 ≤ k ∧ k < 20) ∨ (20 ≤ k ∧ k < 32 ∧ k % 3 ≠ 2)
/-- a State's rows and its size; C k: row k of the block -/
def StA (M : Mem) (b : Nat) (C : Nat → Nat → Nat) : Prop := M b 3 = nI (C 0 3) ∧ ∀ k, rIx k → ∀ j, j < 10 → M (b + k) j = nI (C k j)
theorem StA.kept {M M' : Mem} {b : Nat} {C : Nat → Nat → Nat} (h : StA M b C) (hk : ∀ a, b ≤ a → a < b + 32 → M' a = M a) : StA M' b C :=
  ⟨by rw [hk b (by omega) (by omega)]; exact h.1, fun k hr j hj => by rw [hk (b + k) (by omega) (by unfold rIx at hr; omega)]; exact h.2 k hr j hj⟩
def C0 (k j : Nat) : Nat := if 20 ≤ k ∧ ((k % 3 = 0 ∧ j = 0) ∨ (k % 3 = 1 ∧ j = 1)) then 1 else 0
section C33
variable {o : OM} {l : Launch} {n : Nat} {M : Mem}
theorem c_Rw_isOne {a s : Nat} {x : Nat → Nat} (ha : gT a = (1, 10)) (hs : s ≤ 10) (hx : OKr M a x) : CI o l m_Rw_isOne n [.ref a, .int (nI s)] M (fun r M' => BR r (x 0 = 1 ∧ ∀ j, 1 ≤ j → j < s → x j = 0) ∧ M = M') := by
  refine ci_of rfl rfl rfl (Nat.le_of_ble_eq_true rfl) ?_
  refine r_aload_n d_Rw_isOne_0 rfl ?_
  refine r_iconst (v := nI 0) d_Rw_isOne_1 (by decide) ?_
  refine g_iald d_Rw_isOne_2 ha (by omega) (by omega) ?_
  refine r_top (y := nI (x 0)) ((hx 0 (by omega)).1) ?_
  refine r_iconst (v := nI 1) d_Rw_isOne_3 (by decide) ?_
  refine n_icmp_ne d_Rw_isOne_4 (by have h9 := (hx 0 (by omega)).2; omega) (by omega) (fun hc => ?_) (fun hc => ?_)
  · refine r_iconst (v := nI 0) d_Rw_isOne_20 (by decide) ?_
    refine g_retz d_Rw_isOne_21 rfl (by decide) ?_
    exact ⟨Or.inr ⟨rfl, fun q => hc q.1⟩, rfl⟩
  · refine r_aload_n d_Rw_isOne_7 rfl ?_
    refine r_iconst (v := nI 1) d_Rw_isOne_8 (by decide) ?_
    refine r_iload_n d_Rw_isOne_9 rfl ?_
    refine g_Si (av := [.ref a, .int (nI 1), .int (nI s)]) d_Rw_isOne_10 k_Rw_40 ws_Rw_isZeroFrom (by decide) rfl rfl (Nat.le_of_ble_eq_true rfl) (c_Rw_isZeroFrom ha hs (by omega) hx) ?_
    rintro r M2 ⟨h9 | h9, rfl⟩
    · obtain ⟨rfl, h9⟩ := h9
      refine n_if_eq d_Rw_isOne_13 (by omega) (fun hd => ?_) (fun hd => ?_)
      · omega
      · refine r_iconst (v := nI 1) d_Rw_isOne_16 (by decide) ?_
        refine r_goto d_Rw_isOne_17 ?_
        refine g_retz d_Rw_isOne_21 rfl (by decide) ?_
        exact ⟨Or.inl ⟨rfl, hc, h9⟩, rfl⟩
    · obtain ⟨rfl, h9⟩ := h9
      refine n_if_eq d_Rw_isOne_13 (by omega) (fun hd => ?_) (fun hd => ?_)
      · refine r_iconst (v := nI 0) d_Rw_isOne_20 (by decide) ?_
        refine g_retz d_Rw_isOne_21 rfl (by decide) ?_
        exact ⟨Or.inr ⟨rfl, fun q => h9 q.2⟩, rfl⟩
      · omega
theorem c_Rw_isT {a s : Nat} {x : Nat → Nat} (ha : gT a = (1, 10)) (hs : s ≤ 10) (hx : OKr M a x) : CI o l m_Rw_isT n [.ref a, .int (nI s)] M (fun r M' => BR r (x 0 = 0 ∧ x 1 = 1 ∧ ∀ j, 2 ≤ j → j < s → x j = 0) ∧ M = M') := by
  refine ci_of rfl rfl rfl (Nat.le_of_ble_eq_true rfl) ?_
  refine r_aload_n d_Rw_isT_0 rfl ?_
  refine r_iconst (v := nI 0) d_Rw_isT_1 (by decide) ?_
  refine g_iald d_Rw_isT_2 ha (by omega) (by omega) ?_
  refine r_top (y := nI (x 0)) ((hx 0 (by omega)).1) ?_
  refine n_if_ne d_Rw_isT_3 (by have h9 := (hx 0 (by omega)).2; omega) (fun hb => ?_) (fun hb => ?_)
  · refine r_iconst (v := nI 0) d_Rw_isT_26 (by decide) ?_
    refine g_retz d_Rw_isT_27 rfl (by decide) ?_
    exact ⟨Or.inr ⟨rfl, fun q => hb q.1⟩, rfl⟩
  · refine r_aload_n d_Rw_isT_6 rfl ?_
    refine r_iconst (v := nI 1) d_Rw_isT_7 (by decide) ?_
    refine g_iald d_Rw_isT_8 ha (by omega) (by omega) ?_
    refine r_top (y := nI (x 1)) ((hx 1 (by omega)).1) ?_
    refine r_iconst (v := nI 1) d_Rw_isT_9 (by decide) ?_
    refine n_icmp_ne d_Rw_isT_10 (by have h9 := (hx 1 (by omega)).2; omega) (by omega) (fun hc => ?_) (fun hc => ?_)
    · refine r_iconst (v := nI 0) d_Rw_isT_26 (by decide) ?_
      refine g_retz d_Rw_isT_27 rfl (by decide) ?_
      exact ⟨Or.inr ⟨rfl, fun q => hc q.2.1⟩, rfl⟩
    · refine r_aload_n d_Rw_isT_13 rfl ?_
      refine r_iconst (v := nI 2) d_Rw_isT_14 (by decide) ?_
      refine r_iload_n d_Rw_isT_15 rfl ?_
      refine g_Si (av := [.ref a, .int (nI 2), .int (nI s)]) d_Rw_isT_16 k_Rw_40 ws_Rw_isZeroFrom (by decide) rfl rfl (Nat.le_of_ble_eq_true rfl) (c_Rw_isZeroFrom ha hs (by omega) hx) ?_
      rintro r M2 ⟨h9 | h9, rfl⟩
      · obtain ⟨rfl, h9⟩ := h9
        refine n_if_eq d_Rw_isT_19 (by omega) (fun hd => ?_) (fun hd => ?_)
        · omega
        · refine r_iconst (v := nI 1) d_Rw_isT_22 (by decide) ?_
          refine r_goto d_Rw_isT_23 ?_
          refine g_retz d_Rw_isT_27 rfl (by decide) ?_
          exact ⟨Or.inl ⟨rfl, hb, hc, h9⟩, rfl⟩
      · obtain ⟨rfl, h9⟩ := h9
        refine n_if_eq d_Rw_isT_19 (by omega) (fun hd => ?_) (fun hd => ?_)
        · refine r_iconst (v := nI 0) d_Rw_isT_26 (by decide) ?_
          refine g_retz d_Rw_isT_27 rfl (by decide) ?_
          exact ⟨Or.inr ⟨rfl, fun q => h9 q.2.2⟩, rfl⟩
        · omega
theorem c_Rw_canBeReversed {a : Nat} {x : Nat → Nat} (ha : gT a = (1, 10)) (hx : OKr M a x) : CI o l m_Rw_canBeReversed n [.ref a] M (fun r M' => BR r (x 0 = 0 ∧ x 1 ≠ 0) ∧ M = M') := by
  refine ci_of rfl rfl rfl (Nat.le_of_ble_eq_true rfl) ?_
  refine r_aload_n d_Rw_canBeReversed_0 rfl ?_
  refine r_iconst (v := nI 0) d_Rw_canBeReversed_1 (by decide) ?_
  refine g_iald d_Rw_canBeReversed_2 ha (by omega) (by omega) ?_
  refine r_top (y := nI (x 0)) ((hx 0 (by omega)).1) ?_
  refine n_if_ne d_Rw_canBeReversed_3 (by have h9 := (hx 0 (by omega)).2; omega) (fun hb => ?_) (fun hb => ?_)
  · refine r_iconst (v := nI 0) d_Rw_canBeReversed_16 (by decide) ?_
    refine g_retz d_Rw_canBeReversed_17 rfl (by decide) ?_
    exact ⟨Or.inr ⟨rfl, fun q => hb q.1⟩, rfl⟩
  · refine r_aload_n d_Rw_canBeReversed_6 rfl ?_
    refine r_iconst (v := nI 1) d_Rw_canBeReversed_7 (by decide) ?_
    refine g_iald d_Rw_canBeReversed_8 ha (by omega) (by omega) ?_
    refine r_top (y := nI (x 1)) ((hx 1 (by omega)).1) ?_
    refine n_if_eq d_Rw_canBeReversed_9 (by have h9 := (hx 1 (by omega)).2; omega) (fun hc => ?_) (fun hc => ?_)
    · refine r_iconst (v := nI 0) d_Rw_canBeReversed_16 (by decide) ?_
      refine g_retz d_Rw_canBeReversed_17 rfl (by decide) ?_
      exact ⟨Or.inr ⟨rfl, fun q => q.2 hc⟩, rfl⟩
    · refine r_iconst (v := nI 1) d_Rw_canBeReversed_12 (by decide) ?_
      refine r_goto d_Rw_canBeReversed_13 ?_
      refine g_retz d_Rw_canBeReversed_17 rfl (by decide) ?_
      exact ⟨Or.inl ⟨rfl, hb, hc⟩, rfl⟩
theorem c_Rw_makeTable {a b : Nat} {x y : Nat → Nat} (ha : gT a = (1, 10)) (hb : gT b = (1, 10)) (hx : OKr M a x) (hy : OKr M b y) : CI o l m_Rw_makeTable n [.ref a, .ref b] M (fun r M' => BR r (x 0 ≠ 0 ∧ y 0 = 0 ∧ y 1 ≠ 0) ∧ M = M') := by
  refine ci_of rfl rfl rfl (Nat.le_of_ble_eq_true rfl) ?_
  refine r_aload_n d_Rw_makeTable_0 rfl ?_
  refine r_iconst (v := nI 0) d_Rw_makeTable_1 (by decide) ?_
  refine g_iald d_Rw_makeTable_2 ha (by omega) (by omega) ?_
  refine r_top (y := nI (x 0)) ((hx 0 (by omega)).1) ?_
  refine n_if_eq d_Rw_makeTable_3 (by have h9 := (hx 0 (by omega)).2; omega) (fun hc => ?_) (fun hc => ?_)
  · refine r_iconst (v := nI 0) d_Rw_makeTable_17 (by decide) ?_
    refine g_retz d_Rw_makeTable_18 rfl (by decide) ?_
    exact ⟨Or.inr ⟨rfl, fun q => q.1 hc⟩, rfl⟩
  · refine r_aload_n d_Rw_makeTable_6 rfl ?_
    refine g_Si (av := [.ref b]) d_Rw_makeTable_7 k_Rw_44 ws_Rw_canBeReversed (by decide) rfl rfl (Nat.le_of_ble_eq_true rfl) (c_Rw_canBeReversed hb hy) ?_
    rintro r M2 ⟨h9 | h9, rfl⟩
    · obtain ⟨rfl, h9⟩ := h9
      refine n_if_eq d_Rw_makeTable_10 (by omega) (fun hd => ?_) (fun hd => ?_)
      · omega
      · refine r_iconst (v := nI 1) d_Rw_makeTable_13 (by decide) ?_
        refine r_goto d_Rw_makeTable_14 ?_
        refine g_retz d_Rw_makeTable_18 rfl (by decide) ?_
        exact ⟨Or.inl ⟨rfl, hc, h9⟩, rfl⟩
    · obtain ⟨rfl, h9⟩ := h9
      refine n_if_eq d_Rw_makeTable_10 (by omega) (fun hd => ?_) (fun hd => ?_)
      · refine r_iconst (v := nI 0) d_Rw_makeTable_17 (by decide) ?_
        refine g_retz d_Rw_makeTable_18 rfl (by decide) ?_
        exact ⟨Or.inr ⟨rfl, fun q => h9 q.2⟩, rfl⟩
      · omega
theorem c_Ta_becomeOne {t : Nat} (ht : isTb t) : CV o l m_Ta_becomeOne n [.ref t] M (fun M' => (∀ j, j < 10 → M' (t + 1) j = nI (if j = 0 then 1 else 0) ∧ M' (t + 2) j = nI (if j = 1 then 1 else 0)) ∧ FB M M' (t + 1) (t + 3)) := by
  refine cvo_of rfl rfl rfl (Nat.le_of_ble_eq_true rfl) ?_
  refine r_aload_n d_Ta_becomeOne_0 rfl ?_
  refine g_getr (b := (t+1)) d_Ta_becomeOne_1 f_Ta_9 rfl (by rw [ht.1]) ht.2.1 ?_
  refine r_iconst (v := nI 1) d_Ta_becomeOne_4 (by decide) ?_
  refine g_Sv (av := [.ref (t+1), .int (nI 1)]) d_Ta_becomeOne_5 k_Ta_18 ws_Rw_becomeNumber (by decide) rfl rfl (Nat.le_of_ble_eq_true rfl) (c_Rw_becomeNumber ht.2.2.2.1) ?_
  rintro M1 h1
  refine r_aload_n d_Ta_becomeOne_8 rfl ?_
  refine g_getr (b := (t+2)) d_Ta_becomeOne_9 f_Ta_15 rfl (by rw [ht.1]) ht.2.2.1 ?_
  refine r_iconst (v := nI 0) d_Ta_becomeOne_12 (by decide) ?_
  refine g_Sv (av := [.ref (t+2), .int (nI 0)]) d_Ta_becomeOne_13 k_Ta_18 ws_Rw_becomeNumber (by decide) rfl rfl (Nat.le_of_ble_eq_true rfl) (c_Rw_becomeNumber ht.2.2.2.2) ?_
  rintro M2 h2
  refine r_aload_n d_Ta_becomeOne_16 rfl ?_
  refine g_getr (b := (t+2)) d_Ta_becomeOne_17 f_Ta_15 rfl (by rw [ht.1]) ht.2.2.1 ?_
  refine r_iconst (v := nI 1) d_Ta_becomeOne_20 (by decide) ?_
  refine r_iconst (v := nI 1) d_Ta_becomeOne_21 (by decide) ?_
  refine g_iast d_Ta_becomeOne_22 ht.2.2.2.2 (by omega) (by omega) ?_
  refine g_retv d_Ta_becomeOne_23 rfl ?_
  have h3 := h2.upd (k := 1) (v := 1)
  refine ⟨fun j hj => ⟨?_, (h3.at hj).trans ?_⟩, (FB.rf.trans ((h1.fb.mono (by omega) (by omega)))).trans (h3.fb.mono (by omega) (by omega))⟩
  · rw [h3.ne (by omega), h1.at hj]
  · by_cases e : j = 1
    · simp [e]
    · by_cases e0 : j = 0 <;> simp [e, e0]
theorem c_Ta_become {t g f : Nat} (ht : isTb t) (hg : gT g = (1, 10)) (hf : gT f = (1, 10)) (hne : f ≠ t + 1) : CV o l m_Ta_become n [.ref t, .ref g, .ref f] M (fun M' => (∀ j, j < 10 → M' (t + 1) j = M g j ∧ M' (t + 2) j = M f j) ∧ FB M M' (t + 1) (t + 3)) := by
  refine cvo_of rfl rfl rfl (Nat.le_of_ble_eq_true rfl) ?_
  refine r_aload_n d_Ta_become_0 rfl ?_
  refine r_iconst (v := nI 0) d_Ta_become_1 (by decide) ?_
  refine r_aload_n d_Ta_become_2 rfl ?_
  refine g_getr (b := (t+1)) d_Ta_become_3 f_Ta_9 rfl (by rw [ht.1]) ht.2.1 ?_
  refine r_iconst (v := nI 0) d_Ta_become_6 (by decide) ?_
  refine r_bipush (v := nI 10) d_Ta_become_7 (by decide) ?_
  refine g_copy d_Ta_become_9 k_Ta_24 (by decide) hg ht.2.2.2.1 (by omega) (by omega) (by omega) (Nat.le_of_ble_eq_true rfl) ?_
  generalize hM1 : wr M (t + 1) (va_cpy (M g) (M (t + 1)) 0 0 10) = M1
  refine r_aload_n d_Ta_become_12 rfl ?_
  refine r_iconst (v := nI 0) d_Ta_become_13 (by decide) ?_
  refine r_aload_n d_Ta_become_14 rfl ?_
  refine g_getr (b := (t+2)) d_Ta_become_15 f_Ta_15 rfl (by rw [ht.1]) ht.2.2.1 ?_
  refine r_iconst (v := nI 0) d_Ta_become_18 (by decide) ?_
  refine r_bipush (v := nI 10) d_Ta_become_19 (by decide) ?_
  refine g_copy d_Ta_become_21 k_Ta_24 (by decide) hf ht.2.2.2.2 (by omega) (by omega) (by omega) (Nat.le_of_ble_eq_true rfl) ?_
  refine g_retv d_Ta_become_24 rfl ?_
  subst hM1
  refine ⟨fun j hj => ⟨?_, ?_⟩, (FB.rf.wr (by omega) (by omega)).wr (by omega) (by omega)⟩
  · rw [wr_ne _ _ (by omega), wr_cpy hj]
  · rw [wr_cpy hj, wr_ne _ _ hne]
theorem c_Ta_copyFrom {t t2 : Nat} (ht : isTb t) (ht2 : isTb t2) (hne : t2 + 2 ≠ t + 1) : CV o l m_Ta_copyFrom n [.ref t, .ref t2] M (fun M' => (∀ j, j < 10 → M' (t + 1) j = M (t2 + 1) j ∧ M' (t + 2) j = M (t2 + 2) j) ∧ FB M M' (t + 1) (t + 3)) := by
  refine cvo_of rfl rfl rfl (Nat.le_of_ble_eq_true rfl) ?_
  refine r_aload_n d_Ta_copyFrom_0 rfl ?_
  refine r_aload_n d_Ta_copyFrom_1 rfl ?_
  refine g_getr (b := (t2+1)) d_Ta_copyFrom_2 f_Ta_9 rfl (by rw [ht2.1]) ht2.2.1 ?_
  refine r_aload_n d_Ta_copyFrom_5 rfl ?_
  refine g_getr (b := (t2+2)) d_Ta_copyFrom_6 f_Ta_15 rfl (by rw [ht2.1]) ht2.2.2.1 ?_
  refine g_Vv (av := [.ref (t2+1), .ref (t2+2)]) d_Ta_copyFrom_9 k_Ta_30 ws_Ta_become (by decide) rfl rfl (Nat.le_of_ble_eq_true rfl) (by rw [ht.1]) (c_Ta_become ht ht2.2.2.2.1 ht2.2.2.2.2 hne) ?_
  rintro M1 h1
  refine g_retv d_Ta_copyFrom_12 rfl ?_
  exact h1
theorem c_St_copyFrom {b b2 : Nat} {C : Nat → Nat → Nat} (hb : isSt b) (hb2 : isSt b2) (hd : b + 32 ≤ b2 ∨ b2 + 32 ≤ b) (hC : StA M b2 C) : CV o l m_St_copyFrom n [.ref b, .ref b2] M (fun M' => StA M' b C ∧ FB M M' b (b + 32)) := by
  refine cvo_of rfl rfl rfl (Nat.le_of_ble_eq_true rfl) ?_
  obtain ⟨t0, t1, t2, t3, t4, t5, t6, t7, t8, t9⟩ := id hb
  obtain ⟨u0, u1, u2, u3, u4, u5, u6, u7, u8, u9⟩ := id hb2
  refine r_aload_n d_St_copyFrom_0 rfl ?_
  refine r_aload_n d_St_copyFrom_1 rfl ?_
  refine g_geti d_St_copyFrom_2 f_St_26 rfl (by rw [u0]) ?_
  refine r_top (y := (nI (C 0 3))) (hC.1) ?_
  refine g_puti d_St_copyFrom_5 f_St_26 ⟨rfl, rfl, rfl⟩ (by rw [t0]) ?_
  refine r_iconst (v := nI 0) d_St_copyFrom_8 (by decide) ?_
  refine r_istore_n (L' := [some (.ref b), some (.ref b2), some (.int (nI 0))]) d_St_copyFrom_9 (by decide) rfl ?_
  suffices H : ∀ d k M1, k + d = 6 → M1 b 3 = nI (C 0 3) → (∀ q, rIx q → q < 2 + k → ∀ j, j < 10 → M1 (b + q) j = nI (C q j)) → FB M M1 b (b + 32) → Rn o l m_St_copyFrom (0, 0) 10 [some (.ref b), some (.ref b2), some (.int (nI k))] [] (gh n M1) (QV n fun M' => StA M' b C ∧ FB M M' b (b + 32)) from
    H 6 0 _ (by omega) (by simp [upm_eq]) (fun q hq h => by unfold rIx at hq; omega) (FB.rf.upm (by omega) (by omega))
  intro d
  induction d with
  | succ d ih =>
    intro k M1 hk h1 h2 h3
    refine r_iload_n d_St_copyFrom_10 rfl ?_
    refine r_bipush (v := nI 6) d_St_copyFrom_11 (by decide) ?_
    refine n_icmp_ge d_St_copyFrom_13 (by omega) (by omega) (fun hc => ?_) (fun hc => ?_)
    · omega
    · refine r_aload_n d_St_copyFrom_16 rfl ?_
      refine g_getr (b := (b2+1)) d_St_copyFrom_17 f_St_11 rfl (by rw [u0]) u1 ?_
      refine r_iload_n d_St_copyFrom_20 rfl ?_
      refine g_aald (b := (b2+2+k)) d_St_copyFrom_21 u4 (by decide) (by omega) (by omega) (u7 k (by omega)).1 ?_
      refine r_iconst (v := nI 0) d_St_copyFrom_22 (by decide) ?_
      refine r_aload_n d_St_copyFrom_23 rfl ?_
      refine g_getr (b := (b+1)) d_St_copyFrom_24 f_St_11 rfl (by rw [t0]) t1 ?_
      refine r_iload_n d_St_copyFrom_27 rfl ?_
      refine g_aald (b := (b+2+k)) d_St_copyFrom_28 t4 (by decide) (by omega) (by omega) (t7 k (by omega)).1 ?_
      refine r_iconst (v := nI 0) d_St_copyFrom_29 (by decide) ?_
      refine r_bipush (v := nI 10) d_St_copyFrom_30 (by decide) ?_
      refine g_copy d_St_copyFrom_32 k_St_39 (by decide) (u7 k (by omega)).2 (t7 k (by omega)).2 (by omega) (by omega) (by omega) (Nat.le_of_ble_eq_true rfl) ?_
      refine n_iinc (c := 1) (L' := [some (.ref b), some (.ref b2), some (.int (nI (k + 1)))]) d_St_copyFrom_35 rfl rfl (by decide) rfl ?_
      refine r_goto d_St_copyFrom_38 ?_
      refine ih (k + 1) _ (by omega) (by rw [wr_ne _ _ (by omega)]; exact h1) (fun q hq h j hj => ?_) (h3.wr (by omega) (by omega))
      by_cases e : q = 2 + k
      · subst e
        rw [← Nat.add_assoc, wr_cpy hj, h3 _ (by omega), Nat.add_assoc]
        exact hC.2 _ hq j hj
      · rw [wr_ne _ _ (by omega)]
        exact h2 q hq (by omega) j hj
  | zero =>
    intro k M1 hk h1 h2 h3
    obtain rfl : k = 6 := by omega
    refine r_iload_n d_St_copyFrom_10 rfl ?_
    refine r_bipush (v := nI 6) d_St_copyFrom_11 (by decide) ?_
    refine n_icmp_ge d_St_copyFrom_13 (by omega) (by omega) (fun hc => ?_) (fun hc => ?_)
    · refine r_iconst (v := nI 0) d_St_copyFrom_41 (by decide) ?_
      refine r_istore_n (L' := [some (.ref b), some (.ref b2), some (.int (nI 0))]) d_St_copyFrom_42 (by decide) rfl ?_
      suffices H : ∀ d k M1, k + d = 4 → M1 b 3 = nI (C 0 3) → (∀ q, rIx q → (q < 8 ∨ 20 ≤ q ∧ q < 20 + 3 * k) → ∀ j, j < 10 → M1 (b + q) j = nI (C q j)) → FB M M1 b (b + 32) → Rn o l m_St_copyFrom (0, 0) 43 [some (.ref b), some (.ref b2), some (.int (nI k))] [] (gh n M1) (QV n fun M' => StA M' b C ∧ FB M M' b (b + 32)) from
        H 4 0 _ (by omega) h1 (fun q hq h => h2 q hq (by omega)) h3
      clear h1 h2 h3 hc
      intro d
      induction d with
      | succ d ih =>
        intro k M1 hk h1 h2 h3
        obtain ⟨v1, v2⟩ := t8 k (by omega)
        obtain ⟨w1, w2⟩ := u8 k (by omega)
        refine r_iload_n d_St_copyFrom_43 rfl ?_
        refine r_iconst (v := nI 4) d_St_copyFrom_44 (by decide) ?_
        refine n_icmp_ge d_St_copyFrom_45 (by omega) (by omega) (fun hc => ?_) (fun hc => ?_)
        · omega
        · refine r_aload_n d_St_copyFrom_48 rfl ?_
          refine g_getr (b := (b+8)) d_St_copyFrom_49 f_St_18 rfl (by rw [t0]) t2 ?_
          refine r_iload_n d_St_copyFrom_52 rfl ?_
          refine g_aald (b := (b+20+3*k)) d_St_copyFrom_53 t5 (by decide) (by omega) (by omega) v1 ?_
          refine r_aload_n d_St_copyFrom_54 rfl ?_
          refine g_getr (b := (b2+8)) d_St_copyFrom_55 f_St_18 rfl (by rw [u0]) u2 ?_
          refine r_iload_n d_St_copyFrom_58 rfl ?_
          refine g_aald (b := (b2+20+3*k)) d_St_copyFrom_59 u5 (by decide) (by omega) (by omega) w1 ?_
          refine g_Vv (av := [.ref (b2+20+3*k)]) d_St_copyFrom_60 k_St_45 ws_Ta_copyFrom (by decide) rfl rfl (Nat.le_of_ble_eq_true rfl) (by rw [v2.1]) (c_Ta_copyFrom v2 w2 (by omega)) ?_
          rintro M2 ⟨h4, h5⟩
          refine n_iinc (c := 1) (L' := [some (.ref b), some (.ref b2), some (.int (nI (k + 1)))]) d_St_copyFrom_63 rfl rfl (by decide) rfl ?_
          refine r_goto d_St_copyFrom_66 ?_
          refine ih (k + 1) M2 (by omega) (by rw [h5 b (by omega)]; exact h1) (fun q hq h j hj => ?_) (h3.trans (h5.mono (by omega) (by omega)))
          by_cases e1 : q = 21 + 3 * k
          · subst e1
            rw [show b + (21 + 3 * k) = b + 20 + 3 * k + 1 by omega, (h4 j hj).1, h3 _ (by omega), show b2 + 20 + 3 * k + 1 = b2 + (21 + 3 * k) by omega]
            exact hC.2 _ hq j hj
          · by_cases e2 : q = 22 + 3 * k
            · subst e2
              rw [show b + (22 + 3 * k) = b + 20 + 3 * k + 2 by omega, (h4 j hj).2, h3 _ (by omega), show b2 + 20 + 3 * k + 2 = b2 + (22 + 3 * k) by omega]
              exact hC.2 _ hq j hj
            · have e3 : q < 8 ∨ 20 ≤ q ∧ q < 20 + 3 * k := by unfold rIx at hq; omega
              rw [h5 _ (by omega)]
              exact h2 q hq e3 j hj
      | zero =>
        intro k M1 hk h1 h2 h3
        obtain rfl : k = 4 := by omega
        refine r_iload_n d_St_copyFrom_43 rfl ?_
        refine r_iconst (v := nI 4) d_St_copyFrom_44 (by decide) ?_
        refine n_icmp_ge d_St_copyFrom_45 (by omega) (by omega) (fun hc => ?_) (fun hc => ?_)
        · refine r_iconst (v := nI 0) d_St_copyFrom_69 (by decide) ?_
          refine r_istore_n (L' := [some (.ref b), some (.ref b2), some (.int (nI 0))]) d_St_copyFrom_70 (by decide) rfl ?_
          suffices H : ∀ d k M1, k + d = 10 → M1 b 3 = nI (C 0 3) → (∀ q, rIx q → (q < 10 + k ∨ 20 ≤ q) → ∀ j, j < 10 → M1 (b + q) j = nI (C q j)) → FB M M1 b (b + 32) → Rn o l m_St_copyFrom (0, 0) 71 [some (.ref b), some (.ref b2), some (.int (nI k))] [] (gh n M1) (QV n fun M' => StA M' b C ∧ FB M M' b (b + 32)) from
            H 10 0 _ (by omega) h1 (fun q hq h => h2 q hq (by unfold rIx at hq; omega)) h3
          clear h1 h2 h3 hc
          intro d
          induction d with
          | succ d ih =>
            intro k M1 hk h1 h2 h3
            refine r_iload_n d_St_copyFrom_71 rfl ?_
            refine r_bipush (v := nI 10) d_St_copyFrom_72 (by decide) ?_
            refine n_icmp_ge d_St_copyFrom_74 (by omega) (by omega) (fun hc => ?_) (fun hc => ?_)
            · omega
            · refine r_aload_n d_St_copyFrom_77 rfl ?_
              refine g_getr (b := (b2+9)) d_St_copyFrom_78 f_St_22 rfl (by rw [u0]) u3 ?_
              refine r_iload_n d_St_copyFrom_81 rfl ?_
              refine g_aald (b := (b2+10+k)) d_St_copyFrom_82 u6 (by decide) (by omega) (by omega) (u9 k (by omega)).1 ?_
              refine r_iconst (v := nI 0) d_St_copyFrom_83 (by decide) ?_
              refine r_aload_n d_St_copyFrom_84 rfl ?_
              refine g_getr (b := (b+9)) d_St_copyFrom_85 f_St_22 rfl (by rw [t0]) t3 ?_
              refine r_iload_n d_St_copyFrom_88 rfl ?_
              refine g_aald (b := (b+10+k)) d_St_copyFrom_89 t6 (by decide) (by omega) (by omega) (t9 k (by omega)).1 ?_
              refine r_iconst (v := nI 0) d_St_copyFrom_90 (by decide) ?_
              refine r_bipush (v := nI 10) d_St_copyFrom_91 (by decide) ?_
              refine g_copy d_St_copyFrom_93 k_St_39 (by decide) (u9 k (by omega)).2 (t9 k (by omega)).2 (by omega) (by omega) (by omega) (Nat.le_of_ble_eq_true rfl) ?_
              refine n_iinc (c := 1) (L' := [some (.ref b), some (.ref b2), some (.int (nI (k + 1)))]) d_St_copyFrom_96 rfl rfl (by decide) rfl ?_
              refine r_goto d_St_copyFrom_99 ?_
              refine ih (k + 1) _ (by omega) (by rw [wr_ne _ _ (by omega)]; exact h1) (fun q hq h j hj => ?_) (h3.wr (by omega) (by omega))
              by_cases e : q = 10 + k
              · subst e
                rw [← Nat.add_assoc, wr_cpy hj, h3 _ (by omega), Nat.add_assoc]
                exact hC.2 _ hq j hj
              · rw [wr_ne _ _ (by omega)]
                exact h2 q hq (by omega) j hj
          | zero =>
            intro k M1 hk h1 h2 h3
            obtain rfl : k = 10 := by omega
            refine r_iload_n d_St_copyFrom_71 rfl ?_
            refine r_bipush (v := nI 10) d_St_copyFrom_72 (by decide) ?_
            refine n_icmp_ge d_St_copyFrom_74 (by omega) (by omega) (fun hc => ?_) (fun hc => ?_)
            · refine g_retv d_St_copyFrom_102 rfl ?_
              exact ⟨⟨h1, fun q hq => h2 q hq (by unfold rIx at hq; omega)⟩, h3⟩
            · omega
        · omega
    · omega
end C33
