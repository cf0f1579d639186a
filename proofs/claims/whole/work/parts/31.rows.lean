/-- the memory with one row of ten become another one -/
def RW (M : Mem) (a : Nat) (w : Nat → Nat) (M' : Mem) : Prop := ∃ f, M' = wr M a f ∧ ∀ j, j < 10 → f j = nI (w j)
theorem upm_w (M : Mem) (a k : Nat) (f : Nat → Int32) (v : Int32) : upm (wr M a f) a k v = wr M a (fun j => if j = k then v else f j) := by rw [upm_wr, wr_wr, wr_eq]
theorem wr_self (M : Mem) (a : Nat) : wr M a (M a) = M := by funext b; by_cases e : b = a <;> simp [wr, e]
theorem RW.ne {M M' : Mem} {a b : Nat} {w : Nat → Nat} (h : RW M a w M') (hb : b ≠ a) : M' b = M b := by
  obtain ⟨f, rfl, -⟩ := h
  exact wr_ne _ _ hb
theorem RW.at {M M' : Mem} {a j : Nat} {w : Nat → Nat} (h : RW M a w M') (hj : j < 10) : M' a j = nI (w j) := by
  obtain ⟨f, rfl, hf⟩ := h
  rw [wr_eq]; exact hf j hj
theorem RW.ok {M M' : Mem} {a : Nat} {w : Nat → Nat} (h : RW M a w M') (hw : ∀ j, j < 10 → w j < 1000003) : OKr M' a w := fun j hj => ⟨h.at hj, hw j hj⟩
theorem RW.okn {M M' : Mem} {a b : Nat} {w x : Nat → Nat} (h : RW M a w M') (hb : b ≠ a) (hx : OKr M b x) : OKr M' b x := fun j hj => by rw [h.ne hb]; exact hx j hj
theorem RW.trans {M M' M2 : Mem} {a : Nat} {w w2 : Nat → Nat} (h : RW M a w M') (h2 : RW M' a w2 M2) : RW M a w2 M2 := by
  obtain ⟨f, rfl, -⟩ := h
  obtain ⟨g, rfl, hg⟩ := h2
  exact ⟨g, wr_wr _ _ _ _, hg⟩
theorem RW.upd {M M' : Mem} {a k v : Nat} {w : Nat → Nat} (h : RW M a w M') : RW M a (fun j => if j = k then v else w j) (upm M' a k (nI v)) := by
  obtain ⟨f, rfl, hf⟩ := h
  refine ⟨_, upm_w _ _ _ _ _, fun j hj => ?_⟩
  by_cases e : j = k
  · simp [e]
  · simp [e, hf j hj]
theorem RW.to {M M' : Mem} {a : Nat} {w w' : Nat → Nat} (h : RW M a w M') (e : ∀ j, j < 10 → w j = w' j) : RW M a w' M' := by
  obtain ⟨f, hf, hw⟩ := h
  exact ⟨f, hf, fun j hj => by rw [hw j hj, e j hj]⟩
theorem RW.rf {M : Mem} {a : Nat} {x : Nat → Nat} (h : OKr M a x) : RW M a x M := ⟨M a, (wr_self M a).symm, fun j hj => (h j hj).1⟩
/-- sums of products, the first k of them -/
def cs (x y : Nat → Nat) (i : Nat) : Nat → Nat
  | 0 => 0
  | k + 1 => cs x y i k + x k * y (i - k)
def cf (x y : Nat → Nat) (i : Nat) : Nat := cs x y i (i + 1) % 1000003
theorem cf_lt (x y : Nat → Nat) (i : Nat) : cf x y i < 1000003 := Nat.mod_lt _ (by decide)
theorem cs_lt {x y : Nat → Nat} {i k : Nat} (hx : ∀ j, j < k → x j < 1000003) (hy : ∀ j, j ≤ i → y j < 1000003) : cs x y i k ≤ k * 1000006000009 := by
  induction k with
  | zero => simp [cs]
  | succ k ih =>
    have h1 := ih (fun j hj => hx j (by omega))
    have h2 := pp_lt (hx k (by omega)) (hy (i - k) (by omega))
    simp only [cs]
    omega
theorem cs_congr {x x' y y' : Nat → Nat} {i k : Nat} (hx : ∀ j, j < k → x j = x' j) (hy : ∀ j, j ≤ i → y j = y' j) : cs x y i k = cs x' y' i k := by
  induction k with
  | zero => rfl
  | succ k ih =>
    simp only [cs]
    rw [ih (fun j hj => hx j (by omega)), hx k (by omega), hy (i - k) (by omega)]
def dv (x y : Nat → Nat) (i : Nat) : Nat := sb (x i) (cs (fun t => if _h : t < i then dv x y t else 0) y i i % 1000003) * nv (y 0) % 1000003
termination_by i
theorem dv_eq (x y : Nat → Nat) (i : Nat) : dv x y i = sb (x i) (cs (dv x y) y i i % 1000003) * nv (y 0) % 1000003 := by
  rw [dv]
  rw [cs_congr (x' := dv x y) (y' := y) (fun j hj => by rw [dif_pos hj]) (fun _ _ => rfl)]
theorem dv_lt (x y : Nat → Nat) (i : Nat) : dv x y i < 1000003 := by rw [dv_eq]; exact Nat.mod_lt _ (by decide)
theorem sb_lt (x y : Nat) : sb x y < 1000003 := Nat.mod_lt _ (by decide)
/-- outer(inner), d steps of it -/
def hn (x y : Nat → Nat) (s : Nat) : Nat → Nat → Nat
  | 0, _ => 0
  | d + 1, j => if j = 0 then x (s - 1 - d) else if j < d + 1 then cf (hn x y s d) y j else hn x y s d j
section C31
variable {o : OM} {l : Launch} {n : Nat} {M : Mem}
theorem c_Rw_becomeNumber {a v : Nat} (ha : gT a = (1, 10)) : CV o l m_Rw_becomeNumber n [.ref a, .int (nI v)] M (fun M' => RW M a (fun j => if j = 0 then v else 0) M') := by
  refine cvo_of rfl rfl rfl (Nat.le_of_ble_eq_true rfl) ?_
  refine r_aload_n d_Rw_becomeNumber_0 rfl ?_
  refine r_iconst (v := nI 0) d_Rw_becomeNumber_1 (by decide) ?_
  refine g_Sv (av := [.ref a, .int (nI 0)]) d_Rw_becomeNumber_2 k_Rw_15 ws_Ar_fill (by decide) rfl rfl (Nat.le_of_ble_eq_true rfl) (c_Ar_fill (nI 0) ha (by omega)) ?_
  rintro M1 rfl
  refine r_aload_n d_Rw_becomeNumber_5 rfl ?_
  refine r_iconst (v := nI 0) d_Rw_becomeNumber_6 (by decide) ?_
  refine r_iload_n d_Rw_becomeNumber_7 rfl ?_
  refine g_iast d_Rw_becomeNumber_8 ha (by omega) (by omega) ?_
  refine g_retv d_Rw_becomeNumber_9 rfl ?_
  have h : RW M a (fun _ => 0) (wr M a (fl 10 (fun _ => nI 0) (M a))) := ⟨_, rfl, fun j hj => by simp [fl, hj]⟩
  exact h.upd
theorem c_Rw_add {a b s : Nat} {x y : Nat → Nat} (ha : gT a = (1, 10)) (hb : gT b = (1, 10)) (hne : b ≠ a) (hs : s ≤ 10) (hx : OKr M a x) (hy : OKr M b y) : CV o l m_Rw_add n [.ref a, .ref b, .int (nI s)] M (fun M' => RW M a (fun j => if j < s then (x j + y j) % 1000003 else x j) M') := by
  refine cvo_of rfl rfl rfl (Nat.le_of_ble_eq_true rfl) ?_
  refine r_iconst (v := nI 0) d_Rw_add_0 (by decide) ?_
  refine r_istore_n (L' := [some (.ref a), some (.ref b), some (.int (nI s)), some (.int (nI 0))]) d_Rw_add_1 (by decide) rfl ?_
  suffices H : ∀ d k M1, k + d = s → RW M a (fun j => if j < k then (x j + y j) % 1000003 else x j) M1 → Rn o l m_Rw_add (0, 0) 2 [some (.ref a), some (.ref b), some (.int (nI s)), some (.int (nI k))] [] (gh n M1) (QV n fun M' => RW M a (fun j => if j < s then (x j + y j) % 1000003 else x j) M') from H s 0 M (by omega) ((RW.rf hx).to (fun j hj => by simp))
  intro d
  induction d with
  | zero =>
    intro k M1 hk h1
    obtain rfl : k = s := by omega
    refine r_iload_n d_Rw_add_2 rfl ?_
    refine r_iload_n d_Rw_add_3 rfl ?_
    refine n_icmp_ge d_Rw_add_4 (by omega) (by omega) (fun hc => ?_) (fun hc => ?_)
    · refine g_retv d_Rw_add_26 rfl ?_
      exact h1
    · omega
  | succ d ih =>
    intro k M1 hk h1
    refine r_iload_n d_Rw_add_2 rfl ?_
    refine r_iload_n d_Rw_add_3 rfl ?_
    refine n_icmp_ge d_Rw_add_4 (by omega) (by omega) (fun hc => ?_) (fun hc => ?_)
    · omega
    · refine r_aload_n d_Rw_add_7 rfl ?_
      refine r_iload_n d_Rw_add_8 rfl ?_
      refine r_aload_n d_Rw_add_9 rfl ?_
      refine r_iload_n d_Rw_add_10 rfl ?_
      refine g_iald d_Rw_add_11 ha (by omega) (by omega) ?_
      refine r_top (y := nI (x k)) ((h1.at (by omega)).trans (by simp)) ?_
      refine r_aload_n d_Rw_add_12 rfl ?_
      refine r_iload_n d_Rw_add_13 rfl ?_
      refine g_iald d_Rw_add_14 hb (by omega) (by omega) ?_
      refine r_top (y := nI (y k)) (by rw [h1.ne hne]; exact (hy k (by omega)).1) ?_
      refine n_iadd d_Rw_add_15 ?_
      refine r_ldc (v := nI 1000003) d_Rw_add_16 c_Rw_14 ?_
      refine n_irem d_Rw_add_18 (by have h8 := (hx k (by omega)).2; have h9 := (hy k (by omega)).2; omega) (by omega) (by omega) ?_
      refine g_iast d_Rw_add_19 ha (by omega) (by omega) ?_
      refine n_iinc (c := 1) (L' := [some (.ref a), some (.ref b), some (.int (nI s)), some (.int (nI (k + 1)))]) d_Rw_add_20 rfl rfl (by decide) rfl ?_
      refine r_goto d_Rw_add_23 ?_
      refine ih (k + 1) _ (by omega) (h1.upd.to (fun j hj => ?_))
      by_cases e : j = k
      · subst e; simp
      · rw [if_neg e]
        by_cases h9 : j < k
        · rw [if_pos h9, if_pos (by omega)]
        · rw [if_neg h9, if_neg (by omega)]
theorem c_Rw_subtract {a b s : Nat} {x y : Nat → Nat} (ha : gT a = (1, 10)) (hb : gT b = (1, 10)) (hne : b ≠ a) (hs : s ≤ 10) (hx : OKr M a x) (hy : OKr M b y) : CV o l m_Rw_subtract n [.ref a, .ref b, .int (nI s)] M (fun M' => RW M a (fun j => if j < s then sb (x j) (y j) else x j) M') := by
  refine cvo_of rfl rfl rfl (Nat.le_of_ble_eq_true rfl) ?_
  refine r_iconst (v := nI 0) d_Rw_subtract_0 (by decide) ?_
  refine r_istore_n (L' := [some (.ref a), some (.ref b), some (.int (nI s)), some (.int (nI 0))]) d_Rw_subtract_1 (by decide) rfl ?_
  suffices H : ∀ d k M1, k + d = s → RW M a (fun j => if j < k then sb (x j) (y j) else x j) M1 → Rn o l m_Rw_subtract (0, 0) 2 [some (.ref a), some (.ref b), some (.int (nI s)), some (.int (nI k))] [] (gh n M1) (QV n fun M' => RW M a (fun j => if j < s then sb (x j) (y j) else x j) M') from H s 0 M (by omega) ((RW.rf hx).to (fun j hj => by simp))
  intro d
  induction d with
  | zero =>
    intro k M1 hk h1
    obtain rfl : k = s := by omega
    refine r_iload_n d_Rw_subtract_2 rfl ?_
    refine r_iload_n d_Rw_subtract_3 rfl ?_
    refine n_icmp_ge d_Rw_subtract_4 (by omega) (by omega) (fun hc => ?_) (fun hc => ?_)
    · refine g_retv d_Rw_subtract_25 rfl ?_
      exact h1
    · omega
  | succ d ih =>
    intro k M1 hk h1
    refine r_iload_n d_Rw_subtract_2 rfl ?_
    refine r_iload_n d_Rw_subtract_3 rfl ?_
    refine n_icmp_ge d_Rw_subtract_4 (by omega) (by omega) (fun hc => ?_) (fun hc => ?_)
    · omega
    · refine r_aload_n d_Rw_subtract_7 rfl ?_
      refine r_iload_n d_Rw_subtract_8 rfl ?_
      refine r_aload_n d_Rw_subtract_9 rfl ?_
      refine r_iload_n d_Rw_subtract_10 rfl ?_
      refine g_iald d_Rw_subtract_11 ha (by omega) (by omega) ?_
      refine r_top (y := nI (x k)) ((h1.at (by omega)).trans (by simp)) ?_
      refine r_aload_n d_Rw_subtract_12 rfl ?_
      refine r_iload_n d_Rw_subtract_13 rfl ?_
      refine g_iald d_Rw_subtract_14 hb (by omega) (by omega) ?_
      refine r_top (y := nI (y k)) (by rw [h1.ne hne]; exact (hy k (by omega)).1) ?_
      refine g_Si (av := [.int (nI (x k)), .int (nI (y k))]) d_Rw_subtract_15 k_Rw_21 ws_Rw_difference (by decide) rfl rfl (Nat.le_of_ble_eq_true rfl) (c_Rw_difference (hx k (by omega)).2 (hy k (by omega)).2) ?_
      rintro r M2 ⟨rfl, rfl⟩
      refine g_iast d_Rw_subtract_18 ha (by omega) (by omega) ?_
      refine n_iinc (c := 1) (L' := [some (.ref a), some (.ref b), some (.int (nI s)), some (.int (nI (k + 1)))]) d_Rw_subtract_19 rfl rfl (by decide) rfl ?_
      refine r_goto d_Rw_subtract_22 ?_
      refine ih (k + 1) _ (by omega) (h1.upd.to (fun j hj => ?_))
      by_cases e : j = k
      · subst e; simp
      · rw [if_neg e]
        by_cases h9 : j < k
        · rw [if_pos h9, if_pos (by omega)]
        · rw [if_neg h9, if_neg (by omega)]
theorem c_Rw_coefficient {a b i : Nat} {x y : Nat → Nat} (ha : gT a = (1, 10)) (hb : gT b = (1, 10)) (hi : i < 10) (hx : ∀ j, j ≤ i → M a j = nI (x j) ∧ x j < 1000003) (hy : ∀ j, j ≤ i → M b j = nI (y j) ∧ y j < 1000003) : CI o l m_Rw_coefficient n [.ref a, .ref b, .int (nI i)] M (fun r M' => r = nI (cf x y i) ∧ M = M') := by
  refine ci_of rfl rfl rfl (Nat.le_of_ble_eq_true rfl) ?_
  refine r_lconst (v := lN 0) d_Rw_coefficient_0 (by decide) ?_
  refine r_lstore_n (L' := [some (.ref a), some (.ref b), some (.int (nI i)), some (.long (lN 0)), none, none]) d_Rw_coefficient_1 (by decide) rfl ?_
  refine r_iconst (v := nI 0) d_Rw_coefficient_2 (by decide) ?_
  refine r_istore (L' := [some (.ref a), some (.ref b), some (.int (nI i)), some (.long (lN 0)), none, some (.int (nI 0))]) d_Rw_coefficient_3 (by decide) rfl ?_
  suffices H : ∀ d k, k + d = i + 1 → Rn o l m_Rw_coefficient (0, 0) 5 [some (.ref a), some (.ref b), some (.int (nI i)), some (.long (lN (cs x y i k))), none, some (.int (nI k))] [] (gh n M) (QI n fun r M' => r = nI (cf x y i) ∧ M = M') from H (i + 1) 0 (by omega)
  intro d
  induction d with
  | zero =>
    intro k hk
    obtain rfl : k = i + 1 := by omega
    refine r_iload d_Rw_coefficient_5 rfl ?_
    refine r_iload_n d_Rw_coefficient_7 rfl ?_
    refine n_icmp_gt d_Rw_coefficient_8 (by omega) (by omega) (fun hc => ?_) (fun hc => ?_)
    · refine r_lload_n d_Rw_coefficient_33 rfl ?_
      refine r_ldc2 (v := lN 1000003) d_Rw_coefficient_34 c_Rw_12 ?_
      refine n_lrem d_Rw_coefficient_37 (by have h9 := cs_lt (x := x) (y := y) (i := i) (k := i + 1) (fun j hj => (hx j (by omega)).2) (fun j hj => (hy j (by omega)).2); have h8 : (i + 1) * 1000006000009 ≤ 10 * 1000006000009 := Nat.mul_le_mul_right _ (by omega); omega) (by omega) (by omega) ?_
      refine n_l2i d_Rw_coefficient_38 ?_
      refine g_reti d_Rw_coefficient_39 rfl ?_
      exact ⟨rfl, rfl⟩
    · omega
  | succ d ih =>
    intro k hk
    refine r_iload d_Rw_coefficient_5 rfl ?_
    refine r_iload_n d_Rw_coefficient_7 rfl ?_
    refine n_icmp_gt d_Rw_coefficient_8 (by omega) (by omega) (fun hc => ?_) (fun hc => ?_)
    · omega
    · refine r_lload_n d_Rw_coefficient_11 rfl ?_
      refine r_aload_n d_Rw_coefficient_12 rfl ?_
      refine r_iload d_Rw_coefficient_13 rfl ?_
      refine g_iald d_Rw_coefficient_15 ha (by omega) (by omega) ?_
      refine r_top (y := nI (x k)) ((hx k (by omega)).1) ?_
      refine n_i2l d_Rw_coefficient_16 (by have h9 := (hx k (by omega)).2; omega) ?_
      refine r_aload_n d_Rw_coefficient_17 rfl ?_
      refine r_iload_n d_Rw_coefficient_18 rfl ?_
      refine r_iload d_Rw_coefficient_19 rfl ?_
      refine n_isub d_Rw_coefficient_21 (by omega) ?_
      refine g_iald d_Rw_coefficient_22 hb (by omega) (by omega) ?_
      refine r_top (y := nI (y (i - k))) ((hy (i - k) (by omega)).1) ?_
      refine n_i2l d_Rw_coefficient_23 (by have h9 := (hy (i - k) (by omega)).2; omega) ?_
      refine n_lmul d_Rw_coefficient_24 ?_
      refine n_ladd d_Rw_coefficient_25 ?_
      refine r_lstore_n (L' := [some (.ref a), some (.ref b), some (.int (nI i)), some (.long (lN ((cs x y i k) + ((x k) * (y (i - k)))))), none, some (.int (nI k))]) d_Rw_coefficient_26 (by decide) rfl ?_
      refine n_iinc (c := 1) (L' := [some (.ref a), some (.ref b), some (.int (nI i)), some (.long (lN ((cs x y i k) + ((x k) * (y (i - k)))))), none, some (.int (nI (k + 1)))]) d_Rw_coefficient_27 rfl rfl (by decide) rfl ?_
      refine r_goto d_Rw_coefficient_30 ?_
      exact ih (k + 1) (by omega)
theorem c_Rw_multiply {a b s : Nat} {x y : Nat → Nat} (ha : gT a = (1, 10)) (hb : gT b = (1, 10)) (hne : b ≠ a) (hs0 : 1 ≤ s) (hs : s ≤ 10) (hx : OKr M a x) (hy : OKr M b y) : CV o l m_Rw_multiply n [.ref a, .ref b, .int (nI s)] M (fun M' => RW M a (fun j => if j < s then cf x y j else x j) M') := by
  refine cvo_of rfl rfl rfl (Nat.le_of_ble_eq_true rfl) ?_
  refine r_iload_n d_Rw_multiply_0 rfl ?_
  refine r_iconst (v := nI 1) d_Rw_multiply_1 (by decide) ?_
  refine n_isub d_Rw_multiply_2 (by omega) ?_
  refine r_istore_n (L' := [some (.ref a), some (.ref b), some (.int (nI s)), some (.int (nI (s - 1)))]) d_Rw_multiply_3 (by decide) rfl ?_
  suffices H : ∀ k M1, k ≤ s → RW M a (fun j => if k ≤ j ∧ j < s then cf x y j else x j) M1 → Rn o l m_Rw_multiply (0, 0) 4 [some (.ref a), some (.ref b), some (.int (nI s)), some (.int (nI k - 1))] [] (gh n M1) (QV n fun M' => RW M a (fun j => if j < s then cf x y j else x j) M') by
    have := H s M (Nat.le_refl _) ((RW.rf hx).to (fun j hj => by rw [if_neg (by omega)]))
    rw [show nI s - 1 = nI (s - 1) from pk_sub (a := s) (b := 1) hs0] at this
    exact this
  intro k
  induction k with
  | zero =>
    intro M1 hk h1
    refine r_iload_n d_Rw_multiply_4 rfl ?_
    refine r_if_lt d_Rw_multiply_5 (fun hc => ?_) (fun hc => ?_)
    · refine g_retv d_Rw_multiply_23 rfl ?_
      exact h1.to (fun j hj => by simp)
    · exact absurd (by decide) hc
  | succ k ih =>
    intro M1 hk h1
    rw [nI_pred]
    refine r_iload_n d_Rw_multiply_4 rfl ?_
    refine n_if_lt d_Rw_multiply_5 (by omega) ?_
    refine r_aload_n d_Rw_multiply_8 rfl ?_
    refine r_iload_n d_Rw_multiply_9 rfl ?_
    refine r_aload_n d_Rw_multiply_10 rfl ?_
    refine r_aload_n d_Rw_multiply_11 rfl ?_
    refine r_iload_n d_Rw_multiply_12 rfl ?_
    refine g_Si (av := [.ref a, .ref b, .int (nI k)]) d_Rw_multiply_13 k_Rw_25 ws_Rw_coefficient (by decide) rfl rfl (Nat.le_of_ble_eq_true rfl) (c_Rw_coefficient (x := x) (y := y) ha hb (by omega) (fun j hj => ⟨(h1.at (by omega)).trans (by rw [if_neg (by omega)]), (hx j (by omega)).2⟩) (fun j hj => by rw [h1.ne hne]; exact hy j (by omega))) ?_
    rintro r M2 ⟨rfl, rfl⟩
    refine g_iast d_Rw_multiply_16 ha (by omega) (by omega) ?_
    refine n_iincd (L' := [some (.ref a), some (.ref b), some (.int (nI s)), some (.int (nI k - 1))]) d_Rw_multiply_17 rfl (by decide) rfl ?_
    refine r_goto d_Rw_multiply_20 ?_
    refine ih _ (by omega) (h1.upd.to (fun j hj => ?_))
    by_cases e : j = k
    · subst e; rw [if_pos rfl, if_pos (by omega)]
    · rw [if_neg e]
      by_cases h9 : k + 1 ≤ j ∧ j < s
      · rw [if_pos h9, if_pos (by omega)]
      · rw [if_neg h9, if_neg (by omega)]
end C31
