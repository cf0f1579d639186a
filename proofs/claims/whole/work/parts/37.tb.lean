theorem hn_congr {x x' y y' : Nat → Nat} {s d : Nat} (hx : ∀ j, j < s → x j = x' j) (hy : ∀ j, j < s → y j = y' j) (hd : d ≤ s) : ∀ j, hn x y s d j = hn x' y' s d j := by
  induction d with
  | zero => intro j; rfl
  | succ d ih =>
    intro j
    simp only [hn]
    by_cases e : j = 0
    · rw [if_pos e, if_pos e, hx _ (by omega)]
    · rw [if_neg e, if_neg e]
      by_cases e2 : j < d + 1
      · rw [if_pos e2, if_pos e2]
        exact cf_congr (fun i _ => ih (by omega) i) (fun i hi => hy i (by omega))
      · rw [if_neg e2, if_neg e2]
        exact ih (by omega) j
theorem hn_beyond {x y : Nat → Nat} {s d j : Nat} (hd : d ≤ j) : hn x y s d j = 0 ∨ j = 0 := by
  induction d with
  | zero => exact Or.inl rfl
  | succ d ih =>
    by_cases e : j = 0
    · exact Or.inr e
    · simp only [hn]
      rw [if_neg e, if_neg (by omega)]
      exact ih (by omega)
theorem hn_zero {x y : Nat → Nat} {s j : Nat} (hs : 1 ≤ s) (hj : s ≤ j) : hn x y s s j = 0 := (hn_beyond hj).resolve_right (by omega)
theorem ml_congr {s : Nat} {z z' x x' : Nat → Nat} {j : Nat} (hz : ∀ i, i ≤ j → z i = z' i) (hx : ∀ i, i ≤ j → x i = x' i) : ml s z x j = ml s z' x' j := by
  unfold ml
  by_cases e : j < s
  · rw [if_pos e, if_pos e]; exact cf_congr hz hx
  · rw [if_neg e, if_neg e]; exact hz j (Nat.le_refl _)
def tS (j : Nat) : Nat := if j = 1 then 1 else 0
/-- column j of a table's entries -/
def col (s : Nat) (g f : Nat → Nat) : Nat → Nat → Nat
  | 0 => g
  | j + 1 => ml s (col s g f j) f
theorem col_lt {s : Nat} {g f : Nat → Nat} {i : Nat} (hg : g i < 1000003) (j : Nat) : col s g f j i < 1000003 := by
  induction j with
  | zero => exact hg
  | succ j ih => exact ml_lt ih
def mulG (s : Nat) (sg sf tg : Nat → Nat) : Nat → Nat := ml s (hn tg sf s s) sg
def mulF (s : Nat) (sf tf : Nat → Nat) : Nat → Nat := hn tf sf s s
def TbA (M : Mem) (t : Nat) (g f : Nat → Nat) : Prop := OKr M (t + 1) g ∧ OKr M (t + 2) f
theorem TbA.kept {M M' : Mem} {t : Nat} {g f : Nat → Nat} (h : TbA M t g f) (h1 : M' (t + 1) = M (t + 1)) (h2 : M' (t + 2) = M (t + 2)) : TbA M' t g f := ⟨h.1.kept h1, h.2.kept h2⟩
theorem OKr.to {M : Mem} {a : Nat} {x x' : Nat → Nat} (h : OKr M a x) (e : ∀ j, j < 10 → x j = x' j) : OKr M a x' := fun j hj => by rw [← e j hj]; exact h j hj
def isCo (c : Nat) : Prop := gT c = (5, 10) ∧ ∀ j, j < 10 → gR c j = some (c + 1 + j) ∧ gT (c + 1 + j) = (1, 10)
theorem isCo_410 : isCo 410 := by unfold isCo; decide
theorem isCo_421 : isCo 421 := by unfold isCo; decide
theorem isTb_398 : isTb 398 := by unfold isTb; decide
theorem isTb_401 : isTb 401 := by unfold isTb; decide
theorem isTb_404 : isTb 404 := by unfold isTb; decide
theorem ok_lt {M : Mem} {a : Nat} {x : Nat → Nat} (h : OKr M a x) : ∀ j, j < 10 → x j < 1000003 := fun j hj => (h j hj).2
section C37
variable {o : OM} {l : Launch} {n : Nat} {M : Mem}
theorem c_Tb_fillColumns {t c s : Nat} {g f : Nat → Nat} (ht : isTb t) (hc : isCo c) (hs0 : 2 ≤ s) (hs : s ≤ 10) (hd : t + 2 < c + 1 ∨ c + 10 < t + 1) (hT : TbA M t g f) : CV o l m_Tb_fillColumns n [.ref t, .int (nI s), .ref c] M (fun M' => (∀ j, j < s → OKr M' (c + 1 + j) (col s g f j)) ∧ FB M M' (c + 1) (c + 1 + s)) := by
  refine cvo_of rfl rfl rfl (Nat.le_of_ble_eq_true rfl) ?_
  obtain ⟨t0, t1, t2, t3, t4⟩ := id ht
  obtain ⟨hg, hf⟩ := hT
  refine r_aload_n d_Tb_fillColumns_0 rfl ?_
  refine g_getr (b := (t+1)) d_Tb_fillColumns_1 f_Tb_49 rfl (by rw [t0]) t1 ?_
  refine r_iconst (v := nI 0) d_Tb_fillColumns_4 (by decide) ?_
  refine r_aload_n d_Tb_fillColumns_5 rfl ?_
  refine r_iconst (v := nI 0) d_Tb_fillColumns_6 (by decide) ?_
  refine g_aald (b := (c+1+0)) (t := 5) (N := 10) d_Tb_fillColumns_7 hc.1 (by decide) (by omega) (by omega) ((hc.2 0 (by decide)).1) ?_
  refine r_iconst (v := nI 0) d_Tb_fillColumns_8 (by decide) ?_
  refine r_bipush (v := nI 10) d_Tb_fillColumns_9 (by decide) ?_
  refine g_copy d_Tb_fillColumns_11 k_Tb_52 (by decide) t3 ((hc.2 0 (by decide)).2) (by omega) (by omega) (by omega) (Nat.le_of_ble_eq_true rfl) ?_
  refine r_iconst (v := nI 1) d_Tb_fillColumns_14 (by decide) ?_
  refine r_istore_n (L' := [some (.ref t), some (.int (nI s)), some (.ref c), some (.int (nI 1))]) d_Tb_fillColumns_15 (by decide) rfl ?_
  suffices H : ∀ d k M1, k + d = s → 1 ≤ k → (∀ j, j < k → OKr M1 (c + 1 + j) (col s g f j)) → FB M M1 (c + 1) (c + 1 + s) → Rn o l m_Tb_fillColumns (0, 0) 16 [some (.ref t), some (.int (nI s)), some (.ref c), some (.int (nI k))] [] (gh n M1) (QV n fun M' => (∀ j, j < s → OKr M' (c + 1 + j) (col s g f j)) ∧ FB M M' (c + 1) (c + 1 + s)) from
    H (s - 1) 1 _ (by omega) (Nat.le_refl _) (fun j hj => by
      obtain rfl : j = 0 := by omega
      exact fun i hi => ⟨by rw [wr_cpy hi]; exact (hg i hi).1, (hg i hi).2⟩) (FB.rf.wr (by omega) (by omega))
  intro d
  induction d with
  | zero =>
    intro k M1 hk hk1 h1 h2
    obtain rfl : k = s := by omega
    refine r_iload_n d_Tb_fillColumns_16 rfl ?_
    refine r_iload_n d_Tb_fillColumns_17 rfl ?_
    refine n_icmp_ge d_Tb_fillColumns_18 (by omega) (by omega) (fun hb => ?_) (fun hb => ?_)
    · refine g_retv d_Tb_fillColumns_53 rfl ?_
      exact ⟨h1, h2⟩
    · omega
  | succ d ih =>
    intro k M1 hk hk1 h1 h2
    refine r_iload_n d_Tb_fillColumns_16 rfl ?_
    refine r_iload_n d_Tb_fillColumns_17 rfl ?_
    refine n_icmp_ge d_Tb_fillColumns_18 (by omega) (by omega) (fun hb => ?_) (fun hb => ?_)
    · omega
    · refine r_aload_n d_Tb_fillColumns_21 rfl ?_
      refine r_iload_n d_Tb_fillColumns_22 rfl ?_
      refine r_iconst (v := nI 1) d_Tb_fillColumns_23 (by decide) ?_
      refine n_isub d_Tb_fillColumns_24 (by omega) ?_
      refine g_aald (b := (c+1+(k-1))) (t := 5) (N := 10) d_Tb_fillColumns_25 hc.1 (by decide) (by omega) (by omega) ((hc.2 (k-1) (by omega)).1) ?_
      refine r_iconst (v := nI 0) d_Tb_fillColumns_26 (by decide) ?_
      refine r_aload_n d_Tb_fillColumns_27 rfl ?_
      refine r_iload_n d_Tb_fillColumns_28 rfl ?_
      refine g_aald (b := (c+1+k)) (t := 5) (N := 10) d_Tb_fillColumns_29 hc.1 (by decide) (by omega) (by omega) ((hc.2 k (by omega)).1) ?_
      refine r_iconst (v := nI 0) d_Tb_fillColumns_30 (by decide) ?_
      refine r_bipush (v := nI 10) d_Tb_fillColumns_31 (by decide) ?_
      refine g_copy d_Tb_fillColumns_33 k_Tb_52 (by decide) ((hc.2 (k-1) (by omega)).2) ((hc.2 k (by omega)).2) (by omega) (by omega) (by omega) (Nat.le_of_ble_eq_true rfl) ?_
      generalize hM2 : wr M1 (c + 1 + k) (va_cpy (M1 (c + 1 + (k - 1))) (M1 (c + 1 + k)) 0 0 10) = M2
      have k1 := h1 (k - 1) (by omega)
      have k2 : OKr M2 (c + 1 + k) (col s g f (k - 1)) := fun i hi => ⟨by rw [← hM2, wr_cpy hi]; exact (k1 i hi).1, (k1 i hi).2⟩
      have k3 : ∀ b, b ≠ c + 1 + k → M2 b = M1 b := fun b hb => by rw [← hM2, wr_ne _ _ hb]
      refine r_aload_n d_Tb_fillColumns_36 rfl ?_
      refine r_iload_n d_Tb_fillColumns_37 rfl ?_
      refine g_aald (b := (c+1+k)) (t := 5) (N := 10) d_Tb_fillColumns_38 hc.1 (by decide) (by omega) (by omega) ((hc.2 k (by omega)).1) ?_
      refine r_aload_n d_Tb_fillColumns_39 rfl ?_
      refine g_getr (b := (t+2)) d_Tb_fillColumns_40 f_Tb_58 rfl (by rw [t0]) t2 ?_
      refine r_iload_n d_Tb_fillColumns_43 rfl ?_
      refine g_Sv (av := [.ref (c+1+k), .ref (t+2), .int (nI s)]) d_Tb_fillColumns_44 k_Tb_61 ws_Rw_multiply (by decide) rfl rfl (Nat.le_of_ble_eq_true rfl) (c_Rw_multiply (hc.2 k (by omega)).2 t4 (by omega) (by omega) hs k2 ((hf.kept (h2 _ (by omega))).kept (k3 _ (by omega)))) ?_
      rintro M3 h3
      refine n_iinc (c := 1) (L' := [some (.ref t), some (.int (nI s)), some (.ref c), some (.int (nI (k + 1)))]) d_Tb_fillColumns_47 rfl rfl (by decide) rfl ?_
      refine r_goto d_Tb_fillColumns_50 ?_
      refine ih (k + 1) M3 (by omega) (by omega) (fun j hj => ?_) (fun b hb => by rw [h3.ne (by omega), k3 b (by omega), h2 b hb])
      by_cases e : j = k
      · subst e
        obtain ⟨j', rfl⟩ : ∃ j', j = j' + 1 := ⟨j - 1, by omega⟩
        exact h3.ok (fun i hi => ml_lt (ok_lt k2 i hi))
      · exact ((h1 j (by omega)).kept (k3 _ (by omega))).kept (h3.ne (by omega))
theorem c_Tb_entryOf {t s i j : Nat} {g f : Nat → Nat} (ht : isTb t) (hs0 : 2 ≤ s) (hs : s ≤ 10) (hi : i < 10) (hj : j < 10) (hd : t + 2 < 407 ∨ 407 < t + 1) (hT : TbA M t g f) : CI o l m_Tb_entryOf n [.ref 397, .ref t, .int (nI i), .int (nI j), .int (nI s)] M (fun r M' => r = nI (col s g f j i) ∧ FB M M' 407 408 ∧ Ok M' 407) := by
  refine ci_of rfl rfl rfl (Nat.le_of_ble_eq_true rfl) ?_
  obtain ⟨t0, t1, t2, t3, t4⟩ := id ht
  obtain ⟨hg, hf⟩ := hT
  refine r_aload_n d_Tb_entryOf_0 rfl ?_
  refine g_getr (b := (t+1)) d_Tb_entryOf_1 f_Tb_49 rfl (by rw [t0]) t1 ?_
  refine r_iconst (v := nI 0) d_Tb_entryOf_4 (by decide) ?_
  refine r_aload_n d_Tb_entryOf_5 rfl ?_
  refine g_getr (b := 407) d_Tb_entryOf_6 f_Tb_24 rfl rfl rfl ?_
  refine r_iconst (v := nI 0) d_Tb_entryOf_9 (by decide) ?_
  refine r_bipush (v := nI 10) d_Tb_entryOf_10 (by decide) ?_
  refine g_copy d_Tb_entryOf_12 k_Tb_52 (by decide) t3 rfl (by omega) (by omega) (by omega) (Nat.le_of_ble_eq_true rfl) ?_
  refine r_iconst (v := nI 0) d_Tb_entryOf_15 (by decide) ?_
  refine r_istore (L' := [some (.ref 397), some (.ref t), some (.int (nI i)), some (.int (nI j)), some (.int (nI s)), some (.int (nI 0))]) d_Tb_entryOf_16 (by decide) rfl ?_
  suffices H : ∀ d k M1, k + d = j → RW M 407 (col s g f k) M1 → Rn o l m_Tb_entryOf (0, 0) 18 [some (.ref 397), some (.ref t), some (.int (nI i)), some (.int (nI j)), some (.int (nI s)), some (.int (nI k))] [] (gh n M1) (QI n fun r M' => r = nI (col s g f j i) ∧ FB M M' 407 408 ∧ Ok M' 407) from
    H j 0 _ (by omega) ⟨_, rfl, fun i hi => by rw [va_cpy, if_pos (by omega), Nat.zero_add, Nat.sub_zero]; exact (hg i hi).1⟩
  intro d
  induction d with
  | zero =>
    intro k M1 hk h1
    obtain rfl : k = j := by omega
    refine r_iload d_Tb_entryOf_18 rfl ?_
    refine r_iload_n d_Tb_entryOf_20 rfl ?_
    refine n_icmp_ge d_Tb_entryOf_21 (by omega) (by omega) (fun hb => ?_) (fun hb => ?_)
    · refine r_aload_n d_Tb_entryOf_43 rfl ?_
      refine g_getr (b := 407) d_Tb_entryOf_44 f_Tb_24 rfl rfl rfl ?_
      refine r_iload_n d_Tb_entryOf_47 rfl ?_
      refine g_iald d_Tb_entryOf_48 rfl (by omega) (by omega) ?_
      refine r_top (y := nI (col s g f k i)) (h1.at (by omega)) ?_
      refine g_reti d_Tb_entryOf_49 rfl ?_
      exact ⟨rfl, h1.fb, _, h1.ok (fun i hi => col_lt (ok_lt hg i hi) k)⟩
    · omega
  | succ d ih =>
    intro k M1 hk h1
    refine r_iload d_Tb_entryOf_18 rfl ?_
    refine r_iload_n d_Tb_entryOf_20 rfl ?_
    refine n_icmp_ge d_Tb_entryOf_21 (by omega) (by omega) (fun hb => ?_) (fun hb => ?_)
    · omega
    · refine r_aload_n d_Tb_entryOf_24 rfl ?_
      refine g_getr (b := 407) d_Tb_entryOf_25 f_Tb_24 rfl rfl rfl ?_
      refine r_aload_n d_Tb_entryOf_28 rfl ?_
      refine g_getr (b := (t+2)) d_Tb_entryOf_29 f_Tb_58 rfl (by rw [t0]) t2 ?_
      refine r_iload d_Tb_entryOf_32 rfl ?_
      have k1 := h1.ok (fun i hi => col_lt (ok_lt hg i hi) k)
      refine g_Sv (av := [.ref 407, .ref (t+2), .int (nI s)]) d_Tb_entryOf_34 k_Tb_61 ws_Rw_multiply (by decide) rfl rfl (Nat.le_of_ble_eq_true rfl) (c_Rw_multiply rfl t4 (by omega) (by omega) hs k1 (h1.okn (by omega) hf)) ?_
      rintro M3 h3
      refine n_iinc (c := 1) (L' := [some (.ref 397), some (.ref t), some (.int (nI i)), some (.int (nI j)), some (.int (nI s)), some (.int (nI (k + 1)))]) d_Tb_entryOf_37 rfl rfl (by decide) rfl ?_
      refine r_goto d_Tb_entryOf_40 ?_
      exact ih (k + 1) M3 (by omega) (h1.trans h3)
theorem c_Tb_multiply {a b c s : Nat} {sg sf tg tf : Nat → Nat} (ha : isTb a) (hb : isTb b) (hc : isTb c) (hs0 : 2 ≤ s) (hs : s ≤ 10) (hda : a + 2 < c + 1 ∨ c + 2 < a + 1) (hdb : b + 2 < c + 1 ∨ c + 2 < b + 1) (hA : TbA M a sg sf) (hB : TbA M b tg tf) : CV o l m_Tb_multiply n [.ref a, .ref b, .int (nI s), .ref c] M (fun M' => TbA M' c (mulG s sg sf tg) (mulF s sf tf) ∧ FB M M' (c + 1) (c + 3)) := by
  refine cvo_of rfl rfl rfl (Nat.le_of_ble_eq_true rfl) ?_
  obtain ⟨a0, a1, a2, a3, a4⟩ := id ha
  obtain ⟨b0, b1, b2, b3, b4⟩ := id hb
  obtain ⟨c0, c1, c2, c3, c4⟩ := id hc
  obtain ⟨h1, h2⟩ := hA
  obtain ⟨h3, h4⟩ := hB
  refine r_aload_n d_Tb_multiply_0 rfl ?_
  refine g_getr (b := (b+1)) d_Tb_multiply_1 f_Tb_49 rfl (by rw [b0]) b1 ?_
  refine r_aload_n d_Tb_multiply_4 rfl ?_
  refine g_getr (b := (a+2)) d_Tb_multiply_5 f_Tb_58 rfl (by rw [a0]) a2 ?_
  refine r_iload_n d_Tb_multiply_8 rfl ?_
  refine r_aload_n d_Tb_multiply_9 rfl ?_
  refine g_getr (b := (c+1)) d_Tb_multiply_10 f_Tb_49 rfl (by rw [c0]) c1 ?_
  refine g_Sv (av := [.ref (b+1), .ref (a+2), .int (nI s), .ref (c+1)]) d_Tb_multiply_13 k_Tb_67 ws_Rw_insert (by decide) rfl rfl (Nat.le_of_ble_eq_true rfl) (c_Rw_insert b3 a4 c3 (by omega) (by omega) (by omega) hs h3 h2) ?_
  rintro M1 k1
  refine r_aload_n d_Tb_multiply_16 rfl ?_
  refine g_getr (b := (c+1)) d_Tb_multiply_17 f_Tb_49 rfl (by rw [c0]) c1 ?_
  refine r_aload_n d_Tb_multiply_20 rfl ?_
  refine g_getr (b := (a+1)) d_Tb_multiply_21 f_Tb_49 rfl (by rw [a0]) a1 ?_
  refine r_iload_n d_Tb_multiply_24 rfl ?_
  have q1 := k1.ok (fun j hj => hn_lt (ok_lt h3) hs s j)
  refine g_Sv (av := [.ref (c+1), .ref (a+1), .int (nI s)]) d_Tb_multiply_25 k_Tb_61 ws_Rw_multiply (by decide) rfl rfl (Nat.le_of_ble_eq_true rfl) (c_Rw_multiply c3 a3 (by omega) (by omega) hs q1 (k1.okn (by omega) h1)) ?_
  rintro M2 k2
  have q2 := k2.ok (fun j hj => ml_lt (ok_lt q1 j hj))
  refine r_aload_n d_Tb_multiply_28 rfl ?_
  refine g_getr (b := (b+2)) d_Tb_multiply_29 f_Tb_58 rfl (by rw [b0]) b2 ?_
  refine r_aload_n d_Tb_multiply_32 rfl ?_
  refine g_getr (b := (a+2)) d_Tb_multiply_33 f_Tb_58 rfl (by rw [a0]) a2 ?_
  refine r_iload_n d_Tb_multiply_36 rfl ?_
  refine r_aload_n d_Tb_multiply_37 rfl ?_
  refine g_getr (b := (c+2)) d_Tb_multiply_38 f_Tb_58 rfl (by rw [c0]) c2 ?_
  refine g_Sv (av := [.ref (b+2), .ref (a+2), .int (nI s), .ref (c+2)]) d_Tb_multiply_41 k_Tb_67 ws_Rw_insert (by decide) rfl rfl (Nat.le_of_ble_eq_true rfl) (c_Rw_insert b4 a4 c4 (by omega) (by omega) (by omega) hs (k2.okn (by omega) (k1.okn (by omega) h4)) (k2.okn (by omega) (k1.okn (by omega) h2))) ?_
  rintro M3 k3
  refine g_retv d_Tb_multiply_44 rfl ?_
  exact ⟨⟨q2.kept (k3.ne (by omega)), k3.ok (fun j hj => hn_lt (ok_lt h4) hs s j)⟩, ((k1.fb.mono (by omega) (by omega)).trans (k2.fb.mono (by omega) (by omega))).trans (k3.fb.mono (by omega) (by omega))⟩
theorem c_Tb_makeOf {t a s : Nat} {g f x : Nat → Nat} (ht : isTb t) (ha : gT a = (1, 10)) (hs0 : 2 ≤ s) (hs : s ≤ 10) (hd : t + 2 < 407) (ha7 : a ≠ 407) (hT : TbA M t g f) (hx : OKr M a x) : CV o l m_Tb_makeOf n [.ref 397, .ref t, .ref a, .int (nI s)] M (fun M' => OKr M' 407 (mulG s g f x) ∧ FB M M' 407 408) := by
  refine cvo_of rfl rfl rfl (Nat.le_of_ble_eq_true rfl) ?_
  obtain ⟨t0, t1, t2, t3, t4⟩ := id ht
  obtain ⟨hg, hf⟩ := hT
  refine r_aload_n d_Tb_makeOf_0 rfl ?_
  refine r_aload_n d_Tb_makeOf_1 rfl ?_
  refine g_getr (b := (t+2)) d_Tb_makeOf_2 f_Tb_58 rfl (by rw [t0]) t2 ?_
  refine r_iload_n d_Tb_makeOf_5 rfl ?_
  refine r_aload_n d_Tb_makeOf_6 rfl ?_
  refine g_getr (b := 407) d_Tb_makeOf_7 f_Tb_24 rfl rfl rfl ?_
  refine g_Sv (av := [.ref a, .ref (t+2), .int (nI s), .ref 407]) d_Tb_makeOf_10 k_Tb_67 ws_Rw_insert (by decide) rfl rfl (Nat.le_of_ble_eq_true rfl) (c_Rw_insert ha t4 rfl ha7 (by omega) (by omega) hs hx hf) ?_
  rintro M1 k1
  refine r_aload_n d_Tb_makeOf_13 rfl ?_
  refine g_getr (b := 407) d_Tb_makeOf_14 f_Tb_24 rfl rfl rfl ?_
  refine r_aload_n d_Tb_makeOf_17 rfl ?_
  refine g_getr (b := (t+1)) d_Tb_makeOf_18 f_Tb_49 rfl (by rw [t0]) t1 ?_
  refine r_iload_n d_Tb_makeOf_21 rfl ?_
  have q1 := k1.ok (fun j hj => hn_lt (ok_lt hx) hs s j)
  refine g_Sv (av := [.ref 407, .ref (t+1), .int (nI s)]) d_Tb_makeOf_22 k_Tb_61 ws_Rw_multiply (by decide) rfl rfl (Nat.le_of_ble_eq_true rfl) (c_Rw_multiply rfl t3 (by omega) (by omega) hs q1 (k1.okn (by omega) hg)) ?_
  rintro M2 k2
  refine g_retv d_Tb_makeOf_25 rfl ?_
  exact ⟨k2.ok (fun j hj => ml_lt (ok_lt q1 j hj)), (k1.fb.trans k2.fb)⟩
/-- the table that undoes another one: its two series -/
def invG (s : Nat) (g f : Nat → Nat) : Nat → Nat := dv oneS (hn g (rvs f s) s s)
theorem c_Tb_invert {t s : Nat} {g f : Nat → Nat} (ht : isTb t) (hs0 : 2 ≤ s) (hs : s ≤ 10) (hd : t + 2 < 397) (hT : TbA M t g f) (o3 : Ok M 403) (o4 : Ok M 434) : CV o l m_Tb_invert n [.ref 397, .ref t, .int (nI s), .ref 401] M (fun M' => (∀ j, j < s → M' 402 j = nI (invG s g f j) ∧ M' 403 j = nI (rvs f s j)) ∧ Ok M' 402 ∧ Ok M' 403 ∧ Ok M' 409 ∧ Ok M' 434 ∧ Ok M' 435 ∧ ∀ b, b ≠ 402 → b ≠ 403 → b ≠ 409 → b ≠ 434 → b ≠ 435 → M' b = M b) := by
  refine cvo_of rfl rfl rfl (Nat.le_of_ble_eq_true rfl) ?_
  obtain ⟨t0, t1, t2, t3, t4⟩ := id ht
  obtain ⟨hg, hf⟩ := hT
  refine r_aload_n d_Tb_invert_0 rfl ?_
  refine g_getr (b := 432) d_Tb_invert_1 f_Tb_45 rfl rfl rfl ?_
  refine r_aload_n d_Tb_invert_4 rfl ?_
  refine g_getr (b := (t+2)) d_Tb_invert_5 f_Tb_58 rfl (by rw [t0]) t2 ?_
  refine r_iload_n d_Tb_invert_8 rfl ?_
  refine r_aload_n d_Tb_invert_9 rfl ?_
  refine g_getr (b := 403) d_Tb_invert_10 f_Tb_58 rfl rfl rfl ?_
  refine g_Vv (av := [.ref (t+2), .int (nI s), .ref 403]) d_Tb_invert_13 k_Tb_71 ws_Sb_reverse (by decide) rfl rfl (Nat.le_of_ble_eq_true rfl) rfl (c_Sb_reverse (q := 432) (c := 403) isSb_432 t4 rfl hs0 hs (by omega) (by decide) (by decide) hf o3 o4) ?_
  rintro M1 ⟨k1, k2, ⟨w, k3⟩, k4, k5⟩
  refine r_aload_n d_Tb_invert_16 rfl ?_
  refine g_getr (b := (t+1)) d_Tb_invert_17 f_Tb_49 rfl (by rw [t0]) t1 ?_
  refine r_aload_n d_Tb_invert_20 rfl ?_
  refine g_getr (b := 403) d_Tb_invert_21 f_Tb_58 rfl rfl rfl ?_
  refine r_iload_n d_Tb_invert_24 rfl ?_
  refine r_aload_n d_Tb_invert_25 rfl ?_
  refine g_getr (b := 409) d_Tb_invert_26 f_Tb_31 rfl rfl rfl ?_
  refine g_Sv (av := [.ref (t+1), .ref 403, .int (nI s), .ref 409]) d_Tb_invert_29 k_Tb_67 ws_Rw_insert (by decide) rfl rfl (Nat.le_of_ble_eq_true rfl) (c_Rw_insert t3 rfl rfl (by omega) (by decide) (by omega) hs (hg.kept (k1 _ (by omega) (by omega) (by omega))) k3) ?_
  rintro M2 m2
  refine r_aload_n d_Tb_invert_32 rfl ?_
  refine g_getr (b := 402) d_Tb_invert_33 f_Tb_49 rfl rfl rfl ?_
  refine r_iconst (v := nI 1) d_Tb_invert_36 (by decide) ?_
  refine g_Sv (av := [.ref 402, .int (nI 1)]) d_Tb_invert_37 k_Tb_75 ws_Rw_becomeNumber (by decide) rfl rfl (Nat.le_of_ble_eq_true rfl) (c_Rw_becomeNumber rfl) ?_
  rintro M3 m3
  refine r_aload_n d_Tb_invert_40 rfl ?_
  refine g_getr (b := 402) d_Tb_invert_41 f_Tb_49 rfl rfl rfl ?_
  refine r_aload_n d_Tb_invert_44 rfl ?_
  refine g_getr (b := 409) d_Tb_invert_45 f_Tb_31 rfl rfl rfl ?_
  refine r_iload_n d_Tb_invert_48 rfl ?_
  have q1 : OKr M2 409 _ := m2.ok (fun j hj => hn_lt (ok_lt hg) hs s j)
  have q2 : OKr M3 409 _ := m3.okn (by decide) q1
  have q3 : OKr M3 402 _ := m3.ok (fun j hj => by split <;> decide)
  refine g_Sv (av := [.ref 402, .ref 409, .int (nI s)]) d_Tb_invert_49 k_Tb_79 ws_Rw_divide (by decide) rfl rfl (Nat.le_of_ble_eq_true rfl) (c_Rw_divide rfl rfl (by decide) hs q3 q2) ?_
  rintro M4 m4
  refine g_retv d_Tb_invert_52 rfl ?_
  have e3 : ∀ j, j < s → w j = rvs f s j := fun j hj => by
    have h8 := (k3 j (by omega))
    rw [k2 j hj] at h8
    exact ((nI_eq (by have := rvs_lt f s j; omega) (by omega)).mp h8.1).symm
  refine ⟨fun j hj => ⟨?_, ?_⟩, ⟨_, m4.ok (fun j hj => by
      split
      · exact dv_lt _ _ _
      · split <;> decide)⟩, ?_, ?_, ?_, ?_, fun b b1 b2 b3 b4 b5 => ?_⟩
  · rw [m4.at (by omega), if_pos hj]
    congr 1
    exact dv_congr (fun i _ => rfl) (fun i hi => hn_congr (fun _ _ => rfl) e3 (Nat.le_refl _) i)
  · rw [m4.ne (by decide), m3.ne (by decide), m2.ne (by decide)]; exact k2 j hj
  · exact (k3.ok).kept (by rw [m4.ne (by decide), m3.ne (by decide), m2.ne (by decide)])
  · exact (q2.ok).kept (m4.ne (by decide))
  · exact k4.kept (by rw [m4.ne (by decide), m3.ne (by decide), m2.ne (by decide)])
  · exact k5.kept (by rw [m4.ne (by decide), m3.ne (by decide), m2.ne (by decide)])
  · rw [m4.ne b1, m3.ne b1, m2.ne b3]; exact k1 b b2 b4 b5
/-- powers of a table, i times -/
def pwr (s : Nat) (g f : Nat → Nat) : Nat → (Nat → Nat) × (Nat → Nat)
  | 0 => (oneS, tS)
  | i + 1 => (mulG s (pwr s g f i).1 (pwr s g f i).2 g, mulF s (pwr s g f i).2 f)
theorem mulG_congr {s : Nat} {sg sf tg tg' : Nat → Nat} (h : ∀ j, j < s → tg j = tg' j) (j : Nat) : mulG s sg sf tg j = mulG s sg sf tg' j := ml_congr (fun i _ => hn_congr h (fun _ _ => rfl) (Nat.le_refl _) i) (fun _ _ => rfl)
theorem mulF_congr {s : Nat} {sf tf tf' : Nat → Nat} (h : ∀ j, j < s → tf j = tf' j) (j : Nat) : mulF s sf tf j = mulF s sf tf' j := hn_congr h (fun _ _ => rfl) (Nat.le_refl _) j
end C37
