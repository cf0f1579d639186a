def lndS (S : SS) (to : Nat) (w : Nat → Nat) : Int32 × SS := (nI (w (S.1 0 3 - 1)), kp S (rowC S.1 (2 + to) w))
def lndT (S : SS) (to : Nat) (g f : Nat → Nat) : Int32 × SS := (nI (col (S.1 0 3) g f 1 (S.1 0 3 - 1)), kp S (tabC S.1 to g f))
/-- the only answer of a predicate -/
noncomputable def eps (p : Int32 → Prop) : Int32 := Classical.epsilon p
theorem eps_eq {p : Int32 → Prop} {r : Int32} (h : p r) (hu : ∀ x y, p x → p y → x = y) : r = eps p := hu _ _ h (Classical.epsilon_spec ⟨r, h⟩)
noncomputable def fdv (s : Nat) (p : Nat → Nat → Prop) : Int32 := eps (FD s p)
theorem FD_u {s : Nat} {p : Nat → Nat → Prop} (hs : s ≤ 10) (x y : Int32) (h : FD s p x) (h2 : FD s p y) : x = y := by
  rcases h with ⟨i, j, h3, h4, h5, rfl, h6⟩ | ⟨rfl, h3⟩
  · rcases h2 with ⟨i', j', q3, q4, q5, rfl, q6⟩ | ⟨rfl, q3⟩
    · have a1 : ¬ (i' < i ∨ i' = i ∧ j' < j) := fun z => h6 i' j' q4 z q5
      have a2 : ¬ (i < i' ∨ i = i' ∧ j < j') := fun z => q6 i j h4 z h5
      have e1 : i = i' := by omega
      have e2 : j = j' := by omega
      rw [e1, e2]
    · exact absurd h5 (q3 i j h3 h4)
  · rcases h2 with ⟨i', j', q3, q4, q5, rfl, q6⟩ | ⟨rfl, q3⟩
    · exact absurd q5 (h3 i' j' q3 q4)
    · rfl
theorem FD_eq {s : Nat} {p : Nat → Nat → Prop} {r : Int32} (hs : s ≤ 10) (h : FD s p r) : r = fdv s p := eps_eq h (FD_u hs)
def F1 (s : Nat) (p : Nat → Prop) (r : Int32) : Prop := (∃ i, i < s ∧ p i ∧ r = nI i ∧ ∀ i', i' < i → ¬ p i') ∨ (r = -1 ∧ ∀ i, i < s → ¬ p i)
noncomputable def f1v (s : Nat) (p : Nat → Prop) : Int32 := eps (F1 s p)
theorem F1_eq {s : Nat} {p : Nat → Prop} {r : Int32} (h : F1 s p r) : r = f1v s p := eps_eq h (by
  intro x y h h2
  rcases h with ⟨i, h3, h4, rfl, h6⟩ | ⟨rfl, h3⟩
  · rcases h2 with ⟨i', q3, q4, rfl, q6⟩ | ⟨rfl, q3⟩
    · have a1 : ¬ (i' < i) := fun z => h6 i' z q4
      have a2 : ¬ (i < i') := fun z => q6 i z h4
      rw [show i = i' by omega]
    · exact absurd h4 (q3 i h3)
  · rcases h2 with ⟨i', q3, q4, rfl, q6⟩ | ⟨rfl, q3⟩
    · exact absurd q4 (h3 i' q3)
    · rfl)
noncomputable def f_make (S : SS) (a b how to : Int32) : Int32 × SS := ic (okS S a ∧ okS S b ∧ okS S to ∧ how = nI (ix how) ∧ cmbOk (ix how) (S.1 (2 + ix b))) (lndS S (ix to) (cmb (ix how) (S.1 (2 + ix a)) (S.1 (2 + ix b)) (S.1 0 3))) (-1, S)
noncomputable def f_turn (S : SS) (a how to : Int32) : Int32 × SS := ic (okS S a ∧ okS S to ∧ how = nI (ix how) ∧ trnOk (ix how) (S.1 (2 + ix a))) (lndS S (ix to) (trn (ix how) (S.1 (2 + ix a)) (S.1 0 3))) (-1, S)
noncomputable def f_raise (S : SS) (a k to : Int32) : Int32 × SS := ic (okS S a ∧ okS S to ∧ inN 100 k) (lndS S (ix to) (rz (S.1 (2 + ix a)) (ix k) (S.1 0 3) 7)) (-1, S)
theorem B3.bf {M M' : Mem} (hB : BO M) (h : B3 M M') : BF M M' := by
  obtain ⟨h1, h2, h3, h4⟩ := h
  refine ⟨fun b hb => h1 b (by omega) (by omega) (by omega), ⟨fun b b1 b2 b3 => ?_, hB.2.kept (h1 36 (by decide) (by decide) (by decide))⟩⟩
  by_cases e1 : b = 394
  · subst e1; exact h2
  by_cases e2 : b = 395
  · subst e2; exact h3
  by_cases e3 : b = 396
  · subst e3; exact h4
  exact (hB.1 b b1 b2 b3).kept (h1 b e1 e2 e3)
theorem RS.bf {M M' : Mem} {s : Nat} {w : Nat → Nat} (hB : BO M) (h : RS M 394 s w M') : BF M M' := by
  obtain ⟨w', h1, h2, h3⟩ := h
  exact BF.row hB h1 (by decide) (by decide) h2
theorem PX.bf {M M1 M' : Mem} {y : Int32 × SS} {r : Int32} (hB : BF M M1) (h : PX M1 y r M') : PX M y r M' := ⟨h.1, h.2.1, hB.kx.trans h.2.2⟩
theorem le99 {x : Int32} (h : x ≤ nI 99) : x < nI 100 := by
  rw [Int32.le_iff_toInt_le] at h
  rw [Int32.lt_iff_toInt_lt]
  have a : (nI 99).toInt = 99 := by decide
  have b : (nI 100).toInt = 100 := by decide
  omega
section C45
variable {o : OM} {l : Launch} {n : Nat} {M : Mem} {S : SS}
theorem c_X_landSeries {a to : Nat} {w : Nat → Nat} (hW : WS S) (hX : XR M S) (h0 : 0 < S.1 0 3) (ha : gT a = (1, 10)) (ha1 : 394 ≤ a) (hto : to < 6) (hw : ∀ j, j < S.1 0 3 → M a j = nI (w j)) : CI o l m_X_landSeries n [.ref 0, .ref a, .int (nI to)] M (PX M (lndS S to w)) := by
  refine ci_of rfl rfl rfl (Nat.le_of_ble_eq_true rfl) ?_
  obtain ⟨x1, ⟨nx, x2⟩, x3, x4, x8⟩ := id hX
  have hs10 := hW.sz h0
  refine r_aload_n d_X_landSeries_0 rfl ?_
  refine g_getr (b := 69) d_X_landSeries_1 f_X_31 rfl rfl rfl ?_
  refine r_aload_n d_X_landSeries_4 rfl ?_
  refine g_getr (b := 37) d_X_landSeries_5 f_X_24 rfl rfl rfl ?_
  refine g_Vv (av := [.ref 37]) d_X_landSeries_8 k_X_116 ws_Hi_keep (by decide) rfl rfl (Nat.le_of_ble_eq_true rfl) rfl (c_Hi_keep x1 x2) ?_
  rintro M1 ⟨k1, k2⟩
  have x1' : StA M1 37 S.1 := x1.kept (fun z z1 z2 => k2 z (by omega))
  refine r_aload_n d_X_landSeries_11 rfl ?_
  refine r_iconst (v := nI 0) d_X_landSeries_12 (by decide) ?_
  refine r_aload_n d_X_landSeries_13 rfl ?_
  refine g_getr (b := 37) d_X_landSeries_14 f_X_24 rfl rfl rfl ?_
  refine g_getr (b := 38) d_X_landSeries_17 f_X_112 rfl rfl rfl ?_
  refine r_iload_n d_X_landSeries_20 rfl ?_
  refine g_aald (b := (39+to)) (t := 5) (N := 6) d_X_landSeries_21 rfl (by decide) (by omega) (by omega) (g_ser hto) ?_
  refine r_iconst (v := nI 0) d_X_landSeries_22 (by decide) ?_
  refine r_aload_n d_X_landSeries_23 rfl ?_
  refine g_getr (b := 37) d_X_landSeries_24 f_X_24 rfl rfl rfl ?_
  refine g_geti d_X_landSeries_27 f_X_99 rfl rfl ?_
  refine r_top (y := (nI (S.1 0 3))) (x1'.1) ?_
  refine g_copy d_X_landSeries_30 k_X_242 (by decide) ha (t_ser hto) (by omega) (by omega) (by omega) (Nat.le_of_ble_eq_true rfl) ?_
  have e1 : ∀ j, j < 10 → wr M1 (39 + to) (va_cpy (M1 a) (M1 (39 + to)) 0 0 (S.1 0 3)) (39 + to) j = nI (rowC S.1 (2 + to) w (2 + to) j) := fun j hj => by
    rw [wr_eq, va_cpy, rowC]
    by_cases e : j < S.1 0 3
    · rw [if_pos (by omega), if_pos ⟨rfl, e⟩, Nat.zero_add, Nat.sub_zero, k2 a (by omega)]
      exact hw j e
    · rw [if_neg (by omega), if_neg (by omega), show 39 + to = 37 + (2 + to) by omega]
      exact x1'.2 _ (Or.inl ⟨by omega, by omega⟩) j hj
  have y1 : StA (wr M1 (39 + to) (va_cpy (M1 a) (M1 (39 + to)) 0 0 (S.1 0 3))) 37 (rowC S.1 (2 + to) w) := by
    refine ⟨by rw [wr_ne _ _ (by omega), rowC, if_neg (by omega)]; exact x1'.1, fun q hq j hj => ?_⟩
    by_cases e : q = 2 + to
    · subst e
      rw [show 37 + (2 + to) = 39 + to by omega]
      exact e1 j hj
    · rw [wr_ne _ _ (by omega), rowC, if_neg (fun z => e z.1)]
      exact x1'.2 q hq j hj
  have y2 := hX.act k1 k2 y1 (fun z z1 z2 => wr_ne _ _ (by omega)) (x8.kept (fun z z1 => by rw [wr_ne _ _ (by omega)]; exact k2 z (by omega)))
  have e2 := e1 (S.1 0 3 - 1) (by omega)
  rw [rowC, if_pos ⟨rfl, by omega⟩] at e2
  refine r_aload_n d_X_landSeries_33 rfl ?_
  refine g_getr (b := 37) d_X_landSeries_34 f_X_24 rfl rfl rfl ?_
  refine g_getr (b := 38) d_X_landSeries_37 f_X_112 rfl rfl rfl ?_
  refine r_iload_n d_X_landSeries_40 rfl ?_
  refine g_aald (b := (39+to)) (t := 5) (N := 6) d_X_landSeries_41 rfl (by decide) (by omega) (by omega) (g_ser hto) ?_
  refine r_aload_n d_X_landSeries_42 rfl ?_
  refine g_getr (b := 37) d_X_landSeries_43 f_X_24 rfl rfl rfl ?_
  refine g_geti d_X_landSeries_46 f_X_99 rfl rfl ?_
  refine r_top (y := (nI (S.1 0 3))) (by rw [wr_ne _ _ (by omega)]; exact x1'.1) ?_
  refine r_iconst (v := nI 1) d_X_landSeries_49 (by decide) ?_
  refine n_isub d_X_landSeries_50 (by omega) ?_
  refine g_iald d_X_landSeries_51 (t_ser hto) (by omega) (by omega) ?_
  refine r_top (y := nI (w ((S.1 0 3) - 1))) (e2) ?_
  refine g_reti d_X_landSeries_52 rfl ?_
  exact ⟨rfl, y2.1, y2.2⟩
theorem c_X_make {a b how to : Int32} (hW : WS S) (hX : XR M S) : CI o l m_X_make n [.ref 0, .int a, .int b, .int how, .int to] M (PX M (f_make S a b how to)) := by
  refine ci_of rfl rfl rfl (Nat.le_of_ble_eq_true rfl) ?_
  refine r_aload_n d_X_make_0 rfl ?_
  refine r_iload_n d_X_make_1 rfl ?_
  by_cases hg1 : okS S a
  case neg =>
    refine g_Vi (av := [.int a]) d_X_make_2 k_X_105 ws_X_isSeries (by decide) rfl rfl (Nat.le_of_ble_eq_true rfl) rfl (c_X_isSeries_f hW hX hg1) ?_
    rintro _ _ ⟨rfl, rfl⟩
    refine n_if_eq d_X_make_5 (by omega) (fun _ => ?_) (fun h9 => absurd h9 (by decide))
    refine r_iconst (v := -1) d_X_make_25 (by decide) ?_
    refine g_reti d_X_make_26 rfl ?_
    exact PX.no hX (fun q9 => hg1 q9.1)
  refine g_Vi (av := [.int a]) d_X_make_2 k_X_105 ws_X_isSeries (by decide) rfl rfl (Nat.le_of_ble_eq_true rfl) rfl (c_X_isSeries_t hW hX hg1) ?_
  rintro _ _ ⟨rfl, rfl⟩
  refine n_if_eq d_X_make_5 (by omega) (fun h9 => absurd h9 (by decide)) (fun _ => ?_)
  refine r_aload_n d_X_make_8 rfl ?_
  refine r_iload_n d_X_make_9 rfl ?_
  by_cases hg2 : okS S b
  case neg =>
    refine g_Vi (av := [.int b]) d_X_make_10 k_X_105 ws_X_isSeries (by decide) rfl rfl (Nat.le_of_ble_eq_true rfl) rfl (c_X_isSeries_f hW hX hg2) ?_
    rintro _ _ ⟨rfl, rfl⟩
    refine n_if_eq d_X_make_13 (by omega) (fun _ => ?_) (fun h9 => absurd h9 (by decide))
    refine r_iconst (v := -1) d_X_make_25 (by decide) ?_
    refine g_reti d_X_make_26 rfl ?_
    exact PX.no hX (fun q9 => hg2 q9.2.1)
  refine g_Vi (av := [.int b]) d_X_make_10 k_X_105 ws_X_isSeries (by decide) rfl rfl (Nat.le_of_ble_eq_true rfl) rfl (c_X_isSeries_t hW hX hg2) ?_
  rintro _ _ ⟨rfl, rfl⟩
  refine n_if_eq d_X_make_13 (by omega) (fun h9 => absurd h9 (by decide)) (fun _ => ?_)
  refine r_aload_n d_X_make_16 rfl ?_
  refine r_iload d_X_make_17 rfl ?_
  by_cases hg3 : okS S to
  case neg =>
    refine g_Vi (av := [.int to]) d_X_make_19 k_X_105 ws_X_isSeries (by decide) rfl rfl (Nat.le_of_ble_eq_true rfl) rfl (c_X_isSeries_f hW hX hg3) ?_
    rintro _ _ ⟨rfl, rfl⟩
    refine n_if_ne d_X_make_22 (by omega) (fun h9 => absurd h9 (by decide)) (fun _ => ?_)
    refine r_iconst (v := -1) d_X_make_25 (by decide) ?_
    refine g_reti d_X_make_26 rfl ?_
    exact PX.no hX (fun q9 => hg3 q9.2.2.1)
  refine g_Vi (av := [.int to]) d_X_make_19 k_X_105 ws_X_isSeries (by decide) rfl rfl (Nat.le_of_ble_eq_true rfl) rfl (c_X_isSeries_t hW hX hg3) ?_
  rintro _ _ ⟨rfl, rfl⟩
  refine n_if_ne d_X_make_22 (by omega) (fun _ => ?_) (fun h9 => absurd h9 (by decide))
  have q1 := hg1
  have q2 := hg2
  have q3 := hg3
  rw [f_make]
  obtain ⟨h0, ha1, ha2⟩ := hg1
  obtain ⟨_, hb1, hb2⟩ := hg2
  obtain ⟨_, ht1, ht2⟩ := hg3
  obtain ⟨z1, z2⟩ := hW.sz h0
  generalize ix a = a' at *
  subst ha2
  generalize ix b = b' at *
  subst hb2
  generalize ix to = t' at *
  subst ht2
  refine r_aload_n d_X_make_27 rfl ?_
  refine g_getr (b := 393) d_X_make_28 f_X_46 rfl rfl rfl ?_
  refine r_aload_n d_X_make_31 rfl ?_
  refine g_getr (b := 37) d_X_make_32 f_X_24 rfl rfl rfl ?_
  refine g_getr (b := 38) d_X_make_35 f_X_112 rfl rfl rfl ?_
  refine r_iload_n d_X_make_38 rfl ?_
  refine g_aald (b := (39+a')) (t := 5) (N := 6) d_X_make_39 rfl (by decide) (by omega) (by omega) (g_ser ha1) ?_
  refine r_aload_n d_X_make_40 rfl ?_
  refine g_getr (b := 37) d_X_make_41 f_X_24 rfl rfl rfl ?_
  refine g_getr (b := 38) d_X_make_44 f_X_112 rfl rfl rfl ?_
  refine r_iload_n d_X_make_47 rfl ?_
  refine g_aald (b := (39+b')) (t := 5) (N := 6) d_X_make_48 rfl (by decide) (by omega) (by omega) (g_ser hb1) ?_
  refine r_iload_n d_X_make_49 rfl ?_
  refine r_aload_n d_X_make_50 rfl ?_
  refine g_getr (b := 37) d_X_make_51 f_X_24 rfl rfl rfl ?_
  refine g_geti d_X_make_54 f_X_99 rfl rfl ?_
  refine r_top (y := (nI (S.1 0 3))) (hX.1.1) ?_
  refine g_Vi (av := [.ref (39+a'), .ref (39+b'), .int how, .int (nI (S.1 0 3))]) d_X_make_57 k_X_126 ws_Sb_combine (by decide) rfl rfl (Nat.le_of_ble_eq_true rfl) rfl (c_Sb_combine (t_ser ha1) (t_ser hb1) (by omega) (by omega) z1 z2 (hX.row hW ha1) (hX.row hW hb1)) ?_
  rintro r M1 ⟨⟨w0, k1⟩, ⟨h, rfl, k2, rfl, k3⟩ | ⟨k2, rfl⟩⟩
  · have hB1 := k1.bf hX.2.2.2.2
    have hh : ix (nI h) = h := ix_nI (by have := k2.1; omega)
    rw [ic_t ⟨q1, q2, q3, by rw [hh], by rw [hh]; exact k2⟩, hh]
    refine n_if_ne d_X_make_60 (by omega) (fun _ => ?_) (fun h9 => absurd h9 (by decide))
    refine r_aload_n d_X_make_65 rfl ?_
    refine r_aload_n d_X_make_66 rfl ?_
    refine g_getr (b := 393) d_X_make_67 f_X_46 rfl rfl rfl ?_
    refine g_getr (b := 394) d_X_make_70 f_X_130 rfl rfl rfl ?_
    refine r_iload d_X_make_73 rfl ?_
    refine g_Vi (av := [.ref 394, .int (nI t')]) d_X_make_75 k_X_134 ws_X_landSeries (by decide) rfl rfl (Nat.le_of_ble_eq_true rfl) rfl (c_X_landSeries hW (hX.bf hB1) h0 rfl (by decide) ht1 (fun j hj => k3.at z2 hj)) ?_
    rintro r M2 k4
    refine g_reti d_X_make_78 rfl ?_
    exact k4.bf hB1
  · have hB1 := k1.bf hX.2.2.2.2
    refine n_if_ne d_X_make_60 (by omega) (fun h9 => absurd h9 (by decide)) (fun _ => ?_)
    refine r_iconst (v := -1) d_X_make_63 (by decide) ?_
    refine g_reti d_X_make_64 rfl ?_
    exact (PX.no (hX.bf hB1) (fun z => k2 _ z.2.2.2.1 z.2.2.2.2)).bf hB1
theorem c_X_turn {a how to : Int32} (hW : WS S) (hX : XR M S) : CI o l m_X_turn n [.ref 0, .int a, .int how, .int to] M (PX M (f_turn S a how to)) := by
  refine ci_of rfl rfl rfl (Nat.le_of_ble_eq_true rfl) ?_
  have x8 := hX.2.2.2.2
  refine r_aload_n d_X_turn_0 rfl ?_
  refine r_iload_n d_X_turn_1 rfl ?_
  by_cases hg1 : okS S a
  case neg =>
    refine g_Vi (av := [.int a]) d_X_turn_2 k_X_105 ws_X_isSeries (by decide) rfl rfl (Nat.le_of_ble_eq_true rfl) rfl (c_X_isSeries_f hW hX hg1) ?_
    rintro _ _ ⟨rfl, rfl⟩
    refine n_if_eq d_X_turn_5 (by omega) (fun _ => ?_) (fun h9 => absurd h9 (by decide))
    refine r_iconst (v := -1) d_X_turn_16 (by decide) ?_
    refine g_reti d_X_turn_17 rfl ?_
    exact PX.no hX (fun q9 => hg1 q9.1)
  refine g_Vi (av := [.int a]) d_X_turn_2 k_X_105 ws_X_isSeries (by decide) rfl rfl (Nat.le_of_ble_eq_true rfl) rfl (c_X_isSeries_t hW hX hg1) ?_
  rintro _ _ ⟨rfl, rfl⟩
  refine n_if_eq d_X_turn_5 (by omega) (fun h9 => absurd h9 (by decide)) (fun _ => ?_)
  refine r_aload_n d_X_turn_8 rfl ?_
  refine r_iload_n d_X_turn_9 rfl ?_
  by_cases hg2 : okS S to
  case neg =>
    refine g_Vi (av := [.int to]) d_X_turn_10 k_X_105 ws_X_isSeries (by decide) rfl rfl (Nat.le_of_ble_eq_true rfl) rfl (c_X_isSeries_f hW hX hg2) ?_
    rintro _ _ ⟨rfl, rfl⟩
    refine n_if_ne d_X_turn_13 (by omega) (fun h9 => absurd h9 (by decide)) (fun _ => ?_)
    refine r_iconst (v := -1) d_X_turn_16 (by decide) ?_
    refine g_reti d_X_turn_17 rfl ?_
    exact PX.no hX (fun q9 => hg2 q9.2.1)
  refine g_Vi (av := [.int to]) d_X_turn_10 k_X_105 ws_X_isSeries (by decide) rfl rfl (Nat.le_of_ble_eq_true rfl) rfl (c_X_isSeries_t hW hX hg2) ?_
  rintro _ _ ⟨rfl, rfl⟩
  refine n_if_ne d_X_turn_13 (by omega) (fun _ => ?_) (fun h9 => absurd h9 (by decide))
  have q1 := hg1
  have q3 := hg2
  rw [f_turn]
  obtain ⟨h0, ha1, ha2⟩ := hg1
  obtain ⟨_, ht1, ht2⟩ := hg2
  obtain ⟨z1, z2⟩ := hW.sz h0
  generalize ix a = a' at *
  subst ha2
  generalize ix to = t' at *
  subst ht2
  refine r_aload_n d_X_turn_18 rfl ?_
  refine g_getr (b := 393) d_X_turn_19 f_X_46 rfl rfl rfl ?_
  refine r_aload_n d_X_turn_22 rfl ?_
  refine g_getr (b := 37) d_X_turn_23 f_X_24 rfl rfl rfl ?_
  refine g_getr (b := 38) d_X_turn_26 f_X_112 rfl rfl rfl ?_
  refine r_iload_n d_X_turn_29 rfl ?_
  refine g_aald (b := (39+a')) (t := 5) (N := 6) d_X_turn_30 rfl (by decide) (by omega) (by omega) (g_ser ha1) ?_
  refine r_iload_n d_X_turn_31 rfl ?_
  refine r_aload_n d_X_turn_32 rfl ?_
  refine g_getr (b := 37) d_X_turn_33 f_X_24 rfl rfl rfl ?_
  refine g_geti d_X_turn_36 f_X_99 rfl rfl ?_
  refine r_top (y := (nI (S.1 0 3))) (hX.1.1) ?_
  refine g_Vi (av := [.ref (39+a'), .int how, .int (nI (S.1 0 3))]) d_X_turn_39 k_X_138 ws_Sb_turnAbout (by decide) rfl rfl (Nat.le_of_ble_eq_true rfl) rfl (c_Sb_turnAbout (t_ser ha1) (by omega) (by omega) z1 z2 (hX.row hW ha1) (x8.at 394 (by decide) (by decide) rfl) (x8.at 395 (by decide) (by decide) rfl) (x8.at 396 (by decide) (by decide) rfl)) ?_
  rintro r M1 ⟨k1, ⟨h, rfl, k2, rfl, k3⟩ | ⟨k2, rfl⟩⟩
  · have hB1 := k1.bf x8
    have hh : ix (nI h) = h := ix_nI (by have := k2.1; omega)
    rw [ic_t ⟨q1, q3, by rw [hh], by rw [hh]; exact k2⟩, hh]
    refine n_if_ne d_X_turn_42 (by omega) (fun _ => ?_) (fun h9 => absurd h9 (by decide))
    refine r_aload_n d_X_turn_47 rfl ?_
    refine r_aload_n d_X_turn_48 rfl ?_
    refine g_getr (b := 393) d_X_turn_49 f_X_46 rfl rfl rfl ?_
    refine g_getr (b := 394) d_X_turn_52 f_X_130 rfl rfl rfl ?_
    refine r_iload_n d_X_turn_55 rfl ?_
    refine g_Vi (av := [.ref 394, .int (nI t')]) d_X_turn_56 k_X_134 ws_X_landSeries (by decide) rfl rfl (Nat.le_of_ble_eq_true rfl) rfl (c_X_landSeries hW (hX.bf hB1) h0 rfl (by decide) ht1 k3) ?_
    rintro r M2 k4
    refine g_reti d_X_turn_59 rfl ?_
    exact k4.bf hB1
  · have hB1 := k1.bf x8
    refine n_if_ne d_X_turn_42 (by omega) (fun h9 => absurd h9 (by decide)) (fun _ => ?_)
    refine r_iconst (v := -1) d_X_turn_45 (by decide) ?_
    refine g_reti d_X_turn_46 rfl ?_
    exact (PX.no (hX.bf hB1) (fun z => k2 _ z.2.2.1 z.2.2.2)).bf hB1
theorem c_X_raise {a k to : Int32} (hW : WS S) (hX : XR M S) : CI o l m_X_raise n [.ref 0, .int a, .int k, .int to] M (PX M (f_raise S a k to)) := by
  refine ci_of rfl rfl rfl (Nat.le_of_ble_eq_true rfl) ?_
  have x8 := hX.2.2.2.2
  refine r_aload_n d_X_raise_0 rfl ?_
  refine r_iload_n d_X_raise_1 rfl ?_
  by_cases hg1 : okS S a
  case neg =>
    refine g_Vi (av := [.int a]) d_X_raise_2 k_X_105 ws_X_isSeries (by decide) rfl rfl (Nat.le_of_ble_eq_true rfl) rfl (c_X_isSeries_f hW hX hg1) ?_
    rintro _ _ ⟨rfl, rfl⟩
    refine n_if_eq d_X_raise_5 (by omega) (fun _ => ?_) (fun h9 => absurd h9 (by decide))
    refine r_iconst (v := -1) d_X_raise_26 (by decide) ?_
    refine g_reti d_X_raise_27 rfl ?_
    exact PX.no hX (fun q9 => hg1 q9.1)
  refine g_Vi (av := [.int a]) d_X_raise_2 k_X_105 ws_X_isSeries (by decide) rfl rfl (Nat.le_of_ble_eq_true rfl) rfl (c_X_isSeries_t hW hX hg1) ?_
  rintro _ _ ⟨rfl, rfl⟩
  refine n_if_eq d_X_raise_5 (by omega) (fun h9 => absurd h9 (by decide)) (fun _ => ?_)
  refine r_aload_n d_X_raise_8 rfl ?_
  refine r_iload_n d_X_raise_9 rfl ?_
  by_cases hg2 : okS S to
  case neg =>
    refine g_Vi (av := [.int to]) d_X_raise_10 k_X_105 ws_X_isSeries (by decide) rfl rfl (Nat.le_of_ble_eq_true rfl) rfl (c_X_isSeries_f hW hX hg2) ?_
    rintro _ _ ⟨rfl, rfl⟩
    refine n_if_eq d_X_raise_13 (by omega) (fun _ => ?_) (fun h9 => absurd h9 (by decide))
    refine r_iconst (v := -1) d_X_raise_26 (by decide) ?_
    refine g_reti d_X_raise_27 rfl ?_
    exact PX.no hX (fun q9 => hg2 q9.2.1)
  refine g_Vi (av := [.int to]) d_X_raise_10 k_X_105 ws_X_isSeries (by decide) rfl rfl (Nat.le_of_ble_eq_true rfl) rfl (c_X_isSeries_t hW hX hg2) ?_
  rintro _ _ ⟨rfl, rfl⟩
  refine n_if_eq d_X_raise_13 (by omega) (fun h9 => absurd h9 (by decide)) (fun _ => ?_)
  have q1 := hg1
  have q3 := hg2
  rw [f_raise]
  obtain ⟨h0, ha1, ha2⟩ := hg1
  obtain ⟨_, ht1, ht2⟩ := hg2
  obtain ⟨z1, z2⟩ := hW.sz h0
  generalize ix a = a' at *
  subst ha2
  generalize ix to = t' at *
  subst ht2
  rcases inN_cases (N := 100) (v := k) (by decide) with ⟨h1, h2⟩ | ⟨h1, h2, h3⟩ | ⟨_, _, h1⟩
  · refine r_iload_n d_X_raise_16 rfl ?_
    refine r_if_lt d_X_raise_17 (fun hc => ?_) (fun hc => ?_)
    · refine r_iconst (v := -1) d_X_raise_26 (by decide) ?_
      refine g_reti d_X_raise_27 rfl ?_
      exact PX.no hX (fun z => h2 z.2.2)
    · exact absurd h1 hc
  · refine r_iload_n d_X_raise_16 rfl ?_
    refine r_if_lt d_X_raise_17 (fun hc => ?_) (fun hc => ?_)
    · exact absurd hc h1
    · refine r_iload_n d_X_raise_20 rfl ?_
      refine r_bipush (v := nI 99) d_X_raise_21 (by decide) ?_
      refine r_icmp_le d_X_raise_23 (fun hc2 => ?_) (fun hc2 => ?_)
      · exact absurd (le99 hc2) (fun z => Int32.not_lt.mpr h2 z)
      · refine r_iconst (v := -1) d_X_raise_26 (by decide) ?_
        refine g_reti d_X_raise_27 rfl ?_
        exact PX.no hX (fun z => h3 z.2.2)
  · rw [ic_t ⟨q1, q3, h1⟩]
    obtain ⟨h2, h3⟩ := h1
    generalize ix k = k' at *
    subst h3
    refine r_iload_n d_X_raise_16 rfl ?_
    refine n_if_lt d_X_raise_17 (by omega) ?_
    refine r_iload_n d_X_raise_20 rfl ?_
    refine r_bipush (v := nI 99) d_X_raise_21 (by decide) ?_
    refine n_icmp_le d_X_raise_23 (by omega) (by omega) (fun hc2 => ?_) (fun hc2 => ?_)
    · refine r_aload_n d_X_raise_28 rfl ?_
      refine g_getr (b := 393) d_X_raise_29 f_X_46 rfl rfl rfl ?_
      refine r_aload_n d_X_raise_32 rfl ?_
      refine g_getr (b := 37) d_X_raise_33 f_X_24 rfl rfl rfl ?_
      refine g_getr (b := 38) d_X_raise_36 f_X_112 rfl rfl rfl ?_
      refine r_iload_n d_X_raise_39 rfl ?_
      refine g_aald (b := (39+a')) (t := 5) (N := 6) d_X_raise_40 rfl (by decide) (by omega) (by omega) (g_ser ha1) ?_
      refine r_iload_n d_X_raise_41 rfl ?_
      refine r_aload_n d_X_raise_42 rfl ?_
      refine g_getr (b := 37) d_X_raise_43 f_X_24 rfl rfl rfl ?_
      refine g_geti d_X_raise_46 f_X_99 rfl rfl ?_
      refine r_top (y := (nI (S.1 0 3))) (hX.1.1) ?_
      refine g_Vv (av := [.ref (39+a'), .int (nI k'), .int (nI (S.1 0 3))]) d_X_raise_49 k_X_142 ws_Sb_raiseTo (by decide) rfl rfl (Nat.le_of_ble_eq_true rfl) rfl (c_Sb_raiseTo (t_ser ha1) (by omega) (by omega) z1 z2 h2 (hX.row hW ha1) (x8.at 396 (by decide) (by decide) rfl)) ?_
      rintro M1 ⟨k1, k3⟩
      have hB1 := k1.bf x8
      refine r_aload_n d_X_raise_52 rfl ?_
      refine r_aload_n d_X_raise_53 rfl ?_
      refine g_getr (b := 393) d_X_raise_54 f_X_46 rfl rfl rfl ?_
      refine g_getr (b := 394) d_X_raise_57 f_X_130 rfl rfl rfl ?_
      refine r_iload_n d_X_raise_60 rfl ?_
      refine g_Vi (av := [.ref 394, .int (nI t')]) d_X_raise_61 k_X_134 ws_X_landSeries (by decide) rfl rfl (Nat.le_of_ble_eq_true rfl) rfl (c_X_landSeries hW (hX.bf hB1) h0 rfl (by decide) ht1 k3) ?_
      rintro r M2 k4
      refine g_reti d_X_raise_64 rfl ?_
      exact k4.bf hB1
    · omega
end C45
