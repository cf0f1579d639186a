/-! entry and production of the class: they answer or throw -/
def QE (n : Nat) (M : Mem) (S : SS) (c : Prop) (w : Nat) : Option Value → AH → Prop := fun v h' => ∃ M', h' = gh n M' ∧ XR M' S ∧ KX M M' ∧ ((c ∧ v = some (.int (nI w))) ∨ (¬ c ∧ v = none))
theorem QE.nn {n : Nat} {M : Mem} {S : SS} {c : Prop} {w : Nat} {h : AH} (e : hN h = n) : ∀ h', QE n M S c w none h' → hN h ≤ hN h' := by
  rintro h' ⟨M', rfl, _⟩
  exact Nat.le_of_eq e
section C81
variable {o : OM} {l : Launch} {n : Nat} {M : Mem} {S : SS}
theorem c_X_E {t i j : Int32} (hl : l.stackTraces = false) (hE : OE o) (hW : WS S) (hX : XR M S) : vx_Met l (mnam m_E) (mws m_E) (rmo m_E (1, 6)) (Pco o [.ref 0, .int t, .int i, .int j] (gh n M)) (Qco o (fun v h' => v ≠ none ∧ QE n M S (okT S t ∧ okP S i ∧ okP S j) (col (S.1 0 3) (gOf S t) (fOf S t) (ix j) (ix i)) v h')) (XCo o (QE n M S (okT S t ∧ okP S i ∧ okP S j) (col (S.1 0 3) (gOf S t) (fOf S t) (ix j) (ix i)))) 1 6 (fun q => ob0 o ≤ q) := by
  refine clx_of hl hE rfl rfl rfl rfl (Nat.le_of_ble_eq_true rfl) (Nat.le_of_ble_eq_true rfl) rfl (QE.nn rfl) (by decide +kernel) (by decide +kernel) (by decide +kernel) (by decide +kernel) ?_
  have x8 := hX.2.2.2.2
  have no : ∀ {L : List (Option Value)}, ¬ (okT S t ∧ okP S i ∧ okP S j) → Rn o l m_E (1, 6) 24 L [] (gh n M) (QE n M S (okT S t ∧ okP S i ∧ okP S j) (col (S.1 0 3) (gOf S t) (fOf S t) (ix j) (ix i))) := fun z => r_thr rfl rfl ⟨M, rfl, hX, fun _ _ => rfl, Or.inr ⟨z, rfl⟩⟩
  refine r_aload_n d_X_entry_0 rfl ?_
  refine r_iload_n d_X_entry_1 rfl ?_
  by_cases hg1 : okT S t
  case neg =>
    refine g_Vi (av := [.int t]) d_X_entry_2 k_X_146 ws_X_isTable (by decide) rfl rfl (Nat.le_of_ble_eq_true rfl) rfl (c_X_isTable_f hW hX hg1) ?_
    rintro _ _ ⟨rfl, rfl⟩
    refine n_if_eq d_X_entry_5 (by omega) (fun _ => ?_) (fun h9 => absurd h9 (by decide))
    exact no (fun q9 => hg1 q9.1)
  refine g_Vi (av := [.int t]) d_X_entry_2 k_X_146 ws_X_isTable (by decide) rfl rfl (Nat.le_of_ble_eq_true rfl) rfl (c_X_isTable_t hW hX hg1) ?_
  rintro _ _ ⟨rfl, rfl⟩
  refine n_if_eq d_X_entry_5 (by omega) (fun h9 => absurd h9 (by decide)) (fun _ => ?_)
  refine r_aload_n d_X_entry_8 rfl ?_
  refine r_iload_n d_X_entry_9 rfl ?_
  by_cases hg2 : okP S i
  case neg =>
    refine g_Vi (av := [.int i]) d_X_entry_10 k_X_109 ws_X_isWithinSize (by decide) rfl rfl (Nat.le_of_ble_eq_true rfl) rfl (c_X_isWithinSize_f hW hX hg2) ?_
    rintro _ _ ⟨rfl, rfl⟩
    refine n_if_eq d_X_entry_13 (by omega) (fun _ => ?_) (fun h9 => absurd h9 (by decide))
    exact no (fun q9 => hg2 q9.2.1)
  refine g_Vi (av := [.int i]) d_X_entry_10 k_X_109 ws_X_isWithinSize (by decide) rfl rfl (Nat.le_of_ble_eq_true rfl) rfl (c_X_isWithinSize_t hW hX hg2) ?_
  rintro _ _ ⟨rfl, rfl⟩
  refine n_if_eq d_X_entry_13 (by omega) (fun h9 => absurd h9 (by decide)) (fun _ => ?_)
  refine r_aload_n d_X_entry_16 rfl ?_
  refine r_iload_n d_X_entry_17 rfl ?_
  by_cases hg3 : okP S j
  case neg =>
    refine g_Vi (av := [.int j]) d_X_entry_18 k_X_109 ws_X_isWithinSize (by decide) rfl rfl (Nat.le_of_ble_eq_true rfl) rfl (c_X_isWithinSize_f hW hX hg3) ?_
    rintro _ _ ⟨rfl, rfl⟩
    refine n_if_ne d_X_entry_21 (by omega) (fun h9 => absurd h9 (by decide)) (fun _ => ?_)
    exact no (fun q9 => hg3 q9.2.2)
  refine g_Vi (av := [.int j]) d_X_entry_18 k_X_109 ws_X_isWithinSize (by decide) rfl rfl (Nat.le_of_ble_eq_true rfl) rfl (c_X_isWithinSize_t hW hX hg3) ?_
  rintro _ _ ⟨rfl, rfl⟩
  refine n_if_ne d_X_entry_21 (by omega) (fun _ => ?_) (fun h9 => absurd h9 (by decide))
  obtain ⟨h0, ha1, ha2⟩ := id hg1
  obtain ⟨hb1, hb2⟩ := id hg2
  obtain ⟨hc1, hc2⟩ := id hg3
  obtain ⟨z1, z2⟩ := hW.sz h0
  have all : okT S t ∧ okP S i ∧ okP S j := ⟨hg1, hg2, hg3⟩
  unfold gOf fOf
  clear no
  generalize (okT S t ∧ okP S i ∧ okP S j) = cc at *
  clear hg1 hg2 hg3
  generalize ix t = a' at *
  generalize ix i = b' at *
  generalize ix j = c' at *
  subst ha2
  subst hb2
  subst hc2
  refine r_aload_n d_X_entry_32 rfl ?_
  refine g_getr (b := 397) d_X_entry_33 f_X_53 rfl rfl rfl ?_
  refine r_aload_n d_X_entry_36 rfl ?_
  refine g_getr (b := 37) d_X_entry_37 f_X_24 rfl rfl rfl ?_
  refine g_getr (b := 45) d_X_entry_40 f_X_171 rfl rfl rfl ?_
  refine r_iload_n d_X_entry_43 rfl ?_
  refine g_aald (b := (57+3*a')) (t := 7) (N := 4) d_X_entry_44 rfl (by decide) (by omega) (by omega) (g_tab ha1) ?_
  refine r_iload_n d_X_entry_45 rfl ?_
  refine r_iload_n d_X_entry_46 rfl ?_
  refine r_aload_n d_X_entry_47 rfl ?_
  refine g_getr (b := 37) d_X_entry_48 f_X_24 rfl rfl rfl ?_
  refine g_geti d_X_entry_51 f_X_99 rfl rfl ?_
  refine r_top (y := (nI (S.1 0 3))) (hX.1.1) ?_
  refine g_Vi (av := [.ref (57+3*a'), .int (nI b'), .int (nI c'), .int (nI (S.1 0 3))]) d_X_entry_54 k_X_175 ws_Tb_entryOf (by decide) rfl rfl (Nat.le_of_ble_eq_true rfl) rfl (c_Tb_entryOf (t_tab ha1) z1 z2 (by omega) (by omega) (by omega) (hX.tab hW ha1)) ?_
  rintro r M1 ⟨rfl, k1, k2⟩
  refine r_ireturn (m := m_E) d_X_entry_57 rfl ?_
  have hB1 : BF M M1 := BF.of x8 k1 (by decide) (by decide) (fun b b1 b2 _ => by
    have : b = 407 := by omega
    subst this; exact k2)
  exact ⟨M1, rfl, hX.bf hB1, hB1.kx, Or.inl ⟨all, rfl⟩⟩
theorem c_X_P {t i j : Int32} (hl : l.stackTraces = false) (hE : OE o) (hW : WS S) (hX : XR M S) : vx_Met l (mnam m_P) (mws m_P) (rmo m_P (1, 6)) (Pco o [.ref 0, .int t, .int i, .int j] (gh n M)) (Qco o (fun v h' => v ≠ none ∧ QE n M S (okT S t ∧ okQ S i ∧ okQ S j) (pdc (col (S.1 0 3) (gOf S t) (fOf S t)) (ix j) (ix i)) v h')) (XCo o (QE n M S (okT S t ∧ okQ S i ∧ okQ S j) (pdc (col (S.1 0 3) (gOf S t) (fOf S t)) (ix j) (ix i)))) 1 6 (fun q => ob0 o ≤ q) := by
  refine clx_of hl hE rfl rfl rfl rfl (Nat.le_of_ble_eq_true rfl) (Nat.le_of_ble_eq_true rfl) rfl (QE.nn rfl) (by decide +kernel) (by decide +kernel) (by decide +kernel) (by decide +kernel) ?_
  have x8 := hX.2.2.2.2
  have no : ∀ {L : List (Option Value)}, ¬ (okT S t ∧ okQ S i ∧ okQ S j) → Rn o l m_P (1, 6) 24 L [] (gh n M) (QE n M S (okT S t ∧ okQ S i ∧ okQ S j) (pdc (col (S.1 0 3) (gOf S t) (fOf S t)) (ix j) (ix i))) := fun z => r_thr rfl rfl ⟨M, rfl, hX, fun _ _ => rfl, Or.inr ⟨z, rfl⟩⟩
  refine r_aload_n d_X_production_0 rfl ?_
  refine r_iload_n d_X_production_1 rfl ?_
  by_cases hg1 : okT S t
  case neg =>
    refine g_Vi (av := [.int t]) d_X_production_2 k_X_146 ws_X_isTable (by decide) rfl rfl (Nat.le_of_ble_eq_true rfl) rfl (c_X_isTable_f hW hX hg1) ?_
    rintro _ _ ⟨rfl, rfl⟩
    refine n_if_eq d_X_production_5 (by omega) (fun _ => ?_) (fun h9 => absurd h9 (by decide))
    exact no (fun q9 => hg1 q9.1)
  refine g_Vi (av := [.int t]) d_X_production_2 k_X_146 ws_X_isTable (by decide) rfl rfl (Nat.le_of_ble_eq_true rfl) rfl (c_X_isTable_t hW hX hg1) ?_
  rintro _ _ ⟨rfl, rfl⟩
  refine n_if_eq d_X_production_5 (by omega) (fun h9 => absurd h9 (by decide)) (fun _ => ?_)
  refine r_aload_n d_X_production_8 rfl ?_
  refine r_iload_n d_X_production_9 rfl ?_
  by_cases hg2 : okQ S i
  case neg =>
    refine g_Vi (av := [.int i]) d_X_production_10 k_X_201 ws_X_isWithinProduction (by decide) rfl rfl (Nat.le_of_ble_eq_true rfl) rfl (c_X_isWithinProduction_f hW hX hg1.1 hg2) ?_
    rintro _ _ ⟨rfl, rfl⟩
    refine n_if_eq d_X_production_13 (by omega) (fun _ => ?_) (fun h9 => absurd h9 (by decide))
    exact no (fun q9 => hg2 q9.2.1)
  refine g_Vi (av := [.int i]) d_X_production_10 k_X_201 ws_X_isWithinProduction (by decide) rfl rfl (Nat.le_of_ble_eq_true rfl) rfl (c_X_isWithinProduction_t hW hX hg2) ?_
  rintro _ _ ⟨rfl, rfl⟩
  refine n_if_eq d_X_production_13 (by omega) (fun h9 => absurd h9 (by decide)) (fun _ => ?_)
  refine r_aload_n d_X_production_16 rfl ?_
  refine r_iload_n d_X_production_17 rfl ?_
  by_cases hg3 : okQ S j
  case neg =>
    refine g_Vi (av := [.int j]) d_X_production_18 k_X_201 ws_X_isWithinProduction (by decide) rfl rfl (Nat.le_of_ble_eq_true rfl) rfl (c_X_isWithinProduction_f hW hX hg1.1 hg3) ?_
    rintro _ _ ⟨rfl, rfl⟩
    refine n_if_ne d_X_production_21 (by omega) (fun h9 => absurd h9 (by decide)) (fun _ => ?_)
    exact no (fun q9 => hg3 q9.2.2)
  refine g_Vi (av := [.int j]) d_X_production_18 k_X_201 ws_X_isWithinProduction (by decide) rfl rfl (Nat.le_of_ble_eq_true rfl) rfl (c_X_isWithinProduction_t hW hX hg3) ?_
  rintro _ _ ⟨rfl, rfl⟩
  refine n_if_ne d_X_production_21 (by omega) (fun _ => ?_) (fun h9 => absurd h9 (by decide))
  obtain ⟨h0, ha1, ha2⟩ := id hg1
  obtain ⟨hb1, hb2⟩ := id hg2
  obtain ⟨hc1, hc2⟩ := id hg3
  obtain ⟨z1, z2⟩ := hW.sz h0
  have all : okT S t ∧ okQ S i ∧ okQ S j := ⟨hg1, hg2, hg3⟩
  unfold gOf fOf
  clear no
  generalize (okT S t ∧ okQ S i ∧ okQ S j) = cc at *
  clear hg1 hg2 hg3
  generalize ix t = a' at *
  generalize ix i = b' at *
  generalize ix j = c' at *
  subst ha2
  subst hb2
  subst hc2
  refine r_aload_n d_X_production_32 rfl ?_
  refine g_getr (b := 397) d_X_production_33 f_X_53 rfl rfl rfl ?_
  refine r_aload_n d_X_production_36 rfl ?_
  refine g_getr (b := 37) d_X_production_37 f_X_24 rfl rfl rfl ?_
  refine g_getr (b := 45) d_X_production_40 f_X_171 rfl rfl rfl ?_
  refine r_iload_n d_X_production_43 rfl ?_
  refine g_aald (b := (57+3*a')) (t := 7) (N := 4) d_X_production_44 rfl (by decide) (by omega) (by omega) (g_tab ha1) ?_
  refine r_iload_n d_X_production_45 rfl ?_
  refine r_iload_n d_X_production_46 rfl ?_
  refine r_aload_n d_X_production_47 rfl ?_
  refine g_getr (b := 37) d_X_production_48 f_X_24 rfl rfl rfl ?_
  refine g_geti d_X_production_51 f_X_99 rfl rfl ?_
  refine r_top (y := (nI (S.1 0 3))) (hX.1.1) ?_
  refine g_Vi (av := [.ref (57+3*a'), .int (nI b'), .int (nI c'), .int (nI (S.1 0 3))]) d_X_production_54 k_X_204 ws_Tb_productionOf (by decide) rfl rfl (Nat.le_of_ble_eq_true rfl) rfl (c_Tb_productionOf (t_tab ha1) z1 z2 hb1 hc1 (by omega) x8 (hX.tab hW ha1)) ?_
  rintro r M1 ⟨rfl, hB1⟩
  refine r_ireturn (m := m_P) d_X_production_57 rfl ?_
  exact ⟨M1, rfl, hX.bf hB1, hB1.kx, Or.inl ⟨all, rfl⟩⟩
end C81
