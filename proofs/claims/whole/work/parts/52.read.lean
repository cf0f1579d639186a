noncomputable def sizL (T : Nat → Nat) (w p : Nat) : Nat × Nat × Nat × Nat :=
  if tK T w p ≠ 5 then (1, tQ T w p, 0, p)
  else if tK T w (tE T w p) ≠ 2 then (1, tQ T w (tE T w p), 0, p)
  else if tV T w (tE T w p) < 2 ∨ 10 < tV T w (tE T w p) then (2, tQ T w (tE T w p), 0, p)
  else if tK T w (tE T w (tE T w p)) ≠ 3 then (1, tQ T w (tE T w (tE T w p)), 0, p)
  else (0, 0, tV T w (tE T w p), tE T w (tE T w (tE T w p)))
noncomputable def serE (T : Nat → Nat) (w a : Nat) (C : Core) (x : Nat → Nat) (p : Nat) : Nat × Nat × Core × Nat :=
  if tK T w p ≠ 3 then (1, tQ T w p, C, p) else (0, 0, rowA C (2 + a) x, tE T w p)
noncomputable def serL (T : Nat → Nat) (w s a : Nat) (C : Core) (p : Nat) : Nat × Nat × Core × Nat :=
  if 6 ≤ a then (3, tQ T w p, C, p)
  else if (rdS T w 0 s 0 (tE T w p) (fun _ => 0)).1.1 ≠ 0 then ((rdS T w 0 s 0 (tE T w p) (fun _ => 0)).1.1, (rdS T w 0 s 0 (tE T w p) (fun _ => 0)).1.2, C, p)
  else if tK T w (rdS T w 0 s 0 (tE T w p) (fun _ => 0)).2.2 ≠ 7 then serE T w a C (rdS T w 0 s 0 (tE T w p) (fun _ => 0)).2.1 (rdS T w 0 s 0 (tE T w p) (fun _ => 0)).2.2
  else if (rdS T w 1 s 0 (tE T w (rdS T w 0 s 0 (tE T w p) (fun _ => 0)).2.2) (fun _ => 0)).1.1 ≠ 0 then ((rdS T w 1 s 0 (tE T w (rdS T w 0 s 0 (tE T w p) (fun _ => 0)).2.2) (fun _ => 0)).1.1, (rdS T w 1 s 0 (tE T w (rdS T w 0 s 0 (tE T w p) (fun _ => 0)).2.2) (fun _ => 0)).1.2, C, p)
  else serE T w a C (fun j => if j < s then dv (rdS T w 0 s 0 (tE T w p) (fun _ => 0)).2.1 (rdS T w 1 s 0 (tE T w (rdS T w 0 s 0 (tE T w p) (fun _ => 0)).2.2) (fun _ => 0)).2.1 j else (rdS T w 0 s 0 (tE T w p) (fun _ => 0)).2.1 j) (rdS T w 1 s 0 (tE T w (rdS T w 0 s 0 (tE T w p) (fun _ => 0)).2.2) (fun _ => 0)).2.2
noncomputable def tabL (T : Nat → Nat) (w a b : Nat) (C : Core) (p : Nat) : Nat × Nat × Core × Nat :=
  if 4 ≤ b then (3, tQ T w p, C, p)
  else if tK T w (tE T w p) ≠ 2 then (1, tQ T w (tE T w p), C, p)
  else if a ≤ tV T w (tE T w p) then (2, tQ T w (tE T w p), C, p)
  else if tK T w (tE T w (tE T w p)) ≠ 2 then (1, tQ T w (tE T w (tE T w p)), C, p)
  else if a ≤ tV T w (tE T w (tE T w p)) then (2, tQ T w (tE T w (tE T w p)), C, p)
  else if ¬ (C (2 + tV T w (tE T w p)) 0 ≠ 0 ∧ C (2 + tV T w (tE T w (tE T w p))) 0 = 0 ∧ C (2 + tV T w (tE T w (tE T w p))) 1 ≠ 0) then (4, tQ T w (tE T w (tE T w p)), C, p)
  else if tK T w (tE T w (tE T w (tE T w p))) ≠ 3 then (1, tQ T w (tE T w (tE T w (tE T w p))), C, p)
  else (0, 0, tabC C b (C (2 + tV T w (tE T w p))) (C (2 + tV T w (tE T w (tE T w p)))), tE T w (tE T w (tE T w (tE T w p))))
noncomputable def lnS (T : Nat → Nat) (w s : Nat) : Nat → Core → Nat → Nat → Nat → Nat × Nat × Core × Nat × Nat
  | 0, C, a, b, _ => (0, 0, C, a, b)
  | d + 1, C, a, b, p =>
    if tK T w p = 1 then (0, 0, C, a, b)
    else if tK T w p = 6 then (if (serL T w s a C p).1 ≠ 0 then ((serL T w s a C p).1, (serL T w s a C p).2.1, C, a, b) else lnS T w s d (serL T w s a C p).2.2.1 (a + 1) b (serL T w s a C p).2.2.2)
    else if tK T w p = 8 then (if (tabL T w a b C p).1 ≠ 0 then ((tabL T w a b C p).1, (tabL T w a b C p).2.1, C, a, b) else lnS T w s d (tabL T w a b C p).2.2.1 a (b + 1) (tabL T w a b C p).2.2.2)
    else (1, tQ T w p, C, a, b)
def szC (s : Nat) : Core := fun q j => if q = 0 ∧ j = 3 then s else C0 q j
noncomputable def txt (T : Nat → Nat) (w : Nat) : Nat × Nat × Core × Nat × Nat :=
  if tK T w 0 = 1 then (0, 0, C0, 0, 0)
  else if (sizL T w 0).1 ≠ 0 then ((sizL T w 0).1, (sizL T w 0).2.1, C0, 0, 0)
  else lnS T w (sizL T w 0).2.2.1 11 (szC (sizL T w 0).2.2.1) 0 0 (sizL T w 0).2.2.2
theorem rdS_z {T : Nat → Nat} {w bb d i p : Nat} {row : Nat → Nat} (hrow : ∀ j, i + d ≤ j → row j = 0) : ∀ j, i + d ≤ j → (rdS T w bb d i p row).2.1 j = 0 := by
  induction d generalizing i p row with
  | zero => exact hrow
  | succ d ih =>
    intro j hj
    rw [rdS]
    generalize (if tK T w p = 4 then tE T w p else p) = p1
    by_cases c1 : 0 < i ∧ tK T w p ≠ 4 ∧ tK T w p ≠ 2
    · rw [if_pos c1]; exact hrow j hj
    rw [if_neg c1]
    by_cases c2 : tK T w p1 ≠ 2
    · rw [if_pos c2]; exact hrow j hj
    rw [if_neg c2]
    by_cases c3 : i = 0 ∧ bb = 1 ∧ tV T w p1 = 0
    · rw [if_pos c3]; exact hrow j hj
    rw [if_neg c3]
    exact ih (i := i + 1) (fun k hk => by
      try dsimp only
      rw [if_neg (show ¬ k = i by omega)]
      exact hrow k (by omega)) j (by omega)
theorem rdS_lt {T : Nat → Nat} {w bb d i p : Nat} {row : Nat → Nat} (hrow : ∀ j, row j < 1000003) : ∀ j, (rdS T w bb d i p row).2.1 j < 1000003 := by
  induction d generalizing i p row with
  | zero => exact hrow
  | succ d ih =>
    intro j
    rw [rdS]
    by_cases c1 : 0 < i ∧ tK T w p ≠ 4 ∧ tK T w p ≠ 2
    · rw [if_pos c1]; exact hrow j
    rw [if_neg c1]
    by_cases c2 : tK T w (if tK T w p = 4 then tE T w p else p) ≠ 2
    · rw [if_pos c2]; exact hrow j
    rw [if_neg c2]
    by_cases c3 : i = 0 ∧ bb = 1 ∧ tV T w (if tK T w p = 4 then tE T w p else p) = 0
    · rw [if_pos c3]; exact hrow j
    rw [if_neg c3]
    refine ih (fun k => ?_) j
    try dsimp only
    by_cases c4 : k = i
    · rw [if_pos c4]
      by_cases c5 : tK T w p = 4
      · rw [if_pos c5]
        exact Nat.mod_lt _ (by decide)
      · rw [if_neg c5] at c2 ⊢
        have := tV_lt (Classical.not_not.mp c2)
        omega
    · rw [if_neg c4]
      exact hrow k
/-- the draft while lines are read -/
def RQ (M : Mem) (T : Nat → Nat) (w s a b p : Nat) (C : Core) : Prop := RT M T w ∧ TK M T w p ∧ StA M 2 C ∧ WC C ∧ C 0 3 = s ∧ a ≤ 6 ∧ b ≤ 4 ∧ M 1 8 = nI a ∧ M 1 9 = nI b ∧ M 1 10 = nI 0 ∧ Ok M 36
/-- what reading leaves alone -/
def RL (M M' : Mem) : Prop := (∀ b, b = 0 ∨ (34 ≤ b ∧ b ≠ 36) → M' b = M b) ∧ Ok M' 36
theorem WC.row {C : Core} {k : Nat} {x : Nat → Nat} (h : WC C) (hk : 2 ≤ k ∧ k < 8) (hx : ∀ j, j < 10 → x j < 1000003) (hz : C 0 3 ≠ 0 → ∀ j, C 0 3 ≤ j → j < 10 → x j = 0) : WC (rowA C k x) := by
  obtain ⟨h1, h2, h3, h4, h5⟩ := h
  have e : rowA C k x 0 3 = C 0 3 := by rw [rowA, if_neg (by omega)]
  refine ⟨by rw [e]; exact h1, fun q hq j hj => ?_, fun h0 q hq j hj1 hj2 => ?_, fun t ht => ?_, fun a b ha hb hb2 => ?_⟩
  · unfold rowA
    split
    · exact hx j hj
    · exact h2 q hq j hj
  · rw [e] at h0 hj1
    unfold rowA
    split
    · exact hz h0 j hj1 hj2
    · exact h3 h0 q hq j hj1 hj2
  · rw [rowA, if_neg (by omega), rowA, if_neg (by omega), rowA, if_neg (by omega)]
    exact h4 t ht
  · rw [rowA, if_neg (by omega)]
    exact h5 a b ha hb hb2
theorem WC.tab {C : Core} {t : Nat} {g f : Nat → Nat} (h : WC C) (ht : t < 4) (hg : ∀ j, j < 10 → g j < 1000003) (hf : ∀ j, j < 10 → f j < 1000003) (zg : C 0 3 ≠ 0 → ∀ j, C 0 3 ≤ j → j < 10 → g j = 0) (zf : C 0 3 ≠ 0 → ∀ j, C 0 3 ≤ j → j < 10 → f j = 0) (hm : g 0 ≠ 0 ∧ f 0 = 0 ∧ f 1 ≠ 0) : WC (tabC C t g f) := by
  obtain ⟨h1, h2, h3, h4, h5⟩ := h
  have e : tabC C t g f 0 3 = C 0 3 := by rw [tabC, if_neg (by omega), if_neg (by omega)]
  refine ⟨by rw [e]; exact h1, fun q hq j hj => ?_, fun h0 q hq j hj1 hj2 => ?_, fun u hu => ?_, fun a b ha hb hb2 => ?_⟩
  · unfold tabC
    split
    · exact hg j hj
    split
    · exact hf j hj
    · exact h2 q hq j hj
  · rw [e] at h0 hj1
    unfold tabC
    split
    · exact zg h0 j hj1 hj2
    split
    · exact zf h0 j hj1 hj2
    · exact h3 h0 q hq j hj1 hj2
  · by_cases c : u = t
    · subst c
      rw [tabC, if_pos rfl, tabC, if_neg (by omega), if_pos rfl, tabC, if_neg (by omega), if_pos rfl]
      exact hm
    · rw [tabC, if_neg (by omega), if_neg (by omega), tabC, if_neg (by omega), if_neg (by omega), tabC, if_neg (by omega), if_neg (by omega)]
      exact h4 u hu
  · rw [tabC, if_neg (by omega), if_neg (by omega)]
    exact h5 a b ha hb hb2
theorem WC.c0 : WC C0 := by
  refine ⟨Or.inl rfl, fun q hq j hj => ?_, fun h => absurd rfl h, fun t ht => ?_, fun a b ha hb hb2 => ?_⟩
  · unfold C0
    split <;> decide
  · refine ⟨?_, ?_, ?_⟩
    · rw [C0, if_pos (by omega)]; decide
    · rw [C0, if_neg (by omega)]
    · rw [C0, if_pos (by omega)]; decide
  · rw [C0, if_neg (by omega)]
theorem WC.sz0 {s : Nat} (h : 2 ≤ s ∧ s ≤ 10) : WC (szC s) ∧ szC s 0 3 = s := by
  have e : szC s 0 3 = s := by rw [szC, if_pos ⟨rfl, rfl⟩]
  have n : ∀ q j, q ≠ 0 → szC s q j = C0 q j := fun q j hq => by rw [szC, if_neg (fun z => hq z.1)]
  refine ⟨⟨by rw [e]; omega, fun q hq j hj => ?_, fun h0 q hq j hj1 hj2 => ?_, fun t ht => ?_, fun a b ha hb hb2 => ?_⟩, e⟩
  · rw [n q j (by unfold rIx at hq; omega)]
    exact WC.c0.2.1 q hq j hj
  · rw [e] at hj1
    rw [n q j (by unfold rIx at hq; omega), C0, if_neg (by omega)]
  · rw [n _ _ (by omega), n _ _ (by omega), n _ _ (by omega)]
    exact WC.c0.2.2.2.1 t ht
  · rw [n _ _ (by omega)]
    exact WC.c0.2.2.2.2 a b ha hb hb2
theorem g_ser2 {s : Nat} (h : s < 6) : gR 3 s = some (4 + s) := (isSt_2.2.2.2.2.2.2.2.1 s h).1
theorem t_ser2 {s : Nat} (h : s < 6) : gT (4 + s) = (1, 10) := (isSt_2.2.2.2.2.2.2.2.1 s h).2
theorem g_tab2 {t : Nat} (h : t < 4) : gR 10 t = some (22 + 3 * t) := (isSt_2.2.2.2.2.2.2.2.2.1 t h).1
theorem t_tab2 {t : Nat} (h : t < 4) : isTb (22 + 3 * t) := (isSt_2.2.2.2.2.2.2.2.2.1 t h).2
theorem RL.of {M M' : Mem} (h : RF M M') (ho : Ok M 36) : RL M M' := ⟨fun b hb => h.1 b (by omega), ho.kept (h.1 36 (by decide))⟩
theorem RL.one {M M' : Mem} (h : ∀ b, b ≠ 1 → M' b = M b) (ho : Ok M 36) : RL M M' := ⟨fun b hb => h b (by omega), ho.kept (h 36 (by decide))⟩
theorem RL.trans {M M1 M2 : Mem} (h : RL M M1) (h2 : RL M1 M2) : RL M M2 := ⟨fun b hb => (h2.1 b hb).trans (h.1 b hb), h2.2⟩
section C52
variable {o : OM} {l : Launch} {n : Nat} {M : Mem} {T : Nat → Nat} {w : Nat}
theorem c_Re_readSizeLine {p : Nat} (hO : OS o) (hR : RT M T w) (hK : TK M T w p) (hC : StA M 2 C0) (h36 : Ok M 36) (h8 : M 1 8 = nI 0) (h9 : M 1 9 = nI 0) (h10 : M 1 10 = nI 0) : CI o l m_Re_readSizeLine n [.ref 1] M (fun x M' => RL M M' ∧ ((x = nI 1 ∧ M' 1 7 = M 1 7 ∧ (sizL T w p).1 = 0 ∧ RQ M' T w (sizL T w p).2.2.1 0 0 (sizL T w p).2.2.2 (szC (sizL T w p).2.2.1)) ∨ (x = nI 0 ∧ (sizL T w p).1 ≠ 0 ∧ RB M' (sizL T w p).1 (sizL T w p).2.1))) := by
  refine ci_of rfl rfl rfl (Nat.le_of_ble_eq_true rfl) ?_
  generalize hres : sizL T w p = res
  unfold sizL at hres
  have kle := tK_le (T := T) (w := w) p
  refine r_aload_n d_Re_readSizeLine_0 rfl ?_
  refine g_geti d_Re_readSizeLine_1 f_Re_54 rfl rfl ?_
  refine r_top (y := (nI (tK T w p))) (hK.2.1) ?_
  refine r_iconst (v := nI 5) d_Re_readSizeLine_4 (by decide) ?_
  refine n_icmp_eq d_Re_readSizeLine_5 (by omega) (by omega) (fun hc => ?_) (fun hc => ?_)
  · rw [if_neg (fun z => z hc)] at hres
    refine r_aload_n d_Re_readSizeLine_14 rfl ?_
    refine g_Vv (av := []) d_Re_readSizeLine_15 k_Re_51 ws_Re_step (by decide) rfl rfl (Nat.le_of_ble_eq_true rfl) rfl (c_Re_next hO hR hK) ?_
    rintro M1 ⟨k1, k2⟩
    generalize tE T w p = p1 at *
    have kle := tK_le (T := T) (w := w) p1
    refine r_aload_n d_Re_readSizeLine_18 rfl ?_
    refine g_geti d_Re_readSizeLine_19 f_Re_54 rfl rfl ?_
    refine r_top (y := (nI (tK T w p1))) (k2.2.1) ?_
    refine r_iconst (v := nI 2) d_Re_readSizeLine_22 (by decide) ?_
    refine n_icmp_eq d_Re_readSizeLine_23 (by omega) (by omega) (fun hc1 => ?_) (fun hc1 => ?_)
    · rw [if_neg (fun z => z hc1)] at hres
      have v9 := tV_lt hc1
      have rej : (tV T w p1 < 2 ∨ 10 < tV T w p1) → Rn o l m_Re_readSizeLine (0, 0) 49 [some (.ref 1)] [] (gh n M1) (QI n (fun x M' => RL M M' ∧ ((x = nI 1 ∧ M' 1 7 = M 1 7 ∧ res.1 = 0 ∧ RQ M' T w res.2.2.1 0 0 res.2.2.2 (szC res.2.2.1)) ∨ (x = nI 0 ∧ res.1 ≠ 0 ∧ RB M' res.1 res.2.1)))) := by
        intro hv
        rw [if_pos hv] at hres
        subst hres
        refine r_aload_n d_Re_readSizeLine_49 rfl ?_
        refine r_iconst (v := nI 2) d_Re_readSizeLine_50 (by decide) ?_
        refine g_Vi (av := [.int (nI 2)]) d_Re_readSizeLine_51 k_Re_61 ws_Re_refuse (by decide) rfl rfl (Nat.le_of_ble_eq_true rfl) rfl (c_Re_refuse) ?_
        rintro x M4 ⟨rfl, e4⟩
        refine g_retz d_Re_readSizeLine_54 rfl (by decide) ?_
        refine ⟨RL.one (fun b b1 => by rw [e4, rf_ne b1]; exact k1.1 b b1) h36, Or.inr ⟨rfl, (show 2 ≠ 0 by decide), ?_⟩⟩
        rw [e4]
        exact rf_at k2.2.2.1
      refine r_aload_n d_Re_readSizeLine_32 rfl ?_
      refine g_geti d_Re_readSizeLine_33 f_Re_71 rfl rfl ?_
      refine r_top (y := (nI (tV T w p1))) (k2.2.2.2.1 hc1) ?_
      refine r_iconst (v := nI 2) d_Re_readSizeLine_36 (by decide) ?_
      refine n_icmp_lt d_Re_readSizeLine_37 (by omega) (by omega) (fun hc2 => ?_) (fun hc2 => ?_)
      · exact rej (Or.inl hc2)
      · refine r_aload_n d_Re_readSizeLine_40 rfl ?_
        refine g_geti d_Re_readSizeLine_41 f_Re_71 rfl rfl ?_
        refine r_top (y := (nI (tV T w p1))) (k2.2.2.2.1 hc1) ?_
        refine r_bipush (v := nI 10) d_Re_readSizeLine_44 (by decide) ?_
        refine n_icmp_le d_Re_readSizeLine_46 (by omega) (by omega) (fun hc3 => ?_) (fun hc3 => ?_)
        · rw [if_neg (by omega)] at hres
          refine r_aload_n d_Re_readSizeLine_55 rfl ?_
          refine g_getr (b := 2) d_Re_readSizeLine_56 f_Re_12 rfl rfl rfl ?_
          refine r_aload_n d_Re_readSizeLine_59 rfl ?_
          refine g_geti d_Re_readSizeLine_60 f_Re_71 rfl rfl ?_
          refine r_top (y := (nI (tV T w p1))) (k2.2.2.2.1 hc1) ?_
          refine g_puti d_Re_readSizeLine_63 f_Re_74 ⟨rfl, rfl, rfl⟩ rfl ?_
          have st1 : StA (upm M1 2 3 (nI (tV T w p1))) 2 (szC (tV T w p1)) := by
            refine ⟨by rw [upm_at, if_pos rfl, szC, if_pos ⟨rfl, rfl⟩], fun k hk j hj => ?_⟩
            have : k ≠ 0 := by unfold rIx at hk; omega
            rw [upm_ne _ _ _ (by omega), k1.1 _ (by omega), szC, if_neg (fun z => this z.1)]
            exact hC.2 k hk j hj
          have f2 : ∀ b, b ≠ 2 → upm M1 2 3 (nI (tV T w p1)) b = M1 b := fun b hb => upm_ne _ _ _ hb
          generalize upm M1 2 3 (nI (tV T w p1)) = M2 at *
          refine r_aload_n d_Re_readSizeLine_66 rfl ?_
          have rt2 : RT M2 T w := (hR.rf k1).kept (f2 _ (by decide)) (f2 _ (by decide))
          refine g_Vv (av := []) d_Re_readSizeLine_67 k_Re_51 ws_Re_step (by decide) rfl rfl (Nat.le_of_ble_eq_true rfl) rfl (c_Re_next hO rt2 (k2.kept (fun k _ _ => by rw [f2 1 (by decide)]))) ?_
          rintro M3 ⟨k3, k4⟩
          refine r_aload_n d_Re_readSizeLine_70 rfl ?_
          refine g_Vi (av := []) d_Re_readSizeLine_71 k_Re_77 ws_Re_readSemicolon (by decide) rfl rfl (Nat.le_of_ble_eq_true rfl) rfl (c_Re_readSemicolon hO (rt2.rf k3) k4) ?_
          rintro x M4 ⟨k5, k6⟩
          refine g_retz d_Re_readSizeLine_74 rfl (by rcases k6 with k6 | k6 <;> (rw [k6.1]; decide)) ?_
          have l4 : RL M M4 := ⟨fun b hb => by rw [k5 b (by omega), k3.1 b (by omega), f2 b (by omega), k1.1 b (by omega)], h36.kept (by rw [k5 36 (by omega), k3.1 36 (by omega), f2 36 (by omega), k1.1 36 (by omega)])⟩
          refine ⟨l4, ?_⟩
          rcases k6 with ⟨rfl, k7, k8, k9⟩ | ⟨rfl, k7, k8⟩
          · rw [if_neg (fun z => z k7)] at hres
            subst hres
            have q8 : ∀ k, k ≠ 3 → k ≠ 4 → k ≠ 5 → k ≠ 6 → M4 1 k = M 1 k := fun k a1 a2 a3 a4 => by rw [k8.2 k a1 a2 a3 a4, k3.2 k a1 a2 a3 a4, f2 1 (by decide), k1.2 k a1 a2 a3 a4]
            refine Or.inl ⟨rfl, q8 7 (by decide) (by decide) (by decide) (by decide), rfl, (rt2.rf k3).rf k8, k9, st1.kept (fun a a1 a2 => by rw [k5 a (by omega), k3.1 a (by omega)]), (WC.sz0 (s := tV T w p1) (by omega)).1, (WC.sz0 (s := tV T w p1) (by omega)).2, by decide, by decide, by rw [q8 8 (by decide) (by decide) (by decide) (by decide)]; exact h8, by rw [q8 9 (by decide) (by decide) (by decide) (by decide)]; exact h9, by rw [q8 10 (by decide) (by decide) (by decide) (by decide)]; exact h10, l4.2⟩
          · rw [if_pos k7] at hres
            subst hres
            exact Or.inr ⟨rfl, (show 1 ≠ 0 by decide), k8⟩
        · exact rej (Or.inr hc3)
    · rw [if_pos hc1] at hres
      subst hres
      refine r_aload_n d_Re_readSizeLine_26 rfl ?_
      refine r_iconst (v := nI 1) d_Re_readSizeLine_27 (by decide) ?_
      refine g_Vi (av := [.int (nI 1)]) d_Re_readSizeLine_28 k_Re_61 ws_Re_refuse (by decide) rfl rfl (Nat.le_of_ble_eq_true rfl) rfl (c_Re_refuse) ?_
      rintro x M4 ⟨rfl, e4⟩
      refine g_retz d_Re_readSizeLine_31 rfl (by decide) ?_
      refine ⟨RL.one (fun b b1 => by rw [e4, rf_ne b1]; exact k1.1 b b1) h36, Or.inr ⟨rfl, (show 1 ≠ 0 by decide), ?_⟩⟩
      rw [e4]
      exact rf_at k2.2.2.1
  · rw [if_pos hc] at hres
    subst hres
    refine r_aload_n d_Re_readSizeLine_8 rfl ?_
    refine r_iconst (v := nI 1) d_Re_readSizeLine_9 (by decide) ?_
    refine g_Vi (av := [.int (nI 1)]) d_Re_readSizeLine_10 k_Re_61 ws_Re_refuse (by decide) rfl rfl (Nat.le_of_ble_eq_true rfl) rfl (c_Re_refuse) ?_
    rintro x M4 ⟨rfl, e4⟩
    refine g_retz d_Re_readSizeLine_13 rfl (by decide) ?_
    refine ⟨RL.one (fun b b1 => by rw [e4, rf_ne b1]) h36, Or.inr ⟨rfl, (show 1 ≠ 0 by decide), ?_⟩⟩
    rw [e4]
    exact rf_at hK.2.2.1
end C52
