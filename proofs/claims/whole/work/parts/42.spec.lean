/-! What the calls show: the core (series, tables, free table, size), the acts kept, the images, the tape, its length, the fault, what was told. -/
abbrev Core : Type := Nat → Nat → Nat
abbrev SS : Type := Core × List Core × (Nat → Option Core) × (Nat → Nat) × Nat × Nat × Nat × Nat
noncomputable def ic {α : Type} (c : Prop) (a b : α) : α := @ite α c (Classical.propDecidable c) a b
theorem ic_t {α : Type} {c : Prop} {a b : α} (h : c) : ic c a b = a := by unfold ic; rw [if_pos h]
theorem ic_f {α : Type} {c : Prop} {a b : α} (h : ¬ c) : ic c a b = b := by unfold ic; rw [if_neg h]
def ix (v : Int32) : Nat := v.toInt.toNat
theorem toInt_nI {n : Nat} (h : n < 2 ^ 31) : (nI n).toInt = n := by
  unfold nI
  exact Int32.toInt_ofNat_of_lt h
theorem ix_nI {n : Nat} (h : n < 2 ^ 31) : ix (nI n) = n := by
  unfold ix
  rw [toInt_nI h, Int.toNat_natCast]
def inN (N : Nat) (v : Int32) : Prop := ix v < N ∧ v = nI (ix v)
theorem nI_ix {v : Int32} (h : ¬ v < 0) : v = nI (ix v) := by
  have h1 : 0 ≤ v.toInt := by
    rw [Int32.lt_iff_toInt_lt] at h
    have : (0 : Int32).toInt = 0 := by decide
    omega
  have h2 := v.toInt_lt
  apply Int32.toInt_inj.mp
  unfold ix
  rw [toInt_nI (by omega)]
  omega
theorem inN_t {N : Nat} {v : Int32} (hN : N < 2 ^ 31) (h0 : ¬ v < 0) (h1 : ¬ nI N ≤ v) : inN N v := by
  have e := nI_ix h0
  refine ⟨?_, e⟩
  have h2 := v.toInt_lt
  have h3 : ix v < 2 ^ 31 := by unfold ix; omega
  rcases Nat.lt_or_ge (ix v) N with h | h
  · exact h
  · exact absurd (by rw [e]; exact (nI_leI hN h3).mpr h) h1
theorem inN_f1 {N : Nat} {v : Int32} (h0 : v < 0) : ¬ inN N v := by
  intro h
  have h2 := v.toInt_lt
  have h3 : ix v < 2 ^ 31 := by unfold ix; omega
  rw [h.2] at h0
  exact nI_pos h3 h0
theorem inN_f2 {N : Nat} {v : Int32} (hN : N < 2 ^ 31) (h0 : nI N ≤ v) : ¬ inN N v := by
  intro h
  rw [h.2] at h0
  have := (nI_leI hN (Nat.lt_trans h.1 hN)).mp h0
  have := h.1
  omega
theorem inN_cases {N : Nat} {v : Int32} (hN : N < 2 ^ 31) : (v < 0 ∧ ¬ inN N v) ∨ (¬ v < 0 ∧ nI N ≤ v ∧ ¬ inN N v) ∨ (¬ v < 0 ∧ ¬ nI N ≤ v ∧ inN N v) := by
  by_cases h : v < 0
  · exact Or.inl ⟨h, inN_f1 h⟩
  · by_cases h2 : nI N ≤ v
    · exact Or.inr (Or.inl ⟨h, h2, inN_f2 hN h2⟩)
    · exact Or.inr (Or.inr ⟨h, h2, inN_t hN h h2⟩)
/-- of residues, nothing beyond the size or above the diagonal, tables that can be undone -/
def WC (C : Core) : Prop := (C 0 3 = 0 ∨ (2 ≤ C 0 3 ∧ C 0 3 ≤ 10)) ∧ (∀ k, rIx k → ∀ j, j < 10 → C k j < 1000003) ∧ (C 0 3 ≠ 0 → ∀ k, rIx k → ∀ j, C 0 3 ≤ j → j < 10 → C k j = 0) ∧ (∀ t, t < 4 → C (21 + 3 * t) 0 ≠ 0 ∧ C (22 + 3 * t) 0 = 0 ∧ C (22 + 3 * t) 1 ≠ 0) ∧ ∀ i j, i < 10 → i < j → j < 10 → C (10 + i) j = 0
def WS (S : SS) : Prop := WC S.1 ∧ (∀ D, D ∈ S.2.1 → WC D) ∧ S.2.1.length ≤ 8 ∧ ∀ k D, S.2.2.1 k = some D → WC D
def okS (S : SS) (v : Int32) : Prop := 0 < S.1 0 3 ∧ inN 6 v
def okT (S : SS) (v : Int32) : Prop := 0 < S.1 0 3 ∧ inN 4 v
def okP (S : SS) (v : Int32) : Prop := inN (S.1 0 3) v
def okQ (S : SS) (v : Int32) : Prop := inN (S.1 0 3 - 1) v
/-- an act: what was ahead is kept -/
def kp (S : SS) (C : Core) : SS := (C, (S.1 :: S.2.1).take 8, S.2.2)
/-- a row comes to a place -/
def rowC (C : Core) (k : Nat) (w : Nat → Nat) : Core := fun q j => if q = k ∧ j < C 0 3 then w j else C q j
def tabC (C : Core) (t : Nat) (g f : Nat → Nat) : Core := fun q j => if q = 21 + 3 * t then g j else if q = 22 + 3 * t then f j else C q j
def setC (C : Core) (k i v : Nat) : Core := fun q j => if q = k ∧ j = i then v else C q j
def sB (x : Nat) : Int32 := (nI x).toInt8.toInt32
/-- the class's memory -/
def XI (M : Mem) (I : Nat → Option Core) : Prop := ∀ k, k < 2 → (∀ D, I k = some D → M 392 k = nI 1 ∧ StA M (328 + 32 * k) D) ∧ (I k = none → M 392 k = nI 0)
def XT (M : Mem) (R : (Nat → Nat) × Nat × Nat × Nat × Nat) : Prop := M 34 1 = nI R.2.1 ∧ R.2.1 ≤ 540 ∧ (∀ j, j < R.2.1 → R.1 j < 256 ∧ M 35 j = sB (R.1 j)) ∧ M 0 8 = nI R.2.2.1 ∧ M 0 9 = nI R.2.2.2.1 ∧ M 0 10 = nI R.2.2.2.2
def XR (M : Mem) (S : SS) : Prop := StA M 37 S.1 ∧ (∃ nx, HiA M S.2.1 nx) ∧ XI M S.2.2.1 ∧ XT M S.2.2.2 ∧ BO M
def KX (M M' : Mem) : Prop := ∀ b, 436 ≤ b → M' b = M b
def PX (M : Mem) (y : Int32 × SS) (r : Int32) (M' : Mem) : Prop := r = y.1 ∧ XR M' y.2 ∧ KX M M'
theorem PX.no {M : Mem} {S : SS} {c : Prop} {A : Int32 × SS} {v : Int32} (hX : XR M S) (h : ¬ c) : PX M (ic c A (v, S)) v M := by
  rw [ic_f h]
  exact ⟨rfl, hX, fun _ _ => rfl⟩
theorem PX.yes {M M' : Mem} {c : Prop} {A B : Int32 × SS} {v : Int32} (h : c) (h2 : PX M A v M') : PX M (ic c A B) v M' := by
  rw [ic_t h]
  exact h2
theorem XI.kept {M M' : Mem} {I : Nat → Option Core} (h : XI M I) (hk : ∀ b, 328 ≤ b → b < 393 → M' b = M b) : XI M' I := fun k h2 => ⟨fun D hD => ⟨by rw [hk _ (by omega) (by omega)]; exact ((h k h2).1 D hD).1, ((h k h2).1 D hD).2.kept (fun a a1 a2 => hk a (by omega) (by omega))⟩, fun e => by rw [hk _ (by omega) (by omega)]; exact (h k h2).2 e⟩
theorem XT.kept {M M' : Mem} {R : (Nat → Nat) × Nat × Nat × Nat × Nat} (h : XT M R) (h0 : M' 0 = M 0) (h34 : M' 34 = M 34) (h35 : M' 35 = M 35) : XT M' R := by
  unfold XT
  rw [h0, h34, h35]
  exact h
theorem HiA.kept {M M' : Mem} {H : List Core} {nx : Nat} (h : HiA M H nx) (hk : ∀ b, 69 ≤ b → b < 327 → M' b = M b) : HiA M' H nx := by
  obtain ⟨h1, h2, h3, h4, h5⟩ := h
  refine ⟨by rw [hk _ (by omega) (by omega)]; exact h1, by rw [hk _ (by omega) (by omega)]; exact h2, h3, h4, fun i C e => (h5 i C e).kept (fun a a1 a2 => hk a (by omega) ?_)⟩
  have := Nat.mod_lt (nx + 7 - i) (show 8 > 0 by decide)
  omega
theorem BO.kept {M M' : Mem} (h : BO M) (hk : ∀ b, (b = 36 ∨ 394 ≤ b ∧ b < 436) → M' b = M b) : BO M' := ⟨fun b b1 b2 b3 => (h.1 b b1 b2 b3).kept (hk b (by omega)), h.2.kept (hk 36 (by omega))⟩
/-- a call on the benches leaves what the calls show -/
theorem XR.bf {M M' : Mem} {S : SS} (h : XR M S) (hB : BF M M') : XR M' S := by
  obtain ⟨h1, ⟨nx, h2⟩, h3, h4, h5⟩ := h
  exact ⟨h1.kept (fun a a1 a2 => hB.1 a (by omega)), ⟨nx, h2.kept (fun a a1 a2 => hB.1 a (by omega))⟩, h3.kept (fun a a1 a2 => hB.1 a (by omega)), h4.kept (hB.1 _ (by omega)) (hB.1 _ (by omega)) (hB.1 _ (by omega)), hB.2⟩
theorem BF.kx {M M' : Mem} (h : BF M M') : KX M M' := fun b hb => h.1 b (by omega)
theorem KX.trans {M M1 M2 : Mem} (h : KX M M1) (h2 : KX M1 M2) : KX M M2 := fun b hb => (h2 b hb).trans (h b hb)
theorem XR.row {M : Mem} {S : SS} (hW : WS S) (h : XR M S) {s : Nat} (hs : s < 6) : OKr M (39 + s) (S.1 (2 + s)) := fun j hj => ⟨by rw [show 39 + s = 37 + (2 + s) by omega]; exact h.1.2 _ (Or.inl ⟨by omega, by omega⟩) j hj, hW.1.2.1 _ (Or.inl ⟨by omega, by omega⟩) j hj⟩
theorem XR.fr {M : Mem} {S : SS} (hW : WS S) (h : XR M S) {s : Nat} (hs : s < 10) : OKr M (47 + s) (S.1 (10 + s)) := fun j hj => ⟨by rw [show 47 + s = 37 + (10 + s) by omega]; exact h.1.2 _ (Or.inr (Or.inl ⟨by omega, by omega⟩)) j hj, hW.1.2.1 _ (Or.inr (Or.inl ⟨by omega, by omega⟩)) j hj⟩
theorem XR.tab {M : Mem} {S : SS} (hW : WS S) (h : XR M S) {t : Nat} (ht : t < 4) : TbA M (57 + 3 * t) (S.1 (21 + 3 * t)) (S.1 (22 + 3 * t)) :=
  ⟨fun j hj => ⟨by rw [show 57 + 3 * t + 1 = 37 + (21 + 3 * t) by omega]; exact h.1.2 _ (Or.inr (Or.inr ⟨by omega, by omega, by omega⟩)) j hj, hW.1.2.1 _ (Or.inr (Or.inr ⟨by omega, by omega, by omega⟩)) j hj⟩,
   fun j hj => ⟨by rw [show 57 + 3 * t + 2 = 37 + (22 + 3 * t) by omega]; exact h.1.2 _ (Or.inr (Or.inr ⟨by omega, by omega, by omega⟩)) j hj, hW.1.2.1 _ (Or.inr (Or.inr ⟨by omega, by omega, by omega⟩)) j hj⟩⟩
theorem g_ser {s : Nat} (h : s < 6) : gR 38 s = some (39 + s) := (isSt_37.2.2.2.2.2.2.2.1 s h).1
theorem t_ser {s : Nat} (h : s < 6) : gT (39 + s) = (1, 10) := (isSt_37.2.2.2.2.2.2.2.1 s h).2
theorem g_tab {t : Nat} (h : t < 4) : gR 45 t = some (57 + 3 * t) := (isSt_37.2.2.2.2.2.2.2.2.1 t h).1
theorem t_tab {t : Nat} (h : t < 4) : isTb (57 + 3 * t) := (isSt_37.2.2.2.2.2.2.2.2.1 t h).2
theorem WS.sz {S : SS} (h : WS S) (h0 : 0 < S.1 0 3) : 2 ≤ S.1 0 3 ∧ S.1 0 3 ≤ 10 := by
  have := h.1.1
  omega
theorem WS.sz10 {S : SS} (h : WS S) : S.1 0 3 ≤ 10 := by
  have := h.1.1
  omega
section C42
variable {o : OM} {l : Launch} {n : Nat} {M : Mem}
theorem c_X_isSeries_t {S : SS} {v : Int32} (hW : WS S) (hX : XR M S) (h : okS S v) : CI o l m_X_isSeries n [.ref 0, .int v] M (fun r M' => r = nI 1 ∧ M = M') := by
  refine ci_of rfl rfl rfl (Nat.le_of_ble_eq_true rfl) ?_
  obtain ⟨h0, h1, h2⟩ := h
  have hs := hW.sz10
  generalize ix v = k at *
  subst h2
  refine r_aload_n d_X_isSeries_0 rfl ?_
  refine g_getr (b := 37) d_X_isSeries_1 f_X_24 rfl rfl rfl ?_
  refine g_geti d_X_isSeries_4 f_X_99 rfl rfl ?_
  refine r_top (y := (nI (S.1 0 3))) (hX.1.1) ?_
  refine n_if_le d_X_isSeries_7 (by omega) (fun hc => ?_) (fun hc => ?_)
  · omega
  · refine r_iload_n d_X_isSeries_10 rfl ?_
    refine n_if_lt d_X_isSeries_11 (by omega) ?_
    refine r_iload_n d_X_isSeries_14 rfl ?_
    refine r_bipush (v := nI 6) d_X_isSeries_15 (by decide) ?_
    refine n_icmp_ge d_X_isSeries_17 (by omega) (by omega) (fun hc2 => ?_) (fun hc2 => ?_)
    · omega
    · refine r_iconst (v := nI 1) d_X_isSeries_20 (by decide) ?_
      refine r_goto d_X_isSeries_21 ?_
      refine g_retz d_X_isSeries_25 rfl (by decide) ?_
      exact ⟨rfl, rfl⟩
theorem c_X_isSeries_f {S : SS} {v : Int32} (hW : WS S) (hX : XR M S) (h : ¬ okS S v) : CI o l m_X_isSeries n [.ref 0, .int v] M (fun r M' => r = nI 0 ∧ M = M') := by
  refine ci_of rfl rfl rfl (Nat.le_of_ble_eq_true rfl) ?_
  have hs := hW.sz10
  refine r_aload_n d_X_isSeries_0 rfl ?_
  refine g_getr (b := 37) d_X_isSeries_1 f_X_24 rfl rfl rfl ?_
  refine g_geti d_X_isSeries_4 f_X_99 rfl rfl ?_
  refine r_top (y := (nI (S.1 0 3))) (hX.1.1) ?_
  refine n_if_le d_X_isSeries_7 (by omega) (fun hc => ?_) (fun hc => ?_)
  · refine r_iconst (v := nI 0) d_X_isSeries_24 (by decide) ?_
    refine g_retz d_X_isSeries_25 rfl (by decide) ?_
    exact ⟨rfl, rfl⟩
  · refine r_iload_n d_X_isSeries_10 rfl ?_
    refine r_if_lt d_X_isSeries_11 (fun hc2 => ?_) (fun hc2 => ?_)
    · refine r_iconst (v := nI 0) d_X_isSeries_24 (by decide) ?_
      refine g_retz d_X_isSeries_25 rfl (by decide) ?_
      exact ⟨rfl, rfl⟩
    · refine r_iload_n d_X_isSeries_14 rfl ?_
      refine r_bipush (v := nI 6) d_X_isSeries_15 (by decide) ?_
      refine r_icmp_ge d_X_isSeries_17 (fun hc3 => ?_) (fun hc3 => ?_)
      · refine r_iconst (v := nI 0) d_X_isSeries_24 (by decide) ?_
        refine g_retz d_X_isSeries_25 rfl (by decide) ?_
        exact ⟨rfl, rfl⟩
      · exact absurd ⟨hc, inN_t (by decide) hc2 hc3⟩ h
theorem c_X_isTable_t {S : SS} {v : Int32} (hW : WS S) (hX : XR M S) (h : okT S v) : CI o l m_X_isTable n [.ref 0, .int v] M (fun r M' => r = nI 1 ∧ M = M') := by
  refine ci_of rfl rfl rfl (Nat.le_of_ble_eq_true rfl) ?_
  obtain ⟨h0, h1, h2⟩ := h
  have hs := hW.sz10
  generalize ix v = k at *
  subst h2
  refine r_aload_n d_X_isTable_0 rfl ?_
  refine g_getr (b := 37) d_X_isTable_1 f_X_24 rfl rfl rfl ?_
  refine g_geti d_X_isTable_4 f_X_99 rfl rfl ?_
  refine r_top (y := (nI (S.1 0 3))) (hX.1.1) ?_
  refine n_if_le d_X_isTable_7 (by omega) (fun hc => ?_) (fun hc => ?_)
  · omega
  · refine r_iload_n d_X_isTable_10 rfl ?_
    refine n_if_lt d_X_isTable_11 (by omega) ?_
    refine r_iload_n d_X_isTable_14 rfl ?_
    refine r_iconst (v := nI 4) d_X_isTable_15 (by decide) ?_
    refine n_icmp_ge d_X_isTable_16 (by omega) (by omega) (fun hc2 => ?_) (fun hc2 => ?_)
    · omega
    · refine r_iconst (v := nI 1) d_X_isTable_19 (by decide) ?_
      refine r_goto d_X_isTable_20 ?_
      refine g_retz d_X_isTable_24 rfl (by decide) ?_
      exact ⟨rfl, rfl⟩
theorem c_X_isTable_f {S : SS} {v : Int32} (hW : WS S) (hX : XR M S) (h : ¬ okT S v) : CI o l m_X_isTable n [.ref 0, .int v] M (fun r M' => r = nI 0 ∧ M = M') := by
  refine ci_of rfl rfl rfl (Nat.le_of_ble_eq_true rfl) ?_
  have hs := hW.sz10
  refine r_aload_n d_X_isTable_0 rfl ?_
  refine g_getr (b := 37) d_X_isTable_1 f_X_24 rfl rfl rfl ?_
  refine g_geti d_X_isTable_4 f_X_99 rfl rfl ?_
  refine r_top (y := (nI (S.1 0 3))) (hX.1.1) ?_
  refine n_if_le d_X_isTable_7 (by omega) (fun hc => ?_) (fun hc => ?_)
  · refine r_iconst (v := nI 0) d_X_isTable_23 (by decide) ?_
    refine g_retz d_X_isTable_24 rfl (by decide) ?_
    exact ⟨rfl, rfl⟩
  · refine r_iload_n d_X_isTable_10 rfl ?_
    refine r_if_lt d_X_isTable_11 (fun hc2 => ?_) (fun hc2 => ?_)
    · refine r_iconst (v := nI 0) d_X_isTable_23 (by decide) ?_
      refine g_retz d_X_isTable_24 rfl (by decide) ?_
      exact ⟨rfl, rfl⟩
    · refine r_iload_n d_X_isTable_14 rfl ?_
      refine r_iconst (v := nI 4) d_X_isTable_15 (by decide) ?_
      refine r_icmp_ge d_X_isTable_16 (fun hc3 => ?_) (fun hc3 => ?_)
      · refine r_iconst (v := nI 0) d_X_isTable_23 (by decide) ?_
        refine g_retz d_X_isTable_24 rfl (by decide) ?_
        exact ⟨rfl, rfl⟩
      · exact absurd ⟨hc, inN_t (by decide) hc2 hc3⟩ h
theorem c_X_isWithinSize_t {S : SS} {v : Int32} (hW : WS S) (hX : XR M S) (h : okP S v) : CI o l m_X_isWithinSize n [.ref 0, .int v] M (fun r M' => r = nI 1 ∧ M = M') := by
  refine ci_of rfl rfl rfl (Nat.le_of_ble_eq_true rfl) ?_
  obtain ⟨h1, h2⟩ := h
  have hs := hW.sz10
  generalize ix v = k at *
  subst h2
  refine r_iload_n d_X_isWithinSize_0 rfl ?_
  refine n_if_lt d_X_isWithinSize_1 (by omega) ?_
  refine r_iload_n d_X_isWithinSize_4 rfl ?_
  refine r_aload_n d_X_isWithinSize_5 rfl ?_
  refine g_getr (b := 37) d_X_isWithinSize_6 f_X_24 rfl rfl rfl ?_
  refine g_geti d_X_isWithinSize_9 f_X_99 rfl rfl ?_
  refine r_top (y := (nI (S.1 0 3))) (hX.1.1) ?_
  refine n_icmp_ge d_X_isWithinSize_12 (by omega) (by omega) (fun hc2 => ?_) (fun hc2 => ?_)
  · omega
  · refine r_iconst (v := nI 1) d_X_isWithinSize_15 (by decide) ?_
    refine r_goto d_X_isWithinSize_16 ?_
    refine g_retz d_X_isWithinSize_20 rfl (by decide) ?_
    exact ⟨rfl, rfl⟩
theorem c_X_isWithinSize_f {S : SS} {v : Int32} (hW : WS S) (hX : XR M S) (h : ¬ okP S v) : CI o l m_X_isWithinSize n [.ref 0, .int v] M (fun r M' => r = nI 0 ∧ M = M') := by
  refine ci_of rfl rfl rfl (Nat.le_of_ble_eq_true rfl) ?_
  have hs := hW.sz10
  refine r_iload_n d_X_isWithinSize_0 rfl ?_
  refine r_if_lt d_X_isWithinSize_1 (fun hc => ?_) (fun hc => ?_)
  · refine r_iconst (v := nI 0) d_X_isWithinSize_19 (by decide) ?_
    refine g_retz d_X_isWithinSize_20 rfl (by decide) ?_
    exact ⟨rfl, rfl⟩
  · refine r_iload_n d_X_isWithinSize_4 rfl ?_
    refine r_aload_n d_X_isWithinSize_5 rfl ?_
    refine g_getr (b := 37) d_X_isWithinSize_6 f_X_24 rfl rfl rfl ?_
    refine g_geti d_X_isWithinSize_9 f_X_99 rfl rfl ?_
    refine r_top (y := (nI (S.1 0 3))) (hX.1.1) ?_
    refine r_icmp_ge d_X_isWithinSize_12 (fun hc2 => ?_) (fun hc2 => ?_)
    · refine r_iconst (v := nI 0) d_X_isWithinSize_19 (by decide) ?_
      refine g_retz d_X_isWithinSize_20 rfl (by decide) ?_
      exact ⟨rfl, rfl⟩
    · exact absurd (inN_t (by omega) hc hc2) h
theorem c_X_isWithinProduction_t {S : SS} {v : Int32} (hW : WS S) (hX : XR M S) (h : okQ S v) : CI o l m_X_isWithinProduction n [.ref 0, .int v] M (fun r M' => r = nI 1 ∧ M = M') := by
  refine ci_of rfl rfl rfl (Nat.le_of_ble_eq_true rfl) ?_
  obtain ⟨h1, h2⟩ := h
  have hs := hW.sz10
  generalize ix v = k at *
  subst h2
  refine r_iload_n d_X_isWithinProduction_0 rfl ?_
  refine n_if_lt d_X_isWithinProduction_1 (by omega) ?_
  refine r_iload_n d_X_isWithinProduction_4 rfl ?_
  refine r_aload_n d_X_isWithinProduction_5 rfl ?_
  refine g_getr (b := 37) d_X_isWithinProduction_6 f_X_24 rfl rfl rfl ?_
  refine g_geti d_X_isWithinProduction_9 f_X_99 rfl rfl ?_
  refine r_top (y := (nI (S.1 0 3))) (hX.1.1) ?_
  refine r_iconst (v := nI 1) d_X_isWithinProduction_12 (by decide) ?_
  refine n_isub d_X_isWithinProduction_13 (by omega) ?_
  refine n_icmp_ge d_X_isWithinProduction_14 (by omega) (by omega) (fun hc2 => ?_) (fun hc2 => ?_)
  · omega
  · refine r_iconst (v := nI 1) d_X_isWithinProduction_17 (by decide) ?_
    refine r_goto d_X_isWithinProduction_18 ?_
    refine g_retz d_X_isWithinProduction_22 rfl (by decide) ?_
    exact ⟨rfl, rfl⟩
theorem c_X_isWithinProduction_f {S : SS} {v : Int32} (hW : WS S) (hX : XR M S) (h0 : 0 < S.1 0 3) (h : ¬ okQ S v) : CI o l m_X_isWithinProduction n [.ref 0, .int v] M (fun r M' => r = nI 0 ∧ M = M') := by
  refine ci_of rfl rfl rfl (Nat.le_of_ble_eq_true rfl) ?_
  have hs := hW.sz10
  refine r_iload_n d_X_isWithinProduction_0 rfl ?_
  refine r_if_lt d_X_isWithinProduction_1 (fun hc => ?_) (fun hc => ?_)
  · refine r_iconst (v := nI 0) d_X_isWithinProduction_21 (by decide) ?_
    refine g_retz d_X_isWithinProduction_22 rfl (by decide) ?_
    exact ⟨rfl, rfl⟩
  · refine r_iload_n d_X_isWithinProduction_4 rfl ?_
    refine r_aload_n d_X_isWithinProduction_5 rfl ?_
    refine g_getr (b := 37) d_X_isWithinProduction_6 f_X_24 rfl rfl rfl ?_
    refine g_geti d_X_isWithinProduction_9 f_X_99 rfl rfl ?_
    refine r_top (y := (nI (S.1 0 3))) (hX.1.1) ?_
    refine r_iconst (v := nI 1) d_X_isWithinProduction_12 (by decide) ?_
    refine n_isub d_X_isWithinProduction_13 (by omega) ?_
    refine r_icmp_ge d_X_isWithinProduction_14 (fun hc2 => ?_) (fun hc2 => ?_)
    · refine r_iconst (v := nI 0) d_X_isWithinProduction_21 (by decide) ?_
      refine g_retz d_X_isWithinProduction_22 rfl (by decide) ?_
      exact ⟨rfl, rfl⟩
    · exact absurd (inN_t (by omega) hc hc2) h
end C42
