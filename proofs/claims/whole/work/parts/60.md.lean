/-! The reference: its memory -/
def lZ (z : Int) : Int64 := Int64.ofInt z
theorem lN_Z (n : Nat) : lN n = lZ n := by
  unfold lN lZ
  exact Int64.toBitVec_inj.mp (BitVec.ofInt_natCast 64 n).symm
/-- a core as the reference lays it -/
def nw (C : Core) (j : Nat) : Nat := if j = 0 then C 0 3 else if j < 61 then C (2 + (j - 1) / 10) ((j - 1) % 10) else if j < 141 then (if (j - 61) % 20 < 10 then C (21 + 3 * ((j - 61) / 20)) ((j - 61) % 20) else C (22 + 3 * ((j - 61) / 20)) ((j - 61) % 20 - 10)) else C (10 + (j - 141) / 10) ((j - 141) % 10)
theorem nw_0 (C : Core) : nw C 0 = C 0 3 := rfl
theorem nw_ser (C : Core) {s j : Nat} (hs : s < 6) (hj : j < 10) : nw C (1 + 10 * s + j) = C (2 + s) j := by
  unfold nw
  rw [if_neg (by omega), if_pos (by omega), show (1 + 10 * s + j - 1) / 10 = s by omega, show (1 + 10 * s + j - 1) % 10 = j by omega]
theorem nw_g (C : Core) {t j : Nat} (ht : t < 4) (hj : j < 10) : nw C (61 + 20 * t + j) = C (21 + 3 * t) j := by
  unfold nw
  rw [if_neg (by omega), if_neg (by omega), if_pos (by omega), if_pos (by omega), show (61 + 20 * t + j - 61) / 20 = t by omega, show (61 + 20 * t + j - 61) % 20 = j by omega]
theorem nw_f (C : Core) {t j : Nat} (ht : t < 4) (hj : j < 10) : nw C (61 + 20 * t + 10 + j) = C (22 + 3 * t) j := by
  unfold nw
  rw [if_neg (by omega), if_neg (by omega), if_pos (by omega), if_neg (by omega), show (61 + 20 * t + 10 + j - 61) / 20 = t by omega, show (61 + 20 * t + 10 + j - 61) % 20 - 10 = j by omega]
theorem nw_fr (C : Core) {i j : Nat} (hi : i < 10) (hj : j < 10) : nw C (141 + 10 * i + j) = C (10 + i) j := by
  unfold nw
  rw [if_neg (by omega), if_neg (by omega), if_neg (by omega), show (141 + 10 * i + j - 141) / 10 = i by omega, show (141 + 10 * i + j - 141) % 10 = j by omega]
/-- which place of the core a place of the reference's row is -/
theorem nw_at {j : Nat} (hj : j < 241) : (j = 0 ∧ ∀ C, nw C j = C 0 3) ∨ (∃ s i, s < 6 ∧ i < 10 ∧ j = 1 + 10 * s + i ∧ ∀ C, nw C j = C (2 + s) i) ∨ (∃ t i, t < 4 ∧ i < 10 ∧ j = 61 + 20 * t + i ∧ ∀ C, nw C j = C (21 + 3 * t) i) ∨ (∃ t i, t < 4 ∧ i < 10 ∧ j = 61 + 20 * t + 10 + i ∧ ∀ C, nw C j = C (22 + 3 * t) i) ∨ (∃ i k, i < 10 ∧ k < 10 ∧ j = 141 + 10 * i + k ∧ ∀ C, nw C j = C (10 + i) k) := by
  by_cases h0 : j = 0
  · exact Or.inl ⟨h0, fun C => by rw [h0]; rfl⟩
  by_cases h1 : j < 61
  · refine Or.inr (Or.inl ⟨(j - 1) / 10, (j - 1) % 10, by omega, by omega, by omega, fun C => ?_⟩)
    unfold nw
    rw [if_neg h0, if_pos h1]
  by_cases h2 : j < 141
  · by_cases h3 : (j - 61) % 20 < 10
    · refine Or.inr (Or.inr (Or.inl ⟨(j - 61) / 20, (j - 61) % 20, by omega, by omega, by omega, fun C => ?_⟩))
      unfold nw
      rw [if_neg h0, if_neg h1, if_pos h2, if_pos h3]
    · refine Or.inr (Or.inr (Or.inr (Or.inl ⟨(j - 61) / 20, (j - 61) % 20 - 10, by omega, by omega, by omega, fun C => ?_⟩)))
      unfold nw
      rw [if_neg h0, if_neg h1, if_pos h2, if_neg h3]
  · refine Or.inr (Or.inr (Or.inr (Or.inr ⟨(j - 141) / 10, (j - 141) % 10, by omega, by omega, by omega, fun C => ?_⟩)))
    unfold nw
    rw [if_neg h0, if_neg h1, if_neg h2]
def AM (M : Mem) (a off : Nat) (C : Core) : Prop := ∀ j, j < 241 → M a (off + j) = nI (nw C j)
/-- a core as far as it shows: of a core with no size the size alone -/
def AW (M : Mem) (a off : Nat) (C : Core) : Prop := ∀ j, j < 241 → (j = 0 ∨ C 0 3 ≠ 0) → M a (off + j) = nI (nw C j)
theorem AM.w {M : Mem} {a off : Nat} {C : Core} (h : AM M a off C) : AW M a off C := fun j hj _ => h j hj
theorem AW.kept {M M' : Mem} {a off : Nat} {C : Core} (h : AW M a off C) (e : M' a = M a) : AW M' a off C := fun j hj h9 => by rw [e]; exact h j hj h9
def MI (M : Mem) (I : Nat → Option Core) : Prop := ∀ k, k < 2 → (∀ D, I k = some D → M 442 k = nI 1 ∧ AW M 440 (241 * k) D) ∧ (I k = none → M 442 k = nI 0)
def MT (M : Mem) (R : (Nat → Nat) × Nat × Nat × Nat × Nat) : Prop := M 436 2 = nI R.2.1 ∧ R.2.1 ≤ 540 ∧ (∀ j, j < R.2.1 → R.1 j < 256 ∧ M 437 j = nI (R.1 j)) ∧ M 436 8 = nI R.2.2.1 ∧ M 436 16 = nI R.2.2.2.1 ∧ M 436 17 = nI R.2.2.2.2
def MH (M : Mem) (H : List Core) : Prop := M 436 15 = nI H.length ∧ H.length ≤ 8 ∧ ∀ i C, H[i]? = some C → AW M 441 (241 * (H.length - 1 - i)) C
def MR (M : Mem) (S : SS) : Prop := AW M 438 0 S.1 ∧ MH M S.2.1 ∧ MI M S.2.2.1 ∧ MT M S.2.2.2
def KM (M M' : Mem) : Prop := ∀ b, b < 436 ∨ 453 ≤ b → M' b = M b
def PM (M : Mem) (y : Int32 × SS) (r : Int32) (M' : Mem) : Prop := r = y.1 ∧ MR M' y.2 ∧ KM M M'
theorem KM.rf {M : Mem} : KM M M := fun _ _ => rfl
theorem KM.trans {M M1 M2 : Mem} (h : KM M M1) (h2 : KM M1 M2) : KM M M2 := fun b hb => (h2 b hb).trans (h b hb)
theorem KM.up {M M1 : Mem} {a k : Nat} {v : Int32} (h : KM M M1) (ha : 436 ≤ a ∧ a < 453) : KM M (upm M1 a k v) := fun b hb => by rw [upm_ne _ _ _ (by omega)]; exact h b hb
theorem PM.no {M M0 : Mem} {S : SS} {c : Prop} {A : Int32 × SS} {v : Int32} (hX : MR M0 S) (hk : KM M M0) (h : ¬ c) : PM M (ic c A (v, S)) v M0 := by
  rw [ic_f h]
  exact ⟨rfl, hX, hk⟩
theorem PM.of {M M1 M' : Mem} {y : Int32 × SS} {r : Int32} (hk : KM M M1) (h : PM M1 y r M') : PM M y r M' := ⟨h.1, h.2.1, hk.trans h.2.2⟩
/-- a call's work that leaves what the calls show -/
theorem MR.kept {M M' : Mem} {S : SS} (h : MR M S) (h0 : ∀ k, k = 2 ∨ k = 8 ∨ k = 15 ∨ k = 16 ∨ k = 17 → M' 436 k = M 436 k) (h1 : ∀ b, b = 437 ∨ b = 438 ∨ b = 440 ∨ b = 441 ∨ b = 442 → M' b = M b) : MR M' S := by
  obtain ⟨a1, ⟨a2, a3, a4⟩, a5, a6⟩ := h
  refine ⟨fun j hj h9 => by rw [h1 438 (by omega)]; exact a1 j hj h9, ⟨by rw [h0 15 (by omega)]; exact a2, a3, fun i C hC j hj h9 => by rw [h1 441 (by omega)]; exact a4 i C hC j hj h9⟩, fun k hk => ⟨fun D hD => ⟨by rw [h1 442 (by omega)]; exact ((a5 k hk).1 D hD).1, fun j hj h9 => by rw [h1 440 (by omega)]; exact ((a5 k hk).1 D hD).2 j hj h9⟩, fun e => by rw [h1 442 (by omega)]; exact (a5 k hk).2 e⟩, ?_⟩
  unfold MT
  rw [h0 2 (by omega), h0 8 (by omega), h0 16 (by omega), h0 17 (by omega), h1 437 (by omega)]
  exact a6
theorem MR.thr {M : Mem} {S : SS} {v : Int32} (h : MR M S) : MR (upm M 436 0 v) S := h.kept (fun k hk => by rw [upm_at, if_neg (by omega)]) (fun b hb => upm_ne _ _ _ (by omega))
theorem MR.sz {M : Mem} {S : SS} (h : MR M S) : M 438 0 = nI (S.1 0 3) := h.1 0 (by decide) (Or.inl rfl)
theorem MR.am {M : Mem} {S : SS} (h : MR M S) (h0 : 0 < S.1 0 3 := by first | assumption | omega) : AM M 438 0 S.1 := fun j hj => h.1 j hj (Or.inr (Nat.pos_iff_ne_zero.mp h0))
theorem MR.nw {M : Mem} {S : SS} (h : MR M S) {j : Nat} (hj : j < 241) (h0 : 0 < S.1 0 3 := by first | assumption | omega) : M 438 j = nI (nw S.1 j) := by
  have := h.1 j hj (Or.inr (Nat.pos_iff_ne_zero.mp h0))
  rwa [Nat.zero_add] at this
theorem AM.set {M : Mem} {a : Nat} {C C' : Core} {k v : Nat} (h : AM M a 0 C) (e : ∀ j, j < 241 → nw C' j = if j = k then v else nw C j) : AM (upm M a k (nI v)) a 0 C' := fun j hj => by
  rw [upm_at, Nat.zero_add, e j hj]
  by_cases c : j = k
  · rw [if_pos c, if_pos c]
  · rw [if_neg c, if_neg c]
    have := h j hj
    rwa [Nat.zero_add] at this
theorem nw_setS (C : Core) {s i v : Nat} (hs : s < 6) (hi : i < 10) : ∀ j, j < 241 → nw (setC C (2 + s) i v) j = if j = 1 + 10 * s + i then v else nw C j := by
  intro j hj
  rcases nw_at hj with ⟨rfl, h⟩ | ⟨s', i', h1, h2, rfl, h⟩ | ⟨t, i', h1, h2, rfl, h⟩ | ⟨t, i', h1, h2, rfl, h⟩ | ⟨t, i', h1, h2, rfl, h⟩
  · rw [h, h, if_neg (by omega), setC, if_neg (by omega)]
  · rw [h, h]
    unfold setC
    by_cases c : s' = s ∧ i' = i
    · rw [if_pos (by omega), if_pos (by omega)]
    · rw [if_neg (by omega), if_neg (by omega)]
  · rw [h, h, if_neg (by omega), setC, if_neg (by omega)]
  · rw [h, h, if_neg (by omega), setC, if_neg (by omega)]
  · rw [h, h, if_neg (by omega), setC, if_neg (by omega)]
theorem nw_setF (C : Core) {s i v : Nat} (hs : s < 10) (hi : i < 10) : ∀ j, j < 241 → nw (setC C (10 + s) i v) j = if j = 141 + 10 * s + i then v else nw C j := by
  intro j hj
  rcases nw_at hj with ⟨rfl, h⟩ | ⟨s', i', h1, h2, rfl, h⟩ | ⟨t, i', h1, h2, rfl, h⟩ | ⟨t, i', h1, h2, rfl, h⟩ | ⟨t, i', h1, h2, rfl, h⟩
  · rw [h, h, if_neg (by omega), setC, if_neg (by omega)]
  · rw [h, h, if_neg (by omega), setC, if_neg (by omega)]
  · rw [h, h, if_neg (by omega), setC, if_neg (by omega)]
  · rw [h, h, if_neg (by omega), setC, if_neg (by omega)]
  · rw [h, h]
    unfold setC
    by_cases c : t = s ∧ i' = i
    · rw [if_pos (by omega), if_pos (by omega)]
    · rw [if_neg (by omega), if_neg (by omega)]
theorem lZ_eq {a b : Int} (ha : -4611686018427387904 < a ∧ a < 4611686018427387904) (hb : -4611686018427387904 < b ∧ b < 4611686018427387904) : lZ a < lZ b ↔ a < b := by
  rw [Int64.lt_iff_toInt_lt]
  unfold lZ
  rw [Int64.toInt_ofInt_of_le (by omega) (by omega), Int64.toInt_ofInt_of_le (by omega) (by omega)]
section RZ
variable {o : OM} {l : Launch} {m : MD} {bg : Nat × Nat} {pc pc' tgt : Nat} {L L' : List (Option Value)} {st : List Value} {h : AH} {Q : Option Value → AH → Prop}
theorem z_lsub {x y : Int64} {a b : Int} (hd : dd m pc .lsub 1 pc') (hx : x = lZ a) (hy : y = lZ b) (kk : Rn o l m bg pc' L (.long (lZ (a - b)) :: st) h Q) : Rn o l m bg pc L (.long y :: .long x :: st) h Q := by
  subst hx hy
  exact r_lsub hd (r_topl (by unfold lZ; exact (Int64.ofInt_sub a b).symm) kk)
theorem z_ladd {x y : Int64} {a b : Int} (hd : dd m pc .ladd 1 pc') (hx : x = lZ a) (hy : y = lZ b) (kk : Rn o l m bg pc' L (.long (lZ (a + b)) :: st) h Q) : Rn o l m bg pc L (.long y :: .long x :: st) h Q := by
  subst hx hy
  exact r_ladd hd (r_topl (by unfold lZ; exact (Int64.ofInt_add a b).symm) kk)
theorem z_lneg {x : Int64} {a : Int} (hd : dd m pc .lneg 1 pc') (hx : x = lZ a) (kk : Rn o l m bg pc' L (.long (lZ (-a)) :: st) h Q) : Rn o l m bg pc L (.long x :: st) h Q := by
  subst hx
  exact r_lneg hd (r_topl (by unfold lZ; exact (Int64.ofInt_neg a).symm) kk)
end RZ
theorem cl_mono {o : OM} {l : Launch} {m : MD} {bg : Nat × Nat} {av : List Value} {h0 : AH} {Q Q' : Option Value → AH → Prop} (h : Cl o l m bg av h0 Q) (hp : ∀ v h', Q v h' → Q' v h') : Cl o l m bg av h0 Q' := by
  intro p e ha hc hk s mm args below hf happ hP ht
  obtain ⟨k, oc, h1, h2, h3, hQ⟩ := h p e ha hc hk s mm args below hf happ hP ht
  obtain ⟨⟨v, h', e1, e2, e3⟩, hL⟩ := hQ
  exact ⟨k, oc, h1, h2, h3, ⟨v, h', e1, hp v h' e2, e3⟩, hL⟩
theorem ci_mono {o : OM} {l : Launch} {m : MD} {n : Nat} {av : List Value} {M : Mem} {P P' : Int32 → Mem → Prop} (h : CI o l m n av M P) (hp : ∀ r M', P r M' → P' r M') : CI o l m n av M P' := by
  refine cl_mono h ?_
  rintro v h' ⟨x, M', e1, e2, e3⟩
  exact ⟨x, M', e1, e2, hp x M' e3⟩
section C60
variable {o : OM} {l : Launch} {n : Nat} {M : Mem} {S : SS}
theorem c_Md_thrown {v : Int32} (hv : M 436 0 = v) : CI o l m_Md_thrown n [.ref 436] M (fun r M' => r = v ∧ M = M') := by
  refine ci_of rfl rfl rfl (Nat.le_of_ble_eq_true rfl) ?_
  refine r_aload_n d_Md_thrown_0 rfl ?_
  refine g_geti d_Md_thrown_1 f_Md_1 rfl rfl ?_
  refine r_top (y := v) (hv) ?_
  refine g_reti d_Md_thrown_4 rfl ?_
  exact ⟨rfl, rfl⟩
theorem c_Md_wide {s : Nat} (hs : M 438 0 = nI s) : CI o l m_Md_wide n [.ref 436] M (fun r M' => r = nI s ∧ M = M') := by
  refine ci_of rfl rfl rfl (Nat.le_of_ble_eq_true rfl) ?_
  refine r_aload_n d_Md_wide_0 rfl ?_
  refine g_getr (b := 438) d_Md_wide_1 f_Md_56 rfl rfl rfl ?_
  refine r_iconst (v := nI 0) d_Md_wide_4 (by decide) ?_
  refine g_iald d_Md_wide_5 rfl (by omega) (by omega) ?_
  refine r_top (y := nI s) (hs) ?_
  refine g_reti d_Md_wide_6 rfl ?_
  exact ⟨rfl, rfl⟩
theorem c_Md_isIn {v a b : Int32} : CI o l m_Md_isIn n [.int v, .int a, .int b] M (fun r M' => BR r (a ≤ v ∧ v ≤ b) ∧ M = M') := by
  refine ci_of rfl rfl rfl (Nat.le_of_ble_eq_true rfl) ?_
  refine r_iload_n d_Md_isIn_0 rfl ?_
  refine r_iload_n d_Md_isIn_1 rfl ?_
  refine r_icmp_lt d_Md_isIn_2 (fun hc => ?_) (fun hc => ?_)
  · refine r_iconst (v := nI 0) d_Md_isIn_14 (by decide) ?_
    refine g_retz d_Md_isIn_15 rfl (by decide) ?_
    exact ⟨Or.inr ⟨rfl, fun z => Int32.not_lt.mpr z.1 hc⟩, rfl⟩
  · refine r_iload_n d_Md_isIn_5 rfl ?_
    refine r_iload_n d_Md_isIn_6 rfl ?_
    refine r_icmp_gt d_Md_isIn_7 (fun hc2 => ?_) (fun hc2 => ?_)
    · refine r_iconst (v := nI 0) d_Md_isIn_14 (by decide) ?_
      refine g_retz d_Md_isIn_15 rfl (by decide) ?_
      exact ⟨Or.inr ⟨rfl, fun z => Int32.not_lt.mpr z.2 hc2⟩, rfl⟩
    · refine r_iconst (v := nI 1) d_Md_isIn_10 (by decide) ?_
      refine r_goto d_Md_isIn_11 ?_
      refine g_retz d_Md_isIn_15 rfl (by decide) ?_
      exact ⟨Or.inl ⟨rfl, Int32.not_lt.mp hc, Int32.not_lt.mp hc2⟩, rfl⟩
theorem in_iff {N : Nat} {v : Int32} (hN : N < 2 ^ 31 - 1) : (nI 0 ≤ v ∧ v ≤ nI N) ↔ inN (N + 1) v := by
  rcases inN_cases (N := N + 1) (v := v) (by omega) with ⟨h1, h2⟩ | ⟨h1, h2, h3⟩ | ⟨h1, h2, h3⟩
  · exact ⟨fun z => absurd h1 (Int32.not_lt.mpr z.1), fun z => absurd z h2⟩
  · refine ⟨fun z => ?_, fun z => absurd z h3⟩
    have := le_lt1 (by omega) z.2
    exact absurd h2 (fun q => Int32.not_lt.mpr q this)
  · refine ⟨fun _ => h3, fun _ => ⟨Int32.not_lt.mp h1, ?_⟩⟩
    rw [h3.2]
    exact (nI_leI (by have := h3.1; omega) (by omega)).mpr (by have := h3.1; omega)
theorem c_Md_isSeries_t {v : Int32} (hW : WS S) (hX : MR M S) (h : okS S v) : CI o l m_Md_isSeries n [.ref 436, .int v] M (fun r M' => r = nI 1 ∧ M = M') := by
  refine ci_of rfl rfl rfl (Nat.le_of_ble_eq_true rfl) ?_
  have hs := hW.sz10
  obtain ⟨h0, h1⟩ := h
  refine r_aload_n d_Md_isSeries_0 rfl ?_
  refine g_Vi (av := []) d_Md_isSeries_1 k_Md_173 ws_Md_wide (by decide) rfl rfl (Nat.le_of_ble_eq_true rfl) rfl (c_Md_wide hX.sz) ?_
  rintro _ _ ⟨rfl, rfl⟩
  refine n_if_le d_Md_isSeries_4 (by omega) (fun hc => ?_) (fun hc => ?_)
  · omega
  · refine r_iload_n d_Md_isSeries_7 rfl ?_
    refine r_iconst (v := nI 0) d_Md_isSeries_8 (by decide) ?_
    refine r_iconst (v := nI 5) d_Md_isSeries_9 (by decide) ?_
    refine g_Si (av := [.int v, .int (nI 0), .int (nI 5)]) d_Md_isSeries_10 k_Md_118 ws_Md_isIn (by decide) rfl rfl (Nat.le_of_ble_eq_true rfl) (c_Md_isIn) ?_
    rintro r _ ⟨⟨rfl, h9⟩ | ⟨rfl, h9⟩, rfl⟩
    · refine n_if_eq d_Md_isSeries_13 (by omega) (fun h9 => absurd h9 (by decide)) (fun _ => ?_)
      refine r_iconst (v := nI 1) d_Md_isSeries_16 (by decide) ?_
      refine r_goto d_Md_isSeries_17 ?_
      refine g_retz d_Md_isSeries_21 rfl (by decide) ?_
      exact ⟨rfl, rfl⟩
    · exact absurd ((in_iff (by decide)).mpr h1) h9
theorem c_Md_isSeries_f {v : Int32} (hW : WS S) (hX : MR M S) (h : ¬ okS S v) : CI o l m_Md_isSeries n [.ref 436, .int v] M (fun r M' => r = nI 0 ∧ M = M') := by
  refine ci_of rfl rfl rfl (Nat.le_of_ble_eq_true rfl) ?_
  have hs := hW.sz10
  refine r_aload_n d_Md_isSeries_0 rfl ?_
  refine g_Vi (av := []) d_Md_isSeries_1 k_Md_173 ws_Md_wide (by decide) rfl rfl (Nat.le_of_ble_eq_true rfl) rfl (c_Md_wide hX.sz) ?_
  rintro _ _ ⟨rfl, rfl⟩
  refine n_if_le d_Md_isSeries_4 (by omega) (fun hc => ?_) (fun hc => ?_)
  · refine r_iconst (v := nI 0) d_Md_isSeries_20 (by decide) ?_
    refine g_retz d_Md_isSeries_21 rfl (by decide) ?_
    exact ⟨rfl, rfl⟩
  · refine r_iload_n d_Md_isSeries_7 rfl ?_
    refine r_iconst (v := nI 0) d_Md_isSeries_8 (by decide) ?_
    refine r_iconst (v := nI 5) d_Md_isSeries_9 (by decide) ?_
    refine g_Si (av := [.int v, .int (nI 0), .int (nI 5)]) d_Md_isSeries_10 k_Md_118 ws_Md_isIn (by decide) rfl rfl (Nat.le_of_ble_eq_true rfl) (c_Md_isIn) ?_
    rintro r _ ⟨⟨rfl, h9⟩ | ⟨rfl, h9⟩, rfl⟩
    · exact absurd ⟨hc, (in_iff (by decide)).mp h9⟩ h
    · refine n_if_eq d_Md_isSeries_13 (by omega) (fun _ => ?_) (fun h9 => absurd h9 (by decide))
      refine r_iconst (v := nI 0) d_Md_isSeries_20 (by decide) ?_
      refine g_retz d_Md_isSeries_21 rfl (by decide) ?_
      exact ⟨rfl, rfl⟩
theorem c_Md_isTable_t {v : Int32} (hW : WS S) (hX : MR M S) (h : okT S v) : CI o l m_Md_isTable n [.ref 436, .int v] M (fun r M' => r = nI 1 ∧ M = M') := by
  refine ci_of rfl rfl rfl (Nat.le_of_ble_eq_true rfl) ?_
  have hs := hW.sz10
  obtain ⟨h0, h1⟩ := h
  refine r_aload_n d_Md_isTable_0 rfl ?_
  refine g_Vi (av := []) d_Md_isTable_1 k_Md_173 ws_Md_wide (by decide) rfl rfl (Nat.le_of_ble_eq_true rfl) rfl (c_Md_wide hX.sz) ?_
  rintro _ _ ⟨rfl, rfl⟩
  refine n_if_le d_Md_isTable_4 (by omega) (fun hc => ?_) (fun hc => ?_)
  · omega
  · refine r_iload_n d_Md_isTable_7 rfl ?_
    refine r_iconst (v := nI 0) d_Md_isTable_8 (by decide) ?_
    refine r_iconst (v := nI 3) d_Md_isTable_9 (by decide) ?_
    refine g_Si (av := [.int v, .int (nI 0), .int (nI 3)]) d_Md_isTable_10 k_Md_118 ws_Md_isIn (by decide) rfl rfl (Nat.le_of_ble_eq_true rfl) (c_Md_isIn) ?_
    rintro r _ ⟨⟨rfl, h9⟩ | ⟨rfl, h9⟩, rfl⟩
    · refine n_if_eq d_Md_isTable_13 (by omega) (fun h9 => absurd h9 (by decide)) (fun _ => ?_)
      refine r_iconst (v := nI 1) d_Md_isTable_16 (by decide) ?_
      refine r_goto d_Md_isTable_17 ?_
      refine g_retz d_Md_isTable_21 rfl (by decide) ?_
      exact ⟨rfl, rfl⟩
    · exact absurd ((in_iff (by decide)).mpr h1) h9
theorem c_Md_isTable_f {v : Int32} (hW : WS S) (hX : MR M S) (h : ¬ okT S v) : CI o l m_Md_isTable n [.ref 436, .int v] M (fun r M' => r = nI 0 ∧ M = M') := by
  refine ci_of rfl rfl rfl (Nat.le_of_ble_eq_true rfl) ?_
  have hs := hW.sz10
  refine r_aload_n d_Md_isTable_0 rfl ?_
  refine g_Vi (av := []) d_Md_isTable_1 k_Md_173 ws_Md_wide (by decide) rfl rfl (Nat.le_of_ble_eq_true rfl) rfl (c_Md_wide hX.sz) ?_
  rintro _ _ ⟨rfl, rfl⟩
  refine n_if_le d_Md_isTable_4 (by omega) (fun hc => ?_) (fun hc => ?_)
  · refine r_iconst (v := nI 0) d_Md_isTable_20 (by decide) ?_
    refine g_retz d_Md_isTable_21 rfl (by decide) ?_
    exact ⟨rfl, rfl⟩
  · refine r_iload_n d_Md_isTable_7 rfl ?_
    refine r_iconst (v := nI 0) d_Md_isTable_8 (by decide) ?_
    refine r_iconst (v := nI 3) d_Md_isTable_9 (by decide) ?_
    refine g_Si (av := [.int v, .int (nI 0), .int (nI 3)]) d_Md_isTable_10 k_Md_118 ws_Md_isIn (by decide) rfl rfl (Nat.le_of_ble_eq_true rfl) (c_Md_isIn) ?_
    rintro r _ ⟨⟨rfl, h9⟩ | ⟨rfl, h9⟩, rfl⟩
    · exact absurd ⟨hc, (in_iff (by decide)).mp h9⟩ h
    · refine n_if_eq d_Md_isTable_13 (by omega) (fun _ => ?_) (fun h9 => absurd h9 (by decide))
      refine r_iconst (v := nI 0) d_Md_isTable_20 (by decide) ?_
      refine g_retz d_Md_isTable_21 rfl (by decide) ?_
      exact ⟨rfl, rfl⟩
theorem c_Md_isPlace {v : Int32} (hW : WS S) (hX : MR M S) : CI o l m_Md_isPlace n [.ref 436, .int v] M (fun r M' => BR r (okP S v) ∧ M = M') := by
  refine ci_of rfl rfl rfl (Nat.le_of_ble_eq_true rfl) ?_
  have hs := hW.sz10
  refine r_iload_n d_Md_isPlace_0 rfl ?_
  refine r_iconst (v := nI 0) d_Md_isPlace_1 (by decide) ?_
  refine r_aload_n d_Md_isPlace_2 rfl ?_
  refine g_Vi (av := []) d_Md_isPlace_3 k_Md_173 ws_Md_wide (by decide) rfl rfl (Nat.le_of_ble_eq_true rfl) rfl (c_Md_wide hX.sz) ?_
  rintro _ _ ⟨rfl, rfl⟩
  by_cases h0 : S.1 0 3 = 0
  · rw [h0]
    refine r_iconst (v := nI 1) d_Md_isPlace_6 (by decide) ?_
    refine r_isub d_Md_isPlace_7 ?_
    refine g_Si (av := [.int v, .int (nI 0), .int ((nI 0) - (nI 1))]) d_Md_isPlace_8 k_Md_118 ws_Md_isIn (by decide) rfl rfl (Nat.le_of_ble_eq_true rfl) (c_Md_isIn) ?_
    rintro r _ ⟨h9, rfl⟩
    refine g_retz d_Md_isPlace_11 rfl (by rcases h9 with h9 | h9 <;> (rw [h9.1]; decide)) ?_
    refine ⟨?_, rfl⟩
    have e : ¬ (nI 0 ≤ v ∧ v ≤ nI 0 - nI 1) := fun z => by
      have := Int32.le_trans z.1 z.2
      revert this
      decide
    have e2 : ¬ okP S v := fun z => by have := z.1; omega
    rcases h9 with h9 | h9
    · exact absurd h9.2 e
    · exact Or.inr ⟨h9.1, e2⟩
  · refine r_iconst (v := nI 1) d_Md_isPlace_6 (by decide) ?_
    refine n_isub d_Md_isPlace_7 (by omega) ?_
    refine g_Si (av := [.int v, .int (nI 0), .int (nI ((S.1 0 3) - 1))]) d_Md_isPlace_8 k_Md_118 ws_Md_isIn (by decide) rfl rfl (Nat.le_of_ble_eq_true rfl) (c_Md_isIn) ?_
    rintro r _ ⟨h9, rfl⟩
    refine g_retz d_Md_isPlace_11 rfl (by rcases h9 with h9 | h9 <;> (rw [h9.1]; decide)) ?_
    refine ⟨?_, rfl⟩
    have e : (nI 0 ≤ v ∧ v ≤ nI (S.1 0 3 - 1)) ↔ okP S v := by
      have := in_iff (N := S.1 0 3 - 1) (v := v) (by omega)
      rwa [show S.1 0 3 - 1 + 1 = S.1 0 3 by omega] at this
    rcases h9 with h9 | h9
    · exact Or.inl ⟨h9.1, e.mp h9.2⟩
    · exact Or.inr ⟨h9.1, fun z => h9.2 (e.mpr z)⟩
theorem c_Md_isPlace_t {v : Int32} (hW : WS S) (hX : MR M S) (h : okP S v) : CI o l m_Md_isPlace n [.ref 436, .int v] M (fun r M' => r = nI 1 ∧ M = M') := by
  refine ci_mono (c_Md_isPlace hW hX) ?_
  rintro r M' ⟨⟨h1, h2⟩ | ⟨h1, h2⟩, h3⟩
  · exact ⟨h1, h3⟩
  · exact absurd h h2
theorem c_Md_isPlace_f {v : Int32} (hW : WS S) (hX : MR M S) (h : ¬ okP S v) : CI o l m_Md_isPlace n [.ref 436, .int v] M (fun r M' => r = nI 0 ∧ M = M') := by
  refine ci_mono (c_Md_isPlace hW hX) ?_
  rintro r M' ⟨⟨h1, h2⟩ | ⟨h1, h2⟩, h3⟩
  · exact absurd h2 h
  · exact ⟨h1, h3⟩
end C60
