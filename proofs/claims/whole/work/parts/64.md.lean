/-! The reference: matrices -/
theorem lp {R P : Nat → Mem → Prop} {a N : Nat} {M : Mem} (ha : a ≤ N) (h0 : P a M) (ex : ∀ M1, P N M1 → R N M1) (st : ∀ k M1, a ≤ k ∧ k < N → P k M1 → (∀ M2, P (k + 1) M2 → R (k + 1) M2) → R k M1) : R a M := by
  have key : ∀ d k M1, k + d = N → a ≤ k → P k M1 → R k M1 := by
    intro d
    induction d with
    | zero =>
      intro k M1 hk _ hp
      obtain rfl : k = N := by omega
      exact ex M1 hp
    | succ d ih => exact fun k M1 hk hak hp => st k M1 ⟨hak, by omega⟩ hp (fun M2 h2 => ih (k + 1) M2 (by omega) (by omega) h2)
  exact key (N - a) a M (by omega) (Nat.le_refl _) h0
def Wk (L L' : List (Option Value)) : Prop := ∀ (i : Nat) (v : Value), L'[i]? = some (some v) → L[i]? = some (some v)
theorem wk_0 : Wk [] [] := fun _ _ h => h
theorem wk_n {L L' : List (Option Value)} {x : Option Value} (h : Wk L L') : Wk (x :: L) (none :: L') := fun i v hv => by
  cases i with
  | zero => cases hv
  | succ i => exact h i v hv
theorem wk_s {L L' : List (Option Value)} {x : Option Value} (h : Wk L L') : Wk (x :: L) (x :: L') := fun i v hv => by
  cases i with
  | zero => exact hv
  | succ i => exact h i v hv
/-- a matrix in a row of hundred -/
def MX (M : Mem) (c s : Nat) (A : Nat → Nat → Nat) : Prop := ∀ i j, i < s → j < s → M c (10 * i + j) = nI (A i j) ∧ A i j < 1000003
theorem MX.kept {M M' : Mem} {c s : Nat} {A : Nat → Nat → Nat} (h : MX M c s A) (e : M' c = M c) : MX M' c s A := fun i j hi hj => by rw [e]; exact h i j hi hj
theorem MX.to {M : Mem} {c s : Nat} {A B : Nat → Nat → Nat} (h : MX M c s A) (e : ∀ i j, i < s → j < s → A i j = B i j) : MX M c s B := fun i j hi hj => by rw [← e i j hi hj]; exact h i j hi hj
def MP (M : Mem) (c : Nat) (p : Nat → Nat → Prop) (W : Nat → Nat → Nat) (M' : Mem) : Prop := (∀ q, q ≠ c → M' q = M q) ∧ ∀ i j, j < 10 → p i j → M' c (10 * i + j) = nI (W i j)
theorem MP.up {M M1 : Mem} {c i j v : Nat} {p p' : Nat → Nat → Prop} {W : Nat → Nat → Nat} (h : MP M c p W M1) (hj : j < 10) (e : v = W i j) (hp : ∀ i' j', j' < 10 → p' i' j' → (i' = i ∧ j' = j) ∨ p i' j') : MP M c p' W (upm M1 c (10 * i + j) (nI v)) := by
  subst e
  refine ⟨fun q hq => by rw [upm_ne _ _ _ hq]; exact h.1 q hq, fun i' j' hj' hp' => ?_⟩
  rw [upm_at]
  rcases hp i' j' hj' hp' with ⟨rfl, rfl⟩ | h2
  · rw [if_pos rfl]
  · by_cases e : 10 * i' + j' = 10 * i + j
    · obtain ⟨rfl, rfl⟩ : i' = i ∧ j' = j := by omega
      rw [if_pos rfl]
    · rw [if_neg e]
      exact h.2 i' j' hj' h2
theorem MP.to {M M1 : Mem} {c : Nat} {p p' : Nat → Nat → Prop} {W : Nat → Nat → Nat} (h : MP M c p W M1) (hp : ∀ i' j', j' < 10 → p' i' j' → p i' j') : MP M c p' W M1 := ⟨h.1, fun i j hj h2 => h.2 i j hj (hp i j hj h2)⟩
theorem MP.z {M : Mem} {c : Nat} {p : Nat → Nat → Prop} {W : Nat → Nat → Nat} (hp : ∀ i' j', ¬ p i' j') : MP M c p W M := ⟨fun _ _ => rfl, fun i j _ h2 => absurd h2 (hp i j)⟩
theorem MP.mx {M M1 : Mem} {c s : Nat} {p : Nat → Nat → Prop} {W : Nat → Nat → Nat} (h : MP M c p W M1) (hs : s ≤ 10) (hp : ∀ i' j', i' < s → j' < s → p i' j') (hw : ∀ i' j', i' < s → j' < s → W i' j' < 1000003) : MX M1 c s W := fun i j hi hj => ⟨h.2 i j (by omega) (hp i j hi hj), hw i j hi hj⟩
def pm (s : Nat) (A B : Nat → Nat → Nat) (i j : Nat) : Nat := rst (zz (fun k => ((A i k * B k j : Nat) : Int)) s)
def mk (s : Nat) (A : Nat → Nat → Nat) (x : Nat → Nat) (i : Nat) : Nat := rst (zz (fun k => ((A i k * x k : Nat) : Int)) s)
def slv (A B : Nat → Nat → Nat) (i j : Nat) : Nat := rst ((B i j : Int) - zz (fun k => if _h : k < i then ((A i k * slv A B k j : Nat) : Int) else 0) i) * nv (A i i) % 1000003
termination_by i
theorem slv_eq (A B : Nat → Nat → Nat) (i j : Nat) : slv A B i j = rst ((B i j : Int) - zz (fun k => ((A i k * slv A B k j : Nat) : Int)) i) * nv (A i i) % 1000003 := by
  rw [slv]
  rw [zz_congr (g := fun k => ((A i k * slv A B k j : Nat) : Int)) (fun k hk => by rw [dif_pos hk])]
theorem slv_lt (A B : Nat → Nat → Nat) (i j : Nat) : slv A B i j < 1000003 := by rw [slv_eq]; exact Nat.mod_lt _ (by decide)
def sy (A B W : Nat → Nat → Nat) (i j : Nat) : Nat → Int
  | 0 => (B i j : Nat)
  | k + 1 => sy A B W i j k - ((A i k * W k j % 1000003 : Nat) : Int)
theorem sy_bd {A B W : Nat → Nat → Nat} {i j k : Nat} (hx : B i j < 1000003) : -((k : Int) * 1000003) ≤ sy A B W i j k ∧ sy A B W i j k < 1000003 := by
  induction k with
  | zero => rw [sy]; omega
  | succ k ih =>
    rw [sy]
    exact dz_st (Nat.mod_lt _ (by decide)) ih.1 ih.2
theorem sy_cg (A B W : Nat → Nat → Nat) (i j k : Nat) : Cg (sy A B W i j k) ((B i j : Int) - zz (fun t => ((A i t * W t j : Nat) : Int)) k) := by
  induction k with
  | zero => rw [sy, zz, Int.sub_zero]; exact Cg.rf _
  | succ k ih =>
    rw [sy, zz]
    refine (Cg.sub ih (Cg_md (A i k * W k j))).tr (Cg.of ?_)
    omega
theorem sy_slv (A B : Nat → Nat → Nat) (i j : Nat) : rst (sy A B (slv A B) i j i) * nv (A i i) % 1000003 = slv A B i j := by
  rw [rst_eq (sy_cg A B (slv A B) i j i), ← slv_eq]
def idm (i j : Nat) : Nat := if i = j then 1 else 0
theorem ml_t {s : Nat} {z x : Nat → Nat} {j : Nat} (h : j < s) : ml s z x j = cf z x j := by unfold ml; rw [if_pos h]
theorem ml_f {s : Nat} {z x : Nat → Nat} {j : Nat} (h : s ≤ j) : ml s z x j = z j := by unfold ml; rw [if_neg (by omega)]
section C64
variable {o : OM} {l : Launch} {n : Nat} {M : Mem} {S : SS}
theorem c_Md_laysUnit : CV o l m_Md_laysUnit n [.ref 436] M (fun M' => MW M 452 10 oneS M') := by
  refine cvo_of rfl rfl rfl (Nat.le_of_ble_eq_true rfl) ?_
  refine r_iconst (v := nI 0) d_Md_laysUnit_0 (by decide) ?_
  refine r_istore_n (L' := [some (.ref 436), some (.int (nI 0))]) d_Md_laysUnit_1 (by decide) rfl ?_
  refine lp (a := 0) (N := 10) (R := fun k M' => Rn o l m_Md_laysUnit (0, 0) 2 [some (.ref 436), some (.int (nI k))] [] (gh n M') (QV n fun M' => MW M 452 10 oneS M')) (P := fun k M' => MW M 452 k oneS M') (by omega) ?_ ?_ ?_
  · exact MW.z M 452 _
  · intro M1 h1
    refine r_iload_n d_Md_laysUnit_2 rfl ?_
    refine r_bipush (v := nI 10) d_Md_laysUnit_3 (by decide) ?_
    refine n_icmp_ge d_Md_laysUnit_5 (by omega) (by omega) (fun _ => ?_) (fun h9 => absurd h9 (by omega))
    refine g_retv d_Md_laysUnit_29 rfl ?_
    exact h1
  · intro k M1 hk h1 ih
    refine r_iload_n d_Md_laysUnit_2 rfl ?_
    refine r_bipush (v := nI 10) d_Md_laysUnit_3 (by decide) ?_
    refine n_icmp_ge d_Md_laysUnit_5 (by omega) (by omega) (fun h9 => absurd h9 (by omega)) (fun _ => ?_)
    refine r_aload_n d_Md_laysUnit_8 rfl ?_
    refine g_getr (b := 452) d_Md_laysUnit_9 f_Md_99 rfl rfl rfl ?_
    refine r_iload_n d_Md_laysUnit_12 rfl ?_
    refine r_iload_n d_Md_laysUnit_13 rfl ?_
    refine n_if_ne d_Md_laysUnit_14 (by omega) (fun hc => ?_) (fun hc => ?_)
    · refine r_iconst (v := nI 0) d_Md_laysUnit_21 (by decide) ?_
      refine g_iast d_Md_laysUnit_22 rfl (by omega) (by omega) ?_
      refine n_iinc (c := 1) (L' := [some (.ref 436), some (.int (nI (k + 1)))]) d_Md_laysUnit_23 rfl rfl (by decide) rfl ?_
      refine r_goto d_Md_laysUnit_26 ?_
      refine ih _ ?_
      exact h1.up (v := 0) (by unfold oneS; rw [if_neg hc])
    · refine r_iconst (v := nI 1) d_Md_laysUnit_17 (by decide) ?_
      refine r_goto d_Md_laysUnit_18 ?_
      refine g_iast d_Md_laysUnit_22 rfl (by omega) (by omega) ?_
      refine n_iinc (c := 1) (L' := [some (.ref 436), some (.int (nI (k + 1)))]) d_Md_laysUnit_23 rfl rfl (by decide) rfl ?_
      refine r_goto d_Md_laysUnit_26 ?_
      refine ih _ ?_
      exact h1.up (v := 1) (by unfold oneS; rw [if_pos hc])
theorem c_Md_ones {c : Nat} (hc : gT c = (1, 100)) : CV o l m_Md_ones n [.ref c] M (fun M' => (∀ b, b ≠ c → M' b = M b) ∧ MX M' c 10 idm) := by
  refine cvo_of rfl rfl rfl (Nat.le_of_ble_eq_true rfl) ?_
  refine r_iconst (v := nI 0) d_Md_ones_0 (by decide) ?_
  refine r_istore_n (L' := [some (.ref c), some (.int (nI 0))]) d_Md_ones_1 (by decide) rfl ?_
  refine lp (a := 0) (N := 100) (R := fun k M' => Rn o l m_Md_ones (0, 0) 2 [some (.ref c), some (.int (nI k))] [] (gh n M') (QV n fun M' => (∀ b, b ≠ c → M' b = M b) ∧ MX M' c 10 idm)) (P := fun k M' => MW M c k (fun k => if k % 11 = 0 then 1 else 0) M') (by omega) ?_ ?_ ?_
  · exact MW.z M c _
  · intro M1 h1
    refine r_iload_n d_Md_ones_2 rfl ?_
    refine r_bipush (v := nI 100) d_Md_ones_3 (by decide) ?_
    refine n_icmp_ge d_Md_ones_5 (by omega) (by omega) (fun _ => ?_) (fun h9 => absurd h9 (by omega))
    refine g_retv d_Md_ones_29 rfl ?_
    refine ⟨h1.1, fun i j hi hj => ⟨?_, by unfold idm; split <;> decide⟩⟩
    rw [h1.2 _ (by omega)]
    show nI (if (10 * i + j) % 11 = 0 then 1 else 0) = nI (if i = j then 1 else 0)
    by_cases e : i = j
    · rw [if_pos (by omega), if_pos e]
    · rw [if_neg (by omega), if_neg e]
  · intro k M1 hk h1 ih
    refine r_iload_n d_Md_ones_2 rfl ?_
    refine r_bipush (v := nI 100) d_Md_ones_3 (by decide) ?_
    refine n_icmp_ge d_Md_ones_5 (by omega) (by omega) (fun h9 => absurd h9 (by omega)) (fun _ => ?_)
    refine r_aload_n d_Md_ones_8 rfl ?_
    refine r_iload_n d_Md_ones_9 rfl ?_
    refine r_iload_n d_Md_ones_10 rfl ?_
    refine r_bipush (v := nI 11) d_Md_ones_11 (by decide) ?_
    refine n_irem d_Md_ones_13 (by omega) (by omega) (by omega) ?_
    refine n_if_ne d_Md_ones_14 (by omega) (fun hc2 => ?_) (fun hc2 => ?_)
    · refine r_iconst (v := nI 0) d_Md_ones_21 (by decide) ?_
      refine g_iast d_Md_ones_22 hc (by omega) (by omega) ?_
      refine n_iinc (c := 1) (L' := [some (.ref c), some (.int (nI (k + 1)))]) d_Md_ones_23 rfl rfl (by decide) rfl ?_
      refine r_goto d_Md_ones_26 ?_
      refine ih _ ?_
      exact h1.up (v := 0) (by show 0 = if k % 11 = 0 then 1 else 0; rw [if_neg hc2])
    · refine r_iconst (v := nI 1) d_Md_ones_17 (by decide) ?_
      refine r_goto d_Md_ones_18 ?_
      refine g_iast d_Md_ones_22 hc (by omega) (by omega) ?_
      refine n_iinc (c := 1) (L' := [some (.ref c), some (.int (nI (k + 1)))]) d_Md_ones_23 rfl rfl (by decide) rfl ?_
      refine r_goto d_Md_ones_26 ?_
      refine ih _ ?_
      exact h1.up (v := 1) (by show 1 = if k % 11 = 0 then 1 else 0; rw [if_pos hc2])
theorem c_Md_columns {a b c s : Nat} {g f : Nat → Nat} (ha : gT a = (1, 10)) (hb : gT b = (1, 10)) (hc : gT c = (1, 100)) (ha2 : a ≠ 446) (hb2 : b ≠ 446 ∧ b ≠ 447 ∧ b ≠ c) (hc2 : c ≠ 438) (hs : s ≤ 10) (hz : M 438 0 = nI s) (hg : OKs M a 10 g) (hf : OKs M b s f) : CV o l m_Md_columns n [.ref 436, .ref a, .ref b, .ref c] M (fun M' => (∀ q, q ≠ 446 → q ≠ 447 → q ≠ c → M' q = M q) ∧ MX M' c s (fun i j => col s g f j i)) := by
  refine cvo_of rfl rfl rfl (Nat.le_of_ble_eq_true rfl) ?_
  have hc6 : c ≠ 446 := fun e => by rw [e] at hc; exact absurd hc (by decide)
  have hc7 : c ≠ 447 := fun e => by rw [e] at hc; exact absurd hc (by decide)
  refine r_iconst (v := nI 0) d_Md_columns_0 (by decide) ?_
  refine r_istore (L' := [some (.ref 436), some (.ref a), some (.ref b), some (.ref c), some (.int (nI 0)), none]) d_Md_columns_1 (by decide) rfl ?_
  refine lp (a := 0) (N := 10) (R := fun k M' => Rn o l m_Md_columns (0, 0) 3 [some (.ref 436), some (.ref a), some (.ref b), some (.ref c), some (.int (nI k)), none] [] (gh n M') (QV n fun M' => (∀ q, q ≠ 446 → q ≠ 447 → q ≠ c → M' q = M q) ∧ MX M' c s (fun i j => col s g f j i))) (P := fun k M' => MW M 446 k g M') (by omega) ?_ ?_ ?_
  · exact MW.z M 446 _
  · intro M1 h1
    refine r_iload d_Md_columns_3 rfl ?_
    refine r_bipush (v := nI 10) d_Md_columns_5 (by decide) ?_
    refine n_icmp_ge d_Md_columns_7 (by omega) (by omega) (fun _ => ?_) (fun h9 => absurd h9 (by omega))
    refine r_iconst (v := nI 0) d_Md_columns_27 (by decide) ?_
    refine r_istore (L' := [some (.ref 436), some (.ref a), some (.ref b), some (.ref c), some (.int (nI 0)), none]) d_Md_columns_28 (by decide) rfl ?_
    refine lp (a := 0) (N := s) (R := fun j M' => Rn o l m_Md_columns (0, 0) 30 [some (.ref 436), some (.ref a), some (.ref b), some (.ref c), some (.int (nI j)), none] [] (gh n M') (QV n fun M' => (∀ q, q ≠ 446 → q ≠ 447 → q ≠ c → M' q = M q) ∧ MX M' c s (fun i j => col s g f j i))) (P := fun j M' => (∀ q, q ≠ 446 → q ≠ 447 → q ≠ c → M' q = M q) ∧ (∀ i, i < 10 → M' 446 i = nI (col s g f j i)) ∧ ∀ i j', i < s → j' < j → M' c (10 * i + j') = nI (col s g f j' i)) (by omega) ?_ ?_ ?_
    · exact ⟨fun q q1 _ _ => h1.1 q q1, fun i hi => h1.2 i hi, fun i j' _ h => absurd h (Nat.not_lt_zero _)⟩
    · intro M2 h2
      refine r_iload d_Md_columns_30 rfl ?_
      refine r_aload_n d_Md_columns_32 rfl ?_
      refine g_Vi (av := []) d_Md_columns_33 k_Md_173 ws_Md_wide (by decide) rfl rfl (Nat.le_of_ble_eq_true rfl) rfl (c_Md_wide (by rw [h2.1 438 (by decide) (by decide) (fun e => hc2 e.symm)]; exact hz)) ?_
      rintro _ _ ⟨rfl, rfl⟩
      refine n_icmp_ge d_Md_columns_36 (by omega) (by omega) (fun _ => ?_) (fun h9 => absurd h9 (by omega))
      refine g_retv d_Md_columns_128 rfl ?_
      exact ⟨h2.1, fun i j hi hj => ⟨h2.2.2 i j hi hj, col_lt (hg i (by omega)).2 j⟩⟩
    · intro j M2 hj h2 ih
      have hz2 : M2 438 0 = nI s := by rw [h2.1 438 (by decide) (by decide) (fun e => hc2 e.symm)]; exact hz
      refine r_iload d_Md_columns_30 rfl ?_
      refine r_aload_n d_Md_columns_32 rfl ?_
      refine g_Vi (av := []) d_Md_columns_33 k_Md_173 ws_Md_wide (by decide) rfl rfl (Nat.le_of_ble_eq_true rfl) rfl (c_Md_wide (hz2)) ?_
      rintro _ _ ⟨rfl, rfl⟩
      refine n_icmp_ge d_Md_columns_36 (by omega) (by omega) (fun h9 => absurd h9 (by omega)) (fun _ => ?_)
      refine r_iconst (v := nI 0) d_Md_columns_39 (by decide) ?_
      refine r_istore (L' := [some (.ref 436), some (.ref a), some (.ref b), some (.ref c), some (.int (nI j)), some (.int (nI 0))]) d_Md_columns_40 (by decide) rfl ?_
      refine lp (a := 0) (N := s) (R := fun i M' => Rn o l m_Md_columns (0, 0) 42 [some (.ref 436), some (.ref a), some (.ref b), some (.ref c), some (.int (nI j)), some (.int (nI i))] [] (gh n M') (QV n fun M' => (∀ q, q ≠ 446 → q ≠ 447 → q ≠ c → M' q = M q) ∧ MX M' c s (fun i j => col s g f j i))) (P := fun i M' => (∀ q, q ≠ c → M' q = M2 q) ∧ (∀ i', i' < i → M' c (10 * i' + j) = nI (col s g f j i')) ∧ ∀ i' j', j' < j → M' c (10 * i' + j') = M2 c (10 * i' + j')) (by omega) ?_ ?_ ?_
      · exact ⟨fun _ _ => rfl, fun i' h => absurd h (Nat.not_lt_zero _), fun _ _ _ => rfl⟩
      · intro M3 h3
        have hz3 : M3 438 0 = nI s := by rw [h3.1 438 (fun e => hc2 e.symm)]; exact hz2
        refine r_iload d_Md_columns_42 rfl ?_
        refine r_aload_n d_Md_columns_44 rfl ?_
        refine g_Vi (av := []) d_Md_columns_45 k_Md_173 ws_Md_wide (by decide) rfl rfl (Nat.le_of_ble_eq_true rfl) rfl (c_Md_wide (hz3)) ?_
        rintro _ _ ⟨rfl, rfl⟩
        refine n_icmp_ge d_Md_columns_48 (by omega) (by omega) (fun _ => ?_) (fun h9 => absurd h9 (by omega))
        refine r_aload_n d_Md_columns_74 rfl ?_
        refine g_getr (b := 446) d_Md_columns_75 f_Md_81 rfl rfl rfl ?_
        refine r_aload_n d_Md_columns_78 rfl ?_
        refine r_aload_n d_Md_columns_79 rfl ?_
        refine g_getr (b := 447) d_Md_columns_80 f_Md_84 rfl rfl rfl ?_
        refine r_aload_n d_Md_columns_83 rfl ?_
        refine g_Vi (av := []) d_Md_columns_84 k_Md_173 ws_Md_wide (by decide) rfl rfl (Nat.le_of_ble_eq_true rfl) rfl (c_Md_wide (hz3)) ?_
        rintro _ _ ⟨rfl, rfl⟩
        refine g_Sv (av := [.ref 446, .ref b, .ref 447, .int (nI s)]) d_Md_columns_87 k_Md_186 ws_Md_multiplies (by decide) rfl rfl (Nat.le_of_ble_eq_true rfl) (c_Md_multiplies rfl hb rfl (by decide) hb2.2.1 hs (x := col s g f j) (y := f) (fun i hi => ⟨by rw [h3.1 446 (fun e => hc6 e.symm)]; exact h2.2.1 i (by omega), col_lt (hg i (by omega)).2 j⟩) (hf.kept (by rw [h3.1 b hb2.2.2]; exact h2.1 b hb2.1 hb2.2.1 hb2.2.2))) ?_
        rintro M4 h4
        have hz4 : M4 438 0 = nI s := by rw [h4.1 438 (by decide)]; exact hz3
        refine r_iconst (v := nI 0) d_Md_columns_90 (by decide) ?_
        refine r_istore (L' := [some (.ref 436), some (.ref a), some (.ref b), some (.ref c), some (.int (nI j)), some (.int (nI 0))]) d_Md_columns_91 (by decide) rfl ?_
        refine lp (a := 0) (N := s) (R := fun k M' => Rn o l m_Md_columns (0, 0) 93 [some (.ref 436), some (.ref a), some (.ref b), some (.ref c), some (.int (nI j)), some (.int (nI k))] [] (gh n M') (QV n fun M' => (∀ q, q ≠ 446 → q ≠ 447 → q ≠ c → M' q = M q) ∧ MX M' c s (fun i j => col s g f j i))) (P := fun k M' => (∀ q, q ≠ 446 → M' q = M4 q) ∧ (∀ t, t < k → M' 446 t = M4 447 t) ∧ ∀ t, k ≤ t → M' 446 t = M4 446 t) (by omega) ?_ ?_ ?_
        · exact ⟨fun _ _ => rfl, fun i' h => absurd h (Nat.not_lt_zero _), fun _ _ => rfl⟩
        · intro M5 h5
          refine r_iload d_Md_columns_93 rfl ?_
          refine r_aload_n d_Md_columns_95 rfl ?_
          refine g_Vi (av := []) d_Md_columns_96 k_Md_173 ws_Md_wide (by decide) rfl rfl (Nat.le_of_ble_eq_true rfl) rfl (c_Md_wide (by rw [h5.1 438 (by decide)]; exact hz4)) ?_
          rintro _ _ ⟨rfl, rfl⟩
          refine n_icmp_ge d_Md_columns_99 (by omega) (by omega) (fun _ => ?_) (fun h9 => absurd h9 (by omega))
          refine n_iinc (c := 1) (L' := [some (.ref 436), some (.ref a), some (.ref b), some (.ref c), some (.int (nI (j + 1))), some (.int (nI s))]) d_Md_columns_122 rfl rfl (by decide) rfl ?_
          refine r_goto d_Md_columns_125 ?_
          refine r_weak (L' := [some (.ref 436), some (.ref a), some (.ref b), some (.ref c), some (.int (nI (j + 1))), none]) (wk_s (wk_s (wk_s (wk_s (wk_s (wk_n wk_0)))))) (ih _ ?_)
          refine ⟨fun q q1 q2 q3 => by rw [h5.1 q q1, h4.1 q q2, h3.1 q q3]; exact h2.1 q q1 q2 q3, fun i hi => ?_, fun i j' hi hj' => ?_⟩
          · show M5 446 i = nI (ml s (col s g f j) f i)
            by_cases e : i < s
            · rw [h5.2.1 i e, h4.2 i e, ml_t e]
            · rw [h5.2.2 i (by omega), h4.1 446 (by decide), h3.1 446 (fun e => hc6 e.symm), ml_f (by omega)]
              exact h2.2.1 i hi
          · rw [h5.1 c hc6, h4.1 c hc7]
            by_cases e : j' = j
            · rw [e]; exact h3.2.1 i hi
            · rw [h3.2.2 i j' (by omega)]
              exact h2.2.2 i j' hi (by omega)
        · intro k M5 hk h5 ih2
          refine r_iload d_Md_columns_93 rfl ?_
          refine r_aload_n d_Md_columns_95 rfl ?_
          refine g_Vi (av := []) d_Md_columns_96 k_Md_173 ws_Md_wide (by decide) rfl rfl (Nat.le_of_ble_eq_true rfl) rfl (c_Md_wide (by rw [h5.1 438 (by decide)]; exact hz4)) ?_
          rintro _ _ ⟨rfl, rfl⟩
          refine n_icmp_ge d_Md_columns_99 (by omega) (by omega) (fun h9 => absurd h9 (by omega)) (fun _ => ?_)
          refine r_aload_n d_Md_columns_102 rfl ?_
          refine g_getr (b := 446) d_Md_columns_103 f_Md_81 rfl rfl rfl ?_
          refine r_iload d_Md_columns_106 rfl ?_
          refine r_aload_n d_Md_columns_108 rfl ?_
          refine g_getr (b := 447) d_Md_columns_109 f_Md_84 rfl rfl rfl ?_
          refine r_iload d_Md_columns_112 rfl ?_
          refine g_iald d_Md_columns_114 rfl (by omega) (by omega) ?_
          refine g_iast d_Md_columns_115 rfl (by omega) (by omega) ?_
          refine n_iinc (c := 1) (L' := [some (.ref 436), some (.ref a), some (.ref b), some (.ref c), some (.int (nI j)), some (.int (nI (k + 1)))]) d_Md_columns_116 rfl rfl (by decide) rfl ?_
          refine r_goto d_Md_columns_119 ?_
          refine ih2 _ ?_
          refine ⟨fun q hq => by rw [upm_ne _ _ _ hq]; exact h5.1 q hq, fun t ht => ?_, fun t ht => ?_⟩
          · rw [upm_at]
            by_cases e : t = k
            · rw [if_pos e, e, h5.1 447 (by decide)]
            · rw [if_neg e]; exact h5.2.1 t (by omega)
          · rw [upm_at, if_neg (by omega)]
            exact h5.2.2 t (by omega)
      · intro i M3 hi h3 ih2
        refine r_iload d_Md_columns_42 rfl ?_
        refine r_aload_n d_Md_columns_44 rfl ?_
        refine g_Vi (av := []) d_Md_columns_45 k_Md_173 ws_Md_wide (by decide) rfl rfl (Nat.le_of_ble_eq_true rfl) rfl (c_Md_wide (by rw [h3.1 438 (fun e => hc2 e.symm)]; exact hz2)) ?_
        rintro _ _ ⟨rfl, rfl⟩
        refine n_icmp_ge d_Md_columns_48 (by omega) (by omega) (fun h9 => absurd h9 (by omega)) (fun _ => ?_)
        refine r_aload_n d_Md_columns_51 rfl ?_
        refine r_bipush (v := nI 10) d_Md_columns_52 (by decide) ?_
        refine r_iload d_Md_columns_54 rfl ?_
        refine n_imul d_Md_columns_56 ?_
        refine r_iload d_Md_columns_57 rfl ?_
        refine n_iadd d_Md_columns_59 ?_
        refine r_aload_n d_Md_columns_60 rfl ?_
        refine g_getr (b := 446) d_Md_columns_61 f_Md_81 rfl rfl rfl ?_
        refine r_iload d_Md_columns_64 rfl ?_
        refine g_iald d_Md_columns_66 rfl (by omega) (by omega) ?_
        refine r_top (y := nI (col s g f j i)) (by rw [h3.1 446 (fun e => hc6 e.symm)]; exact h2.2.1 i (by omega)) ?_
        refine g_iast d_Md_columns_67 hc (by omega) (by omega) ?_
        refine n_iinc (c := 1) (L' := [some (.ref 436), some (.ref a), some (.ref b), some (.ref c), some (.int (nI j)), some (.int (nI (i + 1)))]) d_Md_columns_68 rfl rfl (by decide) rfl ?_
        refine r_goto d_Md_columns_71 ?_
        refine ih2 _ ?_
        refine ⟨fun q hq => by rw [upm_ne _ _ _ hq]; exact h3.1 q hq, fun i' hi' => ?_, fun i' j' hj' => ?_⟩
        · rw [upm_at]
          by_cases e : i' = i
          · rw [e, if_pos rfl]
          · rw [if_neg (by omega)]
            exact h3.2.1 i' (by omega)
        · rw [upm_at, if_neg (by omega)]
          exact h3.2.2 i' j' hj'
  · intro k M1 hk h1 ih
    refine r_iload d_Md_columns_3 rfl ?_
    refine r_bipush (v := nI 10) d_Md_columns_5 (by decide) ?_
    refine n_icmp_ge d_Md_columns_7 (by omega) (by omega) (fun h9 => absurd h9 (by omega)) (fun _ => ?_)
    refine r_aload_n d_Md_columns_10 rfl ?_
    refine g_getr (b := 446) d_Md_columns_11 f_Md_81 rfl rfl rfl ?_
    refine r_iload d_Md_columns_14 rfl ?_
    refine r_aload_n d_Md_columns_16 rfl ?_
    refine r_iload d_Md_columns_17 rfl ?_
    refine g_iald d_Md_columns_19 ha (by omega) (by omega) ?_
    refine r_top (y := nI (g k)) (by rw [h1.1 a ha2]; exact (hg k (by omega)).1) ?_
    refine g_iast d_Md_columns_20 rfl (by omega) (by omega) ?_
    refine n_iinc (c := 1) (L' := [some (.ref 436), some (.ref a), some (.ref b), some (.ref c), some (.int (nI (k + 1))), none]) d_Md_columns_21 rfl rfl (by decide) rfl ?_
    refine r_goto d_Md_columns_24 ?_
    refine ih _ ?_
    exact h1.up rfl
theorem c_Md_product {a b c s : Nat} {A B : Nat → Nat → Nat} (ha : gT a = (1, 100)) (hb : gT b = (1, 100)) (hc : gT c = (1, 100)) (hac : a ≠ c) (hbc : b ≠ c) (hs : s ≤ 10) (hA : MX M a s A) (hB : MX M b s B) : CV o l m_Md_product n [.ref a, .ref b, .ref c, .int (nI s)] M (fun M' => (∀ q, q ≠ c → M' q = M q) ∧ MX M' c s (pm s A B)) := by
  refine cvo_of rfl rfl rfl (Nat.le_of_ble_eq_true rfl) ?_
  refine r_iconst (v := nI 0) d_Md_product_0 (by decide) ?_
  refine r_istore (L' := [some (.ref a), some (.ref b), some (.ref c), some (.int (nI s)), some (.int (nI 0)), none, none, none, none]) d_Md_product_1 (by decide) rfl ?_
  refine lp (a := 0) (N := s) (R := fun i M' => Rn o l m_Md_product (0, 0) 3 [some (.ref a), some (.ref b), some (.ref c), some (.int (nI s)), some (.int (nI i)), none, none, none, none] [] (gh n M') (QV n fun M' => (∀ q, q ≠ c → M' q = M q) ∧ MX M' c s (pm s A B))) (P := fun i M' => MP M c (fun i' j' => i' < i ∧ j' < s) (pm s A B) M') (by omega) ?_ ?_ ?_
  · exact MP.z (fun i' j' => by omega)
  · intro M1 h1
    refine r_iload d_Md_product_3 rfl ?_
    refine r_iload_n d_Md_product_5 rfl ?_
    refine n_icmp_ge d_Md_product_6 (by omega) (by omega) (fun _ => ?_) (fun h9 => absurd h9 (by omega))
    refine g_retv d_Md_product_95 rfl ?_
    exact ⟨h1.1, h1.mx hs (fun i' j' a1 a2 => ⟨a1, a2⟩) (fun _ _ _ _ => rst_lt _)⟩
  · intro i M1 hi h1 ih
    refine r_iload d_Md_product_3 rfl ?_
    refine r_iload_n d_Md_product_5 rfl ?_
    refine n_icmp_ge d_Md_product_6 (by omega) (by omega) (fun h9 => absurd h9 (by omega)) (fun _ => ?_)
    refine r_iconst (v := nI 0) d_Md_product_9 (by decide) ?_
    refine r_istore (L' := [some (.ref a), some (.ref b), some (.ref c), some (.int (nI s)), some (.int (nI i)), some (.int (nI 0)), none, none, none]) d_Md_product_10 (by decide) rfl ?_
    refine lp (a := 0) (N := s) (R := fun j M' => Rn o l m_Md_product (0, 0) 12 [some (.ref a), some (.ref b), some (.ref c), some (.int (nI s)), some (.int (nI i)), some (.int (nI j)), none, none, none] [] (gh n M') (QV n fun M' => (∀ q, q ≠ c → M' q = M q) ∧ MX M' c s (pm s A B))) (P := fun j M' => MP M c (fun i' j' => j' < s ∧ (i' < i ∨ i' = i ∧ j' < j)) (pm s A B) M') (by omega) ?_ ?_ ?_
    · exact h1.to (fun i' j' _ h => ⟨by omega, h.1⟩)
    · intro M2 h2
      refine r_iload d_Md_product_12 rfl ?_
      refine r_iload_n d_Md_product_14 rfl ?_
      refine n_icmp_ge d_Md_product_15 (by omega) (by omega) (fun _ => ?_) (fun h9 => absurd h9 (by omega))
      refine n_iinc (c := 1) (L' := [some (.ref a), some (.ref b), some (.ref c), some (.int (nI s)), some (.int (nI (i + 1))), some (.int (nI s)), none, none, none]) d_Md_product_89 rfl rfl (by decide) rfl ?_
      refine r_goto d_Md_product_92 ?_
      refine r_weak (L' := [some (.ref a), some (.ref b), some (.ref c), some (.int (nI s)), some (.int (nI (i + 1))), none, none, none, none]) (wk_s (wk_s (wk_s (wk_s (wk_s (wk_n (wk_n (wk_n (wk_n wk_0))))))))) (ih _ ?_)
      exact h2.to (fun i' j' _ h => by omega)
    · intro j M2 hj h2 ih2
      refine r_iload d_Md_product_12 rfl ?_
      refine r_iload_n d_Md_product_14 rfl ?_
      refine n_icmp_ge d_Md_product_15 (by omega) (by omega) (fun h9 => absurd h9 (by omega)) (fun _ => ?_)
      refine r_lconst (v := lN 0) d_Md_product_18 (by decide) ?_
      refine r_lstore (L' := [some (.ref a), some (.ref b), some (.ref c), some (.int (nI s)), some (.int (nI i)), some (.int (nI j)), some (.long (lN 0)), none, none]) d_Md_product_19 (by decide) rfl ?_
      refine r_iconst (v := nI 0) d_Md_product_21 (by decide) ?_
      refine r_istore (L' := [some (.ref a), some (.ref b), some (.ref c), some (.int (nI s)), some (.int (nI i)), some (.int (nI j)), some (.long (lN 0)), none, some (.int (nI 0))]) d_Md_product_22 (by decide) rfl ?_
      refine lp (a := 0) (N := s) (R := fun t M' => Rn o l m_Md_product (0, 0) 24 [some (.ref a), some (.ref b), some (.ref c), some (.int (nI s)), some (.int (nI i)), some (.int (nI j)), some (.long (lN (sn (fun u => A i u * B u j) t))), none, some (.int (nI t))] [] (gh n M') (QV n fun M' => (∀ q, q ≠ c → M' q = M q) ∧ MX M' c s (pm s A B))) (P := fun t M' => M' = M2) (by omega) ?_ ?_ ?_
      · rfl
      · intro _ e9
        subst e9
        refine r_iload d_Md_product_24 rfl ?_
        refine r_iload_n d_Md_product_26 rfl ?_
        refine n_icmp_ge d_Md_product_27 (by omega) (by omega) (fun _ => ?_) (fun h9 => absurd h9 (by omega))
        refine r_aload_n d_Md_product_68 rfl ?_
        refine r_bipush (v := nI 10) d_Md_product_69 (by decide) ?_
        refine r_iload d_Md_product_71 rfl ?_
        refine n_imul d_Md_product_73 ?_
        refine r_iload d_Md_product_74 rfl ?_
        refine n_iadd d_Md_product_76 ?_
        refine r_lload d_Md_product_77 rfl ?_
        refine g_Si (av := [.long (lN (sn (fun u => A i u * B u j) s))]) d_Md_product_79 k_Md_109 ws_Md_rest (by decide) rfl rfl (Nat.le_of_ble_eq_true rfl) (c_Md_restN (by have := sn_le (fun u => A i u * B u j) s; omega)) ?_
        rintro _ _ ⟨rfl, rfl⟩
        refine g_iast d_Md_product_82 hc (by omega) (by omega) ?_
        refine n_iinc (c := 1) (L' := [some (.ref a), some (.ref b), some (.ref c), some (.int (nI s)), some (.int (nI i)), some (.int (nI (j + 1))), some (.long (lN (sn (fun u => A i u * B u j) s))), none, some (.int (nI s))]) d_Md_product_83 rfl rfl (by decide) rfl ?_
        refine r_goto d_Md_product_86 ?_
        refine r_weak (L' := [some (.ref a), some (.ref b), some (.ref c), some (.int (nI s)), some (.int (nI i)), some (.int (nI (j + 1))), none, none, none]) (wk_s (wk_s (wk_s (wk_s (wk_s (wk_s (wk_n (wk_n (wk_n wk_0))))))))) (ih2 _ ?_)
        exact h2.up (by omega) (rst_eq (sn_cg _ _)) (fun i' j' _ h => by omega)
      · intro t _ ht e9 ih3
        subst e9
        refine r_iload d_Md_product_24 rfl ?_
        refine r_iload_n d_Md_product_26 rfl ?_
        refine n_icmp_ge d_Md_product_27 (by omega) (by omega) (fun h9 => absurd h9 (by omega)) (fun _ => ?_)
        refine r_lload d_Md_product_30 rfl ?_
        refine r_aload_n d_Md_product_32 rfl ?_
        refine r_bipush (v := nI 10) d_Md_product_33 (by decide) ?_
        refine r_iload d_Md_product_35 rfl ?_
        refine n_imul d_Md_product_37 ?_
        refine r_iload d_Md_product_38 rfl ?_
        refine n_iadd d_Md_product_40 ?_
        refine g_iald d_Md_product_41 ha (by omega) (by omega) ?_
        refine r_top (y := nI (A i t)) (by rw [h2.1 a hac]; exact (hA i t (by omega) (by omega)).1) ?_
        refine n_i2l d_Md_product_42 (by have h9 := (hA i t (by omega) (by omega)).2; omega) ?_
        refine r_aload_n d_Md_product_43 rfl ?_
        refine r_bipush (v := nI 10) d_Md_product_44 (by decide) ?_
        refine r_iload d_Md_product_46 rfl ?_
        refine n_imul d_Md_product_48 ?_
        refine r_iload d_Md_product_49 rfl ?_
        refine n_iadd d_Md_product_51 ?_
        refine g_iald d_Md_product_52 hb (by omega) (by omega) ?_
        refine r_top (y := nI (B t j)) (by rw [h2.1 b hbc]; exact (hB t j (by omega) (by omega)).1) ?_
        refine n_i2l d_Md_product_53 (by have h9 := (hB t j (by omega) (by omega)).2; omega) ?_
        refine n_lmul d_Md_product_54 ?_
        refine r_ldc2 (v := lN 1000003) d_Md_product_55 c_Md_102 ?_
        refine n_lrem d_Md_product_58 (by have := pp_lt (hA i t (by omega) (by omega)).2 (hB t j (by omega) (by omega)).2; omega) (by omega) (by omega) ?_
        refine n_ladd d_Md_product_59 ?_
        refine r_lstore (L' := [some (.ref a), some (.ref b), some (.ref c), some (.int (nI s)), some (.int (nI i)), some (.int (nI j)), some (.long (lN ((sn (fun u => A i u * B u j) t) + (((A i t) * (B t j)) % 1000003)))), none, some (.int (nI t))]) d_Md_product_60 (by decide) rfl ?_
        refine n_iinc (c := 1) (L' := [some (.ref a), some (.ref b), some (.ref c), some (.int (nI s)), some (.int (nI i)), some (.int (nI j)), some (.long (lN ((sn (fun u => A i u * B u j) t) + (((A i t) * (B t j)) % 1000003)))), none, some (.int (nI (t + 1)))]) d_Md_product_62 rfl rfl (by decide) rfl ?_
        refine r_goto d_Md_product_65 ?_
        exact ih3 _ rfl
theorem c_Md_solves {a b c s : Nat} {A B : Nat → Nat → Nat} (ha : gT a = (1, 100)) (hb : gT b = (1, 100)) (hc : gT c = (1, 100)) (hac : a ≠ c) (hbc : b ≠ c) (hs : s ≤ 10) (hA : MX M a s A) (hB : MX M b s B) : CV o l m_Md_solves n [.ref a, .ref b, .ref c, .int (nI s)] M (fun M' => (∀ q, q ≠ c → M' q = M q) ∧ MX M' c s (slv A B)) := by
  refine cvo_of rfl rfl rfl (Nat.le_of_ble_eq_true rfl) ?_
  refine r_iconst (v := nI 0) d_Md_solves_0 (by decide) ?_
  refine r_istore (L' := [some (.ref a), some (.ref b), some (.ref c), some (.int (nI s)), some (.int (nI 0)), none, none, none, none, none]) d_Md_solves_1 (by decide) rfl ?_
  refine lp (a := 0) (N := s) (R := fun i M' => Rn o l m_Md_solves (0, 0) 3 [some (.ref a), some (.ref b), some (.ref c), some (.int (nI s)), some (.int (nI i)), none, none, none, none, none] [] (gh n M') (QV n fun M' => (∀ q, q ≠ c → M' q = M q) ∧ MX M' c s (slv A B))) (P := fun i M' => MP M c (fun i' j' => i' < i ∧ j' < s) (slv A B) M') (by omega) ?_ ?_ ?_
  · exact MP.z (fun i' j' => by omega)
  · intro M1 h1
    refine r_iload d_Md_solves_3 rfl ?_
    refine r_iload_n d_Md_solves_5 rfl ?_
    refine n_icmp_ge d_Md_solves_6 (by omega) (by omega) (fun _ => ?_) (fun h9 => absurd h9 (by omega))
    refine g_retv d_Md_solves_132 rfl ?_
    exact ⟨h1.1, h1.mx hs (fun i' j' a1 a2 => ⟨a1, a2⟩) (fun _ _ _ _ => slv_lt _ _ _ _)⟩
  · intro i M1 hi h1 ih
    refine r_iload d_Md_solves_3 rfl ?_
    refine r_iload_n d_Md_solves_5 rfl ?_
    refine n_icmp_ge d_Md_solves_6 (by omega) (by omega) (fun h9 => absurd h9 (by omega)) (fun _ => ?_)
    refine r_aload_n d_Md_solves_9 rfl ?_
    refine r_bipush (v := nI 10) d_Md_solves_10 (by decide) ?_
    refine r_iload d_Md_solves_12 rfl ?_
    refine n_imul d_Md_solves_14 ?_
    refine r_iload d_Md_solves_15 rfl ?_
    refine n_iadd d_Md_solves_17 ?_
    refine g_iald d_Md_solves_18 ha (by omega) (by omega) ?_
    refine r_top (y := nI (A i i)) (by rw [h1.1 a hac]; exact (hA i i (by omega) (by omega)).1) ?_
    refine n_i2l d_Md_solves_19 (by have h9 := (hA i i (by omega) (by omega)).2; omega) ?_
    refine g_Si (av := [.long (lN (A i i))]) d_Md_solves_20 k_Md_105 ws_Md_turned (by decide) rfl rfl (Nat.le_of_ble_eq_true rfl) (c_Md_turned (hA i i (by omega) (by omega)).2) ?_
    rintro _ _ ⟨rfl, rfl⟩
    refine r_istore (L' := [some (.ref a), some (.ref b), some (.ref c), some (.int (nI s)), some (.int (nI i)), some (.int (nI (nv (A i i)))), none, none, none, none]) d_Md_solves_23 (by decide) rfl ?_
    refine r_iconst (v := nI 0) d_Md_solves_25 (by decide) ?_
    refine r_istore (L' := [some (.ref a), some (.ref b), some (.ref c), some (.int (nI s)), some (.int (nI i)), some (.int (nI (nv (A i i)))), some (.int (nI 0)), none, none, none]) d_Md_solves_26 (by decide) rfl ?_
    refine lp (a := 0) (N := s) (R := fun j M' => Rn o l m_Md_solves (0, 0) 28 [some (.ref a), some (.ref b), some (.ref c), some (.int (nI s)), some (.int (nI i)), some (.int (nI (nv (A i i)))), some (.int (nI j)), none, none, none] [] (gh n M') (QV n fun M' => (∀ q, q ≠ c → M' q = M q) ∧ MX M' c s (slv A B))) (P := fun j M' => MP M c (fun i' j' => j' < s ∧ (i' < i ∨ i' = i ∧ j' < j)) (slv A B) M') (by omega) ?_ ?_ ?_
    · exact h1.to (fun i' j' _ h => ⟨by omega, h.1⟩)
    · intro M2 h2
      refine r_iload d_Md_solves_28 rfl ?_
      refine r_iload_n d_Md_solves_30 rfl ?_
      refine n_icmp_ge d_Md_solves_31 (by omega) (by omega) (fun _ => ?_) (fun h9 => absurd h9 (by omega))
      refine n_iinc (c := 1) (L' := [some (.ref a), some (.ref b), some (.ref c), some (.int (nI s)), some (.int (nI (i + 1))), some (.int (nI (nv (A i i)))), some (.int (nI s)), none, none, none]) d_Md_solves_126 rfl rfl (by decide) rfl ?_
      refine r_goto d_Md_solves_129 ?_
      refine r_weak (L' := [some (.ref a), some (.ref b), some (.ref c), some (.int (nI s)), some (.int (nI (i + 1))), none, none, none, none, none]) (wk_s (wk_s (wk_s (wk_s (wk_s (wk_n (wk_n (wk_n (wk_n (wk_n wk_0)))))))))) (ih _ ?_)
      exact h2.to (fun i' j' _ h => by omega)
    · intro j M2 hj h2 ih2
      refine r_iload d_Md_solves_28 rfl ?_
      refine r_iload_n d_Md_solves_30 rfl ?_
      refine n_icmp_ge d_Md_solves_31 (by omega) (by omega) (fun h9 => absurd h9 (by omega)) (fun _ => ?_)
      refine r_aload_n d_Md_solves_34 rfl ?_
      refine r_bipush (v := nI 10) d_Md_solves_35 (by decide) ?_
      refine r_iload d_Md_solves_37 rfl ?_
      refine n_imul d_Md_solves_39 ?_
      refine r_iload d_Md_solves_40 rfl ?_
      refine n_iadd d_Md_solves_42 ?_
      refine g_iald d_Md_solves_43 hb (by omega) (by omega) ?_
      refine r_top (y := nI (B i j)) (by rw [h2.1 b hbc]; exact (hB i j (by omega) (by omega)).1) ?_
      refine n_i2l d_Md_solves_44 (by have h9 := (hB i j (by omega) (by omega)).2; omega) ?_
      refine r_topl (lN_Z (B i j)) ?_
      refine r_lstore (L' := [some (.ref a), some (.ref b), some (.ref c), some (.int (nI s)), some (.int (nI i)), some (.int (nI (nv (A i i)))), some (.int (nI j)), some (.long (lZ (B i j : Nat))), none, none]) d_Md_solves_45 (by decide) rfl ?_
      refine r_iconst (v := nI 0) d_Md_solves_47 (by decide) ?_
      refine r_istore (L' := [some (.ref a), some (.ref b), some (.ref c), some (.int (nI s)), some (.int (nI i)), some (.int (nI (nv (A i i)))), some (.int (nI j)), some (.long (lZ (B i j : Nat))), none, some (.int (nI 0))]) d_Md_solves_48 (by decide) rfl ?_
      refine lp (a := 0) (N := i) (R := fun t M' => Rn o l m_Md_solves (0, 0) 50 [some (.ref a), some (.ref b), some (.ref c), some (.int (nI s)), some (.int (nI i)), some (.int (nI (nv (A i i)))), some (.int (nI j)), some (.long (lZ (sy A B (slv A B) i j t))), none, some (.int (nI t))] [] (gh n M') (QV n fun M' => (∀ q, q ≠ c → M' q = M q) ∧ MX M' c s (slv A B))) (P := fun t M' => M' = M2) (by omega) ?_ ?_ ?_
      · rfl
      · intro _ e9
        subst e9
        have hb9 := sy_bd (A := A) (B := B) (W := slv A B) (k := i) (hB i j (by omega) (by omega)).2
        refine r_iload d_Md_solves_50 rfl ?_
        refine r_iload d_Md_solves_52 rfl ?_
        refine n_icmp_ge d_Md_solves_54 (by omega) (by omega) (fun _ => ?_) (fun h9 => absurd h9 (by omega))
        refine r_aload_n d_Md_solves_95 rfl ?_
        refine r_bipush (v := nI 10) d_Md_solves_96 (by decide) ?_
        refine r_iload d_Md_solves_98 rfl ?_
        refine n_imul d_Md_solves_100 ?_
        refine r_iload d_Md_solves_101 rfl ?_
        refine n_iadd d_Md_solves_103 ?_
        refine r_lload d_Md_solves_104 rfl ?_
        refine g_Si (av := [.long (lZ (sy A B (slv A B) i j i))]) d_Md_solves_106 k_Md_109 ws_Md_rest (by decide) rfl rfl (Nat.le_of_ble_eq_true rfl) (c_Md_rest rfl (by omega) (by omega)) ?_
        rintro _ _ ⟨rfl, rfl⟩
        refine n_i2l d_Md_solves_109 (Nat.lt_trans (rst_lt _) (by decide)) ?_
        refine r_iload d_Md_solves_110 rfl ?_
        refine n_i2l d_Md_solves_112 (Nat.lt_trans (nv_lt _) (by decide)) ?_
        refine n_lmul d_Md_solves_113 ?_
        refine r_ldc2 (v := lN 1000003) d_Md_solves_114 c_Md_102 ?_
        refine n_lrem d_Md_solves_117 (by have := pp_lt (rst_lt (sy A B (slv A B) i j i)) (nv_lt (A i i)); omega) (by omega) (by omega) ?_
        refine n_l2i d_Md_solves_118 ?_
        refine g_iast d_Md_solves_119 hc (by omega) (by omega) ?_
        refine n_iinc (c := 1) (L' := [some (.ref a), some (.ref b), some (.ref c), some (.int (nI s)), some (.int (nI i)), some (.int (nI (nv (A i i)))), some (.int (nI (j + 1))), some (.long (lZ (sy A B (slv A B) i j i))), none, some (.int (nI i))]) d_Md_solves_120 rfl rfl (by decide) rfl ?_
        refine r_goto d_Md_solves_123 ?_
        refine r_weak (L' := [some (.ref a), some (.ref b), some (.ref c), some (.int (nI s)), some (.int (nI i)), some (.int (nI (nv (A i i)))), some (.int (nI (j + 1))), none, none, none]) (wk_s (wk_s (wk_s (wk_s (wk_s (wk_s (wk_s (wk_n (wk_n (wk_n wk_0)))))))))) (ih2 _ ?_)
        exact h2.up (by omega) (sy_slv A B i j) (fun i' j' _ h => by omega)
      · intro t _ ht e9 ih3
        subst e9
        refine r_iload d_Md_solves_50 rfl ?_
        refine r_iload d_Md_solves_52 rfl ?_
        refine n_icmp_ge d_Md_solves_54 (by omega) (by omega) (fun h9 => absurd h9 (by omega)) (fun _ => ?_)
        refine r_lload d_Md_solves_57 rfl ?_
        refine r_aload_n d_Md_solves_59 rfl ?_
        refine r_bipush (v := nI 10) d_Md_solves_60 (by decide) ?_
        refine r_iload d_Md_solves_62 rfl ?_
        refine n_imul d_Md_solves_64 ?_
        refine r_iload d_Md_solves_65 rfl ?_
        refine n_iadd d_Md_solves_67 ?_
        refine g_iald d_Md_solves_68 ha (by omega) (by omega) ?_
        refine r_top (y := nI (A i t)) (by rw [h2.1 a hac]; exact (hA i t (by omega) (by omega)).1) ?_
        refine n_i2l d_Md_solves_69 (by have h9 := (hA i t (by omega) (by omega)).2; omega) ?_
        refine r_aload_n d_Md_solves_70 rfl ?_
        refine r_bipush (v := nI 10) d_Md_solves_71 (by decide) ?_
        refine r_iload d_Md_solves_73 rfl ?_
        refine n_imul d_Md_solves_75 ?_
        refine r_iload d_Md_solves_76 rfl ?_
        refine n_iadd d_Md_solves_78 ?_
        refine g_iald d_Md_solves_79 hc (by omega) (by omega) ?_
        refine r_top (y := nI (slv A B t j)) (h2.2 t j (by omega) ⟨by omega, by omega⟩) ?_
        refine n_i2l d_Md_solves_80 (by have h9 := slv_lt A B t j; omega) ?_
        refine n_lmul d_Md_solves_81 ?_
        refine r_ldc2 (v := lN 1000003) d_Md_solves_82 c_Md_102 ?_
        refine n_lrem d_Md_solves_85 (by have := pp_lt (hA i t (by omega) (by omega)).2 (slv_lt A B t j); omega) (by omega) (by omega) ?_
        refine z_lsub d_Md_solves_86 rfl (lN_Z _) ?_
        refine r_lstore (L' := [some (.ref a), some (.ref b), some (.ref c), some (.int (nI s)), some (.int (nI i)), some (.int (nI (nv (A i i)))), some (.int (nI j)), some (.long (lZ (((sy A B (slv A B) i j t)) - ((((A i t) * (slv A B t j)) % 1000003 : Nat))))), none, some (.int (nI t))]) d_Md_solves_87 (by decide) rfl ?_
        refine n_iinc (c := 1) (L' := [some (.ref a), some (.ref b), some (.ref c), some (.int (nI s)), some (.int (nI i)), some (.int (nI (nv (A i i)))), some (.int (nI j)), some (.long (lZ (((sy A B (slv A B) i j t)) - ((((A i t) * (slv A B t j)) % 1000003 : Nat))))), none, some (.int (nI (t + 1)))]) d_Md_solves_89 rfl rfl (by decide) rfl ?_
        refine r_goto d_Md_solves_92 ?_
        exact ih3 _ rfl
theorem c_Md_makes {a b c s : Nat} {A : Nat → Nat → Nat} {x : Nat → Nat} (ha : gT a = (1, 100)) (hb : gT b = (1, 10)) (hc : gT c = (1, 10)) (hac : a ≠ c) (hbc : b ≠ c) (hs : s ≤ 10) (hz : M 438 0 = nI s) (hc2 : c ≠ 438) (hA : MX M a s A) (hx : OKs M b s x) : CV o l m_Md_makes n [.ref 436, .ref a, .ref b, .ref c] M (fun M' => MW M c s (mk s A x) M') := by
  refine cvo_of rfl rfl rfl (Nat.le_of_ble_eq_true rfl) ?_
  refine r_iconst (v := nI 0) d_Md_makes_0 (by decide) ?_
  refine r_istore (L' := [some (.ref 436), some (.ref a), some (.ref b), some (.ref c), some (.int (nI 0)), none, none, none]) d_Md_makes_1 (by decide) rfl ?_
  refine lp (a := 0) (N := s) (R := fun i M' => Rn o l m_Md_makes (0, 0) 3 [some (.ref 436), some (.ref a), some (.ref b), some (.ref c), some (.int (nI i)), none, none, none] [] (gh n M') (QV n fun M' => MW M c s (mk s A x) M')) (P := fun i M' => MW M c i (mk s A x) M') (by omega) ?_ ?_ ?_
  · exact MW.z M c _
  · intro M1 h1
    refine r_iload d_Md_makes_3 rfl ?_
    refine r_aload_n d_Md_makes_5 rfl ?_
    refine g_Vi (av := []) d_Md_makes_6 k_Md_173 ws_Md_wide (by decide) rfl rfl (Nat.le_of_ble_eq_true rfl) rfl (c_Md_wide (by rw [h1.1 438 (fun e => hc2 e.symm)]; exact hz)) ?_
    rintro _ _ ⟨rfl, rfl⟩
    refine n_icmp_ge d_Md_makes_9 (by omega) (by omega) (fun _ => ?_) (fun h9 => absurd h9 (by omega))
    refine g_retv d_Md_makes_74 rfl ?_
    exact h1
  · intro i M1 hi h1 ih
    have hz1 : M1 438 0 = nI s := by rw [h1.1 438 (fun e => hc2 e.symm)]; exact hz
    refine r_iload d_Md_makes_3 rfl ?_
    refine r_aload_n d_Md_makes_5 rfl ?_
    refine g_Vi (av := []) d_Md_makes_6 k_Md_173 ws_Md_wide (by decide) rfl rfl (Nat.le_of_ble_eq_true rfl) rfl (c_Md_wide (hz1)) ?_
    rintro _ _ ⟨rfl, rfl⟩
    refine n_icmp_ge d_Md_makes_9 (by omega) (by omega) (fun h9 => absurd h9 (by omega)) (fun _ => ?_)
    refine r_lconst (v := lN 0) d_Md_makes_12 (by decide) ?_
    refine r_lstore (L' := [some (.ref 436), some (.ref a), some (.ref b), some (.ref c), some (.int (nI i)), some (.long (lN 0)), none, none]) d_Md_makes_13 (by decide) rfl ?_
    refine r_iconst (v := nI 0) d_Md_makes_15 (by decide) ?_
    refine r_istore (L' := [some (.ref 436), some (.ref a), some (.ref b), some (.ref c), some (.int (nI i)), some (.long (lN 0)), none, some (.int (nI 0))]) d_Md_makes_16 (by decide) rfl ?_
    refine lp (a := 0) (N := s) (R := fun t M' => Rn o l m_Md_makes (0, 0) 18 [some (.ref 436), some (.ref a), some (.ref b), some (.ref c), some (.int (nI i)), some (.long (lN (sn (fun u => A i u * x u) t))), none, some (.int (nI t))] [] (gh n M') (QV n fun M' => MW M c s (mk s A x) M')) (P := fun t M' => M' = M1) (by omega) ?_ ?_ ?_
    · rfl
    · intro _ e9
      subst e9
      refine r_iload d_Md_makes_18 rfl ?_
      refine r_aload_n d_Md_makes_20 rfl ?_
      refine g_Vi (av := []) d_Md_makes_21 k_Md_173 ws_Md_wide (by decide) rfl rfl (Nat.le_of_ble_eq_true rfl) rfl (c_Md_wide (hz1)) ?_
      rintro _ _ ⟨rfl, rfl⟩
      refine n_icmp_ge d_Md_makes_24 (by omega) (by omega) (fun _ => ?_) (fun h9 => absurd h9 (by omega))
      refine r_aload_n d_Md_makes_59 rfl ?_
      refine r_iload d_Md_makes_60 rfl ?_
      refine r_lload d_Md_makes_62 rfl ?_
      refine g_Si (av := [.long (lN (sn (fun u => A i u * x u) s))]) d_Md_makes_64 k_Md_109 ws_Md_rest (by decide) rfl rfl (Nat.le_of_ble_eq_true rfl) (c_Md_restN (by have := sn_le (fun u => A i u * x u) s; omega)) ?_
      rintro _ _ ⟨rfl, rfl⟩
      refine g_iast d_Md_makes_67 hc (by omega) (by omega) ?_
      refine n_iinc (c := 1) (L' := [some (.ref 436), some (.ref a), some (.ref b), some (.ref c), some (.int (nI (i + 1))), some (.long (lN (sn (fun u => A i u * x u) s))), none, some (.int (nI s))]) d_Md_makes_68 rfl rfl (by decide) rfl ?_
      refine r_goto d_Md_makes_71 ?_
      refine r_weak (L' := [some (.ref 436), some (.ref a), some (.ref b), some (.ref c), some (.int (nI (i + 1))), none, none, none]) (wk_s (wk_s (wk_s (wk_s (wk_s (wk_n (wk_n (wk_n wk_0)))))))) (ih _ ?_)
      exact h1.up (rst_eq (sn_cg _ _))
    · intro t _ ht e9 ih2
      subst e9
      refine r_iload d_Md_makes_18 rfl ?_
      refine r_aload_n d_Md_makes_20 rfl ?_
      refine g_Vi (av := []) d_Md_makes_21 k_Md_173 ws_Md_wide (by decide) rfl rfl (Nat.le_of_ble_eq_true rfl) rfl (c_Md_wide (hz1)) ?_
      rintro _ _ ⟨rfl, rfl⟩
      refine n_icmp_ge d_Md_makes_24 (by omega) (by omega) (fun h9 => absurd h9 (by omega)) (fun _ => ?_)
      refine r_lload d_Md_makes_27 rfl ?_
      refine r_aload_n d_Md_makes_29 rfl ?_
      refine r_bipush (v := nI 10) d_Md_makes_30 (by decide) ?_
      refine r_iload d_Md_makes_32 rfl ?_
      refine n_imul d_Md_makes_34 ?_
      refine r_iload d_Md_makes_35 rfl ?_
      refine n_iadd d_Md_makes_37 ?_
      refine g_iald d_Md_makes_38 ha (by omega) (by omega) ?_
      refine r_top (y := nI (A i t)) (by rw [h1.1 a hac]; exact (hA i t (by omega) (by omega)).1) ?_
      refine n_i2l d_Md_makes_39 (by have h9 := (hA i t (by omega) (by omega)).2; omega) ?_
      refine r_aload_n d_Md_makes_40 rfl ?_
      refine r_iload d_Md_makes_41 rfl ?_
      refine g_iald d_Md_makes_43 hb (by omega) (by omega) ?_
      refine r_top (y := nI (x t)) (by rw [h1.1 b hbc]; exact (hx t (by omega)).1) ?_
      refine n_i2l d_Md_makes_44 (by have h9 := (hx t (by omega)).2; omega) ?_
      refine n_lmul d_Md_makes_45 ?_
      refine r_ldc2 (v := lN 1000003) d_Md_makes_46 c_Md_102 ?_
      refine n_lrem d_Md_makes_49 (by have := pp_lt (hA i t (by omega) (by omega)).2 (hx t (by omega)).2; omega) (by omega) (by omega) ?_
      refine n_ladd d_Md_makes_50 ?_
      refine r_lstore (L' := [some (.ref 436), some (.ref a), some (.ref b), some (.ref c), some (.int (nI i)), some (.long (lN ((sn (fun u => A i u * x u) t) + (((A i t) * (x t)) % 1000003)))), none, some (.int (nI t))]) d_Md_makes_51 (by decide) rfl ?_
      refine n_iinc (c := 1) (L' := [some (.ref 436), some (.ref a), some (.ref b), some (.ref c), some (.int (nI i)), some (.long (lN ((sn (fun u => A i u * x u) t) + (((A i t) * (x t)) % 1000003)))), none, some (.int (nI (t + 1)))]) d_Md_makes_53 rfl rfl (by decide) rfl ?_
      refine r_goto d_Md_makes_56 ?_
      exact ih2 _ rfl
end C64
