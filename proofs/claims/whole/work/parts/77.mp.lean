/-- the terms of sums() as the reference has them -/
def tsm (h : Nat) (A : Nat → Nat → Nat) (n k : Nat) : Int := if h = 1 ∧ k % 2 = 1 then -((A n k : Nat) : Int) else if h = 2 then ((k * A n k : Nat) : Int) else if h = 3 then ((A (n - k) k : Nat) : Int) else ((A n k : Nat) : Int)
theorem tsm_ok {h : Nat} {c : Nat → Nat → Nat} {n k : Nat} (hh : h < 4) (hc : c k n < 1000003) : Cg (tsm h (fun i j => c j i) n k) (tmS h c n k : Nat) := by
  rcases (show h = 0 ∨ h = 1 ∨ h = 2 ∨ h = 3 by omega) with rfl | rfl | rfl | rfl
  · rw [tm_0]
    exact Cg.of rfl
  · by_cases e : k % 2 = 0
    · rw [tm_1a _ _ _ e]
      refine Cg.of ?_
      unfold tsm
      rw [if_neg (by omega), if_neg (by decide), if_neg (by decide)]
    · rw [tm_1b _ _ _ e]
      unfold tsm
      rw [if_pos ⟨rfl, by omega⟩]
      show Cg (-((c k n : Nat) : Int)) _
      unfold Cg
      omega
  · rw [tm_2]
    refine Cg.of ?_
    unfold tsm
    rw [if_neg (by omega), if_pos rfl, Nat.mul_comm]
  · rw [tm_3]
    refine Cg.of ?_
    unfold tsm
    rw [if_neg (by omega), if_neg (by decide), if_pos rfl]
theorem tsm_bd {h : Nat} {A : Nat → Nat → Nat} {n k : Nat} (hk : k < 10) (h1 : A n k < 1000003) (h2 : A (n - k) k < 1000003) : -10000030 ≤ tsm h A n k ∧ tsm h A n k ≤ 10000030 := by
  have : k * A n k ≤ 10 * 1000003 := Nat.mul_le_mul (by omega) (by omega)
  unfold tsm
  split
  · omega
  · split
    · omega
    · split <;> omega
theorem zt_st {a b : Int} {k : Nat} (h1 : -((k : Int) * 10000030) ≤ a ∧ a ≤ (k : Int) * 10000030) (h2 : -10000030 ≤ b ∧ b ≤ 10000030) : -(((k + 1 : Nat) : Int) * 10000030) ≤ a + b ∧ a + b ≤ ((k + 1 : Nat) : Int) * 10000030 := by omega
theorem zz_bd {f : Nat → Int} {m : Nat} (h : ∀ k, k < m → -10000030 ≤ f k ∧ f k ≤ 10000030) : -((m : Int) * 10000030) ≤ zz f m ∧ zz f m ≤ (m : Int) * 10000030 := by
  induction m with
  | zero => exact ⟨by rw [zz]; decide, by rw [zz]; decide⟩
  | succ m ih =>
    rw [zz]
    exact zt_st (ih (fun k hk => h k (by omega))) (h m (by omega))
theorem sms_ok {h : Nat} {c : Nat → Nat → Nat} {n : Nat} (hh : h < 4) (hc : ∀ k, k ≤ n → c k n < 1000003) : rst (zz (tsm h (fun i j => c j i) n) (n + 1)) = sms h c n (n + 1) % 1000003 := by
  have e : ∀ m, m ≤ n + 1 → Cg (zz (tsm h (fun i j => c j i) n) m) (sms h c n m : Nat) := by
    intro m
    induction m with
    | zero => exact fun _ => Cg.rf 0
    | succ m ih =>
      intro hm
      rw [zz, sms, Int.natCast_add]
      exact Cg.add (ih (by omega)) (tsm_ok hh (hc m (by omega)))
  rw [rst_eq (e (n + 1) (Nat.le_refl _)), rst_nat]
section RL7
variable {o : OM} {l : Launch} {m : MD} {bg : Nat × Nat} {pc : Nat} {L L' : List (Option Value)} {st : List Value} {h : AH} {Q : Option Value → AH → Prop}
theorem r_locZ {k : Nat} (e : L = L') (kk : Rn o l m bg pc L' st h Q) : Rn o l m bg pc L st h Q := e ▸ kk
end RL7
section C77
variable {o : OM} {l : Launch} {n : Nat} {M : Mem} {S : SS}
theorem c_Md_laysProduction {t : Nat} (hW : WS S) (hX : MR M S) (h0 : 0 < S.1 0 3) (ht : t < 4) : CV o l m_Md_laysProduction n [.ref 436, .int (nI t)] M (fun M' => WK M M' ∧ MX M' 450 (S.1 0 3 - 1) (slv (cm (S.1 0 3) (S.1 (21 + 3 * t)) (S.1 (22 + 3 * t))) (nxm (cm (S.1 0 3) (S.1 (21 + 3 * t)) (S.1 (22 + 3 * t)))))) := by
  refine cvo_of rfl rfl rfl (Nat.le_of_ble_eq_true rfl) ?_
  obtain ⟨z1, z2⟩ := hW.sz h0
  refine r_aload_n d_Md_laysProduction_0 rfl ?_
  refine r_iload_n d_Md_laysProduction_1 rfl ?_
  refine r_aload_n d_Md_laysProduction_2 rfl ?_
  refine g_getr (b := 448) d_Md_laysProduction_3 f_Md_87 rfl rfl rfl ?_
  refine g_Vv (av := [.int (nI t), .ref 448]) d_Md_laysProduction_6 k_Md_228 ws_Md_matrix (by decide) rfl rfl (Nat.le_of_ble_eq_true rfl) rfl (c_Md_matrix (c := 448) hW hX h0 rfl (by decide) ht) ?_
  rintro M1 ⟨g1, g2, g3, g4⟩
  have w1 : WK M M1 := wk_mx (by decide) g1
  have hsz := w1.sz hX.sz
  generalize cm (S.1 0 3) (S.1 (21 + 3 * t)) (S.1 (22 + 3 * t)) = A at *
  generalize S.1 0 3 = s at *
  refine r_aload_n d_Md_laysProduction_9 rfl ?_
  refine g_Vi (av := []) d_Md_laysProduction_10 k_Md_173 ws_Md_wide (by decide) rfl rfl (Nat.le_of_ble_eq_true rfl) rfl (c_Md_wide (hsz)) ?_
  rintro _ _ ⟨rfl, rfl⟩
  refine r_iconst (v := nI 1) d_Md_laysProduction_13 (by decide) ?_
  refine n_isub d_Md_laysProduction_14 (by omega) ?_
  refine r_istore_n (L' := [some (.ref 436), some (.int (nI t)), some (.int (nI (s - 1))), none, none]) d_Md_laysProduction_15 (by decide) rfl ?_
  refine r_iconst (v := nI 0) d_Md_laysProduction_16 (by decide) ?_
  refine r_istore_n (L' := [some (.ref 436), some (.int (nI t)), some (.int (nI (s - 1))), some (.int (nI 0)), none]) d_Md_laysProduction_17 (by decide) rfl ?_
  refine lp (a := 0) (N := s - 1) (R := fun i M' => Rn o l m_Md_laysProduction (0, 0) 18 [some (.ref 436), some (.int (nI t)), some (.int (nI (s - 1))), some (.int (nI i)), none] [] (gh n M') (QV n fun M' => WK M M' ∧ MX M' 450 (s - 1) (slv A (nxm A)))) (P := fun i M' => MP M1 449 (fun i' j' => i' < i ∧ j' < s - 1) (nxm A) M') (by omega) ?_ ?_ ?_
  · exact MP.z (fun i' j' => by omega)
  · intro M2 f2
    have w2 : WK M M2 := w1.trans (WK.of (fun b hb => f2.1 b (by omega)))
    refine r_iload_n d_Md_laysProduction_18 rfl ?_
    refine r_iload_n d_Md_laysProduction_19 rfl ?_
    refine n_icmp_ge d_Md_laysProduction_20 (by omega) (by omega) (fun _ => ?_) (fun h9 => absurd h9 (by omega))
    refine r_aload_n d_Md_laysProduction_70 rfl ?_
    refine g_getr (b := 448) d_Md_laysProduction_71 f_Md_87 rfl rfl rfl ?_
    refine r_aload_n d_Md_laysProduction_74 rfl ?_
    refine g_getr (b := 449) d_Md_laysProduction_75 f_Md_90 rfl rfl rfl ?_
    refine r_aload_n d_Md_laysProduction_78 rfl ?_
    refine g_getr (b := 450) d_Md_laysProduction_79 f_Md_93 rfl rfl rfl ?_
    refine r_iload_n d_Md_laysProduction_82 rfl ?_
    refine g_Sv (av := [.ref 448, .ref 449, .ref 450, .int (nI (s - 1))]) d_Md_laysProduction_83 k_Md_211 ws_Md_solves (by decide) rfl rfl (Nat.le_of_ble_eq_true rfl) (c_Md_solves (a := 448) (b := 449) (c := 450) (A := A) (B := nxm A) rfl rfl rfl (by decide) (by decide) (by omega) (fun i j hi hj => by rw [f2.1 448 (by decide)]; exact g2 i j (by omega) (by omega)) (f2.mx (by omega) (fun i' j' a1 a2 => ⟨a1, a2⟩) (fun i' j' a1 a2 => (g2 (i' + 1) j' (by omega) (by omega)).2))) ?_
    rintro M3 ⟨g5, g6⟩
    refine g_retv d_Md_laysProduction_86 rfl ?_
    exact ⟨w2.trans (WK.of (fun b hb => g5 b (by omega))), g6⟩
  · intro i M2 hi f2 ih
    refine r_iload_n d_Md_laysProduction_18 rfl ?_
    refine r_iload_n d_Md_laysProduction_19 rfl ?_
    refine n_icmp_ge d_Md_laysProduction_20 (by omega) (by omega) (fun h9 => absurd h9 (by omega)) (fun _ => ?_)
    refine r_iconst (v := nI 0) d_Md_laysProduction_23 (by decide) ?_
    refine r_istore (L' := [some (.ref 436), some (.int (nI t)), some (.int (nI (s - 1))), some (.int (nI i)), some (.int (nI 0))]) d_Md_laysProduction_24 (by decide) rfl ?_
    refine lp (a := 0) (N := s - 1) (R := fun j M' => Rn o l m_Md_laysProduction (0, 0) 26 [some (.ref 436), some (.int (nI t)), some (.int (nI (s - 1))), some (.int (nI i)), some (.int (nI j))] [] (gh n M') (QV n fun M' => WK M M' ∧ MX M' 450 (s - 1) (slv A (nxm A)))) (P := fun j M' => MP M1 449 (fun i' j' => j' < s - 1 ∧ (i' < i ∨ i' = i ∧ j' < j)) (nxm A) M') (by omega) ?_ ?_ ?_
    · exact f2.to (fun i' j' _ h => ⟨by omega, h.1⟩)
    · intro M3 f3
      refine r_iload d_Md_laysProduction_26 rfl ?_
      refine r_iload_n d_Md_laysProduction_28 rfl ?_
      refine n_icmp_ge d_Md_laysProduction_29 (by omega) (by omega) (fun _ => ?_) (fun h9 => absurd h9 (by omega))
      refine n_iinc (c := 1) (L' := [some (.ref 436), some (.int (nI t)), some (.int (nI (s - 1))), some (.int (nI (i + 1))), some (.int (nI (s - 1)))]) d_Md_laysProduction_64 rfl rfl (by decide) rfl ?_
      refine r_goto d_Md_laysProduction_67 ?_
      refine r_weak (L' := [some (.ref 436), some (.int (nI t)), some (.int (nI (s - 1))), some (.int (nI (i + 1))), none]) (wk_s (wk_s (wk_s (wk_s (wk_n wk_0))))) (ih _ ?_)
      exact f3.to (fun i' j' _ h => by omega)
    · intro j M3 hj f3 ih2
      refine r_iload d_Md_laysProduction_26 rfl ?_
      refine r_iload_n d_Md_laysProduction_28 rfl ?_
      refine n_icmp_ge d_Md_laysProduction_29 (by omega) (by omega) (fun h9 => absurd h9 (by omega)) (fun _ => ?_)
      refine r_aload_n d_Md_laysProduction_32 rfl ?_
      refine g_getr (b := 449) d_Md_laysProduction_33 f_Md_90 rfl rfl rfl ?_
      refine r_bipush (v := nI 10) d_Md_laysProduction_36 (by decide) ?_
      refine r_iload_n d_Md_laysProduction_38 rfl ?_
      refine n_imul d_Md_laysProduction_39 ?_
      refine r_iload d_Md_laysProduction_40 rfl ?_
      refine n_iadd d_Md_laysProduction_42 ?_
      refine r_aload_n d_Md_laysProduction_43 rfl ?_
      refine g_getr (b := 448) d_Md_laysProduction_44 f_Md_87 rfl rfl rfl ?_
      refine r_bipush (v := nI 10) d_Md_laysProduction_47 (by decide) ?_
      refine r_iload_n d_Md_laysProduction_49 rfl ?_
      refine r_iconst (v := nI 1) d_Md_laysProduction_50 (by decide) ?_
      refine n_iadd d_Md_laysProduction_51 ?_
      refine n_imul d_Md_laysProduction_52 ?_
      refine r_iload d_Md_laysProduction_53 rfl ?_
      refine n_iadd d_Md_laysProduction_55 ?_
      refine g_iald d_Md_laysProduction_56 rfl (by omega) (by omega) ?_
      refine r_top (y := nI (A (i + 1) j)) (by rw [f3.1 448 (by decide)]; exact (g2 (i + 1) j (by omega) (by omega)).1) ?_
      refine g_iast d_Md_laysProduction_57 rfl (by omega) (by omega) ?_
      refine n_iinc (c := 1) (L' := [some (.ref 436), some (.int (nI t)), some (.int (nI (s - 1))), some (.int (nI i)), some (.int (nI (j + 1)))]) d_Md_laysProduction_58 rfl rfl (by decide) rfl ?_
      refine r_goto d_Md_laysProduction_61 ?_
      refine ih2 _ ?_
      exact f3.up (by omega) rfl (fun i' j' _ h => by omega)
theorem c_Md_refuse (hX : MR M S) : CI o l m_Md_refuse n [.ref 436] M (fun r M' => r = nI 0 ∧ MR M' S ∧ KM M M' ∧ M' 436 0 = nI 1) := by
  refine ci_of rfl rfl rfl (Nat.le_of_ble_eq_true rfl) ?_
  refine r_aload_n d_Md_refuse_0 rfl ?_
  refine r_iconst (v := nI 1) d_Md_refuse_1 (by decide) ?_
  refine g_puti d_Md_refuse_2 f_Md_1 ⟨rfl, rfl, rfl⟩ rfl ?_
  refine r_iconst (v := nI 0) d_Md_refuse_5 (by decide) ?_
  refine g_reti d_Md_refuse_6 rfl ?_
  exact ⟨rfl, hX.thr, KM.rf.up (by decide), by rw [upm_at, if_pos rfl]⟩
def PE (M : Mem) (S : SS) (c : Prop) (v : Nat) (r : Int32) (M' : Mem) : Prop := MR M' S ∧ KM M M' ∧ (c → r = nI v ∧ M' 436 0 = nI 0) ∧ (¬ c → M' 436 0 = nI 1)
theorem c_Md_entry {t i j : Int32} (hW : WS S) (hX : MR M S) : CI o l m_Md_entry n [.ref 436, .int t, .int i, .int j] M (PE M S (okT S t ∧ okP S i ∧ okP S j) (col (S.1 0 3) (gOf S t) (fOf S t) (ix j) (ix i))) := by
  refine ci_of rfl rfl rfl (Nat.le_of_ble_eq_true rfl) ?_
  have hs10 := hW.sz10
  refine r_aload_n d_Md_entry_0 rfl ?_
  refine r_iconst (v := nI 0) d_Md_entry_1 (by decide) ?_
  refine g_puti d_Md_entry_2 f_Md_1 ⟨rfl, rfl, rfl⟩ rfl ?_
  obtain ⟨M0, e0, hk0, hX0, th0⟩ := hX.m0
  rw [e0]
  have ref : ∀ c : Prop, ¬ c → ∀ v, Rn o l m_Md_entry (0, 0) 29 [some (.ref 436), some (.int t), some (.int i), some (.int j)] [] (gh n M0) (QI n (PE M S c v)) := by
    intro c hc v
    refine r_aload_n d_Md_entry_29 rfl ?_
    refine g_Vi (av := []) d_Md_entry_30 k_Md_225 ws_Md_refuse (by decide) rfl rfl (Nat.le_of_ble_eq_true rfl) rfl (c_Md_refuse hX0) ?_
    rintro r M1 ⟨rfl, k1, k2, k3⟩
    refine g_reti d_Md_entry_33 rfl ?_
    exact ⟨k1, hk0.trans k2, fun z => absurd z hc, fun _ => k3⟩
  by_cases hg1 : okT S t
  case neg =>
    refine r_aload_n d_Md_entry_5 rfl ?_
    refine r_iload_n d_Md_entry_6 rfl ?_
    refine g_Vi (av := [.int t]) d_Md_entry_7 k_Md_218 ws_Md_isTable (by decide) rfl rfl (Nat.le_of_ble_eq_true rfl) rfl (c_Md_isTable_f hW hX0 hg1) ?_
    rintro _ _ ⟨rfl, rfl⟩
    refine n_if_eq d_Md_entry_10 (by omega) (fun _ => ?_) (fun h9 => absurd h9 (by decide))
    exact ref _ (fun z => hg1 z.1) _
  by_cases hg2 : okP S i
  case neg =>
    refine r_aload_n d_Md_entry_5 rfl ?_
    refine r_iload_n d_Md_entry_6 rfl ?_
    refine g_Vi (av := [.int t]) d_Md_entry_7 k_Md_218 ws_Md_isTable (by decide) rfl rfl (Nat.le_of_ble_eq_true rfl) rfl (c_Md_isTable_t hW hX0 hg1) ?_
    rintro _ _ ⟨rfl, rfl⟩
    refine n_if_eq d_Md_entry_10 (by omega) (fun h9 => absurd h9 (by decide)) (fun _ => ?_)
    refine r_aload_n d_Md_entry_13 rfl ?_
    refine r_iload_n d_Md_entry_14 rfl ?_
    refine g_Vi (av := [.int i]) d_Md_entry_15 k_Md_183 ws_Md_isPlace (by decide) rfl rfl (Nat.le_of_ble_eq_true rfl) rfl (c_Md_isPlace_f hW hX0 hg2) ?_
    rintro _ _ ⟨rfl, rfl⟩
    refine n_if_eq d_Md_entry_18 (by omega) (fun _ => ?_) (fun h9 => absurd h9 (by decide))
    exact ref _ (fun z => hg2 z.2.1) _
  by_cases hg3 : okP S j
  case neg =>
    refine r_aload_n d_Md_entry_5 rfl ?_
    refine r_iload_n d_Md_entry_6 rfl ?_
    refine g_Vi (av := [.int t]) d_Md_entry_7 k_Md_218 ws_Md_isTable (by decide) rfl rfl (Nat.le_of_ble_eq_true rfl) rfl (c_Md_isTable_t hW hX0 hg1) ?_
    rintro _ _ ⟨rfl, rfl⟩
    refine n_if_eq d_Md_entry_10 (by omega) (fun h9 => absurd h9 (by decide)) (fun _ => ?_)
    refine r_aload_n d_Md_entry_13 rfl ?_
    refine r_iload_n d_Md_entry_14 rfl ?_
    refine g_Vi (av := [.int i]) d_Md_entry_15 k_Md_183 ws_Md_isPlace (by decide) rfl rfl (Nat.le_of_ble_eq_true rfl) rfl (c_Md_isPlace_t hW hX0 hg2) ?_
    rintro _ _ ⟨rfl, rfl⟩
    refine n_if_eq d_Md_entry_18 (by omega) (fun h9 => absurd h9 (by decide)) (fun _ => ?_)
    refine r_aload_n d_Md_entry_21 rfl ?_
    refine r_iload_n d_Md_entry_22 rfl ?_
    refine g_Vi (av := [.int j]) d_Md_entry_23 k_Md_183 ws_Md_isPlace (by decide) rfl rfl (Nat.le_of_ble_eq_true rfl) rfl (c_Md_isPlace_f hW hX0 hg3) ?_
    rintro _ _ ⟨rfl, rfl⟩
    refine n_if_ne d_Md_entry_26 (by omega) (fun h9 => absurd h9 (by decide)) (fun _ => ?_)
    exact ref _ (fun z => hg3 z.2.2) _
  refine r_aload_n d_Md_entry_5 rfl ?_
  refine r_iload_n d_Md_entry_6 rfl ?_
  refine g_Vi (av := [.int t]) d_Md_entry_7 k_Md_218 ws_Md_isTable (by decide) rfl rfl (Nat.le_of_ble_eq_true rfl) rfl (c_Md_isTable_t hW hX0 hg1) ?_
  rintro _ _ ⟨rfl, rfl⟩
  refine n_if_eq d_Md_entry_10 (by omega) (fun h9 => absurd h9 (by decide)) (fun _ => ?_)
  refine r_aload_n d_Md_entry_13 rfl ?_
  refine r_iload_n d_Md_entry_14 rfl ?_
  refine g_Vi (av := [.int i]) d_Md_entry_15 k_Md_183 ws_Md_isPlace (by decide) rfl rfl (Nat.le_of_ble_eq_true rfl) rfl (c_Md_isPlace_t hW hX0 hg2) ?_
  rintro _ _ ⟨rfl, rfl⟩
  refine n_if_eq d_Md_entry_18 (by omega) (fun h9 => absurd h9 (by decide)) (fun _ => ?_)
  refine r_aload_n d_Md_entry_21 rfl ?_
  refine r_iload_n d_Md_entry_22 rfl ?_
  refine g_Vi (av := [.int j]) d_Md_entry_23 k_Md_183 ws_Md_isPlace (by decide) rfl rfl (Nat.le_of_ble_eq_true rfl) rfl (c_Md_isPlace_t hW hX0 hg3) ?_
  rintro _ _ ⟨rfl, rfl⟩
  unfold gOf fOf
  have q9 : okT S t ∧ okP S i ∧ okP S j := ⟨hg1, hg2, hg3⟩
  obtain ⟨h0, ha1, ha2⟩ := hg1
  obtain ⟨hb1, hb2⟩ := hg2
  obtain ⟨ht1, ht2⟩ := hg3
  generalize ix t = a' at *
  subst ha2
  generalize ix i = b' at *
  subst hb2
  generalize ix j = t' at *
  subst ht2
  refine n_if_ne d_Md_entry_26 (by omega) (fun _ => ?_) (fun h9 => absurd h9 (by decide))
  refine r_aload_n d_Md_entry_34 rfl ?_
  refine r_iload_n d_Md_entry_35 rfl ?_
  refine r_aload_n d_Md_entry_36 rfl ?_
  refine g_getr (b := 448) d_Md_entry_37 f_Md_87 rfl rfl rfl ?_
  refine g_Vv (av := [.int (nI a'), .ref 448]) d_Md_entry_40 k_Md_228 ws_Md_matrix (by decide) rfl rfl (Nat.le_of_ble_eq_true rfl) rfl (c_Md_matrix (c := 448) hW hX0 h0 rfl (by decide) ha1) ?_
  rintro M1 ⟨g1, g2, g3, g4⟩
  have w1 : WK M0 M1 := wk_mx (by decide) g1
  refine r_aload_n d_Md_entry_43 rfl ?_
  refine g_getr (b := 448) d_Md_entry_44 f_Md_87 rfl rfl rfl ?_
  refine r_bipush (v := nI 10) d_Md_entry_47 (by decide) ?_
  refine r_iload_n d_Md_entry_49 rfl ?_
  refine n_imul d_Md_entry_50 ?_
  refine r_iload_n d_Md_entry_51 rfl ?_
  refine n_iadd d_Md_entry_52 ?_
  refine g_iald d_Md_entry_53 rfl (by omega) (by omega) ?_
  refine r_top (y := nI (col (S.1 0 3) (S.1 (21 + 3 * a')) (S.1 (22 + 3 * a')) t' b')) ((g2 b' t' hb1 ht1).1) ?_
  refine g_reti d_Md_entry_54 rfl ?_
  exact ⟨w1.mr hX0, hk0.trans w1.km, fun _ => ⟨rfl, by rw [w1.2 0 (by decide)]; exact th0⟩, fun z => absurd q9 z⟩
theorem in_p {s : Nat} {v : Int32} (h : 2 ≤ s ∧ s ≤ 10) : (nI 0 ≤ v ∧ v ≤ nI (s - 2)) ↔ inN (s - 1) v := by
  have := in_iff (N := s - 2) (v := v) (by omega)
  rwa [show s - 2 + 1 = s - 1 by omega] at this
theorem c_Md_production {t i j : Int32} (hW : WS S) (hX : MR M S) : CI o l m_Md_production n [.ref 436, .int t, .int i, .int j] M (PE M S (okT S t ∧ okQ S i ∧ okQ S j) (pdc (col (S.1 0 3) (gOf S t) (fOf S t)) (ix j) (ix i))) := by
  refine ci_of rfl rfl rfl (Nat.le_of_ble_eq_true rfl) ?_
  have hs10 := hW.sz10
  refine r_aload_n d_Md_production_0 rfl ?_
  refine r_iconst (v := nI 0) d_Md_production_1 (by decide) ?_
  refine g_puti d_Md_production_2 f_Md_1 ⟨rfl, rfl, rfl⟩ rfl ?_
  obtain ⟨M0, e0, hk0, hX0, th0⟩ := hX.m0
  rw [e0]
  have ref : ∀ c : Prop, ¬ c → ∀ v, Rn o l m_Md_production (0, 0) 41 [some (.ref 436), some (.int t), some (.int i), some (.int j)] [] (gh n M0) (QI n (PE M S c v)) := by
    intro c hc v
    refine r_aload_n d_Md_production_41 rfl ?_
    refine g_Vi (av := []) d_Md_production_42 k_Md_225 ws_Md_refuse (by decide) rfl rfl (Nat.le_of_ble_eq_true rfl) rfl (c_Md_refuse hX0) ?_
    rintro r M1 ⟨rfl, k1, k2, k3⟩
    refine g_reti d_Md_production_45 rfl ?_
    exact ⟨k1, hk0.trans k2, fun z => absurd z hc, fun _ => k3⟩
  by_cases hg1 : okT S t
  case neg =>
    refine r_aload_n d_Md_production_5 rfl ?_
    refine r_iload_n d_Md_production_6 rfl ?_
    refine g_Vi (av := [.int t]) d_Md_production_7 k_Md_218 ws_Md_isTable (by decide) rfl rfl (Nat.le_of_ble_eq_true rfl) rfl (c_Md_isTable_f hW hX0 hg1) ?_
    rintro _ _ ⟨rfl, rfl⟩
    refine n_if_eq d_Md_production_10 (by omega) (fun _ => ?_) (fun h9 => absurd h9 (by decide))
    exact ref _ (fun z => hg1 z.1) _
  obtain ⟨z1, z2⟩ := hW.sz hg1.1
  refine r_aload_n d_Md_production_5 rfl ?_
  refine r_iload_n d_Md_production_6 rfl ?_
  refine g_Vi (av := [.int t]) d_Md_production_7 k_Md_218 ws_Md_isTable (by decide) rfl rfl (Nat.le_of_ble_eq_true rfl) rfl (c_Md_isTable_t hW hX0 hg1) ?_
  rintro _ _ ⟨rfl, rfl⟩
  refine n_if_eq d_Md_production_10 (by omega) (fun h9 => absurd h9 (by decide)) (fun _ => ?_)
  refine r_iload_n d_Md_production_13 rfl ?_
  refine r_iconst (v := nI 0) d_Md_production_14 (by decide) ?_
  refine r_aload_n d_Md_production_15 rfl ?_
  refine g_Vi (av := []) d_Md_production_16 k_Md_173 ws_Md_wide (by decide) rfl rfl (Nat.le_of_ble_eq_true rfl) rfl (c_Md_wide (hX0.sz)) ?_
  rintro _ _ ⟨rfl, rfl⟩
  refine r_iconst (v := nI 2) d_Md_production_19 (by decide) ?_
  refine n_isub d_Md_production_20 (by omega) ?_
  refine g_Si (av := [.int i, .int (nI 0), .int (nI ((S.1 0 3) - 2))]) d_Md_production_21 k_Md_118 ws_Md_isIn (by decide) rfl rfl (Nat.le_of_ble_eq_true rfl) (c_Md_isIn) ?_
  rintro r _ ⟨⟨rfl, hg2⟩ | ⟨rfl, hg2⟩, rfl⟩
  · have hg2 : okQ S i := (in_p ⟨z1, z2⟩).mp hg2
    refine n_if_eq d_Md_production_24 (by omega) (fun h9 => absurd h9 (by decide)) (fun _ => ?_)
    refine r_iload_n d_Md_production_27 rfl ?_
    refine r_iconst (v := nI 0) d_Md_production_28 (by decide) ?_
    refine r_aload_n d_Md_production_29 rfl ?_
    refine g_Vi (av := []) d_Md_production_30 k_Md_173 ws_Md_wide (by decide) rfl rfl (Nat.le_of_ble_eq_true rfl) rfl (c_Md_wide (hX0.sz)) ?_
    rintro _ _ ⟨rfl, rfl⟩
    refine r_iconst (v := nI 2) d_Md_production_33 (by decide) ?_
    refine n_isub d_Md_production_34 (by omega) ?_
    refine g_Si (av := [.int j, .int (nI 0), .int (nI ((S.1 0 3) - 2))]) d_Md_production_35 k_Md_118 ws_Md_isIn (by decide) rfl rfl (Nat.le_of_ble_eq_true rfl) (c_Md_isIn) ?_
    rintro r _ ⟨⟨rfl, hg3⟩ | ⟨rfl, hg3⟩, rfl⟩
    · have hg3 : okQ S j := (in_p ⟨z1, z2⟩).mp hg3
      unfold gOf fOf
      have q9 : okT S t ∧ okQ S i ∧ okQ S j := ⟨hg1, hg2, hg3⟩
      obtain ⟨h0, ha1, ha2⟩ := hg1
      obtain ⟨hb1, hb2⟩ := hg2
      obtain ⟨ht1, ht2⟩ := hg3
      generalize ix t = a' at *
      subst ha2
      generalize ix i = b' at *
      subst hb2
      generalize ix j = t' at *
      subst ht2
      refine n_if_ne d_Md_production_38 (by omega) (fun _ => ?_) (fun h9 => absurd h9 (by decide))
      refine r_aload_n d_Md_production_46 rfl ?_
      refine r_iload_n d_Md_production_47 rfl ?_
      refine g_Vv (av := [.int (nI a')]) d_Md_production_48 k_Md_234 ws_Md_laysProduction (by decide) rfl rfl (Nat.le_of_ble_eq_true rfl) rfl (c_Md_laysProduction hW hX0 h0 ha1) ?_
      rintro M1 ⟨w1, g2⟩
      have g3 := (g2 b' t' hb1 ht1).1
      rw [show slv (cm (S.1 0 3) (S.1 (21 + 3 * a')) (S.1 (22 + 3 * a'))) (nxm (cm (S.1 0 3) (S.1 (21 + 3 * a')) (S.1 (22 + 3 * a')))) b' t' = pdc (col (S.1 0 3) (S.1 (21 + 3 * a')) (S.1 (22 + 3 * a'))) t' b' from prod_eq _ b' t'] at g3
      refine r_aload_n d_Md_production_51 rfl ?_
      refine g_getr (b := 450) d_Md_production_52 f_Md_93 rfl rfl rfl ?_
      refine r_bipush (v := nI 10) d_Md_production_55 (by decide) ?_
      refine r_iload_n d_Md_production_57 rfl ?_
      refine n_imul d_Md_production_58 ?_
      refine r_iload_n d_Md_production_59 rfl ?_
      refine n_iadd d_Md_production_60 ?_
      refine g_iald d_Md_production_61 rfl (by omega) (by omega) ?_
      refine r_top (y := nI (pdc (col (S.1 0 3) (S.1 (21 + 3 * a')) (S.1 (22 + 3 * a'))) t' b')) (g3) ?_
      refine g_reti d_Md_production_62 rfl ?_
      exact ⟨w1.mr hX0, hk0.trans w1.km, fun _ => ⟨rfl, by rw [w1.2 0 (by decide)]; exact th0⟩, fun z => absurd q9 z⟩
    · refine n_if_ne d_Md_production_38 (by omega) (fun h9 => absurd h9 (by decide)) (fun _ => ?_)
      exact ref _ (fun z => hg3 ((in_p ⟨z1, z2⟩).mpr z.2.2)) _
  · refine n_if_eq d_Md_production_24 (by omega) (fun _ => ?_) (fun h9 => absurd h9 (by decide))
    exact ref _ (fun z => hg2 ((in_p ⟨z1, z2⟩).mpr z.2.1)) _

theorem c_Md_part {t w to : Int32} (hW : WS S) (hX : MR M S) : CI o l m_Md_part n [.ref 436, .int t, .int w, .int to] M (PM M (f_part S t w to)) := by
  refine ci_of rfl rfl rfl (Nat.le_of_ble_eq_true rfl) ?_
  have hs10 := hW.sz10
  refine r_aload_n d_Md_part_0 rfl ?_
  refine r_iconst (v := nI 0) d_Md_part_1 (by decide) ?_
  refine g_puti d_Md_part_2 f_Md_1 ⟨rfl, rfl, rfl⟩ rfl ?_
  obtain ⟨M0, e0, hk0, hX0, -⟩ := hX.m0
  rw [e0]
  refine r_aload_n d_Md_part_5 rfl ?_
  refine r_iload_n d_Md_part_6 rfl ?_
  by_cases hg1 : okT S t
  case neg =>
    refine g_Vi (av := [.int t]) d_Md_part_7 k_Md_218 ws_Md_isTable (by decide) rfl rfl (Nat.le_of_ble_eq_true rfl) rfl (c_Md_isTable_f hW hX0 hg1) ?_
    rintro _ _ ⟨rfl, rfl⟩
    refine n_if_eq d_Md_part_10 (by omega) (fun _ => ?_) (fun h9 => absurd h9 (by decide))
    refine r_iconst (v := -1) d_Md_part_30 (by decide) ?_
    refine g_reti d_Md_part_31 rfl ?_
    exact PM.no hX0 hk0 (fun q9 => hg1 q9.1)
  refine g_Vi (av := [.int t]) d_Md_part_7 k_Md_218 ws_Md_isTable (by decide) rfl rfl (Nat.le_of_ble_eq_true rfl) rfl (c_Md_isTable_t hW hX0 hg1) ?_
  rintro _ _ ⟨rfl, rfl⟩
  refine n_if_eq d_Md_part_10 (by omega) (fun h9 => absurd h9 (by decide)) (fun _ => ?_)
  refine r_aload_n d_Md_part_13 rfl ?_
  refine r_iload_n d_Md_part_14 rfl ?_
  by_cases hg2 : okS S to
  case neg =>
    refine g_Vi (av := [.int to]) d_Md_part_15 k_Md_180 ws_Md_isSeries (by decide) rfl rfl (Nat.le_of_ble_eq_true rfl) rfl (c_Md_isSeries_f hW hX0 hg2) ?_
    rintro _ _ ⟨rfl, rfl⟩
    refine n_if_eq d_Md_part_18 (by omega) (fun _ => ?_) (fun h9 => absurd h9 (by decide))
    refine r_iconst (v := -1) d_Md_part_30 (by decide) ?_
    refine g_reti d_Md_part_31 rfl ?_
    exact PM.no hX0 hk0 (fun q9 => hg2 q9.2.1)
  refine g_Vi (av := [.int to]) d_Md_part_15 k_Md_180 ws_Md_isSeries (by decide) rfl rfl (Nat.le_of_ble_eq_true rfl) rfl (c_Md_isSeries_t hW hX0 hg2) ?_
  rintro _ _ ⟨rfl, rfl⟩
  refine n_if_eq d_Md_part_18 (by omega) (fun h9 => absurd h9 (by decide)) (fun _ => ?_)
  refine r_iload_n d_Md_part_21 rfl ?_
  refine r_iconst (v := nI 0) d_Md_part_22 (by decide) ?_
  refine r_iconst (v := nI 3) d_Md_part_23 (by decide) ?_
  by_cases hg3 : inN 4 w
  case neg =>
    refine g_Si (av := [.int w, .int (nI 0), .int (nI 3)]) d_Md_part_24 k_Md_118 ws_Md_isIn (by decide) rfl rfl (Nat.le_of_ble_eq_true rfl) (c_Md_in0_f (by decide) hg3) ?_
    rintro _ _ ⟨rfl, rfl⟩
    refine n_if_ne d_Md_part_27 (by omega) (fun h9 => absurd h9 (by decide)) (fun _ => ?_)
    refine r_iconst (v := -1) d_Md_part_30 (by decide) ?_
    refine g_reti d_Md_part_31 rfl ?_
    exact PM.no hX0 hk0 (fun q9 => hg3 q9.2.2)
  refine g_Si (av := [.int w, .int (nI 0), .int (nI 3)]) d_Md_part_24 k_Md_118 ws_Md_isIn (by decide) rfl rfl (Nat.le_of_ble_eq_true rfl) (c_Md_in0_t (by decide) hg3) ?_
  rintro _ _ ⟨rfl, rfl⟩
  refine n_if_ne d_Md_part_27 (by omega) (fun _ => ?_) (fun h9 => absurd h9 (by decide))
  rw [f_part, ic_t ⟨hg1, hg2, hg3⟩]
  unfold gOf fOf
  obtain ⟨h0, ha1, ha2⟩ := hg1
  obtain ⟨_, ht1, ht2⟩ := hg2
  obtain ⟨z1, z2⟩ := hW.sz h0
  obtain ⟨hh1, hh2⟩ := hg3
  generalize ix t = a' at *
  subst ha2
  generalize ix to = t' at *
  subst ht2
  generalize ix w = h at *
  subst hh2
  have T1 := hW.tok ha1
  rcases (show h = 0 ∨ h = 1 ∨ h = 2 ∨ h = 3 by omega) with rfl | rfl | rfl | rfl
  · refine r_iload_n d_Md_part_32 rfl ?_
    refine r_iconst (v := nI 2) d_Md_part_33 (by decide) ?_
    refine n_icmp_ge d_Md_part_34 (by omega) (by omega) (fun h9 => absurd h9 (by decide)) (fun _ => ?_)
    refine r_aload_n d_Md_part_37 rfl ?_
    refine r_bipush (v := nI 61) d_Md_part_38 (by decide) ?_
    refine r_bipush (v := nI 20) d_Md_part_40 (by decide) ?_
    refine r_iload_n d_Md_part_42 rfl ?_
    refine n_imul d_Md_part_43 ?_
    refine n_iadd d_Md_part_44 ?_
    refine r_bipush (v := nI 10) d_Md_part_45 (by decide) ?_
    refine r_iload_n d_Md_part_47 rfl ?_
    refine n_imul d_Md_part_48 ?_
    refine n_iadd d_Md_part_49 ?_
    refine r_aload_n d_Md_part_50 rfl ?_
    refine g_getr (b := 445) d_Md_part_51 f_Md_78 rfl rfl rfl ?_
    refine g_Vv (av := [.int (nI ((61 + (20 * a')) + 0)), .ref 445]) d_Md_part_54 k_Md_189 ws_Md_takes (by decide) rfl rfl (Nat.le_of_ble_eq_true rfl) rfl (c_Md_takes (c := 445) (p := 61 + 20 * a' + 0) (x := S.1 (21 + 3 * a')) rfl (by decide) (by omega) hs10 hX0.sz (fun j hj => hX0.tg ha1 hj) (fun j h1 h2 => hW.rz h0 (rx_g ha1) h1 h2)) ?_
    rintro M1 g1
    have w1 : WK M0 M1 := WK.w g1 (by decide)
    refine r_aload_n d_Md_part_57 rfl ?_
    refine r_aload_n d_Md_part_58 rfl ?_
    refine g_getr (b := 445) d_Md_part_59 f_Md_78 rfl rfl rfl ?_
    refine r_iload_n d_Md_part_62 rfl ?_
    refine r_iconst (v := nI 0) d_Md_part_63 (by decide) ?_
    refine g_Vi (av := [.ref 445, .int (nI t'), .int (nI 0)]) d_Md_part_64 k_Md_203 ws_Md_comes (by decide) rfl rfl (Nat.le_of_ble_eq_true rfl) rfl (c_Md_comes (w := prt 0 (S.1 0 3) (S.1 (21 + 3 * a')) (S.1 (22 + 3 * a'))) hW (w1.mr hX0) rfl (by decide) ht1 (by omega) (fun j hj => by rw [g1.2 j (by omega), prt_0])) ?_
    rintro r M4 k4
    refine g_reti d_Md_part_67 rfl ?_
    exact PM.of (hk0.trans w1.km) k4
  · refine r_iload_n d_Md_part_32 rfl ?_
    refine r_iconst (v := nI 2) d_Md_part_33 (by decide) ?_
    refine n_icmp_ge d_Md_part_34 (by omega) (by omega) (fun h9 => absurd h9 (by decide)) (fun _ => ?_)
    refine r_aload_n d_Md_part_37 rfl ?_
    refine r_bipush (v := nI 61) d_Md_part_38 (by decide) ?_
    refine r_bipush (v := nI 20) d_Md_part_40 (by decide) ?_
    refine r_iload_n d_Md_part_42 rfl ?_
    refine n_imul d_Md_part_43 ?_
    refine n_iadd d_Md_part_44 ?_
    refine r_bipush (v := nI 10) d_Md_part_45 (by decide) ?_
    refine r_iload_n d_Md_part_47 rfl ?_
    refine n_imul d_Md_part_48 ?_
    refine n_iadd d_Md_part_49 ?_
    refine r_aload_n d_Md_part_50 rfl ?_
    refine g_getr (b := 445) d_Md_part_51 f_Md_78 rfl rfl rfl ?_
    refine g_Vv (av := [.int (nI ((61 + (20 * a')) + 10)), .ref 445]) d_Md_part_54 k_Md_189 ws_Md_takes (by decide) rfl rfl (Nat.le_of_ble_eq_true rfl) rfl (c_Md_takes (c := 445) (p := 61 + 20 * a' + 10) (x := S.1 (22 + 3 * a')) rfl (by decide) (by omega) hs10 hX0.sz (fun j hj => hX0.tf ha1 hj) (fun j h1 h2 => hW.rz h0 (rx_h ha1) h1 h2)) ?_
    rintro M1 g1
    have w1 : WK M0 M1 := WK.w g1 (by decide)
    refine r_aload_n d_Md_part_57 rfl ?_
    refine r_aload_n d_Md_part_58 rfl ?_
    refine g_getr (b := 445) d_Md_part_59 f_Md_78 rfl rfl rfl ?_
    refine r_iload_n d_Md_part_62 rfl ?_
    refine r_iconst (v := nI 0) d_Md_part_63 (by decide) ?_
    refine g_Vi (av := [.ref 445, .int (nI t'), .int (nI 0)]) d_Md_part_64 k_Md_203 ws_Md_comes (by decide) rfl rfl (Nat.le_of_ble_eq_true rfl) rfl (c_Md_comes (w := prt 1 (S.1 0 3) (S.1 (21 + 3 * a')) (S.1 (22 + 3 * a'))) hW (w1.mr hX0) rfl (by decide) ht1 (by omega) (fun j hj => by rw [g1.2 j (by omega), prt_1])) ?_
    rintro r M4 k4
    refine g_reti d_Md_part_67 rfl ?_
    exact PM.of (hk0.trans w1.km) k4
  · refine r_iload_n d_Md_part_32 rfl ?_
    refine r_iconst (v := nI 2) d_Md_part_33 (by decide) ?_
    refine n_icmp_ge d_Md_part_34 (by omega) (by omega) (fun _ => ?_) (fun h9 => absurd h9 (by decide))
    refine r_aload_n d_Md_part_68 rfl ?_
    refine r_iload_n d_Md_part_69 rfl ?_
    refine g_Vv (av := [.int (nI a')]) d_Md_part_70 k_Md_234 ws_Md_laysProduction (by decide) rfl rfl (Nat.le_of_ble_eq_true rfl) rfl (c_Md_laysProduction hW hX0 h0 ha1) ?_
    rintro M1 ⟨w1, g2⟩
    have hX1 := w1.mr hX0
    refine r_iconst (v := nI 0) d_Md_part_73 (by decide) ?_
    refine r_istore (L' := [some (.ref 436), some (.int (nI a')), some (.int (nI 2)), some (.int (nI t')), some (.int (nI 0))]) d_Md_part_74 (by decide) rfl ?_
    refine lp (a := 0) (N := S.1 0 3) (R := fun i M' => Rn o l m_Md_part (0, 0) 76 [some (.ref 436), some (.int (nI a')), some (.int (nI 2)), some (.int (nI t')), some (.int (nI i))] [] (gh n M') (QI n (PM M (nI (prt 2 (S.1 0 3) (S.1 (21 + 3 * a')) (S.1 (22 + 3 * a')) 0), kp S (rowC S.1 (2 + t') (prt 2 (S.1 0 3) (S.1 (21 + 3 * a')) (S.1 (22 + 3 * a')))))))) (P := fun i M' => MW M1 445 i (prt 2 (S.1 0 3) (S.1 (21 + 3 * a')) (S.1 (22 + 3 * a'))) M') (by omega) ?_ ?_ ?_
    · exact MW.z M1 445 _
    · intro M2 f2
      have w2 : WK M1 M2 := WK.w f2 (by decide)
      refine r_iload d_Md_part_76 rfl ?_
      refine r_aload_n d_Md_part_78 rfl ?_
      refine g_Vi (av := []) d_Md_part_79 k_Md_173 ws_Md_wide (by decide) rfl rfl (Nat.le_of_ble_eq_true rfl) rfl (c_Md_wide (w2.sz hX1.sz)) ?_
      rintro _ _ ⟨rfl, rfl⟩
      refine n_icmp_ge d_Md_part_82 (by omega) (by omega) (fun _ => ?_) (fun h9 => absurd h9 (by omega))
      refine r_aload_n d_Md_part_169 rfl ?_
      refine r_aload_n d_Md_part_170 rfl ?_
      refine g_getr (b := 445) d_Md_part_171 f_Md_78 rfl rfl rfl ?_
      refine r_iload_n d_Md_part_174 rfl ?_
      refine r_iconst (v := nI 0) d_Md_part_175 (by decide) ?_
      refine g_Vi (av := [.ref 445, .int (nI t'), .int (nI 0)]) d_Md_part_176 k_Md_203 ws_Md_comes (by decide) rfl rfl (Nat.le_of_ble_eq_true rfl) rfl (c_Md_comes (w := prt 2 (S.1 0 3) (S.1 (21 + 3 * a')) (S.1 (22 + 3 * a'))) hW (w2.mr hX1) rfl (by decide) ht1 (by omega) f2.2) ?_
      rintro r M4 k4
      refine g_reti d_Md_part_179 rfl ?_
      exact PM.of (hk0.trans (w1.trans w2).km) k4
    · intro i M2 hi f2 ih
      have w2 : WK M1 M2 := WK.w f2 (by decide)
      refine r_iload d_Md_part_76 rfl ?_
      refine r_aload_n d_Md_part_78 rfl ?_
      refine g_Vi (av := []) d_Md_part_79 k_Md_173 ws_Md_wide (by decide) rfl rfl (Nat.le_of_ble_eq_true rfl) rfl (c_Md_wide (w2.sz hX1.sz)) ?_
      rintro _ _ ⟨rfl, rfl⟩
      refine n_icmp_ge d_Md_part_82 (by omega) (by omega) (fun h9 => absurd h9 (by omega)) (fun _ => ?_)
      refine r_aload_n d_Md_part_85 rfl ?_
      refine g_getr (b := 445) d_Md_part_86 f_Md_78 rfl rfl rfl ?_
      refine r_iload d_Md_part_89 rfl ?_
      refine r_iload d_Md_part_91 rfl ?_
      refine r_aload_n d_Md_part_93 rfl ?_
      refine g_Vi (av := []) d_Md_part_94 k_Md_173 ws_Md_wide (by decide) rfl rfl (Nat.le_of_ble_eq_true rfl) rfl (c_Md_wide (w2.sz hX1.sz)) ?_
      rintro _ _ ⟨rfl, rfl⟩
      refine r_iconst (v := nI 1) d_Md_part_97 (by decide) ?_
      refine n_isub d_Md_part_98 (by omega) ?_
      refine n_icmp_ne d_Md_part_99 (by omega) (by omega) (fun ci => ?_) (fun ci => ?_)
      · have hi1 : i < S.1 0 3 - 1 := by omega
        refine r_iload_n d_Md_part_106 rfl ?_
        refine r_iconst (v := nI 3) d_Md_part_107 (by decide) ?_
        refine n_icmp_ne d_Md_part_108 (by omega) (by omega) (fun _ => ?_) (fun h9 => absurd h9 (by decide))
        refine r_aload_n d_Md_part_124 rfl ?_
        refine g_Vi (av := []) d_Md_part_125 k_Md_173 ws_Md_wide (by decide) rfl rfl (Nat.le_of_ble_eq_true rfl) rfl (c_Md_wide (w2.sz hX1.sz)) ?_
        rintro _ _ ⟨rfl, rfl⟩
        refine r_iconst (v := nI 2) d_Md_part_128 (by decide) ?_
        refine n_icmp_ne d_Md_part_129 (by omega) (by omega) (fun c2 => ?_) (fun c2 => ?_)
        · refine r_aload_n d_Md_part_150 rfl ?_
          refine g_getr (b := 450) d_Md_part_151 f_Md_93 rfl rfl rfl ?_
          refine r_bipush (v := nI 10) d_Md_part_154 (by decide) ?_
          refine r_iload d_Md_part_156 rfl ?_
          refine n_imul d_Md_part_158 ?_
          refine r_iconst (v := nI 1) d_Md_part_159 (by decide) ?_
          refine n_iadd d_Md_part_160 ?_
          refine g_iald d_Md_part_161 rfl (by omega) (by omega) ?_
          refine r_top (y := nI (prt 2 (S.1 0 3) (S.1 (21 + 3 * a')) (S.1 (22 + 3 * a')) i)) (by rw [f2.1 450 (by decide), prt_2]; exact Eq.trans (g2 i 1 hi1 (by omega)).1 (by rw [prod_1 z1 z2 (fun i hi => T1.1 i (by omega)) T1.2.2.1 T1.2.2.2.1 T1.2.2.2.2 (T1.2.1 1 (by decide)) hi1])) ?_
          refine g_iast d_Md_part_162 rfl (by omega) (by omega) ?_
          refine n_iinc (c := 1) (L' := [some (.ref 436), some (.int (nI a')), some (.int (nI 2)), some (.int (nI t')), some (.int (nI (i + 1)))]) d_Md_part_163 rfl rfl (by decide) rfl ?_
          refine r_goto d_Md_part_166 ?_
          refine ih _ ?_
          exact f2.up rfl
        · have ei : i = 0 := by omega
          refine r_aload_n d_Md_part_132 rfl ?_
          refine g_getr (b := 438) d_Md_part_133 f_Md_56 rfl rfl rfl ?_
          refine r_bipush (v := nI 61) d_Md_part_136 (by decide) ?_
          refine r_bipush (v := nI 20) d_Md_part_138 (by decide) ?_
          refine r_iload_n d_Md_part_140 rfl ?_
          refine n_imul d_Md_part_141 ?_
          refine n_iadd d_Md_part_142 ?_
          refine r_bipush (v := nI 11) d_Md_part_143 (by decide) ?_
          refine n_iadd d_Md_part_145 ?_
          refine g_iald d_Md_part_146 rfl (by omega) (by omega) ?_
          refine r_top (y := nI (prt 2 (S.1 0 3) (S.1 (21 + 3 * a')) (S.1 (22 + 3 * a')) i)) (by rw [f2.1 438 (by decide), prt_2, ei, prA_0 z1 z2 T1.2.2.2.1 T1.2.2.2.2 (T1.2.1 1 (by decide))]; exact hX1.tf ha1 (j := 1) (by decide)) ?_
          refine r_goto d_Md_part_147 ?_
          refine g_iast d_Md_part_162 rfl (by omega) (by omega) ?_
          refine n_iinc (c := 1) (L' := [some (.ref 436), some (.int (nI a')), some (.int (nI 2)), some (.int (nI t')), some (.int (nI (i + 1)))]) d_Md_part_163 rfl rfl (by decide) rfl ?_
          refine r_goto d_Md_part_166 ?_
          refine ih _ ?_
          exact f2.up rfl
      · refine r_iconst (v := nI 0) d_Md_part_102 (by decide) ?_
        refine r_goto d_Md_part_103 ?_
        refine g_iast d_Md_part_162 rfl (by omega) (by omega) ?_
        refine n_iinc (c := 1) (L' := [some (.ref 436), some (.int (nI a')), some (.int (nI 2)), some (.int (nI t')), some (.int (nI (i + 1)))]) d_Md_part_163 rfl rfl (by decide) rfl ?_
        refine r_goto d_Md_part_166 ?_
        refine ih _ ?_
        exact f2.up (v := 0) (by rw [prt_2, ci]; unfold prA; rw [if_pos rfl])
  · refine r_iload_n d_Md_part_32 rfl ?_
    refine r_iconst (v := nI 2) d_Md_part_33 (by decide) ?_
    refine n_icmp_ge d_Md_part_34 (by omega) (by omega) (fun _ => ?_) (fun h9 => absurd h9 (by decide))
    refine r_aload_n d_Md_part_68 rfl ?_
    refine r_iload_n d_Md_part_69 rfl ?_
    refine g_Vv (av := [.int (nI a')]) d_Md_part_70 k_Md_234 ws_Md_laysProduction (by decide) rfl rfl (Nat.le_of_ble_eq_true rfl) rfl (c_Md_laysProduction hW hX0 h0 ha1) ?_
    rintro M1 ⟨w1, g2⟩
    have hX1 := w1.mr hX0
    refine r_iconst (v := nI 0) d_Md_part_73 (by decide) ?_
    refine r_istore (L' := [some (.ref 436), some (.int (nI a')), some (.int (nI 3)), some (.int (nI t')), some (.int (nI 0))]) d_Md_part_74 (by decide) rfl ?_
    refine lp (a := 0) (N := S.1 0 3) (R := fun i M' => Rn o l m_Md_part (0, 0) 76 [some (.ref 436), some (.int (nI a')), some (.int (nI 3)), some (.int (nI t')), some (.int (nI i))] [] (gh n M') (QI n (PM M (nI (prt 3 (S.1 0 3) (S.1 (21 + 3 * a')) (S.1 (22 + 3 * a')) 0), kp S (rowC S.1 (2 + t') (prt 3 (S.1 0 3) (S.1 (21 + 3 * a')) (S.1 (22 + 3 * a')))))))) (P := fun i M' => MW M1 445 i (prt 3 (S.1 0 3) (S.1 (21 + 3 * a')) (S.1 (22 + 3 * a'))) M') (by omega) ?_ ?_ ?_
    · exact MW.z M1 445 _
    · intro M2 f2
      have w2 : WK M1 M2 := WK.w f2 (by decide)
      refine r_iload d_Md_part_76 rfl ?_
      refine r_aload_n d_Md_part_78 rfl ?_
      refine g_Vi (av := []) d_Md_part_79 k_Md_173 ws_Md_wide (by decide) rfl rfl (Nat.le_of_ble_eq_true rfl) rfl (c_Md_wide (w2.sz hX1.sz)) ?_
      rintro _ _ ⟨rfl, rfl⟩
      refine n_icmp_ge d_Md_part_82 (by omega) (by omega) (fun _ => ?_) (fun h9 => absurd h9 (by omega))
      refine r_aload_n d_Md_part_169 rfl ?_
      refine r_aload_n d_Md_part_170 rfl ?_
      refine g_getr (b := 445) d_Md_part_171 f_Md_78 rfl rfl rfl ?_
      refine r_iload_n d_Md_part_174 rfl ?_
      refine r_iconst (v := nI 0) d_Md_part_175 (by decide) ?_
      refine g_Vi (av := [.ref 445, .int (nI t'), .int (nI 0)]) d_Md_part_176 k_Md_203 ws_Md_comes (by decide) rfl rfl (Nat.le_of_ble_eq_true rfl) rfl (c_Md_comes (w := prt 3 (S.1 0 3) (S.1 (21 + 3 * a')) (S.1 (22 + 3 * a'))) hW (w2.mr hX1) rfl (by decide) ht1 (by omega) f2.2) ?_
      rintro r M4 k4
      refine g_reti d_Md_part_179 rfl ?_
      exact PM.of (hk0.trans (w1.trans w2).km) k4
    · intro i M2 hi f2 ih
      have w2 : WK M1 M2 := WK.w f2 (by decide)
      refine r_iload d_Md_part_76 rfl ?_
      refine r_aload_n d_Md_part_78 rfl ?_
      refine g_Vi (av := []) d_Md_part_79 k_Md_173 ws_Md_wide (by decide) rfl rfl (Nat.le_of_ble_eq_true rfl) rfl (c_Md_wide (w2.sz hX1.sz)) ?_
      rintro _ _ ⟨rfl, rfl⟩
      refine n_icmp_ge d_Md_part_82 (by omega) (by omega) (fun h9 => absurd h9 (by omega)) (fun _ => ?_)
      refine r_aload_n d_Md_part_85 rfl ?_
      refine g_getr (b := 445) d_Md_part_86 f_Md_78 rfl rfl rfl ?_
      refine r_iload d_Md_part_89 rfl ?_
      refine r_iload d_Md_part_91 rfl ?_
      refine r_aload_n d_Md_part_93 rfl ?_
      refine g_Vi (av := []) d_Md_part_94 k_Md_173 ws_Md_wide (by decide) rfl rfl (Nat.le_of_ble_eq_true rfl) rfl (c_Md_wide (w2.sz hX1.sz)) ?_
      rintro _ _ ⟨rfl, rfl⟩
      refine r_iconst (v := nI 1) d_Md_part_97 (by decide) ?_
      refine n_isub d_Md_part_98 (by omega) ?_
      refine n_icmp_ne d_Md_part_99 (by omega) (by omega) (fun ci => ?_) (fun ci => ?_)
      · have hi1 : i < S.1 0 3 - 1 := by omega
        refine r_iload_n d_Md_part_106 rfl ?_
        refine r_iconst (v := nI 3) d_Md_part_107 (by decide) ?_
        refine n_icmp_ne d_Md_part_108 (by omega) (by omega) (fun h9 => absurd h9 (by decide)) (fun _ => ?_)
        refine r_aload_n d_Md_part_111 rfl ?_
        refine g_getr (b := 450) d_Md_part_112 f_Md_93 rfl rfl rfl ?_
        refine r_bipush (v := nI 10) d_Md_part_115 (by decide) ?_
        refine r_iload d_Md_part_117 rfl ?_
        refine n_imul d_Md_part_119 ?_
        refine g_iald d_Md_part_120 rfl (by omega) (by omega) ?_
        refine r_top (y := nI (prt 3 (S.1 0 3) (S.1 (21 + 3 * a')) (S.1 (22 + 3 * a')) i)) (by rw [f2.1 450 (by decide), prt_3]; exact Eq.trans (g2 i 0 hi1 (by omega)).1 (by rw [prod_0 z1 z2 (fun i hi => T1.1 i (by omega)) T1.2.2.1 T1.2.2.2.1 T1.2.2.2.2 (T1.2.1 1 (by decide)) hi1])) ?_
        refine r_goto d_Md_part_121 ?_
        refine g_iast d_Md_part_162 rfl (by omega) (by omega) ?_
        refine n_iinc (c := 1) (L' := [some (.ref 436), some (.int (nI a')), some (.int (nI 3)), some (.int (nI t')), some (.int (nI (i + 1)))]) d_Md_part_163 rfl rfl (by decide) rfl ?_
        refine r_goto d_Md_part_166 ?_
        refine ih _ ?_
        exact f2.up rfl
      · refine r_iconst (v := nI 0) d_Md_part_102 (by decide) ?_
        refine r_goto d_Md_part_103 ?_
        refine g_iast d_Md_part_162 rfl (by omega) (by omega) ?_
        refine n_iinc (c := 1) (L' := [some (.ref 436), some (.int (nI a')), some (.int (nI 3)), some (.int (nI t')), some (.int (nI (i + 1)))]) d_Md_part_163 rfl rfl (by decide) rfl ?_
        refine r_goto d_Md_part_166 ?_
        refine ih _ ?_
        exact f2.up (v := 0) (by rw [prt_3, ci]; unfold prZ; rw [if_pos rfl])
theorem c_Md_sums {t w to : Int32} (hW : WS S) (hX : MR M S) : CI o l m_Md_sums n [.ref 436, .int t, .int w, .int to] M (PM M (f_sums S t w to)) := by
  refine ci_of rfl rfl rfl (Nat.le_of_ble_eq_true rfl) ?_
  have hs10 := hW.sz10
  refine r_aload_n d_Md_sums_0 rfl ?_
  refine r_iconst (v := nI 0) d_Md_sums_1 (by decide) ?_
  refine g_puti d_Md_sums_2 f_Md_1 ⟨rfl, rfl, rfl⟩ rfl ?_
  obtain ⟨M0, e0, hk0, hX0, -⟩ := hX.m0
  rw [e0]
  refine r_aload_n d_Md_sums_5 rfl ?_
  refine r_iload_n d_Md_sums_6 rfl ?_
  by_cases hg1 : okT S t
  case neg =>
    refine g_Vi (av := [.int t]) d_Md_sums_7 k_Md_218 ws_Md_isTable (by decide) rfl rfl (Nat.le_of_ble_eq_true rfl) rfl (c_Md_isTable_f hW hX0 hg1) ?_
    rintro _ _ ⟨rfl, rfl⟩
    refine n_if_eq d_Md_sums_10 (by omega) (fun _ => ?_) (fun h9 => absurd h9 (by decide))
    refine r_iconst (v := -1) d_Md_sums_30 (by decide) ?_
    refine g_reti d_Md_sums_31 rfl ?_
    exact PM.no hX0 hk0 (fun q9 => hg1 q9.1)
  refine g_Vi (av := [.int t]) d_Md_sums_7 k_Md_218 ws_Md_isTable (by decide) rfl rfl (Nat.le_of_ble_eq_true rfl) rfl (c_Md_isTable_t hW hX0 hg1) ?_
  rintro _ _ ⟨rfl, rfl⟩
  refine n_if_eq d_Md_sums_10 (by omega) (fun h9 => absurd h9 (by decide)) (fun _ => ?_)
  refine r_aload_n d_Md_sums_13 rfl ?_
  refine r_iload_n d_Md_sums_14 rfl ?_
  by_cases hg2 : okS S to
  case neg =>
    refine g_Vi (av := [.int to]) d_Md_sums_15 k_Md_180 ws_Md_isSeries (by decide) rfl rfl (Nat.le_of_ble_eq_true rfl) rfl (c_Md_isSeries_f hW hX0 hg2) ?_
    rintro _ _ ⟨rfl, rfl⟩
    refine n_if_eq d_Md_sums_18 (by omega) (fun _ => ?_) (fun h9 => absurd h9 (by decide))
    refine r_iconst (v := -1) d_Md_sums_30 (by decide) ?_
    refine g_reti d_Md_sums_31 rfl ?_
    exact PM.no hX0 hk0 (fun q9 => hg2 q9.2.1)
  refine g_Vi (av := [.int to]) d_Md_sums_15 k_Md_180 ws_Md_isSeries (by decide) rfl rfl (Nat.le_of_ble_eq_true rfl) rfl (c_Md_isSeries_t hW hX0 hg2) ?_
  rintro _ _ ⟨rfl, rfl⟩
  refine n_if_eq d_Md_sums_18 (by omega) (fun h9 => absurd h9 (by decide)) (fun _ => ?_)
  refine r_iload_n d_Md_sums_21 rfl ?_
  refine r_iconst (v := nI 0) d_Md_sums_22 (by decide) ?_
  refine r_iconst (v := nI 3) d_Md_sums_23 (by decide) ?_
  by_cases hg3 : inN 4 w
  case neg =>
    refine g_Si (av := [.int w, .int (nI 0), .int (nI 3)]) d_Md_sums_24 k_Md_118 ws_Md_isIn (by decide) rfl rfl (Nat.le_of_ble_eq_true rfl) (c_Md_in0_f (by decide) hg3) ?_
    rintro _ _ ⟨rfl, rfl⟩
    refine n_if_ne d_Md_sums_27 (by omega) (fun h9 => absurd h9 (by decide)) (fun _ => ?_)
    refine r_iconst (v := -1) d_Md_sums_30 (by decide) ?_
    refine g_reti d_Md_sums_31 rfl ?_
    exact PM.no hX0 hk0 (fun q9 => hg3 q9.2.2)
  refine g_Si (av := [.int w, .int (nI 0), .int (nI 3)]) d_Md_sums_24 k_Md_118 ws_Md_isIn (by decide) rfl rfl (Nat.le_of_ble_eq_true rfl) (c_Md_in0_t (by decide) hg3) ?_
  rintro _ _ ⟨rfl, rfl⟩
  refine n_if_ne d_Md_sums_27 (by omega) (fun _ => ?_) (fun h9 => absurd h9 (by decide))
  rw [f_sums, ic_t ⟨hg1, hg2, hg3⟩]
  unfold gOf fOf
  obtain ⟨h0, ha1, ha2⟩ := hg1
  obtain ⟨_, ht1, ht2⟩ := hg2
  obtain ⟨z1, z2⟩ := hW.sz h0
  obtain ⟨hh1, hh2⟩ := hg3
  generalize ix t = a' at *
  subst ha2
  generalize ix to = t' at *
  subst ht2
  generalize ix w = h at *
  subst hh2
  refine r_aload_n d_Md_sums_32 rfl ?_
  refine r_iload_n d_Md_sums_33 rfl ?_
  refine r_aload_n d_Md_sums_34 rfl ?_
  refine g_getr (b := 448) d_Md_sums_35 f_Md_87 rfl rfl rfl ?_
  refine g_Vv (av := [.int (nI a'), .ref 448]) d_Md_sums_38 k_Md_228 ws_Md_matrix (by decide) rfl rfl (Nat.le_of_ble_eq_true rfl) rfl (c_Md_matrix (c := 448) hW hX0 h0 rfl (by decide) ha1) ?_
  rintro M1 ⟨g1, g2, g3, g4⟩
  have w1 : WK M0 M1 := wk_mx (by decide) g1
  have hX1 := w1.mr hX0
  have hk1 := hk0.trans w1.km
  have ok : ∀ i, i < S.1 0 3 → rst (zz (tsm h (cm (S.1 0 3) (S.1 (21 + 3 * a')) (S.1 (22 + 3 * a'))) i) (i + 1)) = sms h (col (S.1 0 3) (S.1 (21 + 3 * a')) (S.1 (22 + 3 * a'))) i (i + 1) % 1000003 := fun i hi => sms_ok hh1 (fun k hk => col_lt (hW.rlt (rx_g ha1) (by omega)) k)
  generalize cm (S.1 0 3) (S.1 (21 + 3 * a')) (S.1 (22 + 3 * a')) = A at *
  generalize hV : (fun j => sms h (col (S.1 0 3) (S.1 (21 + 3 * a')) (S.1 (22 + 3 * a'))) j (j + 1) % 1000003) = V at *
  have ok : ∀ i, i < S.1 0 3 → rst (zz (tsm h A i) (i + 1)) = V i := fun i hi => by rw [← hV]; exact ok i hi
  rcases (show h = 0 ∨ h = 1 ∨ h = 2 ∨ h = 3 by omega) with rfl | rfl | rfl | rfl
  · refine r_iconst (v := nI 0) d_Md_sums_41 (by decide) ?_
    refine r_istore (L' := [some (.ref 436), some (.int (nI a')), some (.int (nI 0)), some (.int (nI t')), some (.int (nI 0)), none, none, none, none, none]) d_Md_sums_42 (by decide) rfl ?_
    refine lp (a := 0) (N := S.1 0 3) (R := fun i M' => Rn o l m_Md_sums (0, 0) 44 [some (.ref 436), some (.int (nI a')), some (.int (nI 0)), some (.int (nI t')), some (.int (nI i)), none, none, none, none, none] [] (gh n M') (QI n (PM M (lndS S t' V)))) (P := fun i M' => MW M1 445 i V M') (by omega) ?_ ?_ ?_
    · exact MW.z M1 445 _
    · intro M2 f2
      have w2 : WK M1 M2 := WK.w f2 (by decide)
      refine r_iload d_Md_sums_44 rfl ?_
      refine r_aload_n d_Md_sums_46 rfl ?_
      refine g_Vi (av := []) d_Md_sums_47 k_Md_173 ws_Md_wide (by decide) rfl rfl (Nat.le_of_ble_eq_true rfl) rfl (c_Md_wide (w2.sz hX1.sz)) ?_
      rintro _ _ ⟨rfl, rfl⟩
      refine n_icmp_ge d_Md_sums_50 (by omega) (by omega) (fun _ => ?_) (fun h9 => absurd h9 (by omega))
      refine r_aload_n d_Md_sums_159 rfl ?_
      refine r_aload_n d_Md_sums_160 rfl ?_
      refine g_getr (b := 445) d_Md_sums_161 f_Md_78 rfl rfl rfl ?_
      refine r_iload_n d_Md_sums_164 rfl ?_
      refine r_aload_n d_Md_sums_165 rfl ?_
      refine g_Vi (av := []) d_Md_sums_166 k_Md_173 ws_Md_wide (by decide) rfl rfl (Nat.le_of_ble_eq_true rfl) rfl (c_Md_wide (w2.sz hX1.sz)) ?_
      rintro _ _ ⟨rfl, rfl⟩
      refine r_iconst (v := nI 1) d_Md_sums_169 (by decide) ?_
      refine n_isub d_Md_sums_170 (by omega) ?_
      refine g_Vi (av := [.ref 445, .int (nI t'), .int (nI ((S.1 0 3) - 1))]) d_Md_sums_171 k_Md_203 ws_Md_comes (by decide) rfl rfl (Nat.le_of_ble_eq_true rfl) rfl (c_Md_comes (w := V) hW (w2.mr hX1) rfl (by decide) ht1 (by omega) f2.2) ?_
      rintro r M4 k4
      refine g_reti d_Md_sums_174 rfl ?_
      exact PM.of (hk1.trans w2.km) k4
    · intro i M2 hi f2 ih
      have w2 : WK M1 M2 := WK.w f2 (by decide)
      refine r_iload d_Md_sums_44 rfl ?_
      refine r_aload_n d_Md_sums_46 rfl ?_
      refine g_Vi (av := []) d_Md_sums_47 k_Md_173 ws_Md_wide (by decide) rfl rfl (Nat.le_of_ble_eq_true rfl) rfl (c_Md_wide (w2.sz hX1.sz)) ?_
      rintro _ _ ⟨rfl, rfl⟩
      refine n_icmp_ge d_Md_sums_50 (by omega) (by omega) (fun h9 => absurd h9 (by omega)) (fun _ => ?_)
      refine r_lconst (v := lN 0) d_Md_sums_53 (by decide) ?_
      refine r_lstore (L' := [some (.ref 436), some (.int (nI a')), some (.int (nI 0)), some (.int (nI t')), some (.int (nI i)), some (.long (lN 0)), none, none, none, none]) d_Md_sums_54 (by decide) rfl ?_
      refine r_weak (L' := [some (.ref 436), some (.int (nI a')), some (.int (nI 0)), some (.int (nI t')), some (.int (nI i)), some (.long (lN 0)), none, none, none, none]) (wk_s (wk_s (wk_s (wk_s (wk_s (wk_s (wk_n (wk_n (wk_n (wk_n wk_0)))))))))) ?_
      have e00 : (lN 0) = lZ (zz (tsm 0 A i) 0) := lN_Z 0
      rw [e00]
      refine r_iconst (v := nI 0) d_Md_sums_56 (by decide) ?_
      refine r_istore (L' := [some (.ref 436), some (.int (nI a')), some (.int (nI 0)), some (.int (nI t')), some (.int (nI i)), some (.long (lZ (zz (tsm 0 A i) 0))), none, some (.int (nI 0)), none, none]) d_Md_sums_57 (by decide) rfl ?_
      refine lp (a := 0) (N := i + 1) (R := fun t M' => Rn o l m_Md_sums (0, 0) 59 [some (.ref 436), some (.int (nI a')), some (.int (nI 0)), some (.int (nI t')), some (.int (nI i)), some (.long (lZ (zz (tsm 0 A i) t))), none, some (.int (nI t)), none, none] [] (gh n M') (QI n (PM M (lndS S t' V)))) (P := fun t M' => M' = M2) (by omega) ?_ ?_ ?_
      · rfl
      · intro _ e9
        subst e9
        have bd := zz_bd (f := tsm 0 A i) (m := i + 1) (fun k hk => tsm_bd (by omega) (g2 i k (by omega) (by omega)).2 (g2 (i - k) k (by omega) (by omega)).2)
        refine r_iload d_Md_sums_59 rfl ?_
        refine r_iload d_Md_sums_61 rfl ?_
        refine n_icmp_gt d_Md_sums_63 (by omega) (by omega) (fun _ => ?_) (fun h9 => absurd h9 (by omega))
        refine r_aload_n d_Md_sums_141 rfl ?_
        refine g_getr (b := 445) d_Md_sums_142 f_Md_78 rfl rfl rfl ?_
        refine r_iload d_Md_sums_145 rfl ?_
        refine r_lload d_Md_sums_147 rfl ?_
        refine g_Si (av := [.long (lZ (zz (tsm 0 A i) (i + 1)))]) d_Md_sums_149 k_Md_109 ws_Md_rest (by decide) rfl rfl (Nat.le_of_ble_eq_true rfl) (c_Md_rest rfl (by omega) (by omega)) ?_
        rintro _ _ ⟨rfl, rfl⟩
        refine g_iast d_Md_sums_152 rfl (by omega) (by omega) ?_
        refine n_iinc (c := 1) (L' := [some (.ref 436), some (.int (nI a')), some (.int (nI 0)), some (.int (nI t')), some (.int (nI (i + 1))), some (.long (lZ (zz (tsm 0 A i) (i + 1)))), none, some (.int (nI (i + 1))), none, none]) d_Md_sums_153 rfl rfl (by decide) rfl ?_
        refine r_goto d_Md_sums_156 ?_
        refine r_weak (L' := [some (.ref 436), some (.int (nI a')), some (.int (nI 0)), some (.int (nI t')), some (.int (nI (i + 1))), none, none, none, none, none]) (wk_s (wk_s (wk_s (wk_s (wk_s (wk_n (wk_n (wk_n (wk_n (wk_n wk_0)))))))))) (ih _ ?_)
        exact f2.up (ok i hi.2)
      · intro t _ ht e9 ih2
        subst e9
        refine r_iload d_Md_sums_59 rfl ?_
        refine r_iload d_Md_sums_61 rfl ?_
        refine n_icmp_gt d_Md_sums_63 (by omega) (by omega) (fun h9 => absurd h9 (by omega)) (fun _ => ?_)
        have v9 := g2 i t (by omega) (by omega)
        refine r_aload_n d_Md_sums_66 rfl ?_
        refine g_getr (b := 448) d_Md_sums_67 f_Md_87 rfl rfl rfl ?_
        refine r_bipush (v := nI 10) d_Md_sums_70 (by decide) ?_
        refine r_iload_n d_Md_sums_72 rfl ?_
        refine r_iconst (v := nI 3) d_Md_sums_73 (by decide) ?_
        refine n_icmp_ne d_Md_sums_74 (by omega) (by omega) (fun _ => ?_) (fun h9 => absurd h9 (by decide))
        refine r_iload d_Md_sums_85 rfl ?_
        refine n_imul d_Md_sums_87 ?_
        refine r_iload d_Md_sums_88 rfl ?_
        refine n_iadd d_Md_sums_90 ?_
        refine g_iald d_Md_sums_91 rfl (by omega) (by omega) ?_
        refine r_top (y := nI (A i t)) (by rw [f2.1 448 (by decide)]; exact v9.1) ?_
        refine n_i2l d_Md_sums_92 (by have h9 := v9.2; omega) ?_
        refine r_lstore (L' := [some (.ref 436), some (.int (nI a')), some (.int (nI 0)), some (.int (nI t')), some (.int (nI i)), some (.long (lZ (zz (tsm 0 A i) t))), none, some (.int (nI t)), some (.long (lN (A i t))), none]) d_Md_sums_93 (by decide) rfl ?_
        refine r_lload d_Md_sums_95 rfl ?_
        refine r_iload_n d_Md_sums_97 rfl ?_
        refine r_iconst (v := nI 1) d_Md_sums_98 (by decide) ?_
        refine n_icmp_ne d_Md_sums_99 (by omega) (by omega) (fun _ => ?_) (fun h9 => absurd h9 (by decide))
        refine r_iload_n d_Md_sums_116 rfl ?_
        refine r_iconst (v := nI 2) d_Md_sums_117 (by decide) ?_
        refine n_icmp_ne d_Md_sums_118 (by omega) (by omega) (fun _ => ?_) (fun h9 => absurd h9 (by decide))
        refine r_lload d_Md_sums_130 rfl ?_
        refine z_ladd d_Md_sums_132 rfl (lN_Z _) ?_
        refine r_lstore (L' := [some (.ref 436), some (.int (nI a')), some (.int (nI 0)), some (.int (nI t')), some (.int (nI i)), some (.long (lZ (((zz (tsm 0 A i) t)) + ((A i t : Nat))))), none, some (.int (nI t)), some (.long (lN (A i t))), none]) d_Md_sums_133 (by decide) rfl ?_
        refine n_iinc (c := 1) (L' := [some (.ref 436), some (.int (nI a')), some (.int (nI 0)), some (.int (nI t')), some (.int (nI i)), some (.long (lZ (((zz (tsm 0 A i) t)) + ((A i t : Nat))))), none, some (.int (nI (t + 1))), some (.long (lN (A i t))), none]) d_Md_sums_135 rfl rfl (by decide) rfl ?_
        refine r_goto d_Md_sums_138 ?_
        refine r_weak (L' := [some (.ref 436), some (.int (nI a')), some (.int (nI 0)), some (.int (nI t')), some (.int (nI i)), some (.long (lZ (((zz (tsm 0 A i) t)) + ((A i t : Nat))))), none, some (.int (nI (t + 1))), none, none]) (wk_s (wk_s (wk_s (wk_s (wk_s (wk_s (wk_s (wk_s (wk_n (wk_s wk_0)))))))))) ?_
        refine r_locZ (k := 5) (L' := [some (.ref 436), some (.int (nI a')), some (.int (nI 0)), some (.int (nI t')), some (.int (nI i)), some (.long (lZ (zz (tsm 0 A i) (t + 1)))), none, some (.int (nI (t + 1))), none, none]) ?_ (ih2 _ rfl)
        congr 6
  · refine r_iconst (v := nI 0) d_Md_sums_41 (by decide) ?_
    refine r_istore (L' := [some (.ref 436), some (.int (nI a')), some (.int (nI 1)), some (.int (nI t')), some (.int (nI 0)), none, none, none, none, none]) d_Md_sums_42 (by decide) rfl ?_
    refine lp (a := 0) (N := S.1 0 3) (R := fun i M' => Rn o l m_Md_sums (0, 0) 44 [some (.ref 436), some (.int (nI a')), some (.int (nI 1)), some (.int (nI t')), some (.int (nI i)), none, none, none, none, none] [] (gh n M') (QI n (PM M (lndS S t' V)))) (P := fun i M' => MW M1 445 i V M') (by omega) ?_ ?_ ?_
    · exact MW.z M1 445 _
    · intro M2 f2
      have w2 : WK M1 M2 := WK.w f2 (by decide)
      refine r_iload d_Md_sums_44 rfl ?_
      refine r_aload_n d_Md_sums_46 rfl ?_
      refine g_Vi (av := []) d_Md_sums_47 k_Md_173 ws_Md_wide (by decide) rfl rfl (Nat.le_of_ble_eq_true rfl) rfl (c_Md_wide (w2.sz hX1.sz)) ?_
      rintro _ _ ⟨rfl, rfl⟩
      refine n_icmp_ge d_Md_sums_50 (by omega) (by omega) (fun _ => ?_) (fun h9 => absurd h9 (by omega))
      refine r_aload_n d_Md_sums_159 rfl ?_
      refine r_aload_n d_Md_sums_160 rfl ?_
      refine g_getr (b := 445) d_Md_sums_161 f_Md_78 rfl rfl rfl ?_
      refine r_iload_n d_Md_sums_164 rfl ?_
      refine r_aload_n d_Md_sums_165 rfl ?_
      refine g_Vi (av := []) d_Md_sums_166 k_Md_173 ws_Md_wide (by decide) rfl rfl (Nat.le_of_ble_eq_true rfl) rfl (c_Md_wide (w2.sz hX1.sz)) ?_
      rintro _ _ ⟨rfl, rfl⟩
      refine r_iconst (v := nI 1) d_Md_sums_169 (by decide) ?_
      refine n_isub d_Md_sums_170 (by omega) ?_
      refine g_Vi (av := [.ref 445, .int (nI t'), .int (nI ((S.1 0 3) - 1))]) d_Md_sums_171 k_Md_203 ws_Md_comes (by decide) rfl rfl (Nat.le_of_ble_eq_true rfl) rfl (c_Md_comes (w := V) hW (w2.mr hX1) rfl (by decide) ht1 (by omega) f2.2) ?_
      rintro r M4 k4
      refine g_reti d_Md_sums_174 rfl ?_
      exact PM.of (hk1.trans w2.km) k4
    · intro i M2 hi f2 ih
      have w2 : WK M1 M2 := WK.w f2 (by decide)
      refine r_iload d_Md_sums_44 rfl ?_
      refine r_aload_n d_Md_sums_46 rfl ?_
      refine g_Vi (av := []) d_Md_sums_47 k_Md_173 ws_Md_wide (by decide) rfl rfl (Nat.le_of_ble_eq_true rfl) rfl (c_Md_wide (w2.sz hX1.sz)) ?_
      rintro _ _ ⟨rfl, rfl⟩
      refine n_icmp_ge d_Md_sums_50 (by omega) (by omega) (fun h9 => absurd h9 (by omega)) (fun _ => ?_)
      refine r_lconst (v := lN 0) d_Md_sums_53 (by decide) ?_
      refine r_lstore (L' := [some (.ref 436), some (.int (nI a')), some (.int (nI 1)), some (.int (nI t')), some (.int (nI i)), some (.long (lN 0)), none, none, none, none]) d_Md_sums_54 (by decide) rfl ?_
      refine r_weak (L' := [some (.ref 436), some (.int (nI a')), some (.int (nI 1)), some (.int (nI t')), some (.int (nI i)), some (.long (lN 0)), none, none, none, none]) (wk_s (wk_s (wk_s (wk_s (wk_s (wk_s (wk_n (wk_n (wk_n (wk_n wk_0)))))))))) ?_
      have e00 : (lN 0) = lZ (zz (tsm 1 A i) 0) := lN_Z 0
      rw [e00]
      refine r_iconst (v := nI 0) d_Md_sums_56 (by decide) ?_
      refine r_istore (L' := [some (.ref 436), some (.int (nI a')), some (.int (nI 1)), some (.int (nI t')), some (.int (nI i)), some (.long (lZ (zz (tsm 1 A i) 0))), none, some (.int (nI 0)), none, none]) d_Md_sums_57 (by decide) rfl ?_
      refine lp (a := 0) (N := i + 1) (R := fun t M' => Rn o l m_Md_sums (0, 0) 59 [some (.ref 436), some (.int (nI a')), some (.int (nI 1)), some (.int (nI t')), some (.int (nI i)), some (.long (lZ (zz (tsm 1 A i) t))), none, some (.int (nI t)), none, none] [] (gh n M') (QI n (PM M (lndS S t' V)))) (P := fun t M' => M' = M2) (by omega) ?_ ?_ ?_
      · rfl
      · intro _ e9
        subst e9
        have bd := zz_bd (f := tsm 1 A i) (m := i + 1) (fun k hk => tsm_bd (by omega) (g2 i k (by omega) (by omega)).2 (g2 (i - k) k (by omega) (by omega)).2)
        refine r_iload d_Md_sums_59 rfl ?_
        refine r_iload d_Md_sums_61 rfl ?_
        refine n_icmp_gt d_Md_sums_63 (by omega) (by omega) (fun _ => ?_) (fun h9 => absurd h9 (by omega))
        refine r_aload_n d_Md_sums_141 rfl ?_
        refine g_getr (b := 445) d_Md_sums_142 f_Md_78 rfl rfl rfl ?_
        refine r_iload d_Md_sums_145 rfl ?_
        refine r_lload d_Md_sums_147 rfl ?_
        refine g_Si (av := [.long (lZ (zz (tsm 1 A i) (i + 1)))]) d_Md_sums_149 k_Md_109 ws_Md_rest (by decide) rfl rfl (Nat.le_of_ble_eq_true rfl) (c_Md_rest rfl (by omega) (by omega)) ?_
        rintro _ _ ⟨rfl, rfl⟩
        refine g_iast d_Md_sums_152 rfl (by omega) (by omega) ?_
        refine n_iinc (c := 1) (L' := [some (.ref 436), some (.int (nI a')), some (.int (nI 1)), some (.int (nI t')), some (.int (nI (i + 1))), some (.long (lZ (zz (tsm 1 A i) (i + 1)))), none, some (.int (nI (i + 1))), none, none]) d_Md_sums_153 rfl rfl (by decide) rfl ?_
        refine r_goto d_Md_sums_156 ?_
        refine r_weak (L' := [some (.ref 436), some (.int (nI a')), some (.int (nI 1)), some (.int (nI t')), some (.int (nI (i + 1))), none, none, none, none, none]) (wk_s (wk_s (wk_s (wk_s (wk_s (wk_n (wk_n (wk_n (wk_n (wk_n wk_0)))))))))) (ih _ ?_)
        exact f2.up (ok i hi.2)
      · intro t _ ht e9 ih2
        subst e9
        refine r_iload d_Md_sums_59 rfl ?_
        refine r_iload d_Md_sums_61 rfl ?_
        refine n_icmp_gt d_Md_sums_63 (by omega) (by omega) (fun h9 => absurd h9 (by omega)) (fun _ => ?_)
        have v9 := g2 i t (by omega) (by omega)
        refine r_aload_n d_Md_sums_66 rfl ?_
        refine g_getr (b := 448) d_Md_sums_67 f_Md_87 rfl rfl rfl ?_
        refine r_bipush (v := nI 10) d_Md_sums_70 (by decide) ?_
        refine r_iload_n d_Md_sums_72 rfl ?_
        refine r_iconst (v := nI 3) d_Md_sums_73 (by decide) ?_
        refine n_icmp_ne d_Md_sums_74 (by omega) (by omega) (fun _ => ?_) (fun h9 => absurd h9 (by decide))
        refine r_iload d_Md_sums_85 rfl ?_
        refine n_imul d_Md_sums_87 ?_
        refine r_iload d_Md_sums_88 rfl ?_
        refine n_iadd d_Md_sums_90 ?_
        refine g_iald d_Md_sums_91 rfl (by omega) (by omega) ?_
        refine r_top (y := nI (A i t)) (by rw [f2.1 448 (by decide)]; exact v9.1) ?_
        refine n_i2l d_Md_sums_92 (by have h9 := v9.2; omega) ?_
        refine r_lstore (L' := [some (.ref 436), some (.int (nI a')), some (.int (nI 1)), some (.int (nI t')), some (.int (nI i)), some (.long (lZ (zz (tsm 1 A i) t))), none, some (.int (nI t)), some (.long (lN (A i t))), none]) d_Md_sums_93 (by decide) rfl ?_
        refine r_lload d_Md_sums_95 rfl ?_
        refine r_iload_n d_Md_sums_97 rfl ?_
        refine r_iconst (v := nI 1) d_Md_sums_98 (by decide) ?_
        refine n_icmp_ne d_Md_sums_99 (by omega) (by omega) (fun h9 => absurd h9 (by decide)) (fun _ => ?_)
        refine r_iload d_Md_sums_102 rfl ?_
        refine r_iconst (v := nI 2) d_Md_sums_104 (by decide) ?_
        refine n_irem d_Md_sums_105 (by omega) (by omega) (by omega) ?_
        refine r_iconst (v := nI 1) d_Md_sums_106 (by decide) ?_
        refine n_icmp_ne d_Md_sums_107 (by omega) (by omega) (fun c1 => ?_) (fun c1 => ?_)
        · refine r_iload_n d_Md_sums_116 rfl ?_
          refine r_iconst (v := nI 2) d_Md_sums_117 (by decide) ?_
          refine n_icmp_ne d_Md_sums_118 (by omega) (by omega) (fun _ => ?_) (fun h9 => absurd h9 (by decide))
          refine r_lload d_Md_sums_130 rfl ?_
          refine z_ladd d_Md_sums_132 rfl (lN_Z _) ?_
          refine r_lstore (L' := [some (.ref 436), some (.int (nI a')), some (.int (nI 1)), some (.int (nI t')), some (.int (nI i)), some (.long (lZ (((zz (tsm 1 A i) t)) + ((A i t : Nat))))), none, some (.int (nI t)), some (.long (lN (A i t))), none]) d_Md_sums_133 (by decide) rfl ?_
          refine n_iinc (c := 1) (L' := [some (.ref 436), some (.int (nI a')), some (.int (nI 1)), some (.int (nI t')), some (.int (nI i)), some (.long (lZ (((zz (tsm 1 A i) t)) + ((A i t : Nat))))), none, some (.int (nI (t + 1))), some (.long (lN (A i t))), none]) d_Md_sums_135 rfl rfl (by decide) rfl ?_
          refine r_goto d_Md_sums_138 ?_
          refine r_weak (L' := [some (.ref 436), some (.int (nI a')), some (.int (nI 1)), some (.int (nI t')), some (.int (nI i)), some (.long (lZ (((zz (tsm 1 A i) t)) + ((A i t : Nat))))), none, some (.int (nI (t + 1))), none, none]) (wk_s (wk_s (wk_s (wk_s (wk_s (wk_s (wk_s (wk_s (wk_n (wk_s wk_0)))))))))) ?_
          refine r_locZ (k := 5) (L' := [some (.ref 436), some (.int (nI a')), some (.int (nI 1)), some (.int (nI t')), some (.int (nI i)), some (.long (lZ (zz (tsm 1 A i) (t + 1)))), none, some (.int (nI (t + 1))), none, none]) ?_ (ih2 _ rfl)
          congr 6
          congr 1
          rw [zz]
          unfold tsm
          rw [if_neg (by omega), if_neg (by decide), if_neg (by decide)]
        · refine r_lload d_Md_sums_110 rfl ?_
          refine z_lneg d_Md_sums_112 (lN_Z _) ?_
          refine r_goto d_Md_sums_113 ?_
          refine z_ladd d_Md_sums_132 rfl rfl ?_
          refine r_lstore (L' := [some (.ref 436), some (.int (nI a')), some (.int (nI 1)), some (.int (nI t')), some (.int (nI i)), some (.long (lZ (((zz (tsm 1 A i) t)) + (-((A i t : Nat)))))), none, some (.int (nI t)), some (.long (lN (A i t))), none]) d_Md_sums_133 (by decide) rfl ?_
          refine n_iinc (c := 1) (L' := [some (.ref 436), some (.int (nI a')), some (.int (nI 1)), some (.int (nI t')), some (.int (nI i)), some (.long (lZ (((zz (tsm 1 A i) t)) + (-((A i t : Nat)))))), none, some (.int (nI (t + 1))), some (.long (lN (A i t))), none]) d_Md_sums_135 rfl rfl (by decide) rfl ?_
          refine r_goto d_Md_sums_138 ?_
          refine r_weak (L' := [some (.ref 436), some (.int (nI a')), some (.int (nI 1)), some (.int (nI t')), some (.int (nI i)), some (.long (lZ (((zz (tsm 1 A i) t)) + (-((A i t : Nat)))))), none, some (.int (nI (t + 1))), none, none]) (wk_s (wk_s (wk_s (wk_s (wk_s (wk_s (wk_s (wk_s (wk_n (wk_s wk_0)))))))))) ?_
          refine r_locZ (k := 5) (L' := [some (.ref 436), some (.int (nI a')), some (.int (nI 1)), some (.int (nI t')), some (.int (nI i)), some (.long (lZ (zz (tsm 1 A i) (t + 1)))), none, some (.int (nI (t + 1))), none, none]) ?_ (ih2 _ rfl)
          congr 6
          congr 1
          rw [zz]
          unfold tsm
          rw [if_pos ⟨rfl, c1⟩]
  · refine r_iconst (v := nI 0) d_Md_sums_41 (by decide) ?_
    refine r_istore (L' := [some (.ref 436), some (.int (nI a')), some (.int (nI 2)), some (.int (nI t')), some (.int (nI 0)), none, none, none, none, none]) d_Md_sums_42 (by decide) rfl ?_
    refine lp (a := 0) (N := S.1 0 3) (R := fun i M' => Rn o l m_Md_sums (0, 0) 44 [some (.ref 436), some (.int (nI a')), some (.int (nI 2)), some (.int (nI t')), some (.int (nI i)), none, none, none, none, none] [] (gh n M') (QI n (PM M (lndS S t' V)))) (P := fun i M' => MW M1 445 i V M') (by omega) ?_ ?_ ?_
    · exact MW.z M1 445 _
    · intro M2 f2
      have w2 : WK M1 M2 := WK.w f2 (by decide)
      refine r_iload d_Md_sums_44 rfl ?_
      refine r_aload_n d_Md_sums_46 rfl ?_
      refine g_Vi (av := []) d_Md_sums_47 k_Md_173 ws_Md_wide (by decide) rfl rfl (Nat.le_of_ble_eq_true rfl) rfl (c_Md_wide (w2.sz hX1.sz)) ?_
      rintro _ _ ⟨rfl, rfl⟩
      refine n_icmp_ge d_Md_sums_50 (by omega) (by omega) (fun _ => ?_) (fun h9 => absurd h9 (by omega))
      refine r_aload_n d_Md_sums_159 rfl ?_
      refine r_aload_n d_Md_sums_160 rfl ?_
      refine g_getr (b := 445) d_Md_sums_161 f_Md_78 rfl rfl rfl ?_
      refine r_iload_n d_Md_sums_164 rfl ?_
      refine r_aload_n d_Md_sums_165 rfl ?_
      refine g_Vi (av := []) d_Md_sums_166 k_Md_173 ws_Md_wide (by decide) rfl rfl (Nat.le_of_ble_eq_true rfl) rfl (c_Md_wide (w2.sz hX1.sz)) ?_
      rintro _ _ ⟨rfl, rfl⟩
      refine r_iconst (v := nI 1) d_Md_sums_169 (by decide) ?_
      refine n_isub d_Md_sums_170 (by omega) ?_
      refine g_Vi (av := [.ref 445, .int (nI t'), .int (nI ((S.1 0 3) - 1))]) d_Md_sums_171 k_Md_203 ws_Md_comes (by decide) rfl rfl (Nat.le_of_ble_eq_true rfl) rfl (c_Md_comes (w := V) hW (w2.mr hX1) rfl (by decide) ht1 (by omega) f2.2) ?_
      rintro r M4 k4
      refine g_reti d_Md_sums_174 rfl ?_
      exact PM.of (hk1.trans w2.km) k4
    · intro i M2 hi f2 ih
      have w2 : WK M1 M2 := WK.w f2 (by decide)
      refine r_iload d_Md_sums_44 rfl ?_
      refine r_aload_n d_Md_sums_46 rfl ?_
      refine g_Vi (av := []) d_Md_sums_47 k_Md_173 ws_Md_wide (by decide) rfl rfl (Nat.le_of_ble_eq_true rfl) rfl (c_Md_wide (w2.sz hX1.sz)) ?_
      rintro _ _ ⟨rfl, rfl⟩
      refine n_icmp_ge d_Md_sums_50 (by omega) (by omega) (fun h9 => absurd h9 (by omega)) (fun _ => ?_)
      refine r_lconst (v := lN 0) d_Md_sums_53 (by decide) ?_
      refine r_lstore (L' := [some (.ref 436), some (.int (nI a')), some (.int (nI 2)), some (.int (nI t')), some (.int (nI i)), some (.long (lN 0)), none, none, none, none]) d_Md_sums_54 (by decide) rfl ?_
      refine r_weak (L' := [some (.ref 436), some (.int (nI a')), some (.int (nI 2)), some (.int (nI t')), some (.int (nI i)), some (.long (lN 0)), none, none, none, none]) (wk_s (wk_s (wk_s (wk_s (wk_s (wk_s (wk_n (wk_n (wk_n (wk_n wk_0)))))))))) ?_
      have e00 : (lN 0) = lZ (zz (tsm 2 A i) 0) := lN_Z 0
      rw [e00]
      refine r_iconst (v := nI 0) d_Md_sums_56 (by decide) ?_
      refine r_istore (L' := [some (.ref 436), some (.int (nI a')), some (.int (nI 2)), some (.int (nI t')), some (.int (nI i)), some (.long (lZ (zz (tsm 2 A i) 0))), none, some (.int (nI 0)), none, none]) d_Md_sums_57 (by decide) rfl ?_
      refine lp (a := 0) (N := i + 1) (R := fun t M' => Rn o l m_Md_sums (0, 0) 59 [some (.ref 436), some (.int (nI a')), some (.int (nI 2)), some (.int (nI t')), some (.int (nI i)), some (.long (lZ (zz (tsm 2 A i) t))), none, some (.int (nI t)), none, none] [] (gh n M') (QI n (PM M (lndS S t' V)))) (P := fun t M' => M' = M2) (by omega) ?_ ?_ ?_
      · rfl
      · intro _ e9
        subst e9
        have bd := zz_bd (f := tsm 2 A i) (m := i + 1) (fun k hk => tsm_bd (by omega) (g2 i k (by omega) (by omega)).2 (g2 (i - k) k (by omega) (by omega)).2)
        refine r_iload d_Md_sums_59 rfl ?_
        refine r_iload d_Md_sums_61 rfl ?_
        refine n_icmp_gt d_Md_sums_63 (by omega) (by omega) (fun _ => ?_) (fun h9 => absurd h9 (by omega))
        refine r_aload_n d_Md_sums_141 rfl ?_
        refine g_getr (b := 445) d_Md_sums_142 f_Md_78 rfl rfl rfl ?_
        refine r_iload d_Md_sums_145 rfl ?_
        refine r_lload d_Md_sums_147 rfl ?_
        refine g_Si (av := [.long (lZ (zz (tsm 2 A i) (i + 1)))]) d_Md_sums_149 k_Md_109 ws_Md_rest (by decide) rfl rfl (Nat.le_of_ble_eq_true rfl) (c_Md_rest rfl (by omega) (by omega)) ?_
        rintro _ _ ⟨rfl, rfl⟩
        refine g_iast d_Md_sums_152 rfl (by omega) (by omega) ?_
        refine n_iinc (c := 1) (L' := [some (.ref 436), some (.int (nI a')), some (.int (nI 2)), some (.int (nI t')), some (.int (nI (i + 1))), some (.long (lZ (zz (tsm 2 A i) (i + 1)))), none, some (.int (nI (i + 1))), none, none]) d_Md_sums_153 rfl rfl (by decide) rfl ?_
        refine r_goto d_Md_sums_156 ?_
        refine r_weak (L' := [some (.ref 436), some (.int (nI a')), some (.int (nI 2)), some (.int (nI t')), some (.int (nI (i + 1))), none, none, none, none, none]) (wk_s (wk_s (wk_s (wk_s (wk_s (wk_n (wk_n (wk_n (wk_n (wk_n wk_0)))))))))) (ih _ ?_)
        exact f2.up (ok i hi.2)
      · intro t _ ht e9 ih2
        subst e9
        refine r_iload d_Md_sums_59 rfl ?_
        refine r_iload d_Md_sums_61 rfl ?_
        refine n_icmp_gt d_Md_sums_63 (by omega) (by omega) (fun h9 => absurd h9 (by omega)) (fun _ => ?_)
        have v9 := g2 i t (by omega) (by omega)
        refine r_aload_n d_Md_sums_66 rfl ?_
        refine g_getr (b := 448) d_Md_sums_67 f_Md_87 rfl rfl rfl ?_
        refine r_bipush (v := nI 10) d_Md_sums_70 (by decide) ?_
        refine r_iload_n d_Md_sums_72 rfl ?_
        refine r_iconst (v := nI 3) d_Md_sums_73 (by decide) ?_
        refine n_icmp_ne d_Md_sums_74 (by omega) (by omega) (fun _ => ?_) (fun h9 => absurd h9 (by decide))
        refine r_iload d_Md_sums_85 rfl ?_
        refine n_imul d_Md_sums_87 ?_
        refine r_iload d_Md_sums_88 rfl ?_
        refine n_iadd d_Md_sums_90 ?_
        refine g_iald d_Md_sums_91 rfl (by omega) (by omega) ?_
        refine r_top (y := nI (A i t)) (by rw [f2.1 448 (by decide)]; exact v9.1) ?_
        refine n_i2l d_Md_sums_92 (by have h9 := v9.2; omega) ?_
        refine r_lstore (L' := [some (.ref 436), some (.int (nI a')), some (.int (nI 2)), some (.int (nI t')), some (.int (nI i)), some (.long (lZ (zz (tsm 2 A i) t))), none, some (.int (nI t)), some (.long (lN (A i t))), none]) d_Md_sums_93 (by decide) rfl ?_
        refine r_lload d_Md_sums_95 rfl ?_
        refine r_iload_n d_Md_sums_97 rfl ?_
        refine r_iconst (v := nI 1) d_Md_sums_98 (by decide) ?_
        refine n_icmp_ne d_Md_sums_99 (by omega) (by omega) (fun _ => ?_) (fun h9 => absurd h9 (by decide))
        refine r_iload_n d_Md_sums_116 rfl ?_
        refine r_iconst (v := nI 2) d_Md_sums_117 (by decide) ?_
        refine n_icmp_ne d_Md_sums_118 (by omega) (by omega) (fun h9 => absurd h9 (by decide)) (fun _ => ?_)
        refine r_iload d_Md_sums_121 rfl ?_
        refine n_i2l d_Md_sums_123 (by omega) ?_
        refine r_lload d_Md_sums_124 rfl ?_
        refine n_lmul d_Md_sums_126 ?_
        refine r_goto d_Md_sums_127 ?_
        refine z_ladd d_Md_sums_132 rfl (lN_Z _) ?_
        refine r_lstore (L' := [some (.ref 436), some (.int (nI a')), some (.int (nI 2)), some (.int (nI t')), some (.int (nI i)), some (.long (lZ (((zz (tsm 2 A i) t)) + ((t * (A i t) : Nat))))), none, some (.int (nI t)), some (.long (lN (A i t))), none]) d_Md_sums_133 (by decide) rfl ?_
        refine n_iinc (c := 1) (L' := [some (.ref 436), some (.int (nI a')), some (.int (nI 2)), some (.int (nI t')), some (.int (nI i)), some (.long (lZ (((zz (tsm 2 A i) t)) + ((t * (A i t) : Nat))))), none, some (.int (nI (t + 1))), some (.long (lN (A i t))), none]) d_Md_sums_135 rfl rfl (by decide) rfl ?_
        refine r_goto d_Md_sums_138 ?_
        refine r_weak (L' := [some (.ref 436), some (.int (nI a')), some (.int (nI 2)), some (.int (nI t')), some (.int (nI i)), some (.long (lZ (((zz (tsm 2 A i) t)) + ((t * (A i t) : Nat))))), none, some (.int (nI (t + 1))), none, none]) (wk_s (wk_s (wk_s (wk_s (wk_s (wk_s (wk_s (wk_s (wk_n (wk_s wk_0)))))))))) ?_
        refine r_locZ (k := 5) (L' := [some (.ref 436), some (.int (nI a')), some (.int (nI 2)), some (.int (nI t')), some (.int (nI i)), some (.long (lZ (zz (tsm 2 A i) (t + 1)))), none, some (.int (nI (t + 1))), none, none]) ?_ (ih2 _ rfl)
        congr 6
  · refine r_iconst (v := nI 0) d_Md_sums_41 (by decide) ?_
    refine r_istore (L' := [some (.ref 436), some (.int (nI a')), some (.int (nI 3)), some (.int (nI t')), some (.int (nI 0)), none, none, none, none, none]) d_Md_sums_42 (by decide) rfl ?_
    refine lp (a := 0) (N := S.1 0 3) (R := fun i M' => Rn o l m_Md_sums (0, 0) 44 [some (.ref 436), some (.int (nI a')), some (.int (nI 3)), some (.int (nI t')), some (.int (nI i)), none, none, none, none, none] [] (gh n M') (QI n (PM M (lndS S t' V)))) (P := fun i M' => MW M1 445 i V M') (by omega) ?_ ?_ ?_
    · exact MW.z M1 445 _
    · intro M2 f2
      have w2 : WK M1 M2 := WK.w f2 (by decide)
      refine r_iload d_Md_sums_44 rfl ?_
      refine r_aload_n d_Md_sums_46 rfl ?_
      refine g_Vi (av := []) d_Md_sums_47 k_Md_173 ws_Md_wide (by decide) rfl rfl (Nat.le_of_ble_eq_true rfl) rfl (c_Md_wide (w2.sz hX1.sz)) ?_
      rintro _ _ ⟨rfl, rfl⟩
      refine n_icmp_ge d_Md_sums_50 (by omega) (by omega) (fun _ => ?_) (fun h9 => absurd h9 (by omega))
      refine r_aload_n d_Md_sums_159 rfl ?_
      refine r_aload_n d_Md_sums_160 rfl ?_
      refine g_getr (b := 445) d_Md_sums_161 f_Md_78 rfl rfl rfl ?_
      refine r_iload_n d_Md_sums_164 rfl ?_
      refine r_aload_n d_Md_sums_165 rfl ?_
      refine g_Vi (av := []) d_Md_sums_166 k_Md_173 ws_Md_wide (by decide) rfl rfl (Nat.le_of_ble_eq_true rfl) rfl (c_Md_wide (w2.sz hX1.sz)) ?_
      rintro _ _ ⟨rfl, rfl⟩
      refine r_iconst (v := nI 1) d_Md_sums_169 (by decide) ?_
      refine n_isub d_Md_sums_170 (by omega) ?_
      refine g_Vi (av := [.ref 445, .int (nI t'), .int (nI ((S.1 0 3) - 1))]) d_Md_sums_171 k_Md_203 ws_Md_comes (by decide) rfl rfl (Nat.le_of_ble_eq_true rfl) rfl (c_Md_comes (w := V) hW (w2.mr hX1) rfl (by decide) ht1 (by omega) f2.2) ?_
      rintro r M4 k4
      refine g_reti d_Md_sums_174 rfl ?_
      exact PM.of (hk1.trans w2.km) k4
    · intro i M2 hi f2 ih
      have w2 : WK M1 M2 := WK.w f2 (by decide)
      refine r_iload d_Md_sums_44 rfl ?_
      refine r_aload_n d_Md_sums_46 rfl ?_
      refine g_Vi (av := []) d_Md_sums_47 k_Md_173 ws_Md_wide (by decide) rfl rfl (Nat.le_of_ble_eq_true rfl) rfl (c_Md_wide (w2.sz hX1.sz)) ?_
      rintro _ _ ⟨rfl, rfl⟩
      refine n_icmp_ge d_Md_sums_50 (by omega) (by omega) (fun h9 => absurd h9 (by omega)) (fun _ => ?_)
      refine r_lconst (v := lN 0) d_Md_sums_53 (by decide) ?_
      refine r_lstore (L' := [some (.ref 436), some (.int (nI a')), some (.int (nI 3)), some (.int (nI t')), some (.int (nI i)), some (.long (lN 0)), none, none, none, none]) d_Md_sums_54 (by decide) rfl ?_
      refine r_weak (L' := [some (.ref 436), some (.int (nI a')), some (.int (nI 3)), some (.int (nI t')), some (.int (nI i)), some (.long (lN 0)), none, none, none, none]) (wk_s (wk_s (wk_s (wk_s (wk_s (wk_s (wk_n (wk_n (wk_n (wk_n wk_0)))))))))) ?_
      have e00 : (lN 0) = lZ (zz (tsm 3 A i) 0) := lN_Z 0
      rw [e00]
      refine r_iconst (v := nI 0) d_Md_sums_56 (by decide) ?_
      refine r_istore (L' := [some (.ref 436), some (.int (nI a')), some (.int (nI 3)), some (.int (nI t')), some (.int (nI i)), some (.long (lZ (zz (tsm 3 A i) 0))), none, some (.int (nI 0)), none, none]) d_Md_sums_57 (by decide) rfl ?_
      refine lp (a := 0) (N := i + 1) (R := fun t M' => Rn o l m_Md_sums (0, 0) 59 [some (.ref 436), some (.int (nI a')), some (.int (nI 3)), some (.int (nI t')), some (.int (nI i)), some (.long (lZ (zz (tsm 3 A i) t))), none, some (.int (nI t)), none, none] [] (gh n M') (QI n (PM M (lndS S t' V)))) (P := fun t M' => M' = M2) (by omega) ?_ ?_ ?_
      · rfl
      · intro _ e9
        subst e9
        have bd := zz_bd (f := tsm 3 A i) (m := i + 1) (fun k hk => tsm_bd (by omega) (g2 i k (by omega) (by omega)).2 (g2 (i - k) k (by omega) (by omega)).2)
        refine r_iload d_Md_sums_59 rfl ?_
        refine r_iload d_Md_sums_61 rfl ?_
        refine n_icmp_gt d_Md_sums_63 (by omega) (by omega) (fun _ => ?_) (fun h9 => absurd h9 (by omega))
        refine r_aload_n d_Md_sums_141 rfl ?_
        refine g_getr (b := 445) d_Md_sums_142 f_Md_78 rfl rfl rfl ?_
        refine r_iload d_Md_sums_145 rfl ?_
        refine r_lload d_Md_sums_147 rfl ?_
        refine g_Si (av := [.long (lZ (zz (tsm 3 A i) (i + 1)))]) d_Md_sums_149 k_Md_109 ws_Md_rest (by decide) rfl rfl (Nat.le_of_ble_eq_true rfl) (c_Md_rest rfl (by omega) (by omega)) ?_
        rintro _ _ ⟨rfl, rfl⟩
        refine g_iast d_Md_sums_152 rfl (by omega) (by omega) ?_
        refine n_iinc (c := 1) (L' := [some (.ref 436), some (.int (nI a')), some (.int (nI 3)), some (.int (nI t')), some (.int (nI (i + 1))), some (.long (lZ (zz (tsm 3 A i) (i + 1)))), none, some (.int (nI (i + 1))), none, none]) d_Md_sums_153 rfl rfl (by decide) rfl ?_
        refine r_goto d_Md_sums_156 ?_
        refine r_weak (L' := [some (.ref 436), some (.int (nI a')), some (.int (nI 3)), some (.int (nI t')), some (.int (nI (i + 1))), none, none, none, none, none]) (wk_s (wk_s (wk_s (wk_s (wk_s (wk_n (wk_n (wk_n (wk_n (wk_n wk_0)))))))))) (ih _ ?_)
        exact f2.up (ok i hi.2)
      · intro t _ ht e9 ih2
        subst e9
        refine r_iload d_Md_sums_59 rfl ?_
        refine r_iload d_Md_sums_61 rfl ?_
        refine n_icmp_gt d_Md_sums_63 (by omega) (by omega) (fun h9 => absurd h9 (by omega)) (fun _ => ?_)
        have v9 := g2 (i - t) t (by omega) (by omega)
        refine r_aload_n d_Md_sums_66 rfl ?_
        refine g_getr (b := 448) d_Md_sums_67 f_Md_87 rfl rfl rfl ?_
        refine r_bipush (v := nI 10) d_Md_sums_70 (by decide) ?_
        refine r_iload_n d_Md_sums_72 rfl ?_
        refine r_iconst (v := nI 3) d_Md_sums_73 (by decide) ?_
        refine n_icmp_ne d_Md_sums_74 (by omega) (by omega) (fun h9 => absurd h9 (by decide)) (fun _ => ?_)
        refine r_iload d_Md_sums_77 rfl ?_
        refine r_iload d_Md_sums_79 rfl ?_
        refine n_isub d_Md_sums_81 (by omega) ?_
        refine r_goto d_Md_sums_82 ?_
        refine n_imul d_Md_sums_87 ?_
        refine r_iload d_Md_sums_88 rfl ?_
        refine n_iadd d_Md_sums_90 ?_
        refine g_iald d_Md_sums_91 rfl (by omega) (by omega) ?_
        refine r_top (y := nI (A (i - t) t)) (by rw [f2.1 448 (by decide)]; exact v9.1) ?_
        refine n_i2l d_Md_sums_92 (by have h9 := v9.2; omega) ?_
        refine r_lstore (L' := [some (.ref 436), some (.int (nI a')), some (.int (nI 3)), some (.int (nI t')), some (.int (nI i)), some (.long (lZ (zz (tsm 3 A i) t))), none, some (.int (nI t)), some (.long (lN (A (i - t) t))), none]) d_Md_sums_93 (by decide) rfl ?_
        refine r_lload d_Md_sums_95 rfl ?_
        refine r_iload_n d_Md_sums_97 rfl ?_
        refine r_iconst (v := nI 1) d_Md_sums_98 (by decide) ?_
        refine n_icmp_ne d_Md_sums_99 (by omega) (by omega) (fun _ => ?_) (fun h9 => absurd h9 (by decide))
        refine r_iload_n d_Md_sums_116 rfl ?_
        refine r_iconst (v := nI 2) d_Md_sums_117 (by decide) ?_
        refine n_icmp_ne d_Md_sums_118 (by omega) (by omega) (fun _ => ?_) (fun h9 => absurd h9 (by decide))
        refine r_lload d_Md_sums_130 rfl ?_
        refine z_ladd d_Md_sums_132 rfl (lN_Z _) ?_
        refine r_lstore (L' := [some (.ref 436), some (.int (nI a')), some (.int (nI 3)), some (.int (nI t')), some (.int (nI i)), some (.long (lZ (((zz (tsm 3 A i) t)) + ((A (i - t) t : Nat))))), none, some (.int (nI t)), some (.long (lN (A (i - t) t))), none]) d_Md_sums_133 (by decide) rfl ?_
        refine n_iinc (c := 1) (L' := [some (.ref 436), some (.int (nI a')), some (.int (nI 3)), some (.int (nI t')), some (.int (nI i)), some (.long (lZ (((zz (tsm 3 A i) t)) + ((A (i - t) t : Nat))))), none, some (.int (nI (t + 1))), some (.long (lN (A (i - t) t))), none]) d_Md_sums_135 rfl rfl (by decide) rfl ?_
        refine r_goto d_Md_sums_138 ?_
        refine r_weak (L' := [some (.ref 436), some (.int (nI a')), some (.int (nI 3)), some (.int (nI t')), some (.int (nI i)), some (.long (lZ (((zz (tsm 3 A i) t)) + ((A (i - t) t : Nat))))), none, some (.int (nI (t + 1))), none, none]) (wk_s (wk_s (wk_s (wk_s (wk_s (wk_s (wk_s (wk_s (wk_n (wk_s wk_0)))))))))) ?_
        refine r_locZ (k := 5) (L' := [some (.ref 436), some (.int (nI a')), some (.int (nI 3)), some (.int (nI t')), some (.int (nI i)), some (.long (lZ (zz (tsm 3 A i) (t + 1)))), none, some (.int (nI (t + 1))), none, none]) ?_ (ih2 _ rfl)
        congr 6
end C77
