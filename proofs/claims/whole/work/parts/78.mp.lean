theorem WS.kp {S : SS} {C' : Core} (hW : WS S) (h : WC C') : WS (kp S C') := by
  obtain ⟨h1, h2, h3, h4⟩ := hW
  refine ⟨h, fun D hD => ?_, ?_, h4⟩
  · have hD : D ∈ (S.1 :: S.2.1).take 8 := hD
    rcases List.mem_cons.mp (List.mem_of_mem_take hD) with rfl | hD
    · exact h1
    · exact h2 D hD
  · show ((S.1 :: S.2.1).take 8).length ≤ 8
    rw [List.length_take]
    omega
theorem WC.lay {C : Core} {g f : Nat → Nat} (h : WC C) (hg : ∀ i, i < 10 → g i < 1000003) : WC (layC C g f) := by
  obtain ⟨h1, h2, h3, h4, h5⟩ := h
  have e0 : layC C g f 0 3 = C 0 3 := by unfold layC; rw [if_neg (by omega)]
  refine ⟨by rw [e0]; exact h1, fun k hk j hj => ?_, fun z k hk j hj hj2 => ?_, fun t ht => ?_, fun i j hi hij hj => ?_⟩
  · unfold layC
    split
    · exact col_lt (hg _ (by omega)) _
    · exact h2 k hk j hj
  · rw [e0] at z hj
    unfold layC
    rw [if_neg (by omega)]
    exact h3 z k hk j hj hj2
  · unfold layC
    rw [if_neg (by omega), if_neg (by omega), if_neg (by omega)]
    exact h4 t ht
  · unfold layC
    rw [if_neg (by omega)]
    exact h5 i j hi hij hj
theorem nw_lay (C : Core) {g f : Nat → Nat} (hs : C 0 3 ≤ 10) : ∀ j, j < 241 → nw (layC C g f) j = if 141 ≤ j ∧ (j - 141) / 10 < C 0 3 ∧ (j - 141) % 10 ≤ (j - 141) / 10 then col (C 0 3) g f ((j - 141) % 10) ((j - 141) / 10) else nw C j := by
  intro j hj
  rcases nw_at hj with ⟨rfl, h⟩ | ⟨s', i', h1, h2, rfl, h⟩ | ⟨t', i', h1, h2, rfl, h⟩ | ⟨t', i', h1, h2, rfl, h⟩ | ⟨i, k, h1, h2, rfl, h⟩
  · rw [h, h, if_neg (by omega), layC, if_neg (by omega)]
  · rw [h, h, if_neg (by omega), layC, if_neg (by omega)]
  · rw [h, h, if_neg (by omega), layC, if_neg (by omega)]
  · rw [h, h, if_neg (by omega), layC, if_neg (by omega)]
  · rw [h, h, show (141 + 10 * i + k - 141) / 10 = i by omega, show (141 + 10 * i + k - 141) % 10 = k by omega]
    unfold layC
    rw [show 10 + i - 10 = i by omega]
    by_cases c : i < C 0 3 ∧ k ≤ i
    · rw [if_pos (by omega), if_pos (by omega)]
    · rw [if_neg (by omega), if_neg (by omega)]
theorem kq_t {p : Prop} {v : Nat} (h : p) : kd p v = v := by unfold kd; rw [if_pos h]
theorem kq_f {p : Prop} {v : Nat} (h : ¬ p) : kd p v = 0 := by unfold kd; rw [if_neg h]
theorem kd_iff {p q : Prop} {v : Nat} (h : p ↔ q) : kd p v = kd q v := by rw [propext h]
theorem FD.to {s : Nat} {p q : Nat → Nat → Prop} {r : Int32} (h : FD s p r) (e : ∀ i j, i < s → j ≤ i → (p i j ↔ q i j)) : FD s q r := by
  rcases h with ⟨i, j, h1, h2, h3, h4, h5⟩ | ⟨h1, h2⟩
  · exact Or.inl ⟨i, j, h1, h2, (e i j h1 h2).mp h3, h4, fun i' j' a1 a2 z => h5 i' j' a1 a2 ((e i' j' (by omega) a1).mpr z)⟩
  · exact Or.inr ⟨h1, fun i j a1 a2 z => h2 i j a1 a2 ((e i j a1 a2).mpr z)⟩
def k1 (f : Nat → Nat) (i : Nat) : Prop := ∀ j, j < i → f j = if j = 1 then 1 else 0
def k2 (g : Nat → Nat) (i : Nat) : Prop := ∀ j, j < i → g j = if j = 0 then 1 else 0
def k3 (g f : Nat → Nat) (i : Nat) : Prop := ∀ j, j < i → f j = if j = 0 then 0 else g (j - 1)
def k4 (s : Nat) (g f : Nat → Nat) (i : Nat) : Prop := ∀ j, j < i → j + 1 = s ∨ g j = rst ((j + 1) * f (j + 1) : Nat)
def k5 (s : Nat) (A : Nat → Nat → Nat) (i m : Nat) : Prop := ∀ j k, k < s → (j < i ∨ j = i ∧ k < m) → (j + k) % 2 = 0 ∨ A j k = 0
theorem k1_ok {s : Nat} {f : Nat → Nat} (hs : 2 ≤ s) : k1 f s ↔ pT s f := by
  constructor
  · intro h
    exact ⟨h 0 (by omega), h 1 (by omega), fun j h1 h2 => by rw [h j h2, if_neg (by omega)]⟩
  · rintro ⟨h0, h1, h2⟩ j hj
    rcases (show j = 0 ∨ j = 1 ∨ 2 ≤ j by omega) with rfl | rfl | h
    · exact h0
    · exact h1
    · rw [h2 j h hj, if_neg (by omega)]
theorem k2_ok {s : Nat} {g : Nat → Nat} (hs : 2 ≤ s) : k2 g s ↔ pOne s g := by
  constructor
  · intro h
    exact ⟨h 0 (by omega), fun j h1 h2 => by rw [h j h2, if_neg (by omega)]⟩
  · rintro ⟨h0, h2⟩ j hj
    rcases (show j = 0 ∨ 1 ≤ j by omega) with rfl | h
    · exact h0
    · rw [h2 j h hj, if_neg (by omega)]
theorem k3_ok {s : Nat} {g f : Nat → Nat} (f0 : f 0 = 0) : k3 g f s ↔ pSh s g f := by
  constructor
  · intro h i h1 h2
    rw [h i h2, if_neg (by omega)]
  · intro h j hj
    by_cases e : j = 0
    · rw [e, f0, if_pos rfl]
    · rw [if_neg e]
      exact h j (by omega) hj
theorem k4_ok {s : Nat} {g f : Nat → Nat} : k4 s g f s ↔ pDe s g f := by
  constructor
  · intro h i h1 h2
    rcases h (i - 1) (by omega) with h | h
    · omega
    · rw [h, rst_nat, show i - 1 + 1 = i by omega, Nat.mul_comm]
  · intro h j hj
    by_cases e : j + 1 = s
    · exact Or.inl e
    · refine Or.inr ?_
      have := h (j + 1) (by omega) (by omega)
      rw [show j + 1 - 1 = j by omega] at this
      rw [this, rst_nat, Nat.mul_comm]
theorem k5_ok {s : Nat} {g f : Nat → Nat} (hs : s ≤ 10) (hT : TOk s g f) : k5 s (cm s g f) s 0 ↔ pCh s (col s g f) := by
  constructor
  · intro h j q hq
    rcases h (j + 1 + 2 * q) j (by omega) (by omega) with h | h
    · omega
    · exact h
  · intro h j k hk hj
    by_cases e : (j + k) % 2 = 0
    · exact Or.inl e
    · refine Or.inr ?_
      have hj : j < s := by omega
      rcases Nat.lt_or_ge j k with h1 | h1
      · exact col_up hT.2.2.2.1 h1 hj (hT.1 j (by omega))
      · have := h k ((j - k - 1) / 2) (by omega)
        rw [show k + 1 + 2 * ((j - k - 1) / 2) = j by omega] at this
        exact this
theorem k6_ok {s : Nat} {g f : Nat → Nat} (hs : 2 ≤ s) (hs2 : s ≤ 10) (hT : TOk s g f) : (∀ i j, i < s → j ≤ i → pm s (cm s g f) (cm s g f) i j = idm i j) ↔ pOw s g f := by
  have T2 := (TOk.mul hs hs2 hT hT).1
  have e : ∀ i j, i < s → j < s → pm s (cm s g f) (cm s g f) i j = cm s (mulG s g f g) (mulF s f f) i j := fun i j hi hj => pm_mul hT.2.2.2.1 hT.2.2.2.1 hi hj
  unfold pOw
  generalize mulG s g f g = G at *
  generalize mulF s f f = F at *
  constructor
  · intro h
    have h' : ∀ i j, i < s → j < s → cm s G F i j = idm i j := by
      intro i j hi hj
      rcases Nat.lt_or_ge i j with h1 | h1
      · rw [show cm s G F i j = 0 from col_up T2.2.2.2.1 h1 hi (T2.1 i (by omega)), idm, if_neg (by omega)]
      · rw [← e i j hi hj]
        exact h i j hi h1
    have hG : ∀ i, i < s → G i = oneS i := fun i hi => by
      have := h' i 0 hi (by omega)
      exact this
    have hF' : ∀ i, i < s → F i = tS i := by
      intro i hi
      have h1 := h' i 1 hi (by omega)
      have h2 : cm s G F i 1 = F i := by
        refine Cg_nat (T2.mx hs2 hi) (T2.2.1 i (by omega)) ((col_cg 1 hi).tr (Cg.of ?_))
        refine Eq.trans (zm_congr (a' := z1) (b' := zN F) (fun k hk => by
          have : zN G k = zN oneS k := by unfold zN; rw [hG k (by omega)]
          rw [this, zN_one]) (fun k _ => zm_z1 (zN F) k)) ?_
        rw [zm_z1]
        rfl
      rw [← h2, h1]
      rfl
    refine ⟨⟨hG 0 (by omega), fun j h1 h2 => by rw [hG j h2, oneS, if_neg (by omega)]⟩, ?_⟩
    exact ⟨hF' 0 (by omega), hF' 1 (by omega), fun j h1 h2 => by rw [hF' j h2, tS, if_neg (by omega)]⟩
  · rintro ⟨⟨a1, a2⟩, a3⟩ i j hi hj
    obtain ⟨b1, b2, b3⟩ := a3
    rw [e i j hi (by omega), ← cm_id (s := s) hi]
    refine cm_congr (fun k hk => ?_) (fun k hk => ?_) j i hi
    · unfold oneS
      by_cases e : k = 0
      · rw [e, if_pos rfl]; exact a1
      · rw [if_neg e]; exact a2 k (by omega) hk
    · unfold tS
      rcases (show k = 0 ∨ k = 1 ∨ 2 ≤ k by omega) with rfl | rfl | h
      · exact b1
      · exact b2
      · rw [if_neg (by omega)]; exact b3 k h hk
section C78
variable {o : OM} {l : Launch} {n : Nat} {M : Mem} {S : SS}
theorem c_Md_kindsOf {t : Nat} (hW : WS S) (hX : MR M S) (h0 : 0 < S.1 0 3) (ht : t < 4) : CI o l m_Md_kindsOf n [.ref 436, .int (nI t)] M (fun r M' => r = nI (kin (S.1 0 3) (S.1 (21 + 3 * t)) (S.1 (22 + 3 * t))) ∧ WK M M') := by
  refine ci_of rfl rfl rfl (Nat.le_of_ble_eq_true rfl) ?_
  obtain ⟨z1, z2⟩ := hW.sz h0
  have hT := hW.tok ht
  refine r_aload_n d_Md_kindsOf_0 rfl ?_
  refine r_iload_n d_Md_kindsOf_1 rfl ?_
  refine r_aload_n d_Md_kindsOf_2 rfl ?_
  refine g_getr (b := 448) d_Md_kindsOf_3 f_Md_87 rfl rfl rfl ?_
  refine g_Vv (av := [.int (nI t), .ref 448]) d_Md_kindsOf_6 k_Md_228 ws_Md_matrix (by decide) rfl rfl (Nat.le_of_ble_eq_true rfl) rfl (c_Md_matrix (c := 448) hW hX h0 rfl (by decide) ht) ?_
  rintro M1 ⟨g1, g2, g3, g4⟩
  have w1 : WK M M1 := wk_mx (by decide) g1
  have hz1 := w1.sz hX.sz
  unfold kin
  rw [← kd_iff (k1_ok (f := S.1 (22 + 3 * t)) z1), ← kd_iff (k2_ok (g := S.1 (21 + 3 * t)) z1), ← kd_iff (k3_ok (g := S.1 (21 + 3 * t)) hT.2.2.2.1), ← kd_iff (k4_ok (g := S.1 (21 + 3 * t)) (f := S.1 (22 + 3 * t))), ← kd_iff (k5_ok z2 hT), ← kd_iff (k6_ok z1 z2 hT)]
  have bA : ∀ i j, i < S.1 0 3 → j < S.1 0 3 → cm (S.1 0 3) (S.1 (21 + 3 * t)) (S.1 (22 + 3 * t)) i j < 1000003 := fun i j hi hj => (g2 i j hi hj).2
  have up9 : ∀ i j, i < j → j < S.1 0 3 → pm (S.1 0 3) (cm (S.1 0 3) (S.1 (21 + 3 * t)) (S.1 (22 + 3 * t))) (cm (S.1 0 3) (S.1 (21 + 3 * t)) (S.1 (22 + 3 * t))) i j = idm i j := fun i j hij hj => by
    have T2 := (TOk.mul z1 z2 hT hT).1
    rw [pm_mul hT.2.2.2.1 hT.2.2.2.1 (by omega) hj, show cm (S.1 0 3) (mulG (S.1 0 3) (S.1 (21 + 3 * t)) (S.1 (22 + 3 * t)) (S.1 (21 + 3 * t))) (mulF (S.1 0 3) (S.1 (22 + 3 * t)) (S.1 (22 + 3 * t))) i j = 0 from col_up T2.2.2.2.1 hij (by omega) (T2.1 i (by omega)), idm, if_neg (by omega)]
  generalize cm (S.1 0 3) (S.1 (21 + 3 * t)) (S.1 (22 + 3 * t)) = A at *
  generalize S.1 (21 + 3 * t) = g at *
  generalize S.1 (22 + 3 * t) = f at *
  generalize S.1 0 3 = s at *
  have rg : ∀ j, j < 10 → M1 443 j = nI (g j) ∧ g j < 1000003 := g3
  have rf : ∀ j, j < 10 → M1 444 j = nI (f j) ∧ f j < 1000003 := g4
  refine r_aload_n d_Md_kindsOf_9 rfl ?_
  refine g_Vi (av := []) d_Md_kindsOf_10 k_Md_173 ws_Md_wide (by decide) rfl rfl (Nat.le_of_ble_eq_true rfl) rfl (c_Md_wide (hz1)) ?_
  rintro _ _ ⟨rfl, rfl⟩
  refine r_istore_n (L' := [some (.ref 436), some (.int (nI t)), some (.int (nI s)), none, none, none, none, none, none, none]) d_Md_kindsOf_13 (by decide) rfl ?_
  refine r_iconst (v := nI 1) d_Md_kindsOf_14 (by decide) ?_
  refine r_istore_n (L' := [some (.ref 436), some (.int (nI t)), some (.int (nI s)), some (.int (nI 1)), none, none, none, none, none, none]) d_Md_kindsOf_15 (by decide) rfl ?_
  refine r_iconst (v := nI 1) d_Md_kindsOf_16 (by decide) ?_
  refine r_istore (L' := [some (.ref 436), some (.int (nI t)), some (.int (nI s)), some (.int (nI 1)), some (.int (nI 1)), none, none, none, none, none]) d_Md_kindsOf_17 (by decide) rfl ?_
  refine r_iconst (v := nI 1) d_Md_kindsOf_19 (by decide) ?_
  refine r_istore (L' := [some (.ref 436), some (.int (nI t)), some (.int (nI s)), some (.int (nI 1)), some (.int (nI 1)), some (.int (nI 1)), none, none, none, none]) d_Md_kindsOf_20 (by decide) rfl ?_
  refine r_iconst (v := nI 1) d_Md_kindsOf_22 (by decide) ?_
  refine r_istore (L' := [some (.ref 436), some (.int (nI t)), some (.int (nI s)), some (.int (nI 1)), some (.int (nI 1)), some (.int (nI 1)), some (.int (nI 1)), none, none, none]) d_Md_kindsOf_23 (by decide) rfl ?_
  refine r_iconst (v := nI 1) d_Md_kindsOf_25 (by decide) ?_
  refine r_istore (L' := [some (.ref 436), some (.int (nI t)), some (.int (nI s)), some (.int (nI 1)), some (.int (nI 1)), some (.int (nI 1)), some (.int (nI 1)), some (.int (nI 1)), none, none]) d_Md_kindsOf_26 (by decide) rfl ?_
  refine r_iconst (v := nI 0) d_Md_kindsOf_28 (by decide) ?_
  refine r_istore (L' := [some (.ref 436), some (.int (nI t)), some (.int (nI s)), some (.int (nI 1)), some (.int (nI 1)), some (.int (nI 1)), some (.int (nI 1)), some (.int (nI 1)), some (.int (nI 0)), none]) d_Md_kindsOf_29 (by decide) rfl ?_
  have e1 : ∀ p : Prop, p → nI 1 = nI (kd p 1) := fun p hp => by rw [kq_t hp]
  refine r_locZ (k := 0) (L' := [some (.ref 436), some (.int (nI t)), some (.int (nI s)), some (.int (nI (kd (k1 f 0) 1))), some (.int (nI (kd (k2 g 0) 1))), some (.int (nI (kd (k3 g f 0) 1))), some (.int (nI (kd (k4 s g f 0) 1))), some (.int (nI (kd (k5 s A 0 0) 1))), some (.int (nI 0)), none]) ?_ ?_
  · rw [kq_t (show k1 f 0 from fun j hj => absurd hj (Nat.not_lt_zero j)), kq_t (show k2 g 0 from fun j hj => absurd hj (Nat.not_lt_zero j)), kq_t (show k3 g f 0 from fun j hj => absurd hj (Nat.not_lt_zero j)), kq_t (show k4 s g f 0 from fun j hj => absurd hj (Nat.not_lt_zero j)), kq_t (show k5 s A 0 0 from fun j k _ hj => by omega)]
  refine lp (a := 0) (N := s) (R := fun i M' => Rn o l m_Md_kindsOf (0, 0) 31 [some (.ref 436), some (.int (nI t)), some (.int (nI s)), some (.int (nI (kd (k1 f i) 1))), some (.int (nI (kd (k2 g i) 1))), some (.int (nI (kd (k3 g f i) 1))), some (.int (nI (kd (k4 s g f i) 1))), some (.int (nI (kd (k5 s A i 0) 1))), some (.int (nI i)), none] [] (gh n M') (QI n (fun r M' => r = nI (kd (k1 f s) 1 + kd (k2 g s) 2 + kd (k3 g f s) 4 + kd (k4 s g f s) 8 + kd (k5 s A s 0) 16 + kd (∀ i j, i < s → j ≤ i → pm s A A i j = idm i j) 32) ∧ WK M M'))) (P := fun i M' => M1 = M') (by omega) ?_ ?_ ?_
  · rfl
  · intro _ e9
    subst e9
    refine r_iload d_Md_kindsOf_31 rfl ?_
    refine r_iload_n d_Md_kindsOf_33 rfl ?_
    refine n_icmp_ge d_Md_kindsOf_34 (by omega) (by omega) (fun _ => ?_) (fun h9 => absurd h9 (by omega))
    refine r_aload_n d_Md_kindsOf_248 rfl ?_
    refine g_getr (b := 448) d_Md_kindsOf_249 f_Md_87 rfl rfl rfl ?_
    refine r_aload_n d_Md_kindsOf_252 rfl ?_
    refine g_getr (b := 448) d_Md_kindsOf_253 f_Md_87 rfl rfl rfl ?_
    refine r_aload_n d_Md_kindsOf_256 rfl ?_
    refine g_getr (b := 449) d_Md_kindsOf_257 f_Md_90 rfl rfl rfl ?_
    refine r_iload_n d_Md_kindsOf_260 rfl ?_
    refine g_Sv (av := [.ref 448, .ref 448, .ref 449, .int (nI s)]) d_Md_kindsOf_261 k_Md_231 ws_Md_product (by decide) rfl rfl (Nat.le_of_ble_eq_true rfl) (c_Md_product (a := 448) (b := 448) (c := 449) rfl rfl rfl (by decide) (by decide) z2 g2 g2) ?_
    rintro M2 ⟨h1, h2⟩
    refine r_aload_n d_Md_kindsOf_264 rfl ?_
    refine g_getr (b := 450) d_Md_kindsOf_265 f_Md_93 rfl rfl rfl ?_
    refine g_Sv (av := [.ref 450]) d_Md_kindsOf_268 k_Md_207 ws_Md_ones (by decide) rfl rfl (Nat.le_of_ble_eq_true rfl) (c_Md_ones (c := 450) rfl) ?_
    rintro M3 ⟨h3, h4⟩
    have w3 : WK M M3 := w1.trans ((WK.of (fun b hb => h1 b (by omega))).trans (WK.of (fun b hb => h3 b (by omega))))
    refine r_aload_n d_Md_kindsOf_271 rfl ?_
    refine r_aload_n d_Md_kindsOf_272 rfl ?_
    refine g_getr (b := 449) d_Md_kindsOf_273 f_Md_90 rfl rfl rfl ?_
    refine r_aload_n d_Md_kindsOf_276 rfl ?_
    refine g_getr (b := 450) d_Md_kindsOf_277 f_Md_93 rfl rfl rfl ?_
    refine g_Vi (av := [.ref 449, .ref 450]) d_Md_kindsOf_280 k_Md_237 ws_Md_unlikeAt (by decide) rfl rfl (Nat.le_of_ble_eq_true rfl) rfl (c_Md_unlikeAt (a := 449) (b := 450) (A := pm s A A) (B := idm) rfl rfl z2 (by rw [h3 438 (by decide), h1 438 (by decide)]; exact hz1) (h2.kept (h3 449 (by decide))) (fun i j hi hj => h4 i j (by omega) (by omega)) up9) ?_
    rintro r M4 ⟨h5, h6⟩
    subst h6
    have h7 : r = -1 ↔ ∀ i j, i < s → j ≤ i → pm s A A i j = idm i j := (FD_ne z2 r h5).trans ⟨fun q i j a1 a2 => Decidable.not_not.mp (q i j a1 a2), fun q i j a1 a2 z => z (q i j a1 a2)⟩
    generalize (∀ i j, i < s → j ≤ i → pm s A A i j = idm i j) = p6 at *
    generalize k1 f s = p1 at *
    generalize k2 g s = p2 at *
    generalize k3 g f s = p3 at *
    generalize k4 s g f s = p4 at *
    generalize k5 s A s 0 = p5 at *
    have F6 : Rn o l m_Md_kindsOf (0, 0) 349 [some (.ref 436), some (.int (nI t)), some (.int (nI s)), some (.int (nI (kd p1 1))), some (.int (nI (kd p2 1))), some (.int (nI (kd p3 1))), some (.int (nI (kd p4 1))), some (.int (nI (kd p5 1))), some (.int (nI (kd p6 1))), none] [.int (nI (kd p1 1 + kd p2 2 + kd p3 4 + kd p4 8 + kd p5 16))] (gh n M3) (QI n (fun r M' => r = nI (kd p1 1 + kd p2 2 + kd p3 4 + kd p4 8 + kd p5 16 + kd p6 32) ∧ WK M M')) := by
      by_cases hp : p6
      · rw [kq_t (v := 1) hp]
        refine r_iload d_Md_kindsOf_349 rfl ?_
        refine n_if_eq d_Md_kindsOf_351 (by omega) (fun h9 => absurd h9 (by decide)) (fun _ => ?_)
        refine r_bipush (v := nI 32) d_Md_kindsOf_354 (by decide) ?_
        refine r_goto d_Md_kindsOf_356 ?_
        refine n_iadd d_Md_kindsOf_360 ?_
        refine g_reti d_Md_kindsOf_361 rfl ?_
        exact ⟨by rw [kq_t (v := 32) hp], w3⟩
      · rw [kq_f (v := 1) hp]
        refine r_iload d_Md_kindsOf_349 rfl ?_
        refine n_if_eq d_Md_kindsOf_351 (by omega) (fun _ => ?_) (fun h9 => absurd h9 (by decide))
        refine r_iconst (v := nI 0) d_Md_kindsOf_359 (by decide) ?_
        refine n_iadd d_Md_kindsOf_360 ?_
        refine g_reti d_Md_kindsOf_361 rfl ?_
        exact ⟨by rw [kq_f (v := 32) hp], w3⟩
    have F5 : Rn o l m_Md_kindsOf (0, 0) 337 [some (.ref 436), some (.int (nI t)), some (.int (nI s)), some (.int (nI (kd p1 1))), some (.int (nI (kd p2 1))), some (.int (nI (kd p3 1))), some (.int (nI (kd p4 1))), some (.int (nI (kd p5 1))), some (.int (nI (kd p6 1))), none] [.int (nI (kd p1 1 + kd p2 2 + kd p3 4 + kd p4 8))] (gh n M3) (QI n (fun r M' => r = nI (kd p1 1 + kd p2 2 + kd p3 4 + kd p4 8 + kd p5 16 + kd p6 32) ∧ WK M M')) := by
      by_cases hp : p5
      · rw [kq_t (v := 1) hp]
        refine r_iload d_Md_kindsOf_337 rfl ?_
        refine n_if_eq d_Md_kindsOf_339 (by omega) (fun h9 => absurd h9 (by decide)) (fun _ => ?_)
        refine r_bipush (v := nI 16) d_Md_kindsOf_342 (by decide) ?_
        refine r_goto d_Md_kindsOf_344 ?_
        refine n_iadd d_Md_kindsOf_348 ?_
        have F := F6
        rw [kq_t (v := 16) hp] at F ⊢
        rw [kq_t (v := 1) hp] at F
        exact F
      · rw [kq_f (v := 1) hp]
        refine r_iload d_Md_kindsOf_337 rfl ?_
        refine n_if_eq d_Md_kindsOf_339 (by omega) (fun _ => ?_) (fun h9 => absurd h9 (by decide))
        refine r_iconst (v := nI 0) d_Md_kindsOf_347 (by decide) ?_
        refine n_iadd d_Md_kindsOf_348 ?_
        have F := F6
        rw [kq_f (v := 16) hp] at F ⊢
        rw [kq_f (v := 1) hp] at F
        exact F
    have F4 : Rn o l m_Md_kindsOf (0, 0) 325 [some (.ref 436), some (.int (nI t)), some (.int (nI s)), some (.int (nI (kd p1 1))), some (.int (nI (kd p2 1))), some (.int (nI (kd p3 1))), some (.int (nI (kd p4 1))), some (.int (nI (kd p5 1))), some (.int (nI (kd p6 1))), none] [.int (nI (kd p1 1 + kd p2 2 + kd p3 4))] (gh n M3) (QI n (fun r M' => r = nI (kd p1 1 + kd p2 2 + kd p3 4 + kd p4 8 + kd p5 16 + kd p6 32) ∧ WK M M')) := by
      by_cases hp : p4
      · rw [kq_t (v := 1) hp]
        refine r_iload d_Md_kindsOf_325 rfl ?_
        refine n_if_eq d_Md_kindsOf_327 (by omega) (fun h9 => absurd h9 (by decide)) (fun _ => ?_)
        refine r_bipush (v := nI 8) d_Md_kindsOf_330 (by decide) ?_
        refine r_goto d_Md_kindsOf_332 ?_
        refine n_iadd d_Md_kindsOf_336 ?_
        have F := F5
        rw [kq_t (v := 8) hp] at F ⊢
        rw [kq_t (v := 1) hp] at F
        exact F
      · rw [kq_f (v := 1) hp]
        refine r_iload d_Md_kindsOf_325 rfl ?_
        refine n_if_eq d_Md_kindsOf_327 (by omega) (fun _ => ?_) (fun h9 => absurd h9 (by decide))
        refine r_iconst (v := nI 0) d_Md_kindsOf_335 (by decide) ?_
        refine n_iadd d_Md_kindsOf_336 ?_
        have F := F5
        rw [kq_f (v := 8) hp] at F ⊢
        rw [kq_f (v := 1) hp] at F
        exact F
    have F3 : Rn o l m_Md_kindsOf (0, 0) 314 [some (.ref 436), some (.int (nI t)), some (.int (nI s)), some (.int (nI (kd p1 1))), some (.int (nI (kd p2 1))), some (.int (nI (kd p3 1))), some (.int (nI (kd p4 1))), some (.int (nI (kd p5 1))), some (.int (nI (kd p6 1))), none] [.int (nI (kd p1 1 + kd p2 2))] (gh n M3) (QI n (fun r M' => r = nI (kd p1 1 + kd p2 2 + kd p3 4 + kd p4 8 + kd p5 16 + kd p6 32) ∧ WK M M')) := by
      by_cases hp : p3
      · rw [kq_t (v := 1) hp]
        refine r_iload d_Md_kindsOf_314 rfl ?_
        refine n_if_eq d_Md_kindsOf_316 (by omega) (fun h9 => absurd h9 (by decide)) (fun _ => ?_)
        refine r_iconst (v := nI 4) d_Md_kindsOf_319 (by decide) ?_
        refine r_goto d_Md_kindsOf_320 ?_
        refine n_iadd d_Md_kindsOf_324 ?_
        have F := F4
        rw [kq_t (v := 4) hp] at F ⊢
        rw [kq_t (v := 1) hp] at F
        exact F
      · rw [kq_f (v := 1) hp]
        refine r_iload d_Md_kindsOf_314 rfl ?_
        refine n_if_eq d_Md_kindsOf_316 (by omega) (fun _ => ?_) (fun h9 => absurd h9 (by decide))
        refine r_iconst (v := nI 0) d_Md_kindsOf_323 (by decide) ?_
        refine n_iadd d_Md_kindsOf_324 ?_
        have F := F4
        rw [kq_f (v := 4) hp] at F ⊢
        rw [kq_f (v := 1) hp] at F
        exact F
    have F2 : Rn o l m_Md_kindsOf (0, 0) 303 [some (.ref 436), some (.int (nI t)), some (.int (nI s)), some (.int (nI (kd p1 1))), some (.int (nI (kd p2 1))), some (.int (nI (kd p3 1))), some (.int (nI (kd p4 1))), some (.int (nI (kd p5 1))), some (.int (nI (kd p6 1))), none] [.int (nI (kd p1 1))] (gh n M3) (QI n (fun r M' => r = nI (kd p1 1 + kd p2 2 + kd p3 4 + kd p4 8 + kd p5 16 + kd p6 32) ∧ WK M M')) := by
      by_cases hp : p2
      · rw [kq_t (v := 1) hp]
        refine r_iload d_Md_kindsOf_303 rfl ?_
        refine n_if_eq d_Md_kindsOf_305 (by omega) (fun h9 => absurd h9 (by decide)) (fun _ => ?_)
        refine r_iconst (v := nI 2) d_Md_kindsOf_308 (by decide) ?_
        refine r_goto d_Md_kindsOf_309 ?_
        refine n_iadd d_Md_kindsOf_313 ?_
        have F := F3
        rw [kq_t (v := 2) hp] at F ⊢
        rw [kq_t (v := 1) hp] at F
        exact F
      · rw [kq_f (v := 1) hp]
        refine r_iload d_Md_kindsOf_303 rfl ?_
        refine n_if_eq d_Md_kindsOf_305 (by omega) (fun _ => ?_) (fun h9 => absurd h9 (by decide))
        refine r_iconst (v := nI 0) d_Md_kindsOf_312 (by decide) ?_
        refine n_iadd d_Md_kindsOf_313 ?_
        have F := F3
        rw [kq_f (v := 2) hp] at F ⊢
        rw [kq_f (v := 1) hp] at F
        exact F
    have F1 : Rn o l m_Md_kindsOf (0, 0) 294 [some (.ref 436), some (.int (nI t)), some (.int (nI s)), some (.int (nI (kd p1 1))), some (.int (nI (kd p2 1))), some (.int (nI (kd p3 1))), some (.int (nI (kd p4 1))), some (.int (nI (kd p5 1))), some (.int (nI (kd p6 1))), none] [] (gh n M3) (QI n (fun r M' => r = nI (kd p1 1 + kd p2 2 + kd p3 4 + kd p4 8 + kd p5 16 + kd p6 32) ∧ WK M M')) := by
      by_cases hp : p1
      · rw [kq_t (v := 1) hp]
        refine r_iload_n d_Md_kindsOf_294 rfl ?_
        refine n_if_eq d_Md_kindsOf_295 (by omega) (fun h9 => absurd h9 (by decide)) (fun _ => ?_)
        refine r_iconst (v := nI 1) d_Md_kindsOf_298 (by decide) ?_
        refine r_goto d_Md_kindsOf_299 ?_
        have F := F2
        rw [kq_t (v := 1) hp] at F
        exact F
      · rw [kq_f (v := 1) hp]
        refine r_iload_n d_Md_kindsOf_294 rfl ?_
        refine n_if_eq d_Md_kindsOf_295 (by omega) (fun _ => ?_) (fun h9 => absurd h9 (by decide))
        refine r_iconst (v := nI 0) d_Md_kindsOf_302 (by decide) ?_
        have F := F2
        rw [kq_f (v := 1) hp] at F
        exact F
    refine r_iconst (v := -1) d_Md_kindsOf_283 (by decide) ?_
    refine r_icmp_ne d_Md_kindsOf_284 (fun hr => ?_) (fun hr => ?_)
    · refine r_iconst (v := nI 0) d_Md_kindsOf_291 (by decide) ?_
      refine r_istore (L' := [some (.ref 436), some (.int (nI t)), some (.int (nI s)), some (.int (nI (kd p1 1))), some (.int (nI (kd p2 1))), some (.int (nI (kd p3 1))), some (.int (nI (kd p4 1))), some (.int (nI (kd p5 1))), some (.int (nI 0)), none]) d_Md_kindsOf_292 (by decide) rfl ?_
      have F := F1
      rw [kq_f (v := 1) (fun z => hr (h7.mpr z))] at F
      exact F
    · refine r_iconst (v := nI 1) d_Md_kindsOf_287 (by decide) ?_
      refine r_goto d_Md_kindsOf_288 ?_
      refine r_istore (L' := [some (.ref 436), some (.int (nI t)), some (.int (nI s)), some (.int (nI (kd p1 1))), some (.int (nI (kd p2 1))), some (.int (nI (kd p3 1))), some (.int (nI (kd p4 1))), some (.int (nI (kd p5 1))), some (.int (nI 1)), none]) d_Md_kindsOf_292 (by decide) rfl ?_
      have F := F1
      rw [kq_t (v := 1) (h7.mp hr)] at F
      exact F
  · intro i _ hi e9 ih
    subst e9
    have B5 : Rn o l m_Md_kindsOf (0, 0) 189 [some (.ref 436), some (.int (nI t)), some (.int (nI s)), some (.int (nI (kd (k1 f (i + 1)) 1))), some (.int (nI (kd (k2 g (i + 1)) 1))), some (.int (nI (kd (k3 g f (i + 1)) 1))), some (.int (nI (kd (k4 s g f (i + 1)) 1))), some (.int (nI (kd (k5 s A i 0) 1))), some (.int (nI i)), none] [] (gh n M1) (QI n (fun r M' => r = nI (kd (k1 f s) 1 + kd (k2 g s) 2 + kd (k3 g f s) 4 + kd (k4 s g f s) 8 + kd (k5 s A s 0) 16 + kd (∀ i j, i < s → j ≤ i → pm s A A i j = idm i j) 32) ∧ WK M M')) := by
      refine r_iconst (v := nI 0) d_Md_kindsOf_189 (by decide) ?_
      refine r_istore (L' := [some (.ref 436), some (.int (nI t)), some (.int (nI s)), some (.int (nI (kd (k1 f (i + 1)) 1))), some (.int (nI (kd (k2 g (i + 1)) 1))), some (.int (nI (kd (k3 g f (i + 1)) 1))), some (.int (nI (kd (k4 s g f (i + 1)) 1))), some (.int (nI (kd (k5 s A i 0) 1))), some (.int (nI i)), some (.int (nI 0))]) d_Md_kindsOf_190 (by decide) rfl ?_
      refine lp (a := 0) (N := s) (R := fun m M' => Rn o l m_Md_kindsOf (0, 0) 192 [some (.ref 436), some (.int (nI t)), some (.int (nI s)), some (.int (nI (kd (k1 f (i + 1)) 1))), some (.int (nI (kd (k2 g (i + 1)) 1))), some (.int (nI (kd (k3 g f (i + 1)) 1))), some (.int (nI (kd (k4 s g f (i + 1)) 1))), some (.int (nI (kd (k5 s A i m) 1))), some (.int (nI i)), some (.int (nI m))] [] (gh n M') (QI n (fun r M' => r = nI (kd (k1 f s) 1 + kd (k2 g s) 2 + kd (k3 g f s) 4 + kd (k4 s g f s) 8 + kd (k5 s A s 0) 16 + kd (∀ i j, i < s → j ≤ i → pm s A A i j = idm i j) 32) ∧ WK M M'))) (P := fun m M' => M1 = M') (by omega) ?_ ?_ ?_
      · rfl
      · intro _ e9
        subst e9
        refine r_iload d_Md_kindsOf_192 rfl ?_
        refine r_iload_n d_Md_kindsOf_194 rfl ?_
        refine n_icmp_ge d_Md_kindsOf_195 (by omega) (by omega) (fun _ => ?_) (fun h9 => absurd h9 (by omega))
        refine n_iinc (c := 1) (L' := [some (.ref 436), some (.int (nI t)), some (.int (nI s)), some (.int (nI (kd (k1 f (i + 1)) 1))), some (.int (nI (kd (k2 g (i + 1)) 1))), some (.int (nI (kd (k3 g f (i + 1)) 1))), some (.int (nI (kd (k4 s g f (i + 1)) 1))), some (.int (nI (kd (k5 s A i s) 1))), some (.int (nI (i + 1))), some (.int (nI s))]) d_Md_kindsOf_242 rfl rfl (by decide) rfl ?_
        refine r_goto d_Md_kindsOf_245 ?_
        refine r_weak (L' := [some (.ref 436), some (.int (nI t)), some (.int (nI s)), some (.int (nI (kd (k1 f (i + 1)) 1))), some (.int (nI (kd (k2 g (i + 1)) 1))), some (.int (nI (kd (k3 g f (i + 1)) 1))), some (.int (nI (kd (k4 s g f (i + 1)) 1))), some (.int (nI (kd (k5 s A i s) 1))), some (.int (nI (i + 1))), none]) (wk_s (wk_s (wk_s (wk_s (wk_s (wk_s (wk_s (wk_s (wk_s (wk_n wk_0)))))))))) ?_
        refine r_locZ (k := 0) (L' := [some (.ref 436), some (.int (nI t)), some (.int (nI s)), some (.int (nI (kd (k1 f (i + 1)) 1))), some (.int (nI (kd (k2 g (i + 1)) 1))), some (.int (nI (kd (k3 g f (i + 1)) 1))), some (.int (nI (kd (k4 s g f (i + 1)) 1))), some (.int (nI (kd (k5 s A (i + 1) 0) 1))), some (.int (nI (i + 1))), none]) ?_ (ih _ rfl)
        rw [kd_iff (show k5 s A i s ↔ k5 s A (i + 1) 0 from ⟨fun h j k hk hj => h j k hk (by omega), fun h j k hk hj => h j k hk (by omega)⟩)]
      · intro m _ hm e9 ih2
        subst e9
        have gm : ∀ v, v = kd (k5 s A i (m + 1)) 1 → Rn o l m_Md_kindsOf (0, 0) 234 [some (.ref 436), some (.int (nI t)), some (.int (nI s)), some (.int (nI (kd (k1 f (i + 1)) 1))), some (.int (nI (kd (k2 g (i + 1)) 1))), some (.int (nI (kd (k3 g f (i + 1)) 1))), some (.int (nI (kd (k4 s g f (i + 1)) 1))), some (.int (nI (kd (k5 s A i m) 1))), some (.int (nI i)), some (.int (nI m))] [.int (nI v)] (gh n M1) (QI n (fun r M' => r = nI (kd (k1 f s) 1 + kd (k2 g s) 2 + kd (k3 g f s) 4 + kd (k4 s g f s) 8 + kd (k5 s A s 0) 16 + kd (∀ i j, i < s → j ≤ i → pm s A A i j = idm i j) 32) ∧ WK M M')) := by
          intro v hv
          rw [hv]
          refine r_istore (L' := [some (.ref 436), some (.int (nI t)), some (.int (nI s)), some (.int (nI (kd (k1 f (i + 1)) 1))), some (.int (nI (kd (k2 g (i + 1)) 1))), some (.int (nI (kd (k3 g f (i + 1)) 1))), some (.int (nI (kd (k4 s g f (i + 1)) 1))), some (.int (nI (kd (k5 s A i (m + 1)) 1))), some (.int (nI i)), some (.int (nI m))]) d_Md_kindsOf_234 (by decide) rfl ?_
          refine n_iinc (c := 1) (L' := [some (.ref 436), some (.int (nI t)), some (.int (nI s)), some (.int (nI (kd (k1 f (i + 1)) 1))), some (.int (nI (kd (k2 g (i + 1)) 1))), some (.int (nI (kd (k3 g f (i + 1)) 1))), some (.int (nI (kd (k4 s g f (i + 1)) 1))), some (.int (nI (kd (k5 s A i (m + 1)) 1))), some (.int (nI i)), some (.int (nI (m + 1)))]) d_Md_kindsOf_236 rfl rfl (by decide) rfl ?_
          refine r_goto d_Md_kindsOf_239 ?_
          exact ih2 _ rfl
        refine r_iload d_Md_kindsOf_192 rfl ?_
        refine r_iload_n d_Md_kindsOf_194 rfl ?_
        refine n_icmp_ge d_Md_kindsOf_195 (by omega) (by omega) (fun h9 => absurd h9 (by omega)) (fun _ => ?_)
        by_cases hp : k5 s A i m
        · rw [kq_t (v := 1) hp] at gm ⊢
          refine r_iload d_Md_kindsOf_198 rfl ?_
          refine n_if_eq d_Md_kindsOf_200 (by omega) (fun h9 => absurd h9 (by decide)) (fun _ => ?_)
          refine r_iload d_Md_kindsOf_203 rfl ?_
          refine r_iload d_Md_kindsOf_205 rfl ?_
          refine n_iadd d_Md_kindsOf_207 ?_
          refine r_iconst (v := nI 2) d_Md_kindsOf_208 (by decide) ?_
          refine n_irem d_Md_kindsOf_209 (by omega) (by omega) (by omega) ?_
          refine n_if_eq d_Md_kindsOf_210 (by omega) (fun c0 => ?_) (fun c0 => ?_)
          · refine r_iconst (v := nI 1) d_Md_kindsOf_229 (by decide) ?_
            refine r_goto d_Md_kindsOf_230 ?_
            refine gm 1 ?_
            rw [kq_t]
            intro j k hk hj
            by_cases e : j = i ∧ k = m
            · rw [e.1, e.2]; exact Or.inl c0
            · exact hp j k hk (by omega)
          · refine r_aload_n d_Md_kindsOf_213 rfl ?_
            refine g_getr (b := 448) d_Md_kindsOf_214 f_Md_87 rfl rfl rfl ?_
            refine r_bipush (v := nI 10) d_Md_kindsOf_217 (by decide) ?_
            refine r_iload d_Md_kindsOf_219 rfl ?_
            refine n_imul d_Md_kindsOf_221 ?_
            refine r_iload d_Md_kindsOf_222 rfl ?_
            refine n_iadd d_Md_kindsOf_224 ?_
            refine g_iald d_Md_kindsOf_225 rfl (by omega) (by omega) ?_
            refine r_top (y := nI (A i m)) ((g2 i m (by omega) (by omega)).1) ?_
            refine n_if_ne d_Md_kindsOf_226 (by have h9 := (g2 i m (by omega) (by omega)).2; omega) (fun c1 => ?_) (fun c1 => ?_)
            · refine r_iconst (v := nI 0) d_Md_kindsOf_233 (by decide) ?_
              refine gm 0 ?_
              rw [kq_f]
              intro z
              rcases z i m (by omega) (by omega) with z | z
              · exact c0 z
              · exact c1 z
            · refine r_iconst (v := nI 1) d_Md_kindsOf_229 (by decide) ?_
              refine r_goto d_Md_kindsOf_230 ?_
              refine gm 1 ?_
              rw [kq_t]
              intro j k hk hj
              by_cases e : j = i ∧ k = m
              · rw [e.1, e.2]; exact Or.inr c1
              · exact hp j k hk (by omega)
        · rw [kq_f (v := 1) hp] at gm ⊢
          refine r_iload d_Md_kindsOf_198 rfl ?_
          refine n_if_eq d_Md_kindsOf_200 (by omega) (fun _ => ?_) (fun h9 => absurd h9 (by decide))
          refine r_iconst (v := nI 0) d_Md_kindsOf_233 (by decide) ?_
          exact gm 0 (by rw [kq_f (fun z => hp (fun j k hk hj => z j k hk (by omega)))])
    have B4 : Rn o l m_Md_kindsOf (0, 0) 140 [some (.ref 436), some (.int (nI t)), some (.int (nI s)), some (.int (nI (kd (k1 f (i + 1)) 1))), some (.int (nI (kd (k2 g (i + 1)) 1))), some (.int (nI (kd (k3 g f (i + 1)) 1))), some (.int (nI (kd (k4 s g f i) 1))), some (.int (nI (kd (k5 s A i 0) 1))), some (.int (nI i)), none] [] (gh n M1) (QI n (fun r M' => r = nI (kd (k1 f s) 1 + kd (k2 g s) 2 + kd (k3 g f s) 4 + kd (k4 s g f s) 8 + kd (k5 s A s 0) 16 + kd (∀ i j, i < s → j ≤ i → pm s A A i j = idm i j) 32) ∧ WK M M')) := by
      have gm : ∀ v, v = kd (k4 s g f (i + 1)) 1 → Rn o l m_Md_kindsOf (0, 0) 187 [some (.ref 436), some (.int (nI t)), some (.int (nI s)), some (.int (nI (kd (k1 f (i + 1)) 1))), some (.int (nI (kd (k2 g (i + 1)) 1))), some (.int (nI (kd (k3 g f (i + 1)) 1))), some (.int (nI (kd (k4 s g f i) 1))), some (.int (nI (kd (k5 s A i 0) 1))), some (.int (nI i)), none] [.int (nI v)] (gh n M1) (QI n (fun r M' => r = nI (kd (k1 f s) 1 + kd (k2 g s) 2 + kd (k3 g f s) 4 + kd (k4 s g f s) 8 + kd (k5 s A s 0) 16 + kd (∀ i j, i < s → j ≤ i → pm s A A i j = idm i j) 32) ∧ WK M M')) := by
        intro v hv
        rw [hv]
        refine r_istore (L' := [some (.ref 436), some (.int (nI t)), some (.int (nI s)), some (.int (nI (kd (k1 f (i + 1)) 1))), some (.int (nI (kd (k2 g (i + 1)) 1))), some (.int (nI (kd (k3 g f (i + 1)) 1))), some (.int (nI (kd (k4 s g f (i + 1)) 1))), some (.int (nI (kd (k5 s A i 0) 1))), some (.int (nI i)), none]) d_Md_kindsOf_187 (by decide) rfl ?_
        exact B5
      by_cases hp : k4 s g f i
      · rw [kq_t (v := 1) hp] at gm ⊢
        have yes : (i + 1 = s ∨ g i = rst ((i + 1) * f (i + 1) : Nat)) → k4 s g f (i + 1) := fun hc j hj => by
          by_cases e : j = i
          · rw [e]; exact hc
          · exact hp j (by omega)
        have no : ¬ (i + 1 = s ∨ g i = rst ((i + 1) * f (i + 1) : Nat)) → ¬ k4 s g f (i + 1) := fun hc z => hc (z i (by omega))
        refine r_iload d_Md_kindsOf_140 rfl ?_
        refine n_if_eq d_Md_kindsOf_142 (by omega) (fun h9 => absurd h9 (by decide)) (fun _ => ?_)
        refine r_iload d_Md_kindsOf_145 rfl ?_
        refine r_iconst (v := nI 1) d_Md_kindsOf_147 (by decide) ?_
        refine n_iadd d_Md_kindsOf_148 ?_
        refine r_iload_n d_Md_kindsOf_149 rfl ?_
        refine n_icmp_eq d_Md_kindsOf_150 (by omega) (by omega) (fun ce => ?_) (fun ce => ?_)
        · refine r_iconst (v := nI 1) d_Md_kindsOf_182 (by decide) ?_
          refine r_goto d_Md_kindsOf_183 ?_
          exact gm 1 (by rw [kq_t (yes (Or.inl ce))])
        · have mb : (i + 1) * f (i + 1) ≤ 11 * 1000003 := Nat.mul_le_mul (by omega) (by have := (rf (i + 1) (by omega)).2; omega)
          refine r_aload_n d_Md_kindsOf_153 rfl ?_
          refine g_getr (b := 443) d_Md_kindsOf_154 f_Md_72 rfl rfl rfl ?_
          refine r_iload d_Md_kindsOf_157 rfl ?_
          refine g_iald d_Md_kindsOf_159 rfl (by omega) (by omega) ?_
          refine r_top (y := nI (g i)) ((rg i (by omega)).1) ?_
          refine r_iload d_Md_kindsOf_160 rfl ?_
          refine n_i2l d_Md_kindsOf_162 (by omega) ?_
          refine r_lconst (v := lN 1) d_Md_kindsOf_163 (by decide) ?_
          refine n_ladd d_Md_kindsOf_164 ?_
          refine r_aload_n d_Md_kindsOf_165 rfl ?_
          refine g_getr (b := 444) d_Md_kindsOf_166 f_Md_75 rfl rfl rfl ?_
          refine r_iload d_Md_kindsOf_169 rfl ?_
          refine r_iconst (v := nI 1) d_Md_kindsOf_171 (by decide) ?_
          refine n_iadd d_Md_kindsOf_172 ?_
          refine g_iald d_Md_kindsOf_173 rfl (by omega) (by omega) ?_
          refine r_top (y := nI (f (i + 1))) ((rf (i + 1) (by omega)).1) ?_
          refine n_i2l d_Md_kindsOf_174 (by have h9 := (rf (i + 1) (by omega)).2; omega) ?_
          refine n_lmul d_Md_kindsOf_175 ?_
          refine g_Si (av := [.long (lN ((i + 1) * (f (i + 1))))]) d_Md_kindsOf_176 k_Md_109 ws_Md_rest (by decide) rfl rfl (Nat.le_of_ble_eq_true rfl) (c_Md_restN (by omega)) ?_
          rintro _ _ ⟨rfl, rfl⟩
          refine n_icmp_ne d_Md_kindsOf_179 (by have h9 := (rg i (by omega)).2; omega) (Nat.lt_trans (rst_lt _) (by decide)) (fun hf => ?_) (fun hf => ?_)
          · refine r_iconst (v := nI 0) d_Md_kindsOf_186 (by decide) ?_
            exact gm 0 (by rw [kq_f (no (fun z => z.elim ce hf))])
          · refine r_iconst (v := nI 1) d_Md_kindsOf_182 (by decide) ?_
            refine r_goto d_Md_kindsOf_183 ?_
            exact gm 1 (by rw [kq_t (yes (Or.inr hf))])
      · rw [kq_f (v := 1) hp] at gm ⊢
        refine r_iload d_Md_kindsOf_140 rfl ?_
        refine n_if_eq d_Md_kindsOf_142 (by omega) (fun _ => ?_) (fun h9 => absurd h9 (by decide))
        refine r_iconst (v := nI 0) d_Md_kindsOf_186 (by decide) ?_
        exact gm 0 (by rw [kq_f (fun z => hp (fun j hj => z j (by omega)))])
    have B3 : Rn o l m_Md_kindsOf (0, 0) 100 [some (.ref 436), some (.int (nI t)), some (.int (nI s)), some (.int (nI (kd (k1 f (i + 1)) 1))), some (.int (nI (kd (k2 g (i + 1)) 1))), some (.int (nI (kd (k3 g f i) 1))), some (.int (nI (kd (k4 s g f i) 1))), some (.int (nI (kd (k5 s A i 0) 1))), some (.int (nI i)), none] [] (gh n M1) (QI n (fun r M' => r = nI (kd (k1 f s) 1 + kd (k2 g s) 2 + kd (k3 g f s) 4 + kd (k4 s g f s) 8 + kd (k5 s A s 0) 16 + kd (∀ i j, i < s → j ≤ i → pm s A A i j = idm i j) 32) ∧ WK M M')) := by
      have gm : ∀ v, v = kd (k3 g f (i + 1)) 1 → Rn o l m_Md_kindsOf (0, 0) 138 [some (.ref 436), some (.int (nI t)), some (.int (nI s)), some (.int (nI (kd (k1 f (i + 1)) 1))), some (.int (nI (kd (k2 g (i + 1)) 1))), some (.int (nI (kd (k3 g f i) 1))), some (.int (nI (kd (k4 s g f i) 1))), some (.int (nI (kd (k5 s A i 0) 1))), some (.int (nI i)), none] [.int (nI v)] (gh n M1) (QI n (fun r M' => r = nI (kd (k1 f s) 1 + kd (k2 g s) 2 + kd (k3 g f s) 4 + kd (k4 s g f s) 8 + kd (k5 s A s 0) 16 + kd (∀ i j, i < s → j ≤ i → pm s A A i j = idm i j) 32) ∧ WK M M')) := by
        intro v hv
        rw [hv]
        refine r_istore (L' := [some (.ref 436), some (.int (nI t)), some (.int (nI s)), some (.int (nI (kd (k1 f (i + 1)) 1))), some (.int (nI (kd (k2 g (i + 1)) 1))), some (.int (nI (kd (k3 g f (i + 1)) 1))), some (.int (nI (kd (k4 s g f i) 1))), some (.int (nI (kd (k5 s A i 0) 1))), some (.int (nI i)), none]) d_Md_kindsOf_138 (by decide) rfl ?_
        exact B4
      by_cases hp : k3 g f i
      · rw [kq_t (v := 1) hp] at gm ⊢
        have yes : (f i = if i = 0 then 0 else g (i - 1)) → k3 g f (i + 1) := fun hc j hj => by
          by_cases e : j = i
          · rw [e]; exact hc
          · exact hp j (by omega)
        have no : ¬ (f i = if i = 0 then 0 else g (i - 1)) → ¬ k3 g f (i + 1) := fun hc z => hc (z i (by omega))
        refine r_iload d_Md_kindsOf_100 rfl ?_
        refine n_if_eq d_Md_kindsOf_102 (by omega) (fun h9 => absurd h9 (by decide)) (fun _ => ?_)
        refine r_aload_n d_Md_kindsOf_105 rfl ?_
        refine g_getr (b := 444) d_Md_kindsOf_106 f_Md_75 rfl rfl rfl ?_
        refine r_iload d_Md_kindsOf_109 rfl ?_
        refine g_iald d_Md_kindsOf_111 rfl (by omega) (by omega) ?_
        refine r_top (y := nI (f i)) ((rf i (by omega)).1) ?_
        refine r_iload d_Md_kindsOf_112 rfl ?_
        refine n_if_ne d_Md_kindsOf_114 (by omega) (fun ci => ?_) (fun ci => ?_)
        · refine r_aload_n d_Md_kindsOf_121 rfl ?_
          refine g_getr (b := 443) d_Md_kindsOf_122 f_Md_72 rfl rfl rfl ?_
          refine r_iload d_Md_kindsOf_125 rfl ?_
          refine r_iconst (v := nI 1) d_Md_kindsOf_127 (by decide) ?_
          refine n_isub d_Md_kindsOf_128 (by omega) ?_
          refine g_iald d_Md_kindsOf_129 rfl (by omega) (by omega) ?_
          refine r_top (y := nI (g (i - 1))) ((rg (i - 1) (by omega)).1) ?_
          refine n_icmp_ne d_Md_kindsOf_130 (by have h9 := (rf i (by omega)).2; omega) (by have h9 := (rg (i - 1) (by omega)).2; omega) (fun hf => ?_) (fun hf => ?_)
          · refine r_iconst (v := nI 0) d_Md_kindsOf_137 (by decide) ?_
            exact gm 0 (by rw [kq_f (no (fun z => hf (by rw [z, if_neg ci])))])
          · refine r_iconst (v := nI 1) d_Md_kindsOf_133 (by decide) ?_
            refine r_goto d_Md_kindsOf_134 ?_
            exact gm 1 (by rw [kq_t (yes (by rw [hf, if_neg ci]))])
        · refine r_iconst (v := nI 0) d_Md_kindsOf_117 (by decide) ?_
          refine r_goto d_Md_kindsOf_118 ?_
          refine n_icmp_ne d_Md_kindsOf_130 (by have h9 := (rf i (by omega)).2; omega) (by omega) (fun hf => ?_) (fun hf => ?_)
          · refine r_iconst (v := nI 0) d_Md_kindsOf_137 (by decide) ?_
            exact gm 0 (by rw [kq_f (no (fun z => hf (by rw [z, if_pos ci])))])
          · refine r_iconst (v := nI 1) d_Md_kindsOf_133 (by decide) ?_
            refine r_goto d_Md_kindsOf_134 ?_
            exact gm 1 (by rw [kq_t (yes (by rw [hf, if_pos ci]))])
      · rw [kq_f (v := 1) hp] at gm ⊢
        refine r_iload d_Md_kindsOf_100 rfl ?_
        refine n_if_eq d_Md_kindsOf_102 (by omega) (fun _ => ?_) (fun h9 => absurd h9 (by decide))
        refine r_iconst (v := nI 0) d_Md_kindsOf_137 (by decide) ?_
        exact gm 0 (by rw [kq_f (fun z => hp (fun j hj => z j (by omega)))])
    have B2 : Rn o l m_Md_kindsOf (0, 0) 68 [some (.ref 436), some (.int (nI t)), some (.int (nI s)), some (.int (nI (kd (k1 f (i + 1)) 1))), some (.int (nI (kd (k2 g i) 1))), some (.int (nI (kd (k3 g f i) 1))), some (.int (nI (kd (k4 s g f i) 1))), some (.int (nI (kd (k5 s A i 0) 1))), some (.int (nI i)), none] [] (gh n M1) (QI n (fun r M' => r = nI (kd (k1 f s) 1 + kd (k2 g s) 2 + kd (k3 g f s) 4 + kd (k4 s g f s) 8 + kd (k5 s A s 0) 16 + kd (∀ i j, i < s → j ≤ i → pm s A A i j = idm i j) 32) ∧ WK M M')) := by
      have gm : ∀ v, v = kd (k2 g (i + 1)) 1 → Rn o l m_Md_kindsOf (0, 0) 98 [some (.ref 436), some (.int (nI t)), some (.int (nI s)), some (.int (nI (kd (k1 f (i + 1)) 1))), some (.int (nI (kd (k2 g i) 1))), some (.int (nI (kd (k3 g f i) 1))), some (.int (nI (kd (k4 s g f i) 1))), some (.int (nI (kd (k5 s A i 0) 1))), some (.int (nI i)), none] [.int (nI v)] (gh n M1) (QI n (fun r M' => r = nI (kd (k1 f s) 1 + kd (k2 g s) 2 + kd (k3 g f s) 4 + kd (k4 s g f s) 8 + kd (k5 s A s 0) 16 + kd (∀ i j, i < s → j ≤ i → pm s A A i j = idm i j) 32) ∧ WK M M')) := by
        intro v hv
        rw [hv]
        refine r_istore (L' := [some (.ref 436), some (.int (nI t)), some (.int (nI s)), some (.int (nI (kd (k1 f (i + 1)) 1))), some (.int (nI (kd (k2 g (i + 1)) 1))), some (.int (nI (kd (k3 g f i) 1))), some (.int (nI (kd (k4 s g f i) 1))), some (.int (nI (kd (k5 s A i 0) 1))), some (.int (nI i)), none]) d_Md_kindsOf_98 (by decide) rfl ?_
        exact B3
      by_cases hp : k2 g i
      · rw [kq_t (v := 1) hp] at gm ⊢
        have yes : (g i = if i = 0 then 1 else 0) → k2 g (i + 1) := fun hc j hj => by
          by_cases e : j = i
          · rw [e]; exact hc
          · exact hp j (by omega)
        have no : ¬ (g i = if i = 0 then 1 else 0) → ¬ k2 g (i + 1) := fun hc z => hc (z i (by omega))
        refine r_iload d_Md_kindsOf_68 rfl ?_
        refine n_if_eq d_Md_kindsOf_70 (by omega) (fun h9 => absurd h9 (by decide)) (fun _ => ?_)
        refine r_aload_n d_Md_kindsOf_73 rfl ?_
        refine g_getr (b := 443) d_Md_kindsOf_74 f_Md_72 rfl rfl rfl ?_
        refine r_iload d_Md_kindsOf_77 rfl ?_
        refine g_iald d_Md_kindsOf_79 rfl (by omega) (by omega) ?_
        refine r_top (y := nI (g i)) ((rg i (by omega)).1) ?_
        refine r_iload d_Md_kindsOf_80 rfl ?_
        refine n_if_ne d_Md_kindsOf_82 (by omega) (fun ci => ?_) (fun ci => ?_)
        · refine r_iconst (v := nI 0) d_Md_kindsOf_89 (by decide) ?_
          refine n_icmp_ne d_Md_kindsOf_90 (by have h9 := (rg i (by omega)).2; omega) (by omega) (fun hf => ?_) (fun hf => ?_)
          · refine r_iconst (v := nI 0) d_Md_kindsOf_97 (by decide) ?_
            exact gm 0 (by rw [kq_f (no (fun z => hf (by rw [z, if_neg ci])))])
          · refine r_iconst (v := nI 1) d_Md_kindsOf_93 (by decide) ?_
            refine r_goto d_Md_kindsOf_94 ?_
            exact gm 1 (by rw [kq_t (yes (by rw [hf, if_neg ci]))])
        · refine r_iconst (v := nI 1) d_Md_kindsOf_85 (by decide) ?_
          refine r_goto d_Md_kindsOf_86 ?_
          refine n_icmp_ne d_Md_kindsOf_90 (by have h9 := (rg i (by omega)).2; omega) (by omega) (fun hf => ?_) (fun hf => ?_)
          · refine r_iconst (v := nI 0) d_Md_kindsOf_97 (by decide) ?_
            exact gm 0 (by rw [kq_f (no (fun z => hf (by rw [z, if_pos ci])))])
          · refine r_iconst (v := nI 1) d_Md_kindsOf_93 (by decide) ?_
            refine r_goto d_Md_kindsOf_94 ?_
            exact gm 1 (by rw [kq_t (yes (by rw [hf, if_pos ci]))])
      · rw [kq_f (v := 1) hp] at gm ⊢
        refine r_iload d_Md_kindsOf_68 rfl ?_
        refine n_if_eq d_Md_kindsOf_70 (by omega) (fun _ => ?_) (fun h9 => absurd h9 (by decide))
        refine r_iconst (v := nI 0) d_Md_kindsOf_97 (by decide) ?_
        exact gm 0 (by rw [kq_f (fun z => hp (fun j hj => z j (by omega)))])
    have B1 : Rn o l m_Md_kindsOf (0, 0) 37 [some (.ref 436), some (.int (nI t)), some (.int (nI s)), some (.int (nI (kd (k1 f i) 1))), some (.int (nI (kd (k2 g i) 1))), some (.int (nI (kd (k3 g f i) 1))), some (.int (nI (kd (k4 s g f i) 1))), some (.int (nI (kd (k5 s A i 0) 1))), some (.int (nI i)), none] [] (gh n M1) (QI n (fun r M' => r = nI (kd (k1 f s) 1 + kd (k2 g s) 2 + kd (k3 g f s) 4 + kd (k4 s g f s) 8 + kd (k5 s A s 0) 16 + kd (∀ i j, i < s → j ≤ i → pm s A A i j = idm i j) 32) ∧ WK M M')) := by
      have gm : ∀ v, v = kd (k1 f (i + 1)) 1 → Rn o l m_Md_kindsOf (0, 0) 67 [some (.ref 436), some (.int (nI t)), some (.int (nI s)), some (.int (nI (kd (k1 f i) 1))), some (.int (nI (kd (k2 g i) 1))), some (.int (nI (kd (k3 g f i) 1))), some (.int (nI (kd (k4 s g f i) 1))), some (.int (nI (kd (k5 s A i 0) 1))), some (.int (nI i)), none] [.int (nI v)] (gh n M1) (QI n (fun r M' => r = nI (kd (k1 f s) 1 + kd (k2 g s) 2 + kd (k3 g f s) 4 + kd (k4 s g f s) 8 + kd (k5 s A s 0) 16 + kd (∀ i j, i < s → j ≤ i → pm s A A i j = idm i j) 32) ∧ WK M M')) := by
        intro v hv
        rw [hv]
        refine r_istore_n (L' := [some (.ref 436), some (.int (nI t)), some (.int (nI s)), some (.int (nI (kd (k1 f (i + 1)) 1))), some (.int (nI (kd (k2 g i) 1))), some (.int (nI (kd (k3 g f i) 1))), some (.int (nI (kd (k4 s g f i) 1))), some (.int (nI (kd (k5 s A i 0) 1))), some (.int (nI i)), none]) d_Md_kindsOf_67 (by decide) rfl ?_
        exact B2
      by_cases hp : k1 f i
      · rw [kq_t (v := 1) hp] at gm ⊢
        have yes : (f i = if i = 1 then 1 else 0) → k1 f (i + 1) := fun hc j hj => by
          by_cases e : j = i
          · rw [e]; exact hc
          · exact hp j (by omega)
        have no : ¬ (f i = if i = 1 then 1 else 0) → ¬ k1 f (i + 1) := fun hc z => hc (z i (by omega))
        refine r_iload_n d_Md_kindsOf_37 rfl ?_
        refine n_if_eq d_Md_kindsOf_38 (by omega) (fun h9 => absurd h9 (by decide)) (fun _ => ?_)
        refine r_aload_n d_Md_kindsOf_41 rfl ?_
        refine g_getr (b := 444) d_Md_kindsOf_42 f_Md_75 rfl rfl rfl ?_
        refine r_iload d_Md_kindsOf_45 rfl ?_
        refine g_iald d_Md_kindsOf_47 rfl (by omega) (by omega) ?_
        refine r_top (y := nI (f i)) ((rf i (by omega)).1) ?_
        refine r_iload d_Md_kindsOf_48 rfl ?_
        refine r_iconst (v := nI 1) d_Md_kindsOf_50 (by decide) ?_
        refine n_icmp_ne d_Md_kindsOf_51 (by omega) (by omega) (fun ci => ?_) (fun ci => ?_)
        · refine r_iconst (v := nI 0) d_Md_kindsOf_58 (by decide) ?_
          refine n_icmp_ne d_Md_kindsOf_59 (by have h9 := (rf i (by omega)).2; omega) (by omega) (fun hf => ?_) (fun hf => ?_)
          · refine r_iconst (v := nI 0) d_Md_kindsOf_66 (by decide) ?_
            exact gm 0 (by rw [kq_f (no (fun z => hf (by rw [z, if_neg ci])))])
          · refine r_iconst (v := nI 1) d_Md_kindsOf_62 (by decide) ?_
            refine r_goto d_Md_kindsOf_63 ?_
            exact gm 1 (by rw [kq_t (yes (by rw [hf, if_neg ci]))])
        · refine r_iconst (v := nI 1) d_Md_kindsOf_54 (by decide) ?_
          refine r_goto d_Md_kindsOf_55 ?_
          refine n_icmp_ne d_Md_kindsOf_59 (by have h9 := (rf i (by omega)).2; omega) (by omega) (fun hf => ?_) (fun hf => ?_)
          · refine r_iconst (v := nI 0) d_Md_kindsOf_66 (by decide) ?_
            exact gm 0 (by rw [kq_f (no (fun z => hf (by rw [z, if_pos ci])))])
          · refine r_iconst (v := nI 1) d_Md_kindsOf_62 (by decide) ?_
            refine r_goto d_Md_kindsOf_63 ?_
            exact gm 1 (by rw [kq_t (yes (by rw [hf, if_pos ci]))])
      · rw [kq_f (v := 1) hp] at gm ⊢
        refine r_iload_n d_Md_kindsOf_37 rfl ?_
        refine n_if_eq d_Md_kindsOf_38 (by omega) (fun _ => ?_) (fun h9 => absurd h9 (by decide))
        refine r_iconst (v := nI 0) d_Md_kindsOf_66 (by decide) ?_
        exact gm 0 (by rw [kq_f (fun z => hp (fun j hj => z j (by omega)))])
    refine r_iload d_Md_kindsOf_31 rfl ?_
    refine r_iload_n d_Md_kindsOf_33 rfl ?_
    refine n_icmp_ge d_Md_kindsOf_34 (by omega) (by omega) (fun h9 => absurd h9 (by omega)) (fun _ => ?_)
    exact B1
end C78
