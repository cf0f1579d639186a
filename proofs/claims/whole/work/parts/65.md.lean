/-! The reference: its state's rows, acts -/
theorem MH.kept {M M' : Mem} {H : List Core} (h : MH M H) (h0 : M' 436 15 = M 436 15) (h1 : M' 441 = M 441) : MH M' H := ⟨by rw [h0]; exact h.1, h.2.1, fun i C hC j hj h9 => by rw [h1]; exact h.2.2 i C hC j hj h9⟩
theorem MR.act {M M' : Mem} {S : SS} {C' : Core} (h : MR M S) (hH : MH M' ((S.1 :: S.2.1).take 8)) (hC : AM M' 438 0 C') (h0 : ∀ k, k = 2 ∨ k = 8 ∨ k = 16 ∨ k = 17 → M' 436 k = M 436 k) (h1 : ∀ b, b = 437 ∨ b = 440 ∨ b = 442 → M' b = M b) : MR M' (kp S C') := by
  obtain ⟨a1, a2, a5, a6⟩ := h
  refine ⟨hC.w, hH, fun k hk => ⟨fun D hD => ⟨by rw [h1 442 (by omega)]; exact ((a5 k hk).1 D hD).1, fun j hj h9 => by rw [h1 440 (by omega)]; exact ((a5 k hk).1 D hD).2 j hj h9⟩, fun e => by rw [h1 442 (by omega)]; exact (a5 k hk).2 e⟩, ?_⟩
  unfold MT
  rw [h0 2 (by omega), h0 8 (by omega), h0 16 (by omega), h0 17 (by omega), h1 437 (by omega)]
  exact a6
theorem AM.to {M : Mem} {a off : Nat} {C C' : Core} (h : AM M a off C) (e : ∀ j, j < 241 → nw C j = nw C' j) : AM M a off C' := fun j hj => by rw [← e j hj]; exact h j hj
theorem AM.kept {M M' : Mem} {a off : Nat} {C : Core} (h : AM M a off C) (e : M' a = M a) : AM M' a off C := fun j hj => by rw [e]; exact h j hj
/-- a call has worked on its own rows alone -/
def WK (M M' : Mem) : Prop := (∀ b, b < 443 ∨ 453 ≤ b → b ≠ 436 → M' b = M b) ∧ ∀ k, k ≠ 30 → M' 436 k = M 436 k
theorem WK.rf {M : Mem} : WK M M := ⟨fun _ _ _ => rfl, fun _ _ => rfl⟩
theorem WK.trans {M M1 M2 : Mem} (h : WK M M1) (h2 : WK M1 M2) : WK M M2 := ⟨fun b b1 b2 => (h2.1 b b1 b2).trans (h.1 b b1 b2), fun k hk => (h2.2 k hk).trans (h.2 k hk)⟩
theorem WK.of {M M' : Mem} (h : ∀ b, b < 443 ∨ 453 ≤ b → M' b = M b) : WK M M' := ⟨fun b b1 _ => h b b1, fun k _ => by rw [h 436 (by omega)]⟩
theorem WK.mr {M M' : Mem} {S : SS} (h : WK M M') (hX : MR M S) : MR M' S := hX.kept (fun k hk => h.2 k (by omega)) (fun b hb => h.1 b (by omega) (by omega))
theorem WK.km {M M' : Mem} (h : WK M M') : KM M M' := fun b hb => h.1 b (by omega) (by omega)
theorem WK.w {M M' : Mem} {c s : Nat} {w : Nat → Nat} (h : MW M c s w M') (hc : 443 ≤ c ∧ c < 453) : WK M M' := WK.of (fun b hb => h.1 b (by omega))
theorem WK.sz {M M' : Mem} {s : Nat} (h : WK M M') (hz : M 438 0 = nI s) : M' 438 0 = nI s := by rw [h.1 438 (by omega) (by decide)]; exact hz
theorem MR.ser {M : Mem} {S : SS} (hX : MR M S) {a j : Nat} (ha : a < 6) (hj : j < 10) (h0 : 0 < S.1 0 3 := by first | assumption | omega) : M 438 (1 + 10 * a + j) = nI (S.1 (2 + a) j) := by rw [hX.nw (by omega), nw_ser _ ha hj]
theorem MR.tg {M : Mem} {S : SS} (hX : MR M S) {t j : Nat} (ht : t < 4) (hj : j < 10) (h0 : 0 < S.1 0 3 := by first | assumption | omega) : M 438 (61 + 20 * t + j) = nI (S.1 (21 + 3 * t) j) := by rw [hX.nw (by omega), nw_g _ ht hj]
theorem MR.tf {M : Mem} {S : SS} (hX : MR M S) {t j : Nat} (ht : t < 4) (hj : j < 10) (h0 : 0 < S.1 0 3 := by first | assumption | omega) : M 438 (61 + 20 * t + 10 + j) = nI (S.1 (22 + 3 * t) j) := by rw [hX.nw (by omega), nw_f _ ht hj]
theorem MR.fr {M : Mem} {S : SS} (hX : MR M S) {i j : Nat} (hi : i < 10) (hj : j < 10) (h0 : 0 < S.1 0 3 := by first | assumption | omega) : M 438 (141 + 10 * i + j) = nI (S.1 (10 + i) j) := by rw [hX.nw (by omega), nw_fr _ hi hj]
theorem WS.rlt {S : SS} (hW : WS S) {k j : Nat} (hk : rIx k) (hj : j < 10) : S.1 k j < 1000003 := hW.1.2.1 k hk j hj
theorem WS.rz {S : SS} (hW : WS S) {k j : Nat} (h0 : 0 < S.1 0 3) (hk : rIx k) (hs : S.1 0 3 ≤ j) (hj : j < 10) : S.1 k j = 0 := hW.1.2.2.1 (by omega) k hk j hs hj
theorem rx_s {a : Nat} (h : a < 6) : rIx (2 + a) := Or.inl ⟨by omega, by omega⟩
theorem rx_f {a : Nat} (h : a < 10) : rIx (10 + a) := Or.inr (Or.inl ⟨by omega, by omega⟩)
theorem rx_g {t : Nat} (h : t < 4) : rIx (21 + 3 * t) := Or.inr (Or.inr ⟨by omega, by omega, by omega⟩)
theorem rx_h {t : Nat} (h : t < 4) : rIx (22 + 3 * t) := Or.inr (Or.inr ⟨by omega, by omega, by omega⟩)
def cm (s : Nat) (g f : Nat → Nat) : Nat → Nat → Nat := fun i j => col s g f j i
section C65
variable {o : OM} {l : Launch} {n : Nat} {M : Mem} {S : SS}
theorem c_Md_copy {a b p q na nb : Nat} (ha : gT a = (1, na)) (hb : gT b = (1, nb)) (hab : a ≠ b) (h1 : p + 241 ≤ na) (h2 : q + 241 ≤ nb) (hn : na < 2000 ∧ nb < 2000) : CV o l m_Md_copy n [.ref a, .int (nI p), .ref b, .int (nI q)] M (fun M' => (∀ z, z ≠ b → M' z = M z) ∧ (∀ j, j < 241 → M' b (q + j) = M a (p + j)) ∧ ∀ j, (j < q ∨ q + 241 ≤ j) → M' b j = M b j) := by
  refine cvo_of rfl rfl rfl (Nat.le_of_ble_eq_true rfl) ?_
  refine r_iconst (v := nI 0) d_Md_copy_0 (by decide) ?_
  refine r_istore (L' := [some (.ref a), some (.int (nI p)), some (.ref b), some (.int (nI q)), some (.int (nI 0))]) d_Md_copy_1 (by decide) rfl ?_
  refine lp (a := 0) (N := 241) (R := fun k M' => Rn o l m_Md_copy (0, 0) 3 [some (.ref a), some (.int (nI p)), some (.ref b), some (.int (nI q)), some (.int (nI k))] [] (gh n M') (QV n fun M' => (∀ z, z ≠ b → M' z = M z) ∧ (∀ j, j < 241 → M' b (q + j) = M a (p + j)) ∧ ∀ j, (j < q ∨ q + 241 ≤ j) → M' b j = M b j)) (P := fun k M' => (∀ z, z ≠ b → M' z = M z) ∧ (∀ j, j < k → M' b (q + j) = M a (p + j)) ∧ ∀ j, (j < q ∨ q + 241 ≤ j) → M' b j = M b j) (by omega) ?_ ?_ ?_
  · exact ⟨fun _ _ => rfl, fun j hj => absurd hj (Nat.not_lt_zero j), fun _ _ => rfl⟩
  · intro M1 g1
    refine r_iload d_Md_copy_3 rfl ?_
    refine r_sipush (v := nI 241) d_Md_copy_5 (by decide) ?_
    refine n_icmp_ge d_Md_copy_8 (by omega) (by omega) (fun _ => ?_) (fun h9 => absurd h9 (by omega))
    refine g_retv d_Md_copy_29 rfl ?_
    exact g1
  · intro k M1 hk g1 ih
    refine r_iload d_Md_copy_3 rfl ?_
    refine r_sipush (v := nI 241) d_Md_copy_5 (by decide) ?_
    refine n_icmp_ge d_Md_copy_8 (by omega) (by omega) (fun h9 => absurd h9 (by omega)) (fun _ => ?_)
    refine r_aload_n d_Md_copy_11 rfl ?_
    refine r_iload_n d_Md_copy_12 rfl ?_
    refine r_iload d_Md_copy_13 rfl ?_
    refine n_iadd d_Md_copy_15 ?_
    refine r_aload_n d_Md_copy_16 rfl ?_
    refine r_iload_n d_Md_copy_17 rfl ?_
    refine r_iload d_Md_copy_18 rfl ?_
    refine n_iadd d_Md_copy_20 ?_
    refine g_iald d_Md_copy_21 ha (by omega) (by omega) ?_
    refine g_iast d_Md_copy_22 hb (by omega) (by omega) ?_
    refine n_iinc (c := 1) (L' := [some (.ref a), some (.int (nI p)), some (.ref b), some (.int (nI q)), some (.int (nI (k + 1)))]) d_Md_copy_23 rfl rfl (by decide) rfl ?_
    refine r_goto d_Md_copy_26 ?_
    refine ih _ ?_
    refine ⟨fun z hz => by rw [upm_ne _ _ _ hz]; exact g1.1 z hz, fun j hj => ?_, fun j hj => ?_⟩
    · rw [upm_at]
      by_cases e : j = k
      · rw [e, if_pos rfl, g1.1 a hab]
      · rw [if_neg (by omega)]
        exact g1.2.1 j (by omega)
    · rw [upm_at, if_neg (by omega)]
      exact g1.2.2 j hj
theorem c_Md_takes {c p s : Nat} {x : Nat → Nat} (hc : gT c = (1, 10)) (hc2 : 443 ≤ c ∧ c < 453) (hp : p + 10 ≤ 241) (hs : s ≤ 10) (hz : M 438 0 = nI s) (hx : ∀ j, j < 10 → M 438 (p + j) = nI (x j)) (hx0 : ∀ j, s ≤ j → j < 10 → x j = 0) : CV o l m_Md_takes n [.ref 436, .int (nI p), .ref c] M (fun M' => MW M c 10 x M') := by
  refine cvo_of rfl rfl rfl (Nat.le_of_ble_eq_true rfl) ?_
  refine r_iconst (v := nI 0) d_Md_takes_0 (by decide) ?_
  refine r_istore_n (L' := [some (.ref 436), some (.int (nI p)), some (.ref c), some (.int (nI 0))]) d_Md_takes_1 (by decide) rfl ?_
  refine lp (a := 0) (N := 10) (R := fun k M' => Rn o l m_Md_takes (0, 0) 2 [some (.ref 436), some (.int (nI p)), some (.ref c), some (.int (nI k))] [] (gh n M') (QV n fun M' => MW M c 10 x M')) (P := fun k M' => MW M c k x M') (by omega) ?_ ?_ ?_
  · exact MW.z M c _
  · intro M1 g1
    refine r_iload_n d_Md_takes_2 rfl ?_
    refine r_bipush (v := nI 10) d_Md_takes_3 (by decide) ?_
    refine n_icmp_ge d_Md_takes_5 (by omega) (by omega) (fun _ => ?_) (fun h9 => absurd h9 (by omega))
    refine g_retv d_Md_takes_37 rfl ?_
    exact g1
  · intro k M1 hk g1 ih
    refine r_iload_n d_Md_takes_2 rfl ?_
    refine r_bipush (v := nI 10) d_Md_takes_3 (by decide) ?_
    refine n_icmp_ge d_Md_takes_5 (by omega) (by omega) (fun h9 => absurd h9 (by omega)) (fun _ => ?_)
    refine r_aload_n d_Md_takes_8 rfl ?_
    refine r_iload_n d_Md_takes_9 rfl ?_
    refine r_iload_n d_Md_takes_10 rfl ?_
    refine r_aload_n d_Md_takes_11 rfl ?_
    refine g_Vi (av := []) d_Md_takes_12 k_Md_173 ws_Md_wide (by decide) rfl rfl (Nat.le_of_ble_eq_true rfl) rfl (c_Md_wide (by rw [g1.1 438 (by omega)]; exact hz)) ?_
    rintro _ _ ⟨rfl, rfl⟩
    refine n_icmp_ge d_Md_takes_15 (by omega) (by omega) (fun hc3 => ?_) (fun hc3 => ?_)
    · refine r_iconst (v := nI 0) d_Md_takes_29 (by decide) ?_
      refine g_iast d_Md_takes_30 hc (by omega) (by omega) ?_
      refine n_iinc (c := 1) (L' := [some (.ref 436), some (.int (nI p)), some (.ref c), some (.int (nI (k + 1)))]) d_Md_takes_31 rfl rfl (by decide) rfl ?_
      refine r_goto d_Md_takes_34 ?_
      refine ih _ ?_
      exact g1.up (v := 0) (hx0 k (by omega) (by omega)).symm
    · refine r_aload_n d_Md_takes_18 rfl ?_
      refine g_getr (b := 438) d_Md_takes_19 f_Md_56 rfl rfl rfl ?_
      refine r_iload_n d_Md_takes_22 rfl ?_
      refine r_iload_n d_Md_takes_23 rfl ?_
      refine n_iadd d_Md_takes_24 ?_
      refine g_iald d_Md_takes_25 rfl (by omega) (by omega) ?_
      refine r_top (y := nI (x k)) (by rw [g1.1 438 (by omega)]; exact hx k (by omega)) ?_
      refine r_goto d_Md_takes_26 ?_
      refine g_iast d_Md_takes_30 hc (by omega) (by omega) ?_
      refine n_iinc (c := 1) (L' := [some (.ref 436), some (.int (nI p)), some (.ref c), some (.int (nI (k + 1)))]) d_Md_takes_31 rfl rfl (by decide) rfl ?_
      refine r_goto d_Md_takes_34 ?_
      refine ih _ ?_
      exact g1.up rfl
theorem c_Md_snap (hX : MR M S) : CV o l m_Md_snap n [.ref 436] M (fun M' => MH M' ((S.1 :: S.2.1).take 8) ∧ (∀ b, b ≠ 436 → b ≠ 441 → M' b = M b) ∧ ∀ k, k ≠ 15 → M' 436 k = M 436 k) := by
  refine cvo_of rfl rfl rfl (Nat.le_of_ble_eq_true rfl) ?_
  obtain ⟨x1, ⟨x2, x3, x4⟩, -, -⟩ := id hX
  generalize S.2.1 = H at *
  refine r_aload_n d_Md_snap_0 rfl ?_
  refine g_geti d_Md_snap_1 f_Md_164 rfl rfl ?_
  refine r_top (y := (nI (H.length))) (x2) ?_
  refine r_bipush (v := nI 8) d_Md_snap_4 (by decide) ?_
  refine n_icmp_ne d_Md_snap_6 (by omega) (by omega) (fun hc => ?_) (fun hc => ?_)
  · refine r_aload_n d_Md_snap_50 rfl ?_
    refine g_getr (b := 438) d_Md_snap_51 f_Md_56 rfl rfl rfl ?_
    refine r_iconst (v := nI 0) d_Md_snap_54 (by decide) ?_
    refine r_aload_n d_Md_snap_55 rfl ?_
    refine g_getr (b := 441) d_Md_snap_56 f_Md_65 rfl rfl rfl ?_
    refine r_sipush (v := nI 241) d_Md_snap_59 (by decide) ?_
    refine r_aload_n d_Md_snap_62 rfl ?_
    refine g_geti d_Md_snap_63 f_Md_164 rfl rfl ?_
    refine r_top (y := (nI (H.length))) (x2) ?_
    refine n_imul d_Md_snap_66 ?_
    refine g_Sv (av := [.ref 438, .int (nI 0), .ref 441, .int (nI (241 * (H.length)))]) d_Md_snap_67 k_Md_160 ws_Md_copy (by decide) rfl rfl (Nat.le_of_ble_eq_true rfl) (c_Md_copy (a := 438) (b := 441) (p := 0) rfl rfl (by decide) (by decide) (by omega) (by decide)) ?_
    rintro M1 ⟨g1, g2, g3⟩
    refine r_aload_n d_Md_snap_70 rfl ?_
    refine r_dup d_Md_snap_71 rfl ?_
    refine g_geti d_Md_snap_72 f_Md_164 rfl rfl ?_
    refine r_top (y := (nI (H.length))) (by rw [g1 436 (by decide)]; exact x2) ?_
    refine r_iconst (v := nI 1) d_Md_snap_75 (by decide) ?_
    refine n_iadd d_Md_snap_76 ?_
    refine g_puti d_Md_snap_77 f_Md_164 ⟨rfl, rfl, rfl⟩ rfl ?_
    refine g_retv d_Md_snap_80 rfl ?_
    rw [List.take_of_length_le (by rw [List.length_cons]; omega)]
    refine ⟨⟨by rw [upm_at, if_pos rfl, List.length_cons], by rw [List.length_cons]; omega, fun i C hC j hj h9 => ?_⟩, fun b b1 b2 => by rw [upm_ne _ _ _ b1, g1 b b2], fun k hk => by rw [upm_at, if_neg hk, g1 436 (by decide)]⟩
    rw [upm_ne _ _ _ (by decide), List.length_cons]
    cases i with
    | zero =>
      obtain rfl : S.1 = C := by simpa using hC
      rw [show 241 * (H.length + 1 - 1 - 0) = 241 * H.length by omega, g2 j hj]
      exact x1 j hj h9
    | succ i =>
      rw [List.getElem?_cons_succ] at hC
      have hi := (List.getElem?_eq_some_iff.mp hC).1
      rw [g3 _ (by omega), show H.length + 1 - 1 - (i + 1) = H.length - 1 - i by omega]
      exact x4 i C hC j hj h9
  · refine r_iconst (v := nI 0) d_Md_snap_9 (by decide) ?_
    refine r_istore_n (L' := [some (.ref 436), some (.int (nI 0))]) d_Md_snap_10 (by decide) rfl ?_
    refine lp (a := 0) (N := 1687) (R := fun k M' => Rn o l m_Md_snap (0, 0) 11 [some (.ref 436), some (.int (nI k))] [] (gh n M') (QV n fun M' => MH M' ((S.1 :: H).take 8) ∧ (∀ b, b ≠ 436 → b ≠ 441 → M' b = M b) ∧ ∀ k, k ≠ 15 → M' 436 k = M 436 k)) (P := fun k M' => (∀ b, b ≠ 441 → M' b = M b) ∧ (∀ j, j < k → M' 441 j = M 441 (j + 241)) ∧ ∀ j, k ≤ j → M' 441 j = M 441 j) (by omega) ?_ ?_ ?_
    · exact ⟨fun _ _ => rfl, fun j hj => absurd hj (Nat.not_lt_zero j), fun _ _ => rfl⟩
    · intro M1 f1
      refine r_iload_n d_Md_snap_11 rfl ?_
      refine r_sipush (v := nI 1687) d_Md_snap_12 (by decide) ?_
      refine n_icmp_ge d_Md_snap_15 (by omega) (by omega) (fun _ => ?_) (fun h9 => absurd h9 (by omega))
      refine r_aload_n d_Md_snap_40 rfl ?_
      refine r_dup d_Md_snap_41 rfl ?_
      refine g_geti d_Md_snap_42 f_Md_164 rfl rfl ?_
      refine r_top (y := (nI (H.length))) (by rw [f1.1 436 (by decide)]; exact x2) ?_
      refine r_iconst (v := nI 1) d_Md_snap_45 (by decide) ?_
      refine n_isub d_Md_snap_46 (by omega) ?_
      refine g_puti d_Md_snap_47 f_Md_164 ⟨rfl, rfl, rfl⟩ rfl ?_
      have e15 : upm M1 436 15 (nI (H.length - 1)) 436 15 = nI 7 := by rw [upm_at, if_pos rfl, hc]
      refine r_aload_n d_Md_snap_50 rfl ?_
      refine g_getr (b := 438) d_Md_snap_51 f_Md_56 rfl rfl rfl ?_
      refine r_iconst (v := nI 0) d_Md_snap_54 (by decide) ?_
      refine r_aload_n d_Md_snap_55 rfl ?_
      refine g_getr (b := 441) d_Md_snap_56 f_Md_65 rfl rfl rfl ?_
      refine r_sipush (v := nI 241) d_Md_snap_59 (by decide) ?_
      refine r_aload_n d_Md_snap_62 rfl ?_
      refine g_geti d_Md_snap_63 f_Md_164 rfl rfl ?_
      refine r_top (y := (nI 7)) (e15) ?_
      refine n_imul d_Md_snap_66 ?_
      refine g_Sv (av := [.ref 438, .int (nI 0), .ref 441, .int (nI 1687)]) d_Md_snap_67 k_Md_160 ws_Md_copy (by decide) rfl rfl (Nat.le_of_ble_eq_true rfl) (c_Md_copy (a := 438) (b := 441) (p := 0) (q := 1687) rfl rfl (by decide) (by decide) (by decide) (by decide)) ?_
      rintro M2 ⟨g1, g2, g3⟩
      refine r_aload_n d_Md_snap_70 rfl ?_
      refine r_dup d_Md_snap_71 rfl ?_
      refine g_geti d_Md_snap_72 f_Md_164 rfl rfl ?_
      refine r_top (y := (nI 7)) (by rw [g1 436 (by decide)]; exact e15) ?_
      refine r_iconst (v := nI 1) d_Md_snap_75 (by decide) ?_
      refine n_iadd d_Md_snap_76 ?_
      refine g_puti d_Md_snap_77 f_Md_164 ⟨rfl, rfl, rfl⟩ rfl ?_
      refine g_retv d_Md_snap_80 rfl ?_
      have k9 : ∀ b, b ≠ 436 → b ≠ 441 → upm M2 436 15 (nI 8) b = M b := fun b b1 b2 => by rw [upm_ne _ _ _ b1, g1 b b2, upm_ne _ _ _ b1, f1.1 b b2]
      have hl : ((S.1 :: H).take 8).length = 8 := by rw [List.length_take, List.length_cons]; omega
      refine ⟨⟨by rw [upm_at, if_pos rfl, hl], by omega, fun i C hC j hj h9 => ?_⟩, k9, fun k hk => by rw [upm_at, if_neg hk, g1 436 (by decide), upm_at, if_neg hk, f1.1 436 (by decide)]⟩
      rw [hl, upm_ne _ _ _ (by decide)]
      have hi := (List.getElem?_eq_some_iff.mp hC).1
      rw [hl] at hi
      rw [List.getElem?_take_of_lt hi] at hC
      cases i with
      | zero =>
        obtain rfl : S.1 = C := by simpa using hC
        rw [show 241 * (8 - 1 - 0) = 1687 by omega, g2 j hj, upm_ne _ _ _ (by decide), f1.1 438 (by decide)]
        exact x1 j hj h9
      | succ i =>
        rw [List.getElem?_cons_succ] at hC
        have h8 := x4 i C hC j hj h9
        rw [g3 _ (by omega), upm_ne _ _ _ (by decide), f1.2.1 _ (by omega), show 241 * (8 - 1 - (i + 1)) + j + 241 = 241 * (H.length - 1 - i) + j by omega]
        exact h8
    · intro k M1 hk f1 ih
      refine r_iload_n d_Md_snap_11 rfl ?_
      refine r_sipush (v := nI 1687) d_Md_snap_12 (by decide) ?_
      refine n_icmp_ge d_Md_snap_15 (by omega) (by omega) (fun h9 => absurd h9 (by omega)) (fun _ => ?_)
      refine r_aload_n d_Md_snap_18 rfl ?_
      refine g_getr (b := 441) d_Md_snap_19 f_Md_65 rfl rfl rfl ?_
      refine r_iload_n d_Md_snap_22 rfl ?_
      refine r_aload_n d_Md_snap_23 rfl ?_
      refine g_getr (b := 441) d_Md_snap_24 f_Md_65 rfl rfl rfl ?_
      refine r_iload_n d_Md_snap_27 rfl ?_
      refine r_sipush (v := nI 241) d_Md_snap_28 (by decide) ?_
      refine n_iadd d_Md_snap_31 ?_
      refine g_iald d_Md_snap_32 rfl (by omega) (by omega) ?_
      refine g_iast d_Md_snap_33 rfl (by omega) (by omega) ?_
      refine n_iinc (c := 1) (L' := [some (.ref 436), some (.int (nI (k + 1)))]) d_Md_snap_34 rfl rfl (by decide) rfl ?_
      refine r_goto d_Md_snap_37 ?_
      refine ih _ ?_
      refine ⟨fun z hz => by rw [upm_ne _ _ _ hz]; exact f1.1 z hz, fun j hj => ?_, fun j hj => ?_⟩
      · rw [upm_at]
        by_cases e : j = k
        · rw [if_pos e, e, f1.2.2 _ (by omega)]
        · rw [if_neg e]
          exact f1.2.1 j (by omega)
      · rw [upm_at, if_neg (by omega)]
        exact f1.2.2 j (by omega)
theorem nw_row (C : Core) {s : Nat} {w : Nat → Nat} (hs : s < 6) : ∀ j, j < 241 → nw (rowC C (2 + s) w) j = if 1 + 10 * s ≤ j ∧ j < 1 + 10 * s + 10 ∧ j - (1 + 10 * s) < C 0 3 then w (j - (1 + 10 * s)) else nw C j := by
  intro j hj
  rcases nw_at hj with ⟨rfl, h⟩ | ⟨s', i', h1, h2, rfl, h⟩ | ⟨t, i', h1, h2, rfl, h⟩ | ⟨t, i', h1, h2, rfl, h⟩ | ⟨t, i', h1, h2, rfl, h⟩
  · rw [h, h, if_neg (by omega), rowC, if_neg (by omega)]
  · rw [h, h]
    unfold rowC
    by_cases c : s' = s ∧ i' < C 0 3
    · obtain ⟨rfl, c⟩ := c
      rw [if_pos ⟨rfl, c⟩, if_pos (by omega), show 1 + 10 * s' + i' - (1 + 10 * s') = i' by omega]
    · rw [if_neg (by omega), if_neg (by omega)]
  · rw [h, h, if_neg (by omega), rowC, if_neg (by omega)]
  · rw [h, h, if_neg (by omega), rowC, if_neg (by omega)]
  · rw [h, h, if_neg (by omega), rowC, if_neg (by omega)]
theorem c_Md_comes {c a i : Nat} {w : Nat → Nat} (hW : WS S) (hX : MR M S) (hc : gT c = (1, 10)) (hc2 : 443 ≤ c ∧ c < 453) (ha : a < 6) (hi : i < S.1 0 3) (hw : ∀ j, j < S.1 0 3 → M c j = nI (w j)) : CI o l m_Md_comes n [.ref 436, .ref c, .int (nI a), .int (nI i)] M (PM M (nI (w i), kp S (rowC S.1 (2 + a) w))) := by
  refine ci_of rfl rfl rfl (Nat.le_of_ble_eq_true rfl) ?_
  have hs := hW.sz10
  refine r_aload_n d_Md_comes_0 rfl ?_
  refine g_Vv (av := []) d_Md_comes_1 k_Md_177 ws_Md_snap (by decide) rfl rfl (Nat.le_of_ble_eq_true rfl) rfl (c_Md_snap hX) ?_
  rintro M1 ⟨g1, g2, g3⟩
  have hz1 : M1 438 0 = nI (S.1 0 3) := by rw [g2 438 (by decide) (by decide)]; exact hX.sz
  refine r_iconst (v := nI 0) d_Md_comes_4 (by decide) ?_
  refine r_istore (L' := [some (.ref 436), some (.ref c), some (.int (nI a)), some (.int (nI i)), some (.int (nI 0))]) d_Md_comes_5 (by decide) rfl ?_
  refine lp (a := 0) (N := S.1 0 3) (R := fun k M' => Rn o l m_Md_comes (0, 0) 7 [some (.ref 436), some (.ref c), some (.int (nI a)), some (.int (nI i)), some (.int (nI k))] [] (gh n M') (QI n (PM M (nI (w i), kp S (rowC S.1 (2 + a) w))))) (P := fun k M' => (∀ b, b ≠ 438 → M' b = M1 b) ∧ ∀ j, j < 241 → M' 438 j = if 1 + 10 * a ≤ j ∧ j < 1 + 10 * a + k then nI (w (j - (1 + 10 * a))) else M1 438 j) (by omega) ?_ ?_ ?_
  · exact ⟨fun _ _ => rfl, fun j hj => by rw [if_neg (by omega)]⟩
  · intro M2 f2
    refine r_iload d_Md_comes_7 rfl ?_
    refine r_aload_n d_Md_comes_9 rfl ?_
    refine g_Vi (av := []) d_Md_comes_10 k_Md_173 ws_Md_wide (by decide) rfl rfl (Nat.le_of_ble_eq_true rfl) rfl (c_Md_wide (by rw [f2.2 0 (by decide), if_neg (by omega)]; exact hz1)) ?_
    rintro _ _ ⟨rfl, rfl⟩
    refine n_icmp_ge d_Md_comes_13 (by omega) (by omega) (fun _ => ?_) (fun h9 => absurd h9 (by omega))
    refine r_aload_n d_Md_comes_40 rfl ?_
    refine r_iload_n d_Md_comes_41 rfl ?_
    refine g_iald d_Md_comes_42 hc (by omega) (by omega) ?_
    refine r_top (y := nI (w i)) (by rw [f2.1 c (by omega), g2 c (by omega) (by omega)]; exact hw i (by omega)) ?_
    refine g_reti d_Md_comes_43 rfl ?_
    refine ⟨rfl, hX.act (g1.kept (by rw [f2.1 436 (by decide)]) (f2.1 441 (by decide))) (fun j hj => ?_) (fun k hk => by rw [f2.1 436 (by decide)]; exact g3 k (by omega)) (fun b hb => by rw [f2.1 b (by omega)]; exact g2 b (by omega) (by omega)), fun b hb => by rw [f2.1 b (by omega)]; exact g2 b (by omega) (by omega)⟩
    rw [Nat.zero_add, f2.2 j hj, nw_row _ ha j hj]
    by_cases e : 1 + 10 * a ≤ j ∧ j < 1 + 10 * a + S.1 0 3
    · rw [if_pos e, if_pos (by omega)]
    · rw [if_neg e, if_neg (by omega), g2 438 (by decide) (by decide)]
      exact hX.nw hj
  · intro k M2 hk f2 ih
    refine r_iload d_Md_comes_7 rfl ?_
    refine r_aload_n d_Md_comes_9 rfl ?_
    refine g_Vi (av := []) d_Md_comes_10 k_Md_173 ws_Md_wide (by decide) rfl rfl (Nat.le_of_ble_eq_true rfl) rfl (c_Md_wide (by rw [f2.2 0 (by decide), if_neg (by omega)]; exact hz1)) ?_
    rintro _ _ ⟨rfl, rfl⟩
    refine n_icmp_ge d_Md_comes_13 (by omega) (by omega) (fun h9 => absurd h9 (by omega)) (fun _ => ?_)
    refine r_aload_n d_Md_comes_16 rfl ?_
    refine g_getr (b := 438) d_Md_comes_17 f_Md_56 rfl rfl rfl ?_
    refine r_iconst (v := nI 1) d_Md_comes_20 (by decide) ?_
    refine r_bipush (v := nI 10) d_Md_comes_21 (by decide) ?_
    refine r_iload_n d_Md_comes_23 rfl ?_
    refine n_imul d_Md_comes_24 ?_
    refine n_iadd d_Md_comes_25 ?_
    refine r_iload d_Md_comes_26 rfl ?_
    refine n_iadd d_Md_comes_28 ?_
    refine r_aload_n d_Md_comes_29 rfl ?_
    refine r_iload d_Md_comes_30 rfl ?_
    refine g_iald d_Md_comes_32 hc (by omega) (by omega) ?_
    refine r_top (y := nI (w k)) (by rw [f2.1 c (by omega), g2 c (by omega) (by omega)]; exact hw k (by omega)) ?_
    refine g_iast d_Md_comes_33 rfl (by omega) (by omega) ?_
    refine n_iinc (c := 1) (L' := [some (.ref 436), some (.ref c), some (.int (nI a)), some (.int (nI i)), some (.int (nI (k + 1)))]) d_Md_comes_34 rfl rfl (by decide) rfl ?_
    refine r_goto d_Md_comes_37 ?_
    refine ih _ ?_
    refine ⟨fun z hz => by rw [upm_ne _ _ _ hz]; exact f2.1 z hz, fun j hj => ?_⟩
    rw [upm_at]
    by_cases e : j = 1 + 10 * a + k
    · rw [if_pos e, if_pos (by omega), show j - (1 + 10 * a) = k by omega]
    · rw [if_neg e, f2.2 j hj]
      by_cases e2 : 1 + 10 * a ≤ j ∧ j < 1 + 10 * a + k
      · rw [if_pos e2, if_pos (by omega)]
      · rw [if_neg e2, if_neg (by omega)]
theorem c_Md_matrix {c t : Nat} (hW : WS S) (hX : MR M S) (h0 : 0 < S.1 0 3) (hc : gT c = (1, 100)) (hc2 : 443 ≤ c ∧ c < 453) (ht : t < 4) : CV o l m_Md_matrix n [.ref 436, .int (nI t), .ref c] M (fun M' => (∀ q, q ≠ 443 → q ≠ 444 → q ≠ 446 → q ≠ 447 → q ≠ c → M' q = M q) ∧ MX M' c (S.1 0 3) (cm (S.1 0 3) (S.1 (21 + 3 * t)) (S.1 (22 + 3 * t))) ∧ OKs M' 443 10 (S.1 (21 + 3 * t)) ∧ OKs M' 444 10 (S.1 (22 + 3 * t))) := by
  refine cvo_of rfl rfl rfl (Nat.le_of_ble_eq_true rfl) ?_
  have hs := hW.sz10
  have n3 : c ≠ 443 := fun e => by rw [e] at hc; exact absurd hc (by decide)
  have n4 : c ≠ 444 := fun e => by rw [e] at hc; exact absurd hc (by decide)
  refine r_aload_n d_Md_matrix_0 rfl ?_
  refine r_bipush (v := nI 61) d_Md_matrix_1 (by decide) ?_
  refine r_bipush (v := nI 20) d_Md_matrix_3 (by decide) ?_
  refine r_iload_n d_Md_matrix_5 rfl ?_
  refine n_imul d_Md_matrix_6 ?_
  refine n_iadd d_Md_matrix_7 ?_
  refine r_aload_n d_Md_matrix_8 rfl ?_
  refine g_getr (b := 443) d_Md_matrix_9 f_Md_72 rfl rfl rfl ?_
  refine g_Vv (av := [.int (nI (61 + (20 * t))), .ref 443]) d_Md_matrix_12 k_Md_189 ws_Md_takes (by decide) rfl rfl (Nat.le_of_ble_eq_true rfl) rfl (c_Md_takes (c := 443) (p := 61 + 20 * t) rfl (by decide) (by omega) hs hX.sz (fun j hj => hX.tg ht hj) (fun j h1 h2 => hW.rz h0 (rx_g ht) h1 h2)) ?_
  rintro M1 g1
  refine r_aload_n d_Md_matrix_15 rfl ?_
  refine r_bipush (v := nI 61) d_Md_matrix_16 (by decide) ?_
  refine r_bipush (v := nI 20) d_Md_matrix_18 (by decide) ?_
  refine r_iload_n d_Md_matrix_20 rfl ?_
  refine n_imul d_Md_matrix_21 ?_
  refine n_iadd d_Md_matrix_22 ?_
  refine r_bipush (v := nI 10) d_Md_matrix_23 (by decide) ?_
  refine n_iadd d_Md_matrix_25 ?_
  refine r_aload_n d_Md_matrix_26 rfl ?_
  refine g_getr (b := 444) d_Md_matrix_27 f_Md_75 rfl rfl rfl ?_
  refine g_Vv (av := [.int (nI ((61 + (20 * t)) + 10)), .ref 444]) d_Md_matrix_30 k_Md_189 ws_Md_takes (by decide) rfl rfl (Nat.le_of_ble_eq_true rfl) rfl (c_Md_takes (c := 444) (p := 61 + 20 * t + 10) rfl (by decide) (by omega) hs (by rw [g1.1 438 (by decide)]; exact hX.sz) (fun j hj => by rw [g1.1 438 (by decide)]; exact hX.tf ht hj) (fun j h1 h2 => hW.rz h0 (rx_h ht) h1 h2)) ?_
  rintro M2 g2
  have k1 : OKs M2 443 10 (S.1 (21 + 3 * t)) := g2.okn (g1.ok (fun j hj => hW.rlt (rx_g ht) hj)) (by decide)
  have k2 : OKs M2 444 10 (S.1 (22 + 3 * t)) := g2.ok (fun j hj => hW.rlt (rx_h ht) hj)
  refine r_aload_n d_Md_matrix_33 rfl ?_
  refine r_aload_n d_Md_matrix_34 rfl ?_
  refine g_getr (b := 443) d_Md_matrix_35 f_Md_72 rfl rfl rfl ?_
  refine r_aload_n d_Md_matrix_38 rfl ?_
  refine g_getr (b := 444) d_Md_matrix_39 f_Md_75 rfl rfl rfl ?_
  refine r_aload_n d_Md_matrix_42 rfl ?_
  refine g_Vv (av := [.ref 443, .ref 444, .ref c]) d_Md_matrix_43 k_Md_196 ws_Md_columns (by decide) rfl rfl (Nat.le_of_ble_eq_true rfl) rfl (c_Md_columns rfl rfl hc (by decide) ⟨by decide, by decide, fun e => n4 e.symm⟩ (by omega) hs (by rw [g2.1 438 (by decide), g1.1 438 (by decide)]; exact hX.sz) k1 (k2.le hs)) ?_
  rintro M3 ⟨g3, g4⟩
  refine g_retv d_Md_matrix_46 rfl ?_
  exact ⟨fun q q1 q2 q3 q4 q5 => by rw [g3 q q3 q4 q5, g2.1 q q2, g1.1 q q1], g4, k1.kept (g3 443 (by decide) (by decide) (fun e => n3 e.symm)), k2.kept (g3 444 (by decide) (by decide) (fun e => n4 e.symm))⟩
theorem c_Md_unlikeAt {a b s : Nat} {A B : Nat → Nat → Nat} (ha : gT a = (1, 100)) (hb : gT b = (1, 100)) (hs : s ≤ 10) (hz : M 438 0 = nI s) (hA : MX M a s A) (hB : MX M b s B) (hu : ∀ i j, i < j → j < s → A i j = B i j) : CI o l m_Md_unlikeAt n [.ref 436, .ref a, .ref b] M (fun r M' => FD s (fun i j => A i j ≠ B i j) r ∧ M = M') := by
  refine ci_of rfl rfl rfl (Nat.le_of_ble_eq_true rfl) ?_
  refine r_iconst (v := nI 0) d_Md_unlikeAt_0 (by decide) ?_
  refine r_istore_n (L' := [some (.ref 436), some (.ref a), some (.ref b), some (.int (nI 0)), none]) d_Md_unlikeAt_1 (by decide) rfl ?_
  refine lp (a := 0) (N := s) (R := fun i M' => Rn o l m_Md_unlikeAt (0, 0) 2 [some (.ref 436), some (.ref a), some (.ref b), some (.int (nI i)), none] [] (gh n M') (QI n (fun r M' => FD s (fun i j => A i j ≠ B i j) r ∧ M = M'))) (P := fun i M' => M' = M ∧ ∀ i' j', i' < i → j' < s → A i' j' = B i' j') (by omega) ?_ ?_ ?_
  · exact ⟨rfl, fun i' j' h => absurd h (Nat.not_lt_zero _)⟩
  · rintro M1 ⟨rfl, h1⟩
    refine r_iload_n d_Md_unlikeAt_2 rfl ?_
    refine r_aload_n d_Md_unlikeAt_3 rfl ?_
    refine g_Vi (av := []) d_Md_unlikeAt_4 k_Md_173 ws_Md_wide (by decide) rfl rfl (Nat.le_of_ble_eq_true rfl) rfl (c_Md_wide (hz)) ?_
    rintro _ _ ⟨rfl, rfl⟩
    refine n_icmp_ge d_Md_unlikeAt_7 (by omega) (by omega) (fun _ => ?_) (fun h9 => absurd h9 (by omega))
    refine r_iconst (v := -1) d_Md_unlikeAt_63 (by decide) ?_
    refine g_reti d_Md_unlikeAt_64 rfl ?_
    exact ⟨Or.inr ⟨rfl, fun i j hi hj h => h (h1 i j hi (by omega))⟩, rfl⟩
  · rintro i M1 hi ⟨rfl, h1⟩ ih
    refine r_iload_n d_Md_unlikeAt_2 rfl ?_
    refine r_aload_n d_Md_unlikeAt_3 rfl ?_
    refine g_Vi (av := []) d_Md_unlikeAt_4 k_Md_173 ws_Md_wide (by decide) rfl rfl (Nat.le_of_ble_eq_true rfl) rfl (c_Md_wide (hz)) ?_
    rintro _ _ ⟨rfl, rfl⟩
    refine n_icmp_ge d_Md_unlikeAt_7 (by omega) (by omega) (fun h9 => absurd h9 (by omega)) (fun _ => ?_)
    refine r_iconst (v := nI 0) d_Md_unlikeAt_10 (by decide) ?_
    refine r_istore (L' := [some (.ref 436), some (.ref a), some (.ref b), some (.int (nI i)), some (.int (nI 0))]) d_Md_unlikeAt_11 (by decide) rfl ?_
    refine lp (a := 0) (N := s) (R := fun j M' => Rn o l m_Md_unlikeAt (0, 0) 13 [some (.ref 436), some (.ref a), some (.ref b), some (.int (nI i)), some (.int (nI j))] [] (gh n M') (QI n (fun r M' => FD s (fun i j => A i j ≠ B i j) r ∧ M1 = M'))) (P := fun j M' => M' = M1 ∧ ∀ j', j' < j → A i j' = B i j') (by omega) ?_ ?_ ?_
    · exact ⟨rfl, fun j' h => absurd h (Nat.not_lt_zero _)⟩
    · rintro M2 ⟨rfl, h2⟩
      refine r_iload d_Md_unlikeAt_13 rfl ?_
      refine r_aload_n d_Md_unlikeAt_15 rfl ?_
      refine g_Vi (av := []) d_Md_unlikeAt_16 k_Md_173 ws_Md_wide (by decide) rfl rfl (Nat.le_of_ble_eq_true rfl) rfl (c_Md_wide (hz)) ?_
      rintro _ _ ⟨rfl, rfl⟩
      refine n_icmp_ge d_Md_unlikeAt_19 (by omega) (by omega) (fun _ => ?_) (fun h9 => absurd h9 (by omega))
      refine n_iinc (c := 1) (L' := [some (.ref 436), some (.ref a), some (.ref b), some (.int (nI (i + 1))), some (.int (nI s))]) d_Md_unlikeAt_57 rfl rfl (by decide) rfl ?_
      refine r_goto d_Md_unlikeAt_60 ?_
      refine r_weak (L' := [some (.ref 436), some (.ref a), some (.ref b), some (.int (nI (i + 1))), none]) (wk_s (wk_s (wk_s (wk_s (wk_n wk_0))))) (ih _ ?_)
      refine ⟨rfl, fun i' j' a1 a2 => ?_⟩
      by_cases e : i' = i
      · rw [e]; exact h2 j' a2
      · exact h1 i' j' (by omega) a2
    · rintro j M2 hj ⟨rfl, h2⟩ ih2
      refine r_iload d_Md_unlikeAt_13 rfl ?_
      refine r_aload_n d_Md_unlikeAt_15 rfl ?_
      refine g_Vi (av := []) d_Md_unlikeAt_16 k_Md_173 ws_Md_wide (by decide) rfl rfl (Nat.le_of_ble_eq_true rfl) rfl (c_Md_wide (hz)) ?_
      rintro _ _ ⟨rfl, rfl⟩
      refine n_icmp_ge d_Md_unlikeAt_19 (by omega) (by omega) (fun h9 => absurd h9 (by omega)) (fun _ => ?_)
      refine r_aload_n d_Md_unlikeAt_22 rfl ?_
      refine r_bipush (v := nI 10) d_Md_unlikeAt_23 (by decide) ?_
      refine r_iload_n d_Md_unlikeAt_25 rfl ?_
      refine n_imul d_Md_unlikeAt_26 ?_
      refine r_iload d_Md_unlikeAt_27 rfl ?_
      refine n_iadd d_Md_unlikeAt_29 ?_
      refine g_iald d_Md_unlikeAt_30 ha (by omega) (by omega) ?_
      refine r_top (y := nI (A i j)) ((hA i j (by omega) (by omega)).1) ?_
      refine r_aload_n d_Md_unlikeAt_31 rfl ?_
      refine r_bipush (v := nI 10) d_Md_unlikeAt_32 (by decide) ?_
      refine r_iload_n d_Md_unlikeAt_34 rfl ?_
      refine n_imul d_Md_unlikeAt_35 ?_
      refine r_iload d_Md_unlikeAt_36 rfl ?_
      refine n_iadd d_Md_unlikeAt_38 ?_
      refine g_iald d_Md_unlikeAt_39 hb (by omega) (by omega) ?_
      refine r_top (y := nI (B i j)) ((hB i j (by omega) (by omega)).1) ?_
      refine n_icmp_eq d_Md_unlikeAt_40 (by have h9 := (hA i j (by omega) (by omega)).2; omega) (by have h9 := (hB i j (by omega) (by omega)).2; omega) (fun hc => ?_) (fun hc => ?_)
      · refine n_iinc (c := 1) (L' := [some (.ref 436), some (.ref a), some (.ref b), some (.int (nI i)), some (.int (nI (j + 1)))]) d_Md_unlikeAt_51 rfl rfl (by decide) rfl ?_
        refine r_goto d_Md_unlikeAt_54 ?_
        refine ih2 _ ?_
        refine ⟨rfl, fun j' a1 => ?_⟩
        by_cases e : j' = j
        · rw [e]; exact hc
        · exact h2 j' (by omega)
      · refine r_bipush (v := nI 10) d_Md_unlikeAt_43 (by decide) ?_
        refine r_iload_n d_Md_unlikeAt_45 rfl ?_
        refine n_imul d_Md_unlikeAt_46 ?_
        refine r_iload d_Md_unlikeAt_47 rfl ?_
        refine n_iadd d_Md_unlikeAt_49 ?_
        refine g_reti d_Md_unlikeAt_50 rfl ?_
        have hji : j ≤ i := Nat.le_of_not_lt fun q => hc (hu i j q (by omega))
        refine ⟨Or.inl ⟨i, j, by omega, hji, hc, rfl, fun i' j' a1 a2 z => z ?_⟩, rfl⟩
        rcases a2 with a2 | ⟨rfl, a2⟩
        · exact h1 i' j' a2 (by omega)
        · exact h2 j' a2
end C65
