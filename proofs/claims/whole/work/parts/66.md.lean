/-! The reference: the calls on the tape, the acts, the images -/
def LSt (q : Nat) (w : Int32) (M : Mem) (e : Nat) (M' : Mem) : Prop := M' 436 2 = nI (q + e) ∧ (∀ j, M' 437 j = if q ≤ j ∧ j < q + e then nI (bt w (24 - 8 * (j - q))) else M 437 j) ∧ (∀ b, b ≠ 436 → b ≠ 437 → M' b = M b) ∧ ∀ k, k ≠ 2 → M' 436 k = M 436 k
theorem LSt.up {q : Nat} {w : Int32} {M M1 : Mem} {e sh : Nat} (h : LSt q w M e M1) (he : sh = 24 - 8 * e) : LSt q w M (e + 1) (upm (upm M1 437 (q + e) (nI (bt w sh))) 436 2 (nI (q + e + 1))) := by
  obtain ⟨h1, h2, h3, h4⟩ := h
  subst he
  refine ⟨by rw [upm_at, if_pos rfl]; rfl, fun j => ?_, fun b b1 b2 => by rw [upm_ne _ _ _ b1, upm_ne _ _ _ b2]; exact h3 b b1 b2, fun k hk => by rw [upm_at, if_neg hk, upm_ne _ _ _ (by decide)]; exact h4 k hk⟩
  rw [upm_ne _ _ _ (by decide), upm_at]
  by_cases c : j = q + e
  · rw [if_pos c, if_pos (by omega), show 24 - 8 * (j - q) = 24 - 8 * e by omega]
  · rw [if_neg c, h2 j]
    by_cases c2 : q ≤ j ∧ j < q + e
    · rw [if_pos c2, if_pos (by omega)]
    · rw [if_neg c2, if_neg (by omega)]
theorem mt_step {M M' : Mem} {T : Nat → Nat} {q : Nat} {w : Int32} (h : ∀ j, j < q → T j < 256 ∧ M 437 j = nI (T j)) (h2 : ∀ j, M' 437 j = if q ≤ j ∧ j < q + 4 then nI (bt w (24 - 8 * (j - q))) else M 437 j) : ∀ j, j < q + 4 → tpF T q w j < 256 ∧ M' 437 j = nI (tpF T q w j) := by
  intro j hj
  unfold tpF
  rw [h2 j]
  by_cases e : q ≤ j ∧ j < q + 4
  · rw [if_pos e, if_pos e]
    exact ⟨bt_lt _ _, rfl⟩
  · rw [if_neg e, if_neg e]
    exact h j (by omega)
theorem rs_z {x : Nat → Nat} {s m : Nat} (h : s ≤ m) (hz : ∀ j, s ≤ j → j < m → x j = 0) : rs x m = rs x s := by
  induction m with
  | zero =>
    obtain rfl : s = 0 := by omega
    rfl
  | succ m ih =>
    by_cases e : s = m + 1
    · rw [e]
    · rw [rs, ih (by omega) (fun j h1 h2 => hz j h1 (by omega)), hz m (by omega) (by omega), Nat.add_zero]
theorem rs_10 (C : Core) (k b : Nat) (hk : k < 6) (hb : b ≤ 10) : rs (fun t => nw C (1 + t)) (10 * k + b) = rs (fun t => nw C (1 + t)) (10 * k) + rs (C (2 + k)) b := by
  induction b with
  | zero => rfl
  | succ b ih =>
    show rs (fun t => nw C (1 + t)) (10 * k + b) + nw C (1 + (10 * k + b)) = _ + (rs (C (2 + k)) b + C (2 + k) b)
    rw [ih (by omega), show 1 + (10 * k + b) = 1 + 10 * k + b by omega, nw_ser C hk (by omega)]
    omega
theorem tot_60 {C : Core} (hC : WC C) (h0 : 0 < C 0 3) (k : Nat) (hk : k ≤ 6) : rs (fun t => nw C (1 + t)) (10 * k) = tot C k := by
  induction k with
  | zero => rfl
  | succ k ih =>
    rw [show 10 * (k + 1) = 10 * k + 10 by omega, rs_10 C k 10 (by omega) (Nat.le_refl _), ih (by omega), tot]
    congr 1
    exact rs_z (by have := hC.1; omega) (fun j h1 h2 => hC.2.2.1 (by omega) _ (Or.inl ⟨by omega, by omega⟩) j h1 h2)
theorem rs_le {x : Nat → Nat} {m : Nat} (h : ∀ j, j < m → x j < 1000003) : rs x m ≤ m * 1000003 := by
  induction m with
  | zero => exact Nat.zero_le _
  | succ m ih =>
    have h1 := ih (fun j hj => h j (by omega))
    have h2 := h m (by omega)
    rw [rs]
    omega
theorem MR.m0 {M : Mem} {S : SS} (hX : MR M S) : ∃ M0, upm M 436 0 (nI 0) = M0 ∧ KM M M0 ∧ MR M0 S ∧ M0 436 0 = nI 0 := ⟨_, rfl, KM.rf.up (by decide), hX.thr, by rw [upm_at, if_pos rfl]⟩
section C66
variable {o : OM} {l : Launch} {n : Nat} {M : Mem} {S : SS}
theorem c_Md_in0_t {v : Int32} {N : Nat} (hN : N < 2 ^ 31 - 1) (h : inN (N + 1) v) : CI o l m_Md_isIn n [.int v, .int (nI 0), .int (nI N)] M (fun r M' => r = nI 1 ∧ M = M') := by
  refine ci_mono c_Md_isIn ?_
  rintro r M' ⟨⟨h1, h2⟩ | ⟨h1, h2⟩, h3⟩
  · exact ⟨h1, h3⟩
  · exact absurd ((in_iff hN).mpr h) h2
theorem c_Md_in0_f {v : Int32} {N : Nat} (hN : N < 2 ^ 31 - 1) (h : ¬ inN (N + 1) v) : CI o l m_Md_isIn n [.int v, .int (nI 0), .int (nI N)] M (fun r M' => r = nI 0 ∧ M = M') := by
  refine ci_mono c_Md_isIn ?_
  rintro r M' ⟨⟨h1, h2⟩ | ⟨h1, h2⟩, h3⟩
  · exact absurd ((in_iff hN).mp h2) h
  · exact ⟨h1, h3⟩
theorem c_Md_lays {q : Nat} {w : Int32} (hq : q + 4 ≤ 540) (h1 : M 436 2 = nI q) : CV o l m_Md_lays n [.ref 436, .int w] M (fun M' => LSt q w M 4 M') := by
  refine cvo_of rfl rfl rfl (Nat.le_of_ble_eq_true rfl) ?_
  have h0 : LSt q w M 0 M := ⟨h1, fun j => by rw [if_neg (by omega)], fun _ _ _ => rfl, fun _ _ => rfl⟩
  refine r_bipush (v := nI 24) d_Md_lays_0 (by decide) ?_
  refine r_istore_n (L' := [some (.ref 436), some (.int w), some (.int (nI 24))]) d_Md_lays_2 (by decide) rfl ?_
  refine r_iload_n d_Md_lays_3 rfl ?_
  refine n_if_lt d_Md_lays_4 (by omega) ?_
  refine r_aload_n d_Md_lays_7 rfl ?_
  refine g_getr (b := 437) d_Md_lays_8 f_Md_7 rfl rfl rfl ?_
  refine r_aload_n d_Md_lays_11 rfl ?_
  refine g_geti d_Md_lays_12 f_Md_11 rfl rfl ?_
  refine r_top (y := (nI (q + 0))) (h0.1) ?_
  refine r_iload_n d_Md_lays_15 rfl ?_
  refine r_iload_n d_Md_lays_16 rfl ?_
  refine r_iushr d_Md_lays_17 ?_
  refine r_sipush (v := nI 255) d_Md_lays_18 (by decide) ?_
  refine r_iand d_Md_lays_21 ?_
  refine r_top (bt_m w 24 (by decide)) ?_
  refine g_iast d_Md_lays_22 rfl (by omega) (by omega) ?_
  refine r_aload_n d_Md_lays_23 rfl ?_
  refine r_dup d_Md_lays_24 rfl ?_
  refine g_geti d_Md_lays_25 f_Md_11 rfl rfl ?_
  refine r_top (y := (nI (q + 0))) (by rw [upm_ne _ _ _ (by decide)]; exact h0.1) ?_
  refine r_iconst (v := nI 1) d_Md_lays_28 (by decide) ?_
  refine n_iadd d_Md_lays_29 ?_
  refine g_puti d_Md_lays_30 f_Md_11 ⟨rfl, rfl, rfl⟩ rfl ?_
  refine r_iinc (v := nI 16) (L' := [some (.ref 436), some (.int w), some (.int (nI 16))]) d_Md_lays_33 rfl (by decide) (by decide) rfl ?_
  refine r_goto d_Md_lays_36 ?_
  have h1 := h0.up (sh := 24) rfl
  generalize upm (upm M 437 (q + 0) (nI (bt w 24))) 436 2 (nI (q + 0 + 1)) = M1 at *
  refine r_iload_n d_Md_lays_3 rfl ?_
  refine n_if_lt d_Md_lays_4 (by omega) ?_
  refine r_aload_n d_Md_lays_7 rfl ?_
  refine g_getr (b := 437) d_Md_lays_8 f_Md_7 rfl rfl rfl ?_
  refine r_aload_n d_Md_lays_11 rfl ?_
  refine g_geti d_Md_lays_12 f_Md_11 rfl rfl ?_
  refine r_top (y := (nI (q + 1))) (h1.1) ?_
  refine r_iload_n d_Md_lays_15 rfl ?_
  refine r_iload_n d_Md_lays_16 rfl ?_
  refine r_iushr d_Md_lays_17 ?_
  refine r_sipush (v := nI 255) d_Md_lays_18 (by decide) ?_
  refine r_iand d_Md_lays_21 ?_
  refine r_top (bt_m w 16 (by decide)) ?_
  refine g_iast d_Md_lays_22 rfl (by omega) (by omega) ?_
  refine r_aload_n d_Md_lays_23 rfl ?_
  refine r_dup d_Md_lays_24 rfl ?_
  refine g_geti d_Md_lays_25 f_Md_11 rfl rfl ?_
  refine r_top (y := (nI (q + 1))) (by rw [upm_ne _ _ _ (by decide)]; exact h1.1) ?_
  refine r_iconst (v := nI 1) d_Md_lays_28 (by decide) ?_
  refine n_iadd d_Md_lays_29 ?_
  refine g_puti d_Md_lays_30 f_Md_11 ⟨rfl, rfl, rfl⟩ rfl ?_
  refine r_iinc (v := nI 8) (L' := [some (.ref 436), some (.int w), some (.int (nI 8))]) d_Md_lays_33 rfl (by decide) (by decide) rfl ?_
  refine r_goto d_Md_lays_36 ?_
  have h2 := h1.up (sh := 16) rfl
  generalize upm (upm M1 437 (q + 1) (nI (bt w 16))) 436 2 (nI (q + 1 + 1)) = M2 at *
  refine r_iload_n d_Md_lays_3 rfl ?_
  refine n_if_lt d_Md_lays_4 (by omega) ?_
  refine r_aload_n d_Md_lays_7 rfl ?_
  refine g_getr (b := 437) d_Md_lays_8 f_Md_7 rfl rfl rfl ?_
  refine r_aload_n d_Md_lays_11 rfl ?_
  refine g_geti d_Md_lays_12 f_Md_11 rfl rfl ?_
  refine r_top (y := (nI (q + 2))) (h2.1) ?_
  refine r_iload_n d_Md_lays_15 rfl ?_
  refine r_iload_n d_Md_lays_16 rfl ?_
  refine r_iushr d_Md_lays_17 ?_
  refine r_sipush (v := nI 255) d_Md_lays_18 (by decide) ?_
  refine r_iand d_Md_lays_21 ?_
  refine r_top (bt_m w 8 (by decide)) ?_
  refine g_iast d_Md_lays_22 rfl (by omega) (by omega) ?_
  refine r_aload_n d_Md_lays_23 rfl ?_
  refine r_dup d_Md_lays_24 rfl ?_
  refine g_geti d_Md_lays_25 f_Md_11 rfl rfl ?_
  refine r_top (y := (nI (q + 2))) (by rw [upm_ne _ _ _ (by decide)]; exact h2.1) ?_
  refine r_iconst (v := nI 1) d_Md_lays_28 (by decide) ?_
  refine n_iadd d_Md_lays_29 ?_
  refine g_puti d_Md_lays_30 f_Md_11 ⟨rfl, rfl, rfl⟩ rfl ?_
  refine r_iinc (v := nI 0) (L' := [some (.ref 436), some (.int w), some (.int (nI 0))]) d_Md_lays_33 rfl (by decide) (by decide) rfl ?_
  refine r_goto d_Md_lays_36 ?_
  have h3 := h2.up (sh := 8) rfl
  generalize upm (upm M2 437 (q + 2) (nI (bt w 8))) 436 2 (nI (q + 2 + 1)) = M3 at *
  refine r_iload_n d_Md_lays_3 rfl ?_
  refine n_if_lt d_Md_lays_4 (by omega) ?_
  refine r_aload_n d_Md_lays_7 rfl ?_
  refine g_getr (b := 437) d_Md_lays_8 f_Md_7 rfl rfl rfl ?_
  refine r_aload_n d_Md_lays_11 rfl ?_
  refine g_geti d_Md_lays_12 f_Md_11 rfl rfl ?_
  refine r_top (y := (nI (q + 3))) (h3.1) ?_
  refine r_iload_n d_Md_lays_15 rfl ?_
  refine r_iload_n d_Md_lays_16 rfl ?_
  refine r_iushr d_Md_lays_17 ?_
  refine r_sipush (v := nI 255) d_Md_lays_18 (by decide) ?_
  refine r_iand d_Md_lays_21 ?_
  refine r_top (bt_m w 0 (by decide)) ?_
  refine g_iast d_Md_lays_22 rfl (by omega) (by omega) ?_
  refine r_aload_n d_Md_lays_23 rfl ?_
  refine r_dup d_Md_lays_24 rfl ?_
  refine g_geti d_Md_lays_25 f_Md_11 rfl rfl ?_
  refine r_top (y := (nI (q + 3))) (by rw [upm_ne _ _ _ (by decide)]; exact h3.1) ?_
  refine r_iconst (v := nI 1) d_Md_lays_28 (by decide) ?_
  refine n_iadd d_Md_lays_29 ?_
  refine g_puti d_Md_lays_30 f_Md_11 ⟨rfl, rfl, rfl⟩ rfl ?_
  refine r_iinc (v := -8) (L' := [some (.ref 436), some (.int w), some (.int (-8))]) d_Md_lays_33 rfl (by decide) (by decide) rfl ?_
  refine r_goto d_Md_lays_36 ?_
  refine r_iload_n d_Md_lays_3 rfl ?_
  have h4 := h3.up (sh := 0) rfl
  refine r_if_lt d_Md_lays_4 (fun hc => ?_) (fun hc => ?_)
  · refine g_retv d_Md_lays_39 rfl ?_
    exact h4
  · exact absurd (by decide) hc
theorem LSt.mt {M M' : Mem} {T : Nat → Nat} {q a b c : Nat} {w : Int32} (h : LSt q w M 4 M') (hM : MT M (T, q, a, b, c)) (hq : q + 4 ≤ 540) : MT M' (tpF T q w, q + 4, a, b, c) := by
  obtain ⟨h1, h2, h3, h4⟩ := h
  obtain ⟨a1, a2, a3, a4, a5, a6⟩ := hM
  exact ⟨h1, hq, mt_step a3 h2, by rw [h4 8 (by decide)]; exact a4, by rw [h4 16 (by decide)]; exact a5, by rw [h4 17 (by decide)]; exact a6⟩
theorem c_Md_feed {a b c d e : Int32} (hX : MR M S) : CI o l m_Md_feed n [.ref 436, .int a, .int b, .int c, .int d, .int e] M (PM M (f_feed S a b c d e)) := by
  refine ci_of rfl rfl rfl (Nat.le_of_ble_eq_true rfl) ?_
  refine r_aload_n d_Md_feed_0 rfl ?_
  refine r_iconst (v := nI 0) d_Md_feed_1 (by decide) ?_
  refine g_puti d_Md_feed_2 f_Md_1 ⟨rfl, rfl, rfl⟩ rfl ?_
  obtain ⟨M0, e0, hk0, hX0, -⟩ := hX.m0
  rw [e0]
  have x4 : M0 436 2 = nI S.2.2.2.2.1 := hX0.2.2.2.1
  have x5 : S.2.2.2.2.1 ≤ 540 := hX0.2.2.2.2.1
  refine r_aload_n d_Md_feed_5 rfl ?_
  refine g_geti d_Md_feed_6 f_Md_11 rfl rfl ?_
  refine r_top (y := (nI (S.2.2.2.2.1))) (x4) ?_
  refine r_bipush (v := nI 20) d_Md_feed_9 (by decide) ?_
  refine n_iadd d_Md_feed_11 ?_
  refine r_sipush (v := nI 540) d_Md_feed_12 (by decide) ?_
  refine n_icmp_le d_Md_feed_15 (by omega) (by omega) (fun hc => ?_) (fun hc => ?_)
  · rw [f_feed, ic_t (by omega)]
    refine r_aload_n d_Md_feed_20 rfl ?_
    refine r_iload_n d_Md_feed_21 rfl ?_
    refine g_Vv (av := [.int a]) d_Md_feed_22 k_Md_14 ws_Md_lays (by decide) rfl rfl (Nat.le_of_ble_eq_true rfl) rfl (c_Md_lays (q := S.2.2.2.2.1) (by omega) x4) ?_
    rintro M1 a1
    refine r_aload_n d_Md_feed_25 rfl ?_
    refine r_iload_n d_Md_feed_26 rfl ?_
    refine g_Vv (av := [.int b]) d_Md_feed_27 k_Md_14 ws_Md_lays (by decide) rfl rfl (Nat.le_of_ble_eq_true rfl) rfl (c_Md_lays (by omega) a1.1) ?_
    rintro M2 a2
    refine r_aload_n d_Md_feed_30 rfl ?_
    refine r_iload_n d_Md_feed_31 rfl ?_
    refine g_Vv (av := [.int c]) d_Md_feed_32 k_Md_14 ws_Md_lays (by decide) rfl rfl (Nat.le_of_ble_eq_true rfl) rfl (c_Md_lays (by omega) a2.1) ?_
    rintro M3 a3
    refine r_aload_n d_Md_feed_35 rfl ?_
    refine r_iload d_Md_feed_36 rfl ?_
    refine g_Vv (av := [.int d]) d_Md_feed_38 k_Md_14 ws_Md_lays (by decide) rfl rfl (Nat.le_of_ble_eq_true rfl) rfl (c_Md_lays (by omega) a3.1) ?_
    rintro M4 a4
    refine r_aload_n d_Md_feed_41 rfl ?_
    refine r_iload d_Md_feed_42 rfl ?_
    refine g_Vv (av := [.int e]) d_Md_feed_44 k_Md_14 ws_Md_lays (by decide) rfl rfl (Nat.le_of_ble_eq_true rfl) rfl (c_Md_lays (by omega) a4.1) ?_
    rintro M5 a5
    refine r_aload_n d_Md_feed_47 rfl ?_
    refine g_geti d_Md_feed_48 f_Md_11 rfl rfl ?_
    refine r_top (y := (nI (S.2.2.2.2.1 + 20))) (a5.1) ?_
    refine g_reti d_Md_feed_51 rfl ?_
    have k : ∀ z, z ≠ 436 → z ≠ 437 → M5 z = M0 z := fun z z1 z2 => by rw [a5.2.2.1 z z1 z2, a4.2.2.1 z z1 z2, a3.2.2.1 z z1 z2, a2.2.2.1 z z1 z2, a1.2.2.1 z z1 z2]
    have k2 : M5 436 15 = M0 436 15 := by rw [a5.2.2.2 15 (by decide), a4.2.2.2 15 (by decide), a3.2.2.2 15 (by decide), a2.2.2.2 15 (by decide), a1.2.2.2 15 (by decide)]
    have hT := a5.mt (a4.mt (a3.mt (a2.mt (a1.mt (T := S.2.2.2.1) (a := S.2.2.2.2.2.1) (b := S.2.2.2.2.2.2.1) (c := S.2.2.2.2.2.2.2) hX0.2.2.2 (by omega)) (by omega)) (by omega)) (by omega)) (by omega)
    refine ⟨rfl, ⟨hX0.1.kept (k 438 (by decide) (by decide)), hX0.2.1.kept k2 (k 441 (by decide) (by decide)), ?_, hT⟩, hk0.trans (fun z z1 => k z (by omega) (by omega))⟩
    exact fun q hq => ⟨fun D hD => ⟨by rw [k 442 (by decide) (by decide)]; exact ((hX0.2.2.1 q hq).1 D hD).1, ((hX0.2.2.1 q hq).1 D hD).2.kept (k 440 (by decide) (by decide))⟩, fun e => by rw [k 442 (by decide) (by decide)]; exact (hX0.2.2.1 q hq).2 e⟩
  · refine r_iconst (v := -1) d_Md_feed_18 (by decide) ?_
    refine g_reti d_Md_feed_19 rfl ?_
    exact PM.no hX0 hk0 (by omega)
theorem c_Md_end {v : Int32} (hX : MR M S) : CI o l m_Md_end n [.ref 436, .int v] M (PM M (f_end S v)) := by
  refine ci_of rfl rfl rfl (Nat.le_of_ble_eq_true rfl) ?_
  refine r_aload_n d_Md_end_0 rfl ?_
  refine r_iconst (v := nI 0) d_Md_end_1 (by decide) ?_
  refine g_puti d_Md_end_2 f_Md_1 ⟨rfl, rfl, rfl⟩ rfl ?_
  obtain ⟨M0, e0, hk0, hX0, -⟩ := hX.m0
  rw [e0]
  obtain ⟨x1, x2, x3, ⟨x4, x5, x6, x7⟩⟩ := id hX0
  refine r_iload_n d_Md_end_5 rfl ?_
  refine r_if_lt d_Md_end_6 (fun hc => ?_) (fun hc => ?_)
  · refine r_iconst (v := nI 0) d_Md_end_17 (by decide) ?_
    refine g_retz d_Md_end_18 rfl (by decide) ?_
    exact PM.no hX0 hk0 (inN_f1 hc)
  · have e := nI_ix hc
    have e2 : ix v < 2 ^ 31 := by have h2 := v.toInt_lt; unfold ix; omega
    rw [f_end]
    generalize ix v = k at *
    subst e
    refine r_iload_n d_Md_end_9 rfl ?_
    refine r_aload_n d_Md_end_10 rfl ?_
    refine g_geti d_Md_end_11 f_Md_11 rfl rfl ?_
    refine r_top (y := (nI (S.2.2.2.2.1))) (x4) ?_
    refine n_icmp_le d_Md_end_14 (by omega) (by omega) (fun hc2 => ?_) (fun hc2 => ?_)
    · rw [ic_t (show inN (S.2.2.2.2.1 + 1) (nI k) from ⟨by rw [ix_nI e2]; omega, by rw [ix_nI e2]⟩)]
      refine r_aload_n d_Md_end_19 rfl ?_
      refine r_iload_n d_Md_end_20 rfl ?_
      refine g_puti d_Md_end_21 f_Md_11 ⟨rfl, rfl, rfl⟩ rfl ?_
      refine r_iconst (v := nI 1) d_Md_end_24 (by decide) ?_
      refine g_retz d_Md_end_25 rfl (by decide) ?_
      have k9 : ∀ z, z ≠ 436 → upm M0 436 2 (nI k) z = M0 z := fun z z1 => upm_ne _ _ _ z1
      have k8 : ∀ z, z ≠ 2 → upm M0 436 2 (nI k) 436 z = M0 436 z := fun z z1 => by rw [upm_at, if_neg z1]
      refine ⟨rfl, ⟨x1.kept (k9 438 (by decide)), x2.kept (k8 15 (by decide)) (k9 441 (by decide)), ?_, ⟨by rw [upm_at, if_pos rfl], by show k ≤ 540; omega, fun j hj => ?_, ?_⟩⟩, hk0.up (by decide)⟩
      · exact fun q hq => ⟨fun D hD => ⟨by rw [k9 442 (by decide)]; exact ((x3 q hq).1 D hD).1, ((x3 q hq).1 D hD).2.kept (k9 440 (by decide))⟩, fun e => by rw [k9 442 (by decide)]; exact (x3 q hq).2 e⟩
      · rw [k9 437 (by decide)]
        exact x6 j (Nat.lt_of_lt_of_le hj hc2)
      · rw [k8 8 (by decide), k8 16 (by decide), k8 17 (by decide)]
        exact x7
    · refine r_iconst (v := nI 0) d_Md_end_17 (by decide) ?_
      refine g_retz d_Md_end_18 rfl (by decide) ?_
      exact PM.no hX0 hk0 (fun z => by have := z.1; rw [ix_nI e2] at this; omega)
theorem c_Md_fault (hX : MR M S) : CI o l m_Md_fault n [.ref 436] M (PM M (f_fault S)) := by
  refine ci_of rfl rfl rfl (Nat.le_of_ble_eq_true rfl) ?_
  refine r_aload_n d_Md_fault_0 rfl ?_
  refine r_iconst (v := nI 0) d_Md_fault_1 (by decide) ?_
  refine g_puti d_Md_fault_2 f_Md_1 ⟨rfl, rfl, rfl⟩ rfl ?_
  obtain ⟨M0, e0, hk0, hX0, -⟩ := hX.m0
  rw [e0]
  refine r_aload_n d_Md_fault_5 rfl ?_
  refine g_geti d_Md_fault_6 f_Md_44 rfl rfl ?_
  refine r_top (y := (nI (S.2.2.2.2.2.1))) (hX0.2.2.2.2.2.2.1) ?_
  refine g_reti d_Md_fault_9 rfl ?_
  exact ⟨rfl, hX0, hk0⟩
theorem c_Md_now {v : Int32} (hX : MR M S) : CI o l m_Md_now n [.ref 436, .int v] M (PM M (f_now S v)) := by
  refine ci_of rfl rfl rfl (Nat.le_of_ble_eq_true rfl) ?_
  refine r_aload_n d_Md_now_0 rfl ?_
  refine r_iconst (v := nI 0) d_Md_now_1 (by decide) ?_
  refine g_puti d_Md_now_2 f_Md_1 ⟨rfl, rfl, rfl⟩ rfl ?_
  obtain ⟨M0, e0, hk0, hX0, -⟩ := hX.m0
  rw [e0]
  obtain ⟨x1, x2, x3, ⟨x4, x5, x6, x7, x9, x10⟩⟩ := id hX0
  by_cases hv : inN 5 v
  · rw [f_now, ic_t hv]
    obtain ⟨hv1, hv2⟩ := hv
    generalize ix v = k at *
    subst hv2
    rcases (show k = 0 ∨ k = 1 ∨ k = 2 ∨ k = 3 ∨ k = 4 by omega) with rfl | rfl | rfl | rfl | rfl
    · refine r_iload_n d_Md_now_5 rfl ?_
      refine r_tsIn (tgt := 40) d_Md_now_6 (by decide) (by decide) rfl rfl ?_
      refine r_aload_n d_Md_now_40 rfl ?_
      refine g_Vi (av := []) d_Md_now_41 k_Md_173 ws_Md_wide (by decide) rfl rfl (Nat.le_of_ble_eq_true rfl) rfl (c_Md_wide (hX0.sz)) ?_
      rintro _ _ ⟨rfl, rfl⟩
      refine g_reti d_Md_now_44 rfl ?_
      exact ⟨rfl, hX0, hk0⟩
    · refine r_iload_n d_Md_now_5 rfl ?_
      refine r_tsIn (tgt := 45) d_Md_now_6 (by decide) (by decide) rfl rfl ?_
      refine r_aload_n d_Md_now_45 rfl ?_
      refine g_geti d_Md_now_46 f_Md_167 rfl rfl ?_
      refine r_top (y := (nI (S.2.2.2.2.2.2.1))) (x9) ?_
      refine g_reti d_Md_now_49 rfl ?_
      exact ⟨rfl, hX0, hk0⟩
    · refine r_iload_n d_Md_now_5 rfl ?_
      refine r_tsIn (tgt := 50) d_Md_now_6 (by decide) (by decide) rfl rfl ?_
      refine r_aload_n d_Md_now_50 rfl ?_
      refine g_geti d_Md_now_51 f_Md_170 rfl rfl ?_
      refine r_top (y := (nI (S.2.2.2.2.2.2.2))) (x10) ?_
      refine g_reti d_Md_now_54 rfl ?_
      exact ⟨rfl, hX0, hk0⟩
    · refine r_iload_n d_Md_now_5 rfl ?_
      refine r_tsIn (tgt := 55) d_Md_now_6 (by decide) (by decide) rfl rfl ?_
      refine r_aload_n d_Md_now_55 rfl ?_
      refine g_geti d_Md_now_56 f_Md_164 rfl rfl ?_
      refine r_top (y := (nI (S.2.1.length))) (x2.1) ?_
      refine g_reti d_Md_now_59 rfl ?_
      exact ⟨rfl, hX0, hk0⟩
    · refine r_iload_n d_Md_now_5 rfl ?_
      refine r_tsIn (tgt := 60) d_Md_now_6 (by decide) (by decide) rfl rfl ?_
      refine r_aload_n d_Md_now_60 rfl ?_
      refine g_geti d_Md_now_61 f_Md_11 rfl rfl ?_
      refine r_top (y := (nI (S.2.2.2.2.1))) (x4) ?_
      refine g_reti d_Md_now_64 rfl ?_
      exact ⟨rfl, hX0, hk0⟩
  · refine r_iload_n d_Md_now_5 rfl ?_
    refine r_tsOut (tgt := 65) d_Md_now_6 (by have := ts_out (by decide) hv; omega) rfl ?_
    refine r_iconst (v := -1) d_Md_now_65 (by decide) ?_
    refine g_reti d_Md_now_66 rfl ?_
    exact PM.no hX0 hk0 hv
theorem c_Md_at {s i : Int32} (hW : WS S) (hX : MR M S) : CI o l m_Md_at n [.ref 436, .int s, .int i] M (PM M (f_at S s i)) := by
  refine ci_of rfl rfl rfl (Nat.le_of_ble_eq_true rfl) ?_
  have hs10 := hW.sz10
  refine r_aload_n d_Md_at_0 rfl ?_
  refine r_iconst (v := nI 0) d_Md_at_1 (by decide) ?_
  refine g_puti d_Md_at_2 f_Md_1 ⟨rfl, rfl, rfl⟩ rfl ?_
  obtain ⟨M0, e0, hk0, hX0, -⟩ := hX.m0
  rw [e0]
  refine r_aload_n d_Md_at_5 rfl ?_
  refine r_iload_n d_Md_at_6 rfl ?_
  by_cases hg1 : okS S s
  case neg =>
    refine g_Vi (av := [.int s]) d_Md_at_7 k_Md_180 ws_Md_isSeries (by decide) rfl rfl (Nat.le_of_ble_eq_true rfl) rfl (c_Md_isSeries_f hW hX0 hg1) ?_
    rintro _ _ ⟨rfl, rfl⟩
    refine n_if_eq d_Md_at_10 (by omega) (fun _ => ?_) (fun h9 => absurd h9 (by decide))
    refine r_iconst (v := -1) d_Md_at_37 (by decide) ?_
    refine g_reti d_Md_at_38 rfl ?_
    exact PM.no hX0 hk0 (fun q9 => hg1 q9.1)
  refine g_Vi (av := [.int s]) d_Md_at_7 k_Md_180 ws_Md_isSeries (by decide) rfl rfl (Nat.le_of_ble_eq_true rfl) rfl (c_Md_isSeries_t hW hX0 hg1) ?_
  rintro _ _ ⟨rfl, rfl⟩
  refine n_if_eq d_Md_at_10 (by omega) (fun h9 => absurd h9 (by decide)) (fun _ => ?_)
  refine r_aload_n d_Md_at_13 rfl ?_
  refine r_iload_n d_Md_at_14 rfl ?_
  by_cases hg2 : okP S i
  case neg =>
    refine g_Vi (av := [.int i]) d_Md_at_15 k_Md_183 ws_Md_isPlace (by decide) rfl rfl (Nat.le_of_ble_eq_true rfl) rfl (c_Md_isPlace_f hW hX0 hg2) ?_
    rintro _ _ ⟨rfl, rfl⟩
    refine n_if_eq d_Md_at_18 (by omega) (fun _ => ?_) (fun h9 => absurd h9 (by decide))
    refine r_iconst (v := -1) d_Md_at_37 (by decide) ?_
    refine g_reti d_Md_at_38 rfl ?_
    exact PM.no hX0 hk0 (fun q9 => hg2 q9.2)
  refine g_Vi (av := [.int i]) d_Md_at_15 k_Md_183 ws_Md_isPlace (by decide) rfl rfl (Nat.le_of_ble_eq_true rfl) rfl (c_Md_isPlace_t hW hX0 hg2) ?_
  rintro _ _ ⟨rfl, rfl⟩
  refine n_if_eq d_Md_at_18 (by omega) (fun h9 => absurd h9 (by decide)) (fun _ => ?_)
  rw [f_at, ic_t ⟨hg1, hg2⟩]
  obtain ⟨h0, hs1, hs2⟩ := hg1
  obtain ⟨hi1, hi2⟩ := hg2
  generalize ix s = a at *
  subst hs2
  generalize ix i = b at *
  subst hi2
  refine r_aload_n d_Md_at_21 rfl ?_
  refine g_getr (b := 438) d_Md_at_22 f_Md_56 rfl rfl rfl ?_
  refine r_iconst (v := nI 1) d_Md_at_25 (by decide) ?_
  refine r_bipush (v := nI 10) d_Md_at_26 (by decide) ?_
  refine r_iload_n d_Md_at_28 rfl ?_
  refine n_imul d_Md_at_29 ?_
  refine n_iadd d_Md_at_30 ?_
  refine r_iload_n d_Md_at_31 rfl ?_
  refine n_iadd d_Md_at_32 ?_
  refine g_iald d_Md_at_33 rfl (by omega) (by omega) ?_
  refine r_top (y := nI (S.1 (2 + a) b)) (hX0.ser hs1 (by omega)) ?_
  refine r_goto d_Md_at_34 ?_
  refine g_reti d_Md_at_38 rfl ?_
  exact ⟨rfl, hX0, hk0⟩
theorem mr_put {M M0 M1 : Mem} {C' : Core} {k v : Nat} (hX0 : MR M0 S) (hk0 : KM M M0) (g1 : MH M1 ((S.1 :: S.2.1).take 8)) (g2 : ∀ b, b ≠ 436 → b ≠ 441 → M1 b = M0 b) (g3 : ∀ k, k ≠ 15 → M1 436 k = M0 436 k) (e : ∀ j, j < 241 → nw C' j = if j = k then v else nw S.1 j) (h0 : 0 < S.1 0 3 := by first | assumption | omega) : MR (upm M1 438 k (nI v)) (kp S C') ∧ KM M (upm M1 438 k (nI v)) := by
  refine ⟨hX0.act (g1.kept (by rw [upm_ne _ _ _ (by decide)]) (upm_ne _ _ _ (by decide))) ((hX0.am.kept (g2 438 (by decide) (by decide))).set e) (fun k hk => by rw [upm_ne _ _ _ (by decide)]; exact g3 k (by omega)) (fun b hb => by rw [upm_ne _ _ _ (by omega)]; exact g2 b (by omega) (by omega)), hk0.trans (fun b hb => by rw [upm_ne _ _ _ (by omega)]; exact g2 b (by omega) (by omega))⟩
theorem c_Md_put {s i v : Int32} (hW : WS S) (hX : MR M S) : CI o l m_Md_put n [.ref 436, .int s, .int i, .int v] M (PM M (f_put S s i v)) := by
  refine ci_of rfl rfl rfl (Nat.le_of_ble_eq_true rfl) ?_
  have hs10 := hW.sz10
  refine r_aload_n d_Md_put_0 rfl ?_
  refine r_iconst (v := nI 0) d_Md_put_1 (by decide) ?_
  refine g_puti d_Md_put_2 f_Md_1 ⟨rfl, rfl, rfl⟩ rfl ?_
  obtain ⟨M0, e0, hk0, hX0, -⟩ := hX.m0
  rw [e0]
  refine r_aload_n d_Md_put_5 rfl ?_
  refine r_iload_n d_Md_put_6 rfl ?_
  by_cases hg1 : okS S s
  case neg =>
    refine g_Vi (av := [.int s]) d_Md_put_7 k_Md_180 ws_Md_isSeries (by decide) rfl rfl (Nat.le_of_ble_eq_true rfl) rfl (c_Md_isSeries_f hW hX0 hg1) ?_
    rintro _ _ ⟨rfl, rfl⟩
    refine n_if_eq d_Md_put_10 (by omega) (fun _ => ?_) (fun h9 => absurd h9 (by decide))
    refine r_iconst (v := -1) d_Md_put_21 (by decide) ?_
    refine g_reti d_Md_put_22 rfl ?_
    exact PM.no hX0 hk0 (fun q9 => hg1 q9.1)
  refine g_Vi (av := [.int s]) d_Md_put_7 k_Md_180 ws_Md_isSeries (by decide) rfl rfl (Nat.le_of_ble_eq_true rfl) rfl (c_Md_isSeries_t hW hX0 hg1) ?_
  rintro _ _ ⟨rfl, rfl⟩
  refine n_if_eq d_Md_put_10 (by omega) (fun h9 => absurd h9 (by decide)) (fun _ => ?_)
  refine r_aload_n d_Md_put_13 rfl ?_
  refine r_iload_n d_Md_put_14 rfl ?_
  by_cases hg2 : okP S i
  case neg =>
    refine g_Vi (av := [.int i]) d_Md_put_15 k_Md_183 ws_Md_isPlace (by decide) rfl rfl (Nat.le_of_ble_eq_true rfl) rfl (c_Md_isPlace_f hW hX0 hg2) ?_
    rintro _ _ ⟨rfl, rfl⟩
    refine n_if_ne d_Md_put_18 (by omega) (fun h9 => absurd h9 (by decide)) (fun _ => ?_)
    refine r_iconst (v := -1) d_Md_put_21 (by decide) ?_
    refine g_reti d_Md_put_22 rfl ?_
    exact PM.no hX0 hk0 (fun q9 => hg2 q9.2)
  refine g_Vi (av := [.int i]) d_Md_put_15 k_Md_183 ws_Md_isPlace (by decide) rfl rfl (Nat.le_of_ble_eq_true rfl) rfl (c_Md_isPlace_t hW hX0 hg2) ?_
  rintro _ _ ⟨rfl, rfl⟩
  refine n_if_ne d_Md_put_18 (by omega) (fun _ => ?_) (fun h9 => absurd h9 (by decide))
  rw [f_put, ic_t ⟨hg1, hg2⟩]
  obtain ⟨h0, hs1, hs2⟩ := hg1
  obtain ⟨hi1, hi2⟩ := hg2
  generalize ix s = a at *
  subst hs2
  generalize ix i = b at *
  subst hi2
  refine r_aload_n d_Md_put_23 rfl ?_
  refine g_Vv (av := []) d_Md_put_24 k_Md_177 ws_Md_snap (by decide) rfl rfl (Nat.le_of_ble_eq_true rfl) rfl (c_Md_snap hX0) ?_
  rintro M1 ⟨g1, g2, g3⟩
  refine r_aload_n d_Md_put_27 rfl ?_
  refine g_getr (b := 438) d_Md_put_28 f_Md_56 rfl rfl rfl ?_
  refine r_iconst (v := nI 1) d_Md_put_31 (by decide) ?_
  refine r_bipush (v := nI 10) d_Md_put_32 (by decide) ?_
  refine r_iload_n d_Md_put_34 rfl ?_
  refine n_imul d_Md_put_35 ?_
  refine n_iadd d_Md_put_36 ?_
  refine r_iload_n d_Md_put_37 rfl ?_
  refine n_iadd d_Md_put_38 ?_
  refine r_iload_n d_Md_put_39 rfl ?_
  refine r_i2l d_Md_put_40 ?_
  refine g_Si (av := [.long v.toInt64]) d_Md_put_41 k_Md_109 ws_Md_rest (by decide) rfl rfl (Nat.le_of_ble_eq_true rfl) (c_Md_restI) ?_
  rintro _ _ ⟨rfl, rfl⟩
  refine g_iast d_Md_put_44 rfl (by omega) (by omega) ?_
  refine r_iload_n d_Md_put_45 rfl ?_
  refine r_i2l d_Md_put_46 ?_
  refine g_Si (av := [.long v.toInt64]) d_Md_put_47 k_Md_109 ws_Md_rest (by decide) rfl rfl (Nat.le_of_ble_eq_true rfl) (c_Md_restI) ?_
  rintro _ _ ⟨rfl, rfl⟩
  refine g_reti d_Md_put_50 rfl ?_
  have y := mr_put hX0 hk0 g1 g2 g3 (nw_setS S.1 (v := fm v) hs1 (show b < 10 by omega))
  exact ⟨rfl, y.1, y.2⟩
theorem c_Md_free {i j : Int32} (hW : WS S) (hX : MR M S) : CI o l m_Md_free n [.ref 436, .int i, .int j] M (PM M (f_free S i j)) := by
  refine ci_of rfl rfl rfl (Nat.le_of_ble_eq_true rfl) ?_
  have hs10 := hW.sz10
  refine r_aload_n d_Md_free_0 rfl ?_
  refine r_iconst (v := nI 0) d_Md_free_1 (by decide) ?_
  refine g_puti d_Md_free_2 f_Md_1 ⟨rfl, rfl, rfl⟩ rfl ?_
  obtain ⟨M0, e0, hk0, hX0, -⟩ := hX.m0
  rw [e0]
  refine r_aload_n d_Md_free_5 rfl ?_
  refine r_iload_n d_Md_free_6 rfl ?_
  by_cases hg1 : okP S i
  case neg =>
    refine g_Vi (av := [.int i]) d_Md_free_7 k_Md_183 ws_Md_isPlace (by decide) rfl rfl (Nat.le_of_ble_eq_true rfl) rfl (c_Md_isPlace_f hW hX0 hg1) ?_
    rintro _ _ ⟨rfl, rfl⟩
    refine n_if_eq d_Md_free_10 (by omega) (fun _ => ?_) (fun h9 => absurd h9 (by decide))
    refine r_iconst (v := -1) d_Md_free_39 (by decide) ?_
    refine g_reti d_Md_free_40 rfl ?_
    exact PM.no hX0 hk0 (fun q9 => hg1 q9.1)
  refine g_Vi (av := [.int i]) d_Md_free_7 k_Md_183 ws_Md_isPlace (by decide) rfl rfl (Nat.le_of_ble_eq_true rfl) rfl (c_Md_isPlace_t hW hX0 hg1) ?_
  rintro _ _ ⟨rfl, rfl⟩
  refine n_if_eq d_Md_free_10 (by omega) (fun h9 => absurd h9 (by decide)) (fun _ => ?_)
  refine r_aload_n d_Md_free_13 rfl ?_
  refine r_iload_n d_Md_free_14 rfl ?_
  by_cases hg2 : okP S j
  case neg =>
    refine g_Vi (av := [.int j]) d_Md_free_15 k_Md_183 ws_Md_isPlace (by decide) rfl rfl (Nat.le_of_ble_eq_true rfl) rfl (c_Md_isPlace_f hW hX0 hg2) ?_
    rintro _ _ ⟨rfl, rfl⟩
    refine n_if_eq d_Md_free_18 (by omega) (fun _ => ?_) (fun h9 => absurd h9 (by decide))
    refine r_iconst (v := -1) d_Md_free_39 (by decide) ?_
    refine g_reti d_Md_free_40 rfl ?_
    exact PM.no hX0 hk0 (fun q9 => hg2 q9.2)
  refine g_Vi (av := [.int j]) d_Md_free_15 k_Md_183 ws_Md_isPlace (by decide) rfl rfl (Nat.le_of_ble_eq_true rfl) rfl (c_Md_isPlace_t hW hX0 hg2) ?_
  rintro _ _ ⟨rfl, rfl⟩
  refine n_if_eq d_Md_free_18 (by omega) (fun h9 => absurd h9 (by decide)) (fun _ => ?_)
  rw [f_free, ic_t ⟨hg1, hg2⟩]
  obtain ⟨hs1, hs2⟩ := hg1
  obtain ⟨hi1, hi2⟩ := hg2
  generalize ix i = a at *
  subst hs2
  generalize ix j = b at *
  subst hi2
  refine r_aload_n d_Md_free_21 rfl ?_
  refine g_getr (b := 438) d_Md_free_22 f_Md_56 rfl rfl rfl ?_
  refine r_sipush (v := nI 141) d_Md_free_25 (by decide) ?_
  refine r_bipush (v := nI 10) d_Md_free_28 (by decide) ?_
  refine r_iload_n d_Md_free_30 rfl ?_
  refine n_imul d_Md_free_31 ?_
  refine n_iadd d_Md_free_32 ?_
  refine r_iload_n d_Md_free_33 rfl ?_
  refine n_iadd d_Md_free_34 ?_
  refine g_iald d_Md_free_35 rfl (by omega) (by omega) ?_
  refine r_top (y := nI (S.1 (10 + a) b)) (hX0.fr (by omega) (by omega)) ?_
  refine r_goto d_Md_free_36 ?_
  refine g_reti d_Md_free_40 rfl ?_
  exact ⟨rfl, hX0, hk0⟩
theorem c_Md_set {i j v : Int32} (hW : WS S) (hX : MR M S) : CI o l m_Md_set n [.ref 436, .int i, .int j, .int v] M (PM M (f_set S i j v)) := by
  refine ci_of rfl rfl rfl (Nat.le_of_ble_eq_true rfl) ?_
  have hs10 := hW.sz10
  refine r_aload_n d_Md_set_0 rfl ?_
  refine r_iconst (v := nI 0) d_Md_set_1 (by decide) ?_
  refine g_puti d_Md_set_2 f_Md_1 ⟨rfl, rfl, rfl⟩ rfl ?_
  obtain ⟨M0, e0, hk0, hX0, -⟩ := hX.m0
  rw [e0]
  refine r_aload_n d_Md_set_5 rfl ?_
  refine r_iload_n d_Md_set_6 rfl ?_
  by_cases hg1 : okP S i
  case neg =>
    refine g_Vi (av := [.int i]) d_Md_set_7 k_Md_183 ws_Md_isPlace (by decide) rfl rfl (Nat.le_of_ble_eq_true rfl) rfl (c_Md_isPlace_f hW hX0 hg1) ?_
    rintro _ _ ⟨rfl, rfl⟩
    refine n_if_eq d_Md_set_10 (by omega) (fun _ => ?_) (fun h9 => absurd h9 (by decide))
    refine r_iconst (v := -1) d_Md_set_22 (by decide) ?_
    refine g_reti d_Md_set_23 rfl ?_
    exact PM.no hX0 hk0 (fun q9 => hg1 q9.1)
  refine g_Vi (av := [.int i]) d_Md_set_7 k_Md_183 ws_Md_isPlace (by decide) rfl rfl (Nat.le_of_ble_eq_true rfl) rfl (c_Md_isPlace_t hW hX0 hg1) ?_
  rintro _ _ ⟨rfl, rfl⟩
  refine n_if_eq d_Md_set_10 (by omega) (fun h9 => absurd h9 (by decide)) (fun _ => ?_)
  have q1 := hg1
  rw [f_set]
  obtain ⟨hs1, hs2⟩ := hg1
  generalize ix i = a at *
  subst hs2
  by_cases hg2 : inN (a + 1) j
  · refine r_iload_n d_Md_set_13 rfl ?_
    refine r_iconst (v := nI 0) d_Md_set_14 (by decide) ?_
    refine r_iload_n d_Md_set_15 rfl ?_
    refine g_Si (av := [.int j, .int (nI 0), .int (nI a)]) d_Md_set_16 k_Md_118 ws_Md_isIn (by decide) rfl rfl (Nat.le_of_ble_eq_true rfl) (c_Md_in0_t (by omega) hg2) ?_
    rintro _ _ ⟨rfl, rfl⟩
    have q2 := hg2
    obtain ⟨hi1, hi2⟩ := hg2
    rw [ic_t ⟨q1, ⟨by omega, hi2⟩, by omega⟩]
    generalize ix j = b at *
    subst hi2
    refine n_if_ne d_Md_set_19 (by omega) (fun _ => ?_) (fun h9 => absurd h9 (by decide))
    refine r_aload_n d_Md_set_24 rfl ?_
    refine g_Vv (av := []) d_Md_set_25 k_Md_177 ws_Md_snap (by decide) rfl rfl (Nat.le_of_ble_eq_true rfl) rfl (c_Md_snap hX0) ?_
    rintro M1 ⟨g1, g2, g3⟩
    refine r_aload_n d_Md_set_28 rfl ?_
    refine g_getr (b := 438) d_Md_set_29 f_Md_56 rfl rfl rfl ?_
    refine r_sipush (v := nI 141) d_Md_set_32 (by decide) ?_
    refine r_bipush (v := nI 10) d_Md_set_35 (by decide) ?_
    refine r_iload_n d_Md_set_37 rfl ?_
    refine n_imul d_Md_set_38 ?_
    refine n_iadd d_Md_set_39 ?_
    refine r_iload_n d_Md_set_40 rfl ?_
    refine n_iadd d_Md_set_41 ?_
    refine r_iload_n d_Md_set_42 rfl ?_
    refine r_i2l d_Md_set_43 ?_
    refine g_Si (av := [.long v.toInt64]) d_Md_set_44 k_Md_109 ws_Md_rest (by decide) rfl rfl (Nat.le_of_ble_eq_true rfl) (c_Md_restI) ?_
    rintro _ _ ⟨rfl, rfl⟩
    refine g_iast d_Md_set_47 rfl (by omega) (by omega) ?_
    refine r_iload_n d_Md_set_48 rfl ?_
    refine r_i2l d_Md_set_49 ?_
    refine g_Si (av := [.long v.toInt64]) d_Md_set_50 k_Md_109 ws_Md_rest (by decide) rfl rfl (Nat.le_of_ble_eq_true rfl) (c_Md_restI) ?_
    rintro _ _ ⟨rfl, rfl⟩
    refine g_reti d_Md_set_53 rfl ?_
    have y := mr_put hX0 hk0 g1 g2 g3 (nw_setF S.1 (v := fm v) (show a < 10 by omega) (show b < 10 by omega))
    exact ⟨rfl, y.1, y.2⟩
  · refine r_iload_n d_Md_set_13 rfl ?_
    refine r_iconst (v := nI 0) d_Md_set_14 (by decide) ?_
    refine r_iload_n d_Md_set_15 rfl ?_
    refine g_Si (av := [.int j, .int (nI 0), .int (nI a)]) d_Md_set_16 k_Md_118 ws_Md_isIn (by decide) rfl rfl (Nat.le_of_ble_eq_true rfl) (c_Md_in0_f (by omega) hg2) ?_
    rintro _ _ ⟨rfl, rfl⟩
    refine n_if_ne d_Md_set_19 (by omega) (fun h9 => absurd h9 (by decide)) (fun _ => ?_)
    refine r_iconst (v := -1) d_Md_set_22 (by decide) ?_
    refine g_reti d_Md_set_23 rfl ?_
    exact PM.no hX0 hk0 (fun z => hg2 ⟨by have := z.2.2; omega, z.2.1.2⟩)
theorem c_Md_undo (hX : MR M S) : CI o l m_Md_undo n [.ref 436] M (PM M (f_undo S)) := by
  refine ci_of rfl rfl rfl (Nat.le_of_ble_eq_true rfl) ?_
  refine r_aload_n d_Md_undo_0 rfl ?_
  refine r_iconst (v := nI 0) d_Md_undo_1 (by decide) ?_
  refine g_puti d_Md_undo_2 f_Md_1 ⟨rfl, rfl, rfl⟩ rfl ?_
  obtain ⟨M0, e0, hk0, hX0, -⟩ := hX.m0
  rw [e0]
  obtain ⟨x1, ⟨x2, x3, x4⟩, x5, x6⟩ := id hX0
  unfold f_undo
  generalize hH : S.2.1 = H at *
  cases H with
  | nil =>
    refine r_aload_n d_Md_undo_5 rfl ?_
    refine g_geti d_Md_undo_6 f_Md_164 rfl rfl ?_
    refine r_top (y := (nI 0)) (x2) ?_
    refine n_if_ne d_Md_undo_9 (by omega) (fun h9 => absurd h9 (by decide)) (fun _ => ?_)
    refine r_iconst (v := -1) d_Md_undo_12 (by decide) ?_
    refine g_reti d_Md_undo_13 rfl ?_
    exact ⟨rfl, hX0, hk0⟩
  | cons D H =>
    rw [List.length_cons] at x2 x3
    refine r_aload_n d_Md_undo_5 rfl ?_
    refine g_geti d_Md_undo_6 f_Md_164 rfl rfl ?_
    refine r_top (y := (nI (H.length + 1))) (x2) ?_
    refine n_if_ne d_Md_undo_9 (by omega) (fun hc => ?_) (fun hc => ?_)
    · refine r_aload_n d_Md_undo_14 rfl ?_
      refine r_dup d_Md_undo_15 rfl ?_
      refine g_geti d_Md_undo_16 f_Md_164 rfl rfl ?_
      refine r_top (y := (nI (H.length + 1))) (x2) ?_
      refine r_iconst (v := nI 1) d_Md_undo_19 (by decide) ?_
      refine n_isub d_Md_undo_20 (by omega) ?_
      refine g_puti d_Md_undo_21 f_Md_164 ⟨rfl, rfl, rfl⟩ rfl ?_
      have e15 : upm M0 436 15 (nI (H.length + 1 - 1)) 436 15 = nI H.length := by rw [upm_at, if_pos rfl]; rfl
      refine r_aload_n d_Md_undo_24 rfl ?_
      refine g_getr (b := 441) d_Md_undo_25 f_Md_65 rfl rfl rfl ?_
      refine r_sipush (v := nI 241) d_Md_undo_28 (by decide) ?_
      refine r_aload_n d_Md_undo_31 rfl ?_
      refine g_geti d_Md_undo_32 f_Md_164 rfl rfl ?_
      refine r_top (y := (nI (H.length))) (e15) ?_
      refine n_imul d_Md_undo_35 ?_
      refine r_aload_n d_Md_undo_36 rfl ?_
      refine g_getr (b := 438) d_Md_undo_37 f_Md_56 rfl rfl rfl ?_
      refine r_iconst (v := nI 0) d_Md_undo_40 (by decide) ?_
      refine g_Sv (av := [.ref 441, .int (nI (241 * (H.length))), .ref 438, .int (nI 0)]) d_Md_undo_41 k_Md_160 ws_Md_copy (by decide) rfl rfl (Nat.le_of_ble_eq_true rfl) (c_Md_copy (a := 441) (b := 438) (q := 0) rfl rfl (by decide) (by omega) (by decide) (by decide)) ?_
      rintro M1 ⟨g1, g2, g3⟩
      refine r_aload_n d_Md_undo_44 rfl ?_
      refine g_geti d_Md_undo_45 f_Md_164 rfl rfl ?_
      refine r_top (y := (nI (H.length))) (by rw [g1 436 (by decide)]; exact e15) ?_
      refine g_reti d_Md_undo_48 rfl ?_
      have k9 : ∀ b, b ≠ 436 → b ≠ 438 → M1 b = M0 b := fun b b1 b2 => by rw [g1 b b2, upm_ne _ _ _ b1]
      have k8 : ∀ k, k ≠ 15 → M1 436 k = M0 436 k := fun k hk => by rw [g1 436 (by decide), upm_at, if_neg hk]
      refine ⟨rfl, ⟨fun j hj h9 => ?_, ⟨by rw [g1 436 (by decide)]; exact e15, by show H.length ≤ 8; omega, fun i C hC j hj h9 => ?_⟩, fun q hq => ⟨fun E hE => ⟨by rw [k9 442 (by decide) (by decide)]; exact ((x5 q hq).1 E hE).1, ((x5 q hq).1 E hE).2.kept (k9 440 (by decide) (by decide))⟩, fun e => by rw [k9 442 (by decide) (by decide)]; exact (x5 q hq).2 e⟩, ?_⟩, hk0.trans (fun b hb => k9 b (by omega) (by omega))⟩
      · rw [g2 j hj, upm_ne _ _ _ (by decide)]
        have := x4 0 D rfl j hj h9
        rw [List.length_cons] at this
        exact Eq.trans (by rw [show 241 * (H.length + 1 - 1 - 0) + j = 241 * H.length + j by omega]) this
      · rw [k9 441 (by decide) (by decide)]
        have := x4 (i + 1) C hC j hj h9
        rw [List.length_cons] at this
        exact Eq.trans (by rw [show H.length + 1 - 1 - (i + 1) = H.length - 1 - i by omega]; rfl) this
      · unfold MT at x6 ⊢
        rw [k8 2 (by decide), k8 8 (by decide), k8 16 (by decide), k8 17 (by decide), k9 437 (by decide) (by decide)]
        exact x6
    · omega
theorem c_Md_image {v : Int32} (hX : MR M S) : CI o l m_Md_image n [.ref 436, .int v] M (PM M (f_image S v)) := by
  refine ci_of rfl rfl rfl (Nat.le_of_ble_eq_true rfl) ?_
  refine r_aload_n d_Md_image_0 rfl ?_
  refine r_iconst (v := nI 0) d_Md_image_1 (by decide) ?_
  refine g_puti d_Md_image_2 f_Md_1 ⟨rfl, rfl, rfl⟩ rfl ?_
  obtain ⟨M0, e0, hk0, hX0, -⟩ := hX.m0
  rw [e0]
  obtain ⟨x1, x2, x5, x6⟩ := id hX0
  by_cases hg1 : inN 2 v
  · refine r_iload_n d_Md_image_5 rfl ?_
    refine r_iconst (v := nI 0) d_Md_image_6 (by decide) ?_
    refine r_iconst (v := nI 1) d_Md_image_7 (by decide) ?_
    refine g_Si (av := [.int v, .int (nI 0), .int (nI 1)]) d_Md_image_8 k_Md_118 ws_Md_isIn (by decide) rfl rfl (Nat.le_of_ble_eq_true rfl) (c_Md_in0_t (by decide) hg1) ?_
    rintro _ _ ⟨rfl, rfl⟩
    rw [f_image, ic_t hg1]
    obtain ⟨hv1, hv2⟩ := hg1
    generalize ix v = k at *
    subst hv2
    refine n_if_ne d_Md_image_11 (by omega) (fun _ => ?_) (fun h9 => absurd h9 (by decide))
    refine r_aload_n d_Md_image_16 rfl ?_
    refine g_getr (b := 438) d_Md_image_17 f_Md_56 rfl rfl rfl ?_
    refine r_iconst (v := nI 0) d_Md_image_20 (by decide) ?_
    refine r_aload_n d_Md_image_21 rfl ?_
    refine g_getr (b := 440) d_Md_image_22 f_Md_62 rfl rfl rfl ?_
    refine r_sipush (v := nI 241) d_Md_image_25 (by decide) ?_
    refine r_iload_n d_Md_image_28 rfl ?_
    refine n_imul d_Md_image_29 ?_
    refine g_Sv (av := [.ref 438, .int (nI 0), .ref 440, .int (nI (241 * k))]) d_Md_image_30 k_Md_160 ws_Md_copy (by decide) rfl rfl (Nat.le_of_ble_eq_true rfl) (c_Md_copy (a := 438) (b := 440) (p := 0) rfl rfl (by decide) (by decide) (by omega) (by decide)) ?_
    rintro M1 ⟨g1, g2, g3⟩
    refine r_aload_n d_Md_image_33 rfl ?_
    refine g_getr (b := 442) d_Md_image_34 f_Md_68 rfl rfl rfl ?_
    refine r_iload_n d_Md_image_37 rfl ?_
    refine r_iconst (v := nI 1) d_Md_image_38 (by decide) ?_
    refine g_zast d_Md_image_39 rfl (by omega) (by omega) (by decide) ?_
    refine r_iconst (v := nI 1) d_Md_image_40 (by decide) ?_
    refine g_retz d_Md_image_41 rfl (by decide) ?_
    have k9 : ∀ b, b ≠ 440 → b ≠ 442 → upm M1 442 k (nI 1) b = M0 b := fun b b1 b2 => by rw [upm_ne _ _ _ b2, g1 b b1]
    refine ⟨rfl, ⟨x1.kept (k9 438 (by decide) (by decide)), x2.kept (by rw [k9 436 (by decide) (by decide)]) (k9 441 (by decide) (by decide)), fun q hq => ?_, ?_⟩, hk0.trans (fun b hb => k9 b (by omega) (by omega))⟩
    · show (∀ D, (if q = k then some S.1 else S.2.2.1 q) = some D → _) ∧ ((if q = k then some S.1 else S.2.2.1 q) = none → _)
      by_cases e : q = k
      · rw [if_pos e]
        refine ⟨fun D hD => ?_, fun h => by cases h⟩
        obtain rfl : S.1 = D := by simpa using hD
        refine ⟨by rw [upm_at, if_pos e], fun j hj h9 => ?_⟩
        rw [upm_ne _ _ _ (by decide), e, g2 j hj]
        exact x1 j hj h9
      · rw [if_neg e]
        refine ⟨fun D hD => ⟨by rw [upm_at, if_neg e, g1 442 (by decide)]; exact ((x5 q hq).1 D hD).1, fun j hj h9 => ?_⟩, fun h => by rw [upm_at, if_neg e, g1 442 (by decide)]; exact (x5 q hq).2 h⟩
        rw [upm_ne _ _ _ (by decide), g3 _ (by omega)]
        exact ((x5 q hq).1 D hD).2 j hj h9
    · unfold MT at x6 ⊢
      rw [k9 436 (by decide) (by decide), k9 437 (by decide) (by decide)]
      exact x6
  · refine r_iload_n d_Md_image_5 rfl ?_
    refine r_iconst (v := nI 0) d_Md_image_6 (by decide) ?_
    refine r_iconst (v := nI 1) d_Md_image_7 (by decide) ?_
    refine g_Si (av := [.int v, .int (nI 0), .int (nI 1)]) d_Md_image_8 k_Md_118 ws_Md_isIn (by decide) rfl rfl (Nat.le_of_ble_eq_true rfl) (c_Md_in0_f (by decide) hg1) ?_
    rintro _ _ ⟨rfl, rfl⟩
    refine n_if_ne d_Md_image_11 (by omega) (fun h9 => absurd h9 (by decide)) (fun _ => ?_)
    refine r_iconst (v := nI 0) d_Md_image_14 (by decide) ?_
    refine g_retz d_Md_image_15 rfl (by decide) ?_
    exact PM.no hX0 hk0 hg1
theorem c_Md_restore {v : Int32} (hX : MR M S) : CI o l m_Md_restore n [.ref 436, .int v] M (PM M (f_restore S v)) := by
  refine ci_of rfl rfl rfl (Nat.le_of_ble_eq_true rfl) ?_
  refine r_aload_n d_Md_restore_0 rfl ?_
  refine r_iconst (v := nI 0) d_Md_restore_1 (by decide) ?_
  refine g_puti d_Md_restore_2 f_Md_1 ⟨rfl, rfl, rfl⟩ rfl ?_
  obtain ⟨M0, e0, hk0, hX0, -⟩ := hX.m0
  rw [e0]
  obtain ⟨x1, x2, x5, x6⟩ := id hX0
  by_cases hg1 : inN 2 v
  · refine r_iload_n d_Md_restore_5 rfl ?_
    refine r_iconst (v := nI 0) d_Md_restore_6 (by decide) ?_
    refine r_iconst (v := nI 1) d_Md_restore_7 (by decide) ?_
    refine g_Si (av := [.int v, .int (nI 0), .int (nI 1)]) d_Md_restore_8 k_Md_118 ws_Md_isIn (by decide) rfl rfl (Nat.le_of_ble_eq_true rfl) (c_Md_in0_t (by decide) hg1) ?_
    rintro _ _ ⟨rfl, rfl⟩
    rw [f_restore, ic_t hg1]
    obtain ⟨hv1, hv2⟩ := hg1
    generalize ix v = k at *
    subst hv2
    refine n_if_eq d_Md_restore_11 (by omega) (fun h9 => absurd h9 (by decide)) (fun _ => ?_)
    cases hI : S.2.2.1 k with
    | none =>
      refine r_aload_n d_Md_restore_14 rfl ?_
      refine g_getr (b := 442) d_Md_restore_15 f_Md_68 rfl rfl rfl ?_
      refine r_iload_n d_Md_restore_18 rfl ?_
      refine g_zald d_Md_restore_19 rfl (by omega) (by omega) ?_
      refine r_top (y := nI 0) ((x5 k hv1).2 hI) ?_
      refine n_if_ne d_Md_restore_20 (by omega) (fun h9 => absurd h9 (by decide)) (fun _ => ?_)
      refine r_iconst (v := nI 0) d_Md_restore_23 (by decide) ?_
      refine g_retz d_Md_restore_24 rfl (by decide) ?_
      exact ⟨rfl, hX0, hk0⟩
    | some D =>
      refine r_aload_n d_Md_restore_14 rfl ?_
      refine g_getr (b := 442) d_Md_restore_15 f_Md_68 rfl rfl rfl ?_
      refine r_iload_n d_Md_restore_18 rfl ?_
      refine g_zald d_Md_restore_19 rfl (by omega) (by omega) ?_
      refine r_top (y := nI 1) (((x5 k hv1).1 D hI).1) ?_
      refine n_if_ne d_Md_restore_20 (by omega) (fun _ => ?_) (fun h9 => absurd h9 (by decide))
      refine r_aload_n d_Md_restore_25 rfl ?_
      refine g_getr (b := 440) d_Md_restore_26 f_Md_62 rfl rfl rfl ?_
      refine r_sipush (v := nI 241) d_Md_restore_29 (by decide) ?_
      refine r_iload_n d_Md_restore_32 rfl ?_
      refine n_imul d_Md_restore_33 ?_
      refine r_aload_n d_Md_restore_34 rfl ?_
      refine g_getr (b := 438) d_Md_restore_35 f_Md_56 rfl rfl rfl ?_
      refine r_iconst (v := nI 0) d_Md_restore_38 (by decide) ?_
      refine g_Sv (av := [.ref 440, .int (nI (241 * k)), .ref 438, .int (nI 0)]) d_Md_restore_39 k_Md_160 ws_Md_copy (by decide) rfl rfl (Nat.le_of_ble_eq_true rfl) (c_Md_copy (a := 440) (b := 438) (q := 0) rfl rfl (by decide) (by omega) (by decide) (by decide)) ?_
      rintro M1 ⟨g1, g2, g3⟩
      refine r_aload_n d_Md_restore_42 rfl ?_
      refine r_iconst (v := nI 0) d_Md_restore_43 (by decide) ?_
      refine g_puti d_Md_restore_44 f_Md_164 ⟨rfl, rfl, rfl⟩ rfl ?_
      refine r_iconst (v := nI 1) d_Md_restore_47 (by decide) ?_
      refine g_retz d_Md_restore_48 rfl (by decide) ?_
      have k9 : ∀ b, b ≠ 436 → b ≠ 438 → upm M1 436 15 (nI 0) b = M0 b := fun b b1 b2 => by rw [upm_ne _ _ _ b1, g1 b b2]
      have k8 : ∀ k, k ≠ 15 → upm M1 436 15 (nI 0) 436 k = M0 436 k := fun k hk => by rw [upm_at, if_neg hk, g1 436 (by decide)]
      refine ⟨rfl, ⟨fun j hj h9 => ?_, ⟨by rw [upm_at, if_pos rfl]; rfl, Nat.zero_le 8, fun i C hC j hj => by cases hC⟩, fun q hq => ⟨fun E hE => ⟨by rw [k9 442 (by decide) (by decide)]; exact ((x5 q hq).1 E hE).1, ((x5 q hq).1 E hE).2.kept (k9 440 (by decide) (by decide))⟩, fun e => by rw [k9 442 (by decide) (by decide)]; exact (x5 q hq).2 e⟩, ?_⟩, hk0.trans (fun b hb => k9 b (by omega) (by omega))⟩
      · rw [upm_ne _ _ _ (by decide), g2 j hj]
        exact ((x5 k hv1).1 D hI).2 j hj h9
      · unfold MT at x6 ⊢
        rw [k8 2 (by decide), k8 8 (by decide), k8 16 (by decide), k8 17 (by decide), k9 437 (by decide) (by decide)]
        exact x6
  · refine r_iload_n d_Md_restore_5 rfl ?_
    refine r_iconst (v := nI 0) d_Md_restore_6 (by decide) ?_
    refine r_iconst (v := nI 1) d_Md_restore_7 (by decide) ?_
    refine g_Si (av := [.int v, .int (nI 0), .int (nI 1)]) d_Md_restore_8 k_Md_118 ws_Md_isIn (by decide) rfl rfl (Nat.le_of_ble_eq_true rfl) (c_Md_in0_f (by decide) hg1) ?_
    rintro _ _ ⟨rfl, rfl⟩
    refine n_if_eq d_Md_restore_11 (by omega) (fun _ => ?_) (fun h9 => absurd h9 (by decide))
    refine r_iconst (v := nI 0) d_Md_restore_23 (by decide) ?_
    refine g_retz d_Md_restore_24 rfl (by decide) ?_
    exact PM.no hX0 hk0 hg1
theorem c_Md_draw {x : Int32} {k : Nat} (h0 : 0 < k) (hk : k < 100) (hx : M 436 30 = x) : CI o l m_Md_draw n [.ref 436, .int (nI k)] M (fun r M' => r = nI (dro (nxs x) k) ∧ M' = upm M 436 30 (nxs x)) := by
  refine ci_of rfl rfl rfl (Nat.le_of_ble_eq_true rfl) ?_
  have hx2 : (nxs x).toUInt32.toNat < 2 ^ 32 := (nxs x).toUInt32.toNat_lt
  refine r_aload_n d_Md_draw_0 rfl ?_
  refine r_aload_n d_Md_draw_1 rfl ?_
  refine g_geti d_Md_draw_2 f_Md_247 rfl rfl ?_
  refine r_top (y := x) (hx) ?_
  refine r_ldc (v := nI 1103515245) d_Md_draw_5 c_Md_250 ?_
  refine r_imul d_Md_draw_7 ?_
  refine r_sipush (v := nI 12345) d_Md_draw_8 (by decide) ?_
  refine r_iadd d_Md_draw_11 ?_
  refine g_puti d_Md_draw_12 f_Md_247 ⟨rfl, rfl, rfl⟩ rfl ?_
  refine r_aload_n d_Md_draw_15 rfl ?_
  refine g_geti d_Md_draw_16 f_Md_247 rfl rfl ?_
  refine r_top (y := (nxs x)) (by rw [upm_at, if_pos rfl]; rfl) ?_
  refine r_bipush (v := nI 8) d_Md_draw_19 (by decide) ?_
  refine r_iushr d_Md_draw_21 ?_
  refine r_top (dro_i (nxs x)) ?_
  refine r_iload_n d_Md_draw_22 rfl ?_
  refine n_irem d_Md_draw_23 (by omega) (by omega) (by omega) ?_
  refine g_reti d_Md_draw_24 rfl ?_
  exact ⟨rfl, rfl⟩
theorem c_Md_drawn {v x : Int32} (hW : WS S) (hX : MR M S) : CI o l m_Md_drawn n [.ref 436, .int v, .int x] M (PM M (f_drawn S v x)) := by
  refine ci_of rfl rfl rfl (Nat.le_of_ble_eq_true rfl) ?_
  have hs10 := hW.sz10
  refine r_aload_n d_Md_drawn_0 rfl ?_
  refine r_iconst (v := nI 0) d_Md_drawn_1 (by decide) ?_
  refine g_puti d_Md_drawn_2 f_Md_1 ⟨rfl, rfl, rfl⟩ rfl ?_
  obtain ⟨M0, e0, hk0, hX0, -⟩ := hX.m0
  rw [e0]
  have hiff : (nI 1 ≤ v ∧ v ≤ nI 60) ↔ (inN 61 v ∧ 1 ≤ ix v) := by
    constructor
    · intro z
      have h9 : nI 0 ≤ v := Int32.le_trans (by decide) z.1
      have i1 : inN 61 v := (in_iff (by decide)).mp ⟨h9, z.2⟩
      refine ⟨i1, ?_⟩
      rcases Nat.lt_or_ge (ix v) 1 with h | h
      · have z1 := z.1
        rw [i1.2] at z1
        have := (nI_leI (a := 1) (by decide) (by omega)).mp z1
        omega
      · exact h
    · intro z
      refine ⟨?_, ((in_iff (N := 60) (by decide)).mpr z.1).2⟩
      rw [z.1.2]
      exact (nI_leI (by decide) (by have := z.1.1; omega)).mpr z.2
  refine r_iload_n d_Md_drawn_5 rfl ?_
  refine r_iconst (v := nI 1) d_Md_drawn_6 (by decide) ?_
  refine r_bipush (v := nI 60) d_Md_drawn_7 (by decide) ?_
  refine g_Si (av := [.int v, .int (nI 1), .int (nI 60)]) d_Md_drawn_9 k_Md_118 ws_Md_isIn (by decide) rfl rfl (Nat.le_of_ble_eq_true rfl) (c_Md_isIn) ?_
  rintro r _ ⟨⟨rfl, hg⟩ | ⟨rfl, hg⟩, rfl⟩
  · rw [f_drawn, ic_t (hiff.mp hg)]
    obtain ⟨⟨i1, i2⟩, i3⟩ := hiff.mp hg
    generalize ix v = m at *
    subst i2
    refine n_if_ne d_Md_drawn_12 (by omega) (fun _ => ?_) (fun h9 => absurd h9 (by decide))
    refine r_aload_n d_Md_drawn_17 rfl ?_
    refine g_Vi (av := []) d_Md_drawn_18 k_Md_173 ws_Md_wide (by decide) rfl rfl (Nat.le_of_ble_eq_true rfl) rfl (c_Md_wide (hX0.sz)) ?_
    rintro _ _ ⟨rfl, rfl⟩
    refine n_if_ne d_Md_drawn_21 (by omega) (fun hc => ?_) (fun hc => ?_)
    · rw [ic_f hc]
      obtain ⟨z1, z2⟩ := hW.sz (Nat.pos_of_ne_zero hc)
      refine r_aload_n d_Md_drawn_26 rfl ?_
      refine g_Vv (av := []) d_Md_drawn_27 k_Md_177 ws_Md_snap (by decide) rfl rfl (Nat.le_of_ble_eq_true rfl) rfl (c_Md_snap hX0) ?_
      rintro M1 ⟨g1, g2, g3⟩
      refine r_aload_n d_Md_drawn_30 rfl ?_
      refine r_iload_n d_Md_drawn_31 rfl ?_
      refine g_puti d_Md_drawn_32 f_Md_247 ⟨rfl, rfl, rfl⟩ rfl ?_
      refine r_iconst (v := nI 0) d_Md_drawn_35 (by decide) ?_
      refine r_istore_n (L' := [some (.ref 436), some (.int (nI m)), some (.int x), some (.int (nI 0)), none, none]) d_Md_drawn_36 (by decide) rfl ?_
      have a1 : AM M1 438 0 S.1 := hX0.am.kept (g2 438 (by decide) (by decide))
      refine lp (a := 0) (N := m) (R := fun q M' => Rn o l m_Md_drawn (0, 0) 37 [some (.ref 436), some (.int (nI m)), some (.int x), some (.int (nI q)), none, none] [] (gh n M') (QI n (PM M (nI (tot (drw S.1 x m) 6 % 1000003), kp S (drw S.1 x m))))) (P := fun q M' => ∃ y C, WC C ∧ C 0 3 = S.1 0 3 ∧ drw C y (m - q) = drw S.1 x m ∧ M' 436 30 = y ∧ AM M' 438 0 C ∧ (∀ b, b ≠ 436 → b ≠ 438 → M' b = M1 b) ∧ ∀ k, k ≠ 30 → M' 436 k = M1 436 k) (by omega) ?_ ?_ ?_
      · exact ⟨x, S.1, hW.1, rfl, rfl, by rw [upm_at, if_pos rfl], a1.kept (upm_ne _ _ _ (by decide)), fun b b1 b2 => upm_ne _ _ _ b1, fun k hk => by rw [upm_at, if_neg hk]⟩
      · rintro M2 ⟨y, C, f1, f2, f3, f4, f5, f6, f7⟩
        rw [Nat.sub_self] at f3
        have f3' : C = drw S.1 x m := f3
        rw [← f3']
        refine r_iload_n d_Md_drawn_37 rfl ?_
        refine r_iload_n d_Md_drawn_38 rfl ?_
        refine n_icmp_ge d_Md_drawn_39 (by omega) (by omega) (fun _ => ?_) (fun h9 => absurd h9 (by omega))
        refine r_lconst (v := lN 0) d_Md_drawn_94 (by decide) ?_
        refine r_lstore_n (L' := [some (.ref 436), some (.int (nI m)), some (.int x), some (.long (lN 0)), none, none]) d_Md_drawn_95 (by decide) rfl ?_
        refine r_iconst (v := nI 0) d_Md_drawn_96 (by decide) ?_
        refine r_istore (L' := [some (.ref 436), some (.int (nI m)), some (.int x), some (.long (lN 0)), none, some (.int (nI 0))]) d_Md_drawn_97 (by decide) rfl ?_
        have f8 : ∀ t, t < 60 → M2 438 (1 + t) = nI (nw C (1 + t)) := fun t ht => by
          have := f5 (1 + t) (by omega)
          rwa [Nat.zero_add] at this
        have f9 : ∀ t, t < 60 → nw C (1 + t) < 1000003 := fun t ht => by
          obtain ⟨s', i', h1, h2, e⟩ : ∃ s' i', s' < 6 ∧ i' < 10 ∧ 1 + t = 1 + 10 * s' + i' := ⟨t / 10, t % 10, by omega, by omega, by omega⟩
          rw [e, nw_ser C h1 h2]
          exact f1.2.1 _ (rx_s h1) _ h2
        refine lp (a := 0) (N := 60) (R := fun u M' => Rn o l m_Md_drawn (0, 0) 99 [some (.ref 436), some (.int (nI m)), some (.int x), some (.long (lN (rs (fun t => nw C (1 + t)) u))), none, some (.int (nI u))] [] (gh n M') (QI n (PM M (nI (tot C 6 % 1000003), kp S C)))) (P := fun u M' => M' = M2) (by omega) ?_ ?_ ?_
        · rfl
        · intro _ e9
          subst e9
          refine r_iload d_Md_drawn_99 rfl ?_
          refine r_bipush (v := nI 60) d_Md_drawn_101 (by decide) ?_
          refine n_icmp_ge d_Md_drawn_103 (by omega) (by omega) (fun _ => ?_) (fun h9 => absurd h9 (by omega))
          refine r_lload_n d_Md_drawn_125 rfl ?_
          refine g_Si (av := [.long (lN (rs (fun t => nw C (1 + t)) 60))]) d_Md_drawn_126 k_Md_109 ws_Md_rest (by decide) rfl rfl (Nat.le_of_ble_eq_true rfl) (c_Md_restN (by have := rs_le f9; omega)) ?_
          rintro _ _ ⟨rfl, rfl⟩
          refine g_reti d_Md_drawn_129 rfl ?_
          have e1 := tot_60 f1 (by omega) 6 (Nat.le_refl _)
          refine ⟨by rw [rst_nat]; exact congrArg (fun z => nI (z % 1000003)) e1, hX0.act (g1.kept (f7 15 (by decide)) (f6 441 (by decide) (by decide))) f5 (fun k hk => by rw [f7 k (by omega)]; exact g3 k (by omega)) (fun b hb => by rw [f6 b (by omega) (by omega)]; exact g2 b (by omega) (by omega)), hk0.trans (fun b hb => by rw [f6 b (by omega) (by omega)]; exact g2 b (by omega) (by omega))⟩
        · intro u _ hu e9 ih2
          subst e9
          refine r_iload d_Md_drawn_99 rfl ?_
          refine r_bipush (v := nI 60) d_Md_drawn_101 (by decide) ?_
          refine n_icmp_ge d_Md_drawn_103 (by omega) (by omega) (fun h9 => absurd h9 (by omega)) (fun _ => ?_)
          refine r_lload_n d_Md_drawn_106 rfl ?_
          refine r_aload_n d_Md_drawn_107 rfl ?_
          refine g_getr (b := 438) d_Md_drawn_108 f_Md_56 rfl rfl rfl ?_
          refine r_iconst (v := nI 1) d_Md_drawn_111 (by decide) ?_
          refine r_iload d_Md_drawn_112 rfl ?_
          refine n_iadd d_Md_drawn_114 ?_
          refine g_iald d_Md_drawn_115 rfl (by omega) (by omega) ?_
          refine r_top (y := nI (nw C (1 + u))) (f8 u (by omega)) ?_
          refine n_i2l d_Md_drawn_116 (by have h9 := f9 u (by omega); omega) ?_
          refine n_ladd d_Md_drawn_117 ?_
          refine r_lstore_n (L' := [some (.ref 436), some (.int (nI m)), some (.int x), some (.long (lN ((rs (fun t => nw C (1 + t)) u) + (nw C (1 + u))))), none, some (.int (nI u))]) d_Md_drawn_118 (by decide) rfl ?_
          refine n_iinc (c := 1) (L' := [some (.ref 436), some (.int (nI m)), some (.int x), some (.long (lN ((rs (fun t => nw C (1 + t)) u) + (nw C (1 + u))))), none, some (.int (nI (u + 1)))]) d_Md_drawn_119 rfl rfl (by decide) rfl ?_
          refine r_goto d_Md_drawn_122 ?_
          exact ih2 _ rfl
      · rintro q M2 hq ⟨y, C, f1, f2, f3, f4, f5, f6, f7⟩ ih
        have w6 : dro (nxs y) 6 < 6 := Nat.mod_lt _ (by decide)
        have w7 : dro (nxs (nxs y)) (S.1 0 3) < S.1 0 3 := Nat.mod_lt _ (by omega)
        have hsz : M2 438 0 = nI (S.1 0 3) := by rw [← f2]; exact f5 0 (by decide)
        refine r_iload_n d_Md_drawn_37 rfl ?_
        refine r_iload_n d_Md_drawn_38 rfl ?_
        refine n_icmp_ge d_Md_drawn_39 (by omega) (by omega) (fun h9 => absurd h9 (by omega)) (fun _ => ?_)
        refine r_aload_n d_Md_drawn_42 rfl ?_
        refine r_bipush (v := nI 6) d_Md_drawn_43 (by decide) ?_
        refine g_Vi (av := [.int (nI 6)]) d_Md_drawn_45 k_Md_251 ws_Md_draw (by decide) rfl rfl (Nat.le_of_ble_eq_true rfl) rfl (c_Md_draw (by decide) (by decide) f4) ?_
        rintro _ _ ⟨rfl, rfl⟩
        refine r_istore (L' := [some (.ref 436), some (.int (nI m)), some (.int x), some (.int (nI q)), some (.int (nI (dro (nxs y) 6))), none]) d_Md_drawn_48 (by decide) rfl ?_
        refine r_aload_n d_Md_drawn_50 rfl ?_
        refine r_aload_n d_Md_drawn_51 rfl ?_
        refine g_Vi (av := []) d_Md_drawn_52 k_Md_173 ws_Md_wide (by decide) rfl rfl (Nat.le_of_ble_eq_true rfl) rfl (c_Md_wide (by rw [upm_ne _ _ _ (by decide)]; exact hsz)) ?_
        rintro _ _ ⟨rfl, rfl⟩
        refine g_Vi (av := [.int (nI (S.1 0 3))]) d_Md_drawn_55 k_Md_251 ws_Md_draw (by decide) rfl rfl (Nat.le_of_ble_eq_true rfl) rfl (c_Md_draw (x := nxs y) (by omega) (by omega) (by rw [upm_at, if_pos rfl])) ?_
        rintro _ _ ⟨rfl, rfl⟩
        refine r_istore (L' := [some (.ref 436), some (.int (nI m)), some (.int x), some (.int (nI q)), some (.int (nI (dro (nxs y) 6))), some (.int (nI (dro (nxs (nxs y)) (S.1 0 3))))]) d_Md_drawn_58 (by decide) rfl ?_
        refine r_aload_n d_Md_drawn_60 rfl ?_
        refine g_getr (b := 438) d_Md_drawn_61 f_Md_56 rfl rfl rfl ?_
        refine r_iconst (v := nI 1) d_Md_drawn_64 (by decide) ?_
        refine r_bipush (v := nI 10) d_Md_drawn_65 (by decide) ?_
        refine r_iload d_Md_drawn_67 rfl ?_
        refine n_imul d_Md_drawn_69 ?_
        refine n_iadd d_Md_drawn_70 ?_
        refine r_iload d_Md_drawn_71 rfl ?_
        refine n_iadd d_Md_drawn_73 ?_
        refine r_aload_n d_Md_drawn_74 rfl ?_
        refine r_bipush (v := nI 19) d_Md_drawn_75 (by decide) ?_
        refine g_Vi (av := [.int (nI 19)]) d_Md_drawn_77 k_Md_251 ws_Md_draw (by decide) rfl rfl (Nat.le_of_ble_eq_true rfl) rfl (c_Md_draw (x := nxs (nxs y)) (by decide) (by decide) (by rw [upm_at, if_pos rfl])) ?_
        rintro _ _ ⟨rfl, rfl⟩
        obtain ⟨M3, e3, m1, m2, m3⟩ : ∃ M3, upm (upm (upm M2 436 30 (nxs y)) 436 30 (nxs (nxs y))) 436 30 (nxs (nxs (nxs y))) = M3 ∧ M3 436 30 = nxs (nxs (nxs y)) ∧ (∀ b, b ≠ 436 → M3 b = M2 b) ∧ ∀ k, k ≠ 30 → M3 436 k = M2 436 k := ⟨_, rfl, by rw [upm_at, if_pos rfl], fun b hb => by rw [upm_ne _ _ _ hb, upm_ne _ _ _ hb, upm_ne _ _ _ hb], fun k hk => by rw [upm_at, if_neg hk, upm_at, if_neg hk, upm_at, if_neg hk]⟩
        rw [e3]
        refine r_bipush (v := nI 9) d_Md_drawn_80 (by decide) ?_
        refine r_isub d_Md_drawn_82 ?_
        refine r_i2l d_Md_drawn_83 ?_
        refine g_Si (av := [.long (((nI (dro (nxs (nxs (nxs y))) 19)) - (nI 9)).toInt64)]) d_Md_drawn_84 k_Md_109 ws_Md_rest (by decide) rfl rfl (Nat.le_of_ble_eq_true rfl) (c_Md_restI) ?_
        rintro _ _ ⟨rfl, rfl⟩
        refine g_iast d_Md_drawn_87 rfl (by omega) (by omega) ?_
        refine n_iinc (c := 1) (L' := [some (.ref 436), some (.int (nI m)), some (.int x), some (.int (nI (q + 1))), some (.int (nI (dro (nxs y) 6))), some (.int (nI (dro (nxs (nxs y)) (S.1 0 3))))]) d_Md_drawn_88 rfl rfl (by decide) rfl ?_
        refine r_goto d_Md_drawn_91 ?_
        refine r_weak (L' := [some (.ref 436), some (.int (nI m)), some (.int x), some (.int (nI (q + 1))), none, none]) (wk_s (wk_s (wk_s (wk_s (wk_n (wk_n wk_0)))))) (ih _ ?_)
        refine ⟨nxs (nxs (nxs y)), setC C (2 + dro (nxs y) 6) (dro (nxs (nxs y)) (S.1 0 3)) (fm (nI (dro (nxs (nxs (nxs y))) 19) - nI 9)), f1.set ⟨by omega, by omega⟩ (by rw [f2]; exact w7) (fm_lt _), by rw [setC, if_neg (by omega)]; exact f2, ?_, by rw [upm_ne _ _ _ (by decide)]; exact m1, (f5.kept (m2 438 (by decide))).set (nw_setS C w6 (by omega)), fun b b1 b2 => by rw [upm_ne _ _ _ b2, m2 b b1]; exact f6 b b1 b2, fun k hk => by rw [upm_ne _ _ _ (by decide), m3 k hk]; exact f7 k hk⟩
        rw [← f3, show m - q = m - (q + 1) + 1 by omega, drw, f2]
    · rw [ic_t hc]
      refine r_iconst (v := nI 0) d_Md_drawn_24 (by decide) ?_
      refine g_reti d_Md_drawn_25 rfl ?_
      exact ⟨rfl, hX0, hk0⟩
  · refine n_if_ne d_Md_drawn_12 (by omega) (fun h9 => absurd h9 (by decide)) (fun _ => ?_)
    refine r_iconst (v := -1) d_Md_drawn_15 (by decide) ?_
    refine g_reti d_Md_drawn_16 rfl ?_
    exact PM.no hX0 hk0 (fun z => hg (hiff.mpr z))
end C66
