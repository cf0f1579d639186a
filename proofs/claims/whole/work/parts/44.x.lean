theorem ts_out {N : Nat} {v : Int32} (hN : N < 2 ^ 31) (h : ¬ inN N v) : v.toInt < 0 ∨ (N : Int) ≤ v.toInt := by
  rcases inN_cases (v := v) hN with ⟨h1, _⟩ | ⟨_, h1, _⟩ | ⟨_, _, h1⟩
  · left
    have := Int32.lt_iff_toInt_lt.mp h1
    simpa using this
  · right
    have := Int32.le_iff_toInt_le.mp h1
    rwa [toInt_nI hN] at this
  · exact absurd h1 h
theorem XR.act {M M1 M' : Mem} {S : SS} {C' : Core} {nx : Nat} (h : XR M S) (hH : HiA M1 ((S.1 :: S.2.1).take 8) nx) (hF : FB M M1 69 327) (hC : StA M' 37 C') (hF2 : ∀ b, (b < 37 ∨ 69 ≤ b) → (b < 394 ∨ 436 ≤ b) → M' b = M1 b) (hB : BO M') : XR M' (kp S C') ∧ KX M M' := by
  obtain ⟨h1, _, h3, h4, h5⟩ := h
  refine ⟨⟨hC, ⟨nx, hH.kept (fun b b1 b2 => hF2 b (by omega) (by omega))⟩, h3.kept (fun b b1 b2 => by rw [hF2 b (by omega) (by omega)]; exact hF b (by omega)), h4.kept (by rw [hF2 _ (by omega) (by omega)]; exact hF _ (by omega)) (by rw [hF2 _ (by omega) (by omega)]; exact hF _ (by omega)) (by rw [hF2 _ (by omega) (by omega)]; exact hF _ (by omega)), hB⟩, fun b hb => by rw [hF2 b (by omega) (by omega)]; exact hF b (by omega)⟩
theorem StA.set {M : Mem} {C : Core} {k i v : Nat} (h : StA M 37 C) (hk : rIx k) (hi : i < 10) : StA (upm M (37 + k) i (nI v)) 37 (setC C k i v) := by
  have hk2 : 2 ≤ k := by unfold rIx at hk; omega
  refine ⟨?_, fun q hq j hj => ?_⟩
  · rw [upm_ne _ _ _ (by omega), setC, if_neg (by omega)]
    exact h.1
  · unfold setC
    by_cases e : q = k
    · subst e
      rw [upm_at]
      by_cases e2 : j = i
      · rw [if_pos e2, if_pos ⟨rfl, e2⟩]
      · rw [if_neg e2, if_neg (fun z => e2 z.2)]
        exact h.2 q hq j hj
    · rw [upm_ne _ _ _ (by omega), if_neg (fun z => e z.1)]
      exact h.2 q hq j hj
theorem tp_step {M M' : Mem} {T : Nat → Nat} {q : Nat} {w : Int32} (h : ∀ j, j < q → T j < 256 ∧ M 35 j = sB (T j)) (h2 : ∀ j, M' 35 j = if q ≤ j ∧ j < q + 4 then sB (bt w (24 - 8 * (j - q))) else M 35 j) : ∀ j, j < q + 4 → tpF T q w j < 256 ∧ M' 35 j = sB (tpF T q w j) := by
  intro j hj
  unfold tpF
  rw [h2 j]
  by_cases e : q ≤ j ∧ j < q + 4
  · rw [if_pos e, if_pos e]
    exact ⟨bt_lt _ _, rfl⟩
  · rw [if_neg e, if_neg e]
    exact h j (by omega)
def tp5 (T : Nat → Nat) (q : Nat) (a b c d e : Int32) : Nat → Nat := tpF (tpF (tpF (tpF (tpF T q a) (q + 4) b) (q + 4 + 4) c) (q + 4 + 4 + 4) d) (q + 4 + 4 + 4 + 4) e
noncomputable def f_feed (S : SS) (a b c d e : Int32) : Int32 × SS := ic (S.2.2.2.2.1 ≤ 520) (nI (S.2.2.2.2.1 + 20), (S.1, S.2.1, S.2.2.1, tp5 S.2.2.2.1 S.2.2.2.2.1 a b c d e, S.2.2.2.2.1 + 20, S.2.2.2.2.2)) (-1, S)
noncomputable def f_end (S : SS) (v : Int32) : Int32 × SS := ic (inN (S.2.2.2.2.1 + 1) v) (nI 1, (S.1, S.2.1, S.2.2.1, S.2.2.2.1, ix v, S.2.2.2.2.2)) (nI 0, S)
def f_fault (S : SS) : Int32 × SS := (nI S.2.2.2.2.2.1, S)
noncomputable def f_now (S : SS) (v : Int32) : Int32 × SS := ic (inN 5 v) (nI (if ix v = 0 then S.1 0 3 else if ix v = 1 then S.2.2.2.2.2.2.1 else if ix v = 2 then S.2.2.2.2.2.2.2 else if ix v = 3 then S.2.1.length else S.2.2.2.2.1), S) (-1, S)
noncomputable def f_at (S : SS) (s i : Int32) : Int32 × SS := ic (okS S s ∧ okP S i) (nI (S.1 (2 + ix s) (ix i)), S) (-1, S)
noncomputable def f_put (S : SS) (s i v : Int32) : Int32 × SS := ic (okS S s ∧ okP S i) (nI (fm v), kp S (setC S.1 (2 + ix s) (ix i) (fm v))) (-1, S)
noncomputable def f_free (S : SS) (i j : Int32) : Int32 × SS := ic (okP S i ∧ okP S j) (nI (S.1 (10 + ix i) (ix j)), S) (-1, S)
noncomputable def f_set (S : SS) (i j v : Int32) : Int32 × SS := ic (okP S i ∧ okP S j ∧ ix j ≤ ix i) (nI (fm v), kp S (setC S.1 (10 + ix i) (ix j) (fm v))) (-1, S)
def undoS (S : SS) : List Core → Int32 × SS
  | [] => (-1, S)
  | D :: H => (nI H.length, (D, H, S.2.2))
def f_undo (S : SS) : Int32 × SS := undoS S S.2.1
noncomputable def f_image (S : SS) (v : Int32) : Int32 × SS := ic (inN 2 v) (nI 1, (S.1, S.2.1, (fun k => if k = ix v then some S.1 else S.2.2.1 k), S.2.2.2)) (nI 0, S)
def rest0 (S : SS) : Option Core → Int32 × SS
  | none => (nI 0, S)
  | some D => (nI 1, (D, [], S.2.2))
noncomputable def f_restore (S : SS) (v : Int32) : Int32 × SS := ic (inN 2 v) (rest0 S (S.2.2.1 (ix v))) (nI 0, S)
theorem g_img {k : Nat} (h : k < 2) : gR 327 k = some (328 + 32 * k) := by
  rcases (show k = 0 ∨ k = 1 by omega) with rfl | rfl <;> rfl
section C44
variable {o : OM} {l : Launch} {n : Nat} {M : Mem} {S : SS}
theorem c_X_feed {a b c d e : Int32} (hX : XR M S) : CI o l m_X_feed n [.ref 0, .int a, .int b, .int c, .int d, .int e] M (PX M (f_feed S a b c d e)) := by
  refine ci_of rfl rfl rfl (Nat.le_of_ble_eq_true rfl) ?_
  obtain ⟨x1, ⟨nx, x2⟩, x3, ⟨x4, x5, x6, x7⟩, x8⟩ := id hX
  refine r_aload_n d_X_feed_0 rfl ?_
  refine g_getr (b := 34) d_X_feed_1 f_X_20 rfl rfl rfl ?_
  refine g_geti d_X_feed_4 f_X_57 rfl rfl ?_
  refine r_top (y := (nI (S.2.2.2.2.1))) (x4) ?_
  refine r_bipush (v := nI 20) d_X_feed_7 (by decide) ?_
  refine n_iadd d_X_feed_9 ?_
  refine r_sipush (v := nI 540) d_X_feed_10 (by decide) ?_
  refine n_icmp_le d_X_feed_13 (by omega) (by omega) (fun hc => ?_) (fun hc => ?_)
  · rw [f_feed, ic_t (by omega)]
    refine r_aload_n d_X_feed_18 rfl ?_
    refine g_getr (b := 34) d_X_feed_19 f_X_20 rfl rfl rfl ?_
    refine r_iload_n d_X_feed_22 rfl ?_
    refine g_Vv (av := [.int a]) d_X_feed_23 k_X_63 ws_Tp_addFourBytes (by decide) rfl rfl (Nat.le_of_ble_eq_true rfl) rfl (c_Tp_addFourBytes (q := S.2.2.2.2.1) (by omega) x4) ?_
    rintro M1 ⟨a1, a2, a3⟩
    refine r_aload_n d_X_feed_26 rfl ?_
    refine g_getr (b := 34) d_X_feed_27 f_X_20 rfl rfl rfl ?_
    refine r_iload_n d_X_feed_30 rfl ?_
    refine g_Vv (av := [.int b]) d_X_feed_31 k_X_63 ws_Tp_addFourBytes (by decide) rfl rfl (Nat.le_of_ble_eq_true rfl) rfl (c_Tp_addFourBytes (by omega) a1) ?_
    rintro M2 ⟨b1, b2, b3⟩
    refine r_aload_n d_X_feed_34 rfl ?_
    refine g_getr (b := 34) d_X_feed_35 f_X_20 rfl rfl rfl ?_
    refine r_iload_n d_X_feed_38 rfl ?_
    refine g_Vv (av := [.int c]) d_X_feed_39 k_X_63 ws_Tp_addFourBytes (by decide) rfl rfl (Nat.le_of_ble_eq_true rfl) rfl (c_Tp_addFourBytes (by omega) b1) ?_
    rintro M3 ⟨c1, c2, c3⟩
    refine r_aload_n d_X_feed_42 rfl ?_
    refine g_getr (b := 34) d_X_feed_43 f_X_20 rfl rfl rfl ?_
    refine r_iload d_X_feed_46 rfl ?_
    refine g_Vv (av := [.int d]) d_X_feed_48 k_X_63 ws_Tp_addFourBytes (by decide) rfl rfl (Nat.le_of_ble_eq_true rfl) rfl (c_Tp_addFourBytes (by omega) c1) ?_
    rintro M4 ⟨d1, d2, d3⟩
    refine r_aload_n d_X_feed_51 rfl ?_
    refine g_getr (b := 34) d_X_feed_52 f_X_20 rfl rfl rfl ?_
    refine r_iload d_X_feed_55 rfl ?_
    refine g_Vv (av := [.int e]) d_X_feed_57 k_X_63 ws_Tp_addFourBytes (by decide) rfl rfl (Nat.le_of_ble_eq_true rfl) rfl (c_Tp_addFourBytes (by omega) d1) ?_
    rintro M5 ⟨e1, e2, e3⟩
    refine r_aload_n d_X_feed_60 rfl ?_
    refine g_getr (b := 34) d_X_feed_61 f_X_20 rfl rfl rfl ?_
    refine g_geti d_X_feed_64 f_X_57 rfl rfl ?_
    refine r_top (y := (nI (S.2.2.2.2.1 + 20))) (e1) ?_
    refine g_reti d_X_feed_67 rfl ?_
    have k : ∀ z, z ≠ 34 → z ≠ 35 → M5 z = M z := fun z z1 z2 => by rw [e3 z z1 z2, d3 z z1 z2, c3 z z1 z2, b3 z z1 z2, a3 z z1 z2]
    refine ⟨rfl, ⟨x1.kept (fun z z1 z2 => k z (by omega) (by omega)), ⟨nx, x2.kept (fun z z1 z2 => k z (by omega) (by omega))⟩, x3.kept (fun z z1 z2 => k z (by omega) (by omega)), ⟨e1, by show S.2.2.2.2.1 + 20 ≤ 540; omega, tp_step (tp_step (tp_step (tp_step (tp_step x6 a2) b2) c2) d2) e2, ?_⟩, x8.kept (fun z z1 => k z (by omega) (by omega))⟩, fun z z1 => k z (by omega) (by omega)⟩
    rw [k 0 (by decide) (by decide)]
    exact x7
  · refine r_iconst (v := -1) d_X_feed_16 (by decide) ?_
    refine g_reti d_X_feed_17 rfl ?_
    exact PX.no hX (by omega)
theorem c_X_end {v : Int32} (hX : XR M S) : CI o l m_X_end n [.ref 0, .int v] M (PX M (f_end S v)) := by
  refine ci_of rfl rfl rfl (Nat.le_of_ble_eq_true rfl) ?_
  obtain ⟨x1, ⟨nx, x2⟩, x3, ⟨x4, x5, x6, x7⟩, x8⟩ := id hX
  refine r_iload_n d_X_end_0 rfl ?_
  refine r_if_lt d_X_end_1 (fun hc => ?_) (fun hc => ?_)
  · refine r_iconst (v := nI 0) d_X_end_15 (by decide) ?_
    refine g_retz d_X_end_16 rfl (by decide) ?_
    exact PX.no hX (inN_f1 hc)
  · have e := nI_ix hc
    have e2 : ix v < 2 ^ 31 := by have h2 := v.toInt_lt; unfold ix; omega
    rw [f_end]
    generalize ix v = k at *
    subst e
    refine r_iload_n d_X_end_4 rfl ?_
    refine r_aload_n d_X_end_5 rfl ?_
    refine g_getr (b := 34) d_X_end_6 f_X_20 rfl rfl rfl ?_
    refine g_geti d_X_end_9 f_X_57 rfl rfl ?_
    refine r_top (y := (nI (S.2.2.2.2.1))) (x4) ?_
    refine n_icmp_le d_X_end_12 (by omega) (by omega) (fun hc2 => ?_) (fun hc2 => ?_)
    · rw [ic_t (show inN (S.2.2.2.2.1 + 1) (nI k) from ⟨by rw [ix_nI e2]; omega, by rw [ix_nI e2]⟩)]
      refine r_aload_n d_X_end_17 rfl ?_
      refine g_getr (b := 34) d_X_end_18 f_X_20 rfl rfl rfl ?_
      refine r_iload_n d_X_end_21 rfl ?_
      refine g_puti d_X_end_22 f_X_57 ⟨rfl, rfl, rfl⟩ rfl ?_
      refine r_iconst (v := nI 1) d_X_end_25 (by decide) ?_
      refine g_retz d_X_end_26 rfl (by decide) ?_
      have k9 : ∀ z, z ≠ 34 → upm M 34 1 (nI k) z = M z := fun z z1 => upm_ne _ _ _ z1
      refine ⟨rfl, ⟨x1.kept (fun z z1 z2 => k9 z (by omega)), ⟨nx, x2.kept (fun z z1 z2 => k9 z (by omega))⟩, x3.kept (fun z z1 z2 => k9 z (by omega)), ⟨by rw [upm_at, if_pos rfl], by show k ≤ 540; omega, fun j hj => ?_, ?_⟩, x8.kept (fun z z1 => k9 z (by omega))⟩, fun z z1 => k9 z (by omega)⟩
      · rw [k9 35 (by decide)]
        exact x6 j (Nat.lt_of_lt_of_le hj hc2)
      · rw [k9 0 (by decide)]
        exact x7
    · refine r_iconst (v := nI 0) d_X_end_15 (by decide) ?_
      refine g_retz d_X_end_16 rfl (by decide) ?_
      exact PX.no hX (fun z => by have := z.1; rw [ix_nI e2] at this; omega)
theorem c_X_fault (hX : XR M S) : CI o l m_X_fault n [.ref 0] M (PX M (f_fault S)) := by
  refine ci_of rfl rfl rfl (Nat.le_of_ble_eq_true rfl) ?_
  refine r_aload_n d_X_fault_0 rfl ?_
  refine g_geti d_X_fault_1 f_X_74 rfl rfl ?_
  refine r_top (y := (nI (S.2.2.2.2.2.1))) (hX.2.2.2.1.2.2.2.1) ?_
  refine g_reti d_X_fault_4 rfl ?_
  exact ⟨rfl, hX, fun _ _ => rfl⟩
theorem c_X_now {v : Int32} (hX : XR M S) : CI o l m_X_now n [.ref 0, .int v] M (PX M (f_now S v)) := by
  refine ci_of rfl rfl rfl (Nat.le_of_ble_eq_true rfl) ?_
  obtain ⟨x1, ⟨nx, x2⟩, x3, ⟨x4, x5, x6, x7, x9, x10⟩, x8⟩ := id hX
  by_cases hv : inN 5 v
  · rw [f_now, ic_t hv]
    obtain ⟨hv1, hv2⟩ := hv
    generalize ix v = k at *
    subst hv2
    rcases (show k = 0 ∨ k = 1 ∨ k = 2 ∨ k = 3 ∨ k = 4 by omega) with rfl | rfl | rfl | rfl | rfl
    · refine r_iload_n d_X_now_0 rfl ?_
      refine r_tsIn (tgt := 36) d_X_now_1 (by decide) (by decide) rfl rfl ?_
      refine r_aload_n d_X_now_36 rfl ?_
      refine g_getr (b := 37) d_X_now_37 f_X_24 rfl rfl rfl ?_
      refine g_geti d_X_now_40 f_X_99 rfl rfl ?_
      refine r_top (y := (nI (S.1 0 3))) (x1.1) ?_
      refine g_reti d_X_now_43 rfl ?_
      exact ⟨rfl, hX, fun _ _ => rfl⟩
    · refine r_iload_n d_X_now_0 rfl ?_
      refine r_tsIn (tgt := 44) d_X_now_1 (by decide) (by decide) rfl rfl ?_
      refine r_aload_n d_X_now_44 rfl ?_
      refine g_geti d_X_now_45 f_X_88 rfl rfl ?_
      refine r_top (y := (nI (S.2.2.2.2.2.2.1))) (x9) ?_
      refine g_reti d_X_now_48 rfl ?_
      exact ⟨rfl, hX, fun _ _ => rfl⟩
    · refine r_iload_n d_X_now_0 rfl ?_
      refine r_tsIn (tgt := 49) d_X_now_1 (by decide) (by decide) rfl rfl ?_
      refine r_aload_n d_X_now_49 rfl ?_
      refine g_geti d_X_now_50 f_X_92 rfl rfl ?_
      refine r_top (y := (nI (S.2.2.2.2.2.2.2))) (x10) ?_
      refine g_reti d_X_now_53 rfl ?_
      exact ⟨rfl, hX, fun _ _ => rfl⟩
    · refine r_iload_n d_X_now_0 rfl ?_
      refine r_tsIn (tgt := 54) d_X_now_1 (by decide) (by decide) rfl rfl ?_
      refine r_aload_n d_X_now_54 rfl ?_
      refine g_getr (b := 69) d_X_now_55 f_X_31 rfl rfl rfl ?_
      refine g_geti d_X_now_58 f_X_102 rfl rfl ?_
      refine r_top (y := (nI (S.2.1.length))) (x2.1) ?_
      refine g_reti d_X_now_61 rfl ?_
      exact ⟨rfl, hX, fun _ _ => rfl⟩
    · refine r_iload_n d_X_now_0 rfl ?_
      refine r_tsIn (tgt := 62) d_X_now_1 (by decide) (by decide) rfl rfl ?_
      refine r_aload_n d_X_now_62 rfl ?_
      refine g_getr (b := 34) d_X_now_63 f_X_20 rfl rfl rfl ?_
      refine g_geti d_X_now_66 f_X_57 rfl rfl ?_
      refine r_top (y := (nI (S.2.2.2.2.1))) (x4) ?_
      refine g_reti d_X_now_69 rfl ?_
      exact ⟨rfl, hX, fun _ _ => rfl⟩
  · refine r_iload_n d_X_now_0 rfl ?_
    refine r_tsOut (tgt := 70) d_X_now_1 (by have := ts_out (by decide) hv; omega) rfl ?_
    refine r_iconst (v := -1) d_X_now_70 (by decide) ?_
    refine g_reti d_X_now_71 rfl ?_
    exact PX.no hX hv
theorem c_X_at {s i : Int32} (hW : WS S) (hX : XR M S) : CI o l m_X_at n [.ref 0, .int s, .int i] M (PX M (f_at S s i)) := by
  refine ci_of rfl rfl rfl (Nat.le_of_ble_eq_true rfl) ?_
  have hs10 := hW.sz10
  refine r_aload_n d_X_at_0 rfl ?_
  refine r_iload_n d_X_at_1 rfl ?_
  by_cases hg1 : okS S s
  case neg =>
    refine g_Vi (av := [.int s]) d_X_at_2 k_X_105 ws_X_isSeries (by decide) rfl rfl (Nat.le_of_ble_eq_true rfl) rfl (c_X_isSeries_f hW hX hg1) ?_
    rintro _ _ ⟨rfl, rfl⟩
    refine n_if_eq d_X_at_5 (by omega) (fun _ => ?_) (fun h9 => absurd h9 (by decide))
    refine r_iconst (v := -1) d_X_at_16 (by decide) ?_
    refine g_reti d_X_at_17 rfl ?_
    exact PX.no hX (fun q9 => hg1 q9.1)
  refine g_Vi (av := [.int s]) d_X_at_2 k_X_105 ws_X_isSeries (by decide) rfl rfl (Nat.le_of_ble_eq_true rfl) rfl (c_X_isSeries_t hW hX hg1) ?_
  rintro _ _ ⟨rfl, rfl⟩
  refine n_if_eq d_X_at_5 (by omega) (fun h9 => absurd h9 (by decide)) (fun _ => ?_)
  refine r_aload_n d_X_at_8 rfl ?_
  refine r_iload_n d_X_at_9 rfl ?_
  by_cases hg2 : okP S i
  case neg =>
    refine g_Vi (av := [.int i]) d_X_at_10 k_X_109 ws_X_isWithinSize (by decide) rfl rfl (Nat.le_of_ble_eq_true rfl) rfl (c_X_isWithinSize_f hW hX hg2) ?_
    rintro _ _ ⟨rfl, rfl⟩
    refine n_if_ne d_X_at_13 (by omega) (fun h9 => absurd h9 (by decide)) (fun _ => ?_)
    refine r_iconst (v := -1) d_X_at_16 (by decide) ?_
    refine g_reti d_X_at_17 rfl ?_
    exact PX.no hX (fun q9 => hg2 q9.2)
  refine g_Vi (av := [.int i]) d_X_at_10 k_X_109 ws_X_isWithinSize (by decide) rfl rfl (Nat.le_of_ble_eq_true rfl) rfl (c_X_isWithinSize_t hW hX hg2) ?_
  rintro _ _ ⟨rfl, rfl⟩
  refine n_if_ne d_X_at_13 (by omega) (fun _ => ?_) (fun h9 => absurd h9 (by decide))
  rw [f_at, ic_t ⟨hg1, hg2⟩]
  obtain ⟨h0, hs1, hs2⟩ := hg1
  obtain ⟨hi1, hi2⟩ := hg2
  generalize ix s = a at *
  subst hs2
  generalize ix i = b at *
  subst hi2
  refine r_aload_n d_X_at_18 rfl ?_
  refine g_getr (b := 37) d_X_at_19 f_X_24 rfl rfl rfl ?_
  refine g_getr (b := 38) d_X_at_22 f_X_112 rfl rfl rfl ?_
  refine r_iload_n d_X_at_25 rfl ?_
  refine g_aald (b := (39+a)) (t := 5) (N := 6) d_X_at_26 rfl (by decide) (by omega) (by omega) (g_ser hs1) ?_
  refine r_iload_n d_X_at_27 rfl ?_
  refine g_iald d_X_at_28 (t_ser hs1) (by omega) (by omega) ?_
  refine r_top (y := nI (S.1 (2 + a) b)) ((hX.row hW hs1 b (by omega)).1) ?_
  refine g_reti d_X_at_29 rfl ?_
  exact ⟨rfl, hX, fun _ _ => rfl⟩
theorem c_X_put {s i v : Int32} (hW : WS S) (hX : XR M S) : CI o l m_X_put n [.ref 0, .int s, .int i, .int v] M (PX M (f_put S s i v)) := by
  refine ci_of rfl rfl rfl (Nat.le_of_ble_eq_true rfl) ?_
  obtain ⟨x1, ⟨nx, x2⟩, x3, x4, x8⟩ := id hX
  have hs10 := hW.sz10
  refine r_aload_n d_X_put_0 rfl ?_
  refine r_iload_n d_X_put_1 rfl ?_
  by_cases hg1 : okS S s
  case neg =>
    refine g_Vi (av := [.int s]) d_X_put_2 k_X_105 ws_X_isSeries (by decide) rfl rfl (Nat.le_of_ble_eq_true rfl) rfl (c_X_isSeries_f hW hX hg1) ?_
    rintro _ _ ⟨rfl, rfl⟩
    refine n_if_eq d_X_put_5 (by omega) (fun _ => ?_) (fun h9 => absurd h9 (by decide))
    refine r_iconst (v := -1) d_X_put_16 (by decide) ?_
    refine g_reti d_X_put_17 rfl ?_
    exact PX.no hX (fun q9 => hg1 q9.1)
  refine g_Vi (av := [.int s]) d_X_put_2 k_X_105 ws_X_isSeries (by decide) rfl rfl (Nat.le_of_ble_eq_true rfl) rfl (c_X_isSeries_t hW hX hg1) ?_
  rintro _ _ ⟨rfl, rfl⟩
  refine n_if_eq d_X_put_5 (by omega) (fun h9 => absurd h9 (by decide)) (fun _ => ?_)
  refine r_aload_n d_X_put_8 rfl ?_
  refine r_iload_n d_X_put_9 rfl ?_
  by_cases hg2 : okP S i
  case neg =>
    refine g_Vi (av := [.int i]) d_X_put_10 k_X_109 ws_X_isWithinSize (by decide) rfl rfl (Nat.le_of_ble_eq_true rfl) rfl (c_X_isWithinSize_f hW hX hg2) ?_
    rintro _ _ ⟨rfl, rfl⟩
    refine n_if_ne d_X_put_13 (by omega) (fun h9 => absurd h9 (by decide)) (fun _ => ?_)
    refine r_iconst (v := -1) d_X_put_16 (by decide) ?_
    refine g_reti d_X_put_17 rfl ?_
    exact PX.no hX (fun q9 => hg2 q9.2)
  refine g_Vi (av := [.int i]) d_X_put_10 k_X_109 ws_X_isWithinSize (by decide) rfl rfl (Nat.le_of_ble_eq_true rfl) rfl (c_X_isWithinSize_t hW hX hg2) ?_
  rintro _ _ ⟨rfl, rfl⟩
  refine n_if_ne d_X_put_13 (by omega) (fun _ => ?_) (fun h9 => absurd h9 (by decide))
  rw [f_put, ic_t ⟨hg1, hg2⟩]
  obtain ⟨h0, hs1, hs2⟩ := hg1
  obtain ⟨hi1, hi2⟩ := hg2
  generalize ix s = a at *
  subst hs2
  generalize ix i = b at *
  subst hi2
  refine r_aload_n d_X_put_18 rfl ?_
  refine g_getr (b := 69) d_X_put_19 f_X_31 rfl rfl rfl ?_
  refine r_aload_n d_X_put_22 rfl ?_
  refine g_getr (b := 37) d_X_put_23 f_X_24 rfl rfl rfl ?_
  refine g_Vv (av := [.ref 37]) d_X_put_26 k_X_116 ws_Hi_keep (by decide) rfl rfl (Nat.le_of_ble_eq_true rfl) rfl (c_Hi_keep x1 x2) ?_
  rintro M1 ⟨k1, k2⟩
  refine r_aload_n d_X_put_29 rfl ?_
  refine g_getr (b := 37) d_X_put_30 f_X_24 rfl rfl rfl ?_
  refine g_getr (b := 38) d_X_put_33 f_X_112 rfl rfl rfl ?_
  refine r_iload_n d_X_put_36 rfl ?_
  refine g_aald (b := (39+a)) (t := 5) (N := 6) d_X_put_37 rfl (by decide) (by omega) (by omega) (g_ser hs1) ?_
  refine r_iload_n d_X_put_38 rfl ?_
  refine r_iload_n d_X_put_39 rfl ?_
  refine r_ldc (v := nI 1000003) d_X_put_40 c_X_119 ?_
  refine g_Si (av := [.int v, .int (nI 1000003)]) d_X_put_42 k_X_120 ws_Ma_floorMod (by decide) rfl rfl (Nat.le_of_ble_eq_true rfl) (c_Ma_floorMod v) ?_
  rintro _ _ ⟨rfl, rfl⟩
  refine g_iast d_X_put_45 (t_ser hs1) (by omega) (by omega) ?_
  have r9 : rIx (2 + a) := Or.inl ⟨by omega, by omega⟩
  have y1 : StA (upm M1 (39 + a) b (nI (fm v))) 37 (setC S.1 (2 + a) b (fm v)) := by
    have := (x1.kept (M' := M1) (fun z z1 z2 => k2 z (by omega))).set (v := fm v) r9 (show b < 10 by omega)
    rwa [show 37 + (2 + a) = 39 + a by omega] at this
  have y2 := hX.act k1 k2 y1 (fun z z1 z2 => upm_ne _ _ _ (by omega)) (x8.kept (fun z z1 => by rw [upm_ne _ _ _ (by omega)]; exact k2 z (by omega)))
  refine r_aload_n d_X_put_46 rfl ?_
  refine g_getr (b := 37) d_X_put_47 f_X_24 rfl rfl rfl ?_
  refine g_getr (b := 38) d_X_put_50 f_X_112 rfl rfl rfl ?_
  refine r_iload_n d_X_put_53 rfl ?_
  refine g_aald (b := (39+a)) (t := 5) (N := 6) d_X_put_54 rfl (by decide) (by omega) (by omega) (g_ser hs1) ?_
  refine r_iload_n d_X_put_55 rfl ?_
  refine g_iald d_X_put_56 (t_ser hs1) (by omega) (by omega) ?_
  refine r_top (y := nI (fm v)) (by rw [upm_at, if_pos rfl]) ?_
  refine g_reti d_X_put_57 rfl ?_
  exact ⟨rfl, y2.1, y2.2⟩
theorem c_X_free {i j : Int32} (hW : WS S) (hX : XR M S) : CI o l m_X_free n [.ref 0, .int i, .int j] M (PX M (f_free S i j)) := by
  refine ci_of rfl rfl rfl (Nat.le_of_ble_eq_true rfl) ?_
  have hs10 := hW.sz10
  refine r_aload_n d_X_free_0 rfl ?_
  refine r_iload_n d_X_free_1 rfl ?_
  by_cases hg1 : okP S i
  case neg =>
    refine g_Vi (av := [.int i]) d_X_free_2 k_X_109 ws_X_isWithinSize (by decide) rfl rfl (Nat.le_of_ble_eq_true rfl) rfl (c_X_isWithinSize_f hW hX hg1) ?_
    rintro _ _ ⟨rfl, rfl⟩
    refine n_if_eq d_X_free_5 (by omega) (fun _ => ?_) (fun h9 => absurd h9 (by decide))
    refine r_iconst (v := -1) d_X_free_16 (by decide) ?_
    refine g_reti d_X_free_17 rfl ?_
    exact PX.no hX (fun q9 => hg1 q9.1)
  refine g_Vi (av := [.int i]) d_X_free_2 k_X_109 ws_X_isWithinSize (by decide) rfl rfl (Nat.le_of_ble_eq_true rfl) rfl (c_X_isWithinSize_t hW hX hg1) ?_
  rintro _ _ ⟨rfl, rfl⟩
  refine n_if_eq d_X_free_5 (by omega) (fun h9 => absurd h9 (by decide)) (fun _ => ?_)
  refine r_aload_n d_X_free_8 rfl ?_
  refine r_iload_n d_X_free_9 rfl ?_
  by_cases hg2 : okP S j
  case neg =>
    refine g_Vi (av := [.int j]) d_X_free_10 k_X_109 ws_X_isWithinSize (by decide) rfl rfl (Nat.le_of_ble_eq_true rfl) rfl (c_X_isWithinSize_f hW hX hg2) ?_
    rintro _ _ ⟨rfl, rfl⟩
    refine n_if_ne d_X_free_13 (by omega) (fun h9 => absurd h9 (by decide)) (fun _ => ?_)
    refine r_iconst (v := -1) d_X_free_16 (by decide) ?_
    refine g_reti d_X_free_17 rfl ?_
    exact PX.no hX (fun q9 => hg2 q9.2)
  refine g_Vi (av := [.int j]) d_X_free_10 k_X_109 ws_X_isWithinSize (by decide) rfl rfl (Nat.le_of_ble_eq_true rfl) rfl (c_X_isWithinSize_t hW hX hg2) ?_
  rintro _ _ ⟨rfl, rfl⟩
  refine n_if_ne d_X_free_13 (by omega) (fun _ => ?_) (fun h9 => absurd h9 (by decide))
  rw [f_free, ic_t ⟨hg1, hg2⟩]
  obtain ⟨hs1, hs2⟩ := hg1
  obtain ⟨hi1, hi2⟩ := hg2
  generalize ix i = a at *
  subst hs2
  generalize ix j = b at *
  subst hi2
  refine r_aload_n d_X_free_18 rfl ?_
  refine g_getr (b := 37) d_X_free_19 f_X_24 rfl rfl rfl ?_
  refine g_getr (b := 46) d_X_free_22 f_X_218 rfl rfl rfl ?_
  refine r_iload_n d_X_free_25 rfl ?_
  refine g_aald (b := (47+a)) (t := 5) (N := 10) d_X_free_26 rfl (by decide) (by omega) (by omega) (g_free (by omega)) ?_
  refine r_iload_n d_X_free_27 rfl ?_
  refine g_iald d_X_free_28 (t_free (by omega)) (by omega) (by omega) ?_
  refine r_top (y := nI (S.1 (10 + a) b)) ((hX.fr hW (by omega) b (by omega)).1) ?_
  refine g_reti d_X_free_29 rfl ?_
  exact ⟨rfl, hX, fun _ _ => rfl⟩
theorem c_X_set {i j v : Int32} (hW : WS S) (hX : XR M S) : CI o l m_X_set n [.ref 0, .int i, .int j, .int v] M (PX M (f_set S i j v)) := by
  refine ci_of rfl rfl rfl (Nat.le_of_ble_eq_true rfl) ?_
  obtain ⟨x1, ⟨nx, x2⟩, x3, x4, x8⟩ := id hX
  have hs10 := hW.sz10
  by_cases hg1 : okP S i
  · by_cases hg2 : okP S j
    · refine r_aload_n d_X_set_0 rfl ?_
      refine r_iload_n d_X_set_1 rfl ?_
      refine g_Vi (av := [.int i]) d_X_set_2 k_X_109 ws_X_isWithinSize (by decide) rfl rfl (Nat.le_of_ble_eq_true rfl) rfl (c_X_isWithinSize_t hW hX hg1) ?_
      rintro _ _ ⟨rfl, rfl⟩
      refine n_if_eq d_X_set_5 (by omega) (fun h9 => absurd h9 (by decide)) (fun _ => ?_)
      refine r_aload_n d_X_set_8 rfl ?_
      refine r_iload_n d_X_set_9 rfl ?_
      refine g_Vi (av := [.int j]) d_X_set_10 k_X_109 ws_X_isWithinSize (by decide) rfl rfl (Nat.le_of_ble_eq_true rfl) rfl (c_X_isWithinSize_t hW hX hg2) ?_
      rintro _ _ ⟨rfl, rfl⟩
      refine n_if_eq d_X_set_13 (by omega) (fun h9 => absurd h9 (by decide)) (fun _ => ?_)
      have hg1' := hg1
      have hg2' := hg2
      rw [f_set]
      obtain ⟨hs1, hs2⟩ := hg1
      obtain ⟨hi1, hi2⟩ := hg2
      generalize ix i = a at *
      subst hs2
      generalize ix j = b at *
      subst hi2
      refine r_iload_n d_X_set_16 rfl ?_
      refine r_iload_n d_X_set_17 rfl ?_
      refine n_icmp_le d_X_set_18 (by omega) (by omega) (fun hc => ?_) (fun hc => ?_)
      · rw [ic_t ⟨hg1', hg2', hc⟩]
        refine r_aload_n d_X_set_23 rfl ?_
        refine g_getr (b := 69) d_X_set_24 f_X_31 rfl rfl rfl ?_
        refine r_aload_n d_X_set_27 rfl ?_
        refine g_getr (b := 37) d_X_set_28 f_X_24 rfl rfl rfl ?_
        refine g_Vv (av := [.ref 37]) d_X_set_31 k_X_116 ws_Hi_keep (by decide) rfl rfl (Nat.le_of_ble_eq_true rfl) rfl (c_Hi_keep x1 x2) ?_
        rintro M1 ⟨k1, k2⟩
        refine r_aload_n d_X_set_34 rfl ?_
        refine g_getr (b := 37) d_X_set_35 f_X_24 rfl rfl rfl ?_
        refine g_getr (b := 46) d_X_set_38 f_X_218 rfl rfl rfl ?_
        refine r_iload_n d_X_set_41 rfl ?_
        refine g_aald (b := (47+a)) (t := 5) (N := 10) d_X_set_42 rfl (by decide) (by omega) (by omega) (g_free (by omega)) ?_
        refine r_iload_n d_X_set_43 rfl ?_
        refine r_iload_n d_X_set_44 rfl ?_
        refine r_ldc (v := nI 1000003) d_X_set_45 c_X_119 ?_
        refine g_Si (av := [.int v, .int (nI 1000003)]) d_X_set_47 k_X_120 ws_Ma_floorMod (by decide) rfl rfl (Nat.le_of_ble_eq_true rfl) (c_Ma_floorMod v) ?_
        rintro _ _ ⟨rfl, rfl⟩
        refine g_iast d_X_set_50 (t_free (by omega)) (by omega) (by omega) ?_
        have r9 : rIx (10 + a) := Or.inr (Or.inl ⟨by omega, by omega⟩)
        have y1 : StA (upm M1 (47 + a) b (nI (fm v))) 37 (setC S.1 (10 + a) b (fm v)) := by
          have := (x1.kept (M' := M1) (fun z z1 z2 => k2 z (by omega))).set (v := fm v) r9 (show b < 10 by omega)
          rwa [show 37 + (10 + a) = 47 + a by omega] at this
        have y2 := hX.act k1 k2 y1 (fun z z1 z2 => upm_ne _ _ _ (by omega)) (x8.kept (fun z z1 => by rw [upm_ne _ _ _ (by omega)]; exact k2 z (by omega)))
        refine r_aload_n d_X_set_51 rfl ?_
        refine g_getr (b := 37) d_X_set_52 f_X_24 rfl rfl rfl ?_
        refine g_getr (b := 46) d_X_set_55 f_X_218 rfl rfl rfl ?_
        refine r_iload_n d_X_set_58 rfl ?_
        refine g_aald (b := (47+a)) (t := 5) (N := 10) d_X_set_59 rfl (by decide) (by omega) (by omega) (g_free (by omega)) ?_
        refine r_iload_n d_X_set_60 rfl ?_
        refine g_iald d_X_set_61 (t_free (by omega)) (by omega) (by omega) ?_
        refine r_top (y := nI (fm v)) (by rw [upm_at, if_pos rfl]) ?_
        refine g_reti d_X_set_62 rfl ?_
        exact ⟨rfl, y2.1, y2.2⟩
      · refine r_iconst (v := -1) d_X_set_21 (by decide) ?_
        refine g_reti d_X_set_22 rfl ?_
        exact PX.no hX (fun z => by have := z.2.2; omega)
    · refine r_aload_n d_X_set_0 rfl ?_
      refine r_iload_n d_X_set_1 rfl ?_
      refine g_Vi (av := [.int i]) d_X_set_2 k_X_109 ws_X_isWithinSize (by decide) rfl rfl (Nat.le_of_ble_eq_true rfl) rfl (c_X_isWithinSize_t hW hX hg1) ?_
      rintro _ _ ⟨rfl, rfl⟩
      refine n_if_eq d_X_set_5 (by omega) (fun h9 => absurd h9 (by decide)) (fun _ => ?_)
      refine r_aload_n d_X_set_8 rfl ?_
      refine r_iload_n d_X_set_9 rfl ?_
      refine g_Vi (av := [.int j]) d_X_set_10 k_X_109 ws_X_isWithinSize (by decide) rfl rfl (Nat.le_of_ble_eq_true rfl) rfl (c_X_isWithinSize_f hW hX hg2) ?_
      rintro _ _ ⟨rfl, rfl⟩
      refine n_if_eq d_X_set_13 (by omega) (fun _ => ?_) (fun h9 => absurd h9 (by decide))
      refine r_iconst (v := -1) d_X_set_21 (by decide) ?_
      refine g_reti d_X_set_22 rfl ?_
      exact PX.no hX (fun z => hg2 z.2.1)
  · refine r_aload_n d_X_set_0 rfl ?_
    refine r_iload_n d_X_set_1 rfl ?_
    refine g_Vi (av := [.int i]) d_X_set_2 k_X_109 ws_X_isWithinSize (by decide) rfl rfl (Nat.le_of_ble_eq_true rfl) rfl (c_X_isWithinSize_f hW hX hg1) ?_
    rintro _ _ ⟨rfl, rfl⟩
    refine n_if_eq d_X_set_5 (by omega) (fun _ => ?_) (fun h9 => absurd h9 (by decide))
    refine r_iconst (v := -1) d_X_set_21 (by decide) ?_
    refine g_reti d_X_set_22 rfl ?_
    exact PX.no hX (fun z => hg1 z.1)
theorem c_X_undo (hX : XR M S) : CI o l m_X_undo n [.ref 0] M (PX M (f_undo S)) := by
  refine ci_of rfl rfl rfl (Nat.le_of_ble_eq_true rfl) ?_
  obtain ⟨x1, ⟨nx, x2⟩, x3, x4, x8⟩ := id hX
  unfold f_undo
  generalize hH : S.2.1 = H at *
  cases H with
  | nil =>
    refine r_aload_n d_X_undo_0 rfl ?_
    refine g_getr (b := 69) d_X_undo_1 f_X_31 rfl rfl rfl ?_
    refine g_geti d_X_undo_4 f_X_102 rfl rfl ?_
    refine r_top (y := (nI 0)) (x2.1) ?_
    refine n_if_ne d_X_undo_7 (by omega) (fun h9 => absurd h9 (by decide)) (fun _ => ?_)
    refine r_iconst (v := -1) d_X_undo_10 (by decide) ?_
    refine g_reti d_X_undo_11 rfl ?_
    exact ⟨rfl, hX, fun _ _ => rfl⟩
  | cons D H =>
    have h8 := x2.2.2.2.1
    rw [List.length_cons] at h8
    refine r_aload_n d_X_undo_0 rfl ?_
    refine g_getr (b := 69) d_X_undo_1 f_X_31 rfl rfl rfl ?_
    refine g_geti d_X_undo_4 f_X_102 rfl rfl ?_
    refine r_top (y := (nI (H.length + 1))) (x2.1) ?_
    refine n_if_ne d_X_undo_7 (by omega) (fun hc => ?_) (fun hc => ?_)
    · refine r_aload_n d_X_undo_12 rfl ?_
      refine g_getr (b := 69) d_X_undo_13 f_X_31 rfl rfl rfl ?_
      refine r_aload_n d_X_undo_16 rfl ?_
      refine g_getr (b := 37) d_X_undo_17 f_X_24 rfl rfl rfl ?_
      refine g_Vv (av := [.ref 37]) d_X_undo_20 k_X_239 ws_Hi_takeBack (by decide) rfl rfl (Nat.le_of_ble_eq_true rfl) rfl (c_Hi_takeBack x2) ?_
      rintro M1 ⟨k1, k2, k3⟩
      refine r_aload_n d_X_undo_23 rfl ?_
      refine g_getr (b := 69) d_X_undo_24 f_X_31 rfl rfl rfl ?_
      refine g_geti d_X_undo_27 f_X_102 rfl rfl ?_
      refine r_top (y := (nI (H.length))) (k2.1) ?_
      refine g_reti d_X_undo_30 rfl ?_
      exact ⟨rfl, ⟨k1, ⟨_, k2⟩, x3.kept (fun z z1 z2 => k3 z (by omega)), x4.kept (k3 _ (by omega)) (k3 _ (by omega)) (k3 _ (by omega)), x8.kept (fun z z1 => k3 z (by omega))⟩, fun z z1 => k3 z (by omega)⟩
    · omega
theorem c_X_image {v : Int32} (hX : XR M S) : CI o l m_X_image n [.ref 0, .int v] M (PX M (f_image S v)) := by
  refine ci_of rfl rfl rfl (Nat.le_of_ble_eq_true rfl) ?_
  obtain ⟨x1, ⟨nx, x2⟩, x3, x4, x8⟩ := id hX
  rcases inN_cases (N := 2) (v := v) (by decide) with ⟨h1, h2⟩ | ⟨h1, h2, h3⟩ | ⟨_, _, h1⟩
  · refine r_iload_n d_X_image_0 rfl ?_
    refine r_if_lt d_X_image_1 (fun hc => ?_) (fun hc => ?_)
    · refine r_iconst (v := nI 0) d_X_image_9 (by decide) ?_
      refine g_retz d_X_image_10 rfl (by decide) ?_
      exact PX.no hX h2
    · exact absurd h1 hc
  · refine r_iload_n d_X_image_0 rfl ?_
    refine r_if_lt d_X_image_1 (fun hc => ?_) (fun hc => ?_)
    · exact absurd hc h1
    · refine r_iload_n d_X_image_4 rfl ?_
      refine r_iconst (v := nI 2) d_X_image_5 (by decide) ?_
      refine r_icmp_lt d_X_image_6 (fun hc2 => ?_) (fun hc2 => ?_)
      · exact absurd h2 (fun z => Int32.not_lt.mpr z hc2)
      · refine r_iconst (v := nI 0) d_X_image_9 (by decide) ?_
        refine g_retz d_X_image_10 rfl (by decide) ?_
        exact PX.no hX h3
  · rw [f_image, ic_t h1]
    obtain ⟨h2, h3⟩ := h1
    generalize ix v = k at *
    subst h3
    refine r_iload_n d_X_image_0 rfl ?_
    refine n_if_lt d_X_image_1 (by omega) ?_
    refine r_iload_n d_X_image_4 rfl ?_
    refine r_iconst (v := nI 2) d_X_image_5 (by decide) ?_
    refine n_icmp_lt d_X_image_6 (by omega) (by omega) (fun hc2 => ?_) (fun hc2 => ?_)
    · refine r_aload_n d_X_image_11 rfl ?_
      refine g_getr (b := 327) d_X_image_12 f_X_35 rfl rfl rfl ?_
      refine r_iload_n d_X_image_15 rfl ?_
      refine g_aald (b := (328+32*k)) (t := 6) (N := 2) d_X_image_16 rfl (by decide) (by omega) (by omega) (g_img h2) ?_
      refine r_aload_n d_X_image_17 rfl ?_
      refine g_getr (b := 37) d_X_image_18 f_X_24 rfl rfl rfl ?_
      refine g_Vv (av := [.ref 37]) d_X_image_21 k_X_81 ws_St_copyFrom (by decide) rfl rfl (Nat.le_of_ble_eq_true rfl) (by rw [((isSt_img k h2).1)]) (c_St_copyFrom (isSt_img k h2) isSt_37 (by omega) x1) ?_
      rintro M1 ⟨k1, k2⟩
      refine r_aload_n d_X_image_24 rfl ?_
      refine g_getr (b := 392) d_X_image_25 f_X_39 rfl rfl rfl ?_
      refine r_iload_n d_X_image_28 rfl ?_
      refine r_iconst (v := nI 1) d_X_image_29 (by decide) ?_
      refine g_zast d_X_image_30 rfl (by omega) (by omega) (by decide) ?_
      refine r_iconst (v := nI 1) d_X_image_31 (by decide) ?_
      refine g_retz d_X_image_32 rfl (by decide) ?_
      have k9 : ∀ z, z ≠ 392 → (z < 328 + 32 * k ∨ 328 + 32 * k + 32 ≤ z) → upm M1 392 k (nI 1) z = M z := fun z z1 z2 => by rw [upm_ne _ _ _ z1]; exact k2 z z2
      refine ⟨rfl, ⟨x1.kept (fun z z1 z2 => k9 z (by omega) (by omega)), ⟨nx, x2.kept (fun z z1 z2 => k9 z (by omega) (by omega))⟩, fun q hq => ?_, x4.kept (k9 _ (by omega) (by omega)) (k9 _ (by omega) (by omega)) (k9 _ (by omega) (by omega)), x8.kept (fun z z1 => k9 z (by omega) (by omega))⟩, fun z z1 => k9 z (by omega) (by omega)⟩
      dsimp only
      by_cases e : q = k
      · subst e
        rw [if_pos rfl]
        refine ⟨fun D hD => ?_, fun z => by cases z⟩
        cases hD
        exact ⟨by rw [upm_at, if_pos rfl], k1.kept (fun z z1 z2 => upm_ne _ _ _ (by omega))⟩
      · rw [if_neg e]
        refine ⟨fun D hD => ?_, fun z => ?_⟩
        · obtain ⟨y1, y2⟩ := (x3 q hq).1 D hD
          exact ⟨by rw [upm_at, if_neg e, k2 _ (by omega)]; exact y1, y2.kept (fun z z1 z2 => k9 z (by omega) (by omega))⟩
        · rw [upm_at, if_neg e, k2 _ (by omega)]
          exact (x3 q hq).2 z
    · omega
theorem c_X_restore {v : Int32} (hX : XR M S) : CI o l m_X_restore n [.ref 0, .int v] M (PX M (f_restore S v)) := by
  refine ci_of rfl rfl rfl (Nat.le_of_ble_eq_true rfl) ?_
  obtain ⟨x1, ⟨nx, x2⟩, x3, x4, x8⟩ := id hX
  rcases inN_cases (N := 2) (v := v) (by decide) with ⟨h1, h2⟩ | ⟨h1, h2, h3⟩ | ⟨_, _, h1⟩
  · refine r_iload_n d_X_restore_0 rfl ?_
    refine r_if_lt d_X_restore_1 (fun hc => ?_) (fun hc => ?_)
    · refine r_iconst (v := nI 0) d_X_restore_18 (by decide) ?_
      refine g_retz d_X_restore_19 rfl (by decide) ?_
      exact PX.no hX h2
    · exact absurd h1 hc
  · refine r_iload_n d_X_restore_0 rfl ?_
    refine r_if_lt d_X_restore_1 (fun hc => ?_) (fun hc => ?_)
    · exact absurd hc h1
    · refine r_iload_n d_X_restore_4 rfl ?_
      refine r_iconst (v := nI 2) d_X_restore_5 (by decide) ?_
      refine r_icmp_ge d_X_restore_6 (fun hc2 => ?_) (fun hc2 => ?_)
      · refine r_iconst (v := nI 0) d_X_restore_18 (by decide) ?_
        refine g_retz d_X_restore_19 rfl (by decide) ?_
        exact PX.no hX h3
      · exact absurd h2 hc2
  · rw [f_restore, ic_t h1]
    obtain ⟨h2, h3⟩ := h1
    generalize ix v = k at *
    subst h3
    have y3 := x3 k h2
    generalize S.2.2.1 k = I at *
    refine r_iload_n d_X_restore_0 rfl ?_
    refine n_if_lt d_X_restore_1 (by omega) ?_
    cases I with
    | none =>
      refine r_iload_n d_X_restore_4 rfl ?_
      refine r_iconst (v := nI 2) d_X_restore_5 (by decide) ?_
      refine n_icmp_ge d_X_restore_6 (by omega) (by omega) (fun hc2 => ?_) (fun hc2 => ?_)
      · omega
      · refine r_aload_n d_X_restore_9 rfl ?_
        refine g_getr (b := 392) d_X_restore_10 f_X_39 rfl rfl rfl ?_
        refine r_iload_n d_X_restore_13 rfl ?_
        refine g_zald d_X_restore_14 rfl (by omega) (by omega) ?_
        refine r_top (y := nI 0) (y3.2 rfl) ?_
        refine n_if_ne d_X_restore_15 (by omega) (fun h9 => absurd h9 (by decide)) (fun _ => ?_)
        refine r_iconst (v := nI 0) d_X_restore_18 (by decide) ?_
        refine g_retz d_X_restore_19 rfl (by decide) ?_
        exact ⟨rfl, hX, fun _ _ => rfl⟩
    | some D =>
      refine r_iload_n d_X_restore_4 rfl ?_
      refine r_iconst (v := nI 2) d_X_restore_5 (by decide) ?_
      refine n_icmp_ge d_X_restore_6 (by omega) (by omega) (fun hc2 => ?_) (fun hc2 => ?_)
      · omega
      · refine r_aload_n d_X_restore_9 rfl ?_
        refine g_getr (b := 392) d_X_restore_10 f_X_39 rfl rfl rfl ?_
        refine r_iload_n d_X_restore_13 rfl ?_
        refine g_zald d_X_restore_14 rfl (by omega) (by omega) ?_
        refine r_top (y := nI 1) ((y3.1 D rfl).1) ?_
        refine n_if_ne d_X_restore_15 (by omega) (fun _ => ?_) (fun h9 => absurd h9 (by decide))
        refine r_aload_n d_X_restore_20 rfl ?_
        refine g_getr (b := 37) d_X_restore_21 f_X_24 rfl rfl rfl ?_
        refine r_aload_n d_X_restore_24 rfl ?_
        refine g_getr (b := 327) d_X_restore_25 f_X_35 rfl rfl rfl ?_
        refine r_iload_n d_X_restore_28 rfl ?_
        refine g_aald (b := (328+32*k)) (t := 6) (N := 2) d_X_restore_29 rfl (by decide) (by omega) (by omega) (g_img h2) ?_
        refine g_Vv (av := [.ref (328+32*k)]) d_X_restore_30 k_X_81 ws_St_copyFrom (by decide) rfl rfl (Nat.le_of_ble_eq_true rfl) rfl (c_St_copyFrom isSt_37 (isSt_img k h2) (by omega) (y3.1 D rfl).2) ?_
        rintro M1 ⟨k1, k2⟩
        have z2 : HiA M1 S.2.1 nx := x2.kept (fun z z1 z2 => k2 z (by omega))
        refine r_aload_n d_X_restore_33 rfl ?_
        refine g_getr (b := 69) d_X_restore_34 f_X_31 rfl rfl rfl ?_
        refine g_Vv (av := []) d_X_restore_37 k_X_93 ws_Hi_forget (by decide) rfl rfl (Nat.le_of_ble_eq_true rfl) rfl (c_Hi_forget z2) ?_
        rintro M2 ⟨k3, k4⟩
        refine r_iconst (v := nI 1) d_X_restore_40 (by decide) ?_
        refine g_retz d_X_restore_41 rfl (by decide) ?_
        have k9 : ∀ z, (z < 37 ∨ 70 ≤ z) → M2 z = M z := fun z z1 => by rw [k4 z (by omega), k2 z (by omega)]
        exact ⟨rfl, ⟨k1.kept (fun z z1 z2 => k4 z (by omega)), ⟨nx, k3⟩, x3.kept (fun z z1 z2 => k9 z (by omega)), x4.kept (k9 _ (by omega)) (k9 _ (by omega)) (k9 _ (by omega)), x8.kept (fun z z1 => k9 z (by omega))⟩, fun z z1 => k9 z (by omega)⟩
end C44
