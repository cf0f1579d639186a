def prt (w s : Nat) (g f : Nat → Nat) (j : Nat) : Nat := if w = 0 then g j else if w = 1 then f j else if w = 2 then prA s f j else prZ s g f j
theorem prt_0 (s : Nat) (g f : Nat → Nat) (j : Nat) : prt 0 s g f j = g j := by unfold prt; rw [if_pos rfl]
theorem prt_1 (s : Nat) (g f : Nat → Nat) (j : Nat) : prt 1 s g f j = f j := by unfold prt; rw [if_neg (by decide), if_pos rfl]
theorem prt_2 (s : Nat) (g f : Nat → Nat) (j : Nat) : prt 2 s g f j = prA s f j := by unfold prt; rw [if_neg (by decide), if_neg (by decide), if_pos rfl]
theorem prt_3 (s : Nat) (g f : Nat → Nat) (j : Nat) : prt 3 s g f j = prZ s g f j := by unfold prt; rw [if_neg (by decide), if_neg (by decide), if_neg (by decide)]
/-- a term of the sums of rows -/
def tmS (h : Nat) (c : Nat → Nat → Nat) (n k : Nat) : Nat := if h = 1 then (if k % 2 = 0 then c k n else 1000003 - c k n) else if h = 2 then c k n * k else if h = 3 then c k (n - k) else c k n
def sms (h : Nat) (c : Nat → Nat → Nat) (n : Nat) : Nat → Nat
  | 0 => 0
  | k + 1 => sms h c n k + tmS h c n k
theorem tm_1a (c : Nat → Nat → Nat) (n k : Nat) (e : k % 2 = 0) : tmS 1 c n k = c k n := by unfold tmS; rw [if_pos rfl, if_pos e]
theorem tm_1b (c : Nat → Nat → Nat) (n k : Nat) (e : k % 2 ≠ 0) : tmS 1 c n k = 1000003 - c k n := by unfold tmS; rw [if_pos rfl, if_neg e]
theorem tm_2 (c : Nat → Nat → Nat) (n k : Nat) : tmS 2 c n k = c k n * k := by unfold tmS; rw [if_neg (by decide), if_pos rfl]
theorem tm_3 (c : Nat → Nat → Nat) (n k : Nat) : tmS 3 c n k = c k (n - k) := by unfold tmS; rw [if_neg (by decide), if_neg (by decide), if_pos rfl]
theorem tm_0 (c : Nat → Nat → Nat) (n k : Nat) : tmS 0 c n k = c k n := by unfold tmS; rw [if_neg (by decide), if_neg (by decide), if_neg (by decide)]
theorem tm_le {h : Nat} {c : Nat → Nat → Nat} {n k : Nat} (h1 : c k n < 1000003) (h2 : c k (n - k) < 1000003) (hk : k < 10) : tmS h c n k ≤ 10000030 := by
  unfold tmS
  split
  · split <;> omega
  · split
    · have : c k n * k ≤ 1000003 * 10 := Nat.mul_le_mul (by omega) (by omega)
      omega
    · split <;> omega
/-- sums of products along a row, for the production -/
def ps (c : Nat → Nat → Nat) (q : Nat → Nat) (r : Nat) : Nat → Nat
  | 0 => 0
  | k + 1 => ps c q r k + c k r * q k
theorem ps_congr {c : Nat → Nat → Nat} {q q' : Nat → Nat} {r k : Nat} (h : ∀ t, t < k → q t = q' t) : ps c q r k = ps c q' r k := by
  induction k with
  | zero => rfl
  | succ k ih => simp only [ps]; rw [ih (fun t ht => h t (by omega)), h k (by omega)]
theorem ps_le {c : Nat → Nat → Nat} {q : Nat → Nat} {r k : Nat} (hc : ∀ t, t < k → c t r < 1000003) (hq : ∀ t, t < k → q t < 1000003) : ps c q r k ≤ k * 1000006000009 := by
  induction k with
  | zero => simp [ps]
  | succ k ih =>
    have h1 := ih (fun j hj => hc j (by omega)) (fun j hj => hq j (by omega))
    have h2 := pp_lt (hc k (by omega)) (hq k (by omega))
    simp only [ps]
    omega
def pdc (c : Nat → Nat → Nat) (j r : Nat) : Nat := sb (c j (r + 1)) (ps c (fun t => if _h : t < r then pdc c j t else 0) r r % 1000003) * nv (c r r) % 1000003
termination_by r
theorem pdc_eq (c : Nat → Nat → Nat) (j r : Nat) : pdc c j r = sb (c j (r + 1)) (ps c (pdc c j) r r % 1000003) * nv (c r r) % 1000003 := by
  rw [pdc]
  rw [ps_congr (q' := pdc c j) (fun t ht => by rw [dif_pos ht])]
theorem pdc_lt (c : Nat → Nat → Nat) (j r : Nat) : pdc c j r < 1000003 := by rw [pdc_eq]; exact Nat.mod_lt _ (by decide)
theorem zq_lt (s : Nat) (g f : Nat → Nat) (j : Nat) : zq s g f j < 1000003 := dv_lt _ _ _
theorem g_cols {j : Nat} (h : j < 10) : gR 410 j = some (411 + j) := by
  have := (isCo_410.2 j h).1
  exact this
theorem t_cols {j : Nat} (h : j < 10) : gT (411 + j) = (1, 10) := (isCo_410.2 j h).2
theorem g_cols2 {j : Nat} (h : j < 10) : gR 421 j = some (422 + j) := (isCo_421.2 j h).1
theorem t_cols2 {j : Nat} (h : j < 10) : gT (422 + j) = (1, 10) := (isCo_421.2 j h).2
theorem eq_nI {x y : Nat} (hx : x < 1000003) (hy : y < 1000003) (h : nI x = nI y) : x = y := (nI_eq (by omega) (by omega)).mp h
section C39
variable {o : OM} {l : Launch} {n : Nat} {M : Mem}
theorem bf_rev {M1 : Mem} (hB : BO M) (k1 : ∀ b, b ≠ 408 → b ≠ 432 + 2 → b ≠ 432 + 3 → M1 b = M b) (k3 : Ok M1 408) (k4 : Ok M1 (432 + 2)) (k5 : Ok M1 (432 + 3)) : BF M M1 :=
  ⟨fun b hb => k1 b (by omega) (by omega) (by omega), fun b b1 b2 b3 => by
    by_cases e1 : b = 408
    · rw [e1]; exact k3
    by_cases e2 : b = 434
    · rw [e2]; exact k4
    by_cases e3 : b = 435
    · rw [e3]; exact k5
    exact (hB.at b b1 b2 b3).kept (k1 b e1 e2 e3), hB.2.kept (k1 36 (by decide) (by decide) (by decide))⟩
theorem c_Tb_findA {t s : Nat} {g f : Nat → Nat} (ht : isTb t) (hs0 : 2 ≤ s) (hs : s ≤ 10) (hd : t + 2 < 394) (hB : BO M) (hT : TbA M t g f) : CV o l m_Tb_findA n [.ref 397, .ref t, .int (nI s)] M (fun M' => (∀ j, j < s → M' 407 j = nI (prA s f j)) ∧ BF M M') := by
  refine cvo_of rfl rfl rfl (Nat.le_of_ble_eq_true rfl) ?_
  obtain ⟨t0, t1, t2, t3, t4⟩ := id ht
  obtain ⟨hg, hf⟩ := hT
  refine r_aload_n d_Tb_findA_0 rfl ?_
  refine g_getr (b := 432) d_Tb_findA_1 f_Tb_45 rfl rfl rfl ?_
  refine r_aload_n d_Tb_findA_4 rfl ?_
  refine g_getr (b := (t+2)) d_Tb_findA_5 f_Tb_58 rfl (by rw [t0]) t2 ?_
  refine r_iload_n d_Tb_findA_8 rfl ?_
  refine r_aload_n d_Tb_findA_9 rfl ?_
  refine g_getr (b := 408) d_Tb_findA_10 f_Tb_28 rfl rfl rfl ?_
  refine g_Vv (av := [.ref (t+2), .int (nI s), .ref 408]) d_Tb_findA_13 k_Tb_71 ws_Sb_reverse (by decide) rfl rfl (Nat.le_of_ble_eq_true rfl) rfl (c_Sb_reverse (q := 432) (c := 408) isSb_432 t4 rfl hs0 hs (by omega) (by decide) (by decide) hf (hB.at 408 (by decide) (by decide) rfl) (hB.at 434 (by decide) (by decide) rfl)) ?_
  rintro M1 ⟨k1, k2, k3, k4, k5⟩
  have hB1 := bf_rev hB k1 k3 k4 k5
  obtain ⟨x, hx⟩ := k3
  have ex : ∀ j, j < s → x j = rvs f s j := fun j hj => eq_nI (hx j (by omega)).2 (rvs_lt _ _ _) ((hx j (by omega)).1.symm.trans (k2 j hj))
  obtain ⟨w, hw⟩ := hB1.2.at 409 (by decide) (by decide) rfl
  refine r_aload_n d_Tb_findA_16 rfl ?_
  refine g_getr (b := 408) d_Tb_findA_17 f_Tb_28 rfl rfl rfl ?_
  refine r_iload_n d_Tb_findA_20 rfl ?_
  refine r_aload_n d_Tb_findA_21 rfl ?_
  refine g_getr (b := 409) d_Tb_findA_22 f_Tb_31 rfl rfl rfl ?_
  refine g_Sv (av := [.ref 408, .int (nI s), .ref 409]) d_Tb_findA_25 k_Tb_109 ws_Rw_oneAhead (by decide) rfl rfl (Nat.le_of_ble_eq_true rfl) (c_Rw_oneAhead rfl rfl (by decide) (by omega) hs hx (fun j hj => (hw j hj).1)) ?_
  rintro M2 m2
  have q2 := m2.ok (fun j hj => by
    try dsimp only
    split
    · exact (hx _ (by omega)).2
    · split
      · decide
      · exact (hw j hj).2)
  have hB2 := hB1.trans (BF.row hB1.2 m2 (by decide) (by decide) (ok_lt q2))
  refine r_aload_n d_Tb_findA_28 rfl ?_
  refine g_getr (b := 407) d_Tb_findA_29 f_Tb_24 rfl rfl rfl ?_
  refine r_iconst (v := nI 1) d_Tb_findA_32 (by decide) ?_
  refine g_Sv (av := [.ref 407, .int (nI 1)]) d_Tb_findA_33 k_Tb_75 ws_Rw_becomeNumber (by decide) rfl rfl (Nat.le_of_ble_eq_true rfl) (c_Rw_becomeNumber rfl) ?_
  rintro M3 m3
  have q3 := m3.ok (fun j hj => by split <;> decide)
  refine r_aload_n d_Tb_findA_36 rfl ?_
  refine g_getr (b := 407) d_Tb_findA_37 f_Tb_24 rfl rfl rfl ?_
  refine r_aload_n d_Tb_findA_40 rfl ?_
  refine g_getr (b := 409) d_Tb_findA_41 f_Tb_31 rfl rfl rfl ?_
  refine r_iload_n d_Tb_findA_44 rfl ?_
  refine g_Sv (av := [.ref 407, .ref 409, .int (nI s)]) d_Tb_findA_45 k_Tb_79 ws_Rw_divide (by decide) rfl rfl (Nat.le_of_ble_eq_true rfl) (c_Rw_divide rfl rfl (by decide) hs q3 (m3.okn (by decide) q2)) ?_
  rintro M4 m4
  refine r_aload_n d_Tb_findA_48 rfl ?_
  refine g_getr (b := 407) d_Tb_findA_49 f_Tb_24 rfl rfl rfl ?_
  refine r_iload_n d_Tb_findA_52 rfl ?_
  refine r_iconst (v := nI 1) d_Tb_findA_53 (by decide) ?_
  refine n_isub d_Tb_findA_54 (by omega) ?_
  refine r_iconst (v := nI 0) d_Tb_findA_55 (by decide) ?_
  refine g_iast d_Tb_findA_56 rfl (by omega) (by omega) ?_
  refine g_retv d_Tb_findA_57 rfl ?_
  have m5 := (m3.trans m4).upd (k := s - 1) (v := 0)
  refine ⟨fun j hj => ?_, hB2.trans (BF.row hB2.2 m5 (by decide) (by decide) (fun j hj => ?_))⟩
  · rw [m5.at (by omega)]
    congr 1
    unfold prA
    by_cases e : j = s - 1
    · rw [if_pos e, if_pos e]
    · rw [if_neg e, if_neg e, if_pos hj]
      refine dv_congr (fun i _ => rfl) (fun i hi => ?_)
      unfold uu
      by_cases e9 : i < s - 1
      · rw [if_pos e9, if_pos e9, ex _ (by omega)]
      · rw [if_neg e9, if_neg e9, if_pos (by omega)]
  · try dsimp only
    split
    · decide
    · split
      · exact dv_lt _ _ _
      · split <;> decide
theorem c_Tb_findZ {t s : Nat} {g f : Nat → Nat} (ht : isTb t) (hs0 : 2 ≤ s) (hs : s ≤ 10) (hd : t + 2 < 394) (hB : BO M) (hT : TbA M t g f) : CV o l m_Tb_findZ n [.ref 397, .ref t, .int (nI s)] M (fun M' => (∀ j, j < s → M' 407 j = nI (prZ s g f j)) ∧ BF M M') := by
  refine cvo_of rfl rfl rfl (Nat.le_of_ble_eq_true rfl) ?_
  obtain ⟨t0, t1, t2, t3, t4⟩ := id ht
  obtain ⟨hg, hf⟩ := hT
  refine r_aload_n d_Tb_findZ_0 rfl ?_
  refine g_getr (b := 432) d_Tb_findZ_1 f_Tb_45 rfl rfl rfl ?_
  refine r_aload_n d_Tb_findZ_4 rfl ?_
  refine g_getr (b := (t+2)) d_Tb_findZ_5 f_Tb_58 rfl (by rw [t0]) t2 ?_
  refine r_iload_n d_Tb_findZ_8 rfl ?_
  refine r_aload_n d_Tb_findZ_9 rfl ?_
  refine g_getr (b := 408) d_Tb_findZ_10 f_Tb_28 rfl rfl rfl ?_
  refine g_Vv (av := [.ref (t+2), .int (nI s), .ref 408]) d_Tb_findZ_13 k_Tb_71 ws_Sb_reverse (by decide) rfl rfl (Nat.le_of_ble_eq_true rfl) rfl (c_Sb_reverse (q := 432) (c := 408) isSb_432 t4 rfl hs0 hs (by omega) (by decide) (by decide) hf (hB.at 408 (by decide) (by decide) rfl) (hB.at 434 (by decide) (by decide) rfl)) ?_
  rintro M1 ⟨k1, k2, k3, k4, k5⟩
  have hB1 := bf_rev hB k1 k3 k4 k5
  obtain ⟨x, hx⟩ := k3
  have ex : ∀ j, j < s → x j = rvs f s j := fun j hj => eq_nI (hx j (by omega)).2 (rvs_lt _ _ _) ((hx j (by omega)).1.symm.trans (k2 j hj))
  have hg1 : OKr M1 (t + 1) g := hg.kept (hB1.1 _ (by omega))
  refine r_aload_n d_Tb_findZ_16 rfl ?_
  refine g_getr (b := (t+1)) d_Tb_findZ_17 f_Tb_49 rfl (by rw [t0]) t1 ?_
  refine r_aload_n d_Tb_findZ_20 rfl ?_
  refine g_getr (b := 408) d_Tb_findZ_21 f_Tb_28 rfl rfl rfl ?_
  refine r_iload_n d_Tb_findZ_24 rfl ?_
  refine r_aload_n d_Tb_findZ_25 rfl ?_
  refine g_getr (b := 409) d_Tb_findZ_26 f_Tb_31 rfl rfl rfl ?_
  refine g_Sv (av := [.ref (t+1), .ref 408, .int (nI s), .ref 409]) d_Tb_findZ_29 k_Tb_67 ws_Rw_insert (by decide) rfl rfl (Nat.le_of_ble_eq_true rfl) (c_Rw_insert t3 rfl rfl (by omega) (by decide) (by omega) hs hg1 hx) ?_
  rintro M2 m2
  have q2 := m2.ok (fun j hj => hn_lt (ok_lt hg) hs s j)
  have hB2 := hB1.trans (BF.row hB1.2 m2 (by decide) (by decide) (ok_lt q2))
  have hg2 : OKr M2 (t + 1) g := m2.okn (by omega) hg1
  refine r_aload_n d_Tb_findZ_32 rfl ?_
  refine g_getr (b := 407) d_Tb_findZ_33 f_Tb_24 rfl rfl rfl ?_
  refine r_aload_n d_Tb_findZ_36 rfl ?_
  refine g_getr (b := (t+1)) d_Tb_findZ_37 f_Tb_49 rfl (by rw [t0]) t1 ?_
  refine r_iconst (v := nI 0) d_Tb_findZ_40 (by decide) ?_
  refine g_iald d_Tb_findZ_41 t3 (by omega) (by omega) ?_
  refine r_top (y := nI (g 0)) ((hg2 0 (by omega)).1) ?_
  refine g_Sv (av := [.ref 407, .int (nI (g 0))]) d_Tb_findZ_42 k_Tb_75 ws_Rw_becomeNumber (by decide) rfl rfl (Nat.le_of_ble_eq_true rfl) (c_Rw_becomeNumber rfl) ?_
  rintro M3 m3
  have q3 := m3.ok (fun j hj => by split; exact (hg 0 (by omega)).2; decide)
  refine r_aload_n d_Tb_findZ_45 rfl ?_
  refine g_getr (b := 407) d_Tb_findZ_46 f_Tb_24 rfl rfl rfl ?_
  refine r_aload_n d_Tb_findZ_49 rfl ?_
  refine g_getr (b := 409) d_Tb_findZ_50 f_Tb_31 rfl rfl rfl ?_
  refine r_iload_n d_Tb_findZ_53 rfl ?_
  refine g_Sv (av := [.ref 407, .ref 409, .int (nI s)]) d_Tb_findZ_54 k_Tb_79 ws_Rw_divide (by decide) rfl rfl (Nat.le_of_ble_eq_true rfl) (c_Rw_divide rfl rfl (by decide) hs q3 (m3.okn (by decide) q2)) ?_
  rintro M4 m4
  have q4 : OKr M4 407 _ := (m3.trans m4).ok (fun j hj => by
    try dsimp only
    split
    · exact dv_lt _ _ _
    · split
      · exact (hg 0 (by omega)).2
      · decide)
  have hB4 := hB2.trans (BF.row hB2.2 (m3.trans m4) (by decide) (by decide) (ok_lt q4))
  obtain ⟨zz, hzz⟩ : ∃ zz, OKr M4 407 zz := ⟨_, q4⟩
  have ez : ∀ j, j < s → zz j = zq s g f j := fun j hj => by
    refine eq_nI (hzz j (by omega)).2 (zq_lt _ _ _ _) ((hzz j (by omega)).1.symm.trans ?_)
    rw [m4.at (by omega), if_pos hj]
    congr 1
    exact dv_congr (fun i _ => rfl) (fun i hi => hn_congr (fun _ _ => rfl) ex (Nat.le_refl _) i)
  have hx4 : OKr M4 408 x := hx.kept (by rw [m4.ne (by decide), m3.ne (by decide), m2.ne (by decide)])
  refine r_iconst (v := nI 1) d_Tb_findZ_57 (by decide) ?_
  refine r_istore_n (L' := [some (.ref 397), some (.ref t), some (.int (nI s)), some (.int (nI 1))]) d_Tb_findZ_58 (by decide) rfl ?_
  suffices H : ∀ d k M5, k + d = s → 1 ≤ k → RW M4 407 (fun j => if j < k - 1 then sb 0 (zz (j + 1)) else zz j) M5 → Rn o l m_Tb_findZ (0, 0) 59 [some (.ref 397), some (.ref t), some (.int (nI s)), some (.int (nI k))] [] (gh n M5) (QV n fun M' => (∀ j, j < s → M' 407 j = nI (prZ s g f j)) ∧ BF M M') from H (s - 1) 1 M4 (by omega) (Nat.le_refl _) ((RW.rf hzz).to (fun j hj => by simp))
  intro d
  induction d with
  | zero =>
    intro k M5 hk hk1 h1
    obtain rfl : k = s := by omega
    refine r_iload_n d_Tb_findZ_59 rfl ?_
    refine r_iload_n d_Tb_findZ_60 rfl ?_
    refine n_icmp_ge d_Tb_findZ_61 (by omega) (by omega) (fun hc => ?_) (fun hc => ?_)
    · have q5 := h1.ok (fun j hj => by
        try dsimp only
        split
        · exact sb_lt _ _
        · exact (hzz j hj).2)
      have hB5 := hB4.trans (BF.row hB4.2 h1 (by decide) (by decide) (ok_lt q5))
      obtain ⟨w, hw⟩ := hB5.2.at 409 (by decide) (by decide) rfl
      refine r_aload_n d_Tb_findZ_88 rfl ?_
      refine g_getr (b := 408) d_Tb_findZ_89 f_Tb_28 rfl rfl rfl ?_
      refine r_iload_n d_Tb_findZ_92 rfl ?_
      refine r_aload_n d_Tb_findZ_93 rfl ?_
      refine g_getr (b := 409) d_Tb_findZ_94 f_Tb_31 rfl rfl rfl ?_
      refine g_Sv (av := [.ref 408, .int (nI k), .ref 409]) d_Tb_findZ_97 k_Tb_109 ws_Rw_oneAhead (by decide) rfl rfl (Nat.le_of_ble_eq_true rfl) (c_Rw_oneAhead rfl rfl (by decide) (by omega) hs (h1.okn (by decide) hx4) (fun j hj => (hw j hj).1)) ?_
      rintro M6 m6
      have q6 := m6.ok (fun j hj => by
        try dsimp only
        split
        · exact (hx _ (by omega)).2
        · split
          · decide
          · exact (hw j hj).2)
      have hB6 := hB5.trans (BF.row hB5.2 m6 (by decide) (by decide) (ok_lt q6))
      refine r_aload_n d_Tb_findZ_100 rfl ?_
      refine g_getr (b := 407) d_Tb_findZ_101 f_Tb_24 rfl rfl rfl ?_
      refine r_aload_n d_Tb_findZ_104 rfl ?_
      refine g_getr (b := 409) d_Tb_findZ_105 f_Tb_31 rfl rfl rfl ?_
      refine r_iload_n d_Tb_findZ_108 rfl ?_
      refine g_Sv (av := [.ref 407, .ref 409, .int (nI k)]) d_Tb_findZ_109 k_Tb_79 ws_Rw_divide (by decide) rfl rfl (Nat.le_of_ble_eq_true rfl) (c_Rw_divide rfl rfl (by decide) hs (m6.okn (by decide) q5) q6) ?_
      rintro M7 m7
      refine r_aload_n d_Tb_findZ_112 rfl ?_
      refine g_getr (b := 407) d_Tb_findZ_113 f_Tb_24 rfl rfl rfl ?_
      refine r_iload_n d_Tb_findZ_116 rfl ?_
      refine r_iconst (v := nI 1) d_Tb_findZ_117 (by decide) ?_
      refine n_isub d_Tb_findZ_118 (by omega) ?_
      refine r_iconst (v := nI 0) d_Tb_findZ_119 (by decide) ?_
      refine g_iast d_Tb_findZ_120 rfl (by omega) (by omega) ?_
      refine g_retv d_Tb_findZ_121 rfl ?_
      have m8 := m7.upd (k := k - 1) (v := 0)
      refine ⟨fun j hj => ?_, hB6.trans (BF.row hB6.2 m8 (by decide) (by decide) (fun j hj => ?_))⟩
      · rw [m8.at (by omega)]
        congr 1
        unfold prZ
        by_cases e : j = k - 1
        · rw [if_pos e, if_pos e]
        · rw [if_neg e, if_neg e, if_pos hj]
          refine dv_congr (fun i hi => ?_) (fun i hi => ?_)
          · by_cases e9 : i < k - 1
            · rw [if_pos e9, if_pos e9, ez _ (by omega)]
            · rw [if_neg e9, if_neg e9, ez _ (by omega)]
          · unfold uu
            by_cases e9 : i < k - 1
            · rw [if_pos e9, if_pos e9, ex _ (by omega)]
            · rw [if_neg e9, if_neg e9, if_pos (by omega)]
      · try dsimp only
        split
        · decide
        · split
          · exact dv_lt _ _ _
          · split
            · exact sb_lt _ _
            · exact (hzz j hj).2
    · omega
  | succ d ih =>
    intro k M5 hk hk1 h1
    refine r_iload_n d_Tb_findZ_59 rfl ?_
    refine r_iload_n d_Tb_findZ_60 rfl ?_
    refine n_icmp_ge d_Tb_findZ_61 (by omega) (by omega) (fun hc => ?_) (fun hc => ?_)
    · omega
    · refine r_aload_n d_Tb_findZ_64 rfl ?_
      refine g_getr (b := 407) d_Tb_findZ_65 f_Tb_24 rfl rfl rfl ?_
      refine r_iload_n d_Tb_findZ_68 rfl ?_
      refine r_iconst (v := nI 1) d_Tb_findZ_69 (by decide) ?_
      refine n_isub d_Tb_findZ_70 (by omega) ?_
      refine r_iconst (v := nI 0) d_Tb_findZ_71 (by decide) ?_
      refine r_aload_n d_Tb_findZ_72 rfl ?_
      refine g_getr (b := 407) d_Tb_findZ_73 f_Tb_24 rfl rfl rfl ?_
      refine r_iload_n d_Tb_findZ_76 rfl ?_
      refine g_iald d_Tb_findZ_77 rfl (by omega) (by omega) ?_
      refine r_top (y := nI (zz k)) ((h1.at (by omega)).trans (by rw [if_neg (by omega)])) ?_
      refine g_Si (av := [.int (nI 0), .int (nI (zz k))]) d_Tb_findZ_78 k_Tb_112 ws_Rw_difference (by decide) rfl rfl (Nat.le_of_ble_eq_true rfl) (c_Rw_difference (by decide) (hzz k (by omega)).2) ?_
      rintro r M7 ⟨rfl, rfl⟩
      refine g_iast d_Tb_findZ_81 rfl (by omega) (by omega) ?_
      refine n_iinc (c := 1) (L' := [some (.ref 397), some (.ref t), some (.int (nI s)), some (.int (nI (k + 1)))]) d_Tb_findZ_82 rfl rfl (by decide) rfl ?_
      refine r_goto d_Tb_findZ_85 ?_
      refine ih (k + 1) _ (by omega) (by omega) (h1.upd.to (fun j hj => ?_))
      by_cases e : j = k - 1
      · rw [if_pos e, if_pos (by omega), show j + 1 = k by omega]
      · rw [if_neg e]
        by_cases h9 : j < k - 1
        · rw [if_pos h9, if_pos (by omega)]
        · rw [if_neg h9, if_neg (by omega)]
theorem c_Tb_partOf {t s : Nat} {what : Int32} {g f : Nat → Nat} (ht : isTb t) (hs0 : 2 ≤ s) (hs : s ≤ 10) (hd : t + 2 < 394) (hB : BO M) (hT : TbA M t g f) : CI o l m_Tb_partOf n [.ref 397, .ref t, .int what, .int (nI s)] M (fun r M' => BF M M' ∧ ((∃ w, what = nI w ∧ w < 4 ∧ r = nI 1 ∧ ∀ j, j < s → M' 407 j = nI (prt w s g f j)) ∨ ((∀ w, what = nI w → 4 ≤ w) ∧ r = nI 0))) := by
  refine ci_of rfl rfl rfl (Nat.le_of_ble_eq_true rfl) ?_
  obtain ⟨t0, t1, t2, t3, t4⟩ := id ht
  obtain ⟨hg, hf⟩ := id hT
  rcases pk_ix what (n := 4) (by decide) with hlt | hge | ⟨h, hh, rfl⟩
  · refine r_iload_n d_Tb_partOf_0 rfl ?_
    refine r_tsOut (tgt := 82) d_Tb_partOf_1 (Or.inl (by have := Int32.lt_iff_toInt_lt.mp hlt; simpa using this)) rfl ?_
    refine r_iconst (v := nI 0) d_Tb_partOf_82 (by decide) ?_
    refine g_retz d_Tb_partOf_83 rfl (by decide) ?_
    refine ⟨BF.rf hB, Or.inr ⟨fun h e => ?_, rfl⟩⟩
    refine Nat.le_of_not_lt fun q => ?_
    rw [e] at hlt
    exact nI_pos (by omega) hlt
  · refine r_iload_n d_Tb_partOf_0 rfl ?_
    refine r_tsOut (tgt := 82) d_Tb_partOf_1 (Or.inr (by have := Int32.le_iff_toInt_le.mp hge; rw [nI_toInt (by omega)] at this; omega)) rfl ?_
    refine r_iconst (v := nI 0) d_Tb_partOf_82 (by decide) ?_
    refine g_retz d_Tb_partOf_83 rfl (by decide) ?_
    refine ⟨BF.rf hB, Or.inr ⟨fun h e => ?_, rfl⟩⟩
    refine Nat.le_of_not_lt fun q => ?_
    rw [e] at hge
    exact absurd ((nI_leI (by omega) (by omega)).mp hge) (by omega)
  · rcases (show h = 0 ∨ h = 1 ∨ h = 2 ∨ h = 3 by omega) with rfl | rfl | rfl | rfl
    · refine r_iload_n d_Tb_partOf_0 rfl ?_
      refine r_tsIn (tgt := 32) d_Tb_partOf_1 (by decide) (by decide) rfl rfl ?_
      refine r_aload_n d_Tb_partOf_32 rfl ?_
      refine g_getr (b := (t+1)) d_Tb_partOf_33 f_Tb_49 rfl (by rw [t0]) t1 ?_
      refine r_iconst (v := nI 0) d_Tb_partOf_36 (by decide) ?_
      refine r_aload_n d_Tb_partOf_37 rfl ?_
      refine g_getr (b := 407) d_Tb_partOf_38 f_Tb_24 rfl rfl rfl ?_
      refine r_iconst (v := nI 0) d_Tb_partOf_41 (by decide) ?_
      refine r_bipush (v := nI 10) d_Tb_partOf_42 (by decide) ?_
      refine g_copy d_Tb_partOf_44 k_Tb_52 (by decide) t3 rfl (by omega) (by omega) (by omega) (Nat.le_of_ble_eq_true rfl) ?_
      refine r_iconst (v := nI 1) d_Tb_partOf_47 (by decide) ?_
      refine g_retz d_Tb_partOf_48 rfl (by decide) ?_
      have k1 : RW M 407 g (wr M 407 (va_cpy (M (t+1)) (M 407) 0 0 10)) := ⟨_, rfl, fun j hj => by rw [va_cpy, if_pos (by omega), Nat.zero_add, Nat.sub_zero]; exact (hg j hj).1⟩
      exact ⟨BF.row hB k1 (by decide) (by decide) (ok_lt hg), Or.inl ⟨0, rfl, by decide, rfl, fun j hj => by rw [prt_0]; exact k1.at (by omega)⟩⟩
    · refine r_iload_n d_Tb_partOf_0 rfl ?_
      refine r_tsIn (tgt := 49) d_Tb_partOf_1 (by decide) (by decide) rfl rfl ?_
      refine r_aload_n d_Tb_partOf_49 rfl ?_
      refine g_getr (b := (t+2)) d_Tb_partOf_50 f_Tb_58 rfl (by rw [t0]) t2 ?_
      refine r_iconst (v := nI 0) d_Tb_partOf_53 (by decide) ?_
      refine r_aload_n d_Tb_partOf_54 rfl ?_
      refine g_getr (b := 407) d_Tb_partOf_55 f_Tb_24 rfl rfl rfl ?_
      refine r_iconst (v := nI 0) d_Tb_partOf_58 (by decide) ?_
      refine r_bipush (v := nI 10) d_Tb_partOf_59 (by decide) ?_
      refine g_copy d_Tb_partOf_61 k_Tb_52 (by decide) t4 rfl (by omega) (by omega) (by omega) (Nat.le_of_ble_eq_true rfl) ?_
      refine r_iconst (v := nI 1) d_Tb_partOf_64 (by decide) ?_
      refine g_retz d_Tb_partOf_65 rfl (by decide) ?_
      have k1 : RW M 407 f (wr M 407 (va_cpy (M (t+2)) (M 407) 0 0 10)) := ⟨_, rfl, fun j hj => by rw [va_cpy, if_pos (by omega), Nat.zero_add, Nat.sub_zero]; exact (hf j hj).1⟩
      exact ⟨BF.row hB k1 (by decide) (by decide) (ok_lt hf), Or.inl ⟨1, rfl, by decide, rfl, fun j hj => by rw [prt_1]; exact k1.at (by omega)⟩⟩
    · refine r_iload_n d_Tb_partOf_0 rfl ?_
      refine r_tsIn (tgt := 66) d_Tb_partOf_1 (by decide) (by decide) rfl rfl ?_
      refine r_aload_n d_Tb_partOf_66 rfl ?_
      refine r_aload_n d_Tb_partOf_67 rfl ?_
      refine r_iload_n d_Tb_partOf_68 rfl ?_
      refine g_Vv (av := [.ref t, .int (nI s)]) d_Tb_partOf_69 k_Tb_102 ws_Tb_findA (by decide) rfl rfl (Nat.le_of_ble_eq_true rfl) rfl (c_Tb_findA ht hs0 hs hd hB hT) ?_
      rintro M2 ⟨k1, k2⟩
      refine r_iconst (v := nI 1) d_Tb_partOf_72 (by decide) ?_
      refine g_retz d_Tb_partOf_73 rfl (by decide) ?_
      exact ⟨k2, Or.inl ⟨2, rfl, by decide, rfl, fun j hj => by rw [prt_2]; exact k1 j hj⟩⟩
    · refine r_iload_n d_Tb_partOf_0 rfl ?_
      refine r_tsIn (tgt := 74) d_Tb_partOf_1 (by decide) (by decide) rfl rfl ?_
      refine r_aload_n d_Tb_partOf_74 rfl ?_
      refine r_aload_n d_Tb_partOf_75 rfl ?_
      refine r_iload_n d_Tb_partOf_76 rfl ?_
      refine g_Vv (av := [.ref t, .int (nI s)]) d_Tb_partOf_77 k_Tb_106 ws_Tb_findZ (by decide) rfl rfl (Nat.le_of_ble_eq_true rfl) rfl (c_Tb_findZ ht hs0 hs hd hB hT) ?_
      rintro M2 ⟨k1, k2⟩
      refine r_iconst (v := nI 1) d_Tb_partOf_80 (by decide) ?_
      refine g_retz d_Tb_partOf_81 rfl (by decide) ?_
      exact ⟨k2, Or.inl ⟨3, rfl, by decide, rfl, fun j hj => by rw [prt_3]; exact k1 j hj⟩⟩
theorem c_Tb_termOfSum {h i k s : Nat} {c : Nat → Nat → Nat} (hh : h < 4) (hs : s ≤ 10) (hi : i < s) (hk : k ≤ i) (hc : ∀ j, j < s → OKr M (411 + j) (c j)) : CJ o l m_Tb_termOfSum n [.ref 397, .int (nI h), .int (nI i), .int (nI k)] M (fun r M' => r = lN (tmS h c i k) ∧ M = M') := by
  refine cj_of rfl rfl rfl (Nat.le_of_ble_eq_true rfl) ?_
  have hk1 := hc k (by omega)
  rcases (show h = 0 ∨ h = 1 ∨ h = 2 ∨ h = 3 by omega) with rfl | rfl | rfl | rfl
  · refine r_iload_n d_Tb_termOfSum_0 rfl ?_
    refine r_tsOut (tgt := 84) d_Tb_termOfSum_1 (Or.inl (by decide)) rfl ?_
    refine r_aload_n d_Tb_termOfSum_84 rfl ?_
    refine g_getr (b := 410) d_Tb_termOfSum_85 f_Tb_36 rfl rfl rfl ?_
    refine r_iload_n d_Tb_termOfSum_88 rfl ?_
    refine g_aald (b := (411+k)) (t := 5) (N := 10) d_Tb_termOfSum_89 rfl (by decide) (by omega) (by omega) (g_cols (by omega)) ?_
    refine r_iload_n d_Tb_termOfSum_90 rfl ?_
    refine g_iald d_Tb_termOfSum_91 (t_cols (by omega)) (by omega) (by omega) ?_
    refine r_top (y := nI (c k i)) ((hk1 i (by omega)).1) ?_
    refine n_i2l d_Tb_termOfSum_92 (by have h9 := (hk1 i (by omega)).2; omega) ?_
    refine g_retl d_Tb_termOfSum_93 rfl ?_
    exact ⟨by rw [tm_0], rfl⟩
  · refine r_iload_n d_Tb_termOfSum_0 rfl ?_
    refine r_tsIn (tgt := 28) d_Tb_termOfSum_1 (by decide) (by decide) rfl rfl ?_
    refine r_iload_n d_Tb_termOfSum_28 rfl ?_
    refine r_iconst (v := nI 2) d_Tb_termOfSum_29 (by decide) ?_
    refine n_irem d_Tb_termOfSum_30 (by omega) (by omega) (by omega) ?_
    refine n_if_ne d_Tb_termOfSum_31 (by omega) (fun hb => ?_) (fun hb => ?_)
    · refine r_ldc (v := nI 1000003) d_Tb_termOfSum_46 c_Tb_126 ?_
      refine r_aload_n d_Tb_termOfSum_48 rfl ?_
      refine g_getr (b := 410) d_Tb_termOfSum_49 f_Tb_36 rfl rfl rfl ?_
      refine r_iload_n d_Tb_termOfSum_52 rfl ?_
      refine g_aald (b := (411+k)) (t := 5) (N := 10) d_Tb_termOfSum_53 rfl (by decide) (by omega) (by omega) (g_cols (by omega)) ?_
      refine r_iload_n d_Tb_termOfSum_54 rfl ?_
      refine g_iald d_Tb_termOfSum_55 (t_cols (by omega)) (by omega) (by omega) ?_
      refine r_top (y := nI (c k i)) ((hk1 i (by omega)).1) ?_
      refine n_isub d_Tb_termOfSum_56 (by have h9 := (hk1 i (by omega)).2; omega) ?_
      refine n_i2l d_Tb_termOfSum_57 (by omega) ?_
      refine g_retl d_Tb_termOfSum_58 rfl ?_
      exact ⟨by rw [tm_1b _ _ _ hb], rfl⟩
    · refine r_aload_n d_Tb_termOfSum_34 rfl ?_
      refine g_getr (b := 410) d_Tb_termOfSum_35 f_Tb_36 rfl rfl rfl ?_
      refine r_iload_n d_Tb_termOfSum_38 rfl ?_
      refine g_aald (b := (411+k)) (t := 5) (N := 10) d_Tb_termOfSum_39 rfl (by decide) (by omega) (by omega) (g_cols (by omega)) ?_
      refine r_iload_n d_Tb_termOfSum_40 rfl ?_
      refine g_iald d_Tb_termOfSum_41 (t_cols (by omega)) (by omega) (by omega) ?_
      refine r_top (y := nI (c k i)) ((hk1 i (by omega)).1) ?_
      refine n_i2l d_Tb_termOfSum_42 (by have h9 := (hk1 i (by omega)).2; omega) ?_
      refine r_goto d_Tb_termOfSum_43 ?_
      refine g_retl d_Tb_termOfSum_58 rfl ?_
      exact ⟨by rw [tm_1a _ _ _ hb], rfl⟩
  · refine r_iload_n d_Tb_termOfSum_0 rfl ?_
    refine r_tsIn (tgt := 59) d_Tb_termOfSum_1 (by decide) (by decide) rfl rfl ?_
    refine r_aload_n d_Tb_termOfSum_59 rfl ?_
    refine g_getr (b := 410) d_Tb_termOfSum_60 f_Tb_36 rfl rfl rfl ?_
    refine r_iload_n d_Tb_termOfSum_63 rfl ?_
    refine g_aald (b := (411+k)) (t := 5) (N := 10) d_Tb_termOfSum_64 rfl (by decide) (by omega) (by omega) (g_cols (by omega)) ?_
    refine r_iload_n d_Tb_termOfSum_65 rfl ?_
    refine g_iald d_Tb_termOfSum_66 (t_cols (by omega)) (by omega) (by omega) ?_
    refine r_top (y := nI (c k i)) ((hk1 i (by omega)).1) ?_
    refine n_i2l d_Tb_termOfSum_67 (by have h9 := (hk1 i (by omega)).2; omega) ?_
    refine r_iload_n d_Tb_termOfSum_68 rfl ?_
    refine n_i2l d_Tb_termOfSum_69 (by omega) ?_
    refine n_lmul d_Tb_termOfSum_70 ?_
    refine g_retl d_Tb_termOfSum_71 rfl ?_
    exact ⟨by rw [tm_2], rfl⟩
  · refine r_iload_n d_Tb_termOfSum_0 rfl ?_
    refine r_tsIn (tgt := 72) d_Tb_termOfSum_1 (by decide) (by decide) rfl rfl ?_
    refine r_aload_n d_Tb_termOfSum_72 rfl ?_
    refine g_getr (b := 410) d_Tb_termOfSum_73 f_Tb_36 rfl rfl rfl ?_
    refine r_iload_n d_Tb_termOfSum_76 rfl ?_
    refine g_aald (b := (411+k)) (t := 5) (N := 10) d_Tb_termOfSum_77 rfl (by decide) (by omega) (by omega) (g_cols (by omega)) ?_
    refine r_iload_n d_Tb_termOfSum_78 rfl ?_
    refine r_iload_n d_Tb_termOfSum_79 rfl ?_
    refine n_isub d_Tb_termOfSum_80 (by omega) ?_
    refine g_iald d_Tb_termOfSum_81 (t_cols (by omega)) (by omega) (by omega) ?_
    refine r_top (y := nI (c k (i - k))) ((hk1 (i - k) (by omega)).1) ?_
    refine n_i2l d_Tb_termOfSum_82 (by have h9 := (hk1 (i - k) (by omega)).2; omega) ?_
    refine g_retl d_Tb_termOfSum_83 rfl ?_
    exact ⟨by rw [tm_3], rfl⟩
theorem c_Tb_sumRows {t s h : Nat} {g f : Nat → Nat} (ht : isTb t) (hs0 : 2 ≤ s) (hs : s ≤ 10) (hh : h < 4) (hd : t + 2 < 394) (hB : BO M) (hT : TbA M t g f) : CV o l m_Tb_sumRows n [.ref 397, .ref t, .int (nI h), .int (nI s)] M (fun M' => (∀ j, j < s → M' 407 j = nI (sms h (col s g f) j (j + 1) % 1000003)) ∧ BF M M') := by
  refine cvo_of rfl rfl rfl (Nat.le_of_ble_eq_true rfl) ?_
  refine r_aload_n d_Tb_sumRows_0 rfl ?_
  refine r_iload_n d_Tb_sumRows_1 rfl ?_
  refine r_aload_n d_Tb_sumRows_2 rfl ?_
  refine g_getr (b := 410) d_Tb_sumRows_3 f_Tb_36 rfl rfl rfl ?_
  refine g_Sv (av := [.ref t, .int (nI s), .ref 410]) d_Tb_sumRows_6 k_Tb_116 ws_Tb_fillColumns (by decide) rfl rfl (Nat.le_of_ble_eq_true rfl) (c_Tb_fillColumns ht isCo_410 hs0 hs (by omega) hT) ?_
  rintro M1 ⟨k1, k2⟩
  have hB1 := BF.cols hB k2 (by decide) (by omega) k1
  obtain ⟨w, hw⟩ := hB1.2.at 407 (by decide) (by decide) rfl
  refine r_iconst (v := nI 0) d_Tb_sumRows_9 (by decide) ?_
  refine r_istore (L' := [some (.ref 397), some (.ref t), some (.int (nI h)), some (.int (nI s)), some (.int (nI 0)), none, none, none]) d_Tb_sumRows_10 (by decide) rfl ?_
  suffices H : ∀ d k M2 u1 u2, k + d = s → RW M1 407 (fun j => if j < k then sms h (col s g f) j (j + 1) % 1000003 else w j) M2 → Rn o l m_Tb_sumRows (0, 0) 12 [some (.ref 397), some (.ref t), some (.int (nI h)), some (.int (nI s)), some (.int (nI k)), u1, none, u2] [] (gh n M2) (QV n fun M' => (∀ j, j < s → M' 407 j = nI (sms h (col s g f) j (j + 1) % 1000003)) ∧ BF M M') from H s 0 M1 _ _ (by omega) ((RW.rf hw).to (fun j hj => by simp))
  intro d
  induction d with
  | zero =>
    intro k M2 u1 u2 hk h1
    obtain rfl : k = s := by omega
    refine r_iload d_Tb_sumRows_12 rfl ?_
    refine r_iload_n d_Tb_sumRows_14 rfl ?_
    refine n_icmp_ge d_Tb_sumRows_15 (by omega) (by omega) (fun hb => ?_) (fun hb => ?_)
    · refine g_retv d_Tb_sumRows_71 rfl ?_
      refine ⟨fun j hj => by rw [h1.at (by omega), if_pos hj], hB1.trans (BF.row hB1.2 h1 (by decide) (by decide) (fun j hj => ?_))⟩
      try dsimp only
      split
      · exact Nat.mod_lt _ (by decide)
      · exact (hw j hj).2
    · omega
  | succ d ih =>
    intro k M2 u1 u2 hk h1
    have hc2 : ∀ j, j < s → OKr M2 (411 + j) (col s g f j) := fun j hj => h1.okn (by omega) (k1 j hj)
    refine r_iload d_Tb_sumRows_12 rfl ?_
    refine r_iload_n d_Tb_sumRows_14 rfl ?_
    refine n_icmp_ge d_Tb_sumRows_15 (by omega) (by omega) (fun hb => ?_) (fun hb => ?_)
    · omega
    · refine r_weak (L' := [some (.ref 397), some (.ref t), some (.int (nI h)), some (.int (nI s)), some (.int (nI k)), none, none, none]) (fun i v hv => by match i, hv with | 0, h => exact h | 1, h => exact h | 2, h => exact h | 3, h => exact h | 4, h => exact h | 5, h => cases h | 6, h => cases h | 7, h => cases h | i + 8, h => simp at h) ?_
      refine r_lconst (v := lN 0) d_Tb_sumRows_18 (by decide) ?_
      refine r_lstore (L' := [some (.ref 397), some (.ref t), some (.int (nI h)), some (.int (nI s)), some (.int (nI k)), some (.long (lN 0)), none, none]) d_Tb_sumRows_19 (by decide) rfl ?_
      refine r_iconst (v := nI 0) d_Tb_sumRows_21 (by decide) ?_
      refine r_istore (L' := [some (.ref 397), some (.ref t), some (.int (nI h)), some (.int (nI s)), some (.int (nI k)), some (.long (lN 0)), none, some (.int (nI 0))]) d_Tb_sumRows_22 (by decide) rfl ?_
      suffices H2 : ∀ d2 q, q + d2 = k + 1 → sms h (col s g f) k q ≤ q * 10000030 → Rn o l m_Tb_sumRows (0, 0) 24 [some (.ref 397), some (.ref t), some (.int (nI h)), some (.int (nI s)), some (.int (nI k)), some (.long (lN (sms h (col s g f) k q))), none, some (.int (nI q))] [] (gh n M2) (QV n fun M' => (∀ j, j < s → M' 407 j = nI (sms h (col s g f) j (j + 1) % 1000003)) ∧ BF M M') from H2 (k + 1) 0 (by omega) (by simp [sms])
      intro d2
      induction d2 with
      | zero =>
        intro q hq hle
        obtain rfl : q = k + 1 := by omega
        refine r_iload d_Tb_sumRows_24 rfl ?_
        refine r_iload d_Tb_sumRows_26 rfl ?_
        refine n_icmp_gt d_Tb_sumRows_28 (by omega) (by omega) (fun hb2 => ?_) (fun hb2 => ?_)
        · refine r_aload_n d_Tb_sumRows_51 rfl ?_
          refine g_getr (b := 407) d_Tb_sumRows_52 f_Tb_24 rfl rfl rfl ?_
          refine r_iload d_Tb_sumRows_55 rfl ?_
          refine r_lload d_Tb_sumRows_57 rfl ?_
          refine r_ldc2 (v := lN 1000003) d_Tb_sumRows_59 c_Tb_124 ?_
          refine n_lrem d_Tb_sumRows_62 (by have : (k + 1) * 10000030 ≤ 10 * 10000030 := Nat.mul_le_mul_right _ (by omega); omega) (by omega) (by omega) ?_
          refine n_l2i d_Tb_sumRows_63 ?_
          refine g_iast d_Tb_sumRows_64 rfl (by omega) (by omega) ?_
          refine n_iinc (c := 1) (L' := [some (.ref 397), some (.ref t), some (.int (nI h)), some (.int (nI s)), some (.int (nI (k + 1))), some (.long (lN (sms h (col s g f) k (k + 1)))), none, some (.int (nI (k + 1)))]) d_Tb_sumRows_65 rfl rfl (by decide) rfl ?_
          refine r_goto d_Tb_sumRows_68 ?_
          refine ih (k + 1) _ _ _ (by omega) (h1.upd.to (fun j hj => ?_))
          by_cases e : j = k
          · subst e; simp
          · rw [if_neg e]
            by_cases h9 : j < k
            · rw [if_pos h9, if_pos (by omega)]
            · rw [if_neg h9, if_neg (by omega)]
        · omega
      | succ d2 ih2 =>
        intro q hq hle
        refine r_iload d_Tb_sumRows_24 rfl ?_
        refine r_iload d_Tb_sumRows_26 rfl ?_
        refine n_icmp_gt d_Tb_sumRows_28 (by omega) (by omega) (fun hb2 => ?_) (fun hb2 => ?_)
        · omega
        · refine r_lload d_Tb_sumRows_31 rfl ?_
          refine r_aload_n d_Tb_sumRows_33 rfl ?_
          refine r_iload_n d_Tb_sumRows_34 rfl ?_
          refine r_iload d_Tb_sumRows_35 rfl ?_
          refine r_iload d_Tb_sumRows_37 rfl ?_
          refine g_Vj (av := [.int (nI h), .int (nI k), .int (nI q)]) d_Tb_sumRows_39 k_Tb_120 ws_Tb_termOfSum (by decide) rfl rfl (Nat.le_of_ble_eq_true rfl) rfl (c_Tb_termOfSum hh hs (by omega) (by omega) hc2) ?_
          rintro r M3 ⟨rfl, rfl⟩
          refine n_ladd d_Tb_sumRows_42 ?_
          refine r_lstore (L' := [some (.ref 397), some (.ref t), some (.int (nI h)), some (.int (nI s)), some (.int (nI k)), some (.long (lN ((sms h (col s g f) k q) + (tmS h (col s g f) k q)))), none, some (.int (nI q))]) d_Tb_sumRows_43 (by decide) rfl ?_
          refine n_iinc (c := 1) (L' := [some (.ref 397), some (.ref t), some (.int (nI h)), some (.int (nI s)), some (.int (nI k)), some (.long (lN ((sms h (col s g f) k q) + (tmS h (col s g f) k q)))), none, some (.int (nI (q + 1)))]) d_Tb_sumRows_45 rfl rfl (by decide) rfl ?_
          refine r_goto d_Tb_sumRows_48 ?_
          refine ih2 (q + 1) (by omega) ?_
          have h9 := tm_le (h := h) (c := col s g f) (n := k) (k := q) ((hc2 q (by omega)) k (by omega)).2 ((hc2 q (by omega)) (k - q) (by omega)).2 (by omega)
          simp only [sms]
          omega
theorem c_Tb_productionOf {t s i j : Nat} {g f : Nat → Nat} (ht : isTb t) (hs0 : 2 ≤ s) (hs : s ≤ 10) (hi : i < s - 1) (hj : j < s - 1) (hd : t + 2 < 394) (hB : BO M) (hT : TbA M t g f) : CI o l m_Tb_productionOf n [.ref 397, .ref t, .int (nI i), .int (nI j), .int (nI s)] M (fun r M' => r = nI (pdc (col s g f) j i) ∧ BF M M') := by
  refine ci_of rfl rfl rfl (Nat.le_of_ble_eq_true rfl) ?_
  refine r_aload_n d_Tb_productionOf_0 rfl ?_
  refine r_iload d_Tb_productionOf_1 rfl ?_
  refine r_aload_n d_Tb_productionOf_3 rfl ?_
  refine g_getr (b := 410) d_Tb_productionOf_4 f_Tb_36 rfl rfl rfl ?_
  refine g_Sv (av := [.ref t, .int (nI s), .ref 410]) d_Tb_productionOf_7 k_Tb_116 ws_Tb_fillColumns (by decide) rfl rfl (Nat.le_of_ble_eq_true rfl) (c_Tb_fillColumns ht isCo_410 hs0 hs (by omega) hT) ?_
  rintro M1 ⟨k1, k2⟩
  have hB1 := BF.cols hB k2 (by decide) (by omega) k1
  obtain ⟨w, hw⟩ := hB1.2.at 407 (by decide) (by decide) rfl
  refine r_iconst (v := nI 0) d_Tb_productionOf_10 (by decide) ?_
  refine r_istore (L' := [some (.ref 397), some (.ref t), some (.int (nI i)), some (.int (nI j)), some (.int (nI s)), some (.int (nI 0)), none, none, none]) d_Tb_productionOf_11 (by decide) rfl ?_
  suffices H : ∀ d k M2 u1 u2, k + d = i + 1 → RW M1 407 (fun q => if q < k then pdc (col s g f) j q else w q) M2 → Rn o l m_Tb_productionOf (0, 0) 13 [some (.ref 397), some (.ref t), some (.int (nI i)), some (.int (nI j)), some (.int (nI s)), some (.int (nI k)), u1, none, u2] [] (gh n M2) (QI n fun r M' => r = nI (pdc (col s g f) j i) ∧ BF M M') from H (i + 1) 0 M1 _ _ (by omega) ((RW.rf hw).to (fun j hj => by simp))
  intro d
  induction d with
  | zero =>
    intro k M2 u1 u2 hk h1
    obtain rfl : k = i + 1 := by omega
    refine r_iload d_Tb_productionOf_13 rfl ?_
    refine r_iload_n d_Tb_productionOf_15 rfl ?_
    refine n_icmp_gt d_Tb_productionOf_16 (by omega) (by omega) (fun hb => ?_) (fun hb => ?_)
    · refine r_aload_n d_Tb_productionOf_117 rfl ?_
      refine g_getr (b := 407) d_Tb_productionOf_118 f_Tb_24 rfl rfl rfl ?_
      refine r_iload_n d_Tb_productionOf_121 rfl ?_
      refine g_iald d_Tb_productionOf_122 rfl (by omega) (by omega) ?_
      refine r_top (y := nI (pdc (col s g f) j i)) ((h1.at (by omega)).trans (by rw [if_pos (by omega)])) ?_
      refine g_reti d_Tb_productionOf_123 rfl ?_
      refine ⟨rfl, hB1.trans (BF.row hB1.2 h1 (by decide) (by decide) (fun j hj => ?_))⟩
      try dsimp only
      split
      · exact pdc_lt _ _ _
      · exact (hw j hj).2
    · omega
  | succ d ih =>
    intro k M2 u1 u2 hk h1
    have hc2 : ∀ j, j < s → OKr M2 (411 + j) (col s g f j) := fun j hj => h1.okn (by omega) (k1 j hj)
    refine r_iload d_Tb_productionOf_13 rfl ?_
    refine r_iload_n d_Tb_productionOf_15 rfl ?_
    refine n_icmp_gt d_Tb_productionOf_16 (by omega) (by omega) (fun hb => ?_) (fun hb => ?_)
    · omega
    · refine r_weak (L' := [some (.ref 397), some (.ref t), some (.int (nI i)), some (.int (nI j)), some (.int (nI s)), some (.int (nI k)), none, none, none]) (fun i v hv => by match i, hv with | 0, h => exact h | 1, h => exact h | 2, h => exact h | 3, h => exact h | 4, h => exact h | 5, h => exact h | 6, h => cases h | 7, h => cases h | 8, h => cases h | i + 9, h => simp at h) ?_
      refine r_lconst (v := lN 0) d_Tb_productionOf_19 (by decide) ?_
      refine r_lstore (L' := [some (.ref 397), some (.ref t), some (.int (nI i)), some (.int (nI j)), some (.int (nI s)), some (.int (nI k)), some (.long (lN 0)), none, none]) d_Tb_productionOf_20 (by decide) rfl ?_
      refine r_iconst (v := nI 0) d_Tb_productionOf_22 (by decide) ?_
      refine r_istore (L' := [some (.ref 397), some (.ref t), some (.int (nI i)), some (.int (nI j)), some (.int (nI s)), some (.int (nI k)), some (.long (lN 0)), none, some (.int (nI 0))]) d_Tb_productionOf_23 (by decide) rfl ?_
      suffices H2 : ∀ d2 q, q + d2 = k → Rn o l m_Tb_productionOf (0, 0) 25 [some (.ref 397), some (.ref t), some (.int (nI i)), some (.int (nI j)), some (.int (nI s)), some (.int (nI k)), some (.long (lN (ps (col s g f) (pdc (col s g f) j) k q))), none, some (.int (nI q))] [] (gh n M2) (QI n fun r M' => r = nI (pdc (col s g f) j i) ∧ BF M M') from H2 k 0 (by omega)
      intro d2
      induction d2 with
      | zero =>
        intro q hq
        obtain rfl : q = k := by omega
        refine r_iload d_Tb_productionOf_25 rfl ?_
        refine r_iload d_Tb_productionOf_27 rfl ?_
        refine n_icmp_ge d_Tb_productionOf_29 (by omega) (by omega) (fun hb2 => ?_) (fun hb2 => ?_)
        · refine r_aload_n d_Tb_productionOf_63 rfl ?_
          refine g_getr (b := 410) d_Tb_productionOf_64 f_Tb_36 rfl rfl rfl ?_
          refine r_iload_n d_Tb_productionOf_67 rfl ?_
          refine g_aald (b := (411+j)) (t := 5) (N := 10) d_Tb_productionOf_68 rfl (by decide) (by omega) (by omega) (g_cols (by omega)) ?_
          refine r_iload d_Tb_productionOf_69 rfl ?_
          refine r_iconst (v := nI 1) d_Tb_productionOf_71 (by decide) ?_
          refine n_iadd d_Tb_productionOf_72 ?_
          refine g_iald d_Tb_productionOf_73 (t_cols (by omega)) (by omega) (by omega) ?_
          refine r_top (y := nI (col s g f j (q + 1))) ((hc2 j (by omega) (q + 1) (by omega)).1) ?_
          refine r_lload d_Tb_productionOf_74 rfl ?_
          refine r_ldc2 (v := lN 1000003) d_Tb_productionOf_76 c_Tb_124 ?_
          refine n_lrem d_Tb_productionOf_79 (by have h9 := ps_le (c := col s g f) (q := pdc (col s g f) j) (r := q) (k := q) (fun t ht => ((hc2 t (by omega)) q (by omega)).2) (fun t ht => pdc_lt _ _ _); have h8 : q * 1000006000009 ≤ 10 * 1000006000009 := Nat.mul_le_mul_right _ (by omega); omega) (by omega) (by omega) ?_
          refine n_l2i d_Tb_productionOf_80 ?_
          refine g_Si (av := [.int (nI (col s g f j (q + 1))), .int (nI ((ps (col s g f) (pdc (col s g f) j) q q) % 1000003))]) d_Tb_productionOf_81 k_Tb_112 ws_Rw_difference (by decide) rfl rfl (Nat.le_of_ble_eq_true rfl) (c_Rw_difference ((hc2 j (by omega)) (q + 1) (by omega)).2 (Nat.mod_lt _ (by decide))) ?_
          rintro r M3 ⟨rfl, rfl⟩
          refine r_istore (L' := [some (.ref 397), some (.ref t), some (.int (nI i)), some (.int (nI j)), some (.int (nI s)), some (.int (nI q)), some (.long (lN (ps (col s g f) (pdc (col s g f) j) q q))), none, some (.int (nI (sb (col s g f j (q + 1)) (ps (col s g f) (pdc (col s g f) j) q q % 1000003))))]) d_Tb_productionOf_84 (by decide) rfl ?_
          refine r_aload_n d_Tb_productionOf_86 rfl ?_
          refine g_getr (b := 407) d_Tb_productionOf_87 f_Tb_24 rfl rfl rfl ?_
          refine r_iload d_Tb_productionOf_90 rfl ?_
          refine r_iload d_Tb_productionOf_92 rfl ?_
          refine r_aload_n d_Tb_productionOf_94 rfl ?_
          refine g_getr (b := 410) d_Tb_productionOf_95 f_Tb_36 rfl rfl rfl ?_
          refine r_iload d_Tb_productionOf_98 rfl ?_
          refine g_aald (b := (411+q)) (t := 5) (N := 10) d_Tb_productionOf_100 rfl (by decide) (by omega) (by omega) (g_cols (by omega)) ?_
          refine r_iload d_Tb_productionOf_101 rfl ?_
          refine g_iald d_Tb_productionOf_103 (t_cols (by omega)) (by omega) (by omega) ?_
          refine r_top (y := nI (col s g f q q)) ((hc2 q (by omega) q (by omega)).1) ?_
          refine g_Si (av := [.int (nI (col s g f q q))]) d_Tb_productionOf_104 k_Tb_127 ws_Rw_inverse (by decide) rfl rfl (Nat.le_of_ble_eq_true rfl) (c_Rw_inverse ((hc2 q (by omega)) q (by omega)).2) ?_
          rintro r M3 ⟨rfl, rfl⟩
          refine g_Si (av := [.int (nI (sb (col s g f j (q + 1)) (ps (col s g f) (pdc (col s g f) j) q q % 1000003))), .int (nI (nv (col s g f q q)))]) d_Tb_productionOf_107 k_Tb_130 ws_Rw_product (by decide) rfl rfl (Nat.le_of_ble_eq_true rfl) (c_Rw_product (sb_lt _ _) (nv_lt _)) ?_
          rintro r M3 ⟨rfl, rfl⟩
          refine g_iast d_Tb_productionOf_110 rfl (by omega) (by omega) ?_
          refine n_iinc (c := 1) (L' := [some (.ref 397), some (.ref t), some (.int (nI i)), some (.int (nI j)), some (.int (nI s)), some (.int (nI (q + 1))), some (.long (lN (ps (col s g f) (pdc (col s g f) j) q q))), none, some (.int (nI (sb (col s g f j (q + 1)) (ps (col s g f) (pdc (col s g f) j) q q % 1000003))))]) d_Tb_productionOf_111 rfl rfl (by decide) rfl ?_
          refine r_goto d_Tb_productionOf_114 ?_
          rw [← pdc_eq]
          refine ih (q + 1) _ _ _ (by omega) (h1.upd.to (fun j hj => ?_))
          by_cases e : j = q
          · subst e; simp
          · rw [if_neg e]
            by_cases h9 : j < q
            · rw [if_pos h9, if_pos (by omega)]
            · rw [if_neg h9, if_neg (by omega)]
        · omega
      | succ d2 ih2 =>
        intro q hq
        refine r_iload d_Tb_productionOf_25 rfl ?_
        refine r_iload d_Tb_productionOf_27 rfl ?_
        refine n_icmp_ge d_Tb_productionOf_29 (by omega) (by omega) (fun hb2 => ?_) (fun hb2 => ?_)
        · omega
        · refine r_lload d_Tb_productionOf_32 rfl ?_
          refine r_aload_n d_Tb_productionOf_34 rfl ?_
          refine g_getr (b := 410) d_Tb_productionOf_35 f_Tb_36 rfl rfl rfl ?_
          refine r_iload d_Tb_productionOf_38 rfl ?_
          refine g_aald (b := (411+q)) (t := 5) (N := 10) d_Tb_productionOf_40 rfl (by decide) (by omega) (by omega) (g_cols (by omega)) ?_
          refine r_iload d_Tb_productionOf_41 rfl ?_
          refine g_iald d_Tb_productionOf_43 (t_cols (by omega)) (by omega) (by omega) ?_
          refine r_top (y := nI (col s g f q k)) ((hc2 q (by omega) k (by omega)).1) ?_
          refine n_i2l d_Tb_productionOf_44 (by have h9 := (hc2 q (by omega) k (by omega)).2; omega) ?_
          refine r_aload_n d_Tb_productionOf_45 rfl ?_
          refine g_getr (b := 407) d_Tb_productionOf_46 f_Tb_24 rfl rfl rfl ?_
          refine r_iload d_Tb_productionOf_49 rfl ?_
          refine g_iald d_Tb_productionOf_51 rfl (by omega) (by omega) ?_
          refine r_top (y := nI (pdc (col s g f) j q)) ((h1.at (by omega)).trans (by rw [if_pos (by omega)])) ?_
          refine n_i2l d_Tb_productionOf_52 (by have h9 := pdc_lt (col s g f) j q; omega) ?_
          refine n_lmul d_Tb_productionOf_53 ?_
          refine n_ladd d_Tb_productionOf_54 ?_
          refine r_lstore (L' := [some (.ref 397), some (.ref t), some (.int (nI i)), some (.int (nI j)), some (.int (nI s)), some (.int (nI k)), some (.long (lN ((ps (col s g f) (pdc (col s g f) j) k q) + ((col s g f q k) * (pdc (col s g f) j q))))), none, some (.int (nI q))]) d_Tb_productionOf_55 (by decide) rfl ?_
          refine n_iinc (c := 1) (L' := [some (.ref 397), some (.ref t), some (.int (nI i)), some (.int (nI j)), some (.int (nI s)), some (.int (nI k)), some (.long (lN ((ps (col s g f) (pdc (col s g f) j) k q) + ((col s g f q k) * (pdc (col s g f) j q))))), none, some (.int (nI (q + 1)))]) d_Tb_productionOf_57 rfl rfl (by decide) rfl ?_
          refine r_goto d_Tb_productionOf_60 ?_
          exact ih2 (q + 1) (by omega)
end C39
