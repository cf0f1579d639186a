/-! The reference: the calls on series -/
theorem cmb_0 (x y : Nat → Nat) (s j : Nat) : cmb 0 x y s j = (x j + y j) % 1000003 := by unfold cmb; rw [if_pos rfl]
theorem cmb_1 (x y : Nat → Nat) (s j : Nat) : cmb 1 x y s j = sb (x j) (y j) := by unfold cmb; rw [if_neg (by decide), if_pos rfl]
theorem cmb_2 (x y : Nat → Nat) (s j : Nat) : cmb 2 x y s j = cf x y j := by unfold cmb; rw [if_neg (by decide), if_neg (by decide), if_pos rfl]
theorem cmb_3 (x y : Nat → Nat) (s j : Nat) : cmb 3 x y s j = dv x y j := by unfold cmb; rw [if_neg (by decide), if_neg (by decide), if_neg (by decide), if_pos rfl]
theorem cmb_4 (x y : Nat → Nat) (s j : Nat) : cmb 4 x y s j = hn x y s s j := by unfold cmb; rw [if_neg (by decide), if_neg (by decide), if_neg (by decide), if_neg (by decide)]
theorem fm_sub {x y : Nat} (hx : x < 1000003) (hy : y < 1000003) : fm (nI x - nI y) = sb x y := by
  have e : nI x - nI y = Int32.ofInt ((x : Int) - y) := by
    rw [Int32.ofInt_sub, show Int32.ofInt (x : Int) = nI x from by rw [of_nat _ (by omega), Int.toNat_natCast], show Int32.ofInt (y : Int) = nI y from by rw [of_nat _ (by omega), Int.toNat_natCast]]
  rw [sb_rst _ (by omega), e]
  unfold fm rst
  rw [Int32.toInt_ofInt_of_le (by omega) (by omega)]
/-- the exponents of raise() -/
theorem zp_sq (x : Nat → Int) (e n : Nat) : zm (zp x e) (zp x e) n = zp x (2 * e) n := by
  rw [zp_add, show e + e = 2 * e by omega]
theorem rz_cg {x : Nat → Nat} {k s : Nat} (hk : k < 100) (i : Nat) (hi : i ≤ 7) : ∀ j, j < s → Cg (rz x k s i j : Nat) (zp (zN x) (k / 2 ^ (7 - i)) j) := by
  induction i with
  | zero =>
    intro j _
    rw [show k / 2 ^ (7 - 0) = 0 from Nat.div_eq_of_lt (by omega)]
    exact Cg.of (zN_one j)
  | succ i ih =>
    have ih := ih (by omega)
    intro j hj
    have hd : k / 2 ^ (7 - (i + 1)) = 2 * (k / 2 ^ (7 - i)) + k / 2 ^ (6 - i) % 2 := by
      rw [show 7 - i = 6 - i + 1 by omega, show 7 - (i + 1) = 6 - i by omega, Nat.pow_succ, ← Nat.div_div_eq_div_mul]
      omega
    generalize k / 2 ^ (7 - i) = e at *
    have sq : ∀ j, j < s → Cg (ml s (rz x k s i) (rz x k s i) j : Nat) (zp (zN x) (2 * e) j) := by
      intro j hj
      rw [ml_t hj]
      refine (cf_cg _ _ _).tr ?_
      rw [← zp_sq]
      exact Cg.cv (fun m hm => ih m (by omega)) (fun m hm => ih m (by omega))
    rw [rz, hd]
    by_cases c : k / 2 ^ (6 - i) % 2 = 0
    · rw [if_pos c, c, Nat.add_zero]
      exact sq j hj
    · rw [if_neg c, show k / 2 ^ (6 - i) % 2 = 1 by omega, ml_t hj]
      refine (cf_cg _ _ _).tr ?_
      exact Cg.cv (fun m hm => sq m (by omega)) (fun m _ => Cg.rf _)
/-- powers, one after another -/
def pwm (x : Nat → Nat) (s : Nat) : Nat → Nat → Nat
  | 0, j => oneS j
  | k + 1, j => if j < s then cf (pwm x s k) x j else pwm x s k j
theorem pwm_lt (x : Nat → Nat) (s k j : Nat) : pwm x s k j < 1000003 := by
  induction k with
  | zero => unfold pwm oneS; split <;> decide
  | succ k ih =>
    rw [pwm]
    split
    · exact cf_lt _ _ _
    · exact ih
theorem pwm_cg (x : Nat → Nat) (s k : Nat) : ∀ j, j < s → Cg (pwm x s k j : Nat) (zp (zN x) k j) := by
  induction k with
  | zero => exact fun j _ => Cg.of (zN_one j)
  | succ k ih =>
    intro j hj
    rw [pwm, if_pos hj]
    exact (cf_cg _ _ _).tr (Cg.cv (fun m hm => ih m (by omega)) (fun _ _ => Cg.rf _))
theorem pwm_rz {x : Nat → Nat} {k s j : Nat} (hk : k < 100) (hj : j < s) : pwm x s k j = rz x k s 7 j := by
  refine Cg_eq (pwm_lt _ _ _ _) (rz_lt _ _ _ _ _) (pwm_cg x s k j hj) ?_
  have := rz_cg (x := x) (s := s) hk 7 (Nat.le_refl _) j hj
  rwa [show 7 - 7 = 0 from rfl, Nat.pow_zero, Nat.div_one] at this
section C74
variable {o : OM} {l : Launch} {n : Nat} {M : Mem} {S : SS}
theorem c_Md_tser {c a : Nat} (hW : WS S) (hX : MR M S) (h0 : 0 < S.1 0 3) (hc : gT c = (1, 10)) (hc2 : 443 ≤ c ∧ c < 453) (ha : a < 6) : CV o l m_Md_takes n [.ref 436, .int (nI (1 + 10 * a)), .ref c] M (fun M' => WK M M' ∧ (∀ b, b ≠ c → M' b = M b) ∧ OKs M' c 10 (S.1 (2 + a))) := by
  refine cl_mono (c_Md_takes hc hc2 (by omega) hW.sz10 hX.sz (fun j hj => hX.ser ha hj) (fun j h1 h2 => hW.rz h0 (rx_s ha) h1 h2)) ?_
  rintro v h' ⟨M', e1, e2, e3⟩
  exact ⟨M', e1, e2, WK.w e3 hc2, e3.1, e3.ok (fun j hj => hW.rlt (rx_s ha) hj)⟩
theorem c_Md_reverses {x : Nat → Nat} {s : Nat} (hs : 2 ≤ s) (hs2 : s ≤ 10) (hz : M 438 0 = nI s) (hx : OKs M 443 10 x) : CV o l m_Md_reverses n [.ref 436, .ref 443, .ref 445] M (fun M' => WK M M' ∧ ∀ j, j < s → M' 445 j = nI (slv (cm s oneS x) idm j 1)) := by
  refine cvo_of rfl rfl rfl (Nat.le_of_ble_eq_true rfl) ?_
  refine r_aload_n d_Md_reverses_0 rfl ?_
  refine g_Vv (av := []) d_Md_reverses_1 k_Md_193 ws_Md_laysUnit (by decide) rfl rfl (Nat.le_of_ble_eq_true rfl) rfl (c_Md_laysUnit) ?_
  rintro M1 g1
  refine r_aload_n d_Md_reverses_4 rfl ?_
  refine r_aload_n d_Md_reverses_5 rfl ?_
  refine g_getr (b := 452) d_Md_reverses_6 f_Md_99 rfl rfl rfl ?_
  refine r_aload_n d_Md_reverses_9 rfl ?_
  refine r_aload_n d_Md_reverses_10 rfl ?_
  refine g_getr (b := 448) d_Md_reverses_11 f_Md_87 rfl rfl rfl ?_
  refine g_Vv (av := [.ref 452, .ref 443, .ref 448]) d_Md_reverses_14 k_Md_196 ws_Md_columns (by decide) rfl rfl (Nat.le_of_ble_eq_true rfl) rfl (c_Md_columns (c := 448) rfl rfl rfl (by decide) ⟨by decide, by decide, by decide⟩ (by decide) hs2 (by rw [g1.1 438 (by decide)]; exact hz) (g1.ok (fun j _ => by unfold oneS; split <;> decide)) ((hx.kept (g1.1 443 (by decide))).le hs2)) ?_
  rintro M2 ⟨g2, g3⟩
  refine r_aload_n d_Md_reverses_17 rfl ?_
  refine g_getr (b := 449) d_Md_reverses_18 f_Md_90 rfl rfl rfl ?_
  refine g_Sv (av := [.ref 449]) d_Md_reverses_21 k_Md_207 ws_Md_ones (by decide) rfl rfl (Nat.le_of_ble_eq_true rfl) (c_Md_ones (c := 449) rfl) ?_
  rintro M3 ⟨g4, g5⟩
  have hz3 : M3 438 0 = nI s := by rw [g4 438 (by decide), g2 438 (by decide) (by decide) (by decide), g1.1 438 (by decide)]; exact hz
  refine r_aload_n d_Md_reverses_24 rfl ?_
  refine g_getr (b := 448) d_Md_reverses_25 f_Md_87 rfl rfl rfl ?_
  refine r_aload_n d_Md_reverses_28 rfl ?_
  refine g_getr (b := 449) d_Md_reverses_29 f_Md_90 rfl rfl rfl ?_
  refine r_aload_n d_Md_reverses_32 rfl ?_
  refine g_getr (b := 450) d_Md_reverses_33 f_Md_93 rfl rfl rfl ?_
  refine r_aload_n d_Md_reverses_36 rfl ?_
  refine g_Vi (av := []) d_Md_reverses_37 k_Md_173 ws_Md_wide (by decide) rfl rfl (Nat.le_of_ble_eq_true rfl) rfl (c_Md_wide (hz3)) ?_
  rintro _ _ ⟨rfl, rfl⟩
  refine g_Sv (av := [.ref 448, .ref 449, .ref 450, .int (nI s)]) d_Md_reverses_40 k_Md_211 ws_Md_solves (by decide) rfl rfl (Nat.le_of_ble_eq_true rfl) (c_Md_solves (a := 448) (b := 449) (c := 450) (A := cm s oneS x) rfl rfl rfl (by decide) (by decide) hs2 (g3.kept (g4 448 (by decide))) (fun i j hi hj => g5 i j (by omega) (by omega))) ?_
  rintro M4 ⟨g6, g7⟩
  have hz4 : M4 438 0 = nI s := by rw [g6 438 (by decide)]; exact hz3
  have wk4 : WK M M4 := WK.of (fun b hb => by rw [g6 b (by omega), g4 b (by omega), g2 b (by omega) (by omega) (by omega), g1.1 b (by omega)])
  refine r_iconst (v := nI 0) d_Md_reverses_43 (by decide) ?_
  refine r_istore_n (L' := [some (.ref 436), some (.ref 443), some (.ref 445), some (.int (nI 0))]) d_Md_reverses_44 (by decide) rfl ?_
  refine lp (a := 0) (N := s) (R := fun k M' => Rn o l m_Md_reverses (0, 0) 45 [some (.ref 436), some (.ref 443), some (.ref 445), some (.int (nI k))] [] (gh n M') (QV n fun M' => WK M M' ∧ ∀ j, j < s → M' 445 j = nI (slv (cm s oneS x) idm j 1))) (P := fun k M' => MW M4 445 k (fun j => slv (cm s oneS x) idm j 1) M') (by omega) ?_ ?_ ?_
  · exact MW.z M4 445 _
  · intro M5 g8
    refine r_iload_n d_Md_reverses_45 rfl ?_
    refine r_aload_n d_Md_reverses_46 rfl ?_
    refine g_Vi (av := []) d_Md_reverses_47 k_Md_173 ws_Md_wide (by decide) rfl rfl (Nat.le_of_ble_eq_true rfl) rfl (c_Md_wide (by rw [g8.1 438 (by decide)]; exact hz4)) ?_
    rintro _ _ ⟨rfl, rfl⟩
    refine n_icmp_ge d_Md_reverses_50 (by omega) (by omega) (fun _ => ?_) (fun h9 => absurd h9 (by omega))
    refine g_retv d_Md_reverses_73 rfl ?_
    exact ⟨wk4.trans (WK.w g8 (by decide)), g8.2⟩
  · intro k M5 hk g8 ih
    refine r_iload_n d_Md_reverses_45 rfl ?_
    refine r_aload_n d_Md_reverses_46 rfl ?_
    refine g_Vi (av := []) d_Md_reverses_47 k_Md_173 ws_Md_wide (by decide) rfl rfl (Nat.le_of_ble_eq_true rfl) rfl (c_Md_wide (by rw [g8.1 438 (by decide)]; exact hz4)) ?_
    rintro _ _ ⟨rfl, rfl⟩
    refine n_icmp_ge d_Md_reverses_50 (by omega) (by omega) (fun h9 => absurd h9 (by omega)) (fun _ => ?_)
    refine r_aload_n d_Md_reverses_53 rfl ?_
    refine r_iload_n d_Md_reverses_54 rfl ?_
    refine r_aload_n d_Md_reverses_55 rfl ?_
    refine g_getr (b := 450) d_Md_reverses_56 f_Md_93 rfl rfl rfl ?_
    refine r_bipush (v := nI 10) d_Md_reverses_59 (by decide) ?_
    refine r_iload_n d_Md_reverses_61 rfl ?_
    refine n_imul d_Md_reverses_62 ?_
    refine r_iconst (v := nI 1) d_Md_reverses_63 (by decide) ?_
    refine n_iadd d_Md_reverses_64 ?_
    refine g_iald d_Md_reverses_65 rfl (by omega) (by omega) ?_
    refine r_top (y := nI (slv (cm s oneS x) idm k 1)) (by rw [g8.1 450 (by decide)]; exact (g7 k 1 (by omega) (by omega)).1) ?_
    refine g_iast d_Md_reverses_66 rfl (by omega) (by omega) ?_
    refine n_iinc (c := 1) (L' := [some (.ref 436), some (.ref 443), some (.ref 445), some (.int (nI (k + 1)))]) d_Md_reverses_67 rfl rfl (by decide) rfl ?_
    refine r_goto d_Md_reverses_70 ?_
    refine ih _ ?_
    exact g8.up rfl
theorem c_Md_make {a b how to : Int32} (hW : WS S) (hX : MR M S) : CI o l m_Md_make n [.ref 436, .int a, .int b, .int how, .int to] M (PM M (f_make S a b how to)) := by
  refine ci_of rfl rfl rfl (Nat.le_of_ble_eq_true rfl) ?_
  have hs10 := hW.sz10
  refine r_aload_n d_Md_make_0 rfl ?_
  refine r_iconst (v := nI 0) d_Md_make_1 (by decide) ?_
  refine g_puti d_Md_make_2 f_Md_1 ⟨rfl, rfl, rfl⟩ rfl ?_
  obtain ⟨M0, e0, hk0, hX0, -⟩ := hX.m0
  rw [e0]
  refine r_aload_n d_Md_make_5 rfl ?_
  refine r_iload_n d_Md_make_6 rfl ?_
  by_cases hg1 : okS S a
  case neg =>
    refine g_Vi (av := [.int a]) d_Md_make_7 k_Md_180 ws_Md_isSeries (by decide) rfl rfl (Nat.le_of_ble_eq_true rfl) rfl (c_Md_isSeries_f hW hX0 hg1) ?_
    rintro _ _ ⟨rfl, rfl⟩
    refine n_if_eq d_Md_make_10 (by omega) (fun _ => ?_) (fun h9 => absurd h9 (by decide))
    refine r_iconst (v := -1) d_Md_make_39 (by decide) ?_
    refine g_reti d_Md_make_40 rfl ?_
    exact PM.no hX0 hk0 (fun q9 => hg1 q9.1)
  refine g_Vi (av := [.int a]) d_Md_make_7 k_Md_180 ws_Md_isSeries (by decide) rfl rfl (Nat.le_of_ble_eq_true rfl) rfl (c_Md_isSeries_t hW hX0 hg1) ?_
  rintro _ _ ⟨rfl, rfl⟩
  refine n_if_eq d_Md_make_10 (by omega) (fun h9 => absurd h9 (by decide)) (fun _ => ?_)
  refine r_aload_n d_Md_make_13 rfl ?_
  refine r_iload_n d_Md_make_14 rfl ?_
  by_cases hg2 : okS S b
  case neg =>
    refine g_Vi (av := [.int b]) d_Md_make_15 k_Md_180 ws_Md_isSeries (by decide) rfl rfl (Nat.le_of_ble_eq_true rfl) rfl (c_Md_isSeries_f hW hX0 hg2) ?_
    rintro _ _ ⟨rfl, rfl⟩
    refine n_if_eq d_Md_make_18 (by omega) (fun _ => ?_) (fun h9 => absurd h9 (by decide))
    refine r_iconst (v := -1) d_Md_make_39 (by decide) ?_
    refine g_reti d_Md_make_40 rfl ?_
    exact PM.no hX0 hk0 (fun q9 => hg2 q9.2.1)
  refine g_Vi (av := [.int b]) d_Md_make_15 k_Md_180 ws_Md_isSeries (by decide) rfl rfl (Nat.le_of_ble_eq_true rfl) rfl (c_Md_isSeries_t hW hX0 hg2) ?_
  rintro _ _ ⟨rfl, rfl⟩
  refine n_if_eq d_Md_make_18 (by omega) (fun h9 => absurd h9 (by decide)) (fun _ => ?_)
  refine r_aload_n d_Md_make_21 rfl ?_
  refine r_iload d_Md_make_22 rfl ?_
  by_cases hg3 : okS S to
  case neg =>
    refine g_Vi (av := [.int to]) d_Md_make_24 k_Md_180 ws_Md_isSeries (by decide) rfl rfl (Nat.le_of_ble_eq_true rfl) rfl (c_Md_isSeries_f hW hX0 hg3) ?_
    rintro _ _ ⟨rfl, rfl⟩
    refine n_if_eq d_Md_make_27 (by omega) (fun _ => ?_) (fun h9 => absurd h9 (by decide))
    refine r_iconst (v := -1) d_Md_make_39 (by decide) ?_
    refine g_reti d_Md_make_40 rfl ?_
    exact PM.no hX0 hk0 (fun q9 => hg3 q9.2.2.1)
  refine g_Vi (av := [.int to]) d_Md_make_24 k_Md_180 ws_Md_isSeries (by decide) rfl rfl (Nat.le_of_ble_eq_true rfl) rfl (c_Md_isSeries_t hW hX0 hg3) ?_
  rintro _ _ ⟨rfl, rfl⟩
  refine n_if_eq d_Md_make_27 (by omega) (fun h9 => absurd h9 (by decide)) (fun _ => ?_)
  have q1 := hg1
  have q2 := hg2
  have q3 := hg3
  rw [f_make]
  by_cases hg4 : inN 5 how
  case neg =>
    refine r_iload_n d_Md_make_30 rfl ?_
    refine r_iconst (v := nI 0) d_Md_make_31 (by decide) ?_
    refine r_iconst (v := nI 4) d_Md_make_32 (by decide) ?_
    refine g_Si (av := [.int how, .int (nI 0), .int (nI 4)]) d_Md_make_33 k_Md_118 ws_Md_isIn (by decide) rfl rfl (Nat.le_of_ble_eq_true rfl) (c_Md_in0_f (by decide) hg4) ?_
    rintro _ _ ⟨rfl, rfl⟩
    refine n_if_ne d_Md_make_36 (by omega) (fun h9 => absurd h9 (by decide)) (fun _ => ?_)
    refine r_iconst (v := -1) d_Md_make_39 (by decide) ?_
    refine g_reti d_Md_make_40 rfl ?_
    exact PM.no hX0 hk0 (fun z => hg4 ⟨z.2.2.2.2.1, z.2.2.2.1⟩)
  refine r_iload_n d_Md_make_30 rfl ?_
  refine r_iconst (v := nI 0) d_Md_make_31 (by decide) ?_
  refine r_iconst (v := nI 4) d_Md_make_32 (by decide) ?_
  refine g_Si (av := [.int how, .int (nI 0), .int (nI 4)]) d_Md_make_33 k_Md_118 ws_Md_isIn (by decide) rfl rfl (Nat.le_of_ble_eq_true rfl) (c_Md_in0_t (by decide) hg4) ?_
  rintro _ _ ⟨rfl, rfl⟩
  obtain ⟨h0, ha1, ha2⟩ := hg1
  obtain ⟨_, hb1, hb2⟩ := hg2
  obtain ⟨_, ht1, ht2⟩ := hg3
  obtain ⟨z1, z2⟩ := hW.sz h0
  obtain ⟨hh1, hh2⟩ := hg4
  generalize ix a = a' at *
  subst ha2
  generalize ix b = b' at *
  subst hb2
  generalize ix to = t' at *
  subst ht2
  generalize ix how = h at *
  subst hh2
  refine n_if_ne d_Md_make_36 (by omega) (fun _ => ?_) (fun h9 => absurd h9 (by decide))
  refine r_aload_n d_Md_make_41 rfl ?_
  refine r_iconst (v := nI 1) d_Md_make_42 (by decide) ?_
  refine r_bipush (v := nI 10) d_Md_make_43 (by decide) ?_
  refine r_iload_n d_Md_make_45 rfl ?_
  refine n_imul d_Md_make_46 ?_
  refine n_iadd d_Md_make_47 ?_
  refine r_aload_n d_Md_make_48 rfl ?_
  refine g_getr (b := 443) d_Md_make_49 f_Md_72 rfl rfl rfl ?_
  refine g_Vv (av := [.int (nI (1 + (10 * a'))), .ref 443]) d_Md_make_52 k_Md_189 ws_Md_takes (by decide) rfl rfl (Nat.le_of_ble_eq_true rfl) rfl (c_Md_tser (c := 443) hW hX0 h0 rfl (by decide) ha1) ?_
  rintro M1 ⟨w1, g1, g2⟩
  refine r_aload_n d_Md_make_55 rfl ?_
  refine r_iconst (v := nI 1) d_Md_make_56 (by decide) ?_
  refine r_bipush (v := nI 10) d_Md_make_57 (by decide) ?_
  refine r_iload_n d_Md_make_59 rfl ?_
  refine n_imul d_Md_make_60 ?_
  refine n_iadd d_Md_make_61 ?_
  refine r_aload_n d_Md_make_62 rfl ?_
  refine g_getr (b := 444) d_Md_make_63 f_Md_75 rfl rfl rfl ?_
  refine g_Vv (av := [.int (nI (1 + (10 * b'))), .ref 444]) d_Md_make_66 k_Md_189 ws_Md_takes (by decide) rfl rfl (Nat.le_of_ble_eq_true rfl) rfl (c_Md_tser (c := 444) hW (w1.mr hX0) h0 rfl (by decide) hb1) ?_
  rintro M2 ⟨w2, g3, g4⟩
  have wk := w1.trans w2
  have hX2 := wk.mr hX0
  have hk2 := hk0.trans wk.km
  have up2 : OKs M2 443 10 (S.1 (2 + a')) := g2.kept (g3 443 (by decide))
  have al := fun j hj => hW.rlt (rx_s ha1) (j := j) hj
  generalize hx : S.1 (2 + a') = x at *
  generalize hy : S.1 (2 + b') = y at *
  have fin : ∀ (M3 : Mem) (u : Option Value) (w : Nat → Nat), WK M2 M3 → (∀ j, j < S.1 0 3 → M3 445 j = nI (w j)) → Rn o l m_Md_make (0, 0) 260 [some (.ref 436), some (.int (nI a')), some (.int (nI b')), some (.int (nI h)), some (.int (nI t')), u] [] (gh n M3) (QI n (PM M (lndS S t' w))) := by
    intro M3 u w w3 hw
    have hX3 := w3.mr hX2
    refine r_aload_n d_Md_make_260 rfl ?_
    refine r_aload_n d_Md_make_261 rfl ?_
    refine g_getr (b := 445) d_Md_make_262 f_Md_78 rfl rfl rfl ?_
    refine r_iload d_Md_make_265 rfl ?_
    refine r_aload_n d_Md_make_267 rfl ?_
    refine g_Vi (av := []) d_Md_make_268 k_Md_173 ws_Md_wide (by decide) rfl rfl (Nat.le_of_ble_eq_true rfl) rfl (c_Md_wide (hX3.sz)) ?_
    rintro _ _ ⟨rfl, rfl⟩
    refine r_iconst (v := nI 1) d_Md_make_271 (by decide) ?_
    refine n_isub d_Md_make_272 (by omega) ?_
    refine g_Vi (av := [.ref 445, .int (nI t'), .int (nI ((S.1 0 3) - 1))]) d_Md_make_273 k_Md_203 ws_Md_comes (by decide) rfl rfl (Nat.le_of_ble_eq_true rfl) rfl (c_Md_comes (w := w) hW hX3 rfl (by decide) ht1 (by omega) hw) ?_
    rintro r M4 k4
    refine g_reti d_Md_make_276 rfl ?_
    exact PM.of (hk2.trans w3.km) k4
  have cx : ∀ (w : Nat → Nat) (M' : Mem) (u : Option Value), WK M2 M' → (∀ j, j < S.1 0 3 → M' 445 j = nI (w j)) → (∀ j, j < S.1 0 3 → w j = cmb h x y (S.1 0 3) j) → cmbOk h y → Rn o l m_Md_make (0, 0) 260 [some (.ref 436), some (.int (nI a')), some (.int (nI b')), some (.int (nI h)), some (.int (nI t')), u] [] (gh n M') (QI n (PM M (ic (okS S (nI a') ∧ okS S (nI b') ∧ okS S (nI t') ∧ nI h = nI h ∧ cmbOk h y) (lndS S t' (cmb h x y (S.1 0 3))) (-1, S)))) := by
    intro w M' u w3 hw he hok
    rw [ic_t ⟨q1, q2, q3, rfl, hok⟩]
    exact fin M' u _ w3 (fun j hj => by rw [hw j hj, he j hj])
  rcases (show h = 0 ∨ h = 1 ∨ h = 2 ∨ h = 3 ∨ h = 4 by omega) with rfl | rfl | rfl | rfl | rfl
  · refine r_iload_n d_Md_make_69 rfl ?_
    refine r_iconst (v := nI 3) d_Md_make_70 (by decide) ?_
    refine n_icmp_ne d_Md_make_71 (by omega) (by omega) (fun _ => ?_) (fun h9 => absurd h9 (by decide))
    refine r_iload_n d_Md_make_83 rfl ?_
    refine r_iconst (v := nI 4) d_Md_make_84 (by decide) ?_
    refine n_icmp_ne d_Md_make_85 (by omega) (by omega) (fun _ => ?_) (fun h9 => absurd h9 (by decide))
    refine r_iload_n d_Md_make_99 rfl ?_
    refine r_iconst (v := nI 2) d_Md_make_100 (by decide) ?_
    refine n_icmp_ge d_Md_make_101 (by omega) (by omega) (fun h9 => absurd h9 (by decide)) (fun _ => ?_)
    refine r_iconst (v := nI 0) d_Md_make_104 (by decide) ?_
    refine r_istore (L' := [some (.ref 436), some (.int (nI a')), some (.int (nI b')), some (.int (nI 0)), some (.int (nI t')), some (.int (nI 0))]) d_Md_make_105 (by decide) rfl ?_
    refine lp (a := 0) (N := S.1 0 3) (R := fun k M' => Rn o l m_Md_make (0, 0) 107 [some (.ref 436), some (.int (nI a')), some (.int (nI b')), some (.int (nI 0)), some (.int (nI t')), some (.int (nI k))] [] (gh n M') (QI n (PM M (ic (okS S (nI a') ∧ okS S (nI b') ∧ okS S (nI t') ∧ nI 0 = nI 0 ∧ cmbOk 0 y) (lndS S t' (cmb 0 x y (S.1 0 3))) (-1, S))))) (P := fun k M' => MW M2 445 k (cmb 0 x y (S.1 0 3)) M') (by omega) ?_ ?_ ?_
    · exact MW.z M2 445 _
    · intro M3 g5
      refine r_iload d_Md_make_107 rfl ?_
      refine r_aload_n d_Md_make_109 rfl ?_
      refine g_Vi (av := []) d_Md_make_110 k_Md_173 ws_Md_wide (by decide) rfl rfl (Nat.le_of_ble_eq_true rfl) rfl (c_Md_wide (by rw [g5.1 438 (by decide)]; exact hX2.sz)) ?_
      rintro _ _ ⟨rfl, rfl⟩
      refine n_icmp_ge d_Md_make_113 (by omega) (by omega) (fun _ => ?_) (fun h9 => absurd h9 (by omega))
      refine r_iload_n d_Md_make_171 rfl ?_
      refine r_iconst (v := nI 2) d_Md_make_172 (by decide) ?_
      refine n_icmp_ne d_Md_make_173 (by omega) (by omega) (fun _ => ?_) (fun h9 => absurd h9 (by decide))
      refine r_iload_n d_Md_make_195 rfl ?_
      refine r_iconst (v := nI 3) d_Md_make_196 (by decide) ?_
      refine n_icmp_ne d_Md_make_197 (by omega) (by omega) (fun _ => ?_) (fun h9 => absurd h9 (by decide))
      refine r_iload_n d_Md_make_219 rfl ?_
      refine r_iconst (v := nI 4) d_Md_make_220 (by decide) ?_
      refine n_icmp_ne d_Md_make_221 (by omega) (by omega) (fun _ => ?_) (fun h9 => absurd h9 (by decide))
      exact cx _ M3 _ (WK.w g5 (by decide)) g5.2 (fun _ _ => rfl) ⟨by decide, fun q => absurd q (by decide), fun q => absurd q (by decide)⟩
    · intro k M3 hk g5 ih
      refine r_iload d_Md_make_107 rfl ?_
      refine r_aload_n d_Md_make_109 rfl ?_
      refine g_Vi (av := []) d_Md_make_110 k_Md_173 ws_Md_wide (by decide) rfl rfl (Nat.le_of_ble_eq_true rfl) rfl (c_Md_wide (by rw [g5.1 438 (by decide)]; exact hX2.sz)) ?_
      rintro _ _ ⟨rfl, rfl⟩
      refine n_icmp_ge d_Md_make_113 (by omega) (by omega) (fun h9 => absurd h9 (by omega)) (fun _ => ?_)
      have x9 := up2 k (by omega)
      have y9 := g4 k (by omega)
      refine r_aload_n d_Md_make_116 rfl ?_
      refine g_getr (b := 445) d_Md_make_117 f_Md_78 rfl rfl rfl ?_
      refine r_iload d_Md_make_120 rfl ?_
      refine r_iload_n d_Md_make_122 rfl ?_
      refine n_if_ne d_Md_make_123 (by omega) (fun h9 => absurd h9 (by decide)) (fun _ => ?_)
      refine r_aload_n d_Md_make_126 rfl ?_
      refine g_getr (b := 443) d_Md_make_127 f_Md_72 rfl rfl rfl ?_
      refine r_iload d_Md_make_130 rfl ?_
      refine g_iald d_Md_make_132 rfl (by omega) (by omega) ?_
      refine r_top (y := nI (x k)) (by rw [g5.1 443 (by decide)]; exact x9.1) ?_
      refine r_aload_n d_Md_make_133 rfl ?_
      refine g_getr (b := 444) d_Md_make_134 f_Md_75 rfl rfl rfl ?_
      refine r_iload d_Md_make_137 rfl ?_
      refine g_iald d_Md_make_139 rfl (by omega) (by omega) ?_
      refine r_top (y := nI (y k)) (by rw [g5.1 444 (by decide)]; exact y9.1) ?_
      refine n_iadd d_Md_make_140 ?_
      refine n_i2l d_Md_make_141 (by omega) ?_
      refine r_goto d_Md_make_142 ?_
      refine g_Si (av := [.long (lN ((x k) + (y k)))]) d_Md_make_161 k_Md_109 ws_Md_rest (by decide) rfl rfl (Nat.le_of_ble_eq_true rfl) (c_Md_restN (by omega)) ?_
      rintro _ _ ⟨rfl, rfl⟩
      refine g_iast d_Md_make_164 rfl (by omega) (by omega) ?_
      refine n_iinc (c := 1) (L' := [some (.ref 436), some (.int (nI a')), some (.int (nI b')), some (.int (nI 0)), some (.int (nI t')), some (.int (nI (k + 1)))]) d_Md_make_165 rfl rfl (by decide) rfl ?_
      refine r_goto d_Md_make_168 ?_
      refine ih _ ?_
      exact g5.up (by rw [rst_nat, cmb_0])
  · refine r_iload_n d_Md_make_69 rfl ?_
    refine r_iconst (v := nI 3) d_Md_make_70 (by decide) ?_
    refine n_icmp_ne d_Md_make_71 (by omega) (by omega) (fun _ => ?_) (fun h9 => absurd h9 (by decide))
    refine r_iload_n d_Md_make_83 rfl ?_
    refine r_iconst (v := nI 4) d_Md_make_84 (by decide) ?_
    refine n_icmp_ne d_Md_make_85 (by omega) (by omega) (fun _ => ?_) (fun h9 => absurd h9 (by decide))
    refine r_iload_n d_Md_make_99 rfl ?_
    refine r_iconst (v := nI 2) d_Md_make_100 (by decide) ?_
    refine n_icmp_ge d_Md_make_101 (by omega) (by omega) (fun h9 => absurd h9 (by decide)) (fun _ => ?_)
    refine r_iconst (v := nI 0) d_Md_make_104 (by decide) ?_
    refine r_istore (L' := [some (.ref 436), some (.int (nI a')), some (.int (nI b')), some (.int (nI 1)), some (.int (nI t')), some (.int (nI 0))]) d_Md_make_105 (by decide) rfl ?_
    refine lp (a := 0) (N := S.1 0 3) (R := fun k M' => Rn o l m_Md_make (0, 0) 107 [some (.ref 436), some (.int (nI a')), some (.int (nI b')), some (.int (nI 1)), some (.int (nI t')), some (.int (nI k))] [] (gh n M') (QI n (PM M (ic (okS S (nI a') ∧ okS S (nI b') ∧ okS S (nI t') ∧ nI 1 = nI 1 ∧ cmbOk 1 y) (lndS S t' (cmb 1 x y (S.1 0 3))) (-1, S))))) (P := fun k M' => MW M2 445 k (cmb 1 x y (S.1 0 3)) M') (by omega) ?_ ?_ ?_
    · exact MW.z M2 445 _
    · intro M3 g5
      refine r_iload d_Md_make_107 rfl ?_
      refine r_aload_n d_Md_make_109 rfl ?_
      refine g_Vi (av := []) d_Md_make_110 k_Md_173 ws_Md_wide (by decide) rfl rfl (Nat.le_of_ble_eq_true rfl) rfl (c_Md_wide (by rw [g5.1 438 (by decide)]; exact hX2.sz)) ?_
      rintro _ _ ⟨rfl, rfl⟩
      refine n_icmp_ge d_Md_make_113 (by omega) (by omega) (fun _ => ?_) (fun h9 => absurd h9 (by omega))
      refine r_iload_n d_Md_make_171 rfl ?_
      refine r_iconst (v := nI 2) d_Md_make_172 (by decide) ?_
      refine n_icmp_ne d_Md_make_173 (by omega) (by omega) (fun _ => ?_) (fun h9 => absurd h9 (by decide))
      refine r_iload_n d_Md_make_195 rfl ?_
      refine r_iconst (v := nI 3) d_Md_make_196 (by decide) ?_
      refine n_icmp_ne d_Md_make_197 (by omega) (by omega) (fun _ => ?_) (fun h9 => absurd h9 (by decide))
      refine r_iload_n d_Md_make_219 rfl ?_
      refine r_iconst (v := nI 4) d_Md_make_220 (by decide) ?_
      refine n_icmp_ne d_Md_make_221 (by omega) (by omega) (fun _ => ?_) (fun h9 => absurd h9 (by decide))
      exact cx _ M3 _ (WK.w g5 (by decide)) g5.2 (fun _ _ => rfl) ⟨by decide, fun q => absurd q (by decide), fun q => absurd q (by decide)⟩
    · intro k M3 hk g5 ih
      refine r_iload d_Md_make_107 rfl ?_
      refine r_aload_n d_Md_make_109 rfl ?_
      refine g_Vi (av := []) d_Md_make_110 k_Md_173 ws_Md_wide (by decide) rfl rfl (Nat.le_of_ble_eq_true rfl) rfl (c_Md_wide (by rw [g5.1 438 (by decide)]; exact hX2.sz)) ?_
      rintro _ _ ⟨rfl, rfl⟩
      refine n_icmp_ge d_Md_make_113 (by omega) (by omega) (fun h9 => absurd h9 (by omega)) (fun _ => ?_)
      have x9 := up2 k (by omega)
      have y9 := g4 k (by omega)
      refine r_aload_n d_Md_make_116 rfl ?_
      refine g_getr (b := 445) d_Md_make_117 f_Md_78 rfl rfl rfl ?_
      refine r_iload d_Md_make_120 rfl ?_
      refine r_iload_n d_Md_make_122 rfl ?_
      refine n_if_ne d_Md_make_123 (by omega) (fun _ => ?_) (fun h9 => absurd h9 (by decide))
      refine r_aload_n d_Md_make_145 rfl ?_
      refine g_getr (b := 443) d_Md_make_146 f_Md_72 rfl rfl rfl ?_
      refine r_iload d_Md_make_149 rfl ?_
      refine g_iald d_Md_make_151 rfl (by omega) (by omega) ?_
      refine r_top (y := nI (x k)) (by rw [g5.1 443 (by decide)]; exact x9.1) ?_
      refine r_aload_n d_Md_make_152 rfl ?_
      refine g_getr (b := 444) d_Md_make_153 f_Md_75 rfl rfl rfl ?_
      refine r_iload d_Md_make_156 rfl ?_
      refine g_iald d_Md_make_158 rfl (by omega) (by omega) ?_
      refine r_top (y := nI (y k)) (by rw [g5.1 444 (by decide)]; exact y9.1) ?_
      refine r_isub d_Md_make_159 ?_
      refine r_i2l d_Md_make_160 ?_
      refine g_Si (av := [.long (((nI (x k)) - (nI (y k))).toInt64)]) d_Md_make_161 k_Md_109 ws_Md_rest (by decide) rfl rfl (Nat.le_of_ble_eq_true rfl) (c_Md_restI) ?_
      rintro _ _ ⟨rfl, rfl⟩
      refine g_iast d_Md_make_164 rfl (by omega) (by omega) ?_
      refine n_iinc (c := 1) (L' := [some (.ref 436), some (.int (nI a')), some (.int (nI b')), some (.int (nI 1)), some (.int (nI t')), some (.int (nI (k + 1)))]) d_Md_make_165 rfl rfl (by decide) rfl ?_
      refine r_goto d_Md_make_168 ?_
      refine ih _ ?_
      exact g5.up (by rw [fm_sub x9.2 y9.2, cmb_1])
  · refine r_iload_n d_Md_make_69 rfl ?_
    refine r_iconst (v := nI 3) d_Md_make_70 (by decide) ?_
    refine n_icmp_ne d_Md_make_71 (by omega) (by omega) (fun _ => ?_) (fun h9 => absurd h9 (by decide))
    refine r_iload_n d_Md_make_83 rfl ?_
    refine r_iconst (v := nI 4) d_Md_make_84 (by decide) ?_
    refine n_icmp_ne d_Md_make_85 (by omega) (by omega) (fun _ => ?_) (fun h9 => absurd h9 (by decide))
    refine r_iload_n d_Md_make_99 rfl ?_
    refine r_iconst (v := nI 2) d_Md_make_100 (by decide) ?_
    refine n_icmp_ge d_Md_make_101 (by omega) (by omega) (fun _ => ?_) (fun h9 => absurd h9 (by decide))
    refine r_iload_n d_Md_make_171 rfl ?_
    refine r_iconst (v := nI 2) d_Md_make_172 (by decide) ?_
    refine n_icmp_ne d_Md_make_173 (by omega) (by omega) (fun h9 => absurd h9 (by decide)) (fun _ => ?_)
    refine r_aload_n d_Md_make_176 rfl ?_
    refine g_getr (b := 443) d_Md_make_177 f_Md_72 rfl rfl rfl ?_
    refine r_aload_n d_Md_make_180 rfl ?_
    refine g_getr (b := 444) d_Md_make_181 f_Md_75 rfl rfl rfl ?_
    refine r_aload_n d_Md_make_184 rfl ?_
    refine g_getr (b := 445) d_Md_make_185 f_Md_78 rfl rfl rfl ?_
    refine r_aload_n d_Md_make_188 rfl ?_
    refine g_Vi (av := []) d_Md_make_189 k_Md_173 ws_Md_wide (by decide) rfl rfl (Nat.le_of_ble_eq_true rfl) rfl (c_Md_wide (hX2.sz)) ?_
    rintro _ _ ⟨rfl, rfl⟩
    refine g_Sv (av := [.ref 443, .ref 444, .ref 445, .int (nI (S.1 0 3))]) d_Md_make_192 k_Md_186 ws_Md_multiplies (by decide) rfl rfl (Nat.le_of_ble_eq_true rfl) (c_Md_multiplies (a := 443) (b := 444) (c := 445) rfl rfl rfl (by decide) (by decide) hs10 (up2.le hs10) (g4.le hs10)) ?_
    rintro M3 g5
    refine r_iload_n d_Md_make_195 rfl ?_
    refine r_iconst (v := nI 3) d_Md_make_196 (by decide) ?_
    refine n_icmp_ne d_Md_make_197 (by omega) (by omega) (fun _ => ?_) (fun h9 => absurd h9 (by decide))
    refine r_iload_n d_Md_make_219 rfl ?_
    refine r_iconst (v := nI 4) d_Md_make_220 (by decide) ?_
    refine n_icmp_ne d_Md_make_221 (by omega) (by omega) (fun _ => ?_) (fun h9 => absurd h9 (by decide))
    exact cx _ M3 _ (WK.w g5 (by decide)) g5.2 (fun j _ => (cmb_2 _ _ _ _).symm) ⟨by decide, fun q => absurd q (by decide), fun q => absurd q (by decide)⟩
  · refine r_iload_n d_Md_make_69 rfl ?_
    refine r_iconst (v := nI 3) d_Md_make_70 (by decide) ?_
    refine n_icmp_ne d_Md_make_71 (by omega) (by omega) (fun h9 => absurd h9 (by decide)) (fun _ => ?_)
    refine r_aload_n d_Md_make_74 rfl ?_
    refine g_getr (b := 444) d_Md_make_75 f_Md_75 rfl rfl rfl ?_
    refine r_iconst (v := nI 0) d_Md_make_78 (by decide) ?_
    refine g_iald d_Md_make_79 rfl (by omega) (by omega) ?_
    refine r_top (y := nI (y 0)) ((g4 0 (by omega)).1) ?_
    refine n_if_eq d_Md_make_80 (by have h9 := (g4 0 (by omega)).2; omega) (fun hy0 => ?_) (fun hy0 => ?_)
    · refine r_iconst (v := -1) d_Md_make_97 (by decide) ?_
      refine g_reti d_Md_make_98 rfl ?_
      exact PM.no hX2 hk2 (fun z => z.2.2.2.2.2.1 rfl hy0)
    · refine r_iload_n d_Md_make_83 rfl ?_
      refine r_iconst (v := nI 4) d_Md_make_84 (by decide) ?_
      refine n_icmp_ne d_Md_make_85 (by omega) (by omega) (fun _ => ?_) (fun h9 => absurd h9 (by decide))
      refine r_iload_n d_Md_make_99 rfl ?_
      refine r_iconst (v := nI 2) d_Md_make_100 (by decide) ?_
      refine n_icmp_ge d_Md_make_101 (by omega) (by omega) (fun _ => ?_) (fun h9 => absurd h9 (by decide))
      refine r_iload_n d_Md_make_171 rfl ?_
      refine r_iconst (v := nI 2) d_Md_make_172 (by decide) ?_
      refine n_icmp_ne d_Md_make_173 (by omega) (by omega) (fun _ => ?_) (fun h9 => absurd h9 (by decide))
      refine r_iload_n d_Md_make_195 rfl ?_
      refine r_iconst (v := nI 3) d_Md_make_196 (by decide) ?_
      refine n_icmp_ne d_Md_make_197 (by omega) (by omega) (fun h9 => absurd h9 (by decide)) (fun _ => ?_)
      refine r_aload_n d_Md_make_200 rfl ?_
      refine g_getr (b := 443) d_Md_make_201 f_Md_72 rfl rfl rfl ?_
      refine r_aload_n d_Md_make_204 rfl ?_
      refine g_getr (b := 444) d_Md_make_205 f_Md_75 rfl rfl rfl ?_
      refine r_aload_n d_Md_make_208 rfl ?_
      refine g_getr (b := 445) d_Md_make_209 f_Md_78 rfl rfl rfl ?_
      refine r_aload_n d_Md_make_212 rfl ?_
      refine g_Vi (av := []) d_Md_make_213 k_Md_173 ws_Md_wide (by decide) rfl rfl (Nat.le_of_ble_eq_true rfl) rfl (c_Md_wide (hX2.sz)) ?_
      rintro _ _ ⟨rfl, rfl⟩
      refine g_Sv (av := [.ref 443, .ref 444, .ref 445, .int (nI (S.1 0 3))]) d_Md_make_216 k_Md_133 ws_Md_divides (by decide) rfl rfl (Nat.le_of_ble_eq_true rfl) (c_Md_divides (a := 443) (b := 444) (c := 445) rfl rfl rfl (by decide) (by decide) (by omega) hs10 (up2.le hs10) (g4.le hs10)) ?_
      rintro M3 g5
      refine r_iload_n d_Md_make_219 rfl ?_
      refine r_iconst (v := nI 4) d_Md_make_220 (by decide) ?_
      refine n_icmp_ne d_Md_make_221 (by omega) (by omega) (fun _ => ?_) (fun h9 => absurd h9 (by decide))
      exact cx _ M3 _ (WK.w g5 (by decide)) g5.2 (fun j _ => (cmb_3 _ _ _ _).symm) ⟨by decide, fun _ => hy0, fun q => absurd q (by decide)⟩
  · refine r_iload_n d_Md_make_69 rfl ?_
    refine r_iconst (v := nI 3) d_Md_make_70 (by decide) ?_
    refine n_icmp_ne d_Md_make_71 (by omega) (by omega) (fun _ => ?_) (fun h9 => absurd h9 (by decide))
    refine r_iload_n d_Md_make_83 rfl ?_
    refine r_iconst (v := nI 4) d_Md_make_84 (by decide) ?_
    refine n_icmp_ne d_Md_make_85 (by omega) (by omega) (fun h9 => absurd h9 (by decide)) (fun _ => ?_)
    refine r_aload_n d_Md_make_88 rfl ?_
    refine g_getr (b := 444) d_Md_make_89 f_Md_75 rfl rfl rfl ?_
    refine r_iconst (v := nI 0) d_Md_make_92 (by decide) ?_
    refine g_iald d_Md_make_93 rfl (by omega) (by omega) ?_
    refine r_top (y := nI (y 0)) ((g4 0 (by omega)).1) ?_
    refine n_if_eq d_Md_make_94 (by have h9 := (g4 0 (by omega)).2; omega) (fun hy0 => ?_) (fun hy0 => ?_)
    · refine r_iload_n d_Md_make_99 rfl ?_
      refine r_iconst (v := nI 2) d_Md_make_100 (by decide) ?_
      refine n_icmp_ge d_Md_make_101 (by omega) (by omega) (fun _ => ?_) (fun h9 => absurd h9 (by decide))
      refine r_iload_n d_Md_make_171 rfl ?_
      refine r_iconst (v := nI 2) d_Md_make_172 (by decide) ?_
      refine n_icmp_ne d_Md_make_173 (by omega) (by omega) (fun _ => ?_) (fun h9 => absurd h9 (by decide))
      refine r_iload_n d_Md_make_195 rfl ?_
      refine r_iconst (v := nI 3) d_Md_make_196 (by decide) ?_
      refine n_icmp_ne d_Md_make_197 (by omega) (by omega) (fun _ => ?_) (fun h9 => absurd h9 (by decide))
      refine r_iload_n d_Md_make_219 rfl ?_
      refine r_iconst (v := nI 4) d_Md_make_220 (by decide) ?_
      refine n_icmp_ne d_Md_make_221 (by omega) (by omega) (fun h9 => absurd h9 (by decide)) (fun _ => ?_)
      refine r_aload_n d_Md_make_224 rfl ?_
      refine g_Vv (av := []) d_Md_make_225 k_Md_193 ws_Md_laysUnit (by decide) rfl rfl (Nat.le_of_ble_eq_true rfl) rfl (c_Md_laysUnit) ?_
      rintro M3 g5
      have w3 : WK M2 M3 := WK.w g5 (by decide)
      refine r_aload_n d_Md_make_228 rfl ?_
      refine r_aload_n d_Md_make_229 rfl ?_
      refine g_getr (b := 452) d_Md_make_230 f_Md_99 rfl rfl rfl ?_
      refine r_aload_n d_Md_make_233 rfl ?_
      refine g_getr (b := 444) d_Md_make_234 f_Md_75 rfl rfl rfl ?_
      refine r_aload_n d_Md_make_237 rfl ?_
      refine g_getr (b := 448) d_Md_make_238 f_Md_87 rfl rfl rfl ?_
      refine g_Vv (av := [.ref 452, .ref 444, .ref 448]) d_Md_make_241 k_Md_196 ws_Md_columns (by decide) rfl rfl (Nat.le_of_ble_eq_true rfl) rfl (c_Md_columns (c := 448) rfl rfl rfl (by decide) ⟨by decide, by decide, by decide⟩ (by decide) hs10 (w3.sz hX2.sz) (g5.ok (fun j _ => by unfold oneS; split <;> decide)) ((g4.kept (g5.1 444 (by decide))).le hs10)) ?_
      rintro M4 ⟨g6, g7⟩
      have w4 : WK M2 M4 := w3.trans (WK.of (fun b hb => g6 b (by omega) (by omega) (by omega)))
      refine r_aload_n d_Md_make_244 rfl ?_
      refine r_aload_n d_Md_make_245 rfl ?_
      refine g_getr (b := 448) d_Md_make_246 f_Md_87 rfl rfl rfl ?_
      refine r_aload_n d_Md_make_249 rfl ?_
      refine g_getr (b := 443) d_Md_make_250 f_Md_72 rfl rfl rfl ?_
      refine r_aload_n d_Md_make_253 rfl ?_
      refine g_getr (b := 445) d_Md_make_254 f_Md_78 rfl rfl rfl ?_
      refine g_Vv (av := [.ref 448, .ref 443, .ref 445]) d_Md_make_257 k_Md_200 ws_Md_makes (by decide) rfl rfl (Nat.le_of_ble_eq_true rfl) rfl (c_Md_makes (a := 448) (b := 443) (c := 445) (A := cm (S.1 0 3) oneS y) (x := x) rfl rfl rfl (by decide) (by decide) hs10 (w4.sz hX2.sz) (by decide) g7 ((up2.kept (by rw [g6 443 (by decide) (by decide) (by decide), g5.1 443 (by decide)])).le hs10)) ?_
      rintro M5 g8
      exact cx _ M5 _ (w4.trans (WK.w g8 (by decide))) g8.2 (fun j hj => by rw [cmb_4]; exact mk_one hy0 hj al hs10) ⟨by decide, fun q => absurd q (by decide), fun _ => hy0⟩
    · refine r_iconst (v := -1) d_Md_make_97 (by decide) ?_
      refine g_reti d_Md_make_98 rfl ?_
      exact PM.no hX2 hk2 (fun z => hy0 (z.2.2.2.2.2.2 rfl))
end C74
