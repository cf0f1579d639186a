noncomputable def f_pair (S : SS) (g f to : Int32) : Int32 × SS := ic (okS S g ∧ okS S f ∧ okT S to ∧ (S.1 (2 + ix g) 0 ≠ 0 ∧ S.1 (2 + ix f) 0 = 0 ∧ S.1 (2 + ix f) 1 ≠ 0)) (lndT S (ix to) (S.1 (2 + ix g)) (S.1 (2 + ix f))) (-1, S)
def gOf (S : SS) (t : Int32) : Nat → Nat := S.1 (21 + 3 * ix t)
def fOf (S : SS) (t : Int32) : Nat → Nat := S.1 (22 + 3 * ix t)
noncomputable def f_times (S : SS) (s t to : Int32) : Int32 × SS := ic (okT S s ∧ okT S t ∧ okT S to) (lndT S (ix to) (mulG (S.1 0 3) (gOf S s) (fOf S s) (gOf S t)) (mulF (S.1 0 3) (fOf S s) (fOf S t))) (-1, S)
noncomputable def f_power (S : SS) (t k to : Int32) : Int32 × SS := ic (okT S t ∧ okT S to ∧ (inN 10 k ∨ (k < 0 ∧ inN 10 (-k)))) (ic (k < 0) (lndT S (ix to) (pwr (S.1 0 3) (invG (S.1 0 3) (gOf S t) (fOf S t)) (rvs (fOf S t) (S.1 0 3)) (ix (-k))).1 (pwr (S.1 0 3) (invG (S.1 0 3) (gOf S t) (fOf S t)) (rvs (fOf S t) (S.1 0 3)) (ix (-k))).2) (lndT S (ix to) (pwr (S.1 0 3) (gOf S t) (fOf S t) (ix k)).1 (pwr (S.1 0 3) (gOf S t) (fOf S t) (ix k)).2)) (-1, S)
noncomputable def f_part (S : SS) (t w to : Int32) : Int32 × SS := ic (okT S t ∧ okS S to ∧ inN 4 w) (nI (prt (ix w) (S.1 0 3) (gOf S t) (fOf S t) 0), kp S (rowC S.1 (2 + ix to) (prt (ix w) (S.1 0 3) (gOf S t) (fOf S t)))) (-1, S)
noncomputable def f_apply (S : SS) (t s to : Int32) : Int32 × SS := ic (okT S t ∧ okS S s ∧ okS S to) (lndS S (ix to) (mulG (S.1 0 3) (gOf S t) (fOf S t) (S.1 (2 + ix s)))) (-1, S)
noncomputable def f_sums (S : SS) (t h to : Int32) : Int32 × SS := ic (okT S t ∧ okS S to ∧ inN 4 h) (lndS S (ix to) (fun j => sms (ix h) (col (S.1 0 3) (gOf S t) (fOf S t)) j (j + 1) % 1000003)) (-1, S)
noncomputable def f_kinds (S : SS) (t : Int32) : Int32 × SS := ic (okT S t) (nI (kin (S.1 0 3) (gOf S t) (fOf S t)), S) (-1, S)
noncomputable def f_differ (S : SS) (s t how : Int32) : Int32 × SS := ic (okT S s ∧ okT S t) (ic (how = 0) (fdv (S.1 0 3) (fun i j => col (S.1 0 3) (gOf S s) (fOf S s) j i ≠ col (S.1 0 3) (gOf S t) (fOf S t) j i)) (ic (how = nI 1) (fdv (S.1 0 3) (fun i j => col (S.1 0 3) (mulG (S.1 0 3) (gOf S s) (fOf S s) (gOf S t)) (mulF (S.1 0 3) (fOf S s) (fOf S t)) j i ≠ col (S.1 0 3) (mulG (S.1 0 3) (gOf S t) (fOf S t) (gOf S s)) (mulF (S.1 0 3) (fOf S t) (fOf S s)) j i)) (-1)), S) (-1, S)
noncomputable def f_fails (S : SS) (t a b : Int32) : Int32 × SS := ic (okT S t ∧ okS S a ∧ okS S b) (f1v (S.1 0 3) (fun i => mulG (S.1 0 3) (gOf S t) (fOf S t) (S.1 (2 + ix a)) i ≠ S.1 (2 + ix b) i), S) (-1, S)
def layC (C : Core) (g f : Nat → Nat) : Core := fun q j => if 10 ≤ q ∧ q < 10 + C 0 3 ∧ j ≤ q - 10 then col (C 0 3) g f j (q - 10) else C q j
noncomputable def f_lay (S : SS) (t : Int32) : Int32 × SS := ic (okT S t) (nI (kin (S.1 0 3) (gOf S t) (fOf S t)), kp S (layC S.1 (gOf S t) (fOf S t))) (-1, S)
noncomputable def rcg (S : SS) : Int32 := ic (S.1 10 0 = 0 ∨ S.1 11 1 = 0) (nI 100) (fdv (S.1 0 3) (fun i j => S.1 (10 + i) j ≠ col (S.1 0 3) (rcG (S.1 0 3) (fun i => S.1 (10 + i))) (rcF (S.1 0 3) (fun i => S.1 (10 + i))) j i))
noncomputable def f_unlike (S : SS) : Int32 × SS := ic (S.1 0 3 = 0) (nI 101, S) (rcg S, S)
noncomputable def f_rebuild (S : SS) (t : Int32) : Int32 × SS := ic (okT S t ∧ rcg S = -1) (lndT S (ix t) (rcG (S.1 0 3) (fun i => S.1 (10 + i))) (rcF (S.1 0 3) (fun i => S.1 (10 + i)))) (-1, S)
def nxs (x : Int32) : Int32 := x * 1103515245 + 12345
def dro (x : Int32) (n : Nat) : Nat := x.toUInt32.toNat / 256 % n
def drw (C : Core) (x : Int32) : Nat → Core
  | 0 => C
  | k + 1 => drw (setC C (2 + dro (nxs x) 6) (dro (nxs (nxs x)) (C 0 3)) (fm (nI (dro (nxs (nxs (nxs x))) 19) - nI 9))) (nxs (nxs (nxs x))) k
noncomputable def f_drawn (S : SS) (n x : Int32) : Int32 × SS := ic (inN 61 n ∧ 1 ≤ ix n) (ic (S.1 0 3 = 0) (nI 0, S) (nI (tot (drw S.1 x (ix n)) 6 % 1000003), kp S (drw S.1 x (ix n)))) (-1, S)
theorem dro_i (x : Int32) : (x.toUInt32 >>> ((nI 8).toUInt32 &&& Int32.toUInt32 31)).toInt32 = nI (x.toUInt32.toNat / 256) := by
  apply Int32.toBitVec_inj.mp
  apply BitVec.eq_of_toNat_eq
  have h : x.toUInt32.toNat < 2 ^ 32 := x.toUInt32.toNat_lt
  have e2 : (nI (x.toUInt32.toNat / 256)).toBitVec.toNat = x.toUInt32.toNat / 256 := by
    show (BitVec.ofNat 32 _).toNat = _
    rw [BitVec.toNat_ofNat, Nat.mod_eq_of_lt (by omega)]
  rw [e2]
  have e : ∀ x : UInt32, x.toInt32.toBitVec.toNat = x.toNat := fun x => rfl
  rw [e, UInt32.toNat_shiftRight, Nat.shiftRight_eq_div_pow]
  rfl
theorem le_lt1 {x : Int32} {k : Nat} (hk : k + 1 < 2 ^ 31) (h : x ≤ nI k) : x < nI (k + 1) := by
  rw [Int32.le_iff_toInt_le, toInt_nI (by omega)] at h
  rw [Int32.lt_iff_toInt_lt, toInt_nI hk]
  omega
section C46
variable {o : OM} {l : Launch} {n : Nat} {M : Mem} {S : SS}
theorem c_X_landTable {to : Nat} {g f : Nat → Nat} (hW : WS S) (hX : XR M S) (h0 : 0 < S.1 0 3) (hto : to < 4) (hT : TbA M 398 g f) : CI o l m_X_landTable n [.ref 0, .int (nI to)] M (PX M (lndT S to g f)) := by
  refine ci_of rfl rfl rfl (Nat.le_of_ble_eq_true rfl) ?_
  obtain ⟨x1, ⟨nx, x2⟩, x3, x4, x8⟩ := id hX
  obtain ⟨hs2, hs10⟩ := hW.sz h0
  have tt := t_tab hto
  refine r_aload_n d_X_landTable_0 rfl ?_
  refine g_getr (b := 69) d_X_landTable_1 f_X_31 rfl rfl rfl ?_
  refine r_aload_n d_X_landTable_4 rfl ?_
  refine g_getr (b := 37) d_X_landTable_5 f_X_24 rfl rfl rfl ?_
  refine g_Vv (av := [.ref 37]) d_X_landTable_8 k_X_116 ws_Hi_keep (by decide) rfl rfl (Nat.le_of_ble_eq_true rfl) rfl (c_Hi_keep x1 x2) ?_
  rintro M1 ⟨k1, k2⟩
  have x1' : StA M1 37 S.1 := x1.kept (fun z z1 z2 => k2 z (by omega))
  refine r_aload_n d_X_landTable_11 rfl ?_
  refine g_getr (b := 37) d_X_landTable_12 f_X_24 rfl rfl rfl ?_
  refine g_getr (b := 45) d_X_landTable_15 f_X_171 rfl rfl rfl ?_
  refine r_iload_n d_X_landTable_18 rfl ?_
  refine g_aald (b := (57+3*to)) (t := 7) (N := 4) d_X_landTable_19 rfl (by decide) (by omega) (by omega) (g_tab hto) ?_
  refine r_aload_n d_X_landTable_20 rfl ?_
  refine g_getr (b := 397) d_X_landTable_21 f_X_53 rfl rfl rfl ?_
  refine g_getr (b := 398) d_X_landTable_24 f_X_155 rfl rfl rfl ?_
  refine g_Vv (av := [.ref 398]) d_X_landTable_27 k_X_248 ws_Ta_copyFrom (by decide) rfl rfl (Nat.le_of_ble_eq_true rfl) (by rw [tt.1]) (c_Ta_copyFrom tt isTb_398 (by omega)) ?_
  rintro M2 ⟨k3, k4⟩
  have hT2 : TbA M2 (57 + 3 * to) g f := ⟨fun j hj => ⟨by rw [(k3 j hj).1, k2 _ (by omega)]; exact (hT.1 j hj).1, (hT.1 j hj).2⟩, fun j hj => ⟨by rw [(k3 j hj).2, k2 _ (by omega)]; exact (hT.2 j hj).1, (hT.2 j hj).2⟩⟩
  have s2 : M2 37 3 = nI (S.1 0 3) := by rw [k4 37 (by omega)]; exact x1'.1
  refine r_aload_n d_X_landTable_30 rfl ?_
  refine g_getr (b := 397) d_X_landTable_31 f_X_53 rfl rfl rfl ?_
  refine r_aload_n d_X_landTable_34 rfl ?_
  refine g_getr (b := 37) d_X_landTable_35 f_X_24 rfl rfl rfl ?_
  refine g_getr (b := 45) d_X_landTable_38 f_X_171 rfl rfl rfl ?_
  refine r_iload_n d_X_landTable_41 rfl ?_
  refine g_aald (b := (57+3*to)) (t := 7) (N := 4) d_X_landTable_42 rfl (by decide) (by omega) (by omega) (g_tab hto) ?_
  refine r_aload_n d_X_landTable_43 rfl ?_
  refine g_getr (b := 37) d_X_landTable_44 f_X_24 rfl rfl rfl ?_
  refine g_geti d_X_landTable_47 f_X_99 rfl rfl ?_
  refine r_top (y := (nI (S.1 0 3))) (s2) ?_
  refine r_iconst (v := nI 1) d_X_landTable_50 (by decide) ?_
  refine n_isub d_X_landTable_51 (by omega) ?_
  refine r_iconst (v := nI 1) d_X_landTable_52 (by decide) ?_
  refine r_aload_n d_X_landTable_53 rfl ?_
  refine g_getr (b := 37) d_X_landTable_54 f_X_24 rfl rfl rfl ?_
  refine g_geti d_X_landTable_57 f_X_99 rfl rfl ?_
  refine r_top (y := (nI (S.1 0 3))) (s2) ?_
  refine g_Vi (av := [.ref (57+3*to), .int (nI ((S.1 0 3) - 1)), .int (nI 1), .int (nI (S.1 0 3))]) d_X_landTable_60 k_X_175 ws_Tb_entryOf (by decide) rfl rfl (Nat.le_of_ble_eq_true rfl) rfl (c_Tb_entryOf tt hs2 hs10 (by omega) (by decide) (by omega) hT2) ?_
  rintro r M3 ⟨rfl, k5, k6⟩
  refine g_reti d_X_landTable_63 rfl ?_
  have y1 : StA M3 37 (tabC S.1 to g f) := by
    refine ⟨by rw [k5 _ (by omega), s2, tabC, if_neg (by omega), if_neg (by omega)], fun q hq j hj => ?_⟩
    have hq2 : q < 32 := by unfold rIx at hq; omega
    rw [k5 _ (by omega)]
    unfold tabC
    by_cases e : q = 21 + 3 * to
    · rw [if_pos e, e, show 37 + (21 + 3 * to) = 57 + 3 * to + 1 by omega]
      exact (hT2.1 j hj).1
    · rw [if_neg e]
      by_cases e2 : q = 22 + 3 * to
      · rw [if_pos e2, e2, show 37 + (22 + 3 * to) = 57 + 3 * to + 2 by omega]
        exact (hT2.2 j hj).1
      · rw [if_neg e2, k4 _ (by omega)]
        exact x1'.2 q hq j hj
  have y2 := hX.act k1 k2 y1 (fun z z1 z2 => by rw [k5 z (by omega), k4 z (by omega)]) ⟨fun b b1 b2 b3 => by
    by_cases e : b = 407
    · subst e; exact k6
    · exact (x8.1 b b1 b2 b3).kept (by rw [k5 b (by omega), k4 b (by omega), k2 b (by omega)]), x8.2.kept (by rw [k5 36 (by omega), k4 36 (by omega), k2 36 (by omega)])⟩
  exact ⟨rfl, y2.1, y2.2⟩
theorem c_X_pair {g f to : Int32} (hW : WS S) (hX : XR M S) : CI o l m_X_pair n [.ref 0, .int g, .int f, .int to] M (PX M (f_pair S g f to)) := by
  refine ci_of rfl rfl rfl (Nat.le_of_ble_eq_true rfl) ?_
  have x8 := hX.2.2.2.2
  refine r_aload_n d_X_pair_0 rfl ?_
  refine r_iload_n d_X_pair_1 rfl ?_
  by_cases hg1 : okS S g
  case neg =>
    refine g_Vi (av := [.int g]) d_X_pair_2 k_X_105 ws_X_isSeries (by decide) rfl rfl (Nat.le_of_ble_eq_true rfl) rfl (c_X_isSeries_f hW hX hg1) ?_
    rintro _ _ ⟨rfl, rfl⟩
    refine n_if_eq d_X_pair_5 (by omega) (fun _ => ?_) (fun h9 => absurd h9 (by decide))
    refine r_iconst (v := -1) d_X_pair_24 (by decide) ?_
    refine g_reti d_X_pair_25 rfl ?_
    exact PX.no hX (fun q9 => hg1 q9.1)
  refine g_Vi (av := [.int g]) d_X_pair_2 k_X_105 ws_X_isSeries (by decide) rfl rfl (Nat.le_of_ble_eq_true rfl) rfl (c_X_isSeries_t hW hX hg1) ?_
  rintro _ _ ⟨rfl, rfl⟩
  refine n_if_eq d_X_pair_5 (by omega) (fun h9 => absurd h9 (by decide)) (fun _ => ?_)
  refine r_aload_n d_X_pair_8 rfl ?_
  refine r_iload_n d_X_pair_9 rfl ?_
  by_cases hg2 : okS S f
  case neg =>
    refine g_Vi (av := [.int f]) d_X_pair_10 k_X_105 ws_X_isSeries (by decide) rfl rfl (Nat.le_of_ble_eq_true rfl) rfl (c_X_isSeries_f hW hX hg2) ?_
    rintro _ _ ⟨rfl, rfl⟩
    refine n_if_eq d_X_pair_13 (by omega) (fun _ => ?_) (fun h9 => absurd h9 (by decide))
    refine r_iconst (v := -1) d_X_pair_24 (by decide) ?_
    refine g_reti d_X_pair_25 rfl ?_
    exact PX.no hX (fun q9 => hg2 q9.2.1)
  refine g_Vi (av := [.int f]) d_X_pair_10 k_X_105 ws_X_isSeries (by decide) rfl rfl (Nat.le_of_ble_eq_true rfl) rfl (c_X_isSeries_t hW hX hg2) ?_
  rintro _ _ ⟨rfl, rfl⟩
  refine n_if_eq d_X_pair_13 (by omega) (fun h9 => absurd h9 (by decide)) (fun _ => ?_)
  refine r_aload_n d_X_pair_16 rfl ?_
  refine r_iload_n d_X_pair_17 rfl ?_
  by_cases hg3 : okT S to
  case neg =>
    refine g_Vi (av := [.int to]) d_X_pair_18 k_X_146 ws_X_isTable (by decide) rfl rfl (Nat.le_of_ble_eq_true rfl) rfl (c_X_isTable_f hW hX hg3) ?_
    rintro _ _ ⟨rfl, rfl⟩
    refine n_if_ne d_X_pair_21 (by omega) (fun h9 => absurd h9 (by decide)) (fun _ => ?_)
    refine r_iconst (v := -1) d_X_pair_24 (by decide) ?_
    refine g_reti d_X_pair_25 rfl ?_
    exact PX.no hX (fun q9 => hg3 q9.2.2.1)
  refine g_Vi (av := [.int to]) d_X_pair_18 k_X_146 ws_X_isTable (by decide) rfl rfl (Nat.le_of_ble_eq_true rfl) rfl (c_X_isTable_t hW hX hg3) ?_
  rintro _ _ ⟨rfl, rfl⟩
  refine n_if_ne d_X_pair_21 (by omega) (fun _ => ?_) (fun h9 => absurd h9 (by decide))
  have q1 := hg1
  have q2 := hg2
  have q3 := hg3
  rw [f_pair]
  obtain ⟨h0, ha1, ha2⟩ := hg1
  obtain ⟨_, hb1, hb2⟩ := hg2
  obtain ⟨_, ht1, ht2⟩ := hg3
  generalize ix g = a' at *
  subst ha2
  generalize ix f = b' at *
  subst hb2
  generalize ix to = t' at *
  subst ht2
  refine r_aload_n d_X_pair_26 rfl ?_
  refine g_getr (b := 37) d_X_pair_27 f_X_24 rfl rfl rfl ?_
  refine g_getr (b := 38) d_X_pair_30 f_X_112 rfl rfl rfl ?_
  refine r_iload_n d_X_pair_33 rfl ?_
  refine g_aald (b := (39+a')) (t := 5) (N := 6) d_X_pair_34 rfl (by decide) (by omega) (by omega) (g_ser ha1) ?_
  refine r_aload_n d_X_pair_35 rfl ?_
  refine g_getr (b := 37) d_X_pair_36 f_X_24 rfl rfl rfl ?_
  refine g_getr (b := 38) d_X_pair_39 f_X_112 rfl rfl rfl ?_
  refine r_iload_n d_X_pair_42 rfl ?_
  refine g_aald (b := (39+b')) (t := 5) (N := 6) d_X_pair_43 rfl (by decide) (by omega) (by omega) (g_ser hb1) ?_
  refine g_Si (av := [.ref (39+a'), .ref (39+b')]) d_X_pair_44 k_X_149 ws_Rw_makeTable (by decide) rfl rfl (Nat.le_of_ble_eq_true rfl) (c_Rw_makeTable (t_ser ha1) (t_ser hb1) (hX.row hW ha1) (hX.row hW hb1)) ?_
  rintro r _ ⟨⟨rfl, k1⟩ | ⟨rfl, k1⟩, rfl⟩
  · rw [ic_t ⟨q1, q2, q3, k1⟩]
    refine n_if_ne d_X_pair_47 (by omega) (fun _ => ?_) (fun h9 => absurd h9 (by decide))
    refine r_aload_n d_X_pair_52 rfl ?_
    refine g_getr (b := 397) d_X_pair_53 f_X_53 rfl rfl rfl ?_
    refine g_getr (b := 398) d_X_pair_56 f_X_155 rfl rfl rfl ?_
    refine r_aload_n d_X_pair_59 rfl ?_
    refine g_getr (b := 37) d_X_pair_60 f_X_24 rfl rfl rfl ?_
    refine g_getr (b := 38) d_X_pair_63 f_X_112 rfl rfl rfl ?_
    refine r_iload_n d_X_pair_66 rfl ?_
    refine g_aald (b := (39+a')) (t := 5) (N := 6) d_X_pair_67 rfl (by decide) (by omega) (by omega) (g_ser ha1) ?_
    refine r_aload_n d_X_pair_68 rfl ?_
    refine g_getr (b := 37) d_X_pair_69 f_X_24 rfl rfl rfl ?_
    refine g_getr (b := 38) d_X_pair_72 f_X_112 rfl rfl rfl ?_
    refine r_iload_n d_X_pair_75 rfl ?_
    refine g_aald (b := (39+b')) (t := 5) (N := 6) d_X_pair_76 rfl (by decide) (by omega) (by omega) (g_ser hb1) ?_
    refine g_Vv (av := [.ref (39+a'), .ref (39+b')]) d_X_pair_77 k_X_158 ws_Ta_become (by decide) rfl rfl (Nat.le_of_ble_eq_true rfl) rfl (c_Ta_become isTb_398 (t_ser ha1) (t_ser hb1) (by omega)) ?_
    rintro M1 ⟨k2, k3⟩
    have hT : TbA M1 398 (S.1 (2 + a')) (S.1 (2 + b')) := ⟨fun j hj => ⟨by rw [(k2 j hj).1]; exact (hX.row hW ha1 j hj).1, (hX.row hW ha1 j hj).2⟩, fun j hj => ⟨by rw [(k2 j hj).2]; exact (hX.row hW hb1 j hj).1, (hX.row hW hb1 j hj).2⟩⟩
    have hB1 := BF.tab x8 k3 (by decide) (by decide) hT
    refine r_aload_n d_X_pair_80 rfl ?_
    refine r_iload_n d_X_pair_81 rfl ?_
    refine g_Vi (av := [.int (nI t')]) d_X_pair_82 k_X_164 ws_X_landTable (by decide) rfl rfl (Nat.le_of_ble_eq_true rfl) rfl (c_X_landTable hW (hX.bf hB1) h0 ht1 hT) ?_
    rintro r M2 k4
    refine g_reti d_X_pair_85 rfl ?_
    exact k4.bf hB1
  · refine n_if_ne d_X_pair_47 (by omega) (fun h9 => absurd h9 (by decide)) (fun _ => ?_)
    refine r_iconst (v := -1) d_X_pair_50 (by decide) ?_
    refine g_reti d_X_pair_51 rfl ?_
    exact PX.no hX (fun z => k1 z.2.2.2)
theorem c_X_times {s t to : Int32} (hW : WS S) (hX : XR M S) : CI o l m_X_times n [.ref 0, .int s, .int t, .int to] M (PX M (f_times S s t to)) := by
  refine ci_of rfl rfl rfl (Nat.le_of_ble_eq_true rfl) ?_
  have x8 := hX.2.2.2.2
  refine r_aload_n d_X_times_0 rfl ?_
  refine r_iload_n d_X_times_1 rfl ?_
  by_cases hg1 : okT S s
  case neg =>
    refine g_Vi (av := [.int s]) d_X_times_2 k_X_146 ws_X_isTable (by decide) rfl rfl (Nat.le_of_ble_eq_true rfl) rfl (c_X_isTable_f hW hX hg1) ?_
    rintro _ _ ⟨rfl, rfl⟩
    refine n_if_eq d_X_times_5 (by omega) (fun _ => ?_) (fun h9 => absurd h9 (by decide))
    refine r_iconst (v := -1) d_X_times_24 (by decide) ?_
    refine g_reti d_X_times_25 rfl ?_
    exact PX.no hX (fun q9 => hg1 q9.1)
  refine g_Vi (av := [.int s]) d_X_times_2 k_X_146 ws_X_isTable (by decide) rfl rfl (Nat.le_of_ble_eq_true rfl) rfl (c_X_isTable_t hW hX hg1) ?_
  rintro _ _ ⟨rfl, rfl⟩
  refine n_if_eq d_X_times_5 (by omega) (fun h9 => absurd h9 (by decide)) (fun _ => ?_)
  refine r_aload_n d_X_times_8 rfl ?_
  refine r_iload_n d_X_times_9 rfl ?_
  by_cases hg2 : okT S t
  case neg =>
    refine g_Vi (av := [.int t]) d_X_times_10 k_X_146 ws_X_isTable (by decide) rfl rfl (Nat.le_of_ble_eq_true rfl) rfl (c_X_isTable_f hW hX hg2) ?_
    rintro _ _ ⟨rfl, rfl⟩
    refine n_if_eq d_X_times_13 (by omega) (fun _ => ?_) (fun h9 => absurd h9 (by decide))
    refine r_iconst (v := -1) d_X_times_24 (by decide) ?_
    refine g_reti d_X_times_25 rfl ?_
    exact PX.no hX (fun q9 => hg2 q9.2.1)
  refine g_Vi (av := [.int t]) d_X_times_10 k_X_146 ws_X_isTable (by decide) rfl rfl (Nat.le_of_ble_eq_true rfl) rfl (c_X_isTable_t hW hX hg2) ?_
  rintro _ _ ⟨rfl, rfl⟩
  refine n_if_eq d_X_times_13 (by omega) (fun h9 => absurd h9 (by decide)) (fun _ => ?_)
  refine r_aload_n d_X_times_16 rfl ?_
  refine r_iload_n d_X_times_17 rfl ?_
  by_cases hg3 : okT S to
  case neg =>
    refine g_Vi (av := [.int to]) d_X_times_18 k_X_146 ws_X_isTable (by decide) rfl rfl (Nat.le_of_ble_eq_true rfl) rfl (c_X_isTable_f hW hX hg3) ?_
    rintro _ _ ⟨rfl, rfl⟩
    refine n_if_ne d_X_times_21 (by omega) (fun h9 => absurd h9 (by decide)) (fun _ => ?_)
    refine r_iconst (v := -1) d_X_times_24 (by decide) ?_
    refine g_reti d_X_times_25 rfl ?_
    exact PX.no hX (fun q9 => hg3 q9.2.2)
  refine g_Vi (av := [.int to]) d_X_times_18 k_X_146 ws_X_isTable (by decide) rfl rfl (Nat.le_of_ble_eq_true rfl) rfl (c_X_isTable_t hW hX hg3) ?_
  rintro _ _ ⟨rfl, rfl⟩
  refine n_if_ne d_X_times_21 (by omega) (fun _ => ?_) (fun h9 => absurd h9 (by decide))
  rw [f_times, ic_t ⟨hg1, hg2, hg3⟩]
  unfold gOf fOf
  obtain ⟨h0, ha1, ha2⟩ := hg1
  obtain ⟨_, hb1, hb2⟩ := hg2
  obtain ⟨_, ht1, ht2⟩ := hg3
  obtain ⟨z1, z2⟩ := hW.sz h0
  generalize ix s = a' at *
  subst ha2
  generalize ix t = b' at *
  subst hb2
  generalize ix to = t' at *
  subst ht2
  refine r_aload_n d_X_times_26 rfl ?_
  refine g_getr (b := 37) d_X_times_27 f_X_24 rfl rfl rfl ?_
  refine g_getr (b := 45) d_X_times_30 f_X_171 rfl rfl rfl ?_
  refine r_iload_n d_X_times_33 rfl ?_
  refine g_aald (b := (57+3*a')) (t := 7) (N := 4) d_X_times_34 rfl (by decide) (by omega) (by omega) (g_tab ha1) ?_
  refine r_aload_n d_X_times_35 rfl ?_
  refine g_getr (b := 37) d_X_times_36 f_X_24 rfl rfl rfl ?_
  refine g_getr (b := 45) d_X_times_39 f_X_171 rfl rfl rfl ?_
  refine r_iload_n d_X_times_42 rfl ?_
  refine g_aald (b := (57+3*b')) (t := 7) (N := 4) d_X_times_43 rfl (by decide) (by omega) (by omega) (g_tab hb1) ?_
  refine r_aload_n d_X_times_44 rfl ?_
  refine g_getr (b := 37) d_X_times_45 f_X_24 rfl rfl rfl ?_
  refine g_geti d_X_times_48 f_X_99 rfl rfl ?_
  refine r_top (y := (nI (S.1 0 3))) (hX.1.1) ?_
  refine r_aload_n d_X_times_51 rfl ?_
  refine g_getr (b := 397) d_X_times_52 f_X_53 rfl rfl rfl ?_
  refine g_getr (b := 398) d_X_times_55 f_X_155 rfl rfl rfl ?_
  refine g_Sv (av := [.ref (57+3*a'), .ref (57+3*b'), .int (nI (S.1 0 3)), .ref 398]) d_X_times_58 k_X_179 ws_Tb_multiply (by decide) rfl rfl (Nat.le_of_ble_eq_true rfl) (c_Tb_multiply (t_tab ha1) (t_tab hb1) isTb_398 z1 z2 (by omega) (by omega) (hX.tab hW ha1) (hX.tab hW hb1)) ?_
  rintro M1 ⟨k1, k2⟩
  have hB1 := BF.tab x8 k2 (by decide) (by decide) k1
  refine r_aload_n d_X_times_61 rfl ?_
  refine r_iload_n d_X_times_62 rfl ?_
  refine g_Vi (av := [.int (nI t')]) d_X_times_63 k_X_164 ws_X_landTable (by decide) rfl rfl (Nat.le_of_ble_eq_true rfl) rfl (c_X_landTable hW (hX.bf hB1) h0 ht1 k1) ?_
  rintro r M2 k4
  refine g_reti d_X_times_66 rfl ?_
  exact k4.bf hB1
theorem c_X_part {t w to : Int32} (hW : WS S) (hX : XR M S) : CI o l m_X_part n [.ref 0, .int t, .int w, .int to] M (PX M (f_part S t w to)) := by
  refine ci_of rfl rfl rfl (Nat.le_of_ble_eq_true rfl) ?_
  have x8 := hX.2.2.2.2
  refine r_aload_n d_X_part_0 rfl ?_
  refine r_iload_n d_X_part_1 rfl ?_
  by_cases hg1 : okT S t
  case neg =>
    refine g_Vi (av := [.int t]) d_X_part_2 k_X_146 ws_X_isTable (by decide) rfl rfl (Nat.le_of_ble_eq_true rfl) rfl (c_X_isTable_f hW hX hg1) ?_
    rintro _ _ ⟨rfl, rfl⟩
    refine n_if_eq d_X_part_5 (by omega) (fun _ => ?_) (fun h9 => absurd h9 (by decide))
    refine r_iconst (v := -1) d_X_part_16 (by decide) ?_
    refine g_reti d_X_part_17 rfl ?_
    exact PX.no hX (fun q9 => hg1 q9.1)
  refine g_Vi (av := [.int t]) d_X_part_2 k_X_146 ws_X_isTable (by decide) rfl rfl (Nat.le_of_ble_eq_true rfl) rfl (c_X_isTable_t hW hX hg1) ?_
  rintro _ _ ⟨rfl, rfl⟩
  refine n_if_eq d_X_part_5 (by omega) (fun h9 => absurd h9 (by decide)) (fun _ => ?_)
  refine r_aload_n d_X_part_8 rfl ?_
  refine r_iload_n d_X_part_9 rfl ?_
  by_cases hg2 : okS S to
  case neg =>
    refine g_Vi (av := [.int to]) d_X_part_10 k_X_105 ws_X_isSeries (by decide) rfl rfl (Nat.le_of_ble_eq_true rfl) rfl (c_X_isSeries_f hW hX hg2) ?_
    rintro _ _ ⟨rfl, rfl⟩
    refine n_if_ne d_X_part_13 (by omega) (fun h9 => absurd h9 (by decide)) (fun _ => ?_)
    refine r_iconst (v := -1) d_X_part_16 (by decide) ?_
    refine g_reti d_X_part_17 rfl ?_
    exact PX.no hX (fun q9 => hg2 q9.2.1)
  refine g_Vi (av := [.int to]) d_X_part_10 k_X_105 ws_X_isSeries (by decide) rfl rfl (Nat.le_of_ble_eq_true rfl) rfl (c_X_isSeries_t hW hX hg2) ?_
  rintro _ _ ⟨rfl, rfl⟩
  refine n_if_ne d_X_part_13 (by omega) (fun _ => ?_) (fun h9 => absurd h9 (by decide))
  have q1 := hg1
  have q3 := hg2
  rw [f_part]
  unfold gOf fOf
  obtain ⟨h0, ha1, ha2⟩ := hg1
  obtain ⟨_, ht1, ht2⟩ := hg2
  obtain ⟨z1, z2⟩ := hW.sz h0
  generalize ix t = a' at *
  subst ha2
  generalize ix to = t' at *
  subst ht2
  refine r_aload_n d_X_part_18 rfl ?_
  refine g_getr (b := 397) d_X_part_19 f_X_53 rfl rfl rfl ?_
  refine r_aload_n d_X_part_22 rfl ?_
  refine g_getr (b := 37) d_X_part_23 f_X_24 rfl rfl rfl ?_
  refine g_getr (b := 45) d_X_part_26 f_X_171 rfl rfl rfl ?_
  refine r_iload_n d_X_part_29 rfl ?_
  refine g_aald (b := (57+3*a')) (t := 7) (N := 4) d_X_part_30 rfl (by decide) (by omega) (by omega) (g_tab ha1) ?_
  refine r_iload_n d_X_part_31 rfl ?_
  refine r_aload_n d_X_part_32 rfl ?_
  refine g_getr (b := 37) d_X_part_33 f_X_24 rfl rfl rfl ?_
  refine g_geti d_X_part_36 f_X_99 rfl rfl ?_
  refine r_top (y := (nI (S.1 0 3))) (hX.1.1) ?_
  refine g_Vi (av := [.ref (57+3*a'), .int w, .int (nI (S.1 0 3))]) d_X_part_39 k_X_187 ws_Tb_partOf (by decide) rfl rfl (Nat.le_of_ble_eq_true rfl) rfl (c_Tb_partOf (t_tab ha1) z1 z2 (by omega) x8 (hX.tab hW ha1)) ?_
  rintro r M1 ⟨hB1, ⟨h, rfl, k2, rfl, k3⟩ | ⟨k2, rfl⟩⟩
  · have hh : ix (nI h) = h := ix_nI (by omega)
    rw [ic_t ⟨q1, q3, by rw [hh]; omega, by rw [hh]⟩, hh]
    refine n_if_ne d_X_part_42 (by omega) (fun _ => ?_) (fun h9 => absurd h9 (by decide))
    refine r_aload_n d_X_part_47 rfl ?_
    refine r_aload_n d_X_part_48 rfl ?_
    refine g_getr (b := 397) d_X_part_49 f_X_53 rfl rfl rfl ?_
    refine g_getr (b := 407) d_X_part_52 f_X_191 rfl rfl rfl ?_
    refine r_iload_n d_X_part_55 rfl ?_
    refine g_Vi (av := [.ref 407, .int (nI t')]) d_X_part_56 k_X_134 ws_X_landSeries (by decide) rfl rfl (Nat.le_of_ble_eq_true rfl) rfl (c_X_landSeries hW (hX.bf hB1) h0 rfl (by decide) ht1 k3) ?_
    rintro r M2 k4
    have k5 := k4.2.1.1.2 (2 + t') (Or.inl ⟨by omega, by omega⟩) 0 (by decide)
    rw [show 37 + (2 + t') = 39 + t' by omega] at k5
    refine r_pop d_X_part_59 rfl ?_
    refine r_aload_n d_X_part_60 rfl ?_
    refine g_getr (b := 37) d_X_part_61 f_X_24 rfl rfl rfl ?_
    refine g_getr (b := 38) d_X_part_64 f_X_112 rfl rfl rfl ?_
    refine r_iload_n d_X_part_67 rfl ?_
    refine g_aald (b := (39+t')) (t := 5) (N := 6) d_X_part_68 rfl (by decide) (by omega) (by omega) (g_ser ht1) ?_
    refine r_iconst (v := nI 0) d_X_part_69 (by decide) ?_
    refine g_iald d_X_part_70 (t_ser ht1) (by omega) (by omega) ?_
    refine r_top (y := nI (rowC S.1 (2 + t') (prt h (S.1 0 3) (S.1 (21 + 3 * a')) (S.1 (22 + 3 * a'))) (2 + t') 0)) (k5) ?_
    refine g_reti d_X_part_71 rfl ?_
    refine ⟨?_, k4.2.1, hB1.kx.trans k4.2.2⟩
    rw [rowC, if_pos ⟨rfl, h0⟩]
  · refine n_if_ne d_X_part_42 (by omega) (fun h9 => absurd h9 (by decide)) (fun _ => ?_)
    refine r_iconst (v := -1) d_X_part_45 (by decide) ?_
    refine g_reti d_X_part_46 rfl ?_
    exact (PX.no (hX.bf hB1) (fun z => by have a1 := k2 _ z.2.2.2; have a2 := z.2.2.1; omega)).bf hB1
theorem c_X_apply {t s to : Int32} (hW : WS S) (hX : XR M S) : CI o l m_X_apply n [.ref 0, .int t, .int s, .int to] M (PX M (f_apply S t s to)) := by
  refine ci_of rfl rfl rfl (Nat.le_of_ble_eq_true rfl) ?_
  have x8 := hX.2.2.2.2
  refine r_aload_n d_X_apply_0 rfl ?_
  refine r_iload_n d_X_apply_1 rfl ?_
  by_cases hg1 : okT S t
  case neg =>
    refine g_Vi (av := [.int t]) d_X_apply_2 k_X_146 ws_X_isTable (by decide) rfl rfl (Nat.le_of_ble_eq_true rfl) rfl (c_X_isTable_f hW hX hg1) ?_
    rintro _ _ ⟨rfl, rfl⟩
    refine n_if_eq d_X_apply_5 (by omega) (fun _ => ?_) (fun h9 => absurd h9 (by decide))
    refine r_iconst (v := -1) d_X_apply_24 (by decide) ?_
    refine g_reti d_X_apply_25 rfl ?_
    exact PX.no hX (fun q9 => hg1 q9.1)
  refine g_Vi (av := [.int t]) d_X_apply_2 k_X_146 ws_X_isTable (by decide) rfl rfl (Nat.le_of_ble_eq_true rfl) rfl (c_X_isTable_t hW hX hg1) ?_
  rintro _ _ ⟨rfl, rfl⟩
  refine n_if_eq d_X_apply_5 (by omega) (fun h9 => absurd h9 (by decide)) (fun _ => ?_)
  refine r_aload_n d_X_apply_8 rfl ?_
  refine r_iload_n d_X_apply_9 rfl ?_
  by_cases hg2 : okS S s
  case neg =>
    refine g_Vi (av := [.int s]) d_X_apply_10 k_X_105 ws_X_isSeries (by decide) rfl rfl (Nat.le_of_ble_eq_true rfl) rfl (c_X_isSeries_f hW hX hg2) ?_
    rintro _ _ ⟨rfl, rfl⟩
    refine n_if_eq d_X_apply_13 (by omega) (fun _ => ?_) (fun h9 => absurd h9 (by decide))
    refine r_iconst (v := -1) d_X_apply_24 (by decide) ?_
    refine g_reti d_X_apply_25 rfl ?_
    exact PX.no hX (fun q9 => hg2 q9.2.1)
  refine g_Vi (av := [.int s]) d_X_apply_10 k_X_105 ws_X_isSeries (by decide) rfl rfl (Nat.le_of_ble_eq_true rfl) rfl (c_X_isSeries_t hW hX hg2) ?_
  rintro _ _ ⟨rfl, rfl⟩
  refine n_if_eq d_X_apply_13 (by omega) (fun h9 => absurd h9 (by decide)) (fun _ => ?_)
  refine r_aload_n d_X_apply_16 rfl ?_
  refine r_iload_n d_X_apply_17 rfl ?_
  by_cases hg3 : okS S to
  case neg =>
    refine g_Vi (av := [.int to]) d_X_apply_18 k_X_105 ws_X_isSeries (by decide) rfl rfl (Nat.le_of_ble_eq_true rfl) rfl (c_X_isSeries_f hW hX hg3) ?_
    rintro _ _ ⟨rfl, rfl⟩
    refine n_if_ne d_X_apply_21 (by omega) (fun h9 => absurd h9 (by decide)) (fun _ => ?_)
    refine r_iconst (v := -1) d_X_apply_24 (by decide) ?_
    refine g_reti d_X_apply_25 rfl ?_
    exact PX.no hX (fun q9 => hg3 q9.2.2)
  refine g_Vi (av := [.int to]) d_X_apply_18 k_X_105 ws_X_isSeries (by decide) rfl rfl (Nat.le_of_ble_eq_true rfl) rfl (c_X_isSeries_t hW hX hg3) ?_
  rintro _ _ ⟨rfl, rfl⟩
  refine n_if_ne d_X_apply_21 (by omega) (fun _ => ?_) (fun h9 => absurd h9 (by decide))
  rw [f_apply, ic_t ⟨hg1, hg2, hg3⟩]
  unfold gOf fOf
  obtain ⟨h0, ha1, ha2⟩ := hg1
  obtain ⟨_, hb1, hb2⟩ := hg2
  obtain ⟨_, ht1, ht2⟩ := hg3
  obtain ⟨z1, z2⟩ := hW.sz h0
  generalize ix t = a' at *
  subst ha2
  generalize ix s = b' at *
  subst hb2
  generalize ix to = t' at *
  subst ht2
  refine r_aload_n d_X_apply_26 rfl ?_
  refine g_getr (b := 397) d_X_apply_27 f_X_53 rfl rfl rfl ?_
  refine r_aload_n d_X_apply_30 rfl ?_
  refine g_getr (b := 37) d_X_apply_31 f_X_24 rfl rfl rfl ?_
  refine g_getr (b := 45) d_X_apply_34 f_X_171 rfl rfl rfl ?_
  refine r_iload_n d_X_apply_37 rfl ?_
  refine g_aald (b := (57+3*a')) (t := 7) (N := 4) d_X_apply_38 rfl (by decide) (by omega) (by omega) (g_tab ha1) ?_
  refine r_aload_n d_X_apply_39 rfl ?_
  refine g_getr (b := 37) d_X_apply_40 f_X_24 rfl rfl rfl ?_
  refine g_getr (b := 38) d_X_apply_43 f_X_112 rfl rfl rfl ?_
  refine r_iload_n d_X_apply_46 rfl ?_
  refine g_aald (b := (39+b')) (t := 5) (N := 6) d_X_apply_47 rfl (by decide) (by omega) (by omega) (g_ser hb1) ?_
  refine r_aload_n d_X_apply_48 rfl ?_
  refine g_getr (b := 37) d_X_apply_49 f_X_24 rfl rfl rfl ?_
  refine g_geti d_X_apply_52 f_X_99 rfl rfl ?_
  refine r_top (y := (nI (S.1 0 3))) (hX.1.1) ?_
  refine g_Vv (av := [.ref (57+3*a'), .ref (39+b'), .int (nI (S.1 0 3))]) d_X_apply_55 k_X_194 ws_Tb_makeOf (by decide) rfl rfl (Nat.le_of_ble_eq_true rfl) rfl (c_Tb_makeOf (t_tab ha1) (t_ser hb1) z1 z2 (by omega) (by omega) (hX.tab hW ha1) (hX.row hW hb1)) ?_
  rintro M1 ⟨k1, k2⟩
  have hB1 : BF M M1 := BF.of x8 k2 (by decide) (by decide) (fun b b1 b2 _ => by
    obtain rfl : b = 407 := by omega
    exact ⟨_, k1⟩)
  refine r_aload_n d_X_apply_58 rfl ?_
  refine r_aload_n d_X_apply_59 rfl ?_
  refine g_getr (b := 397) d_X_apply_60 f_X_53 rfl rfl rfl ?_
  refine g_getr (b := 407) d_X_apply_63 f_X_191 rfl rfl rfl ?_
  refine r_iload_n d_X_apply_66 rfl ?_
  refine g_Vi (av := [.ref 407, .int (nI t')]) d_X_apply_67 k_X_134 ws_X_landSeries (by decide) rfl rfl (Nat.le_of_ble_eq_true rfl) rfl (c_X_landSeries hW (hX.bf hB1) h0 rfl (by decide) ht1 (fun j hj => (k1 j (by omega)).1)) ?_
  rintro r M2 k4
  refine g_reti d_X_apply_70 rfl ?_
  exact k4.bf hB1
theorem c_X_sums {t h to : Int32} (hW : WS S) (hX : XR M S) : CI o l m_X_sums n [.ref 0, .int t, .int h, .int to] M (PX M (f_sums S t h to)) := by
  refine ci_of rfl rfl rfl (Nat.le_of_ble_eq_true rfl) ?_
  have x8 := hX.2.2.2.2
  refine r_aload_n d_X_sums_0 rfl ?_
  refine r_iload_n d_X_sums_1 rfl ?_
  by_cases hg1 : okT S t
  case neg =>
    refine g_Vi (av := [.int t]) d_X_sums_2 k_X_146 ws_X_isTable (by decide) rfl rfl (Nat.le_of_ble_eq_true rfl) rfl (c_X_isTable_f hW hX hg1) ?_
    rintro _ _ ⟨rfl, rfl⟩
    refine n_if_eq d_X_sums_5 (by omega) (fun _ => ?_) (fun h9 => absurd h9 (by decide))
    refine r_iconst (v := -1) d_X_sums_25 (by decide) ?_
    refine g_reti d_X_sums_26 rfl ?_
    exact PX.no hX (fun q9 => hg1 q9.1)
  refine g_Vi (av := [.int t]) d_X_sums_2 k_X_146 ws_X_isTable (by decide) rfl rfl (Nat.le_of_ble_eq_true rfl) rfl (c_X_isTable_t hW hX hg1) ?_
  rintro _ _ ⟨rfl, rfl⟩
  refine n_if_eq d_X_sums_5 (by omega) (fun h9 => absurd h9 (by decide)) (fun _ => ?_)
  refine r_aload_n d_X_sums_8 rfl ?_
  refine r_iload_n d_X_sums_9 rfl ?_
  by_cases hg2 : okS S to
  case neg =>
    refine g_Vi (av := [.int to]) d_X_sums_10 k_X_105 ws_X_isSeries (by decide) rfl rfl (Nat.le_of_ble_eq_true rfl) rfl (c_X_isSeries_f hW hX hg2) ?_
    rintro _ _ ⟨rfl, rfl⟩
    refine n_if_eq d_X_sums_13 (by omega) (fun _ => ?_) (fun h9 => absurd h9 (by decide))
    refine r_iconst (v := -1) d_X_sums_25 (by decide) ?_
    refine g_reti d_X_sums_26 rfl ?_
    exact PX.no hX (fun q9 => hg2 q9.2.1)
  refine g_Vi (av := [.int to]) d_X_sums_10 k_X_105 ws_X_isSeries (by decide) rfl rfl (Nat.le_of_ble_eq_true rfl) rfl (c_X_isSeries_t hW hX hg2) ?_
  rintro _ _ ⟨rfl, rfl⟩
  refine n_if_eq d_X_sums_13 (by omega) (fun h9 => absurd h9 (by decide)) (fun _ => ?_)
  have q1 := hg1
  have q3 := hg2
  rw [f_sums]
  unfold gOf fOf
  obtain ⟨h0, ha1, ha2⟩ := hg1
  obtain ⟨_, ht1, ht2⟩ := hg2
  obtain ⟨z1, z2⟩ := hW.sz h0
  generalize ix t = a' at *
  subst ha2
  generalize ix to = t' at *
  subst ht2
  rcases inN_cases (N := 4) (v := h) (by decide) with ⟨h1, h2⟩ | ⟨h1, h2, h3⟩ | ⟨_, _, h1⟩
  · refine r_iload_n d_X_sums_16 rfl ?_
    refine r_if_lt d_X_sums_17 (fun hc => ?_) (fun hc => ?_)
    · refine r_iconst (v := -1) d_X_sums_25 (by decide) ?_
      refine g_reti d_X_sums_26 rfl ?_
      exact PX.no hX (fun z => h2 z.2.2)
    · exact absurd h1 hc
  · refine r_iload_n d_X_sums_16 rfl ?_
    refine r_if_lt d_X_sums_17 (fun hc => ?_) (fun hc => ?_)
    · exact absurd hc h1
    · refine r_iload_n d_X_sums_20 rfl ?_
      refine r_iconst (v := nI 3) d_X_sums_21 (by decide) ?_
      refine r_icmp_le d_X_sums_22 (fun hc2 => ?_) (fun hc2 => ?_)
      · exact absurd (le_lt1 (by decide) hc2) (fun z => Int32.not_lt.mpr h2 z)
      · refine r_iconst (v := -1) d_X_sums_25 (by decide) ?_
        refine g_reti d_X_sums_26 rfl ?_
        exact PX.no hX (fun z => h3 z.2.2)
  · rw [ic_t ⟨q1, q3, h1⟩]
    obtain ⟨h2, h3⟩ := h1
    generalize ix h = k' at *
    subst h3
    refine r_iload_n d_X_sums_16 rfl ?_
    refine n_if_lt d_X_sums_17 (by omega) ?_
    refine r_iload_n d_X_sums_20 rfl ?_
    refine r_iconst (v := nI 3) d_X_sums_21 (by decide) ?_
    refine n_icmp_le d_X_sums_22 (by omega) (by omega) (fun hc2 => ?_) (fun hc2 => ?_)
    · refine r_aload_n d_X_sums_27 rfl ?_
      refine g_getr (b := 397) d_X_sums_28 f_X_53 rfl rfl rfl ?_
      refine r_aload_n d_X_sums_31 rfl ?_
      refine g_getr (b := 37) d_X_sums_32 f_X_24 rfl rfl rfl ?_
      refine g_getr (b := 45) d_X_sums_35 f_X_171 rfl rfl rfl ?_
      refine r_iload_n d_X_sums_38 rfl ?_
      refine g_aald (b := (57+3*a')) (t := 7) (N := 4) d_X_sums_39 rfl (by decide) (by omega) (by omega) (g_tab ha1) ?_
      refine r_iload_n d_X_sums_40 rfl ?_
      refine r_aload_n d_X_sums_41 rfl ?_
      refine g_getr (b := 37) d_X_sums_42 f_X_24 rfl rfl rfl ?_
      refine g_geti d_X_sums_45 f_X_99 rfl rfl ?_
      refine r_top (y := (nI (S.1 0 3))) (hX.1.1) ?_
      refine g_Vv (av := [.ref (57+3*a'), .int (nI k'), .int (nI (S.1 0 3))]) d_X_sums_48 k_X_198 ws_Tb_sumRows (by decide) rfl rfl (Nat.le_of_ble_eq_true rfl) rfl (c_Tb_sumRows (t_tab ha1) z1 z2 h2 (by omega) x8 (hX.tab hW ha1)) ?_
      rintro M1 ⟨k3, hB1⟩
      refine r_aload_n d_X_sums_51 rfl ?_
      refine r_aload_n d_X_sums_52 rfl ?_
      refine g_getr (b := 397) d_X_sums_53 f_X_53 rfl rfl rfl ?_
      refine g_getr (b := 407) d_X_sums_56 f_X_191 rfl rfl rfl ?_
      refine r_iload_n d_X_sums_59 rfl ?_
      refine g_Vi (av := [.ref 407, .int (nI t')]) d_X_sums_60 k_X_134 ws_X_landSeries (by decide) rfl rfl (Nat.le_of_ble_eq_true rfl) rfl (c_X_landSeries hW (hX.bf hB1) h0 rfl (by decide) ht1 k3) ?_
      rintro r M2 k4
      refine g_reti d_X_sums_63 rfl ?_
      exact k4.bf hB1
    · omega
theorem c_X_kinds {t : Int32} (hW : WS S) (hX : XR M S) : CI o l m_X_kinds n [.ref 0, .int t] M (PX M (f_kinds S t)) := by
  refine ci_of rfl rfl rfl (Nat.le_of_ble_eq_true rfl) ?_
  have x8 := hX.2.2.2.2
  refine r_aload_n d_X_kinds_0 rfl ?_
  refine r_iload_n d_X_kinds_1 rfl ?_
  by_cases hg1 : okT S t
  case neg =>
    refine g_Vi (av := [.int t]) d_X_kinds_2 k_X_146 ws_X_isTable (by decide) rfl rfl (Nat.le_of_ble_eq_true rfl) rfl (c_X_isTable_f hW hX hg1) ?_
    rintro _ _ ⟨rfl, rfl⟩
    refine n_if_ne d_X_kinds_5 (by omega) (fun h9 => absurd h9 (by decide)) (fun _ => ?_)
    refine r_iconst (v := -1) d_X_kinds_8 (by decide) ?_
    refine g_reti d_X_kinds_9 rfl ?_
    exact PX.no hX (fun q9 => hg1 q9)
  refine g_Vi (av := [.int t]) d_X_kinds_2 k_X_146 ws_X_isTable (by decide) rfl rfl (Nat.le_of_ble_eq_true rfl) rfl (c_X_isTable_t hW hX hg1) ?_
  rintro _ _ ⟨rfl, rfl⟩
  refine n_if_ne d_X_kinds_5 (by omega) (fun _ => ?_) (fun h9 => absurd h9 (by decide))
  rw [f_kinds, ic_t hg1]
  unfold gOf fOf
  obtain ⟨h0, ha1, ha2⟩ := hg1
  obtain ⟨z1, z2⟩ := hW.sz h0
  generalize ix t = a' at *
  subst ha2
  refine r_aload_n d_X_kinds_10 rfl ?_
  refine g_getr (b := 397) d_X_kinds_11 f_X_53 rfl rfl rfl ?_
  refine r_aload_n d_X_kinds_14 rfl ?_
  refine g_getr (b := 37) d_X_kinds_15 f_X_24 rfl rfl rfl ?_
  refine g_getr (b := 45) d_X_kinds_18 f_X_171 rfl rfl rfl ?_
  refine r_iload_n d_X_kinds_21 rfl ?_
  refine g_aald (b := (57+3*a')) (t := 7) (N := 4) d_X_kinds_22 rfl (by decide) (by omega) (by omega) (g_tab ha1) ?_
  refine r_aload_n d_X_kinds_23 rfl ?_
  refine g_getr (b := 37) d_X_kinds_24 f_X_24 rfl rfl rfl ?_
  refine g_geti d_X_kinds_27 f_X_99 rfl rfl ?_
  refine r_top (y := (nI (S.1 0 3))) (hX.1.1) ?_
  refine g_Vi (av := [.ref (57+3*a'), .int (nI (S.1 0 3))]) d_X_kinds_30 k_X_207 ws_Tb_kindsOf (by decide) rfl rfl (Nat.le_of_ble_eq_true rfl) rfl (c_Tb_kindsOf (t_tab ha1) z1 z2 (by omega) x8 (hX.tab hW ha1)) ?_
  rintro r M1 ⟨rfl, hB1⟩
  refine g_reti d_X_kinds_33 rfl ?_
  exact ⟨rfl, hX.bf hB1, hB1.kx⟩
theorem c_X_differ {s t how : Int32} (hW : WS S) (hX : XR M S) : CI o l m_X_differ n [.ref 0, .int s, .int t, .int how] M (PX M (f_differ S s t how)) := by
  refine ci_of rfl rfl rfl (Nat.le_of_ble_eq_true rfl) ?_
  have x8 := hX.2.2.2.2
  refine r_aload_n d_X_differ_0 rfl ?_
  refine r_iload_n d_X_differ_1 rfl ?_
  by_cases hg1 : okT S s
  case neg =>
    refine g_Vi (av := [.int s]) d_X_differ_2 k_X_146 ws_X_isTable (by decide) rfl rfl (Nat.le_of_ble_eq_true rfl) rfl (c_X_isTable_f hW hX hg1) ?_
    rintro _ _ ⟨rfl, rfl⟩
    refine n_if_eq d_X_differ_5 (by omega) (fun _ => ?_) (fun h9 => absurd h9 (by decide))
    refine r_iconst (v := -1) d_X_differ_16 (by decide) ?_
    refine g_reti d_X_differ_17 rfl ?_
    exact PX.no hX (fun q9 => hg1 q9.1)
  refine g_Vi (av := [.int s]) d_X_differ_2 k_X_146 ws_X_isTable (by decide) rfl rfl (Nat.le_of_ble_eq_true rfl) rfl (c_X_isTable_t hW hX hg1) ?_
  rintro _ _ ⟨rfl, rfl⟩
  refine n_if_eq d_X_differ_5 (by omega) (fun h9 => absurd h9 (by decide)) (fun _ => ?_)
  refine r_aload_n d_X_differ_8 rfl ?_
  refine r_iload_n d_X_differ_9 rfl ?_
  by_cases hg2 : okT S t
  case neg =>
    refine g_Vi (av := [.int t]) d_X_differ_10 k_X_146 ws_X_isTable (by decide) rfl rfl (Nat.le_of_ble_eq_true rfl) rfl (c_X_isTable_f hW hX hg2) ?_
    rintro _ _ ⟨rfl, rfl⟩
    refine n_if_ne d_X_differ_13 (by omega) (fun h9 => absurd h9 (by decide)) (fun _ => ?_)
    refine r_iconst (v := -1) d_X_differ_16 (by decide) ?_
    refine g_reti d_X_differ_17 rfl ?_
    exact PX.no hX (fun q9 => hg2 q9.2)
  refine g_Vi (av := [.int t]) d_X_differ_10 k_X_146 ws_X_isTable (by decide) rfl rfl (Nat.le_of_ble_eq_true rfl) rfl (c_X_isTable_t hW hX hg2) ?_
  rintro _ _ ⟨rfl, rfl⟩
  refine n_if_ne d_X_differ_13 (by omega) (fun _ => ?_) (fun h9 => absurd h9 (by decide))
  rw [f_differ, ic_t ⟨hg1, hg2⟩]
  unfold gOf fOf
  obtain ⟨h0, ha1, ha2⟩ := hg1
  obtain ⟨_, hb1, hb2⟩ := hg2
  obtain ⟨z1, z2⟩ := hW.sz h0
  generalize ix s = a' at *
  subst ha2
  generalize ix t = b' at *
  subst hb2
  refine r_iload_n d_X_differ_18 rfl ?_
  refine r_if_ne d_X_differ_19 (fun hc => ?_) (fun hc => ?_)
  · rw [ic_f hc]
    refine r_iload_n d_X_differ_55 rfl ?_
    refine r_iconst (v := nI 1) d_X_differ_56 (by decide) ?_
    refine r_icmp_ne d_X_differ_57 (fun hc2 => ?_) (fun hc2 => ?_)
    · rw [ic_f hc2]
      refine r_iconst (v := -1) d_X_differ_93 (by decide) ?_
      refine g_reti d_X_differ_94 rfl ?_
      exact ⟨rfl, hX, fun _ _ => rfl⟩
    · rw [ic_t hc2]
      refine r_aload_n d_X_differ_60 rfl ?_
      refine g_getr (b := 397) d_X_differ_61 f_X_53 rfl rfl rfl ?_
      refine r_aload_n d_X_differ_64 rfl ?_
      refine g_getr (b := 37) d_X_differ_65 f_X_24 rfl rfl rfl ?_
      refine g_getr (b := 45) d_X_differ_68 f_X_171 rfl rfl rfl ?_
      refine r_iload_n d_X_differ_71 rfl ?_
      refine g_aald (b := (57+3*a')) (t := 7) (N := 4) d_X_differ_72 rfl (by decide) (by omega) (by omega) (g_tab ha1) ?_
      refine r_aload_n d_X_differ_73 rfl ?_
      refine g_getr (b := 37) d_X_differ_74 f_X_24 rfl rfl rfl ?_
      refine g_getr (b := 45) d_X_differ_77 f_X_171 rfl rfl rfl ?_
      refine r_iload_n d_X_differ_80 rfl ?_
      refine g_aald (b := (57+3*b')) (t := 7) (N := 4) d_X_differ_81 rfl (by decide) (by omega) (by omega) (g_tab hb1) ?_
      refine r_aload_n d_X_differ_82 rfl ?_
      refine g_getr (b := 37) d_X_differ_83 f_X_24 rfl rfl rfl ?_
      refine g_geti d_X_differ_86 f_X_99 rfl rfl ?_
      refine r_top (y := (nI (S.1 0 3))) (hX.1.1) ?_
      refine g_Vi (av := [.ref (57+3*a'), .ref (57+3*b'), .int (nI (S.1 0 3))]) d_X_differ_89 k_X_215 ws_Tb_firstOfChangedPlaces (by decide) rfl rfl (Nat.le_of_ble_eq_true rfl) rfl (c_Tb_firstOfChangedPlaces (t_tab ha1) (t_tab hb1) z1 z2 (by omega) (by omega) x8 (hX.tab hW ha1) (hX.tab hW hb1)) ?_
      rintro r M1 ⟨k1, hB1⟩
      refine g_reti d_X_differ_92 rfl ?_
      exact ⟨FD_eq z2 k1, hX.bf hB1, hB1.kx⟩
  · rw [ic_t hc]
    refine r_aload_n d_X_differ_22 rfl ?_
    refine g_getr (b := 397) d_X_differ_23 f_X_53 rfl rfl rfl ?_
    refine r_aload_n d_X_differ_26 rfl ?_
    refine g_getr (b := 37) d_X_differ_27 f_X_24 rfl rfl rfl ?_
    refine g_getr (b := 45) d_X_differ_30 f_X_171 rfl rfl rfl ?_
    refine r_iload_n d_X_differ_33 rfl ?_
    refine g_aald (b := (57+3*a')) (t := 7) (N := 4) d_X_differ_34 rfl (by decide) (by omega) (by omega) (g_tab ha1) ?_
    refine r_aload_n d_X_differ_35 rfl ?_
    refine g_getr (b := 37) d_X_differ_36 f_X_24 rfl rfl rfl ?_
    refine g_getr (b := 45) d_X_differ_39 f_X_171 rfl rfl rfl ?_
    refine r_iload_n d_X_differ_42 rfl ?_
    refine g_aald (b := (57+3*b')) (t := 7) (N := 4) d_X_differ_43 rfl (by decide) (by omega) (by omega) (g_tab hb1) ?_
    refine r_aload_n d_X_differ_44 rfl ?_
    refine g_getr (b := 37) d_X_differ_45 f_X_24 rfl rfl rfl ?_
    refine g_geti d_X_differ_48 f_X_99 rfl rfl ?_
    refine r_top (y := (nI (S.1 0 3))) (hX.1.1) ?_
    refine g_Vi (av := [.ref (57+3*a'), .ref (57+3*b'), .int (nI (S.1 0 3))]) d_X_differ_51 k_X_211 ws_Tb_firstDifference (by decide) rfl rfl (Nat.le_of_ble_eq_true rfl) rfl (c_Tb_firstDifference (t_tab ha1) (t_tab hb1) z1 z2 (by omega) (by omega) x8 (hX.tab hW ha1) (hX.tab hW hb1)) ?_
    rintro r M1 ⟨k1, hB1⟩
    refine g_reti d_X_differ_54 rfl ?_
    exact ⟨FD_eq z2 k1, hX.bf hB1, hB1.kx⟩
end C46
