/-- the bytes of a number, the highest first -/
def bt (w : Int32) (sh : Nat) : Nat := w.toUInt32.toNat / 2 ^ sh % 256
theorem bt_lt (w : Int32) (sh : Nat) : bt w sh < 256 := Nat.mod_lt _ (by decide)
def tpF (T : Nat → Nat) (n : Nat) (w : Int32) (j : Nat) : Nat := if n ≤ j ∧ j < n + 4 then bt w (24 - 8 * (j - n)) else T j
theorem bt_c (w : Int32) (sh : Nat) (hs : sh = 24 ∨ sh = 16 ∨ sh = 8 ∨ sh = 0) : ((w.toUInt32 >>> ((nI sh).toUInt32 &&& Int32.toUInt32 31)).toInt32).toInt8.toInt32 = sB (bt w sh) := by
  unfold sB
  congr 1
  apply Int8.toBitVec_inj.mp
  apply BitVec.eq_of_toNat_eq
  have e : ∀ x : UInt32, (x.toInt32.toInt8).toBitVec.toNat = x.toNat % 256 := fun x => by
    rw [Int32.toBitVec_toInt8, BitVec.signExtend_eq_setWidth_of_le _ (by decide), BitVec.toNat_setWidth]
    rfl
  rw [e, Int32.toBitVec_toInt8, BitVec.signExtend_eq_setWidth_of_le _ (by decide), BitVec.toNat_setWidth]
  have e2 : (nI (bt w sh)).toBitVec.toNat = bt w sh := by
    have := bt_lt w sh
    show (BitVec.ofNat 32 (bt w sh)).toNat = _
    rw [BitVec.toNat_ofNat, Nat.mod_eq_of_lt (by omega)]
  rw [e2, bt]
  rw [UInt32.toNat_shiftRight]
  rcases hs with rfl | rfl | rfl | rfl <;> (rw [Nat.shiftRight_eq_div_pow, Nat.mod_mod]; rfl)
theorem bt_m (w : Int32) (sh : Nat) (hs : sh = 24 ∨ sh = 16 ∨ sh = 8 ∨ sh = 0) : (w.toUInt32 >>> ((nI sh).toUInt32 &&& Int32.toUInt32 31)).toInt32 &&& nI 255 = nI (bt w sh) := by
  apply Int32.toBitVec_inj.mp
  apply BitVec.eq_of_toNat_eq
  have e2 : (nI (bt w sh)).toBitVec.toNat = bt w sh := by
    have := bt_lt w sh
    show (BitVec.ofNat 32 (bt w sh)).toNat = _
    rw [BitVec.toNat_ofNat, Nat.mod_eq_of_lt (by omega)]
  rw [e2, Int32.toBitVec_and, BitVec.toNat_and]
  rw [show (nI 255).toBitVec.toNat = 2 ^ 8 - 1 from rfl, Nat.and_two_pow_sub_one_eq_mod]
  have e : ∀ x : UInt32, x.toInt32.toBitVec.toNat = x.toNat := fun x => rfl
  rw [e, UInt32.toNat_shiftRight]
  rcases hs with rfl | rfl | rfl | rfl <;> (rw [Nat.shiftRight_eq_div_pow]; rfl)
theorem sB_id (x : Nat) : (sB x).toInt8.toInt32 = sB x := by
  unfold sB
  rw [Int8.toInt8_toInt32]
section C43
variable {o : OM} {l : Launch} {n : Nat} {M : Mem}
theorem c_Tp_addFourBytes {q : Nat} {w : Int32} (hq : q + 4 ≤ 540) (h1 : M 34 1 = nI q) : CV o l m_Tp_addFourBytes n [.ref 34, .int w] M (fun M' => M' 34 1 = nI (q + 4) ∧ (∀ j, M' 35 j = if q ≤ j ∧ j < q + 4 then sB (bt w (24 - 8 * (j - q))) else M 35 j) ∧ ∀ b, b ≠ 34 → b ≠ 35 → M' b = M b) := by
  refine cvo_of rfl rfl rfl (Nat.le_of_ble_eq_true rfl) ?_
  refine r_bipush (v := nI 24) d_Tp_addFourBytes_0 (by decide) ?_
  refine r_istore_n (L' := [some (.ref 34), some (.int w), some (.int (nI 24))]) d_Tp_addFourBytes_2 (by decide) rfl ?_
  suffices H : ∀ d k M1, k + d = 4 → M1 34 1 = nI (q + k) → (∀ j, M1 35 j = if q ≤ j ∧ j < q + k then sB (bt w (24 - 8 * (j - q))) else M 35 j) → (∀ b, b ≠ 34 → b ≠ 35 → M1 b = M b) → Rn o l m_Tp_addFourBytes (0, 0) 3 [some (.ref 34), some (.int w), some (.int (if k = 4 then -8 else nI (24 - 8 * k)))] [] (gh n M1) (QV n (fun M' => M' 34 1 = nI (q + 4) ∧ (∀ j, M' 35 j = if q ≤ j ∧ j < q + 4 then sB (bt w (24 - 8 * (j - q))) else M 35 j) ∧ ∀ b, b ≠ 34 → b ≠ 35 → M' b = M b)) from
    H 4 0 M (by omega) h1 (fun j => by rw [if_neg (by omega)]) (fun _ _ _ => rfl)
  intro d
  induction d with
  | zero =>
    intro k M1 hk m1 m2 m3
    obtain rfl : k = 4 := by omega
    rw [if_pos rfl]
    refine r_iload_n d_Tp_addFourBytes_3 rfl ?_
    refine r_if_lt d_Tp_addFourBytes_4 (fun hc => ?_) (fun hc => ?_)
    · refine g_retv d_Tp_addFourBytes_46 rfl ?_
      exact ⟨m1, m2, m3⟩
    · exact absurd (by decide) hc
  | succ d ih =>
    intro k M1 hk m1 m2 m3
    rw [if_neg (show ¬ k = 4 by omega)]
    have e9 : ((w.toUInt32 >>> ((nI (24 - 8 * k)).toUInt32 &&& Int32.toUInt32 31)).toInt32).toInt8.toInt32 = sB (bt w (24 - 8 * k)) := bt_c w _ (by omega)
    refine r_iload_n d_Tp_addFourBytes_3 rfl ?_
    refine n_if_lt d_Tp_addFourBytes_4 (by omega) ?_
    refine r_aload_n d_Tp_addFourBytes_7 rfl ?_
    refine g_geti d_Tp_addFourBytes_8 f_Tp_15 rfl rfl ?_
    refine r_top (y := (nI (q+k))) (m1) ?_
    refine r_sipush (v := nI 540) d_Tp_addFourBytes_11 (by decide) ?_
    refine n_icmp_ge d_Tp_addFourBytes_14 (by omega) (by omega) (fun hc2 => ?_) (fun hc2 => ?_)
    · omega
    · refine r_aload_n d_Tp_addFourBytes_17 rfl ?_
      refine g_getr (b := 35) d_Tp_addFourBytes_18 f_Tp_9 rfl rfl rfl ?_
      refine r_aload_n d_Tp_addFourBytes_21 rfl ?_
      refine g_geti d_Tp_addFourBytes_22 f_Tp_15 rfl rfl ?_
      refine r_top (y := (nI (q+k))) (m1) ?_
      refine r_iload_n d_Tp_addFourBytes_25 rfl ?_
      refine r_iload_n d_Tp_addFourBytes_26 rfl ?_
      refine r_iushr d_Tp_addFourBytes_27 ?_
      refine r_i2b d_Tp_addFourBytes_28 ?_
      refine r_top e9 ?_
      refine g_bast d_Tp_addFourBytes_29 rfl (by omega) (by omega) ?_
      refine r_aload_n d_Tp_addFourBytes_30 rfl ?_
      refine r_dup d_Tp_addFourBytes_31 rfl ?_
      refine g_geti d_Tp_addFourBytes_32 f_Tp_15 rfl rfl ?_
      refine r_top (y := (nI (q+k))) (by rw [upm_ne _ _ _ (by decide)]; exact m1) ?_
      refine r_iconst (v := nI 1) d_Tp_addFourBytes_35 (by decide) ?_
      refine n_iadd d_Tp_addFourBytes_36 ?_
      refine g_puti d_Tp_addFourBytes_37 f_Tp_15 ⟨rfl, rfl, rfl⟩ rfl ?_
      refine r_iinc (v := if k + 1 = 4 then -8 else nI (24 - 8 * (k + 1))) (L' := [some (.ref 34), some (.int w), some (.int (if k + 1 = 4 then -8 else nI (24 - 8 * (k + 1))))]) d_Tp_addFourBytes_40 rfl ?_ (by decide) rfl ?_
      · rcases (show k = 0 ∨ k = 1 ∨ k = 2 ∨ k = 3 by omega) with rfl | rfl | rfl | rfl <;> decide
      refine r_goto d_Tp_addFourBytes_43 ?_
      refine ih (k + 1) _ (by omega) (by rw [upm_at, if_pos rfl]; rfl) (fun j => ?_) (fun b b1 b2 => by rw [upm_ne _ _ _ b1, upm_ne _ _ _ b2]; exact m3 b b1 b2)
      rw [upm_ne _ _ _ (by decide), upm_at]
      by_cases e : j = q + k
      · subst e
        rw [if_pos rfl, if_pos (by omega), show q + k - q = k by omega]
        exact sB_id _
      · rw [if_neg e, m2 j]
        by_cases e2 : q ≤ j ∧ j < q + k
        · rw [if_pos e2, if_pos (by omega)]
        · rw [if_neg e2, if_neg (by omega)]
end C43
