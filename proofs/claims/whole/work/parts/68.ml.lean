/-! The reference: lines of the text -/
def KRd (M M' : Mem) : Prop := (∀ b, b ≠ 436 → b ≠ 439 → b ≠ 443 → b ≠ 444 → b ≠ 445 → M' b = M b) ∧ ∀ k, (k < 4 ∨ 9 < k) → k ≠ 18 → k ≠ 19 → M' 436 k = M 436 k
theorem KRd.rf {M : Mem} : KRd M M := ⟨fun _ _ _ _ _ _ => rfl, fun _ _ _ _ => rfl⟩
theorem KRd.trans {M M1 M2 : Mem} (h : KRd M M1) (h2 : KRd M1 M2) : KRd M M2 := ⟨fun b b1 b2 b3 b4 b5 => (h2.1 b b1 b2 b3 b4 b5).trans (h.1 b b1 b2 b3 b4 b5), fun k k1 k2 k3 => (h2.2 k k1 k2 k3).trans (h.2 k k1 k2 k3)⟩
theorem NF.kr {M M' : Mem} (h : NF M M') : KRd M M' := ⟨fun b b1 _ _ _ _ => h.1 b b1, fun k k1 k2 k3 => h.2 k (by omega) (by omega) (by omega) (by omega)⟩
theorem KRd.up {M M1 : Mem} {k : Nat} {v : Int32} (h : KRd M M1) (hk : (4 ≤ k ∧ k ≤ 9) ∨ k = 18 ∨ k = 19) : KRd M (upm M1 436 k v) := ⟨fun b b1 b2 b3 b4 b5 => by rw [upm_ne _ _ _ b1]; exact h.1 b b1 b2 b3 b4 b5, fun q q1 q2 q3 => by rw [upm_at, if_neg (by omega)]; exact h.2 q q1 q2 q3⟩
theorem KRd.row {M M1 : Mem} {a k : Nat} {v : Int32} (h : KRd M M1) (ha : a = 439 ∨ a = 443 ∨ a = 444 ∨ a = 445) : KRd M (upm M1 a k v) := ⟨fun b b1 b2 b3 b4 b5 => by rw [upm_ne _ _ _ (by omega)]; exact h.1 b b1 b2 b3 b4 b5, fun q q1 q2 q3 => by rw [upm_ne _ _ _ (by omega)]; exact h.2 q q1 q2 q3⟩
theorem MTp.kr {M M' : Mem} {T : Nat → Nat} {w : Nat} (h : MTp M T w) (hf : KRd M M') : MTp M' T w := ⟨by rw [hf.2 3 (by decide) (by decide) (by decide)]; exact h.1, h.2.1, by rw [hf.1 437 (by decide) (by decide) (by decide) (by decide) (by decide)]; exact h.2.2⟩
def BD (M M' : Mem) : Prop := (∀ b, b ≠ 436 → M' b = M b) ∧ ∀ k, k ≠ 8 → k ≠ 9 → M' 436 k = M 436 k
theorem BD.kr {M M' : Mem} (h : BD M M') : KRd M M' := ⟨fun b b1 _ _ _ _ => h.1 b b1, fun k k1 _ _ => h.2 k (by omega) (by omega)⟩
theorem BD.mk {M : Mem} {v u : Int32} : BD M (upm (upm M 436 8 v) 436 9 u) := ⟨fun b hb => by rw [upm_ne _ _ _ hb, upm_ne _ _ _ hb], fun k h1 h2 => by rw [upm_at, if_neg h2, upm_at, if_neg h1]⟩
def FLt (M : Mem) (k q : Nat) : Prop := M 436 8 = nI k ∧ M 436 9 = nI q
theorem nw_rowA (C : Core) {s : Nat} {x : Nat → Nat} (hs : s < 6) : ∀ j, j < 241 → nw (rowA C (2 + s) x) j = if 1 + 10 * s ≤ j ∧ j < 1 + 10 * s + 10 then x (j - (1 + 10 * s)) else nw C j := by
  intro j hj
  rcases nw_at hj with ⟨rfl, h⟩ | ⟨s', i', h1, h2, rfl, h⟩ | ⟨t, i', h1, h2, rfl, h⟩ | ⟨t, i', h1, h2, rfl, h⟩ | ⟨t, i', h1, h2, rfl, h⟩
  · rw [h, h, if_neg (by omega), rowA, if_neg (by omega)]
  · rw [h, h]
    unfold rowA
    by_cases c : s' = s
    · subst c
      rw [if_pos rfl, if_pos (by omega), show 1 + 10 * s' + i' - (1 + 10 * s') = i' by omega]
    · rw [if_neg (by omega), if_neg (by omega)]
  · rw [h, h, if_neg (by omega), rowA, if_neg (by omega)]
  · rw [h, h, if_neg (by omega), rowA, if_neg (by omega)]
  · rw [h, h, if_neg (by omega), rowA, if_neg (by omega)]
theorem nw_tab (C : Core) {t : Nat} {g f : Nat → Nat} (ht : t < 4) : ∀ j, j < 241 → nw (tabC C t g f) j = if 61 + 20 * t ≤ j ∧ j < 61 + 20 * t + 10 then g (j - (61 + 20 * t)) else if 61 + 20 * t + 10 ≤ j ∧ j < 61 + 20 * t + 20 then f (j - (61 + 20 * t + 10)) else nw C j := by
  intro j hj
  rcases nw_at hj with ⟨rfl, h⟩ | ⟨s', i', h1, h2, rfl, h⟩ | ⟨t', i', h1, h2, rfl, h⟩ | ⟨t', i', h1, h2, rfl, h⟩ | ⟨t', i', h1, h2, rfl, h⟩
  · rw [h, h, if_neg (by omega), if_neg (by omega), tabC, if_neg (by omega), if_neg (by omega)]
  · rw [h, h, if_neg (by omega), if_neg (by omega), tabC, if_neg (by omega), if_neg (by omega)]
  · rw [h, h]
    unfold tabC
    by_cases c : t' = t
    · subst c
      rw [if_pos rfl, if_pos (by omega), show 61 + 20 * t' + i' - (61 + 20 * t') = i' by omega]
    · rw [if_neg (by omega), if_neg (by omega), if_neg (by omega), if_neg (by omega)]
  · rw [h, h]
    unfold tabC
    by_cases c : t' = t
    · subst c
      rw [if_neg (by omega), if_pos rfl, if_neg (by omega), if_pos (by omega), show 61 + 20 * t' + 10 + i' - (61 + 20 * t' + 10) = i' by omega]
    · rw [if_neg (by omega), if_neg (by omega), if_neg (by omega), if_neg (by omega)]
  · rw [h, h, if_neg (by omega), if_neg (by omega), tabC, if_neg (by omega), if_neg (by omega)]
theorem nw_szC (s : Nat) : ∀ j, j < 241 → nw (szC s) j = if j = 0 then s else nw C0 j := by
  intro j hj
  rcases nw_at hj with ⟨rfl, h⟩ | ⟨s', i', h1, h2, rfl, h⟩ | ⟨t', i', h1, h2, rfl, h⟩ | ⟨t', i', h1, h2, rfl, h⟩ | ⟨t', i', h1, h2, rfl, h⟩
  · rw [h, szC, if_pos ⟨rfl, rfl⟩, if_pos rfl]
  · rw [h, h, if_neg (by omega), szC, if_neg (by omega)]
  · rw [h, h, if_neg (by omega), szC, if_neg (by omega)]
  · rw [h, h, if_neg (by omega), szC, if_neg (by omega)]
  · rw [h, h, if_neg (by omega), szC, if_neg (by omega)]
theorem fm_neg {v : Nat} (h : v < 1000) : fm (-(nI v)) = sb 0 v := by
  have e : -(nI v) = Int32.ofInt (-(v : Int)) := by
    rw [Int32.ofInt_neg, show Int32.ofInt (v : Int) = nI v from by rw [of_nat _ (by omega), Int.toNat_natCast]]
  rw [sb_rst _ (by omega), e]
  unfold fm rst
  rw [Int32.toInt_ofInt_of_le (by omega) (by omega)]
  omega
theorem dv_one {x : Nat → Nat} {j : Nat} (hx : x j < 1000003) : dv x oneS j = x j := by
  have e0 : cs (dv x oneS) oneS j j = 0 := by
    have : ∀ k, k ≤ j → cs (dv x oneS) oneS j k = 0 := by
      intro k
      induction k with
      | zero => exact fun _ => rfl
      | succ k ih => exact fun hk => by rw [cs, ih (by omega), oneS, if_neg (by omega), Nat.mul_zero]
    exact this j (Nat.le_refl _)
  rw [dv_eq, e0, oneS, if_pos rfl, nv, Nat.one_pow, show 1 % 1000003 = 1 from rfl, Nat.mul_one, sb]
  omega
def PSum (M : Mem) (T : Nat → Nat) (w c : Nat) (res : (Nat × Nat) × (Nat → Nat) × Nat) (r : Int32) (M' : Mem) : Prop := (∀ b, b ≠ 436 → b ≠ c → M' b = M b) ∧ (∀ k, (k < 4 ∨ 9 < k) → M' 436 k = M 436 k) ∧ ((r = nI 1 ∧ res.1.1 = 0 ∧ tK T w res.2.2 ≠ 2 ∧ tK T w res.2.2 ≠ 4 ∧ M' 436 8 = M 436 8 ∧ TM M' T w res.2.2 ∧ ∀ j, j < 10 → M' c j = nI (res.2.1 j)) ∨ (r = nI 0 ∧ (res.1.1 ≠ 0 ∧ FLt M' res.1.1 res.1.2 ∨ res.1.1 = 0 ∧ (tK T w res.2.2 = 2 ∨ tK T w res.2.2 = 4) ∧ FLt M' 1 (tQ T w res.2.2))))
theorem PSum.kr {M M' : Mem} {T : Nat → Nat} {w c : Nat} {res : (Nat × Nat) × (Nat → Nat) × Nat} {r : Int32} (h : PSum M T w c res r M') (hc : c = 443 ∨ c = 444) : KRd M M' := ⟨fun b b1 b2 b3 b4 b5 => h.1 b b1 (by omega), fun k k1 _ _ => h.2.1 k k1⟩
section C68
variable {o : OM} {l : Launch} {n : Nat} {M : Mem} {T : Nat → Nat} {w : Nat}
theorem c_Md_step {p : Nat} (hR : MTp M T w) (hK : TM M T w p) (h0 : tK T w p ≠ 0) : CV o l m_Md_next n [.ref 436] M (fun M' => NF M M' ∧ TM M' T w (tE T w p)) := by
  obtain ⟨h1, h2, k, e, h3, h4, h5, h6, h7⟩ := hK
  exact c_Md_next hR (tE_le h1) (by rw [h4, h6.1 h0])
theorem c_Md_bad {p : Nat} {what : Nat} (hK : TM M T w p) (hw : tK T w p ≠ 0 ∨ what = 1) : CI o l m_Md_bad n [.ref 436, .int (nI what)] M (fun r M' => r = nI 0 ∧ FLt M' what (tQ T w p) ∧ BD M M') := by
  refine ci_of rfl rfl rfl (Nat.le_of_ble_eq_true rfl) ?_
  obtain ⟨h1, h2, k, e, h3, h4, h5, ⟨t1, t2, t3, t4, t5, t6, t7⟩, h7⟩ := hK
  have kle := tK_le (T := T) (w := w) p
  refine r_aload_n d_Md_bad_0 rfl ?_
  refine r_aload_n d_Md_bad_1 rfl ?_
  refine g_geti d_Md_bad_2 f_Md_27 rfl rfl ?_
  refine r_top (y := (nI k)) (h3) ?_
  refine r_iconst (v := nI 1) d_Md_bad_5 (by decide) ?_
  refine n_icmp_ne d_Md_bad_6 (by omega) (by omega) (fun hk => ?_) (fun hk => ?_)
  · refine r_iload_n d_Md_bad_13 rfl ?_
    refine g_puti d_Md_bad_14 f_Md_44 ⟨rfl, rfl, rfl⟩ rfl ?_
    refine r_aload_n d_Md_bad_17 rfl ?_
    refine r_aload_n d_Md_bad_18 rfl ?_
    refine g_geti d_Md_bad_19 f_Md_24 rfl rfl ?_
    refine r_top (y := (nI (tQ T w p))) (by rw [upm_at, if_neg (by decide)]; exact h2) ?_
    refine g_puti d_Md_bad_22 f_Md_47 ⟨rfl, rfl, rfl⟩ rfl ?_
    refine r_iconst (v := nI 0) d_Md_bad_25 (by decide) ?_
    refine g_retz d_Md_bad_26 rfl (by decide) ?_
    exact ⟨rfl, ⟨by rw [upm_at, if_neg (by decide), upm_at, if_pos rfl], by rw [upm_at, if_pos rfl]⟩, BD.mk⟩
  · have e1 : what = 1 := by
      rcases hw with hw | hw
      · omega
      · exact hw
    subst e1
    refine r_iconst (v := nI 1) d_Md_bad_9 (by decide) ?_
    refine r_goto d_Md_bad_10 ?_
    refine g_puti d_Md_bad_14 f_Md_44 ⟨rfl, rfl, rfl⟩ rfl ?_
    refine r_aload_n d_Md_bad_17 rfl ?_
    refine r_aload_n d_Md_bad_18 rfl ?_
    refine g_geti d_Md_bad_19 f_Md_24 rfl rfl ?_
    refine r_top (y := (nI (tQ T w p))) (by rw [upm_at, if_neg (by decide)]; exact h2) ?_
    refine g_puti d_Md_bad_22 f_Md_47 ⟨rfl, rfl, rfl⟩ rfl ?_
    refine r_iconst (v := nI 0) d_Md_bad_25 (by decide) ?_
    refine g_retz d_Md_bad_26 rfl (by decide) ?_
    exact ⟨rfl, ⟨by rw [upm_at, if_neg (by decide), upm_at, if_pos rfl], by rw [upm_at, if_pos rfl]⟩, BD.mk⟩
theorem c_Md_isWord_0 {p : Nat} (hR : MTp M T w) (hK : TM M T w p) : CI o l m_Md_isWord n [.ref 436, .int (nI 115), .int (nI 105), .int (nI 122), .int (nI 101), .int (nI 0), .int (nI 0)] M (fun r M' => BR r (tK T w p = 5) ∧ M = M') := by
  refine ci_of rfl rfl rfl (Nat.le_of_ble_eq_true rfl) ?_
  obtain ⟨r1, r2, r3⟩ := hR
  obtain ⟨h1, h2, k, e, h3, h4, h5, ⟨t1, t2, t3, t4, t5, t6, t7⟩, h7⟩ := hK
  have tq : tQ T w p ≤ w := tQ_le h1
  refine r_iload d_Md_isWord_0 rfl ?_
  refine n_if_ne d_Md_isWord_2 (by omega) (fun h9 => absurd h9 (by decide)) (fun _ => ?_)
  refine r_iconst (v := nI 4) d_Md_isWord_5 (by decide) ?_
  refine r_goto d_Md_isWord_6 ?_
  refine r_istore (L' := [some (.ref 436), some (.int (nI 115)), some (.int (nI 105)), some (.int (nI 122)), some (.int (nI 101)), some (.int (nI 0)), some (.int (nI 0)), some (.int (nI 4)), none]) d_Md_isWord_20 (by decide) rfl ?_
  refine r_aload_n d_Md_isWord_22 rfl ?_
  refine g_geti d_Md_isWord_23 f_Md_27 rfl rfl ?_
  refine r_top (y := (nI k)) (h3) ?_
  refine r_iconst (v := nI 2) d_Md_isWord_26 (by decide) ?_
  refine n_icmp_ne d_Md_isWord_27 (by omega) (by omega) (fun hk => ?_) (fun hk => ?_)
  · refine r_iconst (v := nI 0) d_Md_isWord_44 (by decide) ?_
    refine g_retz d_Md_isWord_45 rfl (by decide) ?_
    exact ⟨Or.inr ⟨rfl, fun z => hk (t6 (by omega))⟩, rfl⟩
  · obtain ⟨t7, t8, t9⟩ := t7 hk
    have t9 := t9 0 (by decide)
    refine r_aload_n d_Md_isWord_30 rfl ?_
    refine g_geti d_Md_isWord_31 f_Md_21 rfl rfl ?_
    refine r_top (y := (nI e)) (h4) ?_
    refine r_aload_n d_Md_isWord_34 rfl ?_
    refine g_geti d_Md_isWord_35 f_Md_24 rfl rfl ?_
    refine r_top (y := (nI (tQ T w p))) (h2) ?_
    refine n_isub d_Md_isWord_38 (by omega) ?_
    refine r_iload d_Md_isWord_39 rfl ?_
    refine n_icmp_eq d_Md_isWord_41 (by omega) (by omega) (fun hl => ?_) (fun hl => ?_)
    · have hl : e - tQ T w p = 4 := hl
      refine r_iconst (v := nI 0) d_Md_isWord_46 (by decide) ?_
      refine r_istore (L' := [some (.ref 436), some (.int (nI 115)), some (.int (nI 105)), some (.int (nI 122)), some (.int (nI 101)), some (.int (nI 0)), some (.int (nI 0)), some (.int (nI 4)), some (.int (nI 0))]) d_Md_isWord_47 (by decide) rfl ?_
      refine r_iload d_Md_isWord_49 rfl ?_
      refine r_iload d_Md_isWord_51 rfl ?_
      refine n_icmp_ge d_Md_isWord_53 (by omega) (by omega) (fun h9 => absurd h9 (by decide)) (fun _ => ?_)
      refine r_aload_n d_Md_isWord_56 rfl ?_
      refine g_getr (b := 437) d_Md_isWord_57 f_Md_7 rfl rfl rfl ?_
      refine r_aload_n d_Md_isWord_60 rfl ?_
      refine g_geti d_Md_isWord_61 f_Md_24 rfl rfl ?_
      refine r_top (y := (nI (tQ T w p))) (h2) ?_
      refine r_iload d_Md_isWord_64 rfl ?_
      refine n_iadd d_Md_isWord_66 ?_
      refine g_iald d_Md_isWord_67 rfl (by omega) (by omega) ?_
      refine r_top (y := nI (T ((tQ T w p) + 0))) ((r3 ((tQ T w p) + 0) (by omega)).2) ?_
      refine r_iload d_Md_isWord_68 rfl ?_
      refine n_if_ne d_Md_isWord_70 (by omega) (fun h9 => absurd h9 (by decide)) (fun _ => ?_)
      refine r_iload_n d_Md_isWord_73 rfl ?_
      refine r_goto d_Md_isWord_74 ?_
      refine n_icmp_eq d_Md_isWord_121 (by have h9 := (r3 ((tQ T w p) + 0) (by omega)).1; omega) (by omega) (fun h_0 => ?_) (fun h_0 => ?_)
      · refine n_iinc (c := 1) (L' := [some (.ref 436), some (.int (nI 115)), some (.int (nI 105)), some (.int (nI 122)), some (.int (nI 101)), some (.int (nI 0)), some (.int (nI 0)), some (.int (nI 4)), some (.int (nI 1))]) d_Md_isWord_126 rfl rfl (by decide) rfl ?_
        refine r_goto d_Md_isWord_129 ?_
        refine r_iload d_Md_isWord_49 rfl ?_
        refine r_iload d_Md_isWord_51 rfl ?_
        refine n_icmp_ge d_Md_isWord_53 (by omega) (by omega) (fun h9 => absurd h9 (by decide)) (fun _ => ?_)
        refine r_aload_n d_Md_isWord_56 rfl ?_
        refine g_getr (b := 437) d_Md_isWord_57 f_Md_7 rfl rfl rfl ?_
        refine r_aload_n d_Md_isWord_60 rfl ?_
        refine g_geti d_Md_isWord_61 f_Md_24 rfl rfl ?_
        refine r_top (y := (nI (tQ T w p))) (h2) ?_
        refine r_iload d_Md_isWord_64 rfl ?_
        refine n_iadd d_Md_isWord_66 ?_
        refine g_iald d_Md_isWord_67 rfl (by omega) (by omega) ?_
        refine r_top (y := nI (T ((tQ T w p) + 1))) ((r3 ((tQ T w p) + 1) (by omega)).2) ?_
        refine r_iload d_Md_isWord_68 rfl ?_
        refine n_if_ne d_Md_isWord_70 (by omega) (fun _ => ?_) (fun h9 => absurd h9 (by decide))
        refine r_iload d_Md_isWord_77 rfl ?_
        refine r_iconst (v := nI 1) d_Md_isWord_79 (by decide) ?_
        refine n_icmp_ne d_Md_isWord_80 (by omega) (by omega) (fun h9 => absurd h9 (by decide)) (fun _ => ?_)
        refine r_iload_n d_Md_isWord_83 rfl ?_
        refine r_goto d_Md_isWord_84 ?_
        refine n_icmp_eq d_Md_isWord_121 (by have h9 := (r3 ((tQ T w p) + 1) (by omega)).1; omega) (by omega) (fun h_1 => ?_) (fun h_1 => ?_)
        · refine n_iinc (c := 1) (L' := [some (.ref 436), some (.int (nI 115)), some (.int (nI 105)), some (.int (nI 122)), some (.int (nI 101)), some (.int (nI 0)), some (.int (nI 0)), some (.int (nI 4)), some (.int (nI 2))]) d_Md_isWord_126 rfl rfl (by decide) rfl ?_
          refine r_goto d_Md_isWord_129 ?_
          refine r_iload d_Md_isWord_49 rfl ?_
          refine r_iload d_Md_isWord_51 rfl ?_
          refine n_icmp_ge d_Md_isWord_53 (by omega) (by omega) (fun h9 => absurd h9 (by decide)) (fun _ => ?_)
          refine r_aload_n d_Md_isWord_56 rfl ?_
          refine g_getr (b := 437) d_Md_isWord_57 f_Md_7 rfl rfl rfl ?_
          refine r_aload_n d_Md_isWord_60 rfl ?_
          refine g_geti d_Md_isWord_61 f_Md_24 rfl rfl ?_
          refine r_top (y := (nI (tQ T w p))) (h2) ?_
          refine r_iload d_Md_isWord_64 rfl ?_
          refine n_iadd d_Md_isWord_66 ?_
          refine g_iald d_Md_isWord_67 rfl (by omega) (by omega) ?_
          refine r_top (y := nI (T ((tQ T w p) + 2))) ((r3 ((tQ T w p) + 2) (by omega)).2) ?_
          refine r_iload d_Md_isWord_68 rfl ?_
          refine n_if_ne d_Md_isWord_70 (by omega) (fun _ => ?_) (fun h9 => absurd h9 (by decide))
          refine r_iload d_Md_isWord_77 rfl ?_
          refine r_iconst (v := nI 1) d_Md_isWord_79 (by decide) ?_
          refine n_icmp_ne d_Md_isWord_80 (by omega) (by omega) (fun _ => ?_) (fun h9 => absurd h9 (by decide))
          refine r_iload d_Md_isWord_87 rfl ?_
          refine r_iconst (v := nI 2) d_Md_isWord_89 (by decide) ?_
          refine n_icmp_ne d_Md_isWord_90 (by omega) (by omega) (fun h9 => absurd h9 (by decide)) (fun _ => ?_)
          refine r_iload_n d_Md_isWord_93 rfl ?_
          refine r_goto d_Md_isWord_94 ?_
          refine n_icmp_eq d_Md_isWord_121 (by have h9 := (r3 ((tQ T w p) + 2) (by omega)).1; omega) (by omega) (fun h_2 => ?_) (fun h_2 => ?_)
          · refine n_iinc (c := 1) (L' := [some (.ref 436), some (.int (nI 115)), some (.int (nI 105)), some (.int (nI 122)), some (.int (nI 101)), some (.int (nI 0)), some (.int (nI 0)), some (.int (nI 4)), some (.int (nI 3))]) d_Md_isWord_126 rfl rfl (by decide) rfl ?_
            refine r_goto d_Md_isWord_129 ?_
            refine r_iload d_Md_isWord_49 rfl ?_
            refine r_iload d_Md_isWord_51 rfl ?_
            refine n_icmp_ge d_Md_isWord_53 (by omega) (by omega) (fun h9 => absurd h9 (by decide)) (fun _ => ?_)
            refine r_aload_n d_Md_isWord_56 rfl ?_
            refine g_getr (b := 437) d_Md_isWord_57 f_Md_7 rfl rfl rfl ?_
            refine r_aload_n d_Md_isWord_60 rfl ?_
            refine g_geti d_Md_isWord_61 f_Md_24 rfl rfl ?_
            refine r_top (y := (nI (tQ T w p))) (h2) ?_
            refine r_iload d_Md_isWord_64 rfl ?_
            refine n_iadd d_Md_isWord_66 ?_
            refine g_iald d_Md_isWord_67 rfl (by omega) (by omega) ?_
            refine r_top (y := nI (T ((tQ T w p) + 3))) ((r3 ((tQ T w p) + 3) (by omega)).2) ?_
            refine r_iload d_Md_isWord_68 rfl ?_
            refine n_if_ne d_Md_isWord_70 (by omega) (fun _ => ?_) (fun h9 => absurd h9 (by decide))
            refine r_iload d_Md_isWord_77 rfl ?_
            refine r_iconst (v := nI 1) d_Md_isWord_79 (by decide) ?_
            refine n_icmp_ne d_Md_isWord_80 (by omega) (by omega) (fun _ => ?_) (fun h9 => absurd h9 (by decide))
            refine r_iload d_Md_isWord_87 rfl ?_
            refine r_iconst (v := nI 2) d_Md_isWord_89 (by decide) ?_
            refine n_icmp_ne d_Md_isWord_90 (by omega) (by omega) (fun _ => ?_) (fun h9 => absurd h9 (by decide))
            refine r_iload d_Md_isWord_97 rfl ?_
            refine r_iconst (v := nI 3) d_Md_isWord_99 (by decide) ?_
            refine n_icmp_ne d_Md_isWord_100 (by omega) (by omega) (fun h9 => absurd h9 (by decide)) (fun _ => ?_)
            refine r_iload d_Md_isWord_103 rfl ?_
            refine r_goto d_Md_isWord_105 ?_
            refine n_icmp_eq d_Md_isWord_121 (by have h9 := (r3 ((tQ T w p) + 3) (by omega)).1; omega) (by omega) (fun h_3 => ?_) (fun h_3 => ?_)
            · refine n_iinc (c := 1) (L' := [some (.ref 436), some (.int (nI 115)), some (.int (nI 105)), some (.int (nI 122)), some (.int (nI 101)), some (.int (nI 0)), some (.int (nI 0)), some (.int (nI 4)), some (.int (nI 4))]) d_Md_isWord_126 rfl rfl (by decide) rfl ?_
              refine r_goto d_Md_isWord_129 ?_
              refine r_iload d_Md_isWord_49 rfl ?_
              refine r_iload d_Md_isWord_51 rfl ?_
              refine n_icmp_ge d_Md_isWord_53 (by omega) (by omega) (fun _ => ?_) (fun h9 => absurd h9 (by decide))
              refine r_iconst (v := nI 1) d_Md_isWord_132 (by decide) ?_
              refine g_retz d_Md_isWord_133 rfl (by decide) ?_
              refine ⟨Or.inl ⟨rfl, t9.mpr ⟨hl, fun j hj => ?_⟩⟩, rfl⟩
              have hj : j < 4 := hj
              rcases (show j = 0 ∨ j = 1 ∨ j = 2 ∨ j = 3 by omega) with rfl | rfl | rfl | rfl
              · exact h_0
              · exact h_1
              · exact h_2
              · exact h_3
            · refine r_iconst (v := nI 0) d_Md_isWord_124 (by decide) ?_
              refine g_retz d_Md_isWord_125 rfl (by decide) ?_
              exact ⟨Or.inr ⟨rfl, fun z => h_3 ((t9.mp z).2 3 (by decide))⟩, rfl⟩
          · refine r_iconst (v := nI 0) d_Md_isWord_124 (by decide) ?_
            refine g_retz d_Md_isWord_125 rfl (by decide) ?_
            exact ⟨Or.inr ⟨rfl, fun z => h_2 ((t9.mp z).2 2 (by decide))⟩, rfl⟩
        · refine r_iconst (v := nI 0) d_Md_isWord_124 (by decide) ?_
          refine g_retz d_Md_isWord_125 rfl (by decide) ?_
          exact ⟨Or.inr ⟨rfl, fun z => h_1 ((t9.mp z).2 1 (by decide))⟩, rfl⟩
      · refine r_iconst (v := nI 0) d_Md_isWord_124 (by decide) ?_
        refine g_retz d_Md_isWord_125 rfl (by decide) ?_
        exact ⟨Or.inr ⟨rfl, fun z => h_0 ((t9.mp z).2 0 (by decide))⟩, rfl⟩
    · refine r_iconst (v := nI 0) d_Md_isWord_44 (by decide) ?_
      refine g_retz d_Md_isWord_45 rfl (by decide) ?_
      exact ⟨Or.inr ⟨rfl, fun z => hl (t9.mp z).1⟩, rfl⟩
theorem c_Md_isWord_1 {p : Nat} (hR : MTp M T w) (hK : TM M T w p) : CI o l m_Md_isWord n [.ref 436, .int (nI 115), .int (nI 101), .int (nI 114), .int (nI 105), .int (nI 101), .int (nI 115)] M (fun r M' => BR r (tK T w p = 6) ∧ M = M') := by
  refine ci_of rfl rfl rfl (Nat.le_of_ble_eq_true rfl) ?_
  obtain ⟨r1, r2, r3⟩ := hR
  obtain ⟨h1, h2, k, e, h3, h4, h5, ⟨t1, t2, t3, t4, t5, t6, t7⟩, h7⟩ := hK
  have tq : tQ T w p ≤ w := tQ_le h1
  refine r_iload d_Md_isWord_0 rfl ?_
  refine n_if_ne d_Md_isWord_2 (by omega) (fun _ => ?_) (fun h9 => absurd h9 (by decide))
  refine r_iload d_Md_isWord_9 rfl ?_
  refine n_if_ne d_Md_isWord_11 (by omega) (fun _ => ?_) (fun h9 => absurd h9 (by decide))
  refine r_bipush (v := nI 6) d_Md_isWord_18 (by decide) ?_
  refine r_istore (L' := [some (.ref 436), some (.int (nI 115)), some (.int (nI 101)), some (.int (nI 114)), some (.int (nI 105)), some (.int (nI 101)), some (.int (nI 115)), some (.int (nI 6)), none]) d_Md_isWord_20 (by decide) rfl ?_
  refine r_aload_n d_Md_isWord_22 rfl ?_
  refine g_geti d_Md_isWord_23 f_Md_27 rfl rfl ?_
  refine r_top (y := (nI k)) (h3) ?_
  refine r_iconst (v := nI 2) d_Md_isWord_26 (by decide) ?_
  refine n_icmp_ne d_Md_isWord_27 (by omega) (by omega) (fun hk => ?_) (fun hk => ?_)
  · refine r_iconst (v := nI 0) d_Md_isWord_44 (by decide) ?_
    refine g_retz d_Md_isWord_45 rfl (by decide) ?_
    exact ⟨Or.inr ⟨rfl, fun z => hk (t6 (by omega))⟩, rfl⟩
  · obtain ⟨t7, t8, t9⟩ := t7 hk
    have t9 := t9 1 (by decide)
    refine r_aload_n d_Md_isWord_30 rfl ?_
    refine g_geti d_Md_isWord_31 f_Md_21 rfl rfl ?_
    refine r_top (y := (nI e)) (h4) ?_
    refine r_aload_n d_Md_isWord_34 rfl ?_
    refine g_geti d_Md_isWord_35 f_Md_24 rfl rfl ?_
    refine r_top (y := (nI (tQ T w p))) (h2) ?_
    refine n_isub d_Md_isWord_38 (by omega) ?_
    refine r_iload d_Md_isWord_39 rfl ?_
    refine n_icmp_eq d_Md_isWord_41 (by omega) (by omega) (fun hl => ?_) (fun hl => ?_)
    · have hl : e - tQ T w p = 6 := hl
      refine r_iconst (v := nI 0) d_Md_isWord_46 (by decide) ?_
      refine r_istore (L' := [some (.ref 436), some (.int (nI 115)), some (.int (nI 101)), some (.int (nI 114)), some (.int (nI 105)), some (.int (nI 101)), some (.int (nI 115)), some (.int (nI 6)), some (.int (nI 0))]) d_Md_isWord_47 (by decide) rfl ?_
      refine r_iload d_Md_isWord_49 rfl ?_
      refine r_iload d_Md_isWord_51 rfl ?_
      refine n_icmp_ge d_Md_isWord_53 (by omega) (by omega) (fun h9 => absurd h9 (by decide)) (fun _ => ?_)
      refine r_aload_n d_Md_isWord_56 rfl ?_
      refine g_getr (b := 437) d_Md_isWord_57 f_Md_7 rfl rfl rfl ?_
      refine r_aload_n d_Md_isWord_60 rfl ?_
      refine g_geti d_Md_isWord_61 f_Md_24 rfl rfl ?_
      refine r_top (y := (nI (tQ T w p))) (h2) ?_
      refine r_iload d_Md_isWord_64 rfl ?_
      refine n_iadd d_Md_isWord_66 ?_
      refine g_iald d_Md_isWord_67 rfl (by omega) (by omega) ?_
      refine r_top (y := nI (T ((tQ T w p) + 0))) ((r3 ((tQ T w p) + 0) (by omega)).2) ?_
      refine r_iload d_Md_isWord_68 rfl ?_
      refine n_if_ne d_Md_isWord_70 (by omega) (fun h9 => absurd h9 (by decide)) (fun _ => ?_)
      refine r_iload_n d_Md_isWord_73 rfl ?_
      refine r_goto d_Md_isWord_74 ?_
      refine n_icmp_eq d_Md_isWord_121 (by have h9 := (r3 ((tQ T w p) + 0) (by omega)).1; omega) (by omega) (fun h_0 => ?_) (fun h_0 => ?_)
      · refine n_iinc (c := 1) (L' := [some (.ref 436), some (.int (nI 115)), some (.int (nI 101)), some (.int (nI 114)), some (.int (nI 105)), some (.int (nI 101)), some (.int (nI 115)), some (.int (nI 6)), some (.int (nI 1))]) d_Md_isWord_126 rfl rfl (by decide) rfl ?_
        refine r_goto d_Md_isWord_129 ?_
        refine r_iload d_Md_isWord_49 rfl ?_
        refine r_iload d_Md_isWord_51 rfl ?_
        refine n_icmp_ge d_Md_isWord_53 (by omega) (by omega) (fun h9 => absurd h9 (by decide)) (fun _ => ?_)
        refine r_aload_n d_Md_isWord_56 rfl ?_
        refine g_getr (b := 437) d_Md_isWord_57 f_Md_7 rfl rfl rfl ?_
        refine r_aload_n d_Md_isWord_60 rfl ?_
        refine g_geti d_Md_isWord_61 f_Md_24 rfl rfl ?_
        refine r_top (y := (nI (tQ T w p))) (h2) ?_
        refine r_iload d_Md_isWord_64 rfl ?_
        refine n_iadd d_Md_isWord_66 ?_
        refine g_iald d_Md_isWord_67 rfl (by omega) (by omega) ?_
        refine r_top (y := nI (T ((tQ T w p) + 1))) ((r3 ((tQ T w p) + 1) (by omega)).2) ?_
        refine r_iload d_Md_isWord_68 rfl ?_
        refine n_if_ne d_Md_isWord_70 (by omega) (fun _ => ?_) (fun h9 => absurd h9 (by decide))
        refine r_iload d_Md_isWord_77 rfl ?_
        refine r_iconst (v := nI 1) d_Md_isWord_79 (by decide) ?_
        refine n_icmp_ne d_Md_isWord_80 (by omega) (by omega) (fun h9 => absurd h9 (by decide)) (fun _ => ?_)
        refine r_iload_n d_Md_isWord_83 rfl ?_
        refine r_goto d_Md_isWord_84 ?_
        refine n_icmp_eq d_Md_isWord_121 (by have h9 := (r3 ((tQ T w p) + 1) (by omega)).1; omega) (by omega) (fun h_1 => ?_) (fun h_1 => ?_)
        · refine n_iinc (c := 1) (L' := [some (.ref 436), some (.int (nI 115)), some (.int (nI 101)), some (.int (nI 114)), some (.int (nI 105)), some (.int (nI 101)), some (.int (nI 115)), some (.int (nI 6)), some (.int (nI 2))]) d_Md_isWord_126 rfl rfl (by decide) rfl ?_
          refine r_goto d_Md_isWord_129 ?_
          refine r_iload d_Md_isWord_49 rfl ?_
          refine r_iload d_Md_isWord_51 rfl ?_
          refine n_icmp_ge d_Md_isWord_53 (by omega) (by omega) (fun h9 => absurd h9 (by decide)) (fun _ => ?_)
          refine r_aload_n d_Md_isWord_56 rfl ?_
          refine g_getr (b := 437) d_Md_isWord_57 f_Md_7 rfl rfl rfl ?_
          refine r_aload_n d_Md_isWord_60 rfl ?_
          refine g_geti d_Md_isWord_61 f_Md_24 rfl rfl ?_
          refine r_top (y := (nI (tQ T w p))) (h2) ?_
          refine r_iload d_Md_isWord_64 rfl ?_
          refine n_iadd d_Md_isWord_66 ?_
          refine g_iald d_Md_isWord_67 rfl (by omega) (by omega) ?_
          refine r_top (y := nI (T ((tQ T w p) + 2))) ((r3 ((tQ T w p) + 2) (by omega)).2) ?_
          refine r_iload d_Md_isWord_68 rfl ?_
          refine n_if_ne d_Md_isWord_70 (by omega) (fun _ => ?_) (fun h9 => absurd h9 (by decide))
          refine r_iload d_Md_isWord_77 rfl ?_
          refine r_iconst (v := nI 1) d_Md_isWord_79 (by decide) ?_
          refine n_icmp_ne d_Md_isWord_80 (by omega) (by omega) (fun _ => ?_) (fun h9 => absurd h9 (by decide))
          refine r_iload d_Md_isWord_87 rfl ?_
          refine r_iconst (v := nI 2) d_Md_isWord_89 (by decide) ?_
          refine n_icmp_ne d_Md_isWord_90 (by omega) (by omega) (fun h9 => absurd h9 (by decide)) (fun _ => ?_)
          refine r_iload_n d_Md_isWord_93 rfl ?_
          refine r_goto d_Md_isWord_94 ?_
          refine n_icmp_eq d_Md_isWord_121 (by have h9 := (r3 ((tQ T w p) + 2) (by omega)).1; omega) (by omega) (fun h_2 => ?_) (fun h_2 => ?_)
          · refine n_iinc (c := 1) (L' := [some (.ref 436), some (.int (nI 115)), some (.int (nI 101)), some (.int (nI 114)), some (.int (nI 105)), some (.int (nI 101)), some (.int (nI 115)), some (.int (nI 6)), some (.int (nI 3))]) d_Md_isWord_126 rfl rfl (by decide) rfl ?_
            refine r_goto d_Md_isWord_129 ?_
            refine r_iload d_Md_isWord_49 rfl ?_
            refine r_iload d_Md_isWord_51 rfl ?_
            refine n_icmp_ge d_Md_isWord_53 (by omega) (by omega) (fun h9 => absurd h9 (by decide)) (fun _ => ?_)
            refine r_aload_n d_Md_isWord_56 rfl ?_
            refine g_getr (b := 437) d_Md_isWord_57 f_Md_7 rfl rfl rfl ?_
            refine r_aload_n d_Md_isWord_60 rfl ?_
            refine g_geti d_Md_isWord_61 f_Md_24 rfl rfl ?_
            refine r_top (y := (nI (tQ T w p))) (h2) ?_
            refine r_iload d_Md_isWord_64 rfl ?_
            refine n_iadd d_Md_isWord_66 ?_
            refine g_iald d_Md_isWord_67 rfl (by omega) (by omega) ?_
            refine r_top (y := nI (T ((tQ T w p) + 3))) ((r3 ((tQ T w p) + 3) (by omega)).2) ?_
            refine r_iload d_Md_isWord_68 rfl ?_
            refine n_if_ne d_Md_isWord_70 (by omega) (fun _ => ?_) (fun h9 => absurd h9 (by decide))
            refine r_iload d_Md_isWord_77 rfl ?_
            refine r_iconst (v := nI 1) d_Md_isWord_79 (by decide) ?_
            refine n_icmp_ne d_Md_isWord_80 (by omega) (by omega) (fun _ => ?_) (fun h9 => absurd h9 (by decide))
            refine r_iload d_Md_isWord_87 rfl ?_
            refine r_iconst (v := nI 2) d_Md_isWord_89 (by decide) ?_
            refine n_icmp_ne d_Md_isWord_90 (by omega) (by omega) (fun _ => ?_) (fun h9 => absurd h9 (by decide))
            refine r_iload d_Md_isWord_97 rfl ?_
            refine r_iconst (v := nI 3) d_Md_isWord_99 (by decide) ?_
            refine n_icmp_ne d_Md_isWord_100 (by omega) (by omega) (fun h9 => absurd h9 (by decide)) (fun _ => ?_)
            refine r_iload d_Md_isWord_103 rfl ?_
            refine r_goto d_Md_isWord_105 ?_
            refine n_icmp_eq d_Md_isWord_121 (by have h9 := (r3 ((tQ T w p) + 3) (by omega)).1; omega) (by omega) (fun h_3 => ?_) (fun h_3 => ?_)
            · refine n_iinc (c := 1) (L' := [some (.ref 436), some (.int (nI 115)), some (.int (nI 101)), some (.int (nI 114)), some (.int (nI 105)), some (.int (nI 101)), some (.int (nI 115)), some (.int (nI 6)), some (.int (nI 4))]) d_Md_isWord_126 rfl rfl (by decide) rfl ?_
              refine r_goto d_Md_isWord_129 ?_
              refine r_iload d_Md_isWord_49 rfl ?_
              refine r_iload d_Md_isWord_51 rfl ?_
              refine n_icmp_ge d_Md_isWord_53 (by omega) (by omega) (fun h9 => absurd h9 (by decide)) (fun _ => ?_)
              refine r_aload_n d_Md_isWord_56 rfl ?_
              refine g_getr (b := 437) d_Md_isWord_57 f_Md_7 rfl rfl rfl ?_
              refine r_aload_n d_Md_isWord_60 rfl ?_
              refine g_geti d_Md_isWord_61 f_Md_24 rfl rfl ?_
              refine r_top (y := (nI (tQ T w p))) (h2) ?_
              refine r_iload d_Md_isWord_64 rfl ?_
              refine n_iadd d_Md_isWord_66 ?_
              refine g_iald d_Md_isWord_67 rfl (by omega) (by omega) ?_
              refine r_top (y := nI (T ((tQ T w p) + 4))) ((r3 ((tQ T w p) + 4) (by omega)).2) ?_
              refine r_iload d_Md_isWord_68 rfl ?_
              refine n_if_ne d_Md_isWord_70 (by omega) (fun _ => ?_) (fun h9 => absurd h9 (by decide))
              refine r_iload d_Md_isWord_77 rfl ?_
              refine r_iconst (v := nI 1) d_Md_isWord_79 (by decide) ?_
              refine n_icmp_ne d_Md_isWord_80 (by omega) (by omega) (fun _ => ?_) (fun h9 => absurd h9 (by decide))
              refine r_iload d_Md_isWord_87 rfl ?_
              refine r_iconst (v := nI 2) d_Md_isWord_89 (by decide) ?_
              refine n_icmp_ne d_Md_isWord_90 (by omega) (by omega) (fun _ => ?_) (fun h9 => absurd h9 (by decide))
              refine r_iload d_Md_isWord_97 rfl ?_
              refine r_iconst (v := nI 3) d_Md_isWord_99 (by decide) ?_
              refine n_icmp_ne d_Md_isWord_100 (by omega) (by omega) (fun _ => ?_) (fun h9 => absurd h9 (by decide))
              refine r_iload d_Md_isWord_108 rfl ?_
              refine r_iconst (v := nI 4) d_Md_isWord_110 (by decide) ?_
              refine n_icmp_ne d_Md_isWord_111 (by omega) (by omega) (fun h9 => absurd h9 (by decide)) (fun _ => ?_)
              refine r_iload d_Md_isWord_114 rfl ?_
              refine r_goto d_Md_isWord_116 ?_
              refine n_icmp_eq d_Md_isWord_121 (by have h9 := (r3 ((tQ T w p) + 4) (by omega)).1; omega) (by omega) (fun h_4 => ?_) (fun h_4 => ?_)
              · refine n_iinc (c := 1) (L' := [some (.ref 436), some (.int (nI 115)), some (.int (nI 101)), some (.int (nI 114)), some (.int (nI 105)), some (.int (nI 101)), some (.int (nI 115)), some (.int (nI 6)), some (.int (nI 5))]) d_Md_isWord_126 rfl rfl (by decide) rfl ?_
                refine r_goto d_Md_isWord_129 ?_
                refine r_iload d_Md_isWord_49 rfl ?_
                refine r_iload d_Md_isWord_51 rfl ?_
                refine n_icmp_ge d_Md_isWord_53 (by omega) (by omega) (fun h9 => absurd h9 (by decide)) (fun _ => ?_)
                refine r_aload_n d_Md_isWord_56 rfl ?_
                refine g_getr (b := 437) d_Md_isWord_57 f_Md_7 rfl rfl rfl ?_
                refine r_aload_n d_Md_isWord_60 rfl ?_
                refine g_geti d_Md_isWord_61 f_Md_24 rfl rfl ?_
                refine r_top (y := (nI (tQ T w p))) (h2) ?_
                refine r_iload d_Md_isWord_64 rfl ?_
                refine n_iadd d_Md_isWord_66 ?_
                refine g_iald d_Md_isWord_67 rfl (by omega) (by omega) ?_
                refine r_top (y := nI (T ((tQ T w p) + 5))) ((r3 ((tQ T w p) + 5) (by omega)).2) ?_
                refine r_iload d_Md_isWord_68 rfl ?_
                refine n_if_ne d_Md_isWord_70 (by omega) (fun _ => ?_) (fun h9 => absurd h9 (by decide))
                refine r_iload d_Md_isWord_77 rfl ?_
                refine r_iconst (v := nI 1) d_Md_isWord_79 (by decide) ?_
                refine n_icmp_ne d_Md_isWord_80 (by omega) (by omega) (fun _ => ?_) (fun h9 => absurd h9 (by decide))
                refine r_iload d_Md_isWord_87 rfl ?_
                refine r_iconst (v := nI 2) d_Md_isWord_89 (by decide) ?_
                refine n_icmp_ne d_Md_isWord_90 (by omega) (by omega) (fun _ => ?_) (fun h9 => absurd h9 (by decide))
                refine r_iload d_Md_isWord_97 rfl ?_
                refine r_iconst (v := nI 3) d_Md_isWord_99 (by decide) ?_
                refine n_icmp_ne d_Md_isWord_100 (by omega) (by omega) (fun _ => ?_) (fun h9 => absurd h9 (by decide))
                refine r_iload d_Md_isWord_108 rfl ?_
                refine r_iconst (v := nI 4) d_Md_isWord_110 (by decide) ?_
                refine n_icmp_ne d_Md_isWord_111 (by omega) (by omega) (fun _ => ?_) (fun h9 => absurd h9 (by decide))
                refine r_iload d_Md_isWord_119 rfl ?_
                refine n_icmp_eq d_Md_isWord_121 (by have h9 := (r3 ((tQ T w p) + 5) (by omega)).1; omega) (by omega) (fun h_5 => ?_) (fun h_5 => ?_)
                · refine n_iinc (c := 1) (L' := [some (.ref 436), some (.int (nI 115)), some (.int (nI 101)), some (.int (nI 114)), some (.int (nI 105)), some (.int (nI 101)), some (.int (nI 115)), some (.int (nI 6)), some (.int (nI 6))]) d_Md_isWord_126 rfl rfl (by decide) rfl ?_
                  refine r_goto d_Md_isWord_129 ?_
                  refine r_iload d_Md_isWord_49 rfl ?_
                  refine r_iload d_Md_isWord_51 rfl ?_
                  refine n_icmp_ge d_Md_isWord_53 (by omega) (by omega) (fun _ => ?_) (fun h9 => absurd h9 (by decide))
                  refine r_iconst (v := nI 1) d_Md_isWord_132 (by decide) ?_
                  refine g_retz d_Md_isWord_133 rfl (by decide) ?_
                  refine ⟨Or.inl ⟨rfl, t9.mpr ⟨hl, fun j hj => ?_⟩⟩, rfl⟩
                  have hj : j < 6 := hj
                  rcases (show j = 0 ∨ j = 1 ∨ j = 2 ∨ j = 3 ∨ j = 4 ∨ j = 5 by omega) with rfl | rfl | rfl | rfl | rfl | rfl
                  · exact h_0
                  · exact h_1
                  · exact h_2
                  · exact h_3
                  · exact h_4
                  · exact h_5
                · refine r_iconst (v := nI 0) d_Md_isWord_124 (by decide) ?_
                  refine g_retz d_Md_isWord_125 rfl (by decide) ?_
                  exact ⟨Or.inr ⟨rfl, fun z => h_5 ((t9.mp z).2 5 (by decide))⟩, rfl⟩
              · refine r_iconst (v := nI 0) d_Md_isWord_124 (by decide) ?_
                refine g_retz d_Md_isWord_125 rfl (by decide) ?_
                exact ⟨Or.inr ⟨rfl, fun z => h_4 ((t9.mp z).2 4 (by decide))⟩, rfl⟩
            · refine r_iconst (v := nI 0) d_Md_isWord_124 (by decide) ?_
              refine g_retz d_Md_isWord_125 rfl (by decide) ?_
              exact ⟨Or.inr ⟨rfl, fun z => h_3 ((t9.mp z).2 3 (by decide))⟩, rfl⟩
          · refine r_iconst (v := nI 0) d_Md_isWord_124 (by decide) ?_
            refine g_retz d_Md_isWord_125 rfl (by decide) ?_
            exact ⟨Or.inr ⟨rfl, fun z => h_2 ((t9.mp z).2 2 (by decide))⟩, rfl⟩
        · refine r_iconst (v := nI 0) d_Md_isWord_124 (by decide) ?_
          refine g_retz d_Md_isWord_125 rfl (by decide) ?_
          exact ⟨Or.inr ⟨rfl, fun z => h_1 ((t9.mp z).2 1 (by decide))⟩, rfl⟩
      · refine r_iconst (v := nI 0) d_Md_isWord_124 (by decide) ?_
        refine g_retz d_Md_isWord_125 rfl (by decide) ?_
        exact ⟨Or.inr ⟨rfl, fun z => h_0 ((t9.mp z).2 0 (by decide))⟩, rfl⟩
    · refine r_iconst (v := nI 0) d_Md_isWord_44 (by decide) ?_
      refine g_retz d_Md_isWord_45 rfl (by decide) ?_
      exact ⟨Or.inr ⟨rfl, fun z => hl (t9.mp z).1⟩, rfl⟩
theorem c_Md_isWord_2 {p : Nat} (hR : MTp M T w) (hK : TM M T w p) : CI o l m_Md_isWord n [.ref 436, .int (nI 111), .int (nI 118), .int (nI 101), .int (nI 114), .int (nI 0), .int (nI 0)] M (fun r M' => BR r (tK T w p = 7) ∧ M = M') := by
  refine ci_of rfl rfl rfl (Nat.le_of_ble_eq_true rfl) ?_
  obtain ⟨r1, r2, r3⟩ := hR
  obtain ⟨h1, h2, k, e, h3, h4, h5, ⟨t1, t2, t3, t4, t5, t6, t7⟩, h7⟩ := hK
  have tq : tQ T w p ≤ w := tQ_le h1
  refine r_iload d_Md_isWord_0 rfl ?_
  refine n_if_ne d_Md_isWord_2 (by omega) (fun h9 => absurd h9 (by decide)) (fun _ => ?_)
  refine r_iconst (v := nI 4) d_Md_isWord_5 (by decide) ?_
  refine r_goto d_Md_isWord_6 ?_
  refine r_istore (L' := [some (.ref 436), some (.int (nI 111)), some (.int (nI 118)), some (.int (nI 101)), some (.int (nI 114)), some (.int (nI 0)), some (.int (nI 0)), some (.int (nI 4)), none]) d_Md_isWord_20 (by decide) rfl ?_
  refine r_aload_n d_Md_isWord_22 rfl ?_
  refine g_geti d_Md_isWord_23 f_Md_27 rfl rfl ?_
  refine r_top (y := (nI k)) (h3) ?_
  refine r_iconst (v := nI 2) d_Md_isWord_26 (by decide) ?_
  refine n_icmp_ne d_Md_isWord_27 (by omega) (by omega) (fun hk => ?_) (fun hk => ?_)
  · refine r_iconst (v := nI 0) d_Md_isWord_44 (by decide) ?_
    refine g_retz d_Md_isWord_45 rfl (by decide) ?_
    exact ⟨Or.inr ⟨rfl, fun z => hk (t6 (by omega))⟩, rfl⟩
  · obtain ⟨t7, t8, t9⟩ := t7 hk
    have t9 := t9 2 (by decide)
    refine r_aload_n d_Md_isWord_30 rfl ?_
    refine g_geti d_Md_isWord_31 f_Md_21 rfl rfl ?_
    refine r_top (y := (nI e)) (h4) ?_
    refine r_aload_n d_Md_isWord_34 rfl ?_
    refine g_geti d_Md_isWord_35 f_Md_24 rfl rfl ?_
    refine r_top (y := (nI (tQ T w p))) (h2) ?_
    refine n_isub d_Md_isWord_38 (by omega) ?_
    refine r_iload d_Md_isWord_39 rfl ?_
    refine n_icmp_eq d_Md_isWord_41 (by omega) (by omega) (fun hl => ?_) (fun hl => ?_)
    · have hl : e - tQ T w p = 4 := hl
      refine r_iconst (v := nI 0) d_Md_isWord_46 (by decide) ?_
      refine r_istore (L' := [some (.ref 436), some (.int (nI 111)), some (.int (nI 118)), some (.int (nI 101)), some (.int (nI 114)), some (.int (nI 0)), some (.int (nI 0)), some (.int (nI 4)), some (.int (nI 0))]) d_Md_isWord_47 (by decide) rfl ?_
      refine r_iload d_Md_isWord_49 rfl ?_
      refine r_iload d_Md_isWord_51 rfl ?_
      refine n_icmp_ge d_Md_isWord_53 (by omega) (by omega) (fun h9 => absurd h9 (by decide)) (fun _ => ?_)
      refine r_aload_n d_Md_isWord_56 rfl ?_
      refine g_getr (b := 437) d_Md_isWord_57 f_Md_7 rfl rfl rfl ?_
      refine r_aload_n d_Md_isWord_60 rfl ?_
      refine g_geti d_Md_isWord_61 f_Md_24 rfl rfl ?_
      refine r_top (y := (nI (tQ T w p))) (h2) ?_
      refine r_iload d_Md_isWord_64 rfl ?_
      refine n_iadd d_Md_isWord_66 ?_
      refine g_iald d_Md_isWord_67 rfl (by omega) (by omega) ?_
      refine r_top (y := nI (T ((tQ T w p) + 0))) ((r3 ((tQ T w p) + 0) (by omega)).2) ?_
      refine r_iload d_Md_isWord_68 rfl ?_
      refine n_if_ne d_Md_isWord_70 (by omega) (fun h9 => absurd h9 (by decide)) (fun _ => ?_)
      refine r_iload_n d_Md_isWord_73 rfl ?_
      refine r_goto d_Md_isWord_74 ?_
      refine n_icmp_eq d_Md_isWord_121 (by have h9 := (r3 ((tQ T w p) + 0) (by omega)).1; omega) (by omega) (fun h_0 => ?_) (fun h_0 => ?_)
      · refine n_iinc (c := 1) (L' := [some (.ref 436), some (.int (nI 111)), some (.int (nI 118)), some (.int (nI 101)), some (.int (nI 114)), some (.int (nI 0)), some (.int (nI 0)), some (.int (nI 4)), some (.int (nI 1))]) d_Md_isWord_126 rfl rfl (by decide) rfl ?_
        refine r_goto d_Md_isWord_129 ?_
        refine r_iload d_Md_isWord_49 rfl ?_
        refine r_iload d_Md_isWord_51 rfl ?_
        refine n_icmp_ge d_Md_isWord_53 (by omega) (by omega) (fun h9 => absurd h9 (by decide)) (fun _ => ?_)
        refine r_aload_n d_Md_isWord_56 rfl ?_
        refine g_getr (b := 437) d_Md_isWord_57 f_Md_7 rfl rfl rfl ?_
        refine r_aload_n d_Md_isWord_60 rfl ?_
        refine g_geti d_Md_isWord_61 f_Md_24 rfl rfl ?_
        refine r_top (y := (nI (tQ T w p))) (h2) ?_
        refine r_iload d_Md_isWord_64 rfl ?_
        refine n_iadd d_Md_isWord_66 ?_
        refine g_iald d_Md_isWord_67 rfl (by omega) (by omega) ?_
        refine r_top (y := nI (T ((tQ T w p) + 1))) ((r3 ((tQ T w p) + 1) (by omega)).2) ?_
        refine r_iload d_Md_isWord_68 rfl ?_
        refine n_if_ne d_Md_isWord_70 (by omega) (fun _ => ?_) (fun h9 => absurd h9 (by decide))
        refine r_iload d_Md_isWord_77 rfl ?_
        refine r_iconst (v := nI 1) d_Md_isWord_79 (by decide) ?_
        refine n_icmp_ne d_Md_isWord_80 (by omega) (by omega) (fun h9 => absurd h9 (by decide)) (fun _ => ?_)
        refine r_iload_n d_Md_isWord_83 rfl ?_
        refine r_goto d_Md_isWord_84 ?_
        refine n_icmp_eq d_Md_isWord_121 (by have h9 := (r3 ((tQ T w p) + 1) (by omega)).1; omega) (by omega) (fun h_1 => ?_) (fun h_1 => ?_)
        · refine n_iinc (c := 1) (L' := [some (.ref 436), some (.int (nI 111)), some (.int (nI 118)), some (.int (nI 101)), some (.int (nI 114)), some (.int (nI 0)), some (.int (nI 0)), some (.int (nI 4)), some (.int (nI 2))]) d_Md_isWord_126 rfl rfl (by decide) rfl ?_
          refine r_goto d_Md_isWord_129 ?_
          refine r_iload d_Md_isWord_49 rfl ?_
          refine r_iload d_Md_isWord_51 rfl ?_
          refine n_icmp_ge d_Md_isWord_53 (by omega) (by omega) (fun h9 => absurd h9 (by decide)) (fun _ => ?_)
          refine r_aload_n d_Md_isWord_56 rfl ?_
          refine g_getr (b := 437) d_Md_isWord_57 f_Md_7 rfl rfl rfl ?_
          refine r_aload_n d_Md_isWord_60 rfl ?_
          refine g_geti d_Md_isWord_61 f_Md_24 rfl rfl ?_
          refine r_top (y := (nI (tQ T w p))) (h2) ?_
          refine r_iload d_Md_isWord_64 rfl ?_
          refine n_iadd d_Md_isWord_66 ?_
          refine g_iald d_Md_isWord_67 rfl (by omega) (by omega) ?_
          refine r_top (y := nI (T ((tQ T w p) + 2))) ((r3 ((tQ T w p) + 2) (by omega)).2) ?_
          refine r_iload d_Md_isWord_68 rfl ?_
          refine n_if_ne d_Md_isWord_70 (by omega) (fun _ => ?_) (fun h9 => absurd h9 (by decide))
          refine r_iload d_Md_isWord_77 rfl ?_
          refine r_iconst (v := nI 1) d_Md_isWord_79 (by decide) ?_
          refine n_icmp_ne d_Md_isWord_80 (by omega) (by omega) (fun _ => ?_) (fun h9 => absurd h9 (by decide))
          refine r_iload d_Md_isWord_87 rfl ?_
          refine r_iconst (v := nI 2) d_Md_isWord_89 (by decide) ?_
          refine n_icmp_ne d_Md_isWord_90 (by omega) (by omega) (fun h9 => absurd h9 (by decide)) (fun _ => ?_)
          refine r_iload_n d_Md_isWord_93 rfl ?_
          refine r_goto d_Md_isWord_94 ?_
          refine n_icmp_eq d_Md_isWord_121 (by have h9 := (r3 ((tQ T w p) + 2) (by omega)).1; omega) (by omega) (fun h_2 => ?_) (fun h_2 => ?_)
          · refine n_iinc (c := 1) (L' := [some (.ref 436), some (.int (nI 111)), some (.int (nI 118)), some (.int (nI 101)), some (.int (nI 114)), some (.int (nI 0)), some (.int (nI 0)), some (.int (nI 4)), some (.int (nI 3))]) d_Md_isWord_126 rfl rfl (by decide) rfl ?_
            refine r_goto d_Md_isWord_129 ?_
            refine r_iload d_Md_isWord_49 rfl ?_
            refine r_iload d_Md_isWord_51 rfl ?_
            refine n_icmp_ge d_Md_isWord_53 (by omega) (by omega) (fun h9 => absurd h9 (by decide)) (fun _ => ?_)
            refine r_aload_n d_Md_isWord_56 rfl ?_
            refine g_getr (b := 437) d_Md_isWord_57 f_Md_7 rfl rfl rfl ?_
            refine r_aload_n d_Md_isWord_60 rfl ?_
            refine g_geti d_Md_isWord_61 f_Md_24 rfl rfl ?_
            refine r_top (y := (nI (tQ T w p))) (h2) ?_
            refine r_iload d_Md_isWord_64 rfl ?_
            refine n_iadd d_Md_isWord_66 ?_
            refine g_iald d_Md_isWord_67 rfl (by omega) (by omega) ?_
            refine r_top (y := nI (T ((tQ T w p) + 3))) ((r3 ((tQ T w p) + 3) (by omega)).2) ?_
            refine r_iload d_Md_isWord_68 rfl ?_
            refine n_if_ne d_Md_isWord_70 (by omega) (fun _ => ?_) (fun h9 => absurd h9 (by decide))
            refine r_iload d_Md_isWord_77 rfl ?_
            refine r_iconst (v := nI 1) d_Md_isWord_79 (by decide) ?_
            refine n_icmp_ne d_Md_isWord_80 (by omega) (by omega) (fun _ => ?_) (fun h9 => absurd h9 (by decide))
            refine r_iload d_Md_isWord_87 rfl ?_
            refine r_iconst (v := nI 2) d_Md_isWord_89 (by decide) ?_
            refine n_icmp_ne d_Md_isWord_90 (by omega) (by omega) (fun _ => ?_) (fun h9 => absurd h9 (by decide))
            refine r_iload d_Md_isWord_97 rfl ?_
            refine r_iconst (v := nI 3) d_Md_isWord_99 (by decide) ?_
            refine n_icmp_ne d_Md_isWord_100 (by omega) (by omega) (fun h9 => absurd h9 (by decide)) (fun _ => ?_)
            refine r_iload d_Md_isWord_103 rfl ?_
            refine r_goto d_Md_isWord_105 ?_
            refine n_icmp_eq d_Md_isWord_121 (by have h9 := (r3 ((tQ T w p) + 3) (by omega)).1; omega) (by omega) (fun h_3 => ?_) (fun h_3 => ?_)
            · refine n_iinc (c := 1) (L' := [some (.ref 436), some (.int (nI 111)), some (.int (nI 118)), some (.int (nI 101)), some (.int (nI 114)), some (.int (nI 0)), some (.int (nI 0)), some (.int (nI 4)), some (.int (nI 4))]) d_Md_isWord_126 rfl rfl (by decide) rfl ?_
              refine r_goto d_Md_isWord_129 ?_
              refine r_iload d_Md_isWord_49 rfl ?_
              refine r_iload d_Md_isWord_51 rfl ?_
              refine n_icmp_ge d_Md_isWord_53 (by omega) (by omega) (fun _ => ?_) (fun h9 => absurd h9 (by decide))
              refine r_iconst (v := nI 1) d_Md_isWord_132 (by decide) ?_
              refine g_retz d_Md_isWord_133 rfl (by decide) ?_
              refine ⟨Or.inl ⟨rfl, t9.mpr ⟨hl, fun j hj => ?_⟩⟩, rfl⟩
              have hj : j < 4 := hj
              rcases (show j = 0 ∨ j = 1 ∨ j = 2 ∨ j = 3 by omega) with rfl | rfl | rfl | rfl
              · exact h_0
              · exact h_1
              · exact h_2
              · exact h_3
            · refine r_iconst (v := nI 0) d_Md_isWord_124 (by decide) ?_
              refine g_retz d_Md_isWord_125 rfl (by decide) ?_
              exact ⟨Or.inr ⟨rfl, fun z => h_3 ((t9.mp z).2 3 (by decide))⟩, rfl⟩
          · refine r_iconst (v := nI 0) d_Md_isWord_124 (by decide) ?_
            refine g_retz d_Md_isWord_125 rfl (by decide) ?_
            exact ⟨Or.inr ⟨rfl, fun z => h_2 ((t9.mp z).2 2 (by decide))⟩, rfl⟩
        · refine r_iconst (v := nI 0) d_Md_isWord_124 (by decide) ?_
          refine g_retz d_Md_isWord_125 rfl (by decide) ?_
          exact ⟨Or.inr ⟨rfl, fun z => h_1 ((t9.mp z).2 1 (by decide))⟩, rfl⟩
      · refine r_iconst (v := nI 0) d_Md_isWord_124 (by decide) ?_
        refine g_retz d_Md_isWord_125 rfl (by decide) ?_
        exact ⟨Or.inr ⟨rfl, fun z => h_0 ((t9.mp z).2 0 (by decide))⟩, rfl⟩
    · refine r_iconst (v := nI 0) d_Md_isWord_44 (by decide) ?_
      refine g_retz d_Md_isWord_45 rfl (by decide) ?_
      exact ⟨Or.inr ⟨rfl, fun z => hl (t9.mp z).1⟩, rfl⟩
theorem c_Md_isWord_3 {p : Nat} (hR : MTp M T w) (hK : TM M T w p) : CI o l m_Md_isWord n [.ref 436, .int (nI 116), .int (nI 97), .int (nI 98), .int (nI 108), .int (nI 101), .int (nI 0)] M (fun r M' => BR r (tK T w p = 8) ∧ M = M') := by
  refine ci_of rfl rfl rfl (Nat.le_of_ble_eq_true rfl) ?_
  obtain ⟨r1, r2, r3⟩ := hR
  obtain ⟨h1, h2, k, e, h3, h4, h5, ⟨t1, t2, t3, t4, t5, t6, t7⟩, h7⟩ := hK
  have tq : tQ T w p ≤ w := tQ_le h1
  refine r_iload d_Md_isWord_0 rfl ?_
  refine n_if_ne d_Md_isWord_2 (by omega) (fun _ => ?_) (fun h9 => absurd h9 (by decide))
  refine r_iload d_Md_isWord_9 rfl ?_
  refine n_if_ne d_Md_isWord_11 (by omega) (fun h9 => absurd h9 (by decide)) (fun _ => ?_)
  refine r_iconst (v := nI 5) d_Md_isWord_14 (by decide) ?_
  refine r_goto d_Md_isWord_15 ?_
  refine r_istore (L' := [some (.ref 436), some (.int (nI 116)), some (.int (nI 97)), some (.int (nI 98)), some (.int (nI 108)), some (.int (nI 101)), some (.int (nI 0)), some (.int (nI 5)), none]) d_Md_isWord_20 (by decide) rfl ?_
  refine r_aload_n d_Md_isWord_22 rfl ?_
  refine g_geti d_Md_isWord_23 f_Md_27 rfl rfl ?_
  refine r_top (y := (nI k)) (h3) ?_
  refine r_iconst (v := nI 2) d_Md_isWord_26 (by decide) ?_
  refine n_icmp_ne d_Md_isWord_27 (by omega) (by omega) (fun hk => ?_) (fun hk => ?_)
  · refine r_iconst (v := nI 0) d_Md_isWord_44 (by decide) ?_
    refine g_retz d_Md_isWord_45 rfl (by decide) ?_
    exact ⟨Or.inr ⟨rfl, fun z => hk (t6 (by omega))⟩, rfl⟩
  · obtain ⟨t7, t8, t9⟩ := t7 hk
    have t9 := t9 3 (by decide)
    refine r_aload_n d_Md_isWord_30 rfl ?_
    refine g_geti d_Md_isWord_31 f_Md_21 rfl rfl ?_
    refine r_top (y := (nI e)) (h4) ?_
    refine r_aload_n d_Md_isWord_34 rfl ?_
    refine g_geti d_Md_isWord_35 f_Md_24 rfl rfl ?_
    refine r_top (y := (nI (tQ T w p))) (h2) ?_
    refine n_isub d_Md_isWord_38 (by omega) ?_
    refine r_iload d_Md_isWord_39 rfl ?_
    refine n_icmp_eq d_Md_isWord_41 (by omega) (by omega) (fun hl => ?_) (fun hl => ?_)
    · have hl : e - tQ T w p = 5 := hl
      refine r_iconst (v := nI 0) d_Md_isWord_46 (by decide) ?_
      refine r_istore (L' := [some (.ref 436), some (.int (nI 116)), some (.int (nI 97)), some (.int (nI 98)), some (.int (nI 108)), some (.int (nI 101)), some (.int (nI 0)), some (.int (nI 5)), some (.int (nI 0))]) d_Md_isWord_47 (by decide) rfl ?_
      refine r_iload d_Md_isWord_49 rfl ?_
      refine r_iload d_Md_isWord_51 rfl ?_
      refine n_icmp_ge d_Md_isWord_53 (by omega) (by omega) (fun h9 => absurd h9 (by decide)) (fun _ => ?_)
      refine r_aload_n d_Md_isWord_56 rfl ?_
      refine g_getr (b := 437) d_Md_isWord_57 f_Md_7 rfl rfl rfl ?_
      refine r_aload_n d_Md_isWord_60 rfl ?_
      refine g_geti d_Md_isWord_61 f_Md_24 rfl rfl ?_
      refine r_top (y := (nI (tQ T w p))) (h2) ?_
      refine r_iload d_Md_isWord_64 rfl ?_
      refine n_iadd d_Md_isWord_66 ?_
      refine g_iald d_Md_isWord_67 rfl (by omega) (by omega) ?_
      refine r_top (y := nI (T ((tQ T w p) + 0))) ((r3 ((tQ T w p) + 0) (by omega)).2) ?_
      refine r_iload d_Md_isWord_68 rfl ?_
      refine n_if_ne d_Md_isWord_70 (by omega) (fun h9 => absurd h9 (by decide)) (fun _ => ?_)
      refine r_iload_n d_Md_isWord_73 rfl ?_
      refine r_goto d_Md_isWord_74 ?_
      refine n_icmp_eq d_Md_isWord_121 (by have h9 := (r3 ((tQ T w p) + 0) (by omega)).1; omega) (by omega) (fun h_0 => ?_) (fun h_0 => ?_)
      · refine n_iinc (c := 1) (L' := [some (.ref 436), some (.int (nI 116)), some (.int (nI 97)), some (.int (nI 98)), some (.int (nI 108)), some (.int (nI 101)), some (.int (nI 0)), some (.int (nI 5)), some (.int (nI 1))]) d_Md_isWord_126 rfl rfl (by decide) rfl ?_
        refine r_goto d_Md_isWord_129 ?_
        refine r_iload d_Md_isWord_49 rfl ?_
        refine r_iload d_Md_isWord_51 rfl ?_
        refine n_icmp_ge d_Md_isWord_53 (by omega) (by omega) (fun h9 => absurd h9 (by decide)) (fun _ => ?_)
        refine r_aload_n d_Md_isWord_56 rfl ?_
        refine g_getr (b := 437) d_Md_isWord_57 f_Md_7 rfl rfl rfl ?_
        refine r_aload_n d_Md_isWord_60 rfl ?_
        refine g_geti d_Md_isWord_61 f_Md_24 rfl rfl ?_
        refine r_top (y := (nI (tQ T w p))) (h2) ?_
        refine r_iload d_Md_isWord_64 rfl ?_
        refine n_iadd d_Md_isWord_66 ?_
        refine g_iald d_Md_isWord_67 rfl (by omega) (by omega) ?_
        refine r_top (y := nI (T ((tQ T w p) + 1))) ((r3 ((tQ T w p) + 1) (by omega)).2) ?_
        refine r_iload d_Md_isWord_68 rfl ?_
        refine n_if_ne d_Md_isWord_70 (by omega) (fun _ => ?_) (fun h9 => absurd h9 (by decide))
        refine r_iload d_Md_isWord_77 rfl ?_
        refine r_iconst (v := nI 1) d_Md_isWord_79 (by decide) ?_
        refine n_icmp_ne d_Md_isWord_80 (by omega) (by omega) (fun h9 => absurd h9 (by decide)) (fun _ => ?_)
        refine r_iload_n d_Md_isWord_83 rfl ?_
        refine r_goto d_Md_isWord_84 ?_
        refine n_icmp_eq d_Md_isWord_121 (by have h9 := (r3 ((tQ T w p) + 1) (by omega)).1; omega) (by omega) (fun h_1 => ?_) (fun h_1 => ?_)
        · refine n_iinc (c := 1) (L' := [some (.ref 436), some (.int (nI 116)), some (.int (nI 97)), some (.int (nI 98)), some (.int (nI 108)), some (.int (nI 101)), some (.int (nI 0)), some (.int (nI 5)), some (.int (nI 2))]) d_Md_isWord_126 rfl rfl (by decide) rfl ?_
          refine r_goto d_Md_isWord_129 ?_
          refine r_iload d_Md_isWord_49 rfl ?_
          refine r_iload d_Md_isWord_51 rfl ?_
          refine n_icmp_ge d_Md_isWord_53 (by omega) (by omega) (fun h9 => absurd h9 (by decide)) (fun _ => ?_)
          refine r_aload_n d_Md_isWord_56 rfl ?_
          refine g_getr (b := 437) d_Md_isWord_57 f_Md_7 rfl rfl rfl ?_
          refine r_aload_n d_Md_isWord_60 rfl ?_
          refine g_geti d_Md_isWord_61 f_Md_24 rfl rfl ?_
          refine r_top (y := (nI (tQ T w p))) (h2) ?_
          refine r_iload d_Md_isWord_64 rfl ?_
          refine n_iadd d_Md_isWord_66 ?_
          refine g_iald d_Md_isWord_67 rfl (by omega) (by omega) ?_
          refine r_top (y := nI (T ((tQ T w p) + 2))) ((r3 ((tQ T w p) + 2) (by omega)).2) ?_
          refine r_iload d_Md_isWord_68 rfl ?_
          refine n_if_ne d_Md_isWord_70 (by omega) (fun _ => ?_) (fun h9 => absurd h9 (by decide))
          refine r_iload d_Md_isWord_77 rfl ?_
          refine r_iconst (v := nI 1) d_Md_isWord_79 (by decide) ?_
          refine n_icmp_ne d_Md_isWord_80 (by omega) (by omega) (fun _ => ?_) (fun h9 => absurd h9 (by decide))
          refine r_iload d_Md_isWord_87 rfl ?_
          refine r_iconst (v := nI 2) d_Md_isWord_89 (by decide) ?_
          refine n_icmp_ne d_Md_isWord_90 (by omega) (by omega) (fun h9 => absurd h9 (by decide)) (fun _ => ?_)
          refine r_iload_n d_Md_isWord_93 rfl ?_
          refine r_goto d_Md_isWord_94 ?_
          refine n_icmp_eq d_Md_isWord_121 (by have h9 := (r3 ((tQ T w p) + 2) (by omega)).1; omega) (by omega) (fun h_2 => ?_) (fun h_2 => ?_)
          · refine n_iinc (c := 1) (L' := [some (.ref 436), some (.int (nI 116)), some (.int (nI 97)), some (.int (nI 98)), some (.int (nI 108)), some (.int (nI 101)), some (.int (nI 0)), some (.int (nI 5)), some (.int (nI 3))]) d_Md_isWord_126 rfl rfl (by decide) rfl ?_
            refine r_goto d_Md_isWord_129 ?_
            refine r_iload d_Md_isWord_49 rfl ?_
            refine r_iload d_Md_isWord_51 rfl ?_
            refine n_icmp_ge d_Md_isWord_53 (by omega) (by omega) (fun h9 => absurd h9 (by decide)) (fun _ => ?_)
            refine r_aload_n d_Md_isWord_56 rfl ?_
            refine g_getr (b := 437) d_Md_isWord_57 f_Md_7 rfl rfl rfl ?_
            refine r_aload_n d_Md_isWord_60 rfl ?_
            refine g_geti d_Md_isWord_61 f_Md_24 rfl rfl ?_
            refine r_top (y := (nI (tQ T w p))) (h2) ?_
            refine r_iload d_Md_isWord_64 rfl ?_
            refine n_iadd d_Md_isWord_66 ?_
            refine g_iald d_Md_isWord_67 rfl (by omega) (by omega) ?_
            refine r_top (y := nI (T ((tQ T w p) + 3))) ((r3 ((tQ T w p) + 3) (by omega)).2) ?_
            refine r_iload d_Md_isWord_68 rfl ?_
            refine n_if_ne d_Md_isWord_70 (by omega) (fun _ => ?_) (fun h9 => absurd h9 (by decide))
            refine r_iload d_Md_isWord_77 rfl ?_
            refine r_iconst (v := nI 1) d_Md_isWord_79 (by decide) ?_
            refine n_icmp_ne d_Md_isWord_80 (by omega) (by omega) (fun _ => ?_) (fun h9 => absurd h9 (by decide))
            refine r_iload d_Md_isWord_87 rfl ?_
            refine r_iconst (v := nI 2) d_Md_isWord_89 (by decide) ?_
            refine n_icmp_ne d_Md_isWord_90 (by omega) (by omega) (fun _ => ?_) (fun h9 => absurd h9 (by decide))
            refine r_iload d_Md_isWord_97 rfl ?_
            refine r_iconst (v := nI 3) d_Md_isWord_99 (by decide) ?_
            refine n_icmp_ne d_Md_isWord_100 (by omega) (by omega) (fun h9 => absurd h9 (by decide)) (fun _ => ?_)
            refine r_iload d_Md_isWord_103 rfl ?_
            refine r_goto d_Md_isWord_105 ?_
            refine n_icmp_eq d_Md_isWord_121 (by have h9 := (r3 ((tQ T w p) + 3) (by omega)).1; omega) (by omega) (fun h_3 => ?_) (fun h_3 => ?_)
            · refine n_iinc (c := 1) (L' := [some (.ref 436), some (.int (nI 116)), some (.int (nI 97)), some (.int (nI 98)), some (.int (nI 108)), some (.int (nI 101)), some (.int (nI 0)), some (.int (nI 5)), some (.int (nI 4))]) d_Md_isWord_126 rfl rfl (by decide) rfl ?_
              refine r_goto d_Md_isWord_129 ?_
              refine r_iload d_Md_isWord_49 rfl ?_
              refine r_iload d_Md_isWord_51 rfl ?_
              refine n_icmp_ge d_Md_isWord_53 (by omega) (by omega) (fun h9 => absurd h9 (by decide)) (fun _ => ?_)
              refine r_aload_n d_Md_isWord_56 rfl ?_
              refine g_getr (b := 437) d_Md_isWord_57 f_Md_7 rfl rfl rfl ?_
              refine r_aload_n d_Md_isWord_60 rfl ?_
              refine g_geti d_Md_isWord_61 f_Md_24 rfl rfl ?_
              refine r_top (y := (nI (tQ T w p))) (h2) ?_
              refine r_iload d_Md_isWord_64 rfl ?_
              refine n_iadd d_Md_isWord_66 ?_
              refine g_iald d_Md_isWord_67 rfl (by omega) (by omega) ?_
              refine r_top (y := nI (T ((tQ T w p) + 4))) ((r3 ((tQ T w p) + 4) (by omega)).2) ?_
              refine r_iload d_Md_isWord_68 rfl ?_
              refine n_if_ne d_Md_isWord_70 (by omega) (fun _ => ?_) (fun h9 => absurd h9 (by decide))
              refine r_iload d_Md_isWord_77 rfl ?_
              refine r_iconst (v := nI 1) d_Md_isWord_79 (by decide) ?_
              refine n_icmp_ne d_Md_isWord_80 (by omega) (by omega) (fun _ => ?_) (fun h9 => absurd h9 (by decide))
              refine r_iload d_Md_isWord_87 rfl ?_
              refine r_iconst (v := nI 2) d_Md_isWord_89 (by decide) ?_
              refine n_icmp_ne d_Md_isWord_90 (by omega) (by omega) (fun _ => ?_) (fun h9 => absurd h9 (by decide))
              refine r_iload d_Md_isWord_97 rfl ?_
              refine r_iconst (v := nI 3) d_Md_isWord_99 (by decide) ?_
              refine n_icmp_ne d_Md_isWord_100 (by omega) (by omega) (fun _ => ?_) (fun h9 => absurd h9 (by decide))
              refine r_iload d_Md_isWord_108 rfl ?_
              refine r_iconst (v := nI 4) d_Md_isWord_110 (by decide) ?_
              refine n_icmp_ne d_Md_isWord_111 (by omega) (by omega) (fun h9 => absurd h9 (by decide)) (fun _ => ?_)
              refine r_iload d_Md_isWord_114 rfl ?_
              refine r_goto d_Md_isWord_116 ?_
              refine n_icmp_eq d_Md_isWord_121 (by have h9 := (r3 ((tQ T w p) + 4) (by omega)).1; omega) (by omega) (fun h_4 => ?_) (fun h_4 => ?_)
              · refine n_iinc (c := 1) (L' := [some (.ref 436), some (.int (nI 116)), some (.int (nI 97)), some (.int (nI 98)), some (.int (nI 108)), some (.int (nI 101)), some (.int (nI 0)), some (.int (nI 5)), some (.int (nI 5))]) d_Md_isWord_126 rfl rfl (by decide) rfl ?_
                refine r_goto d_Md_isWord_129 ?_
                refine r_iload d_Md_isWord_49 rfl ?_
                refine r_iload d_Md_isWord_51 rfl ?_
                refine n_icmp_ge d_Md_isWord_53 (by omega) (by omega) (fun _ => ?_) (fun h9 => absurd h9 (by decide))
                refine r_iconst (v := nI 1) d_Md_isWord_132 (by decide) ?_
                refine g_retz d_Md_isWord_133 rfl (by decide) ?_
                refine ⟨Or.inl ⟨rfl, t9.mpr ⟨hl, fun j hj => ?_⟩⟩, rfl⟩
                have hj : j < 5 := hj
                rcases (show j = 0 ∨ j = 1 ∨ j = 2 ∨ j = 3 ∨ j = 4 by omega) with rfl | rfl | rfl | rfl | rfl
                · exact h_0
                · exact h_1
                · exact h_2
                · exact h_3
                · exact h_4
              · refine r_iconst (v := nI 0) d_Md_isWord_124 (by decide) ?_
                refine g_retz d_Md_isWord_125 rfl (by decide) ?_
                exact ⟨Or.inr ⟨rfl, fun z => h_4 ((t9.mp z).2 4 (by decide))⟩, rfl⟩
            · refine r_iconst (v := nI 0) d_Md_isWord_124 (by decide) ?_
              refine g_retz d_Md_isWord_125 rfl (by decide) ?_
              exact ⟨Or.inr ⟨rfl, fun z => h_3 ((t9.mp z).2 3 (by decide))⟩, rfl⟩
          · refine r_iconst (v := nI 0) d_Md_isWord_124 (by decide) ?_
            refine g_retz d_Md_isWord_125 rfl (by decide) ?_
            exact ⟨Or.inr ⟨rfl, fun z => h_2 ((t9.mp z).2 2 (by decide))⟩, rfl⟩
        · refine r_iconst (v := nI 0) d_Md_isWord_124 (by decide) ?_
          refine g_retz d_Md_isWord_125 rfl (by decide) ?_
          exact ⟨Or.inr ⟨rfl, fun z => h_1 ((t9.mp z).2 1 (by decide))⟩, rfl⟩
      · refine r_iconst (v := nI 0) d_Md_isWord_124 (by decide) ?_
        refine g_retz d_Md_isWord_125 rfl (by decide) ?_
        exact ⟨Or.inr ⟨rfl, fun z => h_0 ((t9.mp z).2 0 (by decide))⟩, rfl⟩
    · refine r_iconst (v := nI 0) d_Md_isWord_44 (by decide) ?_
      refine g_retz d_Md_isWord_45 rfl (by decide) ?_
      exact ⟨Or.inr ⟨rfl, fun z => hl (t9.mp z).1⟩, rfl⟩
theorem c_Md_readEnd {p : Nat} (hR : MTp M T w) (hK : TM M T w p) : CI o l m_Md_readEnd n [.ref 436] M (fun r M' => KRd M M' ∧ ((r = nI 1 ∧ tK T w p = 3 ∧ NF M M' ∧ TM M' T w (tE T w p)) ∨ (r = nI 0 ∧ tK T w p ≠ 3 ∧ FLt M' 1 (tQ T w p)))) := by
  refine ci_of rfl rfl rfl (Nat.le_of_ble_eq_true rfl) ?_
  obtain ⟨h1, h2, k, e, h3, h4, h5, ⟨t1, t2, t3, t4, t5, t6, t7⟩, h7⟩ := id hK
  refine r_aload_n d_Md_readEnd_0 rfl ?_
  refine g_geti d_Md_readEnd_1 f_Md_27 rfl rfl ?_
  refine r_top (y := (nI k)) (h3) ?_
  refine r_iconst (v := nI 4) d_Md_readEnd_4 (by decide) ?_
  refine n_icmp_eq d_Md_readEnd_5 (by omega) (by omega) (fun hk => ?_) (fun hk => ?_)
  · have e3 := t4.mpr hk
    refine r_aload_n d_Md_readEnd_14 rfl ?_
    refine g_Vv (av := []) d_Md_readEnd_15 k_Md_112 ws_Md_next (by decide) rfl rfl (Nat.le_of_ble_eq_true rfl) rfl (c_Md_step hR hK (by omega)) ?_
    rintro M1 ⟨g1, g2⟩
    refine r_iconst (v := nI 1) d_Md_readEnd_18 (by decide) ?_
    refine g_retz d_Md_readEnd_19 rfl (by decide) ?_
    exact ⟨g1.kr, Or.inl ⟨rfl, e3, g1, g2⟩⟩
  · refine r_aload_n d_Md_readEnd_8 rfl ?_
    refine r_iconst (v := nI 1) d_Md_readEnd_9 (by decide) ?_
    refine g_Vi (av := [.int (nI 1)]) d_Md_readEnd_10 k_Md_115 ws_Md_bad (by decide) rfl rfl (Nat.le_of_ble_eq_true rfl) rfl (c_Md_bad hK (Or.inr rfl)) ?_
    rintro r M1 ⟨rfl, g1, g2⟩
    refine g_retz d_Md_readEnd_13 rfl (by decide) ?_
    exact ⟨g2.kr, Or.inr ⟨rfl, fun z => hk (t4.mp z), g1⟩⟩
theorem c_Md_readSize {p : Nat} (hR : MTp M T w) (hK : TM M T w p) (h5 : tK T w p = 5) (hC : AM M 439 0 C0) : CI o l m_Md_readSize n [.ref 436] M (fun r M' => KRd M M' ∧ ((r = nI 1 ∧ sizL T w p = (if tK T w (tE T w (tE T w p)) ≠ 3 then (1, tQ T w (tE T w (tE T w p)), 0, p) else (0, 0, tV T w (tE T w p), tE T w (tE T w (tE T w p)))) ∧ 2 ≤ tV T w (tE T w p) ∧ tV T w (tE T w p) ≤ 10 ∧ TM M' T w (tE T w (tE T w p)) ∧ AM M' 439 0 (szC (tV T w (tE T w p))) ∧ ∀ k, (k = 8 ∨ k = 18 ∨ k = 19) → M' 436 k = M 436 k) ∨ (r = nI 0 ∧ (sizL T w p).1 ≠ 0 ∧ FLt M' (sizL T w p).1 (sizL T w p).2.1))) := by
  refine ci_of rfl rfl rfl (Nat.le_of_ble_eq_true rfl) ?_
  unfold sizL
  rw [if_neg (fun z => z h5)]
  refine r_aload_n d_Md_readSize_0 rfl ?_
  refine g_Vv (av := []) d_Md_readSize_1 k_Md_112 ws_Md_next (by decide) rfl rfl (Nat.le_of_ble_eq_true rfl) rfl (c_Md_step hR hK (by omega)) ?_
  rintro M1 ⟨g1, g2⟩
  generalize tE T w p = p1 at *
  obtain ⟨a1, a2, k, e, a3, a4, a5, ⟨t1, t2, t3, t4, t5, t6, t7⟩, a7⟩ := id g2
  refine r_aload_n d_Md_readSize_4 rfl ?_
  refine g_geti d_Md_readSize_5 f_Md_27 rfl rfl ?_
  refine r_top (y := (nI k)) (a3) ?_
  refine r_iconst (v := nI 3) d_Md_readSize_8 (by decide) ?_
  refine n_icmp_eq d_Md_readSize_9 (by omega) (by omega) (fun hk => ?_) (fun hk => ?_)
  · have e2 := t3.mpr hk
    have v9 := tV_lt e2
    rw [if_neg (fun z => z e2)]
    refine r_aload_n d_Md_readSize_18 rfl ?_
    refine g_geti d_Md_readSize_19 f_Md_37 rfl rfl ?_
    refine r_top (y := (nI (tV T w p1))) (a7 e2) ?_
    refine r_iconst (v := nI 2) d_Md_readSize_22 (by decide) ?_
    refine r_bipush (v := nI 10) d_Md_readSize_23 (by decide) ?_
    refine g_Si (av := [.int (nI (tV T w p1)), .int (nI 2), .int (nI 10)]) d_Md_readSize_25 k_Md_118 ws_Md_isIn (by decide) rfl rfl (Nat.le_of_ble_eq_true rfl) (c_Md_isIn) ?_
    rintro r _ ⟨⟨rfl, h9⟩ | ⟨rfl, h9⟩, rfl⟩
    · have q1 := (nI_leI (by decide) (by omega)).mp h9.1
      have q2 := (nI_leI (by omega) (by decide)).mp h9.2
      rw [if_neg (by omega)]
      refine n_if_ne d_Md_readSize_28 (by omega) (fun _ => ?_) (fun h9 => absurd h9 (by decide))
      refine r_aload_n d_Md_readSize_37 rfl ?_
      refine g_getr (b := 439) d_Md_readSize_38 f_Md_59 rfl rfl rfl ?_
      refine r_iconst (v := nI 0) d_Md_readSize_41 (by decide) ?_
      refine r_aload_n d_Md_readSize_42 rfl ?_
      refine g_geti d_Md_readSize_43 f_Md_37 rfl rfl ?_
      refine r_top (y := (nI (tV T w p1))) (a7 e2) ?_
      refine g_iast d_Md_readSize_46 rfl (by omega) (by omega) ?_
      refine r_aload_n d_Md_readSize_47 rfl ?_
      have g3 : TM (upm M1 439 0 (nI (tV T w p1))) T w p1 := g2.kept (fun k _ _ => by rw [upm_ne _ _ _ (by decide)])
      have kr : KRd M (upm M1 439 0 (nI (tV T w p1))) := g1.kr.row (Or.inl rfl)
      refine g_Vv (av := []) d_Md_readSize_48 k_Md_112 ws_Md_next (by decide) rfl rfl (Nat.le_of_ble_eq_true rfl) rfl (c_Md_step (hR.kr kr) g3 (by omega)) ?_
      rintro M2 ⟨g4, g5⟩
      refine r_iconst (v := nI 1) d_Md_readSize_51 (by decide) ?_
      refine g_retz d_Md_readSize_52 rfl (by decide) ?_
      refine ⟨kr.trans g4.kr, Or.inl ⟨rfl, rfl, q1, q2, g5, ?_, fun k hk => by rw [g4.2 k (by omega) (by omega) (by omega) (by omega), upm_ne _ _ _ (by decide), g1.2 k (by omega) (by omega) (by omega) (by omega)]⟩⟩
      refine AM.kept (M := upm M1 439 0 (nI (tV T w p1))) ?_ (g4.1 439 (by decide))
      exact (hC.kept (g1.1 439 (by decide))).set (nw_szC _)
    · refine n_if_ne d_Md_readSize_28 (by omega) (fun h9 => absurd h9 (by decide)) (fun _ => ?_)
      refine r_aload_n d_Md_readSize_31 rfl ?_
      refine r_iconst (v := nI 2) d_Md_readSize_32 (by decide) ?_
      rw [if_pos (by
        rcases Nat.lt_or_ge (tV T w p1) 2 with h | h
        · exact Or.inl h
        · rcases Nat.lt_or_ge 10 (tV T w p1) with h2 | h2
          · exact Or.inr h2
          · exact absurd ⟨(nI_leI (by decide) (by omega)).mpr h, (nI_leI (by omega) (by decide)).mpr h2⟩ h9)]
      refine g_Vi (av := [.int (nI 2)]) d_Md_readSize_33 k_Md_115 ws_Md_bad (by decide) rfl rfl (Nat.le_of_ble_eq_true rfl) rfl (c_Md_bad g2 (Or.inl (by omega))) ?_
      rintro r M2 ⟨rfl, g3, g4⟩
      refine g_retz d_Md_readSize_36 rfl (by decide) ?_
      exact ⟨g1.kr.trans g4.kr, Or.inr ⟨rfl, Nat.succ_ne_zero 1, g3⟩⟩
  · rw [if_pos (fun z => hk (t3.mp z))]
    refine r_aload_n d_Md_readSize_12 rfl ?_
    refine r_iconst (v := nI 1) d_Md_readSize_13 (by decide) ?_
    refine g_Vi (av := [.int (nI 1)]) d_Md_readSize_14 k_Md_115 ws_Md_bad (by decide) rfl rfl (Nat.le_of_ble_eq_true rfl) rfl (c_Md_bad g2 (Or.inr rfl)) ?_
    rintro r M2 ⟨rfl, g3, g4⟩
    refine g_retz d_Md_readSize_17 rfl (by decide) ?_
    exact ⟨g1.kr.trans g4.kr, Or.inr ⟨rfl, Nat.one_ne_zero, g3⟩⟩
theorem c_Md_readSum {c s bb p : Nat} (hR : MTp M T w) (hK : TM M T w p) (hc : c = 443 ∨ c = 444) (hs : M 439 0 = nI s) (hs0 : 1 ≤ s) (hs1 : s ≤ 10) (hbb : bb < 2) : CI o l m_Md_readSum n [.ref 436, .ref c, .int (nI bb)] M (PSum M T w c (rdS T w bb s 0 p (fun _ => 0))) := by
  refine ci_of rfl rfl rfl (Nat.le_of_ble_eq_true rfl) ?_
  have hgc : gT c = (1, 10) := by rcases hc with rfl | rfl <;> rfl
  generalize hres : rdS T w bb s 0 p (fun _ => 0) = res
  refine r_iconst (v := nI 0) d_Md_readSum_0 (by decide) ?_
  refine r_istore_n (L' := [some (.ref 436), some (.ref c), some (.int (nI bb)), some (.int (nI 0)), none]) d_Md_readSum_1 (by decide) rfl ?_
  refine lp (a := 0) (N := 10) (R := fun k M' => Rn o l m_Md_readSum (0, 0) 2 [some (.ref 436), some (.ref c), some (.int (nI bb)), some (.int (nI k)), none] [] (gh n M') (QI n (PSum M T w c res))) (P := fun k M' => MW M c k (fun _ => 0) M') (by omega) ?_ ?_ ?_
  · exact MW.z M c _
  · intro M1 g1
    refine r_iload_n d_Md_readSum_2 rfl ?_
    refine r_bipush (v := nI 10) d_Md_readSum_3 (by decide) ?_
    refine n_icmp_ge d_Md_readSum_5 (by omega) (by omega) (fun _ => ?_) (fun h9 => absurd h9 (by omega))
    refine r_iconst (v := nI 0) d_Md_readSum_18 (by decide) ?_
    refine r_istore_n (L' := [some (.ref 436), some (.ref c), some (.int (nI bb)), some (.int (nI 0)), none]) d_Md_readSum_19 (by decide) rfl ?_
    suffices H : ∀ d i p row M2 u, i + d = s → rdS T w bb d i p row = res → TM M2 T w p → (∀ j, j < 10 → M2 c j = nI (row j)) → (∀ b, b ≠ 436 → b ≠ c → M2 b = M b) → (∀ k, (k < 4 ∨ 8 ≤ k) → M2 436 k = M 436 k) → Rn o l m_Md_readSum (0, 0) 20 [some (.ref 436), some (.ref c), some (.int (nI bb)), some (.int (nI i)), u] [] (gh n M2) (QI n (PSum M T w c res)) from
      H s 0 p (fun _ => 0) M1 _ (by omega) hres (hK.kept (fun k _ _ => by rw [g1.1 436 (by omega)])) g1.2 (fun b b1 b2 => g1.1 b b2) (fun k _ => by rw [g1.1 436 (by omega)])
    clear hres hK g1
    intro d
    induction d with
    | zero =>
      intro i p row M2 u hi hr hK hrow f1 f2
      obtain rfl : i = s := by omega
      have hr : ((0, 0), row, p) = res := hr
      subst hr
      obtain ⟨a1, a2, k, e, a3, a4, a5, ⟨t1, t2, t3, t4, t5, t6, t7⟩, a7⟩ := id hK
      have bad : (tK T w p = 2 ∨ tK T w p = 4) → Rn o l m_Md_readSum (0, 0) 40 [some (.ref 436), some (.ref c), some (.int (nI bb)), some (.int (nI i)), u] [] (gh n M2) (QI n (PSum M T w c ((0, 0), row, p))) := by
        intro hh
        refine r_iload_n d_Md_readSum_40 rfl ?_
        refine r_aload_n d_Md_readSum_41 rfl ?_
        refine g_getr (b := 439) d_Md_readSum_42 f_Md_59 rfl rfl rfl ?_
        refine r_iconst (v := nI 0) d_Md_readSum_45 (by decide) ?_
        refine g_iald d_Md_readSum_46 rfl (by omega) (by omega) ?_
        refine r_top (y := nI i) (by rw [f1 439 (by decide) (by omega)]; exact hs) ?_
        refine n_icmp_ne d_Md_readSum_47 (by omega) (by omega) (fun hq => ?_) (fun hq => ?_)
        · exact absurd rfl hq
        · refine r_aload_n d_Md_readSum_50 rfl ?_
          refine r_iconst (v := nI 1) d_Md_readSum_51 (by decide) ?_
          refine g_Vi (av := [.int (nI 1)]) d_Md_readSum_52 k_Md_115 ws_Md_bad (by decide) rfl rfl (Nat.le_of_ble_eq_true rfl) rfl (c_Md_bad hK (Or.inr rfl)) ?_
          rintro r M3 ⟨rfl, g3, g4⟩
          refine g_retz d_Md_readSum_55 rfl (by decide) ?_
          exact ⟨fun b b1 b2 => by rw [g4.1 b b1]; exact f1 b b1 b2, fun k hk => by rw [g4.2 k (by omega) (by omega)]; exact f2 k (by omega), Or.inr ⟨rfl, Or.inr ⟨rfl, hh, g3⟩⟩⟩
      refine r_iload_n d_Md_readSum_20 rfl ?_
      refine n_if_eq d_Md_readSum_21 (by omega) (fun h0 => ?_) (fun h0 => ?_)
      · omega
      · refine r_aload_n d_Md_readSum_24 rfl ?_
        refine g_geti d_Md_readSum_25 f_Md_27 rfl rfl ?_
        refine r_top (y := (nI k)) (a3) ?_
        refine r_iconst (v := nI 3) d_Md_readSum_28 (by decide) ?_
        refine n_icmp_eq d_Md_readSum_29 (by omega) (by omega) (fun hk3 => ?_) (fun hk3 => ?_)
        · exact bad (Or.inl (t3.mpr hk3))
        · refine r_aload_n d_Md_readSum_32 rfl ?_
          refine g_geti d_Md_readSum_33 f_Md_27 rfl rfl ?_
          refine r_top (y := (nI k)) (a3) ?_
          refine r_iconst (v := nI 5) d_Md_readSum_36 (by decide) ?_
          refine n_icmp_ne d_Md_readSum_37 (by omega) (by omega) (fun hk5 => ?_) (fun hk5 => ?_)
          · refine r_iconst (v := nI 1) d_Md_readSum_150 (by decide) ?_
            refine g_retz d_Md_readSum_151 rfl (by decide) ?_
            exact ⟨f1, fun k hk => f2 k (by omega), Or.inl ⟨rfl, rfl, fun z => hk3 (t3.mp z), fun z => hk5 (t5.mp z), f2 8 (by omega), hK, hrow⟩⟩
          · exact bad (Or.inr (t5.mpr hk5))
    | succ d ih =>
      intro i p row M2 u hi hr hK hrow f1 f2
      obtain ⟨a1, a2, k, e, a3, a4, a5, ⟨t1, t2, t3, t4, t5, t6, t7⟩, a7⟩ := id hK
      have hR2 : MTp M2 T w := ⟨by rw [f2 3 (by omega)]; exact hR.1, hR.2.1, by rw [f1 437 (by decide) (by omega)]; exact hR.2.2⟩
      have body : ¬ (0 < i ∧ tK T w p ≠ 4 ∧ tK T w p ≠ 2) → Rn o l m_Md_readSum (0, 0) 40 [some (.ref 436), some (.ref c), some (.int (nI bb)), some (.int (nI i)), u] [] (gh n M2) (QI n (PSum M T w c res)) := by
        intro hb
        rw [rdS, if_neg hb] at hr
        have part2 : ∀ ls M3 p1, ((ls = 1 ∧ tK T w p = 4) ∨ (ls = 0 ∧ tK T w p ≠ 4)) → p1 = (if tK T w p = 4 then tE T w p else p) → TM M3 T w p1 → NF M2 M3 → Rn o l m_Md_readSum (0, 0) 80 [some (.ref 436), some (.ref c), some (.int (nI bb)), some (.int (nI i)), some (.int (nI ls))] [] (gh n M3) (QI n (PSum M T w c res)) := by
          intro ls M3 p1 hls hp1 hK1 hN
          rw [← hp1] at hr
          obtain ⟨b1, b2, k1, e1, b3, b4, b5, ⟨u1, u2, u3, u4, u5, u6, u7⟩, b7⟩ := id hK1
          have hR3 : MTp M3 T w := hR2.nf hN
          have fin : ∀ M4 K q r, FLt M4 K q → BD M3 M4 → res.1 = (K, q) → K ≠ 0 → r = nI 0 → PSum M T w c res r M4 := by
            intro M4 K q r g3 g4 hq hK9 hr9
            refine ⟨fun b b1 b2 => by rw [g4.1 b b1, hN.1 b b1]; exact f1 b b1 b2, fun k hk => by rw [g4.2 k (by omega) (by omega), hN.2 k (by omega) (by omega) (by omega) (by omega)]; exact f2 k (by omega), Or.inr ⟨hr9, Or.inl ?_⟩⟩
            rw [hq]
            exact ⟨hK9, g3⟩
          refine r_aload_n d_Md_readSum_80 rfl ?_
          refine g_geti d_Md_readSum_81 f_Md_27 rfl rfl ?_
          refine r_top (y := (nI k1)) (b3) ?_
          refine r_iconst (v := nI 3) d_Md_readSum_84 (by decide) ?_
          refine n_icmp_eq d_Md_readSum_85 (by omega) (by omega) (fun hk1 => ?_) (fun hk1 => ?_)
          · have e2 := u3.mpr hk1
            have v9 := tV_lt e2
            rw [if_neg (fun z => z e2)] at hr
            have st : ¬ (i = 0 ∧ bb = 1 ∧ tV T w p1 = 0) → Rn o l m_Md_readSum (0, 0) 115 [some (.ref 436), some (.ref c), some (.int (nI bb)), some (.int (nI i)), some (.int (nI ls))] [] (gh n M3) (QI n (PSum M T w c res)) := by
              intro hno
              rw [if_neg hno] at hr
              have nx : ∀ v, v = (if tK T w p = 4 then sb 0 (tV T w (tE T w p)) else tV T w p) → Rn o l m_Md_readSum (0, 0) 139 [some (.ref 436), some (.ref c), some (.int (nI bb)), some (.int (nI i)), some (.int (nI ls))] [.int (nI v), .int (nI i), .ref c] (gh n M3) (QI n (PSum M T w c res)) := by
                intro v hv
                rw [← hv] at hr
                refine g_iast d_Md_readSum_139 hgc (by omega) (by omega) ?_
                refine n_iinc (c := 1) (L' := [some (.ref 436), some (.ref c), some (.int (nI bb)), some (.int (nI (i + 1))), some (.int (nI ls))]) d_Md_readSum_140 rfl rfl (by decide) rfl ?_
                refine r_aload_n d_Md_readSum_143 rfl ?_
                have hK3 : TM (upm M3 c i (nI v)) T w p1 := hK1.kept (fun k _ _ => by rw [upm_ne _ _ _ (by omega)])
                have hR4 : MTp (upm M3 c i (nI v)) T w := ⟨by rw [upm_ne _ _ _ (by omega)]; exact hR3.1, hR3.2.1, by rw [upm_ne _ _ _ (by omega)]; exact hR3.2.2⟩
                refine g_Vv (av := []) d_Md_readSum_144 k_Md_112 ws_Md_next (by decide) rfl rfl (Nat.le_of_ble_eq_true rfl) rfl (c_Md_step hR4 hK3 (by omega)) ?_
                rintro M5 ⟨g1, g2⟩
                refine r_goto d_Md_readSum_147 ?_
                refine ih (i + 1) _ _ _ _ (by omega) hr g2 (fun j hj => ?_) (fun b b1 b2 => by rw [g1.1 b b1, upm_ne _ _ _ b2, hN.1 b b1]; exact f1 b b1 b2) (fun k hk => by rw [g1.2 k (by omega) (by omega) (by omega) (by omega), upm_ne _ _ _ (by omega), hN.2 k (by omega) (by omega) (by omega) (by omega)]; exact f2 k hk)
                rw [g1.1 c (by omega), upm_at]
                show _ = nI (if j = i then v else row j)
                by_cases ej : j = i
                · rw [if_pos ej, if_pos ej]
                · rw [if_neg ej, if_neg ej, hN.1 c (by omega)]
                  exact hrow j hj
              rcases hls with ⟨rfl, h4⟩ | ⟨rfl, h4⟩
              · rw [if_pos h4] at hp1
                refine r_aload_n d_Md_readSum_115 rfl ?_
                refine r_iload_n d_Md_readSum_116 rfl ?_
                refine r_iload d_Md_readSum_117 rfl ?_
                refine n_if_eq d_Md_readSum_119 (by omega) (fun h9 => absurd h9 (by decide)) (fun _ => ?_)
                refine r_aload_n d_Md_readSum_122 rfl ?_
                refine g_geti d_Md_readSum_123 f_Md_37 rfl rfl ?_
                refine r_top (y := (nI (tV T w p1))) (b7 e2) ?_
                refine r_ineg d_Md_readSum_126 ?_
                refine r_i2l d_Md_readSum_127 ?_
                refine r_goto d_Md_readSum_128 ?_
                refine g_Si (av := [.long ((-(nI (tV T w p1))).toInt64)]) d_Md_readSum_136 k_Md_109 ws_Md_rest (by decide) rfl rfl (Nat.le_of_ble_eq_true rfl) (c_Md_restI) ?_
                rintro _ _ ⟨rfl, rfl⟩
                exact nx _ (by rw [if_pos h4, fm_neg v9, hp1])
              · rw [if_neg h4] at hp1
                refine r_aload_n d_Md_readSum_115 rfl ?_
                refine r_iload_n d_Md_readSum_116 rfl ?_
                refine r_iload d_Md_readSum_117 rfl ?_
                refine n_if_eq d_Md_readSum_119 (by omega) (fun _ => ?_) (fun h9 => absurd h9 (by decide))
                refine r_aload_n d_Md_readSum_131 rfl ?_
                refine g_geti d_Md_readSum_132 f_Md_37 rfl rfl ?_
                refine r_top (y := (nI (tV T w p1))) (b7 e2) ?_
                refine n_i2l d_Md_readSum_135 (by omega) ?_
                refine g_Si (av := [.long (lN (tV T w p1))]) d_Md_readSum_136 k_Md_109 ws_Md_rest (by decide) rfl rfl (Nat.le_of_ble_eq_true rfl) (c_Md_restN (by omega)) ?_
                rintro _ _ ⟨rfl, rfl⟩
                exact nx _ (by rw [if_neg h4, rst_id (by omega), hp1])
            refine r_iload_n d_Md_readSum_94 rfl ?_
            refine n_if_eq d_Md_readSum_95 (by omega) (fun hb0 => ?_) (fun hb0 => ?_)
            · exact st (fun z => by omega)
            · refine r_iload_n d_Md_readSum_98 rfl ?_
              refine n_if_ne d_Md_readSum_99 (by omega) (fun hi0 => ?_) (fun hi0 => ?_)
              · exact st (fun z => hi0 z.1)
              · refine r_aload_n d_Md_readSum_102 rfl ?_
                refine g_geti d_Md_readSum_103 f_Md_37 rfl rfl ?_
                refine r_top (y := (nI (tV T w p1))) (b7 e2) ?_
                refine n_if_ne d_Md_readSum_106 (by omega) (fun hv0 => ?_) (fun hv0 => ?_)
                · exact st (fun z => hv0 z.2.2)
                · refine r_aload_n d_Md_readSum_109 rfl ?_
                  refine r_iconst (v := nI 2) d_Md_readSum_110 (by decide) ?_
                  refine g_Vi (av := [.int (nI 2)]) d_Md_readSum_111 k_Md_115 ws_Md_bad (by decide) rfl rfl (Nat.le_of_ble_eq_true rfl) rfl (c_Md_bad hK1 (Or.inl (by omega))) ?_
                  rintro r M4 ⟨hr9, g3, g4⟩
                  rw [if_pos ⟨hi0, by omega, hv0⟩] at hr
                  refine g_retz d_Md_readSum_114 rfl (by rw [hr9]; decide) ?_
                  exact fin M4 2 _ r g3 g4 (by rw [← hr]) (by decide) hr9
          · rw [if_pos (fun z => hk1 (u3.mp z))] at hr
            refine r_aload_n d_Md_readSum_88 rfl ?_
            refine r_iconst (v := nI 1) d_Md_readSum_89 (by decide) ?_
            refine g_Vi (av := [.int (nI 1)]) d_Md_readSum_90 k_Md_115 ws_Md_bad (by decide) rfl rfl (Nat.le_of_ble_eq_true rfl) rfl (c_Md_bad hK1 (Or.inr rfl)) ?_
            rintro r M4 ⟨hr9, g3, g4⟩
            refine g_retz d_Md_readSum_93 rfl (by rw [hr9]; decide) ?_
            exact fin M4 1 _ r g3 g4 (by rw [← hr]) (by decide) hr9
        refine r_iload_n d_Md_readSum_40 rfl ?_
        refine r_aload_n d_Md_readSum_41 rfl ?_
        refine g_getr (b := 439) d_Md_readSum_42 f_Md_59 rfl rfl rfl ?_
        refine r_iconst (v := nI 0) d_Md_readSum_45 (by decide) ?_
        refine g_iald d_Md_readSum_46 rfl (by omega) (by omega) ?_
        refine r_top (y := nI s) (by rw [f1 439 (by decide) (by omega)]; exact hs) ?_
        refine n_icmp_ne d_Md_readSum_47 (by omega) (by omega) (fun hq => ?_) (fun hq => ?_)
        · refine r_aload_n d_Md_readSum_56 rfl ?_
          refine g_geti d_Md_readSum_57 f_Md_27 rfl rfl ?_
          refine r_top (y := (nI k)) (a3) ?_
          refine r_iconst (v := nI 5) d_Md_readSum_60 (by decide) ?_
          refine n_icmp_ne d_Md_readSum_61 (by omega) (by omega) (fun h5 => ?_) (fun h5 => ?_)
          · refine r_iconst (v := nI 0) d_Md_readSum_68 (by decide) ?_
            refine r_istore (L' := [some (.ref 436), some (.ref c), some (.int (nI bb)), some (.int (nI i)), some (.int (nI 0))]) d_Md_readSum_69 (by decide) rfl ?_
            refine r_iload d_Md_readSum_71 rfl ?_
            refine n_if_eq d_Md_readSum_73 (by omega) (fun _ => ?_) (fun h9 => absurd h9 (by decide))
            exact part2 0 M2 p (Or.inr ⟨rfl, fun z => h5 (t5.mp z)⟩) (by rw [if_neg (fun z => h5 (t5.mp z))]) hK NF.rf
          · have e4 := t5.mpr h5
            refine r_iconst (v := nI 1) d_Md_readSum_64 (by decide) ?_
            refine r_goto d_Md_readSum_65 ?_
            refine r_istore (L' := [some (.ref 436), some (.ref c), some (.int (nI bb)), some (.int (nI i)), some (.int (nI 1))]) d_Md_readSum_69 (by decide) rfl ?_
            refine r_iload d_Md_readSum_71 rfl ?_
            refine n_if_eq d_Md_readSum_73 (by omega) (fun h9 => absurd h9 (by decide)) (fun _ => ?_)
            refine r_aload_n d_Md_readSum_76 rfl ?_
            refine g_Vv (av := []) d_Md_readSum_77 k_Md_112 ws_Md_next (by decide) rfl rfl (Nat.le_of_ble_eq_true rfl) rfl (c_Md_step hR2 hK (by omega)) ?_
            rintro M3 ⟨g1, g2⟩
            exact part2 1 M3 _ (Or.inl ⟨rfl, e4⟩) (by rw [if_pos e4]) g2 g1
        · omega
      refine r_iload_n d_Md_readSum_20 rfl ?_
      refine n_if_eq d_Md_readSum_21 (by omega) (fun h0 => ?_) (fun h0 => ?_)
      · exact body (fun z => by omega)
      · refine r_aload_n d_Md_readSum_24 rfl ?_
        refine g_geti d_Md_readSum_25 f_Md_27 rfl rfl ?_
        refine r_top (y := (nI k)) (a3) ?_
        refine r_iconst (v := nI 3) d_Md_readSum_28 (by decide) ?_
        refine n_icmp_eq d_Md_readSum_29 (by omega) (by omega) (fun hk3 => ?_) (fun hk3 => ?_)
        · exact body (fun z => z.2.2 (t3.mpr hk3))
        · refine r_aload_n d_Md_readSum_32 rfl ?_
          refine g_geti d_Md_readSum_33 f_Md_27 rfl rfl ?_
          refine r_top (y := (nI k)) (a3) ?_
          refine r_iconst (v := nI 5) d_Md_readSum_36 (by decide) ?_
          refine n_icmp_ne d_Md_readSum_37 (by omega) (by omega) (fun hk5 => ?_) (fun hk5 => ?_)
          · rw [rdS, if_pos ⟨by omega, fun z => hk5 (t5.mp z), fun z => hk3 (t3.mp z)⟩] at hr
            subst hr
            refine r_iconst (v := nI 1) d_Md_readSum_150 (by decide) ?_
            refine g_retz d_Md_readSum_151 rfl (by decide) ?_
            exact ⟨f1, fun k hk => f2 k (by omega), Or.inl ⟨rfl, rfl, fun z => hk3 (t3.mp z), fun z => hk5 (t5.mp z), f2 8 (by omega), hK, hrow⟩⟩
          · exact body (fun z => z.2.1 (t5.mpr hk5))
  · intro k M1 hk g1 ih
    refine r_iload_n d_Md_readSum_2 rfl ?_
    refine r_bipush (v := nI 10) d_Md_readSum_3 (by decide) ?_
    refine n_icmp_ge d_Md_readSum_5 (by omega) (by omega) (fun h9 => absurd h9 (by omega)) (fun _ => ?_)
    refine r_aload_n d_Md_readSum_8 rfl ?_
    refine r_iload_n d_Md_readSum_9 rfl ?_
    refine r_iconst (v := nI 0) d_Md_readSum_10 (by decide) ?_
    refine g_iast d_Md_readSum_11 hgc (by omega) (by omega) ?_
    refine n_iinc (c := 1) (L' := [some (.ref 436), some (.ref c), some (.int (nI bb)), some (.int (nI (k + 1))), none]) d_Md_readSum_12 rfl rfl (by decide) rfl ?_
    refine r_goto d_Md_readSum_15 ?_
    refine ih _ ?_
    exact g1.up rfl
theorem c_Md_makesTable {c g f : Nat} {x0 y0 y1 : Nat} (hc : gT c = (1, 241)) (hg : g < 241) (hf : f + 1 < 241) (h0 : M c g = nI x0 ∧ x0 < 1000003) (h1 : M c f = nI y0 ∧ y0 < 1000003) (h2 : M c (f + 1) = nI y1 ∧ y1 < 1000003) : CI o l m_Md_makesTable n [.ref c, .int (nI g), .int (nI f)] M (fun r M' => BR r (x0 ≠ 0 ∧ y0 = 0 ∧ y1 ≠ 0) ∧ M = M') := by
  refine ci_of rfl rfl rfl (Nat.le_of_ble_eq_true rfl) ?_
  refine r_aload_n d_Md_makesTable_0 rfl ?_
  refine r_iload_n d_Md_makesTable_1 rfl ?_
  refine g_iald d_Md_makesTable_2 hc (by omega) (by omega) ?_
  refine r_top (y := nI x0) (h0.1) ?_
  refine n_if_eq d_Md_makesTable_3 (by have h9 := h0.2; omega) (fun c0 => ?_) (fun c0 => ?_)
  · refine r_iconst (v := nI 0) d_Md_makesTable_24 (by decide) ?_
    refine g_retz d_Md_makesTable_25 rfl (by decide) ?_
    exact ⟨Or.inr ⟨rfl, fun z => z.1 c0⟩, rfl⟩
  · refine r_aload_n d_Md_makesTable_6 rfl ?_
    refine r_iload_n d_Md_makesTable_7 rfl ?_
    refine g_iald d_Md_makesTable_8 hc (by omega) (by omega) ?_
    refine r_top (y := nI y0) (h1.1) ?_
    refine n_if_ne d_Md_makesTable_9 (by have h9 := h1.2; omega) (fun c1 => ?_) (fun c1 => ?_)
    · refine r_iconst (v := nI 0) d_Md_makesTable_24 (by decide) ?_
      refine g_retz d_Md_makesTable_25 rfl (by decide) ?_
      exact ⟨Or.inr ⟨rfl, fun z => c1 z.2.1⟩, rfl⟩
    · refine r_aload_n d_Md_makesTable_12 rfl ?_
      refine r_iload_n d_Md_makesTable_13 rfl ?_
      refine r_iconst (v := nI 1) d_Md_makesTable_14 (by decide) ?_
      refine n_iadd d_Md_makesTable_15 ?_
      refine g_iald d_Md_makesTable_16 hc (by omega) (by omega) ?_
      refine r_top (y := nI y1) (h2.1) ?_
      refine n_if_eq d_Md_makesTable_17 (by have h9 := h2.2; omega) (fun c2 => ?_) (fun c2 => ?_)
      · refine r_iconst (v := nI 0) d_Md_makesTable_24 (by decide) ?_
        refine g_retz d_Md_makesTable_25 rfl (by decide) ?_
        exact ⟨Or.inr ⟨rfl, fun z => z.2.2 c2⟩, rfl⟩
      · refine r_iconst (v := nI 1) d_Md_makesTable_20 (by decide) ?_
        refine r_goto d_Md_makesTable_21 ?_
        refine g_retz d_Md_makesTable_25 rfl (by decide) ?_
        exact ⟨Or.inl ⟨rfl, c0, c1, c2⟩, rfl⟩
end C68
