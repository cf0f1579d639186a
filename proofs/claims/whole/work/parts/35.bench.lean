theorem cf_congr {x x' y y' : Nat → Nat} {i : Nat} (hx : ∀ j, j ≤ i → x j = x' j) (hy : ∀ j, j ≤ i → y j = y' j) : cf x y i = cf x' y' i := by
  unfold cf
  rw [cs_congr (fun j hj => hx j (by omega)) hy]
theorem dv_congr {x x' y y' : Nat → Nat} {i : Nat} (hx : ∀ j, j ≤ i → x j = x' j) (hy : ∀ j, j ≤ i → y j = y' j) : dv x y i = dv x' y' i := by
  induction i using Nat.strongRecOn with
  | ind i ih =>
    rw [dv_eq x y, dv_eq x' y', hx i (Nat.le_refl _), hy 0 (Nat.zero_le _), cs_congr (x := dv x y) (x' := dv x' y') (y := y) (y' := y') (fun j hj => ih j hj (fun k hk => hx k (by omega)) (fun k hk => hy k (by omega))) hy]
theorem upm_at (M : Mem) (a k j : Nat) (v : Int32) : upm M a k v a j = if j = k then v else M a j := by simp [upm]
theorem hn_lt {x y : Nat → Nat} {s : Nat} (hx : ∀ i, i < 10 → x i < 1000003) (hs : s ≤ 10) (d j : Nat) : hn x y s d j < 1000003 := by
  induction d generalizing j with
  | zero => simp [hn]
  | succ d ih =>
    simp only [hn]
    split
    · exact hx _ (by omega)
    · split
      · exact cf_lt _ _ _
      · exact ih j
def Ok (M : Mem) (a : Nat) : Prop := ∃ x, OKr M a x
theorem OKr.ok {M : Mem} {a : Nat} {x : Nat → Nat} (h : OKr M a x) : Ok M a := ⟨x, h⟩
theorem Ok.kept {M M' : Mem} {a : Nat} (h : Ok M a) (e : M' a = M a) : Ok M' a := by
  obtain ⟨x, hx⟩ := h
  exact ⟨x, fun j hj => by rw [e]; exact hx j hj⟩
theorem OKr.kept {M M' : Mem} {a : Nat} {x : Nat → Nat} (h : OKr M a x) (e : M' a = M a) : OKr M' a x := fun j hj => by rw [e]; exact h j hj
/-- a row becomes another one, of which the first s are told -/
def RS (M : Mem) (q s : Nat) (w : Nat → Nat) (M' : Mem) : Prop := ∃ w', RW M q w' M' ∧ (∀ j, j < 10 → w' j < 1000003) ∧ ∀ j, j < s → w' j = w j
theorem RS.ne {M M' : Mem} {q s b : Nat} {w : Nat → Nat} (h : RS M q s w M') (hb : b ≠ q) : M' b = M b := by
  obtain ⟨w', h1, -⟩ := h; exact h1.ne hb
theorem RS.ok {M M' : Mem} {q s : Nat} {w : Nat → Nat} (h : RS M q s w M') : Ok M' q := by
  obtain ⟨w', h1, h2, -⟩ := h; exact ⟨w', h1.ok h2⟩
theorem RS.at {M M' : Mem} {q s j : Nat} {w : Nat → Nat} (h : RS M q s w M') (hs : s ≤ 10) (hj : j < s) : M' q j = nI (w j) := by
  obtain ⟨w', h1, h2, h3⟩ := h
  rw [h1.at (by omega), h3 j hj]
def isSb (q : Nat) : Prop := gT q = (12, 0) ∧ gR q 0 = some (q + 1) ∧ gR q 1 = some (q + 2) ∧ gR q 2 = some (q + 3) ∧ gT (q + 1) = (1, 10) ∧ gT (q + 2) = (1, 10) ∧ gT (q + 3) = (1, 10)
theorem isSb_393 : isSb 393 := by unfold isSb; decide
theorem isSb_432 : isSb 432 := by unfold isSb; decide
def oneS (j : Nat) : Nat := if j = 0 then 1 else 0
/-- t by a, as far as it is told -/
def uu (x : Nat → Nat) (s j : Nat) : Nat := if j < s - 1 then x (j + 1) else 0
def qp (x : Nat → Nat) (s : Nat) : Nat → Nat → Nat
  | 0 => dv oneS (uu x s)
  | k + 1 => fun j => cf (qp x s k) (dv oneS (uu x s)) j
theorem qp_lt (x : Nat → Nat) (s k j : Nat) : qp x s k j < 1000003 := by
  cases k with
  | zero => exact dv_lt _ _ _
  | succ k => exact cf_lt _ _ _
/-- the reverse -/
def rvs (x : Nat → Nat) (s j : Nat) : Nat := if j = 0 then 0 else qp x s (j - 1) (j - 1) * nv j % 1000003
theorem rvs_lt (x : Nat → Nat) (s j : Nat) : rvs x s j < 1000003 := by
  unfold rvs; split
  · decide
  · exact Nat.mod_lt _ (by decide)
def cmb (h : Nat) (x y : Nat → Nat) (s j : Nat) : Nat := if h = 0 then (x j + y j) % 1000003 else if h = 1 then sb (x j) (y j) else if h = 2 then cf x y j else if h = 3 then dv x y j else hn x y s s j
def cmbOk (h : Nat) (y : Nat → Nat) : Prop := h < 5 ∧ (h = 3 → y 0 ≠ 0) ∧ (h = 4 → y 0 = 0)
def ml (s : Nat) (z x : Nat → Nat) (j : Nat) : Nat := if j < s then cf z x j else z j
def rz (x : Nat → Nat) (k s : Nat) : Nat → Nat → Nat
  | 0 => oneS
  | i + 1 => if k / 2 ^ (6 - i) % 2 = 0 then ml s (rz x k s i) (rz x k s i) else ml s (ml s (rz x k s i) (rz x k s i)) x
theorem ml_lt {s : Nat} {z x : Nat → Nat} {j : Nat} (h : z j < 1000003) : ml s z x j < 1000003 := by
  unfold ml; split
  · exact cf_lt _ _ _
  · exact h
theorem rz_lt (x : Nat → Nat) (k s i j : Nat) : rz x k s i j < 1000003 := by
  induction i with
  | zero => unfold rz oneS; split <;> decide
  | succ i ih =>
    unfold rz
    split
    · exact ml_lt ih
    · exact ml_lt (ml_lt ih)
theorem bit_k : ∀ k, k < 100 → ∀ b, b < 7 → (nI k >>> (nI b &&& 31)) &&& nI 1 = nI (k / 2 ^ b % 2) := by decide +kernel
section C35
variable {o : OM} {l : Launch} {n : Nat} {M : Mem}
theorem c_Sb_reverse {q a c s : Nat} {x : Nat → Nat} (hq : isSb q) (ha : gT a = (1, 10)) (hc : gT c = (1, 10)) (hs0 : 2 ≤ s) (hs : s ≤ 10) (ha2 : a ≠ q + 2) (hc2 : c ≠ q + 2) (hc3 : c ≠ q + 3) (hx : OKr M a x) (hcO : Ok M c) (h2O : Ok M (q + 2)) :
    CV o l m_Sb_reverse n [.ref q, .ref a, .int (nI s), .ref c] M (fun M' => (∀ b, b ≠ c → b ≠ q + 2 → b ≠ q + 3 → M' b = M b) ∧ (∀ j, j < s → M' c j = nI (rvs x s j)) ∧ Ok M' c ∧ Ok M' (q + 2) ∧ Ok M' (q + 3)) := by
  refine cvo_of rfl rfl rfl (Nat.le_of_ble_eq_true rfl) ?_
  obtain ⟨q0, q1, q2, q3, q4, q5, q6⟩ := id hq
  obtain ⟨wc, hwc⟩ := hcO
  obtain ⟨w2, hw2⟩ := h2O
  refine r_aload_n d_Sb_reverse_0 rfl ?_
  refine r_iload_n d_Sb_reverse_1 rfl ?_
  refine r_aload_n d_Sb_reverse_2 rfl ?_
  refine g_getr (b := (q+2)) d_Sb_reverse_3 f_Sb_15 rfl (by rw [q0]) q2 ?_
  refine g_Sv (av := [.ref a, .int (nI s), .ref (q+2)]) d_Sb_reverse_6 k_Sb_46 ws_Rw_oneAhead (by decide) rfl rfl (Nat.le_of_ble_eq_true rfl) (c_Rw_oneAhead ha q5 ha2 (by omega) hs hx (fun j hj => (hw2 j hj).1)) ?_
  rintro M1 h1
  refine r_aload_n d_Sb_reverse_9 rfl ?_
  refine g_getr (b := (q+3)) d_Sb_reverse_10 f_Sb_18 rfl (by rw [q0]) q3 ?_
  refine r_iconst (v := nI 1) d_Sb_reverse_13 (by decide) ?_
  refine g_Sv (av := [.ref (q+3), .int (nI 1)]) d_Sb_reverse_14 k_Sb_64 ws_Rw_becomeNumber (by decide) rfl rfl (Nat.le_of_ble_eq_true rfl) (c_Rw_becomeNumber q6) ?_
  rintro M2 h2
  refine r_aload_n d_Sb_reverse_17 rfl ?_
  refine g_getr (b := (q+3)) d_Sb_reverse_18 f_Sb_18 rfl (by rw [q0]) q3 ?_
  refine r_aload_n d_Sb_reverse_21 rfl ?_
  refine g_getr (b := (q+2)) d_Sb_reverse_22 f_Sb_15 rfl (by rw [q0]) q2 ?_
  refine r_iload_n d_Sb_reverse_25 rfl ?_
  have k1 : OKr M1 (q + 2) (fun j => if j < s - 1 then x (j + 1) else if j = s - 1 then 0 else w2 j) := h1.ok (fun j hj => by
    by_cases e : j < s - 1
    · rw [if_pos e]; exact (hx _ (by omega)).2
    · rw [if_neg e]; split
      · decide
      · exact (hw2 j hj).2)
  have k2 : OKr M2 (q + 2) (fun j => if j < s - 1 then x (j + 1) else if j = s - 1 then 0 else w2 j) := h2.okn (by omega) k1
  have k3 : OKr M2 (q + 3) (fun j => if j = 0 then 1 else 0) := h2.ok (fun j hj => by split <;> decide)
  refine g_Sv (av := [.ref (q+3), .ref (q+2), .int (nI s)]) d_Sb_reverse_26 k_Sb_39 ws_Rw_divide (by decide) rfl rfl (Nat.le_of_ble_eq_true rfl) (c_Rw_divide q6 q5 (by omega) hs k3 k2) ?_
  rintro M3 h3
  have e3 : ∀ j, j < s → M3 (q + 3) j = nI (qp x s 0 j) := fun j hj => by
    rw [h3.at (by omega), if_pos hj]
    congr 1
    exact dv_congr (fun i _ => rfl) (fun i hi => by
      unfold uu
      by_cases e : i < s - 1
      · rw [if_pos e, if_pos e]
      · rw [if_neg e, if_neg e, if_pos (by omega)])
  have k5 : OKr M3 (q + 3) (fun j => if j < s then dv (fun j => if j = 0 then 1 else 0) (fun j => if j < s - 1 then x (j + 1) else if j = s - 1 then 0 else w2 j) j else if j = 0 then 1 else 0) := h3.ok (fun j hj => by
    split
    · exact dv_lt _ _ _
    · split <;> decide)
  refine r_aload_n d_Sb_reverse_29 rfl ?_
  refine g_getr (b := (q+3)) d_Sb_reverse_30 f_Sb_18 rfl (by rw [q0]) q3 ?_
  refine r_iconst (v := nI 0) d_Sb_reverse_33 (by decide) ?_
  refine r_aload_n d_Sb_reverse_34 rfl ?_
  refine g_getr (b := (q+2)) d_Sb_reverse_35 f_Sb_15 rfl (by rw [q0]) q2 ?_
  refine r_iconst (v := nI 0) d_Sb_reverse_38 (by decide) ?_
  refine r_iload_n d_Sb_reverse_39 rfl ?_
  refine g_copy d_Sb_reverse_40 k_Sb_21 (by decide) q6 q5 (by omega) (by omega) (by omega) (Nat.le_of_ble_eq_true rfl) ?_
  generalize hM4 : wr M3 (q + 2) (va_cpy (M3 (q + 3)) (M3 (q + 2)) 0 0 s) = M4
  have e4 : ∀ b, b ≠ q + 2 → M4 b = M3 b := fun b hb => by rw [← hM4, wr_ne _ _ hb]
  have e5 : ∀ j, j < s → M4 (q + 2) j = nI (qp x s 0 j) := fun j hj => by
    rw [← hM4, wr_eq, va_cpy, if_pos (by omega), Nat.zero_add, Nat.sub_zero, e3 j hj]
  have e6 : ∀ j, j < 10 → s ≤ j → M4 (q + 2) j = nI (w2 j) := fun j hj hsj => by
    rw [← hM4, wr_eq, va_cpy, if_neg (by omega), h3.ne (by omega), (k2 j hj).1]; dsimp only; rw [if_neg (by omega), if_neg (by omega)]
  refine r_aload_n d_Sb_reverse_43 rfl ?_
  refine r_iconst (v := nI 0) d_Sb_reverse_44 (by decide) ?_
  refine r_iconst (v := nI 0) d_Sb_reverse_45 (by decide) ?_
  refine g_iast d_Sb_reverse_46 hc (by omega) (by omega) ?_
  refine r_iconst (v := nI 1) d_Sb_reverse_47 (by decide) ?_
  refine r_istore (L' := [some (.ref q), some (.ref a), some (.int (nI s)), some (.ref c), some (.int (nI 1))]) d_Sb_reverse_48 (by decide) rfl ?_
  generalize hM5 : upm M4 c 0 (nI 0) = M5
  have f0 : ∀ b, b ≠ c → M5 b = M4 b := fun b hb => by rw [← hM5, upm_ne _ _ _ hb]
  have g1 : M4 c = M c := by rw [e4 c hc2, h3.ne hc3, h2.ne hc3, h1.ne hc2]
  suffices H : ∀ d k M6, k + d = s → 1 ≤ k → (∀ b, b ≠ c → b ≠ q + 2 → M6 b = M4 b) → (∀ j, j < 10 → M6 c j = nI (if j < k then rvs x s j else wc j)) → (∀ j, j < 10 → M6 (q + 2) j = nI (if j < s then qp x s (k - 1) j else w2 j)) → Rn o l m_Sb_reverse (0, 0) 50 [some (.ref q), some (.ref a), some (.int (nI s)), some (.ref c), some (.int (nI k))] [] (gh n M6) (QV n fun M' => (∀ b, b ≠ c → b ≠ q + 2 → b ≠ q + 3 → M' b = M b) ∧ (∀ j, j < s → M' c j = nI (rvs x s j)) ∧ Ok M' c ∧ Ok M' (q + 2) ∧ Ok M' (q + 3)) by
    refine H (s - 1) 1 M5 (by omega) (Nat.le_refl _) (fun b hb _ => f0 b hb) (fun j hj => ?_) (fun j hj => ?_)
    · rw [← hM5, upm_at]
      by_cases e : j = 0
      · subst e; simp [rvs]
      · rw [if_neg e, if_neg (by omega), g1]; exact (hwc j hj).1
    · rw [f0 _ (fun e => hc2 e.symm)]
      by_cases e : j < s
      · rw [if_pos e]; exact e5 j e
      · rw [if_neg e]; exact e6 j hj (by omega)
  intro d
  induction d with
  | zero =>
    intro k M6 hk hk1 m1 m2 m3
    obtain rfl : k = s := by omega
    refine r_iload d_Sb_reverse_50 rfl ?_
    refine r_iload_n d_Sb_reverse_52 rfl ?_
    refine n_icmp_ge d_Sb_reverse_53 (by omega) (by omega) (fun hb => ?_) (fun hb => ?_)
    · refine g_retv d_Sb_reverse_95 rfl ?_
      refine ⟨fun b b1 b2 b3 => ?_, fun j hj => ?_, ?_, ?_, ?_⟩
      · rw [m1 b b1 b2, e4 b b2, h3.ne b3, h2.ne b3, h1.ne b2]
      · rw [m2 j (by omega), if_pos hj]
      · exact ⟨_, fun j hj => ⟨m2 j hj, by split; exact rvs_lt _ _ _; exact (hwc j hj).2⟩⟩
      · exact ⟨_, fun j hj => ⟨m3 j hj, by split; exact qp_lt _ _ _ _; exact (hw2 j hj).2⟩⟩
      · exact (k5.ok).kept (by rw [m1 _ (fun e => hc3 e.symm) (by omega), e4 _ (by omega)])
    · omega
  | succ d ih =>
    intro k M6 hk hk1 m1 m2 m3
    refine r_iload d_Sb_reverse_50 rfl ?_
    refine r_iload_n d_Sb_reverse_52 rfl ?_
    refine n_icmp_ge d_Sb_reverse_53 (by omega) (by omega) (fun hb => ?_) (fun hb => ?_)
    · omega
    · refine r_aload_n d_Sb_reverse_56 rfl ?_
      refine r_iload d_Sb_reverse_57 rfl ?_
      refine r_aload_n d_Sb_reverse_59 rfl ?_
      refine g_getr (b := (q+2)) d_Sb_reverse_60 f_Sb_15 rfl (by rw [q0]) q2 ?_
      refine r_iload d_Sb_reverse_63 rfl ?_
      refine r_iconst (v := nI 1) d_Sb_reverse_65 (by decide) ?_
      refine n_isub d_Sb_reverse_66 (by omega) ?_
      refine g_iald d_Sb_reverse_67 q5 (by omega) (by omega) ?_
      refine r_top (y := nI (qp x s (k - 1) (k - 1))) ((m3 (k - 1) (by omega)).trans (by rw [if_pos (by omega)])) ?_
      refine r_iload d_Sb_reverse_68 rfl ?_
      refine g_Si (av := [.int (nI k)]) d_Sb_reverse_70 k_Sb_71 ws_Rw_inverse (by decide) rfl rfl (Nat.le_of_ble_eq_true rfl) (c_Rw_inverse (by omega)) ?_
      rintro r M7 ⟨rfl, rfl⟩
      refine g_Si (av := [.int (nI (qp x s (k - 1) (k - 1))), .int (nI (nv k))]) d_Sb_reverse_73 k_Sb_67 ws_Rw_product (by decide) rfl rfl (Nat.le_of_ble_eq_true rfl) (c_Rw_product (qp_lt _ _ _ _) (nv_lt _)) ?_
      rintro r M7 ⟨rfl, rfl⟩
      refine g_iast d_Sb_reverse_76 hc (by omega) (by omega) ?_
      refine r_aload_n d_Sb_reverse_77 rfl ?_
      refine g_getr (b := (q+2)) d_Sb_reverse_78 f_Sb_15 rfl (by rw [q0]) q2 ?_
      refine r_aload_n d_Sb_reverse_81 rfl ?_
      refine g_getr (b := (q+3)) d_Sb_reverse_82 f_Sb_18 rfl (by rw [q0]) q3 ?_
      refine r_iload_n d_Sb_reverse_85 rfl ?_
      generalize hM7 : upm M6 c k (nI (qp x s (k - 1) (k - 1) * nv k % 1000003)) = M7
      have p0 : ∀ b, b ≠ c → M7 b = M6 b := fun b hb => by rw [← hM7, upm_ne _ _ _ hb]
      have p1 : OKr M7 (q + 2) (fun j => if j < s then qp x s (k - 1) j else w2 j) := fun j hj => ⟨by rw [p0 _ (fun e => hc2 e.symm)]; exact m3 j hj, by dsimp only; split; exact qp_lt _ _ _ _; exact (hw2 j hj).2⟩
      have p2 : OKr M7 (q + 3) _ := k5.kept (by rw [p0 _ (fun e => hc3 e.symm), m1 _ (fun e => hc3 e.symm) (by omega), e4 _ (by omega)])
      refine g_Sv (av := [.ref (q+2), .ref (q+3), .int (nI s)]) d_Sb_reverse_86 k_Sb_36 ws_Rw_multiply (by decide) rfl rfl (Nat.le_of_ble_eq_true rfl) (c_Rw_multiply q5 q6 (by omega) (by omega) hs p1 p2) ?_
      rintro M8 h8
      refine n_iinc (c := 1) (L' := [some (.ref q), some (.ref a), some (.int (nI s)), some (.ref c), some (.int (nI (k + 1)))]) d_Sb_reverse_89 rfl rfl (by decide) rfl ?_
      refine r_goto d_Sb_reverse_92 ?_
      refine ih (k + 1) M8 (by omega) (by omega) (fun b b1 b2 => by rw [h8.ne b2, p0 b b1, m1 b b1 b2]) (fun j hj => ?_) (fun j hj => ?_)
      · rw [h8.ne hc2, ← hM7, upm_at]
        by_cases e : j = k
        · subst e; rw [if_pos rfl, if_pos (by omega), rvs, if_neg (by omega)]
        · rw [if_neg e, m2 j hj]
          by_cases e2 : j < k
          · rw [if_pos e2, if_pos (by omega)]
          · rw [if_neg e2, if_neg (by omega)]
      · rw [h8.at hj]
        by_cases e : j < s
        · rw [if_pos e, if_pos e]
          congr 1
          obtain ⟨k', rfl⟩ : ∃ k', k = k' + 1 := ⟨k - 1, by omega⟩
          show _ = cf (qp x s k') (dv oneS (uu x s)) j
          refine cf_congr (fun i hi => by rw [if_pos (by omega)]; rfl) (fun i hi => ?_)
          rw [if_pos (by omega)]
          refine dv_congr (fun i _ => rfl) (fun i2 hi2 => ?_)
          unfold uu
          by_cases e9 : i2 < s - 1
          · rw [if_pos e9, if_pos e9]
          · rw [if_neg e9, if_neg e9, if_pos (by omega)]
        · rw [if_neg e, if_neg e, if_neg e]
theorem c_Sb_combine {a b s : Nat} {how : Int32} {x y : Nat → Nat} (ha : gT a = (1, 10)) (hb : gT b = (1, 10)) (ha4 : a ≠ 394) (hb4 : b ≠ 394) (hs0 : 2 ≤ s) (hs : s ≤ 10) (hx : OKr M a x) (hy : OKr M b y) :
    CI o l m_Sb_combine n [.ref 393, .ref a, .ref b, .int how, .int (nI s)] M (fun r M' => (∃ w, RS M 394 s w M') ∧ ((∃ h, how = nI h ∧ cmbOk h y ∧ r = nI 1 ∧ RS M 394 s (cmb h x y s) M') ∨ ((∀ h, how = nI h → ¬ cmbOk h y) ∧ r = nI 0))) := by
  refine ci_of rfl rfl rfl (Nat.le_of_ble_eq_true rfl) ?_
  refine r_aload_n d_Sb_combine_0 rfl ?_
  refine r_iconst (v := nI 0) d_Sb_combine_1 (by decide) ?_
  refine r_aload_n d_Sb_combine_2 rfl ?_
  refine g_getr (b := 394) d_Sb_combine_3 f_Sb_9 rfl rfl rfl ?_
  refine r_iconst (v := nI 0) d_Sb_combine_6 (by decide) ?_
  refine r_bipush (v := nI 10) d_Sb_combine_7 (by decide) ?_
  refine g_copy d_Sb_combine_9 k_Sb_21 (by decide) ha rfl (by omega) (by omega) (by omega) (Nat.le_of_ble_eq_true rfl) ?_
  generalize hM1 : wr M 394 (va_cpy (M a) (M 394) 0 0 10) = M1
  have h1 : RW M 394 x M1 := ⟨_, hM1.symm, fun j hj => by rw [va_cpy, if_pos (by omega), Nat.zero_add, Nat.sub_zero]; exact (hx j hj).1⟩
  have o1 : OKr M1 394 x := h1.ok (fun j hj => (hx j hj).2)
  have o2 : OKr M1 b y := h1.okn hb4 hy
  have o3 : OKr M1 a x := h1.okn ha4 hx
  rcases pk_ix how (n := 5) (by decide) with hlt | hge | ⟨h, hh, rfl⟩
  · refine r_iload_n d_Sb_combine_12 rfl ?_
    refine r_tsOut (tgt := 125) d_Sb_combine_13 (Or.inl (by have := Int32.lt_iff_toInt_lt.mp hlt; simpa using this)) rfl ?_
    refine r_iconst (v := nI 0) d_Sb_combine_125 (by decide) ?_
    refine g_retz d_Sb_combine_126 rfl (by decide) ?_
    refine ⟨⟨x, x, h1, fun j hj => (hx j hj).2, fun _ _ => rfl⟩, Or.inr ⟨fun h e q => ?_, rfl⟩⟩
    rw [e] at hlt
    exact nI_pos (by have := q.1; omega) hlt
  · refine r_iload_n d_Sb_combine_12 rfl ?_
    refine r_tsOut (tgt := 125) d_Sb_combine_13 (Or.inr (by have := Int32.le_iff_toInt_le.mp hge; rw [nI_toInt (by omega)] at this; omega)) rfl ?_
    refine r_iconst (v := nI 0) d_Sb_combine_125 (by decide) ?_
    refine g_retz d_Sb_combine_126 rfl (by decide) ?_
    refine ⟨⟨x, x, h1, fun j hj => (hx j hj).2, fun _ _ => rfl⟩, Or.inr ⟨fun h e q => ?_, rfl⟩⟩
    rw [e] at hge
    have h5 := q.1
    exact absurd ((nI_leI (by omega) (by omega)).mp hge) (by omega)
  · rcases (show h = 0 ∨ h = 1 ∨ h = 2 ∨ h = 3 ∨ h = 4 by omega) with rfl | rfl | rfl | rfl | rfl
    · refine r_iload_n d_Sb_combine_12 rfl ?_
      refine r_tsIn (tgt := 48) d_Sb_combine_13 (by decide) (by decide) rfl rfl ?_
      refine r_aload_n d_Sb_combine_48 rfl ?_
      refine g_getr (b := 394) d_Sb_combine_49 f_Sb_9 rfl rfl rfl ?_
      refine r_aload_n d_Sb_combine_52 rfl ?_
      refine r_iload d_Sb_combine_53 rfl ?_
      refine g_Sv (av := [.ref 394, .ref b, .int (nI s)]) d_Sb_combine_55 k_Sb_27 ws_Rw_add (by decide) rfl rfl (Nat.le_of_ble_eq_true rfl) (c_Rw_add rfl hb hb4 hs o1 o2) ?_
      rintro M2 h2
      refine r_iconst (v := nI 1) d_Sb_combine_58 (by decide) ?_
      refine g_retz d_Sb_combine_59 rfl (by decide) ?_
      have k1 : RS M 394 s (cmb 0 x y s) M2 := ⟨_, h1.trans h2, fun j hj => by split; exact Nat.mod_lt _ (by decide); exact (hx j hj).2, fun j hj => by rw [if_pos hj]; rfl⟩
      exact ⟨⟨_, k1⟩, Or.inl ⟨0, rfl, ⟨by decide, fun e => absurd e (by decide), fun e => absurd e (by decide)⟩, rfl, k1⟩⟩
    · refine r_iload_n d_Sb_combine_12 rfl ?_
      refine r_tsIn (tgt := 60) d_Sb_combine_13 (by decide) (by decide) rfl rfl ?_
      refine r_aload_n d_Sb_combine_60 rfl ?_
      refine g_getr (b := 394) d_Sb_combine_61 f_Sb_9 rfl rfl rfl ?_
      refine r_aload_n d_Sb_combine_64 rfl ?_
      refine r_iload d_Sb_combine_65 rfl ?_
      refine g_Sv (av := [.ref 394, .ref b, .int (nI s)]) d_Sb_combine_67 k_Sb_33 ws_Rw_subtract (by decide) rfl rfl (Nat.le_of_ble_eq_true rfl) (c_Rw_subtract rfl hb hb4 hs o1 o2) ?_
      rintro M2 h2
      refine r_iconst (v := nI 1) d_Sb_combine_70 (by decide) ?_
      refine g_retz d_Sb_combine_71 rfl (by decide) ?_
      have k1 : RS M 394 s (cmb 1 x y s) M2 := ⟨_, h1.trans h2, fun j hj => by split; exact sb_lt _ _; exact (hx j hj).2, fun j hj => by rw [if_pos hj]; rfl⟩
      exact ⟨⟨_, k1⟩, Or.inl ⟨1, rfl, ⟨by decide, fun e => absurd e (by decide), fun e => absurd e (by decide)⟩, rfl, k1⟩⟩
    · refine r_iload_n d_Sb_combine_12 rfl ?_
      refine r_tsIn (tgt := 72) d_Sb_combine_13 (by decide) (by decide) rfl rfl ?_
      refine r_aload_n d_Sb_combine_72 rfl ?_
      refine g_getr (b := 394) d_Sb_combine_73 f_Sb_9 rfl rfl rfl ?_
      refine r_aload_n d_Sb_combine_76 rfl ?_
      refine r_iload d_Sb_combine_77 rfl ?_
      refine g_Sv (av := [.ref 394, .ref b, .int (nI s)]) d_Sb_combine_79 k_Sb_36 ws_Rw_multiply (by decide) rfl rfl (Nat.le_of_ble_eq_true rfl) (c_Rw_multiply rfl hb hb4 (by omega) hs o1 o2) ?_
      rintro M2 h2
      refine r_iconst (v := nI 1) d_Sb_combine_82 (by decide) ?_
      refine g_retz d_Sb_combine_83 rfl (by decide) ?_
      have k1 : RS M 394 s (cmb 2 x y s) M2 := ⟨_, h1.trans h2, fun j hj => by split; exact cf_lt _ _ _; exact (hx j hj).2, fun j hj => by rw [if_pos hj]; rfl⟩
      exact ⟨⟨_, k1⟩, Or.inl ⟨2, rfl, ⟨by decide, fun e => absurd e (by decide), fun e => absurd e (by decide)⟩, rfl, k1⟩⟩
    · refine r_iload_n d_Sb_combine_12 rfl ?_
      refine r_tsIn (tgt := 84) d_Sb_combine_13 (by decide) (by decide) rfl rfl ?_
      refine r_aload_n d_Sb_combine_84 rfl ?_
      refine r_iconst (v := nI 0) d_Sb_combine_85 (by decide) ?_
      refine g_iald d_Sb_combine_86 hb (by omega) (by omega) ?_
      refine r_top (y := nI (y 0)) ((o2 0 (by omega)).1) ?_
      refine n_if_ne d_Sb_combine_87 (by have h9 := (o2 0 (by omega)).2; omega) (fun hc => ?_) (fun hc => ?_)
      · refine r_aload_n d_Sb_combine_92 rfl ?_
        refine g_getr (b := 394) d_Sb_combine_93 f_Sb_9 rfl rfl rfl ?_
        refine r_aload_n d_Sb_combine_96 rfl ?_
        refine r_iload d_Sb_combine_97 rfl ?_
        refine g_Sv (av := [.ref 394, .ref b, .int (nI s)]) d_Sb_combine_99 k_Sb_39 ws_Rw_divide (by decide) rfl rfl (Nat.le_of_ble_eq_true rfl) (c_Rw_divide rfl hb hb4 hs o1 o2) ?_
        rintro M2 h2
        refine r_iconst (v := nI 1) d_Sb_combine_102 (by decide) ?_
        refine g_retz d_Sb_combine_103 rfl (by decide) ?_
        have k1 : RS M 394 s (cmb 3 x y s) M2 := ⟨_, h1.trans h2, fun j hj => by split; exact dv_lt _ _ _; exact (hx j hj).2, fun j hj => by rw [if_pos hj]; rfl⟩
        exact ⟨⟨_, k1⟩, Or.inl ⟨3, rfl, ⟨by decide, fun _ => hc, fun e => absurd e (by decide)⟩, rfl, k1⟩⟩
      · refine r_iconst (v := nI 0) d_Sb_combine_90 (by decide) ?_
        refine g_retz d_Sb_combine_91 rfl (by decide) ?_
        refine ⟨⟨x, x, h1, fun j hj => (hx j hj).2, fun _ _ => rfl⟩, Or.inr ⟨fun h e q => ?_, rfl⟩⟩
        have h5 := q.1
        have e3 := (nI_eq (by omega) (by omega)).mp e
        exact q.2.1 e3.symm hc
    · refine r_iload_n d_Sb_combine_12 rfl ?_
      refine r_tsIn (tgt := 104) d_Sb_combine_13 (by decide) (by decide) rfl rfl ?_
      refine r_aload_n d_Sb_combine_104 rfl ?_
      refine r_iconst (v := nI 0) d_Sb_combine_105 (by decide) ?_
      refine g_iald d_Sb_combine_106 hb (by omega) (by omega) ?_
      refine r_top (y := nI (y 0)) ((o2 0 (by omega)).1) ?_
      refine n_if_eq d_Sb_combine_107 (by have h9 := (o2 0 (by omega)).2; omega) (fun hc => ?_) (fun hc => ?_)
      · refine r_aload_n d_Sb_combine_112 rfl ?_
        refine r_aload_n d_Sb_combine_113 rfl ?_
        refine r_iload d_Sb_combine_114 rfl ?_
        refine r_aload_n d_Sb_combine_116 rfl ?_
        refine g_getr (b := 394) d_Sb_combine_117 f_Sb_9 rfl rfl rfl ?_
        refine g_Sv (av := [.ref a, .ref b, .int (nI s), .ref 394]) d_Sb_combine_120 k_Sb_42 ws_Rw_insert (by decide) rfl rfl (Nat.le_of_ble_eq_true rfl) (c_Rw_insert ha hb rfl ha4 hb4 (by omega) hs o3 o2) ?_
        rintro M2 h2
        refine r_iconst (v := nI 1) d_Sb_combine_123 (by decide) ?_
        refine g_retz d_Sb_combine_124 rfl (by decide) ?_
        have k1 : RS M 394 s (cmb 4 x y s) M2 := ⟨_, h1.trans h2, fun j hj => hn_lt (fun i hi => (hx i hi).2) hs s j, fun j hj => rfl⟩
        exact ⟨⟨_, k1⟩, Or.inl ⟨4, rfl, ⟨by decide, fun e => absurd e (by decide), fun _ => hc⟩, rfl, k1⟩⟩
      · refine r_iconst (v := nI 0) d_Sb_combine_110 (by decide) ?_
        refine g_retz d_Sb_combine_111 rfl (by decide) ?_
        refine ⟨⟨x, x, h1, fun j hj => (hx j hj).2, fun _ _ => rfl⟩, Or.inr ⟨fun h e q => ?_, rfl⟩⟩
        have h5 := q.1
        have e3 := (nI_eq (by omega) (by omega)).mp e
        exact hc (q.2.2 e3.symm)
end C35
