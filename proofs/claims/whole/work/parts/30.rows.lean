/-! SeriesTables.Rows and what it calls -/
section NX
variable {o : OM} {l : Launch} {m k : MD} {bg : Nat × Nat} {pc pc' tgt : Nat} {L L' : List (Option Value)} {st : List Value} {Q : Option Value → AH → Prop}
theorem n_iincd {i a : Nat} {h : AH} (hd : dd m pc (.iinc i (-1)) 3 pc') (hl : L[i]? = some (some (.int (nI a)))) (hn : i < mml m) (hL : st1 L i (.int (nI a - 1)) = L') (kk : Rn o l m bg pc' L' st h Q) : Rn o l m bg pc L st h Q := r_iinc hd hl (by show nI a + (-1) = nI a - 1; rw [Int32.sub_eq_add_neg]) hn hL kk
end NX
theorem pp_lt {a b : Nat} (ha : a < 1000003) (hb : b < 1000003) : a * b < 1000006000009 := Nat.mul_lt_mul'' ha hb
/-- a row of residues -/
def OKr (M : Mem) (a : Nat) (x : Nat → Nat) : Prop := ∀ j, j < 10 → M a j = nI (x j) ∧ x j < 1000003
/-- the first i of g, then f -/
def fl (i : Nat) (g f : Nat → Int32) : Nat → Int32 := fun j => if j < i then g j else f j
theorem fl_0 (g f : Nat → Int32) : fl 0 g f = f := by funext j; simp [fl]
theorem fl_step (i : Nat) (g f : Nat → Int32) : (fun j => if j = i then g i else fl i g f j) = fl (i + 1) g f := by
  funext j
  unfold fl
  by_cases e : j = i
  · subst e; simp
  · by_cases h : j < i
    · simp [e, h, Nat.lt_succ_of_lt h]
    · simp [e, h, show ¬ j < i + 1 by omega]
theorem upm_fl (M : Mem) (a i : Nat) (g : Nat → Int32) {v : Int32} (hv : v = g i) : upm (wr M a (fl i g (M a))) a i v = wr M a (fl (i + 1) g (M a)) := by
  rw [upm_wr, wr_wr, wr_eq, hv, fl_step]
/-- those from i on (and below s) are g's -/
def fd (i s : Nat) (g f : Nat → Int32) : Nat → Int32 := fun j => if i ≤ j ∧ j < s then g j else f j
theorem fd_s (s : Nat) (g f : Nat → Int32) : fd s s g f = f := by funext j; unfold fd; rw [if_neg (by omega)]
theorem fd_0 (s : Nat) (g f : Nat → Int32) : fd 0 s g f = fl s g f := by funext j; simp [fd, fl]
theorem upm_fd (M : Mem) (a i s : Nat) (hi : i < s) (g : Nat → Int32) {v : Int32} (hv : v = g i) : upm (wr M a (fd (i + 1) s g (M a))) a i v = wr M a (fd i s g (M a)) := by
  rw [upm_wr, wr_wr, wr_eq, hv]
  congr 1
  funext j
  unfold fd
  by_cases e : j = i
  · subst e; rw [if_pos rfl, if_pos ⟨Nat.le_refl _, hi⟩]
  · rw [if_neg e]
    by_cases h : i + 1 ≤ j ∧ j < s
    · rw [if_pos h, if_pos (by omega)]
    · rw [if_neg h, if_neg (by omega)]
theorem bit_in : ∀ k, k < 20 → (nI 1000001 >>> (nI k &&& 31)) &&& nI 1 = nI (1000001 / 2 ^ k % 2) := by decide +kernel
theorem pw_step (n k : Nat) : (n ^ (1000001 % 2 ^ k) % 1000003 * (n ^ 2 ^ k % 1000003)) % 1000003 = n ^ (1000001 % 2 ^ k + 2 ^ k) % 1000003 := by
  rw [← Nat.mul_mod, ← Nat.pow_add]
theorem pw_sq (n k : Nat) : (n ^ 2 ^ k % 1000003 * (n ^ 2 ^ k % 1000003)) % 1000003 = n ^ 2 ^ (k + 1) % 1000003 := by
  rw [← Nat.mul_mod, ← Nat.pow_add, Nat.pow_succ]
  congr 2
  omega
theorem md_bit (k : Nat) : 1000001 % 2 ^ (k + 1) = 1000001 % 2 ^ k + 2 ^ k * (1000001 / 2 ^ k % 2) := by
  rw [Nat.pow_succ, Nat.mod_mul]
/-- what makes 1 with a number -/
def nv (n : Nat) : Nat := n ^ 1000001 % 1000003
theorem nv_lt (n : Nat) : nv n < 1000003 := Nat.mod_lt _ (by decide)
section C30
variable {o : OM} {l : Launch} {n : Nat} {M : Mem}
theorem c_Rw_inverse {x : Nat} (hx : x < 1000003) : CI o l m_Rw_inverse n [.int (nI x)] M (fun r M' => r = nI (nv x) ∧ M = M') := by
  refine ci_of rfl rfl rfl (Nat.le_of_ble_eq_true rfl) ?_
  refine r_lconst (v := lN 1) d_Rw_inverse_0 (by decide) ?_
  refine r_lstore_n (L' := [some (.int (nI x)), some (.long (lN 1)), none, none, none, none]) d_Rw_inverse_1 (by decide) rfl ?_
  refine r_iload_n d_Rw_inverse_2 rfl ?_
  refine n_i2l d_Rw_inverse_3 (by omega) ?_
  refine r_lstore_n (L' := [some (.int (nI x)), some (.long (lN 1)), none, some (.long (lN x)), none, none]) d_Rw_inverse_4 (by decide) rfl ?_
  refine r_iconst (v := nI 0) d_Rw_inverse_5 (by decide) ?_
  refine r_istore (L' := [some (.int (nI x)), some (.long (lN 1)), none, some (.long (lN x)), none, some (.int (nI 0))]) d_Rw_inverse_6 (by decide) rfl ?_
  suffices H : ∀ d k a q, k + d = 20 → a = x ^ (1000001 % 2 ^ k) % 1000003 → q = x ^ 2 ^ k % 1000003 → Rn o l m_Rw_inverse (0, 0) 8 [some (.int (nI x)), some (.long (lN a)), none, some (.long (lN q)), none, some (.int (nI k))] [] (gh n M) (QI n fun r M' => r = nI (nv x) ∧ M = M') from H 20 0 1 x rfl (by simp) (by simp [Nat.mod_eq_of_lt hx])
  intro d
  induction d with
  | zero =>
    intro k a q hk ha hq
    obtain rfl : k = 20 := by omega
    refine r_iload d_Rw_inverse_8 rfl ?_
    refine r_bipush (v := nI 20) d_Rw_inverse_10 (by decide) ?_
    refine n_icmp_ge d_Rw_inverse_12 (by omega) (by omega) (fun hc => ?_) (fun hc => ?_)
    · refine r_lload_n d_Rw_inverse_47 rfl ?_
      refine n_l2i d_Rw_inverse_48 ?_
      refine g_reti d_Rw_inverse_49 rfl ?_
      exact ⟨by rw [ha]; rfl, rfl⟩
    · omega
  | succ d ih =>
    intro k a q hk ha hq
    have ha1 : a < 1000003 := by rw [ha]; exact Nat.mod_lt _ (by decide)
    have hq1 : q < 1000003 := by rw [hq]; exact Nat.mod_lt _ (by decide)
    refine r_iload d_Rw_inverse_8 rfl ?_
    refine r_bipush (v := nI 20) d_Rw_inverse_10 (by decide) ?_
    refine n_icmp_ge d_Rw_inverse_12 (by omega) (by omega) (fun hc => ?_) (fun hc => ?_)
    · omega
    · refine r_ldc (v := nI 1000001) d_Rw_inverse_15 c_Rw_11 ?_
      refine r_iload d_Rw_inverse_17 rfl ?_
      refine r_ishr d_Rw_inverse_19 ?_
      refine r_iconst (v := nI 1) d_Rw_inverse_20 (by decide) ?_
      refine r_iand d_Rw_inverse_21 ?_
      refine r_top (bit_in k (by omega)) ?_
      refine n_if_eq d_Rw_inverse_22 (by omega) (fun hb => ?_) (fun hb => ?_)
      · refine r_lload_n d_Rw_inverse_33 rfl ?_
        refine r_lload_n d_Rw_inverse_34 rfl ?_
        refine n_lmul d_Rw_inverse_35 ?_
        refine r_ldc2 (v := lN 1000003) d_Rw_inverse_36 c_Rw_12 ?_
        refine n_lrem d_Rw_inverse_39 (by have := pp_lt hq1 hq1; omega) (by omega) (by omega) ?_
        refine r_lstore_n (L' := [some (.int (nI x)), some (.long (lN a)), none, some (.long (lN ((q * q) % 1000003))), none, some (.int (nI k))]) d_Rw_inverse_40 (by decide) rfl ?_
        refine n_iinc (c := 1) (L' := [some (.int (nI x)), some (.long (lN a)), none, some (.long (lN ((q * q) % 1000003))), none, some (.int (nI (k + 1)))]) d_Rw_inverse_41 rfl rfl (by decide) rfl ?_
        refine r_goto d_Rw_inverse_44 ?_
        refine ih (k + 1) _ _ (by omega) ?_ ?_
        · rw [ha, md_bit, hb]; simp
        · rw [hq]; exact pw_sq x k
      · refine r_lload_n d_Rw_inverse_25 rfl ?_
        refine r_lload_n d_Rw_inverse_26 rfl ?_
        refine n_lmul d_Rw_inverse_27 ?_
        refine r_ldc2 (v := lN 1000003) d_Rw_inverse_28 c_Rw_12 ?_
        refine n_lrem d_Rw_inverse_31 (by have := pp_lt ha1 hq1; omega) (by omega) (by omega) ?_
        refine r_lstore_n (L' := [some (.int (nI x)), some (.long (lN ((a * q) % 1000003))), none, some (.long (lN q)), none, some (.int (nI k))]) d_Rw_inverse_32 (by decide) rfl ?_
        refine r_lload_n d_Rw_inverse_33 rfl ?_
        refine r_lload_n d_Rw_inverse_34 rfl ?_
        refine n_lmul d_Rw_inverse_35 ?_
        refine r_ldc2 (v := lN 1000003) d_Rw_inverse_36 c_Rw_12 ?_
        refine n_lrem d_Rw_inverse_39 (by have := pp_lt hq1 hq1; omega) (by omega) (by omega) ?_
        refine r_lstore_n (L' := [some (.int (nI x)), some (.long (lN ((a * q) % 1000003))), none, some (.long (lN ((q * q) % 1000003))), none, some (.int (nI k))]) d_Rw_inverse_40 (by decide) rfl ?_
        refine n_iinc (c := 1) (L' := [some (.int (nI x)), some (.long (lN ((a * q) % 1000003))), none, some (.long (lN ((q * q) % 1000003))), none, some (.int (nI (k + 1)))]) d_Rw_inverse_41 rfl rfl (by decide) rfl ?_
        refine r_goto d_Rw_inverse_44 ?_
        have hb1 : 1000001 / 2 ^ k % 2 = 1 := by omega
        refine ih (k + 1) _ _ (by omega) ?_ ?_
        · rw [ha, hq, pw_step, md_bit, hb1, Nat.mul_one]
        · rw [hq]; exact pw_sq x k
theorem c_Rw_product {x y : Nat} (hx : x < 1000003) (hy : y < 1000003) : CI o l m_Rw_product n [.int (nI x), .int (nI y)] M (fun r M' => r = nI (x * y % 1000003) ∧ M = M') := by
  refine ci_of rfl rfl rfl (Nat.le_of_ble_eq_true rfl) ?_
  refine r_iload_n d_Rw_product_0 rfl ?_
  refine n_i2l d_Rw_product_1 (by omega) ?_
  refine r_iload_n d_Rw_product_2 rfl ?_
  refine n_i2l d_Rw_product_3 (by omega) ?_
  refine n_lmul d_Rw_product_4 ?_
  refine r_ldc2 (v := lN 1000003) d_Rw_product_5 c_Rw_12 ?_
  refine n_lrem d_Rw_product_8 (by have := pp_lt hx hy; omega) (by omega) (by omega) ?_
  refine n_l2i d_Rw_product_9 ?_
  refine g_reti d_Rw_product_10 rfl ?_
  exact ⟨rfl, rfl⟩
def sb (x y : Nat) : Nat := (x + (1000003 - y)) % 1000003
theorem c_Rw_difference {x y : Nat} (hx : x < 1000003) (hy : y < 1000003) : CI o l m_Rw_difference n [.int (nI x), .int (nI y)] M (fun r M' => r = nI (sb x y) ∧ M = M') := by
  refine ci_of rfl rfl rfl (Nat.le_of_ble_eq_true rfl) ?_
  refine r_iload_n d_Rw_difference_0 rfl ?_
  refine r_iload_n d_Rw_difference_1 rfl ?_
  refine n_icmp_lt d_Rw_difference_2 (by omega) (by omega) (fun hc => ?_) (fun hc => ?_)
  · refine r_iload_n d_Rw_difference_11 rfl ?_
    refine r_iload_n d_Rw_difference_12 rfl ?_
    refine r_isub d_Rw_difference_13 ?_
    refine r_ldc (v := nI 1000003) d_Rw_difference_14 c_Rw_14 ?_
    refine r_iadd d_Rw_difference_16 ?_
    refine g_reti d_Rw_difference_17 rfl ?_
    refine ⟨?_, rfl⟩
    rw [show nI x - nI y + nI 1000003 = nI (x + 1000003 - y) from by
      rw [← pk_sub (a := x + 1000003) (b := y) (by omega), ← nI_add, Int32.sub_eq_add_neg, Int32.sub_eq_add_neg, Int32.add_assoc, Int32.add_assoc, Int32.add_comm (-nI y)]]
    congr 1
    unfold sb
    rw [Nat.mod_eq_of_lt (by omega)]
    omega
  · refine r_iload_n d_Rw_difference_5 rfl ?_
    refine r_iload_n d_Rw_difference_6 rfl ?_
    refine n_isub d_Rw_difference_7 (by omega) ?_
    refine r_goto d_Rw_difference_8 ?_
    refine g_reti d_Rw_difference_17 rfl ?_
    refine ⟨?_, rfl⟩
    congr 1
    unfold sb
    rw [show x + (1000003 - y) = x - y + 1000003 by omega, Nat.add_mod_right, Nat.mod_eq_of_lt (by omega)]
theorem c_Ar_fill {a N : Nat} (v : Int32) (ha : gT a = (1, N)) (hN : N < 2000) : CV o l m_Ar_fill n [.ref a, .int v] M (fun M' => M' = wr M a (fl N (fun _ => v) (M a))) := by
  refine cvo_of rfl rfl rfl (Nat.le_of_ble_eq_true rfl) ?_
  refine r_iconst (v := nI 0) d_Ar_fill_0 (by decide) ?_
  refine r_istore_n (L' := [some (.ref a), some (.int v), some (.int (nI 0)), none]) d_Ar_fill_1 (by decide) rfl ?_
  refine r_aload_n d_Ar_fill_2 rfl ?_
  refine g_alen d_Ar_fill_3 ha (by decide) ?_
  refine r_istore_n (L' := [some (.ref a), some (.int v), some (.int (nI 0)), some (.int (nI N))]) d_Ar_fill_4 (by decide) rfl ?_
  suffices H : ∀ d k, k + d = N → Rn o l m_Ar_fill (0, 0) 5 [some (.ref a), some (.int v), some (.int (nI k)), some (.int (nI N))] [] (gh n (wr M a (fl k (fun _ => v) (M a)))) (QV n fun M' => M' = wr M a (fl N (fun _ => v) (M a))) by
    have := H N 0 (by omega)
    rw [fl_0] at this
    rw [show wr M a (M a) = M from by funext b; by_cases e : b = a <;> simp [wr, e]] at this
    exact this
  intro d
  induction d with
  | zero =>
    intro k hk
    obtain rfl : k = N := by omega
    refine r_iload_n d_Ar_fill_5 rfl ?_
    refine r_iload_n d_Ar_fill_6 rfl ?_
    refine n_icmp_ge d_Ar_fill_7 (by omega) (by omega) (fun hc => ?_) (fun hc => ?_)
    · refine g_retv d_Ar_fill_20 rfl ?_
      rfl
    · omega
  | succ d ih =>
    intro k hk
    refine r_iload_n d_Ar_fill_5 rfl ?_
    refine r_iload_n d_Ar_fill_6 rfl ?_
    refine n_icmp_ge d_Ar_fill_7 (by omega) (by omega) (fun hc => ?_) (fun hc => ?_)
    · omega
    · refine r_aload_n d_Ar_fill_10 rfl ?_
      refine r_iload_n d_Ar_fill_11 rfl ?_
      refine r_iload_n d_Ar_fill_12 rfl ?_
      refine g_iast d_Ar_fill_13 ha (by omega) (by omega) ?_
      refine n_iinc (c := 1) (L' := [some (.ref a), some (.int v), some (.int (nI (k + 1))), some (.int (nI N))]) d_Ar_fill_14 rfl rfl (by decide) rfl ?_
      refine r_goto d_Ar_fill_17 ?_
      rw [upm_fl M a k (fun _ => v) rfl]
      exact ih (k + 1) (by omega)
end C30
