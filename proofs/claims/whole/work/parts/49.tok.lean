/-! The text's tokens. A place p stands for the token read from there on. -/
def skF (T : Nat → Nat) (n : Nat) : Nat → Nat → Nat
  | 0, p => p
  | d + 1, p => if p < n ∧ (T p = 32 ∨ T p = 10) then skF T n d (p + 1) else p
def sk (T : Nat → Nat) (n p : Nat) : Nat := skF T n (n - p) p
def alD (c : Nat) : Prop := 48 ≤ c ∧ c ≤ 57
def alL (c : Nat) : Prop := 97 ≤ c ∧ c ≤ 122
def al (c : Nat) : Prop := (48 ≤ c ∧ c ≤ 57) ∨ (97 ≤ c ∧ c ≤ 122)
noncomputable def enF (T : Nat → Nat) (n : Nat) : Nat → Nat → Nat
  | 0, p => p
  | d + 1, p => ic (p < n ∧ al (T p)) (enF T n d (p + 1)) p
noncomputable def en (T : Nat → Nat) (n p : Nat) : Nat := enF T n (n - p) p
def lc (T : Nat → Nat) (q : Nat) : Nat → Nat
  | 0 => 0
  | k + 1 => lc T q k + (if 97 ≤ T (q + k) then 1 else 0)
def vl (T : Nat → Nat) (q : Nat) : Nat → Nat
  | 0 => 0
  | k + 1 => vl T q k * 10 + T (q + k) - 48
def isW (T : Nat → Nat) (q e i : Nat) : Prop := e - q = sLn.getD i 0 ∧ ∀ j, j < sLn.getD i 0 → T (q + j) = sCh i j
noncomputable def wrd (T : Nat → Nat) (q e : Nat) : Nat := ic (lc T q (e - q) = 0 ∧ 1 ≤ e - q ∧ e - q ≤ 3) 2 (ic (isW T q e 0) 5 (ic (isW T q e 1) 6 (ic (isW T q e 2) 7 (ic (isW T q e 3) 8 0))))
/-- kind, number, place of the token that is read from p on, and where it ends -/
noncomputable def tK (T : Nat → Nat) (n p : Nat) : Nat := if 500 < n ∧ 500 ≤ sk T n p then 0 else if n ≤ sk T n p then 1 else if T (sk T n p) = 59 then 3 else if T (sk T n p) = 45 then 4 else wrd T (sk T n p) (en T n (sk T n p))
noncomputable def tV (T : Nat → Nat) (n p : Nat) : Nat := vl T (sk T n p) (en T n (sk T n p) - sk T n p)
def tQ (T : Nat → Nat) (n p : Nat) : Nat := if 500 < n ∧ 500 ≤ sk T n p then 500 else sk T n p
noncomputable def tE (T : Nat → Nat) (n p : Nat) : Nat := if 500 < n ∧ 500 ≤ sk T n p then sk T n p else if n ≤ sk T n p then sk T n p else if T (sk T n p) = 59 then sk T n p + 1 else if T (sk T n p) = 45 then sk T n p + 1 else en T n (sk T n p)
theorem skF_le {T : Nat → Nat} {n : Nat} (d p : Nat) (h : p + d ≤ n) : p ≤ skF T n d p ∧ skF T n d p ≤ p + d := by
  induction d generalizing p with
  | zero => exact ⟨Nat.le_refl _, Nat.le_refl _⟩
  | succ d ih =>
    unfold skF
    split
    · have := ih (p + 1) (by omega)
      omega
    · omega
theorem sk_le {T : Nat → Nat} {n p : Nat} (h : p ≤ n) : p ≤ sk T n p ∧ sk T n p ≤ n := by
  have := skF_le (T := T) (n := n) (n - p) p (by omega)
  unfold sk
  omega
theorem enF_le {T : Nat → Nat} {n : Nat} (d p : Nat) (h : p + d ≤ n) : p ≤ enF T n d p ∧ enF T n d p ≤ p + d := by
  induction d generalizing p with
  | zero => exact ⟨Nat.le_refl _, Nat.le_refl _⟩
  | succ d ih =>
    unfold enF
    by_cases e : p < n ∧ al (T p)
    · rw [ic_t e]
      have := ih (p + 1) (by omega)
      omega
    · rw [ic_f e]
      omega
theorem en_le {T : Nat → Nat} {n p : Nat} (h : p ≤ n) : p ≤ en T n p ∧ en T n p ≤ n := by
  have := enF_le (T := T) (n := n) (n - p) p (by omega)
  unfold en
  omega
theorem tE_le {T : Nat → Nat} {n p : Nat} (h : p ≤ n) : tE T n p ≤ n := by
  have h1 := sk_le (T := T) h
  have h2 := en_le (T := T) h1.2
  unfold tE
  split
  · exact h1.2
  · split
    · exact h1.2
    · split
      · omega
      · split
        · omega
        · exact h2.2
theorem vl_lt {T : Nat → Nat} {q k : Nat} (h : lc T q k = 0) (ha : ∀ j, j < k → al (T (q + j))) : vl T q k < 10 ^ k := by
  induction k with
  | zero => exact (show 0 < 10 ^ 0 by decide)
  | succ k ih =>
    unfold lc at h
    have h1 : ¬ 97 ≤ T (q + k) := fun z => by rw [if_pos z] at h; omega
    have h2 := ha k (by omega)
    have := ih (by omega) (fun j hj => ha j (by omega))
    unfold al at h2
    unfold vl
    rw [Nat.pow_succ]
    omega
theorem enF_al {T : Nat → Nat} {n : Nat} (d p : Nat) : ∀ j, p ≤ j → j < enF T n d p → al (T j) := by
  induction d generalizing p with
  | zero =>
    intro j h1 h2
    unfold enF at h2
    omega
  | succ d ih =>
    intro j h1 h2
    unfold enF at h2
    by_cases e : p < n ∧ al (T p)
    · rw [ic_t e] at h2
      by_cases e2 : j = p
      · rw [e2]; exact e.2
      · exact ih (p + 1) j (by omega) h2
    · rw [ic_f e] at h2
      omega
theorem wrd_v {T : Nat → Nat} {q e : Nat} (h : wrd T q e = 2) : lc T q (e - q) = 0 ∧ 1 ≤ e - q ∧ e - q ≤ 3 := by
  unfold wrd at h
  by_cases c : lc T q (e - q) = 0 ∧ 1 ≤ e - q ∧ e - q ≤ 3
  · exact c
  · rw [ic_f c] at h
    exfalso
    by_cases c0 : isW T q e 0
    · rw [ic_t c0] at h; omega
    rw [ic_f c0] at h
    by_cases c1 : isW T q e 1
    · rw [ic_t c1] at h; omega
    rw [ic_f c1] at h
    by_cases c2 : isW T q e 2
    · rw [ic_t c2] at h; omega
    rw [ic_f c2] at h
    by_cases c3 : isW T q e 3
    · rw [ic_t c3] at h; omega
    rw [ic_f c3] at h
    omega
theorem tV_lt {T : Nat → Nat} {n p : Nat} (h : tK T n p = 2) : tV T n p < 1000 := by
  unfold tK at h
  split at h
  · omega
  split at h
  · omega
  split at h
  · omega
  split at h
  · omega
  obtain ⟨h1, h2, h3⟩ := wrd_v h
  have h4 := vl_lt h1 (fun j hj => enF_al (n := n) (n - sk T n p) (sk T n p) (sk T n p + j) (by omega) (by unfold en at hj; omega))
  unfold tV
  have : 10 ^ (en T n (sk T n p) - sk T n p) ≤ 10 ^ 3 := Nat.pow_le_pow_right (by decide) h3
  omega
theorem sB_c : ∀ x, x < 256 → (x < 128 ∧ sB x = nI x) ∨ (128 ≤ x ∧ sB x < 0) := by decide +kernel
theorem sB_eq {x c : Nat} (hx : x < 256) (hc : c < 128) : sB x = nI c ↔ x = c := by
  rcases sB_c x hx with ⟨h1, h2⟩ | ⟨h1, h2⟩
  · rw [h2]
    exact nI_eq (by omega) (by omega)
  · constructor
    · intro e
      rw [e] at h2
      exact absurd h2 (nI_pos (by omega))
    · omega
/-- the tape is read -/
def RT (M : Mem) (T : Nat → Nat) (n : Nat) : Prop := M 34 1 = nI n ∧ n ≤ 540 ∧ ∀ j, j < n → T j < 256 ∧ M 35 j = sB (T j)
def RF (M M' : Mem) : Prop := (∀ b, b ≠ 1 → M' b = M b) ∧ ∀ k, k ≠ 3 → k ≠ 4 → k ≠ 5 → k ≠ 6 → M' 1 k = M 1 k
theorem RF.rf {M : Mem} : RF M M := ⟨fun _ _ => rfl, fun _ _ _ _ _ => rfl⟩
theorem RF.trans {M M1 M2 : Mem} (h : RF M M1) (h2 : RF M1 M2) : RF M M2 := ⟨fun b hb => (h2.1 b hb).trans (h.1 b hb), fun k k1 k2 k3 k4 => (h2.2 k k1 k2 k3 k4).trans (h.2 k k1 k2 k3 k4)⟩
theorem RF.up {M M1 : Mem} {k : Nat} {v : Int32} (h : RF M M1) (hk : k = 3 ∨ k = 4 ∨ k = 5 ∨ k = 6) : RF M (upm M1 1 k v) := ⟨fun b hb => by rw [upm_ne _ _ _ hb]; exact h.1 b hb, fun q q1 q2 q3 q4 => by rw [upm_at, if_neg (by omega)]; exact h.2 q q1 q2 q3 q4⟩
theorem RT.kept {M M' : Mem} {T : Nat → Nat} {n : Nat} (h : RT M T n) (h1 : M' 34 = M 34) (h2 : M' 35 = M 35) : RT M' T n := by
  unfold RT
  rw [h1, h2]
  exact h
theorem RT.rf {M M' : Mem} {T : Nat → Nat} {n : Nat} (h : RT M T n) (hf : RF M M') : RT M' T n := h.kept (hf.1 _ (by decide)) (hf.1 _ (by decide))
def TK (M : Mem) (T : Nat → Nat) (n p : Nat) : Prop := M 1 3 = nI (tE T n p) ∧ M 1 4 = nI (tK T n p) ∧ M 1 5 = nI (tQ T n p) ∧ (tK T n p = 2 → M 1 6 = nI (tV T n p)) ∧ p ≤ n
section C49
variable {o : OM} {l : Launch} {n : Nat} {M : Mem} {T : Nat → Nat} {w : Nat}
theorem c_Re_isBlank {x : Nat} (hx : x < 256) : CI o l m_Re_isBlank n [.int (sB x)] M (fun r M' => BR r (x = 32 ∨ x = 10) ∧ M = M') := by
  refine ci_of rfl rfl rfl (Nat.le_of_ble_eq_true rfl) ?_
  refine r_iload_n d_Re_isBlank_0 rfl ?_
  refine r_bipush (v := nI 32) d_Re_isBlank_1 (by decide) ?_
  refine r_icmp_eq d_Re_isBlank_3 (fun hc => ?_) (fun hc => ?_)
  · refine r_iconst (v := nI 1) d_Re_isBlank_12 (by decide) ?_
    refine r_goto d_Re_isBlank_13 ?_
    refine g_retz d_Re_isBlank_17 rfl (by decide) ?_
    exact ⟨Or.inl ⟨rfl, Or.inl ((sB_eq hx (by decide)).mp hc)⟩, rfl⟩
  · refine r_iload_n d_Re_isBlank_6 rfl ?_
    refine r_bipush (v := nI 10) d_Re_isBlank_7 (by decide) ?_
    refine r_icmp_ne d_Re_isBlank_9 (fun hc2 => ?_) (fun hc2 => ?_)
    · refine r_iconst (v := nI 0) d_Re_isBlank_16 (by decide) ?_
      refine g_retz d_Re_isBlank_17 rfl (by decide) ?_
      refine ⟨Or.inr ⟨rfl, ?_⟩, rfl⟩
      rintro (z | z)
      · exact hc ((sB_eq hx (by decide)).mpr z)
      · exact hc2 ((sB_eq hx (by decide)).mpr z)
    · refine r_iconst (v := nI 1) d_Re_isBlank_12 (by decide) ?_
      refine r_goto d_Re_isBlank_13 ?_
      refine g_retz d_Re_isBlank_17 rfl (by decide) ?_
      exact ⟨Or.inl ⟨rfl, Or.inr ((sB_eq hx (by decide)).mp hc2)⟩, rfl⟩
theorem c_Re_isDigit {x : Nat} (hx : x < 256) : CI o l m_Re_isDigit n [.int (sB x)] M (fun r M' => BR r (48 ≤ x ∧ x ≤ 57) ∧ M = M') := by
  refine ci_of rfl rfl rfl (Nat.le_of_ble_eq_true rfl) ?_
  rcases sB_c x hx with ⟨h1, h2⟩ | ⟨h1, h2⟩
  · rw [h2]
    refine r_iload_n d_Re_isDigit_0 rfl ?_
    refine r_bipush (v := nI 48) d_Re_isDigit_1 (by decide) ?_
    refine n_icmp_lt d_Re_isDigit_3 (by omega) (by omega) (fun hc => ?_) (fun hc => ?_)
    · refine r_iconst (v := nI 0) d_Re_isDigit_16 (by decide) ?_
      refine g_retz d_Re_isDigit_17 rfl (by decide) ?_
      exact ⟨Or.inr ⟨rfl, by omega⟩, rfl⟩
    · refine r_iload_n d_Re_isDigit_6 rfl ?_
      refine r_bipush (v := nI 57) d_Re_isDigit_7 (by decide) ?_
      refine n_icmp_gt d_Re_isDigit_9 (by omega) (by omega) (fun hc2 => ?_) (fun hc2 => ?_)
      · refine r_iconst (v := nI 0) d_Re_isDigit_16 (by decide) ?_
        refine g_retz d_Re_isDigit_17 rfl (by decide) ?_
        exact ⟨Or.inr ⟨rfl, by omega⟩, rfl⟩
      · refine r_iconst (v := nI 1) d_Re_isDigit_12 (by decide) ?_
        refine r_goto d_Re_isDigit_13 ?_
        refine g_retz d_Re_isDigit_17 rfl (by decide) ?_
        exact ⟨Or.inl ⟨rfl, by omega⟩, rfl⟩
  · refine r_iload_n d_Re_isDigit_0 rfl ?_
    refine r_bipush (v := nI 48) d_Re_isDigit_1 (by decide) ?_
    refine r_icmp_lt d_Re_isDigit_3 (fun hc => ?_) (fun hc => ?_)
    · refine r_iconst (v := nI 0) d_Re_isDigit_16 (by decide) ?_
      refine g_retz d_Re_isDigit_17 rfl (by decide) ?_
      exact ⟨Or.inr ⟨rfl, by omega⟩, rfl⟩
    · exact absurd (Int32.lt_trans h2 (by decide)) hc
theorem c_Re_isLetter {x : Nat} (hx : x < 256) : CI o l m_Re_isLetter n [.int (sB x)] M (fun r M' => BR r (97 ≤ x ∧ x ≤ 122) ∧ M = M') := by
  refine ci_of rfl rfl rfl (Nat.le_of_ble_eq_true rfl) ?_
  rcases sB_c x hx with ⟨h1, h2⟩ | ⟨h1, h2⟩
  · rw [h2]
    refine r_iload_n d_Re_isLetter_0 rfl ?_
    refine r_bipush (v := nI 97) d_Re_isLetter_1 (by decide) ?_
    refine n_icmp_lt d_Re_isLetter_3 (by omega) (by omega) (fun hc => ?_) (fun hc => ?_)
    · refine r_iconst (v := nI 0) d_Re_isLetter_16 (by decide) ?_
      refine g_retz d_Re_isLetter_17 rfl (by decide) ?_
      exact ⟨Or.inr ⟨rfl, by omega⟩, rfl⟩
    · refine r_iload_n d_Re_isLetter_6 rfl ?_
      refine r_bipush (v := nI 122) d_Re_isLetter_7 (by decide) ?_
      refine n_icmp_gt d_Re_isLetter_9 (by omega) (by omega) (fun hc2 => ?_) (fun hc2 => ?_)
      · refine r_iconst (v := nI 0) d_Re_isLetter_16 (by decide) ?_
        refine g_retz d_Re_isLetter_17 rfl (by decide) ?_
        exact ⟨Or.inr ⟨rfl, by omega⟩, rfl⟩
      · refine r_iconst (v := nI 1) d_Re_isLetter_12 (by decide) ?_
        refine r_goto d_Re_isLetter_13 ?_
        refine g_retz d_Re_isLetter_17 rfl (by decide) ?_
        exact ⟨Or.inl ⟨rfl, by omega⟩, rfl⟩
  · refine r_iload_n d_Re_isLetter_0 rfl ?_
    refine r_bipush (v := nI 97) d_Re_isLetter_1 (by decide) ?_
    refine r_icmp_lt d_Re_isLetter_3 (fun hc => ?_) (fun hc => ?_)
    · refine r_iconst (v := nI 0) d_Re_isLetter_16 (by decide) ?_
      refine g_retz d_Re_isLetter_17 rfl (by decide) ?_
      exact ⟨Or.inr ⟨rfl, by omega⟩, rfl⟩
    · exact absurd (Int32.lt_trans h2 (by decide)) hc
theorem c_Re_isWord {i q e : Nat} (hO : OS o) (hi : i < 4) (hR : RT M T w) (hq : q ≤ e) (he : e ≤ w) (h3 : M 1 3 = nI e) (h5 : M 1 5 = nI q) : CI o l m_Re_isWord n [.ref 1, .retAddr (i + 1)] M (fun r M' => BR r (isW T q e i) ∧ M = M') := by
  refine ci_of rfl rfl rfl (Nat.le_of_ble_eq_true rfl) ?_
  have e4 : sLn.getD i 0 < 100 := by rcases (show i = 0 ∨ i = 1 ∨ i = 2 ∨ i = 3 by omega) with rfl | rfl | rfl | rfl <;> decide
  have e5 : ∀ i, i < 4 → ∀ j, j < sLn.getD i 0 → sCh i j < 128 := by decide
  obtain ⟨r1, r2, r3⟩ := id hR
  refine r_aload_n d_Re_isWord_0 rfl ?_
  refine g_geti d_Re_isWord_1 f_Re_32 rfl rfl ?_
  refine r_top (y := (nI e)) (h3) ?_
  refine r_aload_n d_Re_isWord_4 rfl ?_
  refine g_geti d_Re_isWord_5 f_Re_121 rfl rfl ?_
  refine r_top (y := (nI q)) (h5) ?_
  refine n_isub d_Re_isWord_8 (by omega) ?_
  refine r_bload_n d_Re_isWord_9 rfl ?_
  refine g_Ki (av := []) hO hi d_Re_isWord_10 k_Re_154 iv_Sg_length (by decide) rfl rfl (Nat.le_of_ble_eq_true rfl) (c_Sg_length hO hi) ?_
  rintro _ _ ⟨rfl, rfl⟩
  refine n_icmp_eq d_Re_isWord_13 (by omega) (by omega) (fun hc => ?_) (fun hc => ?_)
  · refine r_iconst (v := nI 0) d_Re_isWord_18 (by decide) ?_
    refine r_istore_n (L' := [some (.ref 1), some (.retAddr (i+1)), some (.int (nI 0))]) d_Re_isWord_19 (by decide) rfl ?_
    suffices H : ∀ d j, j + d = sLn.getD i 0 → (∀ j', j' < j → T (q + j') = sCh i j') → Rn o l m_Re_isWord (0, 0) 20 [some (.ref 1), some (.retAddr (i + 1)), some (.int (nI j))] [] (gh n M) (QI n (fun r M' => BR r (isW T q e i) ∧ M = M')) from H (sLn.getD i 0) 0 (by omega) (fun j hj => by omega)
    intro d
    induction d with
    | zero =>
      intro j hj hp
      refine r_iload_n d_Re_isWord_20 rfl ?_
      refine r_bload_n d_Re_isWord_21 rfl ?_
      refine g_Ki (av := []) hO hi d_Re_isWord_22 k_Re_154 iv_Sg_length (by decide) rfl rfl (Nat.le_of_ble_eq_true rfl) (c_Sg_length hO hi) ?_
      rintro _ _ ⟨rfl, rfl⟩
      refine n_icmp_ge d_Re_isWord_25 (by omega) (by omega) (fun hc2 => ?_) (fun hc2 => ?_)
      · refine r_iconst (v := nI 1) d_Re_isWord_58 (by decide) ?_
        refine g_retz d_Re_isWord_59 rfl (by decide) ?_
        exact ⟨Or.inl ⟨rfl, hc, fun j' h => hp j' (by omega)⟩, rfl⟩
      · omega
    | succ d ih =>
      intro j hj hp
      refine r_iload_n d_Re_isWord_20 rfl ?_
      refine r_bload_n d_Re_isWord_21 rfl ?_
      refine g_Ki (av := []) hO hi d_Re_isWord_22 k_Re_154 iv_Sg_length (by decide) rfl rfl (Nat.le_of_ble_eq_true rfl) (c_Sg_length hO hi) ?_
      rintro _ _ ⟨rfl, rfl⟩
      refine n_icmp_ge d_Re_isWord_25 (by omega) (by omega) (fun hc2 => ?_) (fun hc2 => ?_)
      · omega
      · have b9 := r3 (q + j) (by omega)
        refine r_aload_n d_Re_isWord_28 rfl ?_
        refine g_getr (b := 34) d_Re_isWord_29 f_Re_21 rfl rfl rfl ?_
        refine g_getr (b := 35) d_Re_isWord_32 f_Re_127 rfl rfl rfl ?_
        refine r_aload_n d_Re_isWord_35 rfl ?_
        refine g_geti d_Re_isWord_36 f_Re_121 rfl rfl ?_
        refine r_top (y := (nI q)) (h5) ?_
        refine r_iload_n d_Re_isWord_39 rfl ?_
        refine n_iadd d_Re_isWord_40 ?_
        refine g_bald d_Re_isWord_41 rfl (by omega) (by omega) ?_
        refine r_top (y := sB (T (q + j))) ((r3 (q + j) (by omega)).2) ?_
        refine r_bload_n d_Re_isWord_42 rfl ?_
        refine r_iload_n d_Re_isWord_43 rfl ?_
        refine g_Ki (av := [.int (nI j)]) hO hi d_Re_isWord_44 k_Re_159 iv_Sg_charAt (by decide) rfl rfl (Nat.le_of_ble_eq_true rfl) (c_Sg_charAt hO hi (by omega)) ?_
        rintro _ _ ⟨rfl, rfl⟩
        refine r_icmp_eq d_Re_isWord_47 (fun hc3 => ?_) (fun hc3 => ?_)
        · refine n_iinc (c := 1) (L' := [some (.ref 1), some (.retAddr (i+1)), some (.int (nI (j + 1)))]) d_Re_isWord_52 rfl rfl (by decide) rfl ?_
          refine r_goto d_Re_isWord_55 ?_
          refine ih (j + 1) (by omega) (fun j' h => ?_)
          by_cases e9 : j' = j
          · rw [e9]
            exact (sB_eq b9.1 (e5 i hi j (by omega))).mp hc3
          · exact hp j' (by omega)
        · refine r_iconst (v := nI 0) d_Re_isWord_50 (by decide) ?_
          refine g_retz d_Re_isWord_51 rfl (by decide) ?_
          refine ⟨Or.inr ⟨rfl, fun z => ?_⟩, rfl⟩
          have := z.2 j (by omega)
          exact hc3 ((sB_eq b9.1 (e5 i hi j (by omega))).mpr this)
  · refine r_iconst (v := nI 0) d_Re_isWord_16 (by decide) ?_
    refine g_retz d_Re_isWord_17 rfl (by decide) ?_
    exact ⟨Or.inr ⟨rfl, fun z => hc z.1⟩, rfl⟩
end C49
