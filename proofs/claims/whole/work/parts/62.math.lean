/-! Congruence modulo 1000003 -/
def Cg (a b : Int) : Prop := a % 1000003 = b % 1000003
theorem Cg.rf (a : Int) : Cg a a := rfl
theorem Cg.sy {a b : Int} (h : Cg a b) : Cg b a := h.symm
theorem Cg.tr {a b c : Int} (h : Cg a b) (h2 : Cg b c) : Cg a c := h.trans h2
theorem Cg.of {a b : Int} (h : a = b) : Cg a b := by rw [h]; exact Cg.rf b
theorem Cg.add {a b c d : Int} (h : Cg a b) (h2 : Cg c d) : Cg (a + c) (b + d) := by
  unfold Cg at *
  rw [Int.add_emod, h, h2, ← Int.add_emod]
theorem Cg.mul {a b c d : Int} (h : Cg a b) (h2 : Cg c d) : Cg (a * c) (b * d) := by
  unfold Cg at *
  rw [Int.mul_emod, h, h2, ← Int.mul_emod]
theorem Cg.sub {a b c d : Int} (h : Cg a b) (h2 : Cg c d) : Cg (a - c) (b - d) := by
  unfold Cg at *
  rw [Int.sub_emod, h, h2, ← Int.sub_emod]
theorem Cg.sm {f g : Nat → Int} {n : Nat} (h : ∀ k, k < n → Cg (f k) (g k)) : Cg (zz f n) (zz g n) := by
  induction n with
  | zero => exact Cg.rf 0
  | succ n ih => exact Cg.add (ih (fun k hk => h k (by omega))) (h n (by omega))
theorem Cg.cv {a a' b b' : Nat → Int} {n : Nat} (ha : ∀ k, k ≤ n → Cg (a k) (a' k)) (hb : ∀ k, k ≤ n → Cg (b k) (b' k)) : Cg (zm a b n) (zm a' b' n) := Cg.sm (fun k hk => Cg.mul (ha k (by omega)) (hb (n - k) (by omega)))
theorem Cg.pw {a b : Nat → Int} {n : Nat} (h : ∀ k, k ≤ n → Cg (a k) (b k)) (j : Nat) : ∀ i, i ≤ n → Cg (zp a j i) (zp b j i) := by
  induction j with
  | zero => exact fun i _ => Cg.rf _
  | succ j ih => exact fun i hi => Cg.cv (fun k hk => ih k (by omega)) (fun k hk => h k (by omega))
theorem Cg.cm {x x' f f' : Nat → Int} {n : Nat} (hx : ∀ k, k ≤ n → Cg (x k) (x' k)) (hf : ∀ k, k ≤ n → Cg (f k) (f' k)) : Cg (zi x f n) (zi x' f' n) := Cg.sm (fun k hk => Cg.mul (hx k (by omega)) (Cg.pw hf k n (Nat.le_refl _)))
theorem Cg_md (n : Nat) : Cg ((n % 1000003 : Nat) : Int) n := by
  unfold Cg
  rw [Int.natCast_emod]
  exact Int.emod_emod_of_dvd _ (Int.dvd_refl _)
theorem Cg_nat {a b : Nat} (ha : a < 1000003) (hb : b < 1000003) (h : Cg a b) : a = b := by
  unfold Cg at h
  omega
/-! Fermat -/
def bi : Nat → Nat → Nat
  | _, 0 => 1
  | 0, _ + 1 => 0
  | n + 1, k + 1 => bi n k + bi n (k + 1)
theorem bi_0 (n : Nat) : bi n 0 = 1 := by cases n <;> rfl
theorem bi_big : ∀ n k, n < k → bi n k = 0 := by
  intro n
  induction n with
  | zero => intro k hk; cases k with
    | zero => omega
    | succ k => rfl
  | succ n ih => intro k hk; cases k with
    | zero => omega
    | succ k => rw [bi, ih k (by omega), ih (k + 1) (by omega)]
theorem bi_k (n : Nat) : ∀ k, (k + 1) * bi (n + 1) (k + 1) = (n + 1) * bi n k := by
  induction n with
  | zero =>
    intro k
    cases k with
    | zero => rfl
    | succ k => rw [bi_big 1 (k + 1 + 1) (by omega), bi_big 0 (k + 1) (by omega)]; rfl
  | succ n ih =>
    intro k
    cases k with
    | zero =>
      have := ih 0
      rw [bi_0] at this ⊢
      rw [bi, bi_0]
      omega
    | succ k =>
      have h1 := ih k
      have h2 := ih (k + 1)
      rw [bi, Nat.mul_add]
      have e1 : (k + 1 + 1) * bi (n + 1) (k + 1) = (n + 1) * bi n k + bi (n + 1) (k + 1) := by rw [Nat.add_mul, Nat.one_mul, h1]
      rw [e1, h2, show bi (n + 1) (k + 1) = bi n k + bi n (k + 1) from rfl, Nat.add_mul (n + 1) 1, Nat.one_mul, Nat.mul_add]
      omega
theorem bi_sum (a : Int) (n : Nat) : (a + 1) ^ n = zz (fun k => (bi n k : Int) * a ^ k) (n + 1) := by
  induction n with
  | zero =>
    rw [zz, zz, bi_0, Int.pow_zero, Int.pow_zero]
    rfl
  | succ n ih =>
    have h1 : zz (fun k => (bi (n + 1) k : Int) * a ^ k) (n + 1 + 1) = 1 + zz (fun k => (bi (n + 1) (k + 1) : Int) * a ^ (k + 1)) (n + 1) := by
      rw [zz_front, bi_0, Int.pow_zero, Int.mul_one]
      rfl
    have h2 : zz (fun k => (bi (n + 1) (k + 1) : Int) * a ^ (k + 1)) (n + 1) = a * zz (fun k => (bi n k : Int) * a ^ k) (n + 1) + zz (fun k => (bi n (k + 1) : Int) * a ^ (k + 1)) (n + 1) := by
      rw [← zz_mulc, ← zz_add]
      refine zz_congr (fun k _ => ?_)
      rw [show bi (n + 1) (k + 1) = bi n k + bi n (k + 1) from rfl, Int.natCast_add, Int.add_mul, Int.pow_succ]
      congr 1
      rw [Int.mul_comm a, Int.mul_assoc]
    have h3 : 1 + zz (fun k => (bi n (k + 1) : Int) * a ^ (k + 1)) (n + 1) = zz (fun k => (bi n k : Int) * a ^ k) (n + 1) := by
      have h4 := zz_front (fun k => (bi n k : Int) * a ^ k) (n + 1)
      have h5 : zz (fun k => (bi n k : Int) * a ^ k) (n + 1 + 1) = zz (fun k => (bi n k : Int) * a ^ k) (n + 1) := by
        rw [zz, bi_big n (n + 1) (by omega)]
        simp
      rw [h5] at h4
      rw [h4, bi_0]
      simp
    rw [Int.pow_succ, ih, h1, h2, Int.mul_add, Int.mul_one, Int.mul_comm _ a]
    omega
theorem pr_1000 : ∀ d, d < 1001 → 1000003 % d = 0 → d = 1 := by decide +kernel
theorem pr_dvd {d : Nat} (h : d ∣ 1000003) : d = 1 ∨ d = 1000003 := by
  obtain ⟨e, he⟩ := h
  by_cases h1 : d < 1001
  · exact Or.inl (pr_1000 d h1 (by rw [he]; exact Nat.mul_mod_right d e))
  · by_cases h2 : e < 1001
    · have := pr_1000 e h2 (by rw [he]; exact Nat.mul_mod_left d e)
      rw [this] at he
      omega
    · have : 1001 * 1001 ≤ d * e := Nat.mul_le_mul (by omega) (by omega)
      omega
theorem pr_cop {k : Nat} (h0 : 0 < k) (hk : k < 1000003) : Nat.Coprime 1000003 k := by
  rcases pr_dvd (Nat.gcd_dvd_left 1000003 k) with h | h
  · exact h
  · have := Nat.le_of_dvd h0 (Nat.gcd_dvd_right 1000003 k)
    omega
theorem bi_p {k : Nat} (h0 : 0 < k) (hk : k < 1000003) : bi 1000003 k % 1000003 = 0 := by
  obtain ⟨j, rfl⟩ : ∃ j, k = j + 1 := ⟨k - 1, by omega⟩
  have h := bi_k 1000002 j
  have h1 : 1000003 ∣ (j + 1) * bi 1000003 (j + 1) := ⟨bi 1000002 j, h⟩
  exact Nat.mod_eq_zero_of_dvd ((pr_cop h0 hk).dvd_of_dvd_mul_left h1)
theorem fermat1 (a : Nat) : Cg ((a : Int) ^ 1000003) a := by
  induction a with
  | zero => exact Cg.of (by rw [Int.pow_succ]; exact Int.mul_zero _)
  | succ a ih =>
    have h : (((a + 1 : Nat) : Int)) ^ 1000003 = zz (fun k => (bi 1000003 k : Int) * (a : Int) ^ k) (1000002 + 1 + 1) := bi_sum (a : Int) 1000003
    rw [h, zz, zz_front]
    have hz : Cg (zz (fun k => (bi 1000003 (k + 1) : Int) * (a : Int) ^ (k + 1)) 1000002) 0 := by
      have : Cg (zz (fun k => (bi 1000003 (k + 1) : Int) * (a : Int) ^ (k + 1)) 1000002) (zz (fun _ => 0) 1000002) := Cg.sm (fun k hk => by
        have hb := bi_p (k := k + 1) (by omega) (by omega)
        have : Cg (bi 1000003 (k + 1) : Int) 0 := by
          unfold Cg
          have h9 : ((bi 1000003 (k + 1) % 1000003 : Nat) : Int) = 0 := by rw [hb]; rfl
          rw [Int.natCast_emod] at h9
          exact h9
        have := Cg.mul this (Cg.rf ((a : Int) ^ (k + 1)))
        rwa [Int.zero_mul] at this)
      exact this.tr (Cg.of (zz_zero (fun _ _ => rfl)))
    have e1 : (bi 1000003 0 : Int) * (a : Int) ^ 0 = 1 := by rw [bi_0, Int.pow_zero]; rfl
    have e2 : bi 1000003 (1000002 + 1) = 1 := by
      have h5 := bi_k 1000002 1000002
      have h6 : ∀ n, bi n n = 1 := by
        intro n
        induction n with
        | zero => rfl
        | succ n ih => rw [bi, ih, bi_big n (n + 1) (by omega)]
      exact h6 1000003
    rw [e1, e2]
    have := Cg.add (Cg.add (Cg.rf 1) hz) (show Cg (((1 : Nat) : Int) * (a : Int) ^ (1000002 + 1)) a from (Cg.of (Int.one_mul _)).tr ih)
    refine this.tr (Cg.of ?_)
    omega
