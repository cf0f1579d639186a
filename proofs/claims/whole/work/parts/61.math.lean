/-! Sums, series over the integers, congruence -/
def zz (f : Nat → Int) : Nat → Int
  | 0 => 0
  | n + 1 => zz f n + f n
theorem zz_congr {f g : Nat → Int} {n : Nat} (h : ∀ k, k < n → f k = g k) : zz f n = zz g n := by
  induction n with
  | zero => rfl
  | succ n ih => rw [zz, zz, ih (fun k hk => h k (by omega)), h n (by omega)]
theorem zz_add (f g : Nat → Int) (n : Nat) : zz (fun k => f k + g k) n = zz f n + zz g n := by
  induction n with
  | zero => rfl
  | succ n ih => rw [zz, zz, zz, ih]; omega
theorem zz_mulc (c : Int) (f : Nat → Int) (n : Nat) : zz (fun k => c * f k) n = c * zz f n := by
  induction n with
  | zero => rw [zz, zz, Int.mul_zero]
  | succ n ih => rw [zz, zz, ih, Int.mul_add]
theorem zz_zero {f : Nat → Int} {n : Nat} (h : ∀ k, k < n → f k = 0) : zz f n = 0 := by
  induction n with
  | zero => rfl
  | succ n ih => rw [zz, ih (fun k hk => h k (by omega)), h n (by omega)]; rfl
theorem zz_front (f : Nat → Int) (n : Nat) : zz f (n + 1) = f 0 + zz (fun k => f (k + 1)) n := by
  induction n with
  | zero => rw [zz, zz, zz]; omega
  | succ n ih => rw [zz, ih, zz]; omega
theorem zz_rev (f : Nat → Int) (n : Nat) : zz (fun k => f (n - k)) (n + 1) = zz f (n + 1) := by
  induction n generalizing f with
  | zero => rfl
  | succ n ih =>
    have h1 : zz (fun k => f (n + 1 - (k + 1))) (n + 1) = zz (fun k => f (n - k)) (n + 1) := zz_congr (fun k hk => by rw [show n + 1 - (k + 1) = n - k by omega])
    rw [zz_front, h1, ih f, Nat.sub_zero, Int.add_comm]
    rfl
theorem zz_comm (F : Nat → Nat → Int) (n m : Nat) : zz (fun i => zz (fun j => F i j) m) n = zz (fun j => zz (fun i => F i j) n) m := by
  induction n with
  | zero =>
    rw [zz]
    exact (zz_zero (fun k _ => rfl)).symm
  | succ n ih => rw [zz, ih, ← zz_add]; rfl
theorem zz_ext {f : Nat → Int} {n m : Nat} (h : n ≤ m) (hz : ∀ k, n ≤ k → k < m → f k = 0) : zz f m = zz f n := by
  induction m with
  | zero =>
    obtain rfl : n = 0 := by omega
    rfl
  | succ m ih =>
    by_cases e : n = m + 1
    · rw [e]
    · rw [zz, ih (by omega) (fun k h1 h2 => hz k h1 (by omega)), hz m (by omega) (by omega), Int.add_zero]
/-- products of series -/
def zm (a b : Nat → Int) (n : Nat) : Int := zz (fun k => a k * b (n - k)) (n + 1)
def zs (a : Nat → Int) (n : Nat) : Int := a (n + 1)
def z1 (n : Nat) : Int := if n = 0 then 1 else 0
theorem zm_0 (a b : Nat → Int) : zm a b 0 = a 0 * b 0 := by
  rw [zm, zz, zz, Int.zero_add]
theorem zm_comm (a b : Nat → Int) (n : Nat) : zm a b n = zm b a n := by
  unfold zm
  rw [← zz_rev]
  refine zz_congr (fun k hk => ?_)
  rw [show n - (n - k) = k by omega, Int.mul_comm]
theorem zm_step (a b : Nat → Int) (n : Nat) : zm a b (n + 1) = a 0 * b (n + 1) + zm (zs a) b n := by
  unfold zm
  rw [zz_front, Nat.sub_zero]
  congr 1
  refine zz_congr (fun k hk => ?_)
  rw [show n + 1 - (k + 1) = n - k by omega, zs]
theorem zm_congr {a a' b b' : Nat → Int} {n : Nat} (ha : ∀ k, k ≤ n → a k = a' k) (hb : ∀ k, k ≤ n → b k = b' k) : zm a b n = zm a' b' n := zz_congr (fun k hk => by rw [ha k (by omega), hb (n - k) (by omega)])
theorem zm_add (a a' b : Nat → Int) (n : Nat) : zm (fun k => a k + a' k) b n = zm a b n + zm a' b n := by
  unfold zm
  rw [← zz_add]
  exact zz_congr (fun k _ => Int.add_mul _ _ _)
theorem zm_smul (c : Int) (a b : Nat → Int) (n : Nat) : zm (fun k => c * a k) b n = c * zm a b n := by
  unfold zm
  rw [← zz_mulc]
  exact zz_congr (fun k _ => Int.mul_assoc _ _ _)
theorem zm_addr (a b b' : Nat → Int) (n : Nat) : zm a (fun k => b k + b' k) n = zm a b n + zm a b' n := by
  rw [zm_comm, zm_add, zm_comm b, zm_comm b']
theorem zm_smulr (c : Int) (a b : Nat → Int) (n : Nat) : zm a (fun k => c * b k) n = c * zm a b n := by
  rw [zm_comm, zm_smul, zm_comm b]
theorem zm_zs (a b : Nat → Int) (n : Nat) : zs (zm a b) n = a 0 * zs b n + zm (zs a) b n := zm_step a b n
theorem zm_assoc (a b c : Nat → Int) (n : Nat) : zm (zm a b) c n = zm a (zm b c) n := by
  induction n generalizing a with
  | zero => rw [zm_0, zm_0, zm_0, zm_0, Int.mul_assoc]
  | succ n ih =>
    have h1 : zm (zs (zm a b)) c n = a 0 * zm (zs b) c n + zm (zm (zs a) b) c n := by
      rw [← zm_smul, ← zm_add]
      exact zm_congr (fun k _ => zm_zs a b k) (fun _ _ => rfl)
    rw [zm_step, h1, zm_step a, zm_step b, ih, zm_0, Int.mul_add, Int.mul_assoc]
    omega
theorem zm_z1 (a : Nat → Int) (n : Nat) : zm z1 a n = a n := by
  cases n with
  | zero => rw [zm_0, z1, if_pos rfl, Int.one_mul]
  | succ n =>
    have : zm (zs z1) a n = 0 := zz_zero (fun k _ => by
      rw [zs, z1, if_neg (by omega), Int.zero_mul])
    rw [zm_step, this, z1, if_pos rfl, Int.one_mul, Int.add_zero]
theorem zm_e0r (a : Nat → Int) (n : Nat) : zm a z1 n = a n := by rw [zm_comm, zm_z1]
def zp (a : Nat → Int) : Nat → Nat → Int
  | 0 => z1
  | k + 1 => zm (zp a k) a
theorem zp_add (a : Nat → Int) (i j n : Nat) : zm (zp a i) (zp a j) n = zp a (i + j) n := by
  induction j generalizing n with
  | zero => exact zm_e0r _ n
  | succ j ih =>
    show zm (zp a i) (zm (zp a j) a) n = zm (zp a (i + j)) a n
    rw [← zm_assoc]
    exact zm_congr (fun k _ => ih k) (fun _ _ => rfl)
theorem zm_swap (a b c d : Nat → Int) (n : Nat) : zm (zm a b) (zm c d) n = zm (zm a c) (zm b d) n := by
  rw [zm_assoc, zm_assoc]
  refine zm_congr (fun _ _ => rfl) (fun k _ => ?_)
  rw [← zm_assoc, ← zm_assoc]
  exact zm_congr (fun i _ => zm_comm b c i) (fun _ _ => rfl)
theorem zp_zm (a b : Nat → Int) (k n : Nat) : zp (zm a b) k n = zm (zp a k) (zp b k) n := by
  induction k generalizing n with
  | zero => exact (zm_z1 z1 n).symm
  | succ k ih =>
    show zm (zp (zm a b) k) (zm a b) n = zm (zm (zp a k) a) (zm (zp b k) b) n
    rw [zm_swap]
    exact zm_congr (fun i _ => ih i) (fun _ _ => rfl)
theorem zp_congr {a b : Nat → Int} {n : Nat} (h : ∀ k, k ≤ n → a k = b k) (j : Nat) : ∀ i, i ≤ n → zp a j i = zp b j i := by
  induction j with
  | zero => exact fun _ _ => rfl
  | succ j ih => exact fun i hi => zm_congr (fun k hk => ih k (by omega)) (fun k hk => h k (by omega))
/-- powers of what begins with 0 -/
theorem zp_low {f : Nat → Int} (h0 : f 0 = 0) (k : Nat) : ∀ n, n < k → zp f k n = 0 := by
  induction k with
  | zero => exact fun n h => absurd h (Nat.not_lt_zero n)
  | succ k ih =>
    intro n hn
    refine zz_zero (fun i hi => ?_)
    by_cases e : i = n
    · rw [e, Nat.sub_self, h0, Int.mul_zero]
    · rw [ih i (by omega), Int.zero_mul]
/-- one series in another one -/
def zi (x f : Nat → Int) (n : Nat) : Int := zz (fun k => x k * zp f k n) (n + 1)
theorem zi_big {f : Nat → Int} (h0 : f 0 = 0) (x : Nat → Int) {n N : Nat} (h : n < N) : zz (fun k => x k * zp f k n) N = zi x f n := by
  unfold zi
  exact zz_ext (by omega) (fun k h1 h2 => by rw [zp_low h0 k n (by omega), Int.mul_zero])
theorem zi_congr {x x' f f' : Nat → Int} {n : Nat} (hx : ∀ k, k ≤ n → x k = x' k) (hf : ∀ k, k ≤ n → f k = f' k) : zi x f n = zi x' f' n := zz_congr (fun k hk => by rw [hx k (by omega), zp_congr hf k n (Nat.le_refl _)])
theorem zi_add (x y f : Nat → Int) (n : Nat) : zi (fun k => x k + y k) f n = zi x f n + zi y f n := by
  unfold zi
  rw [← zz_add]
  exact zz_congr (fun k _ => Int.add_mul _ _ _)
theorem zi_smul (c : Int) (x f : Nat → Int) (n : Nat) : zi (fun k => c * x k) f n = c * zi x f n := by
  unfold zi
  rw [← zz_mulc]
  exact zz_congr (fun k _ => Int.mul_assoc _ _ _)
/-- a factor goes in -/
theorem zm_zi {f : Nat → Int} (h0 : f 0 = 0) (x g : Nat → Int) {n N : Nat} (h : n < N) : zm g (zi x f) n = zz (fun k => x k * zm g (zp f k) n) N := by
  have h1 : zm g (zi x f) n = zz (fun i => zz (fun k => x k * (g i * zp f k (n - i))) N) (n + 1) := by
    unfold zm
    refine zz_congr (fun i hi => ?_)
    rw [← zi_big h0 x (show n - i < N by omega), ← zz_mulc]
    refine zz_congr (fun k _ => ?_)
    rw [← Int.mul_assoc, ← Int.mul_assoc, Int.mul_comm (g i) (x k)]
  rw [h1, zz_comm]
  refine zz_congr (fun k _ => ?_)
  unfold zm
  rw [zz_mulc]
theorem zi_step {f : Nat → Int} (h0 : f 0 = 0) (x : Nat → Int) (n : Nat) : zi x f n = x 0 * z1 n + zm f (zi (zs x) f) n := by
  rw [zm_zi h0 (zs x) f (Nat.lt_succ_self n), ← zi_big h0 x (show n < n + 1 + 1 by omega), zz_front]
  congr 1
  refine zz_congr (fun k _ => ?_)
  rw [zs]
  congr 1
  exact zm_comm _ _ _
theorem zm_f0 {f a b : Nat → Int} (h0 : f 0 = 0) {n : Nat} (h : ∀ k, k < n → a k = b k) : zm f a n = zm f b n := by
  refine zz_congr (fun k hk => ?_)
  by_cases e : k = 0
  · rw [e, h0, Int.zero_mul, Int.zero_mul]
  · rw [h (n - k) (by omega)]
theorem zi_0 (x f : Nat → Int) : zi x f 0 = x 0 := by
  rw [zi, zz, zz, Int.zero_add]
  show x 0 * z1 0 = x 0
  rw [z1, if_pos rfl, Int.mul_one]
theorem zi_mul {f : Nat → Int} (h0 : f 0 = 0) (a b : Nat → Int) (n : Nat) : zi (zm a b) f n = zm (zi a f) (zi b f) n := by
  induction n using Nat.strongRecOn generalizing a with
  | _ n ih =>
    have h1 : zm f (zi (zs (zm a b)) f) n = a 0 * zm f (zi (zs b) f) n + zm f (zm (zi (zs a) f) (zi b f)) n := by
      rw [← zm_smulr, ← zm_addr]
      refine zm_f0 h0 (fun k hk => ?_)
      rw [zi_congr (x := zs (zm a b)) (x' := fun i => a 0 * zs b i + zm (zs a) b i) (fun i _ => zm_zs a b i) (fun _ _ => rfl), zi_add, zi_smul, ih k hk (zs a)]
    have h2 : zm (zi a f) (zi b f) n = a 0 * zi b f n + zm f (zm (zi (zs a) f) (zi b f)) n := by
      rw [← zm_assoc]
      have : zm (zi a f) (zi b f) n = zm (fun k => a 0 * z1 k + zm f (zi (zs a) f) k) (zi b f) n := zm_congr (fun k _ => zi_step h0 a k) (fun _ _ => rfl)
      rw [this, zm_add, zm_smul, zm_z1]
    rw [zi_step h0, h1, h2, zi_step h0 b n, zm_0, Int.mul_add, Int.mul_assoc]
    omega
theorem zi_z1 {f : Nat → Int} (h0 : f 0 = 0) (n : Nat) : zi z1 f n = z1 n := by
  have : zm f (zi (zs z1) f) n = 0 := zz_zero (fun k _ => by
    rw [show zi (zs z1) f (n - k) = 0 from zz_zero (fun i _ => by rw [zs, z1, if_neg (by omega), Int.zero_mul]), Int.mul_zero])
  rw [zi_step h0, this, z1, if_pos rfl, Int.one_mul, Int.add_zero]
theorem zi_zp {f : Nat → Int} (h0 : f 0 = 0) (a : Nat → Int) (k n : Nat) : zi (zp a k) f n = zp (zi a f) k n := by
  induction k generalizing n with
  | zero => exact zi_z1 h0 n
  | succ k ih =>
    show zi (zm (zp a k) a) f n = zm (zp (zi a f) k) (zi a f) n
    rw [zi_mul h0]
    exact zm_congr (fun i _ => ih i) (fun _ _ => rfl)
theorem zi_assoc {r f : Nat → Int} (h0 : f 0 = 0) (hr : r 0 = 0) (x : Nat → Int) (n : Nat) : zi (zi x r) f n = zi x (zi r f) n := by
  have hc : zi r f 0 = 0 := by rw [zi_0]; exact hr
  induction n using Nat.strongRecOn generalizing x with
  | _ n ih =>
    have h1 : zi (zi x r) f n = zi (fun k => x 0 * z1 k + zm r (zi (zs x) r) k) f n := zi_congr (fun k _ => zi_step hr x k) (fun _ _ => rfl)
    rw [h1, zi_add, zi_smul, zi_z1 h0, zi_mul h0, zi_step hc x n]
    congr 1
    exact zm_f0 hc (fun k hk => ih k hk (zs x))
/-- t -/
def zt (n : Nat) : Int := if n = 1 then 1 else 0
theorem zm_zt (a : Nat → Int) (n : Nat) : zm zt a (n + 1) = a n := by
  rw [zm_step, zt, if_neg (by omega), Int.zero_mul, Int.zero_add]
  have : zm (zs zt) a n = zm z1 a n := zm_congr (fun k _ => by
    unfold zs zt z1
    by_cases e : k = 0
    · rw [if_pos (by omega), if_pos e]
    · rw [if_neg (by omega), if_neg e]) (fun _ _ => rfl)
  rw [this, zm_z1]
theorem zi_zt {f : Nat → Int} (h0 : f 0 = 0) (n : Nat) : zi zt f n = f n := by
  rw [zi_step h0, zt, if_neg (by omega), Int.zero_mul, Int.zero_add]
  have : zm f (zi (zs zt) f) n = zm f z1 n := zm_congr (fun _ _ => rfl) (fun k _ => by
    rw [← zi_z1 h0 k]
    exact zi_congr (fun i _ => by
      unfold zs zt z1
      by_cases e : i = 0
      · rw [if_pos (by omega), if_pos e]
      · rw [if_neg (by omega), if_neg e]) (fun _ _ => rfl))
  rw [this, zm_e0r]
/-- derivatives -/
def zd (a : Nat → Int) (n : Nat) : Int := (n + 1 : Nat) * a (n + 1)
theorem zd_zm (a b : Nat → Int) (n : Nat) : zd (zm a b) n = zm (zd a) b n + zm a (zd b) n := by
  have key : ∀ (a b : Nat → Int) (n : Nat), (n : Int) * zm a b n = zm (fun k => (k : Int) * a k) b n + zm a (fun k => (k : Int) * b k) n := by
    intro a b n
    unfold zm
    rw [← zz_add, ← zz_mulc]
    refine zz_congr (fun k hk => ?_)
    have : (n : Int) = (k : Int) + ((n - k : Nat) : Int) := by omega
    rw [this, Int.add_mul, Int.mul_assoc, Int.mul_left_comm (a k)]
  have h1 : zd (zm a b) n = ((n + 1 : Nat) : Int) * zm a b (n + 1) := rfl
  have sh0 : ∀ (a b : Nat → Int) (n : Nat), a 0 = 0 → zm a b (n + 1) = zm (zs a) b n := fun a b n h => by rw [zm_step, h, Int.zero_mul, Int.zero_add]
  rw [h1, key, sh0 _ _ _ (by simp), zm_comm a, sh0 _ _ _ (by simp), zm_comm _ a]
  rfl
theorem zd_zp (a : Nat → Int) (k n : Nat) : zd (zp a (k + 1)) n = ((k + 1 : Nat) : Int) * zm (zp a k) (zd a) n := by
  induction k generalizing n with
  | zero =>
    have h : zd (zp a 1) n = zd a n := by
      unfold zd
      show _ * zm z1 a (n + 1) = _
      rw [zm_z1]
    show zd (zp a 1) n = ((0 + 1 : Nat) : Int) * zm z1 (zd a) n
    rw [h, zm_z1]
    omega
  | succ k ih =>
    show zd (zm (zp a (k + 1)) a) n = _
    rw [zd_zm]
    have h : zm (zd (zp a (k + 1))) a n = ((k + 1 : Nat) : Int) * zm (zp a (k + 1)) (zd a) n := by
      rw [zm_congr (fun i _ => ih i) (fun _ _ => rfl), zm_smul]
      congr 1
      show zm (zm (zp a k) (zd a)) a n = zm (zm (zp a k) a) (zd a) n
      rw [zm_assoc, zm_assoc]
      exact zm_congr (fun _ _ => rfl) (fun i _ => zm_comm _ _ i)
    rw [h, show ((k + 1 + 1 : Nat) : Int) = ((k + 1 : Nat) : Int) + 1 by omega, Int.add_mul, Int.one_mul]
