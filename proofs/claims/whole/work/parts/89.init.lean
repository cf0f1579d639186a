/-! the first state -/
def Z0R : Nat → Nat → Option Nat := fun _ _ => none
def Z0M : Mem := fun _ _ => 0
theorem zb_0 : Zb 0 Z0R Z0M := ⟨fun _ _ _ => rfl, fun _ _ _ => rfl⟩
def Mi : Mem := tM (tM (tM (bM (bM (bM (bM (bM (bM (bM (bM (bM (bM (bM (bM Z0M 2) 37) 71) 103) 135) 167) 199) 231) 263) 295) 328) 360) 398) 401) 404
def S0 : SS := (C0, [], fun _ => none, fun _ => 0, 0, 0, 0, 0)
theorem ph_gh : ph 454 (pt (pt Z0R 0 436) 436 453) Mi = gh 454 Mi := by
  have e1 : (fun a => if a < 454 then gT a else (0, 0)) = gT := by
    funext a
    by_cases h : a < 454
    · rw [if_pos h]
    · rw [if_neg h]
      unfold gT
      (repeat (first | rw [if_pos (by omega)] | rw [if_neg (by omega)]))
  have e2 : pt (pt Z0R 0 436) 436 453 = gR := by
    funext b j
    rw [pt2, pt2]
    by_cases h : 436 ≤ b ∧ b < 453
    · rw [if_pos h]
    · rw [if_neg h]
      by_cases h2 : b < 436
      · rw [if_pos (by omega)]
      · rw [if_neg (by omega)]
        unfold gR
        (repeat (first | rw [if_pos (by omega)] | rw [if_neg (by omega)]))
        rfl
  show (454, (fun a => if a < 454 then gT a else (0, 0)), pt (pt Z0R 0 436) 436 453, Mi) = _
  rw [e1, e2]
theorem Mi_0 {b j : Nat} (h : b = 0 ∨ b = 1 ∨ (34 ≤ b ∧ b < 37) ∨ b = 69 ∨ b = 70 ∨ b = 327 ∨ (392 ≤ b ∧ b < 398) ∨ 407 ≤ b) : Mi b j = nI 0 := by
  unfold Mi
  simp only [tM2, bM2]
  (repeat (first | rw [if_pos (by omega)] | rw [if_neg (by omega)]))
  rfl
theorem Mi_37 {k j : Nat} (h : k < 32) : Mi (37 + k) j = nI (C0 k j) := by
  unfold Mi
  simp only [tM2, bM2]
  (repeat (first | rw [if_pos (by omega)] | rw [if_neg (by omega)]))
  rw [show 37 + k - 37 = k by omega]
theorem Mi_t {b : Nat} (h : 398 ≤ b ∧ b < 407) : Ok Mi b := by
  have q : ∀ k j, C0 k j < 1000003 := fun k j => by unfold C0; split <;> decide
  have e : ∀ j, Mi b j = if 404 ≤ b then nI (C0 (b - 404 + 20) j) else if 401 ≤ b then nI (C0 (b - 401 + 20) j) else nI (C0 (b - 398 + 20) j) := fun j => by
    unfold Mi
    simp only [tM2, bM2]
    rcases (show (398 ≤ b ∧ b < 401) ∨ (401 ≤ b ∧ b < 404) ∨ (404 ≤ b ∧ b < 407) by omega) with d | d | d <;> (repeat (first | rw [if_pos (by omega)] | rw [if_neg (by omega)]))
  by_cases h1 : 404 ≤ b
  · exact ⟨fun j => C0 (b - 404 + 20) j, fun j _ => ⟨by rw [e, if_pos h1], q _ _⟩⟩
  · by_cases h2 : 401 ≤ b
    · exact ⟨fun j => C0 (b - 401 + 20) j, fun j _ => ⟨by rw [e, if_neg h1, if_pos h2], q _ _⟩⟩
    · exact ⟨fun j => C0 (b - 398 + 20) j, fun j _ => ⟨by rw [e, if_neg h1, if_neg h2], q _ _⟩⟩
theorem xr_0 : XR Mi S0 := by
  refine ⟨⟨?_, fun k hk j hj => ?_⟩, ⟨0, ?_⟩, fun k hk => ⟨fun D hD => absurd (show (none : Option Core) = some D from hD) (by simp), fun _ => Mi_0 (by omega)⟩, ⟨Mi_0 (by omega), Nat.zero_le 540, fun j hj => absurd hj (Nat.not_lt_zero j), Mi_0 (by omega), Mi_0 (by omega), Mi_0 (by omega)⟩, ?_⟩
  · exact Mi_37 (k := 0) (by decide)
  · exact Mi_37 (by unfold rIx at hk; omega)
  · exact ⟨Mi_0 (by omega), Mi_0 (by omega), by decide, Nat.zero_le 8, fun i C hC => by cases hC⟩
  · refine ⟨fun b h1 h2 h3 => ?_, ⟨fun _ => 0, fun j _ => ⟨Mi_0 (by omega), show 0 < 1000003 by decide⟩⟩⟩
    by_cases h4 : 398 ≤ b ∧ b < 407
    · exact Mi_t h4
    · exact ⟨fun _ => 0, fun j _ => ⟨Mi_0 (by omega), show 0 < 1000003 by decide⟩⟩
theorem mr_0 : MR Mi S0 := by
  refine ⟨fun j hj h => ?_, ⟨Mi_0 (by omega), Nat.zero_le 8, fun i C hC => by cases hC⟩, fun k hk => ⟨fun D hD => absurd (show (none : Option Core) = some D from hD) (by simp), fun _ => Mi_0 (by omega)⟩, ⟨Mi_0 (by omega), Nat.zero_le 540, fun j hj => absurd hj (Nat.not_lt_zero j), Mi_0 (by omega), Mi_0 (by omega), Mi_0 (by omega)⟩⟩
  rcases h with rfl | h
  · exact Mi_0 (by omega)
  · exact absurd rfl h
theorem ws_0 : WS S0 := ⟨WC.c0, fun D hD => absurd hD List.not_mem_nil, Nat.zero_le 8, fun k D hD => by cases hD⟩
