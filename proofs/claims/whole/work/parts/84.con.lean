/-! the constructors -/
def isTc (t : Nat) : Prop := gT t = (14, 0) ∧ gT (t + 1) = (1, 10) ∧ gT (t + 2) = (1, 10) ∧ (∀ j, gR t j = if j < 2 then some (t + 1 + j) else none) ∧ (∀ j, gR (t + 1) j = none) ∧ ∀ j, gR (t + 2) j = none
def isBc (a : Nat) : Prop := gT a = (12, 0) ∧ gT (a + 1) = (1, 10) ∧ gT (a + 2) = (1, 10) ∧ gT (a + 3) = (1, 10) ∧ (∀ j, gR a j = if j < 3 then some (a + 1 + j) else none) ∧ ∀ i j, i < 3 → gR (a + 1 + i) j = none
def isSc (s : Nat) : Prop := (∀ k, k < 32 → gT (s + k) = gSt k) ∧ ∀ k j, k < 32 → gR (s + k) j = gSr s k j
theorem bc_393 : isBc 393 := ⟨rfl, rfl, rfl, rfl, fun j => by
  match j with
  | 0 => rfl
  | 1 => rfl
  | 2 => rfl
  | j + 3 => rfl, fun i j hi => by
  rcases (show i = 0 ∨ i = 1 ∨ i = 2 by omega) with rfl | rfl | rfl <;> rfl⟩
theorem bc_432 : isBc 432 := ⟨rfl, rfl, rfl, rfl, fun j => by
  match j with
  | 0 => rfl
  | 1 => rfl
  | 2 => rfl
  | j + 3 => rfl, fun i j hi => by
  rcases (show i = 0 ∨ i = 1 ∨ i = 2 by omega) with rfl | rfl | rfl <;> rfl⟩
theorem tc_398 : isTc 398 := ⟨rfl, rfl, rfl, fun j => rfl, fun j => rfl, fun j => rfl⟩
theorem tc_401 : isTc 401 := ⟨rfl, rfl, rfl, fun j => rfl, fun j => rfl, fun j => rfl⟩
theorem tc_404 : isTc 404 := ⟨rfl, rfl, rfl, fun j => rfl, fun j => rfl, fun j => rfl⟩
theorem sc_2 : isSc 2 := by
  refine ⟨fun k hk => ?_, fun k j hk => ?_⟩
  · unfold gT
    rw [if_pos (by omega), if_neg (by omega), if_neg (by omega), show 2 + k - 2 = k by omega]
  · unfold gR
    rw [if_pos (by omega), if_neg (by omega), if_neg (by omega), show 2 + k - 2 = k by omega]
theorem sc_37 : isSc 37 := by
  refine ⟨fun k hk => ?_, fun k j hk => ?_⟩
  · unfold gT
    rw [if_neg (by omega), if_pos (by omega), if_neg (by omega), if_neg (by omega), if_neg (by omega), if_pos (by omega), show 37 + k - 37 = k by omega]
  · unfold gR
    rw [if_neg (by omega), if_pos (by omega), if_neg (by omega), if_neg (by omega), if_neg (by omega), if_pos (by omega), show 37 + k - 37 = k by omega]
theorem sc_ring (q : Nat) (hq : q < 8) : isSc (71 + 32 * q) := by
  refine ⟨fun k hk => ?_, fun k j hk => ?_⟩
  · unfold gT
    rw [if_neg (by omega), if_neg (by omega), if_pos (by omega), show (71 + 32 * q + k - 71) % 32 = k by omega]
  · unfold gR
    rw [if_neg (by omega), if_neg (by omega), if_pos (by omega), show (71 + 32 * q + k - 71) % 32 = k by omega, show (71 + 32 * q + k - 71) / 32 = q by omega]
theorem sc_img (q : Nat) (hq : q < 2) : isSc (328 + 32 * q) := by
  refine ⟨fun k hk => ?_, fun k j hk => ?_⟩
  · unfold gT
    rw [if_neg (by omega), if_neg (by omega), if_neg (by omega), if_pos (by omega), if_neg (by omega), show (328 + 32 * q + k - 328) % 32 = k by omega]
  · unfold gR
    rw [if_neg (by omega), if_neg (by omega), if_neg (by omega), if_pos (by omega), if_neg (by omega), show (328 + 32 * q + k - 328) % 32 = k by omega, show (328 + 32 * q + k - 328) / 32 = q by omega]
theorem isSc.tc {s i : Nat} (h : isSc s) (hi : i < 4) : isTc (s + 20 + 3 * i) := by
  have e1 := h.1 (20 + 3 * i) (by omega)
  have e2 := h.1 (21 + 3 * i) (by omega)
  have e3 := h.1 (22 + 3 * i) (by omega)
  have f1 := fun j => h.2 (20 + 3 * i) j (by omega)
  have f2 := fun j => h.2 (21 + 3 * i) j (by omega)
  have f3 := fun j => h.2 (22 + 3 * i) j (by omega)
  rw [show s + (20 + 3 * i) = s + 20 + 3 * i by omega] at e1
  rw [show s + (21 + 3 * i) = s + 20 + 3 * i + 1 by omega] at e2
  rw [show s + (22 + 3 * i) = s + 20 + 3 * i + 2 by omega] at e3
  refine ⟨e1.trans ?_, e2.trans ?_, e3.trans ?_, fun j => ?_, fun j => ?_, fun j => ?_⟩
  · unfold gSt; (repeat (first | rw [if_pos (by omega)] | rw [if_neg (by omega)]))
  · unfold gSt; (repeat (first | rw [if_pos (by omega)] | rw [if_neg (by omega)]))
  · unfold gSt; (repeat (first | rw [if_pos (by omega)] | rw [if_neg (by omega)]))
  · have := f1 j
    rw [show s + (20 + 3 * i) = s + 20 + 3 * i by omega] at this
    rw [this]; unfold gSr
    rw [if_neg (by omega), if_neg (by omega), if_neg (by omega), if_neg (by omega), if_pos (by omega), show s + (20 + 3 * i) + 1 + j = s + 20 + 3 * i + 1 + j by omega]
  · have := f2 j
    rw [show s + (21 + 3 * i) = s + 20 + 3 * i + 1 by omega] at this
    rw [this]; unfold gSr; (repeat (first | rw [if_pos (by omega)] | rw [if_neg (by omega)]))
  · have := f3 j
    rw [show s + (22 + 3 * i) = s + 20 + 3 * i + 2 by omega] at this
    rw [this]; unfold gSr; (repeat (first | rw [if_pos (by omega)] | rw [if_neg (by omega)]))
theorem k_Ta {o : OM} {l : Launch} {R : Nat → Nat → Option Nat} {M : Mem} {t : Nat} (h : isTc t) (hA : OA o) (hz0 : Zb t R M) : KC o l m_Ta_init (2, 20) t (t + 3) R M (pt R t (t + 3)) (tM M t) := by
  refine kc_of rfl rfl rfl (Nat.le_of_ble_eq_true rfl) rfl ?_
  have hz := hz0.mono (Nat.le_succ _)
  refine r_aload_n d_Ta_init_0 rfl ?_
  refine r_obj d_Ta_init_1 ⟨k_Ta_3, w_objinit.1, w_objinit.2⟩ (by decide) (Nat.le_of_ble_eq_true rfl) ?_
  refine r_aload_n d_Ta_init_4 rfl ?_
  refine r_bipush (v := nI 10) d_Ta_init_5 (by decide) ?_
  refine p_newa (bg' := (1, 10)) (t := 1) (N := 10) (n := (t + 1)) d_Ta_init_7 rfl (by decide) wa_int rfl (by decide) rfl rfl hz (h.2.1) (fun hz => ?_)
  refine p_putr (n := (t + 2)) (a := t) (b := (t + 1)) d_Ta_init_9 f_Ta_9 rfl (fun x => ⟨rfl, rfl⟩) rfl rfl rfl hz (h.1) (by omega) (fun hz => ?_)
  refine r_aload_n d_Ta_init_12 rfl ?_
  refine r_bipush (v := nI 10) d_Ta_init_13 (by decide) ?_
  refine p_newa (bg' := (0, 0)) (t := 1) (N := 10) (n := (t + 2)) d_Ta_init_15 rfl (by decide) wa_int rfl (by decide) rfl rfl hz (h.2.2.1) (fun hz => ?_)
  refine p_putr (n := (t + 3)) (a := t) (b := (t + 2)) d_Ta_init_17 f_Ta_15 rfl (fun x => ⟨rfl, rfl⟩) rfl rfl rfl hz (h.1) (by omega) (fun hz => ?_)
  refine r_aload_n d_Ta_init_20 rfl ?_
  refine p_getr (n := (t + 3)) (a := t) (b := (t + 1)) d_Ta_init_21 f_Ta_9 rfl (h.1) (by omega) (by simp only [upm2, pt2]; first | rfl | ((repeat (first | rw [if_pos (by omega)] | rw [if_neg (by omega)])); first | done | rfl)) ?_
  refine r_iconst (v := nI 0) d_Ta_init_24 (by decide) ?_
  refine r_iconst (v := nI 1) d_Ta_init_25 (by decide) ?_
  refine p_iast (n := (t + 3)) (a := (t + 1)) (N := 10) (j := 0) d_Ta_init_26 (h.2.1) (by omega) rfl (by decide) (by decide) hz (fun hz => ?_)
  refine r_aload_n d_Ta_init_27 rfl ?_
  refine p_getr (n := (t + 3)) (a := t) (b := (t + 2)) d_Ta_init_28 f_Ta_15 rfl (h.1) (by omega) (by simp only [upm2, pt2]; first | rfl | ((repeat (first | rw [if_pos (by omega)] | rw [if_neg (by omega)])); first | done | rfl)) ?_
  refine r_iconst (v := nI 1) d_Ta_init_31 (by decide) ?_
  refine r_iconst (v := nI 1) d_Ta_init_32 (by decide) ?_
  refine p_iast (n := (t + 3)) (a := (t + 2)) (N := 10) (j := 1) d_Ta_init_33 (h.2.2.1) (by omega) rfl (by decide) (by decide) hz (fun hz => ?_)
  refine p_ret d_Ta_init_34 rfl rfl ?_ ?_
  · funext b j
    simp only [upm2, pt2]
    by_cases c0 : b = t
    · subst c0
      rw [h.2.2.2.1 j]
      rcases (show j = 0 ∨ j = 1 ∨ 2 ≤ j by omega) with rfl | rfl | hj <;> (repeat (first | rw [if_pos (by omega)] | rw [if_neg (by omega)])) <;> first | done | rfl | exact hz0.1 _ _ (by omega)
    · by_cases c1 : b = t + 1
      · subst c1
        rw [h.2.2.2.2.1 j]
        (repeat (first | rw [if_pos (by omega)] | rw [if_neg (by omega)]))
        exact hz0.1 _ _ (by omega)
      · by_cases c2 : b = t + 2
        · subst c2
          rw [h.2.2.2.2.2 j]
          (repeat (first | rw [if_pos (by omega)] | rw [if_neg (by omega)]))
          exact hz0.1 _ _ (by omega)
        · (repeat (first | rw [if_pos (by omega)] | rw [if_neg (by omega)]))
  · funext b j
    simp only [upm2, tM2]
    by_cases c0 : t ≤ b ∧ b < t + 3
    · rw [if_pos c0, hz0.2 b j c0.1]
      unfold C0
      by_cases c1 : b = t + 1 ∧ j = 0
      · (repeat (first | rw [if_pos (by omega)] | rw [if_neg (by omega)]))
      · by_cases c2 : b = t + 2 ∧ j = 1
        · (repeat (first | rw [if_pos (by omega)] | rw [if_neg (by omega)]))
        · (repeat (first | rw [if_pos (by omega)] | rw [if_neg (by omega)]))
          rfl
    · (repeat (first | rw [if_pos (by omega)] | rw [if_neg (by omega)]))
theorem k_Sb {o : OM} {l : Launch} {R : Nat → Nat → Option Nat} {M : Mem} {a : Nat} (h : isBc a) (hA : OA o) (hz0 : Zb a R M) : KC o l m_Sb_init (3, 30) a (a + 4) R M (pt R a (a + 4)) (M) := by
  refine kc_of rfl rfl rfl (Nat.le_of_ble_eq_true rfl) rfl ?_
  have hz := hz0.mono (Nat.le_succ _)
  refine r_aload_n d_Sb_init_0 rfl ?_
  refine r_obj d_Sb_init_1 ⟨k_Sb_3, w_objinit.1, w_objinit.2⟩ (by decide) (Nat.le_of_ble_eq_true rfl) ?_
  refine r_aload_n d_Sb_init_4 rfl ?_
  refine r_bipush (v := nI 10) d_Sb_init_5 (by decide) ?_
  refine p_newa (bg' := (2, 20)) (t := 1) (N := 10) (n := (a + 1)) d_Sb_init_7 rfl (by decide) wa_int rfl (by decide) rfl rfl hz (h.2.1) (fun hz => ?_)
  refine p_putr (n := (a + 2)) (a := a) (b := (a + 1)) d_Sb_init_9 f_Sb_9 rfl (fun x => ⟨rfl, rfl⟩) rfl rfl rfl hz (h.1) (by omega) (fun hz => ?_)
  refine r_aload_n d_Sb_init_12 rfl ?_
  refine r_bipush (v := nI 10) d_Sb_init_13 (by decide) ?_
  refine p_newa (bg' := (1, 10)) (t := 1) (N := 10) (n := (a + 2)) d_Sb_init_15 rfl (by decide) wa_int rfl (by decide) rfl rfl hz (h.2.2.1) (fun hz => ?_)
  refine p_putr (n := (a + 3)) (a := a) (b := (a + 2)) d_Sb_init_17 f_Sb_15 rfl (fun x => ⟨rfl, rfl⟩) rfl rfl rfl hz (h.1) (by omega) (fun hz => ?_)
  refine r_aload_n d_Sb_init_20 rfl ?_
  refine r_bipush (v := nI 10) d_Sb_init_21 (by decide) ?_
  refine p_newa (bg' := (0, 0)) (t := 1) (N := 10) (n := (a + 3)) d_Sb_init_23 rfl (by decide) wa_int rfl (by decide) rfl rfl hz (h.2.2.2.1) (fun hz => ?_)
  refine p_putr (n := (a + 4)) (a := a) (b := (a + 3)) d_Sb_init_25 f_Sb_18 rfl (fun x => ⟨rfl, rfl⟩) rfl rfl rfl hz (h.1) (by omega) (fun hz => ?_)
  refine p_ret d_Sb_init_28 rfl rfl ?_ ?_
  · funext b j
    simp only [upm2, pt2]
    by_cases c0 : b = a
    · subst c0
      rw [h.2.2.2.2.1 j]
      rcases (show j = 0 ∨ j = 1 ∨ j = 2 ∨ 3 ≤ j by omega) with rfl | rfl | rfl | hj <;> (repeat (first | rw [if_pos (by omega)] | rw [if_neg (by omega)])) <;> first | done | rfl | exact hz0.1 _ _ (by omega)
    · by_cases c1 : a < b ∧ b < a + 4
      · have := h.2.2.2.2.2 (b - a - 1) j (by omega)
        rw [show a + 1 + (b - a - 1) = b by omega] at this
        rw [this]
        (repeat (first | rw [if_pos (by omega)] | rw [if_neg (by omega)]))
        exact hz0.1 _ _ (by omega)
      · (repeat (first | rw [if_pos (by omega)] | rw [if_neg (by omega)]))
  · rfl
theorem k_Tp {o : OM} {l : Launch} {R : Nat → Nat → Option Nat} {M : Mem}  (hA : OA o) (hz0 : Zb 34 R M) : KC o l m_Tp_init (1, 540) 34 36 R M (pt R 34 36) (M) := by
  refine kc_of rfl rfl rfl (Nat.le_of_ble_eq_true rfl) rfl ?_
  have hz := hz0.mono (Nat.le_succ _)
  refine r_aload_n d_Tp_init_0 rfl ?_
  refine r_obj d_Tp_init_1 ⟨k_Tp_3, w_objinit.1, w_objinit.2⟩ (by decide) (Nat.le_of_ble_eq_true rfl) ?_
  refine r_aload_n d_Tp_init_4 rfl ?_
  refine r_sipush (v := nI 540) d_Tp_init_5 (by decide) ?_
  refine p_newa (bg' := (0, 0)) (t := 2) (N := 540) (n := 35) d_Tp_init_8 rfl (by decide) wa_byte rfl (by decide) rfl rfl hz (rfl) (fun hz => ?_)
  refine p_putr (n := 36) (a := 34) (b := 35) d_Tp_init_10 f_Tp_9 rfl (fun x => ⟨rfl, rfl⟩) rfl rfl rfl hz (rfl) (by omega) (fun hz => ?_)
  refine p_ret d_Tp_init_13 rfl rfl ?_ ?_
  · funext b j
    simp only [upm2, pt2]
    by_cases c0 : b = 34
    · subst c0
      rcases (show j = 0 ∨ 1 ≤ j by omega) with rfl | hj
      · rfl
      · (repeat (first | rw [if_pos (by omega)] | rw [if_neg (by omega)]))
        rw [hz0.1 _ _ (by omega)]
        unfold gR
        (repeat (first | rw [if_pos (by omega)] | rw [if_neg (by omega)]))
    · by_cases c1 : b = 35
      · subst c1
        (repeat (first | rw [if_pos (by omega)] | rw [if_neg (by omega)]))
        exact hz0.1 _ _ (by omega)
      · (repeat (first | rw [if_pos (by omega)] | rw [if_neg (by omega)]))
  · rfl
