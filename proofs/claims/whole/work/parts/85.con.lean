theorem k_St {o : OM} {l : Launch} {R : Nat → Nat → Option Nat} {M : Mem} {s : Nat} (hs : isSc s) (hA : OA o) (hz0 : Zb s R M) : KC o l m_St_init (31, 268) s (s + 32) R M (pt R s (s + 32)) (bM M s) := by
  refine kc_of rfl rfl rfl (Nat.le_of_ble_eq_true rfl) rfl ?_
  have hz := hz0.mono (Nat.le_succ _)
  refine r_aload_n d_St_init_0 rfl ?_
  refine r_obj d_St_init_1 ⟨k_St_3, w_objinit.1, w_objinit.2⟩ (by decide) (Nat.le_of_ble_eq_true rfl) ?_
  refine r_aload_n d_St_init_4 rfl ?_
  refine r_bipush (v := nI 6) d_St_init_5 (by decide) ?_
  refine r_bipush (v := nI 10) d_St_init_7 (by decide) ?_
  refine p_multi (bg' := (24, 202)) (N := 6) (K := 10) (n := (s + 1)) d_St_init_9 hA wm_St rfl rfl (by decide) (by decide) rfl rfl hz (hs.1 1 (by decide)) (fun i hi => by have := hs.1 (2 + i) (by omega); rw [show s + (2 + i) = s + 1 + 1 + i by omega] at this; rw [this]; unfold gSt; (repeat (first | rw [if_pos (by omega)] | rw [if_neg (by omega)]))) (fun j => (hs.2 1 j (by decide)).trans rfl) (fun i j hi => by have := hs.2 (2 + i) j (by omega); rw [show s + (2 + i) = s + 1 + 1 + i by omega] at this; rw [this]; unfold gSr; (repeat (first | rw [if_pos (by omega)] | rw [if_neg (by omega)]))) (fun hz => ?_)
  refine p_putr (n := (s + 8)) (a := s) (b := (s + 1)) d_St_init_13 f_St_11 rfl (fun x => ⟨rfl, rfl⟩) rfl rfl rfl hz (hs.1 0 (by decide)) (by omega) (fun hz => ?_)
  refine r_aload_n d_St_init_16 rfl ?_
  refine r_iconst (v := nI 4) d_St_init_17 (by decide) ?_
  refine p_anew (bg' := (23, 198)) (t := 7) (N := 4) (n := (s + 8)) d_St_init_18 hA an_St (by decide) rfl (by decide) rfl rfl hz (hs.1 8 (by decide)) (fun hz => ?_)
  refine p_putr (n := (s + 9)) (a := s) (b := (s + 8)) d_St_init_21 f_St_18 rfl (fun x => ⟨rfl, rfl⟩) rfl rfl rfl hz (hs.1 0 (by decide)) (by omega) (fun hz => ?_)
  refine r_aload_n d_St_init_24 rfl ?_
  refine r_bipush (v := nI 10) d_St_init_25 (by decide) ?_
  refine r_bipush (v := nI 10) d_St_init_27 (by decide) ?_
  refine p_multi (bg' := (12, 88)) (N := 10) (K := 10) (n := (s + 9)) d_St_init_29 hA wm_St rfl rfl (by decide) (by decide) rfl rfl hz (hs.1 9 (by decide)) (fun i hi => by have := hs.1 (10 + i) (by omega); rw [show s + (10 + i) = s + 9 + 1 + i by omega] at this; rw [this]; unfold gSt; (repeat (first | rw [if_pos (by omega)] | rw [if_neg (by omega)]))) (fun j => (hs.2 9 j (by decide)).trans rfl) (fun i j hi => by have := hs.2 (10 + i) j (by omega); rw [show s + (10 + i) = s + 9 + 1 + i by omega] at this; rw [this]; unfold gSr; (repeat (first | rw [if_pos (by omega)] | rw [if_neg (by omega)]))) (fun hz => ?_)
  refine p_putr (n := (s + 20)) (a := s) (b := (s + 9)) d_St_init_33 f_St_22 rfl (fun x => ⟨rfl, rfl⟩) rfl rfl rfl hz (hs.1 0 (by decide)) (by omega) (fun hz => ?_)
  refine r_iconst (v := nI 0) d_St_init_36 (by decide) ?_
  refine r_istore_n (L' := [some (.ref s), some (.int (nI 0))]) d_St_init_37 (by decide) rfl ?_
  refine r_iload_n (x := nI 0) d_St_init_38 rfl ?_
  refine r_iconst (v := nI 4) d_St_init_39 (by decide) ?_
  refine n_icmp_ge d_St_init_40 (by omega) (by omega) (fun h9 => absurd h9 (by decide)) (fun _ => ?_)
  refine r_aload_n d_St_init_43 rfl ?_
  refine p_getr (n := (s + 20)) (a := s) (b := (s + 8)) d_St_init_44 f_St_18 rfl (hs.1 0 (by decide)) (by omega) (by simp only [upm2, pt2]; first | rfl | ((repeat (first | rw [if_pos (by omega)] | rw [if_neg (by omega)])); first | done | rfl)) ?_
  refine r_iload_n (x := nI 0) d_St_init_47 rfl ?_
  refine p_new (bg' := (11, 86)) (n := (s + 20)) d_St_init_48 n_St_16 rfl rfl hz (hs.1 20 (by decide)) ?_
  refine r_dup d_St_init_51 rfl ?_
  refine p_call (bg' := (2, 20)) (bg2 := (9, 66)) (a := (s + 20)) (n' := (s + 23)) d_St_init_52 k_St_25 ws_Ta_init (by decide) (Nat.le_of_ble_eq_true rfl) rfl rfl (k_Ta (t := (s + 20)) (hs.tc (i := 0) (by decide)) hA hz) ?_
  replace hz := (hz.pt (lo := (s + 20)) (hi := (s + 23)) (by omega)).tM (s := (s + 20)) (by omega)
  refine p_aast (n := (s + 23)) (a := (s + 8)) (b := (s + 20)) (N := 4) (j := 0) (t := 7) (ci := 4) d_St_init_55 (hs.1 8 (by decide)) (by omega) (by decide) (by decide) rfl (hs.1 20 (by decide)) (by omega) rfl (by decide) (by decide) hz (fun hz => ?_)
  refine n_iinc (a := 0) (c := 1) (L' := [some (.ref s), some (.int (nI 1))]) d_St_init_56 rfl (by decide) (by decide) rfl ?_
  refine r_goto d_St_init_59 ?_
  refine r_iload_n (x := nI 1) d_St_init_38 rfl ?_
  refine r_iconst (v := nI 4) d_St_init_39 (by decide) ?_
  refine n_icmp_ge d_St_init_40 (by omega) (by omega) (fun h9 => absurd h9 (by decide)) (fun _ => ?_)
  refine r_aload_n d_St_init_43 rfl ?_
  refine p_getr (n := (s + 23)) (a := s) (b := (s + 8)) d_St_init_44 f_St_18 rfl (hs.1 0 (by decide)) (by omega) (by simp only [upm2, pt2]; first | rfl | ((repeat (first | rw [if_pos (by omega)] | rw [if_neg (by omega)])); first | done | rfl)) ?_
  refine r_iload_n (x := nI 1) d_St_init_47 rfl ?_
  refine p_new (bg' := (8, 64)) (n := (s + 23)) d_St_init_48 n_St_16 rfl rfl hz (hs.1 23 (by decide)) ?_
  refine r_dup d_St_init_51 rfl ?_
  refine p_call (bg' := (2, 20)) (bg2 := (6, 44)) (a := (s + 23)) (n' := (s + 26)) d_St_init_52 k_St_25 ws_Ta_init (by decide) (Nat.le_of_ble_eq_true rfl) rfl rfl (k_Ta (t := (s + 23)) (hs.tc (i := 1) (by decide)) hA hz) ?_
  replace hz := (hz.pt (lo := (s + 23)) (hi := (s + 26)) (by omega)).tM (s := (s + 23)) (by omega)
  refine p_aast (n := (s + 26)) (a := (s + 8)) (b := (s + 23)) (N := 4) (j := 1) (t := 7) (ci := 4) d_St_init_55 (hs.1 8 (by decide)) (by omega) (by decide) (by decide) rfl (hs.1 23 (by decide)) (by omega) rfl (by decide) (by decide) hz (fun hz => ?_)
  refine n_iinc (a := 1) (c := 1) (L' := [some (.ref s), some (.int (nI 2))]) d_St_init_56 rfl (by decide) (by decide) rfl ?_
  refine r_goto d_St_init_59 ?_
  refine r_iload_n (x := nI 2) d_St_init_38 rfl ?_
  refine r_iconst (v := nI 4) d_St_init_39 (by decide) ?_
  refine n_icmp_ge d_St_init_40 (by omega) (by omega) (fun h9 => absurd h9 (by decide)) (fun _ => ?_)
  refine r_aload_n d_St_init_43 rfl ?_
  refine p_getr (n := (s + 26)) (a := s) (b := (s + 8)) d_St_init_44 f_St_18 rfl (hs.1 0 (by decide)) (by omega) (by simp only [upm2, pt2]; first | rfl | ((repeat (first | rw [if_pos (by omega)] | rw [if_neg (by omega)])); first | done | rfl)) ?_
  refine r_iload_n (x := nI 2) d_St_init_47 rfl ?_
  refine p_new (bg' := (5, 42)) (n := (s + 26)) d_St_init_48 n_St_16 rfl rfl hz (hs.1 26 (by decide)) ?_
  refine r_dup d_St_init_51 rfl ?_
  refine p_call (bg' := (2, 20)) (bg2 := (3, 22)) (a := (s + 26)) (n' := (s + 29)) d_St_init_52 k_St_25 ws_Ta_init (by decide) (Nat.le_of_ble_eq_true rfl) rfl rfl (k_Ta (t := (s + 26)) (hs.tc (i := 2) (by decide)) hA hz) ?_
  replace hz := (hz.pt (lo := (s + 26)) (hi := (s + 29)) (by omega)).tM (s := (s + 26)) (by omega)
  refine p_aast (n := (s + 29)) (a := (s + 8)) (b := (s + 26)) (N := 4) (j := 2) (t := 7) (ci := 4) d_St_init_55 (hs.1 8 (by decide)) (by omega) (by decide) (by decide) rfl (hs.1 26 (by decide)) (by omega) rfl (by decide) (by decide) hz (fun hz => ?_)
  refine n_iinc (a := 2) (c := 1) (L' := [some (.ref s), some (.int (nI 3))]) d_St_init_56 rfl (by decide) (by decide) rfl ?_
  refine r_goto d_St_init_59 ?_
  refine r_iload_n (x := nI 3) d_St_init_38 rfl ?_
  refine r_iconst (v := nI 4) d_St_init_39 (by decide) ?_
  refine n_icmp_ge d_St_init_40 (by omega) (by omega) (fun h9 => absurd h9 (by decide)) (fun _ => ?_)
  refine r_aload_n d_St_init_43 rfl ?_
  refine p_getr (n := (s + 29)) (a := s) (b := (s + 8)) d_St_init_44 f_St_18 rfl (hs.1 0 (by decide)) (by omega) (by simp only [upm2, pt2]; first | rfl | ((repeat (first | rw [if_pos (by omega)] | rw [if_neg (by omega)])); first | done | rfl)) ?_
  refine r_iload_n (x := nI 3) d_St_init_47 rfl ?_
  refine p_new (bg' := (2, 20)) (n := (s + 29)) d_St_init_48 n_St_16 rfl rfl hz (hs.1 29 (by decide)) ?_
  refine r_dup d_St_init_51 rfl ?_
  refine p_call (bg' := (2, 20)) (bg2 := (0, 0)) (a := (s + 29)) (n' := (s + 32)) d_St_init_52 k_St_25 ws_Ta_init (by decide) (Nat.le_of_ble_eq_true rfl) rfl rfl (k_Ta (t := (s + 29)) (hs.tc (i := 3) (by decide)) hA hz) ?_
  replace hz := (hz.pt (lo := (s + 29)) (hi := (s + 32)) (by omega)).tM (s := (s + 29)) (by omega)
  refine p_aast (n := (s + 32)) (a := (s + 8)) (b := (s + 29)) (N := 4) (j := 3) (t := 7) (ci := 4) d_St_init_55 (hs.1 8 (by decide)) (by omega) (by decide) (by decide) rfl (hs.1 29 (by decide)) (by omega) rfl (by decide) (by decide) hz (fun hz => ?_)
  refine n_iinc (a := 3) (c := 1) (L' := [some (.ref s), some (.int (nI 4))]) d_St_init_56 rfl (by decide) (by decide) rfl ?_
  refine r_goto d_St_init_59 ?_
  refine r_iload_n (x := nI 4) d_St_init_38 rfl ?_
  refine r_iconst (v := nI 4) d_St_init_39 (by decide) ?_
  refine n_icmp_ge d_St_init_40 (by omega) (by omega) (fun _ => ?_) (fun h9 => absurd h9 (by decide))
  refine p_ret d_St_init_62 rfl rfl ?_ ?_
  · funext b j
    simp only [upm2, pt2]
    by_cases c0 : b = s
    · subst c0
      rw [show gR b j = gSr b 0 j from hs.2 0 j (by decide)]
      unfold gSr
      rcases (show j = 0 ∨ j = 1 ∨ j = 2 ∨ 3 ≤ j by omega) with rfl | rfl | rfl | hj <;> (repeat (first | rw [if_pos (by omega)] | rw [if_neg (by omega)])) <;> first | done | rfl | exact hz0.1 _ _ (by omega)
    · by_cases c1 : b = s + 8
      · subst c1
        rw [show gR (s + 8) j = gSr s 8 j from hs.2 8 j (by decide)]
        unfold gSr
        rcases (show j = 0 ∨ j = 1 ∨ j = 2 ∨ j = 3 ∨ 4 ≤ j by omega) with rfl | rfl | rfl | rfl | hj <;> (repeat (first | rw [if_pos (by omega)] | rw [if_neg (by omega)])) <;> first | done | rfl | exact hz0.1 _ _ (by omega)
      · by_cases c2 : s ≤ b ∧ b < s + 32
        · rcases (show (s + 1 ≤ b ∧ b < s + 8) ∨ (s + 9 ≤ b ∧ b < s + 20) ∨ (s + 20 ≤ b ∧ b < s + 23) ∨ (s + 23 ≤ b ∧ b < s + 26) ∨ (s + 26 ≤ b ∧ b < s + 29) ∨ (s + 29 ≤ b ∧ b < s + 32) by omega) with d | d | d | d | d | d <;> (repeat (first | rw [if_pos (by omega)] | rw [if_neg (by omega)]))
        · (repeat (first | rw [if_pos (by omega)] | rw [if_neg (by omega)]))
  · funext b j
    simp only [bM2, tM2]
    by_cases c0 : s ≤ b ∧ b < s + 32
    · rw [if_pos c0, hz0.2 b j c0.1]
      unfold C0
      repeat' split
      all_goals first | rfl | omega
    · (repeat (first | rw [if_pos (by omega)] | rw [if_neg (by omega)]))
