theorem k_Hi {o : OM} {l : Launch} {R : Nat → Nat → Option Nat} {M : Mem}  (hA : OA o) (hz0 : Zb 69 R M) : KC o l m_Hi_init (257, 2184) 69 327 R M (pt R 69 327) (bM (bM (bM (bM (bM (bM (bM (bM M 71) 103) 135) 167) 199) 231) 263) 295) := by
  refine kc_of rfl rfl rfl (Nat.le_of_ble_eq_true rfl) rfl ?_
  have hz := hz0.mono (Nat.le_succ _)
  refine r_aload_n d_Hi_init_0 rfl ?_
  refine r_obj d_Hi_init_1 ⟨k_Hi_3, w_objinit.1, w_objinit.2⟩ (by decide) (Nat.le_of_ble_eq_true rfl) ?_
  refine r_aload_n d_Hi_init_4 rfl ?_
  refine r_bipush (v := nI 8) d_Hi_init_5 (by decide) ?_
  refine p_anew (bg' := (256, 2176)) (t := 6) (N := 8) (n := 70) d_Hi_init_7 hA an_Hi (by decide) rfl (by decide) rfl rfl hz (rfl) (fun hz => ?_)
  refine p_putr (n := 71) (a := 69) (b := 70) d_Hi_init_10 f_Hi_11 rfl (fun x => ⟨rfl, rfl⟩) rfl rfl rfl hz (rfl) (by omega) (fun hz => ?_)
  refine r_iconst (v := nI 0) d_Hi_init_13 (by decide) ?_
  refine r_istore_n (L' := [some (.ref 69), some (.int (nI 0))]) d_Hi_init_14 (by decide) rfl ?_
  refine r_iload_n (x := nI 0) d_Hi_init_15 rfl ?_
  refine r_bipush (v := nI 8) d_Hi_init_16 (by decide) ?_
  refine n_icmp_ge d_Hi_init_18 (by omega) (by omega) (fun h9 => absurd h9 (by decide)) (fun _ => ?_)
  refine r_aload_n d_Hi_init_21 rfl ?_
  refine p_getr (n := 71) (a := 69) (b := 70) d_Hi_init_22 f_Hi_11 rfl (rfl) (by omega) (by simp only [upm2, pt2]; first | rfl | ((repeat (first | rw [if_pos (by omega)] | rw [if_neg (by omega)])); first | done | rfl)) ?_
  refine r_iload_n (x := nI 0) d_Hi_init_25 rfl ?_
  refine p_new (bg' := (255, 2172)) (n := 71) d_Hi_init_26 n_Hi_9 rfl rfl hz (rfl) ?_
  refine r_dup d_Hi_init_29 rfl ?_
  refine p_call (bg' := (31, 268)) (bg2 := (224, 1904)) (a := 71) (n' := 103) d_Hi_init_30 k_Hi_17 ws_St_init (by decide) (Nat.le_of_ble_eq_true rfl) rfl rfl (k_St (s := 71) (sc_ring 0 (by decide)) hA hz) ?_
  replace hz := (hz.pt (lo := 71) (hi := 103) (by omega)).bM (s := 71) (by omega)
  refine p_aast (n := 103) (a := 70) (b := 71) (N := 8) (j := 0) (t := 6) (ci := 3) d_Hi_init_33 (rfl) (by omega) (by decide) (by decide) rfl (rfl) (by omega) rfl (by decide) (by decide) hz (fun hz => ?_)
  refine n_iinc (a := 0) (c := 1) (L' := [some (.ref 69), some (.int (nI 1))]) d_Hi_init_34 rfl (by decide) (by decide) rfl ?_
  refine r_goto d_Hi_init_37 ?_
  refine r_iload_n (x := nI 1) d_Hi_init_15 rfl ?_
  refine r_bipush (v := nI 8) d_Hi_init_16 (by decide) ?_
  refine n_icmp_ge d_Hi_init_18 (by omega) (by omega) (fun h9 => absurd h9 (by decide)) (fun _ => ?_)
  refine r_aload_n d_Hi_init_21 rfl ?_
  refine p_getr (n := 103) (a := 69) (b := 70) d_Hi_init_22 f_Hi_11 rfl (rfl) (by omega) (by simp only [upm2, pt2]; first | rfl | ((repeat (first | rw [if_pos (by omega)] | rw [if_neg (by omega)])); first | done | rfl)) ?_
  refine r_iload_n (x := nI 1) d_Hi_init_25 rfl ?_
  refine p_new (bg' := (223, 1900)) (n := 103) d_Hi_init_26 n_Hi_9 rfl rfl hz (rfl) ?_
  refine r_dup d_Hi_init_29 rfl ?_
  refine p_call (bg' := (31, 268)) (bg2 := (192, 1632)) (a := 103) (n' := 135) d_Hi_init_30 k_Hi_17 ws_St_init (by decide) (Nat.le_of_ble_eq_true rfl) rfl rfl (k_St (s := 103) (sc_ring 1 (by decide)) hA hz) ?_
  replace hz := (hz.pt (lo := 103) (hi := 135) (by omega)).bM (s := 103) (by omega)
  refine p_aast (n := 135) (a := 70) (b := 103) (N := 8) (j := 1) (t := 6) (ci := 3) d_Hi_init_33 (rfl) (by omega) (by decide) (by decide) rfl (rfl) (by omega) rfl (by decide) (by decide) hz (fun hz => ?_)
  refine n_iinc (a := 1) (c := 1) (L' := [some (.ref 69), some (.int (nI 2))]) d_Hi_init_34 rfl (by decide) (by decide) rfl ?_
  refine r_goto d_Hi_init_37 ?_
  refine r_iload_n (x := nI 2) d_Hi_init_15 rfl ?_
  refine r_bipush (v := nI 8) d_Hi_init_16 (by decide) ?_
  refine n_icmp_ge d_Hi_init_18 (by omega) (by omega) (fun h9 => absurd h9 (by decide)) (fun _ => ?_)
  refine r_aload_n d_Hi_init_21 rfl ?_
  refine p_getr (n := 135) (a := 69) (b := 70) d_Hi_init_22 f_Hi_11 rfl (rfl) (by omega) (by simp only [upm2, pt2]; first | rfl | ((repeat (first | rw [if_pos (by omega)] | rw [if_neg (by omega)])); first | done | rfl)) ?_
  refine r_iload_n (x := nI 2) d_Hi_init_25 rfl ?_
  refine p_new (bg' := (191, 1628)) (n := 135) d_Hi_init_26 n_Hi_9 rfl rfl hz (rfl) ?_
  refine r_dup d_Hi_init_29 rfl ?_
  refine p_call (bg' := (31, 268)) (bg2 := (160, 1360)) (a := 135) (n' := 167) d_Hi_init_30 k_Hi_17 ws_St_init (by decide) (Nat.le_of_ble_eq_true rfl) rfl rfl (k_St (s := 135) (sc_ring 2 (by decide)) hA hz) ?_
  replace hz := (hz.pt (lo := 135) (hi := 167) (by omega)).bM (s := 135) (by omega)
  refine p_aast (n := 167) (a := 70) (b := 135) (N := 8) (j := 2) (t := 6) (ci := 3) d_Hi_init_33 (rfl) (by omega) (by decide) (by decide) rfl (rfl) (by omega) rfl (by decide) (by decide) hz (fun hz => ?_)
  refine n_iinc (a := 2) (c := 1) (L' := [some (.ref 69), some (.int (nI 3))]) d_Hi_init_34 rfl (by decide) (by decide) rfl ?_
  refine r_goto d_Hi_init_37 ?_
  refine r_iload_n (x := nI 3) d_Hi_init_15 rfl ?_
  refine r_bipush (v := nI 8) d_Hi_init_16 (by decide) ?_
  refine n_icmp_ge d_Hi_init_18 (by omega) (by omega) (fun h9 => absurd h9 (by decide)) (fun _ => ?_)
  refine r_aload_n d_Hi_init_21 rfl ?_
  refine p_getr (n := 167) (a := 69) (b := 70) d_Hi_init_22 f_Hi_11 rfl (rfl) (by omega) (by simp only [upm2, pt2]; first | rfl | ((repeat (first | rw [if_pos (by omega)] | rw [if_neg (by omega)])); first | done | rfl)) ?_
  refine r_iload_n (x := nI 3) d_Hi_init_25 rfl ?_
  refine p_new (bg' := (159, 1356)) (n := 167) d_Hi_init_26 n_Hi_9 rfl rfl hz (rfl) ?_
  refine r_dup d_Hi_init_29 rfl ?_
  refine p_call (bg' := (31, 268)) (bg2 := (128, 1088)) (a := 167) (n' := 199) d_Hi_init_30 k_Hi_17 ws_St_init (by decide) (Nat.le_of_ble_eq_true rfl) rfl rfl (k_St (s := 167) (sc_ring 3 (by decide)) hA hz) ?_
  replace hz := (hz.pt (lo := 167) (hi := 199) (by omega)).bM (s := 167) (by omega)
  refine p_aast (n := 199) (a := 70) (b := 167) (N := 8) (j := 3) (t := 6) (ci := 3) d_Hi_init_33 (rfl) (by omega) (by decide) (by decide) rfl (rfl) (by omega) rfl (by decide) (by decide) hz (fun hz => ?_)
  refine n_iinc (a := 3) (c := 1) (L' := [some (.ref 69), some (.int (nI 4))]) d_Hi_init_34 rfl (by decide) (by decide) rfl ?_
  refine r_goto d_Hi_init_37 ?_
  refine r_iload_n (x := nI 4) d_Hi_init_15 rfl ?_
  refine r_bipush (v := nI 8) d_Hi_init_16 (by decide) ?_
  refine n_icmp_ge d_Hi_init_18 (by omega) (by omega) (fun h9 => absurd h9 (by decide)) (fun _ => ?_)
  refine r_aload_n d_Hi_init_21 rfl ?_
  refine p_getr (n := 199) (a := 69) (b := 70) d_Hi_init_22 f_Hi_11 rfl (rfl) (by omega) (by simp only [upm2, pt2]; first | rfl | ((repeat (first | rw [if_pos (by omega)] | rw [if_neg (by omega)])); first | done | rfl)) ?_
  refine r_iload_n (x := nI 4) d_Hi_init_25 rfl ?_
  refine p_new (bg' := (127, 1084)) (n := 199) d_Hi_init_26 n_Hi_9 rfl rfl hz (rfl) ?_
  refine r_dup d_Hi_init_29 rfl ?_
  refine p_call (bg' := (31, 268)) (bg2 := (96, 816)) (a := 199) (n' := 231) d_Hi_init_30 k_Hi_17 ws_St_init (by decide) (Nat.le_of_ble_eq_true rfl) rfl rfl (k_St (s := 199) (sc_ring 4 (by decide)) hA hz) ?_
  replace hz := (hz.pt (lo := 199) (hi := 231) (by omega)).bM (s := 199) (by omega)
  refine p_aast (n := 231) (a := 70) (b := 199) (N := 8) (j := 4) (t := 6) (ci := 3) d_Hi_init_33 (rfl) (by omega) (by decide) (by decide) rfl (rfl) (by omega) rfl (by decide) (by decide) hz (fun hz => ?_)
  refine n_iinc (a := 4) (c := 1) (L' := [some (.ref 69), some (.int (nI 5))]) d_Hi_init_34 rfl (by decide) (by decide) rfl ?_
  refine r_goto d_Hi_init_37 ?_
  refine r_iload_n (x := nI 5) d_Hi_init_15 rfl ?_
  refine r_bipush (v := nI 8) d_Hi_init_16 (by decide) ?_
  refine n_icmp_ge d_Hi_init_18 (by omega) (by omega) (fun h9 => absurd h9 (by decide)) (fun _ => ?_)
  refine r_aload_n d_Hi_init_21 rfl ?_
  refine p_getr (n := 231) (a := 69) (b := 70) d_Hi_init_22 f_Hi_11 rfl (rfl) (by omega) (by simp only [upm2, pt2]; first | rfl | ((repeat (first | rw [if_pos (by omega)] | rw [if_neg (by omega)])); first | done | rfl)) ?_
  refine r_iload_n (x := nI 5) d_Hi_init_25 rfl ?_
  refine p_new (bg' := (95, 812)) (n := 231) d_Hi_init_26 n_Hi_9 rfl rfl hz (rfl) ?_
  refine r_dup d_Hi_init_29 rfl ?_
  refine p_call (bg' := (31, 268)) (bg2 := (64, 544)) (a := 231) (n' := 263) d_Hi_init_30 k_Hi_17 ws_St_init (by decide) (Nat.le_of_ble_eq_true rfl) rfl rfl (k_St (s := 231) (sc_ring 5 (by decide)) hA hz) ?_
  replace hz := (hz.pt (lo := 231) (hi := 263) (by omega)).bM (s := 231) (by omega)
  refine p_aast (n := 263) (a := 70) (b := 231) (N := 8) (j := 5) (t := 6) (ci := 3) d_Hi_init_33 (rfl) (by omega) (by decide) (by decide) rfl (rfl) (by omega) rfl (by decide) (by decide) hz (fun hz => ?_)
  refine n_iinc (a := 5) (c := 1) (L' := [some (.ref 69), some (.int (nI 6))]) d_Hi_init_34 rfl (by decide) (by decide) rfl ?_
  refine r_goto d_Hi_init_37 ?_
  refine r_iload_n (x := nI 6) d_Hi_init_15 rfl ?_
  refine r_bipush (v := nI 8) d_Hi_init_16 (by decide) ?_
  refine n_icmp_ge d_Hi_init_18 (by omega) (by omega) (fun h9 => absurd h9 (by decide)) (fun _ => ?_)
  refine r_aload_n d_Hi_init_21 rfl ?_
  refine p_getr (n := 263) (a := 69) (b := 70) d_Hi_init_22 f_Hi_11 rfl (rfl) (by omega) (by simp only [upm2, pt2]; first | rfl | ((repeat (first | rw [if_pos (by omega)] | rw [if_neg (by omega)])); first | done | rfl)) ?_
  refine r_iload_n (x := nI 6) d_Hi_init_25 rfl ?_
  refine p_new (bg' := (63, 540)) (n := 263) d_Hi_init_26 n_Hi_9 rfl rfl hz (rfl) ?_
  refine r_dup d_Hi_init_29 rfl ?_
  refine p_call (bg' := (31, 268)) (bg2 := (32, 272)) (a := 263) (n' := 295) d_Hi_init_30 k_Hi_17 ws_St_init (by decide) (Nat.le_of_ble_eq_true rfl) rfl rfl (k_St (s := 263) (sc_ring 6 (by decide)) hA hz) ?_
  replace hz := (hz.pt (lo := 263) (hi := 295) (by omega)).bM (s := 263) (by omega)
  refine p_aast (n := 295) (a := 70) (b := 263) (N := 8) (j := 6) (t := 6) (ci := 3) d_Hi_init_33 (rfl) (by omega) (by decide) (by decide) rfl (rfl) (by omega) rfl (by decide) (by decide) hz (fun hz => ?_)
  refine n_iinc (a := 6) (c := 1) (L' := [some (.ref 69), some (.int (nI 7))]) d_Hi_init_34 rfl (by decide) (by decide) rfl ?_
  refine r_goto d_Hi_init_37 ?_
  refine r_iload_n (x := nI 7) d_Hi_init_15 rfl ?_
  refine r_bipush (v := nI 8) d_Hi_init_16 (by decide) ?_
  refine n_icmp_ge d_Hi_init_18 (by omega) (by omega) (fun h9 => absurd h9 (by decide)) (fun _ => ?_)
  refine r_aload_n d_Hi_init_21 rfl ?_
  refine p_getr (n := 295) (a := 69) (b := 70) d_Hi_init_22 f_Hi_11 rfl (rfl) (by omega) (by simp only [upm2, pt2]; first | rfl | ((repeat (first | rw [if_pos (by omega)] | rw [if_neg (by omega)])); first | done | rfl)) ?_
  refine r_iload_n (x := nI 7) d_Hi_init_25 rfl ?_
  refine p_new (bg' := (31, 268)) (n := 295) d_Hi_init_26 n_Hi_9 rfl rfl hz (rfl) ?_
  refine r_dup d_Hi_init_29 rfl ?_
  refine p_call (bg' := (31, 268)) (bg2 := (0, 0)) (a := 295) (n' := 327) d_Hi_init_30 k_Hi_17 ws_St_init (by decide) (Nat.le_of_ble_eq_true rfl) rfl rfl (k_St (s := 295) (sc_ring 7 (by decide)) hA hz) ?_
  replace hz := (hz.pt (lo := 295) (hi := 327) (by omega)).bM (s := 295) (by omega)
  refine p_aast (n := 327) (a := 70) (b := 295) (N := 8) (j := 7) (t := 6) (ci := 3) d_Hi_init_33 (rfl) (by omega) (by decide) (by decide) rfl (rfl) (by omega) rfl (by decide) (by decide) hz (fun hz => ?_)
  refine n_iinc (a := 7) (c := 1) (L' := [some (.ref 69), some (.int (nI 8))]) d_Hi_init_34 rfl (by decide) (by decide) rfl ?_
  refine r_goto d_Hi_init_37 ?_
  refine r_iload_n (x := nI 8) d_Hi_init_15 rfl ?_
  refine r_bipush (v := nI 8) d_Hi_init_16 (by decide) ?_
  refine n_icmp_ge d_Hi_init_18 (by omega) (by omega) (fun _ => ?_) (fun h9 => absurd h9 (by decide))
  refine p_ret d_Hi_init_40 rfl rfl ?_ ?_
  · funext b j
    simp only [upm2, pt2]
    by_cases c69 : b = 69
    · subst c69
      rcases (show j = 0 ∨ 1 ≤ j by omega) with rfl | hj
      · rfl
      · (repeat (first | rw [if_pos (by omega)] | rw [if_neg (by omega)]))
        rw [hz0.1 _ _ (by omega)]
        unfold gR
        first | done | ((repeat (first | rw [if_pos (by omega)] | rw [if_neg (by omega)])); first | done | rfl | exact (List.getElem?_eq_none (by show 1 ≤ j; omega)).symm)
    by_cases c70 : b = 70
    · subst c70
      rcases (show j = 0 ∨ j = 1 ∨ j = 2 ∨ j = 3 ∨ j = 4 ∨ j = 5 ∨ j = 6 ∨ j = 7 ∨ 8 ≤ j by omega) with rfl | rfl | rfl | rfl | rfl | rfl | rfl | rfl | hj
      · rfl
      · rfl
      · rfl
      · rfl
      · rfl
      · rfl
      · rfl
      · rfl
      · (repeat (first | rw [if_pos (by omega)] | rw [if_neg (by omega)]))
        rw [hz0.1 _ _ (by omega)]
        unfold gR
        first | done | ((repeat (first | rw [if_pos (by omega)] | rw [if_neg (by omega)])); first | done | rfl | exact (List.getElem?_eq_none (by show 8 ≤ j; omega)).symm)
    by_cases c2 : 69 ≤ b ∧ b < 327
    · rcases (show (71 ≤ b ∧ b < 103) ∨ (103 ≤ b ∧ b < 135) ∨ (135 ≤ b ∧ b < 167) ∨ (167 ≤ b ∧ b < 199) ∨ (199 ≤ b ∧ b < 231) ∨ (231 ≤ b ∧ b < 263) ∨ (263 ≤ b ∧ b < 295) ∨ (295 ≤ b ∧ b < 327) by omega) with d | d | d | d | d | d | d | d
      · (repeat (first | rw [if_pos (by omega)] | rw [if_neg (by omega)]))
      · (repeat (first | rw [if_pos (by omega)] | rw [if_neg (by omega)]))
      · (repeat (first | rw [if_pos (by omega)] | rw [if_neg (by omega)]))
      · (repeat (first | rw [if_pos (by omega)] | rw [if_neg (by omega)]))
      · (repeat (first | rw [if_pos (by omega)] | rw [if_neg (by omega)]))
      · (repeat (first | rw [if_pos (by omega)] | rw [if_neg (by omega)]))
      · (repeat (first | rw [if_pos (by omega)] | rw [if_neg (by omega)]))
      · (repeat (first | rw [if_pos (by omega)] | rw [if_neg (by omega)]))
    · (repeat (first | rw [if_pos (by omega)] | rw [if_neg (by omega)]))
  · rfl
theorem k_Re {o : OM} {l : Launch} {R : Nat → Nat → Option Nat} {M : Mem}  (hA : OA o) (hz0 : Zb 1 R M) : KC o l m_Re_init (35, 824) 1 37 R M (pt R 1 37) (bM M 2) := by
  refine kc_of rfl rfl rfl (Nat.le_of_ble_eq_true rfl) rfl ?_
  have hz := hz0.mono (Nat.le_succ _)
  refine r_aload_n d_Re_init_0 rfl ?_
  refine r_obj d_Re_init_1 ⟨k_Re_3, w_objinit.1, w_objinit.2⟩ (by decide) (Nat.le_of_ble_eq_true rfl) ?_
  refine r_aload_n d_Re_init_4 rfl ?_
  refine p_new (bg' := (34, 820)) (n := 2) d_Re_init_5 n_Re_9 rfl rfl hz (rfl) ?_
  refine r_dup d_Re_init_8 rfl ?_
  refine p_call (bg' := (31, 268)) (bg2 := (3, 552)) (a := 2) (n' := 34) d_Re_init_9 k_Re_11 ws_St_init (by decide) (Nat.le_of_ble_eq_true rfl) rfl rfl (k_St (s := 2) sc_2 hA hz) ?_
  replace hz := (hz.pt (lo := 2) (hi := 34) (by omega)).bM (s := 2) (by omega)
  refine p_putr (n := 34) (a := 1) (b := 2) d_Re_init_12 f_Re_12 rfl (fun x => ⟨rfl, rfl⟩) rfl rfl rfl hz (rfl) (by omega) (fun hz => ?_)
  refine r_aload_n d_Re_init_15 rfl ?_
  refine p_new (bg' := (2, 550)) (n := 34) d_Re_init_16 n_Re_18 rfl rfl hz (rfl) ?_
  refine r_dup d_Re_init_19 rfl ?_
  refine p_call (bg' := (1, 540)) (bg2 := (1, 10)) (a := 34) (n' := 36) d_Re_init_20 k_Re_20 ws_Tp_init (by decide) (Nat.le_of_ble_eq_true rfl) rfl rfl (k_Tp hA hz) ?_
  replace hz := hz.pt (lo := 34) (hi := 36) (by omega)
  refine p_putr (n := 36) (a := 1) (b := 34) d_Re_init_23 f_Re_21 rfl (fun x => ⟨rfl, rfl⟩) rfl rfl rfl hz (rfl) (by omega) (fun hz => ?_)
  refine r_aload_n d_Re_init_26 rfl ?_
  refine r_bipush (v := nI 10) d_Re_init_27 (by decide) ?_
  refine p_newa (bg' := (0, 0)) (t := 1) (N := 10) (n := 36) d_Re_init_29 rfl (by decide) wa_int rfl (by decide) rfl rfl hz (rfl) (fun hz => ?_)
  refine p_putr (n := 37) (a := 1) (b := 36) d_Re_init_31 f_Re_25 rfl (fun x => ⟨rfl, rfl⟩) rfl rfl rfl hz (rfl) (by omega) (fun hz => ?_)
  refine p_ret d_Re_init_34 rfl rfl ?_ ?_
  · funext b j
    simp only [upm2, pt2]
    by_cases c1 : b = 1
    · subst c1
      rcases (show j = 0 ∨ j = 1 ∨ j = 2 ∨ 3 ≤ j by omega) with rfl | rfl | rfl | hj
      · rfl
      · rfl
      · rfl
      · (repeat (first | rw [if_pos (by omega)] | rw [if_neg (by omega)]))
        rw [hz0.1 _ _ (by omega)]
        unfold gR
        first | done | ((repeat (first | rw [if_pos (by omega)] | rw [if_neg (by omega)])); first | done | rfl | exact (List.getElem?_eq_none (by show 3 ≤ j; omega)).symm)
    by_cases c2 : 1 ≤ b ∧ b < 37
    · rcases (show (2 ≤ b ∧ b < 34) ∨ (34 ≤ b ∧ b < 36) ∨ (36 ≤ b ∧ b < 37) by omega) with d | d | d
      · (repeat (first | rw [if_pos (by omega)] | rw [if_neg (by omega)]))
      · (repeat (first | rw [if_pos (by omega)] | rw [if_neg (by omega)]))
      · (repeat (first | rw [if_pos (by omega)] | rw [if_neg (by omega)]))
        rw [hz0.1 _ _ (by omega)]
        unfold gR
        (repeat (first | rw [if_pos (by omega)] | rw [if_neg (by omega)]))
    · (repeat (first | rw [if_pos (by omega)] | rw [if_neg (by omega)]))
  · rfl
theorem k_Tb {o : OM} {l : Launch} {R : Nat → Nat → Option Nat} {M : Mem}  (hA : OA o) (hz0 : Zb 397 R M) : KC o l m_Tb_init (38, 349) 397 436 R M (pt R 397 436) (tM (tM (tM M 398) 401) 404) := by
  refine kc_of rfl rfl rfl (Nat.le_of_ble_eq_true rfl) rfl ?_
  have hz := hz0.mono (Nat.le_succ _)
  refine r_aload_n d_Tb_init_0 rfl ?_
  refine r_obj d_Tb_init_1 ⟨k_Tb_3, w_objinit.1, w_objinit.2⟩ (by decide) (Nat.le_of_ble_eq_true rfl) ?_
  refine r_aload_n d_Tb_init_4 rfl ?_
  refine p_new (bg' := (37, 347)) (n := 398) d_Tb_init_5 n_Tb_9 rfl rfl hz (rfl) ?_
  refine r_dup d_Tb_init_8 rfl ?_
  refine p_call (bg' := (2, 20)) (bg2 := (35, 327)) (a := 398) (n' := 401) d_Tb_init_9 k_Tb_11 ws_Ta_init (by decide) (Nat.le_of_ble_eq_true rfl) rfl rfl (k_Ta (t := 398) tc_398 hA hz) ?_
  replace hz := (hz.pt (lo := 398) (hi := 401) (by omega)).tM (s := 398) (by omega)
  refine p_putr (n := 401) (a := 397) (b := 398) d_Tb_init_12 f_Tb_12 rfl (fun x => ⟨rfl, rfl⟩) rfl rfl rfl hz (rfl) (by omega) (fun hz => ?_)
  refine r_aload_n d_Tb_init_15 rfl ?_
  refine p_new (bg' := (34, 325)) (n := 401) d_Tb_init_16 n_Tb_9 rfl rfl hz (rfl) ?_
  refine r_dup d_Tb_init_19 rfl ?_
  refine p_call (bg' := (2, 20)) (bg2 := (32, 305)) (a := 401) (n' := 404) d_Tb_init_20 k_Tb_11 ws_Ta_init (by decide) (Nat.le_of_ble_eq_true rfl) rfl rfl (k_Ta (t := 401) tc_401 hA hz) ?_
  replace hz := (hz.pt (lo := 401) (hi := 404) (by omega)).tM (s := 401) (by omega)
  refine p_putr (n := 404) (a := 397) (b := 401) d_Tb_init_23 f_Tb_18 rfl (fun x => ⟨rfl, rfl⟩) rfl rfl rfl hz (rfl) (by omega) (fun hz => ?_)
  refine r_aload_n d_Tb_init_26 rfl ?_
  refine p_new (bg' := (31, 303)) (n := 404) d_Tb_init_27 n_Tb_9 rfl rfl hz (rfl) ?_
  refine r_dup d_Tb_init_30 rfl ?_
  refine p_call (bg' := (2, 20)) (bg2 := (29, 283)) (a := 404) (n' := 407) d_Tb_init_31 k_Tb_11 ws_Ta_init (by decide) (Nat.le_of_ble_eq_true rfl) rfl rfl (k_Ta (t := 404) tc_404 hA hz) ?_
  replace hz := (hz.pt (lo := 404) (hi := 407) (by omega)).tM (s := 404) (by omega)
  refine p_putr (n := 407) (a := 397) (b := 404) d_Tb_init_34 f_Tb_21 rfl (fun x => ⟨rfl, rfl⟩) rfl rfl rfl hz (rfl) (by omega) (fun hz => ?_)
  refine r_aload_n d_Tb_init_37 rfl ?_
  refine r_bipush (v := nI 10) d_Tb_init_38 (by decide) ?_
  refine p_newa (bg' := (28, 273)) (t := 1) (N := 10) (n := 407) d_Tb_init_40 rfl (by decide) wa_int rfl (by decide) rfl rfl hz (rfl) (fun hz => ?_)
  refine p_putr (n := 408) (a := 397) (b := 407) d_Tb_init_42 f_Tb_24 rfl (fun x => ⟨rfl, rfl⟩) rfl rfl rfl hz (rfl) (by omega) (fun hz => ?_)
  refine r_aload_n d_Tb_init_45 rfl ?_
  refine r_bipush (v := nI 10) d_Tb_init_46 (by decide) ?_
  refine p_newa (bg' := (27, 263)) (t := 1) (N := 10) (n := 408) d_Tb_init_48 rfl (by decide) wa_int rfl (by decide) rfl rfl hz (rfl) (fun hz => ?_)
  refine p_putr (n := 409) (a := 397) (b := 408) d_Tb_init_50 f_Tb_28 rfl (fun x => ⟨rfl, rfl⟩) rfl rfl rfl hz (rfl) (by omega) (fun hz => ?_)
  refine r_aload_n d_Tb_init_53 rfl ?_
  refine r_bipush (v := nI 10) d_Tb_init_54 (by decide) ?_
  refine p_newa (bg' := (26, 253)) (t := 1) (N := 10) (n := 409) d_Tb_init_56 rfl (by decide) wa_int rfl (by decide) rfl rfl hz (rfl) (fun hz => ?_)
  refine p_putr (n := 410) (a := 397) (b := 409) d_Tb_init_58 f_Tb_31 rfl (fun x => ⟨rfl, rfl⟩) rfl rfl rfl hz (rfl) (by omega) (fun hz => ?_)
  refine r_aload_n d_Tb_init_61 rfl ?_
  refine r_bipush (v := nI 10) d_Tb_init_62 (by decide) ?_
  refine r_bipush (v := nI 10) d_Tb_init_64 (by decide) ?_
  refine p_multi (bg' := (15, 143)) (N := 10) (K := 10) (n := 410) d_Tb_init_66 hA wm_Tb rfl rfl (by decide) (by decide) rfl rfl hz (rfl) (fun i hi => by unfold gT; (repeat (first | rw [if_pos (by omega)] | rw [if_neg (by omega)]))) (fun j => rfl) (fun i j hi => by unfold gR; (repeat (first | rw [if_pos (by omega)] | rw [if_neg (by omega)]))) (fun hz => ?_)
  refine p_putr (n := 421) (a := 397) (b := 410) d_Tb_init_70 f_Tb_36 rfl (fun x => ⟨rfl, rfl⟩) rfl rfl rfl hz (rfl) (by omega) (fun hz => ?_)
  refine r_aload_n d_Tb_init_73 rfl ?_
  refine r_bipush (v := nI 10) d_Tb_init_74 (by decide) ?_
  refine r_bipush (v := nI 10) d_Tb_init_76 (by decide) ?_
  refine p_multi (bg' := (4, 33)) (N := 10) (K := 10) (n := 421) d_Tb_init_78 hA wm_Tb rfl rfl (by decide) (by decide) rfl rfl hz (rfl) (fun i hi => by unfold gT; (repeat (first | rw [if_pos (by omega)] | rw [if_neg (by omega)]))) (fun j => rfl) (fun i j hi => by unfold gR; (repeat (first | rw [if_pos (by omega)] | rw [if_neg (by omega)]))) (fun hz => ?_)
  refine p_putr (n := 432) (a := 397) (b := 421) d_Tb_init_82 f_Tb_39 rfl (fun x => ⟨rfl, rfl⟩) rfl rfl rfl hz (rfl) (by omega) (fun hz => ?_)
  refine r_aload_n d_Tb_init_85 rfl ?_
  refine p_new (bg' := (3, 30)) (n := 432) d_Tb_init_86 n_Tb_42 rfl rfl hz (rfl) ?_
  refine r_dup d_Tb_init_89 rfl ?_
  refine p_call (bg' := (3, 30)) (bg2 := (0, 0)) (a := 432) (n' := 436) d_Tb_init_90 k_Tb_44 ws_Sb_init (by decide) (Nat.le_of_ble_eq_true rfl) rfl rfl (k_Sb (a := 432) bc_432 hA hz) ?_
  replace hz := hz.pt (lo := 432) (hi := 436) (by omega)
  refine p_putr (n := 436) (a := 397) (b := 432) d_Tb_init_93 f_Tb_45 rfl (fun x => ⟨rfl, rfl⟩) rfl rfl rfl hz (rfl) (by omega) (fun hz => ?_)
  refine p_ret d_Tb_init_96 rfl rfl ?_ ?_
  · funext b j
    simp only [upm2, pt2]
    by_cases c397 : b = 397
    · subst c397
      rcases (show j = 0 ∨ j = 1 ∨ j = 2 ∨ j = 3 ∨ j = 4 ∨ j = 5 ∨ j = 6 ∨ j = 7 ∨ j = 8 ∨ 9 ≤ j by omega) with rfl | rfl | rfl | rfl | rfl | rfl | rfl | rfl | rfl | hj
      · rfl
      · rfl
      · rfl
      · rfl
      · rfl
      · rfl
      · rfl
      · rfl
      · rfl
      · (repeat (first | rw [if_pos (by omega)] | rw [if_neg (by omega)]))
        rw [hz0.1 _ _ (by omega)]
        unfold gR
        first | done | ((repeat (first | rw [if_pos (by omega)] | rw [if_neg (by omega)])); first | done | rfl | exact (List.getElem?_eq_none (by show 9 ≤ j; omega)).symm)
    by_cases c2 : 397 ≤ b ∧ b < 436
    · rcases (show (398 ≤ b ∧ b < 401) ∨ (401 ≤ b ∧ b < 404) ∨ (404 ≤ b ∧ b < 407) ∨ (407 ≤ b ∧ b < 410) ∨ (410 ≤ b ∧ b < 421) ∨ (421 ≤ b ∧ b < 432) ∨ (432 ≤ b ∧ b < 436) by omega) with d | d | d | d | d | d | d
      · (repeat (first | rw [if_pos (by omega)] | rw [if_neg (by omega)]))
      · (repeat (first | rw [if_pos (by omega)] | rw [if_neg (by omega)]))
      · (repeat (first | rw [if_pos (by omega)] | rw [if_neg (by omega)]))
      · (repeat (first | rw [if_pos (by omega)] | rw [if_neg (by omega)]))
        rw [hz0.1 _ _ (by omega)]
        unfold gR
        (repeat (first | rw [if_pos (by omega)] | rw [if_neg (by omega)]))
      · (repeat (first | rw [if_pos (by omega)] | rw [if_neg (by omega)]))
      · (repeat (first | rw [if_pos (by omega)] | rw [if_neg (by omega)]))
      · (repeat (first | rw [if_pos (by omega)] | rw [if_neg (by omega)]))
    · (repeat (first | rw [if_pos (by omega)] | rw [if_neg (by omega)]))
  · rfl
