theorem k_X {o : OM} {l : Launch} {R : Nat → Nat → Option Nat} {M : Mem}  (hA : OA o) (hz0 : Zb 0 R M) : KC o l m_X_init (435, 4234) 0 436 R M (pt R 0 436) (tM (tM (tM (bM (bM (bM (bM (bM (bM (bM (bM (bM (bM (bM (bM M 2) 37) 71) 103) 135) 167) 199) 231) 263) 295) 328) 360) 398) 401) 404) := by
  refine kc_of rfl rfl rfl (Nat.le_of_ble_eq_true rfl) rfl ?_
  have hz := hz0.mono (Nat.le_succ _)
  refine r_aload_n d_X_init_0 rfl ?_
  refine r_obj d_X_init_1 ⟨k_X_1, w_objinit.1, w_objinit.2⟩ (by decide) (Nat.le_of_ble_eq_true rfl) ?_
  refine r_aload_n d_X_init_4 rfl ?_
  refine p_new (bg' := (434, 4222)) (n := 1) d_X_init_5 n_X_7 rfl rfl hz (rfl) ?_
  refine r_dup d_X_init_8 rfl ?_
  refine p_call (bg' := (35, 824)) (bg2 := (399, 3398)) (a := 1) (n' := 37) d_X_init_9 k_X_9 ws_Re_init (by decide) (Nat.le_of_ble_eq_true rfl) rfl rfl (k_Re hA hz) ?_
  replace hz := (hz.pt (lo := 1) (hi := 37) (by omega)).bM (s := 2) (by omega)
  refine p_putr (n := 37) (a := 0) (b := 1) d_X_init_12 f_X_10 rfl (fun x => ⟨rfl, rfl⟩) rfl rfl rfl hz (rfl) (by omega) (fun hz => ?_)
  refine r_aload_n d_X_init_15 rfl ?_
  refine r_aload_n d_X_init_16 rfl ?_
  refine p_getr (n := 37) (a := 0) (b := 1) d_X_init_17 f_X_10 rfl (rfl) (by omega) (by simp only [upm2, pt2]; first | rfl | ((repeat (first | rw [if_pos (by omega)] | rw [if_neg (by omega)])); first | done | rfl)) ?_
  refine p_getr (n := 37) (a := 1) (b := 34) d_X_init_20 f_X_16 rfl (rfl) (by omega) (by simp only [upm2, pt2]; first | rfl | ((repeat (first | rw [if_pos (by omega)] | rw [if_neg (by omega)])); first | done | rfl)) ?_
  refine p_putr (n := 37) (a := 0) (b := 34) d_X_init_23 f_X_20 rfl (fun x => ⟨rfl, rfl⟩) rfl rfl rfl hz (rfl) (by omega) (fun hz => ?_)
  refine r_aload_n d_X_init_26 rfl ?_
  refine p_new (bg' := (398, 3394)) (n := 37) d_X_init_27 n_X_21 rfl rfl hz (rfl) ?_
  refine r_dup d_X_init_30 rfl ?_
  refine p_call (bg' := (31, 268)) (bg2 := (367, 3126)) (a := 37) (n' := 69) d_X_init_31 k_X_23 ws_St_init (by decide) (Nat.le_of_ble_eq_true rfl) rfl rfl (k_St (s := 37) sc_37 hA hz) ?_
  replace hz := (hz.pt (lo := 37) (hi := 69) (by omega)).bM (s := 37) (by omega)
  refine p_putr (n := 69) (a := 0) (b := 37) d_X_init_34 f_X_24 rfl (fun x => ⟨rfl, rfl⟩) rfl rfl rfl hz (rfl) (by omega) (fun hz => ?_)
  refine r_aload_n d_X_init_37 rfl ?_
  refine p_new (bg' := (366, 3123)) (n := 69) d_X_init_38 n_X_28 rfl rfl hz (rfl) ?_
  refine r_dup d_X_init_41 rfl ?_
  refine p_call (bg' := (257, 2184)) (bg2 := (109, 939)) (a := 69) (n' := 327) d_X_init_42 k_X_30 ws_Hi_init (by decide) (Nat.le_of_ble_eq_true rfl) rfl rfl (k_Hi hA hz) ?_
  replace hz := (((((((((hz.pt (lo := 69) (hi := 327) (by omega)).bM (s := 71) (by omega)).bM (s := 103) (by omega)).bM (s := 135) (by omega)).bM (s := 167) (by omega)).bM (s := 199) (by omega)).bM (s := 231) (by omega)).bM (s := 263) (by omega)).bM (s := 295) (by omega))
  refine p_putr (n := 327) (a := 0) (b := 69) d_X_init_45 f_X_31 rfl (fun x => ⟨rfl, rfl⟩) rfl rfl rfl hz (rfl) (by omega) (fun hz => ?_)
  refine r_aload_n d_X_init_48 rfl ?_
  refine r_iconst (v := nI 2) d_X_init_49 (by decide) ?_
  refine p_anew (bg' := (108, 937)) (t := 6) (N := 2) (n := 327) d_X_init_50 hA an_X (by decide) rfl (by decide) rfl rfl hz (rfl) (fun hz => ?_)
  refine p_putr (n := 328) (a := 0) (b := 327) d_X_init_53 f_X_35 rfl (fun x => ⟨rfl, rfl⟩) rfl rfl rfl hz (rfl) (by omega) (fun hz => ?_)
  refine r_iconst (v := nI 0) d_X_init_56 (by decide) ?_
  refine r_istore_n (L' := [some (.ref 0), some (.int (nI 0))]) d_X_init_57 (by decide) rfl ?_
  refine r_iload_n (x := nI 0) d_X_init_58 rfl ?_
  refine r_iconst (v := nI 2) d_X_init_59 (by decide) ?_
  refine n_icmp_ge d_X_init_60 (by omega) (by omega) (fun h9 => absurd h9 (by decide)) (fun _ => ?_)
  refine r_aload_n d_X_init_63 rfl ?_
  refine p_getr (n := 328) (a := 0) (b := 327) d_X_init_64 f_X_35 rfl (rfl) (by omega) (by simp only [upm2, pt2]; first | rfl | ((repeat (first | rw [if_pos (by omega)] | rw [if_neg (by omega)])); first | done | rfl)) ?_
  refine r_iload_n (x := nI 0) d_X_init_67 rfl ?_
  refine p_new (bg' := (107, 933)) (n := 328) d_X_init_68 n_X_21 rfl rfl hz (rfl) ?_
  refine r_dup d_X_init_71 rfl ?_
  refine p_call (bg' := (31, 268)) (bg2 := (76, 665)) (a := 328) (n' := 360) d_X_init_72 k_X_23 ws_St_init (by decide) (Nat.le_of_ble_eq_true rfl) rfl rfl (k_St (s := 328) (sc_img 0 (by decide)) hA hz) ?_
  replace hz := (hz.pt (lo := 328) (hi := 360) (by omega)).bM (s := 328) (by omega)
  refine p_aast (n := 360) (a := 327) (b := 328) (N := 2) (j := 0) (t := 6) (ci := 3) d_X_init_75 (rfl) (by omega) (by decide) (by decide) rfl (rfl) (by omega) rfl (by decide) (by decide) hz (fun hz => ?_)
  refine n_iinc (a := 0) (c := 1) (L' := [some (.ref 0), some (.int (nI 1))]) d_X_init_76 rfl (by decide) (by decide) rfl ?_
  refine r_goto d_X_init_79 ?_
  refine r_iload_n (x := nI 1) d_X_init_58 rfl ?_
  refine r_iconst (v := nI 2) d_X_init_59 (by decide) ?_
  refine n_icmp_ge d_X_init_60 (by omega) (by omega) (fun h9 => absurd h9 (by decide)) (fun _ => ?_)
  refine r_aload_n d_X_init_63 rfl ?_
  refine p_getr (n := 360) (a := 0) (b := 327) d_X_init_64 f_X_35 rfl (rfl) (by omega) (by simp only [upm2, pt2]; first | rfl | ((repeat (first | rw [if_pos (by omega)] | rw [if_neg (by omega)])); first | done | rfl)) ?_
  refine r_iload_n (x := nI 1) d_X_init_67 rfl ?_
  refine p_new (bg' := (75, 661)) (n := 360) d_X_init_68 n_X_21 rfl rfl hz (rfl) ?_
  refine r_dup d_X_init_71 rfl ?_
  refine p_call (bg' := (31, 268)) (bg2 := (44, 393)) (a := 360) (n' := 392) d_X_init_72 k_X_23 ws_St_init (by decide) (Nat.le_of_ble_eq_true rfl) rfl rfl (k_St (s := 360) (sc_img 1 (by decide)) hA hz) ?_
  replace hz := (hz.pt (lo := 360) (hi := 392) (by omega)).bM (s := 360) (by omega)
  refine p_aast (n := 392) (a := 327) (b := 360) (N := 2) (j := 1) (t := 6) (ci := 3) d_X_init_75 (rfl) (by omega) (by decide) (by decide) rfl (rfl) (by omega) rfl (by decide) (by decide) hz (fun hz => ?_)
  refine n_iinc (a := 1) (c := 1) (L' := [some (.ref 0), some (.int (nI 2))]) d_X_init_76 rfl (by decide) (by decide) rfl ?_
  refine r_goto d_X_init_79 ?_
  refine r_iload_n (x := nI 2) d_X_init_58 rfl ?_
  refine r_iconst (v := nI 2) d_X_init_59 (by decide) ?_
  refine n_icmp_ge d_X_init_60 (by omega) (by omega) (fun _ => ?_) (fun h9 => absurd h9 (by decide))
  refine r_aload_n d_X_init_82 rfl ?_
  refine r_iconst (v := nI 2) d_X_init_83 (by decide) ?_
  refine p_newa (bg' := (43, 391)) (t := 3) (N := 2) (n := 392) d_X_init_84 rfl (by decide) wa_bool rfl (by decide) rfl rfl hz (rfl) (fun hz => ?_)
  refine p_putr (n := 393) (a := 0) (b := 392) d_X_init_86 f_X_39 rfl (fun x => ⟨rfl, rfl⟩) rfl rfl rfl hz (rfl) (by omega) (fun hz => ?_)
  refine r_aload_n d_X_init_89 rfl ?_
  refine p_new (bg' := (42, 388)) (n := 393) d_X_init_90 n_X_43 rfl rfl hz (rfl) ?_
  refine r_dup d_X_init_93 rfl ?_
  refine p_call (bg' := (3, 30)) (bg2 := (39, 358)) (a := 393) (n' := 397) d_X_init_94 k_X_45 ws_Sb_init (by decide) (Nat.le_of_ble_eq_true rfl) rfl rfl (k_Sb (a := 393) bc_393 hA hz) ?_
  replace hz := hz.pt (lo := 393) (hi := 397) (by omega)
  refine p_putr (n := 397) (a := 0) (b := 393) d_X_init_97 f_X_46 rfl (fun x => ⟨rfl, rfl⟩) rfl rfl rfl hz (rfl) (by omega) (fun hz => ?_)
  refine r_aload_n d_X_init_100 rfl ?_
  refine p_new (bg' := (38, 349)) (n := 397) d_X_init_101 n_X_50 rfl rfl hz (rfl) ?_
  refine r_dup d_X_init_104 rfl ?_
  refine p_call (bg' := (38, 349)) (bg2 := (0, 0)) (a := 397) (n' := 436) d_X_init_105 k_X_52 ws_Tb_init (by decide) (Nat.le_of_ble_eq_true rfl) rfl rfl (k_Tb hA hz) ?_
  replace hz := ((((hz.pt (lo := 397) (hi := 436) (by omega)).tM (s := 398) (by omega)).tM (s := 401) (by omega)).tM (s := 404) (by omega))
  refine p_putr (n := 436) (a := 0) (b := 397) d_X_init_108 f_X_53 rfl (fun x => ⟨rfl, rfl⟩) rfl rfl rfl hz (rfl) (by omega) (fun hz => ?_)
  refine p_ret d_X_init_111 rfl rfl ?_ ?_
  · funext b j
    simp only [upm2, pt2]
    by_cases c0 : b = 0
    · subst c0
      rcases (show j = 0 ∨ j = 1 ∨ j = 2 ∨ j = 3 ∨ j = 4 ∨ j = 5 ∨ j = 6 ∨ j = 7 ∨ 8 ≤ j by omega) with rfl | rfl | rfl | rfl | rfl | rfl | rfl | rfl | hj
      · rfl
      · rfl
      · rfl
      · rfl
      · rfl
      · rfl
      · rfl
      · rfl
      · (repeat (first | rw [if_pos (by omega)] | rw [if_neg (by omega)]))
        rw [hz0.1 _ _ (by omega)]
        unfold gR
        first | done | ((repeat (first | rw [if_pos (by omega)] | rw [if_neg (by omega)])); first | done | rfl | exact (List.getElem?_eq_none (by show 8 ≤ j; omega)).symm)
    by_cases c327 : b = 327
    · subst c327
      rcases (show j = 0 ∨ j = 1 ∨ 2 ≤ j by omega) with rfl | rfl | hj
      · rfl
      · rfl
      · (repeat (first | rw [if_pos (by omega)] | rw [if_neg (by omega)]))
        rw [hz0.1 _ _ (by omega)]
        unfold gR
        first | done | ((repeat (first | rw [if_pos (by omega)] | rw [if_neg (by omega)])); first | done | rfl | exact (List.getElem?_eq_none (by show 2 ≤ j; omega)).symm)
    by_cases c2 : 0 ≤ b ∧ b < 436
    · rcases (show (1 ≤ b ∧ b < 37) ∨ (37 ≤ b ∧ b < 69) ∨ (69 ≤ b ∧ b < 327) ∨ (328 ≤ b ∧ b < 360) ∨ (360 ≤ b ∧ b < 392) ∨ (392 ≤ b ∧ b < 393) ∨ (393 ≤ b ∧ b < 397) ∨ (397 ≤ b ∧ b < 436) by omega) with d | d | d | d | d | d | d | d
      · (repeat (first | rw [if_pos (by omega)] | rw [if_neg (by omega)]))
      · (repeat (first | rw [if_pos (by omega)] | rw [if_neg (by omega)]))
      · (repeat (first | rw [if_pos (by omega)] | rw [if_neg (by omega)]))
      · (repeat (first | rw [if_pos (by omega)] | rw [if_neg (by omega)]))
      · (repeat (first | rw [if_pos (by omega)] | rw [if_neg (by omega)]))
      · (repeat (first | rw [if_pos (by omega)] | rw [if_neg (by omega)]))
        rw [hz0.1 _ _ (by omega)]
        unfold gR
        (repeat (first | rw [if_pos (by omega)] | rw [if_neg (by omega)]))
      · (repeat (first | rw [if_pos (by omega)] | rw [if_neg (by omega)]))
      · (repeat (first | rw [if_pos (by omega)] | rw [if_neg (by omega)]))
    · (repeat (first | rw [if_pos (by omega)] | rw [if_neg (by omega)]))
  · rfl
