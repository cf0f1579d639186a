theorem k_Md {o : OM} {l : Launch} {R : Nat → Nat → Option Nat} {M : Mem}  (hA : OA o) (hz0 : Zb 436 R M) : KC o l m_Md_init (16, 3894) 436 453 R M (pt R 436 453) (M) := by
  refine kc_of rfl rfl rfl (Nat.le_of_ble_eq_true rfl) rfl ?_
  have hz := hz0.mono (Nat.le_succ _)
  refine r_aload_n d_Md_init_0 rfl ?_
  refine r_obj d_Md_init_1 ⟨k_Md_50, w_objinit.1, w_objinit.2⟩ (by decide) (Nat.le_of_ble_eq_true rfl) ?_
  refine r_aload_n d_Md_init_4 rfl ?_
  refine r_sipush (v := nI 540) d_Md_init_5 (by decide) ?_
  refine p_newa (bg' := (15, 3354)) (t := 1) (N := 540) (n := 437) d_Md_init_8 rfl (by decide) wa_int rfl (by decide) rfl rfl hz (rfl) (fun hz => ?_)
  refine p_putr (n := 438) (a := 436) (b := 437) d_Md_init_10 f_Md_7 rfl (fun x => ⟨rfl, rfl⟩) rfl rfl rfl hz (rfl) (by omega) (fun hz => ?_)
  refine r_aload_n d_Md_init_13 rfl ?_
  refine r_sipush (v := nI 241) d_Md_init_14 (by decide) ?_
  refine p_newa (bg' := (14, 3113)) (t := 1) (N := 241) (n := 438) d_Md_init_17 rfl (by decide) wa_int rfl (by decide) rfl rfl hz (rfl) (fun hz => ?_)
  refine p_putr (n := 439) (a := 436) (b := 438) d_Md_init_19 f_Md_56 rfl (fun x => ⟨rfl, rfl⟩) rfl rfl rfl hz (rfl) (by omega) (fun hz => ?_)
  refine r_aload_n d_Md_init_22 rfl ?_
  refine r_sipush (v := nI 241) d_Md_init_23 (by decide) ?_
  refine p_newa (bg' := (13, 2872)) (t := 1) (N := 241) (n := 439) d_Md_init_26 rfl (by decide) wa_int rfl (by decide) rfl rfl hz (rfl) (fun hz => ?_)
  refine p_putr (n := 440) (a := 436) (b := 439) d_Md_init_28 f_Md_59 rfl (fun x => ⟨rfl, rfl⟩) rfl rfl rfl hz (rfl) (by omega) (fun hz => ?_)
  refine r_aload_n d_Md_init_31 rfl ?_
  refine r_sipush (v := nI 482) d_Md_init_32 (by decide) ?_
  refine p_newa (bg' := (12, 2390)) (t := 1) (N := 482) (n := 440) d_Md_init_35 rfl (by decide) wa_int rfl (by decide) rfl rfl hz (rfl) (fun hz => ?_)
  refine p_putr (n := 441) (a := 436) (b := 440) d_Md_init_37 f_Md_62 rfl (fun x => ⟨rfl, rfl⟩) rfl rfl rfl hz (rfl) (by omega) (fun hz => ?_)
  refine r_aload_n d_Md_init_40 rfl ?_
  refine r_sipush (v := nI 1928) d_Md_init_41 (by decide) ?_
  refine p_newa (bg' := (11, 462)) (t := 1) (N := 1928) (n := 441) d_Md_init_44 rfl (by decide) wa_int rfl (by decide) rfl rfl hz (rfl) (fun hz => ?_)
  refine p_putr (n := 442) (a := 436) (b := 441) d_Md_init_46 f_Md_65 rfl (fun x => ⟨rfl, rfl⟩) rfl rfl rfl hz (rfl) (by omega) (fun hz => ?_)
  refine r_aload_n d_Md_init_49 rfl ?_
  refine r_iconst (v := nI 2) d_Md_init_50 (by decide) ?_
  refine p_newa (bg' := (10, 460)) (t := 3) (N := 2) (n := 442) d_Md_init_51 rfl (by decide) wa_bool rfl (by decide) rfl rfl hz (rfl) (fun hz => ?_)
  refine p_putr (n := 443) (a := 436) (b := 442) d_Md_init_53 f_Md_68 rfl (fun x => ⟨rfl, rfl⟩) rfl rfl rfl hz (rfl) (by omega) (fun hz => ?_)
  refine r_aload_n d_Md_init_56 rfl ?_
  refine r_bipush (v := nI 10) d_Md_init_57 (by decide) ?_
  refine p_newa (bg' := (9, 450)) (t := 1) (N := 10) (n := 443) d_Md_init_59 rfl (by decide) wa_int rfl (by decide) rfl rfl hz (rfl) (fun hz => ?_)
  refine p_putr (n := 444) (a := 436) (b := 443) d_Md_init_61 f_Md_72 rfl (fun x => ⟨rfl, rfl⟩) rfl rfl rfl hz (rfl) (by omega) (fun hz => ?_)
  refine r_aload_n d_Md_init_64 rfl ?_
  refine r_bipush (v := nI 10) d_Md_init_65 (by decide) ?_
  refine p_newa (bg' := (8, 440)) (t := 1) (N := 10) (n := 444) d_Md_init_67 rfl (by decide) wa_int rfl (by decide) rfl rfl hz (rfl) (fun hz => ?_)
  refine p_putr (n := 445) (a := 436) (b := 444) d_Md_init_69 f_Md_75 rfl (fun x => ⟨rfl, rfl⟩) rfl rfl rfl hz (rfl) (by omega) (fun hz => ?_)
  refine r_aload_n d_Md_init_72 rfl ?_
  refine r_bipush (v := nI 10) d_Md_init_73 (by decide) ?_
  refine p_newa (bg' := (7, 430)) (t := 1) (N := 10) (n := 445) d_Md_init_75 rfl (by decide) wa_int rfl (by decide) rfl rfl hz (rfl) (fun hz => ?_)
  refine p_putr (n := 446) (a := 436) (b := 445) d_Md_init_77 f_Md_78 rfl (fun x => ⟨rfl, rfl⟩) rfl rfl rfl hz (rfl) (by omega) (fun hz => ?_)
  refine r_aload_n d_Md_init_80 rfl ?_
  refine r_bipush (v := nI 10) d_Md_init_81 (by decide) ?_
  refine p_newa (bg' := (6, 420)) (t := 1) (N := 10) (n := 446) d_Md_init_83 rfl (by decide) wa_int rfl (by decide) rfl rfl hz (rfl) (fun hz => ?_)
  refine p_putr (n := 447) (a := 436) (b := 446) d_Md_init_85 f_Md_81 rfl (fun x => ⟨rfl, rfl⟩) rfl rfl rfl hz (rfl) (by omega) (fun hz => ?_)
  refine r_aload_n d_Md_init_88 rfl ?_
  refine r_bipush (v := nI 10) d_Md_init_89 (by decide) ?_
  refine p_newa (bg' := (5, 410)) (t := 1) (N := 10) (n := 447) d_Md_init_91 rfl (by decide) wa_int rfl (by decide) rfl rfl hz (rfl) (fun hz => ?_)
  refine p_putr (n := 448) (a := 436) (b := 447) d_Md_init_93 f_Md_84 rfl (fun x => ⟨rfl, rfl⟩) rfl rfl rfl hz (rfl) (by omega) (fun hz => ?_)
  refine r_aload_n d_Md_init_96 rfl ?_
  refine r_bipush (v := nI 100) d_Md_init_97 (by decide) ?_
  refine p_newa (bg' := (4, 310)) (t := 1) (N := 100) (n := 448) d_Md_init_99 rfl (by decide) wa_int rfl (by decide) rfl rfl hz (rfl) (fun hz => ?_)
  refine p_putr (n := 449) (a := 436) (b := 448) d_Md_init_101 f_Md_87 rfl (fun x => ⟨rfl, rfl⟩) rfl rfl rfl hz (rfl) (by omega) (fun hz => ?_)
  refine r_aload_n d_Md_init_104 rfl ?_
  refine r_bipush (v := nI 100) d_Md_init_105 (by decide) ?_
  refine p_newa (bg' := (3, 210)) (t := 1) (N := 100) (n := 449) d_Md_init_107 rfl (by decide) wa_int rfl (by decide) rfl rfl hz (rfl) (fun hz => ?_)
  refine p_putr (n := 450) (a := 436) (b := 449) d_Md_init_109 f_Md_90 rfl (fun x => ⟨rfl, rfl⟩) rfl rfl rfl hz (rfl) (by omega) (fun hz => ?_)
  refine r_aload_n d_Md_init_112 rfl ?_
  refine r_bipush (v := nI 100) d_Md_init_113 (by decide) ?_
  refine p_newa (bg' := (2, 110)) (t := 1) (N := 100) (n := 450) d_Md_init_115 rfl (by decide) wa_int rfl (by decide) rfl rfl hz (rfl) (fun hz => ?_)
  refine p_putr (n := 451) (a := 436) (b := 450) d_Md_init_117 f_Md_93 rfl (fun x => ⟨rfl, rfl⟩) rfl rfl rfl hz (rfl) (by omega) (fun hz => ?_)
  refine r_aload_n d_Md_init_120 rfl ?_
  refine r_bipush (v := nI 100) d_Md_init_121 (by decide) ?_
  refine p_newa (bg' := (1, 10)) (t := 1) (N := 100) (n := 451) d_Md_init_123 rfl (by decide) wa_int rfl (by decide) rfl rfl hz (rfl) (fun hz => ?_)
  refine p_putr (n := 452) (a := 436) (b := 451) d_Md_init_125 f_Md_96 rfl (fun x => ⟨rfl, rfl⟩) rfl rfl rfl hz (rfl) (by omega) (fun hz => ?_)
  refine r_aload_n d_Md_init_128 rfl ?_
  refine r_bipush (v := nI 10) d_Md_init_129 (by decide) ?_
  refine p_newa (bg' := (0, 0)) (t := 1) (N := 10) (n := 452) d_Md_init_131 rfl (by decide) wa_int rfl (by decide) rfl rfl hz (rfl) (fun hz => ?_)
  refine p_putr (n := 453) (a := 436) (b := 452) d_Md_init_133 f_Md_99 rfl (fun x => ⟨rfl, rfl⟩) rfl rfl rfl hz (rfl) (by omega) (fun hz => ?_)
  refine p_ret d_Md_init_136 rfl rfl ?_ ?_
  · funext b j
    simp only [upm2, pt2]
    by_cases c0 : b = 436
    · subst c0
      by_cases c1 : j = 1 ∨ (10 ≤ j ∧ j < 15) ∨ (20 ≤ j ∧ j < 30)
      · rcases (show j = 1 ∨ j = 10 ∨ j = 11 ∨ j = 12 ∨ j = 13 ∨ j = 14 ∨ j = 20 ∨ j = 21 ∨ j = 22 ∨ j = 23 ∨ j = 24 ∨ j = 25 ∨ j = 26 ∨ j = 27 ∨ j = 28 ∨ j = 29 by omega) with rfl | rfl | rfl | rfl | rfl | rfl | rfl | rfl | rfl | rfl | rfl | rfl | rfl | rfl | rfl | rfl <;> rfl
      · (repeat (first | rw [if_pos (by omega)] | rw [if_neg (by omega)]))
        rw [hz0.1 _ _ (by omega)]
        unfold gR
        (repeat (first | rw [if_pos (by omega)] | rw [if_neg (by omega)]))
    · by_cases c2 : 436 ≤ b ∧ b < 453
      · (repeat (first | rw [if_pos (by omega)] | rw [if_neg (by omega)]))
        rw [hz0.1 _ _ (by omega)]
        unfold gR
        (repeat (first | rw [if_pos (by omega)] | rw [if_neg (by omega)]))
      · (repeat (first | rw [if_pos (by omega)] | rw [if_neg (by omega)]))
  · rfl
