/-! the law's loop -/
def QT : Option Value → AH → Prop := fun v _ => v = some (.int (nI 1))
section P93
variable {o : OM} {l : Launch} {nm : String} {N : Nat} {xs : Nat → Int32}
theorem lw_exit {bg : Nat × Nat} {L : List (Option Value)} {h : AH} : Rn o l (m_Lw nm) bg 1402 L [] h QT := by
  refine r_iconst (v := nI 1) d_Lw_1402 (by decide) ?_
  exact r_zreturn d_Lw_1403 rfl rfl rfl
theorem lw_loop (hl : l.stackTraces = false) (hE : OE o) (hO : OS o) (hx : OX o N xs) (hN : N ≤ 3072) : ∀ (d i n : Nat) (M : Mem) (S : SS), i ≤ N → N ≤ i + 6 * d + 5 → XR M S → MR M S → WS S → Rn o l (m_Lw nm) (d, 6 * d) 23 [some (.retAddr 0), some (.ref 0), some (.ref 436), some (.ref 453), some (.int (nI i)), none, none] [] (gh n M) QT := by
  intro d
  induction d with
  | zero =>
    intro i n M S h1 h2 hX hM hW
    refine r_iload (x := nI i) d_Lw_23 rfl ?_
    refine r_bload_n d_Lw_25 rfl ?_
    refine r_xlen d_Lw_26 hx ?_
    refine r_bipush (v := nI 6) d_Lw_27 (by decide) ?_
    refine r_isub d_Lw_29 ?_
    refine r_icmp_gt d_Lw_30 (fun _ => lw_exit) (fun h => absurd ((lt6 hN (by omega)).mpr (by omega)) h)
  | succ d ih =>
    intro i n M S h1 h2 hX hM hW
    refine r_iload (x := nI i) d_Lw_23 rfl ?_
    refine r_bload_n d_Lw_25 rfl ?_
    refine r_xlen d_Lw_26 hx ?_
    refine r_bipush (v := nI 6) d_Lw_27 (by decide) ?_
    refine r_isub d_Lw_29 ?_
    refine r_icmp_gt d_Lw_30 (fun _ => lw_exit) (fun h => ?_)
    have hi : i + 6 ≤ N := Nat.le_of_not_lt (fun z => h ((lt6 hN (by omega)).mpr z))
    have K : ∀ n' M' S', XR M' S' → MR M' S' → WS S' → Rn o l (m_Lw nm) (d, 6 * d) 1396 [some (.retAddr 0), some (.ref 0), some (.ref 436), some (.ref 453), some (.int (nI i)), none, none] [] (gh n' M') QT := by
      intro n' M' S' a b c
      refine n_iinc (a := i) (c := 6) (L' := [some (.retAddr 0), some (.ref 0), some (.ref 436), some (.ref 453), some (.int (nI (i + 6))), none, none]) d_Lw_1396 rfl (by decide) (Nat.le_of_ble_eq_true rfl) rfl ?_
      refine r_goto d_Lw_1399 ?_
      exact ih (i + 6) n' M' S' hi (by omega) a b c
    refine r_bload_n d_Lw_33 rfl ?_
    refine r_iload (x := nI i) d_Lw_34 rfl ?_
    refine r_sld d_Lw_36 hx (by omega) (by omega) ?_
    refine r_bipush (v := nI 31) d_Lw_37 (by decide) ?_
    refine r_iand d_Lw_39 ?_
    obtain ⟨k, hk, ek⟩ := and31 (xs i)
    refine r_top ek ?_
    have b1 : 1 + ((d, 6 * d) : Nat × Nat).1 ≤ ((d + 1, 6 * (d + 1)) : Nat × Nat).1 := by show 1 + d ≤ d + 1; omega
    have b2 : 6 + ((d, 6 * d) : Nat × Nat).2 ≤ ((d + 1, 6 * (d + 1)) : Nat × Nat).2 := by show 6 + 6 * d ≤ 6 * (d + 1); omega
    clear h ek
    rcases (show k = 0 ∨ k = 1 ∨ k = 2 ∨ k = 3 ∨ k = 4 ∨ k = 5 ∨ k = 6 ∨ k = 7 ∨ k = 8 ∨ k = 9 ∨ k = 10 ∨ k = 11 ∨ k = 12 ∨ k = 13 ∨ k = 14 ∨ k = 15 ∨ k = 16 ∨ k = 17 ∨ k = 18 ∨ k = 19 ∨ k = 20 ∨ k = 21 ∨ k = 22 ∨ k = 23 ∨ k = 24 ∨ k = 25 ∨ k = 26 ∨ k = 27 ∨ k = 28 ∨ k = 29 ∨ k = 30 ∨ k = 31 by omega) with rfl | rfl | rfl | rfl | rfl | rfl | rfl | rfl | rfl | rfl | rfl | rfl | rfl | rfl | rfl | rfl | rfl | rfl | rfl | rfl | rfl | rfl | rfl | rfl | rfl | rfl | rfl | rfl | rfl | rfl | rfl | rfl
    · exact r_tsIn (tgt := 176) d_Lw_40 (by decide) (by decide) rfl rfl (cs_0 hl hE hO hx hN hi hW hX hM b1 b2 K)
    · exact r_tsIn (tgt := 249) d_Lw_40 (by decide) (by decide) rfl rfl (cs_1 hl hE hO hx hN hi hW hX hM b1 b2 K)
    · exact r_tsIn (tgt := 274) d_Lw_40 (by decide) (by decide) rfl rfl (cs_2 hl hE hO hx hN hi hW hX hM b1 b2 K)
    · exact r_tsIn (tgt := 287) d_Lw_40 (by decide) (by decide) rfl rfl (cs_3 hl hE hO hx hN hi hW hX hM b1 b2 K)
    · exact r_tsIn (tgt := 300) d_Lw_40 (by decide) (by decide) rfl rfl (cs_4 hl hE hO hx hN hi hW hX hM b1 b2 K)
    · exact r_tsIn (tgt := 325) d_Lw_40 (by decide) (by decide) rfl rfl (cs_5 hl hE hO hx hN hi hW hX hM b1 b2 K)
    · exact r_tsIn (tgt := 362) d_Lw_40 (by decide) (by decide) rfl rfl (cs_6 hl hE hO hx hN hi hW hX hM b1 b2 K)
    · exact r_tsIn (tgt := 411) d_Lw_40 (by decide) (by decide) rfl rfl (cs_7 hl hE hO hx hN hi hW hX hM b1 b2 K)
    · exact r_tsIn (tgt := 472) d_Lw_40 (by decide) (by decide) rfl rfl (cs_8 hl hE hO hx hN hi hW hX hM b1 b2 K)
    · exact r_tsIn (tgt := 521) d_Lw_40 (by decide) (by decide) rfl rfl (cs_9 hl hE hO hx hN hi hW hX hM b1 b2 K)
    · exact r_tsIn (tgt := 570) d_Lw_40 (by decide) (by decide) rfl rfl (cs_10 hl hE hO hx hN hi hW hX hM b1 b2 K)
    · exact r_tsIn (tgt := 619) d_Lw_40 (by decide) (by decide) rfl rfl (cs_11 hl hE hO hx hN hi hW hX hM b1 b2 K)
    · exact r_tsIn (tgt := 699) d_Lw_40 (by decide) (by decide) rfl rfl (cs_12 hl hE hO hx hN hi hW hX hM b1 b2 K)
    · exact r_tsIn (tgt := 748) d_Lw_40 (by decide) (by decide) rfl rfl (cs_13 hl hE hO hx hN hi hW hX hM b1 b2 K)
    · exact r_tsIn (tgt := 797) d_Lw_40 (by decide) (by decide) rfl rfl (cs_14 hl hE hO hx hN hi hW hX hM b1 b2 K)
    · exact r_tsIn (tgt := 846) d_Lw_40 (by decide) (by decide) rfl rfl (cs_15 hl hE hO hx hN hi hW hX hM b1 b2 K)
    · exact r_tsIn (tgt := 895) d_Lw_40 (by decide) (by decide) rfl rfl (cs_16 hl hE hO hx hN hi hW hX hM b1 b2 K)
    · exact r_tsIn (tgt := 944) d_Lw_40 (by decide) (by decide) rfl rfl (cs_17 hl hE hO hx hN hi hW hX hM b1 b2 K)
    · exact r_tsIn (tgt := 1024) d_Lw_40 (by decide) (by decide) rfl rfl (cs_18 hl hE hO hx hN hi hW hX hM b1 b2 K)
    · exact r_tsIn (tgt := 1049) d_Lw_40 (by decide) (by decide) rfl rfl (cs_19 hl hE hO hx hN hi hW hX hM b1 b2 K)
    · exact r_tsIn (tgt := 1098) d_Lw_40 (by decide) (by decide) rfl rfl (cs_20 hl hE hO hx hN hi hW hX hM b1 b2 K)
    · exact r_tsIn (tgt := 1147) d_Lw_40 (by decide) (by decide) rfl rfl (cs_21 hl hE hO hx hN hi hW hX hM b1 b2 K)
    · exact r_tsIn (tgt := 1184) d_Lw_40 (by decide) (by decide) rfl rfl (cs_22 hl hE hO hx hN hi hW hX hM b1 b2 K)
    · exact r_tsIn (tgt := 1233) d_Lw_40 (by decide) (by decide) rfl rfl (cs_23 hl hE hO hx hN hi hW hX hM b1 b2 K)
    · exact r_tsIn (tgt := 1258) d_Lw_40 (by decide) (by decide) rfl rfl (cs_24 hl hE hO hx hN hi hW hX hM b1 b2 K)
    · exact r_tsIn (tgt := 1271) d_Lw_40 (by decide) (by decide) rfl rfl (cs_25 hl hE hO hx hN hi hW hX hM b1 b2 K)
    · exact r_tsIn (tgt := 1296) d_Lw_40 (by decide) (by decide) rfl rfl (cs_26 hl hE hO hx hN hi hW hX hM b1 b2 K)
    · exact r_tsIn (tgt := 1333) d_Lw_40 (by decide) (by decide) rfl rfl (cs_27 hl hE hO hx hN hi hW hX hM b1 b2 K)
    · exact r_tsIn (tgt := 1346) d_Lw_40 (by decide) (by decide) rfl rfl (cs_28 hl hE hO hx hN hi hW hX hM b1 b2 K)
    · exact r_tsIn (tgt := 1371) d_Lw_40 (by decide) (by decide) rfl rfl (cs_29 hl hE hO hx hN hi hW hX hM b1 b2 K)
    · exact r_tsOut (tgt := 1396) d_Lw_40 (Or.inr (by decide)) rfl (r_less (by show d ≤ d + 1; omega) (by show 6 * d ≤ 6 * (d + 1); omega) (K n M S hX hM hW))
    · exact r_tsOut (tgt := 1396) d_Lw_40 (Or.inr (by decide)) rfl (r_less (by show d ≤ d + 1; omega) (by show 6 * d ≤ 6 * (d + 1); omega) (K n M S hX hM hW))
theorem zb_X : Zb 436 (pt Z0R 0 436) Mi := ⟨fun b j hb => by rw [pt2, if_neg (by omega)]; rfl, fun b j hb => (Mi_0 (by omega)).trans nI_0⟩
theorem zb_M : Zb 453 (pt (pt Z0R 0 436) 436 453) Mi := ⟨fun b j hb => by rw [pt2, if_neg (by omega), pt2, if_neg (by omega)]; rfl, fun b j hb => (Mi_0 (by omega)).trans nI_0⟩
theorem lw_all (hl : l.stackTraces = false) (hA : OA o) (hE : OE o) (hO : OS o) (hx : OX o N xs) (hN : N ≤ 3072) : Rn o l (m_Lw nm) (966, 11243) 0 [some (.retAddr 0), none, none, none, none, none, none] [] (ph 0 Z0R Z0M) QT := by
  refine p_new (bg' := (965, 11232)) (n := 0) d_Lw_0 n_Lw_8 rfl rfl zb_0 rfl ?_
  refine r_dup d_Lw_3 rfl ?_
  refine p_call (bg' := (435, 4234)) (bg2 := (530, 6998)) (a := 0) (n' := 436) d_Lw_4 k_Lw_18 ws_X_init (Nat.le_of_ble_eq_true rfl) (Nat.le_of_ble_eq_true rfl) rfl rfl (show KC o l m_X_init (435, 4234) 0 436 Z0R Z0M (pt Z0R 0 436) Mi from k_X hA zb_0) ?_
  refine r_astore_n (L' := [some (.retAddr 0), some (.ref 0), none, none, none, none, none]) d_Lw_7 (Nat.le_of_ble_eq_true rfl) rfl ?_
  refine p_new (bg' := (529, 6967)) (n := 436) d_Lw_8 n_Lw_19 rfl rfl zb_X rfl ?_
  refine r_dup d_Lw_11 rfl ?_
  refine p_call (bg' := (16, 3894)) (bg2 := (513, 3073)) (a := 436) (n' := 453) d_Lw_12 k_Lw_21 ws_Md_init (Nat.le_of_ble_eq_true rfl) (Nat.le_of_ble_eq_true rfl) rfl rfl (k_Md hA zb_X) ?_
  refine r_astore_n (L' := [some (.retAddr 0), some (.ref 0), some (.ref 436), none, none, none, none]) d_Lw_15 (Nat.le_of_ble_eq_true rfl) rfl ?_
  refine r_iconst (v := nI 1) d_Lw_16 (by decide) ?_
  refine p_newa (bg' := (512, 3072)) (t := 4) (N := 1) (n := 453) d_Lw_17 rfl (by decide) wa_long rfl (by decide) rfl rfl zb_M rfl (fun _ => ?_)
  refine r_astore_n (L' := [some (.retAddr 0), some (.ref 0), some (.ref 436), some (.ref 453), none, none, none]) d_Lw_19 (Nat.le_of_ble_eq_true rfl) rfl ?_
  refine r_iconst (v := nI 0) d_Lw_20 (by decide) ?_
  refine r_istore (L' := [some (.retAddr 0), some (.ref 0), some (.ref 436), some (.ref 453), some (.int (nI 0)), none, none]) d_Lw_21 (Nat.le_of_ble_eq_true rfl) rfl ?_
  rw [show ph (453 + 1) (pt (pt Z0R 0 436) 436 453) Mi = gh 454 Mi from ph_gh]
  exact lw_loop hl hE hO hx hN 512 0 454 Mi S0 (by omega) (by omega) xr_0 mr_0 ws_0
end P93
