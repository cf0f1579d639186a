theorem lcmp_0 (x : Int64) : lg_cmp x x = 0 := by
  unfold lg_cmp
  simp
theorem cs_11 {o : OM} {l : Launch} {nm : String} {n : Nat} {M : Mem} {S : SS} {N i : Nat} {xs : Nat → Int32} {bg bg2 : Nat × Nat} {Q : Option Value → AH → Prop} (hl : l.stackTraces = false) (hE : OE o) (hO : OS o) (hx : OX o N xs) (hN : N ≤ 3072) (hi : i + 6 ≤ N) (hW : WS S) (hX : XR M S) (hM : MR M S) (hb1 : 1 + bg2.1 ≤ bg.1) (hb2 : 6 + bg2.2 ≤ bg.2) (K : ∀ n' M' S', XR M' S' → MR M' S' → WS S' → Rn o l (m_Lw nm) bg2 1396 [some (.retAddr 0), some (.ref 0), some (.ref 436), some (.ref 453), some (.int (nI i)), none, none] [] (gh n' M') Q) : Rn o l (m_Lw nm) bg 619 [some (.retAddr 0), some (.ref 0), some (.ref 436), some (.ref 453), some (.int (nI i)), none, none] [] (gh n M) Q := by
  refine r_aload_n d_Lw_619 rfl ?_
  refine r_bload_n d_Lw_620 rfl ?_
  refine r_iload (x := nI i) d_Lw_621 rfl ?_
  refine r_iconst (v := nI 1) d_Lw_623 (by decide) ?_
  refine n_iadd d_Lw_624 ?_
  refine r_sld d_Lw_625 hx (by omega) (by omega) ?_
  refine r_bload_n d_Lw_626 rfl ?_
  refine r_iload (x := nI i) d_Lw_627 rfl ?_
  refine r_iconst (v := nI 2) d_Lw_629 (by decide) ?_
  refine n_iadd d_Lw_630 ?_
  refine r_sld d_Lw_631 hx (by omega) (by omega) ?_
  refine r_bload_n d_Lw_632 rfl ?_
  refine r_iload (x := nI i) d_Lw_633 rfl ?_
  refine r_iconst (v := nI 3) d_Lw_635 (by decide) ?_
  refine n_iadd d_Lw_636 ?_
  refine r_sld d_Lw_637 hx (by omega) (by omega) ?_
  refine r_aload_n d_Lw_638 rfl ?_
  refine r_callX (k := m_LE) (bg2 := bg2) (av := [.ref 0, .int (xs (i + 1)), .int (xs (i + 2)), .int (xs (i + 3)), .ref 453]) d_Lw_639 kx_LE (Nat.le_of_ble_eq_true rfl) rfl rfl (Nat.le_of_ble_eq_true rfl) hb1 hb2 (c_L_E hl hE hW hX) ?_
  rintro v h' ⟨M1, n1, rfl, hn1, x1, kb, cs⟩
  rcases cs with ⟨hc, rfl, hv⟩ | ⟨hc, rfl⟩
  · refine r_istore (x := nI 0) (L' := [some (.retAddr 0), some (.ref 0), some (.ref 436), some (.ref 453), some (.int (nI i)), some (.int (nI 0)), none]) d_Lw_642 (Nat.le_of_ble_eq_true rfl) rfl ?_
    refine r_aload_n d_Lw_644 rfl ?_
    refine r_bload_n d_Lw_645 rfl ?_
    refine r_iload (x := nI i) d_Lw_646 rfl ?_
    refine r_iconst (v := nI 1) d_Lw_648 (by decide) ?_
    refine n_iadd d_Lw_649 ?_
    refine r_sld d_Lw_650 hx (by omega) (by omega) ?_
    refine r_bload_n d_Lw_651 rfl ?_
    refine r_iload (x := nI i) d_Lw_652 rfl ?_
    refine r_iconst (v := nI 2) d_Lw_654 (by decide) ?_
    refine n_iadd d_Lw_655 ?_
    refine r_sld d_Lw_656 hx (by omega) (by omega) ?_
    refine r_bload_n d_Lw_657 rfl ?_
    refine r_iload (x := nI i) d_Lw_658 rfl ?_
    refine r_iconst (v := nI 3) d_Lw_660 (by decide) ?_
    refine n_iadd d_Lw_661 ?_
    refine r_sld d_Lw_662 hx (by omega) (by omega) ?_
    refine g_Vi (av := [.int (xs (i + 1)), .int (xs (i + 2)), .int (xs (i + 3))]) d_Lw_663 k_Lw_77 ws_Md_entry (Nat.le_of_ble_eq_true rfl) rfl rfl (Nat.le_of_ble_eq_true rfl) rfl (c_Md_entry hW (hM.kx kb)) ?_
    rintro r M2 ⟨m2, km, pc, pn⟩
    refine r_istore (L' := [some (.retAddr 0), some (.ref 0), some (.ref 436), some (.ref 453), some (.int (nI i)), some (.int (nI 0)), some (.int r)]) d_Lw_666 (Nat.le_of_ble_eq_true rfl) rfl ?_
    refine r_aload_n d_Lw_668 rfl ?_
    have th : M2 436 0 = nI 0 := (pc hc).2
    refine g_Vi (av := []) d_Lw_669 k_Lw_78 ws_Md_thrown (Nat.le_of_ble_eq_true rfl) rfl rfl (Nat.le_of_ble_eq_true rfl) rfl (c_Md_thrown th) ?_
    rintro _ _ ⟨rfl, rfl⟩
    refine r_iload (x := nI 0) d_Lw_672 rfl ?_
    refine r_icmp_eq d_Lw_674 (fun _ => ?_) (fun h => absurd rfl h)
    refine r_iload (x := nI 0) d_Lw_679 rfl ?_
    refine r_if_ne d_Lw_681 (fun h => absurd rfl h) (fun _ => ?_)
    refine r_aload_n d_Lw_684 rfl ?_
    refine r_iconst (v := nI 0) d_Lw_685 (by decide) ?_
    refine r_lald (a := 453) (n := 1) (j := 0) d_Lw_686 rfl rfl (by decide) (by decide) ?_
    refine r_iload d_Lw_687 rfl ?_
    refine r_i2l d_Lw_689 ?_
    refine r_lcmp d_Lw_690 ?_
    have e1 : hI (gh n1 M2) 453 0 = r := by show M2 453 0 = r; rw [km 453 (by decide), hv]; exact (pc hc).1.symm
    rw [e1]
    refine r_if_eq d_Lw_691 (fun _ => ?_) (fun h => absurd (lcmp_0 _) h)
    refine r_goto d_Lw_696 ?_
    refine r_weak (L' := [some (.retAddr 0), some (.ref 0), some (.ref 436), some (.ref 453), some (.int (nI i)), none, none]) (fun a v h => ?_) (K n1 M2 S (x1.kx (fun b hb => km b (Or.inl hb))) m2 hW)
    match a, h with
    | 0, h => exact h
    | 1, h => exact h
    | 2, h => exact h
    | 3, h => exact h
    | 4, h => exact h
    | 5, h => cases h
    | 6, h => cases h
    | a + 7, h => cases h
  · refine r_istore (x := nI 1) (L' := [some (.retAddr 0), some (.ref 0), some (.ref 436), some (.ref 453), some (.int (nI i)), some (.int (nI 1)), none]) d_Lw_642 (Nat.le_of_ble_eq_true rfl) rfl ?_
    refine r_aload_n d_Lw_644 rfl ?_
    refine r_bload_n d_Lw_645 rfl ?_
    refine r_iload (x := nI i) d_Lw_646 rfl ?_
    refine r_iconst (v := nI 1) d_Lw_648 (by decide) ?_
    refine n_iadd d_Lw_649 ?_
    refine r_sld d_Lw_650 hx (by omega) (by omega) ?_
    refine r_bload_n d_Lw_651 rfl ?_
    refine r_iload (x := nI i) d_Lw_652 rfl ?_
    refine r_iconst (v := nI 2) d_Lw_654 (by decide) ?_
    refine n_iadd d_Lw_655 ?_
    refine r_sld d_Lw_656 hx (by omega) (by omega) ?_
    refine r_bload_n d_Lw_657 rfl ?_
    refine r_iload (x := nI i) d_Lw_658 rfl ?_
    refine r_iconst (v := nI 3) d_Lw_660 (by decide) ?_
    refine n_iadd d_Lw_661 ?_
    refine r_sld d_Lw_662 hx (by omega) (by omega) ?_
    refine g_Vi (av := [.int (xs (i + 1)), .int (xs (i + 2)), .int (xs (i + 3))]) d_Lw_663 k_Lw_77 ws_Md_entry (Nat.le_of_ble_eq_true rfl) rfl rfl (Nat.le_of_ble_eq_true rfl) rfl (c_Md_entry hW (hM.kx kb)) ?_
    rintro r M2 ⟨m2, km, pc, pn⟩
    refine r_istore (L' := [some (.retAddr 0), some (.ref 0), some (.ref 436), some (.ref 453), some (.int (nI i)), some (.int (nI 1)), some (.int r)]) d_Lw_666 (Nat.le_of_ble_eq_true rfl) rfl ?_
    refine r_aload_n d_Lw_668 rfl ?_
    have th : M2 436 0 = nI 1 := pn hc
    refine g_Vi (av := []) d_Lw_669 k_Lw_78 ws_Md_thrown (Nat.le_of_ble_eq_true rfl) rfl rfl (Nat.le_of_ble_eq_true rfl) rfl (c_Md_thrown th) ?_
    rintro _ _ ⟨rfl, rfl⟩
    refine r_iload (x := nI 1) d_Lw_672 rfl ?_
    refine r_icmp_eq d_Lw_674 (fun _ => ?_) (fun h => absurd rfl h)
    refine r_iload (x := nI 1) d_Lw_679 rfl ?_
    refine r_if_ne d_Lw_681 (fun _ => ?_) (fun h => absurd h (by decide))
    refine r_goto d_Lw_696 ?_
    refine r_weak (L' := [some (.retAddr 0), some (.ref 0), some (.ref 436), some (.ref 453), some (.int (nI i)), none, none]) (fun a v h => ?_) (K n1 M2 S (x1.kx (fun b hb => km b (Or.inl hb))) m2 hW)
    match a, h with
    | 0, h => exact h
    | 1, h => exact h
    | 2, h => exact h
    | 3, h => exact h
    | 4, h => exact h
    | 5, h => cases h
    | 6, h => cases h
    | a + 7, h => cases h
theorem cs_17 {o : OM} {l : Launch} {nm : String} {n : Nat} {M : Mem} {S : SS} {N i : Nat} {xs : Nat → Int32} {bg bg2 : Nat × Nat} {Q : Option Value → AH → Prop} (hl : l.stackTraces = false) (hE : OE o) (hO : OS o) (hx : OX o N xs) (hN : N ≤ 3072) (hi : i + 6 ≤ N) (hW : WS S) (hX : XR M S) (hM : MR M S) (hb1 : 1 + bg2.1 ≤ bg.1) (hb2 : 6 + bg2.2 ≤ bg.2) (K : ∀ n' M' S', XR M' S' → MR M' S' → WS S' → Rn o l (m_Lw nm) bg2 1396 [some (.retAddr 0), some (.ref 0), some (.ref 436), some (.ref 453), some (.int (nI i)), none, none] [] (gh n' M') Q) : Rn o l (m_Lw nm) bg 944 [some (.retAddr 0), some (.ref 0), some (.ref 436), some (.ref 453), some (.int (nI i)), none, none] [] (gh n M) Q := by
  refine r_aload_n d_Lw_944 rfl ?_
  refine r_bload_n d_Lw_945 rfl ?_
  refine r_iload (x := nI i) d_Lw_946 rfl ?_
  refine r_iconst (v := nI 1) d_Lw_948 (by decide) ?_
  refine n_iadd d_Lw_949 ?_
  refine r_sld d_Lw_950 hx (by omega) (by omega) ?_
  refine r_bload_n d_Lw_951 rfl ?_
  refine r_iload (x := nI i) d_Lw_952 rfl ?_
  refine r_iconst (v := nI 2) d_Lw_954 (by decide) ?_
  refine n_iadd d_Lw_955 ?_
  refine r_sld d_Lw_956 hx (by omega) (by omega) ?_
  refine r_bload_n d_Lw_957 rfl ?_
  refine r_iload (x := nI i) d_Lw_958 rfl ?_
  refine r_iconst (v := nI 3) d_Lw_960 (by decide) ?_
  refine n_iadd d_Lw_961 ?_
  refine r_sld d_Lw_962 hx (by omega) (by omega) ?_
  refine r_aload_n d_Lw_963 rfl ?_
  refine r_callX (k := m_LP) (bg2 := bg2) (av := [.ref 0, .int (xs (i + 1)), .int (xs (i + 2)), .int (xs (i + 3)), .ref 453]) d_Lw_964 kx_LP (Nat.le_of_ble_eq_true rfl) rfl rfl (Nat.le_of_ble_eq_true rfl) hb1 hb2 (c_L_P hl hE hW hX) ?_
  rintro v h' ⟨M1, n1, rfl, hn1, x1, kb, cs⟩
  rcases cs with ⟨hc, rfl, hv⟩ | ⟨hc, rfl⟩
  · refine r_istore (x := nI 0) (L' := [some (.retAddr 0), some (.ref 0), some (.ref 436), some (.ref 453), some (.int (nI i)), some (.int (nI 0)), none]) d_Lw_967 (Nat.le_of_ble_eq_true rfl) rfl ?_
    refine r_aload_n d_Lw_969 rfl ?_
    refine r_bload_n d_Lw_970 rfl ?_
    refine r_iload (x := nI i) d_Lw_971 rfl ?_
    refine r_iconst (v := nI 1) d_Lw_973 (by decide) ?_
    refine n_iadd d_Lw_974 ?_
    refine r_sld d_Lw_975 hx (by omega) (by omega) ?_
    refine r_bload_n d_Lw_976 rfl ?_
    refine r_iload (x := nI i) d_Lw_977 rfl ?_
    refine r_iconst (v := nI 2) d_Lw_979 (by decide) ?_
    refine n_iadd d_Lw_980 ?_
    refine r_sld d_Lw_981 hx (by omega) (by omega) ?_
    refine r_bload_n d_Lw_982 rfl ?_
    refine r_iload (x := nI i) d_Lw_983 rfl ?_
    refine r_iconst (v := nI 3) d_Lw_985 (by decide) ?_
    refine n_iadd d_Lw_986 ?_
    refine r_sld d_Lw_987 hx (by omega) (by omega) ?_
    refine g_Vi (av := [.int (xs (i + 1)), .int (xs (i + 2)), .int (xs (i + 3))]) d_Lw_988 k_Lw_103 ws_Md_production (Nat.le_of_ble_eq_true rfl) rfl rfl (Nat.le_of_ble_eq_true rfl) rfl (c_Md_production hW (hM.kx kb)) ?_
    rintro r M2 ⟨m2, km, pc, pn⟩
    refine r_istore (L' := [some (.retAddr 0), some (.ref 0), some (.ref 436), some (.ref 453), some (.int (nI i)), some (.int (nI 0)), some (.int r)]) d_Lw_991 (Nat.le_of_ble_eq_true rfl) rfl ?_
    refine r_aload_n d_Lw_993 rfl ?_
    have th : M2 436 0 = nI 0 := (pc hc).2
    refine g_Vi (av := []) d_Lw_994 k_Lw_78 ws_Md_thrown (Nat.le_of_ble_eq_true rfl) rfl rfl (Nat.le_of_ble_eq_true rfl) rfl (c_Md_thrown th) ?_
    rintro _ _ ⟨rfl, rfl⟩
    refine r_iload (x := nI 0) d_Lw_997 rfl ?_
    refine r_icmp_eq d_Lw_999 (fun _ => ?_) (fun h => absurd rfl h)
    refine r_iload (x := nI 0) d_Lw_1004 rfl ?_
    refine r_if_ne d_Lw_1006 (fun h => absurd rfl h) (fun _ => ?_)
    refine r_aload_n d_Lw_1009 rfl ?_
    refine r_iconst (v := nI 0) d_Lw_1010 (by decide) ?_
    refine r_lald (a := 453) (n := 1) (j := 0) d_Lw_1011 rfl rfl (by decide) (by decide) ?_
    refine r_iload d_Lw_1012 rfl ?_
    refine r_i2l d_Lw_1014 ?_
    refine r_lcmp d_Lw_1015 ?_
    have e1 : hI (gh n1 M2) 453 0 = r := by show M2 453 0 = r; rw [km 453 (by decide), hv]; exact (pc hc).1.symm
    rw [e1]
    refine r_if_eq d_Lw_1016 (fun _ => ?_) (fun h => absurd (lcmp_0 _) h)
    refine r_goto d_Lw_1021 ?_
    refine r_weak (L' := [some (.retAddr 0), some (.ref 0), some (.ref 436), some (.ref 453), some (.int (nI i)), none, none]) (fun a v h => ?_) (K n1 M2 S (x1.kx (fun b hb => km b (Or.inl hb))) m2 hW)
    match a, h with
    | 0, h => exact h
    | 1, h => exact h
    | 2, h => exact h
    | 3, h => exact h
    | 4, h => exact h
    | 5, h => cases h
    | 6, h => cases h
    | a + 7, h => cases h
  · refine r_istore (x := nI 1) (L' := [some (.retAddr 0), some (.ref 0), some (.ref 436), some (.ref 453), some (.int (nI i)), some (.int (nI 1)), none]) d_Lw_967 (Nat.le_of_ble_eq_true rfl) rfl ?_
    refine r_aload_n d_Lw_969 rfl ?_
    refine r_bload_n d_Lw_970 rfl ?_
    refine r_iload (x := nI i) d_Lw_971 rfl ?_
    refine r_iconst (v := nI 1) d_Lw_973 (by decide) ?_
    refine n_iadd d_Lw_974 ?_
    refine r_sld d_Lw_975 hx (by omega) (by omega) ?_
    refine r_bload_n d_Lw_976 rfl ?_
    refine r_iload (x := nI i) d_Lw_977 rfl ?_
    refine r_iconst (v := nI 2) d_Lw_979 (by decide) ?_
    refine n_iadd d_Lw_980 ?_
    refine r_sld d_Lw_981 hx (by omega) (by omega) ?_
    refine r_bload_n d_Lw_982 rfl ?_
    refine r_iload (x := nI i) d_Lw_983 rfl ?_
    refine r_iconst (v := nI 3) d_Lw_985 (by decide) ?_
    refine n_iadd d_Lw_986 ?_
    refine r_sld d_Lw_987 hx (by omega) (by omega) ?_
    refine g_Vi (av := [.int (xs (i + 1)), .int (xs (i + 2)), .int (xs (i + 3))]) d_Lw_988 k_Lw_103 ws_Md_production (Nat.le_of_ble_eq_true rfl) rfl rfl (Nat.le_of_ble_eq_true rfl) rfl (c_Md_production hW (hM.kx kb)) ?_
    rintro r M2 ⟨m2, km, pc, pn⟩
    refine r_istore (L' := [some (.retAddr 0), some (.ref 0), some (.ref 436), some (.ref 453), some (.int (nI i)), some (.int (nI 1)), some (.int r)]) d_Lw_991 (Nat.le_of_ble_eq_true rfl) rfl ?_
    refine r_aload_n d_Lw_993 rfl ?_
    have th : M2 436 0 = nI 1 := pn hc
    refine g_Vi (av := []) d_Lw_994 k_Lw_78 ws_Md_thrown (Nat.le_of_ble_eq_true rfl) rfl rfl (Nat.le_of_ble_eq_true rfl) rfl (c_Md_thrown th) ?_
    rintro _ _ ⟨rfl, rfl⟩
    refine r_iload (x := nI 1) d_Lw_997 rfl ?_
    refine r_icmp_eq d_Lw_999 (fun _ => ?_) (fun h => absurd rfl h)
    refine r_iload (x := nI 1) d_Lw_1004 rfl ?_
    refine r_if_ne d_Lw_1006 (fun _ => ?_) (fun h => absurd h (by decide))
    refine r_goto d_Lw_1021 ?_
    refine r_weak (L' := [some (.retAddr 0), some (.ref 0), some (.ref 436), some (.ref 453), some (.int (nI i)), none, none]) (fun a v h => ?_) (K n1 M2 S (x1.kx (fun b hb => km b (Or.inl hb))) m2 hW)
    match a, h with
    | 0, h => exact h
    | 1, h => exact h
    | 2, h => exact h
    | 3, h => exact h
    | 4, h => exact h
    | 5, h => cases h
    | 6, h => cases h
    | a + 7, h => cases h
