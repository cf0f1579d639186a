theorem cs_12 {o : OM} {l : Launch} {nm : String} {n : Nat} {M : Mem} {S : SS} {N i : Nat} {xs : Nat → Int32} {bg bg2 : Nat × Nat} {Q : Option Value → AH → Prop} (hl : l.stackTraces = false) (hE : OE o) (hO : OS o) (hx : OX o N xs) (hN : N ≤ 3072) (hi : i + 6 ≤ N) (hW : WS S) (hX : XR M S) (hM : MR M S) (hb1 : 1 + bg2.1 ≤ bg.1) (hb2 : 6 + bg2.2 ≤ bg.2) (K : ∀ n' M' S', XR M' S' → MR M' S' → WS S' → Rn o l (m_Lw nm) bg2 1396 [some (.retAddr 0), some (.ref 0), some (.ref 436), some (.ref 453), some (.int (nI i)), none, none] [] (gh n' M') Q) : Rn o l (m_Lw nm) bg 699 [some (.retAddr 0), some (.ref 0), some (.ref 436), some (.ref 453), some (.int (nI i)), none, none] [] (gh n M) Q := by
  refine r_less (bg2 := bg2) (by omega) (by omega) ?_
  refine r_aload_n d_Lw_699 rfl ?_
  refine r_bload_n d_Lw_700 rfl ?_
  refine r_iload (x := nI i) d_Lw_701 rfl ?_
  refine r_iconst (v := nI 1) d_Lw_703 (by decide) ?_
  refine n_iadd d_Lw_704 ?_
  refine r_sld d_Lw_705 hx (by omega) (by omega) ?_
  refine r_bload_n d_Lw_706 rfl ?_
  refine r_iload (x := nI i) d_Lw_707 rfl ?_
  refine r_iconst (v := nI 2) d_Lw_709 (by decide) ?_
  refine n_iadd d_Lw_710 ?_
  refine r_sld d_Lw_711 hx (by omega) (by omega) ?_
  refine r_bload_n d_Lw_712 rfl ?_
  refine r_iload (x := nI i) d_Lw_713 rfl ?_
  refine r_iconst (v := nI 3) d_Lw_715 (by decide) ?_
  refine n_iadd d_Lw_716 ?_
  refine r_sld d_Lw_717 hx (by omega) (by omega) ?_
  refine g_Vi (av := [.int (xs (i + 1)), .int (xs (i + 2)), .int (xs (i + 3))]) d_Lw_718 k_Lw_81 ws_X_times (Nat.le_of_ble_eq_true rfl) rfl rfl (Nat.le_of_ble_eq_true rfl) rfl (c_X_times hW hX) ?_
  rintro r M1 ⟨rfl, x1, k1⟩
  refine r_aload_n d_Lw_721 rfl ?_
  refine r_bload_n d_Lw_722 rfl ?_
  refine r_iload (x := nI i) d_Lw_723 rfl ?_
  refine r_iconst (v := nI 1) d_Lw_725 (by decide) ?_
  refine n_iadd d_Lw_726 ?_
  refine r_sld d_Lw_727 hx (by omega) (by omega) ?_
  refine r_bload_n d_Lw_728 rfl ?_
  refine r_iload (x := nI i) d_Lw_729 rfl ?_
  refine r_iconst (v := nI 2) d_Lw_731 (by decide) ?_
  refine n_iadd d_Lw_732 ?_
  refine r_sld d_Lw_733 hx (by omega) (by omega) ?_
  refine r_bload_n d_Lw_734 rfl ?_
  refine r_iload (x := nI i) d_Lw_735 rfl ?_
  refine r_iconst (v := nI 3) d_Lw_737 (by decide) ?_
  refine n_iadd d_Lw_738 ?_
  refine r_sld d_Lw_739 hx (by omega) (by omega) ?_
  refine g_Vi (av := [.int (xs (i + 1)), .int (xs (i + 2)), .int (xs (i + 3))]) d_Lw_740 k_Lw_84 ws_Md_times (Nat.le_of_ble_eq_true rfl) rfl rfl (Nat.le_of_ble_eq_true rfl) rfl (c_Md_times hW (hM.kx (fun b h1 _ => k1 b h1))) ?_
  rintro r M2 ⟨rfl, x2, k2⟩
  refine r_icmp_eq d_Lw_743 (fun _ => ?_) (fun h => absurd rfl h)
  exact K n M2 _ (x1.kx (fun b hb => k2 b (Or.inl hb))) x2 (w_times hW _ _ _)
theorem cs_13 {o : OM} {l : Launch} {nm : String} {n : Nat} {M : Mem} {S : SS} {N i : Nat} {xs : Nat → Int32} {bg bg2 : Nat × Nat} {Q : Option Value → AH → Prop} (hl : l.stackTraces = false) (hE : OE o) (hO : OS o) (hx : OX o N xs) (hN : N ≤ 3072) (hi : i + 6 ≤ N) (hW : WS S) (hX : XR M S) (hM : MR M S) (hb1 : 1 + bg2.1 ≤ bg.1) (hb2 : 6 + bg2.2 ≤ bg.2) (K : ∀ n' M' S', XR M' S' → MR M' S' → WS S' → Rn o l (m_Lw nm) bg2 1396 [some (.retAddr 0), some (.ref 0), some (.ref 436), some (.ref 453), some (.int (nI i)), none, none] [] (gh n' M') Q) : Rn o l (m_Lw nm) bg 748 [some (.retAddr 0), some (.ref 0), some (.ref 436), some (.ref 453), some (.int (nI i)), none, none] [] (gh n M) Q := by
  refine r_less (bg2 := bg2) (by omega) (by omega) ?_
  refine r_aload_n d_Lw_748 rfl ?_
  refine r_bload_n d_Lw_749 rfl ?_
  refine r_iload (x := nI i) d_Lw_750 rfl ?_
  refine r_iconst (v := nI 1) d_Lw_752 (by decide) ?_
  refine n_iadd d_Lw_753 ?_
  refine r_sld d_Lw_754 hx (by omega) (by omega) ?_
  refine r_bload_n d_Lw_755 rfl ?_
  refine r_iload (x := nI i) d_Lw_756 rfl ?_
  refine r_iconst (v := nI 2) d_Lw_758 (by decide) ?_
  refine n_iadd d_Lw_759 ?_
  refine r_sld d_Lw_760 hx (by omega) (by omega) ?_
  refine r_bload_n d_Lw_761 rfl ?_
  refine r_iload (x := nI i) d_Lw_762 rfl ?_
  refine r_iconst (v := nI 3) d_Lw_764 (by decide) ?_
  refine n_iadd d_Lw_765 ?_
  refine r_sld d_Lw_766 hx (by omega) (by omega) ?_
  refine g_Vi (av := [.int (xs (i + 1)), .int (xs (i + 2)), .int (xs (i + 3))]) d_Lw_767 k_Lw_85 ws_X_power (Nat.le_of_ble_eq_true rfl) rfl rfl (Nat.le_of_ble_eq_true rfl) rfl (c_X_power hW hX) ?_
  rintro r M1 ⟨rfl, x1, k1⟩
  refine r_aload_n d_Lw_770 rfl ?_
  refine r_bload_n d_Lw_771 rfl ?_
  refine r_iload (x := nI i) d_Lw_772 rfl ?_
  refine r_iconst (v := nI 1) d_Lw_774 (by decide) ?_
  refine n_iadd d_Lw_775 ?_
  refine r_sld d_Lw_776 hx (by omega) (by omega) ?_
  refine r_bload_n d_Lw_777 rfl ?_
  refine r_iload (x := nI i) d_Lw_778 rfl ?_
  refine r_iconst (v := nI 2) d_Lw_780 (by decide) ?_
  refine n_iadd d_Lw_781 ?_
  refine r_sld d_Lw_782 hx (by omega) (by omega) ?_
  refine r_bload_n d_Lw_783 rfl ?_
  refine r_iload (x := nI i) d_Lw_784 rfl ?_
  refine r_iconst (v := nI 3) d_Lw_786 (by decide) ?_
  refine n_iadd d_Lw_787 ?_
  refine r_sld d_Lw_788 hx (by omega) (by omega) ?_
  refine g_Vi (av := [.int (xs (i + 1)), .int (xs (i + 2)), .int (xs (i + 3))]) d_Lw_789 k_Lw_88 ws_Md_power (Nat.le_of_ble_eq_true rfl) rfl rfl (Nat.le_of_ble_eq_true rfl) rfl (c_Md_power hW (hM.kx (fun b h1 _ => k1 b h1))) ?_
  rintro r M2 ⟨rfl, x2, k2⟩
  refine r_icmp_eq d_Lw_792 (fun _ => ?_) (fun h => absurd rfl h)
  exact K n M2 _ (x1.kx (fun b hb => k2 b (Or.inl hb))) x2 (w_power hW _ _ _)
theorem cs_14 {o : OM} {l : Launch} {nm : String} {n : Nat} {M : Mem} {S : SS} {N i : Nat} {xs : Nat → Int32} {bg bg2 : Nat × Nat} {Q : Option Value → AH → Prop} (hl : l.stackTraces = false) (hE : OE o) (hO : OS o) (hx : OX o N xs) (hN : N ≤ 3072) (hi : i + 6 ≤ N) (hW : WS S) (hX : XR M S) (hM : MR M S) (hb1 : 1 + bg2.1 ≤ bg.1) (hb2 : 6 + bg2.2 ≤ bg.2) (K : ∀ n' M' S', XR M' S' → MR M' S' → WS S' → Rn o l (m_Lw nm) bg2 1396 [some (.retAddr 0), some (.ref 0), some (.ref 436), some (.ref 453), some (.int (nI i)), none, none] [] (gh n' M') Q) : Rn o l (m_Lw nm) bg 797 [some (.retAddr 0), some (.ref 0), some (.ref 436), some (.ref 453), some (.int (nI i)), none, none] [] (gh n M) Q := by
  refine r_less (bg2 := bg2) (by omega) (by omega) ?_
  refine r_aload_n d_Lw_797 rfl ?_
  refine r_bload_n d_Lw_798 rfl ?_
  refine r_iload (x := nI i) d_Lw_799 rfl ?_
  refine r_iconst (v := nI 1) d_Lw_801 (by decide) ?_
  refine n_iadd d_Lw_802 ?_
  refine r_sld d_Lw_803 hx (by omega) (by omega) ?_
  refine r_bload_n d_Lw_804 rfl ?_
  refine r_iload (x := nI i) d_Lw_805 rfl ?_
  refine r_iconst (v := nI 2) d_Lw_807 (by decide) ?_
  refine n_iadd d_Lw_808 ?_
  refine r_sld d_Lw_809 hx (by omega) (by omega) ?_
  refine r_bload_n d_Lw_810 rfl ?_
  refine r_iload (x := nI i) d_Lw_811 rfl ?_
  refine r_iconst (v := nI 3) d_Lw_813 (by decide) ?_
  refine n_iadd d_Lw_814 ?_
  refine r_sld d_Lw_815 hx (by omega) (by omega) ?_
  refine g_Vi (av := [.int (xs (i + 1)), .int (xs (i + 2)), .int (xs (i + 3))]) d_Lw_816 k_Lw_89 ws_X_part (Nat.le_of_ble_eq_true rfl) rfl rfl (Nat.le_of_ble_eq_true rfl) rfl (c_X_part hW hX) ?_
  rintro r M1 ⟨rfl, x1, k1⟩
  refine r_aload_n d_Lw_819 rfl ?_
  refine r_bload_n d_Lw_820 rfl ?_
  refine r_iload (x := nI i) d_Lw_821 rfl ?_
  refine r_iconst (v := nI 1) d_Lw_823 (by decide) ?_
  refine n_iadd d_Lw_824 ?_
  refine r_sld d_Lw_825 hx (by omega) (by omega) ?_
  refine r_bload_n d_Lw_826 rfl ?_
  refine r_iload (x := nI i) d_Lw_827 rfl ?_
  refine r_iconst (v := nI 2) d_Lw_829 (by decide) ?_
  refine n_iadd d_Lw_830 ?_
  refine r_sld d_Lw_831 hx (by omega) (by omega) ?_
  refine r_bload_n d_Lw_832 rfl ?_
  refine r_iload (x := nI i) d_Lw_833 rfl ?_
  refine r_iconst (v := nI 3) d_Lw_835 (by decide) ?_
  refine n_iadd d_Lw_836 ?_
  refine r_sld d_Lw_837 hx (by omega) (by omega) ?_
  refine g_Vi (av := [.int (xs (i + 1)), .int (xs (i + 2)), .int (xs (i + 3))]) d_Lw_838 k_Lw_92 ws_Md_part (Nat.le_of_ble_eq_true rfl) rfl rfl (Nat.le_of_ble_eq_true rfl) rfl (c_Md_part hW (hM.kx (fun b h1 _ => k1 b h1))) ?_
  rintro r M2 ⟨rfl, x2, k2⟩
  refine r_icmp_eq d_Lw_841 (fun _ => ?_) (fun h => absurd rfl h)
  exact K n M2 _ (x1.kx (fun b hb => k2 b (Or.inl hb))) x2 (w_part hW _ _ _)
theorem cs_15 {o : OM} {l : Launch} {nm : String} {n : Nat} {M : Mem} {S : SS} {N i : Nat} {xs : Nat → Int32} {bg bg2 : Nat × Nat} {Q : Option Value → AH → Prop} (hl : l.stackTraces = false) (hE : OE o) (hO : OS o) (hx : OX o N xs) (hN : N ≤ 3072) (hi : i + 6 ≤ N) (hW : WS S) (hX : XR M S) (hM : MR M S) (hb1 : 1 + bg2.1 ≤ bg.1) (hb2 : 6 + bg2.2 ≤ bg.2) (K : ∀ n' M' S', XR M' S' → MR M' S' → WS S' → Rn o l (m_Lw nm) bg2 1396 [some (.retAddr 0), some (.ref 0), some (.ref 436), some (.ref 453), some (.int (nI i)), none, none] [] (gh n' M') Q) : Rn o l (m_Lw nm) bg 846 [some (.retAddr 0), some (.ref 0), some (.ref 436), some (.ref 453), some (.int (nI i)), none, none] [] (gh n M) Q := by
  refine r_less (bg2 := bg2) (by omega) (by omega) ?_
  refine r_aload_n d_Lw_846 rfl ?_
  refine r_bload_n d_Lw_847 rfl ?_
  refine r_iload (x := nI i) d_Lw_848 rfl ?_
  refine r_iconst (v := nI 1) d_Lw_850 (by decide) ?_
  refine n_iadd d_Lw_851 ?_
  refine r_sld d_Lw_852 hx (by omega) (by omega) ?_
  refine r_bload_n d_Lw_853 rfl ?_
  refine r_iload (x := nI i) d_Lw_854 rfl ?_
  refine r_iconst (v := nI 2) d_Lw_856 (by decide) ?_
  refine n_iadd d_Lw_857 ?_
  refine r_sld d_Lw_858 hx (by omega) (by omega) ?_
  refine r_bload_n d_Lw_859 rfl ?_
  refine r_iload (x := nI i) d_Lw_860 rfl ?_
  refine r_iconst (v := nI 3) d_Lw_862 (by decide) ?_
  refine n_iadd d_Lw_863 ?_
  refine r_sld d_Lw_864 hx (by omega) (by omega) ?_
  refine g_Vi (av := [.int (xs (i + 1)), .int (xs (i + 2)), .int (xs (i + 3))]) d_Lw_865 k_Lw_93 ws_X_apply (Nat.le_of_ble_eq_true rfl) rfl rfl (Nat.le_of_ble_eq_true rfl) rfl (c_X_apply hW hX) ?_
  rintro r M1 ⟨rfl, x1, k1⟩
  refine r_aload_n d_Lw_868 rfl ?_
  refine r_bload_n d_Lw_869 rfl ?_
  refine r_iload (x := nI i) d_Lw_870 rfl ?_
  refine r_iconst (v := nI 1) d_Lw_872 (by decide) ?_
  refine n_iadd d_Lw_873 ?_
  refine r_sld d_Lw_874 hx (by omega) (by omega) ?_
  refine r_bload_n d_Lw_875 rfl ?_
  refine r_iload (x := nI i) d_Lw_876 rfl ?_
  refine r_iconst (v := nI 2) d_Lw_878 (by decide) ?_
  refine n_iadd d_Lw_879 ?_
  refine r_sld d_Lw_880 hx (by omega) (by omega) ?_
  refine r_bload_n d_Lw_881 rfl ?_
  refine r_iload (x := nI i) d_Lw_882 rfl ?_
  refine r_iconst (v := nI 3) d_Lw_884 (by decide) ?_
  refine n_iadd d_Lw_885 ?_
  refine r_sld d_Lw_886 hx (by omega) (by omega) ?_
  refine g_Vi (av := [.int (xs (i + 1)), .int (xs (i + 2)), .int (xs (i + 3))]) d_Lw_887 k_Lw_96 ws_Md_apply (Nat.le_of_ble_eq_true rfl) rfl rfl (Nat.le_of_ble_eq_true rfl) rfl (c_Md_apply hW (hM.kx (fun b h1 _ => k1 b h1))) ?_
  rintro r M2 ⟨rfl, x2, k2⟩
  refine r_icmp_eq d_Lw_890 (fun _ => ?_) (fun h => absurd rfl h)
  exact K n M2 _ (x1.kx (fun b hb => k2 b (Or.inl hb))) x2 (w_apply hW _ _ _)
theorem cs_16 {o : OM} {l : Launch} {nm : String} {n : Nat} {M : Mem} {S : SS} {N i : Nat} {xs : Nat → Int32} {bg bg2 : Nat × Nat} {Q : Option Value → AH → Prop} (hl : l.stackTraces = false) (hE : OE o) (hO : OS o) (hx : OX o N xs) (hN : N ≤ 3072) (hi : i + 6 ≤ N) (hW : WS S) (hX : XR M S) (hM : MR M S) (hb1 : 1 + bg2.1 ≤ bg.1) (hb2 : 6 + bg2.2 ≤ bg.2) (K : ∀ n' M' S', XR M' S' → MR M' S' → WS S' → Rn o l (m_Lw nm) bg2 1396 [some (.retAddr 0), some (.ref 0), some (.ref 436), some (.ref 453), some (.int (nI i)), none, none] [] (gh n' M') Q) : Rn o l (m_Lw nm) bg 895 [some (.retAddr 0), some (.ref 0), some (.ref 436), some (.ref 453), some (.int (nI i)), none, none] [] (gh n M) Q := by
  refine r_less (bg2 := bg2) (by omega) (by omega) ?_
  refine r_aload_n d_Lw_895 rfl ?_
  refine r_bload_n d_Lw_896 rfl ?_
  refine r_iload (x := nI i) d_Lw_897 rfl ?_
  refine r_iconst (v := nI 1) d_Lw_899 (by decide) ?_
  refine n_iadd d_Lw_900 ?_
  refine r_sld d_Lw_901 hx (by omega) (by omega) ?_
  refine r_bload_n d_Lw_902 rfl ?_
  refine r_iload (x := nI i) d_Lw_903 rfl ?_
  refine r_iconst (v := nI 2) d_Lw_905 (by decide) ?_
  refine n_iadd d_Lw_906 ?_
  refine r_sld d_Lw_907 hx (by omega) (by omega) ?_
  refine r_bload_n d_Lw_908 rfl ?_
  refine r_iload (x := nI i) d_Lw_909 rfl ?_
  refine r_iconst (v := nI 3) d_Lw_911 (by decide) ?_
  refine n_iadd d_Lw_912 ?_
  refine r_sld d_Lw_913 hx (by omega) (by omega) ?_
  refine g_Vi (av := [.int (xs (i + 1)), .int (xs (i + 2)), .int (xs (i + 3))]) d_Lw_914 k_Lw_97 ws_X_sums (Nat.le_of_ble_eq_true rfl) rfl rfl (Nat.le_of_ble_eq_true rfl) rfl (c_X_sums hW hX) ?_
  rintro r M1 ⟨rfl, x1, k1⟩
  refine r_aload_n d_Lw_917 rfl ?_
  refine r_bload_n d_Lw_918 rfl ?_
  refine r_iload (x := nI i) d_Lw_919 rfl ?_
  refine r_iconst (v := nI 1) d_Lw_921 (by decide) ?_
  refine n_iadd d_Lw_922 ?_
  refine r_sld d_Lw_923 hx (by omega) (by omega) ?_
  refine r_bload_n d_Lw_924 rfl ?_
  refine r_iload (x := nI i) d_Lw_925 rfl ?_
  refine r_iconst (v := nI 2) d_Lw_927 (by decide) ?_
  refine n_iadd d_Lw_928 ?_
  refine r_sld d_Lw_929 hx (by omega) (by omega) ?_
  refine r_bload_n d_Lw_930 rfl ?_
  refine r_iload (x := nI i) d_Lw_931 rfl ?_
  refine r_iconst (v := nI 3) d_Lw_933 (by decide) ?_
  refine n_iadd d_Lw_934 ?_
  refine r_sld d_Lw_935 hx (by omega) (by omega) ?_
  refine g_Vi (av := [.int (xs (i + 1)), .int (xs (i + 2)), .int (xs (i + 3))]) d_Lw_936 k_Lw_100 ws_Md_sums (Nat.le_of_ble_eq_true rfl) rfl rfl (Nat.le_of_ble_eq_true rfl) rfl (c_Md_sums hW (hM.kx (fun b h1 _ => k1 b h1))) ?_
  rintro r M2 ⟨rfl, x2, k2⟩
  refine r_icmp_eq d_Lw_939 (fun _ => ?_) (fun h => absurd rfl h)
  exact K n M2 _ (x1.kx (fun b hb => k2 b (Or.inl hb))) x2 (w_sums hW _ _ _)
