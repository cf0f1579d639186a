/-! String constants of the Reader: what is said of them at the start, and the rules for them -/
def sIx (i : Nat) : Nat := if i = 0 then 144 else if i = 1 then 149 else if i = 2 then 150 else 152
def sTx (i : Nat) : String := if i = 0 then "size" else if i = 1 then "series" else if i = 2 then "over" else "table"
def sLn : List Nat := [4, 6, 4, 5]
def sBy : List (List Int32) := [[115, 105, 122, 101], [115, 101, 114, 105, 101, 115], [111, 118, 101, 114], [116, 97, 98, 108, 101]]
def OS (o : OM) : Prop := (∀ i, i < 4 → vk_R "SeriesTables$Reader" (sIx i) (sTx i) (oad o (i + 1)) (os0 o)) ∧ vk_S 4 sLn sBy (fun i => oad o (i + 1)) (fun i => oad o (i + 5)) (fun q => ob0 o ≤ q) (os0 o) (oH0 o) ∧ va_Z "java/lang/String" "COMPACT_STRINGS" "Z" (.int 1) (fun q => ob0 o ≤ q) (os0 o) (oH0 o) ∧ ∃ v : Value, (v = .null ∨ v = .retAddr 9) ∧ va_Z "jdk/internal/util/Preconditions" "SIOOBE_FORMATTER" "Ljava/util/function/BiFunction;" (fv o v) (fun q => ob0 o ≤ q) (os0 o) (oH0 o)
theorem lk_sv : Cond.fieldLink "java/lang/String" 9 "java/lang/String" "value" "[B" ∈ gt_ws := gt_in (tb6 (List.mem_of_getElem? (i := 19) rfl)) rfl
theorem lk_sc : Cond.fieldLink "java/lang/String" 15 "java/lang/String" "coder" "B" ∈ gt_ws := gt_in (tb6 (List.mem_of_getElem? (i := 20) rfl)) rfl
theorem lk_cs : Cond.fieldLink "java/lang/String" 38 "java/lang/String" "COMPACT_STRINGS" "Z" ∈ gt_ws := gt_in (tb2 (List.mem_of_getElem? (i := 82) rfl)) rfl
theorem lk_si : Cond.fieldLink "java/lang/String" 1053 "jdk/internal/util/Preconditions" "SIOOBE_FORMATTER" "Ljava/util/function/BiFunction;" ∈ gt_ws := gt_in (tb2 (List.mem_of_getElem? (i := 98) rfl)) rfl
theorem iv_Sg_length : Cond.instanceMethod (mnam m_Sg_length) ∈ gt_ws ∧ Cond.selects "java/lang/String" (mnam m_Sg_length) (mnam m_Sg_length) ∈ gt_ws := ⟨gt_in (tb2 (List.mem_of_getElem? (i := 75) rfl)) rfl, gt_in (tb2 (List.mem_of_getElem? (i := 76) rfl)) rfl⟩
theorem iv_Sg_coder : Cond.instanceMethod (mnam m_Sg_coder) ∈ gt_ws ∧ Cond.selects "java/lang/String" (mnam m_Sg_coder) (mnam m_Sg_coder) ∈ gt_ws := ⟨gt_in (tb2 (List.mem_of_getElem? (i := 79) rfl)) rfl, gt_in (tb2 (List.mem_of_getElem? (i := 80) rfl)) rfl⟩
theorem iv_Sg_charAt : Cond.instanceMethod (mnam m_Sg_charAt) ∈ gt_ws ∧ Cond.selects "java/lang/String" (mnam m_Sg_charAt) (mnam m_Sg_charAt) ∈ gt_ws := ⟨gt_in (tb2 (List.mem_of_getElem? (i := 85) rfl)) rfl, gt_in (tb2 (List.mem_of_getElem? (i := 86) rfl)) rfl⟩
theorem iv_Sg_isLatin1 : Cond.instanceMethod (mnam m_Sg_isLatin1) ∈ gt_ws ∧ Cond.selects "java/lang/String" (mnam m_Sg_isLatin1) (mnam m_Sg_isLatin1) ∈ gt_ws := ⟨gt_in (tb2 (List.mem_of_getElem? (i := 89) rfl)) rfl, gt_in (tb2 (List.mem_of_getElem? (i := 90) rfl)) rfl⟩
section RST
variable {o : OM} {l : Launch} {m k : MD} {bg : Nat × Nat} {pc pc' tgt : Nat} {L L' : List (Option Value)} {st : List Value} {h : AH} {Q Q1 : Option Value → AH → Prop}
theorem Rp.old {H : Heap} (h3 : Rp o h H) : ∀ a : Nat, a < (oH0 o).size → ¬ ob0 o ≤ a → H[a]? = (oH0 o)[a]? := fun a h1 h2 => h3.2.1 a (by omega)
theorem Kx.al {s : State} (h : Kx o s) : (os0 o).vm.Alike s.vm := h.2.alike
theorem r_ldcS {i : Nat} (hO : OS o) (hi : i < 4) (hm : mcls m = "SeriesTables$Reader") (hd : dd m pc (.ldc (sIx i)) 2 pc') (kk : Rn o l m bg pc' L (.retAddr (i + 1) :: st) h Q) : Rn o l m bg pc L st h Q := by
  obtain ⟨hd, rfl⟩ := hd
  intro p e R s mm args below meth c H locs cells slots Z ls hC h1 h2 h3 h4 h5 h6
  exact va_ldcS hC.1 hC.2.1 (by rw [← hm]; exact hC.2.2.2.2.1) ((hO.1 i hi).warm hC.2.2.2.2.2.2.1.2) hd (kk p e R s mm args below meth c H locs cells slots Z ls hC h1 h2 h3 h4 h5 h6)
theorem r_sval {i : Nat} (hO : OS o) (hi : i < 4) (hm : mcls m = "java/lang/String") (hd : dd m pc (.getfield 9) 3 pc') (kk : Rn o l m bg pc' L (.retAddr (i + 5) :: st) h Q) : Rn o l m bg pc L (.retAddr (i + 1) :: st) h Q := by
  obtain ⟨hd, rfl⟩ := hd
  intro p e R s mm args below meth c H locs cells slots Z ls hC h1 h2 h3 h4 h5 h6
  obtain ⟨cf, k, fi, f, cell, g1, g2, g3, g4, g5, g6⟩ := ((hO.2.1.1 i hi).2.2.1.moved hC.2.2.2.2.2.2.1.al).kept h3.old
  exact W.getf hC.1 hC.2.1 (by rw [← hm]; exact hC.2.2.2.2.1) (hC.2.2.2.2.2.1 _ lk_sv) g1 g2 g3 g4 g5 rfl rfl hd (kk p e R s mm args below meth c H locs cells slots Z ls hC h1 h2 h3 h4 h5 h6)
theorem r_scod {i : Nat} (hO : OS o) (hi : i < 4) (hm : mcls m = "java/lang/String") (hd : dd m pc (.getfield 15) 3 pc') (kk : Rn o l m bg pc' L (.int (nI 0) :: st) h Q) : Rn o l m bg pc L (.retAddr (i + 1) :: st) h Q := by
  obtain ⟨hd, rfl⟩ := hd
  intro p e R s mm args below meth c H locs cells slots Z ls hC h1 h2 h3 h4 h5 h6
  obtain ⟨cf, k, fi, f, cell, g1, g2, g3, g4, g5, g6⟩ := ((hO.2.1.1 i hi).2.1.moved hC.2.2.2.2.2.2.1.al).kept h3.old
  exact W.getf hC.1 hC.2.1 (by rw [← hm]; exact hC.2.2.2.2.1) (hC.2.2.2.2.2.1 _ lk_sc) g1 g2 g3 g4 g5 rfl rfl hd (kk p e R s mm args below meth c H locs cells slots Z ls hC h1 h2 h3 h4 h5 h6)
theorem r_slen {i : Nat} (hO : OS o) (hi : i < 4) (hd : dd m pc .arraylength 1 pc') (kk : Rn o l m bg pc' L (.int (nI (sLn.getD i 0)) :: st) h Q) : Rn o l m bg pc L (.retAddr (i + 5) :: st) h Q := by
  obtain ⟨hd, rfl⟩ := hd
  intro p e R s mm args below meth c H locs cells slots Z ls hC h1 h2 h3 h4 h5 h6
  obtain ⟨cell, g1, g2, g3, g4, g5, g6, g7⟩ := ((hO.2.1.1 i hi).2.2.2.moved hC.2.2.2.2.2.2.1.al).kept h3.old
  exact W.alen hC.1 hC.2.1 g1 g2 g5 rfl rfl hd (kk p e R s mm args below meth c H locs cells slots Z ls hC h1 h2 h3 h4 h5 h6)
theorem r_sbyt {i j : Nat} (hO : OS o) (hi : i < 4) (hj : j < sLn.getD i 0) (hj2 : j < 100) (hd : dd m pc .baload 1 pc') (kk : Rn o l m bg pc' L (.int ((sBy.getD i []).getD j 0) :: st) h Q) : Rn o l m bg pc L (.int (nI j) :: .retAddr (i + 5) :: st) h Q := by
  obtain ⟨hd, rfl⟩ := hd
  intro p e R s mm args below meth c H locs cells slots Z ls hC h1 h2 h3 h4 h5 h6
  obtain ⟨cell, g1, g2, g3, g4, g5, g6, g7⟩ := ((hO.2.1.1 i hi).2.2.2.moved hC.2.2.2.2.2.2.1.al).kept h3.old
  have hcl : (nI j).toNatClampNeg = j := nI_clamp (by omega)
  exact W.bald (v := .int ((sBy.getD i []).getD j 0)) hC.1 hC.2.1 g1 g2 g3 (by
    rw [hcl]
    rintro (q | q)
    · exact nI_pos (by omega) q
    · omega) (by rw [hcl]; exact g6 j hj) rfl rfl hd (kk p e R s mm args below meth c H locs cells slots Z ls hC h1 h2 h3 h4 h5 h6)
theorem r_comp (hO : OS o) (hm : mcls m = "java/lang/String") (hd : dd m pc (.getstatic 38) 3 pc') (kk : Rn o l m bg pc' L (.int (nI 1) :: st) h Q) : Rn o l m bg pc L st h Q := by
  obtain ⟨hd, rfl⟩ := hd
  intro p e R s mm args below meth c H locs cells slots Z ls hC h1 h2 h3 h4 h5 h6
  obtain ⟨cf, kf, fi, f, a, cell, g1, g2, g3, g4, g5, g6, g7, g8⟩ := (hO.2.2.1.moved hC.2.2.2.2.2.2.1.al).kept h3.old
  exact W.gets hC.1 hC.2.1 (by rw [← hm]; exact hC.2.2.2.2.1) (hC.2.2.2.2.2.1 _ lk_cs) g1 g2 g3 g4 g5 (fun e => by rw [e] at g6; cases g6) g7 rfl hd (kk p e R s mm args below meth c H locs cells slots Z ls hC h1 h2 h3 h4 h5 h6)
theorem r_sioo (hO : OS o) (hm : mcls m = "java/lang/String") (hd : dd m pc (.getstatic 1053) 3 pc') (kk : ∀ v : Value, (v = .null ∨ v = .retAddr 9) → Rn o l m bg pc' L (v :: st) h Q) : Rn o l m bg pc L st h Q := by
  obtain ⟨hd, rfl⟩ := hd
  intro p e R s mm args below meth c H locs cells slots Z ls hC h1 h2 h3 h4 h5 h6
  obtain ⟨v, hv, hZ⟩ := hO.2.2.2
  obtain ⟨cf, kf, fi, f, a, cell, g1, g2, g3, g4, g5, g6, g7, g8⟩ := (hZ.moved hC.2.2.2.2.2.2.1.al).kept h3.old
  exact W.gets hC.1 hC.2.1 (by rw [← hm]; exact hC.2.2.2.2.1) (hC.2.2.2.2.2.1 _ lk_si) g1 g2 g3 g4 g5 (fun e => by rw [e] at g6; cases g6) g7 rfl hd (kk v hv p e R s mm args below meth c H locs cells slots Z ls hC h1 h2 h3 h4 h5 h6)
theorem r_i2c {x : Int32} (hd : dd m pc .i2c 1 pc') (kk : Rn o l m bg pc' L (.int (x.toUInt32 % 65536).toInt32 :: st) h Q) : Rn o l m bg pc L (.int x :: st) h Q := by
  obtain ⟨hd, rfl⟩ := hd
  intro p e R s mm args below meth c H locs cells slots Z ls hC h1 h2 h3 h4 h5 h6
  exact lv_i2c hC.1 hC.2.1 hd rfl (kk p e R s mm args below meth c H locs cells slots Z ls hC h1 h2 h3 h4 h5 h6)
theorem r_anyreturn {x : Int32} {ty : FieldType} (hd : decode (mbt m) pc = .ok (.ireturn, 1)) (hr : mrt m = some ty) (hx : narrow ty (.int x) = .int x) (hq : Q (some (.int x)) h) : Rn o l m bg pc L [.int x] h Q := by
  intro p e R s mm args below meth c H locs cells slots Z ls hC h1 h2 h3 h4 h5 h6
  exact h6 (some (.int x)) h H locs cells slots pc ls bg hq h3 h4 h1 h2 (Or.inl ⟨x, ty, rfl, hr, hx, hd⟩) h5.1
theorem r_callK {idx n i : Nat} {av : List Value} {st0 : List Value} (hO : OS o) (hi : i < 4) (hd : dd m pc (.invokevirtual idx) 3 pc') (hk : LKd (mcls m) idx n k) (hs : Cond.instanceMethod (mnam k) ∈ gt_ws ∧ Cond.selects "java/lang/String" (mnam k) (mnam k) ∈ gt_ws) (hdp : mdp k + 1 ≤ mdp m) (hn : av.length = n) (hst : st0 = av.reverse ++ .retAddr (i + 1) :: st) (hw : (st.map fun v => v.category).sum ≤ 8)
    (hc : Cl o l k (0, 0) (.retAddr (i + 1) :: av) h Q1) (kk : ∀ v h', Q1 v h' → Rn o l m bg pc' L (v.toList ++ st) h' Q) : Rn o l m bg pc L st0 h Q := by
  obtain ⟨hd, rfl⟩ := hd
  subst hst
  intro p e R s mm args below meth c H locs cells slots Z ls hC h1 h2 h3 h4 h5 h6
  have hts := hC.2.2.2.2.2.1
  have hf := hC.2.2.2.2.2.2.2.2.2.1
  have hl := hC.2.2.2.2.2.2.2.2.2.2
  obtain ⟨cell, q1, q2, q3, -⟩ := ((hO.2.1.1 i hi).1.moved hC.2.2.2.2.2.2.1.al).kept h3.old
  refine r_goes (bg := bg) (bg' := (0, 0)) (bg2 := bg) (by simp) (by simp) kk hC h1 h2 h4 h5 h6 (va_runV (As := av.map (fv o)) (b := oad o (i + 1)) (C := "java/lang/String") (nL := mml m) (Ts := gt_ws) (own := mcls m) (n := n) ⟨hC.1, hC.2.1, hC.2.2.2.1, hC.2.2.2.2.1, hts⟩ hc ⟨cb_of (bg := (0, 0)) hts hk (by omega) (by omega), hts _ hs.1, hts _ hs.2⟩ ⟨pc_blind o _ h, ⟨cell, q1, q2, q3⟩, (pc_pre (.retAddr (i + 1) :: av) h3 hC.2.2.2.2.2.2.1).2⟩ rfl (by rw [List.length_map]; exact hn) h5.1 ?_ ?_ hd ⟨by show cells + 0 ≤ _; omega, by show slots + 0 ≤ _; omega⟩)
  · show (av.reverse ++ .retAddr (i + 1) :: st).map (fv o) = _
    rw [List.map_append, List.map_reverse]
    rfl
  · exact lv_room (by rw [cat_map]; exact hw)
variable {n : Nat} {M : Mem}
theorem g_Ki {idx nn i : Nat} {av st0 : List Value} {P : Int32 → Mem → Prop} (hO : OS o) (hi : i < 4) (hd : dd m pc (.invokevirtual idx) 3 pc') (hk : LKd (mcls m) idx nn k) (hs : Cond.instanceMethod (mnam k) ∈ gt_ws ∧ Cond.selects "java/lang/String" (mnam k) (mnam k) ∈ gt_ws) (hdp : mdp k + 1 ≤ mdp m) (hn : av.length = nn) (hst : st0 = av.reverse ++ .retAddr (i + 1) :: st) (hw : (st.map fun v => v.category).sum ≤ 8) (hc : CI o l k n (.retAddr (i + 1) :: av) M P) (kk : ∀ x M', P x M' → Rn o l m bg pc' L (.int x :: st) (gh n M') Q) : Rn o l m bg pc L st0 (gh n M) Q := by
  refine r_callK hO hi hd hk hs hdp hn hst hw hc ?_
  rintro v h' ⟨x, M', rfl, rfl, hp⟩
  exact kk x M' hp
theorem c_Sg_coder {i : Nat} (hO : OS o) (hi : i < 4) : CI o l m_Sg_coder n [.retAddr (i + 1)] M (fun r M' => r = nI 0 ∧ M = M') := by
  refine ci_ofF rfl rfl rfl (Nat.le_of_ble_eq_true rfl) ?_
  refine r_comp hO rfl d_Sg_coder_0 ?_
  refine n_if_eq d_Sg_coder_3 (by omega) (fun h9 => absurd h9 (by decide)) (fun _ => ?_)
  refine r_bload_n (x := i + 1) d_Sg_coder_6 rfl ?_
  refine r_scod hO hi rfl d_Sg_coder_7 ?_
  refine r_goto d_Sg_coder_10 ?_
  exact r_anyreturn d_Sg_coder_14 rfl (by decide) ⟨nI 0, M, rfl, rfl, rfl, rfl⟩
theorem c_Sg_length {i : Nat} (hO : OS o) (hi : i < 4) : CI o l m_Sg_length n [.retAddr (i + 1)] M (fun r M' => r = nI (sLn.getD i 0) ∧ M = M') := by
  refine ci_ofF rfl rfl rfl (Nat.le_of_ble_eq_true rfl) ?_
  refine r_bload_n (x := i + 1) d_Sg_length_0 rfl ?_
  refine r_sval hO hi rfl d_Sg_length_1 ?_
  refine r_slen hO hi d_Sg_length_4 ?_
  refine r_bload_n (x := i + 1) d_Sg_length_5 rfl ?_
  refine g_Ki (av := []) hO hi d_Sg_length_6 k_Sg_335 iv_Sg_coder (by decide) rfl rfl (Nat.le_of_ble_eq_true rfl) (c_Sg_coder hO hi) ?_
  rintro _ _ ⟨rfl, rfl⟩
  refine r_ishr d_Sg_length_9 ?_
  refine g_reti d_Sg_length_10 rfl ⟨?_, rfl⟩
  rcases (show i = 0 ∨ i = 1 ∨ i = 2 ∨ i = 3 by omega) with rfl | rfl | rfl | rfl <;> decide
theorem c_Sg_isLatin1 {i : Nat} (hO : OS o) (hi : i < 4) : CI o l m_Sg_isLatin1 n [.retAddr (i + 1)] M (fun r M' => r = nI 1 ∧ M = M') := by
  refine ci_ofF rfl rfl rfl (Nat.le_of_ble_eq_true rfl) ?_
  refine r_comp hO rfl d_Sg_isLatin1_0 ?_
  refine n_if_eq d_Sg_isLatin1_3 (by omega) (fun h9 => absurd h9 (by decide)) (fun _ => ?_)
  refine r_bload_n (x := i + 1) d_Sg_isLatin1_6 rfl ?_
  refine r_scod hO hi rfl d_Sg_isLatin1_7 ?_
  refine n_if_ne d_Sg_isLatin1_10 (by omega) (fun h9 => absurd rfl h9) (fun _ => ?_)
  refine r_iconst (v := nI 1) d_Sg_isLatin1_13 (by decide) ?_
  refine r_goto d_Sg_isLatin1_14 ?_
  exact g_retz d_Sg_isLatin1_18 rfl (by decide) ⟨rfl, rfl⟩
theorem c_Pr_checkIndex {a N : Nat} {v : Value} (hv : v = .null ∨ v = .retAddr 9) (ha : a < N) (hN : N < 100) : CI o l m_Pr_checkIndex n [.int (nI a), .int (nI N), v] M (fun r M' => r = nI a ∧ M = M') := by
  refine ci_ofF (L := [some (.int (nI a)), some (.int (nI N)), some v]) rfl rfl (by rcases hv with rfl | rfl <;> rfl) (by rcases hv with rfl | rfl <;> exact Nat.le_of_ble_eq_true rfl) ?_
  refine r_iload_n d_Pr_checkIndex_0 rfl ?_
  refine n_if_lt d_Pr_checkIndex_1 (by omega) ?_
  refine r_iload_n d_Pr_checkIndex_4 rfl ?_
  refine r_iload_n d_Pr_checkIndex_5 rfl ?_
  refine n_icmp_lt d_Pr_checkIndex_6 (by omega) (by omega) (fun _ => ?_) (fun h9 => by omega)
  refine r_iload_n d_Pr_checkIndex_16 rfl ?_
  exact g_reti d_Pr_checkIndex_17 rfl ⟨rfl, rfl⟩
theorem c_Sg_checkIndex {a N : Nat} (hO : OS o) (ha : a < N) (hN : N < 100) : CV o l m_Sg_checkIndex n [.int (nI a), .int (nI N)] M (fun M' => M = M') := by
  refine cl_ofF rfl rfl rfl (Nat.le_of_ble_eq_true rfl) (fun e => by cases e) ?_
  refine r_iload_n d_Sg_checkIndex_0 rfl ?_
  refine r_iload_n d_Sg_checkIndex_1 rfl ?_
  refine r_sioo hO rfl d_Sg_checkIndex_2 (fun v hv => ?_)
  refine g_Si (av := [.int (nI a), .int (nI N), v]) d_Sg_checkIndex_5 k_Sg_1059 ws_Pr_checkIndex (by decide) rfl rfl (Nat.le_of_ble_eq_true rfl) (c_Pr_checkIndex hv ha hN) ?_
  rintro _ _ ⟨rfl, rfl⟩
  refine r_pop d_Sg_checkIndex_8 rfl ?_
  exact g_retv d_Sg_checkIndex_9 rfl rfl
/-- a letter of a word -/
def sCh (i j : Nat) : Nat := ([[115, 105, 122, 101], [115, 101, 114, 105, 101, 115], [111, 118, 101, 114], [116, 97, 98, 108, 101]].getD i []).getD j 0
theorem sCh_ok : ∀ i, i < 4 → ∀ j, j < sLn.getD i 0 → (((sBy.getD i []).getD j 0 &&& nI 255).toUInt32 % 65536).toInt32 = nI (sCh i j) ∧ narrow .char (.int (nI (sCh i j))) = .int (nI (sCh i j)) ∧ j < 100 := by decide +kernel
theorem c_Sl_charAt {i j : Nat} (hO : OS o) (hi : i < 4) (hj : j < sLn.getD i 0) : CI o l m_Sl_charAt n [.retAddr (i + 5), .int (nI j)] M (fun r M' => r = nI (sCh i j) ∧ M = M') := by
  obtain ⟨e1, e2, e3⟩ := sCh_ok i hi j hj
  have e4 : sLn.getD i 0 < 100 := by rcases (show i = 0 ∨ i = 1 ∨ i = 2 ∨ i = 3 by omega) with rfl | rfl | rfl | rfl <;> decide
  refine ci_ofF rfl rfl rfl (Nat.le_of_ble_eq_true rfl) ?_
  refine r_iload_n d_Sl_charAt_0 rfl ?_
  refine r_bload_n (x := i + 5) d_Sl_charAt_1 rfl ?_
  refine r_slen hO hi d_Sl_charAt_2 ?_
  refine g_Sv (av := [.int (nI j), .int (nI (sLn.getD i 0))]) d_Sl_charAt_3 k_Sl_9 ws_Sg_checkIndex (by decide) rfl rfl (Nat.le_of_ble_eq_true rfl) (c_Sg_checkIndex hO hj e4) ?_
  rintro _ rfl
  refine r_bload_n (x := i + 5) d_Sl_charAt_6 rfl ?_
  refine r_iload_n d_Sl_charAt_7 rfl ?_
  refine r_sbyt hO hi hj e3 d_Sl_charAt_8 ?_
  refine r_sipush (v := nI 255) d_Sl_charAt_9 (by decide) ?_
  refine r_iand d_Sl_charAt_12 ?_
  refine r_i2c d_Sl_charAt_13 ?_
  refine r_top e1 ?_
  exact r_anyreturn d_Sl_charAt_14 rfl e2 ⟨_, M, rfl, rfl, rfl, rfl⟩
theorem c_Sg_charAt {i j : Nat} (hO : OS o) (hi : i < 4) (hj : j < sLn.getD i 0) : CI o l m_Sg_charAt n [.retAddr (i + 1), .int (nI j)] M (fun r M' => r = nI (sCh i j) ∧ M = M') := by
  obtain ⟨e1, e2, e3⟩ := sCh_ok i hi j hj
  refine ci_ofF rfl rfl rfl (Nat.le_of_ble_eq_true rfl) ?_
  refine r_bload_n (x := i + 1) d_Sg_charAt_0 rfl ?_
  refine g_Ki (av := []) hO hi d_Sg_charAt_1 k_Sg_492 iv_Sg_isLatin1 (by decide) rfl rfl (Nat.le_of_ble_eq_true rfl) (c_Sg_isLatin1 hO hi) ?_
  rintro _ _ ⟨rfl, rfl⟩
  refine n_if_eq d_Sg_charAt_4 (by omega) (fun h9 => absurd h9 (by decide)) (fun _ => ?_)
  refine r_bload_n (x := i + 1) d_Sg_charAt_7 rfl ?_
  refine r_sval hO hi rfl d_Sg_charAt_8 ?_
  refine r_iload_n d_Sg_charAt_11 rfl ?_
  refine g_Si (av := [.retAddr (i + 5), .int (nI j)]) d_Sg_charAt_12 k_Sg_495 ws_Sl_charAt (by decide) rfl rfl (Nat.le_of_ble_eq_true rfl) (c_Sl_charAt hO hi hj) ?_
  rintro _ _ ⟨rfl, rfl⟩
  exact r_anyreturn d_Sg_charAt_15 rfl e2 ⟨_, M, rfl, rfl, rfl, rfl⟩
end RST
