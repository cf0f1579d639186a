def LKd (own : String) (idx n : Nat) (k : MD) : Prop := Cond.code (mnam k) (mbt k) (mml k) (mrt k) ∈ gt_ws ∧ Cond.initialized (mnam k).cls ∈ gt_ws ∧ Cond.methodLink own idx (mnam k) ∈ gt_ws ∧ ((mnam k).cls ≠ "java/lang/invoke/MethodHandle" ∧ (mnam k).cls ≠ "java/lang/invoke/VarHandle" ∧ (parseMethodDescriptor (mnam k).desc).map (fun d => d.parameters.length) = some n) ∧ mml k ≤ 17
theorem gt_mws {k : MD} (h : Cond.code (mnam k) (mbt k) (mml k) (mrt k) ∈ gt_ws) : GoodIn gt_ws (mws k) := by
  intro w hw
  rcases List.mem_cons.mp hw with rfl | hw
  · exact ⟨h, gt_good h⟩
  · exact ⟨hw, gt_good hw⟩
theorem cb_of {R : Room} {s : State} {args : Array Value} {own : String} {idx n : Nat} {k : MD} {bg : Nat × Nat} (hts : ∀ w ∈ gt_ws, w.before args s = true) (hk : LKd own idx n k) (hf : mdp k + 1 ≤ R.frames) (hl : 36 * (mdp k + 1) ≤ R.locals) : CallB R s args own idx (mnam k) (mbt k) (mml k) (mrt k) (mws k) (rmo k bg) bg.1 bg.2 n := by
  obtain ⟨g1, g2, g3, g4, g5⟩ := hk
  exact callB_of n hts (gt_mws g1) rfl rfl rfl (hts _ g2) (hts _ g3) g4 ⟨hf, by show 8 + (mml k + 11) + 36 * mdp k ≤ R.locals; omega⟩
theorem pc_blind (o : OM) (av : List Value) (h : AH) : FrameBlind (Pco o av h) := by
  intro a U g mk q
  exact ⟨q.1, q.2.1, Kx.moved (s := U) (U := U.calling g mk a) (State.WarmedH.refl U) q.2.2⟩
theorem pc_pre {o : OM} {s : State} {H : Heap} {h : AH} (av : List Value) (h3 : Rp o h H) (hK : Kx o s) : PreS s H (Pco o av h) (av.map (fv o)) := ⟨pc_blind o av h, fun U hU hW => ⟨rfl, by rw [hU]; exact h3, hK.moved hW⟩⟩
theorem tl_map (o : OM) (v : Option Value) (st : List Value) : (v.toList ++ st).map (fv o) = (v.map (fv o)).toList ++ st.map (fv o) := by cases v <;> rfl
theorem cat_map (o : OM) (st : List Value) : ((st.map (fv o)).map fun v => v.category).sum = (st.map fun v => v.category).sum := by
  rw [List.map_map]
  congr 1
  apply List.map_congr_left
  intro v _
  exact fv_cat o v
section RC
variable {o : OM} {l : Launch} {m k : MD} {bg : Nat × Nat} {pc pc' tgt : Nat} {L L' : List (Option Value)} {st : List Value} {h : AH} {Q Q1 : Option Value → AH → Prop}
theorem r_goes {bg' bg2 : Nat × Nat} {st0 : List Value} (hb1 : bg'.1 + bg2.1 ≤ bg.1) (hb2 : bg'.2 + bg2.2 ≤ bg.2) (kk : ∀ v h', Q1 v h' → Rn o l m bg2 (pc + 3) L (v.toList ++ st) h' Q)
    {p : Program} {e : Env} {R : Room} {s : State} {mm : MethodId} {args a9 : Array Value} {below : List Frame} {meth : Method} {c : Code} {H : Heap} {locs : List Loc} {cells slots : Nat} {Z : State → Prop} {ls : Array Slot}
    (hC : Cx o m R p s mm args meth c) (h1 : cells + bg.1 ≤ R.cells) (h2 : slots + bg.2 ≤ R.slots) (h4 : ∀ q ∈ locs, ob0 o ≤ q.base) (h5 : Lc o m L ls)
    (h6 : ∀ (v : Option Value) (h' : AH) (H' : Heap) (locs' : List Loc) (cells' slots' pc' : Nat) (ls' : Array Slot) (bg' : Nat × Nat), Q v h' → Rp o h' H' → (∀ q ∈ locs', ob0 o ≤ q.base) → cells' + bg'.1 ≤ R.cells → slots' + bg'.2 ≤ R.slots → RetAt m pc' v bg' → ls'.size = mml m →
      W p l e R s mm args below meth c H' locs' cells' slots' Z (F0 mm pc' ls' (v.toList.map (fv o))))
    (run : va_Run p l e R s mm args below meth c H locs cells slots bg'.1 bg'.2 (F0 mm pc ls st0) (st.map (fv o)) (Qco o Q1 a9) (fun q => ob0 o ≤ q)) : W p l e R s mm args below meth c H locs cells slots Z (F0 mm pc ls st0) := by
  intro T hT X
  obtain ⟨v, st₀, t, T', L2, h0, X', hL2, e1, e2, ⟨v', h', hv, hQ, hRp⟩, go⟩ := run T hT X
  cases hv
  rw [← e1] at hRp
  obtain ⟨t2, a1, b1⟩ := kk v' h' hQ p e R s mm args below meth c T'.heap (locs ++ L2) (cells + bg'.1) (slots + bg'.2) Z ls hC (by omega) (by omega) hRp (fun q hq => by
    rcases List.mem_append.mp hq with h8 | h8
    · exact h4 q h8
    · exact hL2 q h8) h5 h6 T' rfl X'
  rw [tl_map] at a1
  exact ⟨t2, go t2 a1, b1⟩
theorem r_callS {idx n : Nat} {av : List Value} {st0 : List Value} (hd : dd m pc (.invokestatic idx) 3 pc') (hk : LKd (mcls m) idx n k) (hs : Cond.static (mnam k) ∈ gt_ws) (hdp : mdp k + 1 ≤ mdp m) (hn : av.length = n) (hst : st0 = av.reverse ++ st) (hw : (st.map fun v => v.category).sum ≤ 8)
    (hc : Cl o l k (0, 0) av h Q1) (kk : ∀ v h', Q1 v h' → Rn o l m bg pc' L (v.toList ++ st) h' Q) : Rn o l m bg pc L st0 h Q := by
  obtain ⟨hd, rfl⟩ := hd
  subst hst
  intro p e R s mm args below meth c H locs cells slots Z ls hC h1 h2 h3 h4 h5 h6
  have hts := hC.2.2.2.2.2.1
  have hf := hC.2.2.2.2.2.2.2.2.2.1
  have hl := hC.2.2.2.2.2.2.2.2.2.2
  refine r_goes (bg := bg) (bg' := (0, 0)) (bg2 := bg) (by simp) (by simp) kk hC h1 h2 h4 h5 h6 (va_runS (As := av.map (fv o)) (nL := mml m) (Ts := gt_ws) (own := mcls m) (n := n) ⟨hC.1, hC.2.1, hC.2.2.2.1, hC.2.2.2.2.1, hts⟩ hc ⟨cb_of (bg := (0, 0)) hts hk (by omega) (by omega), hts _ hs⟩ (pc_pre av h3 hC.2.2.2.2.2.2.1) rfl (by rw [List.length_map]; exact hn) h5.1 ?_ ?_ hd ⟨by show cells + 0 ≤ _; omega, by show slots + 0 ≤ _; omega⟩)
  · show (av.reverse ++ st).map (fv o) = _
    rw [List.map_append, List.map_reverse]
  · exact lv_room (by rw [cat_map]; exact hw)
theorem r_callV {idx n a ci : Nat} {av : List Value} {st0 : List Value} (hd : dd m pc (.invokevirtual idx) 3 pc') (hk : LKd (mcls m) idx n k) (hs : Cond.instanceMethod (mnam k) ∈ gt_ws ∧ Cond.selects (fC ci) (mnam k) (mnam k) ∈ gt_ws ∧ ci < 9) (hdp : mdp k + 1 ≤ mdp m) (hn : av.length = n) (hst : st0 = av.reverse ++ .ref a :: st) (hw : (st.map fun v => v.category).sum ≤ 8) (ha : (hT h a).1 = 10 + ci)
    (hc : Cl o l k (0, 0) (.ref a :: av) h Q1) (kk : ∀ v h', Q1 v h' → Rn o l m bg pc' L (v.toList ++ st) h' Q) : Rn o l m bg pc L st0 h Q := by
  obtain ⟨hd, rfl⟩ := hd
  subst hst
  intro p e R s mm args below meth c H locs cells slots Z ls hC h1 h2 h3 h4 h5 h6
  have hts := hC.2.2.2.2.2.1
  have hf := hC.2.2.2.2.2.2.2.2.2.1
  have hl := hC.2.2.2.2.2.2.2.2.2.2
  obtain ⟨cell, q1, q2, q3, q4⟩ := h3.obj ha
  have hfc := (hC.2.2.2.2.2.2.1.1.1 ci _ (fc_at ci hs.2.2)).2.1
  refine r_goes (bg := bg) (bg' := (0, 0)) (bg2 := bg) (by simp) (by simp) kk hC h1 h2 h4 h5 h6 (va_runV (As := av.map (fv o)) (b := ob0 o + a) (C := fC ci) (nL := mml m) (Ts := gt_ws) (own := mcls m) (n := n) ⟨hC.1, hC.2.1, hC.2.2.2.1, hC.2.2.2.2.1, hts⟩ hc ⟨cb_of (bg := (0, 0)) hts hk (by omega) (by omega), hts _ hs.1, hts _ hs.2.1⟩ ⟨pc_blind o _ h, ⟨cell, q1, by rw [q3]; rfl, by rw [q2]; exact hfc⟩, (pc_pre (.ref a :: av) h3 hC.2.2.2.2.2.2.1).2⟩ rfl (by rw [List.length_map]; exact hn) h5.1 ?_ ?_ hd ⟨by show cells + 0 ≤ _; omega, by show slots + 0 ≤ _; omega⟩)
  · show (av.reverse ++ .ref a :: st).map (fv o) = _
    rw [List.map_append, List.map_reverse]
    rfl
  · exact lv_room (by rw [cat_map]; exact hw)
theorem r_callI {idx n a : Nat} {av : List Value} {st0 : List Value} {bg' bg2 : Nat × Nat} (hd : dd m pc (.invokespecial idx) 3 pc') (hk : LKd (mcls m) idx n k) (hs : Cond.instanceMethod (mnam k) ∈ gt_ws ∧ (mnam k).name = "<init>" ∧ mrt k = none) (hdp : mdp k + 1 ≤ mdp m) (hn : av.length = n) (hst : st0 = av.reverse ++ .ref a :: st) (hw : (st.map fun v => v.category).sum ≤ 8)
    (hb1 : bg'.1 + bg2.1 = bg.1) (hb2 : bg'.2 + bg2.2 = bg.2) (hc : Cl o l k bg' (.ref a :: av) h Q1) (kk : ∀ v h', Q1 v h' → Rn o l m bg2 pc' L (v.toList ++ st) h' Q) : Rn o l m bg pc L st0 h Q := by
  obtain ⟨hd, rfl⟩ := hd
  subst hst
  intro p e R s mm args below meth c H locs cells slots Z ls hC h1 h2 h3 h4 h5 h6
  have hts := hC.2.2.2.2.2.1
  have hf := hC.2.2.2.2.2.2.2.2.2.1
  have hl := hC.2.2.2.2.2.2.2.2.2.2
  have hcb := cb_of (R := R) (s := s) (args := args) (bg := bg') hts hk (by omega) (by omega)
  rw [hs.2.2] at hcb
  refine r_goes (bg := bg) (bg' := bg') (bg2 := bg2) (by omega) (by omega) kk hC h1 h2 h4 h5 h6 (va_runI (As := av.map (fv o)) (b := ob0 o + a) (nL := mml m) (Ts := gt_ws) (own := mcls m) (n := n) ⟨hC.1, hC.2.1, hC.2.2.2.1, hC.2.2.2.2.1, hts⟩ hc ⟨hcb, hs.2.1, hts _ hs.1⟩ (pc_pre (.ref a :: av) h3 hC.2.2.2.2.2.2.1) rfl (by rw [List.length_map]; exact hn) h5.1 ?_ ?_ hd ⟨by omega, by omega⟩)
  · show (av.reverse ++ .ref a :: st).map (fv o) = _
    rw [List.map_append, List.map_reverse]
    rfl
  · exact lv_room (by rw [cat_map]; exact hw)
theorem r_obj {idx a : Nat} (hd : dd m pc (.invokespecial idx) 3 pc') (hk : Cond.methodLink (mcls m) idx objectInit ∈ gt_ws ∧ Cond.instanceMethod objectInit ∈ gt_ws ∧ Cond.code objectInit ⟨#[0xb1]⟩ 1 none ∈ gt_ws) (hdp : 1 ≤ mdp m) (hw : (st.map fun v => v.category).sum ≤ 8) (kk : Rn o l m bg pc' L st h Q) : Rn o l m bg pc L (.ref a :: st) h Q := by
  obtain ⟨hd, rfl⟩ := hd
  intro p e R s mm args below meth c H locs cells slots Z ls hC h1 h2 h3 h4 h5 h6
  have hts := hC.2.2.2.2.2.1
  have hf := hC.2.2.2.2.2.2.2.2.2.1
  have hl := hC.2.2.2.2.2.2.2.2.2.2
  refine W.objInit hC.1 hC.2.1 hC.2.2.2.2.1 (hts _ hk.1) (hts _ hk.2.1) (hts _ hk.2.2) rfl (by rw [hC.2.2.2.1]; exact h5.1) rfl hd (by omega) ?_ (kk p e R s mm args below meth c H locs cells slots Z ls hC h1 h2 h3 h4 h5 h6)
  have h8 : 2 * (F0 mm pc ls ((Value.ref a :: st).map (fv o))).monitorRoom + ((st.map (fv o)).map fun v => v.category).sum ≤ 8 := lv_room (by rw [cat_map]; exact hw)
  omega
theorem r_aast {a b n j t ci : Nat} {i : Int32} (hd : dd m pc .aastore 1 pc') (ha : hT h a = (t, n)) (ht : t = 6 ∨ t = 7) (hci : ci < 9) (hty : aty t = .object (fC ci)) (hbt : (hT h b).1 = 10 + ci) (hi : i = nI j) (hj : j < n) (hn : n < 2 ^ 31) (kk : Rn o l m bg pc' L st (sR h a j (some b)) Q) : Rn o l m bg pc L (.ref b :: .int i :: .ref a :: st) h Q := by
  obtain ⟨hd, rfl⟩ := hd
  subst hi
  intro p e R s mm args below meth c H locs cells slots Z ls hC h1 h2 h3 h4 h5 h6
  have h0 : (hT h a).1 ≠ 0 := by rw [ha]; show t ≠ 0; omega
  have hc := (h3.2.2 a h0).2.2
  rw [okc_arr (by rw [ha]; show t < 10; omega), ha] at hc
  have hcl : (nI j).toNatClampNeg = j := nI_clamp (by omega)
  obtain ⟨cell, g1, g2, g3, -⟩ := h3.obj hbt
  have hcls := (hC.2.2.2.2.2.2.1.1.1 ci _ (fc_at ci hci)).2
  have hA := (arr_of hC.2.2.2.2.2.2.1 (t := t) (by omega) (by omega)).2
  rw [hty] at hA
  obtain ⟨kA, comp, k1, k2, k3, -⟩ := hA
  have hcomp : comp = odC o ci := Option.some.inj (k3.symm.trans hcls.1)
  subst hcomp
  obtain ⟨kC, hkC, -⟩ := id hcls.2
  refine W.aast hC.1 hC.2.1 hc (fun q h => by cases h) (fun h => by cases h) k1 k2 rfl hkC ⟨nI_pos (by omega), by rw [arrV_size, hcl]; exact hj⟩ g1 (fun q h => by rw [g3] at h; cases h) (by rw [g2]; exact hkC) (by rw [g2]; exact va_assign hcls) rfl rfl hd fun H1 e1 e2 e3 => ?_
  have hr : isR t j = true := by rcases ht with rfl | rfl <;> rfl
  rw [hcl, arrV_store, show (Value.ref (ob0 o + b)) = fr o (some b) from rfl, cv_upR (some b) hr] at e1
  refine kk p e R s mm args below meth c H1 _ cells slots Z ls hC h1 h2 (h3.setR h0 ?_ e2 e3) (lo_put h4) h5 h6
  rw [okc_arr (by rw [ha]; show t < 10; omega), ha]
  exact e1
theorem r_copy {idx a b n0 n1 sp dp n : Nat} {s9 d9 c9 : Int32} (hd : dd m pc (.invokestatic idx) 3 pc') (hk : Cond.methodLink (mcls m) idx arraycopyName ∈ gt_ws ∧ Cond.native arraycopyName ∈ gt_ws ∧ Cond.static arraycopyName ∈ gt_ws ∧ Cond.initialized "java/lang/System" ∈ gt_ws) (hdp : 1 ≤ mdp m) (ha : hT h a = (1, n0)) (hb : hT h b = (1, n1)) (hsp : s9 = nI sp) (hdp9 : d9 = nI dp) (hc9 : c9 = nI n) (hs1 : sp + n ≤ n0) (hs2 : dp + n ≤ n1) (hz : n0 < 2 ^ 31 ∧ n1 < 2 ^ 31) (hw : (st.map fun v => v.category).sum ≤ 8)
    (kk : Rn o l m bg pc' L st (sW h b (va_cpy (hI h a) (hI h b) sp dp n)) Q) : Rn o l m bg pc L (.int c9 :: .int d9 :: .ref b :: .int s9 :: .ref a :: st) h Q := by
  obtain ⟨hd, rfl⟩ := hd
  subst hsp; subst hdp9; subst hc9
  intro p e R s mm args below meth c H locs cells slots Z ls hC h1 h2 h3 h4 h5 h6
  have hts := hC.2.2.2.2.2.1
  have hf := hC.2.2.2.2.2.2.2.2.2.1
  have hl := hC.2.2.2.2.2.2.2.2.2.2
  have hK := hC.2.2.2.2.2.2.1.1
  have hcv : ∀ q : Nat, cv o 1 (hR h q) (hI h q) = fun j => .int (hI h q j) := fun q => by funext j; simp [cv, isR]
  have hca := (h3.2.2 a (by rw [ha]; simp)).2.2
  rw [okc_arr (by rw [ha]; simp), ha, hcv] at hca
  have hcb := (h3.2.2 b (by rw [hb]; simp)).2.2
  rw [okc_arr (by rw [hb]; simp), hb, hcv] at hcb
  have c1 : (nI sp).toNatClampNeg = sp := nI_clamp (by omega)
  have c2 : (nI dp).toNatClampNeg = dp := nI_clamp (by omega)
  have c3 : (nI n).toNatClampNeg = n := nI_clamp (by omega)
  intro T hT9 X
  obtain ⟨-, k0, hk0, cm0, hkk0⟩ := (arr_of hC.2.2.2.2.2.2.1 (t := 1) (by decide) (by decide)).1 n0 (fun j => .int (hI h a j))
  obtain ⟨-, k1, hk1, cm1, hkk1⟩ := (arr_of hC.2.2.2.2.2.2.1 (t := 1) (by decide) (by decide)).1 n1 (fun j => .int (hI h b j))
  obtain ⟨vm', X', step⟩ := X.arraycopy hC.1 hC.2.2.2.2.1 (hts _ hk.1) (hts _ hk.2.1) (hts _ hk.2.2.1) (hts _ hk.2.2.2) (src := ob0 o + a) (dst := ob0 o + b) (cs := arrV (odA o 1) n0 (fun j => .int (hI h a j))) (cd := arrV (odA o 1) n1 (fun j => .int (hI h b j))) (srcPos := nI sp) (destPos := nI dp) (n := nI n) (by rw [hT9]; exact hca) (by rw [hT9]; exact hcb)
    (fun _ h => by cases h) (fun _ h => by cases h) (fun h => by cases h) (fun h => by cases h) hk0 hk1 hkk0 hkk1 (by simp [refKind, aty]) (nI_pos (by omega)) (nI_pos (by omega)) (nI_pos (by omega))
    (by rw [nI_toInt (by omega), nI_toInt (by omega), arrV_size]; omega)
    (by rw [nI_toInt (by omega), nI_toInt (by omega), arrV_size]; omega)
    (fun vm₁ _ i hi => by
      have e9 : (arrV (odA o 1) n0 (fun j => .int (hI h a j))).slots.getD ((nI sp).toNatClampNeg + i) .null = .int (hI h a (sp + i)) := by
        rw [c3] at hi
        rw [c1, Array.getD_eq_getD_getElem?, arrV_read _ _ (by omega)]
        rfl
      refine ⟨?_, ?_⟩
      · rw [e9]; rfl
      · rw [e9]; exact trivial)
    (g := F0 mm pc ls (.int (nI n) :: .int (nI dp) :: .ref (ob0 o + b) :: .int (nI sp) :: .ref (ob0 o + a) :: st.map (fv o))) rfl (by rw [hC.2.2.2.1]; exact h5.1) (rest := st.map (fv o)) rfl (by rw [hC.2.1]; exact hd) (by omega) (by
      show 2 * 0 + _ + (nativeFrameWords "java/lang/System" "arraycopy" 5 + 11) ≤ _
      rw [cat_map, show nativeFrameWords "java/lang/System" "arraycopy" 5 = 7 from by decide +kernel]; omega)
  have e1 : copied (arrV (odA o 1) n0 (fun j => .int (hI h a j))) (arrV (odA o 1) n1 (fun j => .int (hI h b j))) (nI sp) (nI dp) (nI n) = arrV (odA o 1) n1 (fun j => .int (va_cpy (hI h a) (hI h b) (nI sp).toNatClampNeg (nI dp).toNatClampNeg (nI n).toNatClampNeg j)) :=
    va_copied (fun z : Int32 => Value.int z) (odA o 1) (odA o 1) (n0 := n0) (n1 := n1) (sp := (nI sp).toNatClampNeg) (dp := (nI dp).toNatClampNeg) (n := (nI n).toNatClampNeg) (hI h a) (hI h b) (by rw [c1, c3]; exact hs1)
  rw [c1, c2, c3] at e1
  rw [e1] at X' step
  have hlt : ob0 o + b < H.size := (Array.getElem?_eq_some_iff.mp hcb).1
  have hheap : ((T.setVm vm').setCell (ob0 o + b) (arrV (odA o 1) n1 (fun j => .int (va_cpy (hI h a) (hI h b) sp dp n j)))).heap = H.setIfInBounds (ob0 o + b) (arrV (odA o 1) n1 (fun j => .int (va_cpy (hI h a) (hI h b) sp dp n j))) := by rw [← hT9]; rfl
  obtain ⟨t, a1, b1⟩ := kk p e R s mm args below meth c (H.setIfInBounds (ob0 o + b) (arrV (odA o 1) n1 (fun j => .int (va_cpy (hI h a) (hI h b) sp dp n j)))) _ cells slots Z ls hC h1 h2 (h3.setW (by
      rw [okc_arr (by rw [hb]; simp), hb]
      have : cv o (1, n1).1 (hR h b) (va_cpy (hI h a) (hI h b) sp dp n) = fun j => .int (va_cpy (hI h a) (hI h b) sp dp n j) := by funext j; simp [cv, isR]
      rw [this]
      simp [Array.getElem?_setIfInBounds, hlt]) (by simp) (fun q hq => by simp [Array.getElem?_setIfInBounds, Ne.symm hq])) (fun q hq => by
      rcases List.mem_append.mp hq with h8 | h8
      · exact h4 q h8
      · obtain ⟨z, -, hz9⟩ := List.mem_map.mp h8
        rw [← hz9]
        exact Nat.le_add_right _ _) h5 h6 _ hheap X'
  exact ⟨t, step t a1, b1⟩
end RC
