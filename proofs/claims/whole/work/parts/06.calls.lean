section RF
variable {o : OM} {l : Launch} {m : MD} {bg : Nat × Nat} {pc pc' tgt : Nat} {L L' : List (Option Value)} {st : List Value} {h : AH} {Q : Option Value → AH → Prop}
theorem Rp.obj {H : Heap} {a ci : Nat} (h3 : Rp o h H) (ha : (hT h a).1 = 10 + ci) : t_OB (ob0 o + a) (odC o ci) (nfl ci) (odI o ci) H (cv o (10 + ci) (hR h a) (hI h a)) := (okc_obj ha).mp (h3.2.2 a (by omega)).2.2
theorem r_geti {a idx ci k : Nat} (hd : dd m pc (.getfield idx) 3 pc') (hf : FLk (mcls m) idx ci k) (hr : isR (10 + ci) k = false) (ha : (hT h a).1 = 10 + ci) (kk : Rn o l m bg pc' L (.int (hI h a k) :: st) h Q) : Rn o l m bg pc L (.ref a :: st) h Q := by
  obtain ⟨hd, rfl⟩ := hd
  obtain ⟨f1, f2, f3⟩ := hf
  intro p e R s mm args below meth c H locs cells slots Z ls hC h1 h2 h3 h4 h5 h6
  obtain ⟨cell, q1, q2, q3, q4⟩ := h3.obj ha
  have hts := hC.2.2.2.2.2.1
  obtain ⟨hS, hfc, kC, hkC, hkind⟩ := hC.2.2.2.2.2.2.1.1.1 ci _ (fc_at ci f1)
  obtain ⟨cf, kf, fi, f, hi, hsl⟩ := hS k f2
  refine W.getf hC.1 hC.2.1 hC.2.2.2.2.1 (hts _ f3) hi (u_facts hfc hkC (u_lays hts (fc_ws ci f1) f2) hi).1 q1 (by rw [q3]; exact fun h => by cases h) (v := .int (hI h a k)) ?_ rfl rfl hd (kk p e R s mm args below meth c H locs cells slots Z ls hC h1 h2 h3 h4 h5 h6)
  rw [hsl]
  refine (q4 k f2).trans ?_
  rw [cv, if_neg (by rw [hr]; decide), if_neg (by omega)]
theorem r_getr {a idx ci k b : Nat} (hd : dd m pc (.getfield idx) 3 pc') (hf : FLk (mcls m) idx ci k) (hr : isR (10 + ci) k = true) (ha : (hT h a).1 = 10 + ci) (hb : hR h a k = some b) (kk : Rn o l m bg pc' L (.ref b :: st) h Q) : Rn o l m bg pc L (.ref a :: st) h Q := by
  obtain ⟨hd, rfl⟩ := hd
  obtain ⟨f1, f2, f3⟩ := hf
  intro p e R s mm args below meth c H locs cells slots Z ls hC h1 h2 h3 h4 h5 h6
  obtain ⟨cell, q1, q2, q3, q4⟩ := h3.obj ha
  have hts := hC.2.2.2.2.2.1
  obtain ⟨hS, hfc, kC, hkC, hkind⟩ := hC.2.2.2.2.2.2.1.1.1 ci _ (fc_at ci f1)
  obtain ⟨cf, kf, fi, f, hi, hsl⟩ := hS k f2
  refine W.getf hC.1 hC.2.1 hC.2.2.2.2.1 (hts _ f3) hi (u_facts hfc hkC (u_lays hts (fc_ws ci f1) f2) hi).1 q1 (by rw [q3]; exact fun h => by cases h) (v := .ref (ob0 o + b)) ?_ rfl rfl hd (kk p e R s mm args below meth c H locs cells slots Z ls hC h1 h2 h3 h4 h5 h6)
  rw [hsl]
  refine (q4 k f2).trans ?_
  rw [cv, if_pos hr, fr, hb]
  rfl
theorem r_puti {a idx ci k : Nat} {x : Int32} (hd : dd m pc (.putfield idx) 3 pc') (hf : FLk (mcls m) idx ci k) (hr : isR (10 + ci) k = false) (hy : fY ci k = .int) (hfin : (fT ci k).2.2.2 = false) (ha : (hT h a).1 = 10 + ci) (kk : Rn o l m bg pc' L st (sI h a k x) Q) : Rn o l m bg pc L (.int x :: .ref a :: st) h Q := by
  obtain ⟨hd, rfl⟩ := hd
  obtain ⟨f1, f2, f3⟩ := hf
  intro p e R s mm args below meth c H locs cells slots Z ls hC h1 h2 h3 h4 h5 h6
  obtain ⟨cell, q1, q2, q3, q4⟩ := h3.obj ha
  have hts := hC.2.2.2.2.2.1
  have hK := hC.2.2.2.2.2.2.1.1
  have hap := va_apart (own := mcls m) hts (fc_ws ci f1) (fY ci) (fc_ty ci f1) (fc_nm ci f1) hK (fc_at ci f1)
  obtain ⟨hS, hfc, kC, hkC, hkind⟩ := hK.1 ci _ (fc_at ci f1)
  obtain ⟨cf, kf, fi, f, hi, hsl⟩ := hS k f2
  have hlay := hts _ (fc_ws ci f1 _ (u_in_lay f2))
  unfold u_lay at hlay
  rw [if_neg (by rw [hfin]; decide)] at hlay
  have hst := (u_facts hfc hkC (u_lays hts (fc_ws ci f1) f2) hi).1
  have h7 := u_store (ty := .int) (v := .int x) hfc hkC hkind hlay hi ((fc_ty ci f1 k f2).trans (by rw [hy])) rfl rfl
  refine W.putK hC.1 hC.2.1 (f := f) ⟨hC.2.2.2.2.1, hts _ f3, ⟨_, _, _, hi⟩, hst⟩ (by rw [q2]; exact h7) q1 q3 (by rw [hsl]; exact k2_hasslot (q4 k f2)) rfl rfl hd fun H1 e1 e2 e3 => ?_
  rw [hsl] at e1 ⊢
  have h0 : (hT h a).1 ≠ 0 := by omega
  refine kk p e R s mm args below meth c H1 _ cells slots Z ls hC h1 h2 (h3.setI h0 ?_ e2 e3) (lo_put h4) h5 h6
  rw [okc_obj ha, ← cv_upI x hr (by omega)]
  exact ⟨_, e1, q2, q3, t_set q4 hap f2 _⟩
theorem r_putr {a idx ci k b : Nat} (hd : dd m pc (.putfield idx) 3 pc') (hf : FLk (mcls m) idx ci k) (hr : isR (10 + ci) k = true) (hy : ∀ x : Nat, narrow (fY ci k) (.ref x) = .ref x ∧ fits (fY ci k) (.ref x) = true) (hfin : (fT ci k).2.2.2 = true) (hdecl : (fT ci k).1 = mcls m) (hini : (mnam m).name = "<init>") (ha : (hT h a).1 = 10 + ci) (kk : Rn o l m bg pc' L st (sR h a k (some b)) Q) : Rn o l m bg pc L (.ref b :: .ref a :: st) h Q := by
  obtain ⟨hd, rfl⟩ := hd
  obtain ⟨f1, f2, f3⟩ := hf
  intro p e R s mm args below meth c H locs cells slots Z ls hC h1 h2 h3 h4 h5 h6
  obtain ⟨cell, q1, q2, q3, q4⟩ := h3.obj ha
  have hts := hC.2.2.2.2.2.1
  have hown := hC.2.2.2.2.1
  have hnm : meth.name = "<init>" := hC.2.2.2.2.2.2.2.2.1.trans hini
  have hK := hC.2.2.2.2.2.2.1.1
  have hap := va_apart (own := mcls m) hts (fc_ws ci f1) (fY ci) (fc_ty ci f1) (fc_nm ci f1) hK (fc_at ci f1)
  obtain ⟨hS, hfc, kC, hkC, hkind⟩ := hK.1 ci _ (fc_at ci f1)
  obtain ⟨cf, kf, fi, f, hi, hsl⟩ := hS k f2
  have hlay := hts _ (fc_ws ci f1 _ (u_in_lay f2))
  unfold u_lay at hlay
  rw [if_pos hfin] at hlay
  have hst := (u_facts hfc hkC (u_lays hts (fc_ws ci f1) f2) hi).1
  have hcf : mm.cls = cf := by
    obtain ⟨_, _, c', _, _, _, -, -, hf', -, -, -, hown2, -⟩ := Cond.laysFinal_spec hlay
    have e1 : c' = cf := by have := hi.symm.trans hf'; simp at this; exact this.1.symm
    rw [hdecl] at hown2
    rw [← e1]; exact Option.some.inj (hown.symm.trans hown2)
  have h7 := u_fits (v := .ref (ob0 o + b)) hfc hkC hkind (Or.inr hlay) hi (fc_ty ci f1 k f2) (hy _).1 (hy _).2
  refine W.putFinK hC.1 hC.2.1 hown (hts _ f3) hi hst hcf hnm (by rw [q2]; exact h7) q1 q3 (by rw [hsl]; exact k2_hasslot (q4 k f2)) rfl rfl hd fun H1 e1 e2 e3 => ?_
  rw [hsl] at e1 ⊢
  have h0 : (hT h a).1 ≠ 0 := by omega
  refine kk p e R s mm args below meth c H1 _ cells slots Z ls hC h1 h2 (h3.setR h0 ?_ e2 e3) (lo_put h4) h5 h6
  rw [okc_obj ha, ← cv_upR (some b) hr]
  exact ⟨_, e1, q2, q3, t_set q4 hap f2 _⟩
theorem fc_def : ∀ ci, ci < 9 → ∀ k, k < nfl ci → defaultValue (fY ci k) = if isR (10 + ci) k = true then .null else .int 0 := by decide +kernel
def NWk (own : String) (idx ci : Nat) : Prop := ci < 9 ∧ Cond.classLink own idx (fC ci) ∈ gt_ws ∧ Cond.instantiable (fC ci) (nfl ci) ∈ gt_ws ∧ Cond.initialized (fC ci) ∈ gt_ws
theorem r_new {idx ci : Nat} {bg' : Nat × Nat} (hd : dd m pc (.new idx) 3 pc') (hf : NWk (mcls m) idx ci) (hb1 : bg'.1 + 1 = bg.1) (hb2 : bg'.2 + nfl ci = bg.2) (kk : Rn o l m bg' pc' L (.ref (hN h) :: st) (hnew h (10 + ci, 0)) Q) : Rn o l m bg pc L st h Q := by
  obtain ⟨hd, rfl⟩ := hd
  obtain ⟨f1, f2, f3, f4⟩ := hf
  intro p e R s mm args below meth c H locs cells slots Z ls hC h1 h2 h3 h4 h5 h6
  have hts := hC.2.2.2.2.2.1
  have hKn := hC.2.2.2.2.2.2.1.1.1 ci _ (fc_at ci f1)
  refine W.newcK hC.1 hC.2.1 hC.2.2.2.2.1 (hts _ f2) (hts _ f3) (hts _ f4) rfl hd (by omega) (by omega) hKn.2.1 (h := ob0 o + hN h) h3.1 fun H1 kC hkC e1 z1 o1 => ?_
  refine kk p e R s mm args below meth c H1 locs (cells + 1) (slots + nfl ci) Z ls hC (by omega) (by omega) (h3.new (by show 10 + ci < 19; omega) ?_ (by rw [z1, h3.1]) (fun q hq => o1 q (by rw [← h3.1]; exact hq))) h4 h5 h6
  rw [okc_obj rfl]
  refine (u_born (fY ci) hts (fc_ws ci f1) hKn hkC e1 (fc_ty ci f1)).to (fun k hk => ?_)
  rw [fc_def ci f1 k hk, cv]
  split
  · rfl
  · rw [if_neg (by omega)]
theorem cv_def {t k : Nat} (h1 : 1 ≤ t) (h2 : t ≤ 7) : cv o t (fun _ => none) (fun _ => 0) k = defaultValue (aty t) := by
  rcases (show t = 1 ∨ t = 2 ∨ t = 3 ∨ t = 4 ∨ t = 5 ∨ t = 6 ∨ t = 7 by omega) with rfl | rfl | rfl | rfl | rfl | rfl | rfl <;> rfl
theorem r_newa {at9 : ArrayType} {t N : Nat} {n : Int32} {bg' : Nat × Nat} (hd : dd m pc (.newarray at9) 2 pc') (ht : aty t = newarray.typeOf at9) (ht1 : 1 ≤ t) (ht2 : t ≤ 4) (hw : Cond.arrayClass (newarray.typeOf at9) ∈ gt_ws) (hn : n = nI N) (hN0 : N ≤ 65536) (hb1 : bg'.1 + 1 = bg.1) (hb2 : bg'.2 + N = bg.2) (kk : Rn o l m bg' pc' L (.ref (hN h) :: st) (hnew h (t, N)) Q) : Rn o l m bg pc L (.int n :: st) h Q := by
  obtain ⟨hd, rfl⟩ := hd
  subst hn
  intro p e R s mm args below meth c H locs cells slots Z ls hC h1 h2 h3 h4 h5 h6
  have hts := hC.2.2.2.2.2.1
  have hcl : (nI N).toNatClampNeg = N := nI_clamp (by omega)
  refine va_newaK hC.1 hC.2.1 (hts _ hw) rfl hd rfl (nI_pos (by omega)) hcl (by
      have : componentBytes (newarray.typeOf at9) ≤ 8 := by cases at9 <;> decide
      have := Nat.mul_le_mul hN0 this
      omega) (by omega) (by omega) (h := ob0 o + hN h) h3.1 fun H1 cA e1 z1 o1 hA hf => ?_
  refine kk p e R s mm args below meth c H1 locs (cells + 1) (slots + N) Z ls hC (by omega) (by omega) (h3.new (by show t < 19; omega) ?_ (by rw [z1, h3.1]) (fun q hq => o1 q (by rw [← h3.1]; exact hq))) h4 h5 h6
  rw [okc_arr (by show t < 10; omega)]
  have hRA := (arr_of hC.2.2.2.2.2.2.1 ht1 (by omega)).2
  rw [ht] at hRA
  have hcA : odA o t = cA := by
    have h8 : s.vm.findClass ("[" ++ (newarray.typeOf at9).toString) = some (odA o t) := by cases at9 <;> exact hRA
    exact Option.some.inj (h8.symm.trans hf)
  show H1[ob0 o + hN h]? = some (arrV (odA o t) N _)
  rw [hcA, e1]
  congr 1
  congr 1
  funext k
  rw [cv_def ht1 (by omega), ht]
def ANk (own : String) (idx t : Nat) : Prop := ∃ C : String, aty t = .object C ∧ Cond.classLink own idx C ∈ gt_ws ∧ Cond.arrayOver (.object C) ∈ gt_ws
theorem r_anew {idx t N : Nat} {n : Int32} {bg' : Nat × Nat} (hd : dd m pc (.anewarray idx) 3 pc') (hf : ANk (mcls m) idx t) (ht1 : 6 ≤ t) (ht2 : t ≤ 7) (hn : n = nI N) (hN0 : N ≤ 65536) (hb1 : bg'.1 + 1 = bg.1) (hb2 : bg'.2 + N = bg.2) (kk : Rn o l m bg' pc' L (.ref (hN h) :: st) (hnew h (t, N)) Q) : Rn o l m bg pc L (.int n :: st) h Q := by
  obtain ⟨hd, rfl⟩ := hd
  obtain ⟨C, f1, f2, f3⟩ := hf
  subst hn
  intro p e R s mm args below meth c H locs cells slots Z ls hC h1 h2 h3 h4 h5 h6
  have hts := hC.2.2.2.2.2.1
  have hcl : (nI N).toNatClampNeg = N := nI_clamp (by omega)
  refine W.anew hC.1 hC.2.1 hC.2.2.2.2.1 (hts _ f2) (hts _ f3) rfl hd rfl (nI_pos (by omega)) (by rw [hcl]; omega) (by omega) (by rw [hcl]; omega) fun cA kA comp g1 g2 g3 g4 => ?_
  rw [hcl, h3.1]
  refine kk p e R s mm args below meth c _ locs (cells + 1) (slots + N) Z ls hC (by omega) (by omega) (h3.new (by show t < 19; omega) ?_ (by simp) (fun q hq => by rw [Array.getElem?_push, if_neg (Nat.ne_of_lt hq)])) h4 h5 h6
  rw [okc_arr (by show t < 10; omega)]
  obtain ⟨-, _, _, _, _, hRA⟩ := f1 ▸ (arr_of hC.2.2.2.2.2.2.1 (t := t) (by omega) (by omega)).2
  have hcA : odA o t = cA := Option.some.inj (hRA.symm.trans g1)
  show _ = some (arrV (odA o t) N _)
  rw [hcA, ← h3.1, Array.getElem?_push, if_pos rfl, arrV_new]
  congr 1
  congr 1
  funext k
  rw [cv_def (by omega) ht2, f1]
  rfl
end RF
