theorem okc_arr {o : OM} {a : Nat} {t : Nat × Nat} {r : Nat → Option Nat} {i : Nat → Int32} {H : Heap} (ht : t.1 < 10) : okc o a t r i H ↔ H[ob0 o + a]? = some (arrV (odA o t.1) t.2 (cv o t.1 r i)) := by
  unfold okc
  rw [if_pos ht]
theorem okc_obj {o : OM} {a ci : Nat} {t : Nat × Nat} {r : Nat → Option Nat} {i : Nat → Int32} {H : Heap} (ht : t.1 = 10 + ci) : okc o a t r i H ↔ t_OB (ob0 o + a) (odC o ci) (nfl ci) (odI o ci) H (cv o (10 + ci) r i) := by
  unfold okc
  rw [if_neg (by omega), ht, Nat.add_sub_cancel_left]
theorem okc.kept {o : OM} {a : Nat} {t : Nat × Nat} {r : Nat → Option Nat} {i : Nat → Int32} {H H1 : Heap} (h : okc o a t r i H) (hq : H1[ob0 o + a]? = H[ob0 o + a]?) : okc o a t r i H1 := by
  unfold okc at h ⊢
  split at h
  next hc => rw [if_pos hc, hq]; exact h
  next hc => rw [if_neg hc]; exact h.kept hq
theorem Rp.setI {o : OM} {h : AH} {H H1 : Heap} {a k : Nat} {v : Int32} (h3 : Rp o h H) (ht : (hT h a).1 ≠ 0) (hn : okc o a (hT h a) (hR h a) (fun j => if j = k then v else hI h a j) H1) (hz : H1.size = H.size) (ho : ∀ q : Nat, q ≠ ob0 o + a → H1[q]? = H[q]?) : Rp o (sI h a k v) H1 := by
  refine ⟨hz.trans h3.1, fun q hq => (ho q (by omega)).trans (h3.2.1 q hq), fun b hb => ?_⟩
  obtain ⟨g1, g2, g3⟩ := h3.2.2 b hb
  refine ⟨g1, g2, ?_⟩
  by_cases e : b = a
  · subst e
    show okc o b (hT h b) (hR h b) (upm (hI h) b k v b) H1
    rw [upm_eq]
    exact hn
  · show okc o b (hT h b) (hR h b) (upm (hI h) a k v b) H1
    rw [upm_ne _ _ _ e]
    exact g3.kept (ho _ (by omega))
theorem Rp.setR {o : OM} {h : AH} {H H1 : Heap} {a k : Nat} {v : Option Nat} (h3 : Rp o h H) (ht : (hT h a).1 ≠ 0) (hn : okc o a (hT h a) (fun j => if j = k then v else hR h a j) (hI h a) H1) (hz : H1.size = H.size) (ho : ∀ q : Nat, q ≠ ob0 o + a → H1[q]? = H[q]?) : Rp o (sR h a k v) H1 := by
  refine ⟨hz.trans h3.1, fun q hq => (ho q (by omega)).trans (h3.2.1 q hq), fun b hb => ?_⟩
  obtain ⟨g1, g2, g3⟩ := h3.2.2 b hb
  refine ⟨g1, g2, ?_⟩
  by_cases e : b = a
  · subst e
    show okc o b (hT h b) (upm (hR h) b k v b) (hI h b) H1
    rw [upm_eq]
    exact hn
  · show okc o b (hT h b) (upm (hR h) a k v b) (hI h b) H1
    rw [upm_ne _ _ _ e]
    exact g3.kept (ho _ (by omega))
/-- a row of ints becomes another one -/
def sW (h : AH) (a : Nat) (f : Nat → Int32) : AH := (h.1, h.2.1, h.2.2.1, fun b => if b = a then f else h.2.2.2 b)
theorem Rp.setW {o : OM} {h : AH} {H H1 : Heap} {a : Nat} {f : Nat → Int32} (h3 : Rp o h H) (hn : okc o a (hT h a) (hR h a) f H1) (hz : H1.size = H.size) (ho : ∀ q : Nat, q ≠ ob0 o + a → H1[q]? = H[q]?) : Rp o (sW h a f) H1 := by
  refine ⟨hz.trans h3.1, fun q hq => (ho q (by omega)).trans (h3.2.1 q hq), fun b hb => ?_⟩
  obtain ⟨g1, g2, g3⟩ := h3.2.2 b hb
  refine ⟨g1, g2, ?_⟩
  by_cases e : b = a
  · subst e
    show okc o b (hT h b) (hR h b) (if b = b then f else hI h b) H1
    rw [if_pos rfl]
    exact hn
  · show okc o b (hT h b) (hR h b) (if b = a then f else hI h b) H1
    rw [if_neg e]
    exact g3.kept (ho _ (by omega))
def hnew (h : AH) (t : Nat × Nat) : AH := (hN h + 1, fun a => if a = hN h then t else hT h a, fun a => if a = hN h then (fun _ => none) else hR h a, fun a => if a = hN h then (fun _ => 0) else hI h a)
theorem Rp.new {o : OM} {h : AH} {H H1 : Heap} {t : Nat × Nat} (h3 : Rp o h H) (ht : t.1 < 19) (hn : okc o (hN h) t (fun _ => none) (fun _ => 0) H1) (hz : H1.size = H.size + 1) (ho : ∀ q : Nat, q < H.size → H1[q]? = H[q]?) : Rp o (hnew h t) H1 := by
  have hs := h3.1
  refine ⟨by rw [hz, hs]; show ob0 o + hN h + 1 = ob0 o + (hN h + 1); omega, fun q hq => (ho q (by omega)).trans (h3.2.1 q hq), fun b hb => ?_⟩
  by_cases e : b = hN h
  · subst e
    refine ⟨?_, Nat.lt_succ_self _, ?_⟩
    · show (if hN h = hN h then t else hT h (hN h)).1 < 19
      rw [if_pos rfl]; exact ht
    · show okc o (hN h) (if hN h = hN h then t else hT h (hN h)) (if hN h = hN h then (fun _ => none) else hR h (hN h)) (if hN h = hN h then (fun _ => 0) else hI h (hN h)) H1
      rw [if_pos rfl, if_pos rfl, if_pos rfl]
      exact hn
  · have hb' : (hT h b).1 ≠ 0 := by
      have : (if b = hN h then t else hT h b).1 ≠ 0 := hb
      rwa [if_neg e] at this
    obtain ⟨g1, g2, g3⟩ := h3.2.2 b hb'
    refine ⟨?_, Nat.lt_succ_of_lt g2, ?_⟩
    · show (if b = hN h then t else hT h b).1 < 19
      rw [if_neg e]; exact g1
    · show okc o b (if b = hN h then t else hT h b) (if b = hN h then (fun _ => none) else hR h b) (if b = hN h then (fun _ => 0) else hI h b) H1
      rw [if_neg e, if_neg e, if_neg e]
      exact g3.kept (ho _ (by omega))
theorem cv_upI {o : OM} {t k : Nat} {r : Nat → Option Nat} {i : Nat → Int32} (x : Int32) (h : isR t k = false) (h4 : t ≠ 4) : updV (cv o t r i) k (.int x) = cv o t r (fun q => if q = k then x else i q) := by
  funext j
  unfold updV cv
  by_cases e : j = k
  · subst e
    simp [h, h4]
  · simp [e]
theorem cv_upL {o : OM} {k : Nat} {r : Nat → Option Nat} {i : Nat → Int32} (x : Int32) : updV (cv o 4 r i) k (.long x.toInt64) = cv o 4 r (fun q => if q = k then x else i q) := by
  funext j
  unfold updV cv
  by_cases e : j = k
  · subst e
    simp [isR]
  · simp [e]
theorem cv_upR {o : OM} {t k : Nat} {r : Nat → Option Nat} {i : Nat → Int32} (v : Option Nat) (h : isR t k = true) : updV (cv o t r i) k (fr o v) = cv o t (fun q => if q = k then v else r q) i := by
  funext j
  unfold updV cv
  by_cases e : j = k
  · subst e
    simp [h]
  · simp [e]
theorem arr_of {o : OM} {s : State} (hK : Kx o s) {t : Nat} (h1 : 1 ≤ t) (h2 : t ≤ 7) : ArrOfT s (odA o t) (aty t) ∧ va_RA s (odA o t) (aty t) := by
  refine hK.1.2 (t - 1) (odA o t, aty t) ?_
  unfold oty
  rw [List.getElem?_map, List.getElem?_range (by omega)]
  simp [show t - 1 + 1 = t by omega]
def FLk (own : String) (idx ci k : Nat) : Prop := ci < 9 ∧ k < nfl ci ∧ Cond.fieldLink own idx (fT ci k).1 (fT ci k).2.1 (fT ci k).2.2.1 ∈ gt_ws
section RH
variable {o : OM} {l : Launch} {m : MD} {bg : Nat × Nat} {pc pc' tgt : Nat} {L L' : List (Option Value)} {st : List Value} {h : AH} {Q : Option Value → AH → Prop}
theorem r_iald {a n j : Nat} {i : Int32} (hd : dd m pc .iaload 1 pc') (ha : hT h a = (1, n)) (hi : i = nI j) (hj : j < n) (hn : n < 2 ^ 31) (k : Rn o l m bg pc' L (.int (hI h a j) :: st) h Q) : Rn o l m bg pc L (.int i :: .ref a :: st) h Q := by
  obtain ⟨hd, rfl⟩ := hd
  subst hi
  intro p e R s mm args below meth c H locs cells slots Z ls hC h1 h2 h3 h4 h5 h6
  have hc := (h3.2.2 a (by rw [ha]; simp)).2.2
  rw [okc_arr (by rw [ha]; simp), ha] at hc
  have hcl : (nI j).toNatClampNeg = j := nI_clamp (by omega)
  refine W.iald (v := .int (hI h a j)) hC.1 hC.2.1 hc ((arr_of hC.2.2.2.2.2.2.1 (t := 1) (by decide) (by decide)).1 n _) (fun q => by cases q) ?_ ?_ rfl rfl hd (k p e R s mm args below meth c H locs cells slots Z ls hC h1 h2 h3 h4 h5 h6)
  · rw [arrV_size]; exact vp_in_nI hj hn
  · rw [hcl, arrV_read _ _ hj]; simp [cv, isR]
theorem r_bald {a n j : Nat} {i : Int32} (hd : dd m pc .baload 1 pc') (ha : hT h a = (2, n)) (hi : i = nI j) (hj : j < n) (hn : n < 2 ^ 31) (k : Rn o l m bg pc' L (.int (hI h a j) :: st) h Q) : Rn o l m bg pc L (.int i :: .ref a :: st) h Q := by
  obtain ⟨hd, rfl⟩ := hd
  subst hi
  intro p e R s mm args below meth c H locs cells slots Z ls hC h1 h2 h3 h4 h5 h6
  have hc := (h3.2.2 a (by rw [ha]; simp)).2.2
  rw [okc_arr (by rw [ha]; simp), ha] at hc
  have hcl : (nI j).toNatClampNeg = j := nI_clamp (by omega)
  refine W.bald (v := .int (hI h a j)) hC.1 hC.2.1 hc ((arr_of hC.2.2.2.2.2.2.1 (t := 2) (by decide) (by decide)).1 n _) (fun q => by cases q) ?_ ?_ rfl rfl hd (k p e R s mm args below meth c H locs cells slots Z ls hC h1 h2 h3 h4 h5 h6)
  · rw [arrV_size]; exact vp_in_nI hj hn
  · rw [hcl, arrV_read _ _ hj]; simp [cv, isR]
theorem r_zald {a n j : Nat} {i : Int32} (hd : dd m pc .baload 1 pc') (ha : hT h a = (3, n)) (hi : i = nI j) (hj : j < n) (hn : n < 2 ^ 31) (k : Rn o l m bg pc' L (.int (hI h a j) :: st) h Q) : Rn o l m bg pc L (.int i :: .ref a :: st) h Q := by
  obtain ⟨hd, rfl⟩ := hd
  subst hi
  intro p e R s mm args below meth c H locs cells slots Z ls hC h1 h2 h3 h4 h5 h6
  have hc := (h3.2.2 a (by rw [ha]; simp)).2.2
  rw [okc_arr (by rw [ha]; simp), ha] at hc
  have hcl : (nI j).toNatClampNeg = j := nI_clamp (by omega)
  refine W.zald (v := .int (hI h a j)) hC.1 hC.2.1 hc ((arr_of hC.2.2.2.2.2.2.1 (t := 3) (by decide) (by decide)).1 n _) (fun q => by cases q) ?_ ?_ rfl rfl hd (k p e R s mm args below meth c H locs cells slots Z ls hC h1 h2 h3 h4 h5 h6)
  · rw [arrV_size]; exact vp_in_nI hj hn
  · rw [hcl, arrV_read _ _ hj]; simp [cv, isR]
theorem r_lald {a n j : Nat} {i : Int32} (hd : dd m pc .laload 1 pc') (ha : hT h a = (4, n)) (hi : i = nI j) (hj : j < n) (hn : n < 2 ^ 31) (k : Rn o l m bg pc' L (.long (hI h a j).toInt64 :: st) h Q) : Rn o l m bg pc L (.int i :: .ref a :: st) h Q := by
  obtain ⟨hd, rfl⟩ := hd
  subst hi
  intro p e R s mm args below meth c H locs cells slots Z ls hC h1 h2 h3 h4 h5 h6
  have hc := (h3.2.2 a (by rw [ha]; simp)).2.2
  rw [okc_arr (by rw [ha]; simp), ha] at hc
  have hcl : (nI j).toNatClampNeg = j := nI_clamp (by omega)
  refine W.lald (v := .long (hI h a j).toInt64) hC.1 hC.2.1 hc ((arr_of hC.2.2.2.2.2.2.1 (t := 4) (by decide) (by decide)).1 n _) (fun q => by cases q) ?_ ?_ rfl rfl hd (k p e R s mm args below meth c H locs cells slots Z ls hC h1 h2 h3 h4 h5 h6)
  · rw [arrV_size]; exact vp_in_nI hj hn
  · rw [hcl, arrV_read _ _ hj]; simp [cv, isR]
theorem r_aald {a n j t b : Nat} {i : Int32} (hd : dd m pc .aaload 1 pc') (ha : hT h a = (t, n)) (ht : t = 5 ∨ t = 6 ∨ t = 7) (hi : i = nI j) (hj : j < n) (hn : n < 2 ^ 31) (hr : hR h a j = some b) (k : Rn o l m bg pc' L (.ref b :: st) h Q) : Rn o l m bg pc L (.int i :: .ref a :: st) h Q := by
  obtain ⟨hd, rfl⟩ := hd
  subst hi
  intro p e R s mm args below meth c H locs cells slots Z ls hC h1 h2 h3 h4 h5 h6
  have hc := (h3.2.2 a (by rw [ha]; show t ≠ 0; omega)).2.2
  rw [okc_arr (by rw [ha]; show t < 10; omega), ha] at hc
  have hcl : (nI j).toNatClampNeg = j := nI_clamp (by omega)
  refine W.aald (v := .ref (ob0 o + b)) (ty := aty t) hC.1 hC.2.1 hc ((arr_of hC.2.2.2.2.2.2.1 (t := t) (by omega) (by omega)).1 n _) (by rcases ht with rfl | rfl | rfl <;> rfl) (fun q => by cases q) ?_ ?_ rfl rfl hd (k p e R s mm args below meth c H locs cells slots Z ls hC h1 h2 h3 h4 h5 h6)
  · rw [arrV_size]; exact vp_in_nI hj hn
  · rw [hcl, arrV_read _ _ hj]
    rcases ht with rfl | rfl | rfl <;> simp [cv, isR, fr, hr, va_rf]
theorem r_alen {a n t : Nat} (hd : dd m pc .arraylength 1 pc') (ha : hT h a = (t, n)) (ht : 1 ≤ t ∧ t ≤ 7) (k : Rn o l m bg pc' L (.int (nI n) :: st) h Q) : Rn o l m bg pc L (.ref a :: st) h Q := by
  obtain ⟨hd, rfl⟩ := hd
  intro p e R s mm args below meth c H locs cells slots Z ls hC h1 h2 h3 h4 h5 h6
  have hc := (h3.2.2 a (by rw [ha]; show t ≠ 0; omega)).2.2
  rw [okc_arr (by rw [ha]; show t < 10; omega), ha] at hc
  exact W.alen (n := nI n) hC.1 hC.2.1 hc ((arr_of hC.2.2.2.2.2.2.1 (t := t) (by omega) (by omega)).1 n _) (by rw [arrV_size]; rfl) rfl rfl hd (k p e R s mm args below meth c H locs cells slots Z ls hC h1 h2 h3 h4 h5 h6)
theorem lo_put {o : OM} {locs : List Loc} {a k : Nat} (h4 : ∀ q ∈ locs, ob0 o ≤ q.base) : ∀ q ∈ locs ++ [⟨ob0 o + a, k⟩], ob0 o ≤ q.base := by
  intro q hq
  rcases List.mem_append.mp hq with h | h
  · exact h4 q h
  · rw [List.mem_singleton.mp h]; exact Nat.le_add_right _ _
theorem r_iast {a n j : Nat} {i x : Int32} (hd : dd m pc .iastore 1 pc') (ha : hT h a = (1, n)) (hi : i = nI j) (hj : j < n) (hn : n < 2 ^ 31) (k : Rn o l m bg pc' L st (sI h a j x) Q) : Rn o l m bg pc L (.int x :: .int i :: .ref a :: st) h Q := by
  obtain ⟨hd, rfl⟩ := hd
  subst hi
  intro p e R s mm args below meth c H locs cells slots Z ls hC h1 h2 h3 h4 h5 h6
  have h0 : (hT h a).1 ≠ 0 := by rw [ha]; simp
  have hc := (h3.2.2 a h0).2.2
  rw [okc_arr (by rw [ha]; simp), ha] at hc
  have hcl : (nI j).toNatClampNeg = j := nI_clamp (by omega)
  refine W.iast hC.1 hC.2.1 hc ((arr_of hC.2.2.2.2.2.2.1 (t := 1) (by decide) (by decide)).1 n _) (fun q => by cases q) (by rw [arrV_size]; exact vp_in_nI hj hn) rfl rfl hd (fun H1 e1 e2 e3 => ?_)
  rw [hcl, arrV_store, cv_upI x rfl (by simp)] at e1
  refine k p e R s mm args below meth c H1 _ cells slots Z ls hC h1 h2 (h3.setI h0 ?_ e2 e3) (lo_put h4) h5 h6
  rw [okc_arr (by rw [ha]; simp), ha]
  exact e1
theorem r_bast {a n j : Nat} {i x : Int32} (hd : dd m pc .bastore 1 pc') (ha : hT h a = (2, n)) (hi : i = nI j) (hj : j < n) (hn : n < 2 ^ 31) (k : Rn o l m bg pc' L st (sI h a j x.toInt8.toInt32) Q) : Rn o l m bg pc L (.int x :: .int i :: .ref a :: st) h Q := by
  obtain ⟨hd, rfl⟩ := hd
  subst hi
  intro p e R s mm args below meth c H locs cells slots Z ls hC h1 h2 h3 h4 h5 h6
  have h0 : (hT h a).1 ≠ 0 := by rw [ha]; simp
  have hc := (h3.2.2 a h0).2.2
  rw [okc_arr (by rw [ha]; simp), ha] at hc
  have hcl : (nI j).toNatClampNeg = j := nI_clamp (by omega)
  refine W.bast hC.1 hC.2.1 hc ((arr_of hC.2.2.2.2.2.2.1 (t := 2) (by decide) (by decide)).1 n _) (fun q => by cases q) (by rw [arrV_size]; exact vp_in_nI hj hn) rfl rfl hd (fun H1 e1 e2 e3 => ?_)
  rw [hcl, narrow_byte, arrV_store, cv_upI _ rfl (by simp)] at e1
  refine k p e R s mm args below meth c H1 _ cells slots Z ls hC h1 h2 (h3.setI h0 ?_ e2 e3) (lo_put h4) h5 h6
  rw [okc_arr (by rw [ha]; simp), ha]
  exact e1
theorem r_zast {a n j : Nat} {i x : Int32} (hd : dd m pc .bastore 1 pc') (ha : hT h a = (3, n)) (hi : i = nI j) (hj : j < n) (hn : n < 2 ^ 31) (hx : narrow .boolean (.int x) = .int x) (k : Rn o l m bg pc' L st (sI h a j x) Q) : Rn o l m bg pc L (.int x :: .int i :: .ref a :: st) h Q := by
  obtain ⟨hd, rfl⟩ := hd
  subst hi
  intro p e R s mm args below meth c H locs cells slots Z ls hC h1 h2 h3 h4 h5 h6
  have h0 : (hT h a).1 ≠ 0 := by rw [ha]; simp
  have hc := (h3.2.2 a h0).2.2
  rw [okc_arr (by rw [ha]; simp), ha] at hc
  have hcl : (nI j).toNatClampNeg = j := nI_clamp (by omega)
  refine W.zast hC.1 hC.2.1 hc ((arr_of hC.2.2.2.2.2.2.1 (t := 3) (by decide) (by decide)).1 n _) (fun q => by cases q) (by rw [arrV_size]; exact vp_in_nI hj hn) rfl rfl hd (fun H1 e1 e2 e3 => ?_)
  rw [hcl, hx, arrV_store, cv_upI _ rfl (by simp)] at e1
  refine k p e R s mm args below meth c H1 _ cells slots Z ls hC h1 h2 (h3.setI h0 ?_ e2 e3) (lo_put h4) h5 h6
  rw [okc_arr (by rw [ha]; simp), ha]
  exact e1
theorem r_last {a n j : Nat} {i x : Int32} {y : Int64} (hd : dd m pc .lastore 1 pc') (ha : hT h a = (4, n)) (hi : i = nI j) (hj : j < n) (hn : n < 2 ^ 31) (hy : y = x.toInt64) (k : Rn o l m bg pc' L st (sI h a j x) Q) : Rn o l m bg pc L (.long y :: .int i :: .ref a :: st) h Q := by
  obtain ⟨hd, rfl⟩ := hd
  subst hi
  subst hy
  intro p e R s mm args below meth c H locs cells slots Z ls hC h1 h2 h3 h4 h5 h6
  have h0 : (hT h a).1 ≠ 0 := by rw [ha]; simp
  have hc := (h3.2.2 a h0).2.2
  rw [okc_arr (by rw [ha]; simp), ha] at hc
  have hcl : (nI j).toNatClampNeg = j := nI_clamp (by omega)
  refine W.last hC.1 hC.2.1 hc ((arr_of hC.2.2.2.2.2.2.1 (t := 4) (by decide) (by decide)).1 n _) (fun q => by cases q) (by rw [arrV_size]; exact vp_in_nI hj hn) rfl rfl hd (fun H1 e1 e2 e3 => ?_)
  rw [hcl, arrV_store, cv_upL] at e1
  refine k p e R s mm args below meth c H1 _ cells slots Z ls hC h1 h2 (h3.setI h0 ?_ e2 e3) (lo_put h4) h5 h6
  rw [okc_arr (by rw [ha]; simp), ha]
  exact e1
end RH
