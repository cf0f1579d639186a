abbrev dd (m : MD) (pc : Nat) (i : Instr) (n pc' : Nat) : Prop := decode (mbt m) pc = .ok (i, n) ∧ pc + n = pc'
abbrev db (m : MD) (pc : Nat) (i : Int → Instr) (pc' tgt : Nat) : Prop := ∃ off : Int, decode (mbt m) pc = .ok (i off, 3) ∧ pc + 3 = pc' ∧ (pc : Int) + off = (tgt : Int)
def clr (L : List (Option Value)) : Nat → List (Option Value)
  | 0 => L
  | i + 1 => match L[i]? with
    | some (some w) => if w.category = 2 then L.set i none else L
    | _ => L
def st1 (L : List (Option Value)) (i : Nat) (v : Value) : List (Option Value) := (clr L i).set i (some v)
def st2 (L : List (Option Value)) (i : Nat) (v : Value) : List (Option Value) := ((clr L i).set i (some v)).set (i + 1) none
def lvp (o : OM) (L : List (Option Value)) : List (Nat × Value) := (List.range L.length).filterMap (fun i => match L[i]? with
  | some (some v) => some (i, fv o v)
  | _ => none)
theorem lvp_mem {o : OM} {L : List (Option Value)} {q : Nat × Value} : q ∈ lvp o L ↔ ∃ v, L[q.1]? = some (some v) ∧ q.2 = fv o v := by
  unfold lvp
  rw [List.mem_filterMap]
  constructor
  · rintro ⟨i, -, h⟩
    split at h
    next v hv => cases h; exact ⟨v, hv, rfl⟩
    next => cases h
  · rintro ⟨v, h1, h2⟩
    refine ⟨q.1, List.mem_range.mpr (List.getElem?_eq_some_iff.mp h1).1, ?_⟩
    rw [h1]
    simp only [← h2]
theorem Lc.has {o : OM} {m : MD} {L : List (Option Value)} {ls : Array Slot} (h : Lc o m L ls) : lv_has ls (mml m) (lvp o L) := by
  refine ⟨h.1, h.2.1, fun q hq => ?_⟩
  obtain ⟨v, h1, h2⟩ := lvp_mem.mp hq
  rw [h2]
  exact h.2.2 _ _ h1
theorem clr_get {L : List (Option Value)} {i j : Nat} {w : Value} (h : (clr L i)[j]? = some (some w)) : L[j]? = some (some w) ∧ ¬ (j + 1 = i ∧ w.category = 2) := by
  match i, h with
  | 0, h => exact ⟨h, fun q => by omega⟩
  | i + 1, h =>
    simp only [clr] at h
    split at h
    next w' hw' =>
      split at h
      next hc =>
        rw [List.getElem?_set] at h
        split at h
        next => split at h <;> cases h
        next hne => exact ⟨h, fun q => hne (by omega)⟩
      next hc =>
        refine ⟨h, fun q => ?_⟩
        obtain rfl : j = i := by omega
        rw [hw'] at h
        cases h
        exact hc q.2
    next hn =>
      refine ⟨h, fun q => ?_⟩
      obtain rfl : j = i := by omega
      exact hn _ h
theorem Lc.put1 {o : OM} {m : MD} {L : List (Option Value)} {i : Nat} {v : Value} {ls : Array Slot} (h : lv_has ls (mml m) ((i, fv o v) :: (lvp o L).filter (fun q => !(q.1 == i) && !(q.1 + 1 == i && q.2.category == 2)))) : Lc o m (st1 L i v) ls := by
  refine ⟨h.1, h.2.1, fun j w hj => ?_⟩
  unfold st1 at hj
  rw [List.getElem?_set] at hj
  by_cases e : i = j
  · subst e
    rw [if_pos rfl] at hj
    split at hj
    next => cases hj; exact h.2.2 _ List.mem_cons_self
    next => cases hj
  · rw [if_neg e] at hj
    obtain ⟨h1, h2⟩ := clr_get hj
    refine h.2.2 (j, fv o w) (List.mem_cons_of_mem _ (List.mem_filter.mpr ⟨lvp_mem.mpr ⟨w, h1, rfl⟩, ?_⟩))
    simp only [Bool.and_eq_true, Bool.not_eq_true', beq_eq_false_iff_ne, ne_eq, Bool.and_eq_false_iff, fv_cat]
    refine ⟨fun q => e q.symm, ?_⟩
    by_cases e2 : j + 1 = i
    · exact Or.inr (fun q => h2 ⟨e2, q⟩)
    · exact Or.inl e2
theorem Lc.put2 {o : OM} {m : MD} {L : List (Option Value)} {i : Nat} {v : Value} {ls : Array Slot} (h : lv_has ls (mml m) ((i, fv o v) :: (lvp o L).filter (fun q => !(q.1 == i) && (!(q.1 == i + 1) && !(q.1 + 1 == i && q.2.category == 2))))) : Lc o m (st2 L i v) ls := by
  refine ⟨h.1, h.2.1, fun j w hj => ?_⟩
  unfold st2 at hj
  rw [List.getElem?_set] at hj
  split at hj
  next => split at hj <;> cases hj
  next e1 =>
    rw [List.getElem?_set] at hj
    by_cases e : i = j
    · subst e
      rw [if_pos rfl] at hj
      split at hj
      next => cases hj; exact h.2.2 _ List.mem_cons_self
      next => cases hj
    · rw [if_neg e] at hj
      obtain ⟨h1, h2⟩ := clr_get hj
      refine h.2.2 (j, fv o w) (List.mem_cons_of_mem _ (List.mem_filter.mpr ⟨lvp_mem.mpr ⟨w, h1, rfl⟩, ?_⟩))
      simp only [Bool.and_eq_true, Bool.not_eq_true', beq_eq_false_iff_ne, ne_eq, Bool.and_eq_false_iff, fv_cat]
      refine ⟨fun q => e q.symm, fun q => e1 q.symm, ?_⟩
      by_cases e2 : j + 1 = i
      · exact Or.inr (fun q => h2 ⟨e2, q⟩)
      · exact Or.inl e2
section RU
variable {o : OM} {l : Launch} {m : MD} {bg : Nat × Nat} {pc pc' tgt : Nat} {L L' : List (Option Value)} {st : List Value} {h : AH} {Q : Option Value → AH → Prop}

theorem r_iadd {x y : Int32} (hd : dd m pc .iadd 1 pc') (k : Rn o l m bg pc' L (.int (x + y) :: st) h Q) : Rn o l m bg pc L (.int y :: .int x :: st) h Q := by
  obtain ⟨hd, rfl⟩ := hd
  intro p e R s mm args below meth c H locs cells slots Z ls hC h1 h2 h3 h4 h5 h6
  exact lv_iadd hC.1 hC.2.1 hd (k p e R s mm args below meth c H locs cells slots Z ls hC h1 h2 h3 h4 h5 h6)
theorem r_isub {x y : Int32} (hd : dd m pc .isub 1 pc') (k : Rn o l m bg pc' L (.int (x - y) :: st) h Q) : Rn o l m bg pc L (.int y :: .int x :: st) h Q := by
  obtain ⟨hd, rfl⟩ := hd
  intro p e R s mm args below meth c H locs cells slots Z ls hC h1 h2 h3 h4 h5 h6
  exact lv_isub hC.1 hC.2.1 hd (k p e R s mm args below meth c H locs cells slots Z ls hC h1 h2 h3 h4 h5 h6)
theorem r_imul {x y : Int32} (hd : dd m pc .imul 1 pc') (k : Rn o l m bg pc' L (.int (x * y) :: st) h Q) : Rn o l m bg pc L (.int y :: .int x :: st) h Q := by
  obtain ⟨hd, rfl⟩ := hd
  intro p e R s mm args below meth c H locs cells slots Z ls hC h1 h2 h3 h4 h5 h6
  exact lv_imul hC.1 hC.2.1 hd (k p e R s mm args below meth c H locs cells slots Z ls hC h1 h2 h3 h4 h5 h6)
theorem r_iand {x y : Int32} (hd : dd m pc .iand 1 pc') (k : Rn o l m bg pc' L (.int (x &&& y) :: st) h Q) : Rn o l m bg pc L (.int y :: .int x :: st) h Q := by
  obtain ⟨hd, rfl⟩ := hd
  intro p e R s mm args below meth c H locs cells slots Z ls hC h1 h2 h3 h4 h5 h6
  exact lv_iand hC.1 hC.2.1 hd (k p e R s mm args below meth c H locs cells slots Z ls hC h1 h2 h3 h4 h5 h6)
theorem r_ior {x y : Int32} (hd : dd m pc .ior 1 pc') (k : Rn o l m bg pc' L (.int (x ||| y) :: st) h Q) : Rn o l m bg pc L (.int y :: .int x :: st) h Q := by
  obtain ⟨hd, rfl⟩ := hd
  intro p e R s mm args below meth c H locs cells slots Z ls hC h1 h2 h3 h4 h5 h6
  exact lv_ior hC.1 hC.2.1 hd (k p e R s mm args below meth c H locs cells slots Z ls hC h1 h2 h3 h4 h5 h6)
theorem r_ixor {x y : Int32} (hd : dd m pc .ixor 1 pc') (k : Rn o l m bg pc' L (.int (x ^^^ y) :: st) h Q) : Rn o l m bg pc L (.int y :: .int x :: st) h Q := by
  obtain ⟨hd, rfl⟩ := hd
  intro p e R s mm args below meth c H locs cells slots Z ls hC h1 h2 h3 h4 h5 h6
  exact lv_ixor hC.1 hC.2.1 hd (k p e R s mm args below meth c H locs cells slots Z ls hC h1 h2 h3 h4 h5 h6)
theorem r_irem {x y : Int32} (hd : dd m pc .irem 1 pc') (hne : ¬ y = 0) (k : Rn o l m bg pc' L (.int (x - x / y * y) :: st) h Q) : Rn o l m bg pc L (.int y :: .int x :: st) h Q := by
  obtain ⟨hd, rfl⟩ := hd
  intro p e R s mm args below meth c H locs cells slots Z ls hC h1 h2 h3 h4 h5 h6
  exact lv_irem hC.1 hC.2.1 hd hne (k p e R s mm args below meth c H locs cells slots Z ls hC h1 h2 h3 h4 h5 h6)
theorem r_ishr {x y : Int32} (hd : dd m pc .ishr 1 pc') (k : Rn o l m bg pc' L (.int (x >>> (y &&& 31)) :: st) h Q) : Rn o l m bg pc L (.int y :: .int x :: st) h Q := by
  obtain ⟨hd, rfl⟩ := hd
  intro p e R s mm args below meth c H locs cells slots Z ls hC h1 h2 h3 h4 h5 h6
  exact lv_ishr hC.1 hC.2.1 hd (k p e R s mm args below meth c H locs cells slots Z ls hC h1 h2 h3 h4 h5 h6)
theorem r_iushr {x y : Int32} (hd : dd m pc .iushr 1 pc') (k : Rn o l m bg pc' L (.int ((x.toUInt32 >>> (y.toUInt32 &&& Int32.toUInt32 31)).toInt32) :: st) h Q) : Rn o l m bg pc L (.int y :: .int x :: st) h Q := by
  obtain ⟨hd, rfl⟩ := hd
  intro p e R s mm args below meth c H locs cells slots Z ls hC h1 h2 h3 h4 h5 h6
  exact lv_iushr hC.1 hC.2.1 hd rfl (k p e R s mm args below meth c H locs cells slots Z ls hC h1 h2 h3 h4 h5 h6)
theorem r_ineg {x : Int32} (hd : dd m pc .ineg 1 pc') (k : Rn o l m bg pc' L (.int (-x) :: st) h Q) : Rn o l m bg pc L (.int x :: st) h Q := by
  obtain ⟨hd, rfl⟩ := hd
  intro p e R s mm args below meth c H locs cells slots Z ls hC h1 h2 h3 h4 h5 h6
  exact lv_ineg hC.1 hC.2.1 hd (k p e R s mm args below meth c H locs cells slots Z ls hC h1 h2 h3 h4 h5 h6)
theorem r_ladd {x y : Int64} (hd : dd m pc .ladd 1 pc') (k : Rn o l m bg pc' L (.long (x + y) :: st) h Q) : Rn o l m bg pc L (.long y :: .long x :: st) h Q := by
  obtain ⟨hd, rfl⟩ := hd
  intro p e R s mm args below meth c H locs cells slots Z ls hC h1 h2 h3 h4 h5 h6
  exact lv_ladd hC.1 hC.2.1 hd (k p e R s mm args below meth c H locs cells slots Z ls hC h1 h2 h3 h4 h5 h6)
theorem r_lsub {x y : Int64} (hd : dd m pc .lsub 1 pc') (k : Rn o l m bg pc' L (.long (x - y) :: st) h Q) : Rn o l m bg pc L (.long y :: .long x :: st) h Q := by
  obtain ⟨hd, rfl⟩ := hd
  intro p e R s mm args below meth c H locs cells slots Z ls hC h1 h2 h3 h4 h5 h6
  exact lv_lsub hC.1 hC.2.1 hd (k p e R s mm args below meth c H locs cells slots Z ls hC h1 h2 h3 h4 h5 h6)
theorem r_lmul {x y : Int64} (hd : dd m pc .lmul 1 pc') (k : Rn o l m bg pc' L (.long (x * y) :: st) h Q) : Rn o l m bg pc L (.long y :: .long x :: st) h Q := by
  obtain ⟨hd, rfl⟩ := hd
  intro p e R s mm args below meth c H locs cells slots Z ls hC h1 h2 h3 h4 h5 h6
  exact lv_lmul hC.1 hC.2.1 hd (k p e R s mm args below meth c H locs cells slots Z ls hC h1 h2 h3 h4 h5 h6)
theorem r_lrem {x y : Int64} (hd : dd m pc .lrem 1 pc') (hne : ¬ y = 0) (k : Rn o l m bg pc' L (.long (x - x / y * y) :: st) h Q) : Rn o l m bg pc L (.long y :: .long x :: st) h Q := by
  obtain ⟨hd, rfl⟩ := hd
  intro p e R s mm args below meth c H locs cells slots Z ls hC h1 h2 h3 h4 h5 h6
  exact lv_lrem hC.1 hC.2.1 hd hne (k p e R s mm args below meth c H locs cells slots Z ls hC h1 h2 h3 h4 h5 h6)
theorem r_lneg {x : Int64} (hd : dd m pc .lneg 1 pc') (k : Rn o l m bg pc' L (.long (-x) :: st) h Q) : Rn o l m bg pc L (.long x :: st) h Q := by
  obtain ⟨hd, rfl⟩ := hd
  intro p e R s mm args below meth c H locs cells slots Z ls hC h1 h2 h3 h4 h5 h6
  exact lv_lneg hC.1 hC.2.1 hd (k p e R s mm args below meth c H locs cells slots Z ls hC h1 h2 h3 h4 h5 h6)
theorem r_lcmp {x y : Int64} (hd : dd m pc .lcmp 1 pc') (k : Rn o l m bg pc' L (.int (lg_cmp x y) :: st) h Q) : Rn o l m bg pc L (.long y :: .long x :: st) h Q := by
  obtain ⟨hd, rfl⟩ := hd
  intro p e R s mm args below meth c H locs cells slots Z ls hC h1 h2 h3 h4 h5 h6
  exact W.lcmp hC.1 hC.2.1 hd (k p e R s mm args below meth c H locs cells slots Z ls hC h1 h2 h3 h4 h5 h6)
theorem r_i2l {x : Int32} (hd : dd m pc .i2l 1 pc') (k : Rn o l m bg pc' L (.long x.toInt64 :: st) h Q) : Rn o l m bg pc L (.int x :: st) h Q := by
  obtain ⟨hd, rfl⟩ := hd
  intro p e R s mm args below meth c H locs cells slots Z ls hC h1 h2 h3 h4 h5 h6
  exact lv_i2l hC.1 hC.2.1 hd rfl (k p e R s mm args below meth c H locs cells slots Z ls hC h1 h2 h3 h4 h5 h6)
theorem r_l2i {x : Int64} (hd : dd m pc .l2i 1 pc') (k : Rn o l m bg pc' L (.int x.toInt32 :: st) h Q) : Rn o l m bg pc L (.long x :: st) h Q := by
  obtain ⟨hd, rfl⟩ := hd
  intro p e R s mm args below meth c H locs cells slots Z ls hC h1 h2 h3 h4 h5 h6
  exact lv_l2i hC.1 hC.2.1 hd rfl (k p e R s mm args below meth c H locs cells slots Z ls hC h1 h2 h3 h4 h5 h6)
theorem r_i2b {x : Int32} (hd : dd m pc .i2b 1 pc') (k : Rn o l m bg pc' L (.int x.toInt8.toInt32 :: st) h Q) : Rn o l m bg pc L (.int x :: st) h Q := by
  obtain ⟨hd, rfl⟩ := hd
  intro p e R s mm args below meth c H locs cells slots Z ls hC h1 h2 h3 h4 h5 h6
  exact lv_i2b hC.1 hC.2.1 hd rfl (k p e R s mm args below meth c H locs cells slots Z ls hC h1 h2 h3 h4 h5 h6)
theorem r_iconst {n : Int} {v : Int32} (hd : dd m pc (.iconst n) 1 pc') (hv : Int32.ofInt n = v) (k : Rn o l m bg pc' L (.int v :: st) h Q) : Rn o l m bg pc L (st) h Q := by
  obtain ⟨hd, rfl⟩ := hd
  intro p e R s mm args below meth c H locs cells slots Z ls hC h1 h2 h3 h4 h5 h6
  exact lv_iconst hC.1 hC.2.1 hd hv (k p e R s mm args below meth c H locs cells slots Z ls hC h1 h2 h3 h4 h5 h6)
theorem r_bipush {n : Int} {v : Int32} (hd : dd m pc (.bipush n) 2 pc') (hv : (Int8.ofInt n).toInt32 = v) (k : Rn o l m bg pc' L (.int v :: st) h Q) : Rn o l m bg pc L (st) h Q := by
  obtain ⟨hd, rfl⟩ := hd
  intro p e R s mm args below meth c H locs cells slots Z ls hC h1 h2 h3 h4 h5 h6
  exact lv_bipush hC.1 hC.2.1 hd hv (k p e R s mm args below meth c H locs cells slots Z ls hC h1 h2 h3 h4 h5 h6)
theorem r_sipush {n : Int} {v : Int32} (hd : dd m pc (.sipush n) 3 pc') (hv : (Int16.ofInt n).toInt32 = v) (k : Rn o l m bg pc' L (.int v :: st) h Q) : Rn o l m bg pc L (st) h Q := by
  obtain ⟨hd, rfl⟩ := hd
  intro p e R s mm args below meth c H locs cells slots Z ls hC h1 h2 h3 h4 h5 h6
  exact lv_sipush hC.1 hC.2.1 hd hv (k p e R s mm args below meth c H locs cells slots Z ls hC h1 h2 h3 h4 h5 h6)
theorem r_lconst {n : Fin 2} {v : Int64} (hd : dd m pc (.lconst n) 1 pc') (hv : Int64.ofNat (n : Nat) = v) (k : Rn o l m bg pc' L (.long v :: st) h Q) : Rn o l m bg pc L (st) h Q := by
  obtain ⟨hd, rfl⟩ := hd
  intro p e R s mm args below meth c H locs cells slots Z ls hC h1 h2 h3 h4 h5 h6
  exact lv_lconst hC.1 hC.2.1 hd hv (k p e R s mm args below meth c H locs cells slots Z ls hC h1 h2 h3 h4 h5 h6)
theorem r_ldc {idx : Nat} {v : Int32} (hd : dd m pc (.ldc idx) 2 pc') (hc : Cond.constant (mcls m) idx v ∈ gt_ws) (k : Rn o l m bg pc' L (.int v :: st) h Q) : Rn o l m bg pc L st h Q := by
  obtain ⟨hd, rfl⟩ := hd
  intro p e R s mm args below meth c H locs cells slots Z ls hC h1 h2 h3 h4 h5 h6
  exact lv_ldc hC.1 hC.2.1 hC.2.2.2.2.1 (hC.2.2.2.2.2.1 _ hc) hd (k p e R s mm args below meth c H locs cells slots Z ls hC h1 h2 h3 h4 h5 h6)
theorem r_ldc2 {idx : Nat} {v : Int64} (hd : dd m pc (.ldc2_w idx) 3 pc') (hc : Cond.constantLong (mcls m) idx v ∈ gt_ws) (k : Rn o l m bg pc' L (.long v :: st) h Q) : Rn o l m bg pc L st h Q := by
  obtain ⟨hd, rfl⟩ := hd
  intro p e R s mm args below meth c H locs cells slots Z ls hC h1 h2 h3 h4 h5 h6
  exact lv_ldc2 hC.1 hC.2.1 hC.2.2.2.2.1 (hC.2.2.2.2.2.1 _ hc) hd (k p e R s mm args below meth c H locs cells slots Z ls hC h1 h2 h3 h4 h5 h6)
theorem r_iload {i : Nat} {x : Int32} (hd : dd m pc (.iload i) 2 pc') (hl : L[i]? = some (some (.int x))) (k : Rn o l m bg pc' L (.int x :: st) h Q) : Rn o l m bg pc L st h Q := by
  obtain ⟨hd, rfl⟩ := hd
  intro p e R s mm args below meth c H locs cells slots Z ls hC h1 h2 h3 h4 h5 h6
  exact lv_iload hC.1 hC.2.1 hd (h5.2.2 _ _ hl) (k p e R s mm args below meth c H locs cells slots Z ls hC h1 h2 h3 h4 h5 h6)
theorem r_iload_n {i : Fin 4} {x : Int32} (hd : dd m pc (.iload_n i) 1 pc') (hl : L[(i : Nat)]? = some (some (.int x))) (k : Rn o l m bg pc' L (.int x :: st) h Q) : Rn o l m bg pc L st h Q := by
  obtain ⟨hd, rfl⟩ := hd
  intro p e R s mm args below meth c H locs cells slots Z ls hC h1 h2 h3 h4 h5 h6
  exact lv_iload_n hC.1 hC.2.1 hd rfl (h5.2.2 _ _ hl) (k p e R s mm args below meth c H locs cells slots Z ls hC h1 h2 h3 h4 h5 h6)
theorem r_lload {i : Nat} {x : Int64} (hd : dd m pc (.lload i) 2 pc') (hl : L[i]? = some (some (.long x))) (k : Rn o l m bg pc' L (.long x :: st) h Q) : Rn o l m bg pc L st h Q := by
  obtain ⟨hd, rfl⟩ := hd
  intro p e R s mm args below meth c H locs cells slots Z ls hC h1 h2 h3 h4 h5 h6
  exact lv_lload hC.1 hC.2.1 hd (h5.2.2 _ _ hl) (k p e R s mm args below meth c H locs cells slots Z ls hC h1 h2 h3 h4 h5 h6)
theorem r_lload_n {i : Fin 4} {x : Int64} (hd : dd m pc (.lload_n i) 1 pc') (hl : L[(i : Nat)]? = some (some (.long x))) (k : Rn o l m bg pc' L (.long x :: st) h Q) : Rn o l m bg pc L st h Q := by
  obtain ⟨hd, rfl⟩ := hd
  intro p e R s mm args below meth c H locs cells slots Z ls hC h1 h2 h3 h4 h5 h6
  exact lv_lload_n hC.1 hC.2.1 hd rfl (h5.2.2 _ _ hl) (k p e R s mm args below meth c H locs cells slots Z ls hC h1 h2 h3 h4 h5 h6)
theorem r_aload {i : Nat} {x : Nat} (hd : dd m pc (.aload i) 2 pc') (hl : L[i]? = some (some (.ref x))) (k : Rn o l m bg pc' L (.ref x :: st) h Q) : Rn o l m bg pc L st h Q := by
  obtain ⟨hd, rfl⟩ := hd
  intro p e R s mm args below meth c H locs cells slots Z ls hC h1 h2 h3 h4 h5 h6
  exact lv_aload hC.1 hC.2.1 hd (h5.2.2 _ _ hl) (k p e R s mm args below meth c H locs cells slots Z ls hC h1 h2 h3 h4 h5 h6)
theorem r_bload {i : Nat} {x : Nat} (hd : dd m pc (.aload i) 2 pc') (hl : L[i]? = some (some (.retAddr x))) (k : Rn o l m bg pc' L (.retAddr x :: st) h Q) : Rn o l m bg pc L st h Q := by
  obtain ⟨hd, rfl⟩ := hd
  intro p e R s mm args below meth c H locs cells slots Z ls hC h1 h2 h3 h4 h5 h6
  exact lv_aload hC.1 hC.2.1 hd (h5.2.2 _ _ hl) (k p e R s mm args below meth c H locs cells slots Z ls hC h1 h2 h3 h4 h5 h6)
theorem r_aload_n {i : Fin 4} {x : Nat} (hd : dd m pc (.aload_n i) 1 pc') (hl : L[(i : Nat)]? = some (some (.ref x))) (k : Rn o l m bg pc' L (.ref x :: st) h Q) : Rn o l m bg pc L st h Q := by
  obtain ⟨hd, rfl⟩ := hd
  intro p e R s mm args below meth c H locs cells slots Z ls hC h1 h2 h3 h4 h5 h6
  exact lv_aload_n hC.1 hC.2.1 hd rfl (h5.2.2 _ _ hl) (k p e R s mm args below meth c H locs cells slots Z ls hC h1 h2 h3 h4 h5 h6)
theorem r_bload_n {i : Fin 4} {x : Nat} (hd : dd m pc (.aload_n i) 1 pc') (hl : L[(i : Nat)]? = some (some (.retAddr x))) (k : Rn o l m bg pc' L (.retAddr x :: st) h Q) : Rn o l m bg pc L st h Q := by
  obtain ⟨hd, rfl⟩ := hd
  intro p e R s mm args below meth c H locs cells slots Z ls hC h1 h2 h3 h4 h5 h6
  exact lv_aload_n hC.1 hC.2.1 hd rfl (h5.2.2 _ _ hl) (k p e R s mm args below meth c H locs cells slots Z ls hC h1 h2 h3 h4 h5 h6)
theorem r_istore {i : Nat} {x : Int32} (hd : dd m pc (.istore i) 2 pc') (hn : i < mml m) (hL : st1 L i (.int x) = L') (k : Rn o l m bg pc' L' st h Q) : Rn o l m bg pc L (.int x :: st) h Q := by
  obtain ⟨hd, rfl⟩ := hd
  subst hL
  intro p e R s mm args below meth c H locs cells slots Z ls hC h1 h2 h3 h4 h5 h6
  exact lv_istore hC.1 hC.2.1 hd h5.has hn rfl (fun ls9 h9 => (k p e R s mm args below meth c H locs cells slots Z ls9 hC h1 h2 h3 h4 (Lc.put1 h9) h6))
theorem r_istore_n {i : Fin 4} {x : Int32} (hd : dd m pc (.istore_n i) 1 pc') (hn : (i : Nat) < mml m) (hL : st1 L i (.int x) = L') (k : Rn o l m bg pc' L' st h Q) : Rn o l m bg pc L (.int x :: st) h Q := by
  obtain ⟨hd, rfl⟩ := hd
  subst hL
  intro p e R s mm args below meth c H locs cells slots Z ls hC h1 h2 h3 h4 h5 h6
  exact lv_istore_n hC.1 hC.2.1 hd rfl h5.has hn rfl (fun ls9 h9 => (k p e R s mm args below meth c H locs cells slots Z ls9 hC h1 h2 h3 h4 (Lc.put1 h9) h6))
theorem r_lstore {i : Nat} {x : Int64} (hd : dd m pc (.lstore i) 2 pc') (hn : i + 1 < mml m) (hL : st2 L i (.long x) = L') (k : Rn o l m bg pc' L' st h Q) : Rn o l m bg pc L (.long x :: st) h Q := by
  obtain ⟨hd, rfl⟩ := hd
  subst hL
  intro p e R s mm args below meth c H locs cells slots Z ls hC h1 h2 h3 h4 h5 h6
  exact lv_lstore hC.1 hC.2.1 hd h5.has hn rfl (fun ls9 h9 => (k p e R s mm args below meth c H locs cells slots Z ls9 hC h1 h2 h3 h4 (Lc.put2 h9) h6))
theorem r_lstore_n {i : Fin 4} {x : Int64} (hd : dd m pc (.lstore_n i) 1 pc') (hn : (i : Nat) + 1 < mml m) (hL : st2 L i (.long x) = L') (k : Rn o l m bg pc' L' st h Q) : Rn o l m bg pc L (.long x :: st) h Q := by
  obtain ⟨hd, rfl⟩ := hd
  subst hL
  intro p e R s mm args below meth c H locs cells slots Z ls hC h1 h2 h3 h4 h5 h6
  exact lv_lstore_n hC.1 hC.2.1 hd rfl h5.has hn rfl (fun ls9 h9 => (k p e R s mm args below meth c H locs cells slots Z ls9 hC h1 h2 h3 h4 (Lc.put2 h9) h6))
theorem r_astore {i : Nat} {x : Nat} (hd : dd m pc (.astore i) 2 pc') (hn : i < mml m) (hL : st1 L i (.ref x) = L') (k : Rn o l m bg pc' L' st h Q) : Rn o l m bg pc L (.ref x :: st) h Q := by
  obtain ⟨hd, rfl⟩ := hd
  subst hL
  intro p e R s mm args below meth c H locs cells slots Z ls hC h1 h2 h3 h4 h5 h6
  exact lv_astore hC.1 hC.2.1 hd h5.has hn rfl (fun ls9 h9 => (k p e R s mm args below meth c H locs cells slots Z ls9 hC h1 h2 h3 h4 (Lc.put1 h9) h6))
theorem r_astore_n {i : Fin 4} {x : Nat} (hd : dd m pc (.astore_n i) 1 pc') (hn : (i : Nat) < mml m) (hL : st1 L i (.ref x) = L') (k : Rn o l m bg pc' L' st h Q) : Rn o l m bg pc L (.ref x :: st) h Q := by
  obtain ⟨hd, rfl⟩ := hd
  subst hL
  intro p e R s mm args below meth c H locs cells slots Z ls hC h1 h2 h3 h4 h5 h6
  exact lv_astore_n hC.1 hC.2.1 hd rfl h5.has hn rfl (fun ls9 h9 => (k p e R s mm args below meth c H locs cells slots Z ls9 hC h1 h2 h3 h4 (Lc.put1 h9) h6))
theorem r_bstore {i : Nat} {x : Nat} (hd : dd m pc (.astore i) 2 pc') (hn : i < mml m) (hL : st1 L i (.retAddr x) = L') (k : Rn o l m bg pc' L' st h Q) : Rn o l m bg pc L (.retAddr x :: st) h Q := by
  obtain ⟨hd, rfl⟩ := hd
  subst hL
  intro p e R s mm args below meth c H locs cells slots Z ls hC h1 h2 h3 h4 h5 h6
  exact lv_astore hC.1 hC.2.1 hd h5.has hn rfl (fun ls9 h9 => (k p e R s mm args below meth c H locs cells slots Z ls9 hC h1 h2 h3 h4 (Lc.put1 h9) h6))
theorem r_bstore_n {i : Fin 4} {x : Nat} (hd : dd m pc (.astore_n i) 1 pc') (hn : (i : Nat) < mml m) (hL : st1 L i (.retAddr x) = L') (k : Rn o l m bg pc' L' st h Q) : Rn o l m bg pc L (.retAddr x :: st) h Q := by
  obtain ⟨hd, rfl⟩ := hd
  subst hL
  intro p e R s mm args below meth c H locs cells slots Z ls hC h1 h2 h3 h4 h5 h6
  exact lv_astore_n hC.1 hC.2.1 hd rfl h5.has hn rfl (fun ls9 h9 => (k p e R s mm args below meth c H locs cells slots Z ls9 hC h1 h2 h3 h4 (Lc.put1 h9) h6))
theorem r_iinc {i : Nat} {n : Int} {x v : Int32} (hd : dd m pc (.iinc i n) 3 pc') (hl : L[i]? = some (some (.int x))) (hv : x + Int32.ofInt n = v) (hn : i < mml m) (hL : st1 L i (.int v) = L') (k : Rn o l m bg pc' L' st h Q) : Rn o l m bg pc L st h Q := by
  obtain ⟨hd, rfl⟩ := hd
  subst hL
  intro p e R s mm args below meth c H locs cells slots Z ls hC h1 h2 h3 h4 h5 h6
  obtain ⟨k9, hk9⟩ := List.getElem?_of_mem (lvp_mem.mpr ⟨_, hl, rfl⟩ : (i, fv o (.int x)) ∈ lvp o L)
  exact lv_iinc hC.1 hC.2.1 hd h5.has hk9 hv hn rfl (fun ls9 h9 => (k p e R s mm args below meth c H locs cells slots Z ls9 hC h1 h2 h3 h4 (Lc.put1 (v := .int _) h9) h6))
theorem r_dup {v : Value} (hd : dd m pc .dup 1 pc') (hv : v.category = 1) (k : Rn o l m bg pc' L (v :: v :: st) h Q) : Rn o l m bg pc L (v :: st) h Q := by
  obtain ⟨hd, rfl⟩ := hd
  intro p e R s mm args below meth c H locs cells slots Z ls hC h1 h2 h3 h4 h5 h6
  exact lv_dup hC.1 hC.2.1 hd (by rw [fv_cat]; exact hv) (k p e R s mm args below meth c H locs cells slots Z ls hC h1 h2 h3 h4 h5 h6)
theorem r_pop {v : Value} (hd : dd m pc .pop 1 pc') (hv : v.category = 1) (k : Rn o l m bg pc' L st h Q) : Rn o l m bg pc L (v :: st) h Q := by
  obtain ⟨hd, rfl⟩ := hd
  intro p e R s mm args below meth c H locs cells slots Z ls hC h1 h2 h3 h4 h5 h6
  exact lv_pop hC.1 hC.2.1 hd (by rw [fv_cat]; exact hv) (k p e R s mm args below meth c H locs cells slots Z ls hC h1 h2 h3 h4 h5 h6)
theorem r_if_eq {x : Int32} (hd : db m pc (.ifCond .eq) pc' tgt) (kt : x = 0 → Rn o l m bg tgt L st h Q) (kf : ¬ x = 0 → Rn o l m bg pc' L st h Q) : Rn o l m bg pc L (.int x :: st) h Q := by
  obtain ⟨off, hd, rfl, ht⟩ := hd
  intro p e R s mm args below meth c H locs cells slots Z ls hC h1 h2 h3 h4 h5 h6
  exact lv_if_eq hC.1 hC.2.1 hd ht (fun q9 => (kt q9 p e R s mm args below meth c H locs cells slots Z ls hC h1 h2 h3 h4 h5 h6)) (fun q9 => (kf q9 p e R s mm args below meth c H locs cells slots Z ls hC h1 h2 h3 h4 h5 h6))
theorem r_if_ne {x : Int32} (hd : db m pc (.ifCond .ne) pc' tgt) (kt : ¬ x = 0 → Rn o l m bg tgt L st h Q) (kf : x = 0 → Rn o l m bg pc' L st h Q) : Rn o l m bg pc L (.int x :: st) h Q := by
  obtain ⟨off, hd, rfl, ht⟩ := hd
  intro p e R s mm args below meth c H locs cells slots Z ls hC h1 h2 h3 h4 h5 h6
  exact lv_if_ne hC.1 hC.2.1 hd ht (fun q9 => (kt q9 p e R s mm args below meth c H locs cells slots Z ls hC h1 h2 h3 h4 h5 h6)) (fun q9 => (kf q9 p e R s mm args below meth c H locs cells slots Z ls hC h1 h2 h3 h4 h5 h6))
theorem r_if_lt {x : Int32} (hd : db m pc (.ifCond .lt) pc' tgt) (kt : x < 0 → Rn o l m bg tgt L st h Q) (kf : ¬ x < 0 → Rn o l m bg pc' L st h Q) : Rn o l m bg pc L (.int x :: st) h Q := by
  obtain ⟨off, hd, rfl, ht⟩ := hd
  intro p e R s mm args below meth c H locs cells slots Z ls hC h1 h2 h3 h4 h5 h6
  exact lv_if_lt hC.1 hC.2.1 hd ht (fun q9 => (kt q9 p e R s mm args below meth c H locs cells slots Z ls hC h1 h2 h3 h4 h5 h6)) (fun q9 => (kf q9 p e R s mm args below meth c H locs cells slots Z ls hC h1 h2 h3 h4 h5 h6))
theorem r_if_ge {x : Int32} (hd : db m pc (.ifCond .ge) pc' tgt) (kt : 0 ≤ x → Rn o l m bg tgt L st h Q) (kf : ¬ 0 ≤ x → Rn o l m bg pc' L st h Q) : Rn o l m bg pc L (.int x :: st) h Q := by
  obtain ⟨off, hd, rfl, ht⟩ := hd
  intro p e R s mm args below meth c H locs cells slots Z ls hC h1 h2 h3 h4 h5 h6
  exact lv_if_ge hC.1 hC.2.1 hd ht (fun q9 => (kt q9 p e R s mm args below meth c H locs cells slots Z ls hC h1 h2 h3 h4 h5 h6)) (fun q9 => (kf q9 p e R s mm args below meth c H locs cells slots Z ls hC h1 h2 h3 h4 h5 h6))
theorem r_if_gt {x : Int32} (hd : db m pc (.ifCond .gt) pc' tgt) (kt : 0 < x → Rn o l m bg tgt L st h Q) (kf : ¬ 0 < x → Rn o l m bg pc' L st h Q) : Rn o l m bg pc L (.int x :: st) h Q := by
  obtain ⟨off, hd, rfl, ht⟩ := hd
  intro p e R s mm args below meth c H locs cells slots Z ls hC h1 h2 h3 h4 h5 h6
  exact lv_if_gt hC.1 hC.2.1 hd ht (fun q9 => (kt q9 p e R s mm args below meth c H locs cells slots Z ls hC h1 h2 h3 h4 h5 h6)) (fun q9 => (kf q9 p e R s mm args below meth c H locs cells slots Z ls hC h1 h2 h3 h4 h5 h6))
theorem r_if_le {x : Int32} (hd : db m pc (.ifCond .le) pc' tgt) (kt : x ≤ 0 → Rn o l m bg tgt L st h Q) (kf : ¬ x ≤ 0 → Rn o l m bg pc' L st h Q) : Rn o l m bg pc L (.int x :: st) h Q := by
  obtain ⟨off, hd, rfl, ht⟩ := hd
  intro p e R s mm args below meth c H locs cells slots Z ls hC h1 h2 h3 h4 h5 h6
  exact lv_if_le hC.1 hC.2.1 hd ht (fun q9 => (kt q9 p e R s mm args below meth c H locs cells slots Z ls hC h1 h2 h3 h4 h5 h6)) (fun q9 => (kf q9 p e R s mm args below meth c H locs cells slots Z ls hC h1 h2 h3 h4 h5 h6))
theorem r_icmp_eq {x y : Int32} (hd : db m pc (.if_icmp .eq) pc' tgt) (kt : x = y → Rn o l m bg tgt L st h Q) (kf : ¬ x = y → Rn o l m bg pc' L st h Q) : Rn o l m bg pc L (.int y :: .int x :: st) h Q := by
  obtain ⟨off, hd, rfl, ht⟩ := hd
  intro p e R s mm args below meth c H locs cells slots Z ls hC h1 h2 h3 h4 h5 h6
  exact lv_icmp_eq hC.1 hC.2.1 hd ht (fun q9 => (kt q9 p e R s mm args below meth c H locs cells slots Z ls hC h1 h2 h3 h4 h5 h6)) (fun q9 => (kf q9 p e R s mm args below meth c H locs cells slots Z ls hC h1 h2 h3 h4 h5 h6))
theorem r_icmp_ne {x y : Int32} (hd : db m pc (.if_icmp .ne) pc' tgt) (kt : ¬ x = y → Rn o l m bg tgt L st h Q) (kf : x = y → Rn o l m bg pc' L st h Q) : Rn o l m bg pc L (.int y :: .int x :: st) h Q := by
  obtain ⟨off, hd, rfl, ht⟩ := hd
  intro p e R s mm args below meth c H locs cells slots Z ls hC h1 h2 h3 h4 h5 h6
  exact lv_icmp_ne hC.1 hC.2.1 hd ht (fun q9 => (kt q9 p e R s mm args below meth c H locs cells slots Z ls hC h1 h2 h3 h4 h5 h6)) (fun q9 => (kf q9 p e R s mm args below meth c H locs cells slots Z ls hC h1 h2 h3 h4 h5 h6))
theorem r_icmp_lt {x y : Int32} (hd : db m pc (.if_icmp .lt) pc' tgt) (kt : x < y → Rn o l m bg tgt L st h Q) (kf : ¬ x < y → Rn o l m bg pc' L st h Q) : Rn o l m bg pc L (.int y :: .int x :: st) h Q := by
  obtain ⟨off, hd, rfl, ht⟩ := hd
  intro p e R s mm args below meth c H locs cells slots Z ls hC h1 h2 h3 h4 h5 h6
  exact lv_icmp_lt hC.1 hC.2.1 hd ht (fun q9 => (kt q9 p e R s mm args below meth c H locs cells slots Z ls hC h1 h2 h3 h4 h5 h6)) (fun q9 => (kf q9 p e R s mm args below meth c H locs cells slots Z ls hC h1 h2 h3 h4 h5 h6))
theorem r_icmp_ge {x y : Int32} (hd : db m pc (.if_icmp .ge) pc' tgt) (kt : y ≤ x → Rn o l m bg tgt L st h Q) (kf : ¬ y ≤ x → Rn o l m bg pc' L st h Q) : Rn o l m bg pc L (.int y :: .int x :: st) h Q := by
  obtain ⟨off, hd, rfl, ht⟩ := hd
  intro p e R s mm args below meth c H locs cells slots Z ls hC h1 h2 h3 h4 h5 h6
  exact lv_icmp_ge hC.1 hC.2.1 hd ht (fun q9 => (kt q9 p e R s mm args below meth c H locs cells slots Z ls hC h1 h2 h3 h4 h5 h6)) (fun q9 => (kf q9 p e R s mm args below meth c H locs cells slots Z ls hC h1 h2 h3 h4 h5 h6))
theorem r_icmp_gt {x y : Int32} (hd : db m pc (.if_icmp .gt) pc' tgt) (kt : y < x → Rn o l m bg tgt L st h Q) (kf : ¬ y < x → Rn o l m bg pc' L st h Q) : Rn o l m bg pc L (.int y :: .int x :: st) h Q := by
  obtain ⟨off, hd, rfl, ht⟩ := hd
  intro p e R s mm args below meth c H locs cells slots Z ls hC h1 h2 h3 h4 h5 h6
  exact lv_icmp_gt hC.1 hC.2.1 hd ht (fun q9 => (kt q9 p e R s mm args below meth c H locs cells slots Z ls hC h1 h2 h3 h4 h5 h6)) (fun q9 => (kf q9 p e R s mm args below meth c H locs cells slots Z ls hC h1 h2 h3 h4 h5 h6))
theorem r_icmp_le {x y : Int32} (hd : db m pc (.if_icmp .le) pc' tgt) (kt : x ≤ y → Rn o l m bg tgt L st h Q) (kf : ¬ x ≤ y → Rn o l m bg pc' L st h Q) : Rn o l m bg pc L (.int y :: .int x :: st) h Q := by
  obtain ⟨off, hd, rfl, ht⟩ := hd
  intro p e R s mm args below meth c H locs cells slots Z ls hC h1 h2 h3 h4 h5 h6
  exact lv_icmp_le hC.1 hC.2.1 hd ht (fun q9 => (kt q9 p e R s mm args below meth c H locs cells slots Z ls hC h1 h2 h3 h4 h5 h6)) (fun q9 => (kf q9 p e R s mm args below meth c H locs cells slots Z ls hC h1 h2 h3 h4 h5 h6))
theorem r_goto (hd : db m pc .goto pc' tgt) (k : Rn o l m bg tgt L st h Q) : Rn o l m bg pc L st h Q := by
  obtain ⟨off, hd, rfl, ht⟩ := hd
  intro p e R s mm args below meth c H locs cells slots Z ls hC h1 h2 h3 h4 h5 h6
  exact lv_goto hC.1 hC.2.1 hd ht (k p e R s mm args below meth c H locs cells slots Z ls hC h1 h2 h3 h4 h5 h6)
theorem r_tsIn {x : Int32} {dflt lo hi off : Int} {offs : Array Int} {len : Nat} (hd : decode (mbt m) pc = .ok (.tableswitch dflt lo hi offs, len)) (a1 : ¬ x.toInt < lo) (a2 : ¬ hi < x.toInt) (ho : offs[(x.toInt - lo).toNat]? = some off) (ht : (pc : Int) + off = (tgt : Int)) (k : Rn o l m bg tgt L st h Q) : Rn o l m bg pc L (.int x :: st) h Q := by
  intro p e R s mm args below meth c H locs cells slots Z ls hC h1 h2 h3 h4 h5 h6
  exact lv_tableIn hC.1 hC.2.1 hd a1 a2 ho ht (k p e R s mm args below meth c H locs cells slots Z ls hC h1 h2 h3 h4 h5 h6)
theorem r_tsOut {x : Int32} {dflt lo hi : Int} {offs : Array Int} {len : Nat} (hd : decode (mbt m) pc = .ok (.tableswitch dflt lo hi offs, len)) (a1 : x.toInt < lo ∨ hi < x.toInt) (ht : (pc : Int) + dflt = (tgt : Int)) (k : Rn o l m bg tgt L st h Q) : Rn o l m bg pc L (.int x :: st) h Q := by
  intro p e R s mm args below meth c H locs cells slots Z ls hC h1 h2 h3 h4 h5 h6
  exact lv_tableOut hC.1 hC.2.1 hd a1 ht (k p e R s mm args below meth c H locs cells slots Z ls hC h1 h2 h3 h4 h5 h6)
theorem r_ireturn {x : Int32} (hd : decode (mbt m) pc = .ok (.ireturn, 1)) (hr : mrt m = some .int) (hq : Q (some (.int x)) h) : Rn o l m bg pc L [.int x] h Q := by
  intro p e R s mm args below meth c H locs cells slots Z ls hC h1 h2 h3 h4 h5 h6
  exact h6 (some (.int x)) h H locs cells slots pc ls bg hq h3 h4 h1 h2 (Or.inl ⟨x, .int, rfl, hr, rfl, hd⟩) h5.1
theorem r_zreturn {x : Int32} (hd : decode (mbt m) pc = .ok (.ireturn, 1)) (hr : mrt m = some .boolean) (hx : narrow .boolean (.int x) = .int x) (hq : Q (some (.int x)) h) : Rn o l m bg pc L [.int x] h Q := by
  intro p e R s mm args below meth c H locs cells slots Z ls hC h1 h2 h3 h4 h5 h6
  exact h6 (some (.int x)) h H locs cells slots pc ls bg hq h3 h4 h1 h2 (Or.inl ⟨x, .boolean, rfl, hr, hx, hd⟩) h5.1
theorem r_lreturn {x : Int64} (hd : decode (mbt m) pc = .ok (.lreturn, 1)) (hr : mrt m = some .long) (hq : Q (some (.long x)) h) : Rn o l m bg pc L [.long x] h Q := by
  intro p e R s mm args below meth c H locs cells slots Z ls hC h1 h2 h3 h4 h5 h6
  exact h6 (some (.long x)) h H locs cells slots pc ls bg hq h3 h4 h1 h2 (Or.inr (Or.inl ⟨x, rfl, hr, hd⟩)) h5.1
theorem r_return (hd : decode (mbt m) pc = .ok (.return_, 1)) (hr : mrt m = none) (hq : Q none h) : Rn o l m bg pc L [] h Q := by
  intro p e R s mm args below meth c H locs cells slots Z ls hC h1 h2 h3 h4 h5 h6
  exact h6 none h H locs cells slots pc ls bg hq h3 h4 h1 h2 (Or.inr (Or.inr (Or.inl ⟨rfl, hr, hd⟩))) h5.1
/-- less is known of the locals -/
theorem r_weak (hw : ∀ (i : Nat) (v : Value), L'[i]? = some (some v) → L[i]? = some (some v)) (k : Rn o l m bg pc L' st h Q) : Rn o l m bg pc L st h Q := by
  intro p e R s mm args below meth c H locs cells slots Z ls hC h1 h2 h3 h4 h5 h6
  exact k p e R s mm args below meth c H locs cells slots Z ls hC h1 h2 h3 h4 ⟨h5.1, h5.2.1, fun i v hi => h5.2.2 i v (hw i v hi)⟩ h6
theorem r_post {Q' : Option Value → AH → Prop} (hq : ∀ v h, Q' v h → Q v h) (k : Rn o l m bg pc L st h Q') : Rn o l m bg pc L st h Q := by
  intro p e R s mm args below meth c H locs cells slots Z ls hC h1 h2 h3 h4 h5 h6
  exact k p e R s mm args below meth c H locs cells slots Z ls hC h1 h2 h3 h4 h5 (fun v h' H' locs' cells' slots' pc' ls' bg' q => h6 v h' H' locs' cells' slots' pc' ls' bg' (hq v h' q))
theorem r_budget {bg' : Nat × Nat} (a1 : bg'.1 ≤ bg.1) (a2 : bg'.2 ≤ bg.2) (k : Rn o l m bg' pc L st h Q) : Rn o l m bg pc L st h Q := by
  intro p e R s mm args below meth c H locs cells slots Z ls hC h1 h2 h3 h4 h5 h6
  exact k p e R s mm args below meth c H locs cells slots Z ls hC (by omega) (by omega) h3 h4 h5 h6
end RU
