theorem vr_outer (c : ClassId) (N h0 : Nat) : ∀ i : Nat, Jvm.Free.Multi.outerC c N h0 i = arrV c N (fun j => va_rf (if j < i then some (h0 + 1 + j) else none))
  | 0 => by
    show ({ cls := c, slots := Array.replicate N .null, vm := .none } : Cell) = _
    rw [arrV_new]
    refine congrArg (arrV c N) (funext fun j => ?_)
    simp [va_rf]
  | i + 1 => by
    show (Jvm.Free.Multi.outerC c N h0 i).setSlot i (.ref (h0 + 1 + i)) = _
    rw [vr_outer c N h0 i, arrV_store]
    refine congrArg (arrV c N) (funext fun j => ?_)
    by_cases e : j = i
    · subst e
      simp [updV, va_rf]
    · by_cases h : j < i
      · simp [updV, e, h, Nat.lt_succ_of_lt h]
      · simp [updV, e, h, show ¬ j < i + 1 by omega]
/-- an array of rows of ints, and its rows -/
def hmul (h : AH) (N K : Nat) : AH := (hN h + 1 + N, fun a => if a = hN h then (5, N) else if hN h < a ∧ a ≤ hN h + N then (1, K) else hT h a, fun a => if a = hN h then (fun i => if i < N then some (hN h + 1 + i) else none) else if hN h < a ∧ a ≤ hN h + N then (fun _ => none) else hR h a, fun a => if hN h ≤ a ∧ a ≤ hN h + N then (fun _ => 0) else hI h a)
section RM
variable {o : OM} {l : Launch} {m : MD} {bg : Nat × Nat} {pc pc' tgt : Nat} {L L' : List (Option Value)} {st : List Value} {h : AH} {Q : Option Value → AH → Prop}
theorem r_multi {idx N K : Nat} {n k : Int32} {bg' : Nat × Nat} (hd : dd m pc (.multianewarray idx 2) 4 pc') (hw : Cond.classLink (mcls m) idx "[[I" ∈ gt_ws ∧ Cond.arrayOver (.array .int) ∈ gt_ws ∧ Cond.arrayClass .int ∈ gt_ws) (hn : n = nI N) (hk : k = nI K) (hN0 : N ≤ 65536) (hK0 : K ≤ 65536) (hb1 : bg'.1 + (1 + N) = bg.1) (hb2 : bg'.2 + (N + N * K) = bg.2) (kk : Rn o l m bg' pc' L (.ref (hN h) :: st) (hmul h N K) Q) : Rn o l m bg pc L (.int k :: .int n :: st) h Q := by
  obtain ⟨hd, rfl⟩ := hd
  subst hn
  subst hk
  intro p e R s mm args below meth c H locs cells slots Z ls hC h1 h2 h3 h4 h5 h6
  have hts := hC.2.2.2.2.2.1
  have c1 : (nI N).toNatClampNeg = N := nI_clamp (by omega)
  have c2 : (nI K).toNatClampNeg = K := nI_clamp (by omega)
  intro T hT9 X
  obtain ⟨vm₁, cA, comp, -, fA, fC, hO, -, X', step⟩ := X.multianewarray2F hC.1 hC.2.2.2.2.1 (hts _ hw.1) (hts _ hw.2.1) (hts _ hw.2.2) (g := F0 mm pc ls (.int (nI K) :: .int (nI N) :: st.map (fv o))) rfl (by rw [hC.2.1]; exact hd) rfl (nI_pos (by omega)) (nI_pos (by omega)) (by rw [c1]; omega) (by rw [c2]; show K * 4 ≤ _; omega) (by rw [c2]; omega) rfl rfl (by rw [c1]; omega) (by rw [c1, c2]; omega)
  rw [c1, c2] at X' step
  have hA5 : odA o 5 = cA := by
    have := (arr_of hC.2.2.2.2.2.2.1 (t := 5) (by decide) (by decide)).2
    exact Option.some.inj ((show s.vm.findClass ("[" ++ (FieldType.array .int).toString) = some (odA o 5) from this).symm.trans fA)
  have hA1 : odA o 1 = comp := by
    have := (arr_of hC.2.2.2.2.2.2.1 (t := 1) (by decide) (by decide)).2
    exact Option.some.inj ((show s.vm.findClass (FieldType.array .int).toString = some (odA o 1) from this).symm.trans fC)
  subst hA5
  subst hA1
  generalize hF : Jvm.Free.Multi.fill (T.setVm vm₁) (odA o 5) (odA o 1) N K (defaultValue .int) N = F at X' step
  have hTh : (T.setVm vm₁).heap = H := hT9
  obtain ⟨f1, f2, -, -⟩ := Jvm.Free.Multi.fill_facts (T.setVm vm₁) (odA o 5) (odA o 1) N K (defaultValue .int) N
  rw [hF, hTh] at f1 f2
  have hold : ∀ x : Nat, x < H.size → F.heap[x]? = H[x]? := fun x hx => by
    have := Jvm.Free.Multi.fill_old (T.setVm vm₁) (odA o 5) (odA o 1) N K (defaultValue .int) (a := x) (by rw [hTh]; exact hx) N
    rw [hF, hTh] at this
    exact this
  have hrow : ∀ j : Nat, j < N → F.heap[H.size + 1 + j]? = some (arrV (odA o 1) K (fun _ => .int 0)) := fun j hj => by
    have := Jvm.Free.Multi.fill_inner (T.setVm vm₁) (odA o 5) (odA o 1) N K (defaultValue .int) N j hj
    rw [hF, hTh] at this
    rw [this, ← arrV_new]
    rfl
  rw [vr_outer] at f2
  have hs := h3.1
  have hRp : Rp o (hmul h N K) F.heap := by
    refine ⟨by rw [f1, hs]; show ob0 o + hN h + 1 + N = ob0 o + (hN h + 1 + N); omega, fun q hq => (hold q (by omega)).trans (h3.2.1 q hq), fun b hb => ?_⟩
    show (if b = hN h then (5, N) else if hN h < b ∧ b ≤ hN h + N then (1, K) else hT h b).1 < 19 ∧ b < hN h + 1 + N ∧ okc o b (if b = hN h then (5, N) else if hN h < b ∧ b ≤ hN h + N then (1, K) else hT h b) (if b = hN h then (fun i => if i < N then some (hN h + 1 + i) else none) else if hN h < b ∧ b ≤ hN h + N then (fun _ => none) else hR h b) (if hN h ≤ b ∧ b ≤ hN h + N then (fun _ => 0) else hI h b) F.heap
    have hb9 : (if b = hN h then (5, N) else if hN h < b ∧ b ≤ hN h + N then (1, K) else hT h b).1 ≠ 0 := hb
    by_cases e : b = hN h
    · subst e
      rw [if_pos rfl, if_pos rfl]
      refine ⟨by simp, by omega, ?_⟩
      rw [okc_arr (by simp), ← hs, f2]
      congr 2
      funext j
      simp only [cv, isR, fr, if_pos]
      by_cases hj : j < N
      · simp [hj, hs, Nat.add_assoc]
      · simp [hj]
    · rw [if_neg e, if_neg e] 
      rw [if_neg e] at hb9
      by_cases e2 : hN h < b ∧ b ≤ hN h + N
      · rw [if_pos e2, if_pos e2, if_pos (by omega)]
        refine ⟨by simp, by omega, ?_⟩
        rw [okc_arr (by simp)]
        have := hrow (b - hN h - 1) (by omega)
        rw [show H.size + 1 + (b - hN h - 1) = ob0 o + b by omega] at this
        rw [this]
        congr 2
      · rw [if_neg e2, if_neg e2]
        rw [if_neg e2] at hb9
        obtain ⟨g1, g2, g3⟩ := h3.2.2 b hb9
        rw [if_neg (by omega)]
        exact ⟨g1, by omega, g3.kept (hold _ (by omega))⟩
  obtain ⟨t, a1, b1⟩ := kk p e R s mm args below meth c F.heap locs (cells + 1 + N) (slots + N + N * K) Z ls hC (by omega) (by omega) hRp h4 h5 h6 F rfl X'
  refine ⟨t, step t ?_, b1⟩
  have e9 : T.heap.size = ob0 o + hN h := by rw [hT9, hs]
  rw [e9]
  exact a1
end RM
