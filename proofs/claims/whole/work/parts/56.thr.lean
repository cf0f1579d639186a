/-! entry and production: they may throw -/
theorem va_Nw_declares {x : MethodName} {s U : State} (hW : s.WarmedH U.vm) (hZ : va_Nw (.declares x) s) : va_Nw (.declares x) U := va_tabs rfl (rfl : (s.setVm U.vm).vm = U.vm) (by rw [Cond.declares_setVm hW.alike]; exact hZ)
def OE (o : OM) : Prop := (∀ w, w ∈ lw_tbl → w.onTables = true → va_Nw w (os0 o)) ∧ vx_Zq Bundle.tN "UNASSIGNED_STACK" Bundle.steD (fun q => ob0 o ≤ q) (os0 o) (oH0 o) ∧ vx_Zq Bundle.tN "SUPPRESSED_SENTINEL" Bundle.listD (fun q => ob0 o ≤ q) (os0 o) (oH0 o)
abbrev nse : String := "java/util/NoSuchElementException"
def nsw : List Cond := vx_at0 "SeriesTables" 170 nse ["java/lang/RuntimeException", "java/lang/Exception"]
def isCast (w : Cond) : Bool := match w with
  | .castable _ _ => true
  | .declares _ => true
  | _ => false
theorem nsw_in : ∀ w ∈ nsw, w ∈ lw_tbl := by decide +kernel
theorem nsw_ot : ∀ w ∈ nsw, vx_ot w = true := by decide +kernel
theorem nsw_gc : ∀ w ∈ nsw, goodWord w = true ∨ isCast w = true := by decide +kernel
theorem lk_nse : Cond.classLink "SeriesTables" 168 nse ∈ gt_ws := gt_in (show Cond.classLink "SeriesTables" 168 nse ∈ lw_tbl by decide +kernel) (by decide +kernel)
theorem in_nse : Cond.initialized nse ∈ gt_ws := gt_in (show Cond.initialized nse ∈ lw_tbl by decide +kernel) (by decide +kernel)
theorem nsw_ok {o : OM} {s : State} {args : Array Value} (hE : OE o) (hK : Kx o s) (hts : ∀ w ∈ gt_ws, w.before args s = true) : ∀ w ∈ nsw, w.before args s = true := by
  intro w hw
  rcases nsw_gc w hw with hg | hc
  · exact hts w (gt_in (nsw_in w hw) hg)
  · match w, hc, hw with
    | .castable C T, _, hw => exact va_Nw.use rfl (va_Nw.warmC hK.2 (hE.1 _ (nsw_in _ hw) rfl))
    | .declares x, _, hw => exact va_Nw.use rfl (va_Nw_declares hK.2 (hE.1 _ (nsw_in _ hw) rfl))
def m_E : MD := ("SeriesTables", ⟨"SeriesTables", "entry", "(III)I"⟩, mbt m_X_entry, 4, some .int, 12)
def m_P : MD := ("SeriesTables", ⟨"SeriesTables", "production", "(III)I"⟩, mbt m_X_production, 4, some .int, 12)
section THR
variable {o : OM} {l : Launch} {m : MD} {bg : Nat × Nat} {pc : Nat} {L : List (Option Value)} {h : AH} {Q : Option Value → AH → Prop}
theorem r_thr (hr : mrt m = some .int) (hb : bg = (1, 6)) (hq : Q none h) : Rn o l m bg 24 L [] h Q := by
  intro p e R s mm args below meth c H locs cells slots Z ls hC h1 h2 h3 h4 h5 h6
  exact h6 none h H locs cells slots 24 ls bg hq h3 h4 h1 h2 (Or.inr (Or.inr (Or.inr ⟨rfl, hr, by rw [hb], by rw [hb], rfl⟩))) h5.1
/-- a contract of a method that returns or throws -/
def XCo (o : OM) (Q : Option Value → AH → Prop) : String → State → State → Prop := fun E _ t => E = nse ∧ ∃ h' n', Q none h' ∧ hN h' ≤ n' ∧ Rp o (n', h'.2) t.heap
theorem Rp.grow {H H1 : Heap} (h3 : Rp o h H) (h1 : H.size ≤ H1.size) (h2 : ∀ q : Nat, q < H.size → H1[q]? = H[q]?) : Rp o (H1.size - ob0 o, h.2) H1 := by
  obtain ⟨g1, g2, g3⟩ := h3
  refine ⟨?_, fun q hq => ?_, fun a ha => ?_⟩
  · show H1.size = ob0 o + (H1.size - ob0 o)
    omega
  · rw [h2 q (by omega)]
    exact g2 q hq
  · obtain ⟨q1, q2, q3⟩ := g3 a ha
    have q2 : a < h.1 := q2
    refine ⟨q1, ?_, ?_⟩
    · show a < H1.size - ob0 o
      have : H.size = ob0 o + h.1 := g1
      omega
    · exact q3.kept (h2 _ (by have : H.size = ob0 o + h.1 := g1; omega))
theorem clx_of {av : List Value} (hl : l.stackTraces = false) (hE : OE o) (hp : plainName (mnam m).cls = true) (hcls : (mnam m).cls = mcls m) (hm : mcls m = "SeriesTables") (hL : entL av (mml m) = L) (hlen : (lg_sl av).length ≤ mml m) (hdp : 12 ≤ mdp m) (hri : mrt m = some .int) (hnn : ∀ h', Q none h' → hN h ≤ hN h')
    (d0 : decode (mbt m) 24 = .ok (.new 168, 3)) (d3 : decode (mbt m) 27 = .ok (.dup, 1)) (d4 : decode (mbt m) 28 = .ok (.invokespecial 170, 3)) (d7 : decode (mbt m) 31 = .ok (.athrow, 1))
    (k : Rn o l m (1, 6) 0 L [] h Q) : vx_Met l (mnam m) (mws m) (rmo m (1, 6)) (Pco o av h) (Qco o (fun v h' => v ≠ none ∧ Q v h')) (XCo o Q) 1 6 (fun q => ob0 o ≤ q) := by
  refine vx_ofW (cc := mbt m) (maxL := mml m) (ret := mrt m) hp rfl ?_
  intro p e s mm args below meth c s₁ B hml hnx hv
  obtain ⟨rfl, hRp, hK⟩ := hv
  have hts := atoms_spec (ws := mws m) B.pre
  have hown : s.vm.findClass (mnam m).cls = some mm.cls := findClass_of_methodNamed B.named
  have hlocks := B.notSynchronized
  have hr := B.returns
  have hx := B.exec
  have hb := B.bytes
  have htg : ∀ w ∈ gt_ws, w.before (av.map (fv o)).toArray s = true := fun w hw => hts w (List.mem_cons_of_mem _ hw)
  rw [lg_entry_eq]
  have hl' := lv_entry (av.map (fv o)) (n := mml m) (by rw [lg_len]; exact hlen)
  refine k p e _ s mm _ below meth c s.heap [] 0 0 _ _ ⟨hx, hb, hr, hml, hcls ▸ hown, htg, hK, hlocks, (name_of_methodNamed B.named B.method).1, Nat.le_refl _, Nat.le_refl _⟩ (by show 0 + 1 ≤ 1; omega) (by show 0 + 6 ≤ 6; omega) hRp (fun q h => by cases h) ⟨hl'.1, hl'.2.1, fun i v hi => ?_⟩ ?_
  · have := entL_args o av (mml m) 0 i v (by rw [hL]; exact hi)
    rw [Nat.zero_add] at this
    exact hl'.2.2 _ this
  · intro v h' H' locs' cells' slots' pc' ls' bg' hQ hRp' hlo hc hs hret hsz
    rcases hret with ⟨x, ty, rfl, hty, hn, hd⟩ | ⟨x, rfl, hty, hd⟩ | ⟨rfl, hty, hd⟩ | ⟨rfl, hty, hb1, hb2, rfl⟩
    · refine vx_ret (W.widen (k := 1) (n := 6) (Nat.le_trans (Nat.le_add_right _ _) hc) (Nat.le_trans (Nat.le_add_right _ _) hs) ?_)
      exact W.zret hx hb (hr.trans hty) hn (fun t ht hW => ⟨some (.int x), h', rfl, ⟨by simp, hQ⟩, by rw [ht]; exact hRp'⟩) hlo hd
    · refine vx_ret (W.widen (k := 1) (n := 6) (Nat.le_trans (Nat.le_add_right _ _) hc) (Nat.le_trans (Nat.le_add_right _ _) hs) ?_)
      exact W.lret hx hb (hr.trans hty) (fun t ht hW => ⟨some (.long x), h', rfl, ⟨by simp, hQ⟩, by rw [ht]; exact hRp'⟩) hlo hd
    · rw [hri] at hty
      cases hty
    · have hZ1 := (hE.2.1.moved hK.al).kept hRp.old
      have hZ2 := (hE.2.2.moved hK.al).kept hRp.old
      have hS : va_S (fun q => ob0 o ≤ q) s.heap H' locs' := ⟨by rw [hRp.1, hRp'.1]; have := hnn h' hQ; omega, fun q hq hq2 => by rw [hRp'.2.1 q (by omega), hRp.2.1 q (by omega)], hlo⟩
      refine vx_throw0 (own := "SeriesTables") (cls := nse) (names := ["java/lang/RuntimeException", "java/lang/Exception"]) (ik := 168) (ic := 170) (A := fun q => ob0 o ≤ q) hx hb hl (by rw [← hm, ← hcls]; exact hown) (by decide) (by decide) (htg _ lk_nse) (htg _ in_nse) (nsw_ok hE hK htg) ?_ hZ1 hZ2 hS (hsz.trans hml.symm) d0 d3 d4 d7 (fun x hx => (hnx x hx).elim) ?_ ?_ ?_ ?_ hlocks (fun t ht h1 h2 => ⟨rfl, h', _, hQ, ?_, hRp'.grow h1 h2⟩) hlo ?_ ?_
      · intro w hw
        rcases List.mem_cons.mp hw with rfl | hw
        · decide +kernel
        · rcases List.mem_cons.mp hw with rfl | hw
          · decide +kernel
          · exact nsw_ot w hw
      · show 2 + 3 < mdp m
        omega
      · show 0 + (13 * (2 + 1) + 42) ≤ 36 * mdp m
        omega
      · omega
      · omega
      · have := hRp'.1
        show h'.1 ≤ t.heap.size - ob0 o
        have : H'.size = ob0 o + h'.1 := this
        omega
      · have : (headSpec (mws m) (rmo m (1, 6))).room.cells = 1 := rfl
        omega
      · have : (headSpec (mws m) (rmo m (1, 6))).room.slots = 6 := rfl
        omega
end THR
