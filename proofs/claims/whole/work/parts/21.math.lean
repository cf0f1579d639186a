theorem cl_ofF {o : OM} {l : Launch} {m : MD} {bg : Nat × Nat} {av : List Value} {h : AH} {Q : Option Value → AH → Prop} {L : List (Option Value)} (hp : plainFor (mnam m) = true) (hcls : (mnam m).cls = mcls m) (hL : entL av (mml m) = L) (hlen : (lg_sl av).length ≤ mml m) (hQn : mrt m = some .int → ∀ h', ¬ Q none h')
    (k : Rn o l m bg 0 L [] h Q) : Cl o l m bg av h Q := by
  refine va_MetF (cc := mbt m) (maxL := mml m) (ret := mrt m) hp rfl ?_
  intro p e s mm args below meth c s₁ B hml hv
  obtain ⟨rfl, hRp, hK⟩ := hv
  have hts := atoms_spec (ws := mws m) B.pre
  have hown : s.vm.findClass (mnam m).cls = some mm.cls := findClass_of_methodNamed B.named
  have hlocks := B.notSynchronized
  have hr := B.returns
  have hx := B.exec
  have hb := B.bytes
  rw [lg_entry_eq]
  have hl := lv_entry (av.map (fv o)) (n := mml m) (by rw [lg_len]; exact hlen)
  refine k p e _ s mm _ below meth c s.heap [] 0 0 _ _ ⟨hx, hb, hr, hml, hcls ▸ hown, fun w hw => hts w (List.mem_cons_of_mem _ hw), hK, hlocks, (name_of_methodNamed B.named B.method).1, Nat.le_refl _, Nat.le_refl _⟩ (by show 0 + bg.1 ≤ bg.1; omega) (by show 0 + bg.2 ≤ bg.2; omega) hRp (fun q h => by cases h) ⟨hl.1, hl.2.1, fun i v hi => ?_⟩ ?_
  · have := entL_args o av (mml m) 0 i v (by rw [hL]; exact hi)
    rw [Nat.zero_add] at this
    exact hl.2.2 _ this
  · intro v h' H' locs' cells' slots' pc' ls' bg' hQ hRp' hlo hc hs hret hsz
    refine W.widen (k := bg.1) (n := bg.2) (Nat.le_trans (Nat.le_add_right _ _) hc) (Nat.le_trans (Nat.le_add_right _ _) hs) ?_
    rcases hret with ⟨x, ty, rfl, hty, hn, hd⟩ | ⟨x, rfl, hty, hd⟩ | ⟨rfl, hty, hd⟩ | ⟨rfl, hty, -⟩
    · exact W.zret hx hb (hr.trans hty) hn (fun t ht hW => ⟨some (.int x), h', rfl, hQ, by rw [ht]; exact hRp'⟩) hlo hd
    · exact W.lret hx hb (hr.trans hty) (fun t ht hW => ⟨some (.long x), h', rfl, hQ, by rw [ht]; exact hRp'⟩) hlo hd
    · exact W.vret hx hb (hr.trans hty) (fun t ht hW => ⟨none, h', rfl, hQ, by rw [ht]; exact hRp'⟩) hlo hd
    · exact absurd hQ (hQn hty h')
section RMA
variable {o : OM} {l : Launch} {m : MD} {bg : Nat × Nat} {pc pc' tgt : Nat} {L L' : List (Option Value)} {st : List Value} {n : Nat} {M : Mem} {h : AH} {Q : Option Value → AH → Prop}
theorem ci_ofF {av : List Value} {P : Int32 → Mem → Prop} (hp : plainFor (mnam m) = true) (hcls : (mnam m).cls = mcls m) (hL : entL av (mml m) = L) (hlen : (lg_sl av).length ≤ mml m) (k : Rn o l m (0, 0) 0 L [] (gh n M) (QI n P)) : CI o l m n av M P := cl_ofF hp hcls hL hlen (fun _ h' z => by obtain ⟨x, M', e, _⟩ := z; cases e) k
theorem r_mmin {idx nn a b : Nat} (hd : dd m pc (.invokestatic idx) 3 pc') (hk : LKd (mcls m) idx nn m_Ma_min) (hdp : 1 ≤ mdp m) (hw : (st.map fun v => v.category).sum ≤ 8) (ha : a < 2 ^ 31) (hb : b < 2 ^ 31) (kk : Rn o l m bg pc' L (.int (nI (min a b)) :: st) h Q) : Rn o l m bg pc L (.int (nI b) :: .int (nI a) :: st) h Q := by
  obtain ⟨hd, rfl⟩ := hd
  intro p e R s mm args below meth c H locs cells slots Z ls hC h1 h2 h3 h4 h5 h6
  have hts := hC.2.2.2.2.2.1
  have hf := hC.2.2.2.2.2.2.2.2.2.1
  have hl := hC.2.2.2.2.2.2.2.2.2.2
  refine va_mmin hC.1 hC.2.1 (by rw [hC.2.2.2.1]; exact h5.1.symm) hC.2.2.2.2.1 (hts _ hk.2.2.1) (hts _ ws_Ma_min) (hts _ wi_Ma) (hts _ w_Ma_min) (by omega) (by rw [cat_map]; omega) (by omega) (by omega) hd ?_
  have e9 : (if nI b < nI a then nI b else nI a) = nI (min a b) := by
    by_cases q : b < a
    · rw [if_pos ((nI_ltI hb ha).mpr q), Nat.min_eq_right (by omega)]
    · rw [if_neg (fun z => q ((nI_ltI hb ha).mp z)), Nat.min_eq_left (by omega)]
  rw [e9]
  exact kk p e R s mm args below meth c H locs cells slots Z ls hC h1 h2 h3 h4 h5 h6
theorem r_mabs {idx nn : Nat} {x : Int32} (hd : dd m pc (.invokestatic idx) 3 pc') (hk : LKd (mcls m) idx nn m_Ma_abs) (hdp : 1 ≤ mdp m) (hw : (st.map fun v => v.category).sum ≤ 8) (kk : Rn o l m bg pc' L (.int (if 0 ≤ x then x else 0 - x) :: st) h Q) : Rn o l m bg pc L (.int x :: st) h Q := by
  obtain ⟨hd, rfl⟩ := hd
  intro p e R s mm args below meth c H locs cells slots Z ls hC h1 h2 h3 h4 h5 h6
  have hts := hC.2.2.2.2.2.1
  have hf := hC.2.2.2.2.2.2.2.2.2.1
  have hl := hC.2.2.2.2.2.2.2.2.2.2
  exact va_mabs hC.1 hC.2.1 (by rw [hC.2.2.2.1]; exact h5.1.symm) hC.2.2.2.2.1 (hts _ hk.2.2.1) (hts _ ws_Ma_abs) (hts _ wi_Ma) (hts _ w_Ma_abs) (by omega) (by rw [cat_map]; omega) (by omega) (by omega) hd (kk p e R s mm args below meth c H locs cells slots Z ls hC h1 h2 h3 h4 h5 h6)
end RMA
