/-! the law's own entry and production: they catch what the class throws -/
theorem met_ofWH {l : Launch} {y : MethodName} {ws ws' : List Cond} {rm : Room} {Pc : Array Value → State → Prop} {Qc : Array Value → State → Outcome → State → Prop} {mc ms : Nat} {free : Addr → Prop} {cc : ByteArray} {maxL : Nat} {ret : Option FieldType} {hh : List (Nat × Nat × Nat × Nat)}
    (hy : plainName y.cls = true) (hw : ws = Cond.codeWith y cc maxL ret hh :: ws')
    (body : ∀ p e s m args below meth c s₁, BodyLoose p l y (headSpec ws rm) cc maxL ret e s m args below meth c s₁ → c.maxLocals = maxL → Pc args s →
      W p l e (headSpec ws rm).room s m args below meth c s.heap [] 0 0 (MQ below Qc args s mc ms free) (entryFrame m args maxL)) : Met l y ws rm Pc Qc mc ms free := by
  refine MetFree.of_bodyS (code := cc) (maxLocals := maxL) (ret := ret) hy ?_ ?_
  · intro args s m h hn
    obtain ⟨m9, meth, c, hn9, h1, h2, h3, h4, -, h5, h6, -⟩ := Cond.codeWith_spec (atoms_spec (ws := ws) h _ (by rw [hw]; exact List.mem_cons_self))
    cases hn.symm.trans hn9
    exact ⟨meth, c, h1, h2, h3, h4, h5, h6⟩
  · intro p e s m args below meth c s₁ B hml hP _
    have hh0 : s₁.heap = s.heap := by rw [B.state]; rfl
    obtain ⟨t, a1, o, b1, b2, b3⟩ := body p e s m args below meth c s₁ B hml hP s₁ hh0 (Stand.of_body B)
    exact ⟨t, o, a1, b1, b2, ⟨b3.1, b3.2⟩⟩
abbrev hhL : List (Nat × Nat × Nat × Nat) := [(0, 12, 15, 13)]
def mwx (m : MD) : List Cond := .codeWith (mnam m) (mbt m) (mml m) (mrt m) hhL :: gt_ws
theorem lk_cat : Cond.classLink "SeriesTablesLaw" 13 nse ∈ gt_ws := gt_in (show Cond.classLink "SeriesTablesLaw" 13 nse ∈ lw_tbl by decide +kernel) (by decide +kernel)
theorem in_cas : Cond.castable nse nse ∈ lw_tbl := by decide +kernel
def m_LE : MD := ("SeriesTablesLaw", ⟨"SeriesTablesLaw", "entry", "(LSeriesTables;III[J)I"⟩, method_3_code, 6, some .int, 13)
def m_LP : MD := ("SeriesTablesLaw", ⟨"SeriesTablesLaw", "production", "(LSeriesTables;III[J)I"⟩, method_4_code, 6, some .int, 13)
/-- what the law's entry leaves -/
def QL (n : Nat) (M : Mem) (S : SS) (c : Prop) (w : Nat) : Option Value → AH → Prop := fun v h' => ∃ M' n', h' = gh n' M' ∧ n ≤ n' ∧ XR M' S ∧ (∀ b, 436 ≤ b → b ≠ 453 → M' b = M b) ∧ ((c ∧ v = some (.int (nI 0)) ∧ M' 453 0 = nI w) ∨ (¬ c ∧ v = some (.int (nI 1))))
theorem XR.kx {M M' : Mem} {S : SS} (h : XR M S) (hk : ∀ b, b < 436 → M' b = M b) : XR M' S := by
  obtain ⟨x1, ⟨nx, x2⟩, x3, ⟨x4, x5, x6, x7, x9, x10⟩, x8⟩ := h
  refine ⟨x1.kept (fun q q1 q2 => hk q (by omega)), ⟨nx, x2.kept (fun q q1 q2 => hk q (by omega))⟩, x3.kept (fun q q1 q2 => hk q (by omega)), ⟨?_, x5, fun j hj => ⟨(x6 j hj).1, ?_⟩, ?_, ?_, ?_⟩, x8.kept (fun q hq => hk q (by omega))⟩
  · rw [hk 34 (by decide)]; exact x4
  · rw [hk 35 (by decide)]; exact (x6 j hj).2
  · rw [hk 0 (by decide)]; exact x7
  · rw [hk 0 (by decide)]; exact x9
  · rw [hk 0 (by decide)]; exact x10
section C82
variable {o : OM} {l : Launch} {n : Nat} {M : Mem} {S : SS} {m k : MD} {c0 : Prop} {w : Nat} {t i j : Int32} {idx : Nat}
theorem clh_of (hE : OE o) (hp : plainName (mnam m).cls = true) (hcls : (mnam m).cls = mcls m) (hm : mcls m = "SeriesTablesLaw") (hml6 : mml m = 6) (hrt : mrt m = some .int) (hdp : mdp m = 13) (hkd : mdp k = 12)
    (d0 : decode (mbt m) 0 = .ok (.aload 4, 2)) (d2 : decode (mbt m) 2 = .ok (.iconst 0, 1)) (d3 : decode (mbt m) 3 = .ok (.aload_n 0, 1)) (d4 : decode (mbt m) 4 = .ok (.iload_n 1, 1)) (d5 : decode (mbt m) 5 = .ok (.iload_n 2, 1)) (d6 : decode (mbt m) 6 = .ok (.iload_n 3, 1)) (d7 : decode (mbt m) 7 = .ok (.invokevirtual idx, 3))
    (d10 : decode (mbt m) 10 = .ok (.i2l, 1)) (d11 : decode (mbt m) 11 = .ok (.lastore, 1)) (d12 : decode (mbt m) 12 = .ok (.goto 7, 3)) (d15 : decode (mbt m) 15 = .ok (.astore 5, 2)) (d17 : decode (mbt m) 17 = .ok (.iconst 1, 1)) (d18 : decode (mbt m) 18 = .ok (.ireturn, 1)) (d19 : decode (mbt m) 19 = .ok (.iconst 0, 1)) (d20 : decode (mbt m) 20 = .ok (.ireturn, 1))
    (hk : LKd "SeriesTablesLaw" idx 3 k) (hs : Cond.instanceMethod (mnam k) ∈ gt_ws ∧ Cond.selects (fC 7) (mnam k) (mnam k) ∈ gt_ws ∧ 7 < 9)
    (hM : vx_Met l (mnam k) (mws k) (rmo k (1, 6)) (Pco o [.ref 0, .int t, .int i, .int j] (gh n M)) (Qco o (fun v h' => v ≠ none ∧ QE n M S c0 w v h')) (XCo o (QE n M S c0 w)) 1 6 (fun q => ob0 o ≤ q)) :
    Met l (mnam m) (mwx m) (rmo m (1, 6)) (Pco o [.ref 0, .int t, .int i, .int j, .ref 453] (gh n M)) (Qco o (QL n M S c0 w)) 1 6 (fun q => ob0 o ≤ q) := by
  refine met_ofWH (cc := mbt m) (maxL := mml m) (ret := mrt m) (hh := hhL) hp rfl ?_
  intro p e s mm args below meth c s₁ B hml hv
  obtain ⟨rfl, hRp, hK⟩ := hv
  have hts0 := atoms_spec (ws := mwx m) B.pre
  have htab : c.exceptionTable.toList = tableOf hhL := vx_table (x := mnam m) B (hts0 _ List.mem_cons_self)
  have hts : ∀ w ∈ gt_ws, w.before (([.ref 0, .int t, .int i, .int j, .ref 453] : List Value).map (fv o)).toArray s = true := fun w hw => hts0 w (List.mem_cons_of_mem _ hw)
  have hown : s.vm.findClass (mnam m).cls = some mm.cls := findClass_of_methodNamed B.named
  have hlocks := B.notSynchronized
  have hr := B.returns
  have hx := B.exec
  have hb := B.bytes
  rw [lg_entry_eq]
  have hl := lv_entry (([.ref 0, .int t, .int i, .int j, .ref 453] : List Value).map (fv o)) (n := mml m) (by rw [lg_len, hml6]; exact Nat.le_of_ble_eq_true rfl)
  have hLc : Lc o m [some (.ref 0), some (.int t), some (.int i), some (.int j), some (.ref 453), none] ((lg_sl (([.ref 0, .int t, .int i, .int j, .ref 453] : List Value).map (fv o)) ++ List.replicate (mml m - (lg_sl (([.ref 0, .int t, .int i, .int j, .ref 453] : List Value).map (fv o))).length) Slot.unset).toArray) := by
    refine ⟨hl.1, hl.2.1, fun a v ha => ?_⟩
    have := entL_args o [.ref 0, .int t, .int i, .int j, .ref 453] (mml m) 0 a v (by rw [hml6]; exact ha)
    rw [Nat.zero_add] at this
    exact hl.2.2 _ this
  clear hl
  generalize ((lg_sl (([.ref 0, .int t, .int i, .int j, .ref 453] : List Value).map (fv o)) ++ List.replicate (mml m - (lg_sl (([.ref 0, .int t, .int i, .int j, .ref 453] : List Value).map (fv o))).length) Slot.unset).toArray) = ls at *
  have hC : Cx o m (headSpec (mwx m) (rmo m (1, 6))).room p s mm (([.ref 0, .int t, .int i, .int j, .ref 453] : List Value).map (fv o)).toArray meth c := ⟨hx, hb, hr, hml, hcls ▸ hown, hts, hK, hlocks, (name_of_methodNamed B.named B.method).1, Nat.le_refl _, Nat.le_refl _⟩
  refine lv_aload hx hb d0 (hLc.2.2 4 (.ref 453) rfl) ?_
  refine lv_iconst (v := nI 0) hx hb d2 (by decide) ?_
  refine lv_aload_n hx hb d3 rfl (hLc.2.2 0 (.ref 0) rfl) ?_
  refine lv_iload_n hx hb d4 rfl (hLc.2.2 1 (.int t) rfl) ?_
  refine lv_iload_n hx hb d5 rfl (hLc.2.2 2 (.int i) rfl) ?_
  refine lv_iload_n hx hb d6 rfl (hLc.2.2 3 (.int j) rfl) ?_
  intro T hT X
  obtain ⟨cell, q1, q2, q3, q4⟩ := hRp.obj (a := 0) (ci := 7) rfl
  have hfc := (hK.1.1 7 _ (fc_at 7 (by decide))).2.1
  have run := vx_runV (p := p) (l := l) (e := e) (R := (headSpec (mwx m) (rmo m (1, 6))).room) (s := s) (m := mm) (args := (([.ref 0, .int t, .int i, .int j, .ref 453] : List Value).map (fv o)).toArray) (below := below) (meth := meth) (c := c) (H := s.heap) (locs := []) (cells := 0) (slots := 0) (As := ([.int t, .int i, .int j] : List Value).map (fv o)) (rest := [.int (nI 0), .ref (ob0 o + 453)]) (b := ob0 o + 0) (C := fC 7) (nL := mml m) (Ts := gt_ws) (own := mcls m) (n := 3) (g := F0 mm 7 ls [.int j, .int i, .int t, .ref (ob0 o + 0), .int (nI 0), .ref (ob0 o + 453)]) ⟨hx, hb, hml, hcls ▸ hown, hts⟩ hM ⟨cb_of (bg := (1, 6)) hts (by rw [hm]; exact hk) (by show mdp k + 1 ≤ mdp m; omega) (by show 36 * (mdp k + 1) ≤ 36 * mdp m; omega), hts _ hs.1, hts _ hs.2.1⟩ ⟨pc_blind o _ _, ⟨cell, q1, by rw [q3]; rfl, by rw [q2]; exact hfc⟩, (pc_pre [.ref 0, .int t, .int i, .int j] hRp hK).2⟩ rfl rfl hLc.1 rfl (Nat.le_of_ble_eq_true rfl) d7 ⟨by show 0 + 1 ≤ 1; decide, by show 0 + 6 ≤ 6; decide⟩
  rcases run T hT X with ⟨v, st₀, t9, T', L2, h0, X', hL2, e1, e2, ⟨v', h', hv, ⟨hne, M', rfl, xr, kx, hcs⟩, hRp'⟩, go⟩ | ⟨q, st₀, t9, T', L2, E, ce, h0, X', hL2, e1, e2, ⟨rfl, h', n', ⟨M', rfl, xr, kx, hcs⟩, hn', hRp'⟩, hce, hcv, hcl, st⟩
  · cases hv
    rcases hcs with ⟨hc0, rfl⟩ | ⟨_, rfl⟩
    · rw [← e1] at hRp'
      have kr : Rn o l m (0, 0) 10 [some (.ref 0), some (.int t), some (.int i), some (.int j), some (.ref 453), none] [.int (nI w), .int (nI 0), .ref 453] (gh n M') (QL n M S c0 w) := by
        refine r_i2l ⟨d10, rfl⟩ ?_
        refine r_last ⟨d11, rfl⟩ (x := nI w) rfl rfl (show 0 < 1 by decide) (by decide) rfl ?_
        refine r_goto (pc' := 15) (tgt := 19) ⟨7, d12, rfl, by decide⟩ ?_
        refine r_iconst (v := nI 0) ⟨d19, rfl⟩ (by decide) ?_
        refine r_ireturn d20 hrt ?_
        refine ⟨upm M' 453 0 (nI w), n, rfl, Nat.le_refl _, ?_, fun b b1 b2 => ?_, Or.inl ⟨hc0, rfl, ?_⟩⟩
        · exact xr.kx (fun b hb => upm_ne _ _ _ (by omega))
        · rw [upm_ne _ _ _ b2]; exact kx b b1
        · rw [upm_eq]; exact if_pos rfl
      obtain ⟨t2, a1, b1⟩ := kr p e _ s mm _ below meth c T'.heap ([] ++ L2) (0 + 1) (0 + 6) (MQ below (Qco o (QL n M S c0 w)) (([.ref 0, .int t, .int i, .int j, .ref 453] : List Value).map (fv o)).toArray s 1 6 (fun q => ob0 o ≤ q)) ls hC (by show 0 + 1 + 0 ≤ 1; decide) (by show 0 + 6 + 0 ≤ 6; decide) hRp' (fun q hq => hL2 q hq) hLc (by
        intro v h' H' locs' cells' slots' pc' ls' bg' hQ hRp' hlo hc hs hret hsz
        refine W.widen (k := 1) (n := 6) (Nat.le_trans (Nat.le_add_right _ _) hc) (Nat.le_trans (Nat.le_add_right _ _) hs) ?_
        rcases hret with ⟨x, ty, rfl, hty, hn, hd⟩ | ⟨x, rfl, hty, hd⟩ | ⟨rfl, hty, hd⟩ | ⟨rfl, hty, -⟩
        · exact W.zret hx hb (hr.trans hty) hn (fun t ht hW => ⟨some (.int x), h', rfl, hQ, by rw [ht]; exact hRp'⟩) hlo hd
        · rw [hrt] at hty; cases hty
        · rw [hrt] at hty; cases hty
        · obtain ⟨_, _, _, _, _, _, z | z⟩ := hQ
          · exact absurd z.2.1 (by simp)
          · exact absurd z.2 (by simp)) T' rfl X'
      exact ⟨t2, go t2 a1, b1⟩
    · exact absurd rfl hne
  · rcases hcs with ⟨_, h9⟩ | ⟨hc0, _⟩
    · cases h9
    rw [← e1] at hRp' hce
    have kc : vx_W p l e (headSpec (mwx m) (rmo m (1, 6))).room s mm (([.ref 0, .int t, .int i, .int j, .ref 453] : List Value).map (fv o)).toArray below meth c T'.heap ([] ++ L2) (0 + 1) (0 + 6) (MQ below (Qco o (QL n M S c0 w)) (([.ref 0, .int t, .int i, .int j, .ref 453] : List Value).map (fv o)).toArray s 1 6 (fun q => ob0 o ≤ q)) (F0 mm 7 ls [.int (nI 0), .ref (ob0 o + 453)]) q := by
      refine vx_catch (own := mcls m) (name := nse) (E := nse) (ce := ce) (hcls ▸ hown) [] { startPc := 0, endPc := 12, handlerPc := 15, catchType := 13 } [] htab (fun z hz => by cases hz) (by decide) (by decide) (by rw [hm]; exact hts _ lk_cat) (va_Nw.use rfl (va_Nw.warmC hK.2 (hE.1 _ in_cas rfl))) hce hcv hcl ?_
      refine lv_astore hx hb d15 hLc.has (by rw [hml6]; decide) rfl (fun ls9 h9 => ?_)
      refine lv_iconst (v := nI 1) hx hb d17 (by decide) ?_
      exact W.zret hx hb (hr.trans hrt) rfl (fun t ht hW => ⟨some (.int (nI 1)), _, rfl, ⟨M', n', rfl, hn', xr, fun b b1 _ => kx b b1, Or.inr ⟨hc0, rfl⟩⟩, by rw [ht]; exact hRp'⟩) (fun q hq => hL2 q hq) d18
    obtain ⟨t2, a1, b1⟩ := kc T' rfl X'
    exact ⟨t2, st.trans a1, b1⟩
theorem c_L_E {t i j : Int32} (hl : l.stackTraces = false) (hE : OE o) (hW : WS S) (hX : XR M S) : Met l (mnam m_LE) (mwx m_LE) (rmo m_LE (1, 6)) (Pco o [.ref 0, .int t, .int i, .int j, .ref 453] (gh n M)) (Qco o (QL n M S (okT S t ∧ okP S i ∧ okP S j) (col (S.1 0 3) (gOf S t) (fOf S t) (ix j) (ix i)))) 1 6 (fun q => ob0 o ≤ q) := clh_of (m := m_LE) (k := m_E) hE rfl rfl rfl rfl rfl rfl rfl (by decide +kernel) (by decide +kernel) (by decide +kernel) (by decide +kernel) (by decide +kernel) (by decide +kernel) (by decide +kernel) (by decide +kernel) (by decide +kernel) (by decide +kernel) (by decide +kernel) (by decide +kernel) (by decide +kernel) (by decide +kernel) (by decide +kernel) k_Lw_7 ws_X_entry (c_X_E hl hE hW hX)
theorem c_L_P {t i j : Int32} (hl : l.stackTraces = false) (hE : OE o) (hW : WS S) (hX : XR M S) : Met l (mnam m_LP) (mwx m_LP) (rmo m_LP (1, 6)) (Pco o [.ref 0, .int t, .int i, .int j, .ref 453] (gh n M)) (Qco o (QL n M S (okT S t ∧ okQ S i ∧ okQ S j) (pdc (col (S.1 0 3) (gOf S t) (fOf S t)) (ix j) (ix i)))) 1 6 (fun q => ob0 o ≤ q) := clh_of (m := m_LP) (k := m_P) hE rfl rfl rfl rfl rfl rfl rfl (by decide +kernel) (by decide +kernel) (by decide +kernel) (by decide +kernel) (by decide +kernel) (by decide +kernel) (by decide +kernel) (by decide +kernel) (by decide +kernel) (by decide +kernel) (by decide +kernel) (by decide +kernel) (by decide +kernel) (by decide +kernel) (by decide +kernel) k_Lw_15 ws_X_production (c_X_P hl hE hW hX)
/-- the law calls its own entry or production -/
def LKx (own : String) (idx n : Nat) (k : MD) : Prop := Cond.codeWith (mnam k) (mbt k) (mml k) (mrt k) hhL ∈ gt_ws ∧ Cond.initialized (mnam k).cls ∈ gt_ws ∧ Cond.methodLink own idx (mnam k) ∈ gt_ws ∧ Cond.static (mnam k) ∈ gt_ws ∧ ((mnam k).cls ≠ "java/lang/invoke/MethodHandle" ∧ (mnam k).cls ≠ "java/lang/invoke/VarHandle" ∧ (parseMethodDescriptor (mnam k).desc).map (fun d => d.parameters.length) = some n) ∧ mml k ≤ 17
theorem r_callX {idx n pc pc' : Nat} {bg bg2 : Nat × Nat} {av st0 st : List Value} {L : List (Option Value)} {h : AH} {Q Q1 : Option Value → AH → Prop} (hd : dd m pc (.invokestatic idx) 3 pc') (hk : LKx (mcls m) idx n k) (hdp : mdp k + 1 ≤ mdp m) (hn : av.length = n) (hst : st0 = av.reverse ++ st) (hw : (st.map fun v => v.category).sum ≤ 8) (hb1 : 1 + bg2.1 ≤ bg.1) (hb2 : 6 + bg2.2 ≤ bg.2)
    (hc : Met l (mnam k) (mwx k) (rmo k (1, 6)) (Pco o av h) (Qco o Q1) 1 6 (fun q => ob0 o ≤ q)) (kk : ∀ v h', Q1 v h' → Rn o l m bg2 pc' L (v.toList ++ st) h' Q) : Rn o l m bg pc L st0 h Q := by
  obtain ⟨hd, rfl⟩ := hd
  subst hst
  intro p e R s mm args below meth c H locs cells slots Z ls hC h1 h2 h3 h4 h5 h6
  have hts := hC.2.2.2.2.2.1
  have hf := hC.2.2.2.2.2.2.2.2.2.1
  have hl := hC.2.2.2.2.2.2.2.2.2.2
  obtain ⟨g1, g2, g3, g4, g5, g6⟩ := hk
  have hG : GoodIn gt_ws (mwx k) := by
    intro w hw
    rcases List.mem_cons.mp hw with rfl | hw
    · exact ⟨g1, gt_good g1⟩
    · exact ⟨hw, gt_good hw⟩
  have cw : vx_CSW R s args (mcls m) idx (mnam k) (mbt k) (mml k) (mrt k) hhL (mwx k) (rmo k (1, 6)) 1 6 n := by
    refine ⟨⟨rfl, rfl, ?_, ?_, pay_in hts hG, List.mem_cons_self⟩, hts _ g1, hts _ g2, ⟨g5.1, g5.2.1⟩, fun sig h => ?_, hts _ g3, hts _ g4⟩
    · show mdp k + 1 ≤ R.frames
      omega
    · show 8 + (mml k + 11) + 36 * mdp k ≤ R.locals
      omega
    · have h2 := g5.2.2
      rw [h] at h2
      exact (Option.some.inj h2).symm
  refine r_goes (bg := bg) (bg' := (1, 6)) (bg2 := bg2) hb1 hb2 kk hC h1 h2 h4 h5 h6 (vx_runSW (As := av.map (fv o)) (nL := mml m) (Ts := gt_ws) (own := mcls m) (n := n) ⟨hC.1, hC.2.1, hC.2.2.2.1, hC.2.2.2.2.1, hts⟩ hc cw (pc_pre av h3 hC.2.2.2.2.2.2.1) rfl (by rw [List.length_map]; exact hn) h5.1 ?_ ?_ hd ⟨by show cells + 1 ≤ _; omega, by show slots + 6 ≤ _; omega⟩)
  · show (av.reverse ++ st).map (fv o) = _
    rw [List.map_append, List.map_reverse]
  · exact lv_room (by rw [cat_map]; exact hw)
theorem kx_LE : LKx "SeriesTablesLaw" 72 5 m_LE := ⟨gt_in (by decide +kernel) (by decide +kernel), gt_in (by decide +kernel) (by decide +kernel), gt_in (by decide +kernel) (by decide +kernel), gt_in (by decide +kernel) (by decide +kernel), by decide +kernel, by decide⟩
theorem kx_LP : LKx "SeriesTablesLaw" 101 5 m_LP := ⟨gt_in (by decide +kernel) (by decide +kernel), gt_in (by decide +kernel) (by decide +kernel), gt_in (by decide +kernel) (by decide +kernel), gt_in (by decide +kernel) (by decide +kernel), by decide +kernel, by decide⟩
end C82
