/-! THE CLAIM OUT OF ONE WALK OF THE LAW'S BODY. Your part is whole_start (and what it stands on); all else here is the same for every law, but numbers. -/
def R_law : String := "SeriesTablesLaw"
def lw_P (b : Addr) (xs : List Int32) (args : Array Value) (s : State) : Prop := args = #[.ref b] ∧ s.IntsAt b xs ∧ xs.length ≤ 3072 ∧ (Jvm.Cond.and given_1 narrow_1).before args s = true
def lw_Q (_ : Array Value) (s : State) (o : Outcome) (t : State) : Prop := o = .returned (some (.int 1)) ∧ Framed s o t [] 601024 7293034
def lw_Z (below : List Frame) (a : Array Value) (s : State) : State → Prop := fun t => ∃ o, t.status = .running ∧ Ended t below o ∧ lw_Q a s o t
/-- the law's own end, with 1 on the stack, nothing written that was there before, its room as the claim has it -/
theorem lw_ret {p : Program} {l : Launch} {e : Env} {s : State} {m : MethodId} {below : List Frame} {meth : Method} {c : Code} {b : Nat} (hx : p.tables.exec = Jvm.exec) (hb : c.code = code) (hr : meth.sig.returnType = ret) (hlocks : meth.locks = false) {pc : Nat} {H : Heap} {ls : Array Slot} (hdg : decode code pc = .ok (.ireturn, 1)) : W p l e room_1 s m #[Value.ref b] below meth c H [] 601024 7293034 (lw_Z below #[Value.ref b] s) (F0 m pc ls [.int 1]) := by
  intro T hT X
  obtain ⟨fs, hret, hrun, hended, hW, hframe⟩ := X.leave (v := some (.int 1)) (hlocks := hlocks) (fun h => by rw [hr] at h; cases h)
  have hmeth' : T.vm.method? m = some meth := X.method'
  refine ⟨T.setFrames fs, ?_, .returned (some (.int 1)), hrun, hended, rfl, ⟨_, rfl⟩, hW, hframe⟩
  jvm_step X.here [X.here.top, hx, hb, hdg, hmeth', hr, ret, narrow_b1]
  (try refine ⟨rfl, ?_⟩); (try refine ⟨rfl, ?_⟩)
  first | (intro acts; rw [hret _ acts rfl rfl rfl]) | rw [hret _ _ rfl rfl rfl]
  exact Steps.refl _
/-- what holds at the law's entry: the machine, the code, the tables' words (any of lw_tbl by 'hts w (by decide +kernel)'), the script of L ints xs at the cell b, what the Statement gives of the start (any of its parts by flat_of_before) -/
def lw_At (p : Program) (s : State) (m : MethodId) (meth : Method) (c : Code) (b L : Nat) (xs : Nat → Int32) : Prop :=
  p.tables.exec = Jvm.exec ∧ c.code = code ∧ meth.sig.returnType = ret ∧ c.maxLocals = 7 ∧ s.vm.findClass R_law = some m.cls ∧ (∀ w ∈ lw_tbl, w.before #[Value.ref b] s = true) ∧ va_X b L xs s s.heap ∧ b < s.heap.size ∧ meth.locks = false ∧ (Jvm.Cond.and given_1 narrow_1).before #[Value.ref b] s = true
theorem ar_prim {args : Array Value} {s : State} {ty : FieldType} (h : (Cond.arrayClass ty).before args s = true) : ∃ cA : ClassId, ArrOfT s cA ty ∧ s.vm.findClass ("[" ++ ty.toString) = some cA := by
  obtain ⟨c, k, comp, h1, h2, h3⟩ := Cond.arrayClass_spec h
  exact ⟨c, fun n z => ⟨fun k h => (by cases h), k, h2, comp, h3⟩, h1⟩
theorem ar_all {args : Array Value} {s : State} (hts : ∀ w ∈ lw_tbl, w.before args s = true) : ∀ t, ∃ cA : ClassId, 1 ≤ t ∧ t ≤ 7 → ArrOfT s cA (aty t) ∧ va_RA s cA (aty t) := by
  intro t
  match t with
  | 0 => exact ⟨0, fun h => by omega⟩
  | 1 => obtain ⟨c, h1, h2⟩ := ar_prim (hts (.arrayClass .int) (by decide +kernel)); exact ⟨c, fun _ => ⟨h1, h2⟩⟩
  | 2 => obtain ⟨c, h1, h2⟩ := ar_prim (hts (.arrayClass .byte) (by decide +kernel)); exact ⟨c, fun _ => ⟨h1, h2⟩⟩
  | 3 => obtain ⟨c, h1, h2⟩ := ar_prim (hts (.arrayClass .boolean) (by decide +kernel)); exact ⟨c, fun _ => ⟨h1, h2⟩⟩
  | 4 => obtain ⟨c, h1, h2⟩ := ar_prim (hts (.arrayClass .long) (by decide +kernel)); exact ⟨c, fun _ => ⟨h1, h2⟩⟩
  | 5 =>
    obtain ⟨comp, c, k, hc, hi, hk, hkind, hn⟩ := arrayOverA_spec (hts (.arrayOver (.array .int)) (by decide +kernel))
    exact ⟨c, fun _ => ⟨fun n z => ⟨fun k h => (by cases h), k, hk, comp, hkind⟩, hn⟩⟩
  | 6 =>
    obtain ⟨comp, c, k, h1, h2, h3, h4, h5⟩ := Cond.arrayOver_spec (hts (.arrayOver (.object "SeriesTables$State")) (by decide +kernel))
    exact ⟨c, fun _ => ⟨fun n z => ⟨fun k h => (by cases h), k, h3, comp, h4⟩, ⟨k, comp, h3, h4, h1, h5⟩⟩⟩
  | 7 =>
    obtain ⟨comp, c, k, h1, h2, h3, h4, h5⟩ := Cond.arrayOver_spec (hts (.arrayOver (.object "SeriesTables$Table")) (by decide +kernel))
    exact ⟨c, fun _ => ⟨fun n z => ⟨fun k h => (by cases h), k, h3, comp, h4⟩, ⟨k, comp, h3, h4, h1, h5⟩⟩⟩
  | t + 8 => exact ⟨0, fun h => by omega⟩
theorem cl_all {args : Array Value} {s : State} (hts : ∀ w ∈ gt_ws, w.before args s = true) : ∀ ci, ∃ q : ClassId × (Nat → Nat), ci < 9 → u_Kn s (fC ci) (fT ci) (nfl ci) q.1 q.2 := by
  intro ci
  have one : ∀ {C : String} {T : u_T} {N : Nat}, (∀ w ∈ u_ws C T N, w ∈ gt_ws) → Cond.instantiable C N ∈ gt_ws → ∃ q : ClassId × (Nat → Nat), u_Kn s C T N q.1 q.2 := by
    intro C T N h1 h2
    obtain ⟨c, i, h⟩ := u_known hts h1 (hts _ h2)
    exact ⟨(c, i), h⟩
  match ci with
  | 0 => obtain ⟨q, h⟩ := one fc_ws0 n_X_28.2.2.1; exact ⟨q, fun _ => h⟩
  | 1 => obtain ⟨q, h⟩ := one fc_ws1 n_X_7.2.2.1; exact ⟨q, fun _ => h⟩
  | 2 => obtain ⟨q, h⟩ := one fc_ws2 n_X_43.2.2.1; exact ⟨q, fun _ => h⟩
  | 3 => obtain ⟨q, h⟩ := one fc_ws3 n_X_21.2.2.1; exact ⟨q, fun _ => h⟩
  | 4 => obtain ⟨q, h⟩ := one fc_ws4 n_St_16.2.2.1; exact ⟨q, fun _ => h⟩
  | 5 => obtain ⟨q, h⟩ := one fc_ws5 n_X_50.2.2.1; exact ⟨q, fun _ => h⟩
  | 6 => obtain ⟨q, h⟩ := one fc_ws6 n_Re_18.2.2.1; exact ⟨q, fun _ => h⟩
  | 7 => obtain ⟨q, h⟩ := one fc_ws7 n_Lw_8.2.2.1; exact ⟨q, fun _ => h⟩
  | 8 => obtain ⟨q, h⟩ := one fc_ws8 n_Lw_19.2.2.1; exact ⟨q, fun _ => h⟩
  | ci + 9 => exact ⟨(0, fun _ => 0), fun h => by omega⟩
theorem whole_start {p : Program} {e : Env} {s : State} {m : MethodId} {below : List Frame} {meth : Method} {c : Code} (l : Launch) (hflags : l.flags = flags0) {b L : Nat} {xs : Nat → Int32} (hL : L ≤ 3072) (C0 : lw_At p s m meth c b L xs) : W p l e room_1 s m #[Value.ref b] below meth c s.heap [] 0 0 (lw_Z below #[Value.ref b] s) (entryFrame m ([Value.ref b] : List Value).toArray 7) := by
  obtain ⟨hx, hb, hr, hml, hown, hts, hX, hbl, hlocks, hgv⟩ := id C0
  clear C0
  have hgf := flat_of_before _ hgv
  have hgt : ∀ w ∈ gt_ws, w.before #[Value.ref b] s = true := fun w hw => hts w (List.mem_filter.mp hw).1
  have htr : l.stackTraces = false := by
    unfold Launch.stackTraces
    rw [hflags]
    decide +kernel
  have hA0 : ∀ a : Nat, a < s.heap.size → ¬ (fun q : Nat => s.heap.size ≤ q) a := fun a h => Nat.not_le.mpr h
  obtain ⟨fc, hfc⟩ := Classical.axiomOfChoice (cl_all hgt)
  obtain ⟨fa, hfa⟩ := Classical.axiomOfChoice (ar_all hts)
  obtain ⟨adK, adV, hS, hev⟩ := vk_Sof (args := #[Value.ref b]) (s := s) (N := 4) (tm := fun i => .string "SeriesTables$Reader" (sIx i)) (len := sLn) (byt := sBy) (A := fun q : Nat => s.heap.size ≤ q)
    (fun i hi => by rcases (show i = 0 ∨ i = 1 ∨ i = 2 ∨ i = 3 by omega) with rfl | rfl | rfl | rfl <;> decide)
    (fun i hi => by rcases (show i = 0 ∨ i = 1 ∨ i = 2 ∨ i = 3 by omega) with rfl | rfl | rfl | rfl <;> exact hgf _ (by decide +kernel))
    (fun i hi => by rcases (show i = 0 ∨ i = 1 ∨ i = 2 ∨ i = 3 by omega) with rfl | rfl | rfl | rfl <;> exact hgf _ (by decide +kernel))
    (fun i hi => by rcases (show i = 0 ∨ i = 1 ∨ i = 2 ∨ i = 3 by omega) with rfl | rfl | rfl | rfl <;> exact hgf _ (by decide +kernel))
    (fun i hi => by rcases (show i = 0 ∨ i = 1 ∨ i = 2 ∨ i = 3 by omega) with rfl | rfl | rfl | rfl <;> exact hgf _ (by decide +kernel))
    (fun i hi j hj => by
      rcases (show i = 0 ∨ i = 1 ∨ i = 2 ∨ i = 3 by omega) with rfl | rfl | rfl | rfl
      · have hj : j < 4 := hj
        rcases (show j = 0 ∨ j = 1 ∨ j = 2 ∨ j = 3 by omega) with rfl | rfl | rfl | rfl <;> exact hgf _ (by decide +kernel)
      · have hj : j < 6 := hj
        rcases (show j = 0 ∨ j = 1 ∨ j = 2 ∨ j = 3 ∨ j = 4 ∨ j = 5 by omega) with rfl | rfl | rfl | rfl | rfl | rfl <;> exact hgf _ (by decide +kernel)
      · have hj : j < 4 := hj
        rcases (show j = 0 ∨ j = 1 ∨ j = 2 ∨ j = 3 by omega) with rfl | rfl | rfl | rfl <;> exact hgf _ (by decide +kernel)
      · have hj : j < 5 := hj
        rcases (show j = 0 ∨ j = 1 ∨ j = 2 ∨ j = 3 ∨ j = 4 by omega) with rfl | rfl | rfl | rfl | rfl <;> exact hgf _ (by decide +kernel))
    (fun i j hi hj hij => by
      rcases (show i = 0 ∨ i = 1 ∨ i = 2 ∨ i = 3 by omega) with rfl | rfl | rfl | rfl <;> rcases (show j = 0 ∨ j = 1 ∨ j = 2 ∨ j = 3 by omega) with rfl | rfl | rfl | rfl <;> first | exact absurd rfl hij | exact Or.inl (hgf _ (by decide +kernel)) | exact Or.inr (hgf _ (by decide +kernel)))
    hA0
  have hZ1 : va_Z "java/lang/String" "COMPACT_STRINGS" "Z" (.int 1) (fun q : Nat => s.heap.size ≤ q) s s.heap := va_Zof (hts (.laysStatic "java/lang/String" "COMPACT_STRINGS" "Z") (by decide +kernel)) (hts (.initialized "java/lang/String") (by decide +kernel)) (va_eqt (hgf (.eq (.static "java/lang/String" "COMPACT_STRINGS" "Z") (.int 1)) (by decide +kernel))) hA0
  have hZ2 : va_Zq "jdk/internal/util/Preconditions" "SIOOBE_FORMATTER" "Ljava/util/function/BiFunction;" (fun q : Nat => s.heap.size ≤ q) s s.heap := va_Zqof (hts (.laysStatic "jdk/internal/util/Preconditions" "SIOOBE_FORMATTER" "Ljava/util/function/BiFunction;") (by decide +kernel)) (hts (.initialized "jdk/internal/util/Preconditions") (by decide +kernel)) (hgf (.isRef (.static "jdk/internal/util/Preconditions" "SIOOBE_FORMATTER" "Ljava/util/function/BiFunction;")) (by decide +kernel)) hA0
  have hU : vx_Zq Bundle.tN "UNASSIGNED_STACK" Bundle.steD (fun q : Nat => s.heap.size ≤ q) s s.heap := vx_Zqof (hts (.laysStatic Bundle.tN "UNASSIGNED_STACK" Bundle.steD) (by decide +kernel)) (hts (.initialized Bundle.tN) (by decide +kernel)) (hgf (.isRef (.static Bundle.tN "UNASSIGNED_STACK" Bundle.steD)) (by decide +kernel)) hA0
  have hV : vx_Zq Bundle.tN "SUPPRESSED_SENTINEL" Bundle.listD (fun q : Nat => s.heap.size ≤ q) s s.heap := vx_Zqof (hts (.laysStatic Bundle.tN "SUPPRESSED_SENTINEL" Bundle.listD) (by decide +kernel)) (hts (.initialized Bundle.tN) (by decide +kernel)) (hgf (.isRef (.static Bundle.tN "SUPPRESSED_SENTINEL" Bundle.listD)) (by decide +kernel)) hA0
  obtain ⟨t9, v9, hv9, hz9⟩ : ∃ (t9 : Nat) (v : Value), (v = .null ∨ v = .ref t9) ∧ va_Z "jdk/internal/util/Preconditions" "SIOOBE_FORMATTER" "Ljava/util/function/BiFunction;" v (fun q : Nat => s.heap.size ≤ q) s s.heap := by
    rcases hZ2 with h | ⟨t, h⟩
    · exact ⟨0, .null, Or.inl rfl, h⟩
    · exact ⟨t, .ref t, Or.inr rfl, h⟩
  obtain ⟨o, ho⟩ : ∃ o : OM, o = (s, fun ci => (fc ci).1, fun ci => (fc ci).2, fa, fun k => if k = 0 then b else if k < 5 then adK (k - 1) else if k < 9 then adV (k - 5) else t9) := ⟨_, rfl⟩
  have e0 : oad o 0 = b := by rw [ho]; rfl
  have eK : ∀ i, i < 4 → oad o (i + 1) = adK i := fun i hi => by
    rw [ho]
    show (if i + 1 = 0 then b else if i + 1 < 5 then adK (i + 1 - 1) else if i + 1 < 9 then adV (i + 1 - 5) else t9) = adK i
    rw [if_neg (by omega), if_pos (by omega), Nat.add_sub_cancel]
  have eV : ∀ i, i < 4 → oad o (i + 5) = adV i := fun i hi => by
    rw [ho]
    show (if i + 5 = 0 then b else if i + 5 < 5 then adK (i + 5 - 1) else if i + 5 < 9 then adV (i + 5 - 5) else t9) = adV i
    rw [if_neg (by omega), if_neg (by omega), if_pos (by omega), Nat.add_sub_cancel]
  have e9 : oad o 9 = t9 := by rw [ho]; rfl
  have eS : os0 o = s := by rw [ho]; rfl
  have eB : ob0 o = s.heap.size := by rw [ho]; rfl
  have eH : oH0 o = s.heap := by rw [ho]; rfl
  have hK : Kx o s := by
    refine ⟨⟨fun k q hq => ?_, fun k q hq => ?_⟩, by rw [eS]; exact State.WarmedH.refl s⟩
    · by_cases hk : k < 9
      · rw [fc_at k hk] at hq
        cases hq
        rw [ho]
        exact hfc k hk
      · rw [List.getElem?_eq_none (by show 9 ≤ k; omega)] at hq
        cases hq
    · unfold oty at hq
      by_cases hk : k < 7
      · rw [List.getElem?_map, List.getElem?_range hk] at hq
        cases hq
        rw [ho]
        exact hfa (k + 1) ⟨by omega, by omega⟩
      · rw [List.getElem?_eq_none (by rw [List.length_map, List.length_range]; omega)] at hq
        cases hq
  have hOS : OS o := by
    unfold OS
    rw [eS, eB, eH]
    refine ⟨fun i hi => ?_, ⟨fun i hi => ?_, fun i j hi hj => ?_⟩, hZ1, ?_⟩
    · rw [eK i hi]
      refine vk_R.of (A := #[Value.ref b]) ?_ (hev i hi)
      rcases (show i = 0 ∨ i = 1 ∨ i = 2 ∨ i = 3 by omega) with rfl | rfl | rfl | rfl <;> exact hts _ (by decide +kernel)
    · show va_O _ (oad o (i + 1)) _ _ _ ∧ va_OF _ _ _ _ (oad o (i + 1)) _ _ _ ∧ va_OF _ _ _ (.ref (oad o (i + 5))) (oad o (i + 1)) _ _ _ ∧ va_T _ (oad o (i + 5)) _ _ _ _ _
      rw [eK i hi, eV i hi]
      exact hS.1 i hi
    · show oad o (i + 1) = oad o (j + 1) → i = j
      rw [eK i hi, eK j hj]
      exact hS.2 i j hi hj
    · rcases hv9 with rfl | rfl
      · exact ⟨.null, Or.inl rfl, hz9⟩
      · refine ⟨.retAddr 9, Or.inr rfl, ?_⟩
        show va_Z _ _ _ (.ref (oad o 9)) _ _ _
        rw [e9]
        exact hz9
  have hOE : OE o := by
    unfold OE
    rw [eS, eB, eH]
    exact ⟨fun w hw hot => va_Nw.of hot (hts w hw), hU, hV⟩
  have hOA : OA o := by
    unfold OA
    rw [eS]
    exact ⟨va_AO.of (hts (.arrayOver (.object "SeriesTables$Table")) (by decide +kernel)), va_AO.of (hts (.arrayOver (.object "SeriesTables$State")) (by decide +kernel)), over_moved (Vm.Alike.refl s.vm) (hts (.arrayOver (.array .int)) (by decide +kernel))⟩
  have hOX : OX o L xs := by
    unfold OX
    rw [e0, eS, eB, eH]
    exact ⟨hX, hbl⟩
  have hC : Cx o (m_Lw meth.name) room_1 p s m #[Value.ref b] meth c := ⟨hx, hb, hr, hml, hown, hgt, hK, hlocks, rfl, Nat.le_of_ble_eq_true rfl, Nat.le_of_ble_eq_true rfl⟩
  have hl := lv_entry ([.ref b]) (n := 7) (Nat.le_of_ble_eq_true rfl)
  rw [lg_entry_eq]
  generalize (lg_sl ([.ref b]) ++ List.replicate (7 - (lg_sl ([.ref b])).length) Slot.unset).toArray = ls at hl ⊢
  have hLc : Lc o (m_Lw meth.name) [some (.retAddr 0), none, none, none, none, none, none] ls := by
    refine ⟨hl.1, hl.2.1, fun i v hi => ?_⟩
    match i, hi with
    | 0, hi =>
      cases hi
      show ls[0]? = some (.val (.ref (oad o 0)))
      rw [e0]
      exact hl.2.2 (0, .ref b) List.mem_cons_self
    | 1, hi => cases hi
    | 2, hi => cases hi
    | 3, hi => cases hi
    | 4, hi => cases hi
    | 5, hi => cases hi
    | 6, hi => cases hi
    | i + 7, hi => cases hi
  have hRp : Rp o (ph 0 Z0R Z0M) s.heap := by
    refine ⟨by rw [eB]; rfl, fun q hq => by rw [eH], fun a ha => ?_⟩
    exact absurd (show (hT (ph 0 Z0R Z0M) a).1 = 0 from by show (if a < 0 then gT a else (0, 0)).1 = 0; rw [if_neg (by omega)]) ha
  refine lw_all htr hOA hOE hOS hOX hL p e room_1 s m #[Value.ref b] below meth c s.heap [] 0 0 (lw_Z below #[Value.ref b] s) ls hC (Nat.le_of_ble_eq_true rfl) (Nat.le_of_ble_eq_true rfl) hRp (fun q h => by cases h) hLc ?_
  intro v h' H' locs' cells' slots' pc' ls' bg' hQ hRp' hlo hc hs hret hsz
  have hQ : v = some (.int (nI 1)) := hQ
  subst hQ
  rcases hret with ⟨x, ty, hx9, hty, hn, hd⟩ | ⟨x, hx9, -⟩ | ⟨hx9, -⟩ | ⟨hx9, -⟩
  · refine va_forget (fun q hq => by rw [← eB]; exact hlo q hq) (W.widen (k := 601024) (n := 7293034) (Nat.le_trans (Nat.le_add_right _ _) hc) (Nat.le_trans (Nat.le_add_right _ _) hs) ?_)
    exact lw_ret hx hb hr hlocks hd
  · cases hx9
  · cases hx9
  · cases hx9
set_option maxHeartbeats 4000000 in
theorem lw_walk (l : Launch) (hflags : l.flags = flags0) (b : Addr) (xs : List Int32) : MetFree l x (headSpec (Jvm.Cond.code x code maxLocals ret :: tables_1) room_1) (lw_P b xs) (fun _ _ _ _ _ => True) lw_Q := by
  refine MetFree.of_bodyS (code := code) (maxLocals := maxLocals) (ret := ret) (by decide) ?_ ?_
  · intro args s m h hn
    obtain ⟨meth, c, h1, h2, h3, h4, h5, h6, -, -⟩ := Cond.code_spec hn (atoms_spec (ws := Jvm.Cond.code x code maxLocals ret :: tables_1) h _ List.mem_cons_self)
    exact ⟨meth, c, h1, h2, h3, h4, h5, h6⟩
  · intro p e s m args below meth c s₁ B hml0 hP _
    obtain ⟨rfl, hx, hbd, hgv⟩ := hP
    obtain ⟨scr, harrAt, hlist, hof, hsmall⟩ := hx
    obtain ⟨hcb, hkn, -, -⟩ := State.arrayAt?_spec harrAt
    have hown : s.vm.findClass R_law = some m.cls := findClass_of_methodNamed B.named
    have hts0 : ∀ c ∈ (Jvm.Cond.code x code maxLocals ret :: tables_1), c.before #[Value.ref b] s = true := atoms_spec (ws := Jvm.Cond.code x code maxLocals ret :: tables_1) B.pre
    have hts : ∀ w ∈ lw_tbl, w.before #[Value.ref b] s = true := k2_hts_sels lw_privs (fun w hw => hts0 w (List.mem_cons_of_mem _ hw)) lw_privs_ok
    have hml : c.maxLocals = 7 := B.maxLocals_eq (hts0 _ List.mem_cons_self)
    have X₀ : Stand p l e room_1 s m #[Value.ref b] below meth c s₁ [] 0 0 := Stand.of_body B
    have hh0 : s₁.heap = s.heap := by rw [B.state]; rfl
    have hsz : scr.slots.size = xs.length := by rw [← Array.length_toList, hlist, List.length_map]
    have hval : ∀ j : Nat, j < xs.length → scr.slots[j]? = some (.int (xs.getD j 0)) := fun j hj => by
      rw [← Array.getElem?_toList, hlist]
      simp [hj]
    have hbl : b < s.heap.size := (Array.getElem?_eq_some_iff.mp hcb).1
    have hX : va_X b xs.length (fun j => xs.getD j 0) s s.heap := ⟨scr, hcb, hof, hkn, hsz, hval⟩
    have K : W p l e room_1 s m #[Value.ref b] below meth c s₁.heap [] 0 0 (lw_Z below #[Value.ref b] s) (entryFrame m ([Value.ref b] : List Value).toArray 7) := by
      rw [hh0]
      exact whole_start l hflags hbd ⟨B.exec, B.bytes, B.returns, hml, hown, hts, hX, hbl, B.notSynchronized, hgv⟩
    obtain ⟨t, a1, o, b1, b2, b3⟩ := K s₁ rfl X₀
    exact ⟨t, o, a1, b1, b2, b3⟩
theorem lw_pre_spec {args : Array Value} {s : State} (h : (Jvm.Cond.and given_1 narrow_1).before args s = true) (hr : rest_1_c.before args s = true) : ∃ (b : Addr) (xs : List Int32), lw_P b xs args s := by
  have hs := flat_of_before _ h
  have hq := flat_of_before _ hr
  have hc : (Cond.count 1).before args s = true := hs _ (by decide +kernel)
  have harr : (Cond.arrayOf (.arg 0) .int).before args s = true := hs _ (by decide +kernel)
  have hle : (Cond.le (.length (.arg 0)) (.int 3072)).before args s = true := hs _ (by decide +kernel)
  have hlen : (Cond.isInt (.length (.arg 0))).before args s = true := hq _ (by decide +kernel)
  have hall : (Cond.all (.arg 0) (.isInt (.elem (.arg 0) (.index 0)))).before args s = true := hq _ (by decide +kernel)
  obtain ⟨b, xs, hb, hx⟩ := State.ints_of_pre rfl harr hlen hall
  have hsm : xs.length < 2 ^ 31 := hx.choose_spec.2.2.2
  have hev : (Term.length (.arg 0)).eval args s none [] s = some (.int xs.length.toInt32) := hx.length_eval hb
  have hv := Cond.le_ints hev (show (Term.int 3072).eval args s none [] s = some (.int 3072) from rfl)
  have hd : xs.length.toInt32 ≤ 3072 := by
    simpa [Cond.before, Cond.holds, hv] using hle
  have hN : xs.length ≤ 3072 := (Int32.ofNat_le_ofNat hsm (by decide)).mp (show Int32.ofNat xs.length ≤ Int32.ofNat 3072 from hd)
  exact ⟨b, xs, Cond.one_arg hc (show args[0]? = some (.ref b) from hb), hx, hN, h⟩
theorem lw_comes (l : Launch) (hflags : l.flags = flags0) : Comes l x (Jvm.Cond.code x code maxLocals ret :: tables_1) room_1 (fun tb e args s => Calls_1 tb e args s ∧ rest_1 tb e args s ∧ Pre_1 tb e args s)
    (fun _ _ args s o t => lw_Q args s o t) := by
  intro p e ha hc hk s m args below hf hfit hheap happ hpre
  obtain ⟨b, xs, hP⟩ := lw_pre_spec hpre.2.2 hpre.2.1
  obtain ⟨k, o, h1, h2, h3, hQ⟩ := lw_walk l hflags b xs p e ha hc hk s m args below hf ((Spec.applies_iff_loose hf).mp happ).1 hP trivial
  exact ⟨k, o, h1, h2, h3, hQ⟩
theorem lw_frame {s t : State} {o : Outcome} {args : Array Value} (h : Framed s o t [] 601024 7293034) :
    Framed s o t (fieldLocs frame_1_writes args s ++ arrayLocs frame_1_arrays args s ++ staticLocs frame_1_statics s) 601024 7293034 := h
theorem lw_limb (L : Cond) (hL : ∀ (args : Array Value) (s t : State), L.after args s (.returned (some (.int 1))) t = true) :
    ArmFor flags0 classFile x code maxLocals ret World_1 tables_1 room_1 Calls_1 rest_1 Pre_1
      (fun tb e a s o t => postC L tb e a s o t ∧ Framed s o t (fieldLocs frame_1_writes a s ++ arrayLocs frame_1_arrays a s ++ staticLocs frame_1_statics s) 601024 7293034) := by
  intro l hflags _ _ p e ha hc hk s m args below hf hfit hheap happ hpre
  obtain ⟨k, o, h1, h2, h3, rfl, hF⟩ := lw_comes l hflags p e ha hc hk s m args below hf hfit hheap happ hpre
  exact ⟨k, _, h1, h2, h3, hL args s _, lw_frame hF⟩
theorem i_vc : Claimed_1_1 ∧ Claimed_1_2 := ⟨lw_limb limb_1_1 (fun args s t => by simp [limb_1_1, Cond.after, Cond.holds, Cond.value]), lw_limb limb_1_2 (fun args s t => Cond.after_iff.mpr (by
  first | (rw [show limb_1_2 = Cond.eq .result (.int 1) from rfl, Cond.eq_ints (x := 1) (y := 1) rfl rfl]; simp; done) | (simp [limb_1_2, Cond.value, Term.eval]; done)))⟩
