/-! A method: its class's name, its name, its bytes, maxLocals, what it returns, how deep it calls -/
abbrev MD : Type := String × MethodName × ByteArray × Nat × Option FieldType × Nat
def mcls (m : MD) : String := m.1
def mnam (m : MD) : MethodName := m.2.1
def mbt (m : MD) : ByteArray := m.2.2.1
def mml (m : MD) : Nat := m.2.2.2.1
def mrt (m : MD) : Option FieldType := m.2.2.2.2.1
def mdp (m : MD) : Nat := m.2.2.2.2.2
def mws (m : MD) : List Cond := .code (mnam m) (mbt m) (mml m) (mrt m) :: gt_ws
/-! The fixed things of one run: the law's first state, class numbers, slots, array classes, other addresses -/
abbrev OM : Type := State × (Nat → ClassId) × (Nat → Nat → Nat) × (Nat → ClassId) × (Nat → Nat)
def os0 (o : OM) : State := o.1
def ob0 (o : OM) : Nat := o.1.heap.size
def oH0 (o : OM) : Heap := o.1.heap
def odC (o : OM) : Nat → ClassId := o.2.1
def odI (o : OM) : Nat → Nat → Nat := o.2.2.1
def odA (o : OM) : Nat → ClassId := o.2.2.2.1
def oad (o : OM) : Nat → Nat := o.2.2.2.2
def oD (o : OM) : va_G := (odC o, odI o)
def aty (t : Nat) : FieldType := match t with
  | 1 => .int
  | 2 => .byte
  | 3 => .boolean
  | 4 => .long
  | 5 => .array .int
  | 6 => .object "SeriesTables$State"
  | _ => .object "SeriesTables$Table"
def oty (o : OM) : List (ClassId × FieldType) := (List.range 7).map (fun k => (odA o (k + 1), aty (k + 1)))
/-! The abstract heap: how many cells, what kind each is (tag, length), references, ints; addresses are counted from ob0 -/
abbrev AH : Type := Nat × (Nat → Nat × Nat) × (Nat → Nat → Option Nat) × (Nat → Nat → Int32)
def hN (h : AH) : Nat := h.1
def hT (h : AH) : Nat → Nat × Nat := h.2.1
def hR (h : AH) : Nat → Nat → Option Nat := h.2.2.1
def hI (h : AH) : Nat → Nat → Int32 := h.2.2.2
def upm {α : Type} (f : Nat → Nat → α) (a k : Nat) (v : α) : Nat → Nat → α := fun b => if b = a then (fun j => if j = k then v else f a j) else f b
def sI (h : AH) (a k : Nat) (v : Int32) : AH := (h.1, h.2.1, h.2.2.1, upm h.2.2.2 a k v)
def sR (h : AH) (a k : Nat) (v : Option Nat) : AH := (h.1, h.2.1, upm h.2.2.1 a k v, h.2.2.2)
theorem upm_eq {α : Type} (f : Nat → Nat → α) (a k : Nat) (v : α) : upm f a k v a = fun j => if j = k then v else f a j := by simp [upm]
theorem upm_ne {α : Type} (f : Nat → Nat → α) {a b : Nat} (k : Nat) (v : α) (h : b ≠ a) : upm f a k v b = f b := by simp [upm, h]
def fv (o : OM) : Value → Value
  | .ref a => .ref (ob0 o + a)
  | .retAddr k => .ref (oad o k)
  | v => v
def fr (o : OM) (r : Option Nat) : Value := va_rf (r.map (fun a => ob0 o + a))
def isR (t k : Nat) : Bool := match t with
  | 5 => true
  | 6 => true
  | 7 => true
  | 10 => k == 0
  | 11 => k < 3
  | 12 => true
  | 13 => k < 3
  | 14 => true
  | 15 => true
  | 16 => k == 0
  | 17 => k < 8
  | 18 => k == 1 || (10 ≤ k && k < 15) || (20 ≤ k && k < 30)
  | _ => false
def cv (o : OM) (t : Nat) (r : Nat → Option Nat) (i : Nat → Int32) (k : Nat) : Value := if isR t k = true then fr o (r k) else if t = 4 then .long (i k).toInt64 else .int (i k)
def okc (o : OM) (a : Nat) (t : Nat × Nat) (r : Nat → Option Nat) (i : Nat → Int32) (H : Heap) : Prop :=
  if t.1 < 10 then H[ob0 o + a]? = some (arrV (odA o t.1) t.2 (cv o t.1 r i))
  else t_OB (ob0 o + a) (odC o (t.1 - 10)) (nfl (t.1 - 10)) (odI o (t.1 - 10)) H (cv o t.1 r i)
def Rp (o : OM) (h : AH) (H : Heap) : Prop := H.size = ob0 o + hN h ∧ (∀ q : Nat, q < ob0 o → H[q]? = (oH0 o)[q]?) ∧ ∀ a : Nat, (hT h a).1 ≠ 0 → (hT h a).1 < 19 ∧ a < hN h ∧ okc o a (hT h a) (hR h a) (hI h a) H
def Lc (o : OM) (m : MD) (L : List (Option Value)) (ls : Array Slot) : Prop := ls.size = mml m ∧ lv_wf ls ∧ ∀ (i : Nat) (v : Value), L[i]? = some (some v) → ls[i]? = some (.val (fv o v))
def Kx (o : OM) (U : State) : Prop := va_K (oD o) vwCl (oty o) U ∧ (os0 o).WarmedH U.vm
theorem Kx.moved {o : OM} {s U : State} (hW : s.WarmedH U.vm) (h : Kx o s) : Kx o U := ⟨va_K.moved hW.alike h.1, h.2.trans hW⟩
def Cx (o : OM) (m : MD) (R : Room) (p : Program) (s : State) (mm : MethodId) (args : Array Value) (meth : Method) (c : Code) : Prop :=
  p.tables.exec = Jvm.exec ∧ c.code = mbt m ∧ meth.sig.returnType = mrt m ∧ c.maxLocals = mml m ∧ s.vm.findClass (mcls m) = some mm.cls ∧ (∀ w ∈ gt_ws, w.before args s = true) ∧ Kx o s ∧ meth.locks = false ∧ meth.name = (mnam m).name ∧ mdp m ≤ R.frames ∧ 36 * mdp m ≤ R.locals
def RetAt (m : MD) (pc : Nat) (v : Option Value) (bg : Nat × Nat) : Prop :=
  (∃ (x : Int32) (ty : FieldType), v = some (.int x) ∧ mrt m = some ty ∧ narrow ty (.int x) = .int x ∧ decode (mbt m) pc = .ok (.ireturn, 1)) ∨
  (∃ x : Int64, v = some (.long x) ∧ mrt m = some .long ∧ decode (mbt m) pc = .ok (.lreturn, 1)) ∨
  (v = none ∧ mrt m = none ∧ decode (mbt m) pc = .ok (.return_, 1)) ∨
  (v = none ∧ mrt m = some .int ∧ bg.1 = 1 ∧ bg.2 = 6 ∧ pc = 24)
/-- from here, in any surrounding, the method comes to its end, with an answer and a heap that Q holds of -/
def Rn (o : OM) (l : Launch) (m : MD) (bg : Nat × Nat) (pc : Nat) (L : List (Option Value)) (st : List Value) (h : AH) (Q : Option Value → AH → Prop) : Prop :=
  ∀ (p : Program) (e : Env) (R : Room) (s : State) (mm : MethodId) (args : Array Value) (below : List Frame) (meth : Method) (c : Code) (H : Heap) (locs : List Loc) (cells slots : Nat) (Z : State → Prop) (ls : Array Slot),
    Cx o m R p s mm args meth c → cells + bg.1 ≤ R.cells → slots + bg.2 ≤ R.slots → Rp o h H → (∀ q ∈ locs, ob0 o ≤ q.base) → Lc o m L ls →
    (∀ (v : Option Value) (h' : AH) (H' : Heap) (locs' : List Loc) (cells' slots' pc' : Nat) (ls' : Array Slot) (bg' : Nat × Nat), Q v h' → Rp o h' H' → (∀ q ∈ locs', ob0 o ≤ q.base) → cells' + bg'.1 ≤ R.cells → slots' + bg'.2 ≤ R.slots → RetAt m pc' v bg' → ls'.size = mml m →
      W p l e R s mm args below meth c H' locs' cells' slots' Z (F0 mm pc' ls' (v.toList.map (fv o)))) →
    W p l e R s mm args below meth c H locs cells slots Z (F0 mm pc ls (st.map (fv o)))
def rmo (m : MD) (bg : Nat × Nat) : Room := { frames := mdp m, cells := bg.1, slots := bg.2, locals := 36 * mdp m }
def Pco (o : OM) (av : List Value) (h : AH) : Array Value → State → Prop := va_Pc (av.map (fv o)) (fun U => Rp o h U.heap ∧ Kx o U)
def Qco (o : OM) (Q : Option Value → AH → Prop) : Array Value → State → Outcome → State → Prop := fun _ _ oc t => ∃ (v : Option Value) (h' : AH), oc = .returned (v.map (fv o)) ∧ Q v h' ∧ Rp o h' t.heap
/-- the contract of a method: called with these, it returns, and Q holds of its answer and the heap -/
def Cl (o : OM) (l : Launch) (m : MD) (bg : Nat × Nat) (av : List Value) (h : AH) (Q : Option Value → AH → Prop) : Prop :=
  Met l (mnam m) (mws m) (rmo m bg) (Pco o av h) (Qco o Q) bg.1 bg.2 (fun q => ob0 o ≤ q)
theorem fv_cat (o : OM) (v : Value) : (fv o v).category = v.category := by cases v <;> rfl
def entL : List Value → Nat → List (Option Value)
  | [], n => List.replicate n none
  | v :: t, n => if v.category = 2 then some v :: none :: entL t (n - 2) else some v :: entL t (n - 1)
theorem entL_args (o : OM) : ∀ (vs : List Value) (n j i : Nat) (v : Value), (entL vs n)[i]? = some (some v) → (j + i, fv o v) ∈ lv_args j (vs.map (fv o)) := by
  intro vs
  induction vs with
  | nil => 
    intro n j i v h
    simp [entL, List.getElem?_replicate] at h
  | cons w t ih =>
    intro n j i v h
    simp only [List.map_cons, lv_args, fv_cat]
    by_cases hc : w.category = 2
    · simp only [entL, hc, if_true] at h ⊢
      match i, h with
      | 0, h => simp at h; subst h; exact List.mem_cons_self
      | 1, h => simp at h
      | i + 2, h =>
        have := ih (n - 2) (j + 2) i v (by simpa using h)
        exact List.mem_cons_of_mem _ (by rw [show j + (i + 2) = j + 2 + i by omega]; exact this)
    · simp only [entL, hc, if_false] at h ⊢
      match i, h with
      | 0, h => simp at h; subst h; exact List.mem_cons_self
      | i + 1, h =>
        have := ih (n - 1) (j + 1) i v (by simpa using h)
        exact List.mem_cons_of_mem _ (by rw [show j + (i + 1) = j + 1 + i by omega]; exact this)
theorem lg_len (o : OM) (vs : List Value) : (lg_sl (vs.map (fv o))).length = (lg_sl vs).length := by
  induction vs with
  | nil => rfl
  | cons v t ih =>
    simp only [lg_sl, List.map_cons, List.flatMap_cons, List.length_append, fv_cat] at ih ⊢
    rw [ih]
    by_cases h : v.category = 2 <;> simp [h]
theorem cl_of {o : OM} {l : Launch} {m : MD} {bg : Nat × Nat} {av : List Value} {h : AH} {Q : Option Value → AH → Prop} {L : List (Option Value)} (hp : plainName (mnam m).cls = true) (hcls : (mnam m).cls = mcls m) (hL : entL av (mml m) = L) (hlen : (lg_sl av).length ≤ mml m) (hQn : mrt m = some .int → ∀ h', ¬ Q none h')
    (k : Rn o l m bg 0 L [] h Q) : Cl o l m bg av h Q := by
  refine Met.ofW (cc := mbt m) (maxL := mml m) (ret := mrt m) hp rfl ?_
  intro p e s mm args below meth c s₁ B hml hv
  obtain ⟨rfl, hRp, hK⟩ := hv
  have hts := atoms_spec (ws := mws m) B.pre
  have hown : s.vm.findClass (mnam m).cls = some mm.cls := findClass_of_methodNamed B.named
  have hlocks := B.notSynchronized
  have hr := B.returns
  have hx := B.exec
  have hb := B.bytes
  rw [lg_entry_eq]
  have hl := lv_entry (av.map (fv o)) (n := mml m) (by rw [lg_len]; exact hlen)
  refine k p e _ s mm _ below meth c s.heap [] 0 0 _ _ ⟨hx, hb, hr, hml, hcls ▸ hown, fun w hw => hts w (List.mem_cons_of_mem _ hw), hK, hlocks, (name_of_methodNamed B.named B.method).1, Nat.le_refl _, Nat.le_refl _⟩ (by show 0 + bg.1 ≤ bg.1; omega) (by show 0 + bg.2 ≤ bg.2; omega) hRp (fun q h => by cases h) ⟨hl.1, hl.2.1, fun i v hi => ?_⟩ ?_
  · have := entL_args o av (mml m) 0 i v (by rw [hL]; exact hi)
    rw [Nat.zero_add] at this
    exact hl.2.2 _ this
  · intro v h' H' locs' cells' slots' pc' ls' bg' hQ hRp' hlo hc hs hret hsz
    refine W.widen (k := bg.1) (n := bg.2) (Nat.le_trans (Nat.le_add_right _ _) hc) (Nat.le_trans (Nat.le_add_right _ _) hs) ?_
    rcases hret with ⟨x, ty, rfl, hty, hn, hd⟩ | ⟨x, rfl, hty, hd⟩ | ⟨rfl, hty, hd⟩ | ⟨rfl, hty, -⟩
    · exact W.zret hx hb (hr.trans hty) hn (fun t ht hW => ⟨some (.int x), h', rfl, hQ, by rw [ht]; exact hRp'⟩) hlo hd
    · exact W.lret hx hb (hr.trans hty) (fun t ht hW => ⟨some (.long x), h', rfl, hQ, by rw [ht]; exact hRp'⟩) hlo hd
    · exact W.vret hx hb (hr.trans hty) (fun t ht hW => ⟨none, h', rfl, hQ, by rw [ht]; exact hRp'⟩) hlo hd
    · exact absurd hQ (hQn hty h')
