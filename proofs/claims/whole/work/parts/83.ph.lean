theorem wa_int : Cond.arrayClass .int ∈ gt_ws := gt_in (show Cond.arrayClass .int ∈ lw_tbl by decide +kernel) (by decide +kernel)
theorem wa_byte : Cond.arrayClass .byte ∈ gt_ws := gt_in (show Cond.arrayClass .byte ∈ lw_tbl by decide +kernel) (by decide +kernel)
theorem wa_bool : Cond.arrayClass .boolean ∈ gt_ws := gt_in (show Cond.arrayClass .boolean ∈ lw_tbl by decide +kernel) (by decide +kernel)
theorem wa_long : Cond.arrayClass .long ∈ gt_ws := gt_in (show Cond.arrayClass .long ∈ lw_tbl by decide +kernel) (by decide +kernel)
theorem wm_St : Cond.classLink "SeriesTables$State" 9 "[[I" ∈ gt_ws := gt_in (by decide +kernel) (by decide +kernel)
theorem wm_Tb : Cond.classLink "SeriesTables$TableBench" 34 "[[I" ∈ gt_ws := gt_in (by decide +kernel) (by decide +kernel)
def OA (o : OM) : Prop := va_AO "SeriesTables$Table" (os0 o) ∧ va_AO "SeriesTables$State" (os0 o) ∧ (Cond.arrayOver (.array .int)).before #[] (os0 o) = true
def ANx (own : String) (idx t : Nat) : Prop := ∃ C : String, aty t = .object C ∧ Cond.classLink own idx C ∈ gt_ws ∧ ∀ {o : OM}, OA o → va_AO C (os0 o)
theorem an_St : ANx "SeriesTables$State" 16 7 := ⟨"SeriesTables$Table", rfl, gt_in (by decide +kernel) (by decide +kernel), fun h => h.1⟩
theorem an_Hi : ANx "SeriesTables$History" 9 6 := ⟨"SeriesTables$State", rfl, gt_in (by decide +kernel) (by decide +kernel), fun h => h.2.1⟩
theorem an_X : ANx "SeriesTables" 21 6 := ⟨"SeriesTables$State", rfl, gt_in (by decide +kernel) (by decide +kernel), fun h => h.2.1⟩
section Q83
variable {o : OM} {l : Launch} {m : MD} {bg : Nat × Nat} {pc pc' tgt : Nat} {L L' : List (Option Value)} {st : List Value} {h : AH} {Q : Option Value → AH → Prop}
theorem q_anew {idx t N : Nat} {n : Int32} {bg' : Nat × Nat} (hd : dd m pc (.anewarray idx) 3 pc') (hA : OA o) (hf : ANx (mcls m) idx t) (ht1 : 6 ≤ t) (ht2 : t ≤ 7) (hn : n = nI N) (hN0 : N ≤ 65536) (hb1 : bg'.1 + 1 = bg.1) (hb2 : bg'.2 + N = bg.2) (kk : Rn o l m bg' pc' L (.ref (hN h) :: st) (hnew h (t, N)) Q) : Rn o l m bg pc L (.int n :: st) h Q := by
  obtain ⟨hd, rfl⟩ := hd
  obtain ⟨C, f1, f2, f3⟩ := hf
  subst hn
  intro p e R s mm args below meth c H locs cells slots Z ls hC h1 h2 h3 h4 h5 h6
  have hts := hC.2.2.2.2.2.1
  have hcl : (nI N).toNatClampNeg = N := nI_clamp (by omega)
  refine W.anew hC.1 hC.2.1 hC.2.2.2.2.1 (hts _ f2) (va_AO.use (va_AO.moved hC.2.2.2.2.2.2.1.2.alike (f3 hA))) rfl hd rfl (nI_pos (by omega)) (by rw [hcl]; omega) (by omega) (by rw [hcl]; omega) fun cA kA comp g1 g2 g3 g4 => ?_
  rw [hcl, h3.1]
  refine kk p e R s mm args below meth c _ locs (cells + 1) (slots + N) Z ls hC (by omega) (by omega) (h3.new (by show t < 19; omega) ?_ (by simp) (fun q hq => by rw [Array.getElem?_push, if_neg (Nat.ne_of_lt hq)])) h4 h5 h6
  rw [okc_arr (by show t < 10; omega)]
  obtain ⟨-, _, _, _, _, hRA⟩ := f1 ▸ (arr_of hC.2.2.2.2.2.2.1 (t := t) (by omega) (by omega)).2
  have hcA : odA o t = cA := Option.some.inj (hRA.symm.trans g1)
  show _ = some (arrV (odA o t) N _)
  rw [hcA, ← h3.1, Array.getElem?_push, if_pos rfl, arrV_new]
  congr 1
  congr 1
  funext k
  rw [cv_def (by omega) ht2, f1]
  rfl
theorem q_multi {idx N K : Nat} {n k : Int32} {bg' : Nat × Nat} (hd : dd m pc (.multianewarray idx 2) 4 pc') (hA : OA o) (hw : Cond.classLink (mcls m) idx "[[I" ∈ gt_ws) (hn : n = nI N) (hk : k = nI K) (hN0 : N ≤ 65536) (hK0 : K ≤ 65536) (hb1 : bg'.1 + (1 + N) = bg.1) (hb2 : bg'.2 + (N + N * K) = bg.2) (kk : Rn o l m bg' pc' L (.ref (hN h) :: st) (hmul h N K) Q) : Rn o l m bg pc L (.int k :: .int n :: st) h Q := by
  obtain ⟨hd, rfl⟩ := hd
  subst hn
  subst hk
  intro p e R s mm args below meth c H locs cells slots Z ls hC h1 h2 h3 h4 h5 h6
  have hts := hC.2.2.2.2.2.1
  have c1 : (nI N).toNatClampNeg = N := nI_clamp (by omega)
  have c2 : (nI K).toNatClampNeg = K := nI_clamp (by omega)
  intro T hT9 X
  obtain ⟨vm₁, cA, comp, -, fA, fC, hO, -, X', step⟩ := X.multianewarray2F hC.1 hC.2.2.2.2.1 (hts _ hw) (over_moved hC.2.2.2.2.2.2.1.2.alike hA.2.2) (hts _ wa_int) (g := F0 mm pc ls (.int (nI K) :: .int (nI N) :: st.map (fv o))) rfl (by rw [hC.2.1]; exact hd) rfl (nI_pos (by omega)) (nI_pos (by omega)) (by rw [c1]; omega) (by rw [c2]; show K * 4 ≤ _; omega) (by rw [c2]; omega) rfl rfl (by rw [c1]; omega) (by rw [c1, c2]; omega)
  rw [c1, c2] at X' step
  have hA5 : odA o 5 = cA := by
    have := (arr_of hC.2.2.2.2.2.2.1 (t := 5) (by decide) (by decide)).2
    exact Option.some.inj ((show s.vm.findClass ("[" ++ (FieldType.array .int).toString) = some (odA o 5) from this).symm.trans fA)
  have hA1 : odA o 1 = comp := by
    have := (arr_of hC.2.2.2.2.2.2.1 (t := 1) (by decide) (by decide)).2
    exact Option.some.inj ((show s.vm.findClass (FieldType.array .int).toString = some (odA o 1) from this).symm.trans fC)
  subst hA5
  subst hA1
  generalize hF : Jvm.Free.Multi.fill (T.setVm vm₁) (odA o 5) (odA o 1) N K (defaultValue .int) N = F at X' step
  have hTh : (T.setVm vm₁).heap = H := hT9
  obtain ⟨f1, f2, -, -⟩ := Jvm.Free.Multi.fill_facts (T.setVm vm₁) (odA o 5) (odA o 1) N K (defaultValue .int) N
  rw [hF, hTh] at f1 f2
  have hold : ∀ x : Nat, x < H.size → F.heap[x]? = H[x]? := fun x hx => by
    have := Jvm.Free.Multi.fill_old (T.setVm vm₁) (odA o 5) (odA o 1) N K (defaultValue .int) (a := x) (by rw [hTh]; exact hx) N
    rw [hF, hTh] at this
    exact this
  have hrow : ∀ j : Nat, j < N → F.heap[H.size + 1 + j]? = some (arrV (odA o 1) K (fun _ => .int 0)) := fun j hj => by
    have := Jvm.Free.Multi.fill_inner (T.setVm vm₁) (odA o 5) (odA o 1) N K (defaultValue .int) N j hj
    rw [hF, hTh] at this
    rw [this, ← arrV_new]
    rfl
  rw [vr_outer] at f2
  have hs := h3.1
  have hRp : Rp o (hmul h N K) F.heap := by
    refine ⟨by rw [f1, hs]; show ob0 o + hN h + 1 + N = ob0 o + (hN h + 1 + N); omega, fun q hq => (hold q (by omega)).trans (h3.2.1 q hq), fun b hb => ?_⟩
    show (if b = hN h then (5, N) else if hN h < b ∧ b ≤ hN h + N then (1, K) else hT h b).1 < 19 ∧ b < hN h + 1 + N ∧ okc o b (if b = hN h then (5, N) else if hN h < b ∧ b ≤ hN h + N then (1, K) else hT h b) (if b = hN h then (fun i => if i < N then some (hN h + 1 + i) else none) else if hN h < b ∧ b ≤ hN h + N then (fun _ => none) else hR h b) (if hN h ≤ b ∧ b ≤ hN h + N then (fun _ => 0) else hI h b) F.heap
    have hb9 : (if b = hN h then (5, N) else if hN h < b ∧ b ≤ hN h + N then (1, K) else hT h b).1 ≠ 0 := hb
    by_cases e : b = hN h
    · subst e
      rw [if_pos rfl, if_pos rfl]
      refine ⟨by simp, by omega, ?_⟩
      rw [okc_arr (by simp), ← hs, f2]
      congr 2
      funext j
      simp only [cv, isR, fr, if_pos]
      by_cases hj : j < N
      · simp [hj, hs, Nat.add_assoc]
      · simp [hj]
    · rw [if_neg e, if_neg e] 
      rw [if_neg e] at hb9
      by_cases e2 : hN h < b ∧ b ≤ hN h + N
      · rw [if_pos e2, if_pos e2, if_pos (by omega)]
        refine ⟨by simp, by omega, ?_⟩
        rw [okc_arr (by simp)]
        have := hrow (b - hN h - 1) (by omega)
        rw [show H.size + 1 + (b - hN h - 1) = ob0 o + b by omega] at this
        rw [this]
        congr 2
      · rw [if_neg e2, if_neg e2]
        rw [if_neg e2] at hb9
        obtain ⟨g1, g2, g3⟩ := h3.2.2 b hb9
        rw [if_neg (by omega)]
        exact ⟨g1, by omega, g3.kept (hold _ (by omega))⟩
  obtain ⟨t, a1, b1⟩ := kk p e R s mm args below meth c F.heap locs (cells + 1 + N) (slots + N + N * K) Z ls hC (by omega) (by omega) hRp h4 h5 h6 F rfl X'
  refine ⟨t, step t ?_, b1⟩
  have e9 : T.heap.size = ob0 o + hN h := by rw [hT9, hs]
  rw [e9]
  exact a1
end Q83
/-! the heap while things are made: n cells stand, each of its kind; references and ints as far as they are set -/
def ph (n : Nat) (R : Nat → Nat → Option Nat) (M : Mem) : AH := (n, fun a => if a < n then gT a else (0, 0), R, M)
/-- from n on nothing is set -/
def Zb (n : Nat) (R : Nat → Nat → Option Nat) (M : Mem) : Prop := (∀ b j, n ≤ b → R b j = none) ∧ ∀ b j, n ≤ b → M b j = 0
theorem Zb.mono {n n' : Nat} {R : Nat → Nat → Option Nat} {M : Mem} (h : Zb n R M) (hn : n ≤ n') : Zb n' R M := ⟨fun b j hb => h.1 b j (by omega), fun b j hb => h.2 b j (by omega)⟩
theorem upm2 {α : Type} (f : Nat → Nat → α) (a k : Nat) (v : α) (b j : Nat) : upm f a k v b j = if b = a ∧ j = k then v else f b j := by
  by_cases h : b = a
  · subst h
    rw [upm_eq]
    by_cases h2 : j = k
    · rw [if_pos ⟨rfl, h2⟩]; exact if_pos h2
    · rw [if_neg (fun z => h2 z.2)]; exact if_neg h2
  · rw [upm_ne _ _ _ h, if_neg (fun z => h z.1)]
/-- the references of the cells lo to hi are as they will stay -/
def pt (R : Nat → Nat → Option Nat) (lo hi : Nat) : Nat → Nat → Option Nat := fun b j => if lo ≤ b ∧ b < hi then gR b j else R b j
theorem pt2 (R : Nat → Nat → Option Nat) (lo hi b j : Nat) : pt R lo hi b j = if lo ≤ b ∧ b < hi then gR b j else R b j := rfl
/-- the ints of a State, of a Table -/
def bM (M : Mem) (s : Nat) : Mem := fun b j => if s ≤ b ∧ b < s + 32 then nI (C0 (b - s) j) else M b j
theorem bM2 (M : Mem) (s b j : Nat) : bM M s b j = if s ≤ b ∧ b < s + 32 then nI (C0 (b - s) j) else M b j := rfl
def tM (M : Mem) (t : Nat) : Mem := fun b j => if t ≤ b ∧ b < t + 3 then nI (C0 (b - t + 20) j) else M b j
theorem tM2 (M : Mem) (t b j : Nat) : tM M t b j = if t ≤ b ∧ b < t + 3 then nI (C0 (b - t + 20) j) else M b j := rfl
theorem Zb.put {n a k : Nat} {v : Option Nat} {R : Nat → Nat → Option Nat} {M : Mem} (h : Zb n R M) (ha : a < n) : Zb n (upm R a k v) M := ⟨fun b j hb => by rw [upm2, if_neg (by omega)]; exact h.1 b j hb, h.2⟩
theorem Zb.puti {n a k : Nat} {v : Int32} {R : Nat → Nat → Option Nat} {M : Mem} (h : Zb n R M) (ha : a < n) : Zb n R (upm M a k v) := ⟨h.1, fun b j hb => by rw [upm2, if_neg (by omega)]; exact h.2 b j hb⟩
theorem Zb.pt {n lo hi : Nat} {R : Nat → Nat → Option Nat} {M : Mem} (h : Zb n R M) (hh : n ≤ hi) : Zb hi (pt R lo hi) M := ⟨fun b j hb => by rw [pt2, if_neg (by omega)]; exact h.1 b j (by omega), fun b j hb => h.2 b j (by omega)⟩
theorem Zb.bM {n s : Nat} {R : Nat → Nat → Option Nat} {M : Mem} (h : Zb n R M) (hs : s + 32 ≤ n) : Zb n R (bM M s) := ⟨h.1, fun b j hb => by rw [bM2, if_neg (by omega)]; exact h.2 b j hb⟩
theorem Zb.tM {n s : Nat} {R : Nat → Nat → Option Nat} {M : Mem} (h : Zb n R M) (hs : s + 3 ≤ n) : Zb n R (tM M s) := ⟨h.1, fun b j hb => by rw [tM2, if_neg (by omega)]; exact h.2 b j hb⟩
theorem ph_new {n : Nat} {R : Nat → Nat → Option Nat} {M : Mem} {t : Nat × Nat} (hz : Zb n R M) (ht : gT n = t) : hnew (ph n R M) t = ph (n + 1) R M := by
  have e1 : (fun a => if a = n then t else if a < n then gT a else (0, 0)) = fun a => if a < n + 1 then gT a else (0, 0) := by
    funext a
    by_cases h : a = n
    · subst h; rw [if_pos rfl, if_pos (by omega), ht]
    · rw [if_neg h]
      by_cases h2 : a < n
      · rw [if_pos h2, if_pos (by omega)]
      · rw [if_neg h2, if_neg (by omega)]
  have e2 : (fun a => if a = n then (fun _ => none) else R a) = R := by
    funext a j
    by_cases h : a = n
    · subst h; rw [if_pos rfl, hz.1 a j (Nat.le_refl _)]
    · rw [if_neg h]
  have e3 : (fun a => if a = n then (fun _ => 0) else M a) = M := by
    funext a j
    by_cases h : a = n
    · subst h; rw [if_pos rfl, hz.2 a j (Nat.le_refl _)]
    · rw [if_neg h]
  show (n + 1, (fun a => if a = n then t else if a < n then gT a else (0, 0)), (fun a => if a = n then (fun _ => none) else R a), (fun a => if a = n then (fun _ => 0) else M a)) = _
  rw [e1, e2, e3]
  rfl
theorem ph_mul {n N K : Nat} {R : Nat → Nat → Option Nat} {M : Mem} (hz : Zb n R M) (ht : gT n = (5, N)) (ht2 : ∀ i, i < N → gT (n + 1 + i) = (1, K)) (hg : ∀ j, gR n j = if j < N then some (n + 1 + j) else none) (hg2 : ∀ i j, i < N → gR (n + 1 + i) j = none) : hmul (ph n R M) N K = ph (n + 1 + N) (pt R n (n + 1 + N)) M := by
  have e1 : (fun a => if a = n then (5, N) else if n < a ∧ a ≤ n + N then (1, K) else if a < n then gT a else (0, 0)) = fun a => if a < n + 1 + N then gT a else (0, 0) := by
    funext a
    by_cases h : a = n
    · subst h; rw [if_pos rfl, if_pos (by omega), ht]
    · rw [if_neg h]
      by_cases h2 : n < a ∧ a ≤ n + N
      · rw [if_pos h2, if_pos (by omega)]
        have := ht2 (a - n - 1) (by omega)
        rw [show n + 1 + (a - n - 1) = a by omega] at this
        exact this.symm
      · rw [if_neg h2]
        by_cases h3 : a < n
        · rw [if_pos h3, if_pos (by omega)]
        · rw [if_neg h3, if_neg (by omega)]
  have e2 : (fun a => if a = n then (fun i => if i < N then some (n + 1 + i) else none) else if n < a ∧ a ≤ n + N then (fun _ => none) else R a) = pt R n (n + 1 + N) := by
    funext a j
    rw [pt2]
    by_cases h : a = n
    · subst h; rw [if_pos rfl, hg, if_pos (show a ≤ a ∧ a < a + 1 + N by omega)]
    · rw [if_neg h]
      by_cases h2 : n < a ∧ a ≤ n + N
      · rw [if_pos h2, if_pos (by omega)]
        have := hg2 (a - n - 1) j (by omega)
        rw [show n + 1 + (a - n - 1) = a by omega] at this
        exact this.symm
      · rw [if_neg h2, if_neg (by omega)]
  have e3 : (fun a => if n ≤ a ∧ a ≤ n + N then (fun _ => 0) else M a) = M := by
    funext a j
    by_cases h : n ≤ a ∧ a ≤ n + N
    · rw [if_pos h, hz.2 a j h.1]
    · rw [if_neg h]
  show (n + 1 + N, (fun a => if a = n then (5, N) else if n < a ∧ a ≤ n + N then (1, K) else if a < n then gT a else (0, 0)), (fun a => if a = n then (fun i => if i < N then some (n + 1 + i) else none) else if n < a ∧ a ≤ n + N then (fun _ => none) else R a), (fun a => if n ≤ a ∧ a ≤ n + N then (fun _ => 0) else M a)) = _
  rw [e1, e2, e3]
  rfl
section P83
variable {o : OM} {l : Launch} {m k : MD} {bg bg' bg2 : Nat × Nat} {pc pc' n : Nat} {L : List (Option Value)} {st st0 : List Value} {R : Nat → Nat → Option Nat} {M : Mem} {Q : Option Value → AH → Prop}
theorem p_ty {a : Nat} (h : a < n) : hT (ph n R M) a = gT a := if_pos h
theorem p_new {idx ci : Nat} (hd : dd m pc (.new idx) 3 pc') (hf : NWk (mcls m) idx ci) (hb1 : bg'.1 + 1 = bg.1) (hb2 : bg'.2 + nfl ci = bg.2) (hz : Zb n R M) (ht : gT n = (10 + ci, 0)) (kk : Rn o l m bg' pc' L (.ref n :: st) (ph (n + 1) R M) Q) : Rn o l m bg pc L st (ph n R M) Q := r_new hd hf hb1 hb2 (by rw [ph_new hz ht]; exact kk)
theorem p_newa {at9 : ArrayType} {t N : Nat} {x : Int32} (hd : dd m pc (.newarray at9) 2 pc') (hty : aty t = newarray.typeOf at9) (ht12 : 1 ≤ t ∧ t ≤ 4) (hw : Cond.arrayClass (newarray.typeOf at9) ∈ gt_ws) (hn : x = nI N) (hN0 : N ≤ 65536) (hb1 : bg'.1 + 1 = bg.1) (hb2 : bg'.2 + N = bg.2) (hz : Zb n R M) (ht : gT n = (t, N)) (kk : Zb (n + 1) R M → Rn o l m bg' pc' L (.ref n :: st) (ph (n + 1) R M) Q) : Rn o l m bg pc L (.int x :: st) (ph n R M) Q := r_newa hd hty ht12.1 ht12.2 hw hn hN0 hb1 hb2 (by rw [ph_new hz ht]; exact kk (hz.mono (by omega)))
theorem p_anew {idx t N : Nat} {x : Int32} (hd : dd m pc (.anewarray idx) 3 pc') (hA : OA o) (hf : ANx (mcls m) idx t) (ht12 : 6 ≤ t ∧ t ≤ 7) (hn : x = nI N) (hN0 : N ≤ 65536) (hb1 : bg'.1 + 1 = bg.1) (hb2 : bg'.2 + N = bg.2) (hz : Zb n R M) (ht : gT n = (t, N)) (kk : Zb (n + 1) R M → Rn o l m bg' pc' L (.ref n :: st) (ph (n + 1) R M) Q) : Rn o l m bg pc L (.int x :: st) (ph n R M) Q := q_anew hd hA hf ht12.1 ht12.2 hn hN0 hb1 hb2 (by rw [ph_new hz ht]; exact kk (hz.mono (by omega)))
theorem p_multi {idx N K : Nat} {x y : Int32} (hd : dd m pc (.multianewarray idx 2) 4 pc') (hA : OA o) (hw : Cond.classLink (mcls m) idx "[[I" ∈ gt_ws) (hn : x = nI N) (hk : y = nI K) (hN0 : N ≤ 65536) (hK0 : K ≤ 65536) (hb1 : bg'.1 + (1 + N) = bg.1) (hb2 : bg'.2 + (N + N * K) = bg.2) (hz : Zb n R M)
    (ht : gT n = (5, N)) (ht2 : ∀ i, i < N → gT (n + 1 + i) = (1, K)) (hg : ∀ j, gR n j = if j < N then some (n + 1 + j) else none) (hg2 : ∀ i j, i < N → gR (n + 1 + i) j = none) (kk : Zb (n + 1 + N) (pt R n (n + 1 + N)) M → Rn o l m bg' pc' L (.ref n :: st) (ph (n + 1 + N) (pt R n (n + 1 + N)) M) Q) : Rn o l m bg pc L (.int y :: .int x :: st) (ph n R M) Q := q_multi hd hA hw hn hk hN0 hK0 hb1 hb2 (by rw [ph_mul hz ht ht2 hg hg2]; exact kk (hz.pt (by omega)))
theorem p_putr {a idx ci q b : Nat} (hd : dd m pc (.putfield idx) 3 pc') (hf : FLk (mcls m) idx ci q) (hr : isR (10 + ci) q = true) (hy : ∀ x : Nat, narrow (fY ci q) (.ref x) = .ref x ∧ fits (fY ci q) (.ref x) = true) (hfin : (fT ci q).2.2.2 = true) (hdecl : (fT ci q).1 = mcls m) (hini : (mnam m).name = "<init>") (hz : Zb n R M) (ha : gT a = (10 + ci, 0)) (hlt : a < n) (kk : Zb n (upm R a q (some b)) M → Rn o l m bg pc' L st (ph n (upm R a q (some b)) M) Q) : Rn o l m bg pc L (.ref b :: .ref a :: st) (ph n R M) Q := r_putr hd hf hr hy hfin hdecl hini (by rw [p_ty hlt, ha]) (kk (hz.put hlt))
theorem p_getr {a idx ci q b : Nat} (hd : dd m pc (.getfield idx) 3 pc') (hf : FLk (mcls m) idx ci q) (hr : isR (10 + ci) q = true) (ha : gT a = (10 + ci, 0)) (hlt : a < n) (hb : R a q = some b) (kk : Rn o l m bg pc' L (.ref b :: st) (ph n R M) Q) : Rn o l m bg pc L (.ref a :: st) (ph n R M) Q := r_getr hd hf hr (by rw [p_ty hlt, ha]) hb kk
theorem p_iast {a N j : Nat} {i x : Int32} (hd : dd m pc .iastore 1 pc') (ha : gT a = (1, N)) (hlt : a < n) (hi : i = nI j) (hj : j < N) (hN : N < 2 ^ 31) (hz : Zb n R M) (kk : Zb n R (upm M a j x) → Rn o l m bg pc' L st (ph n R (upm M a j x)) Q) : Rn o l m bg pc L (.int x :: .int i :: .ref a :: st) (ph n R M) Q := r_iast hd (by rw [p_ty hlt, ha]) hi hj hN (kk (hz.puti hlt))
theorem p_aast {a b N j t ci : Nat} {i : Int32} (hd : dd m pc .aastore 1 pc') (ha : gT a = (t, N)) (hlt : a < n) (ht : t = 6 ∨ t = 7) (hci : ci < 9) (hty : aty t = .object (fC ci)) (hbt : gT b = (10 + ci, 0)) (hblt : b < n) (hi : i = nI j) (hj : j < N) (hn : N < 2 ^ 31) (hz : Zb n R M) (kk : Zb n (upm R a j (some b)) M → Rn o l m bg pc' L st (ph n (upm R a j (some b)) M) Q) : Rn o l m bg pc L (.ref b :: .int i :: .ref a :: st) (ph n R M) Q := r_aast hd (by rw [p_ty hlt, ha]) ht hci hty (by rw [p_ty hblt, hbt]) hi hj hn (kk (hz.put hlt))
/-- a constructor: from the bare thing a, the last one made, to n' cells -/
def KC (o : OM) (l : Launch) (m : MD) (bg : Nat × Nat) (a n' : Nat) (R : Nat → Nat → Option Nat) (M : Mem) (R' : Nat → Nat → Option Nat) (M' : Mem) : Prop := Cl o l m bg [.ref a] (ph (a + 1) R M) (fun v h' => v = none ∧ h' = ph n' R' M')
theorem p_call {idx a n' : Nat} {R' : Nat → Nat → Option Nat} {M' : Mem} (hd : dd m pc (.invokespecial idx) 3 pc') (hk : LKd (mcls m) idx 0 k) (hs : Cond.instanceMethod (mnam k) ∈ gt_ws ∧ (mnam k).name = "<init>" ∧ mrt k = none) (hdp : mdp k + 1 ≤ mdp m) (hw : (st.map fun v => v.category).sum ≤ 8) (hb1 : bg'.1 + bg2.1 = bg.1) (hb2 : bg'.2 + bg2.2 = bg.2) (hc : KC o l k bg' a n' R M R' M') (kk : Rn o l m bg2 pc' L st (ph n' R' M') Q) : Rn o l m bg pc L (.ref a :: st) (ph (a + 1) R M) Q := r_callI (av := []) hd hk hs hdp rfl rfl hw hb1 hb2 hc (by rintro v h' ⟨rfl, rfl⟩; exact kk)
theorem kc_of {a n' : Nat} {R' : Nat → Nat → Option Nat} {M' : Mem} (hp : plainName (mnam m).cls = true) (hcls : (mnam m).cls = mcls m) (hL : entL [.ref a] (mml m) = L) (hlen : (lg_sl [.ref a]).length ≤ mml m) (hv : mrt m = none) (k : Rn o l m bg 0 L [] (ph (a + 1) R M) (fun v h' => v = none ∧ h' = ph n' R' M')) : KC o l m bg a n' R M R' M' := cl_of hp hcls hL hlen (fun e => by rw [hv] at e; cases e) k
theorem p_ret {n' : Nat} {R' : Nat → Nat → Option Nat} {M' : Mem} (hd : decode (mbt m) pc = .ok (.return_, 1)) (hr : mrt m = none) (hn : n = n') (e1 : R = R') (e2 : M = M') : Rn o l m bg pc L [] (ph n R M) (fun v h' => v = none ∧ h' = ph n' R' M') := r_return hd hr ⟨rfl, by rw [hn, e1, e2]⟩
end P83
