/-! The things that the law makes, by their order: which kind each is, what its references are; they stay so. -/
def gSt (k : Nat) : Nat × Nat := if k = 0 then (13, 0) else if k = 1 then (5, 6) else if k < 8 then (1, 10) else if k = 8 then (7, 4) else if k = 9 then (5, 10) else if k < 20 then (1, 10) else if k % 3 = 2 then (14, 0) else (1, 10)
def gSr (s k j : Nat) : Option Nat :=
  if k = 0 then (if j = 0 then some (s + 1) else if j = 1 then some (s + 8) else if j = 2 then some (s + 9) else none)
  else if k = 1 then (if j < 6 then some (s + 2 + j) else none)
  else if k = 8 then (if j < 4 then some (s + 20 + 3 * j) else none)
  else if k = 9 then (if j < 10 then some (s + 10 + j) else none)
  else if 20 ≤ k ∧ k % 3 = 2 then (if j < 2 then some (s + k + 1 + j) else none)
  else none
def gT (a : Nat) : Nat × Nat :=
  if a < 34 then (if a = 0 then (17, 0) else if a = 1 then (11, 0) else gSt (a - 2))
  else if a < 71 then (if a = 34 then (16, 0) else if a = 35 then (2, 540) else if a = 36 then (1, 10) else if a < 69 then gSt (a - 37) else if a = 69 then (10, 0) else (6, 8))
  else if a < 327 then gSt ((a - 71) % 32)
  else if a < 392 then (if a = 327 then (6, 2) else gSt ((a - 328) % 32))
  else if a < 407 then (if a = 392 then (3, 2) else if a = 393 then (12, 0) else if a < 397 then (1, 10) else if a = 397 then (15, 0) else if (a - 398) % 3 = 0 then (14, 0) else (1, 10))
  else if a < 436 then (if a = 410 then (5, 10) else if a = 421 then (5, 10) else if a = 432 then (12, 0) else (1, 10))
  else if a < 443 then (if a = 436 then (18, 0) else if a = 437 then (1, 540) else if a = 438 then (1, 241) else if a = 439 then (1, 241) else if a = 440 then (1, 482) else if a = 441 then (1, 1928) else (3, 2))
  else if a < 454 then (if a < 448 then (1, 10) else if a < 452 then (1, 100) else if a = 452 then (1, 10) else (4, 1))
  else (0, 0)
def gR (a j : Nat) : Option Nat :=
  if a < 34 then (if a = 0 then ([34, 1, 37, 69, 327, 392, 393, 397][j]?) else if a = 1 then ([2, 34, 36][j]?) else gSr 2 (a - 2) j)
  else if a < 71 then (if a = 34 then (if j = 0 then some 35 else none) else if a = 35 then none else if a = 36 then none else if a < 69 then gSr 37 (a - 37) j else if a = 69 then (if j = 0 then some 70 else none) else if j < 8 then some (71 + 32 * j) else none)
  else if a < 327 then gSr (71 + 32 * ((a - 71) / 32)) ((a - 71) % 32) j
  else if a < 392 then (if a = 327 then (if j < 2 then some (328 + 32 * j) else none) else gSr (328 + 32 * ((a - 328) / 32)) ((a - 328) % 32) j)
  else if a < 407 then (if a = 393 then ([394, 395, 396][j]?) else if a = 397 then ([398, 401, 404, 407, 408, 409, 410, 421, 432][j]?) else if 398 ≤ a ∧ (a - 398) % 3 = 0 then (if j < 2 then some (a + 1 + j) else none) else none)
  else if a < 436 then (if a = 410 then (if j < 10 then some (411 + j) else none) else if a = 421 then (if j < 10 then some (422 + j) else none) else if a = 432 then ([433, 434, 435][j]?) else none)
  else if a = 436 then (if j = 1 then some 437 else if 10 ≤ j ∧ j < 15 then some (428 + j) else if 20 ≤ j ∧ j < 30 then some (423 + j) else none)
  else none
abbrev Mem : Type := Nat → Nat → Int32
abbrev gh (n : Nat) (M : Mem) : AH := (n, gT, gR, M)
/-- one row of the memory becomes another one -/
def wr (M : Mem) (a : Nat) (f : Nat → Int32) : Mem := fun b => if b = a then f else M b
theorem wr_eq (M : Mem) (a : Nat) (f : Nat → Int32) : wr M a f a = f := by simp [wr]
theorem wr_ne (M : Mem) {a b : Nat} (f : Nat → Int32) (h : b ≠ a) : wr M a f b = M b := by simp [wr, h]
theorem wr_wr (M : Mem) (a : Nat) (f g : Nat → Int32) : wr (wr M a f) a g = wr M a g := by
  funext b
  by_cases h : b = a <;> simp [wr, h]
theorem upm_wr (M : Mem) (a k : Nat) (v : Int32) : upm M a k v = wr M a (fun j => if j = k then v else M a j) := rfl
def QI (n : Nat) (P : Int32 → Mem → Prop) : Option Value → AH → Prop := fun v h' => ∃ x M', v = some (.int x) ∧ h' = gh n M' ∧ P x M'
def QJ (n : Nat) (P : Int64 → Mem → Prop) : Option Value → AH → Prop := fun v h' => ∃ x M', v = some (.long x) ∧ h' = gh n M' ∧ P x M'
def QV (n : Nat) (P : Mem → Prop) : Option Value → AH → Prop := fun v h' => ∃ M', v = none ∧ h' = gh n M' ∧ P M'
/-- contracts of methods that answer an int, a long, nothing, over the things as they stand -/
def CI (o : OM) (l : Launch) (m : MD) (n : Nat) (av : List Value) (M : Mem) (P : Int32 → Mem → Prop) : Prop := Cl o l m (0, 0) av (gh n M) (QI n P)
def CJ (o : OM) (l : Launch) (m : MD) (n : Nat) (av : List Value) (M : Mem) (P : Int64 → Mem → Prop) : Prop := Cl o l m (0, 0) av (gh n M) (QJ n P)
def CV (o : OM) (l : Launch) (m : MD) (n : Nat) (av : List Value) (M : Mem) (P : Mem → Prop) : Prop := Cl o l m (0, 0) av (gh n M) (QV n P)
section RG
variable {o : OM} {l : Launch} {m k : MD} {bg : Nat × Nat} {pc pc' tgt : Nat} {L L' : List (Option Value)} {st : List Value} {n : Nat} {M : Mem} {Q : Option Value → AH → Prop}
theorem g_iald {a N j : Nat} (hd : dd m pc .iaload 1 pc') (ha : gT a = (1, N)) (hj : j < N) (hN : N < 2 ^ 31) (k : Rn o l m bg pc' L (.int (M a j) :: st) (gh n M) Q) : Rn o l m bg pc L (.int (nI j) :: .ref a :: st) (gh n M) Q := r_iald hd ha rfl hj hN k
theorem g_ialdV {a N j : Nat} {x : Int32} (hd : dd m pc .iaload 1 pc') (ha : gT a = (1, N)) (hj : j < N) (hN : N < 2 ^ 31) (hv : M a j = x) (k : Rn o l m bg pc' L (.int x :: st) (gh n M) Q) : Rn o l m bg pc L (.int (nI j) :: .ref a :: st) (gh n M) Q := by
  subst hv
  exact r_iald hd ha rfl hj hN k
theorem g_bald {a N j : Nat} (hd : dd m pc .baload 1 pc') (ha : gT a = (2, N)) (hj : j < N) (hN : N < 2 ^ 31) (k : Rn o l m bg pc' L (.int (M a j) :: st) (gh n M) Q) : Rn o l m bg pc L (.int (nI j) :: .ref a :: st) (gh n M) Q := r_bald hd ha rfl hj hN k
theorem g_zald {a N j : Nat} (hd : dd m pc .baload 1 pc') (ha : gT a = (3, N)) (hj : j < N) (hN : N < 2 ^ 31) (k : Rn o l m bg pc' L (.int (M a j) :: st) (gh n M) Q) : Rn o l m bg pc L (.int (nI j) :: .ref a :: st) (gh n M) Q := r_zald hd ha rfl hj hN k
theorem g_aald {a N j t b : Nat} (hd : dd m pc .aaload 1 pc') (ha : gT a = (t, N)) (ht : t = 5 ∨ t = 6 ∨ t = 7) (hj : j < N) (hN : N < 2 ^ 31) (hr : gR a j = some b) (k : Rn o l m bg pc' L (.ref b :: st) (gh n M) Q) : Rn o l m bg pc L (.int (nI j) :: .ref a :: st) (gh n M) Q := r_aald hd ha ht rfl hj hN hr k
theorem g_alen {a N t : Nat} (hd : dd m pc .arraylength 1 pc') (ha : gT a = (t, N)) (ht : 1 ≤ t ∧ t ≤ 7) (k : Rn o l m bg pc' L (.int (nI N) :: st) (gh n M) Q) : Rn o l m bg pc L (.ref a :: st) (gh n M) Q := r_alen hd ha ht k
theorem g_iast {a N j : Nat} {x : Int32} (hd : dd m pc .iastore 1 pc') (ha : gT a = (1, N)) (hj : j < N) (hN : N < 2 ^ 31) (k : Rn o l m bg pc' L st (gh n (upm M a j x)) Q) : Rn o l m bg pc L (.int x :: .int (nI j) :: .ref a :: st) (gh n M) Q := r_iast hd ha rfl hj hN k
theorem g_bast {a N j : Nat} {x : Int32} (hd : dd m pc .bastore 1 pc') (ha : gT a = (2, N)) (hj : j < N) (hN : N < 2 ^ 31) (k : Rn o l m bg pc' L st (gh n (upm M a j x.toInt8.toInt32)) Q) : Rn o l m bg pc L (.int x :: .int (nI j) :: .ref a :: st) (gh n M) Q := r_bast hd ha rfl hj hN k
theorem g_zast {a N j : Nat} {x : Int32} (hd : dd m pc .bastore 1 pc') (ha : gT a = (3, N)) (hj : j < N) (hN : N < 2 ^ 31) (hx : narrow .boolean (.int x) = .int x) (k : Rn o l m bg pc' L st (gh n (upm M a j x)) Q) : Rn o l m bg pc L (.int x :: .int (nI j) :: .ref a :: st) (gh n M) Q := r_zast hd ha rfl hj hN hx k
theorem g_geti {a idx ci k : Nat} (hd : dd m pc (.getfield idx) 3 pc') (hf : FLk (mcls m) idx ci k) (hr : isR (10 + ci) k = false) (ha : (gT a).1 = 10 + ci) (kk : Rn o l m bg pc' L (.int (M a k) :: st) (gh n M) Q) : Rn o l m bg pc L (.ref a :: st) (gh n M) Q := r_geti hd hf hr ha kk
theorem g_getr {a idx ci k b : Nat} (hd : dd m pc (.getfield idx) 3 pc') (hf : FLk (mcls m) idx ci k) (hr : isR (10 + ci) k = true) (ha : (gT a).1 = 10 + ci) (hb : gR a k = some b) (kk : Rn o l m bg pc' L (.ref b :: st) (gh n M) Q) : Rn o l m bg pc L (.ref a :: st) (gh n M) Q := r_getr hd hf hr ha hb kk
theorem g_puti {a idx ci k : Nat} {x : Int32} (hd : dd m pc (.putfield idx) 3 pc') (hf : FLk (mcls m) idx ci k) (hr : isR (10 + ci) k = false ∧ fY ci k = .int ∧ (fT ci k).2.2.2 = false) (ha : (gT a).1 = 10 + ci) (kk : Rn o l m bg pc' L st (gh n (upm M a k x)) Q) : Rn o l m bg pc L (.int x :: .ref a :: st) (gh n M) Q := r_puti hd hf hr.1 hr.2.1 hr.2.2 ha kk
theorem g_copy {idx a b n0 n1 sp dp c : Nat} (hd : dd m pc (.invokestatic idx) 3 pc') (hk : Cond.methodLink (mcls m) idx arraycopyName ∈ gt_ws) (hdp : 1 ≤ mdp m) (ha : gT a = (1, n0)) (hb : gT b = (1, n1)) (hs1 : sp + c ≤ n0) (hs2 : dp + c ≤ n1) (hz : n0 < 2 ^ 31 ∧ n1 < 2 ^ 31) (hw : (st.map fun v => v.category).sum ≤ 8)
    (kk : Rn o l m bg pc' L st (gh n (wr M b (va_cpy (M a) (M b) sp dp c))) Q) : Rn o l m bg pc L (.int (nI c) :: .int (nI dp) :: .ref b :: .int (nI sp) :: .ref a :: st) (gh n M) Q := r_copy hd ⟨hk, w_acopy⟩ hdp ha hb rfl rfl rfl hs1 hs2 hz hw kk
theorem ci_of {av : List Value} {P : Int32 → Mem → Prop} (hp : plainName (mnam m).cls = true) (hcls : (mnam m).cls = mcls m) (hL : entL av (mml m) = L) (hlen : (lg_sl av).length ≤ mml m) (k : Rn o l m (0, 0) 0 L [] (gh n M) (QI n P)) : CI o l m n av M P := cl_of hp hcls hL hlen (fun _ h' z => by obtain ⟨x, M', e, _⟩ := z; cases e) k
theorem cj_of {av : List Value} {P : Int64 → Mem → Prop} (hp : plainName (mnam m).cls = true) (hcls : (mnam m).cls = mcls m) (hL : entL av (mml m) = L) (hlen : (lg_sl av).length ≤ mml m) (k : Rn o l m (0, 0) 0 L [] (gh n M) (QJ n P)) : CJ o l m n av M P := cl_of hp hcls hL hlen (fun _ h' z => by obtain ⟨x, M', e, _⟩ := z; cases e) k
theorem cvo_of {av : List Value} {P : Mem → Prop} (hp : plainName (mnam m).cls = true) (hcls : (mnam m).cls = mcls m) (hL : entL av (mml m) = L) (hlen : (lg_sl av).length ≤ mml m) (k : Rn o l m (0, 0) 0 L [] (gh n M) (QV n P)) (hv : mrt m = none := by rfl) : CV o l m n av M P := cl_of hp hcls hL hlen (fun e => by rw [hv] at e; cases e) k
theorem g_reti {x : Int32} {P : Int32 → Mem → Prop} (hd : decode (mbt m) pc = .ok (.ireturn, 1)) (hr : mrt m = some .int) (hq : P x M) : Rn o l m bg pc L [.int x] (gh n M) (QI n P) := r_ireturn hd hr ⟨x, M, rfl, rfl, hq⟩
theorem g_retz {x : Int32} {P : Int32 → Mem → Prop} (hd : decode (mbt m) pc = .ok (.ireturn, 1)) (hr : mrt m = some .boolean) (hx : narrow .boolean (.int x) = .int x) (hq : P x M) : Rn o l m bg pc L [.int x] (gh n M) (QI n P) := r_zreturn hd hr hx ⟨x, M, rfl, rfl, hq⟩
theorem g_retl {x : Int64} {P : Int64 → Mem → Prop} (hd : decode (mbt m) pc = .ok (.lreturn, 1)) (hr : mrt m = some .long) (hq : P x M) : Rn o l m bg pc L [.long x] (gh n M) (QJ n P) := r_lreturn hd hr ⟨x, M, rfl, rfl, hq⟩
theorem g_retv {P : Mem → Prop} (hd : decode (mbt m) pc = .ok (.return_, 1)) (hr : mrt m = none) (hq : P M) : Rn o l m bg pc L [] (gh n M) (QV n P) := r_return hd hr ⟨M, rfl, rfl, hq⟩
theorem g_Si {idx nn : Nat} {av st0 : List Value} {P : Int32 → Mem → Prop} (hd : dd m pc (.invokestatic idx) 3 pc') (hk : LKd (mcls m) idx nn k) (hs : Cond.static (mnam k) ∈ gt_ws) (hdp : mdp k + 1 ≤ mdp m) (hn : av.length = nn) (hst : st0 = av.reverse ++ st) (hw : (st.map fun v => v.category).sum ≤ 8) (hc : CI o l k n av M P) (kk : ∀ x M', P x M' → Rn o l m bg pc' L (.int x :: st) (gh n M') Q) : Rn o l m bg pc L st0 (gh n M) Q := by
  refine r_callS hd hk hs hdp hn hst hw hc ?_
  rintro v h' ⟨x, M', rfl, rfl, hp⟩
  exact kk x M' hp
theorem g_Sj {idx nn : Nat} {av st0 : List Value} {P : Int64 → Mem → Prop} (hd : dd m pc (.invokestatic idx) 3 pc') (hk : LKd (mcls m) idx nn k) (hs : Cond.static (mnam k) ∈ gt_ws) (hdp : mdp k + 1 ≤ mdp m) (hn : av.length = nn) (hst : st0 = av.reverse ++ st) (hw : (st.map fun v => v.category).sum ≤ 8) (hc : CJ o l k n av M P) (kk : ∀ x M', P x M' → Rn o l m bg pc' L (.long x :: st) (gh n M') Q) : Rn o l m bg pc L st0 (gh n M) Q := by
  refine r_callS hd hk hs hdp hn hst hw hc ?_
  rintro v h' ⟨x, M', rfl, rfl, hp⟩
  exact kk x M' hp
theorem g_Sv {idx nn : Nat} {av st0 : List Value} {P : Mem → Prop} (hd : dd m pc (.invokestatic idx) 3 pc') (hk : LKd (mcls m) idx nn k) (hs : Cond.static (mnam k) ∈ gt_ws) (hdp : mdp k + 1 ≤ mdp m) (hn : av.length = nn) (hst : st0 = av.reverse ++ st) (hw : (st.map fun v => v.category).sum ≤ 8) (hc : CV o l k n av M P) (kk : ∀ M', P M' → Rn o l m bg pc' L st (gh n M') Q) : Rn o l m bg pc L st0 (gh n M) Q := by
  refine r_callS hd hk hs hdp hn hst hw hc ?_
  rintro v h' ⟨M', rfl, rfl, hp⟩
  exact kk M' hp
theorem g_Vi {idx nn a ci : Nat} {av st0 : List Value} {P : Int32 → Mem → Prop} (hd : dd m pc (.invokevirtual idx) 3 pc') (hk : LKd (mcls m) idx nn k) (hs : Cond.instanceMethod (mnam k) ∈ gt_ws ∧ Cond.selects (fC ci) (mnam k) (mnam k) ∈ gt_ws ∧ ci < 9) (hdp : mdp k + 1 ≤ mdp m) (hn : av.length = nn) (hst : st0 = av.reverse ++ .ref a :: st) (hw : (st.map fun v => v.category).sum ≤ 8) (ha : (gT a).1 = 10 + ci) (hc : CI o l k n (.ref a :: av) M P) (kk : ∀ x M', P x M' → Rn o l m bg pc' L (.int x :: st) (gh n M') Q) : Rn o l m bg pc L st0 (gh n M) Q := by
  refine r_callV hd hk hs hdp hn hst hw ha hc ?_
  rintro v h' ⟨x, M', rfl, rfl, hp⟩
  exact kk x M' hp
theorem g_Vj {idx nn a ci : Nat} {av st0 : List Value} {P : Int64 → Mem → Prop} (hd : dd m pc (.invokevirtual idx) 3 pc') (hk : LKd (mcls m) idx nn k) (hs : Cond.instanceMethod (mnam k) ∈ gt_ws ∧ Cond.selects (fC ci) (mnam k) (mnam k) ∈ gt_ws ∧ ci < 9) (hdp : mdp k + 1 ≤ mdp m) (hn : av.length = nn) (hst : st0 = av.reverse ++ .ref a :: st) (hw : (st.map fun v => v.category).sum ≤ 8) (ha : (gT a).1 = 10 + ci) (hc : CJ o l k n (.ref a :: av) M P) (kk : ∀ x M', P x M' → Rn o l m bg pc' L (.long x :: st) (gh n M') Q) : Rn o l m bg pc L st0 (gh n M) Q := by
  refine r_callV hd hk hs hdp hn hst hw ha hc ?_
  rintro v h' ⟨x, M', rfl, rfl, hp⟩
  exact kk x M' hp
theorem g_Vv {idx nn a ci : Nat} {av st0 : List Value} {P : Mem → Prop} (hd : dd m pc (.invokevirtual idx) 3 pc') (hk : LKd (mcls m) idx nn k) (hs : Cond.instanceMethod (mnam k) ∈ gt_ws ∧ Cond.selects (fC ci) (mnam k) (mnam k) ∈ gt_ws ∧ ci < 9) (hdp : mdp k + 1 ≤ mdp m) (hn : av.length = nn) (hst : st0 = av.reverse ++ .ref a :: st) (hw : (st.map fun v => v.category).sum ≤ 8) (ha : (gT a).1 = 10 + ci) (hc : CV o l k n (.ref a :: av) M P) (kk : ∀ M', P M' → Rn o l m bg pc' L st (gh n M') Q) : Rn o l m bg pc L st0 (gh n M) Q := by
  refine r_callV hd hk hs hdp hn hst hw ha hc ?_
  rintro v h' ⟨M', rfl, rfl, hp⟩
  exact kk M' hp
/-! arithmetic on numbers from 0 on -/
theorem r_top {x y : Int32} {h : AH} (e : x = y) (kk : Rn o l m bg pc L (.int y :: st) h Q) : Rn o l m bg pc L (.int x :: st) h Q := e ▸ kk
theorem r_topl {x y : Int64} {h : AH} (e : x = y) (kk : Rn o l m bg pc L (.long y :: st) h Q) : Rn o l m bg pc L (.long x :: st) h Q := e ▸ kk
theorem n_iadd {a b : Nat} {h : AH} (hd : dd m pc .iadd 1 pc') (kk : Rn o l m bg pc' L (.int (nI (a + b)) :: st) h Q) : Rn o l m bg pc L (.int (nI b) :: .int (nI a) :: st) h Q := r_iadd hd (r_top (nI_add a b) kk)
theorem n_isub {a b : Nat} {h : AH} (hd : dd m pc .isub 1 pc') (hb : b ≤ a) (kk : Rn o l m bg pc' L (.int (nI (a - b)) :: st) h Q) : Rn o l m bg pc L (.int (nI b) :: .int (nI a) :: st) h Q := r_isub hd (r_top (pk_sub hb) kk)
theorem n_imul {a b : Nat} {h : AH} (hd : dd m pc .imul 1 pc') (kk : Rn o l m bg pc' L (.int (nI (a * b)) :: st) h Q) : Rn o l m bg pc L (.int (nI b) :: .int (nI a) :: st) h Q := r_imul hd (r_top (pk_mul a b) kk)
theorem n_irem {a b : Nat} {h : AH} (hd : dd m pc .irem 1 pc') (ha : a < 2 ^ 31) (hb : 0 < b) (hb2 : b < 2 ^ 31) (kk : Rn o l m bg pc' L (.int (nI (a % b)) :: st) h Q) : Rn o l m bg pc L (.int (nI b) :: .int (nI a) :: st) h Q := r_irem hd (nI_ne0 hb hb2) (r_top (pk_rem ha hb hb2) kk)
theorem n_i2l {a : Nat} {h : AH} (hd : dd m pc .i2l 1 pc') (ha : a < 2 ^ 31) (kk : Rn o l m bg pc' L (.long (lN a) :: st) h Q) : Rn o l m bg pc L (.int (nI a) :: st) h Q := r_i2l hd (r_topl (nI_l ha) kk)
theorem n_ladd {a b : Nat} {h : AH} (hd : dd m pc .ladd 1 pc') (kk : Rn o l m bg pc' L (.long (lN (a + b)) :: st) h Q) : Rn o l m bg pc L (.long (lN b) :: .long (lN a) :: st) h Q := r_ladd hd (r_topl (lN_add a b) kk)
theorem n_lmul {a b : Nat} {h : AH} (hd : dd m pc .lmul 1 pc') (kk : Rn o l m bg pc' L (.long (lN (a * b)) :: st) h Q) : Rn o l m bg pc L (.long (lN b) :: .long (lN a) :: st) h Q := r_lmul hd (r_topl (lN_mul a b) kk)
theorem n_lrem {a b : Nat} {h : AH} (hd : dd m pc .lrem 1 pc') (ha : a < 2 ^ 63) (hb : 0 < b) (hb2 : b < 2 ^ 63) (kk : Rn o l m bg pc' L (.long (lN (a % b)) :: st) h Q) : Rn o l m bg pc L (.long (lN b) :: .long (lN a) :: st) h Q := r_lrem hd (fun e => by
  have := (pk_lEQ (a := b) (b := 0) hb2 (by omega)).mp e
  omega) (r_topl (pk_lRem ha hb hb2) kk)
theorem n_l2i {a : Nat} {h : AH} (hd : dd m pc .l2i 1 pc') (kk : Rn o l m bg pc' L (.int (nI a) :: st) h Q) : Rn o l m bg pc L (.long (lN a) :: st) h Q := r_l2i hd (r_top (lN_i a) kk)
theorem n_icmp_lt {a b : Nat} {h : AH} (hd : db m pc (.if_icmp .lt) pc' tgt) (ha : a < 2 ^ 31) (hb : b < 2 ^ 31) (kt : a < b → Rn o l m bg tgt L st h Q) (kf : b ≤ a → Rn o l m bg pc' L st h Q) : Rn o l m bg pc L (.int (nI b) :: .int (nI a) :: st) h Q := r_icmp_lt hd (fun e => kt ((nI_ltI ha hb).mp e)) (fun e => kf (Nat.le_of_not_lt fun q => e ((nI_ltI ha hb).mpr q)))
theorem n_icmp_ge {a b : Nat} {h : AH} (hd : db m pc (.if_icmp .ge) pc' tgt) (ha : a < 2 ^ 31) (hb : b < 2 ^ 31) (kt : b ≤ a → Rn o l m bg tgt L st h Q) (kf : a < b → Rn o l m bg pc' L st h Q) : Rn o l m bg pc L (.int (nI b) :: .int (nI a) :: st) h Q := r_icmp_ge hd (fun e => kt ((nI_leI hb ha).mp e)) (fun e => kf (Nat.lt_of_not_le fun q => e ((nI_leI hb ha).mpr q)))
theorem n_icmp_gt {a b : Nat} {h : AH} (hd : db m pc (.if_icmp .gt) pc' tgt) (ha : a < 2 ^ 31) (hb : b < 2 ^ 31) (kt : b < a → Rn o l m bg tgt L st h Q) (kf : a ≤ b → Rn o l m bg pc' L st h Q) : Rn o l m bg pc L (.int (nI b) :: .int (nI a) :: st) h Q := r_icmp_gt hd (fun e => kt ((nI_ltI hb ha).mp e)) (fun e => kf (Nat.le_of_not_lt fun q => e ((nI_ltI hb ha).mpr q)))
theorem n_icmp_le {a b : Nat} {h : AH} (hd : db m pc (.if_icmp .le) pc' tgt) (ha : a < 2 ^ 31) (hb : b < 2 ^ 31) (kt : a ≤ b → Rn o l m bg tgt L st h Q) (kf : b < a → Rn o l m bg pc' L st h Q) : Rn o l m bg pc L (.int (nI b) :: .int (nI a) :: st) h Q := r_icmp_le hd (fun e => kt ((nI_leI ha hb).mp e)) (fun e => kf (Nat.lt_of_not_le fun q => e ((nI_leI ha hb).mpr q)))
theorem n_icmp_eq {a b : Nat} {h : AH} (hd : db m pc (.if_icmp .eq) pc' tgt) (ha : a < 2 ^ 31) (hb : b < 2 ^ 31) (kt : a = b → Rn o l m bg tgt L st h Q) (kf : a ≠ b → Rn o l m bg pc' L st h Q) : Rn o l m bg pc L (.int (nI b) :: .int (nI a) :: st) h Q := r_icmp_eq hd (fun e => kt ((nI_eq ha hb).mp e)) (fun e => kf (fun q => e ((nI_eq ha hb).mpr q)))
theorem n_icmp_ne {a b : Nat} {h : AH} (hd : db m pc (.if_icmp .ne) pc' tgt) (ha : a < 2 ^ 31) (hb : b < 2 ^ 31) (kt : a ≠ b → Rn o l m bg tgt L st h Q) (kf : a = b → Rn o l m bg pc' L st h Q) : Rn o l m bg pc L (.int (nI b) :: .int (nI a) :: st) h Q := r_icmp_ne hd (fun e => kt (fun q => e ((nI_eq ha hb).mpr q))) (fun e => kf ((nI_eq ha hb).mp e))
theorem n_if_eq {a : Nat} {h : AH} (hd : db m pc (.ifCond .eq) pc' tgt) (ha : a < 2 ^ 31) (kt : a = 0 → Rn o l m bg tgt L st h Q) (kf : a ≠ 0 → Rn o l m bg pc' L st h Q) : Rn o l m bg pc L (.int (nI a) :: st) h Q := r_if_eq hd (fun e => kt ((nI_eq ha (by omega)).mp (e.trans nI_0.symm))) (fun e => kf (fun q => e (by rw [q]; exact nI_0)))
theorem n_if_ne {a : Nat} {h : AH} (hd : db m pc (.ifCond .ne) pc' tgt) (ha : a < 2 ^ 31) (kt : a ≠ 0 → Rn o l m bg tgt L st h Q) (kf : a = 0 → Rn o l m bg pc' L st h Q) : Rn o l m bg pc L (.int (nI a) :: st) h Q := r_if_ne hd (fun e => kt (fun q => e (by rw [q]; exact nI_0))) (fun e => kf ((nI_eq ha (by omega)).mp (e.trans nI_0.symm)))
theorem n_if_le {a : Nat} {h : AH} (hd : db m pc (.ifCond .le) pc' tgt) (ha : a < 2 ^ 31) (kt : a = 0 → Rn o l m bg tgt L st h Q) (kf : 0 < a → Rn o l m bg pc' L st h Q) : Rn o l m bg pc L (.int (nI a) :: st) h Q := r_if_le hd (fun e => kt (Nat.eq_zero_of_not_pos fun q => nI_nle q ha e)) (fun e => kf (Nat.pos_of_ne_zero fun q => e (by rw [q]; decide)))
theorem n_if_lt {a : Nat} {h : AH} (hd : db m pc (.ifCond .lt) pc' tgt) (ha : a < 2 ^ 31) (kf : Rn o l m bg pc' L st h Q) : Rn o l m bg pc L (.int (nI a) :: st) h Q := r_if_lt hd (fun e => absurd e (nI_pos ha)) (fun _ => kf)
theorem n_if_ge {a : Nat} {h : AH} (hd : db m pc (.ifCond .ge) pc' tgt) (ha : a < 2 ^ 31) (kt : Rn o l m bg tgt L st h Q) : Rn o l m bg pc L (.int (nI a) :: st) h Q := r_if_ge hd (fun _ => kt) (fun e => absurd (nI_pos' ha) e)
theorem n_iinc {i a c : Nat} {h : AH} {nn : Int} (hd : dd m pc (.iinc i nn) 3 pc') (hl : L[i]? = some (some (.int (nI a)))) (hc : Int32.ofInt nn = nI c) (hn : i < mml m) (hL : st1 L i (.int (nI (a + c))) = L') (kk : Rn o l m bg pc' L' st h Q) : Rn o l m bg pc L st h Q := r_iinc hd hl (by rw [hc]; exact nI_add a c) hn hL kk
theorem n_iincm {i a : Nat} {h : AH} (hd : dd m pc (.iinc i (-1)) 3 pc') (hl : L[i]? = some (some (.int (nI (a + 1))))) (hn : i < mml m) (hL : st1 L i (.int (nI a)) = L') (kk : Rn o l m bg pc' L' st h Q) : Rn o l m bg pc L st h Q := r_iinc hd hl (by show nI (a + 1) + (-1) = nI a; exact pk_m1 a) hn hL kk
end RG
