/-! The law's own instructions over the script -/
def m_Lw (nm : String) : MD := ("SeriesTablesLaw", ⟨"SeriesTablesLaw", nm, "([I)Z"⟩, code, 7, some .boolean, 14)
def OX (o : OM) (N : Nat) (xs : Nat → Int32) : Prop := va_X (oad o 0) N xs (os0 o) (oH0 o) ∧ oad o 0 < ob0 o
theorem and31 (x : Int32) : ∃ k, k < 32 ∧ x &&& nI 31 = nI k := by
  have hlt : (x &&& nI 31).toBitVec.toNat < 32 := by
    show (x.toBitVec &&& (nI 31).toBitVec).toNat < 32
    rw [BitVec.toNat_and]
    exact Nat.lt_of_le_of_lt Nat.and_le_right (by decide)
  refine ⟨(x &&& nI 31).toBitVec.toNat, hlt, ?_⟩
  apply Int32.toBitVec_inj.mp
  apply BitVec.eq_of_toNat_eq
  show _ = (BitVec.ofNat 32 _).toNat
  rw [BitVec.toNat_ofNat, Nat.mod_eq_of_lt (by omega)]
theorem lt6 {N i : Nat} (hN : N ≤ 3072) (hi : i ≤ 4000) : (nI N - nI 6 < nI i) ↔ N < i + 6 := by
  rw [Int32.lt_iff_toInt_lt, Int32.toInt_sub, toInt_nI (by omega), toInt_nI (by omega), toInt_nI (by omega)]
  simp only [Int.bmod]
  split <;> omega
theorem MR.kx {M M1 : Mem} {S : SS} (h : MR M S) (k : ∀ b, 436 ≤ b → b ≠ 453 → M1 b = M b) : MR M1 S := h.kept (fun q _ => by rw [k 436 (by decide) (by decide)]) (fun b hb => k b (by omega) (by omega))
section P90
variable {o : OM} {l : Launch} {m : MD} {bg bg2 : Nat × Nat} {pc pc' : Nat} {L : List (Option Value)} {st : List Value} {h : AH} {Q : Option Value → AH → Prop} {N j : Nat} {xs : Nat → Int32}
theorem r_less (h1 : bg2.1 ≤ bg.1) (h2 : bg2.2 ≤ bg.2) (k : Rn o l m bg2 pc L st h Q) : Rn o l m bg pc L st h Q := by
  intro p e R s mm args below meth c H locs cells slots Z ls hC a1 a2 h3 h4 h5 h6
  exact k p e R s mm args below meth c H locs cells slots Z ls hC (by omega) (by omega) h3 h4 h5 h6
theorem r_sld (hd : dd m pc .iaload 1 pc') (hx : OX o N xs) (hj : j < N) (hN : N < 2 ^ 31) (k : Rn o l m bg pc' L (.int (xs j) :: st) h Q) : Rn o l m bg pc L (.int (nI j) :: .retAddr 0 :: st) h Q := by
  obtain ⟨hd, rfl⟩ := hd
  intro p e R s mm args below meth c H locs cells slots Z ls hC h1 h2 h3 h4 h5 h6
  obtain ⟨scr, q1, q2, q3, q4, q5⟩ := va_X.moved hC.2.2.2.2.2.2.1.2.alike hx.1
  have hcl : (nI j).toNatClampNeg = j := nI_clamp (by omega)
  exact W.iald (v := .int (xs j)) hC.1 hC.2.1 (a := oad o 0) (cell := scr) (by rw [h3.2.1 _ hx.2]; exact q1) q2 q3 (by rw [q4]; exact vp_in_nI hj hN) (by rw [hcl]; exact q5 j hj) rfl rfl hd (k p e R s mm args below meth c H locs cells slots Z ls hC h1 h2 h3 h4 h5 h6)
theorem r_xlen (hd : dd m pc .arraylength 1 pc') (hx : OX o N xs) (k : Rn o l m bg pc' L (.int (nI N) :: st) h Q) : Rn o l m bg pc L (.retAddr 0 :: st) h Q := by
  obtain ⟨hd, rfl⟩ := hd
  intro p e R s mm args below meth c H locs cells slots Z ls hC h1 h2 h3 h4 h5 h6
  obtain ⟨scr, q1, q2, q3, q4, q5⟩ := va_X.moved hC.2.2.2.2.2.2.1.2.alike hx.1
  exact W.alen (n := nI N) hC.1 hC.2.1 (a := oad o 0) (cell := scr) (by rw [h3.2.1 _ hx.2]; exact q1) q2 (by rw [q4]; rfl) rfl rfl hd (k p e R s mm args below meth c H locs cells slots Z ls hC h1 h2 h3 h4 h5 h6)
end P90
