theorem ws_ic {c : Prop} {A B : Int32 × SS} (h1 : c → WS A.2) (h2 : ¬ c → WS B.2) : WS (ic c A B).2 := by
  by_cases h : c
  · rw [ic_t h]; exact h1 h
  · rw [ic_f h]; exact h2 h
theorem WC.rwc {C : Core} {k : Nat} {x : Nat → Nat} (h : WC C) (hk : 2 ≤ k ∧ k < 8) (hx : ∀ j, j < C 0 3 → x j < 1000003) : WC (rowC C k x) := by
  obtain ⟨h1, h2, h3, h4, h5⟩ := h
  have e : rowC C k x 0 3 = C 0 3 := by rw [rowC, if_neg (by omega)]
  refine ⟨by rw [e]; exact h1, fun q hq j hj => ?_, fun h0 q hq j hj1 hj2 => ?_, fun t ht => ?_, fun a b ha hb hb2 => ?_⟩
  · unfold rowC
    split
    · exact hx j (by omega)
    · exact h2 q hq j hj
  · rw [e] at h0 hj1
    rw [rowC, if_neg (by omega)]
    exact h3 h0 q hq j hj1 hj2
  · rw [rowC, if_neg (by omega), rowC, if_neg (by omega), rowC, if_neg (by omega)]
    exact h4 t ht
  · rw [rowC, if_neg (by omega)]
    exact h5 a b ha hb hb2
theorem WC.fre {C : Core} {i j v : Nat} (h : WC C) (hi : i < C 0 3) (hj : j ≤ i) (hv : v < 1000003) : WC (setC C (10 + i) j v) := by
  obtain ⟨h1, h2, h3, h4, h5⟩ := h
  have e : setC C (10 + i) j v 0 3 = C 0 3 := by rw [setC, if_neg (by omega)]
  refine ⟨by rw [e]; exact h1, fun q hq j hj => ?_, fun h0 q hq j hj1 hj2 => ?_, fun t ht => ?_, fun a b ha hb hb2 => ?_⟩
  · unfold setC
    split
    · exact hv
    · exact h2 q hq j hj
  · rw [e] at h0 hj1
    rw [setC, if_neg (by omega)]
    exact h3 h0 q hq j hj1 hj2
  · rw [setC, if_neg (by omega), setC, if_neg (by omega), setC, if_neg (by omega)]
    exact h4 t ht
  · rw [setC, if_neg (by omega)]
    exact h5 a b ha hb hb2
theorem WS.lS {S : SS} {to : Nat} {w : Nat → Nat} (hW : WS S) (h : to < 6) (hx : ∀ j, j < S.1 0 3 → w j < 1000003) : WS (lndS S to w).2 := hW.kp (hW.1.rwc (by omega) hx)
theorem WS.lT {S : SS} {to : Nat} {g f : Nat → Nat} (hW : WS S) (h : to < 4) (h1 : TOk (S.1 0 3) g f) (h2 : TZ (S.1 0 3) g f) : WS (lndT S to g f).2 := hW.kp (hW.1.tab h h1.1 h1.2.1 (fun _ => h2.1) (fun _ => h2.2) ⟨Nat.pos_iff_ne_zero.mp h1.2.2.1, h1.2.2.2.1, Nat.pos_iff_ne_zero.mp h1.2.2.2.2⟩)
theorem w_feed {S : SS} (hW : WS S) (a b c d e : Int32) : WS (f_feed S a b c d e).2 := ws_ic (fun _ => hW) (fun _ => hW)
theorem w_end {S : SS} (hW : WS S) (v : Int32) : WS (f_end S v).2 := ws_ic (fun _ => hW) (fun _ => hW)
theorem w_fault {S : SS} (hW : WS S) : WS (f_fault S).2 := hW
theorem w_now {S : SS} (hW : WS S) (v : Int32) : WS (f_now S v).2 := ws_ic (fun _ => hW) (fun _ => hW)
theorem w_at {S : SS} (hW : WS S) (s i : Int32) : WS (f_at S s i).2 := ws_ic (fun _ => hW) (fun _ => hW)
theorem w_free {S : SS} (hW : WS S) (s i : Int32) : WS (f_free S s i).2 := ws_ic (fun _ => hW) (fun _ => hW)
theorem w_put {S : SS} (hW : WS S) (s i v : Int32) : WS (f_put S s i v).2 := ws_ic (fun h => hW.kp (hW.1.set ⟨by omega, by have := h.1.2.1; omega⟩ h.2.1 (fm_lt _))) (fun _ => hW)
theorem w_set {S : SS} (hW : WS S) (s i v : Int32) : WS (f_set S s i v).2 := ws_ic (fun h => hW.kp (hW.1.fre h.1.1 h.2.2 (fm_lt _))) (fun _ => hW)
theorem w_undo {S : SS} (hW : WS S) : WS (f_undo S).2 := by
  obtain ⟨h1, h2, h3, h4⟩ := hW
  unfold f_undo
  generalize e : S.2.1 = H at *
  cases H with
  | nil =>
    refine ⟨h1, ?_, ?_, h4⟩
    · show ∀ D, D ∈ S.2.1 → WC D
      rw [e]; exact h2
    · show S.2.1.length ≤ 8
      rw [e]; exact h3
  | cons D H => exact ⟨h2 D List.mem_cons_self, fun E hE => h2 E (List.mem_cons_of_mem _ hE), by have : (D :: H).length ≤ 8 := h3; rw [List.length_cons] at this; show H.length ≤ 8; omega, h4⟩
theorem w_image {S : SS} (hW : WS S) (v : Int32) : WS (f_image S v).2 := ws_ic (fun _ => ⟨hW.1, hW.2.1, hW.2.2.1, fun k D hD => by
  have hD : (if k = ix v then some S.1 else S.2.2.1 k) = some D := hD
  split at hD
  · injection hD with hD
    exact hD ▸ hW.1
  · exact hW.2.2.2 k D hD⟩) (fun _ => hW)
theorem w_restore {S : SS} (hW : WS S) (v : Int32) : WS (f_restore S v).2 := ws_ic (fun _ => by
  show WS (rest0 S (S.2.2.1 (ix v))).2
  cases e : S.2.2.1 (ix v) with
  | none => exact hW
  | some D => exact ⟨hW.2.2.2 _ D e, fun E hE => absurd hE List.not_mem_nil, Nat.zero_le 8, hW.2.2.2⟩) (fun _ => hW)
theorem cmb_lt {h : Nat} {x y : Nat → Nat} {s j : Nat} (hx : ∀ i, i < 10 → x i < 1000003) (hs : s ≤ 10) : cmb h x y s j < 1000003 := by
  unfold cmb
  split
  · exact Nat.mod_lt _ (by decide)
  split
  · exact sb_lt _ _
  split
  · exact cf_lt _ _ _
  split
  · exact dv_lt _ _ _
  · exact hn_lt hx hs _ _
theorem w_make {S : SS} (hW : WS S) (a b how to : Int32) : WS (f_make S a b how to).2 := ws_ic (fun h => hW.lS h.2.2.1.2.1 (fun j _ => cmb_lt (fun i hi => hW.rlt (rx_s h.1.2.1) hi) hW.sz10)) (fun _ => hW)
theorem w_turn {S : SS} (hW : WS S) (a how to : Int32) : WS (f_turn S a how to).2 := ws_ic (fun h => hW.lS h.2.1.2.1 (fun j hj => trn_lt (fun i hi => hW.rlt (rx_s h.1.2.1) hi) (by have := hW.sz10; omega) hW.sz10)) (fun _ => hW)
theorem w_raise {S : SS} (hW : WS S) (a k to : Int32) : WS (f_raise S a k to).2 := ws_ic (fun h => hW.lS h.2.1.2.1 (fun j _ => rz_lt _ _ _ _ _)) (fun _ => hW)
theorem w_pair {S : SS} (hW : WS S) (g f to : Int32) : WS (f_pair S g f to).2 := ws_ic (fun h => hW.lT h.2.2.1.2.1 ⟨fun i hi => hW.rlt (rx_s h.1.2.1) hi, fun i hi => hW.rlt (rx_s h.2.1.2.1) hi, Nat.pos_of_ne_zero h.2.2.2.1, h.2.2.2.2.1, Nat.pos_of_ne_zero h.2.2.2.2.2⟩ ⟨fun j h1 h2 => hW.rz h.1.1 (rx_s h.1.2.1) h1 h2, fun j h1 h2 => hW.rz h.1.1 (rx_s h.2.1.2.1) h1 h2⟩) (fun _ => hW)
theorem w_times {S : SS} (hW : WS S) (s t to : Int32) : WS (f_times S s t to).2 := ws_ic (fun h => by
  have q := (hW.tok h.1.2.1).mul (hW.sz h.1.1).1 hW.sz10 (hW.tok h.2.1.2.1)
  exact hW.lT h.2.2.2.1 q.1 q.2) (fun _ => hW)
theorem w_power {S : SS} (hW : WS S) (t k to : Int32) : WS (f_power S t k to).2 := ws_ic (fun h => by
  have q := hW.tok h.1.2.1
  have s2 := (hW.sz h.1.1).1
  refine ws_ic (fun _ => ?_) (fun _ => ?_)
  · have p := (q.inv s2 hW.sz10).pwr s2 hW.sz10 (ix (-k))
    exact hW.lT h.2.1.2.1 p.1 p.2
  · have p := q.pwr s2 hW.sz10 (ix k)
    exact hW.lT h.2.1.2.1 p.1 p.2) (fun _ => hW)
theorem prt_lt {w s : Nat} {g f : Nat → Nat} {j : Nat} (hg : g j < 1000003) (hf : f j < 1000003) : prt w s g f j < 1000003 := by
  unfold prt
  split
  · exact hg
  split
  · exact hf
  split
  · unfold prA
    split
    · decide
    · exact dv_lt _ _ _
  · unfold prZ
    split
    · decide
    · exact dv_lt _ _ _
theorem w_part {S : SS} (hW : WS S) (t w to : Int32) : WS (f_part S t w to).2 := ws_ic (fun h => hW.kp (hW.1.rwc ⟨by omega, by have := h.2.1.2.1; omega⟩ (fun j hj => prt_lt (hW.rlt (rx_g h.1.2.1) (by have := hW.sz10; omega)) (hW.rlt (rx_h h.1.2.1) (by have := hW.sz10; omega))))) (fun _ => hW)
theorem w_apply {S : SS} (hW : WS S) (t s to : Int32) : WS (f_apply S t s to).2 := ws_ic (fun h => hW.lS h.2.2.2.1 (fun j hj => mulG_lt hj)) (fun _ => hW)
theorem w_sums {S : SS} (hW : WS S) (t h to : Int32) : WS (f_sums S t h to).2 := ws_ic (fun h => hW.lS h.2.1.2.1 (fun j hj => Nat.mod_lt _ (by decide))) (fun _ => hW)
theorem w_kinds {S : SS} (hW : WS S) (t : Int32) : WS (f_kinds S t).2 := ws_ic (fun _ => hW) (fun _ => hW)
theorem w_differ {S : SS} (hW : WS S) (s t how : Int32) : WS (f_differ S s t how).2 := ws_ic (fun _ => hW) (fun _ => hW)
theorem w_fails {S : SS} (hW : WS S) (t a b : Int32) : WS (f_fails S t a b).2 := ws_ic (fun _ => hW) (fun _ => hW)
theorem w_lay {S : SS} (hW : WS S) (t : Int32) : WS (f_lay S t).2 := ws_ic (fun h => hW.kp (hW.1.lay (fun i hi => hW.rlt (rx_g h.2.1) hi))) (fun _ => hW)
theorem w_unlike {S : SS} (hW : WS S) : WS (f_unlike S).2 := ws_ic (fun _ => hW) (fun _ => hW)
theorem w_rebuild {S : SS} (hW : WS S) (t : Int32) : WS (f_rebuild S t).2 := ws_ic (fun h => by
  have n : ¬ (S.1 10 0 = 0 ∨ S.1 11 1 = 0) := fun z => by
    have := h.2
    unfold rcg at this
    rw [ic_t z] at this
    exact absurd this (by decide)
  have q := rc_ok hW.1 h.1.1 (fun z => n (Or.inl z)) (fun z => n (Or.inr z))
  exact hW.lT h.1.2.1 q.1 q.2) (fun _ => hW)
theorem w_drawn {S : SS} (hW : WS S) (n x : Int32) : WS (f_drawn S n x).2 := ws_ic (fun _ => ws_ic (fun _ => hW) (fun h => hW.kp (hW.1.drw x (ix n) (Nat.pos_of_ne_zero h)).1)) (fun _ => hW)
section C80
variable {o : OM} {l : Launch} {n : Nat} {M : Mem}
theorem c_X_textW {S : SS} (hW : WS S) (hO : OS o) (hX : XR M S) : CI o l m_X_text n [.ref 0] M (fun r M' => PX M (f_text S) r M' ∧ WS (f_text S).2) := by
  refine ci_of rfl rfl rfl (Nat.le_of_ble_eq_true rfl) ?_
  obtain ⟨x1, ⟨nx, x2⟩, x3, ⟨x4, x5, x6, x7, x9, x10⟩, x8⟩ := id hX
  unfold f_text
  generalize hT : S.2.2.2.1 = T at *
  generalize hw : S.2.2.2.2.1 = w at *
  have hR : RT M T w := ⟨x4, x5, x6⟩
  refine r_aload_n d_X_text_0 rfl ?_
  refine g_getr (b := 1) d_X_text_1 f_X_10 rfl rfl rfl ?_
  refine g_Vi (av := []) d_X_text_4 k_X_67 ws_Re_readText (by decide) rfl rfl (Nat.le_of_ble_eq_true rfl) rfl (c_Re_readText hO hR x8.2) ?_
  rintro x M1 ⟨k1, k2⟩
  generalize txt T w = res at *
  have bo1 : BO M1 := ⟨fun b b1 b2 b3 => (x8.1 b b1 b2 b3).kept (k1.1 b (by omega)), k1.2⟩
  rcases k2 with ⟨rfl, e0, wc, st1, m7, m8, m9, m10⟩ | ⟨rfl, e0, m10, m11⟩
  · rw [if_pos e0]
    refine r_istore_n (L' := [some (.ref 0), some (.int (nI 1))]) d_X_text_7 (by decide) rfl ?_
    refine r_aload_n d_X_text_8 rfl ?_
    refine g_getr (b := 34) d_X_text_9 f_X_20 rfl rfl rfl ?_
    refine r_iconst (v := nI 0) d_X_text_12 (by decide) ?_
    refine g_puti d_X_text_13 f_X_57 ⟨rfl, rfl, rfl⟩ rfl ?_
    have a1 : ∀ b, b ≠ 34 → upm M1 34 1 (nI 0) b = M1 b := fun b hb => upm_ne _ _ _ hb
    have a2 : upm M1 34 1 (nI 0) 34 1 = nI 0 := by rw [upm_at, if_pos rfl]
    generalize upm M1 34 1 (nI 0) = M2 at *
    refine r_aload_n d_X_text_16 rfl ?_
    refine r_aload_n d_X_text_17 rfl ?_
    refine g_getr (b := 1) d_X_text_18 f_X_10 rfl rfl rfl ?_
    refine g_geti d_X_text_21 f_X_71 rfl rfl ?_
    refine r_top (y := (nI 0)) (by rw [a1 1 (by decide)]; exact m10) ?_
    refine g_puti d_X_text_24 f_X_74 ⟨rfl, rfl, rfl⟩ rfl ?_
    have b1 : ∀ b, b ≠ 0 → upm M2 0 8 (nI 0) b = M2 b := fun b hb => upm_ne _ _ _ hb
    have b2 : upm M2 0 8 (nI 0) 0 8 = nI 0 := by rw [upm_at, if_pos rfl]
    generalize upm M2 0 8 (nI 0) = M3 at *
    refine r_iload_n d_X_text_27 rfl ?_
    refine n_if_ne d_X_text_28 (by omega) (fun _ => ?_) (fun h9 => absurd h9 (by decide))
    refine r_aload_n d_X_text_41 rfl ?_
    refine g_getr (b := 37) d_X_text_42 f_X_24 rfl rfl rfl ?_
    refine r_aload_n d_X_text_45 rfl ?_
    refine g_getr (b := 1) d_X_text_46 f_X_10 rfl rfl rfl ?_
    refine g_getr (b := 2) d_X_text_49 f_X_78 rfl rfl rfl ?_
    refine g_Vv (av := [.ref 2]) d_X_text_52 k_X_81 ws_St_copyFrom (by decide) rfl rfl (Nat.le_of_ble_eq_true rfl) rfl (c_St_copyFrom isSt_37 isSt_2 (by decide) (st1.kept (M' := M3) (fun q q1 q2 => by rw [b1 q (by omega), a1 q (by omega)]))) ?_
    rintro M4 ⟨c1, c2⟩
    have r1 : M4 1 = M1 1 := by rw [c2 1 (by decide), b1 1 (by decide), a1 1 (by decide)]
    refine r_aload_n d_X_text_55 rfl ?_
    refine r_aload_n d_X_text_56 rfl ?_
    refine g_getr (b := 1) d_X_text_57 f_X_10 rfl rfl rfl ?_
    refine g_geti d_X_text_60 f_X_85 rfl rfl ?_
    refine r_top (y := (nI res.2.2.2.1)) (by rw [r1]; exact m8) ?_
    refine g_puti d_X_text_63 f_X_88 ⟨rfl, rfl, rfl⟩ rfl ?_
    have d1 : ∀ b, b ≠ 0 → upm M4 0 9 (nI res.2.2.2.1) b = M4 b := fun b hb => upm_ne _ _ _ hb
    have d2 : upm M4 0 9 (nI res.2.2.2.1) 0 9 = nI res.2.2.2.1 := by rw [upm_at, if_pos rfl]
    have d3 : upm M4 0 9 (nI res.2.2.2.1) 0 8 = nI 0 := by rw [upm_at, if_neg (by decide), c2 0 (by decide)]; exact b2
    generalize upm M4 0 9 (nI res.2.2.2.1) = M5 at *
    refine r_aload_n d_X_text_66 rfl ?_
    refine r_aload_n d_X_text_67 rfl ?_
    refine g_getr (b := 1) d_X_text_68 f_X_10 rfl rfl rfl ?_
    refine g_geti d_X_text_71 f_X_89 rfl rfl ?_
    refine r_top (y := (nI res.2.2.2.2)) (by rw [d1 1 (by decide), r1]; exact m9) ?_
    refine g_puti d_X_text_74 f_X_92 ⟨rfl, rfl, rfl⟩ rfl ?_
    have e1 : ∀ b, b ≠ 0 → upm M5 0 10 (nI res.2.2.2.2) b = M5 b := fun b hb => upm_ne _ _ _ hb
    have e2 : upm M5 0 10 (nI res.2.2.2.2) 0 10 = nI res.2.2.2.2 := by rw [upm_at, if_pos rfl]
    have e3 : upm M5 0 10 (nI res.2.2.2.2) 0 8 = nI 0 := by rw [upm_at, if_neg (by decide)]; exact d3
    have e4 : upm M5 0 10 (nI res.2.2.2.2) 0 9 = nI res.2.2.2.1 := by rw [upm_at, if_neg (by decide)]; exact d2
    generalize upm M5 0 10 (nI res.2.2.2.2) = M6 at *
    have n6 : ∀ b, b ≠ 0 → b ≠ 34 → (b < 37 ∨ 69 ≤ b) → M6 b = M1 b := fun b h1 h2 h3 => by rw [e1 b h1, d1 b h1, c2 b (by omega), b1 b h1, a1 b h2]
    have h6 : HiA M6 S.2.1 nx := x2.kept (fun b h1 h2 => by rw [n6 b (by omega) (by omega) (by omega)]; exact k1.1 b (by omega))
    refine r_aload_n d_X_text_77 rfl ?_
    refine g_getr (b := 69) d_X_text_78 f_X_31 rfl rfl rfl ?_
    refine g_Vv (av := []) d_X_text_81 k_X_93 ws_Hi_forget (by decide) rfl rfl (Nat.le_of_ble_eq_true rfl) rfl (c_Hi_forget h6) ?_
    rintro M7 ⟨f1, f2⟩
    refine r_aload_n d_X_text_84 rfl ?_
    refine g_getr (b := 1) d_X_text_85 f_X_10 rfl rfl rfl ?_
    refine g_geti d_X_text_88 f_X_96 rfl rfl ?_
    refine r_top (y := (nI (lin res.2.2.1 res.2.2.2.1 res.2.2.2.2))) (by rw [f2 1 (by decide), n6 1 (by decide) (by decide) (by decide)]; exact m7) ?_
    refine g_reti d_X_text_91 rfl ?_
    refine ⟨?_, ⟨wc, fun D hD => absurd hD List.not_mem_nil, Nat.zero_le 8, hW.2.2.2⟩⟩
    refine ⟨rfl, ⟨c1.kept (fun q q1 q2 => by rw [f2 q (by omega), e1 q (by omega), d1 q (by omega)]), ⟨nx, f1⟩, x3.kept (fun q q1 q2 => by rw [f2 q (by omega), n6 q (by omega) (by omega) (by omega)]; exact k1.1 q (by omega)), ⟨?_, Nat.zero_le 540, fun j hj => absurd hj (Nat.not_lt_zero j), ?_, ?_, ?_⟩, bo1.kept (fun q hq => by rw [f2 q (by omega), n6 q (by omega) (by omega) (by omega)])⟩, fun q hq => by rw [f2 q (by omega), n6 q (by omega) (by omega) (by omega)]; exact k1.1 q (by omega)⟩
    · rw [f2 34 (by decide), e1 34 (by decide), d1 34 (by decide), c2 34 (by decide), b1 34 (by decide)]
      exact a2
    · rw [f2 0 (by decide)]; exact e3
    · rw [f2 0 (by decide)]; exact e4
    · rw [f2 0 (by decide)]; exact e2
  · rw [if_neg e0]
    refine r_istore_n (L' := [some (.ref 0), some (.int (nI 0))]) d_X_text_7 (by decide) rfl ?_
    refine r_aload_n d_X_text_8 rfl ?_
    refine g_getr (b := 34) d_X_text_9 f_X_20 rfl rfl rfl ?_
    refine r_iconst (v := nI 0) d_X_text_12 (by decide) ?_
    refine g_puti d_X_text_13 f_X_57 ⟨rfl, rfl, rfl⟩ rfl ?_
    have a1 : ∀ b, b ≠ 34 → upm M1 34 1 (nI 0) b = M1 b := fun b hb => upm_ne _ _ _ hb
    have a2 : upm M1 34 1 (nI 0) 34 1 = nI 0 := by rw [upm_at, if_pos rfl]
    generalize upm M1 34 1 (nI 0) = M2 at *
    refine r_aload_n d_X_text_16 rfl ?_
    refine r_aload_n d_X_text_17 rfl ?_
    refine g_getr (b := 1) d_X_text_18 f_X_10 rfl rfl rfl ?_
    refine g_geti d_X_text_21 f_X_71 rfl rfl ?_
    refine r_top (y := (nI res.1)) (by rw [a1 1 (by decide)]; exact m10) ?_
    refine g_puti d_X_text_24 f_X_74 ⟨rfl, rfl, rfl⟩ rfl ?_
    have b1 : ∀ b, b ≠ 0 → upm M2 0 8 (nI res.1) b = M2 b := fun b hb => upm_ne _ _ _ hb
    have b2 : upm M2 0 8 (nI res.1) 0 8 = nI res.1 := by rw [upm_at, if_pos rfl]
    have b3 : ∀ k, k ≠ 8 → upm M2 0 8 (nI res.1) 0 k = M 0 k := fun k hk => by rw [upm_at, if_neg hk, a1 0 (by decide), k1.1 0 (Or.inl rfl)]
    generalize upm M2 0 8 (nI res.1) = M3 at *
    refine r_iload_n d_X_text_27 rfl ?_
    refine n_if_ne d_X_text_28 (by omega) (fun h9 => absurd h9 (by decide)) (fun _ => ?_)
    refine r_iconst (v := -1) d_X_text_31 (by decide) ?_
    refine r_aload_n d_X_text_32 rfl ?_
    refine g_getr (b := 1) d_X_text_33 f_X_10 rfl rfl rfl ?_
    refine g_geti d_X_text_36 f_X_75 rfl rfl ?_
    refine r_top (y := (nI res.2.1)) (by rw [b1 1 (by decide), a1 1 (by decide)]; exact m11) ?_
    refine r_isub d_X_text_39 ?_
    refine g_reti d_X_text_40 rfl ?_
    have n3 : ∀ b, b ≠ 0 → b ≠ 34 → M3 b = M1 b := fun b h1 h2 => by rw [b1 b h1, a1 b h2]
    refine ⟨?_, ⟨hW.1, hW.2.1, hW.2.2.1, hW.2.2.2⟩⟩
    refine ⟨rfl, ⟨x1.kept (fun q q1 q2 => by rw [n3 q (by omega) (by omega)]; exact k1.1 q (by omega)), ⟨nx, x2.kept (fun q q1 q2 => by rw [n3 q (by omega) (by omega)]; exact k1.1 q (by omega))⟩, x3.kept (fun q q1 q2 => by rw [n3 q (by omega) (by omega)]; exact k1.1 q (by omega)), ⟨?_, Nat.zero_le 540, fun j hj => absurd hj (Nat.not_lt_zero j), b2, ?_, ?_⟩, bo1.kept (fun q hq => n3 q (by omega) (by omega))⟩, fun q hq => by rw [n3 q (by omega) (by omega)]; exact k1.1 q (by omega)⟩
    · rw [b1 34 (by decide)]; exact a2
    · rw [b3 9 (by decide)]; exact x9
    · rw [b3 10 (by decide)]; exact x10
end C80
