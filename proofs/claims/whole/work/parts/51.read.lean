/-! What the text tells, by places of tokens: a fault's kind (0: none) and place, rows, the place that comes next -/
noncomputable def rdS (T : Nat → Nat) (w bb : Nat) : Nat → Nat → Nat → (Nat → Nat) → (Nat × Nat) × (Nat → Nat) × Nat
  | 0, _, p, row => ((0, 0), row, p)
  | d + 1, i, p, row =>
    if 0 < i ∧ tK T w p ≠ 4 ∧ tK T w p ≠ 2 then ((0, 0), row, p)
    else if tK T w (if tK T w p = 4 then tE T w p else p) ≠ 2 then ((1, tQ T w (if tK T w p = 4 then tE T w p else p)), row, p)
    else if i = 0 ∧ bb = 1 ∧ tV T w (if tK T w p = 4 then tE T w p else p) = 0 then ((2, tQ T w (if tK T w p = 4 then tE T w p else p)), row, p)
    else rdS T w bb d (i + 1) (tE T w (if tK T w p = 4 then tE T w p else p)) (fun j => if j = i then (if tK T w p = 4 then sb 0 (tV T w (tE T w p)) else tV T w p) else row j)
def rowA (C : Core) (k : Nat) (x : Nat → Nat) : Core := fun q j => if q = k then x j else C q j
def RG (r : Nat) (M M' : Mem) : Prop := (∀ b, b ≠ 1 → b ≠ r → M' b = M b) ∧ ∀ k, k ≠ 3 → k ≠ 4 → k ≠ 5 → k ≠ 6 → M' 1 k = M 1 k
theorem RG.of {r : Nat} {M M' : Mem} (h : RF M M') : RG r M M' := ⟨fun b b1 _ => h.1 b b1, h.2⟩
theorem RG.trans {r : Nat} {M M1 M2 : Mem} (h : RG r M M1) (h2 : RG r M1 M2) : RG r M M2 := ⟨fun b b1 b2 => (h2.1 b b1 b2).trans (h.1 b b1 b2), fun k k1 k2 k3 k4 => (h2.2 k k1 k2 k3 k4).trans (h.2 k k1 k2 k3 k4)⟩
/-- what a fault leaves -/
def RB (M : Mem) (fk fp : Nat) : Prop := M 1 10 = nI fk ∧ M 1 11 = nI fp
section C51
variable {o : OM} {l : Launch} {n : Nat} {M : Mem} {T : Nat → Nat} {w : Nat}
theorem tQ_le {p : Nat} (hp : p ≤ w) : tQ T w p ≤ w := by
  have := sk_le (T := T) hp
  unfold tQ
  split <;> omega
theorem wrd_le (q e : Nat) : wrd T q e ≤ 8 := by
  unfold wrd
  by_cases c : lc T q (e - q) = 0 ∧ 1 ≤ e - q ∧ e - q ≤ 3
  · rw [ic_t c]; omega
  rw [ic_f c]
  by_cases c0 : isW T q e 0
  · rw [ic_t c0]; omega
  rw [ic_f c0]
  by_cases c1 : isW T q e 1
  · rw [ic_t c1]; omega
  rw [ic_f c1]
  by_cases c2 : isW T q e 2
  · rw [ic_t c2]; omega
  rw [ic_f c2]
  by_cases c3 : isW T q e 3
  · rw [ic_t c3]; omega
  rw [ic_f c3]
  omega
theorem tK_le (p : Nat) : tK T w p ≤ 8 := by
  unfold tK
  have := wrd_le (T := T) (sk T w p) (en T w (sk T w p))
  split
  · omega
  split
  · omega
  split
  · omega
  split
  · omega
  exact this
theorem TK.kept {M M' : Mem} {p : Nat} (h : TK M T w p) (h1 : ∀ k, 3 ≤ k → k ≤ 6 → M' 1 k = M 1 k) : TK M' T w p := by
  unfold TK
  rw [h1 3 (by decide) (by decide), h1 4 (by decide) (by decide), h1 5 (by decide) (by decide), h1 6 (by decide) (by decide)]
  exact h
theorem c_Re_next {p : Nat} (hO : OS o) (hR : RT M T w) (hK : TK M T w p) : CV o l m_Re_step n [.ref 1] M (fun M' => RF M M' ∧ TK M' T w (tE T w p)) := c_Re_step hO hR (tE_le hK.2.2.2.2) hK.1
theorem c_Re_refuse {k : Int32} : CI o l m_Re_refuse n [.ref 1, .int k] M (fun r M' => r = nI 0 ∧ M' = upm (upm M 1 10 k) 1 11 (M 1 5)) := by
  refine ci_of rfl rfl rfl (Nat.le_of_ble_eq_true rfl) ?_
  refine r_aload_n d_Re_refuse_0 rfl ?_
  refine r_iload_n d_Re_refuse_1 rfl ?_
  refine g_puti d_Re_refuse_2 f_Re_45 ⟨rfl, rfl, rfl⟩ rfl ?_
  refine r_aload_n d_Re_refuse_5 rfl ?_
  refine r_aload_n d_Re_refuse_6 rfl ?_
  refine g_geti d_Re_refuse_7 f_Re_121 rfl rfl ?_
  refine g_puti d_Re_refuse_10 f_Re_48 ⟨rfl, rfl, rfl⟩ rfl ?_
  refine r_iconst (v := nI 0) d_Re_refuse_13 (by decide) ?_
  refine g_retz d_Re_refuse_14 rfl (by decide) ?_
  exact ⟨rfl, by rw [upm_at, if_neg (by decide)]⟩
theorem rf_at {k q : Nat} (h : M 1 5 = nI q) : RB (upm (upm M 1 10 (nI k)) 1 11 (M 1 5)) k q := ⟨by rw [upm_at, if_neg (by decide), upm_at, if_pos rfl], by rw [upm_at, if_pos rfl, h]⟩
theorem rf_ne {k v : Int32} {b : Nat} (hb : b ≠ 1) : upm (upm M 1 10 k) 1 11 v b = M b := by rw [upm_ne _ _ _ hb, upm_ne _ _ _ hb]
theorem c_Re_readSum {r s bb p : Nat} (hO : OS o) (hR : RT M T w) (hK : TK M T w p) (hr : gT r = (1, 10)) (hr2 : 4 ≤ r ∧ r < 34 ∨ r = 36) (hs : M 2 3 = nI s) (hs1 : s ≤ 10) (hbb : bb < 2) : CI o l m_Re_readSum n [.ref 1, .ref r, .int (nI bb)] M (fun x M' => (∀ b, b ≠ 1 → b ≠ r → M' b = M b) ∧ OKr M' r (rdS T w bb s 0 p (fun _ => 0)).2.1 ∧ ((x = nI 1 ∧ (rdS T w bb s 0 p (fun _ => 0)).1.1 = 0 ∧ RG r M M' ∧ TK M' T w (rdS T w bb s 0 p (fun _ => 0)).2.2) ∨ (x = nI 0 ∧ (rdS T w bb s 0 p (fun _ => 0)).1.1 ≠ 0 ∧ RB M' (rdS T w bb s 0 p (fun _ => 0)).1.1 (rdS T w bb s 0 p (fun _ => 0)).1.2))) := by
  refine ci_of rfl rfl rfl (Nat.le_of_ble_eq_true rfl) ?_
  generalize hres : rdS T w bb s 0 p (fun _ => 0) = res
  refine r_aload_n d_Re_readSum_0 rfl ?_
  refine r_iconst (v := nI 0) d_Re_readSum_1 (by decide) ?_
  refine g_Sv (av := [.ref r, .int (nI 0)]) d_Re_readSum_2 k_Re_94 ws_Ar_fill (by decide) rfl rfl (Nat.le_of_ble_eq_true rfl) (c_Ar_fill (nI 0) hr (by decide)) ?_
  rintro M1 e1
  have g1 : ∀ b, b ≠ r → M1 b = M b := fun b hb => by rw [e1, wr_ne _ _ hb]
  have g2 : OKr M1 r (fun _ => 0) := fun j hj => ⟨by rw [e1, wr_eq, fl, if_pos hj], (show 0 < 1000003 by decide)⟩
  refine r_iconst (v := nI 0) d_Re_readSum_5 (by decide) ?_
  refine r_istore_n (L' := [some (.ref 1), some (.ref r), some (.int (nI bb)), some (.int (nI 0)), none]) d_Re_readSum_6 (by decide) rfl ?_
  suffices H : ∀ d i q row M2 u, i + d = s → rdS T w bb d i q row = res → TK M2 T w q → OKr M2 r row → RG r M M2 → Rn o l m_Re_readSum (0, 0) 7 [some (.ref 1), some (.ref r), some (.int (nI bb)), some (.int (nI i)), u] [] (gh n M2) (QI n (fun x M' => (∀ b, b ≠ 1 → b ≠ r → M' b = M b) ∧ OKr M' r res.2.1 ∧ ((x = nI 1 ∧ res.1.1 = 0 ∧ RG r M M' ∧ TK M' T w res.2.2) ∨ (x = nI 0 ∧ res.1.1 ≠ 0 ∧ RB M' res.1.1 res.1.2)))) from
    H s 0 p _ M1 _ (by omega) hres (hK.kept (fun k _ _ => by rw [g1 1 (by omega)])) g2 ⟨fun b b1 b2 => g1 b b2, fun k _ _ _ _ => by rw [g1 1 (by omega)]⟩
  intro d
  induction d with
  | zero =>
    intro i q row M2 u hi hd hT hW hG
    have hd : ((0, 0), row, q) = res := hd
    subst hd
    refine r_iload_n d_Re_readSum_7 rfl ?_
    refine r_aload_n d_Re_readSum_8 rfl ?_
    refine g_getr (b := 2) d_Re_readSum_9 f_Re_12 rfl rfl rfl ?_
    refine g_geti d_Re_readSum_12 f_Re_74 rfl rfl ?_
    refine r_top (y := (nI s)) (by rw [hG.1 2 (by omega) (by omega)]; exact hs) ?_
    refine n_icmp_ge d_Re_readSum_15 (by omega) (by omega) (fun hc => ?_) (fun hc => ?_)
    · refine r_iconst (v := nI 1) d_Re_readSum_132 (by decide) ?_
      refine g_retz d_Re_readSum_133 rfl (by decide) ?_
      exact ⟨hG.1, hW, Or.inl ⟨rfl, rfl, hG, hT⟩⟩
    · omega
  | succ d ih =>
    intro i q row M2 u hi hd hT hW hG
    have hR2 : RT M2 T w := hR.kept (hG.1 _ (by omega) (by omega)) (hG.1 _ (by omega) (by omega))
    have kle := tK_le (T := T) (w := w) q
    -- from the number on
    have N : ∀ (q1 : Nat) (bl : Nat) (M3 : Mem), bl < 2 → q1 = (if tK T w q = 4 then tE T w q else q) → (bl = 1 ↔ tK T w q = 4) → ¬ (0 < i ∧ tK T w q ≠ 4 ∧ tK T w q ≠ 2) → TK M3 T w q1 → RT M3 T w → OKr M3 r row → RG r M M3 → Rn o l m_Re_readSum (0, 0) 64 [some (.ref 1), some (.ref r), some (.int (nI bb)), some (.int (nI i)), some (.int (nI bl))] [] (gh n M3) (QI n (fun x M' => (∀ b, b ≠ 1 → b ≠ r → M' b = M b) ∧ OKr M' r res.2.1 ∧ ((x = nI 1 ∧ res.1.1 = 0 ∧ RG r M M' ∧ TK M' T w res.2.2) ∨ (x = nI 0 ∧ res.1.1 ≠ 0 ∧ RB M' res.1.1 res.1.2)))) := by
      intro q1 bl M3 hbl hq1 hbl2 hno tk3 rt3 ok3 rg3
      rw [rdS, if_neg hno, ← hq1] at hd
      have kle1 := tK_le (T := T) (w := w) q1
      refine r_aload_n d_Re_readSum_64 rfl ?_
      refine g_geti d_Re_readSum_65 f_Re_54 rfl rfl ?_
      refine r_top (y := (nI (tK T w q1))) (tk3.2.1) ?_
      refine r_iconst (v := nI 2) d_Re_readSum_68 (by decide) ?_
      refine n_icmp_eq d_Re_readSum_69 (by omega) (by omega) (fun hc => ?_) (fun hc => ?_)
      · rw [if_neg (fun z => z hc)] at hd
        have v9 := tV_lt hc
        have v6 := tk3.2.2.2.1 hc
        have goOn : ¬ (i = 0 ∧ bb = 1 ∧ tV T w q1 = 0) → Rn o l m_Re_readSum (0, 0) 99 [some (.ref 1), some (.ref r), some (.int (nI bb)), some (.int (nI i)), some (.int (nI bl))] [] (gh n M3) (QI n (fun x M' => (∀ b, b ≠ 1 → b ≠ r → M' b = M b) ∧ OKr M' r res.2.1 ∧ ((x = nI 1 ∧ res.1.1 = 0 ∧ RG r M M' ∧ TK M' T w res.2.2) ∨ (x = nI 0 ∧ res.1.1 ≠ 0 ∧ RB M' res.1.1 res.1.2)))) := by
          intro hno2
          rw [if_neg hno2] at hd
          have fin : ∀ v : Nat, v < 1000003 → v = (if tK T w q = 4 then sb 0 (tV T w (tE T w q)) else tV T w q) → Rn o l m_Re_readSum (0, 0) 122 [some (.ref 1), some (.ref r), some (.int (nI bb)), some (.int (nI i)), some (.int (nI bl))] [] (gh n (upm M3 r i (nI v))) (QI n (fun x M' => (∀ b, b ≠ 1 → b ≠ r → M' b = M b) ∧ OKr M' r res.2.1 ∧ ((x = nI 1 ∧ res.1.1 = 0 ∧ RG r M M' ∧ TK M' T w res.2.2) ∨ (x = nI 0 ∧ res.1.1 ≠ 0 ∧ RB M' res.1.1 res.1.2)))) := by
            intro v hv hv2
            have tk4 : TK (upm M3 r i (nI v)) T w q1 := tk3.kept (fun k _ _ => by rw [upm_ne _ _ _ (by omega)])
            have rt4 : RT (upm M3 r i (nI v)) T w := rt3.kept (upm_ne _ _ _ (by omega)) (upm_ne _ _ _ (by omega))
            have rg4 : RG r M (upm M3 r i (nI v)) := rg3.trans ⟨fun b b1 b2 => upm_ne _ _ _ b2, fun k _ _ _ _ => by rw [upm_ne _ _ _ (by omega)]⟩
            have ok4 : OKr (upm M3 r i (nI v)) r (fun j => if j = i then (if tK T w q = 4 then sb 0 (tV T w (tE T w q)) else tV T w q) else row j) := fun j hj => by
              rw [upm_at]
              show _ = nI (if j = i then _ else _) ∧ (if j = i then _ else _) < 1000003
              by_cases e : j = i
              · rw [if_pos e, if_pos e, ← hv2]
                exact ⟨rfl, hv⟩
              · rw [if_neg e, if_neg e]
                exact ok3 j hj
            generalize upm M3 r i (nI v) = M4 at *
            refine r_aload_n d_Re_readSum_122 rfl ?_
            refine g_Vv (av := []) d_Re_readSum_123 k_Re_51 ws_Re_step (by decide) rfl rfl (Nat.le_of_ble_eq_true rfl) rfl (c_Re_next hO rt4 tk4) ?_
            rintro M5 ⟨k1, k2⟩
            refine n_iinc (c := 1) (L' := [some (.ref 1), some (.ref r), some (.int (nI bb)), some (.int (nI (i + 1))), some (.int (nI bl))]) d_Re_readSum_126 rfl rfl (by decide) rfl ?_
            refine r_goto d_Re_readSum_129 ?_
            exact ih (i + 1) (tE T w q1) _ M5 _ (by omega) hd k2 (ok4.kept (k1.1 r (by omega))) (rg4.trans (RG.of k1))
          refine r_aload_n d_Re_readSum_99 rfl ?_
          refine r_iload_n d_Re_readSum_100 rfl ?_
          refine r_iload d_Re_readSum_101 rfl ?_
          refine n_if_eq d_Re_readSum_103 (by omega) (fun hc9 => ?_) (fun hc9 => ?_)
          · refine r_aload_n d_Re_readSum_117 rfl ?_
            refine g_geti d_Re_readSum_118 f_Re_71 rfl rfl ?_
            refine r_top (y := (nI (tV T w q1))) (v6) ?_
            refine g_iast d_Re_readSum_121 hr (by omega) (by omega) ?_
            have e9 : ¬ tK T w q = 4 := fun z => by have := hbl2.mpr z; omega
            rw [if_neg e9] at hq1
            exact fin _ (by omega) (by rw [if_neg e9, hq1])
          · refine r_iconst (v := nI 0) d_Re_readSum_106 (by decide) ?_
            refine r_aload_n d_Re_readSum_107 rfl ?_
            refine g_geti d_Re_readSum_108 f_Re_71 rfl rfl ?_
            refine r_top (y := (nI (tV T w q1))) (v6) ?_
            refine g_Si (av := [.int (nI 0), .int (nI (tV T w q1))]) d_Re_readSum_111 k_Re_100 ws_Rw_difference (by decide) rfl rfl (Nat.le_of_ble_eq_true rfl) (c_Rw_difference (by decide) (by omega)) ?_
            rintro _ _ ⟨rfl, rfl⟩
            refine r_goto d_Re_readSum_114 ?_
            refine g_iast d_Re_readSum_121 hr (by omega) (by omega) ?_
            have e9 : tK T w q = 4 := hbl2.mp (by omega)
            rw [if_pos e9] at hq1
            exact fin _ (Nat.mod_lt _ (by decide)) (by rw [if_pos e9, hq1])
        refine r_iload_n d_Re_readSum_78 rfl ?_
        refine n_if_ne d_Re_readSum_79 (by omega) (fun h1 => ?_) (fun h1 => ?_)
        · exact goOn (fun z => h1 z.1)
        · refine r_iload_n d_Re_readSum_82 rfl ?_
          refine n_if_eq d_Re_readSum_83 (by omega) (fun h2 => ?_) (fun h2 => ?_)
          · exact goOn (fun z => by have := z.2.1; omega)
          · refine r_aload_n d_Re_readSum_86 rfl ?_
            refine g_geti d_Re_readSum_87 f_Re_71 rfl rfl ?_
            refine r_top (y := (nI (tV T w q1))) (v6) ?_
            refine n_if_ne d_Re_readSum_90 (by omega) (fun h3 => ?_) (fun h3 => ?_)
            · exact goOn (fun z => h3 z.2.2)
            · rw [if_pos ⟨h1, by omega, h3⟩] at hd
              subst hd
              refine r_aload_n d_Re_readSum_93 rfl ?_
              refine r_iconst (v := nI 2) d_Re_readSum_94 (by decide) ?_
              refine g_Vi (av := [.int (nI 2)]) d_Re_readSum_95 k_Re_61 ws_Re_refuse (by decide) rfl rfl (Nat.le_of_ble_eq_true rfl) rfl (c_Re_refuse) ?_
              rintro x M4 ⟨rfl, e4⟩
              refine g_retz d_Re_readSum_98 rfl (by decide) ?_
              refine ⟨fun b b1 b2 => by rw [e4, rf_ne b1]; exact rg3.1 b b1 b2, ok3.kept (by rw [e4, rf_ne (by omega)]), Or.inr ⟨rfl, (show 2 ≠ 0 by decide), ?_⟩⟩
              rw [e4]
              exact rf_at tk3.2.2.1
      · rw [if_pos hc] at hd
        subst hd
        refine r_aload_n d_Re_readSum_72 rfl ?_
        refine r_iconst (v := nI 1) d_Re_readSum_73 (by decide) ?_
        refine g_Vi (av := [.int (nI 1)]) d_Re_readSum_74 k_Re_61 ws_Re_refuse (by decide) rfl rfl (Nat.le_of_ble_eq_true rfl) rfl (c_Re_refuse) ?_
        rintro x M4 ⟨rfl, e4⟩
        refine g_retz d_Re_readSum_77 rfl (by decide) ?_
        refine ⟨fun b b1 b2 => by rw [e4, rf_ne b1]; exact rg3.1 b b1 b2, ok3.kept (by rw [e4, rf_ne (by omega)]), Or.inr ⟨rfl, (show 1 ≠ 0 by decide), ?_⟩⟩
        rw [e4]
        exact rf_at tk3.2.2.1
    have P : ¬ (0 < i ∧ tK T w q ≠ 4 ∧ tK T w q ≠ 2) → Rn o l m_Re_readSum (0, 0) 40 [some (.ref 1), some (.ref r), some (.int (nI bb)), some (.int (nI i)), u] [] (gh n M2) (QI n (fun x M' => (∀ b, b ≠ 1 → b ≠ r → M' b = M b) ∧ OKr M' r res.2.1 ∧ ((x = nI 1 ∧ res.1.1 = 0 ∧ RG r M M' ∧ TK M' T w res.2.2) ∨ (x = nI 0 ∧ res.1.1 ≠ 0 ∧ RB M' res.1.1 res.1.2)))) := by
      intro hno
      refine r_aload_n d_Re_readSum_40 rfl ?_
      refine g_geti d_Re_readSum_41 f_Re_54 rfl rfl ?_
      refine r_top (y := (nI (tK T w q))) (hT.2.1) ?_
      refine r_iconst (v := nI 4) d_Re_readSum_44 (by decide) ?_
      refine n_icmp_ne d_Re_readSum_45 (by omega) (by omega) (fun hc => ?_) (fun hc => ?_)
      · refine r_iconst (v := nI 0) d_Re_readSum_52 (by decide) ?_
        refine r_istore (L' := [some (.ref 1), some (.ref r), some (.int (nI bb)), some (.int (nI i)), some (.int (nI 0))]) d_Re_readSum_53 (by decide) rfl ?_
        refine r_iload d_Re_readSum_55 rfl ?_
        refine n_if_eq d_Re_readSum_57 (by omega) (fun _ => ?_) (fun h9 => absurd h9 (by decide))
        exact N q 0 M2 (by decide) (by rw [if_neg hc]) ⟨fun z => by omega, fun z => absurd z hc⟩ hno hT hR2 hW hG
      · refine r_iconst (v := nI 1) d_Re_readSum_48 (by decide) ?_
        refine r_goto d_Re_readSum_49 ?_
        refine r_istore (L' := [some (.ref 1), some (.ref r), some (.int (nI bb)), some (.int (nI i)), some (.int (nI 1))]) d_Re_readSum_53 (by decide) rfl ?_
        refine r_iload d_Re_readSum_55 rfl ?_
        refine n_if_eq d_Re_readSum_57 (by omega) (fun h9 => absurd h9 (by decide)) (fun _ => ?_)
        refine r_aload_n d_Re_readSum_60 rfl ?_
        refine g_Vv (av := []) d_Re_readSum_61 k_Re_51 ws_Re_step (by decide) rfl rfl (Nat.le_of_ble_eq_true rfl) rfl (c_Re_next hO hR2 hT) ?_
        rintro M3 ⟨k1, k2⟩
        exact N (tE T w q) 1 M3 (by decide) (by rw [if_pos hc]) ⟨fun _ => hc, fun _ => rfl⟩ hno k2 (hR2.rf k1) (hW.kept (k1.1 r (by omega))) (hG.trans (RG.of k1))
    refine r_iload_n d_Re_readSum_7 rfl ?_
    refine r_aload_n d_Re_readSum_8 rfl ?_
    refine g_getr (b := 2) d_Re_readSum_9 f_Re_12 rfl rfl rfl ?_
    refine g_geti d_Re_readSum_12 f_Re_74 rfl rfl ?_
    refine r_top (y := (nI s)) (by rw [hG.1 2 (by omega) (by omega)]; exact hs) ?_
    refine n_icmp_ge d_Re_readSum_15 (by omega) (by omega) (fun hc => ?_) (fun hc => ?_)
    · omega
    · refine r_iload_n d_Re_readSum_18 rfl ?_
      refine n_if_le d_Re_readSum_19 (by omega) (fun h1 => ?_) (fun h1 => ?_)
      · exact P (by omega)
      · refine r_aload_n d_Re_readSum_22 rfl ?_
        refine g_geti d_Re_readSum_23 f_Re_54 rfl rfl ?_
        refine r_top (y := (nI (tK T w q))) (hT.2.1) ?_
        refine r_iconst (v := nI 4) d_Re_readSum_26 (by decide) ?_
        refine n_icmp_eq d_Re_readSum_27 (by omega) (by omega) (fun h2 => ?_) (fun h2 => ?_)
        · exact P (by omega)
        · refine r_aload_n d_Re_readSum_30 rfl ?_
          refine g_geti d_Re_readSum_31 f_Re_54 rfl rfl ?_
          refine r_top (y := (nI (tK T w q))) (hT.2.1) ?_
          refine r_iconst (v := nI 2) d_Re_readSum_34 (by decide) ?_
          refine n_icmp_eq d_Re_readSum_35 (by omega) (by omega) (fun h3 => ?_) (fun h3 => ?_)
          · exact P (by omega)
          · rw [rdS, if_pos ⟨h1, h2, h3⟩] at hd
            subst hd
            refine r_iconst (v := nI 1) d_Re_readSum_38 (by decide) ?_
            refine g_retz d_Re_readSum_39 rfl (by decide) ?_
            exact ⟨hG.1, hW, Or.inl ⟨rfl, rfl, hG, hT⟩⟩
theorem c_Re_readSemicolon {p : Nat} (hO : OS o) (hR : RT M T w) (hK : TK M T w p) : CI o l m_Re_readSemicolon n [.ref 1] M (fun x M' => (∀ b, b ≠ 1 → M' b = M b) ∧ ((x = nI 1 ∧ tK T w p = 3 ∧ RF M M' ∧ TK M' T w (tE T w p)) ∨ (x = nI 0 ∧ tK T w p ≠ 3 ∧ RB M' 1 (tQ T w p)))) := by
  refine ci_of rfl rfl rfl (Nat.le_of_ble_eq_true rfl) ?_
  have kle := tK_le (T := T) (w := w) p
  refine r_aload_n d_Re_readSemicolon_0 rfl ?_
  refine g_geti d_Re_readSemicolon_1 f_Re_54 rfl rfl ?_
  refine r_top (y := (nI (tK T w p))) (hK.2.1) ?_
  refine r_iconst (v := nI 3) d_Re_readSemicolon_4 (by decide) ?_
  refine n_icmp_eq d_Re_readSemicolon_5 (by omega) (by omega) (fun hc => ?_) (fun hc => ?_)
  · refine r_aload_n d_Re_readSemicolon_14 rfl ?_
    refine g_Vv (av := []) d_Re_readSemicolon_15 k_Re_51 ws_Re_step (by decide) rfl rfl (Nat.le_of_ble_eq_true rfl) rfl (c_Re_next hO hR hK) ?_
    rintro M1 ⟨k1, k2⟩
    refine r_iconst (v := nI 1) d_Re_readSemicolon_18 (by decide) ?_
    refine g_retz d_Re_readSemicolon_19 rfl (by decide) ?_
    exact ⟨k1.1, Or.inl ⟨rfl, hc, k1, k2⟩⟩
  · refine r_aload_n d_Re_readSemicolon_8 rfl ?_
    refine r_iconst (v := nI 1) d_Re_readSemicolon_9 (by decide) ?_
    refine g_Vi (av := [.int (nI 1)]) d_Re_readSemicolon_10 k_Re_61 ws_Re_refuse (by decide) rfl rfl (Nat.le_of_ble_eq_true rfl) rfl (c_Re_refuse) ?_
    rintro x M4 ⟨rfl, e4⟩
    refine g_retz d_Re_readSemicolon_13 rfl (by decide) ?_
    refine ⟨fun b b1 => by rw [e4, rf_ne b1], Or.inr ⟨rfl, hc, ?_⟩⟩
    rw [e4]
    exact rf_at hK.2.2.1
theorem c_Re_isToldSeries {p a : Nat} (hK : TK M T w p) (ha : M 1 8 = nI a) (ha6 : a ≤ 6) : CI o l m_Re_isToldSeries n [.ref 1] M (fun x M' => (∀ b, b ≠ 1 → M' b = M b) ∧ ((x = nI 1 ∧ tK T w p = 2 ∧ tV T w p < a ∧ M = M') ∨ (x = nI 0 ∧ ((tK T w p ≠ 2 ∧ RB M' 1 (tQ T w p)) ∨ (tK T w p = 2 ∧ a ≤ tV T w p ∧ RB M' 2 (tQ T w p)))))) := by
  refine ci_of rfl rfl rfl (Nat.le_of_ble_eq_true rfl) ?_
  have kle := tK_le (T := T) (w := w) p
  refine r_aload_n d_Re_isToldSeries_0 rfl ?_
  refine g_geti d_Re_isToldSeries_1 f_Re_54 rfl rfl ?_
  refine r_top (y := (nI (tK T w p))) (hK.2.1) ?_
  refine r_iconst (v := nI 2) d_Re_isToldSeries_4 (by decide) ?_
  refine n_icmp_eq d_Re_isToldSeries_5 (by omega) (by omega) (fun hc => ?_) (fun hc => ?_)
  · have v9 := tV_lt hc
    refine r_aload_n d_Re_isToldSeries_14 rfl ?_
    refine g_geti d_Re_isToldSeries_15 f_Re_71 rfl rfl ?_
    refine r_top (y := (nI (tV T w p))) (hK.2.2.2.1 hc) ?_
    refine n_if_lt d_Re_isToldSeries_18 (by omega) ?_
    refine r_aload_n d_Re_isToldSeries_21 rfl ?_
    refine g_geti d_Re_isToldSeries_22 f_Re_71 rfl rfl ?_
    refine r_top (y := (nI (tV T w p))) (hK.2.2.2.1 hc) ?_
    refine r_aload_n d_Re_isToldSeries_25 rfl ?_
    refine g_geti d_Re_isToldSeries_26 f_Re_39 rfl rfl ?_
    refine r_top (y := (nI a)) (ha) ?_
    refine n_icmp_lt d_Re_isToldSeries_29 (by omega) (by omega) (fun hc2 => ?_) (fun hc2 => ?_)
    · refine r_iconst (v := nI 1) d_Re_isToldSeries_38 (by decide) ?_
      refine g_retz d_Re_isToldSeries_39 rfl (by decide) ?_
      exact ⟨fun _ _ => rfl, Or.inl ⟨rfl, hc, hc2, rfl⟩⟩
    · refine r_aload_n d_Re_isToldSeries_32 rfl ?_
      refine r_iconst (v := nI 2) d_Re_isToldSeries_33 (by decide) ?_
      refine g_Vi (av := [.int (nI 2)]) d_Re_isToldSeries_34 k_Re_61 ws_Re_refuse (by decide) rfl rfl (Nat.le_of_ble_eq_true rfl) rfl (c_Re_refuse) ?_
      rintro x M4 ⟨rfl, e4⟩
      refine g_retz d_Re_isToldSeries_37 rfl (by decide) ?_
      refine ⟨fun b b1 => by rw [e4, rf_ne b1], Or.inr ⟨rfl, Or.inr ⟨hc, hc2, ?_⟩⟩⟩
      rw [e4]
      exact rf_at hK.2.2.1
  · refine r_aload_n d_Re_isToldSeries_8 rfl ?_
    refine r_iconst (v := nI 1) d_Re_isToldSeries_9 (by decide) ?_
    refine g_Vi (av := [.int (nI 1)]) d_Re_isToldSeries_10 k_Re_61 ws_Re_refuse (by decide) rfl rfl (Nat.le_of_ble_eq_true rfl) rfl (c_Re_refuse) ?_
    rintro x M4 ⟨rfl, e4⟩
    refine g_retz d_Re_isToldSeries_13 rfl (by decide) ?_
    refine ⟨fun b b1 => by rw [e4, rf_ne b1], Or.inr ⟨rfl, Or.inl ⟨hc, ?_⟩⟩⟩
    rw [e4]
    exact rf_at hK.2.2.1
end C51
