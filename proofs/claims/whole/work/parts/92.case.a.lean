theorem cs_0 {o : OM} {l : Launch} {nm : String} {n : Nat} {M : Mem} {S : SS} {N i : Nat} {xs : Nat → Int32} {bg bg2 : Nat × Nat} {Q : Option Value → AH → Prop} (hl : l.stackTraces = false) (hE : OE o) (hO : OS o) (hx : OX o N xs) (hN : N ≤ 3072) (hi : i + 6 ≤ N) (hW : WS S) (hX : XR M S) (hM : MR M S) (hb1 : 1 + bg2.1 ≤ bg.1) (hb2 : 6 + bg2.2 ≤ bg.2) (K : ∀ n' M' S', XR M' S' → MR M' S' → WS S' → Rn o l (m_Lw nm) bg2 1396 [some (.retAddr 0), some (.ref 0), some (.ref 436), some (.ref 453), some (.int (nI i)), none, none] [] (gh n' M') Q) : Rn o l (m_Lw nm) bg 176 [some (.retAddr 0), some (.ref 0), some (.ref 436), some (.ref 453), some (.int (nI i)), none, none] [] (gh n M) Q := by
  refine r_less (bg2 := bg2) (by omega) (by omega) ?_
  refine r_aload_n d_Lw_176 rfl ?_
  refine r_bload_n d_Lw_177 rfl ?_
  refine r_iload (x := nI i) d_Lw_178 rfl ?_
  refine r_iconst (v := nI 1) d_Lw_180 (by decide) ?_
  refine n_iadd d_Lw_181 ?_
  refine r_sld d_Lw_182 hx (by omega) (by omega) ?_
  refine r_bload_n d_Lw_183 rfl ?_
  refine r_iload (x := nI i) d_Lw_184 rfl ?_
  refine r_iconst (v := nI 2) d_Lw_186 (by decide) ?_
  refine n_iadd d_Lw_187 ?_
  refine r_sld d_Lw_188 hx (by omega) (by omega) ?_
  refine r_bload_n d_Lw_189 rfl ?_
  refine r_iload (x := nI i) d_Lw_190 rfl ?_
  refine r_iconst (v := nI 3) d_Lw_192 (by decide) ?_
  refine n_iadd d_Lw_193 ?_
  refine r_sld d_Lw_194 hx (by omega) (by omega) ?_
  refine r_bload_n d_Lw_195 rfl ?_
  refine r_iload (x := nI i) d_Lw_196 rfl ?_
  refine r_iconst (v := nI 4) d_Lw_198 (by decide) ?_
  refine n_iadd d_Lw_199 ?_
  refine r_sld d_Lw_200 hx (by omega) (by omega) ?_
  refine r_bload_n d_Lw_201 rfl ?_
  refine r_iload (x := nI i) d_Lw_202 rfl ?_
  refine r_iconst (v := nI 5) d_Lw_204 (by decide) ?_
  refine n_iadd d_Lw_205 ?_
  refine r_sld d_Lw_206 hx (by omega) (by omega) ?_
  refine g_Vi (av := [.int (xs (i + 1)), .int (xs (i + 2)), .int (xs (i + 3)), .int (xs (i + 4)), .int (xs (i + 5))]) d_Lw_207 k_Lw_22 ws_X_feed (Nat.le_of_ble_eq_true rfl) rfl rfl (Nat.le_of_ble_eq_true rfl) rfl (c_X_feed hX) ?_
  rintro r M1 ⟨rfl, x1, k1⟩
  refine r_aload_n d_Lw_210 rfl ?_
  refine r_bload_n d_Lw_211 rfl ?_
  refine r_iload (x := nI i) d_Lw_212 rfl ?_
  refine r_iconst (v := nI 1) d_Lw_214 (by decide) ?_
  refine n_iadd d_Lw_215 ?_
  refine r_sld d_Lw_216 hx (by omega) (by omega) ?_
  refine r_bload_n d_Lw_217 rfl ?_
  refine r_iload (x := nI i) d_Lw_218 rfl ?_
  refine r_iconst (v := nI 2) d_Lw_220 (by decide) ?_
  refine n_iadd d_Lw_221 ?_
  refine r_sld d_Lw_222 hx (by omega) (by omega) ?_
  refine r_bload_n d_Lw_223 rfl ?_
  refine r_iload (x := nI i) d_Lw_224 rfl ?_
  refine r_iconst (v := nI 3) d_Lw_226 (by decide) ?_
  refine n_iadd d_Lw_227 ?_
  refine r_sld d_Lw_228 hx (by omega) (by omega) ?_
  refine r_bload_n d_Lw_229 rfl ?_
  refine r_iload (x := nI i) d_Lw_230 rfl ?_
  refine r_iconst (v := nI 4) d_Lw_232 (by decide) ?_
  refine n_iadd d_Lw_233 ?_
  refine r_sld d_Lw_234 hx (by omega) (by omega) ?_
  refine r_bload_n d_Lw_235 rfl ?_
  refine r_iload (x := nI i) d_Lw_236 rfl ?_
  refine r_iconst (v := nI 5) d_Lw_238 (by decide) ?_
  refine n_iadd d_Lw_239 ?_
  refine r_sld d_Lw_240 hx (by omega) (by omega) ?_
  refine g_Vi (av := [.int (xs (i + 1)), .int (xs (i + 2)), .int (xs (i + 3)), .int (xs (i + 4)), .int (xs (i + 5))]) d_Lw_241 k_Lw_26 ws_Md_feed (Nat.le_of_ble_eq_true rfl) rfl rfl (Nat.le_of_ble_eq_true rfl) rfl (c_Md_feed (hM.kx (fun b h1 _ => k1 b h1))) ?_
  rintro r M2 ⟨rfl, x2, k2⟩
  refine r_icmp_eq d_Lw_244 (fun _ => ?_) (fun h => absurd rfl h)
  exact K n M2 _ (x1.kx (fun b hb => k2 b (Or.inl hb))) x2 (w_feed hW _ _ _ _ _)
theorem cs_1 {o : OM} {l : Launch} {nm : String} {n : Nat} {M : Mem} {S : SS} {N i : Nat} {xs : Nat → Int32} {bg bg2 : Nat × Nat} {Q : Option Value → AH → Prop} (hl : l.stackTraces = false) (hE : OE o) (hO : OS o) (hx : OX o N xs) (hN : N ≤ 3072) (hi : i + 6 ≤ N) (hW : WS S) (hX : XR M S) (hM : MR M S) (hb1 : 1 + bg2.1 ≤ bg.1) (hb2 : 6 + bg2.2 ≤ bg.2) (K : ∀ n' M' S', XR M' S' → MR M' S' → WS S' → Rn o l (m_Lw nm) bg2 1396 [some (.retAddr 0), some (.ref 0), some (.ref 436), some (.ref 453), some (.int (nI i)), none, none] [] (gh n' M') Q) : Rn o l (m_Lw nm) bg 249 [some (.retAddr 0), some (.ref 0), some (.ref 436), some (.ref 453), some (.int (nI i)), none, none] [] (gh n M) Q := by
  refine r_less (bg2 := bg2) (by omega) (by omega) ?_
  refine r_aload_n d_Lw_249 rfl ?_
  refine r_bload_n d_Lw_250 rfl ?_
  refine r_iload (x := nI i) d_Lw_251 rfl ?_
  refine r_iconst (v := nI 1) d_Lw_253 (by decide) ?_
  refine n_iadd d_Lw_254 ?_
  refine r_sld d_Lw_255 hx (by omega) (by omega) ?_
  refine g_Vi (av := [.int (xs (i + 1))]) d_Lw_256 k_Lw_27 ws_X_end (Nat.le_of_ble_eq_true rfl) rfl rfl (Nat.le_of_ble_eq_true rfl) rfl (c_X_end hX) ?_
  rintro r M1 ⟨rfl, x1, k1⟩
  refine r_aload_n d_Lw_259 rfl ?_
  refine r_bload_n d_Lw_260 rfl ?_
  refine r_iload (x := nI i) d_Lw_261 rfl ?_
  refine r_iconst (v := nI 1) d_Lw_263 (by decide) ?_
  refine n_iadd d_Lw_264 ?_
  refine r_sld d_Lw_265 hx (by omega) (by omega) ?_
  refine g_Vi (av := [.int (xs (i + 1))]) d_Lw_266 k_Lw_31 ws_Md_end (Nat.le_of_ble_eq_true rfl) rfl rfl (Nat.le_of_ble_eq_true rfl) rfl (c_Md_end (hM.kx (fun b h1 _ => k1 b h1))) ?_
  rintro r M2 ⟨rfl, x2, k2⟩
  refine r_icmp_eq d_Lw_269 (fun _ => ?_) (fun h => absurd rfl h)
  exact K n M2 _ (x1.kx (fun b hb => k2 b (Or.inl hb))) x2 (w_end hW _)
theorem cs_2 {o : OM} {l : Launch} {nm : String} {n : Nat} {M : Mem} {S : SS} {N i : Nat} {xs : Nat → Int32} {bg bg2 : Nat × Nat} {Q : Option Value → AH → Prop} (hl : l.stackTraces = false) (hE : OE o) (hO : OS o) (hx : OX o N xs) (hN : N ≤ 3072) (hi : i + 6 ≤ N) (hW : WS S) (hX : XR M S) (hM : MR M S) (hb1 : 1 + bg2.1 ≤ bg.1) (hb2 : 6 + bg2.2 ≤ bg.2) (K : ∀ n' M' S', XR M' S' → MR M' S' → WS S' → Rn o l (m_Lw nm) bg2 1396 [some (.retAddr 0), some (.ref 0), some (.ref 436), some (.ref 453), some (.int (nI i)), none, none] [] (gh n' M') Q) : Rn o l (m_Lw nm) bg 274 [some (.retAddr 0), some (.ref 0), some (.ref 436), some (.ref 453), some (.int (nI i)), none, none] [] (gh n M) Q := by
  refine r_less (bg2 := bg2) (by omega) (by omega) ?_
  refine r_aload_n d_Lw_274 rfl ?_
  refine g_Vi (av := []) d_Lw_275 k_Lw_32 ws_X_text (Nat.le_of_ble_eq_true rfl) rfl rfl (Nat.le_of_ble_eq_true rfl) rfl (c_X_textW hW hO hX) ?_
  rintro r M1 ⟨⟨rfl, x1, k1⟩, w1⟩
  refine r_aload_n d_Lw_278 rfl ?_
  refine g_Vi (av := []) d_Lw_279 k_Lw_36 ws_Md_text (Nat.le_of_ble_eq_true rfl) rfl rfl (Nat.le_of_ble_eq_true rfl) rfl (c_Md_text (hM.kx (fun b h1 _ => k1 b h1))) ?_
  rintro r M2 ⟨rfl, x2, k2⟩
  refine r_icmp_eq d_Lw_282 (fun _ => ?_) (fun h => absurd rfl h)
  exact K n M2 _ (x1.kx (fun b hb => k2 b (Or.inl hb))) x2 (w1)
theorem cs_3 {o : OM} {l : Launch} {nm : String} {n : Nat} {M : Mem} {S : SS} {N i : Nat} {xs : Nat → Int32} {bg bg2 : Nat × Nat} {Q : Option Value → AH → Prop} (hl : l.stackTraces = false) (hE : OE o) (hO : OS o) (hx : OX o N xs) (hN : N ≤ 3072) (hi : i + 6 ≤ N) (hW : WS S) (hX : XR M S) (hM : MR M S) (hb1 : 1 + bg2.1 ≤ bg.1) (hb2 : 6 + bg2.2 ≤ bg.2) (K : ∀ n' M' S', XR M' S' → MR M' S' → WS S' → Rn o l (m_Lw nm) bg2 1396 [some (.retAddr 0), some (.ref 0), some (.ref 436), some (.ref 453), some (.int (nI i)), none, none] [] (gh n' M') Q) : Rn o l (m_Lw nm) bg 287 [some (.retAddr 0), some (.ref 0), some (.ref 436), some (.ref 453), some (.int (nI i)), none, none] [] (gh n M) Q := by
  refine r_less (bg2 := bg2) (by omega) (by omega) ?_
  refine r_aload_n d_Lw_287 rfl ?_
  refine g_Vi (av := []) d_Lw_288 k_Lw_37 ws_X_fault (Nat.le_of_ble_eq_true rfl) rfl rfl (Nat.le_of_ble_eq_true rfl) rfl (c_X_fault hX) ?_
  rintro r M1 ⟨rfl, x1, k1⟩
  refine r_aload_n d_Lw_291 rfl ?_
  refine g_Vi (av := []) d_Lw_292 k_Lw_40 ws_Md_fault (Nat.le_of_ble_eq_true rfl) rfl rfl (Nat.le_of_ble_eq_true rfl) rfl (c_Md_fault (hM.kx (fun b h1 _ => k1 b h1))) ?_
  rintro r M2 ⟨rfl, x2, k2⟩
  refine r_icmp_eq d_Lw_295 (fun _ => ?_) (fun h => absurd rfl h)
  exact K n M2 _ (x1.kx (fun b hb => k2 b (Or.inl hb))) x2 (w_fault hW)
theorem cs_4 {o : OM} {l : Launch} {nm : String} {n : Nat} {M : Mem} {S : SS} {N i : Nat} {xs : Nat → Int32} {bg bg2 : Nat × Nat} {Q : Option Value → AH → Prop} (hl : l.stackTraces = false) (hE : OE o) (hO : OS o) (hx : OX o N xs) (hN : N ≤ 3072) (hi : i + 6 ≤ N) (hW : WS S) (hX : XR M S) (hM : MR M S) (hb1 : 1 + bg2.1 ≤ bg.1) (hb2 : 6 + bg2.2 ≤ bg.2) (K : ∀ n' M' S', XR M' S' → MR M' S' → WS S' → Rn o l (m_Lw nm) bg2 1396 [some (.retAddr 0), some (.ref 0), some (.ref 436), some (.ref 453), some (.int (nI i)), none, none] [] (gh n' M') Q) : Rn o l (m_Lw nm) bg 300 [some (.retAddr 0), some (.ref 0), some (.ref 436), some (.ref 453), some (.int (nI i)), none, none] [] (gh n M) Q := by
  refine r_less (bg2 := bg2) (by omega) (by omega) ?_
  refine r_aload_n d_Lw_300 rfl ?_
  refine r_bload_n d_Lw_301 rfl ?_
  refine r_iload (x := nI i) d_Lw_302 rfl ?_
  refine r_iconst (v := nI 1) d_Lw_304 (by decide) ?_
  refine n_iadd d_Lw_305 ?_
  refine r_sld d_Lw_306 hx (by omega) (by omega) ?_
  refine g_Vi (av := [.int (xs (i + 1))]) d_Lw_307 k_Lw_41 ws_X_now (Nat.le_of_ble_eq_true rfl) rfl rfl (Nat.le_of_ble_eq_true rfl) rfl (c_X_now hX) ?_
  rintro r M1 ⟨rfl, x1, k1⟩
  refine r_aload_n d_Lw_310 rfl ?_
  refine r_bload_n d_Lw_311 rfl ?_
  refine r_iload (x := nI i) d_Lw_312 rfl ?_
  refine r_iconst (v := nI 1) d_Lw_314 (by decide) ?_
  refine n_iadd d_Lw_315 ?_
  refine r_sld d_Lw_316 hx (by omega) (by omega) ?_
  refine g_Vi (av := [.int (xs (i + 1))]) d_Lw_317 k_Lw_45 ws_Md_now (Nat.le_of_ble_eq_true rfl) rfl rfl (Nat.le_of_ble_eq_true rfl) rfl (c_Md_now (hM.kx (fun b h1 _ => k1 b h1))) ?_
  rintro r M2 ⟨rfl, x2, k2⟩
  refine r_icmp_eq d_Lw_320 (fun _ => ?_) (fun h => absurd rfl h)
  exact K n M2 _ (x1.kx (fun b hb => k2 b (Or.inl hb))) x2 (w_now hW _)
theorem cs_5 {o : OM} {l : Launch} {nm : String} {n : Nat} {M : Mem} {S : SS} {N i : Nat} {xs : Nat → Int32} {bg bg2 : Nat × Nat} {Q : Option Value → AH → Prop} (hl : l.stackTraces = false) (hE : OE o) (hO : OS o) (hx : OX o N xs) (hN : N ≤ 3072) (hi : i + 6 ≤ N) (hW : WS S) (hX : XR M S) (hM : MR M S) (hb1 : 1 + bg2.1 ≤ bg.1) (hb2 : 6 + bg2.2 ≤ bg.2) (K : ∀ n' M' S', XR M' S' → MR M' S' → WS S' → Rn o l (m_Lw nm) bg2 1396 [some (.retAddr 0), some (.ref 0), some (.ref 436), some (.ref 453), some (.int (nI i)), none, none] [] (gh n' M') Q) : Rn o l (m_Lw nm) bg 325 [some (.retAddr 0), some (.ref 0), some (.ref 436), some (.ref 453), some (.int (nI i)), none, none] [] (gh n M) Q := by
  refine r_less (bg2 := bg2) (by omega) (by omega) ?_
  refine r_aload_n d_Lw_325 rfl ?_
  refine r_bload_n d_Lw_326 rfl ?_
  refine r_iload (x := nI i) d_Lw_327 rfl ?_
  refine r_iconst (v := nI 1) d_Lw_329 (by decide) ?_
  refine n_iadd d_Lw_330 ?_
  refine r_sld d_Lw_331 hx (by omega) (by omega) ?_
  refine r_bload_n d_Lw_332 rfl ?_
  refine r_iload (x := nI i) d_Lw_333 rfl ?_
  refine r_iconst (v := nI 2) d_Lw_335 (by decide) ?_
  refine n_iadd d_Lw_336 ?_
  refine r_sld d_Lw_337 hx (by omega) (by omega) ?_
  refine g_Vi (av := [.int (xs (i + 1)), .int (xs (i + 2))]) d_Lw_338 k_Lw_46 ws_X_at (Nat.le_of_ble_eq_true rfl) rfl rfl (Nat.le_of_ble_eq_true rfl) rfl (c_X_at hW hX) ?_
  rintro r M1 ⟨rfl, x1, k1⟩
  refine r_aload_n d_Lw_341 rfl ?_
  refine r_bload_n d_Lw_342 rfl ?_
  refine r_iload (x := nI i) d_Lw_343 rfl ?_
  refine r_iconst (v := nI 1) d_Lw_345 (by decide) ?_
  refine n_iadd d_Lw_346 ?_
  refine r_sld d_Lw_347 hx (by omega) (by omega) ?_
  refine r_bload_n d_Lw_348 rfl ?_
  refine r_iload (x := nI i) d_Lw_349 rfl ?_
  refine r_iconst (v := nI 2) d_Lw_351 (by decide) ?_
  refine n_iadd d_Lw_352 ?_
  refine r_sld d_Lw_353 hx (by omega) (by omega) ?_
  refine g_Vi (av := [.int (xs (i + 1)), .int (xs (i + 2))]) d_Lw_354 k_Lw_50 ws_Md_at (Nat.le_of_ble_eq_true rfl) rfl rfl (Nat.le_of_ble_eq_true rfl) rfl (c_Md_at hW (hM.kx (fun b h1 _ => k1 b h1))) ?_
  rintro r M2 ⟨rfl, x2, k2⟩
  refine r_icmp_eq d_Lw_357 (fun _ => ?_) (fun h => absurd rfl h)
  exact K n M2 _ (x1.kx (fun b hb => k2 b (Or.inl hb))) x2 (w_at hW _ _)
theorem cs_6 {o : OM} {l : Launch} {nm : String} {n : Nat} {M : Mem} {S : SS} {N i : Nat} {xs : Nat → Int32} {bg bg2 : Nat × Nat} {Q : Option Value → AH → Prop} (hl : l.stackTraces = false) (hE : OE o) (hO : OS o) (hx : OX o N xs) (hN : N ≤ 3072) (hi : i + 6 ≤ N) (hW : WS S) (hX : XR M S) (hM : MR M S) (hb1 : 1 + bg2.1 ≤ bg.1) (hb2 : 6 + bg2.2 ≤ bg.2) (K : ∀ n' M' S', XR M' S' → MR M' S' → WS S' → Rn o l (m_Lw nm) bg2 1396 [some (.retAddr 0), some (.ref 0), some (.ref 436), some (.ref 453), some (.int (nI i)), none, none] [] (gh n' M') Q) : Rn o l (m_Lw nm) bg 362 [some (.retAddr 0), some (.ref 0), some (.ref 436), some (.ref 453), some (.int (nI i)), none, none] [] (gh n M) Q := by
  refine r_less (bg2 := bg2) (by omega) (by omega) ?_
  refine r_aload_n d_Lw_362 rfl ?_
  refine r_bload_n d_Lw_363 rfl ?_
  refine r_iload (x := nI i) d_Lw_364 rfl ?_
  refine r_iconst (v := nI 1) d_Lw_366 (by decide) ?_
  refine n_iadd d_Lw_367 ?_
  refine r_sld d_Lw_368 hx (by omega) (by omega) ?_
  refine r_bload_n d_Lw_369 rfl ?_
  refine r_iload (x := nI i) d_Lw_370 rfl ?_
  refine r_iconst (v := nI 2) d_Lw_372 (by decide) ?_
  refine n_iadd d_Lw_373 ?_
  refine r_sld d_Lw_374 hx (by omega) (by omega) ?_
  refine r_bload_n d_Lw_375 rfl ?_
  refine r_iload (x := nI i) d_Lw_376 rfl ?_
  refine r_iconst (v := nI 3) d_Lw_378 (by decide) ?_
  refine n_iadd d_Lw_379 ?_
  refine r_sld d_Lw_380 hx (by omega) (by omega) ?_
  refine g_Vi (av := [.int (xs (i + 1)), .int (xs (i + 2)), .int (xs (i + 3))]) d_Lw_381 k_Lw_51 ws_X_put (Nat.le_of_ble_eq_true rfl) rfl rfl (Nat.le_of_ble_eq_true rfl) rfl (c_X_put hW hX) ?_
  rintro r M1 ⟨rfl, x1, k1⟩
  refine r_aload_n d_Lw_384 rfl ?_
  refine r_bload_n d_Lw_385 rfl ?_
  refine r_iload (x := nI i) d_Lw_386 rfl ?_
  refine r_iconst (v := nI 1) d_Lw_388 (by decide) ?_
  refine n_iadd d_Lw_389 ?_
  refine r_sld d_Lw_390 hx (by omega) (by omega) ?_
  refine r_bload_n d_Lw_391 rfl ?_
  refine r_iload (x := nI i) d_Lw_392 rfl ?_
  refine r_iconst (v := nI 2) d_Lw_394 (by decide) ?_
  refine n_iadd d_Lw_395 ?_
  refine r_sld d_Lw_396 hx (by omega) (by omega) ?_
  refine r_bload_n d_Lw_397 rfl ?_
  refine r_iload (x := nI i) d_Lw_398 rfl ?_
  refine r_iconst (v := nI 3) d_Lw_400 (by decide) ?_
  refine n_iadd d_Lw_401 ?_
  refine r_sld d_Lw_402 hx (by omega) (by omega) ?_
  refine g_Vi (av := [.int (xs (i + 1)), .int (xs (i + 2)), .int (xs (i + 3))]) d_Lw_403 k_Lw_54 ws_Md_put (Nat.le_of_ble_eq_true rfl) rfl rfl (Nat.le_of_ble_eq_true rfl) rfl (c_Md_put hW (hM.kx (fun b h1 _ => k1 b h1))) ?_
  rintro r M2 ⟨rfl, x2, k2⟩
  refine r_icmp_eq d_Lw_406 (fun _ => ?_) (fun h => absurd rfl h)
  exact K n M2 _ (x1.kx (fun b hb => k2 b (Or.inl hb))) x2 (w_put hW _ _ _)
theorem cs_7 {o : OM} {l : Launch} {nm : String} {n : Nat} {M : Mem} {S : SS} {N i : Nat} {xs : Nat → Int32} {bg bg2 : Nat × Nat} {Q : Option Value → AH → Prop} (hl : l.stackTraces = false) (hE : OE o) (hO : OS o) (hx : OX o N xs) (hN : N ≤ 3072) (hi : i + 6 ≤ N) (hW : WS S) (hX : XR M S) (hM : MR M S) (hb1 : 1 + bg2.1 ≤ bg.1) (hb2 : 6 + bg2.2 ≤ bg.2) (K : ∀ n' M' S', XR M' S' → MR M' S' → WS S' → Rn o l (m_Lw nm) bg2 1396 [some (.retAddr 0), some (.ref 0), some (.ref 436), some (.ref 453), some (.int (nI i)), none, none] [] (gh n' M') Q) : Rn o l (m_Lw nm) bg 411 [some (.retAddr 0), some (.ref 0), some (.ref 436), some (.ref 453), some (.int (nI i)), none, none] [] (gh n M) Q := by
  refine r_less (bg2 := bg2) (by omega) (by omega) ?_
  refine r_aload_n d_Lw_411 rfl ?_
  refine r_bload_n d_Lw_412 rfl ?_
  refine r_iload (x := nI i) d_Lw_413 rfl ?_
  refine r_iconst (v := nI 1) d_Lw_415 (by decide) ?_
  refine n_iadd d_Lw_416 ?_
  refine r_sld d_Lw_417 hx (by omega) (by omega) ?_
  refine r_bload_n d_Lw_418 rfl ?_
  refine r_iload (x := nI i) d_Lw_419 rfl ?_
  refine r_iconst (v := nI 2) d_Lw_421 (by decide) ?_
  refine n_iadd d_Lw_422 ?_
  refine r_sld d_Lw_423 hx (by omega) (by omega) ?_
  refine r_bload_n d_Lw_424 rfl ?_
  refine r_iload (x := nI i) d_Lw_425 rfl ?_
  refine r_iconst (v := nI 3) d_Lw_427 (by decide) ?_
  refine n_iadd d_Lw_428 ?_
  refine r_sld d_Lw_429 hx (by omega) (by omega) ?_
  refine r_bload_n d_Lw_430 rfl ?_
  refine r_iload (x := nI i) d_Lw_431 rfl ?_
  refine r_iconst (v := nI 4) d_Lw_433 (by decide) ?_
  refine n_iadd d_Lw_434 ?_
  refine r_sld d_Lw_435 hx (by omega) (by omega) ?_
  refine g_Vi (av := [.int (xs (i + 1)), .int (xs (i + 2)), .int (xs (i + 3)), .int (xs (i + 4))]) d_Lw_436 k_Lw_55 ws_X_make (Nat.le_of_ble_eq_true rfl) rfl rfl (Nat.le_of_ble_eq_true rfl) rfl (c_X_make hW hX) ?_
  rintro r M1 ⟨rfl, x1, k1⟩
  refine r_aload_n d_Lw_439 rfl ?_
  refine r_bload_n d_Lw_440 rfl ?_
  refine r_iload (x := nI i) d_Lw_441 rfl ?_
  refine r_iconst (v := nI 1) d_Lw_443 (by decide) ?_
  refine n_iadd d_Lw_444 ?_
  refine r_sld d_Lw_445 hx (by omega) (by omega) ?_
  refine r_bload_n d_Lw_446 rfl ?_
  refine r_iload (x := nI i) d_Lw_447 rfl ?_
  refine r_iconst (v := nI 2) d_Lw_449 (by decide) ?_
  refine n_iadd d_Lw_450 ?_
  refine r_sld d_Lw_451 hx (by omega) (by omega) ?_
  refine r_bload_n d_Lw_452 rfl ?_
  refine r_iload (x := nI i) d_Lw_453 rfl ?_
  refine r_iconst (v := nI 3) d_Lw_455 (by decide) ?_
  refine n_iadd d_Lw_456 ?_
  refine r_sld d_Lw_457 hx (by omega) (by omega) ?_
  refine r_bload_n d_Lw_458 rfl ?_
  refine r_iload (x := nI i) d_Lw_459 rfl ?_
  refine r_iconst (v := nI 4) d_Lw_461 (by decide) ?_
  refine n_iadd d_Lw_462 ?_
  refine r_sld d_Lw_463 hx (by omega) (by omega) ?_
  refine g_Vi (av := [.int (xs (i + 1)), .int (xs (i + 2)), .int (xs (i + 3)), .int (xs (i + 4))]) d_Lw_464 k_Lw_59 ws_Md_make (Nat.le_of_ble_eq_true rfl) rfl rfl (Nat.le_of_ble_eq_true rfl) rfl (c_Md_make hW (hM.kx (fun b h1 _ => k1 b h1))) ?_
  rintro r M2 ⟨rfl, x2, k2⟩
  refine r_icmp_eq d_Lw_467 (fun _ => ?_) (fun h => absurd rfl h)
  exact K n M2 _ (x1.kx (fun b hb => k2 b (Or.inl hb))) x2 (w_make hW _ _ _ _)
theorem cs_8 {o : OM} {l : Launch} {nm : String} {n : Nat} {M : Mem} {S : SS} {N i : Nat} {xs : Nat → Int32} {bg bg2 : Nat × Nat} {Q : Option Value → AH → Prop} (hl : l.stackTraces = false) (hE : OE o) (hO : OS o) (hx : OX o N xs) (hN : N ≤ 3072) (hi : i + 6 ≤ N) (hW : WS S) (hX : XR M S) (hM : MR M S) (hb1 : 1 + bg2.1 ≤ bg.1) (hb2 : 6 + bg2.2 ≤ bg.2) (K : ∀ n' M' S', XR M' S' → MR M' S' → WS S' → Rn o l (m_Lw nm) bg2 1396 [some (.retAddr 0), some (.ref 0), some (.ref 436), some (.ref 453), some (.int (nI i)), none, none] [] (gh n' M') Q) : Rn o l (m_Lw nm) bg 472 [some (.retAddr 0), some (.ref 0), some (.ref 436), some (.ref 453), some (.int (nI i)), none, none] [] (gh n M) Q := by
  refine r_less (bg2 := bg2) (by omega) (by omega) ?_
  refine r_aload_n d_Lw_472 rfl ?_
  refine r_bload_n d_Lw_473 rfl ?_
  refine r_iload (x := nI i) d_Lw_474 rfl ?_
  refine r_iconst (v := nI 1) d_Lw_476 (by decide) ?_
  refine n_iadd d_Lw_477 ?_
  refine r_sld d_Lw_478 hx (by omega) (by omega) ?_
  refine r_bload_n d_Lw_479 rfl ?_
  refine r_iload (x := nI i) d_Lw_480 rfl ?_
  refine r_iconst (v := nI 2) d_Lw_482 (by decide) ?_
  refine n_iadd d_Lw_483 ?_
  refine r_sld d_Lw_484 hx (by omega) (by omega) ?_
  refine r_bload_n d_Lw_485 rfl ?_
  refine r_iload (x := nI i) d_Lw_486 rfl ?_
  refine r_iconst (v := nI 3) d_Lw_488 (by decide) ?_
  refine n_iadd d_Lw_489 ?_
  refine r_sld d_Lw_490 hx (by omega) (by omega) ?_
  refine g_Vi (av := [.int (xs (i + 1)), .int (xs (i + 2)), .int (xs (i + 3))]) d_Lw_491 k_Lw_60 ws_X_turn (Nat.le_of_ble_eq_true rfl) rfl rfl (Nat.le_of_ble_eq_true rfl) rfl (c_X_turn hW hX) ?_
  rintro r M1 ⟨rfl, x1, k1⟩
  refine r_aload_n d_Lw_494 rfl ?_
  refine r_bload_n d_Lw_495 rfl ?_
  refine r_iload (x := nI i) d_Lw_496 rfl ?_
  refine r_iconst (v := nI 1) d_Lw_498 (by decide) ?_
  refine n_iadd d_Lw_499 ?_
  refine r_sld d_Lw_500 hx (by omega) (by omega) ?_
  refine r_bload_n d_Lw_501 rfl ?_
  refine r_iload (x := nI i) d_Lw_502 rfl ?_
  refine r_iconst (v := nI 2) d_Lw_504 (by decide) ?_
  refine n_iadd d_Lw_505 ?_
  refine r_sld d_Lw_506 hx (by omega) (by omega) ?_
  refine r_bload_n d_Lw_507 rfl ?_
  refine r_iload (x := nI i) d_Lw_508 rfl ?_
  refine r_iconst (v := nI 3) d_Lw_510 (by decide) ?_
  refine n_iadd d_Lw_511 ?_
  refine r_sld d_Lw_512 hx (by omega) (by omega) ?_
  refine g_Vi (av := [.int (xs (i + 1)), .int (xs (i + 2)), .int (xs (i + 3))]) d_Lw_513 k_Lw_63 ws_Md_turn (Nat.le_of_ble_eq_true rfl) rfl rfl (Nat.le_of_ble_eq_true rfl) rfl (c_Md_turn hW (hM.kx (fun b h1 _ => k1 b h1))) ?_
  rintro r M2 ⟨rfl, x2, k2⟩
  refine r_icmp_eq d_Lw_516 (fun _ => ?_) (fun h => absurd rfl h)
  exact K n M2 _ (x1.kx (fun b hb => k2 b (Or.inl hb))) x2 (w_turn hW _ _ _)
theorem cs_9 {o : OM} {l : Launch} {nm : String} {n : Nat} {M : Mem} {S : SS} {N i : Nat} {xs : Nat → Int32} {bg bg2 : Nat × Nat} {Q : Option Value → AH → Prop} (hl : l.stackTraces = false) (hE : OE o) (hO : OS o) (hx : OX o N xs) (hN : N ≤ 3072) (hi : i + 6 ≤ N) (hW : WS S) (hX : XR M S) (hM : MR M S) (hb1 : 1 + bg2.1 ≤ bg.1) (hb2 : 6 + bg2.2 ≤ bg.2) (K : ∀ n' M' S', XR M' S' → MR M' S' → WS S' → Rn o l (m_Lw nm) bg2 1396 [some (.retAddr 0), some (.ref 0), some (.ref 436), some (.ref 453), some (.int (nI i)), none, none] [] (gh n' M') Q) : Rn o l (m_Lw nm) bg 521 [some (.retAddr 0), some (.ref 0), some (.ref 436), some (.ref 453), some (.int (nI i)), none, none] [] (gh n M) Q := by
  refine r_less (bg2 := bg2) (by omega) (by omega) ?_
  refine r_aload_n d_Lw_521 rfl ?_
  refine r_bload_n d_Lw_522 rfl ?_
  refine r_iload (x := nI i) d_Lw_523 rfl ?_
  refine r_iconst (v := nI 1) d_Lw_525 (by decide) ?_
  refine n_iadd d_Lw_526 ?_
  refine r_sld d_Lw_527 hx (by omega) (by omega) ?_
  refine r_bload_n d_Lw_528 rfl ?_
  refine r_iload (x := nI i) d_Lw_529 rfl ?_
  refine r_iconst (v := nI 2) d_Lw_531 (by decide) ?_
  refine n_iadd d_Lw_532 ?_
  refine r_sld d_Lw_533 hx (by omega) (by omega) ?_
  refine r_bload_n d_Lw_534 rfl ?_
  refine r_iload (x := nI i) d_Lw_535 rfl ?_
  refine r_iconst (v := nI 3) d_Lw_537 (by decide) ?_
  refine n_iadd d_Lw_538 ?_
  refine r_sld d_Lw_539 hx (by omega) (by omega) ?_
  refine g_Vi (av := [.int (xs (i + 1)), .int (xs (i + 2)), .int (xs (i + 3))]) d_Lw_540 k_Lw_64 ws_X_raise (Nat.le_of_ble_eq_true rfl) rfl rfl (Nat.le_of_ble_eq_true rfl) rfl (c_X_raise hW hX) ?_
  rintro r M1 ⟨rfl, x1, k1⟩
  refine r_aload_n d_Lw_543 rfl ?_
  refine r_bload_n d_Lw_544 rfl ?_
  refine r_iload (x := nI i) d_Lw_545 rfl ?_
  refine r_iconst (v := nI 1) d_Lw_547 (by decide) ?_
  refine n_iadd d_Lw_548 ?_
  refine r_sld d_Lw_549 hx (by omega) (by omega) ?_
  refine r_bload_n d_Lw_550 rfl ?_
  refine r_iload (x := nI i) d_Lw_551 rfl ?_
  refine r_iconst (v := nI 2) d_Lw_553 (by decide) ?_
  refine n_iadd d_Lw_554 ?_
  refine r_sld d_Lw_555 hx (by omega) (by omega) ?_
  refine r_bload_n d_Lw_556 rfl ?_
  refine r_iload (x := nI i) d_Lw_557 rfl ?_
  refine r_iconst (v := nI 3) d_Lw_559 (by decide) ?_
  refine n_iadd d_Lw_560 ?_
  refine r_sld d_Lw_561 hx (by omega) (by omega) ?_
  refine g_Vi (av := [.int (xs (i + 1)), .int (xs (i + 2)), .int (xs (i + 3))]) d_Lw_562 k_Lw_67 ws_Md_raise (Nat.le_of_ble_eq_true rfl) rfl rfl (Nat.le_of_ble_eq_true rfl) rfl (c_Md_raise hW (hM.kx (fun b h1 _ => k1 b h1))) ?_
  rintro r M2 ⟨rfl, x2, k2⟩
  refine r_icmp_eq d_Lw_565 (fun _ => ?_) (fun h => absurd rfl h)
  exact K n M2 _ (x1.kx (fun b hb => k2 b (Or.inl hb))) x2 (w_raise hW _ _ _)
theorem cs_10 {o : OM} {l : Launch} {nm : String} {n : Nat} {M : Mem} {S : SS} {N i : Nat} {xs : Nat → Int32} {bg bg2 : Nat × Nat} {Q : Option Value → AH → Prop} (hl : l.stackTraces = false) (hE : OE o) (hO : OS o) (hx : OX o N xs) (hN : N ≤ 3072) (hi : i + 6 ≤ N) (hW : WS S) (hX : XR M S) (hM : MR M S) (hb1 : 1 + bg2.1 ≤ bg.1) (hb2 : 6 + bg2.2 ≤ bg.2) (K : ∀ n' M' S', XR M' S' → MR M' S' → WS S' → Rn o l (m_Lw nm) bg2 1396 [some (.retAddr 0), some (.ref 0), some (.ref 436), some (.ref 453), some (.int (nI i)), none, none] [] (gh n' M') Q) : Rn o l (m_Lw nm) bg 570 [some (.retAddr 0), some (.ref 0), some (.ref 436), some (.ref 453), some (.int (nI i)), none, none] [] (gh n M) Q := by
  refine r_less (bg2 := bg2) (by omega) (by omega) ?_
  refine r_aload_n d_Lw_570 rfl ?_
  refine r_bload_n d_Lw_571 rfl ?_
  refine r_iload (x := nI i) d_Lw_572 rfl ?_
  refine r_iconst (v := nI 1) d_Lw_574 (by decide) ?_
  refine n_iadd d_Lw_575 ?_
  refine r_sld d_Lw_576 hx (by omega) (by omega) ?_
  refine r_bload_n d_Lw_577 rfl ?_
  refine r_iload (x := nI i) d_Lw_578 rfl ?_
  refine r_iconst (v := nI 2) d_Lw_580 (by decide) ?_
  refine n_iadd d_Lw_581 ?_
  refine r_sld d_Lw_582 hx (by omega) (by omega) ?_
  refine r_bload_n d_Lw_583 rfl ?_
  refine r_iload (x := nI i) d_Lw_584 rfl ?_
  refine r_iconst (v := nI 3) d_Lw_586 (by decide) ?_
  refine n_iadd d_Lw_587 ?_
  refine r_sld d_Lw_588 hx (by omega) (by omega) ?_
  refine g_Vi (av := [.int (xs (i + 1)), .int (xs (i + 2)), .int (xs (i + 3))]) d_Lw_589 k_Lw_68 ws_X_pair (Nat.le_of_ble_eq_true rfl) rfl rfl (Nat.le_of_ble_eq_true rfl) rfl (c_X_pair hW hX) ?_
  rintro r M1 ⟨rfl, x1, k1⟩
  refine r_aload_n d_Lw_592 rfl ?_
  refine r_bload_n d_Lw_593 rfl ?_
  refine r_iload (x := nI i) d_Lw_594 rfl ?_
  refine r_iconst (v := nI 1) d_Lw_596 (by decide) ?_
  refine n_iadd d_Lw_597 ?_
  refine r_sld d_Lw_598 hx (by omega) (by omega) ?_
  refine r_bload_n d_Lw_599 rfl ?_
  refine r_iload (x := nI i) d_Lw_600 rfl ?_
  refine r_iconst (v := nI 2) d_Lw_602 (by decide) ?_
  refine n_iadd d_Lw_603 ?_
  refine r_sld d_Lw_604 hx (by omega) (by omega) ?_
  refine r_bload_n d_Lw_605 rfl ?_
  refine r_iload (x := nI i) d_Lw_606 rfl ?_
  refine r_iconst (v := nI 3) d_Lw_608 (by decide) ?_
  refine n_iadd d_Lw_609 ?_
  refine r_sld d_Lw_610 hx (by omega) (by omega) ?_
  refine g_Vi (av := [.int (xs (i + 1)), .int (xs (i + 2)), .int (xs (i + 3))]) d_Lw_611 k_Lw_71 ws_Md_pair (Nat.le_of_ble_eq_true rfl) rfl rfl (Nat.le_of_ble_eq_true rfl) rfl (c_Md_pair hW (hM.kx (fun b h1 _ => k1 b h1))) ?_
  rintro r M2 ⟨rfl, x2, k2⟩
  refine r_icmp_eq d_Lw_614 (fun _ => ?_) (fun h => absurd rfl h)
  exact K n M2 _ (x1.kx (fun b hb => k2 b (Or.inl hb))) x2 (w_pair hW _ _ _)
