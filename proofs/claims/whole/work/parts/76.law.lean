/-! ===== the law: its calls, one by one ===== -/
abbrev lw_L (G : am_G) (b i : Nat) : List (Nat × Value) := [(3, .int (nI i)), (2, .ref (G.2.2.1.size + 234)), (1, .ref (G.2.2.1.size + 0)), (0, .ref b)]
theorem InvC.m {μ μ' : am_M} {A : pA} (h : InvC μ A) (f : am_fr μ μ' 234 14) : InvC μ' A := h.fr (fun b hb => f b (by omega))
theorem InvM.c {μ μ' : am_M} {A : pA} (h : InvM μ A) (f : am_fr μ μ' 0 234) : InvM μ' A := h.f2 (fun b hb => f b (by omega))
set_option maxRecDepth 100000 in
set_option maxHeartbeats 4000000 in
theorem lw_row {G : am_G} {p : Program} {e : Env} {s : State} {m : MethodId} {below : List Frame} {meth : Method} {c : Code} {b Ln : Nat} {xs : Nat → Int32} {μ : am_M} {k n : Nat} (F : lw_C G p s m meth c b Ln xs) (hLn : Ln ≤ 384) (hk : k ≤ 600000) (hn : n ≤ 7302250) (A : pA) (hC : InvC μ A) (hM : InvM μ A) (ok : okB A) (i : Nat) (hi : i + 6 ≤ Ln) (kk : ∀ (μ9 : am_M) (A9 : pA), InvC μ9 A9 → InvM μ9 A9 → okB A9 → lw_V G p e s m below meth c b (lw_L G b i) 1374 [] am_SH μ9 k n) : lw_V G p e s m below meth c b (lw_L G b i) 188 [] am_SH μ k n := by
  refine lw_ref F (j := 2) (a := 0) dL_law_188 rfl rfl ?_
  refine lw_ldc F (i := i) (co := 1) (j0 := 3) (j3 := 0) rfl rfl dL_law_189 dL_law_190 dL_law_191 dL_law_192 dL_law_193 rfl (by omega) hLn ?_
  refine lw_ldc F (i := i) (co := 2) (j0 := 3) (j3 := 0) rfl rfl dL_law_194 dL_law_195 dL_law_196 dL_law_197 dL_law_198 rfl (by omega) hLn ?_
  refine lw_ldc F (i := i) (co := 3) (j0 := 3) (j3 := 0) rfl rfl dL_law_199 dL_law_200 dL_law_201 dL_law_202 dL_law_203 rfl (by omega) hLn ?_
  refine lw_cv F [.int (xs (i + 1)), .int (xs (i + 2)), .int (xs (i + 3))] dL_law_204 ml_L_13 im_X7_row se_X7_row (c_X7_row A hC ok.1 (xs (i + 1)) (xs (i + 2)) (xs (i + 3))) sh_0 (by decide) rfl rfl rfl rfl (Nat.le_of_ble_eq_true rfl) (Nat.le_of_ble_eq_true rfl) (Nat.le_of_ble_eq_true rfl) ⟨hk, hn⟩ (fun v sh2 μ2 hq => ?_)
  obtain ⟨rfl, rfl, hC2, hf2⟩ := hq
  have hM2 := hM.c hf2
  refine lw_ref F (j := 1) (a := 234) dL_law_207 rfl rfl ?_
  refine lw_ldc F (i := i) (co := 1) (j0 := 3) (j3 := 0) rfl rfl dL_law_208 dL_law_209 dL_law_210 dL_law_211 dL_law_212 rfl (by omega) hLn ?_
  refine lw_ldc F (i := i) (co := 2) (j0 := 3) (j3 := 0) rfl rfl dL_law_213 dL_law_214 dL_law_215 dL_law_216 dL_law_217 rfl (by omega) hLn ?_
  refine lw_ldc F (i := i) (co := 3) (j0 := 3) (j3 := 0) rfl rfl dL_law_218 dL_law_219 dL_law_220 dL_law_221 dL_law_222 rfl (by omega) hLn ?_
  refine lw_cv F [.int (xs (i + 1)), .int (xs (i + 2)), .int (xs (i + 3))] dL_law_223 ml_L_17 im_X8_row se_X8_row (c_X8_row A hM2 ok.1 (xs (i + 1)) (xs (i + 2)) (xs (i + 3))) sh_234 (by decide) rfl rfl rfl rfl (Nat.le_of_ble_eq_true rfl) (Nat.le_of_ble_eq_true rfl) (Nat.le_of_ble_eq_true rfl) ⟨hk, hn⟩ (fun v sh2 μ3 hq => ?_)
  obtain ⟨rfl, rfl, hM3, hf3⟩ := hq
  refine lw_eq F (tgt := 1374) dL_law_226 (by decide) ?_
  exact kk μ3 _ (hC2.m hf3) hM3 (okB_oRow ok (xs (i + 1)) (xs (i + 2)) (xs (i + 3)))
set_option maxRecDepth 100000 in
set_option maxHeartbeats 4000000 in
theorem lw_set {G : am_G} {p : Program} {e : Env} {s : State} {m : MethodId} {below : List Frame} {meth : Method} {c : Code} {b Ln : Nat} {xs : Nat → Int32} {μ : am_M} {k n : Nat} (F : lw_C G p s m meth c b Ln xs) (hLn : Ln ≤ 384) (hk : k ≤ 600000) (hn : n ≤ 7302250) (A : pA) (hC : InvC μ A) (hM : InvM μ A) (ok : okB A) (i : Nat) (hi : i + 6 ≤ Ln) (kk : ∀ (μ9 : am_M) (A9 : pA), InvC μ9 A9 → InvM μ9 A9 → okB A9 → lw_V G p e s m below meth c b (lw_L G b i) 1374 [] am_SH μ9 k n) : lw_V G p e s m below meth c b (lw_L G b i) 231 [] am_SH μ k n := by
  refine lw_ref F (j := 2) (a := 0) dL_law_231 rfl rfl ?_
  refine lw_ldc F (i := i) (co := 1) (j0 := 3) (j3 := 0) rfl rfl dL_law_232 dL_law_233 dL_law_234 dL_law_235 dL_law_236 rfl (by omega) hLn ?_
  refine lw_ldc F (i := i) (co := 2) (j0 := 3) (j3 := 0) rfl rfl dL_law_237 dL_law_238 dL_law_239 dL_law_240 dL_law_241 rfl (by omega) hLn ?_
  refine lw_ldc F (i := i) (co := 3) (j0 := 3) (j3 := 0) rfl rfl dL_law_242 dL_law_243 dL_law_244 dL_law_245 dL_law_246 rfl (by omega) hLn ?_
  refine lw_cv F [.int (xs (i + 1)), .int (xs (i + 2)), .int (xs (i + 3))] dL_law_247 ml_L_18 im_X7_set se_X7_set (c_X7_set A hC ok.1 (xs (i + 1)) (xs (i + 2)) (xs (i + 3))) sh_0 (by decide) rfl rfl rfl rfl (Nat.le_of_ble_eq_true rfl) (Nat.le_of_ble_eq_true rfl) (Nat.le_of_ble_eq_true rfl) ⟨hk, hn⟩ (fun v sh2 μ2 hq => ?_)
  obtain ⟨rfl, rfl, hC2, hf2⟩ := hq
  have hM2 := hM.c hf2
  refine lw_ref F (j := 1) (a := 234) dL_law_250 rfl rfl ?_
  refine lw_ldc F (i := i) (co := 1) (j0 := 3) (j3 := 0) rfl rfl dL_law_251 dL_law_252 dL_law_253 dL_law_254 dL_law_255 rfl (by omega) hLn ?_
  refine lw_ldc F (i := i) (co := 2) (j0 := 3) (j3 := 0) rfl rfl dL_law_256 dL_law_257 dL_law_258 dL_law_259 dL_law_260 rfl (by omega) hLn ?_
  refine lw_ldc F (i := i) (co := 3) (j0 := 3) (j3 := 0) rfl rfl dL_law_261 dL_law_262 dL_law_263 dL_law_264 dL_law_265 rfl (by omega) hLn ?_
  refine lw_cv F [.int (xs (i + 1)), .int (xs (i + 2)), .int (xs (i + 3))] dL_law_266 ml_L_21 im_X8_set se_X8_set (c_X8_set A hM2 ok.1 (xs (i + 1)) (xs (i + 2)) (xs (i + 3))) sh_234 (by decide) rfl rfl rfl rfl (Nat.le_of_ble_eq_true rfl) (Nat.le_of_ble_eq_true rfl) (Nat.le_of_ble_eq_true rfl) ⟨hk, hn⟩ (fun v sh2 μ3 hq => ?_)
  obtain ⟨rfl, rfl, hM3, hf3⟩ := hq
  refine lw_eq F (tgt := 1374) dL_law_269 (by decide) ?_
  exact kk μ3 _ (hC2.m hf3) hM3 (okB_oSet ok (xs (i + 1)) (xs (i + 2)) (xs (i + 3)))
set_option maxRecDepth 100000 in
set_option maxHeartbeats 4000000 in
theorem lw_copy {G : am_G} {p : Program} {e : Env} {s : State} {m : MethodId} {below : List Frame} {meth : Method} {c : Code} {b Ln : Nat} {xs : Nat → Int32} {μ : am_M} {k n : Nat} (F : lw_C G p s m meth c b Ln xs) (hLn : Ln ≤ 384) (hk : k ≤ 600000) (hn : n ≤ 7302250) (A : pA) (hC : InvC μ A) (hM : InvM μ A) (ok : okB A) (i : Nat) (hi : i + 6 ≤ Ln) (kk : ∀ (μ9 : am_M) (A9 : pA), InvC μ9 A9 → InvM μ9 A9 → okB A9 → lw_V G p e s m below meth c b (lw_L G b i) 1374 [] am_SH μ9 k n) : lw_V G p e s m below meth c b (lw_L G b i) 274 [] am_SH μ k n := by
  refine lw_ref F (j := 2) (a := 0) dL_law_274 rfl rfl ?_
  refine lw_ldc F (i := i) (co := 1) (j0 := 3) (j3 := 0) rfl rfl dL_law_275 dL_law_276 dL_law_277 dL_law_278 dL_law_279 rfl (by omega) hLn ?_
  refine lw_ldc F (i := i) (co := 2) (j0 := 3) (j3 := 0) rfl rfl dL_law_280 dL_law_281 dL_law_282 dL_law_283 dL_law_284 rfl (by omega) hLn ?_
  refine lw_ldc F (i := i) (co := 3) (j0 := 3) (j3 := 0) rfl rfl dL_law_285 dL_law_286 dL_law_287 dL_law_288 dL_law_289 rfl (by omega) hLn ?_
  refine lw_ldc F (i := i) (co := 4) (j0 := 3) (j3 := 0) rfl rfl dL_law_290 dL_law_291 dL_law_292 dL_law_293 dL_law_294 rfl (by omega) hLn ?_
  refine lw_ldc F (i := i) (co := 5) (j0 := 3) (j3 := 0) rfl rfl dL_law_295 dL_law_296 dL_law_297 dL_law_298 dL_law_299 rfl (by omega) hLn ?_
  refine lw_cv F [.int (xs (i + 1)), .int (xs (i + 2)), .int (xs (i + 3)), .int (xs (i + 4)), .int (xs (i + 5))] dL_law_300 ml_L_22 im_X7_copy se_X7_copy (c_X7_copy A hC ok.1 (xs (i + 1)) (xs (i + 2)) (xs (i + 3)) (xs (i + 4)) (xs (i + 5))) sh_0 (by decide) rfl rfl rfl rfl (Nat.le_of_ble_eq_true rfl) (Nat.le_of_ble_eq_true rfl) (Nat.le_of_ble_eq_true rfl) ⟨hk, hn⟩ (fun v sh2 μ2 hq => ?_)
  obtain ⟨rfl, rfl, hC2, hf2⟩ := hq
  have hM2 := hM.c hf2
  refine lw_ref F (j := 1) (a := 234) dL_law_303 rfl rfl ?_
  refine lw_ldc F (i := i) (co := 1) (j0 := 3) (j3 := 0) rfl rfl dL_law_304 dL_law_305 dL_law_306 dL_law_307 dL_law_308 rfl (by omega) hLn ?_
  refine lw_ldc F (i := i) (co := 2) (j0 := 3) (j3 := 0) rfl rfl dL_law_309 dL_law_310 dL_law_311 dL_law_312 dL_law_313 rfl (by omega) hLn ?_
  refine lw_ldc F (i := i) (co := 3) (j0 := 3) (j3 := 0) rfl rfl dL_law_314 dL_law_315 dL_law_316 dL_law_317 dL_law_318 rfl (by omega) hLn ?_
  refine lw_ldc F (i := i) (co := 4) (j0 := 3) (j3 := 0) rfl rfl dL_law_319 dL_law_320 dL_law_321 dL_law_322 dL_law_323 rfl (by omega) hLn ?_
  refine lw_ldc F (i := i) (co := 5) (j0 := 3) (j3 := 0) rfl rfl dL_law_324 dL_law_325 dL_law_326 dL_law_327 dL_law_328 rfl (by omega) hLn ?_
  refine lw_cv F [.int (xs (i + 1)), .int (xs (i + 2)), .int (xs (i + 3)), .int (xs (i + 4)), .int (xs (i + 5))] dL_law_329 ml_L_26 im_X8_copy se_X8_copy (c_X8_copy A hM2 ok.1 (xs (i + 1)) (xs (i + 2)) (xs (i + 3)) (xs (i + 4)) (xs (i + 5))) sh_234 (by decide) rfl rfl rfl rfl (Nat.le_of_ble_eq_true rfl) (Nat.le_of_ble_eq_true rfl) (Nat.le_of_ble_eq_true rfl) ⟨hk, hn⟩ (fun v sh2 μ3 hq => ?_)
  obtain ⟨rfl, rfl, hM3, hf3⟩ := hq
  refine lw_eq F (tgt := 1374) dL_law_332 (by decide) ?_
  exact kk μ3 _ (hC2.m hf3) hM3 (okB_oCopy ok (xs (i + 1)) (xs (i + 2)) (xs (i + 3)) (xs (i + 4)) (xs (i + 5)))
set_option maxRecDepth 100000 in
set_option maxHeartbeats 4000000 in
theorem lw_drop {G : am_G} {p : Program} {e : Env} {s : State} {m : MethodId} {below : List Frame} {meth : Method} {c : Code} {b Ln : Nat} {xs : Nat → Int32} {μ : am_M} {k n : Nat} (F : lw_C G p s m meth c b Ln xs) (hLn : Ln ≤ 384) (hk : k ≤ 600000) (hn : n ≤ 7302250) (A : pA) (hC : InvC μ A) (hM : InvM μ A) (ok : okB A) (i : Nat) (hi : i + 6 ≤ Ln) (kk : ∀ (μ9 : am_M) (A9 : pA), InvC μ9 A9 → InvM μ9 A9 → okB A9 → lw_V G p e s m below meth c b (lw_L G b i) 1374 [] am_SH μ9 k n) : lw_V G p e s m below meth c b (lw_L G b i) 337 [] am_SH μ k n := by
  refine lw_ref F (j := 2) (a := 0) dL_law_337 rfl rfl ?_
  refine lw_ldc F (i := i) (co := 1) (j0 := 3) (j3 := 0) rfl rfl dL_law_338 dL_law_339 dL_law_340 dL_law_341 dL_law_342 rfl (by omega) hLn ?_
  refine lw_cv F [.int (xs (i + 1))] dL_law_343 ml_L_27 im_X7_drop se_X7_drop (c_X7_drop A hC ok.1 (xs (i + 1))) sh_0 (by decide) rfl rfl rfl rfl (Nat.le_of_ble_eq_true rfl) (Nat.le_of_ble_eq_true rfl) (Nat.le_of_ble_eq_true rfl) ⟨hk, hn⟩ (fun v sh2 μ2 hq => ?_)
  obtain ⟨rfl, rfl, hC2, hf2⟩ := hq
  have hM2 := hM.c hf2
  refine lw_ref F (j := 1) (a := 234) dL_law_346 rfl rfl ?_
  refine lw_ldc F (i := i) (co := 1) (j0 := 3) (j3 := 0) rfl rfl dL_law_347 dL_law_348 dL_law_349 dL_law_350 dL_law_351 rfl (by omega) hLn ?_
  refine lw_cv F [.int (xs (i + 1))] dL_law_352 ml_L_31 im_X8_drop se_X8_drop (c_X8_drop A hM2 ok.1 (xs (i + 1))) sh_234 (by decide) rfl rfl rfl rfl (Nat.le_of_ble_eq_true rfl) (Nat.le_of_ble_eq_true rfl) (Nat.le_of_ble_eq_true rfl) ⟨hk, hn⟩ (fun v sh2 μ3 hq => ?_)
  obtain ⟨rfl, rfl, hM3, hf3⟩ := hq
  refine lw_eq F (tgt := 1374) dL_law_355 (by decide) ?_
  exact kk μ3 _ (hC2.m hf3) hM3 (okB_oDrop ok (xs (i + 1)))
set_option maxRecDepth 100000 in
set_option maxHeartbeats 4000000 in
theorem lw_feed {G : am_G} {p : Program} {e : Env} {s : State} {m : MethodId} {below : List Frame} {meth : Method} {c : Code} {b Ln : Nat} {xs : Nat → Int32} {μ : am_M} {k n : Nat} (F : lw_C G p s m meth c b Ln xs) (hLn : Ln ≤ 384) (hk : k ≤ 600000) (hn : n ≤ 7302250) (A : pA) (hC : InvC μ A) (hM : InvM μ A) (ok : okB A) (i : Nat) (hi : i + 6 ≤ Ln) (kk : ∀ (μ9 : am_M) (A9 : pA), InvC μ9 A9 → InvM μ9 A9 → okB A9 → lw_V G p e s m below meth c b (lw_L G b i) 1374 [] am_SH μ9 k n) : lw_V G p e s m below meth c b (lw_L G b i) 360 [] am_SH μ k n := by
  refine lw_ref F (j := 2) (a := 0) dL_law_360 rfl rfl ?_
  refine lw_ldc F (i := i) (co := 1) (j0 := 3) (j3 := 0) rfl rfl dL_law_361 dL_law_362 dL_law_363 dL_law_364 dL_law_365 rfl (by omega) hLn ?_
  refine lw_cv F [.int (xs (i + 1))] dL_law_366 ml_L_32 im_X7_feed se_X7_feed (c_X7_feed A hC ok.1 (xs (i + 1))) sh_0 (by decide) rfl rfl rfl rfl (Nat.le_of_ble_eq_true rfl) (Nat.le_of_ble_eq_true rfl) (Nat.le_of_ble_eq_true rfl) ⟨hk, hn⟩ (fun v sh2 μ2 hq => ?_)
  obtain ⟨rfl, rfl, hC2, hf2⟩ := hq
  have hM2 := hM.c hf2
  refine lw_ref F (j := 1) (a := 234) dL_law_369 rfl rfl ?_
  refine lw_ldc F (i := i) (co := 1) (j0 := 3) (j3 := 0) rfl rfl dL_law_370 dL_law_371 dL_law_372 dL_law_373 dL_law_374 rfl (by omega) hLn ?_
  refine lw_cv F [.int (xs (i + 1))] dL_law_375 ml_L_35 im_X8_feed se_X8_feed (c_X8_feed A hM2 ok.1 (xs (i + 1))) sh_234 (by decide) rfl rfl rfl rfl (Nat.le_of_ble_eq_true rfl) (Nat.le_of_ble_eq_true rfl) (Nat.le_of_ble_eq_true rfl) ⟨hk, hn⟩ (fun v sh2 μ3 hq => ?_)
  obtain ⟨rfl, rfl, hM3, hf3⟩ := hq
  refine lw_eq F (tgt := 1374) dL_law_378 (by decide) ?_
  exact kk μ3 _ (hC2.m hf3) hM3 (okB_oFeed ok (xs (i + 1)))
set_option maxRecDepth 100000 in
set_option maxHeartbeats 4000000 in
theorem lw_sky {G : am_G} {p : Program} {e : Env} {s : State} {m : MethodId} {below : List Frame} {meth : Method} {c : Code} {b Ln : Nat} {xs : Nat → Int32} {μ : am_M} {k n : Nat} (F : lw_C G p s m meth c b Ln xs) (hLn : Ln ≤ 384) (hk : k ≤ 600000) (hn : n ≤ 7302250) (A : pA) (hC : InvC μ A) (hM : InvM μ A) (ok : okB A) (i : Nat) (hi : i + 6 ≤ Ln) (kk : ∀ (μ9 : am_M) (A9 : pA), InvC μ9 A9 → InvM μ9 A9 → okB A9 → lw_V G p e s m below meth c b (lw_L G b i) 1374 [] am_SH μ9 k n) : lw_V G p e s m below meth c b (lw_L G b i) 383 [] am_SH μ k n := by
  refine lw_ref F (j := 2) (a := 0) dL_law_383 rfl rfl ?_
  refine lw_cv F [] dL_law_384 ml_L_36 im_X7_sky se_X7_sky (c_X7_sky A hC ok.1 ) sh_0 (by decide) rfl rfl rfl rfl (Nat.le_of_ble_eq_true rfl) (Nat.le_of_ble_eq_true rfl) (Nat.le_of_ble_eq_true rfl) ⟨hk, hn⟩ (fun v sh2 μ2 hq => ?_)
  obtain ⟨rfl, rfl, hC2, hf2⟩ := hq
  have hM2 := hM.c hf2
  refine lw_ref F (j := 1) (a := 234) dL_law_387 rfl rfl ?_
  refine lw_cv F [] dL_law_388 ml_L_40 im_X8_sky se_X8_sky (c_X8_sky A hM2 ok.1 ) sh_234 (by decide) rfl rfl rfl rfl (Nat.le_of_ble_eq_true rfl) (Nat.le_of_ble_eq_true rfl) (Nat.le_of_ble_eq_true rfl) ⟨hk, hn⟩ (fun v sh2 μ3 hq => ?_)
  obtain ⟨rfl, rfl, hM3, hf3⟩ := hq
  refine lw_eq F (tgt := 1374) dL_law_391 (by decide) ?_
  exact kk μ3 _ (hC2.m hf3) hM3 (okB_oSky ok )
set_option maxRecDepth 100000 in
set_option maxHeartbeats 4000000 in
theorem lw_fault {G : am_G} {p : Program} {e : Env} {s : State} {m : MethodId} {below : List Frame} {meth : Method} {c : Code} {b Ln : Nat} {xs : Nat → Int32} {μ : am_M} {k n : Nat} (F : lw_C G p s m meth c b Ln xs) (hLn : Ln ≤ 384) (hk : k ≤ 600000) (hn : n ≤ 7302250) (A : pA) (hC : InvC μ A) (hM : InvM μ A) (ok : okB A) (i : Nat) (hi : i + 6 ≤ Ln) (kk : ∀ (μ9 : am_M) (A9 : pA), InvC μ9 A9 → InvM μ9 A9 → okB A9 → lw_V G p e s m below meth c b (lw_L G b i) 1374 [] am_SH μ9 k n) : lw_V G p e s m below meth c b (lw_L G b i) 396 [] am_SH μ k n := by
  refine lw_ref F (j := 2) (a := 0) dL_law_396 rfl rfl ?_
  refine lw_cv F [] dL_law_397 ml_L_41 im_X7_fault se_X7_fault (c_X7_fault A hC ok.1 ) sh_0 (by decide) rfl rfl rfl rfl (Nat.le_of_ble_eq_true rfl) (Nat.le_of_ble_eq_true rfl) (Nat.le_of_ble_eq_true rfl) ⟨hk, hn⟩ (fun v sh2 μ2 hq => ?_)
  obtain ⟨rfl, rfl, hC2, hf2⟩ := hq
  have hM2 := hM.c hf2
  refine lw_ref F (j := 1) (a := 234) dL_law_400 rfl rfl ?_
  refine lw_cv F [] dL_law_401 ml_L_44 im_X8_fault se_X8_fault (c_X8_fault A hM2 ok.1 ) sh_234 (by decide) rfl rfl rfl rfl (Nat.le_of_ble_eq_true rfl) (Nat.le_of_ble_eq_true rfl) (Nat.le_of_ble_eq_true rfl) ⟨hk, hn⟩ (fun v sh2 μ3 hq => ?_)
  obtain ⟨rfl, rfl, hM3, hf3⟩ := hq
  refine lw_eq F (tgt := 1374) dL_law_404 (by decide) ?_
  exact kk μ3 _ (hC2.m hf3) hM3 (okB_fault ok )
set_option maxRecDepth 100000 in
set_option maxHeartbeats 4000000 in
theorem lw_undo {G : am_G} {p : Program} {e : Env} {s : State} {m : MethodId} {below : List Frame} {meth : Method} {c : Code} {b Ln : Nat} {xs : Nat → Int32} {μ : am_M} {k n : Nat} (F : lw_C G p s m meth c b Ln xs) (hLn : Ln ≤ 384) (hk : k ≤ 600000) (hn : n ≤ 7302250) (A : pA) (hC : InvC μ A) (hM : InvM μ A) (ok : okB A) (i : Nat) (hi : i + 6 ≤ Ln) (kk : ∀ (μ9 : am_M) (A9 : pA), InvC μ9 A9 → InvM μ9 A9 → okB A9 → lw_V G p e s m below meth c b (lw_L G b i) 1374 [] am_SH μ9 k n) : lw_V G p e s m below meth c b (lw_L G b i) 409 [] am_SH μ k n := by
  refine lw_ref F (j := 2) (a := 0) dL_law_409 rfl rfl ?_
  refine lw_cv F [] dL_law_410 ml_L_45 im_X7_undo se_X7_undo (c_X7_undo A hC ok.1 ) sh_0 (by decide) rfl rfl rfl rfl (Nat.le_of_ble_eq_true rfl) (Nat.le_of_ble_eq_true rfl) (Nat.le_of_ble_eq_true rfl) ⟨hk, hn⟩ (fun v sh2 μ2 hq => ?_)
  obtain ⟨rfl, rfl, hC2, hf2⟩ := hq
  have hM2 := hM.c hf2
  refine lw_ref F (j := 1) (a := 234) dL_law_413 rfl rfl ?_
  refine lw_cv F [] dL_law_414 ml_L_48 im_X8_undo se_X8_undo (c_X8_undo A hM2 ok.1 ok.2.1 ) sh_234 (by decide) rfl rfl rfl rfl (Nat.le_of_ble_eq_true rfl) (Nat.le_of_ble_eq_true rfl) (Nat.le_of_ble_eq_true rfl) ⟨hk, hn⟩ (fun v sh2 μ3 hq => ?_)
  obtain ⟨rfl, rfl, hM3, hf3⟩ := hq
  refine lw_eq F (tgt := 1374) dL_law_417 (by decide) ?_
  exact kk μ3 _ (hC2.m hf3) hM3 (okB_oUndo ok )
set_option maxRecDepth 100000 in
set_option maxHeartbeats 4000000 in
theorem lw_hours {G : am_G} {p : Program} {e : Env} {s : State} {m : MethodId} {below : List Frame} {meth : Method} {c : Code} {b Ln : Nat} {xs : Nat → Int32} {μ : am_M} {k n : Nat} (F : lw_C G p s m meth c b Ln xs) (hLn : Ln ≤ 384) (hk : k ≤ 600000) (hn : n ≤ 7302250) (A : pA) (hC : InvC μ A) (hM : InvM μ A) (ok : okB A) (i : Nat) (hi : i + 6 ≤ Ln) (kk : ∀ (μ9 : am_M) (A9 : pA), InvC μ9 A9 → InvM μ9 A9 → okB A9 → lw_V G p e s m below meth c b (lw_L G b i) 1374 [] am_SH μ9 k n) : lw_V G p e s m below meth c b (lw_L G b i) 422 [] am_SH μ k n := by
  refine lw_ref F (j := 2) (a := 0) dL_law_422 rfl rfl ?_
  refine lw_ldc F (i := i) (co := 1) (j0 := 3) (j3 := 0) rfl rfl dL_law_423 dL_law_424 dL_law_425 dL_law_426 dL_law_427 rfl (by omega) hLn ?_
  refine lw_cv F [.int (xs (i + 1))] dL_law_428 ml_L_49 im_X7_hours se_X7_hours (c_X7_hours A hC ok.1 (xs (i + 1))) sh_0 (by decide) rfl rfl rfl rfl (Nat.le_of_ble_eq_true rfl) (Nat.le_of_ble_eq_true rfl) (Nat.le_of_ble_eq_true rfl) ⟨hk, hn⟩ (fun v sh2 μ2 hq => ?_)
  obtain ⟨rfl, rfl, hC2, hf2⟩ := hq
  have hM2 := hM.c hf2
  refine lw_ref F (j := 1) (a := 234) dL_law_431 rfl rfl ?_
  refine lw_ldc F (i := i) (co := 1) (j0 := 3) (j3 := 0) rfl rfl dL_law_432 dL_law_433 dL_law_434 dL_law_435 dL_law_436 rfl (by omega) hLn ?_
  refine lw_cv F [.int (xs (i + 1))] dL_law_437 ml_L_52 im_X8_hours se_X8_hours (c_X8_hours A hM2 ok.1 (xs (i + 1))) sh_234 (by decide) rfl rfl rfl rfl (Nat.le_of_ble_eq_true rfl) (Nat.le_of_ble_eq_true rfl) (Nat.le_of_ble_eq_true rfl) ⟨hk, hn⟩ (fun v sh2 μ3 hq => ?_)
  obtain ⟨rfl, rfl, hM3, hf3⟩ := hq
  refine lw_eq F (tgt := 1374) dL_law_440 (by decide) ?_
  exact kk μ3 _ (hC2.m hf3) hM3 (okB_oHours ok (xs (i + 1)))
set_option maxRecDepth 100000 in
set_option maxHeartbeats 4000000 in
theorem lw_burn {G : am_G} {p : Program} {e : Env} {s : State} {m : MethodId} {below : List Frame} {meth : Method} {c : Code} {b Ln : Nat} {xs : Nat → Int32} {μ : am_M} {k n : Nat} (F : lw_C G p s m meth c b Ln xs) (hLn : Ln ≤ 384) (hk : k ≤ 600000) (hn : n ≤ 7302250) (A : pA) (hC : InvC μ A) (hM : InvM μ A) (ok : okB A) (i : Nat) (hi : i + 6 ≤ Ln) (kk : ∀ (μ9 : am_M) (A9 : pA), InvC μ9 A9 → InvM μ9 A9 → okB A9 → lw_V G p e s m below meth c b (lw_L G b i) 1374 [] am_SH μ9 k n) : lw_V G p e s m below meth c b (lw_L G b i) 445 [] am_SH μ k n := by
  refine lw_ref F (j := 2) (a := 0) dL_law_445 rfl rfl ?_
  refine lw_ldc F (i := i) (co := 1) (j0 := 3) (j3 := 0) rfl rfl dL_law_446 dL_law_447 dL_law_448 dL_law_449 dL_law_450 rfl (by omega) hLn ?_
  refine lw_ldc F (i := i) (co := 2) (j0 := 3) (j3 := 0) rfl rfl dL_law_451 dL_law_452 dL_law_453 dL_law_454 dL_law_455 rfl (by omega) hLn ?_
  refine lw_cv F [.int (xs (i + 1)), .int (xs (i + 2))] dL_law_456 ml_L_53 im_X7_burn se_X7_burn (c_X7_burn A hC ok.1 (xs (i + 1)) (xs (i + 2))) sh_0 (by decide) rfl rfl rfl rfl (Nat.le_of_ble_eq_true rfl) (Nat.le_of_ble_eq_true rfl) (Nat.le_of_ble_eq_true rfl) ⟨hk, hn⟩ (fun v sh2 μ2 hq => ?_)
  obtain ⟨rfl, rfl, hC2, hf2⟩ := hq
  have hM2 := hM.c hf2
  refine lw_ref F (j := 1) (a := 234) dL_law_459 rfl rfl ?_
  refine lw_ldc F (i := i) (co := 1) (j0 := 3) (j3 := 0) rfl rfl dL_law_460 dL_law_461 dL_law_462 dL_law_463 dL_law_464 rfl (by omega) hLn ?_
  refine lw_ldc F (i := i) (co := 2) (j0 := 3) (j3 := 0) rfl rfl dL_law_465 dL_law_466 dL_law_467 dL_law_468 dL_law_469 rfl (by omega) hLn ?_
  refine lw_cv F [.int (xs (i + 1)), .int (xs (i + 2))] dL_law_470 ml_L_57 im_X8_burn se_X8_burn (c_X8_burn A hM2 ok.1 (xs (i + 1)) (xs (i + 2))) sh_234 (by decide) rfl rfl rfl rfl (Nat.le_of_ble_eq_true rfl) (Nat.le_of_ble_eq_true rfl) (Nat.le_of_ble_eq_true rfl) ⟨hk, hn⟩ (fun v sh2 μ3 hq => ?_)
  obtain ⟨rfl, rfl, hM3, hf3⟩ := hq
  refine lw_eq F (tgt := 1374) dL_law_473 (by decide) ?_
  exact kk μ3 _ (hC2.m hf3) hM3 (okB_oBurn ok (xs (i + 1)) (xs (i + 2)))
set_option maxRecDepth 100000 in
set_option maxHeartbeats 4000000 in
theorem lw_send {G : am_G} {p : Program} {e : Env} {s : State} {m : MethodId} {below : List Frame} {meth : Method} {c : Code} {b Ln : Nat} {xs : Nat → Int32} {μ : am_M} {k n : Nat} (F : lw_C G p s m meth c b Ln xs) (hLn : Ln ≤ 384) (hk : k ≤ 600000) (hn : n ≤ 7302250) (A : pA) (hC : InvC μ A) (hM : InvM μ A) (ok : okB A) (i : Nat) (hi : i + 6 ≤ Ln) (kk : ∀ (μ9 : am_M) (A9 : pA), InvC μ9 A9 → InvM μ9 A9 → okB A9 → lw_V G p e s m below meth c b (lw_L G b i) 1374 [] am_SH μ9 k n) : lw_V G p e s m below meth c b (lw_L G b i) 478 [] am_SH μ k n := by
  refine lw_ref F (j := 2) (a := 0) dL_law_478 rfl rfl ?_
  refine lw_ldc F (i := i) (co := 1) (j0 := 3) (j3 := 0) rfl rfl dL_law_479 dL_law_480 dL_law_481 dL_law_482 dL_law_483 rfl (by omega) hLn ?_
  refine lw_ldc F (i := i) (co := 2) (j0 := 3) (j3 := 0) rfl rfl dL_law_484 dL_law_485 dL_law_486 dL_law_487 dL_law_488 rfl (by omega) hLn ?_
  refine lw_ldc F (i := i) (co := 3) (j0 := 3) (j3 := 0) rfl rfl dL_law_489 dL_law_490 dL_law_491 dL_law_492 dL_law_493 rfl (by omega) hLn ?_
  refine lw_cv F [.int (xs (i + 1)), .int (xs (i + 2)), .int (xs (i + 3))] dL_law_494 ml_L_58 im_X7_send se_X7_send (c_X7_send A hC ok.1 (xs (i + 1)) (xs (i + 2)) (xs (i + 3))) sh_0 (by decide) rfl rfl rfl rfl (Nat.le_of_ble_eq_true rfl) (Nat.le_of_ble_eq_true rfl) (Nat.le_of_ble_eq_true rfl) ⟨hk, hn⟩ (fun v sh2 μ2 hq => ?_)
  obtain ⟨rfl, rfl, hC2, hf2⟩ := hq
  have hM2 := hM.c hf2
  refine lw_ref F (j := 1) (a := 234) dL_law_497 rfl rfl ?_
  refine lw_ldc F (i := i) (co := 1) (j0 := 3) (j3 := 0) rfl rfl dL_law_498 dL_law_499 dL_law_500 dL_law_501 dL_law_502 rfl (by omega) hLn ?_
  refine lw_ldc F (i := i) (co := 2) (j0 := 3) (j3 := 0) rfl rfl dL_law_503 dL_law_504 dL_law_505 dL_law_506 dL_law_507 rfl (by omega) hLn ?_
  refine lw_ldc F (i := i) (co := 3) (j0 := 3) (j3 := 0) rfl rfl dL_law_508 dL_law_509 dL_law_510 dL_law_511 dL_law_512 rfl (by omega) hLn ?_
  refine lw_cv F [.int (xs (i + 1)), .int (xs (i + 2)), .int (xs (i + 3))] dL_law_513 ml_L_61 im_X8_send se_X8_send (c_X8_send A hM2 ok.1 (xs (i + 1)) (xs (i + 2)) (xs (i + 3))) sh_234 (by decide) rfl rfl rfl rfl (Nat.le_of_ble_eq_true rfl) (Nat.le_of_ble_eq_true rfl) (Nat.le_of_ble_eq_true rfl) ⟨hk, hn⟩ (fun v sh2 μ3 hq => ?_)
  obtain ⟨rfl, rfl, hM3, hf3⟩ := hq
  refine lw_eq F (tgt := 1374) dL_law_516 (by decide) ?_
  exact kk μ3 _ (hC2.m hf3) hM3 (okB_oSend ok (xs (i + 1)) (xs (i + 2)) (xs (i + 3)))
set_option maxRecDepth 100000 in
set_option maxHeartbeats 4000000 in
theorem lw_wind {G : am_G} {p : Program} {e : Env} {s : State} {m : MethodId} {below : List Frame} {meth : Method} {c : Code} {b Ln : Nat} {xs : Nat → Int32} {μ : am_M} {k n : Nat} (F : lw_C G p s m meth c b Ln xs) (hLn : Ln ≤ 384) (hk : k ≤ 600000) (hn : n ≤ 7302250) (A : pA) (hC : InvC μ A) (hM : InvM μ A) (ok : okB A) (i : Nat) (hi : i + 6 ≤ Ln) (kk : ∀ (μ9 : am_M) (A9 : pA), InvC μ9 A9 → InvM μ9 A9 → okB A9 → lw_V G p e s m below meth c b (lw_L G b i) 1374 [] am_SH μ9 k n) : lw_V G p e s m below meth c b (lw_L G b i) 521 [] am_SH μ k n := by
  refine lw_ref F (j := 2) (a := 0) dL_law_521 rfl rfl ?_
  refine lw_ldc F (i := i) (co := 1) (j0 := 3) (j3 := 0) rfl rfl dL_law_522 dL_law_523 dL_law_524 dL_law_525 dL_law_526 rfl (by omega) hLn ?_
  refine lw_ldc F (i := i) (co := 2) (j0 := 3) (j3 := 0) rfl rfl dL_law_527 dL_law_528 dL_law_529 dL_law_530 dL_law_531 rfl (by omega) hLn ?_
  refine lw_cv F [.int (xs (i + 1)), .int (xs (i + 2))] dL_law_532 ml_L_62 im_X7_wind se_X7_wind (c_X7_wind A hC ok.1 (xs (i + 1)) (xs (i + 2))) sh_0 (by decide) rfl rfl rfl rfl (Nat.le_of_ble_eq_true rfl) (Nat.le_of_ble_eq_true rfl) (Nat.le_of_ble_eq_true rfl) ⟨hk, hn⟩ (fun v sh2 μ2 hq => ?_)
  obtain ⟨rfl, rfl, hC2, hf2⟩ := hq
  have hM2 := hM.c hf2
  refine lw_ref F (j := 1) (a := 234) dL_law_535 rfl rfl ?_
  refine lw_ldc F (i := i) (co := 1) (j0 := 3) (j3 := 0) rfl rfl dL_law_536 dL_law_537 dL_law_538 dL_law_539 dL_law_540 rfl (by omega) hLn ?_
  refine lw_ldc F (i := i) (co := 2) (j0 := 3) (j3 := 0) rfl rfl dL_law_541 dL_law_542 dL_law_543 dL_law_544 dL_law_545 rfl (by omega) hLn ?_
  refine lw_cv F [.int (xs (i + 1)), .int (xs (i + 2))] dL_law_546 ml_L_65 im_X8_wind se_X8_wind (c_X8_wind A hM2 ok.1 (xs (i + 1)) (xs (i + 2))) sh_234 (by decide) rfl rfl rfl rfl (Nat.le_of_ble_eq_true rfl) (Nat.le_of_ble_eq_true rfl) (Nat.le_of_ble_eq_true rfl) ⟨hk, hn⟩ (fun v sh2 μ3 hq => ?_)
  obtain ⟨rfl, rfl, hM3, hf3⟩ := hq
  refine lw_eq F (tgt := 1374) dL_law_549 (by decide) ?_
  exact kk μ3 _ (hC2.m hf3) hM3 (okB_oWind ok (xs (i + 1)) (xs (i + 2)))
set_option maxRecDepth 100000 in
set_option maxHeartbeats 4000000 in
theorem lw_office {G : am_G} {p : Program} {e : Env} {s : State} {m : MethodId} {below : List Frame} {meth : Method} {c : Code} {b Ln : Nat} {xs : Nat → Int32} {μ : am_M} {k n : Nat} (F : lw_C G p s m meth c b Ln xs) (hLn : Ln ≤ 384) (hk : k ≤ 600000) (hn : n ≤ 7302250) (A : pA) (hC : InvC μ A) (hM : InvM μ A) (ok : okB A) (i : Nat) (hi : i + 6 ≤ Ln) (kk : ∀ (μ9 : am_M) (A9 : pA), InvC μ9 A9 → InvM μ9 A9 → okB A9 → lw_V G p e s m below meth c b (lw_L G b i) 1374 [] am_SH μ9 k n) : lw_V G p e s m below meth c b (lw_L G b i) 554 [] am_SH μ k n := by
  refine lw_ref F (j := 2) (a := 0) dL_law_554 rfl rfl ?_
  refine lw_ldc F (i := i) (co := 1) (j0 := 3) (j3 := 0) rfl rfl dL_law_555 dL_law_556 dL_law_557 dL_law_558 dL_law_559 rfl (by omega) hLn ?_
  refine lw_ldc F (i := i) (co := 2) (j0 := 3) (j3 := 0) rfl rfl dL_law_560 dL_law_561 dL_law_562 dL_law_563 dL_law_564 rfl (by omega) hLn ?_
  refine lw_cv F [.int (xs (i + 1)), .int (xs (i + 2))] dL_law_565 ml_L_66 im_X7_office se_X7_office (c_X7_office A hC ok.1 (xs (i + 1)) (xs (i + 2))) sh_0 (by decide) rfl rfl rfl rfl (Nat.le_of_ble_eq_true rfl) (Nat.le_of_ble_eq_true rfl) (Nat.le_of_ble_eq_true rfl) ⟨hk, hn⟩ (fun v sh2 μ2 hq => ?_)
  obtain ⟨rfl, rfl, hC2, hf2⟩ := hq
  have hM2 := hM.c hf2
  refine lw_ref F (j := 1) (a := 234) dL_law_568 rfl rfl ?_
  refine lw_ldc F (i := i) (co := 1) (j0 := 3) (j3 := 0) rfl rfl dL_law_569 dL_law_570 dL_law_571 dL_law_572 dL_law_573 rfl (by omega) hLn ?_
  refine lw_ldc F (i := i) (co := 2) (j0 := 3) (j3 := 0) rfl rfl dL_law_574 dL_law_575 dL_law_576 dL_law_577 dL_law_578 rfl (by omega) hLn ?_
  refine lw_cv F [.int (xs (i + 1)), .int (xs (i + 2))] dL_law_579 ml_L_69 im_X8_office se_X8_office (c_X8_office A hM2 ok.1 (xs (i + 1)) (xs (i + 2))) sh_234 (by decide) rfl rfl rfl rfl (Nat.le_of_ble_eq_true rfl) (Nat.le_of_ble_eq_true rfl) (Nat.le_of_ble_eq_true rfl) ⟨hk, hn⟩ (fun v sh2 μ3 hq => ?_)
  obtain ⟨rfl, rfl, hM3, hf3⟩ := hq
  refine lw_eq F (tgt := 1374) dL_law_582 (by decide) ?_
  exact kk μ3 _ (hC2.m hf3) hM3 (okB_oOffice ok (xs (i + 1)) (xs (i + 2)))
set_option maxRecDepth 100000 in
set_option maxHeartbeats 4000000 in
theorem lw_land {G : am_G} {p : Program} {e : Env} {s : State} {m : MethodId} {below : List Frame} {meth : Method} {c : Code} {b Ln : Nat} {xs : Nat → Int32} {μ : am_M} {k n : Nat} (F : lw_C G p s m meth c b Ln xs) (hLn : Ln ≤ 384) (hk : k ≤ 600000) (hn : n ≤ 7302250) (A : pA) (hC : InvC μ A) (hM : InvM μ A) (ok : okB A) (i : Nat) (hi : i + 6 ≤ Ln) (kk : ∀ (μ9 : am_M) (A9 : pA), InvC μ9 A9 → InvM μ9 A9 → okB A9 → lw_V G p e s m below meth c b (lw_L G b i) 1374 [] am_SH μ9 k n) : lw_V G p e s m below meth c b (lw_L G b i) 587 [] am_SH μ k n := by
  refine lw_ref F (j := 2) (a := 0) dL_law_587 rfl rfl ?_
  refine lw_ldc F (i := i) (co := 1) (j0 := 3) (j3 := 0) rfl rfl dL_law_588 dL_law_589 dL_law_590 dL_law_591 dL_law_592 rfl (by omega) hLn ?_
  refine lw_cv F [.int (xs (i + 1))] dL_law_593 ml_L_70 im_X7_land se_X7_land (c_X7_land A hC ok.1 (xs (i + 1))) sh_0 (by decide) rfl rfl rfl rfl (Nat.le_of_ble_eq_true rfl) (Nat.le_of_ble_eq_true rfl) (Nat.le_of_ble_eq_true rfl) ⟨hk, hn⟩ (fun v sh2 μ2 hq => ?_)
  obtain ⟨rfl, rfl, hC2, hf2⟩ := hq
  have hM2 := hM.c hf2
  refine lw_ref F (j := 1) (a := 234) dL_law_596 rfl rfl ?_
  refine lw_ldc F (i := i) (co := 1) (j0 := 3) (j3 := 0) rfl rfl dL_law_597 dL_law_598 dL_law_599 dL_law_600 dL_law_601 rfl (by omega) hLn ?_
  refine lw_cv F [.int (xs (i + 1))] dL_law_602 ml_L_73 im_X8_land se_X8_land (c_X8_land A hM2 ok.1 (xs (i + 1))) sh_234 (by decide) rfl rfl rfl rfl (Nat.le_of_ble_eq_true rfl) (Nat.le_of_ble_eq_true rfl) (Nat.le_of_ble_eq_true rfl) ⟨hk, hn⟩ (fun v sh2 μ3 hq => ?_)
  obtain ⟨rfl, rfl, hM3, hf3⟩ := hq
  refine lw_eq F (tgt := 1374) dL_law_605 (by decide) ?_
  exact kk μ3 _ (hC2.m hf3) hM3 (okB_oLand ok (xs (i + 1)))
set_option maxRecDepth 100000 in
set_option maxHeartbeats 4000000 in
theorem lw_ahead {G : am_G} {p : Program} {e : Env} {s : State} {m : MethodId} {below : List Frame} {meth : Method} {c : Code} {b Ln : Nat} {xs : Nat → Int32} {μ : am_M} {k n : Nat} (F : lw_C G p s m meth c b Ln xs) (hLn : Ln ≤ 384) (hk : k ≤ 600000) (hn : n ≤ 7302250) (A : pA) (hC : InvC μ A) (hM : InvM μ A) (ok : okB A) (i : Nat) (hi : i + 6 ≤ Ln) (kk : ∀ (μ9 : am_M) (A9 : pA), InvC μ9 A9 → InvM μ9 A9 → okB A9 → lw_V G p e s m below meth c b (lw_L G b i) 1374 [] am_SH μ9 k n) : lw_V G p e s m below meth c b (lw_L G b i) 610 [] am_SH μ k n := by
  refine lw_ref F (j := 2) (a := 0) dL_law_610 rfl rfl ?_
  refine lw_ldc F (i := i) (co := 1) (j0 := 3) (j3 := 0) rfl rfl dL_law_611 dL_law_612 dL_law_613 dL_law_614 dL_law_615 rfl (by omega) hLn ?_
  refine lw_ldc F (i := i) (co := 2) (j0 := 3) (j3 := 0) rfl rfl dL_law_616 dL_law_617 dL_law_618 dL_law_619 dL_law_620 rfl (by omega) hLn ?_
  refine lw_ldc F (i := i) (co := 3) (j0 := 3) (j3 := 0) rfl rfl dL_law_621 dL_law_622 dL_law_623 dL_law_624 dL_law_625 rfl (by omega) hLn ?_
  refine lw_cv F [.int (xs (i + 1)), .int (xs (i + 2)), .int (xs (i + 3))] dL_law_626 ml_L_74 im_X7_ahead se_X7_ahead (c_X7_ahead A hC ok.1 (xs (i + 1)) (xs (i + 2)) (xs (i + 3))) sh_0 (by decide) rfl rfl rfl rfl (Nat.le_of_ble_eq_true rfl) (Nat.le_of_ble_eq_true rfl) (Nat.le_of_ble_eq_true rfl) ⟨hk, hn⟩ (fun v sh2 μ2 hq => ?_)
  obtain ⟨rfl, rfl, hC2, hf2⟩ := hq
  have hM2 := hM.c hf2
  refine lw_ref F (j := 1) (a := 234) dL_law_629 rfl rfl ?_
  refine lw_ldc F (i := i) (co := 1) (j0 := 3) (j3 := 0) rfl rfl dL_law_630 dL_law_631 dL_law_632 dL_law_633 dL_law_634 rfl (by omega) hLn ?_
  refine lw_ldc F (i := i) (co := 2) (j0 := 3) (j3 := 0) rfl rfl dL_law_635 dL_law_636 dL_law_637 dL_law_638 dL_law_639 rfl (by omega) hLn ?_
  refine lw_ldc F (i := i) (co := 3) (j0 := 3) (j3 := 0) rfl rfl dL_law_640 dL_law_641 dL_law_642 dL_law_643 dL_law_644 rfl (by omega) hLn ?_
  refine lw_cv F [.int (xs (i + 1)), .int (xs (i + 2)), .int (xs (i + 3))] dL_law_645 ml_L_77 im_X8_ahead se_X8_ahead (c_X8_ahead A hM2 ok.1 (xs (i + 1)) (xs (i + 2)) (xs (i + 3))) sh_234 (by decide) rfl rfl rfl rfl (Nat.le_of_ble_eq_true rfl) (Nat.le_of_ble_eq_true rfl) (Nat.le_of_ble_eq_true rfl) ⟨hk, hn⟩ (fun v sh2 μ3 hq => ?_)
  obtain ⟨rfl, rfl, hM3, hf3⟩ := hq
  refine lw_eq F (tgt := 1374) dL_law_648 (by decide) ?_
  exact kk μ3 _ (hC2.m hf3) hM3 (okB_oAhead ok (xs (i + 1)) (xs (i + 2)) (xs (i + 3)))
set_option maxRecDepth 100000 in
set_option maxHeartbeats 4000000 in
theorem lw_down {G : am_G} {p : Program} {e : Env} {s : State} {m : MethodId} {below : List Frame} {meth : Method} {c : Code} {b Ln : Nat} {xs : Nat → Int32} {μ : am_M} {k n : Nat} (F : lw_C G p s m meth c b Ln xs) (hLn : Ln ≤ 384) (hk : k ≤ 600000) (hn : n ≤ 7302250) (A : pA) (hC : InvC μ A) (hM : InvM μ A) (ok : okB A) (i : Nat) (hi : i + 6 ≤ Ln) (kk : ∀ (μ9 : am_M) (A9 : pA), InvC μ9 A9 → InvM μ9 A9 → okB A9 → lw_V G p e s m below meth c b (lw_L G b i) 1374 [] am_SH μ9 k n) : lw_V G p e s m below meth c b (lw_L G b i) 653 [] am_SH μ k n := by
  refine lw_ref F (j := 2) (a := 0) dL_law_653 rfl rfl ?_
  refine lw_ldc F (i := i) (co := 1) (j0 := 3) (j3 := 0) rfl rfl dL_law_654 dL_law_655 dL_law_656 dL_law_657 dL_law_658 rfl (by omega) hLn ?_
  refine lw_cv F [.int (xs (i + 1))] dL_law_659 ml_L_78 im_X7_down se_X7_down (c_X7_down A hC ok.1 (xs (i + 1))) sh_0 (by decide) rfl rfl rfl rfl (Nat.le_of_ble_eq_true rfl) (Nat.le_of_ble_eq_true rfl) (Nat.le_of_ble_eq_true rfl) ⟨hk, hn⟩ (fun v sh2 μ2 hq => ?_)
  obtain ⟨rfl, rfl, hC2, hf2⟩ := hq
  have hM2 := hM.c hf2
  refine lw_ref F (j := 1) (a := 234) dL_law_662 rfl rfl ?_
  refine lw_ldc F (i := i) (co := 1) (j0 := 3) (j3 := 0) rfl rfl dL_law_663 dL_law_664 dL_law_665 dL_law_666 dL_law_667 rfl (by omega) hLn ?_
  refine lw_cv F [.int (xs (i + 1))] dL_law_668 ml_L_81 im_X8_down se_X8_down (c_X8_down A hM2 ok.1 (xs (i + 1))) sh_234 (by decide) rfl rfl rfl rfl (Nat.le_of_ble_eq_true rfl) (Nat.le_of_ble_eq_true rfl) (Nat.le_of_ble_eq_true rfl) ⟨hk, hn⟩ (fun v sh2 μ3 hq => ?_)
  obtain ⟨rfl, rfl, hM3, hf3⟩ := hq
  refine lw_eq F (tgt := 1374) dL_law_671 (by decide) ?_
  exact kk μ3 _ (hC2.m hf3) hM3 (okB_oDown ok (xs (i + 1)))
set_option maxRecDepth 100000 in
set_option maxHeartbeats 4000000 in
theorem lw_meet {G : am_G} {p : Program} {e : Env} {s : State} {m : MethodId} {below : List Frame} {meth : Method} {c : Code} {b Ln : Nat} {xs : Nat → Int32} {μ : am_M} {k n : Nat} (F : lw_C G p s m meth c b Ln xs) (hLn : Ln ≤ 384) (hk : k ≤ 600000) (hn : n ≤ 7302250) (A : pA) (hC : InvC μ A) (hM : InvM μ A) (ok : okB A) (i : Nat) (hi : i + 6 ≤ Ln) (kk : ∀ (μ9 : am_M) (A9 : pA), InvC μ9 A9 → InvM μ9 A9 → okB A9 → lw_V G p e s m below meth c b (lw_L G b i) 1374 [] am_SH μ9 k n) : lw_V G p e s m below meth c b (lw_L G b i) 676 [] am_SH μ k n := by
  refine lw_ref F (j := 2) (a := 0) dL_law_676 rfl rfl ?_
  refine lw_ldc F (i := i) (co := 1) (j0 := 3) (j3 := 0) rfl rfl dL_law_677 dL_law_678 dL_law_679 dL_law_680 dL_law_681 rfl (by omega) hLn ?_
  refine lw_ldc F (i := i) (co := 2) (j0 := 3) (j3 := 0) rfl rfl dL_law_682 dL_law_683 dL_law_684 dL_law_685 dL_law_686 rfl (by omega) hLn ?_
  refine lw_cv F [.int (xs (i + 1)), .int (xs (i + 2))] dL_law_687 ml_L_82 im_X7_meet se_X7_meet (c_X7_meet A hC ok.1 (xs (i + 1)) (xs (i + 2))) sh_0 (by decide) rfl rfl rfl rfl (Nat.le_of_ble_eq_true rfl) (Nat.le_of_ble_eq_true rfl) (Nat.le_of_ble_eq_true rfl) ⟨hk, hn⟩ (fun v sh2 μ2 hq => ?_)
  obtain ⟨rfl, rfl, hC2, hf2⟩ := hq
  have hM2 := hM.c hf2
  refine lw_ref F (j := 1) (a := 234) dL_law_690 rfl rfl ?_
  refine lw_ldc F (i := i) (co := 1) (j0 := 3) (j3 := 0) rfl rfl dL_law_691 dL_law_692 dL_law_693 dL_law_694 dL_law_695 rfl (by omega) hLn ?_
  refine lw_ldc F (i := i) (co := 2) (j0 := 3) (j3 := 0) rfl rfl dL_law_696 dL_law_697 dL_law_698 dL_law_699 dL_law_700 rfl (by omega) hLn ?_
  refine lw_cv F [.int (xs (i + 1)), .int (xs (i + 2))] dL_law_701 ml_L_85 im_X8_meet se_X8_meet (c_X8_meet A hM2 ok.1 (xs (i + 1)) (xs (i + 2))) sh_234 (by decide) rfl rfl rfl rfl (Nat.le_of_ble_eq_true rfl) (Nat.le_of_ble_eq_true rfl) (Nat.le_of_ble_eq_true rfl) ⟨hk, hn⟩ (fun v sh2 μ3 hq => ?_)
  obtain ⟨rfl, rfl, hM3, hf3⟩ := hq
  refine lw_eq F (tgt := 1374) dL_law_704 (by decide) ?_
  exact kk μ3 _ (hC2.m hf3) hM3 (okB_oMeet ok (xs (i + 1)) (xs (i + 2)))
set_option maxRecDepth 100000 in
set_option maxHeartbeats 4000000 in
theorem lw_over {G : am_G} {p : Program} {e : Env} {s : State} {m : MethodId} {below : List Frame} {meth : Method} {c : Code} {b Ln : Nat} {xs : Nat → Int32} {μ : am_M} {k n : Nat} (F : lw_C G p s m meth c b Ln xs) (hLn : Ln ≤ 384) (hk : k ≤ 600000) (hn : n ≤ 7302250) (A : pA) (hC : InvC μ A) (hM : InvM μ A) (ok : okB A) (i : Nat) (hi : i + 6 ≤ Ln) (kk : ∀ (μ9 : am_M) (A9 : pA), InvC μ9 A9 → InvM μ9 A9 → okB A9 → lw_V G p e s m below meth c b (lw_L G b i) 1374 [] am_SH μ9 k n) : lw_V G p e s m below meth c b (lw_L G b i) 709 [] am_SH μ k n := by
  refine lw_ref F (j := 2) (a := 0) dL_law_709 rfl rfl ?_
  refine lw_ldc F (i := i) (co := 1) (j0 := 3) (j3 := 0) rfl rfl dL_law_710 dL_law_711 dL_law_712 dL_law_713 dL_law_714 rfl (by omega) hLn ?_
  refine lw_ldc F (i := i) (co := 2) (j0 := 3) (j3 := 0) rfl rfl dL_law_715 dL_law_716 dL_law_717 dL_law_718 dL_law_719 rfl (by omega) hLn ?_
  refine lw_cv F [.int (xs (i + 1)), .int (xs (i + 2))] dL_law_720 ml_L_86 im_X7_over se_X7_over (c_X7_over A hC ok.1 (xs (i + 1)) (xs (i + 2))) sh_0 (by decide) rfl rfl rfl rfl (Nat.le_of_ble_eq_true rfl) (Nat.le_of_ble_eq_true rfl) (Nat.le_of_ble_eq_true rfl) ⟨hk, hn⟩ (fun v sh2 μ2 hq => ?_)
  obtain ⟨rfl, rfl, hC2, hf2⟩ := hq
  have hM2 := hM.c hf2
  refine lw_ref F (j := 1) (a := 234) dL_law_723 rfl rfl ?_
  refine lw_ldc F (i := i) (co := 1) (j0 := 3) (j3 := 0) rfl rfl dL_law_724 dL_law_725 dL_law_726 dL_law_727 dL_law_728 rfl (by omega) hLn ?_
  refine lw_ldc F (i := i) (co := 2) (j0 := 3) (j3 := 0) rfl rfl dL_law_729 dL_law_730 dL_law_731 dL_law_732 dL_law_733 rfl (by omega) hLn ?_
  refine lw_cv F [.int (xs (i + 1)), .int (xs (i + 2))] dL_law_734 ml_L_89 im_X8_over se_X8_over (c_X8_over A hM2 ok.1 (xs (i + 1)) (xs (i + 2))) sh_234 (by decide) rfl rfl rfl rfl (Nat.le_of_ble_eq_true rfl) (Nat.le_of_ble_eq_true rfl) (Nat.le_of_ble_eq_true rfl) ⟨hk, hn⟩ (fun v sh2 μ3 hq => ?_)
  obtain ⟨rfl, rfl, hM3, hf3⟩ := hq
  refine lw_eq F (tgt := 1374) dL_law_737 (by decide) ?_
  exact kk μ3 _ (hC2.m hf3) hM3 (okB_oOver ok (xs (i + 1)) (xs (i + 2)))
set_option maxRecDepth 100000 in
set_option maxHeartbeats 4000000 in
theorem lw_above {G : am_G} {p : Program} {e : Env} {s : State} {m : MethodId} {below : List Frame} {meth : Method} {c : Code} {b Ln : Nat} {xs : Nat → Int32} {μ : am_M} {k n : Nat} (F : lw_C G p s m meth c b Ln xs) (hLn : Ln ≤ 384) (hk : k ≤ 600000) (hn : n ≤ 7302250) (A : pA) (hC : InvC μ A) (hM : InvM μ A) (ok : okB A) (i : Nat) (hi : i + 6 ≤ Ln) (kk : ∀ (μ9 : am_M) (A9 : pA), InvC μ9 A9 → InvM μ9 A9 → okB A9 → lw_V G p e s m below meth c b (lw_L G b i) 1374 [] am_SH μ9 k n) : lw_V G p e s m below meth c b (lw_L G b i) 742 [] am_SH μ k n := by
  refine lw_ref F (j := 2) (a := 0) dL_law_742 rfl rfl ?_
  refine lw_ldc F (i := i) (co := 1) (j0 := 3) (j3 := 0) rfl rfl dL_law_743 dL_law_744 dL_law_745 dL_law_746 dL_law_747 rfl (by omega) hLn ?_
  refine lw_ldc F (i := i) (co := 2) (j0 := 3) (j3 := 0) rfl rfl dL_law_748 dL_law_749 dL_law_750 dL_law_751 dL_law_752 rfl (by omega) hLn ?_
  refine lw_ldc F (i := i) (co := 3) (j0 := 3) (j3 := 0) rfl rfl dL_law_753 dL_law_754 dL_law_755 dL_law_756 dL_law_757 rfl (by omega) hLn ?_
  refine lw_ldc F (i := i) (co := 4) (j0 := 3) (j3 := 0) rfl rfl dL_law_758 dL_law_759 dL_law_760 dL_law_761 dL_law_762 rfl (by omega) hLn ?_
  refine lw_ldc F (i := i) (co := 5) (j0 := 3) (j3 := 0) rfl rfl dL_law_763 dL_law_764 dL_law_765 dL_law_766 dL_law_767 rfl (by omega) hLn ?_
  refine lw_cv F [.int (xs (i + 1)), .int (xs (i + 2)), .int (xs (i + 3)), .int (xs (i + 4)), .int (xs (i + 5))] dL_law_768 ml_L_90 im_X7_above se_X7_above (c_X7_above A hC ok.1 (xs (i + 1)) (xs (i + 2)) (xs (i + 3)) (xs (i + 4)) (xs (i + 5))) sh_0 (by decide) rfl rfl rfl rfl (Nat.le_of_ble_eq_true rfl) (Nat.le_of_ble_eq_true rfl) (Nat.le_of_ble_eq_true rfl) ⟨hk, hn⟩ (fun v sh2 μ2 hq => ?_)
  obtain ⟨rfl, rfl, hC2, hf2⟩ := hq
  have hM2 := hM.c hf2
  refine lw_ref F (j := 1) (a := 234) dL_law_771 rfl rfl ?_
  refine lw_ldc F (i := i) (co := 1) (j0 := 3) (j3 := 0) rfl rfl dL_law_772 dL_law_773 dL_law_774 dL_law_775 dL_law_776 rfl (by omega) hLn ?_
  refine lw_ldc F (i := i) (co := 2) (j0 := 3) (j3 := 0) rfl rfl dL_law_777 dL_law_778 dL_law_779 dL_law_780 dL_law_781 rfl (by omega) hLn ?_
  refine lw_ldc F (i := i) (co := 3) (j0 := 3) (j3 := 0) rfl rfl dL_law_782 dL_law_783 dL_law_784 dL_law_785 dL_law_786 rfl (by omega) hLn ?_
  refine lw_ldc F (i := i) (co := 4) (j0 := 3) (j3 := 0) rfl rfl dL_law_787 dL_law_788 dL_law_789 dL_law_790 dL_law_791 rfl (by omega) hLn ?_
  refine lw_ldc F (i := i) (co := 5) (j0 := 3) (j3 := 0) rfl rfl dL_law_792 dL_law_793 dL_law_794 dL_law_795 dL_law_796 rfl (by omega) hLn ?_
  refine lw_cv F [.int (xs (i + 1)), .int (xs (i + 2)), .int (xs (i + 3)), .int (xs (i + 4)), .int (xs (i + 5))] dL_law_797 ml_L_93 im_X8_above se_X8_above (c_X8_above A hM2 ok.1 (xs (i + 1)) (xs (i + 2)) (xs (i + 3)) (xs (i + 4)) (xs (i + 5))) sh_234 (by decide) rfl rfl rfl rfl (Nat.le_of_ble_eq_true rfl) (Nat.le_of_ble_eq_true rfl) (Nat.le_of_ble_eq_true rfl) ⟨hk, hn⟩ (fun v sh2 μ3 hq => ?_)
  obtain ⟨rfl, rfl, hM3, hf3⟩ := hq
  refine lw_eq F (tgt := 1374) dL_law_800 (by decide) ?_
  exact kk μ3 _ (hC2.m hf3) hM3 (okB_oAbove ok (xs (i + 1)) (xs (i + 2)) (xs (i + 3)) (xs (i + 4)) (xs (i + 5)))
set_option maxRecDepth 100000 in
set_option maxHeartbeats 4000000 in
theorem lw_petition {G : am_G} {p : Program} {e : Env} {s : State} {m : MethodId} {below : List Frame} {meth : Method} {c : Code} {b Ln : Nat} {xs : Nat → Int32} {μ : am_M} {k n : Nat} (F : lw_C G p s m meth c b Ln xs) (hLn : Ln ≤ 384) (hk : k ≤ 600000) (hn : n ≤ 7302250) (A : pA) (hC : InvC μ A) (hM : InvM μ A) (ok : okB A) (i : Nat) (hi : i + 6 ≤ Ln) (kk : ∀ (μ9 : am_M) (A9 : pA), InvC μ9 A9 → InvM μ9 A9 → okB A9 → lw_V G p e s m below meth c b (lw_L G b i) 1374 [] am_SH μ9 k n) : lw_V G p e s m below meth c b (lw_L G b i) 805 [] am_SH μ k n := by
  refine lw_ref F (j := 2) (a := 0) dL_law_805 rfl rfl ?_
  refine lw_ldc F (i := i) (co := 1) (j0 := 3) (j3 := 0) rfl rfl dL_law_806 dL_law_807 dL_law_808 dL_law_809 dL_law_810 rfl (by omega) hLn ?_
  refine lw_ldc F (i := i) (co := 2) (j0 := 3) (j3 := 0) rfl rfl dL_law_811 dL_law_812 dL_law_813 dL_law_814 dL_law_815 rfl (by omega) hLn ?_
  refine lw_ldc F (i := i) (co := 3) (j0 := 3) (j3 := 0) rfl rfl dL_law_816 dL_law_817 dL_law_818 dL_law_819 dL_law_820 rfl (by omega) hLn ?_
  refine lw_ldc F (i := i) (co := 4) (j0 := 3) (j3 := 0) rfl rfl dL_law_821 dL_law_822 dL_law_823 dL_law_824 dL_law_825 rfl (by omega) hLn ?_
  refine lw_cv F [.int (xs (i + 1)), .int (xs (i + 2)), .int (xs (i + 3)), .int (xs (i + 4))] dL_law_826 ml_L_94 im_X7_petition se_X7_petition (c_X7_petition A hC ok.1 (xs (i + 1)) (xs (i + 2)) (xs (i + 3)) (xs (i + 4))) sh_0 (by decide) rfl rfl rfl rfl (Nat.le_of_ble_eq_true rfl) (Nat.le_of_ble_eq_true rfl) (Nat.le_of_ble_eq_true rfl) ⟨hk, hn⟩ (fun v sh2 μ2 hq => ?_)
  obtain ⟨rfl, rfl, hC2, hf2⟩ := hq
  have hM2 := hM.c hf2
  refine lw_ref F (j := 1) (a := 234) dL_law_829 rfl rfl ?_
  refine lw_ldc F (i := i) (co := 1) (j0 := 3) (j3 := 0) rfl rfl dL_law_830 dL_law_831 dL_law_832 dL_law_833 dL_law_834 rfl (by omega) hLn ?_
  refine lw_ldc F (i := i) (co := 2) (j0 := 3) (j3 := 0) rfl rfl dL_law_835 dL_law_836 dL_law_837 dL_law_838 dL_law_839 rfl (by omega) hLn ?_
  refine lw_ldc F (i := i) (co := 3) (j0 := 3) (j3 := 0) rfl rfl dL_law_840 dL_law_841 dL_law_842 dL_law_843 dL_law_844 rfl (by omega) hLn ?_
  refine lw_ldc F (i := i) (co := 4) (j0 := 3) (j3 := 0) rfl rfl dL_law_845 dL_law_846 dL_law_847 dL_law_848 dL_law_849 rfl (by omega) hLn ?_
  refine lw_cv F [.int (xs (i + 1)), .int (xs (i + 2)), .int (xs (i + 3)), .int (xs (i + 4))] dL_law_850 ml_L_98 im_X8_petition se_X8_petition (c_X8_petition A hM2 ok.1 (xs (i + 1)) (xs (i + 2)) (xs (i + 3)) (xs (i + 4))) sh_234 (by decide) rfl rfl rfl rfl (Nat.le_of_ble_eq_true rfl) (Nat.le_of_ble_eq_true rfl) (Nat.le_of_ble_eq_true rfl) ⟨hk, hn⟩ (fun v sh2 μ3 hq => ?_)
  obtain ⟨rfl, rfl, hM3, hf3⟩ := hq
  refine lw_eq F (tgt := 1374) dL_law_853 (by decide) ?_
  exact kk μ3 _ (hC2.m hf3) hM3 (okB_oPet ok (xs (i + 1)) (xs (i + 2)) (xs (i + 3)) (xs (i + 4)))
set_option maxRecDepth 100000 in
set_option maxHeartbeats 4000000 in
theorem lw_ash {G : am_G} {p : Program} {e : Env} {s : State} {m : MethodId} {below : List Frame} {meth : Method} {c : Code} {b Ln : Nat} {xs : Nat → Int32} {μ : am_M} {k n : Nat} (F : lw_C G p s m meth c b Ln xs) (hLn : Ln ≤ 384) (hk : k ≤ 600000) (hn : n ≤ 7302250) (A : pA) (hC : InvC μ A) (hM : InvM μ A) (ok : okB A) (i : Nat) (hi : i + 6 ≤ Ln) (kk : ∀ (μ9 : am_M) (A9 : pA), InvC μ9 A9 → InvM μ9 A9 → okB A9 → lw_V G p e s m below meth c b (lw_L G b i) 1374 [] am_SH μ9 k n) : lw_V G p e s m below meth c b (lw_L G b i) 858 [] am_SH μ k n := by
  refine lw_ref F (j := 2) (a := 0) dL_law_858 rfl rfl ?_
  refine lw_ldc F (i := i) (co := 1) (j0 := 3) (j3 := 0) rfl rfl dL_law_859 dL_law_860 dL_law_861 dL_law_862 dL_law_863 rfl (by omega) hLn ?_
  refine lw_ldc F (i := i) (co := 2) (j0 := 3) (j3 := 0) rfl rfl dL_law_864 dL_law_865 dL_law_866 dL_law_867 dL_law_868 rfl (by omega) hLn ?_
  refine lw_ldc F (i := i) (co := 3) (j0 := 3) (j3 := 0) rfl rfl dL_law_869 dL_law_870 dL_law_871 dL_law_872 dL_law_873 rfl (by omega) hLn ?_
  refine lw_ldc F (i := i) (co := 4) (j0 := 3) (j3 := 0) rfl rfl dL_law_874 dL_law_875 dL_law_876 dL_law_877 dL_law_878 rfl (by omega) hLn ?_
  refine lw_ldc F (i := i) (co := 5) (j0 := 3) (j3 := 0) rfl rfl dL_law_879 dL_law_880 dL_law_881 dL_law_882 dL_law_883 rfl (by omega) hLn ?_
  refine lw_cv F [.int (xs (i + 1)), .int (xs (i + 2)), .int (xs (i + 3)), .int (xs (i + 4)), .int (xs (i + 5))] dL_law_884 ml_L_99 im_X7_ash se_X7_ash (c_X7_ash A hC ok.1 (xs (i + 1)) (xs (i + 2)) (xs (i + 3)) (xs (i + 4)) (xs (i + 5))) sh_0 (by decide) rfl rfl rfl rfl (Nat.le_of_ble_eq_true rfl) (Nat.le_of_ble_eq_true rfl) (Nat.le_of_ble_eq_true rfl) ⟨hk, hn⟩ (fun v sh2 μ2 hq => ?_)
  obtain ⟨rfl, rfl, hC2, hf2⟩ := hq
  have hM2 := hM.c hf2
  refine lw_ref F (j := 1) (a := 234) dL_law_887 rfl rfl ?_
  refine lw_ldc F (i := i) (co := 1) (j0 := 3) (j3 := 0) rfl rfl dL_law_888 dL_law_889 dL_law_890 dL_law_891 dL_law_892 rfl (by omega) hLn ?_
  refine lw_ldc F (i := i) (co := 2) (j0 := 3) (j3 := 0) rfl rfl dL_law_893 dL_law_894 dL_law_895 dL_law_896 dL_law_897 rfl (by omega) hLn ?_
  refine lw_ldc F (i := i) (co := 3) (j0 := 3) (j3 := 0) rfl rfl dL_law_898 dL_law_899 dL_law_900 dL_law_901 dL_law_902 rfl (by omega) hLn ?_
  refine lw_ldc F (i := i) (co := 4) (j0 := 3) (j3 := 0) rfl rfl dL_law_903 dL_law_904 dL_law_905 dL_law_906 dL_law_907 rfl (by omega) hLn ?_
  refine lw_ldc F (i := i) (co := 5) (j0 := 3) (j3 := 0) rfl rfl dL_law_908 dL_law_909 dL_law_910 dL_law_911 dL_law_912 rfl (by omega) hLn ?_
  refine lw_cv F [.int (xs (i + 1)), .int (xs (i + 2)), .int (xs (i + 3)), .int (xs (i + 4)), .int (xs (i + 5))] dL_law_913 ml_L_102 im_X8_ash se_X8_ash (c_X8_ash A hM2 ok.1 (xs (i + 1)) (xs (i + 2)) (xs (i + 3)) (xs (i + 4)) (xs (i + 5))) sh_234 (by decide) rfl rfl rfl rfl (Nat.le_of_ble_eq_true rfl) (Nat.le_of_ble_eq_true rfl) (Nat.le_of_ble_eq_true rfl) ⟨hk, hn⟩ (fun v sh2 μ3 hq => ?_)
  obtain ⟨rfl, rfl, hM3, hf3⟩ := hq
  refine lw_eq F (tgt := 1374) dL_law_916 (by decide) ?_
  exact kk μ3 _ (hC2.m hf3) hM3 (okB_oAsh ok (xs (i + 1)) (xs (i + 2)) (xs (i + 3)) (xs (i + 4)) (xs (i + 5)))
set_option maxRecDepth 100000 in
set_option maxHeartbeats 4000000 in
theorem lw_who {G : am_G} {p : Program} {e : Env} {s : State} {m : MethodId} {below : List Frame} {meth : Method} {c : Code} {b Ln : Nat} {xs : Nat → Int32} {μ : am_M} {k n : Nat} (F : lw_C G p s m meth c b Ln xs) (hLn : Ln ≤ 384) (hk : k ≤ 600000) (hn : n ≤ 7302250) (A : pA) (hC : InvC μ A) (hM : InvM μ A) (ok : okB A) (i : Nat) (hi : i + 6 ≤ Ln) (kk : ∀ (μ9 : am_M) (A9 : pA), InvC μ9 A9 → InvM μ9 A9 → okB A9 → lw_V G p e s m below meth c b (lw_L G b i) 1374 [] am_SH μ9 k n) : lw_V G p e s m below meth c b (lw_L G b i) 921 [] am_SH μ k n := by
  refine lw_ref F (j := 2) (a := 0) dL_law_921 rfl rfl ?_
  refine lw_ldc F (i := i) (co := 1) (j0 := 3) (j3 := 0) rfl rfl dL_law_922 dL_law_923 dL_law_924 dL_law_925 dL_law_926 rfl (by omega) hLn ?_
  refine lw_ldc F (i := i) (co := 2) (j0 := 3) (j3 := 0) rfl rfl dL_law_927 dL_law_928 dL_law_929 dL_law_930 dL_law_931 rfl (by omega) hLn ?_
  refine lw_ldc F (i := i) (co := 3) (j0 := 3) (j3 := 0) rfl rfl dL_law_932 dL_law_933 dL_law_934 dL_law_935 dL_law_936 rfl (by omega) hLn ?_
  refine lw_ldc F (i := i) (co := 4) (j0 := 3) (j3 := 0) rfl rfl dL_law_937 dL_law_938 dL_law_939 dL_law_940 dL_law_941 rfl (by omega) hLn ?_
  refine lw_ldc F (i := i) (co := 5) (j0 := 3) (j3 := 0) rfl rfl dL_law_942 dL_law_943 dL_law_944 dL_law_945 dL_law_946 rfl (by omega) hLn ?_
  refine lw_cv F [.int (xs (i + 1)), .int (xs (i + 2)), .int (xs (i + 3)), .int (xs (i + 4)), .int (xs (i + 5))] dL_law_947 ml_L_103 im_X7_who se_X7_who (c_X7_who A hC ok.1 (xs (i + 1)) (xs (i + 2)) (xs (i + 3)) (xs (i + 4)) (xs (i + 5))) sh_0 (by decide) rfl rfl rfl rfl (Nat.le_of_ble_eq_true rfl) (Nat.le_of_ble_eq_true rfl) (Nat.le_of_ble_eq_true rfl) ⟨hk, hn⟩ (fun v sh2 μ2 hq => ?_)
  obtain ⟨rfl, rfl, hC2, hf2⟩ := hq
  have hM2 := hM.c hf2
  refine lw_ref F (j := 1) (a := 234) dL_law_950 rfl rfl ?_
  refine lw_ldc F (i := i) (co := 1) (j0 := 3) (j3 := 0) rfl rfl dL_law_951 dL_law_952 dL_law_953 dL_law_954 dL_law_955 rfl (by omega) hLn ?_
  refine lw_ldc F (i := i) (co := 2) (j0 := 3) (j3 := 0) rfl rfl dL_law_956 dL_law_957 dL_law_958 dL_law_959 dL_law_960 rfl (by omega) hLn ?_
  refine lw_ldc F (i := i) (co := 3) (j0 := 3) (j3 := 0) rfl rfl dL_law_961 dL_law_962 dL_law_963 dL_law_964 dL_law_965 rfl (by omega) hLn ?_
  refine lw_ldc F (i := i) (co := 4) (j0 := 3) (j3 := 0) rfl rfl dL_law_966 dL_law_967 dL_law_968 dL_law_969 dL_law_970 rfl (by omega) hLn ?_
  refine lw_ldc F (i := i) (co := 5) (j0 := 3) (j3 := 0) rfl rfl dL_law_971 dL_law_972 dL_law_973 dL_law_974 dL_law_975 rfl (by omega) hLn ?_
  refine lw_cv F [.int (xs (i + 1)), .int (xs (i + 2)), .int (xs (i + 3)), .int (xs (i + 4)), .int (xs (i + 5))] dL_law_976 ml_L_106 im_X8_who se_X8_who (c_X8_who A hM2 ok.1 (xs (i + 1)) (xs (i + 2)) (xs (i + 3)) (xs (i + 4)) (xs (i + 5))) sh_234 (by decide) rfl rfl rfl rfl (Nat.le_of_ble_eq_true rfl) (Nat.le_of_ble_eq_true rfl) (Nat.le_of_ble_eq_true rfl) ⟨hk, hn⟩ (fun v sh2 μ3 hq => ?_)
  obtain ⟨rfl, rfl, hM3, hf3⟩ := hq
  refine lw_eq F (tgt := 1374) dL_law_979 (by decide) ?_
  exact kk μ3 _ (hC2.m hf3) hM3 (okB_oWho ok (xs (i + 1)) (xs (i + 2)) (xs (i + 3)) (xs (i + 4)) (xs (i + 5)))
set_option maxRecDepth 100000 in
set_option maxHeartbeats 4000000 in
theorem lw_rule {G : am_G} {p : Program} {e : Env} {s : State} {m : MethodId} {below : List Frame} {meth : Method} {c : Code} {b Ln : Nat} {xs : Nat → Int32} {μ : am_M} {k n : Nat} (F : lw_C G p s m meth c b Ln xs) (hLn : Ln ≤ 384) (hk : k ≤ 600000) (hn : n ≤ 7302250) (A : pA) (hC : InvC μ A) (hM : InvM μ A) (ok : okB A) (i : Nat) (hi : i + 6 ≤ Ln) (kk : ∀ (μ9 : am_M) (A9 : pA), InvC μ9 A9 → InvM μ9 A9 → okB A9 → lw_V G p e s m below meth c b (lw_L G b i) 1374 [] am_SH μ9 k n) : lw_V G p e s m below meth c b (lw_L G b i) 984 [] am_SH μ k n := by
  refine lw_ref F (j := 2) (a := 0) dL_law_984 rfl rfl ?_
  refine lw_ldc F (i := i) (co := 1) (j0 := 3) (j3 := 0) rfl rfl dL_law_985 dL_law_986 dL_law_987 dL_law_988 dL_law_989 rfl (by omega) hLn ?_
  refine lw_ldc F (i := i) (co := 2) (j0 := 3) (j3 := 0) rfl rfl dL_law_990 dL_law_991 dL_law_992 dL_law_993 dL_law_994 rfl (by omega) hLn ?_
  refine lw_cv F [.int (xs (i + 1)), .int (xs (i + 2))] dL_law_995 ml_L_107 im_X7_rule se_X7_rule (c_X7_rule A hC ok.1 (xs (i + 1)) (xs (i + 2))) sh_0 (by decide) rfl rfl rfl rfl (Nat.le_of_ble_eq_true rfl) (Nat.le_of_ble_eq_true rfl) (Nat.le_of_ble_eq_true rfl) ⟨hk, hn⟩ (fun v sh2 μ2 hq => ?_)
  obtain ⟨rfl, rfl, hC2, hf2⟩ := hq
  have hM2 := hM.c hf2
  refine lw_ref F (j := 1) (a := 234) dL_law_998 rfl rfl ?_
  refine lw_ldc F (i := i) (co := 1) (j0 := 3) (j3 := 0) rfl rfl dL_law_999 dL_law_1000 dL_law_1001 dL_law_1002 dL_law_1003 rfl (by omega) hLn ?_
  refine lw_ldc F (i := i) (co := 2) (j0 := 3) (j3 := 0) rfl rfl dL_law_1004 dL_law_1005 dL_law_1006 dL_law_1007 dL_law_1008 rfl (by omega) hLn ?_
  refine lw_cv F [.int (xs (i + 1)), .int (xs (i + 2))] dL_law_1009 ml_L_110 im_X8_rule se_X8_rule (c_X8_rule A hM2 ok.1 (xs (i + 1)) (xs (i + 2))) sh_234 (by decide) rfl rfl rfl rfl (Nat.le_of_ble_eq_true rfl) (Nat.le_of_ble_eq_true rfl) (Nat.le_of_ble_eq_true rfl) ⟨hk, hn⟩ (fun v sh2 μ3 hq => ?_)
  obtain ⟨rfl, rfl, hM3, hf3⟩ := hq
  refine lw_eq F (tgt := 1374) dL_law_1012 (by decide) ?_
  exact kk μ3 _ (hC2.m hf3) hM3 (okB_oRule ok (xs (i + 1)) (xs (i + 2)))
set_option maxRecDepth 100000 in
set_option maxHeartbeats 4000000 in
theorem lw_lasts {G : am_G} {p : Program} {e : Env} {s : State} {m : MethodId} {below : List Frame} {meth : Method} {c : Code} {b Ln : Nat} {xs : Nat → Int32} {μ : am_M} {k n : Nat} (F : lw_C G p s m meth c b Ln xs) (hLn : Ln ≤ 384) (hk : k ≤ 600000) (hn : n ≤ 7302250) (A : pA) (hC : InvC μ A) (hM : InvM μ A) (ok : okB A) (i : Nat) (hi : i + 6 ≤ Ln) (kk : ∀ (μ9 : am_M) (A9 : pA), InvC μ9 A9 → InvM μ9 A9 → okB A9 → lw_V G p e s m below meth c b (lw_L G b i) 1374 [] am_SH μ9 k n) : lw_V G p e s m below meth c b (lw_L G b i) 1017 [] am_SH μ k n := by
  refine lw_ref F (j := 2) (a := 0) dL_law_1017 rfl rfl ?_
  refine lw_ldc F (i := i) (co := 1) (j0 := 3) (j3 := 0) rfl rfl dL_law_1018 dL_law_1019 dL_law_1020 dL_law_1021 dL_law_1022 rfl (by omega) hLn ?_
  refine lw_cv F [.int (xs (i + 1))] dL_law_1023 ml_L_111 im_X7_lasts se_X7_lasts (c_X7_lasts A hC ok.1 (xs (i + 1))) sh_0 (by decide) rfl rfl rfl rfl (Nat.le_of_ble_eq_true rfl) (Nat.le_of_ble_eq_true rfl) (Nat.le_of_ble_eq_true rfl) ⟨hk, hn⟩ (fun v sh2 μ2 hq => ?_)
  obtain ⟨rfl, rfl, hC2, hf2⟩ := hq
  have hM2 := hM.c hf2
  refine lw_ref F (j := 1) (a := 234) dL_law_1026 rfl rfl ?_
  refine lw_ldc F (i := i) (co := 1) (j0 := 3) (j3 := 0) rfl rfl dL_law_1027 dL_law_1028 dL_law_1029 dL_law_1030 dL_law_1031 rfl (by omega) hLn ?_
  refine lw_cv F [.int (xs (i + 1))] dL_law_1032 ml_L_114 im_X8_lasts se_X8_lasts (c_X8_lasts A hM2 ok.1 (xs (i + 1))) sh_234 (by decide) rfl rfl rfl rfl (Nat.le_of_ble_eq_true rfl) (Nat.le_of_ble_eq_true rfl) (Nat.le_of_ble_eq_true rfl) ⟨hk, hn⟩ (fun v sh2 μ3 hq => ?_)
  obtain ⟨rfl, rfl, hM3, hf3⟩ := hq
  refine lw_eq F (tgt := 1374) dL_law_1035 (by decide) ?_
  exact kk μ3 _ (hC2.m hf3) hM3 (okB_oLasts ok (xs (i + 1)))
set_option maxRecDepth 100000 in
set_option maxHeartbeats 4000000 in
theorem lw_kept {G : am_G} {p : Program} {e : Env} {s : State} {m : MethodId} {below : List Frame} {meth : Method} {c : Code} {b Ln : Nat} {xs : Nat → Int32} {μ : am_M} {k n : Nat} (F : lw_C G p s m meth c b Ln xs) (hLn : Ln ≤ 384) (hk : k ≤ 600000) (hn : n ≤ 7302250) (A : pA) (hC : InvC μ A) (hM : InvM μ A) (ok : okB A) (i : Nat) (hi : i + 6 ≤ Ln) (kk : ∀ (μ9 : am_M) (A9 : pA), InvC μ9 A9 → InvM μ9 A9 → okB A9 → lw_V G p e s m below meth c b (lw_L G b i) 1374 [] am_SH μ9 k n) : lw_V G p e s m below meth c b (lw_L G b i) 1040 [] am_SH μ k n := by
  refine lw_ref F (j := 2) (a := 0) dL_law_1040 rfl rfl ?_
  refine lw_ldc F (i := i) (co := 1) (j0 := 3) (j3 := 0) rfl rfl dL_law_1041 dL_law_1042 dL_law_1043 dL_law_1044 dL_law_1045 rfl (by omega) hLn ?_
  refine lw_ldc F (i := i) (co := 2) (j0 := 3) (j3 := 0) rfl rfl dL_law_1046 dL_law_1047 dL_law_1048 dL_law_1049 dL_law_1050 rfl (by omega) hLn ?_
  refine lw_cv F [.int (xs (i + 1)), .int (xs (i + 2))] dL_law_1051 ml_L_115 im_X7_kept se_X7_kept (c_X7_kept A hC ok.1 (xs (i + 1)) (xs (i + 2))) sh_0 (by decide) rfl rfl rfl rfl (Nat.le_of_ble_eq_true rfl) (Nat.le_of_ble_eq_true rfl) (Nat.le_of_ble_eq_true rfl) ⟨hk, hn⟩ (fun v sh2 μ2 hq => ?_)
  obtain ⟨rfl, rfl, hC2, hf2⟩ := hq
  have hM2 := hM.c hf2
  refine lw_ref F (j := 1) (a := 234) dL_law_1054 rfl rfl ?_
  refine lw_ldc F (i := i) (co := 1) (j0 := 3) (j3 := 0) rfl rfl dL_law_1055 dL_law_1056 dL_law_1057 dL_law_1058 dL_law_1059 rfl (by omega) hLn ?_
  refine lw_ldc F (i := i) (co := 2) (j0 := 3) (j3 := 0) rfl rfl dL_law_1060 dL_law_1061 dL_law_1062 dL_law_1063 dL_law_1064 rfl (by omega) hLn ?_
  refine lw_cv F [.int (xs (i + 1)), .int (xs (i + 2))] dL_law_1065 ml_L_118 im_X8_kept se_X8_kept (c_X8_kept A hM2 ok.1 (xs (i + 1)) (xs (i + 2))) sh_234 (by decide) rfl rfl rfl rfl (Nat.le_of_ble_eq_true rfl) (Nat.le_of_ble_eq_true rfl) (Nat.le_of_ble_eq_true rfl) ⟨hk, hn⟩ (fun v sh2 μ3 hq => ?_)
  obtain ⟨rfl, rfl, hM3, hf3⟩ := hq
  refine lw_eq F (tgt := 1374) dL_law_1068 (by decide) ?_
  exact kk μ3 _ (hC2.m hf3) hM3 (okB_oKept ok (xs (i + 1)) (xs (i + 2)))
set_option maxRecDepth 100000 in
set_option maxHeartbeats 4000000 in
theorem lw_turned {G : am_G} {p : Program} {e : Env} {s : State} {m : MethodId} {below : List Frame} {meth : Method} {c : Code} {b Ln : Nat} {xs : Nat → Int32} {μ : am_M} {k n : Nat} (F : lw_C G p s m meth c b Ln xs) (hLn : Ln ≤ 384) (hk : k ≤ 600000) (hn : n ≤ 7302250) (A : pA) (hC : InvC μ A) (hM : InvM μ A) (ok : okB A) (i : Nat) (hi : i + 6 ≤ Ln) (kk : ∀ (μ9 : am_M) (A9 : pA), InvC μ9 A9 → InvM μ9 A9 → okB A9 → lw_V G p e s m below meth c b (lw_L G b i) 1374 [] am_SH μ9 k n) : lw_V G p e s m below meth c b (lw_L G b i) 1073 [] am_SH μ k n := by
  refine lw_ref F (j := 2) (a := 0) dL_law_1073 rfl rfl ?_
  refine lw_ldc F (i := i) (co := 1) (j0 := 3) (j3 := 0) rfl rfl dL_law_1074 dL_law_1075 dL_law_1076 dL_law_1077 dL_law_1078 rfl (by omega) hLn ?_
  refine lw_ldc F (i := i) (co := 2) (j0 := 3) (j3 := 0) rfl rfl dL_law_1079 dL_law_1080 dL_law_1081 dL_law_1082 dL_law_1083 rfl (by omega) hLn ?_
  refine lw_ldc F (i := i) (co := 3) (j0 := 3) (j3 := 0) rfl rfl dL_law_1084 dL_law_1085 dL_law_1086 dL_law_1087 dL_law_1088 rfl (by omega) hLn ?_
  refine lw_ldc F (i := i) (co := 4) (j0 := 3) (j3 := 0) rfl rfl dL_law_1089 dL_law_1090 dL_law_1091 dL_law_1092 dL_law_1093 rfl (by omega) hLn ?_
  refine lw_ldc F (i := i) (co := 5) (j0 := 3) (j3 := 0) rfl rfl dL_law_1094 dL_law_1095 dL_law_1096 dL_law_1097 dL_law_1098 rfl (by omega) hLn ?_
  refine lw_cv F [.int (xs (i + 1)), .int (xs (i + 2)), .int (xs (i + 3)), .int (xs (i + 4)), .int (xs (i + 5))] dL_law_1099 ml_L_119 im_X7_turned se_X7_turned (c_X7_turned A hC ok.1 (xs (i + 1)) (xs (i + 2)) (xs (i + 3)) (xs (i + 4)) (xs (i + 5))) sh_0 (by decide) rfl rfl rfl rfl (Nat.le_of_ble_eq_true rfl) (Nat.le_of_ble_eq_true rfl) (Nat.le_of_ble_eq_true rfl) ⟨hk, hn⟩ (fun v sh2 μ2 hq => ?_)
  obtain ⟨rfl, rfl, hC2, hf2⟩ := hq
  have hM2 := hM.c hf2
  refine lw_ref F (j := 1) (a := 234) dL_law_1102 rfl rfl ?_
  refine lw_ldc F (i := i) (co := 1) (j0 := 3) (j3 := 0) rfl rfl dL_law_1103 dL_law_1104 dL_law_1105 dL_law_1106 dL_law_1107 rfl (by omega) hLn ?_
  refine lw_ldc F (i := i) (co := 2) (j0 := 3) (j3 := 0) rfl rfl dL_law_1108 dL_law_1109 dL_law_1110 dL_law_1111 dL_law_1112 rfl (by omega) hLn ?_
  refine lw_ldc F (i := i) (co := 3) (j0 := 3) (j3 := 0) rfl rfl dL_law_1113 dL_law_1114 dL_law_1115 dL_law_1116 dL_law_1117 rfl (by omega) hLn ?_
  refine lw_ldc F (i := i) (co := 4) (j0 := 3) (j3 := 0) rfl rfl dL_law_1118 dL_law_1119 dL_law_1120 dL_law_1121 dL_law_1122 rfl (by omega) hLn ?_
  refine lw_ldc F (i := i) (co := 5) (j0 := 3) (j3 := 0) rfl rfl dL_law_1123 dL_law_1124 dL_law_1125 dL_law_1126 dL_law_1127 rfl (by omega) hLn ?_
  refine lw_cv F [.int (xs (i + 1)), .int (xs (i + 2)), .int (xs (i + 3)), .int (xs (i + 4)), .int (xs (i + 5))] dL_law_1128 ml_L_123 im_X8_turned se_X8_turned (c_X8_turned A hM2 ok.1 (xs (i + 1)) (xs (i + 2)) (xs (i + 3)) (xs (i + 4)) (xs (i + 5))) sh_234 (by decide) rfl rfl rfl rfl (Nat.le_of_ble_eq_true rfl) (Nat.le_of_ble_eq_true rfl) (Nat.le_of_ble_eq_true rfl) ⟨hk, hn⟩ (fun v sh2 μ3 hq => ?_)
  obtain ⟨rfl, rfl, hM3, hf3⟩ := hq
  refine lw_leq F (tgt := 1374) dL_law_1131 dL_law_1132 (by decide) ?_
  exact kk μ3 A (hC2.m hf3) hM3 ok
set_option maxRecDepth 100000 in
set_option maxHeartbeats 4000000 in
theorem lw_drawn {G : am_G} {p : Program} {e : Env} {s : State} {m : MethodId} {below : List Frame} {meth : Method} {c : Code} {b Ln : Nat} {xs : Nat → Int32} {μ : am_M} {k n : Nat} (F : lw_C G p s m meth c b Ln xs) (hLn : Ln ≤ 384) (hk : k ≤ 600000) (hn : n ≤ 7302250) (A : pA) (hC : InvC μ A) (hM : InvM μ A) (ok : okB A) (i : Nat) (hi : i + 6 ≤ Ln) (kk : ∀ (μ9 : am_M) (A9 : pA), InvC μ9 A9 → InvM μ9 A9 → okB A9 → lw_V G p e s m below meth c b (lw_L G b i) 1374 [] am_SH μ9 k n) : lw_V G p e s m below meth c b (lw_L G b i) 1137 [] am_SH μ k n := by
  refine lw_ref F (j := 2) (a := 0) dL_law_1137 rfl rfl ?_
  refine lw_ldc F (i := i) (co := 1) (j0 := 3) (j3 := 0) rfl rfl dL_law_1138 dL_law_1139 dL_law_1140 dL_law_1141 dL_law_1142 rfl (by omega) hLn ?_
  refine lw_ldc F (i := i) (co := 2) (j0 := 3) (j3 := 0) rfl rfl dL_law_1143 dL_law_1144 dL_law_1145 dL_law_1146 dL_law_1147 rfl (by omega) hLn ?_
  refine lw_ldc F (i := i) (co := 3) (j0 := 3) (j3 := 0) rfl rfl dL_law_1148 dL_law_1149 dL_law_1150 dL_law_1151 dL_law_1152 rfl (by omega) hLn ?_
  refine lw_cv F [.int (xs (i + 1)), .int (xs (i + 2)), .int (xs (i + 3))] dL_law_1153 ml_L_124 im_X7_drawn se_X7_drawn (c_X7_drawn A hC ok.1 (xs (i + 1)) (xs (i + 2)) (xs (i + 3))) sh_0 (by decide) rfl rfl rfl rfl (Nat.le_of_ble_eq_true rfl) (Nat.le_of_ble_eq_true rfl) (Nat.le_of_ble_eq_true rfl) ⟨hk, hn⟩ (fun v sh2 μ2 hq => ?_)
  obtain ⟨rfl, rfl, hC2, hf2⟩ := hq
  have hM2 := hM.c hf2
  refine lw_ref F (j := 1) (a := 234) dL_law_1156 rfl rfl ?_
  refine lw_ldc F (i := i) (co := 1) (j0 := 3) (j3 := 0) rfl rfl dL_law_1157 dL_law_1158 dL_law_1159 dL_law_1160 dL_law_1161 rfl (by omega) hLn ?_
  refine lw_ldc F (i := i) (co := 2) (j0 := 3) (j3 := 0) rfl rfl dL_law_1162 dL_law_1163 dL_law_1164 dL_law_1165 dL_law_1166 rfl (by omega) hLn ?_
  refine lw_ldc F (i := i) (co := 3) (j0 := 3) (j3 := 0) rfl rfl dL_law_1167 dL_law_1168 dL_law_1169 dL_law_1170 dL_law_1171 rfl (by omega) hLn ?_
  refine lw_cv F [.int (xs (i + 1)), .int (xs (i + 2)), .int (xs (i + 3))] dL_law_1172 ml_L_127 im_X8_drawn se_X8_drawn (c_X8_drawn A hM2 ok.1 (xs (i + 1)) (xs (i + 2)) (xs (i + 3))) sh_234 (by decide) rfl rfl rfl rfl (Nat.le_of_ble_eq_true rfl) (Nat.le_of_ble_eq_true rfl) (Nat.le_of_ble_eq_true rfl) ⟨hk, hn⟩ (fun v sh2 μ3 hq => ?_)
  obtain ⟨rfl, rfl, hM3, hf3⟩ := hq
  refine lw_eq F (tgt := 1374) dL_law_1175 (by decide) ?_
  exact kk μ3 _ (hC2.m hf3) hM3 (okB_oDrawn ok (xs (i + 1)) (xs (i + 2)) (xs (i + 3)))
set_option maxRecDepth 100000 in
set_option maxHeartbeats 4000000 in
theorem lw_image {G : am_G} {p : Program} {e : Env} {s : State} {m : MethodId} {below : List Frame} {meth : Method} {c : Code} {b Ln : Nat} {xs : Nat → Int32} {μ : am_M} {k n : Nat} (F : lw_C G p s m meth c b Ln xs) (hLn : Ln ≤ 384) (hk : k ≤ 600000) (hn : n ≤ 7302250) (A : pA) (hC : InvC μ A) (hM : InvM μ A) (ok : okB A) (i : Nat) (hi : i + 6 ≤ Ln) (kk : ∀ (μ9 : am_M) (A9 : pA), InvC μ9 A9 → InvM μ9 A9 → okB A9 → lw_V G p e s m below meth c b (lw_L G b i) 1374 [] am_SH μ9 k n) : lw_V G p e s m below meth c b (lw_L G b i) 1180 [] am_SH μ k n := by
  refine lw_ref F (j := 2) (a := 0) dL_law_1180 rfl rfl ?_
  refine lw_ldc F (i := i) (co := 1) (j0 := 3) (j3 := 0) rfl rfl dL_law_1181 dL_law_1182 dL_law_1183 dL_law_1184 dL_law_1185 rfl (by omega) hLn ?_
  refine lw_cv F [.int (xs (i + 1))] dL_law_1186 ml_L_128 im_X7_image se_X7_image (c_X7_image A hC ok.1 (xs (i + 1))) sh_0 (by decide) rfl rfl rfl rfl (Nat.le_of_ble_eq_true rfl) (Nat.le_of_ble_eq_true rfl) (Nat.le_of_ble_eq_true rfl) ⟨hk, hn⟩ (fun v sh2 μ2 hq => ?_)
  obtain ⟨rfl, rfl, hC2, hf2⟩ := hq
  have hM2 := hM.c hf2
  refine lw_ref F (j := 1) (a := 234) dL_law_1189 rfl rfl ?_
  refine lw_ldc F (i := i) (co := 1) (j0 := 3) (j3 := 0) rfl rfl dL_law_1190 dL_law_1191 dL_law_1192 dL_law_1193 dL_law_1194 rfl (by omega) hLn ?_
  refine lw_cv F [.int (xs (i + 1))] dL_law_1195 ml_L_131 im_X8_image se_X8_image (c_X8_image A hM2 ok.1 (xs (i + 1))) sh_234 (by decide) rfl rfl rfl rfl (Nat.le_of_ble_eq_true rfl) (Nat.le_of_ble_eq_true rfl) (Nat.le_of_ble_eq_true rfl) ⟨hk, hn⟩ (fun v sh2 μ3 hq => ?_)
  obtain ⟨rfl, rfl, hM3, hf3⟩ := hq
  refine lw_eq F (tgt := 1374) dL_law_1198 (by decide) ?_
  exact kk μ3 _ (hC2.m hf3) hM3 (okB_oImage ok (xs (i + 1)))
set_option maxRecDepth 100000 in
set_option maxHeartbeats 4000000 in
theorem lw_restore {G : am_G} {p : Program} {e : Env} {s : State} {m : MethodId} {below : List Frame} {meth : Method} {c : Code} {b Ln : Nat} {xs : Nat → Int32} {μ : am_M} {k n : Nat} (F : lw_C G p s m meth c b Ln xs) (hLn : Ln ≤ 384) (hk : k ≤ 600000) (hn : n ≤ 7302250) (A : pA) (hC : InvC μ A) (hM : InvM μ A) (ok : okB A) (i : Nat) (hi : i + 6 ≤ Ln) (kk : ∀ (μ9 : am_M) (A9 : pA), InvC μ9 A9 → InvM μ9 A9 → okB A9 → lw_V G p e s m below meth c b (lw_L G b i) 1374 [] am_SH μ9 k n) : lw_V G p e s m below meth c b (lw_L G b i) 1203 [] am_SH μ k n := by
  refine lw_ref F (j := 2) (a := 0) dL_law_1203 rfl rfl ?_
  refine lw_ldc F (i := i) (co := 1) (j0 := 3) (j3 := 0) rfl rfl dL_law_1204 dL_law_1205 dL_law_1206 dL_law_1207 dL_law_1208 rfl (by omega) hLn ?_
  refine lw_cv F [.int (xs (i + 1))] dL_law_1209 ml_L_132 im_X7_restore se_X7_restore (c_X7_restore A hC ok.1 (xs (i + 1))) sh_0 (by decide) rfl rfl rfl rfl (Nat.le_of_ble_eq_true rfl) (Nat.le_of_ble_eq_true rfl) (Nat.le_of_ble_eq_true rfl) ⟨hk, hn⟩ (fun v sh2 μ2 hq => ?_)
  obtain ⟨rfl, rfl, hC2, hf2⟩ := hq
  have hM2 := hM.c hf2
  refine lw_ref F (j := 1) (a := 234) dL_law_1212 rfl rfl ?_
  refine lw_ldc F (i := i) (co := 1) (j0 := 3) (j3 := 0) rfl rfl dL_law_1213 dL_law_1214 dL_law_1215 dL_law_1216 dL_law_1217 rfl (by omega) hLn ?_
  refine lw_cv F [.int (xs (i + 1))] dL_law_1218 ml_L_135 im_X8_restore se_X8_restore (c_X8_restore A hM2 ok.1 ok.2.2 (xs (i + 1))) sh_234 (by decide) rfl rfl rfl rfl (Nat.le_of_ble_eq_true rfl) (Nat.le_of_ble_eq_true rfl) (Nat.le_of_ble_eq_true rfl) ⟨hk, hn⟩ (fun v sh2 μ3 hq => ?_)
  obtain ⟨rfl, rfl, hM3, hf3⟩ := hq
  refine lw_eq F (tgt := 1374) dL_law_1221 (by decide) ?_
  exact kk μ3 _ (hC2.m hf3) hM3 (okB_oRestore ok (xs (i + 1)))
set_option maxRecDepth 100000 in
set_option maxHeartbeats 4000000 in
theorem lw_kind {G : am_G} {p : Program} {e : Env} {s : State} {m : MethodId} {below : List Frame} {meth : Method} {c : Code} {b Ln : Nat} {xs : Nat → Int32} {μ : am_M} {k n : Nat} (F : lw_C G p s m meth c b Ln xs) (hLn : Ln ≤ 384) (hk : k ≤ 600000) (hn : n ≤ 7302250) (A : pA) (hC : InvC μ A) (hM : InvM μ A) (ok : okB A) (i : Nat) (hi : i + 6 ≤ Ln) (kk : ∀ (μ9 : am_M) (A9 : pA), InvC μ9 A9 → InvM μ9 A9 → okB A9 → lw_V G p e s m below meth c b (lw_L G b i) 1374 [] am_SH μ9 k n) : lw_V G p e s m below meth c b (lw_L G b i) 1226 [] am_SH μ k n := by
  refine lw_ref F (j := 2) (a := 0) dL_law_1226 rfl rfl ?_
  refine lw_ldc F (i := i) (co := 1) (j0 := 3) (j3 := 0) rfl rfl dL_law_1227 dL_law_1228 dL_law_1229 dL_law_1230 dL_law_1231 rfl (by omega) hLn ?_
  refine lw_cv F [.int (xs (i + 1))] dL_law_1232 ml_L_136 im_X7_kind se_X7_kind (c_X7_kind A hC ok.1 (xs (i + 1))) sh_0 (by decide) rfl rfl rfl rfl (Nat.le_of_ble_eq_true rfl) (Nat.le_of_ble_eq_true rfl) (Nat.le_of_ble_eq_true rfl) ⟨hk, hn⟩ (fun v sh2 μ2 hq => ?_)
  obtain ⟨rfl, rfl, hC2, hf2⟩ := hq
  have hM2 := hM.c hf2
  refine lw_ref F (j := 1) (a := 234) dL_law_1235 rfl rfl ?_
  refine lw_ldc F (i := i) (co := 1) (j0 := 3) (j3 := 0) rfl rfl dL_law_1236 dL_law_1237 dL_law_1238 dL_law_1239 dL_law_1240 rfl (by omega) hLn ?_
  refine lw_cv F [.int (xs (i + 1))] dL_law_1241 ml_L_139 im_X8_kind se_X8_kind (c_X8_kind A hM2 ok.1 (xs (i + 1))) sh_234 (by decide) rfl rfl rfl rfl (Nat.le_of_ble_eq_true rfl) (Nat.le_of_ble_eq_true rfl) (Nat.le_of_ble_eq_true rfl) ⟨hk, hn⟩ (fun v sh2 μ3 hq => ?_)
  obtain ⟨rfl, rfl, hM3, hf3⟩ := hq
  refine lw_eq F (tgt := 1374) dL_law_1244 (by decide) ?_
  exact kk μ3 _ (hC2.m hf3) hM3 (okB_oKind ok (xs (i + 1)))
set_option maxRecDepth 100000 in
set_option maxHeartbeats 4000000 in
theorem lw_as {G : am_G} {p : Program} {e : Env} {s : State} {m : MethodId} {below : List Frame} {meth : Method} {c : Code} {b Ln : Nat} {xs : Nat → Int32} {μ : am_M} {k n : Nat} (F : lw_C G p s m meth c b Ln xs) (hLn : Ln ≤ 384) (hk : k ≤ 600000) (hn : n ≤ 7302250) (A : pA) (hC : InvC μ A) (hM : InvM μ A) (ok : okB A) (i : Nat) (hi : i + 6 ≤ Ln) (kk : ∀ (μ9 : am_M) (A9 : pA), InvC μ9 A9 → InvM μ9 A9 → okB A9 → lw_V G p e s m below meth c b (lw_L G b i) 1374 [] am_SH μ9 k n) : lw_V G p e s m below meth c b (lw_L G b i) 1249 [] am_SH μ k n := by
  refine lw_ref F (j := 2) (a := 0) dL_law_1249 rfl rfl ?_
  refine lw_ldc F (i := i) (co := 1) (j0 := 3) (j3 := 0) rfl rfl dL_law_1250 dL_law_1251 dL_law_1252 dL_law_1253 dL_law_1254 rfl (by omega) hLn ?_
  refine lw_ldc F (i := i) (co := 2) (j0 := 3) (j3 := 0) rfl rfl dL_law_1255 dL_law_1256 dL_law_1257 dL_law_1258 dL_law_1259 rfl (by omega) hLn ?_
  refine lw_cv F [.int (xs (i + 1)), .int (xs (i + 2))] dL_law_1260 ml_L_140 im_X7_as se_X7_as (c_X7_as A hC ok.1 (xs (i + 1)) (xs (i + 2))) sh_0 (by decide) rfl rfl rfl rfl (Nat.le_of_ble_eq_true rfl) (Nat.le_of_ble_eq_true rfl) (Nat.le_of_ble_eq_true rfl) ⟨hk, hn⟩ (fun v sh2 μ2 hq => ?_)
  obtain ⟨rfl, rfl, hC2, hf2⟩ := hq
  have hM2 := hM.c hf2
  refine lw_ref F (j := 1) (a := 234) dL_law_1263 rfl rfl ?_
  refine lw_ldc F (i := i) (co := 1) (j0 := 3) (j3 := 0) rfl rfl dL_law_1264 dL_law_1265 dL_law_1266 dL_law_1267 dL_law_1268 rfl (by omega) hLn ?_
  refine lw_ldc F (i := i) (co := 2) (j0 := 3) (j3 := 0) rfl rfl dL_law_1269 dL_law_1270 dL_law_1271 dL_law_1272 dL_law_1273 rfl (by omega) hLn ?_
  refine lw_cv F [.int (xs (i + 1)), .int (xs (i + 2))] dL_law_1274 ml_L_143 im_X8_as se_X8_as (c_X8_as A hM2 ok.1 (xs (i + 1)) (xs (i + 2))) sh_234 (by decide) rfl rfl rfl rfl (Nat.le_of_ble_eq_true rfl) (Nat.le_of_ble_eq_true rfl) (Nat.le_of_ble_eq_true rfl) ⟨hk, hn⟩ (fun v sh2 μ3 hq => ?_)
  obtain ⟨rfl, rfl, hM3, hf3⟩ := hq
  refine lw_eq F (tgt := 1374) dL_law_1277 (by decide) ?_
  exact kk μ3 _ (hC2.m hf3) hM3 (okB_oAs ok (xs (i + 1)) (xs (i + 2)))
set_option maxRecDepth 100000 in
set_option maxHeartbeats 4000000 in
theorem lw_ask {G : am_G} {p : Program} {e : Env} {s : State} {m : MethodId} {below : List Frame} {meth : Method} {c : Code} {b Ln : Nat} {xs : Nat → Int32} {μ : am_M} {k n : Nat} (F : lw_C G p s m meth c b Ln xs) (hLn : Ln ≤ 384) (hk : k ≤ 600000) (hn : n ≤ 7302250) (A : pA) (hC : InvC μ A) (hM : InvM μ A) (ok : okB A) (i : Nat) (hi : i + 6 ≤ Ln) (kk : ∀ (μ9 : am_M) (A9 : pA), InvC μ9 A9 → InvM μ9 A9 → okB A9 → lw_V G p e s m below meth c b (lw_L G b i) 1374 [] am_SH μ9 k n) : lw_V G p e s m below meth c b (lw_L G b i) 1282 [] am_SH μ k n := by
  refine lw_ref F (j := 2) (a := 0) dL_law_1282 rfl rfl ?_
  refine lw_ldc F (i := i) (co := 1) (j0 := 3) (j3 := 0) rfl rfl dL_law_1283 dL_law_1284 dL_law_1285 dL_law_1286 dL_law_1287 rfl (by omega) hLn ?_
  refine lw_ldc F (i := i) (co := 2) (j0 := 3) (j3 := 0) rfl rfl dL_law_1288 dL_law_1289 dL_law_1290 dL_law_1291 dL_law_1292 rfl (by omega) hLn ?_
  refine lw_cv F [.int (xs (i + 1)), .int (xs (i + 2))] dL_law_1293 ml_L_144 im_X7_ask se_X7_ask (c_X7_ask A hC ok.1 (xs (i + 1)) (xs (i + 2))) sh_0 (by decide) rfl rfl rfl rfl (Nat.le_of_ble_eq_true rfl) (Nat.le_of_ble_eq_true rfl) (Nat.le_of_ble_eq_true rfl) ⟨hk, hn⟩ (fun v sh2 μ2 hq => ?_)
  obtain ⟨rfl, rfl, hC2, hf2⟩ := hq
  have hM2 := hM.c hf2
  refine lw_ref F (j := 1) (a := 234) dL_law_1296 rfl rfl ?_
  refine lw_ldc F (i := i) (co := 1) (j0 := 3) (j3 := 0) rfl rfl dL_law_1297 dL_law_1298 dL_law_1299 dL_law_1300 dL_law_1301 rfl (by omega) hLn ?_
  refine lw_ldc F (i := i) (co := 2) (j0 := 3) (j3 := 0) rfl rfl dL_law_1302 dL_law_1303 dL_law_1304 dL_law_1305 dL_law_1306 rfl (by omega) hLn ?_
  refine lw_cv F [.int (xs (i + 1)), .int (xs (i + 2))] dL_law_1307 ml_L_147 im_X8_ask se_X8_ask (c_X8_ask A hM2 ok.1 (xs (i + 1)) (xs (i + 2))) sh_234 (by decide) rfl rfl rfl rfl (Nat.le_of_ble_eq_true rfl) (Nat.le_of_ble_eq_true rfl) (Nat.le_of_ble_eq_true rfl) ⟨hk, hn⟩ (fun v sh2 μ3 hq => ?_)
  obtain ⟨rfl, rfl, hM3, hf3⟩ := hq
  refine lw_eq F (tgt := 1374) dL_law_1310 (by decide) ?_
  exact kk μ3 _ (hC2.m hf3) hM3 (okB_oAsk ok (xs (i + 1)) (xs (i + 2)))
set_option maxRecDepth 100000 in
set_option maxHeartbeats 4000000 in
theorem lw_trace {G : am_G} {p : Program} {e : Env} {s : State} {m : MethodId} {below : List Frame} {meth : Method} {c : Code} {b Ln : Nat} {xs : Nat → Int32} {μ : am_M} {k n : Nat} (F : lw_C G p s m meth c b Ln xs) (hLn : Ln ≤ 384) (hk : k ≤ 600000) (hn : n ≤ 7302250) (A : pA) (hC : InvC μ A) (hM : InvM μ A) (ok : okB A) (i : Nat) (hi : i + 6 ≤ Ln) (kk : ∀ (μ9 : am_M) (A9 : pA), InvC μ9 A9 → InvM μ9 A9 → okB A9 → lw_V G p e s m below meth c b (lw_L G b i) 1374 [] am_SH μ9 k n) : lw_V G p e s m below meth c b (lw_L G b i) 1315 [] am_SH μ k n := by
  refine lw_ref F (j := 2) (a := 0) dL_law_1315 rfl rfl ?_
  refine lw_ldc F (i := i) (co := 1) (j0 := 3) (j3 := 0) rfl rfl dL_law_1316 dL_law_1317 dL_law_1318 dL_law_1319 dL_law_1320 rfl (by omega) hLn ?_
  refine lw_cv F [.int (xs (i + 1))] dL_law_1321 ml_L_148 im_X7_trace se_X7_trace (c_X7_trace A hC ok.1 (xs (i + 1))) sh_0 (by decide) rfl rfl rfl rfl (Nat.le_of_ble_eq_true rfl) (Nat.le_of_ble_eq_true rfl) (Nat.le_of_ble_eq_true rfl) ⟨hk, hn⟩ (fun v sh2 μ2 hq => ?_)
  obtain ⟨rfl, rfl, hC2, hf2⟩ := hq
  have hM2 := hM.c hf2
  refine lw_ref F (j := 1) (a := 234) dL_law_1324 rfl rfl ?_
  refine lw_ldc F (i := i) (co := 1) (j0 := 3) (j3 := 0) rfl rfl dL_law_1325 dL_law_1326 dL_law_1327 dL_law_1328 dL_law_1329 rfl (by omega) hLn ?_
  refine lw_cv F [.int (xs (i + 1))] dL_law_1330 ml_L_151 im_X8_trace se_X8_trace (c_X8_trace A hM2 ok.1 (xs (i + 1))) sh_234 (by decide) rfl rfl rfl rfl (Nat.le_of_ble_eq_true rfl) (Nat.le_of_ble_eq_true rfl) (Nat.le_of_ble_eq_true rfl) ⟨hk, hn⟩ (fun v sh2 μ3 hq => ?_)
  obtain ⟨rfl, rfl, hM3, hf3⟩ := hq
  refine lw_eq F (tgt := 1374) dL_law_1333 (by decide) ?_
  exact kk μ3 _ (hC2.m hf3) hM3 (okB_oTrace ok (xs (i + 1)))
set_option maxRecDepth 100000 in
set_option maxHeartbeats 4000000 in
theorem lw_count {G : am_G} {p : Program} {e : Env} {s : State} {m : MethodId} {below : List Frame} {meth : Method} {c : Code} {b Ln : Nat} {xs : Nat → Int32} {μ : am_M} {k n : Nat} (F : lw_C G p s m meth c b Ln xs) (hLn : Ln ≤ 384) (hk : k ≤ 600000) (hn : n ≤ 7302250) (A : pA) (hC : InvC μ A) (hM : InvM μ A) (ok : okB A) (i : Nat) (hi : i + 6 ≤ Ln) (kk : ∀ (μ9 : am_M) (A9 : pA), InvC μ9 A9 → InvM μ9 A9 → okB A9 → lw_V G p e s m below meth c b (lw_L G b i) 1374 [] am_SH μ9 k n) : lw_V G p e s m below meth c b (lw_L G b i) 1338 [] am_SH μ k n := by
  refine lw_ref F (j := 2) (a := 0) dL_law_1338 rfl rfl ?_
  refine lw_ldc F (i := i) (co := 1) (j0 := 3) (j3 := 0) rfl rfl dL_law_1339 dL_law_1340 dL_law_1341 dL_law_1342 dL_law_1343 rfl (by omega) hLn ?_
  refine lw_cv F [.int (xs (i + 1))] dL_law_1344 ml_L_152 im_X7_count se_X7_count (c_X7_count A hC ok.1 (xs (i + 1))) sh_0 (by decide) rfl rfl rfl rfl (Nat.le_of_ble_eq_true rfl) (Nat.le_of_ble_eq_true rfl) (Nat.le_of_ble_eq_true rfl) ⟨hk, hn⟩ (fun v sh2 μ2 hq => ?_)
  obtain ⟨rfl, rfl, hC2, hf2⟩ := hq
  have hM2 := hM.c hf2
  refine lw_ref F (j := 1) (a := 234) dL_law_1347 rfl rfl ?_
  refine lw_ldc F (i := i) (co := 1) (j0 := 3) (j3 := 0) rfl rfl dL_law_1348 dL_law_1349 dL_law_1350 dL_law_1351 dL_law_1352 rfl (by omega) hLn ?_
  refine lw_cv F [.int (xs (i + 1))] dL_law_1353 ml_L_155 im_X8_count se_X8_count (c_X8_count A hM2 ok.1 (xs (i + 1))) sh_234 (by decide) rfl rfl rfl rfl (Nat.le_of_ble_eq_true rfl) (Nat.le_of_ble_eq_true rfl) (Nat.le_of_ble_eq_true rfl) ⟨hk, hn⟩ (fun v sh2 μ3 hq => ?_)
  obtain ⟨rfl, rfl, hM3, hf3⟩ := hq
  refine lw_eq F (tgt := 1374) dL_law_1356 (by decide) ?_
  exact kk μ3 _ (hC2.m hf3) hM3 (okB_oCount ok (xs (i + 1)))
set_option maxRecDepth 100000 in
set_option maxHeartbeats 4000000 in
theorem lw_status {G : am_G} {p : Program} {e : Env} {s : State} {m : MethodId} {below : List Frame} {meth : Method} {c : Code} {b Ln : Nat} {xs : Nat → Int32} {μ : am_M} {k n : Nat} (F : lw_C G p s m meth c b Ln xs) (hLn : Ln ≤ 384) (hk : k ≤ 600000) (hn : n ≤ 7302250) (A : pA) (hC : InvC μ A) (hM : InvM μ A) (ok : okB A) (i : Nat) (hi : i + 6 ≤ Ln) (kk : ∀ (μ9 : am_M) (A9 : pA), InvC μ9 A9 → InvM μ9 A9 → okB A9 → lw_V G p e s m below meth c b (lw_L G b i) 1374 [] am_SH μ9 k n) : lw_V G p e s m below meth c b (lw_L G b i) 1361 [] am_SH μ k n := by
  refine lw_ref F (j := 2) (a := 0) dL_law_1361 rfl rfl ?_
  refine lw_cv F [] dL_law_1362 ml_L_156 im_X7_status se_X7_status (c_X7_status A hC ok.1 ) sh_0 (by decide) rfl rfl rfl rfl (Nat.le_of_ble_eq_true rfl) (Nat.le_of_ble_eq_true rfl) (Nat.le_of_ble_eq_true rfl) ⟨hk, hn⟩ (fun v sh2 μ2 hq => ?_)
  obtain ⟨rfl, rfl, hC2, hf2⟩ := hq
  have hM2 := hM.c hf2
  refine lw_ref F (j := 1) (a := 234) dL_law_1365 rfl rfl ?_
  refine lw_cv F [] dL_law_1366 ml_L_159 im_X8_status se_X8_status (c_X8_status A hM2 ok.1 ) sh_234 (by decide) rfl rfl rfl rfl (Nat.le_of_ble_eq_true rfl) (Nat.le_of_ble_eq_true rfl) (Nat.le_of_ble_eq_true rfl) ⟨hk, hn⟩ (fun v sh2 μ3 hq => ?_)
  obtain ⟨rfl, rfl, hM3, hf3⟩ := hq
  refine lw_eq F (tgt := 1374) dL_law_1369 (by decide) ?_
  exact kk μ3 _ (hC2.m hf3) hM3 (okB_status ok )
set_option maxRecDepth 100000 in
set_option maxHeartbeats 4000000 in
theorem lw_switch {G : am_G} {p : Program} {e : Env} {s : State} {m : MethodId} {below : List Frame} {meth : Method} {c : Code} {b Ln : Nat} {xs : Nat → Int32} {μ : am_M} {k n : Nat} (F : lw_C G p s m meth c b Ln xs) (hLn : Ln ≤ 384) (hk : k ≤ 600000) (hn : n ≤ 7302250) (A : pA) (hC : InvC μ A) (hM : InvM μ A) (ok : okB A) (i : Nat) (hi : i + 6 ≤ Ln) (kk : ∀ (μ9 : am_M) (A9 : pA), InvC μ9 A9 → InvM μ9 A9 → okB A9 → lw_V G p e s m below meth c b (lw_L G b i) 1374 [] am_SH μ9 k n) : lw_V G p e s m below meth c b (lw_L G b i) 27 [] am_SH μ k n := by
  refine lw_ld F (i := i) (j0 := 3) (j3 := 0) rfl rfl dL_law_27 dL_law_28 dL_law_29 (by omega) hLn ?_
  refine lw_and F ?_
  by_cases hz : (xs i &&& nI 63).toInt < 0 ∨ 34 < (xs i &&& nI 63).toInt
  · exact lw_tout F (tgt := 1374) dL_law_33 hz (by decide) (kk μ A hC hM ok)
  · have h1 : ¬ (xs i &&& nI 63).toInt < 0 := fun q => hz (Or.inl q)
    have h2 : ¬ 34 < (xs i &&& nI 63).toInt := fun q => hz (Or.inr q)
    have hs : (xs i &&& nI 63).toInt = 0 ∨ (xs i &&& nI 63).toInt = 1 ∨ (xs i &&& nI 63).toInt = 2 ∨ (xs i &&& nI 63).toInt = 3 ∨ (xs i &&& nI 63).toInt = 4 ∨ (xs i &&& nI 63).toInt = 5 ∨ (xs i &&& nI 63).toInt = 6 ∨ (xs i &&& nI 63).toInt = 7 ∨ (xs i &&& nI 63).toInt = 8 ∨ (xs i &&& nI 63).toInt = 9 ∨ (xs i &&& nI 63).toInt = 10 ∨ (xs i &&& nI 63).toInt = 11 ∨ (xs i &&& nI 63).toInt = 12 ∨ (xs i &&& nI 63).toInt = 13 ∨ (xs i &&& nI 63).toInt = 14 ∨ (xs i &&& nI 63).toInt = 15 ∨ (xs i &&& nI 63).toInt = 16 ∨ (xs i &&& nI 63).toInt = 17 ∨ (xs i &&& nI 63).toInt = 18 ∨ (xs i &&& nI 63).toInt = 19 ∨ (xs i &&& nI 63).toInt = 20 ∨ (xs i &&& nI 63).toInt = 21 ∨ (xs i &&& nI 63).toInt = 22 ∨ (xs i &&& nI 63).toInt = 23 ∨ (xs i &&& nI 63).toInt = 24 ∨ (xs i &&& nI 63).toInt = 25 ∨ (xs i &&& nI 63).toInt = 26 ∨ (xs i &&& nI 63).toInt = 27 ∨ (xs i &&& nI 63).toInt = 28 ∨ (xs i &&& nI 63).toInt = 29 ∨ (xs i &&& nI 63).toInt = 30 ∨ (xs i &&& nI 63).toInt = 31 ∨ (xs i &&& nI 63).toInt = 32 ∨ (xs i &&& nI 63).toInt = 33 ∨ (xs i &&& nI 63).toInt = 34 := by omega
    rcases hs with q | q | q | q | q | q | q | q | q | q | q | q | q | q | q | q | q | q | q | q | q | q | q | q | q | q | q | q | q | q | q | q | q | q | q
    · exact lw_tin F (tgt := 188) dL_law_33 h1 h2 (by rw [q]; rfl) (by decide) (lw_row F hLn hk hn A hC hM ok i hi kk)
    · exact lw_tin F (tgt := 231) dL_law_33 h1 h2 (by rw [q]; rfl) (by decide) (lw_set F hLn hk hn A hC hM ok i hi kk)
    · exact lw_tin F (tgt := 274) dL_law_33 h1 h2 (by rw [q]; rfl) (by decide) (lw_copy F hLn hk hn A hC hM ok i hi kk)
    · exact lw_tin F (tgt := 337) dL_law_33 h1 h2 (by rw [q]; rfl) (by decide) (lw_drop F hLn hk hn A hC hM ok i hi kk)
    · exact lw_tin F (tgt := 360) dL_law_33 h1 h2 (by rw [q]; rfl) (by decide) (lw_feed F hLn hk hn A hC hM ok i hi kk)
    · exact lw_tin F (tgt := 383) dL_law_33 h1 h2 (by rw [q]; rfl) (by decide) (lw_sky F hLn hk hn A hC hM ok i hi kk)
    · exact lw_tin F (tgt := 396) dL_law_33 h1 h2 (by rw [q]; rfl) (by decide) (lw_fault F hLn hk hn A hC hM ok i hi kk)
    · exact lw_tin F (tgt := 409) dL_law_33 h1 h2 (by rw [q]; rfl) (by decide) (lw_undo F hLn hk hn A hC hM ok i hi kk)
    · exact lw_tin F (tgt := 422) dL_law_33 h1 h2 (by rw [q]; rfl) (by decide) (lw_hours F hLn hk hn A hC hM ok i hi kk)
    · exact lw_tin F (tgt := 445) dL_law_33 h1 h2 (by rw [q]; rfl) (by decide) (lw_burn F hLn hk hn A hC hM ok i hi kk)
    · exact lw_tin F (tgt := 478) dL_law_33 h1 h2 (by rw [q]; rfl) (by decide) (lw_send F hLn hk hn A hC hM ok i hi kk)
    · exact lw_tin F (tgt := 521) dL_law_33 h1 h2 (by rw [q]; rfl) (by decide) (lw_wind F hLn hk hn A hC hM ok i hi kk)
    · exact lw_tin F (tgt := 554) dL_law_33 h1 h2 (by rw [q]; rfl) (by decide) (lw_office F hLn hk hn A hC hM ok i hi kk)
    · exact lw_tin F (tgt := 587) dL_law_33 h1 h2 (by rw [q]; rfl) (by decide) (lw_land F hLn hk hn A hC hM ok i hi kk)
    · exact lw_tin F (tgt := 610) dL_law_33 h1 h2 (by rw [q]; rfl) (by decide) (lw_ahead F hLn hk hn A hC hM ok i hi kk)
    · exact lw_tin F (tgt := 653) dL_law_33 h1 h2 (by rw [q]; rfl) (by decide) (lw_down F hLn hk hn A hC hM ok i hi kk)
    · exact lw_tin F (tgt := 676) dL_law_33 h1 h2 (by rw [q]; rfl) (by decide) (lw_meet F hLn hk hn A hC hM ok i hi kk)
    · exact lw_tin F (tgt := 709) dL_law_33 h1 h2 (by rw [q]; rfl) (by decide) (lw_over F hLn hk hn A hC hM ok i hi kk)
    · exact lw_tin F (tgt := 742) dL_law_33 h1 h2 (by rw [q]; rfl) (by decide) (lw_above F hLn hk hn A hC hM ok i hi kk)
    · exact lw_tin F (tgt := 805) dL_law_33 h1 h2 (by rw [q]; rfl) (by decide) (lw_petition F hLn hk hn A hC hM ok i hi kk)
    · exact lw_tin F (tgt := 858) dL_law_33 h1 h2 (by rw [q]; rfl) (by decide) (lw_ash F hLn hk hn A hC hM ok i hi kk)
    · exact lw_tin F (tgt := 921) dL_law_33 h1 h2 (by rw [q]; rfl) (by decide) (lw_who F hLn hk hn A hC hM ok i hi kk)
    · exact lw_tin F (tgt := 984) dL_law_33 h1 h2 (by rw [q]; rfl) (by decide) (lw_rule F hLn hk hn A hC hM ok i hi kk)
    · exact lw_tin F (tgt := 1017) dL_law_33 h1 h2 (by rw [q]; rfl) (by decide) (lw_lasts F hLn hk hn A hC hM ok i hi kk)
    · exact lw_tin F (tgt := 1040) dL_law_33 h1 h2 (by rw [q]; rfl) (by decide) (lw_kept F hLn hk hn A hC hM ok i hi kk)
    · exact lw_tin F (tgt := 1073) dL_law_33 h1 h2 (by rw [q]; rfl) (by decide) (lw_turned F hLn hk hn A hC hM ok i hi kk)
    · exact lw_tin F (tgt := 1137) dL_law_33 h1 h2 (by rw [q]; rfl) (by decide) (lw_drawn F hLn hk hn A hC hM ok i hi kk)
    · exact lw_tin F (tgt := 1180) dL_law_33 h1 h2 (by rw [q]; rfl) (by decide) (lw_image F hLn hk hn A hC hM ok i hi kk)
    · exact lw_tin F (tgt := 1203) dL_law_33 h1 h2 (by rw [q]; rfl) (by decide) (lw_restore F hLn hk hn A hC hM ok i hi kk)
    · exact lw_tin F (tgt := 1226) dL_law_33 h1 h2 (by rw [q]; rfl) (by decide) (lw_kind F hLn hk hn A hC hM ok i hi kk)
    · exact lw_tin F (tgt := 1249) dL_law_33 h1 h2 (by rw [q]; rfl) (by decide) (lw_as F hLn hk hn A hC hM ok i hi kk)
    · exact lw_tin F (tgt := 1282) dL_law_33 h1 h2 (by rw [q]; rfl) (by decide) (lw_ask F hLn hk hn A hC hM ok i hi kk)
    · exact lw_tin F (tgt := 1315) dL_law_33 h1 h2 (by rw [q]; rfl) (by decide) (lw_trace F hLn hk hn A hC hM ok i hi kk)
    · exact lw_tin F (tgt := 1338) dL_law_33 h1 h2 (by rw [q]; rfl) (by decide) (lw_count F hLn hk hn A hC hM ok i hi kk)
    · exact lw_tin F (tgt := 1361) dL_law_33 h1 h2 (by rw [q]; rfl) (by decide) (lw_status F hLn hk hn A hC hM ok i hi kk)
set_option maxRecDepth 100000 in
set_option maxHeartbeats 4000000 in
theorem lw_loop {G : am_G} {p : Program} {e : Env} {s : State} {m : MethodId} {below : List Frame} {meth : Method} {c : Code} {b Ln : Nat} {xs : Nat → Int32} {k n : Nat} (F : lw_C G p s m meth c b Ln xs) (hr : meth.sig.returnType = ret) (hlk : meth.locks = false) (hLn : Ln ≤ 384) (hk : k ≤ 600000) (hn : n ≤ 7302250) : ∀ (r i : Nat) (μ : am_M) (A : pA), Ln ≤ i + r → i ≤ Ln → InvC μ A → InvM μ A → okB A → lw_V G p e s m below meth c b (lw_L G b i) 18 [] am_SH μ k n := by
  intro r
  induction r with
  | zero =>
    intro i μ A hr0 hi hC hM ok
    exact lw_head F (i := i) (j0 := 3) (j3 := 0) rfl rfl (by omega) hLn (fun _ => lw_end F hr hlk hk hn) (fun q => absurd q (by omega))
  | succ r ih =>
    intro i μ A hr0 hi hC hM ok
    refine lw_head F (i := i) (j0 := 3) (j3 := 0) rfl rfl (by omega) hLn (fun _ => lw_end F hr hlk hk hn) (fun q => ?_)
    refine lw_switch F hLn hk hn A hC hM ok i q (fun μ9 A9 h1 h2 h3 => ?_)
    refine lw_inc F (j := 0) (v := nI (i + 6)) (lv' := lw_L G b (i + 6)) dL_law_1374 rfl (nI_add i 6) (by decide) rfl ?_
    refine lw_goto F (tgt := 18) dL_law_1377 (by decide) ?_
    exact ih (i + 6) μ9 A9 (by omega) (by omega) h1 h2 h3
