section LA
variable {l : Launch} {g : KG} {sc L i : Nat} {xs : Nat → Int32} {J : KT} {a aK aL aT b : Nat → Nat} {s : KS} {jc : CJ} {jm : MJ}
set_option maxHeartbeats 4000000 in
set_option maxRecDepth 100000 in
theorem lw_c0 (hJ : KLw l room_1 cL_law RL 4 g sc L xs J) (hL : L ≤ 3072) (hi : i + 6 ≤ L) (hs : kOk s) (k : ∀ (s2 : KS) (jc : CJ) (jm : MJ), kOk s2 → J (clsA g a aK aL aT s2 jc ++ modA g b s2 jm) [(0, .ref sc), (1, .ref (a 0)), (2, .ref (b 0)), (3, .int (nI i))] 1506 []) : J (clsA g a aK aL aT s jc ++ modA g b s jm) [(0, .ref sc), (1, .ref (a 0)), (2, .ref (b 0)), (3, .int (nI i))] 212 [] := by
  have hK := hJ.ko
  refine k_aload_n hK dL_law_212 1 rfl ?_
  refine k_aload_n hK dL_law_213 0 rfl ?_
  refine k_iload_n hK dL_law_214 3 rfl ?_
  refine k_iconst (v := nI 1) hK dL_law_215 (by decide) ?_
  refine n_iadd hK dL_law_216 ?_
  refine l_sld hJ dL_law_217 hL (by omega) ?_
  refine k_aload_n hK dL_law_218 0 rfl ?_
  refine k_iload_n hK dL_law_219 3 rfl ?_
  refine k_iconst (v := nI 2) hK dL_law_220 (by decide) ?_
  refine n_iadd hK dL_law_221 ?_
  refine l_sld hJ dL_law_222 hL (by omega) ?_
  refine l_cls hK (cp_law l g a aK aL aT jc s hs (xs (i + 1)) (xs (i + 2))) mv_X3_law ml_L_13 rfl ⟨rfl, rfl, Nat.le_of_ble_eq_true rfl, Nat.le_of_ble_eq_true rfl⟩ rfl rfl (by decide) dL_law_223 (fun r jc2 hr => ?_)
  refine k_aload_n hK dL_law_226 2 rfl ?_
  refine k_aload_n hK dL_law_227 0 rfl ?_
  refine k_iload_n hK dL_law_228 3 rfl ?_
  refine k_iconst (v := nI 1) hK dL_law_229 (by decide) ?_
  refine n_iadd hK dL_law_230 ?_
  refine l_sld hJ dL_law_231 hL (by omega) ?_
  refine k_aload_n hK dL_law_232 0 rfl ?_
  refine k_iload_n hK dL_law_233 3 rfl ?_
  refine k_iconst (v := nI 2) hK dL_law_234 (by decide) ?_
  refine n_iadd hK dL_law_235 ?_
  refine l_sld hJ dL_law_236 hL (by omega) ?_
  refine l_mod hK (mp_law l g b jm s hs (xs (i + 1)) (xs (i + 2))) mv_X4_law ml_L_17 rfl ⟨rfl, rfl, Nat.le_of_ble_eq_true rfl, Nat.le_of_ble_eq_true rfl⟩ rfl rfl (Nat.le_of_ble_eq_true rfl) dL_law_237 (fun r2 jm2 hr2 => ?_)
  exact k_icmp_eq (tgt := 1506) hK dL_law_240 (by decide) (fun _ => k _ _ _ (ok_law hs (xs (i + 1)) (xs (i + 2)))) (fun h => absurd (hr.trans hr2.symm) h)
set_option maxHeartbeats 4000000 in
set_option maxRecDepth 100000 in
theorem lw_c1 (hJ : KLw l room_1 cL_law RL 4 g sc L xs J) (hL : L ≤ 3072) (hi : i + 6 ≤ L) (hs : kOk s) (k : ∀ (s2 : KS) (jc : CJ) (jm : MJ), kOk s2 → J (clsA g a aK aL aT s2 jc ++ modA g b s2 jm) [(0, .ref sc), (1, .ref (a 0)), (2, .ref (b 0)), (3, .int (nI i))] 1506 []) : J (clsA g a aK aL aT s jc ++ modA g b s jm) [(0, .ref sc), (1, .ref (a 0)), (2, .ref (b 0)), (3, .int (nI i))] 245 [] := by
  have hK := hJ.ko
  refine k_aload_n hK dL_law_245 1 rfl ?_
  refine k_aload_n hK dL_law_246 0 rfl ?_
  refine k_iload_n hK dL_law_247 3 rfl ?_
  refine k_iconst (v := nI 1) hK dL_law_248 (by decide) ?_
  refine n_iadd hK dL_law_249 ?_
  refine l_sld hJ dL_law_250 hL (by omega) ?_
  refine k_aload_n hK dL_law_251 0 rfl ?_
  refine k_iload_n hK dL_law_252 3 rfl ?_
  refine k_iconst (v := nI 2) hK dL_law_253 (by decide) ?_
  refine n_iadd hK dL_law_254 ?_
  refine l_sld hJ dL_law_255 hL (by omega) ?_
  refine l_cls hK (cp_person l g a aK aL aT jc s hs (xs (i + 1)) (xs (i + 2))) mv_X3_person ml_L_18 rfl ⟨rfl, rfl, Nat.le_of_ble_eq_true rfl, Nat.le_of_ble_eq_true rfl⟩ rfl rfl (by decide) dL_law_256 (fun r jc2 hr => ?_)
  refine k_aload_n hK dL_law_259 2 rfl ?_
  refine k_aload_n hK dL_law_260 0 rfl ?_
  refine k_iload_n hK dL_law_261 3 rfl ?_
  refine k_iconst (v := nI 1) hK dL_law_262 (by decide) ?_
  refine n_iadd hK dL_law_263 ?_
  refine l_sld hJ dL_law_264 hL (by omega) ?_
  refine k_aload_n hK dL_law_265 0 rfl ?_
  refine k_iload_n hK dL_law_266 3 rfl ?_
  refine k_iconst (v := nI 2) hK dL_law_267 (by decide) ?_
  refine n_iadd hK dL_law_268 ?_
  refine l_sld hJ dL_law_269 hL (by omega) ?_
  refine l_mod hK (mp_person l g b jm s hs (xs (i + 1)) (xs (i + 2))) mv_X4_person ml_L_21 rfl ⟨rfl, rfl, Nat.le_of_ble_eq_true rfl, Nat.le_of_ble_eq_true rfl⟩ rfl rfl (Nat.le_of_ble_eq_true rfl) dL_law_270 (fun r2 jm2 hr2 => ?_)
  exact k_icmp_eq (tgt := 1506) hK dL_law_273 (by decide) (fun _ => k _ _ _ (ok_person hs (xs (i + 1)) (xs (i + 2)))) (fun h => absurd (hr.trans hr2.symm) h)
set_option maxHeartbeats 4000000 in
set_option maxRecDepth 100000 in
theorem lw_c2 (hJ : KLw l room_1 cL_law RL 4 g sc L xs J) (hL : L ≤ 3072) (hi : i + 6 ≤ L) (hs : kOk s) (k : ∀ (s2 : KS) (jc : CJ) (jm : MJ), kOk s2 → J (clsA g a aK aL aT s2 jc ++ modA g b s2 jm) [(0, .ref sc), (1, .ref (a 0)), (2, .ref (b 0)), (3, .int (nI i))] 1506 []) : J (clsA g a aK aL aT s jc ++ modA g b s jm) [(0, .ref sc), (1, .ref (a 0)), (2, .ref (b 0)), (3, .int (nI i))] 278 [] := by
  have hK := hJ.ko
  refine k_aload_n hK dL_law_278 1 rfl ?_
  refine k_aload_n hK dL_law_279 0 rfl ?_
  refine k_iload_n hK dL_law_280 3 rfl ?_
  refine k_iconst (v := nI 1) hK dL_law_281 (by decide) ?_
  refine n_iadd hK dL_law_282 ?_
  refine l_sld hJ dL_law_283 hL (by omega) ?_
  refine k_aload_n hK dL_law_284 0 rfl ?_
  refine k_iload_n hK dL_law_285 3 rfl ?_
  refine k_iconst (v := nI 2) hK dL_law_286 (by decide) ?_
  refine n_iadd hK dL_law_287 ?_
  refine l_sld hJ dL_law_288 hL (by omega) ?_
  refine l_cls hK (cp_of l g a aK aL aT jc s hs (xs (i + 1)) (xs (i + 2))) mv_X3_of ml_L_22 rfl ⟨rfl, rfl, Nat.le_of_ble_eq_true rfl, Nat.le_of_ble_eq_true rfl⟩ rfl rfl (by decide) dL_law_289 (fun r jc2 hr => ?_)
  refine k_aload_n hK dL_law_292 2 rfl ?_
  refine k_aload_n hK dL_law_293 0 rfl ?_
  refine k_iload_n hK dL_law_294 3 rfl ?_
  refine k_iconst (v := nI 1) hK dL_law_295 (by decide) ?_
  refine n_iadd hK dL_law_296 ?_
  refine l_sld hJ dL_law_297 hL (by omega) ?_
  refine k_aload_n hK dL_law_298 0 rfl ?_
  refine k_iload_n hK dL_law_299 3 rfl ?_
  refine k_iconst (v := nI 2) hK dL_law_300 (by decide) ?_
  refine n_iadd hK dL_law_301 ?_
  refine l_sld hJ dL_law_302 hL (by omega) ?_
  refine l_mod hK (mp_of l g b jm s hs (xs (i + 1)) (xs (i + 2))) mv_X4_of ml_L_25 rfl ⟨rfl, rfl, Nat.le_of_ble_eq_true rfl, Nat.le_of_ble_eq_true rfl⟩ rfl rfl (Nat.le_of_ble_eq_true rfl) dL_law_303 (fun r2 jm2 hr2 => ?_)
  exact k_icmp_eq (tgt := 1506) hK dL_law_306 (by decide) (fun _ => k _ _ _ (ok_of hs (xs (i + 1)) (xs (i + 2)))) (fun h => absurd (hr.trans hr2.symm) h)
set_option maxHeartbeats 4000000 in
set_option maxRecDepth 100000 in
theorem lw_c3 (hJ : KLw l room_1 cL_law RL 4 g sc L xs J) (hL : L ≤ 3072) (hi : i + 6 ≤ L) (hs : kOk s) (k : ∀ (s2 : KS) (jc : CJ) (jm : MJ), kOk s2 → J (clsA g a aK aL aT s2 jc ++ modA g b s2 jm) [(0, .ref sc), (1, .ref (a 0)), (2, .ref (b 0)), (3, .int (nI i))] 1506 []) : J (clsA g a aK aL aT s jc ++ modA g b s jm) [(0, .ref sc), (1, .ref (a 0)), (2, .ref (b 0)), (3, .int (nI i))] 311 [] := by
  have hK := hJ.ko
  refine k_aload_n hK dL_law_311 1 rfl ?_
  refine k_aload_n hK dL_law_312 0 rfl ?_
  refine k_iload_n hK dL_law_313 3 rfl ?_
  refine k_iconst (v := nI 1) hK dL_law_314 (by decide) ?_
  refine n_iadd hK dL_law_315 ?_
  refine l_sld hJ dL_law_316 hL (by omega) ?_
  refine k_aload_n hK dL_law_317 0 rfl ?_
  refine k_iload_n hK dL_law_318 3 rfl ?_
  refine k_iconst (v := nI 2) hK dL_law_319 (by decide) ?_
  refine n_iadd hK dL_law_320 ?_
  refine l_sld hJ dL_law_321 hL (by omega) ?_
  refine k_aload_n hK dL_law_322 0 rfl ?_
  refine k_iload_n hK dL_law_323 3 rfl ?_
  refine k_iconst (v := nI 3) hK dL_law_324 (by decide) ?_
  refine n_iadd hK dL_law_325 ?_
  refine l_sld hJ dL_law_326 hL (by omega) ?_
  refine l_cls hK (cp_set l g a aK aL aT jc s hs (xs (i + 1)) (xs (i + 2)) (xs (i + 3))) mv_X3_set ml_L_26 rfl ⟨rfl, rfl, Nat.le_of_ble_eq_true rfl, Nat.le_of_ble_eq_true rfl⟩ rfl rfl (by decide) dL_law_327 (fun r jc2 hr => ?_)
  refine k_aload_n hK dL_law_330 2 rfl ?_
  refine k_aload_n hK dL_law_331 0 rfl ?_
  refine k_iload_n hK dL_law_332 3 rfl ?_
  refine k_iconst (v := nI 1) hK dL_law_333 (by decide) ?_
  refine n_iadd hK dL_law_334 ?_
  refine l_sld hJ dL_law_335 hL (by omega) ?_
  refine k_aload_n hK dL_law_336 0 rfl ?_
  refine k_iload_n hK dL_law_337 3 rfl ?_
  refine k_iconst (v := nI 2) hK dL_law_338 (by decide) ?_
  refine n_iadd hK dL_law_339 ?_
  refine l_sld hJ dL_law_340 hL (by omega) ?_
  refine k_aload_n hK dL_law_341 0 rfl ?_
  refine k_iload_n hK dL_law_342 3 rfl ?_
  refine k_iconst (v := nI 3) hK dL_law_343 (by decide) ?_
  refine n_iadd hK dL_law_344 ?_
  refine l_sld hJ dL_law_345 hL (by omega) ?_
  refine l_mod hK (mp_set l g b jm s hs (xs (i + 1)) (xs (i + 2)) (xs (i + 3))) mv_X4_set ml_L_30 rfl ⟨rfl, rfl, Nat.le_of_ble_eq_true rfl, Nat.le_of_ble_eq_true rfl⟩ rfl rfl (Nat.le_of_ble_eq_true rfl) dL_law_346 (fun r2 jm2 hr2 => ?_)
  exact k_icmp_eq (tgt := 1506) hK dL_law_349 (by decide) (fun _ => k _ _ _ (ok_set hs (xs (i + 1)) (xs (i + 2)) (xs (i + 3)))) (fun h => absurd (hr.trans hr2.symm) h)
set_option maxHeartbeats 4000000 in
set_option maxRecDepth 100000 in
theorem lw_c4 (hJ : KLw l room_1 cL_law RL 4 g sc L xs J) (hL : L ≤ 3072) (hi : i + 6 ≤ L) (hs : kOk s) (k : ∀ (s2 : KS) (jc : CJ) (jm : MJ), kOk s2 → J (clsA g a aK aL aT s2 jc ++ modA g b s2 jm) [(0, .ref sc), (1, .ref (a 0)), (2, .ref (b 0)), (3, .int (nI i))] 1506 []) : J (clsA g a aK aL aT s jc ++ modA g b s jm) [(0, .ref sc), (1, .ref (a 0)), (2, .ref (b 0)), (3, .int (nI i))] 354 [] := by
  have hK := hJ.ko
  refine k_aload_n hK dL_law_354 1 rfl ?_
  refine k_aload_n hK dL_law_355 0 rfl ?_
  refine k_iload_n hK dL_law_356 3 rfl ?_
  refine k_iconst (v := nI 1) hK dL_law_357 (by decide) ?_
  refine n_iadd hK dL_law_358 ?_
  refine l_sld hJ dL_law_359 hL (by omega) ?_
  refine k_aload_n hK dL_law_360 0 rfl ?_
  refine k_iload_n hK dL_law_361 3 rfl ?_
  refine k_iconst (v := nI 2) hK dL_law_362 (by decide) ?_
  refine n_iadd hK dL_law_363 ?_
  refine l_sld hJ dL_law_364 hL (by omega) ?_
  refine k_aload_n hK dL_law_365 0 rfl ?_
  refine k_iload_n hK dL_law_366 3 rfl ?_
  refine k_iconst (v := nI 3) hK dL_law_367 (by decide) ?_
  refine n_iadd hK dL_law_368 ?_
  refine l_sld hJ dL_law_369 hL (by omega) ?_
  refine l_cls hK (cp_did l g a aK aL aT jc s hs (xs (i + 1)) (xs (i + 2)) (xs (i + 3))) mv_X3_did ml_L_31 rfl ⟨rfl, rfl, Nat.le_of_ble_eq_true rfl, Nat.le_of_ble_eq_true rfl⟩ rfl rfl (by decide) dL_law_370 (fun r jc2 hr => ?_)
  refine k_aload_n hK dL_law_373 2 rfl ?_
  refine k_aload_n hK dL_law_374 0 rfl ?_
  refine k_iload_n hK dL_law_375 3 rfl ?_
  refine k_iconst (v := nI 1) hK dL_law_376 (by decide) ?_
  refine n_iadd hK dL_law_377 ?_
  refine l_sld hJ dL_law_378 hL (by omega) ?_
  refine k_aload_n hK dL_law_379 0 rfl ?_
  refine k_iload_n hK dL_law_380 3 rfl ?_
  refine k_iconst (v := nI 2) hK dL_law_381 (by decide) ?_
  refine n_iadd hK dL_law_382 ?_
  refine l_sld hJ dL_law_383 hL (by omega) ?_
  refine k_aload_n hK dL_law_384 0 rfl ?_
  refine k_iload_n hK dL_law_385 3 rfl ?_
  refine k_iconst (v := nI 3) hK dL_law_386 (by decide) ?_
  refine n_iadd hK dL_law_387 ?_
  refine l_sld hJ dL_law_388 hL (by omega) ?_
  refine l_mod hK (mp_did l g b jm s hs (xs (i + 1)) (xs (i + 2)) (xs (i + 3))) mv_X4_did ml_L_34 rfl ⟨rfl, rfl, Nat.le_of_ble_eq_true rfl, Nat.le_of_ble_eq_true rfl⟩ rfl rfl (Nat.le_of_ble_eq_true rfl) dL_law_389 (fun r2 jm2 hr2 => ?_)
  exact k_icmp_eq (tgt := 1506) hK dL_law_392 (by decide) (fun _ => k _ _ _ (ok_did hs (xs (i + 1)) (xs (i + 2)) (xs (i + 3)))) (fun h => absurd (hr.trans hr2.symm) h)
set_option maxHeartbeats 4000000 in
set_option maxRecDepth 100000 in
theorem lw_c5 (hJ : KLw l room_1 cL_law RL 4 g sc L xs J) (hL : L ≤ 3072) (hi : i + 6 ≤ L) (hs : kOk s) (k : ∀ (s2 : KS) (jc : CJ) (jm : MJ), kOk s2 → J (clsA g a aK aL aT s2 jc ++ modA g b s2 jm) [(0, .ref sc), (1, .ref (a 0)), (2, .ref (b 0)), (3, .int (nI i))] 1506 []) : J (clsA g a aK aL aT s jc ++ modA g b s jm) [(0, .ref sc), (1, .ref (a 0)), (2, .ref (b 0)), (3, .int (nI i))] 397 [] := by
  have hK := hJ.ko
  refine k_aload_n hK dL_law_397 1 rfl ?_
  refine k_aload_n hK dL_law_398 0 rfl ?_
  refine k_iload_n hK dL_law_399 3 rfl ?_
  refine k_iconst (v := nI 1) hK dL_law_400 (by decide) ?_
  refine n_iadd hK dL_law_401 ?_
  refine l_sld hJ dL_law_402 hL (by omega) ?_
  refine k_aload_n hK dL_law_403 0 rfl ?_
  refine k_iload_n hK dL_law_404 3 rfl ?_
  refine k_iconst (v := nI 2) hK dL_law_405 (by decide) ?_
  refine n_iadd hK dL_law_406 ?_
  refine l_sld hJ dL_law_407 hL (by omega) ?_
  refine k_aload_n hK dL_law_408 0 rfl ?_
  refine k_iload_n hK dL_law_409 3 rfl ?_
  refine k_iconst (v := nI 3) hK dL_law_410 (by decide) ?_
  refine n_iadd hK dL_law_411 ?_
  refine l_sld hJ dL_law_412 hL (by omega) ?_
  refine l_cls hK (cp_scent l g a aK aL aT jc s hs (xs (i + 1)) (xs (i + 2)) (xs (i + 3))) mv_X3_scent ml_L_35 rfl ⟨rfl, rfl, Nat.le_of_ble_eq_true rfl, Nat.le_of_ble_eq_true rfl⟩ rfl rfl (by decide) dL_law_413 (fun r jc2 hr => ?_)
  refine k_aload_n hK dL_law_416 2 rfl ?_
  refine k_aload_n hK dL_law_417 0 rfl ?_
  refine k_iload_n hK dL_law_418 3 rfl ?_
  refine k_iconst (v := nI 1) hK dL_law_419 (by decide) ?_
  refine n_iadd hK dL_law_420 ?_
  refine l_sld hJ dL_law_421 hL (by omega) ?_
  refine k_aload_n hK dL_law_422 0 rfl ?_
  refine k_iload_n hK dL_law_423 3 rfl ?_
  refine k_iconst (v := nI 2) hK dL_law_424 (by decide) ?_
  refine n_iadd hK dL_law_425 ?_
  refine l_sld hJ dL_law_426 hL (by omega) ?_
  refine k_aload_n hK dL_law_427 0 rfl ?_
  refine k_iload_n hK dL_law_428 3 rfl ?_
  refine k_iconst (v := nI 3) hK dL_law_429 (by decide) ?_
  refine n_iadd hK dL_law_430 ?_
  refine l_sld hJ dL_law_431 hL (by omega) ?_
  refine l_mod hK (mp_scent l g b jm s hs (xs (i + 1)) (xs (i + 2)) (xs (i + 3))) mv_X4_scent ml_L_38 rfl ⟨rfl, rfl, Nat.le_of_ble_eq_true rfl, Nat.le_of_ble_eq_true rfl⟩ rfl rfl (Nat.le_of_ble_eq_true rfl) dL_law_432 (fun r2 jm2 hr2 => ?_)
  exact k_icmp_eq (tgt := 1506) hK dL_law_435 (by decide) (fun _ => k _ _ _ (ok_scent hs (xs (i + 1)) (xs (i + 2)) (xs (i + 3)))) (fun h => absurd (hr.trans hr2.symm) h)
set_option maxHeartbeats 4000000 in
set_option maxRecDepth 100000 in
theorem lw_c6 (hJ : KLw l room_1 cL_law RL 4 g sc L xs J) (hL : L ≤ 3072) (hi : i + 6 ≤ L) (hs : kOk s) (k : ∀ (s2 : KS) (jc : CJ) (jm : MJ), kOk s2 → J (clsA g a aK aL aT s2 jc ++ modA g b s2 jm) [(0, .ref sc), (1, .ref (a 0)), (2, .ref (b 0)), (3, .int (nI i))] 1506 []) : J (clsA g a aK aL aT s jc ++ modA g b s jm) [(0, .ref sc), (1, .ref (a 0)), (2, .ref (b 0)), (3, .int (nI i))] 440 [] := by
  have hK := hJ.ko
  refine k_aload_n hK dL_law_440 1 rfl ?_
  refine k_aload_n hK dL_law_441 0 rfl ?_
  refine k_iload_n hK dL_law_442 3 rfl ?_
  refine k_iconst (v := nI 1) hK dL_law_443 (by decide) ?_
  refine n_iadd hK dL_law_444 ?_
  refine l_sld hJ dL_law_445 hL (by omega) ?_
  refine k_aload_n hK dL_law_446 0 rfl ?_
  refine k_iload_n hK dL_law_447 3 rfl ?_
  refine k_iconst (v := nI 2) hK dL_law_448 (by decide) ?_
  refine n_iadd hK dL_law_449 ?_
  refine l_sld hJ dL_law_450 hL (by omega) ?_
  refine l_cls hK (cp_turn l g a aK aL aT jc s hs (xs (i + 1)) (xs (i + 2))) mv_X3_turn ml_L_39 rfl ⟨rfl, rfl, Nat.le_of_ble_eq_true rfl, Nat.le_of_ble_eq_true rfl⟩ rfl rfl (by decide) dL_law_451 (fun r jc2 hr => ?_)
  refine k_aload_n hK dL_law_454 2 rfl ?_
  refine k_aload_n hK dL_law_455 0 rfl ?_
  refine k_iload_n hK dL_law_456 3 rfl ?_
  refine k_iconst (v := nI 1) hK dL_law_457 (by decide) ?_
  refine n_iadd hK dL_law_458 ?_
  refine l_sld hJ dL_law_459 hL (by omega) ?_
  refine k_aload_n hK dL_law_460 0 rfl ?_
  refine k_iload_n hK dL_law_461 3 rfl ?_
  refine k_iconst (v := nI 2) hK dL_law_462 (by decide) ?_
  refine n_iadd hK dL_law_463 ?_
  refine l_sld hJ dL_law_464 hL (by omega) ?_
  refine l_mod hK (mp_turn l g b jm s hs (xs (i + 1)) (xs (i + 2))) mv_X4_turn ml_L_42 rfl ⟨rfl, rfl, Nat.le_of_ble_eq_true rfl, Nat.le_of_ble_eq_true rfl⟩ rfl rfl (Nat.le_of_ble_eq_true rfl) dL_law_465 (fun r2 jm2 hr2 => ?_)
  exact k_icmp_eq (tgt := 1506) hK dL_law_468 (by decide) (fun _ => k _ _ _ (ok_turn hs (xs (i + 1)) (xs (i + 2)))) (fun h => absurd (hr.trans hr2.symm) h)
set_option maxHeartbeats 4000000 in
set_option maxRecDepth 100000 in
theorem lw_c7 (hJ : KLw l room_1 cL_law RL 4 g sc L xs J) (hL : L ≤ 3072) (hi : i + 6 ≤ L) (hs : kOk s) (k : ∀ (s2 : KS) (jc : CJ) (jm : MJ), kOk s2 → J (clsA g a aK aL aT s2 jc ++ modA g b s2 jm) [(0, .ref sc), (1, .ref (a 0)), (2, .ref (b 0)), (3, .int (nI i))] 1506 []) : J (clsA g a aK aL aT s jc ++ modA g b s jm) [(0, .ref sc), (1, .ref (a 0)), (2, .ref (b 0)), (3, .int (nI i))] 473 [] := by
  have hK := hJ.ko
  refine k_aload_n hK dL_law_473 1 rfl ?_
  refine k_aload_n hK dL_law_474 0 rfl ?_
  refine k_iload_n hK dL_law_475 3 rfl ?_
  refine k_iconst (v := nI 1) hK dL_law_476 (by decide) ?_
  refine n_iadd hK dL_law_477 ?_
  refine l_sld hJ dL_law_478 hL (by omega) ?_
  refine k_aload_n hK dL_law_479 0 rfl ?_
  refine k_iload_n hK dL_law_480 3 rfl ?_
  refine k_iconst (v := nI 2) hK dL_law_481 (by decide) ?_
  refine n_iadd hK dL_law_482 ?_
  refine l_sld hJ dL_law_483 hL (by omega) ?_
  refine l_cls hK (cp_as l g a aK aL aT jc s hs (xs (i + 1)) (xs (i + 2))) mv_X3_as ml_L_43 rfl ⟨rfl, rfl, Nat.le_of_ble_eq_true rfl, Nat.le_of_ble_eq_true rfl⟩ rfl rfl (by decide) dL_law_484 (fun r jc2 hr => ?_)
  refine k_aload_n hK dL_law_487 2 rfl ?_
  refine k_aload_n hK dL_law_488 0 rfl ?_
  refine k_iload_n hK dL_law_489 3 rfl ?_
  refine k_iconst (v := nI 1) hK dL_law_490 (by decide) ?_
  refine n_iadd hK dL_law_491 ?_
  refine l_sld hJ dL_law_492 hL (by omega) ?_
  refine k_aload_n hK dL_law_493 0 rfl ?_
  refine k_iload_n hK dL_law_494 3 rfl ?_
  refine k_iconst (v := nI 2) hK dL_law_495 (by decide) ?_
  refine n_iadd hK dL_law_496 ?_
  refine l_sld hJ dL_law_497 hL (by omega) ?_
  refine l_mod hK (mp_as l g b jm s hs (xs (i + 1)) (xs (i + 2))) mv_X4_as ml_L_46 rfl ⟨rfl, rfl, Nat.le_of_ble_eq_true rfl, Nat.le_of_ble_eq_true rfl⟩ rfl rfl (Nat.le_of_ble_eq_true rfl) dL_law_498 (fun r2 jm2 hr2 => ?_)
  exact k_icmp_eq (tgt := 1506) hK dL_law_501 (by decide) (fun _ => k _ _ _ (ok_as hs (xs (i + 1)) (xs (i + 2)))) (fun h => absurd (hr.trans hr2.symm) h)
set_option maxHeartbeats 4000000 in
set_option maxRecDepth 100000 in
theorem lw_c8 (hJ : KLw l room_1 cL_law RL 4 g sc L xs J) (hL : L ≤ 3072) (hi : i + 6 ≤ L) (hs : kOk s) (k : ∀ (s2 : KS) (jc : CJ) (jm : MJ), kOk s2 → J (clsA g a aK aL aT s2 jc ++ modA g b s2 jm) [(0, .ref sc), (1, .ref (a 0)), (2, .ref (b 0)), (3, .int (nI i))] 1506 []) : J (clsA g a aK aL aT s jc ++ modA g b s jm) [(0, .ref sc), (1, .ref (a 0)), (2, .ref (b 0)), (3, .int (nI i))] 506 [] := by
  have hK := hJ.ko
  refine k_aload_n hK dL_law_506 1 rfl ?_
  refine k_aload_n hK dL_law_507 0 rfl ?_
  refine k_iload_n hK dL_law_508 3 rfl ?_
  refine k_iconst (v := nI 1) hK dL_law_509 (by decide) ?_
  refine n_iadd hK dL_law_510 ?_
  refine l_sld hJ dL_law_511 hL (by omega) ?_
  refine l_cls hK (cp_wash l g a aK aL aT jc s hs (xs (i + 1))) mv_X3_wash ml_L_47 rfl ⟨rfl, rfl, Nat.le_of_ble_eq_true rfl, Nat.le_of_ble_eq_true rfl⟩ rfl rfl (by decide) dL_law_512 (fun r jc2 hr => ?_)
  refine k_aload_n hK dL_law_515 2 rfl ?_
  refine k_aload_n hK dL_law_516 0 rfl ?_
  refine k_iload_n hK dL_law_517 3 rfl ?_
  refine k_iconst (v := nI 1) hK dL_law_518 (by decide) ?_
  refine n_iadd hK dL_law_519 ?_
  refine l_sld hJ dL_law_520 hL (by omega) ?_
  refine l_mod hK (mp_wash l g b jm s hs (xs (i + 1))) mv_X4_wash ml_L_51 rfl ⟨rfl, rfl, Nat.le_of_ble_eq_true rfl, Nat.le_of_ble_eq_true rfl⟩ rfl rfl (Nat.le_of_ble_eq_true rfl) dL_law_521 (fun r2 jm2 hr2 => ?_)
  exact k_icmp_eq (tgt := 1506) hK dL_law_524 (by decide) (fun _ => k _ _ _ (ok_wash hs (xs (i + 1)))) (fun h => absurd (hr.trans hr2.symm) h)
set_option maxHeartbeats 4000000 in
set_option maxRecDepth 100000 in
theorem lw_c9 (hJ : KLw l room_1 cL_law RL 4 g sc L xs J) (hL : L ≤ 3072) (hi : i + 6 ≤ L) (hs : kOk s) (k : ∀ (s2 : KS) (jc : CJ) (jm : MJ), kOk s2 → J (clsA g a aK aL aT s2 jc ++ modA g b s2 jm) [(0, .ref sc), (1, .ref (a 0)), (2, .ref (b 0)), (3, .int (nI i))] 1506 []) : J (clsA g a aK aL aT s jc ++ modA g b s jm) [(0, .ref sc), (1, .ref (a 0)), (2, .ref (b 0)), (3, .int (nI i))] 529 [] := by
  have hK := hJ.ko
  refine k_aload_n hK dL_law_529 1 rfl ?_
  refine k_aload_n hK dL_law_530 0 rfl ?_
  refine k_iload_n hK dL_law_531 3 rfl ?_
  refine k_iconst (v := nI 1) hK dL_law_532 (by decide) ?_
  refine n_iadd hK dL_law_533 ?_
  refine l_sld hJ dL_law_534 hL (by omega) ?_
  refine k_aload_n hK dL_law_535 0 rfl ?_
  refine k_iload_n hK dL_law_536 3 rfl ?_
  refine k_iconst (v := nI 2) hK dL_law_537 (by decide) ?_
  refine n_iadd hK dL_law_538 ?_
  refine l_sld hJ dL_law_539 hL (by omega) ?_
  refine l_cls hK (cp_meet l g a aK aL aT jc s hs (xs (i + 1)) (xs (i + 2))) mv_X3_meet ml_L_52 rfl ⟨rfl, rfl, Nat.le_of_ble_eq_true rfl, Nat.le_of_ble_eq_true rfl⟩ rfl rfl (by decide) dL_law_540 (fun r jc2 hr => ?_)
  refine k_aload_n hK dL_law_543 2 rfl ?_
  refine k_aload_n hK dL_law_544 0 rfl ?_
  refine k_iload_n hK dL_law_545 3 rfl ?_
  refine k_iconst (v := nI 1) hK dL_law_546 (by decide) ?_
  refine n_iadd hK dL_law_547 ?_
  refine l_sld hJ dL_law_548 hL (by omega) ?_
  refine k_aload_n hK dL_law_549 0 rfl ?_
  refine k_iload_n hK dL_law_550 3 rfl ?_
  refine k_iconst (v := nI 2) hK dL_law_551 (by decide) ?_
  refine n_iadd hK dL_law_552 ?_
  refine l_sld hJ dL_law_553 hL (by omega) ?_
  refine l_mod hK (mp_meet l g b jm s hs (xs (i + 1)) (xs (i + 2))) mv_X4_meet ml_L_55 rfl ⟨rfl, rfl, Nat.le_of_ble_eq_true rfl, Nat.le_of_ble_eq_true rfl⟩ rfl rfl (Nat.le_of_ble_eq_true rfl) dL_law_554 (fun r2 jm2 hr2 => ?_)
  exact k_icmp_eq (tgt := 1506) hK dL_law_557 (by decide) (fun _ => k _ _ _ (ok_meet hs (xs (i + 1)) (xs (i + 2)))) (fun h => absurd (hr.trans hr2.symm) h)
set_option maxHeartbeats 4000000 in
set_option maxRecDepth 100000 in
theorem lw_c10 (hJ : KLw l room_1 cL_law RL 4 g sc L xs J) (hL : L ≤ 3072) (hi : i + 6 ≤ L) (hs : kOk s) (k : ∀ (s2 : KS) (jc : CJ) (jm : MJ), kOk s2 → J (clsA g a aK aL aT s2 jc ++ modA g b s2 jm) [(0, .ref sc), (1, .ref (a 0)), (2, .ref (b 0)), (3, .int (nI i))] 1506 []) : J (clsA g a aK aL aT s jc ++ modA g b s jm) [(0, .ref sc), (1, .ref (a 0)), (2, .ref (b 0)), (3, .int (nI i))] 562 [] := by
  have hK := hJ.ko
  refine k_aload_n hK dL_law_562 1 rfl ?_
  refine k_aload_n hK dL_law_563 0 rfl ?_
  refine k_iload_n hK dL_law_564 3 rfl ?_
  refine k_iconst (v := nI 1) hK dL_law_565 (by decide) ?_
  refine n_iadd hK dL_law_566 ?_
  refine l_sld hJ dL_law_567 hL (by omega) ?_
  refine k_aload_n hK dL_law_568 0 rfl ?_
  refine k_iload_n hK dL_law_569 3 rfl ?_
  refine k_iconst (v := nI 2) hK dL_law_570 (by decide) ?_
  refine n_iadd hK dL_law_571 ?_
  refine l_sld hJ dL_law_572 hL (by omega) ?_
  refine k_aload_n hK dL_law_573 0 rfl ?_
  refine k_iload_n hK dL_law_574 3 rfl ?_
  refine k_iconst (v := nI 3) hK dL_law_575 (by decide) ?_
  refine n_iadd hK dL_law_576 ?_
  refine l_sld hJ dL_law_577 hL (by omega) ?_
  refine l_cls hK (cp_smells l g a aK aL aT jc s hs (xs (i + 1)) (xs (i + 2)) (xs (i + 3))) mv_X3_smells ml_L_56 rfl ⟨rfl, rfl, Nat.le_of_ble_eq_true rfl, Nat.le_of_ble_eq_true rfl⟩ rfl rfl (by decide) dL_law_578 (fun r jc2 hr => ?_)
  refine k_aload_n hK dL_law_581 2 rfl ?_
  refine k_aload_n hK dL_law_582 0 rfl ?_
  refine k_iload_n hK dL_law_583 3 rfl ?_
  refine k_iconst (v := nI 1) hK dL_law_584 (by decide) ?_
  refine n_iadd hK dL_law_585 ?_
  refine l_sld hJ dL_law_586 hL (by omega) ?_
  refine k_aload_n hK dL_law_587 0 rfl ?_
  refine k_iload_n hK dL_law_588 3 rfl ?_
  refine k_iconst (v := nI 2) hK dL_law_589 (by decide) ?_
  refine n_iadd hK dL_law_590 ?_
  refine l_sld hJ dL_law_591 hL (by omega) ?_
  refine k_aload_n hK dL_law_592 0 rfl ?_
  refine k_iload_n hK dL_law_593 3 rfl ?_
  refine k_iconst (v := nI 3) hK dL_law_594 (by decide) ?_
  refine n_iadd hK dL_law_595 ?_
  refine l_sld hJ dL_law_596 hL (by omega) ?_
  refine l_mod hK (mp_smells l g b jm s hs (xs (i + 1)) (xs (i + 2)) (xs (i + 3))) mv_X4_smells ml_L_59 rfl ⟨rfl, rfl, Nat.le_of_ble_eq_true rfl, Nat.le_of_ble_eq_true rfl⟩ rfl rfl (Nat.le_of_ble_eq_true rfl) dL_law_597 (fun r2 jm2 hr2 => ?_)
  exact k_icmp_eq (tgt := 1506) hK dL_law_600 (by decide) (fun _ => k _ _ _ (ok_smells hs (xs (i + 1)) (xs (i + 2)) (xs (i + 3)))) (fun h => absurd (hr.trans hr2.symm) h)
set_option maxHeartbeats 4000000 in
set_option maxRecDepth 100000 in
theorem lw_c11 (hJ : KLw l room_1 cL_law RL 4 g sc L xs J) (hL : L ≤ 3072) (hi : i + 6 ≤ L) (hs : kOk s) (k : ∀ (s2 : KS) (jc : CJ) (jm : MJ), kOk s2 → J (clsA g a aK aL aT s2 jc ++ modA g b s2 jm) [(0, .ref sc), (1, .ref (a 0)), (2, .ref (b 0)), (3, .int (nI i))] 1506 []) : J (clsA g a aK aL aT s jc ++ modA g b s jm) [(0, .ref sc), (1, .ref (a 0)), (2, .ref (b 0)), (3, .int (nI i))] 605 [] := by
  have hK := hJ.ko
  refine k_aload_n hK dL_law_605 1 rfl ?_
  refine k_aload_n hK dL_law_606 0 rfl ?_
  refine k_iload_n hK dL_law_607 3 rfl ?_
  refine k_iconst (v := nI 1) hK dL_law_608 (by decide) ?_
  refine n_iadd hK dL_law_609 ?_
  refine l_sld hJ dL_law_610 hL (by omega) ?_
  refine k_aload_n hK dL_law_611 0 rfl ?_
  refine k_iload_n hK dL_law_612 3 rfl ?_
  refine k_iconst (v := nI 2) hK dL_law_613 (by decide) ?_
  refine n_iadd hK dL_law_614 ?_
  refine l_sld hJ dL_law_615 hL (by omega) ?_
  refine l_cls hK (cp_deed l g a aK aL aT jc s hs (xs (i + 1)) (xs (i + 2))) mv_X3_deed ml_L_60 rfl ⟨rfl, rfl, Nat.le_of_ble_eq_true rfl, Nat.le_of_ble_eq_true rfl⟩ rfl rfl (by decide) dL_law_616 (fun r jc2 hr => ?_)
  refine k_aload_n hK dL_law_619 2 rfl ?_
  refine k_aload_n hK dL_law_620 0 rfl ?_
  refine k_iload_n hK dL_law_621 3 rfl ?_
  refine k_iconst (v := nI 1) hK dL_law_622 (by decide) ?_
  refine n_iadd hK dL_law_623 ?_
  refine l_sld hJ dL_law_624 hL (by omega) ?_
  refine k_aload_n hK dL_law_625 0 rfl ?_
  refine k_iload_n hK dL_law_626 3 rfl ?_
  refine k_iconst (v := nI 2) hK dL_law_627 (by decide) ?_
  refine n_iadd hK dL_law_628 ?_
  refine l_sld hJ dL_law_629 hL (by omega) ?_
  refine l_mod hK (mp_deed l g b jm s hs (xs (i + 1)) (xs (i + 2))) mv_X4_deed ml_L_63 rfl ⟨rfl, rfl, Nat.le_of_ble_eq_true rfl, Nat.le_of_ble_eq_true rfl⟩ rfl rfl (Nat.le_of_ble_eq_true rfl) dL_law_630 (fun r2 jm2 hr2 => ?_)
  exact k_icmp_eq (tgt := 1506) hK dL_law_633 (by decide) (fun _ => k _ _ _ (ok_deed hs (xs (i + 1)) (xs (i + 2)))) (fun h => absurd (hr.trans hr2.symm) h)
set_option maxHeartbeats 4000000 in
set_option maxRecDepth 100000 in
theorem lw_c12 (hJ : KLw l room_1 cL_law RL 4 g sc L xs J) (hL : L ≤ 3072) (hi : i + 6 ≤ L) (hs : kOk s) (k : ∀ (s2 : KS) (jc : CJ) (jm : MJ), kOk s2 → J (clsA g a aK aL aT s2 jc ++ modA g b s2 jm) [(0, .ref sc), (1, .ref (a 0)), (2, .ref (b 0)), (3, .int (nI i))] 1506 []) : J (clsA g a aK aL aT s jc ++ modA g b s jm) [(0, .ref sc), (1, .ref (a 0)), (2, .ref (b 0)), (3, .int (nI i))] 638 [] := by
  have hK := hJ.ko
  refine k_aload_n hK dL_law_638 1 rfl ?_
  refine k_aload_n hK dL_law_639 0 rfl ?_
  refine k_iload_n hK dL_law_640 3 rfl ?_
  refine k_iconst (v := nI 1) hK dL_law_641 (by decide) ?_
  refine n_iadd hK dL_law_642 ?_
  refine l_sld hJ dL_law_643 hL (by omega) ?_
  refine l_cls hK (cp_guilty l g a aK aL aT jc s hs (xs (i + 1))) mv_X3_guilty ml_L_64 rfl ⟨rfl, rfl, Nat.le_of_ble_eq_true rfl, Nat.le_of_ble_eq_true rfl⟩ rfl rfl (by decide) dL_law_644 (fun r jc2 hr => ?_)
  refine k_aload_n hK dL_law_647 2 rfl ?_
  refine k_aload_n hK dL_law_648 0 rfl ?_
  refine k_iload_n hK dL_law_649 3 rfl ?_
  refine k_iconst (v := nI 1) hK dL_law_650 (by decide) ?_
  refine n_iadd hK dL_law_651 ?_
  refine l_sld hJ dL_law_652 hL (by omega) ?_
  refine l_mod hK (mp_guilty l g b jm s hs (xs (i + 1))) mv_X4_guilty ml_L_67 rfl ⟨rfl, rfl, Nat.le_of_ble_eq_true rfl, Nat.le_of_ble_eq_true rfl⟩ rfl rfl (Nat.le_of_ble_eq_true rfl) dL_law_653 (fun r2 jm2 hr2 => ?_)
  exact k_icmp_eq (tgt := 1506) hK dL_law_656 (by decide) (fun _ => k _ _ _ (ok_guilty hs (xs (i + 1)))) (fun h => absurd (hr.trans hr2.symm) h)
set_option maxHeartbeats 4000000 in
set_option maxRecDepth 100000 in
theorem lw_c13 (hJ : KLw l room_1 cL_law RL 4 g sc L xs J) (hL : L ≤ 3072) (hi : i + 6 ≤ L) (hs : kOk s) (k : ∀ (s2 : KS) (jc : CJ) (jm : MJ), kOk s2 → J (clsA g a aK aL aT s2 jc ++ modA g b s2 jm) [(0, .ref sc), (1, .ref (a 0)), (2, .ref (b 0)), (3, .int (nI i))] 1506 []) : J (clsA g a aK aL aT s jc ++ modA g b s jm) [(0, .ref sc), (1, .ref (a 0)), (2, .ref (b 0)), (3, .int (nI i))] 661 [] := by
  have hK := hJ.ko
  refine k_aload_n hK dL_law_661 1 rfl ?_
  refine k_aload_n hK dL_law_662 0 rfl ?_
  refine k_iload_n hK dL_law_663 3 rfl ?_
  refine k_iconst (v := nI 1) hK dL_law_664 (by decide) ?_
  refine n_iadd hK dL_law_665 ?_
  refine l_sld hJ dL_law_666 hL (by omega) ?_
  refine k_aload_n hK dL_law_667 0 rfl ?_
  refine k_iload_n hK dL_law_668 3 rfl ?_
  refine k_iconst (v := nI 2) hK dL_law_669 (by decide) ?_
  refine n_iadd hK dL_law_670 ?_
  refine l_sld hJ dL_law_671 hL (by omega) ?_
  refine l_cls hK (cp_convicts l g a aK aL aT jc s hs (xs (i + 1)) (xs (i + 2))) mv_X3_convicts ml_L_68 rfl ⟨rfl, rfl, Nat.le_of_ble_eq_true rfl, Nat.le_of_ble_eq_true rfl⟩ rfl rfl (by decide) dL_law_672 (fun r jc2 hr => ?_)
  refine k_aload_n hK dL_law_675 2 rfl ?_
  refine k_aload_n hK dL_law_676 0 rfl ?_
  refine k_iload_n hK dL_law_677 3 rfl ?_
  refine k_iconst (v := nI 1) hK dL_law_678 (by decide) ?_
  refine n_iadd hK dL_law_679 ?_
  refine l_sld hJ dL_law_680 hL (by omega) ?_
  refine k_aload_n hK dL_law_681 0 rfl ?_
  refine k_iload_n hK dL_law_682 3 rfl ?_
  refine k_iconst (v := nI 2) hK dL_law_683 (by decide) ?_
  refine n_iadd hK dL_law_684 ?_
  refine l_sld hJ dL_law_685 hL (by omega) ?_
  refine l_mod hK (mp_convicts l g b jm s hs (xs (i + 1)) (xs (i + 2))) mv_X4_convicts ml_L_71 rfl ⟨rfl, rfl, Nat.le_of_ble_eq_true rfl, Nat.le_of_ble_eq_true rfl⟩ rfl rfl (Nat.le_of_ble_eq_true rfl) dL_law_686 (fun r2 jm2 hr2 => ?_)
  exact k_icmp_eq (tgt := 1506) hK dL_law_689 (by decide) (fun _ => k _ _ _ (ok_convicts hs (xs (i + 1)) (xs (i + 2)))) (fun h => absurd (hr.trans hr2.symm) h)
end LA
