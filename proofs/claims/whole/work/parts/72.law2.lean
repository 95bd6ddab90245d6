theorem ti0 {c : T2} (hT : TI c) : ∀ i, i < 36 → (0 < c 2 i ↔ ¬ c 2 i = 0) := by
  intro i hi
  obtain ⟨e, l⟩ := (hT.1 i hi).1
  rw [e]
  generalize tn (c 2 i) = a at l
  have h0 : (nI 0).toInt = 0 := by decide
  have ha : (nI a).toInt = a := nI_toInt (by omega)
  rw [show (0 : Int32) = nI 0 from rfl, nI_eq (by omega) (by decide), Int32.lt_iff_toInt_lt, h0, ha]
  omega
set_option maxHeartbeats 4000000 in
set_option maxRecDepth 100000 in
theorem lc_road {D : xD} {N : Nat} {l : Launch} {b Ln t : Nat} {xs : Nat → Int32} {c x V z : T2} {P Q : FN} {ln df : Nat → Option Nat} {lines : List va_E} {nb m mq nm tu e nk tp : Nat} (hb : b < N) (hLn : Ln ≤ 3072) (ht : 6 * t + 6 ≤ Ln) (h : IV c P Q (2500 * t) nb m mq nm tu e nk tp) (hLK : LK D N c ln lines) (nx : NX D N l b Ln xs t) : LWp D N l b Ln xs t 220 [] (HG D N c x V P Q ln df z lines) := by
  obtain ⟨⟨hnb, h12, hSE, hn0⟩, ⟨hWV, hm, hSt⟩, hQ3, hT, hCI, hSZ, hG, ⟨hnm, hm6, htu, htt, he, he1, he2, h14⟩, ⟨hnk, h30, h20⟩, ⟨htp, h160, hB⟩⟩ := id h
  refine wp_aload_n d_Lw_law_220 rfl rfl ?_
  refine lw_arg (j := 1) d_Lw_law_221 d_Lw_law_222 d_Lw_law_223 d_Lw_law_224 d_Lw_law_225 rfl hb (by omega) hLn ?_
  refine lw_arg (j := 2) d_Lw_law_226 d_Lw_law_227 d_Lw_law_228 d_Lw_law_229 d_Lw_law_230 rfl hb (by omega) hLn ?_
  refine lw_arg (j := 3) d_Lw_law_231 d_Lw_law_232 d_Lw_law_233 d_Lw_law_234 d_Lw_law_235 rfl hb (by omega) hLn ?_
  refine wp_cv3 (d := 0 + 2) (q := 239) lk_Lw_13 (ro_law (by decide)) d_Lw_law_236 rfl (Nat.le_of_ble_eq_true rfl) rfl rfl (show 164 + 32 * t ≤ 600000 by omega) (show 3739 + 120 * t ≤ 7302250 by omega) ?_
  refine ok_FG_road (d := 0)  ?_
  refine lw_k0 ?_
  refine wp_aload_n d_Lw_law_239 rfl rfl ?_
  refine lw_arg (j := 1) d_Lw_law_240 d_Lw_law_241 d_Lw_law_242 d_Lw_law_243 d_Lw_law_244 rfl hb (by omega) hLn ?_
  refine lw_arg (j := 2) d_Lw_law_245 d_Lw_law_246 d_Lw_law_247 d_Lw_law_248 d_Lw_law_249 rfl hb (by omega) hLn ?_
  refine lw_arg (j := 3) d_Lw_law_250 d_Lw_law_251 d_Lw_law_252 d_Lw_law_253 d_Lw_law_254 rfl hb (by omega) hLn ?_
  refine wp_cv3 (i := 124) (d := 0 + 2) (q := 258) lk_Lw_17 (ro_law (by decide)) d_Lw_law_255 rfl (Nat.le_of_ble_eq_true rfl) ((rdX (j := 0)).trans rfl) rfl (show 164 + 32 * t ≤ 600000 by omega) (show 3739 + 120 * t ≤ 7302250 by omega) ?_
  refine ok_sh encC_len (ok_Rf_road (d := 0)  ?_)
  refine lw_k0 ?_
  exact wp_icmp_eq_t d_Lw_law_258 (by decide) rfl (wp_widen (by omega) (by omega) (nx _ _ _ _ _ _ _ _ _ (iv_road h (xs (6 * t + 1)) (xs (6 * t + 2)) (xs (6 * t + 3))).lift (hLK.kp (kp_road _ _ _ _))))
set_option maxHeartbeats 4000000 in
set_option maxRecDepth 100000 in
theorem lc_jam {D : xD} {N : Nat} {l : Launch} {b Ln t : Nat} {xs : Nat → Int32} {c x V z : T2} {P Q : FN} {ln df : Nat → Option Nat} {lines : List va_E} {nb m mq nm tu e nk tp : Nat} (hb : b < N) (hLn : Ln ≤ 3072) (ht : 6 * t + 6 ≤ Ln) (h : IV c P Q (2500 * t) nb m mq nm tu e nk tp) (hLK : LK D N c ln lines) (nx : NX D N l b Ln xs t) : LWp D N l b Ln xs t 263 [] (HG D N c x V P Q ln df z lines) := by
  obtain ⟨⟨hnb, h12, hSE, hn0⟩, ⟨hWV, hm, hSt⟩, hQ3, hT, hCI, hSZ, hG, ⟨hnm, hm6, htu, htt, he, he1, he2, h14⟩, ⟨hnk, h30, h20⟩, ⟨htp, h160, hB⟩⟩ := id h
  refine wp_aload_n d_Lw_law_263 rfl rfl ?_
  refine lw_arg (j := 1) d_Lw_law_264 d_Lw_law_265 d_Lw_law_266 d_Lw_law_267 d_Lw_law_268 rfl hb (by omega) hLn ?_
  refine lw_arg (j := 2) d_Lw_law_269 d_Lw_law_270 d_Lw_law_271 d_Lw_law_272 d_Lw_law_273 rfl hb (by omega) hLn ?_
  refine wp_cv2 (d := 0 + 1) (q := 277) lk_Lw_18 (ro_law (by decide)) d_Lw_law_274 rfl (Nat.le_of_ble_eq_true rfl) rfl rfl (show 164 + 32 * t ≤ 600000 by omega) (show 3739 + 120 * t ≤ 7302250 by omega) ?_
  refine ok_FG_jam (d := 0)  ?_
  refine lw_k0 ?_
  refine wp_aload_n d_Lw_law_277 rfl rfl ?_
  refine lw_arg (j := 1) d_Lw_law_278 d_Lw_law_279 d_Lw_law_280 d_Lw_law_281 d_Lw_law_282 rfl hb (by omega) hLn ?_
  refine lw_arg (j := 2) d_Lw_law_283 d_Lw_law_284 d_Lw_law_285 d_Lw_law_286 d_Lw_law_287 rfl hb (by omega) hLn ?_
  refine wp_cv2 (i := 124) (d := 0 + 1) (q := 291) lk_Lw_22 (ro_law (by decide)) d_Lw_law_288 rfl (Nat.le_of_ble_eq_true rfl) ((rdX (j := 0)).trans rfl) rfl (show 164 + 32 * t ≤ 600000 by omega) (show 3739 + 120 * t ≤ 7302250 by omega) ?_
  refine ok_sh encC_len (ok_Rf_jam (d := 0)  ?_)
  refine lw_k0 ?_
  exact wp_icmp_eq_t d_Lw_law_291 (by decide) rfl (wp_widen (by omega) (by omega) (nx _ _ _ _ _ _ _ _ _ (iv_jam h (xs (6 * t + 1)) (xs (6 * t + 2))).lift (hLK.kp (kp_jam _ _ _))))
set_option maxHeartbeats 4000000 in
set_option maxRecDepth 100000 in
theorem lc_people {D : xD} {N : Nat} {l : Launch} {b Ln t : Nat} {xs : Nat → Int32} {c x V z : T2} {P Q : FN} {ln df : Nat → Option Nat} {lines : List va_E} {nb m mq nm tu e nk tp : Nat} (hb : b < N) (hLn : Ln ≤ 3072) (ht : 6 * t + 6 ≤ Ln) (h : IV c P Q (2500 * t) nb m mq nm tu e nk tp) (hLK : LK D N c ln lines) (nx : NX D N l b Ln xs t) : LWp D N l b Ln xs t 296 [] (HG D N c x V P Q ln df z lines) := by
  obtain ⟨⟨hnb, h12, hSE, hn0⟩, ⟨hWV, hm, hSt⟩, hQ3, hT, hCI, hSZ, hG, ⟨hnm, hm6, htu, htt, he, he1, he2, h14⟩, ⟨hnk, h30, h20⟩, ⟨htp, h160, hB⟩⟩ := id h
  refine wp_aload_n d_Lw_law_296 rfl rfl ?_
  refine lw_arg (j := 1) d_Lw_law_297 d_Lw_law_298 d_Lw_law_299 d_Lw_law_300 d_Lw_law_301 rfl hb (by omega) hLn ?_
  refine lw_arg (j := 2) d_Lw_law_302 d_Lw_law_303 d_Lw_law_304 d_Lw_law_305 d_Lw_law_306 rfl hb (by omega) hLn ?_
  refine lw_arg (j := 3) d_Lw_law_307 d_Lw_law_308 d_Lw_law_309 d_Lw_law_310 d_Lw_law_311 rfl hb (by omega) hLn ?_
  refine wp_cv3 (d := 0 + 2) (q := 315) lk_Lw_23 (ro_law (by decide)) d_Lw_law_312 rfl (Nat.le_of_ble_eq_true rfl) rfl rfl (show 164 + 32 * t ≤ 600000 by omega) (show 3739 + 120 * t ≤ 7302250 by omega) ?_
  refine ok_FG_people (d := 0)  ?_
  refine lw_k0 ?_
  refine wp_aload_n d_Lw_law_315 rfl rfl ?_
  refine lw_arg (j := 1) d_Lw_law_316 d_Lw_law_317 d_Lw_law_318 d_Lw_law_319 d_Lw_law_320 rfl hb (by omega) hLn ?_
  refine lw_arg (j := 2) d_Lw_law_321 d_Lw_law_322 d_Lw_law_323 d_Lw_law_324 d_Lw_law_325 rfl hb (by omega) hLn ?_
  refine lw_arg (j := 3) d_Lw_law_326 d_Lw_law_327 d_Lw_law_328 d_Lw_law_329 d_Lw_law_330 rfl hb (by omega) hLn ?_
  refine wp_cv3 (i := 124) (d := 0 + 2) (q := 334) lk_Lw_26 (ro_law (by decide)) d_Lw_law_331 rfl (Nat.le_of_ble_eq_true rfl) ((rdX (j := 0)).trans rfl) rfl (show 164 + 32 * t ≤ 600000 by omega) (show 3739 + 120 * t ≤ 7302250 by omega) ?_
  refine ok_sh encC_len (ok_Rf_people (d := 0)  ?_)
  refine lw_k0 ?_
  exact wp_icmp_eq_t d_Lw_law_334 (by decide) rfl (wp_widen (by omega) (by omega) (nx _ _ _ _ _ _ _ _ _ (iv_people h (xs (6 * t + 1)) (xs (6 * t + 2)) (xs (6 * t + 3))).lift (hLK.kp (kp_people _ _ _ _))))
set_option maxHeartbeats 4000000 in
set_option maxRecDepth 100000 in
theorem lc_rain {D : xD} {N : Nat} {l : Launch} {b Ln t : Nat} {xs : Nat → Int32} {c x V z : T2} {P Q : FN} {ln df : Nat → Option Nat} {lines : List va_E} {nb m mq nm tu e nk tp : Nat} (hb : b < N) (hLn : Ln ≤ 3072) (ht : 6 * t + 6 ≤ Ln) (h : IV c P Q (2500 * t) nb m mq nm tu e nk tp) (hLK : LK D N c ln lines) (nx : NX D N l b Ln xs t) : LWp D N l b Ln xs t 339 [] (HG D N c x V P Q ln df z lines) := by
  obtain ⟨⟨hnb, h12, hSE, hn0⟩, ⟨hWV, hm, hSt⟩, hQ3, hT, hCI, hSZ, hG, ⟨hnm, hm6, htu, htt, he, he1, he2, h14⟩, ⟨hnk, h30, h20⟩, ⟨htp, h160, hB⟩⟩ := id h
  refine wp_aload_n d_Lw_law_339 rfl rfl ?_
  refine lw_arg (j := 1) d_Lw_law_340 d_Lw_law_341 d_Lw_law_342 d_Lw_law_343 d_Lw_law_344 rfl hb (by omega) hLn ?_
  refine wp_cv1 (d := 0 + 1) (q := 348) lk_Lw_27 (ro_law (by decide)) d_Lw_law_345 rfl (Nat.le_of_ble_eq_true rfl) rfl rfl (show 164 + 32 * t ≤ 600000 by omega) (show 3739 + 120 * t ≤ 7302250 by omega) ?_
  refine ok_FG_rain (d := 0)  ?_
  refine lw_k0 ?_
  refine wp_aload_n d_Lw_law_348 rfl rfl ?_
  refine lw_arg (j := 1) d_Lw_law_349 d_Lw_law_350 d_Lw_law_351 d_Lw_law_352 d_Lw_law_353 rfl hb (by omega) hLn ?_
  refine wp_cv1 (i := 124) (d := 0 + 1) (q := 357) lk_Lw_31 (ro_law (by decide)) d_Lw_law_354 rfl (Nat.le_of_ble_eq_true rfl) ((rdX (j := 0)).trans rfl) rfl (show 164 + 32 * t ≤ 600000 by omega) (show 3739 + 120 * t ≤ 7302250 by omega) ?_
  refine ok_sh encC_len (ok_Rf_rain (d := 0)  ?_)
  refine lw_k0 ?_
  exact wp_icmp_eq_t d_Lw_law_357 (by decide) rfl (wp_widen (by omega) (by omega) (nx _ _ _ _ _ _ _ _ _ (iv_rain h (xs (6 * t + 1))).lift hLK))
set_option maxHeartbeats 4000000 in
set_option maxRecDepth 100000 in
theorem lc_bus {D : xD} {N : Nat} {l : Launch} {b Ln t : Nat} {xs : Nat → Int32} {c x V z : T2} {P Q : FN} {ln df : Nat → Option Nat} {lines : List va_E} {nb m mq nm tu e nk tp : Nat} (hb : b < N) (hLn : Ln ≤ 3072) (ht : 6 * t + 6 ≤ Ln) (h : IV c P Q (2500 * t) nb m mq nm tu e nk tp) (hLK : LK D N c ln lines) (nx : NX D N l b Ln xs t) : LWp D N l b Ln xs t 362 [] (HG D N c x V P Q ln df z lines) := by
  obtain ⟨⟨hnb, h12, hSE, hn0⟩, ⟨hWV, hm, hSt⟩, hQ3, hT, hCI, hSZ, hG, ⟨hnm, hm6, htu, htt, he, he1, he2, h14⟩, ⟨hnk, h30, h20⟩, ⟨htp, h160, hB⟩⟩ := id h
  refine wp_aload_n d_Lw_law_362 rfl rfl ?_
  refine lw_arg (j := 1) d_Lw_law_363 d_Lw_law_364 d_Lw_law_365 d_Lw_law_366 d_Lw_law_367 rfl hb (by omega) hLn ?_
  refine lw_arg (j := 2) d_Lw_law_368 d_Lw_law_369 d_Lw_law_370 d_Lw_law_371 d_Lw_law_372 rfl hb (by omega) hLn ?_
  refine lw_arg (j := 3) d_Lw_law_373 d_Lw_law_374 d_Lw_law_375 d_Lw_law_376 d_Lw_law_377 rfl hb (by omega) hLn ?_
  refine lw_arg (j := 4) d_Lw_law_378 d_Lw_law_379 d_Lw_law_380 d_Lw_law_381 d_Lw_law_382 rfl hb (by omega) hLn ?_
  refine wp_cv4 (d := 0 + 2) (q := 386) lk_Lw_32 (ro_law (by decide)) d_Lw_law_383 rfl (Nat.le_of_ble_eq_true rfl) rfl rfl (show 164 + 32 * t ≤ 600000 by omega) (show 3739 + 120 * t ≤ 7302250 by omega) ?_
  refine ok_FG_bus (d := 0) hnb h12 ?_
  refine lw_k0 ?_
  refine wp_aload_n d_Lw_law_386 rfl rfl ?_
  refine lw_arg (j := 1) d_Lw_law_387 d_Lw_law_388 d_Lw_law_389 d_Lw_law_390 d_Lw_law_391 rfl hb (by omega) hLn ?_
  refine lw_arg (j := 2) d_Lw_law_392 d_Lw_law_393 d_Lw_law_394 d_Lw_law_395 d_Lw_law_396 rfl hb (by omega) hLn ?_
  refine lw_arg (j := 3) d_Lw_law_397 d_Lw_law_398 d_Lw_law_399 d_Lw_law_400 d_Lw_law_401 rfl hb (by omega) hLn ?_
  refine lw_arg (j := 4) d_Lw_law_402 d_Lw_law_403 d_Lw_law_404 d_Lw_law_405 d_Lw_law_406 rfl hb (by omega) hLn ?_
  refine wp_cv4 (i := 124) (d := 0 + 1) (q := 410) lk_Lw_36 (ro_law (by decide)) d_Lw_law_407 rfl (Nat.le_of_ble_eq_true rfl) ((rdX (j := 0)).trans rfl) rfl (show 164 + 32 * t ≤ 600000 by omega) (show 3739 + 120 * t ≤ 7302250 by omega) ?_
  refine ok_sh encC_len (ok_Rf_bus (d := 0) hnb h12 ?_)
  refine lw_k0 ?_
  exact wp_icmp_eq_t d_Lw_law_410 (by decide) rfl (wp_widen (by omega) (by omega) (nx _ _ _ _ _ _ _ _ _ (iv_bus h (xs (6 * t + 1)) (xs (6 * t + 2)) (xs (6 * t + 3)) (xs (6 * t + 4))).lift (hLK.kp (kp_bus _ _ _ _ _ _))))
set_option maxHeartbeats 4000000 in
set_option maxRecDepth 100000 in
theorem lc_queue {D : xD} {N : Nat} {l : Launch} {b Ln t : Nat} {xs : Nat → Int32} {c x V z : T2} {P Q : FN} {ln df : Nat → Option Nat} {lines : List va_E} {nb m mq nm tu e nk tp : Nat} (hb : b < N) (hLn : Ln ≤ 3072) (ht : 6 * t + 6 ≤ Ln) (h : IV c P Q (2500 * t) nb m mq nm tu e nk tp) (hLK : LK D N c ln lines) (nx : NX D N l b Ln xs t) : LWp D N l b Ln xs t 415 [] (HG D N c x V P Q ln df z lines) := by
  obtain ⟨⟨hnb, h12, hSE, hn0⟩, ⟨hWV, hm, hSt⟩, hQ3, hT, hCI, hSZ, hG, ⟨hnm, hm6, htu, htt, he, he1, he2, h14⟩, ⟨hnk, h30, h20⟩, ⟨htp, h160, hB⟩⟩ := id h
  refine wp_aload_n d_Lw_law_415 rfl rfl ?_
  refine lw_arg (j := 1) d_Lw_law_416 d_Lw_law_417 d_Lw_law_418 d_Lw_law_419 d_Lw_law_420 rfl hb (by omega) hLn ?_
  refine lw_arg (j := 2) d_Lw_law_421 d_Lw_law_422 d_Lw_law_423 d_Lw_law_424 d_Lw_law_425 rfl hb (by omega) hLn ?_
  refine wp_cv2 (d := 0 + 2) (q := 429) lk_Lw_37 (ro_law (by decide)) d_Lw_law_426 rfl (Nat.le_of_ble_eq_true rfl) rfl rfl (show 164 + 32 * t ≤ 600000 by omega) (show 3739 + 120 * t ≤ 7302250 by omega) ?_
  refine ok_FG_queue (d := 0) hnb h12 ?_
  refine lw_k0 ?_
  refine wp_aload_n d_Lw_law_429 rfl rfl ?_
  refine lw_arg (j := 1) d_Lw_law_430 d_Lw_law_431 d_Lw_law_432 d_Lw_law_433 d_Lw_law_434 rfl hb (by omega) hLn ?_
  refine lw_arg (j := 2) d_Lw_law_435 d_Lw_law_436 d_Lw_law_437 d_Lw_law_438 d_Lw_law_439 rfl hb (by omega) hLn ?_
  refine wp_cv2 (i := 124) (d := 0 + 2) (q := 443) lk_Lw_40 (ro_law (by decide)) d_Lw_law_440 rfl (Nat.le_of_ble_eq_true rfl) ((rdX (j := 0)).trans rfl) rfl (show 164 + 32 * t ≤ 600000 by omega) (show 3739 + 120 * t ≤ 7302250 by omega) ?_
  refine ok_sh encC_len (ok_Rf_queue (d := 0) hnb h12 ?_)
  refine lw_k0 ?_
  exact wp_icmp_eq_t d_Lw_law_443 (by decide) rfl (wp_widen (by omega) (by omega) (nx _ _ _ _ _ _ _ _ _ ((iv_queue h (by omega) (xs (6 * t + 1)) (xs (6 * t + 2))).mono (by omega)) hLK))
set_option maxHeartbeats 4000000 in
set_option maxRecDepth 100000 in
theorem lc_rest {D : xD} {N : Nat} {l : Launch} {b Ln t : Nat} {xs : Nat → Int32} {c x V z : T2} {P Q : FN} {ln df : Nat → Option Nat} {lines : List va_E} {nb m mq nm tu e nk tp : Nat} (hb : b < N) (hLn : Ln ≤ 3072) (ht : 6 * t + 6 ≤ Ln) (h : IV c P Q (2500 * t) nb m mq nm tu e nk tp) (hLK : LK D N c ln lines) (nx : NX D N l b Ln xs t) : LWp D N l b Ln xs t 448 [] (HG D N c x V P Q ln df z lines) := by
  obtain ⟨⟨hnb, h12, hSE, hn0⟩, ⟨hWV, hm, hSt⟩, hQ3, hT, hCI, hSZ, hG, ⟨hnm, hm6, htu, htt, he, he1, he2, h14⟩, ⟨hnk, h30, h20⟩, ⟨htp, h160, hB⟩⟩ := id h
  refine wp_aload_n d_Lw_law_448 rfl rfl ?_
  refine lw_arg (j := 1) d_Lw_law_449 d_Lw_law_450 d_Lw_law_451 d_Lw_law_452 d_Lw_law_453 rfl hb (by omega) hLn ?_
  refine wp_cv1 (d := 0 + 2) (q := 457) lk_Lw_41 (ro_law (by decide)) d_Lw_law_454 rfl (Nat.le_of_ble_eq_true rfl) rfl rfl (show 164 + 32 * t ≤ 600000 by omega) (show 3739 + 120 * t ≤ 7302250 by omega) ?_
  refine ok_FG_rest (d := 0) hnb h12 ?_
  refine lw_k0 ?_
  refine wp_aload_n d_Lw_law_457 rfl rfl ?_
  refine lw_arg (j := 1) d_Lw_law_458 d_Lw_law_459 d_Lw_law_460 d_Lw_law_461 d_Lw_law_462 rfl hb (by omega) hLn ?_
  refine wp_cv1 (i := 124) (d := 0 + 2) (q := 466) lk_Lw_44 (ro_law (by decide)) d_Lw_law_463 rfl (Nat.le_of_ble_eq_true rfl) ((rdX (j := 0)).trans rfl) rfl (show 164 + 32 * t ≤ 600000 by omega) (show 3739 + 120 * t ≤ 7302250 by omega) ?_
  refine ok_sh encC_len (ok_Rf_rest (d := 0) hnb h12 ?_)
  refine lw_k0 ?_
  exact wp_icmp_eq_t d_Lw_law_466 (by decide) rfl (wp_widen (by omega) (by omega) (nx _ _ _ _ _ _ _ _ _ (iv_rest h (xs (6 * t + 1))).lift hLK))
set_option maxHeartbeats 4000000 in
set_option maxRecDepth 100000 in
theorem lc_jump {D : xD} {N : Nat} {l : Launch} {b Ln t : Nat} {xs : Nat → Int32} {c x V z : T2} {P Q : FN} {ln df : Nat → Option Nat} {lines : List va_E} {nb m mq nm tu e nk tp : Nat} (hb : b < N) (hLn : Ln ≤ 3072) (ht : 6 * t + 6 ≤ Ln) (h : IV c P Q (2500 * t) nb m mq nm tu e nk tp) (hLK : LK D N c ln lines) (nx : NX D N l b Ln xs t) : LWp D N l b Ln xs t 471 [] (HG D N c x V P Q ln df z lines) := by
  obtain ⟨⟨hnb, h12, hSE, hn0⟩, ⟨hWV, hm, hSt⟩, hQ3, hT, hCI, hSZ, hG, ⟨hnm, hm6, htu, htt, he, he1, he2, h14⟩, ⟨hnk, h30, h20⟩, ⟨htp, h160, hB⟩⟩ := id h
  refine wp_aload_n d_Lw_law_471 rfl rfl ?_
  refine lw_arg (j := 1) d_Lw_law_472 d_Lw_law_473 d_Lw_law_474 d_Lw_law_475 d_Lw_law_476 rfl hb (by omega) hLn ?_
  refine lw_arg (j := 2) d_Lw_law_477 d_Lw_law_478 d_Lw_law_479 d_Lw_law_480 d_Lw_law_481 rfl hb (by omega) hLn ?_
  refine wp_cv2 (d := 0 + 2) (q := 485) lk_Lw_45 (ro_law (by decide)) d_Lw_law_482 rfl (Nat.le_of_ble_eq_true rfl) rfl rfl (show 164 + 32 * t ≤ 600000 by omega) (show 3739 + 120 * t ≤ 7302250 by omega) ?_
  refine ok_FG_jump (d := 0) hnb h12 (fun b hb => (hWV.1.2.1 b hb).1) hWV.1.2.2 ?_
  refine lw_k0 ?_
  refine wp_aload_n d_Lw_law_485 rfl rfl ?_
  refine lw_arg (j := 1) d_Lw_law_486 d_Lw_law_487 d_Lw_law_488 d_Lw_law_489 d_Lw_law_490 rfl hb (by omega) hLn ?_
  refine lw_arg (j := 2) d_Lw_law_491 d_Lw_law_492 d_Lw_law_493 d_Lw_law_494 d_Lw_law_495 rfl hb (by omega) hLn ?_
  refine wp_cv2 (i := 124) (d := 0 + 2) (q := 499) lk_Lw_48 (ro_law (by decide)) d_Lw_law_496 rfl (Nat.le_of_ble_eq_true rfl) ((rdX (j := 0)).trans rfl) rfl (show 164 + 32 * t ≤ 600000 by omega) (show 3739 + 120 * t ≤ 7302250 by omega) ?_
  refine ok_sh encC_len (ok_Rf_jump (d := 0) hnb h12 (fun b hb => (hWV.1.2.1 b hb).1) ?_)
  refine lw_k0 ?_
  exact wp_icmp_eq_t d_Lw_law_499 (by decide) rfl (wp_widen (by omega) (by omega) (nx _ _ _ _ _ _ _ _ _ (iv_jump h (xs (6 * t + 1)) (xs (6 * t + 2))).lift hLK))
set_option maxHeartbeats 4000000 in
set_option maxRecDepth 100000 in
theorem lc_hold {D : xD} {N : Nat} {l : Launch} {b Ln t : Nat} {xs : Nat → Int32} {c x V z : T2} {P Q : FN} {ln df : Nat → Option Nat} {lines : List va_E} {nb m mq nm tu e nk tp : Nat} (hb : b < N) (hLn : Ln ≤ 3072) (ht : 6 * t + 6 ≤ Ln) (h : IV c P Q (2500 * t) nb m mq nm tu e nk tp) (hLK : LK D N c ln lines) (nx : NX D N l b Ln xs t) : LWp D N l b Ln xs t 504 [] (HG D N c x V P Q ln df z lines) := by
  obtain ⟨⟨hnb, h12, hSE, hn0⟩, ⟨hWV, hm, hSt⟩, hQ3, hT, hCI, hSZ, hG, ⟨hnm, hm6, htu, htt, he, he1, he2, h14⟩, ⟨hnk, h30, h20⟩, ⟨htp, h160, hB⟩⟩ := id h
  refine wp_aload_n d_Lw_law_504 rfl rfl ?_
  refine lw_arg (j := 1) d_Lw_law_505 d_Lw_law_506 d_Lw_law_507 d_Lw_law_508 d_Lw_law_509 rfl hb (by omega) hLn ?_
  refine lw_arg (j := 2) d_Lw_law_510 d_Lw_law_511 d_Lw_law_512 d_Lw_law_513 d_Lw_law_514 rfl hb (by omega) hLn ?_
  refine wp_cv2 (d := 0 + 2) (q := 518) lk_Lw_49 (ro_law (by decide)) d_Lw_law_515 rfl (Nat.le_of_ble_eq_true rfl) rfl rfl (show 164 + 32 * t ≤ 600000 by omega) (show 3739 + 120 * t ≤ 7302250 by omega) ?_
  refine ok_FG_hold (d := 0) hnb h12 ?_
  refine lw_k0 ?_
  refine wp_aload_n d_Lw_law_518 rfl rfl ?_
  refine lw_arg (j := 1) d_Lw_law_519 d_Lw_law_520 d_Lw_law_521 d_Lw_law_522 d_Lw_law_523 rfl hb (by omega) hLn ?_
  refine lw_arg (j := 2) d_Lw_law_524 d_Lw_law_525 d_Lw_law_526 d_Lw_law_527 d_Lw_law_528 rfl hb (by omega) hLn ?_
  refine wp_cv2 (i := 124) (d := 0 + 2) (q := 532) lk_Lw_52 (ro_law (by decide)) d_Lw_law_529 rfl (Nat.le_of_ble_eq_true rfl) ((rdX (j := 0)).trans rfl) rfl (show 164 + 32 * t ≤ 600000 by omega) (show 3739 + 120 * t ≤ 7302250 by omega) ?_
  refine ok_sh encC_len (ok_Rf_hold (d := 0) hnb h12 ?_)
  refine lw_k0 ?_
  exact wp_icmp_eq_t d_Lw_law_532 (by decide) rfl (wp_widen (by omega) (by omega) (nx _ _ _ _ _ _ _ _ _ (iv_hold h (xs (6 * t + 1)) (xs (6 * t + 2))).lift hLK))
set_option maxHeartbeats 4000000 in
set_option maxRecDepth 100000 in
theorem lc_wants {D : xD} {N : Nat} {l : Launch} {b Ln t : Nat} {xs : Nat → Int32} {c x V z : T2} {P Q : FN} {ln df : Nat → Option Nat} {lines : List va_E} {nb m mq nm tu e nk tp : Nat} (hb : b < N) (hLn : Ln ≤ 3072) (ht : 6 * t + 6 ≤ Ln) (h : IV c P Q (2500 * t) nb m mq nm tu e nk tp) (hLK : LK D N c ln lines) (nx : NX D N l b Ln xs t) : LWp D N l b Ln xs t 537 [] (HG D N c x V P Q ln df z lines) := by
  obtain ⟨⟨hnb, h12, hSE, hn0⟩, ⟨hWV, hm, hSt⟩, hQ3, hT, hCI, hSZ, hG, ⟨hnm, hm6, htu, htt, he, he1, he2, h14⟩, ⟨hnk, h30, h20⟩, ⟨htp, h160, hB⟩⟩ := id h
  refine wp_aload_n d_Lw_law_537 rfl rfl ?_
  refine lw_arg (j := 1) d_Lw_law_538 d_Lw_law_539 d_Lw_law_540 d_Lw_law_541 d_Lw_law_542 rfl hb (by omega) hLn ?_
  refine lw_arg (j := 2) d_Lw_law_543 d_Lw_law_544 d_Lw_law_545 d_Lw_law_546 d_Lw_law_547 rfl hb (by omega) hLn ?_
  refine wp_cv2 (d := 0 + 2) (q := 551) lk_Lw_53 (ro_law (by decide)) d_Lw_law_548 rfl (Nat.le_of_ble_eq_true rfl) rfl rfl (show 164 + 32 * t ≤ 600000 by omega) (show 3739 + 120 * t ≤ 7302250 by omega) ?_
  refine ok_FG_wants (d := 0) hnb h12 ?_
  refine lw_k0 ?_
  refine wp_aload_n d_Lw_law_551 rfl rfl ?_
  refine lw_arg (j := 1) d_Lw_law_552 d_Lw_law_553 d_Lw_law_554 d_Lw_law_555 d_Lw_law_556 rfl hb (by omega) hLn ?_
  refine lw_arg (j := 2) d_Lw_law_557 d_Lw_law_558 d_Lw_law_559 d_Lw_law_560 d_Lw_law_561 rfl hb (by omega) hLn ?_
  refine wp_cv2 (i := 124) (d := 0 + 2) (q := 565) lk_Lw_56 (ro_law (by decide)) d_Lw_law_562 rfl (Nat.le_of_ble_eq_true rfl) ((rdX (j := 0)).trans rfl) rfl (show 164 + 32 * t ≤ 600000 by omega) (show 3739 + 120 * t ≤ 7302250 by omega) ?_
  refine ok_sh encC_len (ok_Rf_wants (d := 0) hnb h12 ?_)
  refine lw_k0 ?_
  exact wp_icmp_eq_t d_Lw_law_565 (by decide) rfl (wp_widen (by omega) (by omega) (nx _ _ _ _ _ _ _ _ _ (iv_wants h (xs (6 * t + 1)) (xs (6 * t + 2))).lift (hLK.kp (kp_wants _ _ _))))
set_option maxHeartbeats 4000000 in
set_option maxRecDepth 100000 in
theorem lc_feed {D : xD} {N : Nat} {l : Launch} {b Ln t : Nat} {xs : Nat → Int32} {c x V z : T2} {P Q : FN} {ln df : Nat → Option Nat} {lines : List va_E} {nb m mq nm tu e nk tp : Nat} (hb : b < N) (hLn : Ln ≤ 3072) (ht : 6 * t + 6 ≤ Ln) (h : IV c P Q (2500 * t) nb m mq nm tu e nk tp) (hLK : LK D N c ln lines) (nx : NX D N l b Ln xs t) : LWp D N l b Ln xs t 570 [] (HG D N c x V P Q ln df z lines) := by
  obtain ⟨⟨hnb, h12, hSE, hn0⟩, ⟨hWV, hm, hSt⟩, hQ3, hT, hCI, hSZ, hG, ⟨hnm, hm6, htu, htt, he, he1, he2, h14⟩, ⟨hnk, h30, h20⟩, ⟨htp, h160, hB⟩⟩ := id h
  refine wp_aload_n d_Lw_law_570 rfl rfl ?_
  refine lw_arg (j := 1) d_Lw_law_571 d_Lw_law_572 d_Lw_law_573 d_Lw_law_574 d_Lw_law_575 rfl hb (by omega) hLn ?_
  refine wp_i2l d_Lw_law_576 rfl ?_
  refine wp_bipush d_Lw_law_577 rfl rfl ?_
  refine wp_lshl d_Lw_law_579 rfl ?_
  refine lw_arg (j := 2) d_Lw_law_580 d_Lw_law_581 d_Lw_law_582 d_Lw_law_583 d_Lw_law_584 rfl hb (by omega) hLn ?_
  refine wp_i2l d_Lw_law_585 rfl ?_
  refine wp_ldc2 d_Lw_law_586 rfl kl_Lw_57 ?_
  refine wp_land d_Lw_law_589 rfl ?_
  refine wp_lor d_Lw_law_590 rfl ?_
  refine lw_arg (j := 3) d_Lw_law_591 d_Lw_law_592 d_Lw_law_593 d_Lw_law_594 d_Lw_law_595 rfl hb (by omega) hLn ?_
  refine wp_cv2 (d := 0 + 1) (q := 599) lk_Lw_59 (ro_law (by decide)) d_Lw_law_596 rfl (Nat.le_of_ble_eq_true rfl) rfl rfl (show 164 + 32 * t ≤ 600000 by omega) (show 3739 + 120 * t ≤ 7302250 by omega) ?_
  refine ok_FG_feed (d := 0) htp h160 ?_
  refine lw_k0 ?_
  refine wp_aload_n d_Lw_law_599 rfl rfl ?_
  refine lw_arg (j := 1) d_Lw_law_600 d_Lw_law_601 d_Lw_law_602 d_Lw_law_603 d_Lw_law_604 rfl hb (by omega) hLn ?_
  refine wp_i2l d_Lw_law_605 rfl ?_
  refine wp_bipush d_Lw_law_606 rfl rfl ?_
  refine wp_lshl d_Lw_law_608 rfl ?_
  refine lw_arg (j := 2) d_Lw_law_609 d_Lw_law_610 d_Lw_law_611 d_Lw_law_612 d_Lw_law_613 rfl hb (by omega) hLn ?_
  refine wp_i2l d_Lw_law_614 rfl ?_
  refine wp_ldc2 d_Lw_law_615 rfl kl_Lw_57 ?_
  refine wp_land d_Lw_law_618 rfl ?_
  refine wp_lor d_Lw_law_619 rfl ?_
  refine lw_arg (j := 3) d_Lw_law_620 d_Lw_law_621 d_Lw_law_622 d_Lw_law_623 d_Lw_law_624 rfl hb (by omega) hLn ?_
  refine wp_cv2 (i := 124) (d := 0 + 1) (q := 628) lk_Lw_63 (ro_law (by decide)) d_Lw_law_625 rfl (Nat.le_of_ble_eq_true rfl) ((rdX (j := 0)).trans rfl) rfl (show 164 + 32 * t ≤ 600000 by omega) (show 3739 + 120 * t ≤ 7302250 by omega) ?_
  refine ok_sh encC_len (ok_Rf_feed (d := 0) htp h160 ?_)
  refine lw_k0 ?_
  exact wp_icmp_eq_t d_Lw_law_628 (by decide) rfl (wp_widen (by omega) (by omega) (nx _ _ _ _ _ _ _ _ _ (iv_feed h _ (xs (6 * t + 3))).lift (hLK.kp (kp_feed _ _ _ _))))
set_option maxHeartbeats 4000000 in
set_option maxRecDepth 100000 in
theorem lc_force {D : xD} {N : Nat} {l : Launch} {b Ln t : Nat} {xs : Nat → Int32} {c x V z : T2} {P Q : FN} {ln df : Nat → Option Nat} {lines : List va_E} {nb m mq nm tu e nk tp : Nat} (hb : b < N) (hLn : Ln ≤ 3072) (ht : 6 * t + 6 ≤ Ln) (h : IV c P Q (2500 * t) nb m mq nm tu e nk tp) (hLK : LK D N c ln lines) (nx : NX D N l b Ln xs t) : LWp D N l b Ln xs t 646 [] (HG D N c x V P Q ln df z lines) := by
  obtain ⟨⟨hnb, h12, hSE, hn0⟩, ⟨hWV, hm, hSt⟩, hQ3, hT, hCI, hSZ, hG, ⟨hnm, hm6, htu, htt, he, he1, he2, h14⟩, ⟨hnk, h30, h20⟩, ⟨htp, h160, hB⟩⟩ := id h
  refine wp_aload_n d_Lw_law_646 rfl rfl ?_
  refine lw_arg (j := 1) d_Lw_law_647 d_Lw_law_648 d_Lw_law_649 d_Lw_law_650 d_Lw_law_651 rfl hb (by omega) hLn ?_
  refine lw_arg (j := 2) d_Lw_law_652 d_Lw_law_653 d_Lw_law_654 d_Lw_law_655 d_Lw_law_656 rfl hb (by omega) hLn ?_
  refine wp_cv2 (d := 0 + 2) (q := 660) lk_Lw_69 (ro_law (by decide)) d_Lw_law_657 rfl (Nat.le_of_ble_eq_true rfl) rfl rfl (show 164 + 32 * t ≤ 600000 by omega) (show 3739 + 120 * t ≤ 7302250 by omega) ?_
  refine ok_FG_force (d := 0)  ?_
  refine lw_k0 ?_
  refine wp_aload_n d_Lw_law_660 rfl rfl ?_
  refine lw_arg (j := 1) d_Lw_law_661 d_Lw_law_662 d_Lw_law_663 d_Lw_law_664 d_Lw_law_665 rfl hb (by omega) hLn ?_
  refine lw_arg (j := 2) d_Lw_law_666 d_Lw_law_667 d_Lw_law_668 d_Lw_law_669 d_Lw_law_670 rfl hb (by omega) hLn ?_
  refine wp_cv2 (i := 124) (d := 0 + 2) (q := 674) lk_Lw_72 (ro_law (by decide)) d_Lw_law_671 rfl (Nat.le_of_ble_eq_true rfl) ((rdX (j := 0)).trans rfl) rfl (show 164 + 32 * t ≤ 600000 by omega) (show 3739 + 120 * t ≤ 7302250 by omega) ?_
  refine ok_sh encC_len (ok_Rf_force (d := 0)  ?_)
  refine lw_k0 ?_
  exact wp_icmp_eq_t d_Lw_law_674 (by decide) rfl (wp_widen (by omega) (by omega) (nx _ _ _ _ _ _ _ _ _ (iv_force h (xs (6 * t + 1)) (xs (6 * t + 2))).lift (hLK.kp (kp_force _ _ _))))
set_option maxHeartbeats 4000000 in
set_option maxRecDepth 100000 in
theorem lc_law {D : xD} {N : Nat} {l : Launch} {b Ln t : Nat} {xs : Nat → Int32} {c x V z : T2} {P Q : FN} {ln df : Nat → Option Nat} {lines : List va_E} {nb m mq nm tu e nk tp : Nat} (hb : b < N) (hLn : Ln ≤ 3072) (ht : 6 * t + 6 ≤ Ln) (h : IV c P Q (2500 * t) nb m mq nm tu e nk tp) (hLK : LK D N c ln lines) (nx : NX D N l b Ln xs t) : LWp D N l b Ln xs t 679 [] (HG D N c x V P Q ln df z lines) := by
  obtain ⟨⟨hnb, h12, hSE, hn0⟩, ⟨hWV, hm, hSt⟩, hQ3, hT, hCI, hSZ, hG, ⟨hnm, hm6, htu, htt, he, he1, he2, h14⟩, ⟨hnk, h30, h20⟩, ⟨htp, h160, hB⟩⟩ := id h
  refine wp_aload_n d_Lw_law_679 rfl rfl ?_
  refine lw_arg (j := 1) d_Lw_law_680 d_Lw_law_681 d_Lw_law_682 d_Lw_law_683 d_Lw_law_684 rfl hb (by omega) hLn ?_
  refine lw_arg (j := 2) d_Lw_law_685 d_Lw_law_686 d_Lw_law_687 d_Lw_law_688 d_Lw_law_689 rfl hb (by omega) hLn ?_
  refine wp_cv2 (d := 0 + 5) (q := 693) lk_Lw_73 (ro_law (by decide)) d_Lw_law_690 rfl (Nat.le_of_ble_eq_true rfl) rfl rfl (show 164 + 32 * t ≤ 600000 by omega) (show 3739 + 120 * t ≤ 7302250 by omega) ?_
  refine ok_FG_law (d := 0) hnb h12 (fun b hb => (hWV.1.2.1 b hb).1) hWV.1.1 (by omega) hCI hWV.1.2.2 (hLK _ encR_len) (fun x2 => ?_)
  refine lw_k0 ?_
  refine wp_aload_n d_Lw_law_693 rfl rfl ?_
  refine lw_arg (j := 1) d_Lw_law_694 d_Lw_law_695 d_Lw_law_696 d_Lw_law_697 d_Lw_law_698 rfl hb (by omega) hLn ?_
  refine lw_arg (j := 2) d_Lw_law_699 d_Lw_law_700 d_Lw_law_701 d_Lw_law_702 d_Lw_law_703 rfl hb (by omega) hLn ?_
  refine wp_cv2 (i := 124) (d := 0 + 5) (q := 707) lk_Lw_76 (ro_law (by decide)) d_Lw_law_704 rfl (Nat.le_of_ble_eq_true rfl) ((rdX (j := 0)).trans rfl) rfl (show 164 + 32 * t ≤ 600000 by omega) (show 3739 + 120 * t ≤ 7302250 by omega) ?_
  refine ok_sh encC_len (ok_Rf_law (d := 0) hnb h12 (fun b hb => (hWV.1.2.1 b hb).1) hWV.1.1 (by omega) hCI ?_)
  refine lw_k0 ?_
  exact wp_icmp_eq_t d_Lw_law_707 (by decide) rfl (wp_widen (by omega) (by omega) (nx _ _ _ _ _ _ _ _ _ (iv_same h).lift hLK))
set_option maxHeartbeats 4000000 in
set_option maxRecDepth 100000 in
theorem lc_why {D : xD} {N : Nat} {l : Launch} {b Ln t : Nat} {xs : Nat → Int32} {c x V z : T2} {P Q : FN} {ln df : Nat → Option Nat} {lines : List va_E} {nb m mq nm tu e nk tp : Nat} (hb : b < N) (hLn : Ln ≤ 3072) (ht : 6 * t + 6 ≤ Ln) (h : IV c P Q (2500 * t) nb m mq nm tu e nk tp) (hLK : LK D N c ln lines) (nx : NX D N l b Ln xs t) : LWp D N l b Ln xs t 712 [] (HG D N c x V P Q ln df z lines) := by
  obtain ⟨⟨hnb, h12, hSE, hn0⟩, ⟨hWV, hm, hSt⟩, hQ3, hT, hCI, hSZ, hG, ⟨hnm, hm6, htu, htt, he, he1, he2, h14⟩, ⟨hnk, h30, h20⟩, ⟨htp, h160, hB⟩⟩ := id h
  refine wp_aload_n d_Lw_law_712 rfl rfl ?_
  refine lw_arg (j := 1) d_Lw_law_713 d_Lw_law_714 d_Lw_law_715 d_Lw_law_716 d_Lw_law_717 rfl hb (by omega) hLn ?_
  refine lw_arg (j := 2) d_Lw_law_718 d_Lw_law_719 d_Lw_law_720 d_Lw_law_721 d_Lw_law_722 rfl hb (by omega) hLn ?_
  refine wp_cv2 (d := 0 + 5) (q := 726) lk_Lw_77 (ro_law (by decide)) d_Lw_law_723 rfl (Nat.le_of_ble_eq_true rfl) rfl rfl (show 164 + 32 * t ≤ 600000 by omega) (show 3739 + 120 * t ≤ 7302250 by omega) ?_
  refine ok_FG_why (d := 0) hnb h12 (fun b hb => (hWV.1.2.1 b hb).1) hWV.1.1 (by omega) hCI hWV.1.2.2 (hLK _ encR_len) (fun x2 => ?_)
  refine lw_k0 ?_
  refine wp_aload_n d_Lw_law_726 rfl rfl ?_
  refine lw_arg (j := 1) d_Lw_law_727 d_Lw_law_728 d_Lw_law_729 d_Lw_law_730 d_Lw_law_731 rfl hb (by omega) hLn ?_
  refine lw_arg (j := 2) d_Lw_law_732 d_Lw_law_733 d_Lw_law_734 d_Lw_law_735 d_Lw_law_736 rfl hb (by omega) hLn ?_
  refine wp_cv2 (i := 124) (d := 0 + 5) (q := 740) lk_Lw_80 (ro_law (by decide)) d_Lw_law_737 rfl (Nat.le_of_ble_eq_true rfl) ((rdX (j := 0)).trans rfl) rfl (show 164 + 32 * t ≤ 600000 by omega) (show 3739 + 120 * t ≤ 7302250 by omega) ?_
  refine ok_sh encC_len (ok_Rf_why (d := 0) hnb h12 (fun b hb => (hWV.1.2.1 b hb).1) hWV.1.1 (by omega) hCI ?_)
  refine lw_k0 ?_
  exact wp_icmp_eq_t d_Lw_law_740 (by decide) rfl (wp_widen (by omega) (by omega) (nx _ _ _ _ _ _ _ _ _ (iv_same h).lift hLK))
set_option maxHeartbeats 4000000 in
set_option maxRecDepth 100000 in
theorem lc_minutes {D : xD} {N : Nat} {l : Launch} {b Ln t : Nat} {xs : Nat → Int32} {c x V z : T2} {P Q : FN} {ln df : Nat → Option Nat} {lines : List va_E} {nb m mq nm tu e nk tp : Nat} (hb : b < N) (hLn : Ln ≤ 3072) (ht : 6 * t + 6 ≤ Ln) (h : IV c P Q (2500 * t) nb m mq nm tu e nk tp) (hLK : LK D N c ln lines) (nx : NX D N l b Ln xs t) : LWp D N l b Ln xs t 745 [] (HG D N c x V P Q ln df z lines) := by
  obtain ⟨⟨hnb, h12, hSE, hn0⟩, ⟨hWV, hm, hSt⟩, hQ3, hT, hCI, hSZ, hG, ⟨hnm, hm6, htu, htt, he, he1, he2, h14⟩, ⟨hnk, h30, h20⟩, ⟨htp, h160, hB⟩⟩ := id h
  refine wp_aload_n d_Lw_law_745 rfl rfl ?_
  refine lw_arg (j := 1) d_Lw_law_746 d_Lw_law_747 d_Lw_law_748 d_Lw_law_749 d_Lw_law_750 rfl hb (by omega) hLn ?_
  refine wp_cv1 (d := 0 + 7) (q := 754) lk_Lw_81 (ro_law (by decide)) d_Lw_law_751 rfl (Nat.le_of_ble_eq_true rfl) rfl rfl (show 164 + 32 * t ≤ 600000 by omega) (show 3739 + 120 * t ≤ 7302250 by omega) ?_
  refine ok_FG_minutes (d := 0) hnb h12 hWV hm hT hSE hCI (hLK _ encR_len) (fun x2 => ?_)
  refine lw_k0 ?_
  refine wp_aload_n d_Lw_law_754 rfl rfl ?_
  refine lw_arg (j := 1) d_Lw_law_755 d_Lw_law_756 d_Lw_law_757 d_Lw_law_758 d_Lw_law_759 rfl hb (by omega) hLn ?_
  refine wp_cv1 (i := 124) (d := 0 + 7) (q := 763) lk_Lw_84 (ro_law (by decide)) d_Lw_law_760 rfl (Nat.le_of_ble_eq_true rfl) ((rdX (j := 0)).trans rfl) rfl (show 164 + 32 * t ≤ 600000 by omega) (show 3739 + 120 * t ≤ 7302250 by omega) ?_
  refine ok_sh encC_len (ok_Rf_minutes (d := 0) hnb h12 hWV hm hT hSE hCI ?_)
  refine lw_k0 ?_
  exact wp_icmp_eq_t d_Lw_law_763 (by decide) rfl (wp_widen (by omega) (by omega) (nx _ _ _ _ _ _ _ _ _ ((iv_minutes h (by omega) (xs (6 * t + 1))).mono (by omega)) hLK))
set_option maxHeartbeats 4000000 in
set_option maxRecDepth 100000 in
theorem lc_busTold {D : xD} {N : Nat} {l : Launch} {b Ln t : Nat} {xs : Nat → Int32} {c x V z : T2} {P Q : FN} {ln df : Nat → Option Nat} {lines : List va_E} {nb m mq nm tu e nk tp : Nat} (hb : b < N) (hLn : Ln ≤ 3072) (ht : 6 * t + 6 ≤ Ln) (h : IV c P Q (2500 * t) nb m mq nm tu e nk tp) (hLK : LK D N c ln lines) (nx : NX D N l b Ln xs t) : LWp D N l b Ln xs t 768 [] (HG D N c x V P Q ln df z lines) := by
  obtain ⟨⟨hnb, h12, hSE, hn0⟩, ⟨hWV, hm, hSt⟩, hQ3, hT, hCI, hSZ, hG, ⟨hnm, hm6, htu, htt, he, he1, he2, h14⟩, ⟨hnk, h30, h20⟩, ⟨htp, h160, hB⟩⟩ := id h
  refine wp_aload_n d_Lw_law_768 rfl rfl ?_
  refine lw_arg (j := 1) d_Lw_law_769 d_Lw_law_770 d_Lw_law_771 d_Lw_law_772 d_Lw_law_773 rfl hb (by omega) hLn ?_
  refine lw_arg (j := 2) d_Lw_law_774 d_Lw_law_775 d_Lw_law_776 d_Lw_law_777 d_Lw_law_778 rfl hb (by omega) hLn ?_
  refine wp_cv2 (d := 0 + 2) (q := 782) lk_Lw_85 (ro_law (by decide)) d_Lw_law_779 rfl (Nat.le_of_ble_eq_true rfl) rfl rfl (show 164 + 32 * t ≤ 600000 by omega) (show 3739 + 120 * t ≤ 7302250 by omega) ?_
  refine ok_FG_busTold (d := 0) hnb h12 ?_
  refine lw_k0 ?_
  refine wp_aload_n d_Lw_law_782 rfl rfl ?_
  refine lw_arg (j := 1) d_Lw_law_783 d_Lw_law_784 d_Lw_law_785 d_Lw_law_786 d_Lw_law_787 rfl hb (by omega) hLn ?_
  refine lw_arg (j := 2) d_Lw_law_788 d_Lw_law_789 d_Lw_law_790 d_Lw_law_791 d_Lw_law_792 rfl hb (by omega) hLn ?_
  refine wp_cv2 (i := 124) (d := 0 + 2) (q := 796) lk_Lw_88 (ro_law (by decide)) d_Lw_law_793 rfl (Nat.le_of_ble_eq_true rfl) ((rdX (j := 0)).trans rfl) rfl (show 164 + 32 * t ≤ 600000 by omega) (show 3739 + 120 * t ≤ 7302250 by omega) ?_
  refine ok_sh encC_len (ok_Rf_busTold (d := 0) hnb h12 ?_)
  refine lw_k0 ?_
  exact wp_icmp_eq_t d_Lw_law_796 (by decide) rfl (wp_widen (by omega) (by omega) (nx _ _ _ _ _ _ _ _ _ (iv_same h).lift hLK))
set_option maxHeartbeats 4000000 in
set_option maxRecDepth 100000 in
theorem lc_waiting {D : xD} {N : Nat} {l : Launch} {b Ln t : Nat} {xs : Nat → Int32} {c x V z : T2} {P Q : FN} {ln df : Nat → Option Nat} {lines : List va_E} {nb m mq nm tu e nk tp : Nat} (hb : b < N) (hLn : Ln ≤ 3072) (ht : 6 * t + 6 ≤ Ln) (h : IV c P Q (2500 * t) nb m mq nm tu e nk tp) (hLK : LK D N c ln lines) (nx : NX D N l b Ln xs t) : LWp D N l b Ln xs t 801 [] (HG D N c x V P Q ln df z lines) := by
  obtain ⟨⟨hnb, h12, hSE, hn0⟩, ⟨hWV, hm, hSt⟩, hQ3, hT, hCI, hSZ, hG, ⟨hnm, hm6, htu, htt, he, he1, he2, h14⟩, ⟨hnk, h30, h20⟩, ⟨htp, h160, hB⟩⟩ := id h
  refine wp_aload_n d_Lw_law_801 rfl rfl ?_
  refine lw_arg (j := 1) d_Lw_law_802 d_Lw_law_803 d_Lw_law_804 d_Lw_law_805 d_Lw_law_806 rfl hb (by omega) hLn ?_
  refine lw_arg (j := 2) d_Lw_law_807 d_Lw_law_808 d_Lw_law_809 d_Lw_law_810 d_Lw_law_811 rfl hb (by omega) hLn ?_
  refine wp_cv2 (d := 0 + 2) (q := 815) lk_Lw_89 (ro_law (by decide)) d_Lw_law_812 rfl (Nat.le_of_ble_eq_true rfl) rfl rfl (show 164 + 32 * t ≤ 600000 by omega) (show 3739 + 120 * t ≤ 7302250 by omega) ?_
  refine ok_FG_waiting (d := 0)  ?_
  refine lw_k0 ?_
  refine wp_aload_n d_Lw_law_815 rfl rfl ?_
  refine lw_arg (j := 1) d_Lw_law_816 d_Lw_law_817 d_Lw_law_818 d_Lw_law_819 d_Lw_law_820 rfl hb (by omega) hLn ?_
  refine lw_arg (j := 2) d_Lw_law_821 d_Lw_law_822 d_Lw_law_823 d_Lw_law_824 d_Lw_law_825 rfl hb (by omega) hLn ?_
  refine wp_cv2 (i := 124) (d := 0 + 2) (q := 829) lk_Lw_92 (ro_law (by decide)) d_Lw_law_826 rfl (Nat.le_of_ble_eq_true rfl) ((rdX (j := 0)).trans rfl) rfl (show 164 + 32 * t ≤ 600000 by omega) (show 3739 + 120 * t ≤ 7302250 by omega) ?_
  refine ok_sh encC_len (ok_Rf_waiting (d := 0)  ?_)
  refine lw_k0 ?_
  exact wp_icmp_eq_t d_Lw_law_829 (by decide) rfl (wp_widen (by omega) (by omega) (nx _ _ _ _ _ _ _ _ _ (iv_same h).lift hLK))
set_option maxHeartbeats 4000000 in
set_option maxRecDepth 100000 in
theorem lc_stageTold {D : xD} {N : Nat} {l : Launch} {b Ln t : Nat} {xs : Nat → Int32} {c x V z : T2} {P Q : FN} {ln df : Nat → Option Nat} {lines : List va_E} {nb m mq nm tu e nk tp : Nat} (hb : b < N) (hLn : Ln ≤ 3072) (ht : 6 * t + 6 ≤ Ln) (h : IV c P Q (2500 * t) nb m mq nm tu e nk tp) (hLK : LK D N c ln lines) (nx : NX D N l b Ln xs t) : LWp D N l b Ln xs t 834 [] (HG D N c x V P Q ln df z lines) := by
  obtain ⟨⟨hnb, h12, hSE, hn0⟩, ⟨hWV, hm, hSt⟩, hQ3, hT, hCI, hSZ, hG, ⟨hnm, hm6, htu, htt, he, he1, he2, h14⟩, ⟨hnk, h30, h20⟩, ⟨htp, h160, hB⟩⟩ := id h
  refine wp_aload_n d_Lw_law_834 rfl rfl ?_
  refine lw_arg (j := 1) d_Lw_law_835 d_Lw_law_836 d_Lw_law_837 d_Lw_law_838 d_Lw_law_839 rfl hb (by omega) hLn ?_
  refine lw_arg (j := 2) d_Lw_law_840 d_Lw_law_841 d_Lw_law_842 d_Lw_law_843 d_Lw_law_844 rfl hb (by omega) hLn ?_
  refine wp_cv2 (d := 0 + 2) (q := 848) lk_Lw_93 (ro_law (by decide)) d_Lw_law_845 rfl (Nat.le_of_ble_eq_true rfl) rfl rfl (show 164 + 32 * t ≤ 600000 by omega) (show 3739 + 120 * t ≤ 7302250 by omega) ?_
  refine ok_FG_stageTold (d := 0) hnb h12 hWV.1.2.2 (ti0 hT) ?_
  refine lw_k0 ?_
  refine wp_aload_n d_Lw_law_848 rfl rfl ?_
  refine lw_arg (j := 1) d_Lw_law_849 d_Lw_law_850 d_Lw_law_851 d_Lw_law_852 d_Lw_law_853 rfl hb (by omega) hLn ?_
  refine lw_arg (j := 2) d_Lw_law_854 d_Lw_law_855 d_Lw_law_856 d_Lw_law_857 d_Lw_law_858 rfl hb (by omega) hLn ?_
  refine wp_cv2 (i := 124) (d := 0 + 2) (q := 862) lk_Lw_96 (ro_law (by decide)) d_Lw_law_859 rfl (Nat.le_of_ble_eq_true rfl) ((rdX (j := 0)).trans rfl) rfl (show 164 + 32 * t ≤ 600000 by omega) (show 3739 + 120 * t ≤ 7302250 by omega) ?_
  refine ok_sh encC_len (ok_Rf_stageTold (d := 0) hnb h12 ?_)
  refine lw_k0 ?_
  exact wp_icmp_eq_t d_Lw_law_862 (by decide) rfl (wp_widen (by omega) (by omega) (nx _ _ _ _ _ _ _ _ _ (iv_same h).lift hLK))
set_option maxHeartbeats 4000000 in
set_option maxRecDepth 100000 in
theorem lc_kindTold {D : xD} {N : Nat} {l : Launch} {b Ln t : Nat} {xs : Nat → Int32} {c x V z : T2} {P Q : FN} {ln df : Nat → Option Nat} {lines : List va_E} {nb m mq nm tu e nk tp : Nat} (hb : b < N) (hLn : Ln ≤ 3072) (ht : 6 * t + 6 ≤ Ln) (h : IV c P Q (2500 * t) nb m mq nm tu e nk tp) (hLK : LK D N c ln lines) (nx : NX D N l b Ln xs t) : LWp D N l b Ln xs t 867 [] (HG D N c x V P Q ln df z lines) := by
  obtain ⟨⟨hnb, h12, hSE, hn0⟩, ⟨hWV, hm, hSt⟩, hQ3, hT, hCI, hSZ, hG, ⟨hnm, hm6, htu, htt, he, he1, he2, h14⟩, ⟨hnk, h30, h20⟩, ⟨htp, h160, hB⟩⟩ := id h
  refine wp_aload_n d_Lw_law_867 rfl rfl ?_
  refine lw_arg (j := 1) d_Lw_law_868 d_Lw_law_869 d_Lw_law_870 d_Lw_law_871 d_Lw_law_872 rfl hb (by omega) hLn ?_
  refine lw_arg (j := 2) d_Lw_law_873 d_Lw_law_874 d_Lw_law_875 d_Lw_law_876 d_Lw_law_877 rfl hb (by omega) hLn ?_
  refine lw_arg (j := 3) d_Lw_law_878 d_Lw_law_879 d_Lw_law_880 d_Lw_law_881 d_Lw_law_882 rfl hb (by omega) hLn ?_
  refine wp_cv3 (d := 0 + 4) (q := 886) lk_Lw_97 (ro_law (by decide)) d_Lw_law_883 rfl (Nat.le_of_ble_eq_true rfl) rfl rfl (show 164 + 32 * t ≤ 600000 by omega) (show 3739 + 120 * t ≤ 7302250 by omega) ?_
  refine ok_FG_kindTold (d := 0)  ?_
  refine lw_k0 ?_
  refine wp_aload_n d_Lw_law_886 rfl rfl ?_
  refine lw_arg (j := 1) d_Lw_law_887 d_Lw_law_888 d_Lw_law_889 d_Lw_law_890 d_Lw_law_891 rfl hb (by omega) hLn ?_
  refine lw_arg (j := 2) d_Lw_law_892 d_Lw_law_893 d_Lw_law_894 d_Lw_law_895 d_Lw_law_896 rfl hb (by omega) hLn ?_
  refine lw_arg (j := 3) d_Lw_law_897 d_Lw_law_898 d_Lw_law_899 d_Lw_law_900 d_Lw_law_901 rfl hb (by omega) hLn ?_
  refine wp_cv3 (i := 124) (d := 0 + 4) (q := 905) lk_Lw_100 (ro_law (by decide)) d_Lw_law_902 rfl (Nat.le_of_ble_eq_true rfl) ((rdX (j := 0)).trans rfl) rfl (show 164 + 32 * t ≤ 600000 by omega) (show 3739 + 120 * t ≤ 7302250 by omega) ?_
  refine ok_sh encC_len (ok_Rf_kindTold (d := 0)  ?_)
  refine lw_k0 ?_
  exact wp_icmp_eq_t d_Lw_law_905 (by decide) rfl (wp_widen (by omega) (by omega) (nx _ _ _ _ _ _ _ _ _ (iv_same h).lift hLK))
set_option maxHeartbeats 4000000 in
set_option maxRecDepth 100000 in
theorem lc_count {D : xD} {N : Nat} {l : Launch} {b Ln t : Nat} {xs : Nat → Int32} {c x V z : T2} {P Q : FN} {ln df : Nat → Option Nat} {lines : List va_E} {nb m mq nm tu e nk tp : Nat} (hb : b < N) (hLn : Ln ≤ 3072) (ht : 6 * t + 6 ≤ Ln) (h : IV c P Q (2500 * t) nb m mq nm tu e nk tp) (hLK : LK D N c ln lines) (nx : NX D N l b Ln xs t) : LWp D N l b Ln xs t 910 [] (HG D N c x V P Q ln df z lines) := by
  obtain ⟨⟨hnb, h12, hSE, hn0⟩, ⟨hWV, hm, hSt⟩, hQ3, hT, hCI, hSZ, hG, ⟨hnm, hm6, htu, htt, he, he1, he2, h14⟩, ⟨hnk, h30, h20⟩, ⟨htp, h160, hB⟩⟩ := id h
  refine wp_aload_n d_Lw_law_910 rfl rfl ?_
  refine lw_arg (j := 1) d_Lw_law_911 d_Lw_law_912 d_Lw_law_913 d_Lw_law_914 d_Lw_law_915 rfl hb (by omega) hLn ?_
  refine wp_cv1 (d := 0 + 0) (q := 919) lk_Lw_101 (ro_law (by decide)) d_Lw_law_916 rfl (Nat.le_of_ble_eq_true rfl) rfl rfl (show 164 + 32 * t ≤ 600000 by omega) (show 3739 + 120 * t ≤ 7302250 by omega) ?_
  refine ok_FG_count (d := 0)  ?_
  refine lw_k0 ?_
  refine wp_aload_n d_Lw_law_919 rfl rfl ?_
  refine lw_arg (j := 1) d_Lw_law_920 d_Lw_law_921 d_Lw_law_922 d_Lw_law_923 d_Lw_law_924 rfl hb (by omega) hLn ?_
  refine wp_cv1 (i := 124) (d := 0 + 0) (q := 928) lk_Lw_104 (ro_law (by decide)) d_Lw_law_925 rfl (Nat.le_of_ble_eq_true rfl) ((rdX (j := 0)).trans rfl) rfl (show 164 + 32 * t ≤ 600000 by omega) (show 3739 + 120 * t ≤ 7302250 by omega) ?_
  refine ok_sh encC_len (ok_Rf_count (d := 0)  ?_)
  refine lw_k0 ?_
  exact wp_icmp_eq_t d_Lw_law_928 (by decide) rfl (wp_widen (by omega) (by omega) (nx _ _ _ _ _ _ _ _ _ (iv_same h).lift hLK))
set_option maxHeartbeats 4000000 in
set_option maxRecDepth 100000 in
theorem lc_trip {D : xD} {N : Nat} {l : Launch} {b Ln t : Nat} {xs : Nat → Int32} {c x V z : T2} {P Q : FN} {ln df : Nat → Option Nat} {lines : List va_E} {nb m mq nm tu e nk tp : Nat} (hb : b < N) (hLn : Ln ≤ 3072) (ht : 6 * t + 6 ≤ Ln) (h : IV c P Q (2500 * t) nb m mq nm tu e nk tp) (hLK : LK D N c ln lines) (nx : NX D N l b Ln xs t) : LWp D N l b Ln xs t 933 [] (HG D N c x V P Q ln df z lines) := by
  obtain ⟨⟨hnb, h12, hSE, hn0⟩, ⟨hWV, hm, hSt⟩, hQ3, hT, hCI, hSZ, hG, ⟨hnm, hm6, htu, htt, he, he1, he2, h14⟩, ⟨hnk, h30, h20⟩, ⟨htp, h160, hB⟩⟩ := id h
  refine wp_aload_n d_Lw_law_933 rfl rfl ?_
  refine lw_arg (j := 1) d_Lw_law_934 d_Lw_law_935 d_Lw_law_936 d_Lw_law_937 d_Lw_law_938 rfl hb (by omega) hLn ?_
  refine lw_arg (j := 2) d_Lw_law_939 d_Lw_law_940 d_Lw_law_941 d_Lw_law_942 d_Lw_law_943 rfl hb (by omega) hLn ?_
  refine wp_cv2 (d := 0 + 3) (q := 947) lk_Lw_105 (ro_law (by decide)) d_Lw_law_944 rfl (Nat.le_of_ble_eq_true rfl) rfl rfl (show 164 + 32 * t ≤ 600000 by omega) (show 3739 + 120 * t ≤ 7302250 by omega) ?_
  refine ok_FG_trip (d := 0) hWV hm hT (fun x2 => ?_)
  refine lw_k0 ?_
  refine wp_aload_n d_Lw_law_947 rfl rfl ?_
  refine lw_arg (j := 1) d_Lw_law_948 d_Lw_law_949 d_Lw_law_950 d_Lw_law_951 d_Lw_law_952 rfl hb (by omega) hLn ?_
  refine lw_arg (j := 2) d_Lw_law_953 d_Lw_law_954 d_Lw_law_955 d_Lw_law_956 d_Lw_law_957 rfl hb (by omega) hLn ?_
  refine wp_cv2 (i := 124) (d := 0 + 3) (q := 961) lk_Lw_108 (ro_law (by decide)) d_Lw_law_958 rfl (Nat.le_of_ble_eq_true rfl) ((rdX (j := 0)).trans rfl) rfl (show 164 + 32 * t ≤ 600000 by omega) (show 3739 + 120 * t ≤ 7302250 by omega) ?_
  refine ok_sh encC_len (ok_Rf_trip (d := 0) hWV hm hT (fun z2 => ?_))
  refine lw_k0 ?_
  exact wp_icmp_eq_t d_Lw_law_961 (by decide) rfl (wp_widen (by omega) (by omega) (nx _ _ _ _ _ _ _ _ _ (iv_same h).lift hLK))
set_option maxHeartbeats 4000000 in
set_option maxRecDepth 100000 in
theorem lc_foretell {D : xD} {N : Nat} {l : Launch} {b Ln t : Nat} {xs : Nat → Int32} {c x V z : T2} {P Q : FN} {ln df : Nat → Option Nat} {lines : List va_E} {nb m mq nm tu e nk tp : Nat} (hb : b < N) (hLn : Ln ≤ 3072) (ht : 6 * t + 6 ≤ Ln) (h : IV c P Q (2500 * t) nb m mq nm tu e nk tp) (hLK : LK D N c ln lines) (nx : NX D N l b Ln xs t) : LWp D N l b Ln xs t 966 [] (HG D N c x V P Q ln df z lines) := by
  obtain ⟨⟨hnb, h12, hSE, hn0⟩, ⟨hWV, hm, hSt⟩, hQ3, hT, hCI, hSZ, hG, ⟨hnm, hm6, htu, htt, he, he1, he2, h14⟩, ⟨hnk, h30, h20⟩, ⟨htp, h160, hB⟩⟩ := id h
  refine wp_aload_n d_Lw_law_966 rfl rfl ?_
  refine lw_arg (j := 1) d_Lw_law_967 d_Lw_law_968 d_Lw_law_969 d_Lw_law_970 d_Lw_law_971 rfl hb (by omega) hLn ?_
  refine lw_arg (j := 2) d_Lw_law_972 d_Lw_law_973 d_Lw_law_974 d_Lw_law_975 d_Lw_law_976 rfl hb (by omega) hLn ?_
  refine wp_cv2 (d := 0 + 7) (q := 980) lk_Lw_109 (ro_law (by decide)) d_Lw_law_977 rfl (Nat.le_of_ble_eq_true rfl) rfl rfl (show 164 + 32 * t ≤ 600000 by omega) (show 3739 + 120 * t ≤ 7302250 by omega) ?_
  refine ok_FG_foretell (d := 0) hnb h12 hWV hm hT hSE hCI (hLK _ encR_len) (fun x2 Z2 => ?_)
  refine lw_k0 ?_
  rw [vv1]
  refine wp_aload_n d_Lw_law_980 rfl rfl ?_
  refine lw_arg (j := 1) d_Lw_law_981 d_Lw_law_982 d_Lw_law_983 d_Lw_law_984 d_Lw_law_985 rfl hb (by omega) hLn ?_
  refine lw_arg (j := 2) d_Lw_law_986 d_Lw_law_987 d_Lw_law_988 d_Lw_law_989 d_Lw_law_990 rfl hb (by omega) hLn ?_
  refine wp_cv2 (i := 124) (d := 0 + 7) (q := 994) lk_Lw_112 (ro_law (by decide)) d_Lw_law_991 rfl (Nat.le_of_ble_eq_true rfl) ((rdX (j := 0)).trans rfl) rfl (show 164 + 32 * t ≤ 600000 by omega) (show 3739 + 120 * t ≤ 7302250 by omega) ?_
  refine ok_sh encC_len (ok_Rf_foretell (d := 0) hnb h12 hWV hm hT hSE hCI (fun z2 => ?_))
  refine lw_k0 ?_
  exact wp_icmp_eq_t d_Lw_law_994 (by decide) rfl (wp_widen (by omega) (by omega) (nx _ _ _ _ _ _ _ _ _ (iv_same h).lift hLK))
set_option maxHeartbeats 4000000 in
set_option maxRecDepth 100000 in
theorem lc_beside {D : xD} {N : Nat} {l : Launch} {b Ln t : Nat} {xs : Nat → Int32} {c x V z : T2} {P Q : FN} {ln df : Nat → Option Nat} {lines : List va_E} {nb m mq nm tu e nk tp : Nat} (hb : b < N) (hLn : Ln ≤ 3072) (ht : 6 * t + 6 ≤ Ln) (h : IV c P Q (2500 * t) nb m mq nm tu e nk tp) (hLK : LK D N c ln lines) (nx : NX D N l b Ln xs t) : LWp D N l b Ln xs t 999 [] (HG D N c x V P Q ln df z lines) := by
  obtain ⟨⟨hnb, h12, hSE, hn0⟩, ⟨hWV, hm, hSt⟩, hQ3, hT, hCI, hSZ, hG, ⟨hnm, hm6, htu, htt, he, he1, he2, h14⟩, ⟨hnk, h30, h20⟩, ⟨htp, h160, hB⟩⟩ := id h
  refine wp_aload_n d_Lw_law_999 rfl rfl ?_
  refine lw_arg (j := 1) d_Lw_law_1000 d_Lw_law_1001 d_Lw_law_1002 d_Lw_law_1003 d_Lw_law_1004 rfl hb (by omega) hLn ?_
  refine lw_arg (j := 2) d_Lw_law_1005 d_Lw_law_1006 d_Lw_law_1007 d_Lw_law_1008 d_Lw_law_1009 rfl hb (by omega) hLn ?_
  refine lw_arg (j := 3) d_Lw_law_1010 d_Lw_law_1011 d_Lw_law_1012 d_Lw_law_1013 d_Lw_law_1014 rfl hb (by omega) hLn ?_
  refine wp_cv3 (d := 0 + 7) (q := 1018) lk_Lw_113 (ro_law (by decide)) d_Lw_law_1015 rfl (Nat.le_of_ble_eq_true rfl) rfl rfl (show 164 + 32 * t ≤ 600000 by omega) (show 3739 + 120 * t ≤ 7302250 by omega) ?_
  refine ok_FG_beside (d := 0) hnb h12 hWV hm hT hSE hCI (hLK _ encR_len) (fun x2 Z2 => ?_)
  refine lw_k0 ?_
  rw [vv1]
  refine wp_aload_n d_Lw_law_1018 rfl rfl ?_
  refine lw_arg (j := 1) d_Lw_law_1019 d_Lw_law_1020 d_Lw_law_1021 d_Lw_law_1022 d_Lw_law_1023 rfl hb (by omega) hLn ?_
  refine lw_arg (j := 2) d_Lw_law_1024 d_Lw_law_1025 d_Lw_law_1026 d_Lw_law_1027 d_Lw_law_1028 rfl hb (by omega) hLn ?_
  refine lw_arg (j := 3) d_Lw_law_1029 d_Lw_law_1030 d_Lw_law_1031 d_Lw_law_1032 d_Lw_law_1033 rfl hb (by omega) hLn ?_
  refine wp_cv3 (i := 124) (d := 0 + 7) (q := 1037) lk_Lw_117 (ro_law (by decide)) d_Lw_law_1034 rfl (Nat.le_of_ble_eq_true rfl) ((rdX (j := 0)).trans rfl) rfl (show 164 + 32 * t ≤ 600000 by omega) (show 3739 + 120 * t ≤ 7302250 by omega) ?_
  refine ok_sh encC_len (ok_Rf_beside (d := 0) hnb h12 hWV hm hT hSE hCI (fun z2 => ?_))
  refine lw_k0 ?_
  refine wp_lcmp d_Lw_law_1037 rfl ?_
  rw [lg_cmp0]
  exact wp_if_eq_t d_Lw_law_1038 (by decide) rfl (wp_widen (by omega) (by omega) (nx _ _ _ _ _ _ _ _ _ (iv_same h).lift hLK))
set_option maxHeartbeats 4000000 in
set_option maxRecDepth 100000 in
theorem lc_plan {D : xD} {N : Nat} {l : Launch} {b Ln t : Nat} {xs : Nat → Int32} {c x V z : T2} {P Q : FN} {ln df : Nat → Option Nat} {lines : List va_E} {nb m mq nm tu e nk tp : Nat} (hb : b < N) (hLn : Ln ≤ 3072) (ht : 6 * t + 6 ≤ Ln) (h : IV c P Q (2500 * t) nb m mq nm tu e nk tp) (hLK : LK D N c ln lines) (nx : NX D N l b Ln xs t) : LWp D N l b Ln xs t 1043 [] (HG D N c x V P Q ln df z lines) := by
  obtain ⟨⟨hnb, h12, hSE, hn0⟩, ⟨hWV, hm, hSt⟩, hQ3, hT, hCI, hSZ, hG, ⟨hnm, hm6, htu, htt, he, he1, he2, h14⟩, ⟨hnk, h30, h20⟩, ⟨htp, h160, hB⟩⟩ := id h
  refine wp_aload_n d_Lw_law_1043 rfl rfl ?_
  refine lw_arg (j := 1) d_Lw_law_1044 d_Lw_law_1045 d_Lw_law_1046 d_Lw_law_1047 d_Lw_law_1048 rfl hb (by omega) hLn ?_
  refine lw_arg (j := 2) d_Lw_law_1049 d_Lw_law_1050 d_Lw_law_1051 d_Lw_law_1052 d_Lw_law_1053 rfl hb (by omega) hLn ?_
  refine lw_arg (j := 3) d_Lw_law_1054 d_Lw_law_1055 d_Lw_law_1056 d_Lw_law_1057 d_Lw_law_1058 rfl hb (by omega) hLn ?_
  refine wp_cv3 (d := 0 + 8) (q := 1062) lk_Lw_118 (ro_law (by decide)) d_Lw_law_1059 rfl (Nat.le_of_ble_eq_true rfl) rfl rfl (show 164 + 32 * t ≤ 600000 by omega) (show 3739 + 120 * t ≤ 7302250 by omega) ?_
  refine ok_FG_plan (d := 0) hnb h12 hWV hm hT hSE hCI (hLK _ encR_len) hSZ hSt (by omega) (fun x2 Z2 => ?_)
  refine lw_k0 ?_
  rw [vv1]
  refine wp_aload_n d_Lw_law_1062 rfl rfl ?_
  refine lw_arg (j := 1) d_Lw_law_1063 d_Lw_law_1064 d_Lw_law_1065 d_Lw_law_1066 d_Lw_law_1067 rfl hb (by omega) hLn ?_
  refine lw_arg (j := 2) d_Lw_law_1068 d_Lw_law_1069 d_Lw_law_1070 d_Lw_law_1071 d_Lw_law_1072 rfl hb (by omega) hLn ?_
  refine lw_arg (j := 3) d_Lw_law_1073 d_Lw_law_1074 d_Lw_law_1075 d_Lw_law_1076 d_Lw_law_1077 rfl hb (by omega) hLn ?_
  refine wp_cv3 (i := 124) (d := 0 + 8) (q := 1081) lk_Lw_121 (ro_law (by decide)) d_Lw_law_1078 rfl (Nat.le_of_ble_eq_true rfl) ((rdX (j := 0)).trans rfl) rfl (show 164 + 32 * t ≤ 600000 by omega) (show 3739 + 120 * t ≤ 7302250 by omega) ?_
  refine ok_sh encC_len (ok_Rf_plan (d := 0) hnb h12 hWV hm hT hSE hCI hSZ hSt (by omega) (fun z2 => ?_))
  refine lw_k0 ?_
  refine wp_lcmp d_Lw_law_1081 rfl ?_
  rw [lg_cmp0]
  exact wp_if_eq_t d_Lw_law_1082 (by decide) rfl (wp_widen (by omega) (by omega) (nx _ _ _ _ _ _ _ _ _ (iv_plan h (xs (6 * t + 1)) (xs (6 * t + 2)) (xs (6 * t + 3))).lift (hLK.kp (kp_plan _ _ _ _ _ _ _))))
set_option maxHeartbeats 4000000 in
set_option maxRecDepth 100000 in
theorem lc_planned {D : xD} {N : Nat} {l : Launch} {b Ln t : Nat} {xs : Nat → Int32} {c x V z : T2} {P Q : FN} {ln df : Nat → Option Nat} {lines : List va_E} {nb m mq nm tu e nk tp : Nat} (hb : b < N) (hLn : Ln ≤ 3072) (ht : 6 * t + 6 ≤ Ln) (h : IV c P Q (2500 * t) nb m mq nm tu e nk tp) (hLK : LK D N c ln lines) (nx : NX D N l b Ln xs t) : LWp D N l b Ln xs t 1087 [] (HG D N c x V P Q ln df z lines) := by
  obtain ⟨⟨hnb, h12, hSE, hn0⟩, ⟨hWV, hm, hSt⟩, hQ3, hT, hCI, hSZ, hG, ⟨hnm, hm6, htu, htt, he, he1, he2, h14⟩, ⟨hnk, h30, h20⟩, ⟨htp, h160, hB⟩⟩ := id h
  refine wp_aload_n d_Lw_law_1087 rfl rfl ?_
  refine wp_cv0 (d := 0 + 0) (q := 1091) lk_Lw_122 (ro_law (by decide)) d_Lw_law_1088 rfl (Nat.le_of_ble_eq_true rfl) rfl rfl (show 164 + 32 * t ≤ 600000 by omega) (show 3739 + 120 * t ≤ 7302250 by omega) ?_
  refine ok_FG_planned (d := 0)  ?_
  refine lw_k0 ?_
  refine wp_aload_n d_Lw_law_1091 rfl rfl ?_
  refine wp_cv0 (i := 124) (d := 0 + 0) (q := 1095) lk_Lw_125 (ro_law (by decide)) d_Lw_law_1092 rfl (Nat.le_of_ble_eq_true rfl) ((rdX (j := 0)).trans rfl) rfl (show 164 + 32 * t ≤ 600000 by omega) (show 3739 + 120 * t ≤ 7302250 by omega) ?_
  refine ok_sh encC_len (ok_Rf_planned (d := 0)  ?_)
  refine lw_k0 ?_
  exact wp_icmp_eq_t d_Lw_law_1095 (by decide) rfl (wp_widen (by omega) (by omega) (nx _ _ _ _ _ _ _ _ _ (iv_same h).lift hLK))
set_option maxHeartbeats 4000000 in
set_option maxRecDepth 100000 in
theorem lc_gain {D : xD} {N : Nat} {l : Launch} {b Ln t : Nat} {xs : Nat → Int32} {c x V z : T2} {P Q : FN} {ln df : Nat → Option Nat} {lines : List va_E} {nb m mq nm tu e nk tp : Nat} (hb : b < N) (hLn : Ln ≤ 3072) (ht : 6 * t + 6 ≤ Ln) (h : IV c P Q (2500 * t) nb m mq nm tu e nk tp) (hLK : LK D N c ln lines) (nx : NX D N l b Ln xs t) : LWp D N l b Ln xs t 1100 [] (HG D N c x V P Q ln df z lines) := by
  obtain ⟨⟨hnb, h12, hSE, hn0⟩, ⟨hWV, hm, hSt⟩, hQ3, hT, hCI, hSZ, hG, ⟨hnm, hm6, htu, htt, he, he1, he2, h14⟩, ⟨hnk, h30, h20⟩, ⟨htp, h160, hB⟩⟩ := id h
  refine wp_aload_n d_Lw_law_1100 rfl rfl ?_
  refine lw_arg (j := 1) d_Lw_law_1101 d_Lw_law_1102 d_Lw_law_1103 d_Lw_law_1104 d_Lw_law_1105 rfl hb (by omega) hLn ?_
  refine lw_arg (j := 2) d_Lw_law_1106 d_Lw_law_1107 d_Lw_law_1108 d_Lw_law_1109 d_Lw_law_1110 rfl hb (by omega) hLn ?_
  refine lw_arg (j := 3) d_Lw_law_1111 d_Lw_law_1112 d_Lw_law_1113 d_Lw_law_1114 d_Lw_law_1115 rfl hb (by omega) hLn ?_
  refine wp_cv3 (d := 0 + 1) (q := 1119) lk_Lw_126 (ro_law (by decide)) d_Lw_law_1116 rfl (Nat.le_of_ble_eq_true rfl) rfl rfl (show 164 + 32 * t ≤ 600000 by omega) (show 3739 + 120 * t ≤ 7302250 by omega) ?_
  refine ok_FG_gain (d := 0)  ?_
  refine lw_k0 ?_
  refine wp_aload_n d_Lw_law_1119 rfl rfl ?_
  refine lw_arg (j := 1) d_Lw_law_1120 d_Lw_law_1121 d_Lw_law_1122 d_Lw_law_1123 d_Lw_law_1124 rfl hb (by omega) hLn ?_
  refine lw_arg (j := 2) d_Lw_law_1125 d_Lw_law_1126 d_Lw_law_1127 d_Lw_law_1128 d_Lw_law_1129 rfl hb (by omega) hLn ?_
  refine lw_arg (j := 3) d_Lw_law_1130 d_Lw_law_1131 d_Lw_law_1132 d_Lw_law_1133 d_Lw_law_1134 rfl hb (by omega) hLn ?_
  refine wp_cv3 (i := 124) (d := 0 + 1) (q := 1138) lk_Lw_129 (ro_law (by decide)) d_Lw_law_1135 rfl (Nat.le_of_ble_eq_true rfl) ((rdX (j := 0)).trans rfl) rfl (show 164 + 32 * t ≤ 600000 by omega) (show 3739 + 120 * t ≤ 7302250 by omega) ?_
  refine ok_sh encC_len (ok_Rf_gain (d := 0)  ?_)
  refine lw_k0 ?_
  exact wp_icmp_eq_t d_Lw_law_1138 (by decide) rfl (wp_widen (by omega) (by omega) (nx _ _ _ _ _ _ _ _ _ (iv_gain h (xs (6 * t + 1)) (xs (6 * t + 2)) (xs (6 * t + 3))).lift (hLK.kp (kp_gain _ _ _ _))))
set_option maxHeartbeats 4000000 in
set_option maxRecDepth 100000 in
theorem lc_fights {D : xD} {N : Nat} {l : Launch} {b Ln t : Nat} {xs : Nat → Int32} {c x V z : T2} {P Q : FN} {ln df : Nat → Option Nat} {lines : List va_E} {nb m mq nm tu e nk tp : Nat} (hb : b < N) (hLn : Ln ≤ 3072) (ht : 6 * t + 6 ≤ Ln) (h : IV c P Q (2500 * t) nb m mq nm tu e nk tp) (hLK : LK D N c ln lines) (nx : NX D N l b Ln xs t) : LWp D N l b Ln xs t 1143 [] (HG D N c x V P Q ln df z lines) := by
  obtain ⟨⟨hnb, h12, hSE, hn0⟩, ⟨hWV, hm, hSt⟩, hQ3, hT, hCI, hSZ, hG, ⟨hnm, hm6, htu, htt, he, he1, he2, h14⟩, ⟨hnk, h30, h20⟩, ⟨htp, h160, hB⟩⟩ := id h
  refine wp_aload_n d_Lw_law_1143 rfl rfl ?_
  refine lw_arg (j := 1) d_Lw_law_1144 d_Lw_law_1145 d_Lw_law_1146 d_Lw_law_1147 d_Lw_law_1148 rfl hb (by omega) hLn ?_
  refine wp_cv1 (d := 0 + 1) (q := 1152) lk_Lw_130 (ro_law (by decide)) d_Lw_law_1149 rfl (Nat.le_of_ble_eq_true rfl) rfl rfl (show 164 + 32 * t ≤ 600000 by omega) (show 3739 + 120 * t ≤ 7302250 by omega) ?_
  refine ok_FG_fights (d := 0)  ?_
  refine lw_k0 ?_
  refine wp_aload_n d_Lw_law_1152 rfl rfl ?_
  refine lw_arg (j := 1) d_Lw_law_1153 d_Lw_law_1154 d_Lw_law_1155 d_Lw_law_1156 d_Lw_law_1157 rfl hb (by omega) hLn ?_
  refine wp_cv1 (i := 124) (d := 0 + 1) (q := 1161) lk_Lw_133 (ro_law (by decide)) d_Lw_law_1158 rfl (Nat.le_of_ble_eq_true rfl) ((rdX (j := 0)).trans rfl) rfl (show 164 + 32 * t ≤ 600000 by omega) (show 3739 + 120 * t ≤ 7302250 by omega) ?_
  refine ok_sh encC_len (ok_Rf_fights (d := 0)  ?_)
  refine lw_k0 ?_
  exact wp_icmp_eq_t d_Lw_law_1161 (by decide) rfl (wp_widen (by omega) (by omega) (nx _ _ _ _ _ _ _ _ _ (iv_fights h (xs (6 * t + 1))).lift (hLK.kp (kp_fights _ _))))
set_option maxHeartbeats 4000000 in
set_option maxRecDepth 100000 in
theorem lc_part {D : xD} {N : Nat} {l : Launch} {b Ln t : Nat} {xs : Nat → Int32} {c x V z : T2} {P Q : FN} {ln df : Nat → Option Nat} {lines : List va_E} {nb m mq nm tu e nk tp : Nat} (hb : b < N) (hLn : Ln ≤ 3072) (ht : 6 * t + 6 ≤ Ln) (h : IV c P Q (2500 * t) nb m mq nm tu e nk tp) (hLK : LK D N c ln lines) (nx : NX D N l b Ln xs t) : LWp D N l b Ln xs t 1166 [] (HG D N c x V P Q ln df z lines) := by
  obtain ⟨⟨hnb, h12, hSE, hn0⟩, ⟨hWV, hm, hSt⟩, hQ3, hT, hCI, hSZ, hG, ⟨hnm, hm6, htu, htt, he, he1, he2, h14⟩, ⟨hnk, h30, h20⟩, ⟨htp, h160, hB⟩⟩ := id h
  refine wp_aload_n d_Lw_law_1166 rfl rfl ?_
  refine lw_arg (j := 1) d_Lw_law_1167 d_Lw_law_1168 d_Lw_law_1169 d_Lw_law_1170 d_Lw_law_1171 rfl hb (by omega) hLn ?_
  refine lw_arg (j := 2) d_Lw_law_1172 d_Lw_law_1173 d_Lw_law_1174 d_Lw_law_1175 d_Lw_law_1176 rfl hb (by omega) hLn ?_
  refine lw_arg (j := 3) d_Lw_law_1177 d_Lw_law_1178 d_Lw_law_1179 d_Lw_law_1180 d_Lw_law_1181 rfl hb (by omega) hLn ?_
  refine lw_arg (j := 4) d_Lw_law_1182 d_Lw_law_1183 d_Lw_law_1184 d_Lw_law_1185 d_Lw_law_1186 rfl hb (by omega) hLn ?_
  refine wp_cv4 (d := 0 + 2) (q := 1190) lk_Lw_134 (ro_law (by decide)) d_Lw_law_1187 rfl (Nat.le_of_ble_eq_true rfl) rfl rfl (show 164 + 32 * t ≤ 600000 by omega) (show 3739 + 120 * t ≤ 7302250 by omega) ?_
  refine ok_FG_part (d := 0) hG ?_
  refine lw_k0 ?_
  refine wp_aload_n d_Lw_law_1190 rfl rfl ?_
  refine lw_arg (j := 1) d_Lw_law_1191 d_Lw_law_1192 d_Lw_law_1193 d_Lw_law_1194 d_Lw_law_1195 rfl hb (by omega) hLn ?_
  refine lw_arg (j := 2) d_Lw_law_1196 d_Lw_law_1197 d_Lw_law_1198 d_Lw_law_1199 d_Lw_law_1200 rfl hb (by omega) hLn ?_
  refine lw_arg (j := 3) d_Lw_law_1201 d_Lw_law_1202 d_Lw_law_1203 d_Lw_law_1204 d_Lw_law_1205 rfl hb (by omega) hLn ?_
  refine lw_arg (j := 4) d_Lw_law_1206 d_Lw_law_1207 d_Lw_law_1208 d_Lw_law_1209 d_Lw_law_1210 rfl hb (by omega) hLn ?_
  refine wp_cv4 (i := 124) (d := 0 + 2) (q := 1214) lk_Lw_137 (ro_law (by decide)) d_Lw_law_1211 rfl (Nat.le_of_ble_eq_true rfl) ((rdX (j := 0)).trans rfl) rfl (show 164 + 32 * t ≤ 600000 by omega) (show 3739 + 120 * t ≤ 7302250 by omega) ?_
  refine ok_sh encC_len (ok_Rf_part (d := 0) hG (fun z2 => ?_))
  refine lw_k0 ?_
  exact wp_icmp_eq_t d_Lw_law_1214 (by decide) rfl (wp_widen (by omega) (by omega) (nx _ _ _ _ _ _ _ _ _ (iv_same h).lift hLK))
set_option maxHeartbeats 4000000 in
set_option maxRecDepth 100000 in
theorem lc_round {D : xD} {N : Nat} {l : Launch} {b Ln t : Nat} {xs : Nat → Int32} {c x V z : T2} {P Q : FN} {ln df : Nat → Option Nat} {lines : List va_E} {nb m mq nm tu e nk tp : Nat} (hb : b < N) (hLn : Ln ≤ 3072) (ht : 6 * t + 6 ≤ Ln) (h : IV c P Q (2500 * t) nb m mq nm tu e nk tp) (hLK : LK D N c ln lines) (nx : NX D N l b Ln xs t) : LWp D N l b Ln xs t 1219 [] (HG D N c x V P Q ln df z lines) := by
  obtain ⟨⟨hnb, h12, hSE, hn0⟩, ⟨hWV, hm, hSt⟩, hQ3, hT, hCI, hSZ, hG, ⟨hnm, hm6, htu, htt, he, he1, he2, h14⟩, ⟨hnk, h30, h20⟩, ⟨htp, h160, hB⟩⟩ := id h
  refine wp_aload_n d_Lw_law_1219 rfl rfl ?_
  refine lw_arg (j := 1) d_Lw_law_1220 d_Lw_law_1221 d_Lw_law_1222 d_Lw_law_1223 d_Lw_law_1224 rfl hb (by omega) hLn ?_
  refine lw_arg (j := 2) d_Lw_law_1225 d_Lw_law_1226 d_Lw_law_1227 d_Lw_law_1228 d_Lw_law_1229 rfl hb (by omega) hLn ?_
  refine wp_cv2 (d := 0 + 1) (q := 1233) lk_Lw_138 (ro_law (by decide)) d_Lw_law_1230 rfl (Nat.le_of_ble_eq_true rfl) rfl rfl (show 164 + 32 * t ≤ 600000 by omega) (show 3739 + 120 * t ≤ 7302250 by omega) ?_
  refine ok_FG_round (d := 0)  ?_
  refine lw_k0 ?_
  refine wp_aload_n d_Lw_law_1233 rfl rfl ?_
  refine lw_arg (j := 1) d_Lw_law_1234 d_Lw_law_1235 d_Lw_law_1236 d_Lw_law_1237 d_Lw_law_1238 rfl hb (by omega) hLn ?_
  refine lw_arg (j := 2) d_Lw_law_1239 d_Lw_law_1240 d_Lw_law_1241 d_Lw_law_1242 d_Lw_law_1243 rfl hb (by omega) hLn ?_
  refine wp_cv2 (i := 124) (d := 0 + 1) (q := 1247) lk_Lw_141 (ro_law (by decide)) d_Lw_law_1244 rfl (Nat.le_of_ble_eq_true rfl) ((rdX (j := 0)).trans rfl) rfl (show 164 + 32 * t ≤ 600000 by omega) (show 3739 + 120 * t ≤ 7302250 by omega) ?_
  refine ok_sh encC_len (ok_Rf_round (d := 0)  ?_)
  refine lw_k0 ?_
  exact wp_icmp_eq_t d_Lw_law_1247 (by decide) rfl (wp_widen (by omega) (by omega) (nx _ _ _ _ _ _ _ _ _ (iv_round h (xs (6 * t + 1)) (xs (6 * t + 2))).lift (hLK.kp (kp_round _ _ _))))
set_option maxHeartbeats 4000000 in
set_option maxRecDepth 100000 in
theorem lc_stops {D : xD} {N : Nat} {l : Launch} {b Ln t : Nat} {xs : Nat → Int32} {c x V z : T2} {P Q : FN} {ln df : Nat → Option Nat} {lines : List va_E} {nb m mq nm tu e nk tp : Nat} (hb : b < N) (hLn : Ln ≤ 3072) (ht : 6 * t + 6 ≤ Ln) (h : IV c P Q (2500 * t) nb m mq nm tu e nk tp) (hLK : LK D N c ln lines) (nx : NX D N l b Ln xs t) : LWp D N l b Ln xs t 1252 [] (HG D N c x V P Q ln df z lines) := by
  obtain ⟨⟨hnb, h12, hSE, hn0⟩, ⟨hWV, hm, hSt⟩, hQ3, hT, hCI, hSZ, hG, ⟨hnm, hm6, htu, htt, he, he1, he2, h14⟩, ⟨hnk, h30, h20⟩, ⟨htp, h160, hB⟩⟩ := id h
  refine wp_aload_n d_Lw_law_1252 rfl rfl ?_
  refine lw_arg (j := 1) d_Lw_law_1253 d_Lw_law_1254 d_Lw_law_1255 d_Lw_law_1256 d_Lw_law_1257 rfl hb (by omega) hLn ?_
  refine wp_cv1 (d := 0 + 2) (q := 1261) lk_Lw_142 (ro_law (by decide)) d_Lw_law_1258 rfl (Nat.le_of_ble_eq_true rfl) rfl rfl (show 164 + 32 * t ≤ 600000 by omega) (show 3739 + 120 * t ≤ 7302250 by omega) ?_
  refine ok_FG_stops (d := 0) hnm hm6 ?_
  refine lw_k0 ?_
  refine wp_aload_n d_Lw_law_1261 rfl rfl ?_
  refine lw_arg (j := 1) d_Lw_law_1262 d_Lw_law_1263 d_Lw_law_1264 d_Lw_law_1265 d_Lw_law_1266 rfl hb (by omega) hLn ?_
  refine wp_cv1 (i := 124) (d := 0 + 2) (q := 1270) lk_Lw_145 (ro_law (by decide)) d_Lw_law_1267 rfl (Nat.le_of_ble_eq_true rfl) ((rdX (j := 0)).trans rfl) rfl (show 164 + 32 * t ≤ 600000 by omega) (show 3739 + 120 * t ≤ 7302250 by omega) ?_
  refine ok_sh encC_len (ok_Rf_stops (d := 0) hnm hm6 ?_)
  refine lw_k0 ?_
  exact wp_icmp_eq_t d_Lw_law_1270 (by decide) rfl (wp_widen (by omega) (by omega) (nx _ _ _ _ _ _ _ _ _ (iv_stops h (xs (6 * t + 1))).lift (hLK.kp (kp_stops _ _))))
set_option maxHeartbeats 4000000 in
set_option maxRecDepth 100000 in
theorem lc_turns {D : xD} {N : Nat} {l : Launch} {b Ln t : Nat} {xs : Nat → Int32} {c x V z : T2} {P Q : FN} {ln df : Nat → Option Nat} {lines : List va_E} {nb m mq nm tu e nk tp : Nat} (hb : b < N) (hLn : Ln ≤ 3072) (ht : 6 * t + 6 ≤ Ln) (h : IV c P Q (2500 * t) nb m mq nm tu e nk tp) (hLK : LK D N c ln lines) (nx : NX D N l b Ln xs t) : LWp D N l b Ln xs t 1275 [] (HG D N c x V P Q ln df z lines) := by
  obtain ⟨⟨hnb, h12, hSE, hn0⟩, ⟨hWV, hm, hSt⟩, hQ3, hT, hCI, hSZ, hG, ⟨hnm, hm6, htu, htt, he, he1, he2, h14⟩, ⟨hnk, h30, h20⟩, ⟨htp, h160, hB⟩⟩ := id h
  refine wp_aload_n d_Lw_law_1275 rfl rfl ?_
  refine wp_cv0 (d := 0 + 1) (q := 1279) lk_Lw_146 (ro_law (by decide)) d_Lw_law_1276 rfl (Nat.le_of_ble_eq_true rfl) rfl rfl (show 164 + 32 * t ≤ 600000 by omega) (show 3739 + 120 * t ≤ 7302250 by omega) ?_
  refine ok_FG_turns (d := 0) hnm hm6 htu (htt.elim (fun q => Or.inl q.1) Or.inr) ?_
  refine lw_k0 ?_
  refine wp_aload_n d_Lw_law_1279 rfl rfl ?_
  refine wp_cv0 (i := 124) (d := 0 + 1) (q := 1283) lk_Lw_149 (ro_law (by decide)) d_Lw_law_1280 rfl (Nat.le_of_ble_eq_true rfl) ((rdX (j := 0)).trans rfl) rfl (show 164 + 32 * t ≤ 600000 by omega) (show 3739 + 120 * t ≤ 7302250 by omega) ?_
  refine ok_sh encC_len (ok_Rf_turns (d := 0) hnm hm6 htu (htt.elim (fun q => Or.inl q.1) Or.inr) he he1 he2 ?_)
  refine lw_k0 ?_
  exact wp_icmp_eq_t d_Lw_law_1283 (by decide) rfl (wp_widen (by omega) (by omega) (nx _ _ _ _ _ _ _ _ _ (iv_turns h ).lift (hLK.kp (kp_turns _ _ _))))
set_option maxHeartbeats 4000000 in
set_option maxRecDepth 100000 in
theorem lc_saved {D : xD} {N : Nat} {l : Launch} {b Ln t : Nat} {xs : Nat → Int32} {c x V z : T2} {P Q : FN} {ln df : Nat → Option Nat} {lines : List va_E} {nb m mq nm tu e nk tp : Nat} (hb : b < N) (hLn : Ln ≤ 3072) (ht : 6 * t + 6 ≤ Ln) (h : IV c P Q (2500 * t) nb m mq nm tu e nk tp) (hLK : LK D N c ln lines) (nx : NX D N l b Ln xs t) : LWp D N l b Ln xs t 1288 [] (HG D N c x V P Q ln df z lines) := by
  obtain ⟨⟨hnb, h12, hSE, hn0⟩, ⟨hWV, hm, hSt⟩, hQ3, hT, hCI, hSZ, hG, ⟨hnm, hm6, htu, htt, he, he1, he2, h14⟩, ⟨hnk, h30, h20⟩, ⟨htp, h160, hB⟩⟩ := id h
  refine wp_aload_n d_Lw_law_1288 rfl rfl ?_
  refine lw_arg (j := 1) d_Lw_law_1289 d_Lw_law_1290 d_Lw_law_1291 d_Lw_law_1292 d_Lw_law_1293 rfl hb (by omega) hLn ?_
  refine lw_arg (j := 2) d_Lw_law_1294 d_Lw_law_1295 d_Lw_law_1296 d_Lw_law_1297 d_Lw_law_1298 rfl hb (by omega) hLn ?_
  refine wp_cv2 (d := 0 + 2) (q := 1302) lk_Lw_150 (ro_law (by decide)) d_Lw_law_1299 rfl (Nat.le_of_ble_eq_true rfl) rfl rfl (show 164 + 32 * t ≤ 600000 by omega) (show 3739 + 120 * t ≤ 7302250 by omega) ?_
  refine ok_FG_saved (d := 0) hnm hm6 ?_
  refine lw_k0 ?_
  refine wp_aload_n d_Lw_law_1302 rfl rfl ?_
  refine lw_arg (j := 1) d_Lw_law_1303 d_Lw_law_1304 d_Lw_law_1305 d_Lw_law_1306 d_Lw_law_1307 rfl hb (by omega) hLn ?_
  refine lw_arg (j := 2) d_Lw_law_1308 d_Lw_law_1309 d_Lw_law_1310 d_Lw_law_1311 d_Lw_law_1312 rfl hb (by omega) hLn ?_
  refine wp_cv2 (i := 124) (d := 0 + 2) (q := 1316) lk_Lw_153 (ro_law (by decide)) d_Lw_law_1313 rfl (Nat.le_of_ble_eq_true rfl) ((rdX (j := 0)).trans rfl) rfl (show 164 + 32 * t ≤ 600000 by omega) (show 3739 + 120 * t ≤ 7302250 by omega) ?_
  refine ok_sh encC_len (ok_Rf_saved (d := 0) hnm hm6 h14 ?_)
  refine lw_k0 ?_
  exact wp_icmp_eq_t d_Lw_law_1316 (by decide) rfl (wp_widen (by omega) (by omega) (nx _ _ _ _ _ _ _ _ _ (iv_same h).lift hLK))
set_option maxHeartbeats 4000000 in
set_option maxRecDepth 100000 in
theorem lc_book {D : xD} {N : Nat} {l : Launch} {b Ln t : Nat} {xs : Nat → Int32} {c x V z : T2} {P Q : FN} {ln df : Nat → Option Nat} {lines : List va_E} {nb m mq nm tu e nk tp : Nat} (hb : b < N) (hLn : Ln ≤ 3072) (ht : 6 * t + 6 ≤ Ln) (h : IV c P Q (2500 * t) nb m mq nm tu e nk tp) (hLK : LK D N c ln lines) (nx : NX D N l b Ln xs t) : LWp D N l b Ln xs t 1321 [] (HG D N c x V P Q ln df z lines) := by
  obtain ⟨⟨hnb, h12, hSE, hn0⟩, ⟨hWV, hm, hSt⟩, hQ3, hT, hCI, hSZ, hG, ⟨hnm, hm6, htu, htt, he, he1, he2, h14⟩, ⟨hnk, h30, h20⟩, ⟨htp, h160, hB⟩⟩ := id h
  refine wp_aload_n d_Lw_law_1321 rfl rfl ?_
  refine lw_arg (j := 1) d_Lw_law_1322 d_Lw_law_1323 d_Lw_law_1324 d_Lw_law_1325 d_Lw_law_1326 rfl hb (by omega) hLn ?_
  refine lw_arg (j := 2) d_Lw_law_1327 d_Lw_law_1328 d_Lw_law_1329 d_Lw_law_1330 d_Lw_law_1331 rfl hb (by omega) hLn ?_
  refine lw_arg (j := 3) d_Lw_law_1332 d_Lw_law_1333 d_Lw_law_1334 d_Lw_law_1335 d_Lw_law_1336 rfl hb (by omega) hLn ?_
  refine wp_cv3 (d := 0 + 2) (q := 1340) lk_Lw_154 (ro_law (by decide)) d_Lw_law_1337 rfl (Nat.le_of_ble_eq_true rfl) rfl rfl (show 164 + 32 * t ≤ 600000 by omega) (show 3739 + 120 * t ≤ 7302250 by omega) ?_
  refine ok_FG_book (d := 0) hnb h12 hnk h30 h20 ?_
  refine lw_k0 ?_
  refine wp_aload_n d_Lw_law_1340 rfl rfl ?_
  refine lw_arg (j := 1) d_Lw_law_1341 d_Lw_law_1342 d_Lw_law_1343 d_Lw_law_1344 d_Lw_law_1345 rfl hb (by omega) hLn ?_
  refine lw_arg (j := 2) d_Lw_law_1346 d_Lw_law_1347 d_Lw_law_1348 d_Lw_law_1349 d_Lw_law_1350 rfl hb (by omega) hLn ?_
  refine lw_arg (j := 3) d_Lw_law_1351 d_Lw_law_1352 d_Lw_law_1353 d_Lw_law_1354 d_Lw_law_1355 rfl hb (by omega) hLn ?_
  refine wp_cv3 (i := 124) (d := 0 + 2) (q := 1359) lk_Lw_157 (ro_law (by decide)) d_Lw_law_1356 rfl (Nat.le_of_ble_eq_true rfl) ((rdX (j := 0)).trans rfl) rfl (show 164 + 32 * t ≤ 600000 by omega) (show 3739 + 120 * t ≤ 7302250 by omega) ?_
  refine ok_sh encC_len (ok_Rf_book (d := 0) hnb h12 hnk h30 ?_)
  refine lw_k0 ?_
  exact wp_icmp_eq_t d_Lw_law_1359 (by decide) rfl (wp_widen (by omega) (by omega) (nx _ _ _ _ _ _ _ _ _ (iv_book h (xs (6 * t + 1)) (xs (6 * t + 2)) (xs (6 * t + 3))).lift (hLK.kp (kp_book _ _ _ _ _ _))))
set_option maxHeartbeats 4000000 in
set_option maxRecDepth 100000 in
theorem lc_mend {D : xD} {N : Nat} {l : Launch} {b Ln t : Nat} {xs : Nat → Int32} {c x V z : T2} {P Q : FN} {ln df : Nat → Option Nat} {lines : List va_E} {nb m mq nm tu e nk tp : Nat} (hb : b < N) (hLn : Ln ≤ 3072) (ht : 6 * t + 6 ≤ Ln) (h : IV c P Q (2500 * t) nb m mq nm tu e nk tp) (hLK : LK D N c ln lines) (nx : NX D N l b Ln xs t) : LWp D N l b Ln xs t 1364 [] (HG D N c x V P Q ln df z lines) := by
  obtain ⟨⟨hnb, h12, hSE, hn0⟩, ⟨hWV, hm, hSt⟩, hQ3, hT, hCI, hSZ, hG, ⟨hnm, hm6, htu, htt, he, he1, he2, h14⟩, ⟨hnk, h30, h20⟩, ⟨htp, h160, hB⟩⟩ := id h
  refine wp_aload_n d_Lw_law_1364 rfl rfl ?_
  refine lw_arg (j := 1) d_Lw_law_1365 d_Lw_law_1366 d_Lw_law_1367 d_Lw_law_1368 d_Lw_law_1369 rfl hb (by omega) hLn ?_
  refine lw_arg (j := 2) d_Lw_law_1370 d_Lw_law_1371 d_Lw_law_1372 d_Lw_law_1373 d_Lw_law_1374 rfl hb (by omega) hLn ?_
  refine wp_cv2 (d := 0 + 1) (q := 1378) lk_Lw_158 (ro_law (by decide)) d_Lw_law_1375 rfl (Nat.le_of_ble_eq_true rfl) rfl rfl (show 164 + 32 * t ≤ 600000 by omega) (show 3739 + 120 * t ≤ 7302250 by omega) ?_
  refine ok_FG_mend (d := 0) hnk h30 ?_
  refine lw_k0 ?_
  refine wp_aload_n d_Lw_law_1378 rfl rfl ?_
  refine lw_arg (j := 1) d_Lw_law_1379 d_Lw_law_1380 d_Lw_law_1381 d_Lw_law_1382 d_Lw_law_1383 rfl hb (by omega) hLn ?_
  refine lw_arg (j := 2) d_Lw_law_1384 d_Lw_law_1385 d_Lw_law_1386 d_Lw_law_1387 d_Lw_law_1388 rfl hb (by omega) hLn ?_
  refine wp_cv2 (i := 124) (d := 0 + 1) (q := 1392) lk_Lw_161 (ro_law (by decide)) d_Lw_law_1389 rfl (Nat.le_of_ble_eq_true rfl) ((rdX (j := 0)).trans rfl) rfl (show 164 + 32 * t ≤ 600000 by omega) (show 3739 + 120 * t ≤ 7302250 by omega) ?_
  refine ok_sh encC_len (ok_Rf_mend (d := 0) hnk h30 ?_)
  refine lw_k0 ?_
  exact wp_icmp_eq_t d_Lw_law_1392 (by decide) rfl (wp_widen (by omega) (by omega) (nx _ _ _ _ _ _ _ _ _ (iv_mend h (xs (6 * t + 1)) (xs (6 * t + 2))).lift (hLK.kp (kp_mend _ _ _ _))))
set_option maxHeartbeats 4000000 in
set_option maxRecDepth 100000 in
theorem lc_told {D : xD} {N : Nat} {l : Launch} {b Ln t : Nat} {xs : Nat → Int32} {c x V z : T2} {P Q : FN} {ln df : Nat → Option Nat} {lines : List va_E} {nb m mq nm tu e nk tp : Nat} (hb : b < N) (hLn : Ln ≤ 3072) (ht : 6 * t + 6 ≤ Ln) (h : IV c P Q (2500 * t) nb m mq nm tu e nk tp) (hLK : LK D N c ln lines) (nx : NX D N l b Ln xs t) : LWp D N l b Ln xs t 1397 [] (HG D N c x V P Q ln df z lines) := by
  obtain ⟨⟨hnb, h12, hSE, hn0⟩, ⟨hWV, hm, hSt⟩, hQ3, hT, hCI, hSZ, hG, ⟨hnm, hm6, htu, htt, he, he1, he2, h14⟩, ⟨hnk, h30, h20⟩, ⟨htp, h160, hB⟩⟩ := id h
  refine wp_aload_n d_Lw_law_1397 rfl rfl ?_
  refine lw_arg (j := 1) d_Lw_law_1398 d_Lw_law_1399 d_Lw_law_1400 d_Lw_law_1401 d_Lw_law_1402 rfl hb (by omega) hLn ?_
  refine lw_arg (j := 2) d_Lw_law_1403 d_Lw_law_1404 d_Lw_law_1405 d_Lw_law_1406 d_Lw_law_1407 rfl hb (by omega) hLn ?_
  refine lw_arg (j := 3) d_Lw_law_1408 d_Lw_law_1409 d_Lw_law_1410 d_Lw_law_1411 d_Lw_law_1412 rfl hb (by omega) hLn ?_
  refine wp_cv3 (d := 0 + 2) (q := 1416) lk_Lw_162 (ro_law (by decide)) d_Lw_law_1413 rfl (Nat.le_of_ble_eq_true rfl) rfl rfl (show 164 + 32 * t ≤ 600000 by omega) (show 3739 + 120 * t ≤ 7302250 by omega) ?_
  refine ok_FG_told (d := 0) hnb h12 hnk h30 ?_
  refine lw_k0 ?_
  refine wp_aload_n d_Lw_law_1416 rfl rfl ?_
  refine lw_arg (j := 1) d_Lw_law_1417 d_Lw_law_1418 d_Lw_law_1419 d_Lw_law_1420 d_Lw_law_1421 rfl hb (by omega) hLn ?_
  refine lw_arg (j := 2) d_Lw_law_1422 d_Lw_law_1423 d_Lw_law_1424 d_Lw_law_1425 d_Lw_law_1426 rfl hb (by omega) hLn ?_
  refine lw_arg (j := 3) d_Lw_law_1427 d_Lw_law_1428 d_Lw_law_1429 d_Lw_law_1430 d_Lw_law_1431 rfl hb (by omega) hLn ?_
  refine wp_cv3 (i := 124) (d := 0 + 2) (q := 1435) lk_Lw_165 (ro_law (by decide)) d_Lw_law_1432 rfl (Nat.le_of_ble_eq_true rfl) ((rdX (j := 0)).trans rfl) rfl (show 164 + 32 * t ≤ 600000 by omega) (show 3739 + 120 * t ≤ 7302250 by omega) ?_
  refine ok_sh encC_len (ok_Rf_told (d := 0) hnb h12 hnk h30 ?_)
  refine lw_k0 ?_
  refine wp_lcmp d_Lw_law_1435 rfl ?_
  rw [lg_cmp0]
  exact wp_if_eq_t d_Lw_law_1436 (by decide) rfl (wp_widen (by omega) (by omega) (nx _ _ _ _ _ _ _ _ _ (iv_same h).lift hLK))
set_option maxHeartbeats 4000000 in
set_option maxRecDepth 100000 in
theorem lc_sheet {D : xD} {N : Nat} {l : Launch} {b Ln t : Nat} {xs : Nat → Int32} {c x V z : T2} {P Q : FN} {ln df : Nat → Option Nat} {lines : List va_E} {nb m mq nm tu e nk tp : Nat} (hb : b < N) (hLn : Ln ≤ 3072) (ht : 6 * t + 6 ≤ Ln) (h : IV c P Q (2500 * t) nb m mq nm tu e nk tp) (hLK : LK D N c ln lines) (nx : NX D N l b Ln xs t) : LWp D N l b Ln xs t 1467 [] (HG D N c x V P Q ln df z lines) := by
  obtain ⟨⟨hnb, h12, hSE, hn0⟩, ⟨hWV, hm, hSt⟩, hQ3, hT, hCI, hSZ, hG, ⟨hnm, hm6, htu, htt, he, he1, he2, h14⟩, ⟨hnk, h30, h20⟩, ⟨htp, h160, hB⟩⟩ := id h
  refine wp_aload_n d_Lw_law_1467 rfl rfl ?_
  refine lw_arg (j := 1) d_Lw_law_1468 d_Lw_law_1469 d_Lw_law_1470 d_Lw_law_1471 d_Lw_law_1472 rfl hb (by omega) hLn ?_
  refine lw_arg (j := 2) d_Lw_law_1473 d_Lw_law_1474 d_Lw_law_1475 d_Lw_law_1476 d_Lw_law_1477 rfl hb (by omega) hLn ?_
  refine lw_arg (j := 3) d_Lw_law_1478 d_Lw_law_1479 d_Lw_law_1480 d_Lw_law_1481 d_Lw_law_1482 rfl hb (by omega) hLn ?_
  refine wp_cv3 (d := 0 + 2) (q := 1486) lk_Lw_174 (ro_law (by decide)) d_Lw_law_1483 rfl (Nat.le_of_ble_eq_true rfl) rfl rfl (show 164 + 32 * t ≤ 600000 by omega) (show 3739 + 120 * t ≤ 7302250 by omega) ?_
  refine ok_FG_sheet (d := 0)  ?_
  refine lw_k0 ?_
  refine wp_aload_n d_Lw_law_1486 rfl rfl ?_
  refine lw_arg (j := 1) d_Lw_law_1487 d_Lw_law_1488 d_Lw_law_1489 d_Lw_law_1490 d_Lw_law_1491 rfl hb (by omega) hLn ?_
  refine lw_arg (j := 2) d_Lw_law_1492 d_Lw_law_1493 d_Lw_law_1494 d_Lw_law_1495 d_Lw_law_1496 rfl hb (by omega) hLn ?_
  refine lw_arg (j := 3) d_Lw_law_1497 d_Lw_law_1498 d_Lw_law_1499 d_Lw_law_1500 d_Lw_law_1501 rfl hb (by omega) hLn ?_
  refine wp_cv3 (i := 124) (d := 0 + 2) (q := 1505) lk_Lw_177 (ro_law (by decide)) d_Lw_law_1502 rfl (Nat.le_of_ble_eq_true rfl) ((rdX (j := 0)).trans rfl) rfl (show 164 + 32 * t ≤ 600000 by omega) (show 3739 + 120 * t ≤ 7302250 by omega) ?_
  refine ok_sh encC_len (ok_Rf_sheet (d := 0)  ?_)
  refine lw_k0 ?_
  exact wp_icmp_eq_t d_Lw_law_1505 (by decide) rfl (wp_widen (by omega) (by omega) (nx _ _ _ _ _ _ _ _ _ (iv_sheet h (xs (6 * t + 1)) (xs (6 * t + 2)) (xs (6 * t + 3))).lift (hLK.kp (kp_sheet _ _ _ _))))
set_option maxHeartbeats 4000000 in
set_option maxRecDepth 100000 in
theorem lc_cell {D : xD} {N : Nat} {l : Launch} {b Ln t : Nat} {xs : Nat → Int32} {c x V z : T2} {P Q : FN} {ln df : Nat → Option Nat} {lines : List va_E} {nb m mq nm tu e nk tp : Nat} (hb : b < N) (hLn : Ln ≤ 3072) (ht : 6 * t + 6 ≤ Ln) (h : IV c P Q (2500 * t) nb m mq nm tu e nk tp) (hLK : LK D N c ln lines) (nx : NX D N l b Ln xs t) : LWp D N l b Ln xs t 1510 [] (HG D N c x V P Q ln df z lines) := by
  obtain ⟨⟨hnb, h12, hSE, hn0⟩, ⟨hWV, hm, hSt⟩, hQ3, hT, hCI, hSZ, hG, ⟨hnm, hm6, htu, htt, he, he1, he2, h14⟩, ⟨hnk, h30, h20⟩, ⟨htp, h160, hB⟩⟩ := id h
  refine wp_aload_n d_Lw_law_1510 rfl rfl ?_
  refine lw_arg (j := 1) d_Lw_law_1511 d_Lw_law_1512 d_Lw_law_1513 d_Lw_law_1514 d_Lw_law_1515 rfl hb (by omega) hLn ?_
  refine lw_arg (j := 2) d_Lw_law_1516 d_Lw_law_1517 d_Lw_law_1518 d_Lw_law_1519 d_Lw_law_1520 rfl hb (by omega) hLn ?_
  refine lw_arg (j := 3) d_Lw_law_1521 d_Lw_law_1522 d_Lw_law_1523 d_Lw_law_1524 d_Lw_law_1525 rfl hb (by omega) hLn ?_
  refine wp_cv3 (d := 0 + 2) (q := 1529) lk_Lw_178 (ro_law (by decide)) d_Lw_law_1526 rfl (Nat.le_of_ble_eq_true rfl) rfl rfl (show 164 + 32 * t ≤ 600000 by omega) (show 3739 + 120 * t ≤ 7302250 by omega) ?_
  refine ok_FG_cell (d := 0) hSZ ?_
  refine lw_k0 ?_
  refine wp_aload_n d_Lw_law_1529 rfl rfl ?_
  refine lw_arg (j := 1) d_Lw_law_1530 d_Lw_law_1531 d_Lw_law_1532 d_Lw_law_1533 d_Lw_law_1534 rfl hb (by omega) hLn ?_
  refine lw_arg (j := 2) d_Lw_law_1535 d_Lw_law_1536 d_Lw_law_1537 d_Lw_law_1538 d_Lw_law_1539 rfl hb (by omega) hLn ?_
  refine lw_arg (j := 3) d_Lw_law_1540 d_Lw_law_1541 d_Lw_law_1542 d_Lw_law_1543 d_Lw_law_1544 rfl hb (by omega) hLn ?_
  refine wp_cv3 (i := 124) (d := 0 + 2) (q := 1548) lk_Lw_181 (ro_law (by decide)) d_Lw_law_1545 rfl (Nat.le_of_ble_eq_true rfl) ((rdX (j := 0)).trans rfl) rfl (show 164 + 32 * t ≤ 600000 by omega) (show 3739 + 120 * t ≤ 7302250 by omega) ?_
  refine ok_sh encC_len (ok_Rf_cell (d := 0) hSZ ?_)
  refine lw_k0 ?_
  exact wp_icmp_eq_t d_Lw_law_1548 (by decide) rfl (wp_widen (by omega) (by omega) (nx _ _ _ _ _ _ _ _ _ (iv_cell h (xs (6 * t + 1)) (xs (6 * t + 2)) (xs (6 * t + 3))).lift (hLK.kp (kp_cell _ _ _ _))))
set_option maxHeartbeats 4000000 in
set_option maxRecDepth 100000 in
theorem lc_copy {D : xD} {N : Nat} {l : Launch} {b Ln t : Nat} {xs : Nat → Int32} {c x V z : T2} {P Q : FN} {ln df : Nat → Option Nat} {lines : List va_E} {nb m mq nm tu e nk tp : Nat} (hb : b < N) (hLn : Ln ≤ 3072) (ht : 6 * t + 6 ≤ Ln) (h : IV c P Q (2500 * t) nb m mq nm tu e nk tp) (hLK : LK D N c ln lines) (nx : NX D N l b Ln xs t) : LWp D N l b Ln xs t 1553 [] (HG D N c x V P Q ln df z lines) := by
  obtain ⟨⟨hnb, h12, hSE, hn0⟩, ⟨hWV, hm, hSt⟩, hQ3, hT, hCI, hSZ, hG, ⟨hnm, hm6, htu, htt, he, he1, he2, h14⟩, ⟨hnk, h30, h20⟩, ⟨htp, h160, hB⟩⟩ := id h
  refine wp_aload_n d_Lw_law_1553 rfl rfl ?_
  refine lw_arg (j := 1) d_Lw_law_1554 d_Lw_law_1555 d_Lw_law_1556 d_Lw_law_1557 d_Lw_law_1558 rfl hb (by omega) hLn ?_
  refine lw_arg (j := 2) d_Lw_law_1559 d_Lw_law_1560 d_Lw_law_1561 d_Lw_law_1562 d_Lw_law_1563 rfl hb (by omega) hLn ?_
  refine lw_arg (j := 3) d_Lw_law_1564 d_Lw_law_1565 d_Lw_law_1566 d_Lw_law_1567 d_Lw_law_1568 rfl hb (by omega) hLn ?_
  refine lw_arg (j := 4) d_Lw_law_1569 d_Lw_law_1570 d_Lw_law_1571 d_Lw_law_1572 d_Lw_law_1573 rfl hb (by omega) hLn ?_
  refine lw_arg (j := 5) d_Lw_law_1574 d_Lw_law_1575 d_Lw_law_1576 d_Lw_law_1577 d_Lw_law_1578 rfl hb (by omega) hLn ?_
  refine wp_cv5 (d := 0 + 2) (q := 1582) lk_Lw_182 (ro_law (by decide)) d_Lw_law_1579 rfl (Nat.le_of_ble_eq_true rfl) rfl rfl (show 164 + 32 * t ≤ 600000 by omega) (show 3739 + 120 * t ≤ 7302250 by omega) ?_
  refine ok_FG_copy (d := 0) hSZ ?_
  refine lw_k0 ?_
  refine wp_aload_n d_Lw_law_1582 rfl rfl ?_
  refine lw_arg (j := 1) d_Lw_law_1583 d_Lw_law_1584 d_Lw_law_1585 d_Lw_law_1586 d_Lw_law_1587 rfl hb (by omega) hLn ?_
  refine lw_arg (j := 2) d_Lw_law_1588 d_Lw_law_1589 d_Lw_law_1590 d_Lw_law_1591 d_Lw_law_1592 rfl hb (by omega) hLn ?_
  refine lw_arg (j := 3) d_Lw_law_1593 d_Lw_law_1594 d_Lw_law_1595 d_Lw_law_1596 d_Lw_law_1597 rfl hb (by omega) hLn ?_
  refine lw_arg (j := 4) d_Lw_law_1598 d_Lw_law_1599 d_Lw_law_1600 d_Lw_law_1601 d_Lw_law_1602 rfl hb (by omega) hLn ?_
  refine lw_arg (j := 5) d_Lw_law_1603 d_Lw_law_1604 d_Lw_law_1605 d_Lw_law_1606 d_Lw_law_1607 rfl hb (by omega) hLn ?_
  refine wp_cv5 (i := 124) (d := 0 + 2) (q := 1611) lk_Lw_186 (ro_law (by decide)) d_Lw_law_1608 rfl (Nat.le_of_ble_eq_true rfl) ((rdX (j := 0)).trans rfl) rfl (show 164 + 32 * t ≤ 600000 by omega) (show 3739 + 120 * t ≤ 7302250 by omega) ?_
  refine ok_sh encC_len (ok_Rf_copy (d := 0) hSZ ?_)
  refine lw_k0 ?_
  exact wp_icmp_eq_t d_Lw_law_1611 (by decide) rfl (wp_widen (by omega) (by omega) (nx _ _ _ _ _ _ _ _ _ (iv_copy h (xs (6 * t + 1)) (xs (6 * t + 2)) (xs (6 * t + 3)) (xs (6 * t + 4)) (xs (6 * t + 5))).lift (hLK.kp (kp_copy _ _ _ _ _ _))))
set_option maxHeartbeats 4000000 in
set_option maxRecDepth 100000 in
theorem lc_buses {D : xD} {N : Nat} {l : Launch} {b Ln t : Nat} {xs : Nat → Int32} {c x V z : T2} {P Q : FN} {ln df : Nat → Option Nat} {lines : List va_E} {nb m mq nm tu e nk tp : Nat} (hb : b < N) (hLn : Ln ≤ 3072) (ht : 6 * t + 6 ≤ Ln) (h : IV c P Q (2500 * t) nb m mq nm tu e nk tp) (hLK : LK D N c ln lines) (nx : NX D N l b Ln xs t) : LWp D N l b Ln xs t 1616 [] (HG D N c x V P Q ln df z lines) := by
  obtain ⟨⟨hnb, h12, hSE, hn0⟩, ⟨hWV, hm, hSt⟩, hQ3, hT, hCI, hSZ, hG, ⟨hnm, hm6, htu, htt, he, he1, he2, h14⟩, ⟨hnk, h30, h20⟩, ⟨htp, h160, hB⟩⟩ := id h
  refine wp_aload_n d_Lw_law_1616 rfl rfl ?_
  refine lw_arg (j := 1) d_Lw_law_1617 d_Lw_law_1618 d_Lw_law_1619 d_Lw_law_1620 d_Lw_law_1621 rfl hb (by omega) hLn ?_
  refine lw_arg (j := 2) d_Lw_law_1622 d_Lw_law_1623 d_Lw_law_1624 d_Lw_law_1625 d_Lw_law_1626 rfl hb (by omega) hLn ?_
  refine lw_arg (j := 3) d_Lw_law_1627 d_Lw_law_1628 d_Lw_law_1629 d_Lw_law_1630 d_Lw_law_1631 rfl hb (by omega) hLn ?_
  refine lw_arg (j := 4) d_Lw_law_1632 d_Lw_law_1633 d_Lw_law_1634 d_Lw_law_1635 d_Lw_law_1636 rfl hb (by omega) hLn ?_
  refine wp_cv4 (d := 0 + 2) (q := 1640) lk_Lw_187 (ro_law (by decide)) d_Lw_law_1637 rfl (Nat.le_of_ble_eq_true rfl) rfl rfl (show 164 + 32 * t ≤ 600000 by omega) (show 3739 + 120 * t ≤ 7302250 by omega) ?_
  refine ok_FG_buses (d := 0) hnb h12 hSZ ?_
  refine lw_k0 ?_
  refine wp_aload_n d_Lw_law_1640 rfl rfl ?_
  refine lw_arg (j := 1) d_Lw_law_1641 d_Lw_law_1642 d_Lw_law_1643 d_Lw_law_1644 d_Lw_law_1645 rfl hb (by omega) hLn ?_
  refine lw_arg (j := 2) d_Lw_law_1646 d_Lw_law_1647 d_Lw_law_1648 d_Lw_law_1649 d_Lw_law_1650 rfl hb (by omega) hLn ?_
  refine lw_arg (j := 3) d_Lw_law_1651 d_Lw_law_1652 d_Lw_law_1653 d_Lw_law_1654 d_Lw_law_1655 rfl hb (by omega) hLn ?_
  refine lw_arg (j := 4) d_Lw_law_1656 d_Lw_law_1657 d_Lw_law_1658 d_Lw_law_1659 d_Lw_law_1660 rfl hb (by omega) hLn ?_
  refine wp_cv4 (i := 124) (d := 0 + 2) (q := 1664) lk_Lw_190 (ro_law (by decide)) d_Lw_law_1661 rfl (Nat.le_of_ble_eq_true rfl) ((rdX (j := 0)).trans rfl) rfl (show 164 + 32 * t ≤ 600000 by omega) (show 3739 + 120 * t ≤ 7302250 by omega) ?_
  refine ok_sh encC_len (ok_Rf_buses (d := 0) hnb h12 hSZ ?_)
  refine lw_k0 ?_
  exact wp_icmp_eq_t d_Lw_law_1664 (by decide) rfl (wp_widen (by omega) (by omega) (nx _ _ _ _ _ _ _ _ _ (iv_buses h (xs (6 * t + 1)) (xs (6 * t + 2)) (xs (6 * t + 3)) (xs (6 * t + 4))).lift (hLK.kp (kp_buses _ _ _ _ _ _))))
set_option maxHeartbeats 4000000 in
set_option maxRecDepth 100000 in
theorem lc_taken {D : xD} {N : Nat} {l : Launch} {b Ln t : Nat} {xs : Nat → Int32} {c x V z : T2} {P Q : FN} {ln df : Nat → Option Nat} {lines : List va_E} {nb m mq nm tu e nk tp : Nat} (hb : b < N) (hLn : Ln ≤ 3072) (ht : 6 * t + 6 ≤ Ln) (h : IV c P Q (2500 * t) nb m mq nm tu e nk tp) (hLK : LK D N c ln lines) (nx : NX D N l b Ln xs t) : LWp D N l b Ln xs t 1669 [] (HG D N c x V P Q ln df z lines) := by
  obtain ⟨⟨hnb, h12, hSE, hn0⟩, ⟨hWV, hm, hSt⟩, hQ3, hT, hCI, hSZ, hG, ⟨hnm, hm6, htu, htt, he, he1, he2, h14⟩, ⟨hnk, h30, h20⟩, ⟨htp, h160, hB⟩⟩ := id h
  refine wp_aload_n d_Lw_law_1669 rfl rfl ?_
  refine lw_arg (j := 1) d_Lw_law_1670 d_Lw_law_1671 d_Lw_law_1672 d_Lw_law_1673 d_Lw_law_1674 rfl hb (by omega) hLn ?_
  refine lw_arg (j := 2) d_Lw_law_1675 d_Lw_law_1676 d_Lw_law_1677 d_Lw_law_1678 d_Lw_law_1679 rfl hb (by omega) hLn ?_
  refine wp_cv2 (d := 0 + 4) (q := 1683) lk_Lw_191 (ro_law (by decide)) d_Lw_law_1680 rfl (Nat.le_of_ble_eq_true rfl) rfl rfl (show 164 + 32 * t ≤ 600000 by omega) (show 3739 + 120 * t ≤ 7302250 by omega) ?_
  refine ok_FG_taken (d := 0) hnb h12 hSt.1 (fun b hb => (hWV.1.2.1 b hb).2.2.1) ?_
  refine lw_k0 ?_
  refine wp_aload_n d_Lw_law_1683 rfl rfl ?_
  refine lw_arg (j := 1) d_Lw_law_1684 d_Lw_law_1685 d_Lw_law_1686 d_Lw_law_1687 d_Lw_law_1688 rfl hb (by omega) hLn ?_
  refine lw_arg (j := 2) d_Lw_law_1689 d_Lw_law_1690 d_Lw_law_1691 d_Lw_law_1692 d_Lw_law_1693 rfl hb (by omega) hLn ?_
  refine wp_cv2 (i := 124) (d := 0 + 4) (q := 1697) lk_Lw_194 (ro_law (by decide)) d_Lw_law_1694 rfl (Nat.le_of_ble_eq_true rfl) ((rdX (j := 0)).trans rfl) rfl (show 164 + 32 * t ≤ 600000 by omega) (show 3739 + 120 * t ≤ 7302250 by omega) ?_
  refine ok_sh encC_len (ok_Rf_taken (d := 0) hnb h12 hSt.1 (fun b hb => (hWV.1.2.1 b hb).2.2.1) ?_)
  refine lw_k0 ?_
  exact wp_icmp_eq_t d_Lw_law_1697 (by decide) rfl (wp_widen (by omega) (by omega) (nx _ _ _ _ _ _ _ _ _ (iv_same h).lift hLK))
