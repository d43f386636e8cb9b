/-! what the law's cases ask -/
theorem lg_self (x : Int64) : lg_cmp x x = 0 := by
  unfold lg_cmp
  simp
theorem ct_bt {M : MS} (h : mi_ct M) : bt (M.1 38) 0 6 = true := bt_iff.mpr ⟨by have := h.1; omega, h.2⟩
theorem iv_PI {n b : Nat} {M : MS} (hI : INV n b M) : PI M := ⟨hI.1.2.1, hI.2.2.1.2.2.1, hI.2.2.1.2.2.2.2.2.2.2.1, hI.2.2.1.2.2.2.1, hI.2.2.1.1, hI.2.2.1.2.2.2.2.1⟩
theorem iv_IV {n b : Nat} {M : MS} (hI : INV n b M) : IV M := ⟨iv_PI hI, hI.2.2.1.2.1, hI.2.2.2.1.2.2.2.2.2.2, hI.2.1.2.2.1, hI.2.2.1.2.2.2.2.2.2.1, hI.2.2.1.2.2.2.2.2.1⟩
theorem now_ge {M : MS} (h : mi_now M) (hn : ¬ M.1 20 = 0) : 0 ≤ oI (mo_pl M (M.1 20)) := by
  rcases h with z | ⟨k, hk⟩
  · exact absurd z hn
  · exact oI_ge hk (by have := pl_lt hk; omega)
/-- what follows a call of the law -/
def LKK (G : GG) (p : Program) (l : Launch) (e : Env) (s : State) (m : MethodId) (below : List Frame) (meth : Method) (c : Code) (b : Nat) (Q : State → Prop) (q : Nat → Nat) (oa ox om k : Nat) : Prop :=
  ∀ (M' : MS) (ad' : AD) (gi' : GI) (f' : Nat → Int64) (wc' w' : WM), LQ G q oa ox om (k + 1) M' ad' gi' f' wc' w' → AWL G p l e s m below meth c b Q w' (50 + 8 * k + 8) (3300 + 100 * k + 100) 1507 (llv b ox om oa k) []
/-! the law's cases -/
section LWC
variable {G : GG} {p : Program} {l : Launch} {e : Env} {s : State} {m : MethodId} {below : List Frame} {meth : Method} {c : Code} {b L : Nat} {xs : Nat → Int32} {Q : State → Prop} {w wc : WM} {k : Nat} {q : Nat → Nat} {M : MS} {ad : AD} {gi : GI} {f : Nat → Int64} {oa ox om : Nat}
theorem law_c0 (hX : LX G p s m meth c b L xs) (hk : 6 * k + 6 ≤ L) (h : LQ G q oa ox om k M ad gi f wc w) (kk : LKK G p l e s m below meth c b Q q oa ox om k) : AWL G p l e s m below meth c b Q w (50 + 8 * k) (3300 + 100 * k) 196 (llv b ox om oa k) [] := by
  obtain ⟨hI, hR, rfl, hq, rfl, hD⟩ := h
  have hL := hX.2.2.2
  refine aw_aload_n hX.1 dL_law_196 rfl rfl ?_
  refine law_arg hX hk 1 (by decide) rfl rfl rfl dL_law_197 dL_law_198 dL_law_200 dL_law_201 dL_law_202 ?_
  refine law_arg hX hk 2 (by decide) rfl rfl rfl dL_law_203 dL_law_204 dL_law_206 dL_law_207 dL_law_208 ?_
  refine law_arg hX hk 3 (by decide) rfl rfl rfl dL_law_209 dL_law_210 dL_law_212 dL_law_213 dL_law_214 ?_
  refine law_cx hX hD hR (rX10_row G l M ad gi wc hR hI.1.1 hI.2.2.1.2.2.1 hI.1.2.1 _ _ _) okm_X10_row ml_L_19 im_X10_row se_X10_X10_row rfl rfl (Nat.le_of_ble_eq_true rfl) (Nat.le_of_ble_eq_true rfl) (Nat.le_of_ble_eq_true rfl) (Nat.le_of_ble_eq_true rfl) (Nat.le_of_ble_eq_true rfl) (by omega) (by omega) dL_law_215 (fun wc1 w1 ad1 gi1 hR1 ho1 hD1 => ?_)
  refine aw_aload_n hX.1 dL_law_218 rfl rfl ?_
  refine law_arg hX hk 1 (by decide) rfl rfl rfl dL_law_219 dL_law_220 dL_law_222 dL_law_223 dL_law_224 ?_
  refine law_arg hX hk 2 (by decide) rfl rfl rfl dL_law_225 dL_law_226 dL_law_228 dL_law_229 dL_law_230 ?_
  refine law_arg hX hk 3 (by decide) rfl rfl rfl dL_law_231 dL_law_232 dL_law_234 dL_law_235 dL_law_236 ?_
  refine law_cm hX hD1 (kX11_row G l q M hq _ _ _) okm_X11_row ml_L_23 im_X11_row se_X11_X11_row rfl rfl (Nat.le_of_ble_eq_true rfl) (Nat.le_of_ble_eq_true rfl) (Nat.le_of_ble_eq_true rfl) rfl rfl (by omega) (by omega) dL_law_237 (fun w2 hD2 => ?_)
  refine aw_icmp_eq hX.1 (tgt := 1507) dL_law_240 rfl (fun _ => ?_) (fun z => absurd rfl z)
  exact kk _ _ _ _ _ _ ⟨iv_row _ _ _ hI, hR1, ho1, hq, rfl, hD2⟩
theorem law_c1 (hX : LX G p s m meth c b L xs) (hk : 6 * k + 6 ≤ L) (h : LQ G q oa ox om k M ad gi f wc w) (kk : LKK G p l e s m below meth c b Q q oa ox om k) : AWL G p l e s m below meth c b Q w (50 + 8 * k) (3300 + 100 * k) 245 (llv b ox om oa k) [] := by
  obtain ⟨hI, hR, rfl, hq, rfl, hD⟩ := h
  have hL := hX.2.2.2
  refine aw_aload_n hX.1 dL_law_245 rfl rfl ?_
  refine law_arg hX hk 1 (by decide) rfl rfl rfl dL_law_246 dL_law_247 dL_law_249 dL_law_250 dL_law_251 ?_
  refine law_arg hX hk 2 (by decide) rfl rfl rfl dL_law_252 dL_law_253 dL_law_255 dL_law_256 dL_law_257 ?_
  refine law_cx hX hD hR (rX10_lend G l M ad gi wc hR hI.1.1 _ _) okm_X10_lend ml_L_24 im_X10_lend se_X10_X10_lend rfl rfl (Nat.le_of_ble_eq_true rfl) (Nat.le_of_ble_eq_true rfl) (Nat.le_of_ble_eq_true rfl) (Nat.le_of_ble_eq_true rfl) (Nat.le_of_ble_eq_true rfl) (by omega) (by omega) dL_law_258 (fun wc1 w1 ad1 gi1 hR1 ho1 hD1 => ?_)
  refine aw_aload_n hX.1 dL_law_261 rfl rfl ?_
  refine law_arg hX hk 1 (by decide) rfl rfl rfl dL_law_262 dL_law_263 dL_law_265 dL_law_266 dL_law_267 ?_
  refine law_arg hX hk 2 (by decide) rfl rfl rfl dL_law_268 dL_law_269 dL_law_271 dL_law_272 dL_law_273 ?_
  refine law_cm hX hD1 (kX11_lend G l q M hq _ _) okm_X11_lend ml_L_28 im_X11_lend se_X11_X11_lend rfl rfl (Nat.le_of_ble_eq_true rfl) (Nat.le_of_ble_eq_true rfl) (Nat.le_of_ble_eq_true rfl) rfl rfl (by omega) (by omega) dL_law_274 (fun w2 hD2 => ?_)
  refine aw_icmp_eq hX.1 (tgt := 1507) dL_law_277 rfl (fun _ => ?_) (fun z => absurd rfl z)
  exact kk _ _ _ _ _ _ ⟨iv_lend _ _ hI, hR1, ho1, hq, rfl, hD2⟩
theorem law_c2 (hX : LX G p s m meth c b L xs) (hk : 6 * k + 6 ≤ L) (h : LQ G q oa ox om k M ad gi f wc w) (kk : LKK G p l e s m below meth c b Q q oa ox om k) : AWL G p l e s m below meth c b Q w (50 + 8 * k) (3300 + 100 * k) 282 (llv b ox om oa k) [] := by
  obtain ⟨hI, hR, rfl, hq, rfl, hD⟩ := h
  have hL := hX.2.2.2
  refine aw_aload_n hX.1 dL_law_282 rfl rfl ?_
  refine law_arg hX hk 1 (by decide) rfl rfl rfl dL_law_283 dL_law_284 dL_law_286 dL_law_287 dL_law_288 ?_
  refine law_arg hX hk 2 (by decide) rfl rfl rfl dL_law_289 dL_law_290 dL_law_292 dL_law_293 dL_law_294 ?_
  refine law_arg hX hk 3 (by decide) rfl rfl rfl dL_law_295 dL_law_296 dL_law_298 dL_law_299 dL_law_300 ?_
  refine law_arg hX hk 4 (by decide) rfl rfl rfl dL_law_301 dL_law_302 dL_law_304 dL_law_305 dL_law_306 ?_
  refine law_cx hX hD hR (rX10_set G l M ad gi wc hR hI.1.1 hI.1.2.1 _ _ _ _) okm_X10_set ml_L_29 im_X10_set se_X10_X10_set rfl rfl (Nat.le_of_ble_eq_true rfl) (Nat.le_of_ble_eq_true rfl) (Nat.le_of_ble_eq_true rfl) (Nat.le_of_ble_eq_true rfl) (Nat.le_of_ble_eq_true rfl) (by omega) (by omega) dL_law_307 (fun wc1 w1 ad1 gi1 hR1 ho1 hD1 => ?_)
  refine aw_aload_n hX.1 dL_law_310 rfl rfl ?_
  refine law_arg hX hk 1 (by decide) rfl rfl rfl dL_law_311 dL_law_312 dL_law_314 dL_law_315 dL_law_316 ?_
  refine law_arg hX hk 2 (by decide) rfl rfl rfl dL_law_317 dL_law_318 dL_law_320 dL_law_321 dL_law_322 ?_
  refine law_arg hX hk 3 (by decide) rfl rfl rfl dL_law_323 dL_law_324 dL_law_326 dL_law_327 dL_law_328 ?_
  refine law_arg hX hk 4 (by decide) rfl rfl rfl dL_law_329 dL_law_330 dL_law_332 dL_law_333 dL_law_334 ?_
  refine law_cm hX hD1 (kX11_set G l q M hq hI.1.1 hI.1.2.1 _ _ _ _) okm_X11_set ml_L_33 im_X11_set se_X11_X11_set rfl rfl (Nat.le_of_ble_eq_true rfl) (Nat.le_of_ble_eq_true rfl) (Nat.le_of_ble_eq_true rfl) rfl rfl (by omega) (by omega) dL_law_335 (fun w2 hD2 => ?_)
  refine aw_icmp_eq hX.1 (tgt := 1507) dL_law_338 rfl (fun _ => ?_) (fun z => absurd rfl z)
  exact kk _ _ _ _ _ _ ⟨iv_set _ _ _ _ hI, hR1, ho1, hq, rfl, hD2⟩
theorem law_c3 (hX : LX G p s m meth c b L xs) (hk : 6 * k + 6 ≤ L) (h : LQ G q oa ox om k M ad gi f wc w) (kk : LKK G p l e s m below meth c b Q q oa ox om k) : AWL G p l e s m below meth c b Q w (50 + 8 * k) (3300 + 100 * k) 343 (llv b ox om oa k) [] := by
  obtain ⟨hI, hR, rfl, hq, rfl, hD⟩ := h
  have hL := hX.2.2.2
  refine aw_aload_n hX.1 dL_law_343 rfl rfl ?_
  refine law_arg hX hk 1 (by decide) rfl rfl rfl dL_law_344 dL_law_345 dL_law_347 dL_law_348 dL_law_349 ?_
  refine law_arg hX hk 2 (by decide) rfl rfl rfl dL_law_350 dL_law_351 dL_law_353 dL_law_354 dL_law_355 ?_
  refine law_arg hX hk 3 (by decide) rfl rfl rfl dL_law_356 dL_law_357 dL_law_359 dL_law_360 dL_law_361 ?_
  refine law_cx hX hD hR (rX10_item G l M ad gi wc hR hI.1.1 hI.1.2.1 _ _ _) okm_X10_item ml_L_34 im_X10_item se_X10_X10_item rfl rfl (Nat.le_of_ble_eq_true rfl) (Nat.le_of_ble_eq_true rfl) (Nat.le_of_ble_eq_true rfl) (Nat.le_of_ble_eq_true rfl) (Nat.le_of_ble_eq_true rfl) (by omega) (by omega) dL_law_362 (fun wc1 w1 ad1 gi1 hR1 ho1 hD1 => ?_)
  refine aw_aload_n hX.1 dL_law_365 rfl rfl ?_
  refine law_arg hX hk 1 (by decide) rfl rfl rfl dL_law_366 dL_law_367 dL_law_369 dL_law_370 dL_law_371 ?_
  refine law_arg hX hk 2 (by decide) rfl rfl rfl dL_law_372 dL_law_373 dL_law_375 dL_law_376 dL_law_377 ?_
  refine law_arg hX hk 3 (by decide) rfl rfl rfl dL_law_378 dL_law_379 dL_law_381 dL_law_382 dL_law_383 ?_
  refine law_cm hX hD1 (kX11_item G l q M hq hI.1.1 hI.1.2.1 _ _ _) okm_X11_item ml_L_38 im_X11_item se_X11_X11_item rfl rfl (Nat.le_of_ble_eq_true rfl) (Nat.le_of_ble_eq_true rfl) (Nat.le_of_ble_eq_true rfl) rfl rfl (by omega) (by omega) dL_law_384 (fun w2 hD2 => ?_)
  refine aw_lcmp hX.1 dL_law_387 ?_
  refine aw_if_eq hX.1 (tgt := 1507) dL_law_388 rfl (fun _ => ?_) (fun z => absurd (lg_self _) z)
  exact kk _ _ _ _ _ _ ⟨iv_item _ _ _ hI, hR1, ho1, hq, rfl, hD2⟩
theorem law_c4 (hX : LX G p s m meth c b L xs) (hk : 6 * k + 6 ≤ L) (h : LQ G q oa ox om k M ad gi f wc w) (kk : LKK G p l e s m below meth c b Q q oa ox om k) : AWL G p l e s m below meth c b Q w (50 + 8 * k) (3300 + 100 * k) 393 (llv b ox om oa k) [] := by
  obtain ⟨hI, hR, rfl, hq, rfl, hD⟩ := h
  have hL := hX.2.2.2
  refine aw_aload_n hX.1 dL_law_393 rfl rfl ?_
  refine law_arg hX hk 1 (by decide) rfl rfl rfl dL_law_394 dL_law_395 dL_law_397 dL_law_398 dL_law_399 ?_
  refine law_arg hX hk 2 (by decide) rfl rfl rfl dL_law_400 dL_law_401 dL_law_403 dL_law_404 dL_law_405 ?_
  refine law_arg hX hk 3 (by decide) rfl rfl rfl dL_law_406 dL_law_407 dL_law_409 dL_law_410 dL_law_411 ?_
  refine law_cx hX hD hR (rX10_hold G l M ad gi wc hR hI.1.1 hI.1.2.1 hI.2.2.2.1.2.2.2.1 hI.2.2.2.1.1 _ _ _) okm_X10_hold ml_L_39 im_X10_hold se_X10_X10_hold rfl rfl (Nat.le_of_ble_eq_true rfl) (Nat.le_of_ble_eq_true rfl) (Nat.le_of_ble_eq_true rfl) (Nat.le_of_ble_eq_true rfl) (Nat.le_of_ble_eq_true rfl) (by omega) (by omega) dL_law_412 (fun wc1 w1 ad1 gi1 hR1 ho1 hD1 => ?_)
  refine aw_aload_n hX.1 dL_law_415 rfl rfl ?_
  refine law_arg hX hk 1 (by decide) rfl rfl rfl dL_law_416 dL_law_417 dL_law_419 dL_law_420 dL_law_421 ?_
  refine law_arg hX hk 2 (by decide) rfl rfl rfl dL_law_422 dL_law_423 dL_law_425 dL_law_426 dL_law_427 ?_
  refine law_arg hX hk 3 (by decide) rfl rfl rfl dL_law_428 dL_law_429 dL_law_431 dL_law_432 dL_law_433 ?_
  refine law_cm hX hD1 (kX11_hold G l q M hq hI.1.1 hI.1.2.1 hI.2.2.2.1.1 _ _ _) okm_X11_hold ml_L_42 im_X11_hold se_X11_X11_hold rfl rfl (Nat.le_of_ble_eq_true rfl) (Nat.le_of_ble_eq_true rfl) (Nat.le_of_ble_eq_true rfl) rfl rfl (by omega) (by omega) dL_law_434 (fun w2 hD2 => ?_)
  refine aw_icmp_eq hX.1 (tgt := 1507) dL_law_437 rfl (fun _ => ?_) (fun z => absurd rfl z)
  exact kk _ _ _ _ _ _ ⟨iv_hold _ _ _ hI, hR1, ho1, hq, rfl, hD2⟩
theorem law_c5 (hX : LX G p s m meth c b L xs) (hk : 6 * k + 6 ≤ L) (h : LQ G q oa ox om k M ad gi f wc w) (kk : LKK G p l e s m below meth c b Q q oa ox om k) : AWL G p l e s m below meth c b Q w (50 + 8 * k) (3300 + 100 * k) 442 (llv b ox om oa k) [] := by
  obtain ⟨hI, hR, rfl, hq, rfl, hD⟩ := h
  have hL := hX.2.2.2
  refine aw_aload_n hX.1 dL_law_442 rfl rfl ?_
  refine law_arg hX hk 1 (by decide) rfl rfl rfl dL_law_443 dL_law_444 dL_law_446 dL_law_447 dL_law_448 ?_
  refine law_arg hX hk 2 (by decide) rfl rfl rfl dL_law_449 dL_law_450 dL_law_452 dL_law_453 dL_law_454 ?_
  refine law_cx hX hD hR (rX10_held G l M ad gi wc hR hI.1.1 hI.1.2.1 _ _) okm_X10_held ml_L_43 im_X10_held se_X10_X10_held rfl rfl (Nat.le_of_ble_eq_true rfl) (Nat.le_of_ble_eq_true rfl) (Nat.le_of_ble_eq_true rfl) (Nat.le_of_ble_eq_true rfl) (Nat.le_of_ble_eq_true rfl) (by omega) (by omega) dL_law_455 (fun wc1 w1 ad1 gi1 hR1 ho1 hD1 => ?_)
  refine aw_aload_n hX.1 dL_law_458 rfl rfl ?_
  refine law_arg hX hk 1 (by decide) rfl rfl rfl dL_law_459 dL_law_460 dL_law_462 dL_law_463 dL_law_464 ?_
  refine law_arg hX hk 2 (by decide) rfl rfl rfl dL_law_465 dL_law_466 dL_law_468 dL_law_469 dL_law_470 ?_
  refine law_cm hX hD1 (kX11_held G l q M hq hI.1.1 hI.1.2.1 _ _) okm_X11_held ml_L_46 im_X11_held se_X11_X11_held rfl rfl (Nat.le_of_ble_eq_true rfl) (Nat.le_of_ble_eq_true rfl) (Nat.le_of_ble_eq_true rfl) rfl rfl (by omega) (by omega) dL_law_471 (fun w2 hD2 => ?_)
  refine aw_icmp_eq hX.1 (tgt := 1507) dL_law_474 rfl (fun _ => ?_) (fun z => absurd rfl z)
  exact kk _ _ _ _ _ _ ⟨iv_held _ _ hI, hR1, ho1, hq, rfl, hD2⟩
theorem law_c6 (hX : LX G p s m meth c b L xs) (hk : 6 * k + 6 ≤ L) (h : LQ G q oa ox om k M ad gi f wc w) (kk : LKK G p l e s m below meth c b Q q oa ox om k) : AWL G p l e s m below meth c b Q w (50 + 8 * k) (3300 + 100 * k) 479 (llv b ox om oa k) [] := by
  obtain ⟨hI, hR, rfl, hq, rfl, hD⟩ := h
  have hL := hX.2.2.2
  refine aw_aload_n hX.1 dL_law_479 rfl rfl ?_
  refine law_arg hX hk 1 (by decide) rfl rfl rfl dL_law_480 dL_law_481 dL_law_483 dL_law_484 dL_law_485 ?_
  refine law_arg hX hk 2 (by decide) rfl rfl rfl dL_law_486 dL_law_487 dL_law_489 dL_law_490 dL_law_491 ?_
  refine law_arg hX hk 3 (by decide) rfl rfl rfl dL_law_492 dL_law_493 dL_law_495 dL_law_496 dL_law_497 ?_
  refine law_arg hX hk 4 (by decide) rfl rfl rfl dL_law_498 dL_law_499 dL_law_501 dL_law_502 dL_law_503 ?_
  refine law_arg hX hk 5 (by decide) rfl rfl rfl dL_law_504 dL_law_505 dL_law_507 dL_law_508 dL_law_509 ?_
  refine law_cx hX hD hR (kX10_copy G l M ad gi wc hR hI.1.1 hI.1.2.1 hI.1.2.2.2.1 hI.2.2.2.1.1 hI.2.2.2.1.2.2.2.1 hI.1.2.2.2.2 _ _ _ _ _) okm_X10_copy ml_L_47 im_X10_copy se_X10_X10_copy rfl rfl (Nat.le_of_ble_eq_true rfl) (Nat.le_of_ble_eq_true rfl) (Nat.le_of_ble_eq_true rfl) (Nat.le_of_ble_eq_true rfl) (Nat.le_of_ble_eq_true rfl) (by omega) (by omega) dL_law_510 (fun wc1 w1 ad1 gi1 hR1 ho1 hD1 => ?_)
  refine aw_aload_n hX.1 dL_law_513 rfl rfl ?_
  refine law_arg hX hk 1 (by decide) rfl rfl rfl dL_law_514 dL_law_515 dL_law_517 dL_law_518 dL_law_519 ?_
  refine law_arg hX hk 2 (by decide) rfl rfl rfl dL_law_520 dL_law_521 dL_law_523 dL_law_524 dL_law_525 ?_
  refine law_arg hX hk 3 (by decide) rfl rfl rfl dL_law_526 dL_law_527 dL_law_529 dL_law_530 dL_law_531 ?_
  refine law_arg hX hk 4 (by decide) rfl rfl rfl dL_law_532 dL_law_533 dL_law_535 dL_law_536 dL_law_537 ?_
  refine law_arg hX hk 5 (by decide) rfl rfl rfl dL_law_538 dL_law_539 dL_law_541 dL_law_542 dL_law_543 ?_
  refine law_cm hX hD1 (kX11_copy G l q M hq hI.1.1 hI.1.2.1 hI.1.2.2.1 _ _ _ _ _) okm_X11_copy ml_L_51 im_X11_copy se_X11_X11_copy rfl rfl (Nat.le_of_ble_eq_true rfl) (Nat.le_of_ble_eq_true rfl) (Nat.le_of_ble_eq_true rfl) rfl rfl (by omega) (by omega) dL_law_544 (fun w2 hD2 => ?_)
  refine aw_icmp_eq hX.1 (tgt := 1507) dL_law_547 rfl (fun _ => ?_) (fun z => absurd rfl z)
  exact kk _ _ _ _ _ _ ⟨iv_copy _ _ _ _ _ hI, hR1, ho1, hq, rfl, hD2⟩
theorem law_c7 (hX : LX G p s m meth c b L xs) (hk : 6 * k + 6 ≤ L) (h : LQ G q oa ox om k M ad gi f wc w) (kk : LKK G p l e s m below meth c b Q q oa ox om k) : AWL G p l e s m below meth c b Q w (50 + 8 * k) (3300 + 100 * k) 552 (llv b ox om oa k) [] := by
  obtain ⟨hI, hR, rfl, hq, rfl, hD⟩ := h
  have hL := hX.2.2.2
  refine aw_aload_n hX.1 dL_law_552 rfl rfl ?_
  refine law_cx hX hD hR (kX10_pane G l M ad gi wc hR hI.2.1.1 (nu_num hI.2.1.2.2.2.2 (by have := hI.2.2.2.2.2.2.2.1.1; omega)) hI.2.2.1.2.1 hI.2.2.1.2.2.2.2.1) okm_X10_pane ml_L_52 im_X10_pane se_X10_X10_pane rfl rfl (Nat.le_of_ble_eq_true rfl) (Nat.le_of_ble_eq_true rfl) (Nat.le_of_ble_eq_true rfl) (Nat.le_of_ble_eq_true rfl) (Nat.le_of_ble_eq_true rfl) (by omega) (by omega) dL_law_553 (fun wc1 w1 ad1 gi1 hR1 ho1 hD1 => ?_)
  refine aw_aload_n hX.1 dL_law_556 rfl rfl ?_
  refine law_cm hX hD1 (kX11_pane G l q M hq) okm_X11_pane ml_L_55 im_X11_pane se_X11_X11_pane rfl rfl (Nat.le_of_ble_eq_true rfl) (Nat.le_of_ble_eq_true rfl) (Nat.le_of_ble_eq_true rfl) rfl rfl (by omega) (by omega) dL_law_557 (fun w2 hD2 => ?_)
  refine aw_icmp_eq hX.1 (tgt := 1507) dL_law_560 rfl (fun _ => ?_) (fun z => absurd rfl z)
  exact kk _ _ _ _ _ _ ⟨iv_pane (by omega) hI, hR1, ho1, hq, rfl, hD2⟩
theorem law_c8 (hX : LX G p s m meth c b L xs) (hk : 6 * k + 6 ≤ L) (h : LQ G q oa ox om k M ad gi f wc w) (kk : LKK G p l e s m below meth c b Q q oa ox om k) : AWL G p l e s m below meth c b Q w (50 + 8 * k) (3300 + 100 * k) 565 (llv b ox om oa k) [] := by
  obtain ⟨hI, hR, rfl, hq, rfl, hD⟩ := h
  have hL := hX.2.2.2
  refine aw_aload_n hX.1 dL_law_565 rfl rfl ?_
  refine law_arg hX hk 1 (by decide) rfl rfl rfl dL_law_566 dL_law_567 dL_law_569 dL_law_570 dL_law_571 ?_
  refine law_arg hX hk 2 (by decide) rfl rfl rfl dL_law_572 dL_law_573 dL_law_575 dL_law_576 dL_law_577 ?_
  refine law_arg hX hk 3 (by decide) rfl rfl rfl dL_law_578 dL_law_579 dL_law_581 dL_law_582 dL_law_583 ?_
  refine law_bool hX hk 4 (by decide) rfl rfl rfl dL_law_584 dL_law_585 dL_law_587 dL_law_588 dL_law_589 dL_law_590 dL_law_593 dL_law_594 dL_law_597 ?_
  refine law_cx hX hD hR (kX10_memory G l M ad gi wc hR hI.2.1.1 (nu_num hI.2.1.2.2.2.2 (by have := hI.2.2.2.2.2.2.2.1.1; omega)) hI.2.2.1.2.1 hI.2.2.1.2.2.2.2.1 _ _ _ _ (bz_or _)) okm_X10_memory ml_L_56 im_X10_memory se_X10_X10_memory rfl rfl (Nat.le_of_ble_eq_true rfl) (Nat.le_of_ble_eq_true rfl) (Nat.le_of_ble_eq_true rfl) (Nat.le_of_ble_eq_true rfl) (Nat.le_of_ble_eq_true rfl) (by omega) (by omega) dL_law_598 (fun wc1 w1 ad1 gi1 hR1 ho1 hD1 => ?_)
  refine aw_aload_n hX.1 dL_law_601 rfl rfl ?_
  refine law_arg hX hk 1 (by decide) rfl rfl rfl dL_law_602 dL_law_603 dL_law_605 dL_law_606 dL_law_607 ?_
  refine law_arg hX hk 2 (by decide) rfl rfl rfl dL_law_608 dL_law_609 dL_law_611 dL_law_612 dL_law_613 ?_
  refine law_arg hX hk 3 (by decide) rfl rfl rfl dL_law_614 dL_law_615 dL_law_617 dL_law_618 dL_law_619 ?_
  refine law_bool hX hk 4 (by decide) rfl rfl rfl dL_law_620 dL_law_621 dL_law_623 dL_law_624 dL_law_625 dL_law_626 dL_law_629 dL_law_630 dL_law_633 ?_
  refine law_cm hX hD1 (kX11_memory G l q M hq hI.1.1 hI.1.2.1 _ _ _ _ (bz_nar _)) okm_X11_memory ml_L_60 im_X11_memory se_X11_X11_memory rfl rfl (Nat.le_of_ble_eq_true rfl) (Nat.le_of_ble_eq_true rfl) (Nat.le_of_ble_eq_true rfl) rfl rfl (by omega) (by omega) dL_law_634 (fun w2 hD2 => ?_)
  refine aw_icmp_eq hX.1 (tgt := 1507) dL_law_637 rfl (fun _ => ?_) (fun z => absurd rfl z)
  exact kk _ _ _ _ _ _ ⟨iv_memory (by omega) _ _ _ _ hI, hR1, ho1, hq, rfl, hD2⟩
theorem law_c9 (hX : LX G p s m meth c b L xs) (hk : 6 * k + 6 ≤ L) (h : LQ G q oa ox om k M ad gi f wc w) (kk : LKK G p l e s m below meth c b Q q oa ox om k) : AWL G p l e s m below meth c b Q w (50 + 8 * k) (3300 + 100 * k) 642 (llv b ox om oa k) [] := by
  obtain ⟨hI, hR, rfl, hq, rfl, hD⟩ := h
  have hL := hX.2.2.2
  refine aw_aload_n hX.1 dL_law_642 rfl rfl ?_
  refine law_arg hX hk 1 (by decide) rfl rfl rfl dL_law_643 dL_law_644 dL_law_646 dL_law_647 dL_law_648 ?_
  refine law_arg hX hk 2 (by decide) rfl rfl rfl dL_law_649 dL_law_650 dL_law_652 dL_law_653 dL_law_654 ?_
  refine law_bool hX hk 3 (by decide) rfl rfl rfl dL_law_655 dL_law_656 dL_law_658 dL_law_659 dL_law_660 dL_law_661 dL_law_664 dL_law_665 dL_law_668 ?_
  refine law_cx hX hD hR (kX10_open G l M ad gi wc hR hI.2.1.1 hI.2.2.2.1.1 hI.2.2.2.1.2.2.1 hI.2.2.2.1.2.2.2.2.2.2 (ct_bt hI.2.2.2.2.1.2.2) hI.2.2.2.2.1.2.1 hI.2.2.2.1.2.1 (nu_num hI.2.1.2.2.2.2 (by have := hI.2.2.2.2.2.2.2.1.1; omega)) hI.2.2.1.2.1 hI.2.2.1.2.2.2.2.1 _ _ _ (bz_or _)) okm_X10_open ml_L_61 im_X10_open se_X10_X10_open rfl rfl (Nat.le_of_ble_eq_true rfl) (Nat.le_of_ble_eq_true rfl) (Nat.le_of_ble_eq_true rfl) (Nat.le_of_ble_eq_true rfl) (Nat.le_of_ble_eq_true rfl) (by omega) (by omega) dL_law_669 (fun wc1 w1 ad1 gi1 hR1 ho1 hD1 => ?_)
  refine aw_aload_n hX.1 dL_law_672 rfl rfl ?_
  refine law_arg hX hk 1 (by decide) rfl rfl rfl dL_law_673 dL_law_674 dL_law_676 dL_law_677 dL_law_678 ?_
  refine law_arg hX hk 2 (by decide) rfl rfl rfl dL_law_679 dL_law_680 dL_law_682 dL_law_683 dL_law_684 ?_
  refine law_bool hX hk 3 (by decide) rfl rfl rfl dL_law_685 dL_law_686 dL_law_688 dL_law_689 dL_law_690 dL_law_691 dL_law_694 dL_law_695 dL_law_698 ?_
  refine law_cm hX hD1 (kX11_open G l q M hq hI.2.2.2.1.1 hI.2.2.2.1.2.1 _ _ _ (bz_nar _)) okm_X11_open ml_L_65 im_X11_open se_X11_X11_open rfl rfl (Nat.le_of_ble_eq_true rfl) (Nat.le_of_ble_eq_true rfl) (Nat.le_of_ble_eq_true rfl) rfl rfl (by omega) (by omega) dL_law_699 (fun w2 hD2 => ?_)
  refine aw_icmp_eq hX.1 (tgt := 1507) dL_law_702 rfl (fun _ => ?_) (fun z => absurd rfl z)
  exact kk _ _ _ _ _ _ ⟨iv_open (by omega) _ _ _ hI, hR1, ho1, hq, rfl, hD2⟩
theorem law_c10 (hX : LX G p s m meth c b L xs) (hk : 6 * k + 6 ≤ L) (h : LQ G q oa ox om k M ad gi f wc w) (kk : LKK G p l e s m below meth c b Q q oa ox om k) : AWL G p l e s m below meth c b Q w (50 + 8 * k) (3300 + 100 * k) 707 (llv b ox om oa k) [] := by
  obtain ⟨hI, hR, rfl, hq, rfl, hD⟩ := h
  have hL := hX.2.2.2
  refine aw_aload_n hX.1 dL_law_707 rfl rfl ?_
  refine law_arg hX hk 1 (by decide) rfl rfl rfl dL_law_708 dL_law_709 dL_law_711 dL_law_712 dL_law_713 ?_
  refine law_bool hX hk 2 (by decide) rfl rfl rfl dL_law_714 dL_law_715 dL_law_717 dL_law_718 dL_law_719 dL_law_720 dL_law_723 dL_law_724 dL_law_727 ?_
  refine law_cx hX hD hR (kX10_resource G l M ad gi wc hR hI.2.1.1 (nu_num hI.2.1.2.2.2.2 (by have := hI.2.2.2.2.2.2.2.1.1; omega)) hI.2.2.1.2.1 hI.2.2.1.2.2.2.2.1 hI.2.2.2.2.2.1.1 _ _ (bz_or _)) okm_X10_resource ml_L_66 im_X10_resource se_X10_X10_resource rfl rfl (Nat.le_of_ble_eq_true rfl) (Nat.le_of_ble_eq_true rfl) (Nat.le_of_ble_eq_true rfl) (Nat.le_of_ble_eq_true rfl) (Nat.le_of_ble_eq_true rfl) (by omega) (by omega) dL_law_728 (fun wc1 w1 ad1 gi1 hR1 ho1 hD1 => ?_)
  refine aw_aload_n hX.1 dL_law_731 rfl rfl ?_
  refine law_arg hX hk 1 (by decide) rfl rfl rfl dL_law_732 dL_law_733 dL_law_735 dL_law_736 dL_law_737 ?_
  refine law_bool hX hk 2 (by decide) rfl rfl rfl dL_law_738 dL_law_739 dL_law_741 dL_law_742 dL_law_743 dL_law_744 dL_law_747 dL_law_748 dL_law_751 ?_
  refine law_cm hX hD1 (kX11_resource G l q M hq hI.2.2.2.2.2.1.1 _ _ (bz_nar _)) okm_X11_resource ml_L_70 im_X11_resource se_X11_X11_resource rfl rfl (Nat.le_of_ble_eq_true rfl) (Nat.le_of_ble_eq_true rfl) (Nat.le_of_ble_eq_true rfl) rfl rfl (by omega) (by omega) dL_law_752 (fun w2 hD2 => ?_)
  refine aw_icmp_eq hX.1 (tgt := 1507) dL_law_755 rfl (fun _ => ?_) (fun z => absurd rfl z)
  exact kk _ _ _ _ _ _ ⟨iv_resource (by omega) _ _ hI, hR1, ho1, hq, rfl, hD2⟩
theorem law_c11 (hX : LX G p s m meth c b L xs) (hk : 6 * k + 6 ≤ L) (h : LQ G q oa ox om k M ad gi f wc w) (kk : LKK G p l e s m below meth c b Q q oa ox om k) : AWL G p l e s m below meth c b Q w (50 + 8 * k) (3300 + 100 * k) 760 (llv b ox om oa k) [] := by
  obtain ⟨hI, hR, rfl, hq, rfl, hD⟩ := h
  have hL := hX.2.2.2
  refine aw_aload_n hX.1 dL_law_760 rfl rfl ?_
  refine law_arg hX hk 1 (by decide) rfl rfl rfl dL_law_761 dL_law_762 dL_law_764 dL_law_765 dL_law_766 ?_
  refine law_arg hX hk 2 (by decide) rfl rfl rfl dL_law_767 dL_law_768 dL_law_770 dL_law_771 dL_law_772 ?_
  refine law_cx hX hD hR (kX10_give G l M ad gi wc hR hI.1.1 hI.1.2.1 hI.2.2.2.2.2.1.1 hI.1.2.2.2.1 _ _) okm_X10_give ml_L_71 im_X10_give se_X10_X10_give rfl rfl (Nat.le_of_ble_eq_true rfl) (Nat.le_of_ble_eq_true rfl) (Nat.le_of_ble_eq_true rfl) (Nat.le_of_ble_eq_true rfl) (Nat.le_of_ble_eq_true rfl) (by omega) (by omega) dL_law_773 (fun wc1 w1 ad1 gi1 hR1 ho1 hD1 => ?_)
  refine aw_aload_n hX.1 dL_law_776 rfl rfl ?_
  refine law_arg hX hk 1 (by decide) rfl rfl rfl dL_law_777 dL_law_778 dL_law_780 dL_law_781 dL_law_782 ?_
  refine law_arg hX hk 2 (by decide) rfl rfl rfl dL_law_783 dL_law_784 dL_law_786 dL_law_787 dL_law_788 ?_
  refine law_cm hX hD1 (kX11_give G l q M hq hI.1.1 hI.1.2.1 _ _) okm_X11_give ml_L_74 im_X11_give se_X11_X11_give rfl rfl (Nat.le_of_ble_eq_true rfl) (Nat.le_of_ble_eq_true rfl) (Nat.le_of_ble_eq_true rfl) rfl rfl (by omega) (by omega) dL_law_789 (fun w2 hD2 => ?_)
  refine aw_icmp_eq hX.1 (tgt := 1507) dL_law_792 rfl (fun _ => ?_) (fun z => absurd rfl z)
  exact kk _ _ _ _ _ _ ⟨iv_give _ _ hI, hR1, ho1, hq, rfl, hD2⟩
end LWC
