/-! ===== the law's cases ===== -/
set_option maxRecDepth 100000 in
set_option maxHeartbeats 4000000 in
theorem law_0 {G : zG} {l : Launch} {et : List ExceptionTableEntry} {ini : Prop} {X : zXT} {kc ks b L i n : Nat} {xs : Nat → Int32} {Z : zM} {sb : Nat → Option Nat} {mcn : Nat → Int32} {cp : Nat → Nat} {th : Int32} {o : Nat → Int64} {od : Nat → UInt64} {ad : Nat → Nat} (O : zLaw G l et ini X) (hl : l.stackTraces = false) (S : zSld G X b L xs) (J : jJ n Z sb cp) (hn : n ≤ 511) (hi : i + 6 ≤ L) (hkc : kc + 9 ≤ 603072) (hks : ks + 60 ≤ 7219306) (kk : zKK G X kc ks b i n) : zV G X 9 kc ks 196 (zB b i ad) [] (zent Z sb mcn cp G.2.2.2.1 Z th o od ad) ad := by
  have hh := J.1.1.1
  have hse := J.2.1.2.2.2
  have hL0 := (J.1.2.1 0 (by decide)).1
  have hL1 := (J.1.2.1 1 (by decide)).1
  have hL2 := (J.1.2.1 2 (by decide)).1
  have hsb := J.2.1.2.1
  have h6 := J.1.2.2.1
  have hcs : ∀ c, c < zN Z 2 → (Z 19 c).toNatClampNeg < zN Z 1 := fun c hc => (J.cues c hc).2
  refine z_aload_n O dL_law_196 rfl ?_
  refine z_arg O S 1 dL_law_197 dL_law_198 dL_law_200 dL_law_201 dL_law_202 rfl rfl (by decide) (by omega) ?_
  refine z_arg O S 2 dL_law_203 dL_law_204 dL_law_206 dL_law_207 dL_law_208 rfl rfl (by decide) (by omega) ?_
  refine z_aload_n O dL_law_209 rfl ?_
  refine z_callSH (kc' := kc + 9) (ks' := ks + 60) O (c_L_newHouse hl hse hL1 hL2) zIA zm11_24 zm11_25 zm11_26 zm9_56 ⟨by decide +kernel, by decide +kernel, (show _ = some 4 by decide +kernel)⟩ ⟨(Nat.le_of_ble_eq_true rfl), (Nat.le_of_ble_eq_true rfl)⟩ ⟨by show kc + 2 ≤ kc + 9; omega, by show ks + 12 ≤ ks + 60; omega⟩ ⟨hkc, hks⟩ dL_law_210 rfl (Nat.le_of_ble_eq_true rfl) (fun r w1 ad1 hp => ?_)
  rcases hp with ⟨h0, rfl, rfl, rfl⟩ | ⟨h0, rfl, rfl, rfl⟩
  · refine z_istore O dL_law_213 (by decide) ?_
    refine z_aload_n O dL_law_215 rfl ?_
    refine z_arg O S 1 dL_law_216 dL_law_217 dL_law_219 dL_law_220 dL_law_221 rfl rfl (by decide) (by omega) ?_
    refine z_arg O S 2 dL_law_222 dL_law_223 dL_law_225 dL_law_226 dL_law_227 rfl rfl (by decide) (by omega) ?_
    refine z_callV0 O (c_X8_newHouse hl hL1.cnt h6) zIA zm11_27 zm11_28 zm11_29 zm7_16 zm8_9 ⟨rfl, by decide +kernel, by decide +kernel, (show _ = some 2 by decide +kernel)⟩ rfl zg_model ⟨(Nat.le_of_ble_eq_true rfl), (Nat.le_of_ble_eq_true rfl)⟩ ⟨rfl, rfl⟩ ⟨hkc, hks⟩ dL_law_228 rfl (Nat.le_of_ble_eq_true rfl) (fun r w2 ad2 hq => ?_)
    rcases hq with ⟨h1, rfl, rfl, rfl⟩ | ⟨h1, -⟩
    · rw [mNew_eq Z sb]
      refine z_tail O hl hkc hks rfl (fun _ => zo_s) dL_law_231 dL_law_233 dL_law_234 dL_law_237 dL_law_239 dL_law_244 dL_law_246 dL_law_249 dL_law_250 dL_law_251 dL_law_252 dL_law_254 dL_law_255 dL_law_256 dL_law_261 (by decide) ?_
      exact kk _ _ _ _ _ _ _ _ (J.house h0)
    · exact absurd h0 h1
  · refine z_istore O dL_law_213 (by decide) ?_
    refine z_aload_n O dL_law_215 rfl ?_
    refine z_arg O S 1 dL_law_216 dL_law_217 dL_law_219 dL_law_220 dL_law_221 rfl rfl (by decide) (by omega) ?_
    refine z_arg O S 2 dL_law_222 dL_law_223 dL_law_225 dL_law_226 dL_law_227 rfl rfl (by decide) (by omega) ?_
    refine z_callV0 O (c_X8_newHouse hl hL1.cnt h6) zIA zm11_27 zm11_28 zm11_29 zm7_16 zm8_9 ⟨rfl, by decide +kernel, by decide +kernel, (show _ = some 2 by decide +kernel)⟩ rfl zg_model ⟨(Nat.le_of_ble_eq_true rfl), (Nat.le_of_ble_eq_true rfl)⟩ ⟨rfl, rfl⟩ ⟨hkc, hks⟩ dL_law_228 rfl (Nat.le_of_ble_eq_true rfl) (fun r w2 ad2 hq => ?_)
    rcases hq with ⟨h1, -⟩ | ⟨h1, ⟨v9, rfl⟩, rfl, rfl⟩
    · exact absurd h1 h0
    · refine z_tail O hl hkc hks rfl (fun z => nI_k h0 kb_House z) dL_law_231 dL_law_233 dL_law_234 dL_law_237 dL_law_239 dL_law_244 dL_law_246 dL_law_249 dL_law_250 dL_law_251 dL_law_252 dL_law_254 dL_law_255 dL_law_256 dL_law_261 (by decide) ?_
      exact kk _ _ _ _ _ _ _ _ J.next

set_option maxRecDepth 100000 in
set_option maxHeartbeats 4000000 in
theorem law_1 {G : zG} {l : Launch} {et : List ExceptionTableEntry} {ini : Prop} {X : zXT} {kc ks b L i n : Nat} {xs : Nat → Int32} {Z : zM} {sb : Nat → Option Nat} {mcn : Nat → Int32} {cp : Nat → Nat} {th : Int32} {o : Nat → Int64} {od : Nat → UInt64} {ad : Nat → Nat} (O : zLaw G l et ini X) (hl : l.stackTraces = false) (S : zSld G X b L xs) (J : jJ n Z sb cp) (hn : n ≤ 511) (hi : i + 6 ≤ L) (hkc : kc + 9 ≤ 603072) (hks : ks + 60 ≤ 7219306) (kk : zKK G X kc ks b i n) : zV G X 9 kc ks 264 (zB b i ad) [] (zent Z sb mcn cp G.2.2.2.1 Z th o od ad) ad := by
  have hh := J.1.1.1
  have hse := J.2.1.2.2.2
  have hL0 := (J.1.2.1 0 (by decide)).1
  have hL1 := (J.1.2.1 1 (by decide)).1
  have hL2 := (J.1.2.1 2 (by decide)).1
  have hsb := J.2.1.2.1
  have h6 := J.1.2.2.1
  have hcs : ∀ c, c < zN Z 2 → (Z 19 c).toNatClampNeg < zN Z 1 := fun c hc => (J.cues c hc).2
  refine z_aload_n O dL_law_264 rfl ?_
  refine z_arg O S 1 dL_law_265 dL_law_266 dL_law_268 dL_law_269 dL_law_270 rfl rfl (by decide) (by omega) ?_
  refine z_arg O S 2 dL_law_271 dL_law_272 dL_law_274 dL_law_275 dL_law_276 rfl rfl (by decide) (by omega) ?_
  refine z_arg O S 3 dL_law_277 dL_law_278 dL_law_280 dL_law_281 dL_law_282 rfl rfl (by decide) (by omega) ?_
  refine z_aload_n O dL_law_283 rfl ?_
  refine z_callSH (kc' := kc + 9) (ks' := ks + 60) O (c_L_seatPayer hl hh hse) zIA zm11_33 zm11_34 zm11_26 zm9_61 ⟨by decide +kernel, by decide +kernel, (show _ = some 5 by decide +kernel)⟩ ⟨(Nat.le_of_ble_eq_true rfl), (Nat.le_of_ble_eq_true rfl)⟩ ⟨by show kc + 2 ≤ kc + 9; omega, by show ks + 12 ≤ ks + 60; omega⟩ ⟨hkc, hks⟩ dL_law_284 rfl (Nat.le_of_ble_eq_true rfl) (fun r w1 ad1 hp => ?_)
  rcases hp with ⟨h0, rfl, rfl, rfl⟩ | ⟨h0, rfl, rfl, rfl⟩
  · refine z_istore O dL_law_287 (by decide) ?_
    refine z_aload_n O dL_law_289 rfl ?_
    refine z_arg O S 1 dL_law_290 dL_law_291 dL_law_293 dL_law_294 dL_law_295 rfl rfl (by decide) (by omega) ?_
    refine z_arg O S 2 dL_law_296 dL_law_297 dL_law_299 dL_law_300 dL_law_301 rfl rfl (by decide) (by omega) ?_
    refine z_arg O S 3 dL_law_302 dL_law_303 dL_law_305 dL_law_306 dL_law_307 rfl rfl (by decide) (by omega) ?_
    refine z_callV0 O (c_X8_seatPayer hl hh hse) zIA zm11_35 zm11_36 zm11_37 zm7_16 zm8_19 ⟨rfl, by decide +kernel, by decide +kernel, (show _ = some 3 by decide +kernel)⟩ rfl zg_model ⟨(Nat.le_of_ble_eq_true rfl), (Nat.le_of_ble_eq_true rfl)⟩ ⟨rfl, rfl⟩ ⟨hkc, hks⟩ dL_law_308 rfl (Nat.le_of_ble_eq_true rfl) (fun r w2 ad2 hq => ?_)
    rcases hq with ⟨h1, rfl, rfl, rfl⟩ | ⟨h1, -⟩
    · rw [mEmp_take, fTake_who]
      refine z_tail O hl hkc hks rfl (fun _ => zo_s) dL_law_311 dL_law_313 dL_law_314 dL_law_317 dL_law_319 dL_law_324 dL_law_326 dL_law_329 dL_law_330 dL_law_331 dL_law_332 dL_law_334 dL_law_335 dL_law_336 dL_law_341 (by decide) ?_
      exact kk _ _ _ _ _ _ _ _ (J.payer (kPayer_0 h0))
    · exact absurd h0 h1
  · refine z_istore O dL_law_287 (by decide) ?_
    refine z_aload_n O dL_law_289 rfl ?_
    refine z_arg O S 1 dL_law_290 dL_law_291 dL_law_293 dL_law_294 dL_law_295 rfl rfl (by decide) (by omega) ?_
    refine z_arg O S 2 dL_law_296 dL_law_297 dL_law_299 dL_law_300 dL_law_301 rfl rfl (by decide) (by omega) ?_
    refine z_arg O S 3 dL_law_302 dL_law_303 dL_law_305 dL_law_306 dL_law_307 rfl rfl (by decide) (by omega) ?_
    refine z_callV0 O (c_X8_seatPayer hl hh hse) zIA zm11_35 zm11_36 zm11_37 zm7_16 zm8_19 ⟨rfl, by decide +kernel, by decide +kernel, (show _ = some 3 by decide +kernel)⟩ rfl zg_model ⟨(Nat.le_of_ble_eq_true rfl), (Nat.le_of_ble_eq_true rfl)⟩ ⟨rfl, rfl⟩ ⟨hkc, hks⟩ dL_law_308 rfl (Nat.le_of_ble_eq_true rfl) (fun r w2 ad2 hq => ?_)
    rcases hq with ⟨h1, -⟩ | ⟨h1, ⟨v9, rfl⟩, rfl, rfl⟩
    · exact absurd h1 h0
    · refine z_tail O hl hkc hks rfl (fun z => nI_k h0 kb_Payer z) dL_law_311 dL_law_313 dL_law_314 dL_law_317 dL_law_319 dL_law_324 dL_law_326 dL_law_329 dL_law_330 dL_law_331 dL_law_332 dL_law_334 dL_law_335 dL_law_336 dL_law_341 (by decide) ?_
      exact kk _ _ _ _ _ _ _ _ J.next

set_option maxRecDepth 100000 in
set_option maxHeartbeats 4000000 in
theorem law_2 {G : zG} {l : Launch} {et : List ExceptionTableEntry} {ini : Prop} {X : zXT} {kc ks b L i n : Nat} {xs : Nat → Int32} {Z : zM} {sb : Nat → Option Nat} {mcn : Nat → Int32} {cp : Nat → Nat} {th : Int32} {o : Nat → Int64} {od : Nat → UInt64} {ad : Nat → Nat} (O : zLaw G l et ini X) (hl : l.stackTraces = false) (S : zSld G X b L xs) (J : jJ n Z sb cp) (hn : n ≤ 511) (hi : i + 6 ≤ L) (hkc : kc + 9 ≤ 603072) (hks : ks + 60 ≤ 7219306) (kk : zKK G X kc ks b i n) : zV G X 9 kc ks 344 (zB b i ad) [] (zent Z sb mcn cp G.2.2.2.1 Z th o od ad) ad := by
  have hh := J.1.1.1
  have hse := J.2.1.2.2.2
  have hL0 := (J.1.2.1 0 (by decide)).1
  have hL1 := (J.1.2.1 1 (by decide)).1
  have hL2 := (J.1.2.1 2 (by decide)).1
  have hsb := J.2.1.2.1
  have h6 := J.1.2.2.1
  have hcs : ∀ c, c < zN Z 2 → (Z 19 c).toNatClampNeg < zN Z 1 := fun c hc => (J.cues c hc).2
  refine z_aload_n O dL_law_344 rfl ?_
  refine z_arg O S 1 dL_law_345 dL_law_346 dL_law_348 dL_law_349 dL_law_350 rfl rfl (by decide) (by omega) ?_
  refine z_arg O S 2 dL_law_351 dL_law_352 dL_law_354 dL_law_355 dL_law_356 rfl rfl (by decide) (by omega) ?_
  refine z_aload_n O dL_law_357 rfl ?_
  refine z_callSH (kc' := kc + 9) (ks' := ks + 60) O (c_L_seatRival hl hh hse) zIA zm11_38 zm11_39 zm11_26 zm9_65 ⟨by decide +kernel, by decide +kernel, (show _ = some 4 by decide +kernel)⟩ ⟨(Nat.le_of_ble_eq_true rfl), (Nat.le_of_ble_eq_true rfl)⟩ ⟨by show kc + 1 ≤ kc + 9; omega, by show ks + 6 ≤ ks + 60; omega⟩ ⟨hkc, hks⟩ dL_law_358 rfl (Nat.le_of_ble_eq_true rfl) (fun r w1 ad1 hp => ?_)
  rcases hp with ⟨h0, rfl, rfl, rfl⟩ | ⟨h0, rfl, rfl, rfl⟩
  · refine z_istore O dL_law_361 (by decide) ?_
    refine z_aload_n O dL_law_363 rfl ?_
    refine z_arg O S 1 dL_law_364 dL_law_365 dL_law_367 dL_law_368 dL_law_369 rfl rfl (by decide) (by omega) ?_
    refine z_arg O S 2 dL_law_370 dL_law_371 dL_law_373 dL_law_374 dL_law_375 rfl rfl (by decide) (by omega) ?_
    refine z_callV0 O (c_X8_seatRival hl hh hse) zIA zm11_40 zm11_41 zm11_42 zm7_16 zm8_20 ⟨rfl, by decide +kernel, by decide +kernel, (show _ = some 2 by decide +kernel)⟩ rfl zg_model ⟨(Nat.le_of_ble_eq_true rfl), (Nat.le_of_ble_eq_true rfl)⟩ ⟨rfl, rfl⟩ ⟨hkc, hks⟩ dL_law_376 rfl (Nat.le_of_ble_eq_true rfl) (fun r w2 ad2 hq => ?_)
    rcases hq with ⟨h1, rfl, rfl, rfl⟩ | ⟨h1, -⟩
    · rw [mEmp_take, fTake_who]
      refine z_tail O hl hkc hks rfl (fun _ => zo_s) dL_law_379 dL_law_381 dL_law_382 dL_law_385 dL_law_387 dL_law_392 dL_law_394 dL_law_397 dL_law_398 dL_law_399 dL_law_400 dL_law_402 dL_law_403 dL_law_404 dL_law_409 (by decide) ?_
      exact kk _ _ _ _ _ _ _ _ (J.take (kSeat_0 h0) (Or.inr (Or.inr rfl)))
    · exact absurd h0 h1
  · refine z_istore O dL_law_361 (by decide) ?_
    refine z_aload_n O dL_law_363 rfl ?_
    refine z_arg O S 1 dL_law_364 dL_law_365 dL_law_367 dL_law_368 dL_law_369 rfl rfl (by decide) (by omega) ?_
    refine z_arg O S 2 dL_law_370 dL_law_371 dL_law_373 dL_law_374 dL_law_375 rfl rfl (by decide) (by omega) ?_
    refine z_callV0 O (c_X8_seatRival hl hh hse) zIA zm11_40 zm11_41 zm11_42 zm7_16 zm8_20 ⟨rfl, by decide +kernel, by decide +kernel, (show _ = some 2 by decide +kernel)⟩ rfl zg_model ⟨(Nat.le_of_ble_eq_true rfl), (Nat.le_of_ble_eq_true rfl)⟩ ⟨rfl, rfl⟩ ⟨hkc, hks⟩ dL_law_376 rfl (Nat.le_of_ble_eq_true rfl) (fun r w2 ad2 hq => ?_)
    rcases hq with ⟨h1, -⟩ | ⟨h1, ⟨v9, rfl⟩, rfl, rfl⟩
    · exact absurd h1 h0
    · refine z_tail O hl hkc hks rfl (fun z => nI_k h0 kb_Seat z) dL_law_379 dL_law_381 dL_law_382 dL_law_385 dL_law_387 dL_law_392 dL_law_394 dL_law_397 dL_law_398 dL_law_399 dL_law_400 dL_law_402 dL_law_403 dL_law_404 dL_law_409 (by decide) ?_
      exact kk _ _ _ _ _ _ _ _ J.next

set_option maxRecDepth 100000 in
set_option maxHeartbeats 4000000 in
theorem law_3 {G : zG} {l : Launch} {et : List ExceptionTableEntry} {ini : Prop} {X : zXT} {kc ks b L i n : Nat} {xs : Nat → Int32} {Z : zM} {sb : Nat → Option Nat} {mcn : Nat → Int32} {cp : Nat → Nat} {th : Int32} {o : Nat → Int64} {od : Nat → UInt64} {ad : Nat → Nat} (O : zLaw G l et ini X) (hl : l.stackTraces = false) (S : zSld G X b L xs) (J : jJ n Z sb cp) (hn : n ≤ 511) (hi : i + 6 ≤ L) (hkc : kc + 9 ≤ 603072) (hks : ks + 60 ≤ 7219306) (kk : zKK G X kc ks b i n) : zV G X 9 kc ks 412 (zB b i ad) [] (zent Z sb mcn cp G.2.2.2.1 Z th o od ad) ad := by
  have hh := J.1.1.1
  have hse := J.2.1.2.2.2
  have hL0 := (J.1.2.1 0 (by decide)).1
  have hL1 := (J.1.2.1 1 (by decide)).1
  have hL2 := (J.1.2.1 2 (by decide)).1
  have hsb := J.2.1.2.1
  have h6 := J.1.2.2.1
  have hcs : ∀ c, c < zN Z 2 → (Z 19 c).toNatClampNeg < zN Z 1 := fun c hc => (J.cues c hc).2
  refine z_aload_n O dL_law_412 rfl ?_
  refine z_arg O S 1 dL_law_413 dL_law_414 dL_law_416 dL_law_417 dL_law_418 rfl rfl (by decide) (by omega) ?_
  refine z_arg O S 2 dL_law_419 dL_law_420 dL_law_422 dL_law_423 dL_law_424 rfl rfl (by decide) (by omega) ?_
  refine z_arg O S 3 dL_law_425 dL_law_426 dL_law_428 dL_law_429 dL_law_430 rfl rfl (by decide) (by omega) ?_
  refine z_aload_n O dL_law_431 rfl ?_
  refine z_callSH (kc' := kc + 9) (ks' := ks + 60) O (c_L_seatHand hl hL0 hsb hh hse) zIA zm11_43 zm11_44 zm11_26 zm10_0 ⟨by decide +kernel, by decide +kernel, (show _ = some 5 by decide +kernel)⟩ ⟨(Nat.le_of_ble_eq_true rfl), (Nat.le_of_ble_eq_true rfl)⟩ ⟨by show kc + 3 ≤ kc + 9; omega, by show ks + 18 ≤ ks + 60; omega⟩ ⟨hkc, hks⟩ dL_law_432 rfl (Nat.le_of_ble_eq_true rfl) (fun r w1 ad1 hp => ?_)
  rcases hp with ⟨h0, rfl, rfl, rfl⟩ | ⟨h0, rfl, rfl, rfl⟩
  · refine z_istore O dL_law_435 (by decide) ?_
    refine z_aload_n O dL_law_437 rfl ?_
    refine z_arg O S 1 dL_law_438 dL_law_439 dL_law_441 dL_law_442 dL_law_443 rfl rfl (by decide) (by omega) ?_
    refine z_arg O S 2 dL_law_444 dL_law_445 dL_law_447 dL_law_448 dL_law_449 rfl rfl (by decide) (by omega) ?_
    refine z_arg O S 3 dL_law_450 dL_law_451 dL_law_453 dL_law_454 dL_law_455 rfl rfl (by decide) (by omega) ?_
    refine z_callV0 O (c_X8_seatHand hl hL0.cnt hh hse) zIA zm11_45 zm11_46 zm11_47 zm7_16 zm8_24 ⟨rfl, by decide +kernel, by decide +kernel, (show _ = some 3 by decide +kernel)⟩ rfl zg_model ⟨(Nat.le_of_ble_eq_true rfl), (Nat.le_of_ble_eq_true rfl)⟩ ⟨rfl, rfl⟩ ⟨hkc, hks⟩ dL_law_456 rfl (Nat.le_of_ble_eq_true rfl) (fun r w2 ad2 hq => ?_)
    rcases hq with ⟨h1, rfl, rfl, rfl⟩ | ⟨h1, -⟩
    · rw [(mMove_h hL0 hsb (kMove_0 h0).1 _).2.1, (mMove_h hL0 hsb (kMove_0 h0).1 0).2.2.1]
      refine z_tail O hl hkc hks rfl (fun _ => zo_s) dL_law_459 dL_law_461 dL_law_462 dL_law_465 dL_law_467 dL_law_472 dL_law_474 dL_law_477 dL_law_478 dL_law_479 dL_law_480 dL_law_482 dL_law_483 dL_law_484 dL_law_489 (by decide) ?_
      exact kk _ _ _ _ _ _ _ _ (J.move (mMove_h hL0 hsb (kMove_0 h0).1 0).1 (kMove_0 h0).2)
    · exact absurd h0 h1
  · refine z_istore O dL_law_435 (by decide) ?_
    refine z_aload_n O dL_law_437 rfl ?_
    refine z_arg O S 1 dL_law_438 dL_law_439 dL_law_441 dL_law_442 dL_law_443 rfl rfl (by decide) (by omega) ?_
    refine z_arg O S 2 dL_law_444 dL_law_445 dL_law_447 dL_law_448 dL_law_449 rfl rfl (by decide) (by omega) ?_
    refine z_arg O S 3 dL_law_450 dL_law_451 dL_law_453 dL_law_454 dL_law_455 rfl rfl (by decide) (by omega) ?_
    refine z_callV0 O (c_X8_seatHand hl hL0.cnt hh hse) zIA zm11_45 zm11_46 zm11_47 zm7_16 zm8_24 ⟨rfl, by decide +kernel, by decide +kernel, (show _ = some 3 by decide +kernel)⟩ rfl zg_model ⟨(Nat.le_of_ble_eq_true rfl), (Nat.le_of_ble_eq_true rfl)⟩ ⟨rfl, rfl⟩ ⟨hkc, hks⟩ dL_law_456 rfl (Nat.le_of_ble_eq_true rfl) (fun r w2 ad2 hq => ?_)
    rcases hq with ⟨h1, -⟩ | ⟨h1, ⟨v9, rfl⟩, rfl, rfl⟩
    · exact absurd h1 h0
    · refine z_tail O hl hkc hks rfl (fun z => nI_k h0 kb_Move z) dL_law_459 dL_law_461 dL_law_462 dL_law_465 dL_law_467 dL_law_472 dL_law_474 dL_law_477 dL_law_478 dL_law_479 dL_law_480 dL_law_482 dL_law_483 dL_law_484 dL_law_489 (by decide) ?_
      exact kk _ _ _ _ _ _ _ _ J.next

set_option maxRecDepth 100000 in
set_option maxHeartbeats 4000000 in
theorem law_4 {G : zG} {l : Launch} {et : List ExceptionTableEntry} {ini : Prop} {X : zXT} {kc ks b L i n : Nat} {xs : Nat → Int32} {Z : zM} {sb : Nat → Option Nat} {mcn : Nat → Int32} {cp : Nat → Nat} {th : Int32} {o : Nat → Int64} {od : Nat → UInt64} {ad : Nat → Nat} (O : zLaw G l et ini X) (hl : l.stackTraces = false) (S : zSld G X b L xs) (J : jJ n Z sb cp) (hn : n ≤ 511) (hi : i + 6 ≤ L) (hkc : kc + 9 ≤ 603072) (hks : ks + 60 ≤ 7219306) (kk : zKK G X kc ks b i n) : zV G X 9 kc ks 492 (zB b i ad) [] (zent Z sb mcn cp G.2.2.2.1 Z th o od ad) ad := by
  have hh := J.1.1.1
  have hse := J.2.1.2.2.2
  have hL0 := (J.1.2.1 0 (by decide)).1
  have hL1 := (J.1.2.1 1 (by decide)).1
  have hL2 := (J.1.2.1 2 (by decide)).1
  have hsb := J.2.1.2.1
  have h6 := J.1.2.2.1
  have hcs : ∀ c, c < zN Z 2 → (Z 19 c).toNatClampNeg < zN Z 1 := fun c hc => (J.cues c hc).2
  refine z_aload_n O dL_law_492 rfl ?_
  refine z_arg O S 1 dL_law_493 dL_law_494 dL_law_496 dL_law_497 dL_law_498 rfl rfl (by decide) (by omega) ?_
  refine z_arg O S 2 dL_law_499 dL_law_500 dL_law_502 dL_law_503 dL_law_504 rfl rfl (by decide) (by omega) ?_
  refine z_aload_n O dL_law_505 rfl ?_
  refine z_callSH (kc' := kc + 9) (ks' := ks + 60) O (c_L_clearSeat hl hh hse) zIA zm11_48 zm11_49 zm11_26 zm10_4 ⟨by decide +kernel, by decide +kernel, (show _ = some 4 by decide +kernel)⟩ ⟨(Nat.le_of_ble_eq_true rfl), (Nat.le_of_ble_eq_true rfl)⟩ ⟨by show kc + 1 ≤ kc + 9; omega, by show ks + 6 ≤ ks + 60; omega⟩ ⟨hkc, hks⟩ dL_law_506 rfl (Nat.le_of_ble_eq_true rfl) (fun r w1 ad1 hp => ?_)
  rcases hp with ⟨h0, rfl, rfl, rfl⟩ | ⟨h0, rfl, rfl, rfl⟩
  · refine z_istore O dL_law_509 (by decide) ?_
    refine z_aload_n O dL_law_511 rfl ?_
    refine z_arg O S 1 dL_law_512 dL_law_513 dL_law_515 dL_law_516 dL_law_517 rfl rfl (by decide) (by omega) ?_
    refine z_arg O S 2 dL_law_518 dL_law_519 dL_law_521 dL_law_522 dL_law_523 rfl rfl (by decide) (by omega) ?_
    refine z_callV0 O (c_X8_clearSeat hl hh hse) zIA zm11_50 zm11_51 zm11_52 zm7_16 zm8_25 ⟨rfl, by decide +kernel, by decide +kernel, (show _ = some 2 by decide +kernel)⟩ rfl zg_model ⟨(Nat.le_of_ble_eq_true rfl), (Nat.le_of_ble_eq_true rfl)⟩ ⟨rfl, rfl⟩ ⟨hkc, hks⟩ dL_law_524 rfl (Nat.le_of_ble_eq_true rfl) (fun r w2 ad2 hq => ?_)
    rcases hq with ⟨h1, rfl, rfl, rfl⟩ | ⟨h1, -⟩
    · rw [mEmp_take]
      refine z_tail O hl hkc hks rfl (fun _ => zo_s) dL_law_527 dL_law_529 dL_law_530 dL_law_533 dL_law_535 dL_law_540 dL_law_542 dL_law_545 dL_law_546 dL_law_547 dL_law_548 dL_law_550 dL_law_551 dL_law_552 dL_law_557 (by decide) ?_
      exact kk _ _ _ _ _ _ _ _ (J.take (kSeat_0 h0) (Or.inl rfl))
    · exact absurd h0 h1
  · refine z_istore O dL_law_509 (by decide) ?_
    refine z_aload_n O dL_law_511 rfl ?_
    refine z_arg O S 1 dL_law_512 dL_law_513 dL_law_515 dL_law_516 dL_law_517 rfl rfl (by decide) (by omega) ?_
    refine z_arg O S 2 dL_law_518 dL_law_519 dL_law_521 dL_law_522 dL_law_523 rfl rfl (by decide) (by omega) ?_
    refine z_callV0 O (c_X8_clearSeat hl hh hse) zIA zm11_50 zm11_51 zm11_52 zm7_16 zm8_25 ⟨rfl, by decide +kernel, by decide +kernel, (show _ = some 2 by decide +kernel)⟩ rfl zg_model ⟨(Nat.le_of_ble_eq_true rfl), (Nat.le_of_ble_eq_true rfl)⟩ ⟨rfl, rfl⟩ ⟨hkc, hks⟩ dL_law_524 rfl (Nat.le_of_ble_eq_true rfl) (fun r w2 ad2 hq => ?_)
    rcases hq with ⟨h1, -⟩ | ⟨h1, ⟨v9, rfl⟩, rfl, rfl⟩
    · exact absurd h1 h0
    · refine z_tail O hl hkc hks rfl (fun z => nI_k h0 kb_Seat z) dL_law_527 dL_law_529 dL_law_530 dL_law_533 dL_law_535 dL_law_540 dL_law_542 dL_law_545 dL_law_546 dL_law_547 dL_law_548 dL_law_550 dL_law_551 dL_law_552 dL_law_557 (by decide) ?_
      exact kk _ _ _ _ _ _ _ _ J.next

set_option maxRecDepth 100000 in
set_option maxHeartbeats 4000000 in
theorem law_5 {G : zG} {l : Launch} {et : List ExceptionTableEntry} {ini : Prop} {X : zXT} {kc ks b L i n : Nat} {xs : Nat → Int32} {Z : zM} {sb : Nat → Option Nat} {mcn : Nat → Int32} {cp : Nat → Nat} {th : Int32} {o : Nat → Int64} {od : Nat → UInt64} {ad : Nat → Nat} (O : zLaw G l et ini X) (hl : l.stackTraces = false) (S : zSld G X b L xs) (J : jJ n Z sb cp) (hn : n ≤ 511) (hi : i + 6 ≤ L) (hkc : kc + 9 ≤ 603072) (hks : ks + 60 ≤ 7219306) (kk : zKK G X kc ks b i n) : zV G X 9 kc ks 560 (zB b i ad) [] (zent Z sb mcn cp G.2.2.2.1 Z th o od ad) ad := by
  have hh := J.1.1.1
  have hse := J.2.1.2.2.2
  have hL0 := (J.1.2.1 0 (by decide)).1
  have hL1 := (J.1.2.1 1 (by decide)).1
  have hL2 := (J.1.2.1 2 (by decide)).1
  have hsb := J.2.1.2.1
  have h6 := J.1.2.2.1
  have hcs : ∀ c, c < zN Z 2 → (Z 19 c).toNatClampNeg < zN Z 1 := fun c hc => (J.cues c hc).2
  refine z_aload_n O dL_law_560 rfl ?_
  refine z_arg O S 1 dL_law_561 dL_law_562 dL_law_564 dL_law_565 dL_law_566 rfl rfl (by decide) (by omega) ?_
  refine z_arg O S 2 dL_law_567 dL_law_568 dL_law_570 dL_law_571 dL_law_572 rfl rfl (by decide) (by omega) ?_
  refine z_aload_n O dL_law_573 rfl ?_
  refine z_callSH (kc' := kc + 9) (ks' := ks + 60) O (c_L_seatAt hl hh (J.2.1.2.2.1 _)) zIA zm11_53 zm11_54 zm11_26 zm10_5 ⟨by decide +kernel, by decide +kernel, (show _ = some 4 by decide +kernel)⟩ ⟨(Nat.le_of_ble_eq_true rfl), (Nat.le_of_ble_eq_true rfl)⟩ ⟨by show kc + 1 ≤ kc + 9; omega, by show ks + 6 ≤ ks + 60; omega⟩ ⟨hkc, hks⟩ dL_law_574 rfl (Nat.le_of_ble_eq_true rfl) (fun r w1 ad1 hp => ?_)
  rcases hp with ⟨h0, rfl, rfl, rfl⟩ | ⟨h0, rfl, rfl, rfl⟩
  · refine z_istore O dL_law_577 (by decide) ?_
    refine z_aload_n O dL_law_579 rfl ?_
    refine z_arg O S 1 dL_law_580 dL_law_581 dL_law_583 dL_law_584 dL_law_585 rfl rfl (by decide) (by omega) ?_
    refine z_arg O S 2 dL_law_586 dL_law_587 dL_law_589 dL_law_590 dL_law_591 rfl rfl (by decide) (by omega) ?_
    refine z_callV0 O (c_X8_seatAt hl hh hse) zIA zm11_55 zm11_56 zm11_57 zm7_16 zm8_26 ⟨rfl, by decide +kernel, by decide +kernel, (show _ = some 2 by decide +kernel)⟩ rfl zg_model ⟨(Nat.le_of_ble_eq_true rfl), (Nat.le_of_ble_eq_true rfl)⟩ ⟨rfl, rfl⟩ ⟨hkc, hks⟩ dL_law_592 rfl (Nat.le_of_ble_eq_true rfl) (fun r w2 ad2 hq => ?_)
    rcases hq with ⟨h1, rfl, rfl, rfl⟩ | ⟨h1, -⟩
    · refine z_tail O hl hkc hks rfl (fun _ => zo_s) dL_law_595 dL_law_597 dL_law_598 dL_law_601 dL_law_603 dL_law_608 dL_law_610 dL_law_613 dL_law_614 dL_law_615 dL_law_616 dL_law_618 dL_law_619 dL_law_620 dL_law_625 (by decide) ?_
      exact kk _ _ _ _ _ _ _ _ (J.next)
    · exact absurd h0 h1
  · refine z_istore O dL_law_577 (by decide) ?_
    refine z_aload_n O dL_law_579 rfl ?_
    refine z_arg O S 1 dL_law_580 dL_law_581 dL_law_583 dL_law_584 dL_law_585 rfl rfl (by decide) (by omega) ?_
    refine z_arg O S 2 dL_law_586 dL_law_587 dL_law_589 dL_law_590 dL_law_591 rfl rfl (by decide) (by omega) ?_
    refine z_callV0 O (c_X8_seatAt hl hh hse) zIA zm11_55 zm11_56 zm11_57 zm7_16 zm8_26 ⟨rfl, by decide +kernel, by decide +kernel, (show _ = some 2 by decide +kernel)⟩ rfl zg_model ⟨(Nat.le_of_ble_eq_true rfl), (Nat.le_of_ble_eq_true rfl)⟩ ⟨rfl, rfl⟩ ⟨hkc, hks⟩ dL_law_592 rfl (Nat.le_of_ble_eq_true rfl) (fun r w2 ad2 hq => ?_)
    rcases hq with ⟨h1, -⟩ | ⟨h1, ⟨v9, rfl⟩, rfl, rfl⟩
    · exact absurd h1 h0
    · refine z_tail O hl hkc hks rfl (fun z => nI_k h0 kb_Seat z) dL_law_595 dL_law_597 dL_law_598 dL_law_601 dL_law_603 dL_law_608 dL_law_610 dL_law_613 dL_law_614 dL_law_615 dL_law_616 dL_law_618 dL_law_619 dL_law_620 dL_law_625 (by decide) ?_
      exact kk _ _ _ _ _ _ _ _ J.next

set_option maxRecDepth 100000 in
set_option maxHeartbeats 4000000 in
theorem law_6 {G : zG} {l : Launch} {et : List ExceptionTableEntry} {ini : Prop} {X : zXT} {kc ks b L i n : Nat} {xs : Nat → Int32} {Z : zM} {sb : Nat → Option Nat} {mcn : Nat → Int32} {cp : Nat → Nat} {th : Int32} {o : Nat → Int64} {od : Nat → UInt64} {ad : Nat → Nat} (O : zLaw G l et ini X) (hl : l.stackTraces = false) (S : zSld G X b L xs) (J : jJ n Z sb cp) (hn : n ≤ 511) (hi : i + 6 ≤ L) (hkc : kc + 9 ≤ 603072) (hks : ks + 60 ≤ 7219306) (kk : zKK G X kc ks b i n) : zV G X 9 kc ks 628 (zB b i ad) [] (zent Z sb mcn cp G.2.2.2.1 Z th o od ad) ad := by
  have hh := J.1.1.1
  have hse := J.2.1.2.2.2
  have hL0 := (J.1.2.1 0 (by decide)).1
  have hL1 := (J.1.2.1 1 (by decide)).1
  have hL2 := (J.1.2.1 2 (by decide)).1
  have hsb := J.2.1.2.1
  have h6 := J.1.2.2.1
  have hcs : ∀ c, c < zN Z 2 → (Z 19 c).toNatClampNeg < zN Z 1 := fun c hc => (J.cues c hc).2
  have h12 := hL0.2.2.2
  refine z_aload_n O dL_law_628 rfl ?_
  refine z_arg O S 1 dL_law_629 dL_law_630 dL_law_632 dL_law_633 dL_law_634 rfl rfl (by decide) (by omega) ?_
  refine z_i2c O dL_law_635 rfl ?_
  refine z_arg O S 2 dL_law_636 dL_law_637 dL_law_639 dL_law_640 dL_law_641 rfl rfl (by decide) (by omega) ?_
  refine z_arg O S 3 dL_law_642 dL_law_643 dL_law_645 dL_law_646 dL_law_647 rfl rfl (by decide) (by omega) ?_
  refine z_arg O S 4 dL_law_648 dL_law_649 dL_law_651 dL_law_652 dL_law_653 rfl rfl (by decide) (by omega) ?_
  refine z_aload_n O dL_law_654 rfl ?_
  refine z_callSH (kc' := kc + 9) (ks' := ks + 60) O (c_L_addHand hl hL0 hL1 hL2 (fun k hk j hj => ((hse k hk).2.2 j hj).1) (fun j k hj hs => (hsb.1 j k hj hs).1) hcs (J.1.2.1 0 (by decide)).2 (zChr_i2c _)) zIA zm11_58 zm11_59 zm11_26 zm10_13 ⟨by decide +kernel, by decide +kernel, (show _ = some 6 by decide +kernel)⟩ ⟨(Nat.le_of_ble_eq_true rfl), (Nat.le_of_ble_eq_true rfl)⟩ ⟨by show kc + 7 ≤ kc + 9; omega, by show ks + 60 ≤ ks + 60; omega⟩ ⟨hkc, hks⟩ dL_law_655 rfl (Nat.le_of_ble_eq_true rfl) (fun r w1 ad1 hp => ?_)
  rcases hp with ⟨h0, rfl, c9, a2, hc9, hn9, rfl, rfl, hads⟩ | ⟨h0, rfl, rfl, rfl⟩
  · rw [zB_ads (b := b) (i := i) hads (by omega) (by omega)]
    refine z_istore O dL_law_658 (by decide) ?_
    refine z_aload_n O dL_law_660 rfl ?_
    refine z_arg O S 1 dL_law_661 dL_law_662 dL_law_664 dL_law_665 dL_law_666 rfl rfl (by decide) (by omega) ?_
    refine z_i2c O dL_law_667 rfl ?_
    refine z_arg O S 2 dL_law_668 dL_law_669 dL_law_671 dL_law_672 dL_law_673 rfl rfl (by decide) (by omega) ?_
    refine z_arg O S 3 dL_law_674 dL_law_675 dL_law_677 dL_law_678 dL_law_679 rfl rfl (by decide) (by omega) ?_
    refine z_arg O S 4 dL_law_680 dL_law_681 dL_law_683 dL_law_684 dL_law_685 rfl rfl (by decide) (by omega) ?_
    refine z_callV0 O (c_X8_addHand hl hL0.cnt (zChr_i2c _)) zIA zm11_60 zm11_61 zm11_62 zm7_16 zm8_28 ⟨rfl, by decide +kernel, by decide +kernel, (show _ = some 4 by decide +kernel)⟩ rfl zg_model ⟨(Nat.le_of_ble_eq_true rfl), (Nat.le_of_ble_eq_true rfl)⟩ ⟨rfl, rfl⟩ ⟨hkc, hks⟩ dL_law_686 rfl (Nat.le_of_ble_eq_true rfl) (fun r w2 ad2 hq => ?_)
    rcases hq with ⟨h1, rfl, rfl, rfl⟩ | ⟨h1, -⟩
    · rw [mAddH_eq hL0.cnt (J.2.2.2.1.1 _ (Nat.le_refl _))]
      refine z_tail O hl hkc hks rfl (fun _ => zo_s) dL_law_689 dL_law_691 dL_law_692 dL_law_695 dL_law_697 dL_law_702 dL_law_704 dL_law_707 dL_law_708 dL_law_709 dL_law_710 dL_law_712 dL_law_713 dL_law_714 dL_law_719 (by decide) ?_
      exact kk _ _ _ _ _ _ _ _ (J.hand hc9 hn9 h0)
    · exact absurd h0 h1
  · refine z_istore O dL_law_658 (by decide) ?_
    refine z_aload_n O dL_law_660 rfl ?_
    refine z_arg O S 1 dL_law_661 dL_law_662 dL_law_664 dL_law_665 dL_law_666 rfl rfl (by decide) (by omega) ?_
    refine z_i2c O dL_law_667 rfl ?_
    refine z_arg O S 2 dL_law_668 dL_law_669 dL_law_671 dL_law_672 dL_law_673 rfl rfl (by decide) (by omega) ?_
    refine z_arg O S 3 dL_law_674 dL_law_675 dL_law_677 dL_law_678 dL_law_679 rfl rfl (by decide) (by omega) ?_
    refine z_arg O S 4 dL_law_680 dL_law_681 dL_law_683 dL_law_684 dL_law_685 rfl rfl (by decide) (by omega) ?_
    refine z_callV0 O (c_X8_addHand hl hL0.cnt (zChr_i2c _)) zIA zm11_60 zm11_61 zm11_62 zm7_16 zm8_28 ⟨rfl, by decide +kernel, by decide +kernel, (show _ = some 4 by decide +kernel)⟩ rfl zg_model ⟨(Nat.le_of_ble_eq_true rfl), (Nat.le_of_ble_eq_true rfl)⟩ ⟨rfl, rfl⟩ ⟨hkc, hks⟩ dL_law_686 rfl (Nat.le_of_ble_eq_true rfl) (fun r w2 ad2 hq => ?_)
    rcases hq with ⟨h1, -⟩ | ⟨h1, ⟨v9, rfl⟩, rfl, rfl⟩
    · exact absurd h1 h0
    · refine z_tail O hl hkc hks rfl (fun z => nI_k h0 kb_AddHand z) dL_law_689 dL_law_691 dL_law_692 dL_law_695 dL_law_697 dL_law_702 dL_law_704 dL_law_707 dL_law_708 dL_law_709 dL_law_710 dL_law_712 dL_law_713 dL_law_714 dL_law_719 (by decide) ?_
      exact kk _ _ _ _ _ _ _ _ J.next

set_option maxRecDepth 100000 in
set_option maxHeartbeats 4000000 in
theorem law_7 {G : zG} {l : Launch} {et : List ExceptionTableEntry} {ini : Prop} {X : zXT} {kc ks b L i n : Nat} {xs : Nat → Int32} {Z : zM} {sb : Nat → Option Nat} {mcn : Nat → Int32} {cp : Nat → Nat} {th : Int32} {o : Nat → Int64} {od : Nat → UInt64} {ad : Nat → Nat} (O : zLaw G l et ini X) (hl : l.stackTraces = false) (S : zSld G X b L xs) (J : jJ n Z sb cp) (hn : n ≤ 511) (hi : i + 6 ≤ L) (hkc : kc + 9 ≤ 603072) (hks : ks + 60 ≤ 7219306) (kk : zKK G X kc ks b i n) : zV G X 9 kc ks 722 (zB b i ad) [] (zent Z sb mcn cp G.2.2.2.1 Z th o od ad) ad := by
  have hh := J.1.1.1
  have hse := J.2.1.2.2.2
  have hL0 := (J.1.2.1 0 (by decide)).1
  have hL1 := (J.1.2.1 1 (by decide)).1
  have hL2 := (J.1.2.1 2 (by decide)).1
  have hsb := J.2.1.2.1
  have h6 := J.1.2.2.1
  have hcs : ∀ c, c < zN Z 2 → (Z 19 c).toNatClampNeg < zN Z 1 := fun c hc => (J.cues c hc).2
  refine z_aload_n O dL_law_722 rfl ?_
  refine z_arg O S 1 dL_law_723 dL_law_724 dL_law_726 dL_law_727 dL_law_728 rfl rfl (by decide) (by omega) ?_
  refine z_aload_n O dL_law_729 rfl ?_
  refine z_callSH (kc' := kc + 9) (ks' := ks + 60) O (c_L_isSeated hl hL0) zIA zm11_63 zm11_64 zm11_26 zm10_17 ⟨by decide +kernel, by decide +kernel, (show _ = some 3 by decide +kernel)⟩ ⟨(Nat.le_of_ble_eq_true rfl), (Nat.le_of_ble_eq_true rfl)⟩ ⟨by show kc + 1 ≤ kc + 9; omega, by show ks + 6 ≤ ks + 60; omega⟩ ⟨hkc, hks⟩ dL_law_730 rfl (Nat.le_of_ble_eq_true rfl) (fun r w1 ad1 hp => ?_)
  rcases hp with ⟨h0, rfl, rfl, rfl⟩ | ⟨h0, rfl, rfl, rfl⟩
  · refine z_istore O dL_law_733 (by decide) ?_
    refine z_aload_n O dL_law_735 rfl ?_
    refine z_arg O S 1 dL_law_736 dL_law_737 dL_law_739 dL_law_740 dL_law_741 rfl rfl (by decide) (by omega) ?_
    refine z_callV0 O (c_X8_isSeated hl hL0.cnt) zIA zm11_65 zm11_66 zm11_67 zm7_16 zm8_31 ⟨rfl, by decide +kernel, by decide +kernel, (show _ = some 1 by decide +kernel)⟩ rfl zg_model ⟨(Nat.le_of_ble_eq_true rfl), (Nat.le_of_ble_eq_true rfl)⟩ ⟨rfl, rfl⟩ ⟨hkc, hks⟩ dL_law_742 rfl (Nat.le_of_ble_eq_true rfl) (fun r w2 ad2 hq => ?_)
    rcases hq with ⟨h1, rfl, rfl, rfl⟩ | ⟨h1, -⟩
    · refine z_tailZ O hl hkc hks rfl (fun _ => by rw [zo_s, (mMove_h hL0 hsb (kHand_0 h0) 0).2.2.2]; cases (sb (xs (i + 1)).toNatClampNeg).isSome <;> rfl) dL_law_745 dL_law_747 dL_law_748 dL_law_751 dL_law_753 dL_law_758 dL_law_760 dL_law_763 dL_law_764 dL_law_765 dL_law_766 dL_law_768 dL_law_771 dL_law_772 dL_law_775 dL_law_776 dL_law_777 dL_law_782 (by decide) ?_
      exact kk _ _ _ _ _ _ _ _ (J.next)
    · exact absurd h0 h1
  · refine z_istore O dL_law_733 (by decide) ?_
    refine z_aload_n O dL_law_735 rfl ?_
    refine z_arg O S 1 dL_law_736 dL_law_737 dL_law_739 dL_law_740 dL_law_741 rfl rfl (by decide) (by omega) ?_
    refine z_callV0 O (c_X8_isSeated hl hL0.cnt) zIA zm11_65 zm11_66 zm11_67 zm7_16 zm8_31 ⟨rfl, by decide +kernel, by decide +kernel, (show _ = some 1 by decide +kernel)⟩ rfl zg_model ⟨(Nat.le_of_ble_eq_true rfl), (Nat.le_of_ble_eq_true rfl)⟩ ⟨rfl, rfl⟩ ⟨hkc, hks⟩ dL_law_742 rfl (Nat.le_of_ble_eq_true rfl) (fun r w2 ad2 hq => ?_)
    rcases hq with ⟨h1, -⟩ | ⟨h1, ⟨v9, rfl⟩, rfl, rfl⟩
    · exact absurd h1 h0
    · refine z_tailZ O hl hkc hks rfl (fun z => nI_k h0 kb_Hand z) dL_law_745 dL_law_747 dL_law_748 dL_law_751 dL_law_753 dL_law_758 dL_law_760 dL_law_763 dL_law_764 dL_law_765 dL_law_766 dL_law_768 dL_law_771 dL_law_772 dL_law_775 dL_law_776 dL_law_777 dL_law_782 (by decide) ?_
      exact kk _ _ _ _ _ _ _ _ J.next

set_option maxRecDepth 100000 in
set_option maxHeartbeats 4000000 in
theorem law_8 {G : zG} {l : Launch} {et : List ExceptionTableEntry} {ini : Prop} {X : zXT} {kc ks b L i n : Nat} {xs : Nat → Int32} {Z : zM} {sb : Nat → Option Nat} {mcn : Nat → Int32} {cp : Nat → Nat} {th : Int32} {o : Nat → Int64} {od : Nat → UInt64} {ad : Nat → Nat} (O : zLaw G l et ini X) (hl : l.stackTraces = false) (S : zSld G X b L xs) (J : jJ n Z sb cp) (hn : n ≤ 511) (hi : i + 6 ≤ L) (hkc : kc + 9 ≤ 603072) (hks : ks + 60 ≤ 7219306) (kk : zKK G X kc ks b i n) : zV G X 9 kc ks 785 (zB b i ad) [] (zent Z sb mcn cp G.2.2.2.1 Z th o od ad) ad := by
  have hh := J.1.1.1
  have hse := J.2.1.2.2.2
  have hL0 := (J.1.2.1 0 (by decide)).1
  have hL1 := (J.1.2.1 1 (by decide)).1
  have hL2 := (J.1.2.1 2 (by decide)).1
  have hsb := J.2.1.2.1
  have h6 := J.1.2.2.1
  have hcs : ∀ c, c < zN Z 2 → (Z 19 c).toNatClampNeg < zN Z 1 := fun c hc => (J.cues c hc).2
  have h12 := hL1.2.2.2
  refine z_aload_n O dL_law_785 rfl ?_
  refine z_arg O S 1 dL_law_786 dL_law_787 dL_law_789 dL_law_790 dL_law_791 rfl rfl (by decide) (by omega) ?_
  refine z_arg O S 2 dL_law_792 dL_law_793 dL_law_795 dL_law_796 dL_law_797 rfl rfl (by decide) (by omega) ?_
  refine z_aload_n O dL_law_798 rfl ?_
  refine z_callSH (kc' := kc + 9) (ks' := ks + 60) O (c_L_addSinger hl hL0 hL1 hL2 (fun k hk j hj => ((hse k hk).2.2 j hj).1) (fun j k hj hs => (hsb.1 j k hj hs).1) hcs (J.1.2.1 1 (by decide)).2) zIA zm11_68 zm11_69 zm11_26 zm10_21 ⟨by decide +kernel, by decide +kernel, (show _ = some 4 by decide +kernel)⟩ ⟨(Nat.le_of_ble_eq_true rfl), (Nat.le_of_ble_eq_true rfl)⟩ ⟨by show kc + 7 ≤ kc + 9; omega, by show ks + 60 ≤ ks + 60; omega⟩ ⟨hkc, hks⟩ dL_law_799 rfl (Nat.le_of_ble_eq_true rfl) (fun r w1 ad1 hp => ?_)
  rcases hp with ⟨h0, rfl, c9, a2, hc9, hn9, rfl, rfl, hads⟩ | ⟨h0, rfl, rfl, rfl⟩
  · rw [zB_ads (b := b) (i := i) hads (by omega) (by omega)]
    refine z_istore O dL_law_802 (by decide) ?_
    refine z_aload_n O dL_law_804 rfl ?_
    refine z_arg O S 1 dL_law_805 dL_law_806 dL_law_808 dL_law_809 dL_law_810 rfl rfl (by decide) (by omega) ?_
    refine z_arg O S 2 dL_law_811 dL_law_812 dL_law_814 dL_law_815 dL_law_816 rfl rfl (by decide) (by omega) ?_
    refine z_callV0 O (c_X8_addSinger hl hL1.cnt h6) zIA zm12_0 zm12_1 zm12_2 zm7_16 zm8_35 ⟨rfl, by decide +kernel, by decide +kernel, (show _ = some 2 by decide +kernel)⟩ rfl zg_model ⟨(Nat.le_of_ble_eq_true rfl), (Nat.le_of_ble_eq_true rfl)⟩ ⟨rfl, rfl⟩ ⟨hkc, hks⟩ dL_law_817 rfl (Nat.le_of_ble_eq_true rfl) (fun r w2 ad2 hq => ?_)
    rcases hq with ⟨h1, rfl, rfl, rfl⟩ | ⟨h1, -⟩
    · rw [mAddS_eq hL1.cnt (J.2.2.2.1.2 _ (Nat.le_refl _)).1 (J.2.2.2.1.2 _ (Nat.le_refl _)).2]
      refine z_tail O hl hkc hks rfl (fun _ => zo_s) dL_law_820 dL_law_822 dL_law_823 dL_law_826 dL_law_828 dL_law_833 dL_law_835 dL_law_838 dL_law_839 dL_law_840 dL_law_841 dL_law_843 dL_law_844 dL_law_845 dL_law_850 (by decide) ?_
      exact kk _ _ _ _ _ _ _ _ (J.singer hc9 hn9 h0)
    · exact absurd h0 h1
  · refine z_istore O dL_law_802 (by decide) ?_
    refine z_aload_n O dL_law_804 rfl ?_
    refine z_arg O S 1 dL_law_805 dL_law_806 dL_law_808 dL_law_809 dL_law_810 rfl rfl (by decide) (by omega) ?_
    refine z_arg O S 2 dL_law_811 dL_law_812 dL_law_814 dL_law_815 dL_law_816 rfl rfl (by decide) (by omega) ?_
    refine z_callV0 O (c_X8_addSinger hl hL1.cnt h6) zIA zm12_0 zm12_1 zm12_2 zm7_16 zm8_35 ⟨rfl, by decide +kernel, by decide +kernel, (show _ = some 2 by decide +kernel)⟩ rfl zg_model ⟨(Nat.le_of_ble_eq_true rfl), (Nat.le_of_ble_eq_true rfl)⟩ ⟨rfl, rfl⟩ ⟨hkc, hks⟩ dL_law_817 rfl (Nat.le_of_ble_eq_true rfl) (fun r w2 ad2 hq => ?_)
    rcases hq with ⟨h1, -⟩ | ⟨h1, ⟨v9, rfl⟩, rfl, rfl⟩
    · exact absurd h1 h0
    · refine z_tail O hl hkc hks rfl (fun z => nI_k h0 kb_AddSing z) dL_law_820 dL_law_822 dL_law_823 dL_law_826 dL_law_828 dL_law_833 dL_law_835 dL_law_838 dL_law_839 dL_law_840 dL_law_841 dL_law_843 dL_law_844 dL_law_845 dL_law_850 (by decide) ?_
      exact kk _ _ _ _ _ _ _ _ J.next

set_option maxRecDepth 100000 in
set_option maxHeartbeats 4000000 in
theorem law_9 {G : zG} {l : Launch} {et : List ExceptionTableEntry} {ini : Prop} {X : zXT} {kc ks b L i n : Nat} {xs : Nat → Int32} {Z : zM} {sb : Nat → Option Nat} {mcn : Nat → Int32} {cp : Nat → Nat} {th : Int32} {o : Nat → Int64} {od : Nat → UInt64} {ad : Nat → Nat} (O : zLaw G l et ini X) (hl : l.stackTraces = false) (S : zSld G X b L xs) (J : jJ n Z sb cp) (hn : n ≤ 511) (hi : i + 6 ≤ L) (hkc : kc + 9 ≤ 603072) (hks : ks + 60 ≤ 7219306) (kk : zKK G X kc ks b i n) : zV G X 9 kc ks 853 (zB b i ad) [] (zent Z sb mcn cp G.2.2.2.1 Z th o od ad) ad := by
  have hh := J.1.1.1
  have hse := J.2.1.2.2.2
  have hL0 := (J.1.2.1 0 (by decide)).1
  have hL1 := (J.1.2.1 1 (by decide)).1
  have hL2 := (J.1.2.1 2 (by decide)).1
  have hsb := J.2.1.2.1
  have h6 := J.1.2.2.1
  have hcs : ∀ c, c < zN Z 2 → (Z 19 c).toNatClampNeg < zN Z 1 := fun c hc => (J.cues c hc).2
  have h12 := hL2.2.2.2
  refine z_aload_n O dL_law_853 rfl ?_
  refine z_arg O S 1 dL_law_854 dL_law_855 dL_law_857 dL_law_858 dL_law_859 rfl rfl (by decide) (by omega) ?_
  refine z_arg O S 2 dL_law_860 dL_law_861 dL_law_863 dL_law_864 dL_law_865 rfl rfl (by decide) (by omega) ?_
  refine z_i2c O dL_law_866 rfl ?_
  refine z_arg O S 3 dL_law_867 dL_law_868 dL_law_870 dL_law_871 dL_law_872 rfl rfl (by decide) (by omega) ?_
  refine z_arg O S 4 dL_law_873 dL_law_874 dL_law_876 dL_law_877 dL_law_878 rfl rfl (by decide) (by omega) ?_
  refine z_arg O S 5 dL_law_879 dL_law_880 dL_law_882 dL_law_883 dL_law_884 rfl rfl (by decide) (by omega) ?_
  refine z_aload_n O dL_law_885 rfl ?_
  refine z_callSH (kc' := kc + 9) (ks' := ks + 60) O (c_L_addCue hl hL0 hL1 hL2 (fun k hk j hj => ((hse k hk).2.2 j hj).1) (fun j k hj hs => (hsb.1 j k hj hs).1) hcs (J.1.2.1 2 (by decide)).2 (zChr_i2c _)) zIA zm12_3 zm12_4 zm11_26 zm10_25 ⟨by decide +kernel, by decide +kernel, (show _ = some 7 by decide +kernel)⟩ ⟨(Nat.le_of_ble_eq_true rfl), (Nat.le_of_ble_eq_true rfl)⟩ ⟨by show kc + 9 ≤ kc + 9; omega, by show ks + 60 ≤ ks + 60; omega⟩ ⟨hkc, hks⟩ dL_law_886 rfl (Nat.le_of_ble_eq_true rfl) (fun r w1 ad1 hp => ?_)
  rcases hp with ⟨h0, rfl, c9, a2, hc9, hn9, rfl, rfl, hads⟩ | ⟨h0, rfl, rfl, rfl⟩
  · rw [zB_ads (b := b) (i := i) hads (by omega) (by omega)]
    refine z_istore O dL_law_889 (by decide) ?_
    refine z_aload_n O dL_law_891 rfl ?_
    refine z_arg O S 1 dL_law_892 dL_law_893 dL_law_895 dL_law_896 dL_law_897 rfl rfl (by decide) (by omega) ?_
    refine z_arg O S 2 dL_law_898 dL_law_899 dL_law_901 dL_law_902 dL_law_903 rfl rfl (by decide) (by omega) ?_
    refine z_i2c O dL_law_904 rfl ?_
    refine z_arg O S 3 dL_law_905 dL_law_906 dL_law_908 dL_law_909 dL_law_910 rfl rfl (by decide) (by omega) ?_
    refine z_arg O S 4 dL_law_911 dL_law_912 dL_law_914 dL_law_915 dL_law_916 rfl rfl (by decide) (by omega) ?_
    refine z_arg O S 5 dL_law_917 dL_law_918 dL_law_920 dL_law_921 dL_law_922 rfl rfl (by decide) (by omega) ?_
    refine z_callV0 O (c_X8_addCue hl hL1.cnt hL2.cnt (zChr_i2c _)) zIA zm12_5 zm12_6 zm12_7 zm7_16 zm8_39 ⟨rfl, by decide +kernel, by decide +kernel, (show _ = some 5 by decide +kernel)⟩ rfl zg_model ⟨(Nat.le_of_ble_eq_true rfl), (Nat.le_of_ble_eq_true rfl)⟩ ⟨rfl, rfl⟩ ⟨hkc, hks⟩ dL_law_923 rfl (Nat.le_of_ble_eq_true rfl) (fun r w2 ad2 hq => ?_)
    rcases hq with ⟨h1, rfl, rfl, rfl⟩ | ⟨h1, -⟩
    · rw [mAddC_eq hL2.cnt]
      refine z_tail O hl hkc hks rfl (fun _ => zo_s) dL_law_926 dL_law_928 dL_law_929 dL_law_932 dL_law_934 dL_law_939 dL_law_941 dL_law_944 dL_law_945 dL_law_946 dL_law_947 dL_law_949 dL_law_950 dL_law_951 dL_law_956 (by decide) ?_
      exact kk _ _ _ _ _ _ _ _ (J.cue hc9 hn9 h0)
    · exact absurd h0 h1
  · refine z_istore O dL_law_889 (by decide) ?_
    refine z_aload_n O dL_law_891 rfl ?_
    refine z_arg O S 1 dL_law_892 dL_law_893 dL_law_895 dL_law_896 dL_law_897 rfl rfl (by decide) (by omega) ?_
    refine z_arg O S 2 dL_law_898 dL_law_899 dL_law_901 dL_law_902 dL_law_903 rfl rfl (by decide) (by omega) ?_
    refine z_i2c O dL_law_904 rfl ?_
    refine z_arg O S 3 dL_law_905 dL_law_906 dL_law_908 dL_law_909 dL_law_910 rfl rfl (by decide) (by omega) ?_
    refine z_arg O S 4 dL_law_911 dL_law_912 dL_law_914 dL_law_915 dL_law_916 rfl rfl (by decide) (by omega) ?_
    refine z_arg O S 5 dL_law_917 dL_law_918 dL_law_920 dL_law_921 dL_law_922 rfl rfl (by decide) (by omega) ?_
    refine z_callV0 O (c_X8_addCue hl hL1.cnt hL2.cnt (zChr_i2c _)) zIA zm12_5 zm12_6 zm12_7 zm7_16 zm8_39 ⟨rfl, by decide +kernel, by decide +kernel, (show _ = some 5 by decide +kernel)⟩ rfl zg_model ⟨(Nat.le_of_ble_eq_true rfl), (Nat.le_of_ble_eq_true rfl)⟩ ⟨rfl, rfl⟩ ⟨hkc, hks⟩ dL_law_923 rfl (Nat.le_of_ble_eq_true rfl) (fun r w2 ad2 hq => ?_)
    rcases hq with ⟨h1, -⟩ | ⟨h1, ⟨v9, rfl⟩, rfl, rfl⟩
    · exact absurd h1 h0
    · refine z_tail O hl hkc hks rfl (fun z => nI_k h0 kb_AddCue z) dL_law_926 dL_law_928 dL_law_929 dL_law_932 dL_law_934 dL_law_939 dL_law_941 dL_law_944 dL_law_945 dL_law_946 dL_law_947 dL_law_949 dL_law_950 dL_law_951 dL_law_956 (by decide) ?_
      exact kk _ _ _ _ _ _ _ _ J.next

set_option maxRecDepth 100000 in
set_option maxHeartbeats 4000000 in
theorem law_10 {G : zG} {l : Launch} {et : List ExceptionTableEntry} {ini : Prop} {X : zXT} {kc ks b L i n : Nat} {xs : Nat → Int32} {Z : zM} {sb : Nat → Option Nat} {mcn : Nat → Int32} {cp : Nat → Nat} {th : Int32} {o : Nat → Int64} {od : Nat → UInt64} {ad : Nat → Nat} (O : zLaw G l et ini X) (hl : l.stackTraces = false) (S : zSld G X b L xs) (J : jJ n Z sb cp) (hn : n ≤ 511) (hi : i + 6 ≤ L) (hkc : kc + 9 ≤ 603072) (hks : ks + 60 ≤ 7219306) (kk : zKK G X kc ks b i n) : zV G X 9 kc ks 959 (zB b i ad) [] (zent Z sb mcn cp G.2.2.2.1 Z th o od ad) ad := by
  have hh := J.1.1.1
  have hse := J.2.1.2.2.2
  have hL0 := (J.1.2.1 0 (by decide)).1
  have hL1 := (J.1.2.1 1 (by decide)).1
  have hL2 := (J.1.2.1 2 (by decide)).1
  have hsb := J.2.1.2.1
  have h6 := J.1.2.2.1
  have hcs : ∀ c, c < zN Z 2 → (Z 19 c).toNatClampNeg < zN Z 1 := fun c hc => (J.cues c hc).2
  refine z_aload_n O dL_law_959 rfl ?_
  refine z_arg O S 1 dL_law_960 dL_law_961 dL_law_963 dL_law_964 dL_law_965 rfl rfl (by decide) (by omega) ?_
  refine z_aload_n O dL_law_966 rfl ?_
  refine z_callSH (kc' := kc + 9) (ks' := ks + 60) O (c_L_setLevel hl) zIA zm12_8 zm12_9 zm11_26 zm10_26 ⟨by decide +kernel, by decide +kernel, (show _ = some 3 by decide +kernel)⟩ ⟨(Nat.le_of_ble_eq_true rfl), (Nat.le_of_ble_eq_true rfl)⟩ ⟨by show kc + 1 ≤ kc + 9; omega, by show ks + 6 ≤ ks + 60; omega⟩ ⟨hkc, hks⟩ dL_law_967 rfl (Nat.le_of_ble_eq_true rfl) (fun r w1 ad1 hp => ?_)
  rcases hp with ⟨h0, rfl, rfl, rfl⟩ | ⟨h0, rfl, rfl, rfl⟩
  · refine z_istore O dL_law_970 (by decide) ?_
    refine z_aload_n O dL_law_972 rfl ?_
    refine z_arg O S 1 dL_law_973 dL_law_974 dL_law_976 dL_law_977 dL_law_978 rfl rfl (by decide) (by omega) ?_
    refine z_callV0 O (c_X8_setLevel hl) zIA zm12_10 zm12_11 zm12_12 zm7_16 zm8_40 ⟨rfl, by decide +kernel, by decide +kernel, (show _ = some 1 by decide +kernel)⟩ rfl zg_model ⟨(Nat.le_of_ble_eq_true rfl), (Nat.le_of_ble_eq_true rfl)⟩ ⟨rfl, rfl⟩ ⟨hkc, hks⟩ dL_law_979 rfl (Nat.le_of_ble_eq_true rfl) (fun r w2 ad2 hq => ?_)
    rcases hq with ⟨h1, rfl, rfl, rfl⟩ | ⟨h1, -⟩
    · refine z_tail O hl hkc hks rfl (fun _ => zo_s) dL_law_982 dL_law_984 dL_law_985 dL_law_988 dL_law_990 dL_law_995 dL_law_997 dL_law_1000 dL_law_1001 dL_law_1002 dL_law_1003 dL_law_1005 dL_law_1006 dL_law_1007 dL_law_1012 (by decide) ?_
      exact kk _ _ _ _ _ _ _ _ (J.level _)
    · exact absurd h0 h1
  · refine z_istore O dL_law_970 (by decide) ?_
    refine z_aload_n O dL_law_972 rfl ?_
    refine z_arg O S 1 dL_law_973 dL_law_974 dL_law_976 dL_law_977 dL_law_978 rfl rfl (by decide) (by omega) ?_
    refine z_callV0 O (c_X8_setLevel hl) zIA zm12_10 zm12_11 zm12_12 zm7_16 zm8_40 ⟨rfl, by decide +kernel, by decide +kernel, (show _ = some 1 by decide +kernel)⟩ rfl zg_model ⟨(Nat.le_of_ble_eq_true rfl), (Nat.le_of_ble_eq_true rfl)⟩ ⟨rfl, rfl⟩ ⟨hkc, hks⟩ dL_law_979 rfl (Nat.le_of_ble_eq_true rfl) (fun r w2 ad2 hq => ?_)
    rcases hq with ⟨h1, -⟩ | ⟨h1, ⟨v9, rfl⟩, rfl, rfl⟩
    · exact absurd h1 h0
    · refine z_tail O hl hkc hks rfl (fun z => nI_k h0 kb_Level z) dL_law_982 dL_law_984 dL_law_985 dL_law_988 dL_law_990 dL_law_995 dL_law_997 dL_law_1000 dL_law_1001 dL_law_1002 dL_law_1003 dL_law_1005 dL_law_1006 dL_law_1007 dL_law_1012 (by decide) ?_
      exact kk _ _ _ _ _ _ _ _ J.next

set_option maxRecDepth 100000 in
set_option maxHeartbeats 4000000 in
theorem law_11 {G : zG} {l : Launch} {et : List ExceptionTableEntry} {ini : Prop} {X : zXT} {kc ks b L i n : Nat} {xs : Nat → Int32} {Z : zM} {sb : Nat → Option Nat} {mcn : Nat → Int32} {cp : Nat → Nat} {th : Int32} {o : Nat → Int64} {od : Nat → UInt64} {ad : Nat → Nat} (O : zLaw G l et ini X) (hl : l.stackTraces = false) (S : zSld G X b L xs) (J : jJ n Z sb cp) (hn : n ≤ 511) (hi : i + 6 ≤ L) (hkc : kc + 9 ≤ 603072) (hks : ks + 60 ≤ 7219306) (kk : zKK G X kc ks b i n) : zV G X 9 kc ks 1015 (zB b i ad) [] (zent Z sb mcn cp G.2.2.2.1 Z th o od ad) ad := by
  have hh := J.1.1.1
  have hse := J.2.1.2.2.2
  have hL0 := (J.1.2.1 0 (by decide)).1
  have hL1 := (J.1.2.1 1 (by decide)).1
  have hL2 := (J.1.2.1 2 (by decide)).1
  have hsb := J.2.1.2.1
  have h6 := J.1.2.2.1
  have hcs : ∀ c, c < zN Z 2 → (Z 19 c).toNatClampNeg < zN Z 1 := fun c hc => (J.cues c hc).2
  refine z_aload_n O dL_law_1015 rfl ?_
  refine z_arg O S 1 dL_law_1016 dL_law_1017 dL_law_1019 dL_law_1020 dL_law_1021 rfl rfl (by decide) (by omega) ?_
  refine z_aload_n O dL_law_1022 rfl ?_
  refine z_callSH (kc' := kc + 9) (ks' := ks + 60) O (c_L_run hl J.inv J.2.1.1.2) zIA zm12_13 zm12_14 zm11_26 zm10_33 ⟨by decide +kernel, by decide +kernel, (show _ = some 3 by decide +kernel)⟩ ⟨(Nat.le_of_ble_eq_true rfl), (Nat.le_of_ble_eq_true rfl)⟩ ⟨by show kc + 2 ≤ kc + 9; omega, by show ks + 12 ≤ ks + 60; omega⟩ ⟨hkc, hks⟩ dL_law_1023 rfl (Nat.le_of_ble_eq_true rfl) (fun r w1 ad1 hp => ?_)
  rcases hp with ⟨h0, rfl, rfl, rfl⟩ | ⟨h0, rfl, rfl, rfl⟩
  · refine z_istore O dL_law_1026 (by decide) ?_
    refine z_aload_n O dL_law_1028 rfl ?_
    refine z_arg O S 1 dL_law_1029 dL_law_1030 dL_law_1032 dL_law_1033 dL_law_1034 rfl rfl (by decide) (by omega) ?_
    refine z_callV0 O (c_X8_run hl J.ok) zIA zm12_15 zm12_16 zm12_17 zm7_16 zm9_3 ⟨rfl, by decide +kernel, by decide +kernel, (show _ = some 1 by decide +kernel)⟩ rfl zg_model ⟨(Nat.le_of_ble_eq_true rfl), (Nat.le_of_ble_eq_true rfl)⟩ ⟨rfl, rfl⟩ ⟨hkc, hks⟩ dL_law_1035 rfl (Nat.le_of_ble_eq_true rfl) (fun r w2 ad2 hq => ?_)
    rcases hq with ⟨h1, rfl, rfl, rfl⟩ | ⟨h1, -⟩
    · rw [J.mrun]
      refine z_tail O hl hkc hks rfl (fun _ => zo_s) dL_law_1038 dL_law_1040 dL_law_1041 dL_law_1044 dL_law_1046 dL_law_1051 dL_law_1053 dL_law_1056 dL_law_1057 dL_law_1058 dL_law_1059 dL_law_1061 dL_law_1062 dL_law_1063 dL_law_1068 (by decide) ?_
      exact kk _ _ _ _ _ _ _ _ (J.run (kRun_0 h0))
    · exact absurd h0 h1
  · refine z_istore O dL_law_1026 (by decide) ?_
    refine z_aload_n O dL_law_1028 rfl ?_
    refine z_arg O S 1 dL_law_1029 dL_law_1030 dL_law_1032 dL_law_1033 dL_law_1034 rfl rfl (by decide) (by omega) ?_
    refine z_callV0 O (c_X8_run hl J.ok) zIA zm12_15 zm12_16 zm12_17 zm7_16 zm9_3 ⟨rfl, by decide +kernel, by decide +kernel, (show _ = some 1 by decide +kernel)⟩ rfl zg_model ⟨(Nat.le_of_ble_eq_true rfl), (Nat.le_of_ble_eq_true rfl)⟩ ⟨rfl, rfl⟩ ⟨hkc, hks⟩ dL_law_1035 rfl (Nat.le_of_ble_eq_true rfl) (fun r w2 ad2 hq => ?_)
    rcases hq with ⟨h1, -⟩ | ⟨h1, ⟨v9, rfl⟩, rfl, rfl⟩
    · exact absurd h1 h0
    · refine z_tail O hl hkc hks rfl (fun z => nI_k h0 kb_Run z) dL_law_1038 dL_law_1040 dL_law_1041 dL_law_1044 dL_law_1046 dL_law_1051 dL_law_1053 dL_law_1056 dL_law_1057 dL_law_1058 dL_law_1059 dL_law_1061 dL_law_1062 dL_law_1063 dL_law_1068 (by decide) ?_
      exact kk _ _ _ _ _ _ _ _ J.next
