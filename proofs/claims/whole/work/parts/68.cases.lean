theorem cvB_0 {v : Int32} (h : v = 0) : cvB v = 0 := if_pos h
theorem cvB_1 {v : Int32} (h : ¬ v = 0) : cvB v = 1 := if_neg h
section CASES
variable {p : Program} {l : Launch} {e : Env} {s : State} {m : MethodId} {args : Array Value} {below : List Frame} {meth : Method} {c : Code} {cells slots : Nat} {Q : State → Prop}
variable {g : jG} {nm : String} {kw : Nat → Nat} {z : Option Nat} {sk : jS} {t : jT} {G : GS} {b L i K w9 : Nat} {xs : Nat → Int32} {sa : Nat → Nat}
theorem law_0 (X : jX p l s m args meth c (mLaw nm) g none) (hst : l.stackTraces = false) (hK9 : oKw g K kw sa w9) (hX : va_X b L xs (j0 g) (j0 g).heap) (hb : b < jb g) (hi : i + 5 ≤ L) (hL : L ≤ 2560) (hc : cells + 3 ≤ 603072) (hs : slots + 18 ≤ 7219306) (I : LI g kw sk t G) (k : ∀ z2 sk2 t2 G2, LI g kw sk2 t2 G2 → J p l e room_1 s m args below meth c Q 9 g (cells + 3) (slots + 18) z2 sk2 t2 3209 [some (.ref b), some (.ref (jb g + 0)), some (.ref (jb g + 454)), some (.ref (jb g + 462)), some (.ref (jb g + 463)), some (.int (nI i)), none, none, none] []) : J p l e room_1 s m args below meth c Q 9 g cells slots z sk t 272 [some (.ref b), some (.ref (jb g + 0)), some (.ref (jb g + 454)), some (.ref (jb g + 462)), some (.ref (jb g + 463)), some (.int (nI i)), none, none, none] [] := by
  have hok := X.ok
  obtain ⟨hP, hM, ⟨a1, hO⟩, ⟨a2, hD⟩, hG, ⟨n0, hR⟩, hK⟩ := id I
  refine j_aload_n X (i := 1) dL_law_272 rfl rfl ?_
  refine j_aload_n X (i := 0) dL_law_273 rfl rfl ?_
  refine j_iload X (i := 5) dL_law_274 rfl ?_
  refine j_iconst X (v := (nI 1)) dL_law_276 (by decide) ?_
  refine j_iadd X dL_law_277 ?_
  refine j_sld X hX hb (nI_add _ _) (by omega) (by omega) dL_law_278 ?_
  refine j_aload_n X (i := 3) dL_law_279 rfl rfl ?_
  refine j_callSW_p X (w_addPlate hok hst hP hG hK hO (xs (i + 1))) iw_addPlate tw_2_180 tw_2_181 dL_law_280 (fun v2 z2 sk2 t2 hp => ?_) (by show _ ≤ 603072; omega) (by show _ ≤ 7219306; omega)
  obtain ⟨rfl, hP2, hM2, ⟨a3, hO2, ha⟩, ⟨a4, hD2⟩, hG2, n1, hR2⟩ := LI.wrap I hp
  obtain ⟨M0, -⟩ := id hM2
  refine j_istore X (i := 6) dL_law_283 (by decide) rfl ?_
  refine j_aload_n X (i := 2) dL_law_285 rfl rfl ?_
  refine j_aload_n X (i := 0) dL_law_286 rfl rfl ?_
  refine j_iload X (i := 5) dL_law_287 rfl ?_
  refine j_iconst X (v := (nI 1)) dL_law_289 (by decide) ?_
  refine j_iadd X dL_law_290 ?_
  refine j_sld X hX hb (nI_add _ _) (by omega) (by omega) dL_law_291 ?_
  refine j_callV_p X (m_addPlate hok hst hM2 hR2 hK (xs (i + 1))) i_X10_addPlate tw_6_128 tw_6_129 tw_6_130 M0 rfl dL_law_292 (fun v3 z3 sk3 t3 hq => ?_) (hmc := by show _ ≤ 603072; omega) (hms := by show _ ≤ 7219306; omega)
  obtain ⟨rfl, rfl, rfl, h7, hR3, hf3⟩ := hq
  refine j_istore X (i := 7) dL_law_295 (by decide) rfl ?_
  refine j_aload_n X (i := 2) dL_law_297 rfl rfl ?_
  refine j_callV X (m_thrown hok hst hM2) i_X10_thrown tw_6_124 tw_6_125 tw_6_126 M0 rfl dL_law_298 ?_ (hmc := by show _ ≤ 603072; omega) (hms := by show _ ≤ 7219306; omega)
  rw [h7]
  refine j_iload X (i := 6) dL_law_301 rfl ?_
  refine j_icmp_eq X (tgt := 308) dL_law_303 (by decide) (fun _ => ?_) (fun q9 => absurd rfl q9)
  refine j_iload X (i := 6) dL_law_308 rfl ?_
  refine j_if_ne X (tgt := 325) dL_law_310 (by decide) (fun h9 => ?_) (fun h9 => ?_)
  · refine j_goto X (tgt := 3209) dL_law_325 (by decide) ?_
    exact j_drop 6 (j_drop 7 (k _ _ _ _ ⟨hP2, hM2, ⟨_, hO2⟩, ⟨_, hD2⟩, hG2.low fun c9 hc9 => hf3 c9 (by omega), ⟨_, hR3⟩, k_addPlate hK (xs (i + 1))⟩))
  · have ha := ha h9
    refine j_aload_n X (i := 3) dL_law_313 rfl rfl ?_
    refine j_iconst X (v := (nI 0)) dL_law_314 (by decide) ?_
    refine j_laload X hO2 rfl ⟨by decide, by decide⟩ dL_law_315 ?_
    refine j_iload X (i := 7) dL_law_316 rfl ?_
    refine j_i2l X dL_law_318 rfl ?_
    rw [ha]
    refine j_lcmp X dL_law_319 ?_
    rw [lg_cmp_0]
    refine j_if_eq X (tgt := 325) dL_law_320 (by decide) (fun _ => ?_) (fun q9 => absurd rfl q9)
    refine j_goto X (tgt := 3209) dL_law_325 (by decide) ?_
    exact j_drop 6 (j_drop 7 (k _ _ _ _ ⟨hP2, hM2, ⟨_, hO2⟩, ⟨_, hD2⟩, hG2.low fun c9 hc9 => hf3 c9 (by omega), ⟨_, hR3⟩, k_addPlate hK (xs (i + 1))⟩))
theorem law_1 (X : jX p l s m args meth c (mLaw nm) g none) (hst : l.stackTraces = false) (hK9 : oKw g K kw sa w9) (hX : va_X b L xs (j0 g) (j0 g).heap) (hb : b < jb g) (hi : i + 5 ≤ L) (hL : L ≤ 2560) (hc : cells + 3 ≤ 603072) (hs : slots + 18 ≤ 7219306) (I : LI g kw sk t G) (k : ∀ z2 sk2 t2 G2, LI g kw sk2 t2 G2 → J p l e room_1 s m args below meth c Q 9 g (cells + 3) (slots + 18) z2 sk2 t2 3209 [some (.ref b), some (.ref (jb g + 0)), some (.ref (jb g + 454)), some (.ref (jb g + 462)), some (.ref (jb g + 463)), some (.int (nI i)), none, none, none] []) : J p l e room_1 s m args below meth c Q 9 g cells slots z sk t 328 [some (.ref b), some (.ref (jb g + 0)), some (.ref (jb g + 454)), some (.ref (jb g + 462)), some (.ref (jb g + 463)), some (.int (nI i)), none, none, none] [] := by
  have hok := X.ok
  obtain ⟨hP, hM, ⟨a1, hO⟩, ⟨a2, hD⟩, hG, ⟨n0, hR⟩, hK⟩ := id I
  refine j_aload_n X (i := 1) dL_law_328 rfl rfl ?_
  refine j_aload_n X (i := 0) dL_law_329 rfl rfl ?_
  refine j_iload X (i := 5) dL_law_330 rfl ?_
  refine j_iconst X (v := (nI 1)) dL_law_332 (by decide) ?_
  refine j_iadd X dL_law_333 ?_
  refine j_sld X hX hb (nI_add _ _) (by omega) (by omega) dL_law_334 ?_
  refine j_aload_n X (i := 0) dL_law_335 rfl rfl ?_
  refine j_iload X (i := 5) dL_law_336 rfl ?_
  refine j_iconst X (v := (nI 2)) dL_law_338 (by decide) ?_
  refine j_iadd X dL_law_339 ?_
  refine j_sld X hX hb (nI_add _ _) (by omega) (by omega) dL_law_340 ?_
  refine j_aload_n X (i := 0) dL_law_341 rfl rfl ?_
  refine j_iload X (i := 5) dL_law_342 rfl ?_
  refine j_iconst X (v := (nI 3)) dL_law_344 (by decide) ?_
  refine j_iadd X dL_law_345 ?_
  refine j_sld X hX hb (nI_add _ _) (by omega) (by omega) dL_law_346 ?_
  refine j_aload_n X (i := 3) dL_law_347 rfl rfl ?_
  refine j_callSW_p X (w_addStar hok hst hP hG hK hO (xs (i + 1)) (xs (i + 2)) (xs (i + 3))) iw_addStar tw_3_112 tw_3_113 dL_law_348 (fun v2 z2 sk2 t2 hp => ?_) (by show _ ≤ 603072; omega) (by show _ ≤ 7219306; omega)
  obtain ⟨rfl, hP2, hM2, ⟨a3, hO2, ha⟩, ⟨a4, hD2⟩, hG2, n1, hR2⟩ := LI.wrap I hp
  obtain ⟨M0, -⟩ := id hM2
  refine j_istore X (i := 6) dL_law_351 (by decide) rfl ?_
  refine j_aload_n X (i := 2) dL_law_353 rfl rfl ?_
  refine j_aload_n X (i := 0) dL_law_354 rfl rfl ?_
  refine j_iload X (i := 5) dL_law_355 rfl ?_
  refine j_iconst X (v := (nI 1)) dL_law_357 (by decide) ?_
  refine j_iadd X dL_law_358 ?_
  refine j_sld X hX hb (nI_add _ _) (by omega) (by omega) dL_law_359 ?_
  refine j_aload_n X (i := 0) dL_law_360 rfl rfl ?_
  refine j_iload X (i := 5) dL_law_361 rfl ?_
  refine j_iconst X (v := (nI 2)) dL_law_363 (by decide) ?_
  refine j_iadd X dL_law_364 ?_
  refine j_sld X hX hb (nI_add _ _) (by omega) (by omega) dL_law_365 ?_
  refine j_aload_n X (i := 0) dL_law_366 rfl rfl ?_
  refine j_iload X (i := 5) dL_law_367 rfl ?_
  refine j_iconst X (v := (nI 3)) dL_law_369 (by decide) ?_
  refine j_iadd X dL_law_370 ?_
  refine j_sld X hX hb (nI_add _ _) (by omega) (by omega) dL_law_371 ?_
  refine j_callV_p X (m_addStar hok hst hM2 hR2 hK (xs (i + 1)) (xs (i + 2)) (xs (i + 3))) i_X10_addStar tw_6_146 tw_6_147 tw_6_148 M0 rfl dL_law_372 (fun v3 z3 sk3 t3 hq => ?_) (hmc := by show _ ≤ 603072; omega) (hms := by show _ ≤ 7219306; omega)
  obtain ⟨rfl, rfl, rfl, h7, hR3, hf3⟩ := hq
  refine j_istore X (i := 7) dL_law_375 (by decide) rfl ?_
  refine j_aload_n X (i := 2) dL_law_377 rfl rfl ?_
  refine j_callV X (m_thrown hok hst hM2) i_X10_thrown tw_6_124 tw_6_125 tw_6_126 M0 rfl dL_law_378 ?_ (hmc := by show _ ≤ 603072; omega) (hms := by show _ ≤ 7219306; omega)
  rw [h7]
  refine j_iload X (i := 6) dL_law_381 rfl ?_
  refine j_icmp_eq X (tgt := 388) dL_law_383 (by decide) (fun _ => ?_) (fun q9 => absurd rfl q9)
  refine j_iload X (i := 6) dL_law_388 rfl ?_
  refine j_if_ne X (tgt := 405) dL_law_390 (by decide) (fun h9 => ?_) (fun h9 => ?_)
  · refine j_goto X (tgt := 3209) dL_law_405 (by decide) ?_
    exact j_drop 6 (j_drop 7 (k _ _ _ _ ⟨hP2, hM2, ⟨_, hO2⟩, ⟨_, hD2⟩, hG2.low fun c9 hc9 => hf3 c9 (by omega), ⟨_, hR3⟩, k_addStar hK (xs (i + 1)) (xs (i + 2)) (xs (i + 3))⟩))
  · have ha := ha h9
    refine j_aload_n X (i := 3) dL_law_393 rfl rfl ?_
    refine j_iconst X (v := (nI 0)) dL_law_394 (by decide) ?_
    refine j_laload X hO2 rfl ⟨by decide, by decide⟩ dL_law_395 ?_
    refine j_iload X (i := 7) dL_law_396 rfl ?_
    refine j_i2l X dL_law_398 rfl ?_
    rw [ha]
    refine j_lcmp X dL_law_399 ?_
    rw [lg_cmp_0]
    refine j_if_eq X (tgt := 405) dL_law_400 (by decide) (fun _ => ?_) (fun q9 => absurd rfl q9)
    refine j_goto X (tgt := 3209) dL_law_405 (by decide) ?_
    exact j_drop 6 (j_drop 7 (k _ _ _ _ ⟨hP2, hM2, ⟨_, hO2⟩, ⟨_, hD2⟩, hG2.low fun c9 hc9 => hf3 c9 (by omega), ⟨_, hR3⟩, k_addStar hK (xs (i + 1)) (xs (i + 2)) (xs (i + 3))⟩))
theorem law_2 (X : jX p l s m args meth c (mLaw nm) g none) (hst : l.stackTraces = false) (hK9 : oKw g K kw sa w9) (hX : va_X b L xs (j0 g) (j0 g).heap) (hb : b < jb g) (hi : i + 5 ≤ L) (hL : L ≤ 2560) (hc : cells + 3 ≤ 603072) (hs : slots + 18 ≤ 7219306) (I : LI g kw sk t G) (k : ∀ z2 sk2 t2 G2, LI g kw sk2 t2 G2 → J p l e room_1 s m args below meth c Q 9 g (cells + 3) (slots + 18) z2 sk2 t2 3209 [some (.ref b), some (.ref (jb g + 0)), some (.ref (jb g + 454)), some (.ref (jb g + 462)), some (.ref (jb g + 463)), some (.int (nI i)), none, none, none] []) : J p l e room_1 s m args below meth c Q 9 g cells slots z sk t 408 [some (.ref b), some (.ref (jb g + 0)), some (.ref (jb g + 454)), some (.ref (jb g + 462)), some (.ref (jb g + 463)), some (.int (nI i)), none, none, none] [] := by
  have hok := X.ok
  obtain ⟨hP, hM, ⟨a1, hO⟩, ⟨a2, hD⟩, hG, ⟨n0, hR⟩, hK⟩ := id I
  refine j_aload_n X (i := 1) dL_law_408 rfl rfl ?_
  refine j_aload_n X (i := 0) dL_law_409 rfl rfl ?_
  refine j_iload X (i := 5) dL_law_410 rfl ?_
  refine j_iconst X (v := (nI 1)) dL_law_412 (by decide) ?_
  refine j_iadd X dL_law_413 ?_
  refine j_sld X hX hb (nI_add _ _) (by omega) (by omega) dL_law_414 ?_
  refine j_aload_n X (i := 0) dL_law_415 rfl rfl ?_
  refine j_iload X (i := 5) dL_law_416 rfl ?_
  refine j_iconst X (v := (nI 2)) dL_law_418 (by decide) ?_
  refine j_iadd X dL_law_419 ?_
  refine j_sld X hX hb (nI_add _ _) (by omega) (by omega) dL_law_420 ?_
  refine j_aload_n X (i := 0) dL_law_421 rfl rfl ?_
  refine j_iload X (i := 5) dL_law_422 rfl ?_
  refine j_iconst X (v := (nI 3)) dL_law_424 (by decide) ?_
  refine j_iadd X dL_law_425 ?_
  refine j_sld X hX hb (nI_add _ _) (by omega) (by omega) dL_law_426 ?_
  refine j_aload_n X (i := 3) dL_law_427 rfl rfl ?_
  refine j_callSW_p X (w_removeStar hok hst hP hG hK hO (xs (i + 1)) (xs (i + 2)) (xs (i + 3))) iw_removeStar tw_3_158 tw_3_159 dL_law_428 (fun v2 z2 sk2 t2 hp => ?_) (by show _ ≤ 603072; omega) (by show _ ≤ 7219306; omega)
  obtain ⟨rfl, hP2, hM2, ⟨a3, hO2, ha⟩, ⟨a4, hD2⟩, hG2, n1, hR2⟩ := LI.wrap I hp
  obtain ⟨M0, -⟩ := id hM2
  refine j_istore X (i := 6) dL_law_431 (by decide) rfl ?_
  refine j_aload_n X (i := 2) dL_law_433 rfl rfl ?_
  refine j_aload_n X (i := 0) dL_law_434 rfl rfl ?_
  refine j_iload X (i := 5) dL_law_435 rfl ?_
  refine j_iconst X (v := (nI 1)) dL_law_437 (by decide) ?_
  refine j_iadd X dL_law_438 ?_
  refine j_sld X hX hb (nI_add _ _) (by omega) (by omega) dL_law_439 ?_
  refine j_aload_n X (i := 0) dL_law_440 rfl rfl ?_
  refine j_iload X (i := 5) dL_law_441 rfl ?_
  refine j_iconst X (v := (nI 2)) dL_law_443 (by decide) ?_
  refine j_iadd X dL_law_444 ?_
  refine j_sld X hX hb (nI_add _ _) (by omega) (by omega) dL_law_445 ?_
  refine j_aload_n X (i := 0) dL_law_446 rfl rfl ?_
  refine j_iload X (i := 5) dL_law_447 rfl ?_
  refine j_iconst X (v := (nI 3)) dL_law_449 (by decide) ?_
  refine j_iadd X dL_law_450 ?_
  refine j_sld X hX hb (nI_add _ _) (by omega) (by omega) dL_law_451 ?_
  refine j_callV_p X (m_removeStar hok hst hM2 hR2 hK (xs (i + 1)) (xs (i + 2)) (xs (i + 3))) i_X10_removeStar tw_6_179 tw_6_180 tw_6_181 M0 rfl dL_law_452 (fun v3 z3 sk3 t3 hq => ?_) (hmc := by show _ ≤ 603072; omega) (hms := by show _ ≤ 7219306; omega)
  obtain ⟨rfl, rfl, rfl, h7, hR3, hf3⟩ := hq
  refine j_istore X (i := 7) dL_law_455 (by decide) rfl ?_
  refine j_aload_n X (i := 2) dL_law_457 rfl rfl ?_
  refine j_callV X (m_thrown hok hst hM2) i_X10_thrown tw_6_124 tw_6_125 tw_6_126 M0 rfl dL_law_458 ?_ (hmc := by show _ ≤ 603072; omega) (hms := by show _ ≤ 7219306; omega)
  rw [h7]
  refine j_iload X (i := 6) dL_law_461 rfl ?_
  refine j_icmp_eq X (tgt := 468) dL_law_463 (by decide) (fun _ => ?_) (fun q9 => absurd rfl q9)
  refine j_iload X (i := 6) dL_law_468 rfl ?_
  refine j_if_ne X (tgt := 485) dL_law_470 (by decide) (fun h9 => ?_) (fun h9 => ?_)
  · refine j_goto X (tgt := 3209) dL_law_485 (by decide) ?_
    exact j_drop 6 (j_drop 7 (k _ _ _ _ ⟨hP2, hM2, ⟨_, hO2⟩, ⟨_, hD2⟩, hG2.low fun c9 hc9 => hf3 c9 (by omega), ⟨_, hR3⟩, k_removeStar hK (xs (i + 1)) (xs (i + 2)) (xs (i + 3))⟩))
  · have ha := ha h9
    refine j_aload_n X (i := 3) dL_law_473 rfl rfl ?_
    refine j_iconst X (v := (nI 0)) dL_law_474 (by decide) ?_
    refine j_laload X hO2 rfl ⟨by decide, by decide⟩ dL_law_475 ?_
    refine j_iload X (i := 7) dL_law_476 rfl ?_
    refine j_i2l X dL_law_478 rfl ?_
    rw [ha]
    refine j_lcmp X dL_law_479 ?_
    rw [lg_cmp_0]
    refine j_if_eq X (tgt := 485) dL_law_480 (by decide) (fun _ => ?_) (fun q9 => absurd rfl q9)
    refine j_goto X (tgt := 3209) dL_law_485 (by decide) ?_
    exact j_drop 6 (j_drop 7 (k _ _ _ _ ⟨hP2, hM2, ⟨_, hO2⟩, ⟨_, hD2⟩, hG2.low fun c9 hc9 => hf3 c9 (by omega), ⟨_, hR3⟩, k_removeStar hK (xs (i + 1)) (xs (i + 2)) (xs (i + 3))⟩))
theorem law_3 (X : jX p l s m args meth c (mLaw nm) g none) (hst : l.stackTraces = false) (hK9 : oKw g K kw sa w9) (hX : va_X b L xs (j0 g) (j0 g).heap) (hb : b < jb g) (hi : i + 5 ≤ L) (hL : L ≤ 2560) (hc : cells + 3 ≤ 603072) (hs : slots + 18 ≤ 7219306) (I : LI g kw sk t G) (k : ∀ z2 sk2 t2 G2, LI g kw sk2 t2 G2 → J p l e room_1 s m args below meth c Q 9 g (cells + 3) (slots + 18) z2 sk2 t2 3209 [some (.ref b), some (.ref (jb g + 0)), some (.ref (jb g + 454)), some (.ref (jb g + 462)), some (.ref (jb g + 463)), some (.int (nI i)), none, none, none] []) : J p l e room_1 s m args below meth c Q 9 g cells slots z sk t 488 [some (.ref b), some (.ref (jb g + 0)), some (.ref (jb g + 454)), some (.ref (jb g + 462)), some (.ref (jb g + 463)), some (.int (nI i)), none, none, none] [] := by
  have hok := X.ok
  obtain ⟨hP, hM, ⟨a1, hO⟩, ⟨a2, hD⟩, hG, ⟨n0, hR⟩, hK⟩ := id I
  refine j_aload_n X (i := 1) dL_law_488 rfl rfl ?_
  refine j_aload_n X (i := 0) dL_law_489 rfl rfl ?_
  refine j_iload X (i := 5) dL_law_490 rfl ?_
  refine j_iconst X (v := (nI 1)) dL_law_492 (by decide) ?_
  refine j_iadd X dL_law_493 ?_
  refine j_sld X hX hb (nI_add _ _) (by omega) (by omega) dL_law_494 ?_
  refine j_aload_n X (i := 0) dL_law_495 rfl rfl ?_
  refine j_iload X (i := 5) dL_law_496 rfl ?_
  refine j_iconst X (v := (nI 2)) dL_law_498 (by decide) ?_
  refine j_iadd X dL_law_499 ?_
  refine j_sld X hX hb (nI_add _ _) (by omega) (by omega) dL_law_500 ?_
  refine j_aload_n X (i := 0) dL_law_501 rfl rfl ?_
  refine j_iload X (i := 5) dL_law_502 rfl ?_
  refine j_iconst X (v := (nI 3)) dL_law_504 (by decide) ?_
  refine j_iadd X dL_law_505 ?_
  refine j_sld X hX hb (nI_add _ _) (by omega) (by omega) dL_law_506 ?_
  refine j_aload_n X (i := 3) dL_law_507 rfl rfl ?_
  refine j_callSW_p X (w_setShift hok hst hP hG hK hO (xs (i + 1)) (xs (i + 2)) (xs (i + 3))) iw_setShift tw_3_170 tw_3_171 dL_law_508 (fun v2 z2 sk2 t2 hp => ?_) (by show _ ≤ 603072; omega) (by show _ ≤ 7219306; omega)
  obtain ⟨rfl, hP2, hM2, ⟨a3, hO2, ha⟩, ⟨a4, hD2⟩, hG2, n1, hR2⟩ := LI.wrap I hp
  obtain ⟨M0, -⟩ := id hM2
  refine j_istore X (i := 6) dL_law_511 (by decide) rfl ?_
  refine j_aload_n X (i := 2) dL_law_513 rfl rfl ?_
  refine j_aload_n X (i := 0) dL_law_514 rfl rfl ?_
  refine j_iload X (i := 5) dL_law_515 rfl ?_
  refine j_iconst X (v := (nI 1)) dL_law_517 (by decide) ?_
  refine j_iadd X dL_law_518 ?_
  refine j_sld X hX hb (nI_add _ _) (by omega) (by omega) dL_law_519 ?_
  refine j_aload_n X (i := 0) dL_law_520 rfl rfl ?_
  refine j_iload X (i := 5) dL_law_521 rfl ?_
  refine j_iconst X (v := (nI 2)) dL_law_523 (by decide) ?_
  refine j_iadd X dL_law_524 ?_
  refine j_sld X hX hb (nI_add _ _) (by omega) (by omega) dL_law_525 ?_
  refine j_aload_n X (i := 0) dL_law_526 rfl rfl ?_
  refine j_iload X (i := 5) dL_law_527 rfl ?_
  refine j_iconst X (v := (nI 3)) dL_law_529 (by decide) ?_
  refine j_iadd X dL_law_530 ?_
  refine j_sld X hX hb (nI_add _ _) (by omega) (by omega) dL_law_531 ?_
  refine j_callV_p X (m_setShift hok hst hM2 hR2 hK (xs (i + 1)) (xs (i + 2)) (xs (i + 3))) i_X10_setShift tw_6_183 tw_6_184 tw_6_185 M0 rfl dL_law_532 (fun v3 z3 sk3 t3 hq => ?_) (hmc := by show _ ≤ 603072; omega) (hms := by show _ ≤ 7219306; omega)
  obtain ⟨rfl, rfl, rfl, h7, hR3, hf3⟩ := hq
  refine j_istore X (i := 7) dL_law_535 (by decide) rfl ?_
  refine j_aload_n X (i := 2) dL_law_537 rfl rfl ?_
  refine j_callV X (m_thrown hok hst hM2) i_X10_thrown tw_6_124 tw_6_125 tw_6_126 M0 rfl dL_law_538 ?_ (hmc := by show _ ≤ 603072; omega) (hms := by show _ ≤ 7219306; omega)
  rw [h7]
  refine j_iload X (i := 6) dL_law_541 rfl ?_
  refine j_icmp_eq X (tgt := 548) dL_law_543 (by decide) (fun _ => ?_) (fun q9 => absurd rfl q9)
  refine j_iload X (i := 6) dL_law_548 rfl ?_
  refine j_if_ne X (tgt := 565) dL_law_550 (by decide) (fun h9 => ?_) (fun h9 => ?_)
  · refine j_goto X (tgt := 3209) dL_law_565 (by decide) ?_
    exact j_drop 6 (j_drop 7 (k _ _ _ _ ⟨hP2, hM2, ⟨_, hO2⟩, ⟨_, hD2⟩, hG2.low fun c9 hc9 => hf3 c9 (by omega), ⟨_, hR3⟩, k_setShift hK (xs (i + 1)) (xs (i + 2)) (xs (i + 3))⟩))
  · have ha := ha h9
    refine j_aload_n X (i := 3) dL_law_553 rfl rfl ?_
    refine j_iconst X (v := (nI 0)) dL_law_554 (by decide) ?_
    refine j_laload X hO2 rfl ⟨by decide, by decide⟩ dL_law_555 ?_
    refine j_iload X (i := 7) dL_law_556 rfl ?_
    refine j_i2l X dL_law_558 rfl ?_
    rw [ha]
    refine j_lcmp X dL_law_559 ?_
    rw [lg_cmp_0]
    refine j_if_eq X (tgt := 565) dL_law_560 (by decide) (fun _ => ?_) (fun q9 => absurd rfl q9)
    refine j_goto X (tgt := 3209) dL_law_565 (by decide) ?_
    exact j_drop 6 (j_drop 7 (k _ _ _ _ ⟨hP2, hM2, ⟨_, hO2⟩, ⟨_, hD2⟩, hG2.low fun c9 hc9 => hf3 c9 (by omega), ⟨_, hR3⟩, k_setShift hK (xs (i + 1)) (xs (i + 2)) (xs (i + 3))⟩))
theorem law_4 (X : jX p l s m args meth c (mLaw nm) g none) (hst : l.stackTraces = false) (hK9 : oKw g K kw sa w9) (hX : va_X b L xs (j0 g) (j0 g).heap) (hb : b < jb g) (hi : i + 5 ≤ L) (hL : L ≤ 2560) (hc : cells + 3 ≤ 603072) (hs : slots + 18 ≤ 7219306) (I : LI g kw sk t G) (k : ∀ z2 sk2 t2 G2, LI g kw sk2 t2 G2 → J p l e room_1 s m args below meth c Q 9 g (cells + 3) (slots + 18) z2 sk2 t2 3209 [some (.ref b), some (.ref (jb g + 0)), some (.ref (jb g + 454)), some (.ref (jb g + 462)), some (.ref (jb g + 463)), some (.int (nI i)), none, none, none] []) : J p l e room_1 s m args below meth c Q 9 g cells slots z sk t 568 [some (.ref b), some (.ref (jb g + 0)), some (.ref (jb g + 454)), some (.ref (jb g + 462)), some (.ref (jb g + 463)), some (.int (nI i)), none, none, none] [] := by
  have hok := X.ok
  obtain ⟨hP, hM, ⟨a1, hO⟩, ⟨a2, hD⟩, hG, ⟨n0, hR⟩, hK⟩ := id I
  refine j_aload_n X (i := 1) dL_law_568 rfl rfl ?_
  refine j_aload_n X (i := 0) dL_law_569 rfl rfl ?_
  refine j_iload X (i := 5) dL_law_570 rfl ?_
  refine j_iconst X (v := (nI 1)) dL_law_572 (by decide) ?_
  refine j_iadd X dL_law_573 ?_
  refine j_sld X hX hb (nI_add _ _) (by omega) (by omega) dL_law_574 ?_
  refine j_aload_n X (i := 0) dL_law_575 rfl rfl ?_
  refine j_iload X (i := 5) dL_law_576 rfl ?_
  refine j_iconst X (v := (nI 2)) dL_law_578 (by decide) ?_
  refine j_iadd X dL_law_579 ?_
  refine j_sld X hX hb (nI_add _ _) (by omega) (by omega) dL_law_580 ?_
  refine j_aload_n X (i := 3) dL_law_581 rfl rfl ?_
  refine j_callSW_p X (w_fit hok hst hP hG hK hO (xs (i + 1)) (xs (i + 2))) iw_fit tw_3_187 tw_3_188 dL_law_582 (fun v2 z2 sk2 t2 hp => ?_) (by show _ ≤ 603072; omega) (by show _ ≤ 7219306; omega)
  obtain ⟨rfl, hP2, hM2, ⟨a3, hO2, ha⟩, ⟨a4, hD2⟩, hG2, n1, hR2⟩ := LI.wrap I hp
  obtain ⟨M0, -⟩ := id hM2
  refine j_istore X (i := 6) dL_law_585 (by decide) rfl ?_
  refine j_aload_n X (i := 2) dL_law_587 rfl rfl ?_
  refine j_aload_n X (i := 0) dL_law_588 rfl rfl ?_
  refine j_iload X (i := 5) dL_law_589 rfl ?_
  refine j_iconst X (v := (nI 1)) dL_law_591 (by decide) ?_
  refine j_iadd X dL_law_592 ?_
  refine j_sld X hX hb (nI_add _ _) (by omega) (by omega) dL_law_593 ?_
  refine j_aload_n X (i := 0) dL_law_594 rfl rfl ?_
  refine j_iload X (i := 5) dL_law_595 rfl ?_
  refine j_iconst X (v := (nI 2)) dL_law_597 (by decide) ?_
  refine j_iadd X dL_law_598 ?_
  refine j_sld X hX hb (nI_add _ _) (by omega) (by omega) dL_law_599 ?_
  refine j_callV_p X (m_fit hok hst hM2 hR2 hK (xs (i + 1)) (xs (i + 2))) i_X10_fit tw_6_202 tw_6_203 tw_6_204 M0 rfl dL_law_600 (fun v3 z3 sk3 t3 hq => ?_) (hmc := by show _ ≤ 603072; omega) (hms := by show _ ≤ 7219306; omega)
  obtain ⟨rfl, rfl, rfl, h7, hR3, hf3⟩ := hq
  refine j_istore X (i := 7) dL_law_603 (by decide) rfl ?_
  refine j_aload_n X (i := 2) dL_law_605 rfl rfl ?_
  refine j_callV X (m_thrown hok hst hM2) i_X10_thrown tw_6_124 tw_6_125 tw_6_126 M0 rfl dL_law_606 ?_ (hmc := by show _ ≤ 603072; omega) (hms := by show _ ≤ 7219306; omega)
  rw [h7]
  refine j_iload X (i := 6) dL_law_609 rfl ?_
  refine j_icmp_eq X (tgt := 616) dL_law_611 (by decide) (fun _ => ?_) (fun q9 => absurd rfl q9)
  refine j_iload X (i := 6) dL_law_616 rfl ?_
  refine j_if_ne X (tgt := 633) dL_law_618 (by decide) (fun h9 => ?_) (fun h9 => ?_)
  · refine j_goto X (tgt := 3209) dL_law_633 (by decide) ?_
    exact j_drop 6 (j_drop 7 (k _ _ _ _ ⟨hP2, hM2, ⟨_, hO2⟩, ⟨_, hD2⟩, hG2.low fun c9 hc9 => hf3 c9 (by omega), ⟨_, hR3⟩, k_fit hK (xs (i + 1)) (xs (i + 2))⟩))
  · have ha := ha h9
    refine j_aload_n X (i := 3) dL_law_621 rfl rfl ?_
    refine j_iconst X (v := (nI 0)) dL_law_622 (by decide) ?_
    refine j_laload X hO2 rfl ⟨by decide, by decide⟩ dL_law_623 ?_
    refine j_iload X (i := 7) dL_law_624 rfl ?_
    refine j_i2l X dL_law_626 rfl ?_
    rw [ha]
    refine j_lcmp X dL_law_627 ?_
    rw [lg_cmp_0]
    refine j_if_eq X (tgt := 633) dL_law_628 (by decide) (fun _ => ?_) (fun q9 => absurd rfl q9)
    refine j_goto X (tgt := 3209) dL_law_633 (by decide) ?_
    exact j_drop 6 (j_drop 7 (k _ _ _ _ ⟨hP2, hM2, ⟨_, hO2⟩, ⟨_, hD2⟩, hG2.low fun c9 hc9 => hf3 c9 (by omega), ⟨_, hR3⟩, k_fit hK (xs (i + 1)) (xs (i + 2))⟩))
theorem law_5 (X : jX p l s m args meth c (mLaw nm) g none) (hst : l.stackTraces = false) (hK9 : oKw g K kw sa w9) (hX : va_X b L xs (j0 g) (j0 g).heap) (hb : b < jb g) (hi : i + 5 ≤ L) (hL : L ≤ 2560) (hc : cells + 3 ≤ 603072) (hs : slots + 18 ≤ 7219306) (I : LI g kw sk t G) (k : ∀ z2 sk2 t2 G2, LI g kw sk2 t2 G2 → J p l e room_1 s m args below meth c Q 9 g (cells + 3) (slots + 18) z2 sk2 t2 3209 [some (.ref b), some (.ref (jb g + 0)), some (.ref (jb g + 454)), some (.ref (jb g + 462)), some (.ref (jb g + 463)), some (.int (nI i)), none, none, none] []) : J p l e room_1 s m args below meth c Q 9 g cells slots z sk t 636 [some (.ref b), some (.ref (jb g + 0)), some (.ref (jb g + 454)), some (.ref (jb g + 462)), some (.ref (jb g + 463)), some (.int (nI i)), none, none, none] [] := by
  have hok := X.ok
  obtain ⟨hP, hM, ⟨a1, hO⟩, ⟨a2, hD⟩, hG, ⟨n0, hR⟩, hK⟩ := id I
  obtain ⟨P0, -⟩ := id hP
  obtain ⟨M0, -⟩ := id hM
  refine j_aload_n X (i := 1) dL_law_636 rfl rfl ?_
  refine j_callV_p X (f_plateCount hok hst hP hG hK) i_X9_plateCount tw_2_39 tw_2_40 tw_2_41 P0 rfl dL_law_637 (fun v2 z2 sk2 t2 hp => ?_) (hmc := by show _ ≤ 603072; omega) (hms := by show _ ≤ 7219306; omega)
  obtain ⟨-, rfl, rfl, rfl, hG2, hf⟩ := hp
  have hR2 : RmG t2 454 (false, n0) G := hR.same fun c9 hc9 => hf c9 hc9
  refine j_aload_n X (i := 2) dL_law_640 rfl rfl ?_
  refine j_callV_p X (m_plateCount hok hst hM hR2 hK) i_X10_plateCount tw_6_221 tw_6_222 tw_6_223 M0 rfl dL_law_641 (fun v3 z3 sk3 t3 hq => ?_) (hmc := by show _ ≤ 603072; omega) (hms := by show _ ≤ 7219306; omega)
  obtain ⟨rfl, rfl, rfl, -, hR3, hf3⟩ := hq
  refine j_icmp_eq X (tgt := 3209) dL_law_644 (by decide) (fun _ => ?_) (fun q9 => absurd rfl q9)
  refine j_widen (k := cells + 3) (n := slots + 18) (by omega) (by omega) ?_
  exact k _ _ _ _ ⟨hP, hM, ⟨a1, hO⟩, ⟨a2, hD⟩, hG2.low fun c9 hc9 => hf3 c9 (by omega), ⟨_, hR3⟩, hK⟩
theorem law_6 (X : jX p l s m args meth c (mLaw nm) g none) (hst : l.stackTraces = false) (hK9 : oKw g K kw sa w9) (hX : va_X b L xs (j0 g) (j0 g).heap) (hb : b < jb g) (hi : i + 5 ≤ L) (hL : L ≤ 2560) (hc : cells + 3 ≤ 603072) (hs : slots + 18 ≤ 7219306) (I : LI g kw sk t G) (k : ∀ z2 sk2 t2 G2, LI g kw sk2 t2 G2 → J p l e room_1 s m args below meth c Q 9 g (cells + 3) (slots + 18) z2 sk2 t2 3209 [some (.ref b), some (.ref (jb g + 0)), some (.ref (jb g + 454)), some (.ref (jb g + 462)), some (.ref (jb g + 463)), some (.int (nI i)), none, none, none] []) : J p l e room_1 s m args below meth c Q 9 g cells slots z sk t 649 [some (.ref b), some (.ref (jb g + 0)), some (.ref (jb g + 454)), some (.ref (jb g + 462)), some (.ref (jb g + 463)), some (.int (nI i)), none, none, none] [] := by
  have hok := X.ok
  obtain ⟨hP, hM, ⟨a1, hO⟩, ⟨a2, hD⟩, hG, ⟨n0, hR⟩, hK⟩ := id I
  refine j_aload_n X (i := 1) dL_law_649 rfl rfl ?_
  refine j_aload_n X (i := 0) dL_law_650 rfl rfl ?_
  refine j_iload X (i := 5) dL_law_651 rfl ?_
  refine j_iconst X (v := (nI 1)) dL_law_653 (by decide) ?_
  refine j_iadd X dL_law_654 ?_
  refine j_sld X hX hb (nI_add _ _) (by omega) (by omega) dL_law_655 ?_
  refine j_aload_n X (i := 3) dL_law_656 rfl rfl ?_
  refine j_callSW_p X (w_inkOf hok hst hP hG hK hO (xs (i + 1))) iw_inkOf tw_3_199 tw_3_200 dL_law_657 (fun v2 z2 sk2 t2 hp => ?_) (by show _ ≤ 603072; omega) (by show _ ≤ 7219306; omega)
  obtain ⟨rfl, hP2, hM2, ⟨a3, hO2, ha⟩, ⟨a4, hD2⟩, hG2, n1, hR2⟩ := LI.wrap I hp
  obtain ⟨M0, -⟩ := id hM2
  refine j_istore X (i := 6) dL_law_660 (by decide) rfl ?_
  refine j_aload_n X (i := 2) dL_law_662 rfl rfl ?_
  refine j_aload_n X (i := 0) dL_law_663 rfl rfl ?_
  refine j_iload X (i := 5) dL_law_664 rfl ?_
  refine j_iconst X (v := (nI 1)) dL_law_666 (by decide) ?_
  refine j_iadd X dL_law_667 ?_
  refine j_sld X hX hb (nI_add _ _) (by omega) (by omega) dL_law_668 ?_
  refine j_callV_p X (m_inkOf hok hst hM2 hR2 hK (xs (i + 1))) i_X10_inkOf tw_6_225 tw_6_226 tw_6_227 M0 rfl dL_law_669 (fun v3 z3 sk3 t3 hq => ?_) (hmc := by show _ ≤ 603072; omega) (hms := by show _ ≤ 7219306; omega)
  obtain ⟨rfl, rfl, rfl, h7, hR3, hf3⟩ := hq
  refine j_istore X (i := 7) dL_law_672 (by decide) rfl ?_
  refine j_aload_n X (i := 2) dL_law_674 rfl rfl ?_
  refine j_callV X (m_thrown hok hst hM2) i_X10_thrown tw_6_124 tw_6_125 tw_6_126 M0 rfl dL_law_675 ?_ (hmc := by show _ ≤ 603072; omega) (hms := by show _ ≤ 7219306; omega)
  rw [h7]
  refine j_iload X (i := 6) dL_law_678 rfl ?_
  refine j_icmp_eq X (tgt := 685) dL_law_680 (by decide) (fun _ => ?_) (fun q9 => absurd rfl q9)
  refine j_iload X (i := 6) dL_law_685 rfl ?_
  refine j_if_ne X (tgt := 702) dL_law_687 (by decide) (fun h9 => ?_) (fun h9 => ?_)
  · refine j_goto X (tgt := 3209) dL_law_702 (by decide) ?_
    exact j_drop 6 (j_drop 7 (k _ _ _ _ ⟨hP2, hM2, ⟨_, hO2⟩, ⟨_, hD2⟩, hG2.low fun c9 hc9 => hf3 c9 (by omega), ⟨_, hR3⟩, kq_P hK _ _⟩))
  · have ha := ha h9
    refine j_aload_n X (i := 3) dL_law_690 rfl rfl ?_
    refine j_iconst X (v := (nI 0)) dL_law_691 (by decide) ?_
    refine j_laload X hO2 rfl ⟨by decide, by decide⟩ dL_law_692 ?_
    refine j_iload X (i := 7) dL_law_693 rfl ?_
    refine j_i2l X dL_law_695 rfl ?_
    rw [ha]
    refine j_lcmp X dL_law_696 ?_
    rw [lg_cmp_0]
    refine j_if_eq X (tgt := 702) dL_law_697 (by decide) (fun _ => ?_) (fun q9 => absurd rfl q9)
    refine j_goto X (tgt := 3209) dL_law_702 (by decide) ?_
    exact j_drop 6 (j_drop 7 (k _ _ _ _ ⟨hP2, hM2, ⟨_, hO2⟩, ⟨_, hD2⟩, hG2.low fun c9 hc9 => hf3 c9 (by omega), ⟨_, hR3⟩, kq_P hK _ _⟩))
theorem law_7 (X : jX p l s m args meth c (mLaw nm) g none) (hst : l.stackTraces = false) (hK9 : oKw g K kw sa w9) (hX : va_X b L xs (j0 g) (j0 g).heap) (hb : b < jb g) (hi : i + 5 ≤ L) (hL : L ≤ 2560) (hc : cells + 3 ≤ 603072) (hs : slots + 18 ≤ 7219306) (I : LI g kw sk t G) (k : ∀ z2 sk2 t2 G2, LI g kw sk2 t2 G2 → J p l e room_1 s m args below meth c Q 9 g (cells + 3) (slots + 18) z2 sk2 t2 3209 [some (.ref b), some (.ref (jb g + 0)), some (.ref (jb g + 454)), some (.ref (jb g + 462)), some (.ref (jb g + 463)), some (.int (nI i)), none, none, none] []) : J p l e room_1 s m args below meth c Q 9 g cells slots z sk t 705 [some (.ref b), some (.ref (jb g + 0)), some (.ref (jb g + 454)), some (.ref (jb g + 462)), some (.ref (jb g + 463)), some (.int (nI i)), none, none, none] [] := by
  have hok := X.ok
  obtain ⟨hP, hM, ⟨a1, hO⟩, ⟨a2, hD⟩, hG, ⟨n0, hR⟩, hK⟩ := id I
  refine j_aload_n X (i := 1) dL_law_705 rfl rfl ?_
  refine j_aload_n X (i := 0) dL_law_706 rfl rfl ?_
  refine j_iload X (i := 5) dL_law_707 rfl ?_
  refine j_iconst X (v := (nI 1)) dL_law_709 (by decide) ?_
  refine j_iadd X dL_law_710 ?_
  refine j_sld X hX hb (nI_add _ _) (by omega) (by omega) dL_law_711 ?_
  refine j_aload_n X (i := 3) dL_law_712 rfl rfl ?_
  refine j_callSW_p X (w_starCount hok hst hP hG hK hO (xs (i + 1))) iw_starCount tw_3_212 tw_3_213 dL_law_713 (fun v2 z2 sk2 t2 hp => ?_) (by show _ ≤ 603072; omega) (by show _ ≤ 7219306; omega)
  obtain ⟨rfl, hP2, hM2, ⟨a3, hO2, ha⟩, ⟨a4, hD2⟩, hG2, n1, hR2⟩ := LI.wrap I hp
  obtain ⟨M0, -⟩ := id hM2
  refine j_istore X (i := 6) dL_law_716 (by decide) rfl ?_
  refine j_aload_n X (i := 2) dL_law_718 rfl rfl ?_
  refine j_aload_n X (i := 0) dL_law_719 rfl rfl ?_
  refine j_iload X (i := 5) dL_law_720 rfl ?_
  refine j_iconst X (v := (nI 1)) dL_law_722 (by decide) ?_
  refine j_iadd X dL_law_723 ?_
  refine j_sld X hX hb (nI_add _ _) (by omega) (by omega) dL_law_724 ?_
  refine j_callV_p X (m_starCount hok hst hM2 hR2 hK (xs (i + 1))) i_X10_starCount tw_6_233 tw_6_234 tw_6_235 M0 rfl dL_law_725 (fun v3 z3 sk3 t3 hq => ?_) (hmc := by show _ ≤ 603072; omega) (hms := by show _ ≤ 7219306; omega)
  obtain ⟨rfl, rfl, rfl, h7, hR3, hf3⟩ := hq
  refine j_istore X (i := 7) dL_law_728 (by decide) rfl ?_
  refine j_aload_n X (i := 2) dL_law_730 rfl rfl ?_
  refine j_callV X (m_thrown hok hst hM2) i_X10_thrown tw_6_124 tw_6_125 tw_6_126 M0 rfl dL_law_731 ?_ (hmc := by show _ ≤ 603072; omega) (hms := by show _ ≤ 7219306; omega)
  rw [h7]
  refine j_iload X (i := 6) dL_law_734 rfl ?_
  refine j_icmp_eq X (tgt := 741) dL_law_736 (by decide) (fun _ => ?_) (fun q9 => absurd rfl q9)
  refine j_iload X (i := 6) dL_law_741 rfl ?_
  refine j_if_ne X (tgt := 758) dL_law_743 (by decide) (fun h9 => ?_) (fun h9 => ?_)
  · refine j_goto X (tgt := 3209) dL_law_758 (by decide) ?_
    exact j_drop 6 (j_drop 7 (k _ _ _ _ ⟨hP2, hM2, ⟨_, hO2⟩, ⟨_, hD2⟩, hG2.low fun c9 hc9 => hf3 c9 (by omega), ⟨_, hR3⟩, kq_P hK _ _⟩))
  · have ha := ha h9
    refine j_aload_n X (i := 3) dL_law_746 rfl rfl ?_
    refine j_iconst X (v := (nI 0)) dL_law_747 (by decide) ?_
    refine j_laload X hO2 rfl ⟨by decide, by decide⟩ dL_law_748 ?_
    refine j_iload X (i := 7) dL_law_749 rfl ?_
    refine j_i2l X dL_law_751 rfl ?_
    rw [ha]
    refine j_lcmp X dL_law_752 ?_
    rw [lg_cmp_0]
    refine j_if_eq X (tgt := 758) dL_law_753 (by decide) (fun _ => ?_) (fun q9 => absurd rfl q9)
    refine j_goto X (tgt := 3209) dL_law_758 (by decide) ?_
    exact j_drop 6 (j_drop 7 (k _ _ _ _ ⟨hP2, hM2, ⟨_, hO2⟩, ⟨_, hD2⟩, hG2.low fun c9 hc9 => hf3 c9 (by omega), ⟨_, hR3⟩, kq_P hK _ _⟩))
theorem law_8 (X : jX p l s m args meth c (mLaw nm) g none) (hst : l.stackTraces = false) (hK9 : oKw g K kw sa w9) (hX : va_X b L xs (j0 g) (j0 g).heap) (hb : b < jb g) (hi : i + 5 ≤ L) (hL : L ≤ 2560) (hc : cells + 3 ≤ 603072) (hs : slots + 18 ≤ 7219306) (I : LI g kw sk t G) (k : ∀ z2 sk2 t2 G2, LI g kw sk2 t2 G2 → J p l e room_1 s m args below meth c Q 9 g (cells + 3) (slots + 18) z2 sk2 t2 3209 [some (.ref b), some (.ref (jb g + 0)), some (.ref (jb g + 454)), some (.ref (jb g + 462)), some (.ref (jb g + 463)), some (.int (nI i)), none, none, none] []) : J p l e room_1 s m args below meth c Q 9 g cells slots z sk t 761 [some (.ref b), some (.ref (jb g + 0)), some (.ref (jb g + 454)), some (.ref (jb g + 462)), some (.ref (jb g + 463)), some (.int (nI i)), none, none, none] [] := by
  have hok := X.ok
  obtain ⟨hP, hM, ⟨a1, hO⟩, ⟨a2, hD⟩, hG, ⟨n0, hR⟩, hK⟩ := id I
  refine j_aload_n X (i := 1) dL_law_761 rfl rfl ?_
  refine j_aload_n X (i := 0) dL_law_762 rfl rfl ?_
  refine j_iload X (i := 5) dL_law_763 rfl ?_
  refine j_iconst X (v := (nI 1)) dL_law_765 (by decide) ?_
  refine j_iadd X dL_law_766 ?_
  refine j_sld X hX hb (nI_add _ _) (by omega) (by omega) dL_law_767 ?_
  refine j_aload_n X (i := 0) dL_law_768 rfl rfl ?_
  refine j_iload X (i := 5) dL_law_769 rfl ?_
  refine j_iconst X (v := (nI 2)) dL_law_771 (by decide) ?_
  refine j_iadd X dL_law_772 ?_
  refine j_sld X hX hb (nI_add _ _) (by omega) (by omega) dL_law_773 ?_
  refine j_aload_n X (i := 0) dL_law_774 rfl rfl ?_
  refine j_iload X (i := 5) dL_law_775 rfl ?_
  refine j_iconst X (v := (nI 3)) dL_law_777 (by decide) ?_
  refine j_iadd X dL_law_778 ?_
  refine j_sld X hX hb (nI_add _ _) (by omega) (by omega) dL_law_779 ?_
  refine j_aload_n X (i := 3) dL_law_780 rfl rfl ?_
  refine j_callSW_p X (w_hasStar hok hst hP hG hK hO (xs (i + 1)) (xs (i + 2)) (xs (i + 3))) iw_hasStar tw_3_220 tw_3_221 dL_law_781 (fun v2 z2 sk2 t2 hp => ?_) (by show _ ≤ 603072; omega) (by show _ ≤ 7219306; omega)
  obtain ⟨rfl, hP2, hM2, ⟨a3, hO2, ha⟩, ⟨a4, hD2⟩, hG2, n1, hR2⟩ := LI.wrap I hp
  obtain ⟨M0, -⟩ := id hM2
  refine j_istore X (i := 6) dL_law_784 (by decide) rfl ?_
  refine j_aload_n X (i := 2) dL_law_786 rfl rfl ?_
  refine j_aload_n X (i := 0) dL_law_787 rfl rfl ?_
  refine j_iload X (i := 5) dL_law_788 rfl ?_
  refine j_iconst X (v := (nI 1)) dL_law_790 (by decide) ?_
  refine j_iadd X dL_law_791 ?_
  refine j_sld X hX hb (nI_add _ _) (by omega) (by omega) dL_law_792 ?_
  refine j_aload_n X (i := 0) dL_law_793 rfl rfl ?_
  refine j_iload X (i := 5) dL_law_794 rfl ?_
  refine j_iconst X (v := (nI 2)) dL_law_796 (by decide) ?_
  refine j_iadd X dL_law_797 ?_
  refine j_sld X hX hb (nI_add _ _) (by omega) (by omega) dL_law_798 ?_
  refine j_aload_n X (i := 0) dL_law_799 rfl rfl ?_
  refine j_iload X (i := 5) dL_law_800 rfl ?_
  refine j_iconst X (v := (nI 3)) dL_law_802 (by decide) ?_
  refine j_iadd X dL_law_803 ?_
  refine j_sld X hX hb (nI_add _ _) (by omega) (by omega) dL_law_804 ?_
  refine j_callV_p X (m_hasStar hok hst hM2 hR2 hK (xs (i + 1)) (xs (i + 2)) (xs (i + 3))) i_X10_hasStar tw_6_237 tw_6_238 tw_6_239 M0 rfl dL_law_805 (fun v3 z3 sk3 t3 hq => ?_) (hmc := by show _ ≤ 603072; omega) (hms := by show _ ≤ 7219306; omega)
  obtain ⟨rfl, rfl, rfl, h7, hR3, hf3⟩ := hq
  refine j_istore X (i := 7) dL_law_808 (by decide) rfl ?_
  refine j_aload_n X (i := 2) dL_law_810 rfl rfl ?_
  refine j_callV X (m_thrown hok hst hM2) i_X10_thrown tw_6_124 tw_6_125 tw_6_126 M0 rfl dL_law_811 ?_ (hmc := by show _ ≤ 603072; omega) (hms := by show _ ≤ 7219306; omega)
  rw [h7]
  refine j_iload X (i := 6) dL_law_814 rfl ?_
  refine j_icmp_eq X (tgt := 821) dL_law_816 (by decide) (fun _ => ?_) (fun q9 => absurd rfl q9)
  refine j_iload X (i := 6) dL_law_821 rfl ?_
  refine j_if_ne X (tgt := 845) dL_law_823 (by decide) (fun h9 => ?_) (fun h9 => ?_)
  · refine j_goto X (tgt := 3209) dL_law_845 (by decide) ?_
    exact j_drop 6 (j_drop 7 (k _ _ _ _ ⟨hP2, hM2, ⟨_, hO2⟩, ⟨_, hD2⟩, hG2.low fun c9 hc9 => hf3 c9 (by omega), ⟨_, hR3⟩, kq_PP hK _ _ _⟩))
  · have ha := ha h9
    refine j_aload_n X (i := 3) dL_law_826 rfl rfl ?_
    refine j_iconst X (v := (nI 0)) dL_law_827 (by decide) ?_
    refine j_laload X hO2 rfl ⟨by decide, by decide⟩ dL_law_828 ?_
    refine j_iload X (i := 7) dL_law_829 rfl ?_
    rw [ha]
    refine j_if_eq X (tgt := 838) dL_law_831 (by decide) (fun h8 => ?_) (fun h8 => ?_)
    · refine j_lconst X (v := 0) dL_law_838 (by decide) ?_
      rw [cvB_0 h8]
      refine j_lcmp X dL_law_839 ?_
      rw [lg_cmp_0]
      refine j_if_eq X (tgt := 845) dL_law_840 (by decide) (fun _ => ?_) (fun q9 => absurd rfl q9)
      refine j_goto X (tgt := 3209) dL_law_845 (by decide) ?_
      exact j_drop 6 (j_drop 7 (k _ _ _ _ ⟨hP2, hM2, ⟨_, hO2⟩, ⟨_, hD2⟩, hG2.low fun c9 hc9 => hf3 c9 (by omega), ⟨_, hR3⟩, kq_PP hK _ _ _⟩))
    · refine j_lconst X (v := 1) dL_law_834 (by decide) ?_
      refine j_goto X (tgt := 839) dL_law_835 (by decide) ?_
      rw [cvB_1 h8]
      refine j_lcmp X dL_law_839 ?_
      rw [lg_cmp_0]
      refine j_if_eq X (tgt := 845) dL_law_840 (by decide) (fun _ => ?_) (fun q9 => absurd rfl q9)
      refine j_goto X (tgt := 3209) dL_law_845 (by decide) ?_
      exact j_drop 6 (j_drop 7 (k _ _ _ _ ⟨hP2, hM2, ⟨_, hO2⟩, ⟨_, hD2⟩, hG2.low fun c9 hc9 => hf3 c9 (by omega), ⟨_, hR3⟩, kq_PP hK _ _ _⟩))
theorem law_9 (X : jX p l s m args meth c (mLaw nm) g none) (hst : l.stackTraces = false) (hK9 : oKw g K kw sa w9) (hX : va_X b L xs (j0 g) (j0 g).heap) (hb : b < jb g) (hi : i + 5 ≤ L) (hL : L ≤ 2560) (hc : cells + 3 ≤ 603072) (hs : slots + 18 ≤ 7219306) (I : LI g kw sk t G) (k : ∀ z2 sk2 t2 G2, LI g kw sk2 t2 G2 → J p l e room_1 s m args below meth c Q 9 g (cells + 3) (slots + 18) z2 sk2 t2 3209 [some (.ref b), some (.ref (jb g + 0)), some (.ref (jb g + 454)), some (.ref (jb g + 462)), some (.ref (jb g + 463)), some (.int (nI i)), none, none, none] []) : J p l e room_1 s m args below meth c Q 9 g cells slots z sk t 848 [some (.ref b), some (.ref (jb g + 0)), some (.ref (jb g + 454)), some (.ref (jb g + 462)), some (.ref (jb g + 463)), some (.int (nI i)), none, none, none] [] := by
  have hok := X.ok
  obtain ⟨hP, hM, ⟨a1, hO⟩, ⟨a2, hD⟩, hG, ⟨n0, hR⟩, hK⟩ := id I
  refine j_aload_n X (i := 1) dL_law_848 rfl rfl ?_
  refine j_aload_n X (i := 0) dL_law_849 rfl rfl ?_
  refine j_iload X (i := 5) dL_law_850 rfl ?_
  refine j_iconst X (v := (nI 1)) dL_law_852 (by decide) ?_
  refine j_iadd X dL_law_853 ?_
  refine j_sld X hX hb (nI_add _ _) (by omega) (by omega) dL_law_854 ?_
  refine j_aload_n X (i := 3) dL_law_855 rfl rfl ?_
  refine j_callSW_p X (w_shiftX hok hst hP hG hK hO (xs (i + 1))) iw_shiftX tw_3_233 tw_3_234 dL_law_856 (fun v2 z2 sk2 t2 hp => ?_) (by show _ ≤ 603072; omega) (by show _ ≤ 7219306; omega)
  obtain ⟨rfl, hP2, hM2, ⟨a3, hO2, ha⟩, ⟨a4, hD2⟩, hG2, n1, hR2⟩ := LI.wrap I hp
  obtain ⟨M0, -⟩ := id hM2
  refine j_istore X (i := 6) dL_law_859 (by decide) rfl ?_
  refine j_aload_n X (i := 2) dL_law_861 rfl rfl ?_
  refine j_aload_n X (i := 0) dL_law_862 rfl rfl ?_
  refine j_iload X (i := 5) dL_law_863 rfl ?_
  refine j_iconst X (v := (nI 1)) dL_law_865 (by decide) ?_
  refine j_iadd X dL_law_866 ?_
  refine j_sld X hX hb (nI_add _ _) (by omega) (by omega) dL_law_867 ?_
  refine j_callV_p X (m_shiftX hok hst hM2 hR2 hK (xs (i + 1))) i_X10_shiftX tw_7_1 tw_7_2 tw_7_3 M0 rfl dL_law_868 (fun v3 z3 sk3 t3 hq => ?_) (hmc := by show _ ≤ 603072; omega) (hms := by show _ ≤ 7219306; omega)
  obtain ⟨rfl, rfl, rfl, h7, hR3, hf3⟩ := hq
  refine j_istore X (i := 7) dL_law_871 (by decide) rfl ?_
  refine j_aload_n X (i := 2) dL_law_873 rfl rfl ?_
  refine j_callV X (m_thrown hok hst hM2) i_X10_thrown tw_6_124 tw_6_125 tw_6_126 M0 rfl dL_law_874 ?_ (hmc := by show _ ≤ 603072; omega) (hms := by show _ ≤ 7219306; omega)
  rw [h7]
  refine j_iload X (i := 6) dL_law_877 rfl ?_
  refine j_icmp_eq X (tgt := 884) dL_law_879 (by decide) (fun _ => ?_) (fun q9 => absurd rfl q9)
  refine j_iload X (i := 6) dL_law_884 rfl ?_
  refine j_if_ne X (tgt := 901) dL_law_886 (by decide) (fun h9 => ?_) (fun h9 => ?_)
  · refine j_goto X (tgt := 3209) dL_law_901 (by decide) ?_
    exact j_drop 6 (j_drop 7 (k _ _ _ _ ⟨hP2, hM2, ⟨_, hO2⟩, ⟨_, hD2⟩, hG2.low fun c9 hc9 => hf3 c9 (by omega), ⟨_, hR3⟩, kq_P hK _ _⟩))
  · have ha := ha h9
    refine j_aload_n X (i := 3) dL_law_889 rfl rfl ?_
    refine j_iconst X (v := (nI 0)) dL_law_890 (by decide) ?_
    refine j_laload X hO2 rfl ⟨by decide, by decide⟩ dL_law_891 ?_
    refine j_iload X (i := 7) dL_law_892 rfl ?_
    refine j_i2l X dL_law_894 rfl ?_
    rw [ha]
    refine j_lcmp X dL_law_895 ?_
    rw [lg_cmp_0]
    refine j_if_eq X (tgt := 901) dL_law_896 (by decide) (fun _ => ?_) (fun q9 => absurd rfl q9)
    refine j_goto X (tgt := 3209) dL_law_901 (by decide) ?_
    exact j_drop 6 (j_drop 7 (k _ _ _ _ ⟨hP2, hM2, ⟨_, hO2⟩, ⟨_, hD2⟩, hG2.low fun c9 hc9 => hf3 c9 (by omega), ⟨_, hR3⟩, kq_P hK _ _⟩))
theorem law_10 (X : jX p l s m args meth c (mLaw nm) g none) (hst : l.stackTraces = false) (hK9 : oKw g K kw sa w9) (hX : va_X b L xs (j0 g) (j0 g).heap) (hb : b < jb g) (hi : i + 5 ≤ L) (hL : L ≤ 2560) (hc : cells + 3 ≤ 603072) (hs : slots + 18 ≤ 7219306) (I : LI g kw sk t G) (k : ∀ z2 sk2 t2 G2, LI g kw sk2 t2 G2 → J p l e room_1 s m args below meth c Q 9 g (cells + 3) (slots + 18) z2 sk2 t2 3209 [some (.ref b), some (.ref (jb g + 0)), some (.ref (jb g + 454)), some (.ref (jb g + 462)), some (.ref (jb g + 463)), some (.int (nI i)), none, none, none] []) : J p l e room_1 s m args below meth c Q 9 g cells slots z sk t 904 [some (.ref b), some (.ref (jb g + 0)), some (.ref (jb g + 454)), some (.ref (jb g + 462)), some (.ref (jb g + 463)), some (.int (nI i)), none, none, none] [] := by
  have hok := X.ok
  obtain ⟨hP, hM, ⟨a1, hO⟩, ⟨a2, hD⟩, hG, ⟨n0, hR⟩, hK⟩ := id I
  refine j_aload_n X (i := 1) dL_law_904 rfl rfl ?_
  refine j_aload_n X (i := 0) dL_law_905 rfl rfl ?_
  refine j_iload X (i := 5) dL_law_906 rfl ?_
  refine j_iconst X (v := (nI 1)) dL_law_908 (by decide) ?_
  refine j_iadd X dL_law_909 ?_
  refine j_sld X hX hb (nI_add _ _) (by omega) (by omega) dL_law_910 ?_
  refine j_aload_n X (i := 3) dL_law_911 rfl rfl ?_
  refine j_callSW_p X (w_shiftY hok hst hP hG hK hO (xs (i + 1))) iw_shiftY tw_4_0 tw_4_1 dL_law_912 (fun v2 z2 sk2 t2 hp => ?_) (by show _ ≤ 603072; omega) (by show _ ≤ 7219306; omega)
  obtain ⟨rfl, hP2, hM2, ⟨a3, hO2, ha⟩, ⟨a4, hD2⟩, hG2, n1, hR2⟩ := LI.wrap I hp
  obtain ⟨M0, -⟩ := id hM2
  refine j_istore X (i := 6) dL_law_915 (by decide) rfl ?_
  refine j_aload_n X (i := 2) dL_law_917 rfl rfl ?_
  refine j_aload_n X (i := 0) dL_law_918 rfl rfl ?_
  refine j_iload X (i := 5) dL_law_919 rfl ?_
  refine j_iconst X (v := (nI 1)) dL_law_921 (by decide) ?_
  refine j_iadd X dL_law_922 ?_
  refine j_sld X hX hb (nI_add _ _) (by omega) (by omega) dL_law_923 ?_
  refine j_callV_p X (m_shiftY hok hst hM2 hR2 hK (xs (i + 1))) i_X10_shiftY tw_7_5 tw_7_6 tw_7_7 M0 rfl dL_law_924 (fun v3 z3 sk3 t3 hq => ?_) (hmc := by show _ ≤ 603072; omega) (hms := by show _ ≤ 7219306; omega)
  obtain ⟨rfl, rfl, rfl, h7, hR3, hf3⟩ := hq
  refine j_istore X (i := 7) dL_law_927 (by decide) rfl ?_
  refine j_aload_n X (i := 2) dL_law_929 rfl rfl ?_
  refine j_callV X (m_thrown hok hst hM2) i_X10_thrown tw_6_124 tw_6_125 tw_6_126 M0 rfl dL_law_930 ?_ (hmc := by show _ ≤ 603072; omega) (hms := by show _ ≤ 7219306; omega)
  rw [h7]
  refine j_iload X (i := 6) dL_law_933 rfl ?_
  refine j_icmp_eq X (tgt := 940) dL_law_935 (by decide) (fun _ => ?_) (fun q9 => absurd rfl q9)
  refine j_iload X (i := 6) dL_law_940 rfl ?_
  refine j_if_ne X (tgt := 957) dL_law_942 (by decide) (fun h9 => ?_) (fun h9 => ?_)
  · refine j_goto X (tgt := 3209) dL_law_957 (by decide) ?_
    exact j_drop 6 (j_drop 7 (k _ _ _ _ ⟨hP2, hM2, ⟨_, hO2⟩, ⟨_, hD2⟩, hG2.low fun c9 hc9 => hf3 c9 (by omega), ⟨_, hR3⟩, kq_P hK _ _⟩))
  · have ha := ha h9
    refine j_aload_n X (i := 3) dL_law_945 rfl rfl ?_
    refine j_iconst X (v := (nI 0)) dL_law_946 (by decide) ?_
    refine j_laload X hO2 rfl ⟨by decide, by decide⟩ dL_law_947 ?_
    refine j_iload X (i := 7) dL_law_948 rfl ?_
    refine j_i2l X dL_law_950 rfl ?_
    rw [ha]
    refine j_lcmp X dL_law_951 ?_
    rw [lg_cmp_0]
    refine j_if_eq X (tgt := 957) dL_law_952 (by decide) (fun _ => ?_) (fun q9 => absurd rfl q9)
    refine j_goto X (tgt := 3209) dL_law_957 (by decide) ?_
    exact j_drop 6 (j_drop 7 (k _ _ _ _ ⟨hP2, hM2, ⟨_, hO2⟩, ⟨_, hD2⟩, hG2.low fun c9 hc9 => hf3 c9 (by omega), ⟨_, hR3⟩, kq_P hK _ _⟩))
theorem law_11 (X : jX p l s m args meth c (mLaw nm) g none) (hst : l.stackTraces = false) (hK9 : oKw g K kw sa w9) (hX : va_X b L xs (j0 g) (j0 g).heap) (hb : b < jb g) (hi : i + 5 ≤ L) (hL : L ≤ 2560) (hc : cells + 3 ≤ 603072) (hs : slots + 18 ≤ 7219306) (I : LI g kw sk t G) (k : ∀ z2 sk2 t2 G2, LI g kw sk2 t2 G2 → J p l e room_1 s m args below meth c Q 9 g (cells + 3) (slots + 18) z2 sk2 t2 3209 [some (.ref b), some (.ref (jb g + 0)), some (.ref (jb g + 454)), some (.ref (jb g + 462)), some (.ref (jb g + 463)), some (.int (nI i)), none, none, none] []) : J p l e room_1 s m args below meth c Q 9 g cells slots z sk t 960 [some (.ref b), some (.ref (jb g + 0)), some (.ref (jb g + 454)), some (.ref (jb g + 462)), some (.ref (jb g + 463)), some (.int (nI i)), none, none, none] [] := by
  have hok := X.ok
  obtain ⟨hP, hM, ⟨a1, hO⟩, ⟨a2, hD⟩, hG, ⟨n0, hR⟩, hK⟩ := id I
  refine j_aload_n X (i := 1) dL_law_960 rfl rfl ?_
  refine j_aload_n X (i := 0) dL_law_961 rfl rfl ?_
  refine j_iload X (i := 5) dL_law_962 rfl ?_
  refine j_iconst X (v := (nI 1)) dL_law_964 (by decide) ?_
  refine j_iadd X dL_law_965 ?_
  refine j_sld X hX hb (nI_add _ _) (by omega) (by omega) dL_law_966 ?_
  refine j_aload_n X (i := 0) dL_law_967 rfl rfl ?_
  refine j_iload X (i := 5) dL_law_968 rfl ?_
  refine j_iconst X (v := (nI 2)) dL_law_970 (by decide) ?_
  refine j_iadd X dL_law_971 ?_
  refine j_sld X hX hb (nI_add _ _) (by omega) (by omega) dL_law_972 ?_
  refine j_aload_n X (i := 0) dL_law_973 rfl rfl ?_
  refine j_iload X (i := 5) dL_law_974 rfl ?_
  refine j_iconst X (v := (nI 3)) dL_law_976 (by decide) ?_
  refine j_iadd X dL_law_977 ?_
  refine j_sld X hX hb (nI_add _ _) (by omega) (by omega) dL_law_978 ?_
  refine j_aload_n X (i := 0) dL_law_979 rfl rfl ?_
  refine j_iload X (i := 5) dL_law_980 rfl ?_
  refine j_iconst X (v := (nI 4)) dL_law_982 (by decide) ?_
  refine j_iadd X dL_law_983 ?_
  refine j_sld X hX hb (nI_add _ _) (by omega) (by omega) dL_law_984 ?_
  refine j_aload_n X (i := 3) dL_law_985 rfl rfl ?_
  refine j_callSW_p X (w_matches hok hst hP hG hK hO (xs (i + 1)) (xs (i + 2)) (xs (i + 3)) (xs (i + 4))) iw_matches tw_4_7 tw_4_8 dL_law_986 (fun v2 z2 sk2 t2 hp => ?_) (by show _ ≤ 603072; omega) (by show _ ≤ 7219306; omega)
  obtain ⟨rfl, hP2, hM2, ⟨a3, hO2, ha⟩, ⟨a4, hD2⟩, hG2, n1, hR2⟩ := LI.wrap I hp
  obtain ⟨M0, -⟩ := id hM2
  refine j_istore X (i := 6) dL_law_989 (by decide) rfl ?_
  refine j_aload_n X (i := 2) dL_law_991 rfl rfl ?_
  refine j_aload_n X (i := 0) dL_law_992 rfl rfl ?_
  refine j_iload X (i := 5) dL_law_993 rfl ?_
  refine j_iconst X (v := (nI 1)) dL_law_995 (by decide) ?_
  refine j_iadd X dL_law_996 ?_
  refine j_sld X hX hb (nI_add _ _) (by omega) (by omega) dL_law_997 ?_
  refine j_aload_n X (i := 0) dL_law_998 rfl rfl ?_
  refine j_iload X (i := 5) dL_law_999 rfl ?_
  refine j_iconst X (v := (nI 2)) dL_law_1001 (by decide) ?_
  refine j_iadd X dL_law_1002 ?_
  refine j_sld X hX hb (nI_add _ _) (by omega) (by omega) dL_law_1003 ?_
  refine j_aload_n X (i := 0) dL_law_1004 rfl rfl ?_
  refine j_iload X (i := 5) dL_law_1005 rfl ?_
  refine j_iconst X (v := (nI 3)) dL_law_1007 (by decide) ?_
  refine j_iadd X dL_law_1008 ?_
  refine j_sld X hX hb (nI_add _ _) (by omega) (by omega) dL_law_1009 ?_
  refine j_aload_n X (i := 0) dL_law_1010 rfl rfl ?_
  refine j_iload X (i := 5) dL_law_1011 rfl ?_
  refine j_iconst X (v := (nI 4)) dL_law_1013 (by decide) ?_
  refine j_iadd X dL_law_1014 ?_
  refine j_sld X hX hb (nI_add _ _) (by omega) (by omega) dL_law_1015 ?_
  refine j_callV_p X (m_matches hok hst hM2 hR2 hK (xs (i + 1)) (xs (i + 2)) (xs (i + 3)) (xs (i + 4))) i_X10_matches tw_7_9 tw_7_10 tw_7_11 M0 rfl dL_law_1016 (fun v3 z3 sk3 t3 hq => ?_) (hmc := by show _ ≤ 603072; omega) (hms := by show _ ≤ 7219306; omega)
  obtain ⟨rfl, rfl, rfl, h7, hR3, hf3⟩ := hq
  refine j_istore X (i := 7) dL_law_1019 (by decide) rfl ?_
  refine j_aload_n X (i := 2) dL_law_1021 rfl rfl ?_
  refine j_callV X (m_thrown hok hst hM2) i_X10_thrown tw_6_124 tw_6_125 tw_6_126 M0 rfl dL_law_1022 ?_ (hmc := by show _ ≤ 603072; omega) (hms := by show _ ≤ 7219306; omega)
  rw [h7]
  refine j_iload X (i := 6) dL_law_1025 rfl ?_
  refine j_icmp_eq X (tgt := 1032) dL_law_1027 (by decide) (fun _ => ?_) (fun q9 => absurd rfl q9)
  refine j_iload X (i := 6) dL_law_1032 rfl ?_
  refine j_if_ne X (tgt := 1049) dL_law_1034 (by decide) (fun h9 => ?_) (fun h9 => ?_)
  · refine j_goto X (tgt := 3209) dL_law_1049 (by decide) ?_
    exact j_drop 6 (j_drop 7 (k _ _ _ _ ⟨hP2, hM2, ⟨_, hO2⟩, ⟨_, hD2⟩, hG2.low fun c9 hc9 => hf3 c9 (by omega), ⟨_, hR3⟩, kq_PP hK _ _ _⟩))
  · have ha := ha h9
    refine j_aload_n X (i := 3) dL_law_1037 rfl rfl ?_
    refine j_iconst X (v := (nI 0)) dL_law_1038 (by decide) ?_
    refine j_laload X hO2 rfl ⟨by decide, by decide⟩ dL_law_1039 ?_
    refine j_iload X (i := 7) dL_law_1040 rfl ?_
    refine j_i2l X dL_law_1042 rfl ?_
    rw [ha]
    refine j_lcmp X dL_law_1043 ?_
    rw [lg_cmp_0]
    refine j_if_eq X (tgt := 1049) dL_law_1044 (by decide) (fun _ => ?_) (fun q9 => absurd rfl q9)
    refine j_goto X (tgt := 3209) dL_law_1049 (by decide) ?_
    exact j_drop 6 (j_drop 7 (k _ _ _ _ ⟨hP2, hM2, ⟨_, hO2⟩, ⟨_, hD2⟩, hG2.low fun c9 hc9 => hf3 c9 (by omega), ⟨_, hR3⟩, kq_PP hK _ _ _⟩))
theorem law_12 (X : jX p l s m args meth c (mLaw nm) g none) (hst : l.stackTraces = false) (hK9 : oKw g K kw sa w9) (hX : va_X b L xs (j0 g) (j0 g).heap) (hb : b < jb g) (hi : i + 5 ≤ L) (hL : L ≤ 2560) (hc : cells + 3 ≤ 603072) (hs : slots + 18 ≤ 7219306) (I : LI g kw sk t G) (k : ∀ z2 sk2 t2 G2, LI g kw sk2 t2 G2 → J p l e room_1 s m args below meth c Q 9 g (cells + 3) (slots + 18) z2 sk2 t2 3209 [some (.ref b), some (.ref (jb g + 0)), some (.ref (jb g + 454)), some (.ref (jb g + 462)), some (.ref (jb g + 463)), some (.int (nI i)), none, none, none] []) : J p l e room_1 s m args below meth c Q 9 g cells slots z sk t 1052 [some (.ref b), some (.ref (jb g + 0)), some (.ref (jb g + 454)), some (.ref (jb g + 462)), some (.ref (jb g + 463)), some (.int (nI i)), none, none, none] [] := by
  have hok := X.ok
  obtain ⟨hP, hM, ⟨a1, hO⟩, ⟨a2, hD⟩, hG, ⟨n0, hR⟩, hK⟩ := id I
  refine j_aload_n X (i := 1) dL_law_1052 rfl rfl ?_
  refine j_aload_n X (i := 0) dL_law_1053 rfl rfl ?_
  refine j_iload X (i := 5) dL_law_1054 rfl ?_
  refine j_iconst X (v := (nI 1)) dL_law_1056 (by decide) ?_
  refine j_iadd X dL_law_1057 ?_
  refine j_sld X hX hb (nI_add _ _) (by omega) (by omega) dL_law_1058 ?_
  refine j_aload_n X (i := 0) dL_law_1059 rfl rfl ?_
  refine j_iload X (i := 5) dL_law_1060 rfl ?_
  refine j_iconst X (v := (nI 2)) dL_law_1062 (by decide) ?_
  refine j_iadd X dL_law_1063 ?_
  refine j_sld X hX hb (nI_add _ _) (by omega) (by omega) dL_law_1064 ?_
  refine j_aload_n X (i := 3) dL_law_1065 rfl rfl ?_
  refine j_callSW_p X (w_mostMatches hok hst hP hG hK hO (xs (i + 1)) (xs (i + 2))) iw_mostMatches tw_4_17 tw_4_18 dL_law_1066 (fun v2 z2 sk2 t2 hp => ?_) (by show _ ≤ 603072; omega) (by show _ ≤ 7219306; omega)
  obtain ⟨rfl, hP2, hM2, ⟨a3, hO2, ha⟩, ⟨a4, hD2⟩, hG2, n1, hR2⟩ := LI.wrap I hp
  obtain ⟨M0, -⟩ := id hM2
  refine j_istore X (i := 6) dL_law_1069 (by decide) rfl ?_
  refine j_aload_n X (i := 2) dL_law_1071 rfl rfl ?_
  refine j_aload_n X (i := 0) dL_law_1072 rfl rfl ?_
  refine j_iload X (i := 5) dL_law_1073 rfl ?_
  refine j_iconst X (v := (nI 1)) dL_law_1075 (by decide) ?_
  refine j_iadd X dL_law_1076 ?_
  refine j_sld X hX hb (nI_add _ _) (by omega) (by omega) dL_law_1077 ?_
  refine j_aload_n X (i := 0) dL_law_1078 rfl rfl ?_
  refine j_iload X (i := 5) dL_law_1079 rfl ?_
  refine j_iconst X (v := (nI 2)) dL_law_1081 (by decide) ?_
  refine j_iadd X dL_law_1082 ?_
  refine j_sld X hX hb (nI_add _ _) (by omega) (by omega) dL_law_1083 ?_
  refine j_callV_p X (m_mostMatches hok hst hM2 hR2 hK (xs (i + 1)) (xs (i + 2))) i_X10_mostMatches tw_7_13 tw_7_14 tw_7_15 M0 rfl dL_law_1084 (fun v3 z3 sk3 t3 hq => ?_) (hmc := by show _ ≤ 603072; omega) (hms := by show _ ≤ 7219306; omega)
  obtain ⟨rfl, rfl, rfl, h7, hR3, hf3⟩ := hq
  refine j_istore X (i := 7) dL_law_1087 (by decide) rfl ?_
  refine j_aload_n X (i := 2) dL_law_1089 rfl rfl ?_
  refine j_callV X (m_thrown hok hst hM2) i_X10_thrown tw_6_124 tw_6_125 tw_6_126 M0 rfl dL_law_1090 ?_ (hmc := by show _ ≤ 603072; omega) (hms := by show _ ≤ 7219306; omega)
  rw [h7]
  refine j_iload X (i := 6) dL_law_1093 rfl ?_
  refine j_icmp_eq X (tgt := 1100) dL_law_1095 (by decide) (fun _ => ?_) (fun q9 => absurd rfl q9)
  refine j_iload X (i := 6) dL_law_1100 rfl ?_
  refine j_if_ne X (tgt := 1117) dL_law_1102 (by decide) (fun h9 => ?_) (fun h9 => ?_)
  · refine j_goto X (tgt := 3209) dL_law_1117 (by decide) ?_
    exact j_drop 6 (j_drop 7 (k _ _ _ _ ⟨hP2, hM2, ⟨_, hO2⟩, ⟨_, hD2⟩, hG2.low fun c9 hc9 => hf3 c9 (by omega), ⟨_, hR3⟩, kq_P hK _ _⟩))
  · have ha := ha h9
    refine j_aload_n X (i := 3) dL_law_1105 rfl rfl ?_
    refine j_iconst X (v := (nI 0)) dL_law_1106 (by decide) ?_
    refine j_laload X hO2 rfl ⟨by decide, by decide⟩ dL_law_1107 ?_
    refine j_iload X (i := 7) dL_law_1108 rfl ?_
    refine j_i2l X dL_law_1110 rfl ?_
    rw [ha]
    refine j_lcmp X dL_law_1111 ?_
    rw [lg_cmp_0]
    refine j_if_eq X (tgt := 1117) dL_law_1112 (by decide) (fun _ => ?_) (fun q9 => absurd rfl q9)
    refine j_goto X (tgt := 3209) dL_law_1117 (by decide) ?_
    exact j_drop 6 (j_drop 7 (k _ _ _ _ ⟨hP2, hM2, ⟨_, hO2⟩, ⟨_, hD2⟩, hG2.low fun c9 hc9 => hf3 c9 (by omega), ⟨_, hR3⟩, kq_P hK _ _⟩))
theorem law_13 (X : jX p l s m args meth c (mLaw nm) g none) (hst : l.stackTraces = false) (hK9 : oKw g K kw sa w9) (hX : va_X b L xs (j0 g) (j0 g).heap) (hb : b < jb g) (hi : i + 5 ≤ L) (hL : L ≤ 2560) (hc : cells + 3 ≤ 603072) (hs : slots + 18 ≤ 7219306) (I : LI g kw sk t G) (k : ∀ z2 sk2 t2 G2, LI g kw sk2 t2 G2 → J p l e room_1 s m args below meth c Q 9 g (cells + 3) (slots + 18) z2 sk2 t2 3209 [some (.ref b), some (.ref (jb g + 0)), some (.ref (jb g + 454)), some (.ref (jb g + 462)), some (.ref (jb g + 463)), some (.int (nI i)), none, none, none] []) : J p l e room_1 s m args below meth c Q 9 g cells slots z sk t 1120 [some (.ref b), some (.ref (jb g + 0)), some (.ref (jb g + 454)), some (.ref (jb g + 462)), some (.ref (jb g + 463)), some (.int (nI i)), none, none, none] [] := by
  have hok := X.ok
  obtain ⟨hP, hM, ⟨a1, hO⟩, ⟨a2, hD⟩, hG, ⟨n0, hR⟩, hK⟩ := id I
  refine j_aload_n X (i := 1) dL_law_1120 rfl rfl ?_
  refine j_aload_n X (i := 0) dL_law_1121 rfl rfl ?_
  refine j_iload X (i := 5) dL_law_1122 rfl ?_
  refine j_iconst X (v := (nI 1)) dL_law_1124 (by decide) ?_
  refine j_iadd X dL_law_1125 ?_
  refine j_sld X hX hb (nI_add _ _) (by omega) (by omega) dL_law_1126 ?_
  refine j_aload_n X (i := 0) dL_law_1127 rfl rfl ?_
  refine j_iload X (i := 5) dL_law_1128 rfl ?_
  refine j_iconst X (v := (nI 2)) dL_law_1130 (by decide) ?_
  refine j_iadd X dL_law_1131 ?_
  refine j_sld X hX hb (nI_add _ _) (by omega) (by omega) dL_law_1132 ?_
  refine j_aload_n X (i := 3) dL_law_1133 rfl rfl ?_
  refine j_callSW_p X (w_mostMatchesByPairs hok hst hP hG hK hO (xs (i + 1)) (xs (i + 2))) iw_mostMatchesByPairs tw_4_24 tw_4_25 dL_law_1134 (fun v2 z2 sk2 t2 hp => ?_) (by show _ ≤ 603072; omega) (by show _ ≤ 7219306; omega)
  obtain ⟨rfl, hP2, hM2, ⟨a3, hO2, ha⟩, ⟨a4, hD2⟩, hG2, n1, hR2⟩ := LI.wrap I hp
  obtain ⟨M0, -⟩ := id hM2
  refine j_istore X (i := 6) dL_law_1137 (by decide) rfl ?_
  refine j_aload_n X (i := 2) dL_law_1139 rfl rfl ?_
  refine j_aload_n X (i := 0) dL_law_1140 rfl rfl ?_
  refine j_iload X (i := 5) dL_law_1141 rfl ?_
  refine j_iconst X (v := (nI 1)) dL_law_1143 (by decide) ?_
  refine j_iadd X dL_law_1144 ?_
  refine j_sld X hX hb (nI_add _ _) (by omega) (by omega) dL_law_1145 ?_
  refine j_aload_n X (i := 0) dL_law_1146 rfl rfl ?_
  refine j_iload X (i := 5) dL_law_1147 rfl ?_
  refine j_iconst X (v := (nI 2)) dL_law_1149 (by decide) ?_
  refine j_iadd X dL_law_1150 ?_
  refine j_sld X hX hb (nI_add _ _) (by omega) (by omega) dL_law_1151 ?_
  refine j_callV_p X (m_mostByPairs hok hst hM2 hR2 hK (xs (i + 1)) (xs (i + 2))) i_X10_mostMatchesByPairs tw_7_17 tw_7_18 tw_7_19 M0 rfl dL_law_1152 (fun v3 z3 sk3 t3 hq => ?_) (hmc := by show _ ≤ 603072; omega) (hms := by show _ ≤ 7219306; omega)
  obtain ⟨rfl, rfl, rfl, h7, hR3, hf3⟩ := hq
  refine j_istore X (i := 7) dL_law_1155 (by decide) rfl ?_
  refine j_aload_n X (i := 2) dL_law_1157 rfl rfl ?_
  refine j_callV X (m_thrown hok hst hM2) i_X10_thrown tw_6_124 tw_6_125 tw_6_126 M0 rfl dL_law_1158 ?_ (hmc := by show _ ≤ 603072; omega) (hms := by show _ ≤ 7219306; omega)
  rw [h7]
  refine j_iload X (i := 6) dL_law_1161 rfl ?_
  refine j_icmp_eq X (tgt := 1168) dL_law_1163 (by decide) (fun _ => ?_) (fun q9 => absurd rfl q9)
  refine j_iload X (i := 6) dL_law_1168 rfl ?_
  refine j_if_ne X (tgt := 1185) dL_law_1170 (by decide) (fun h9 => ?_) (fun h9 => ?_)
  · refine j_goto X (tgt := 3209) dL_law_1185 (by decide) ?_
    exact j_drop 6 (j_drop 7 (k _ _ _ _ ⟨hP2, hM2, ⟨_, hO2⟩, ⟨_, hD2⟩, hG2.low fun c9 hc9 => hf3 c9 (by omega), ⟨_, hR3⟩, kq_P hK _ _⟩))
  · have ha := ha h9
    refine j_aload_n X (i := 3) dL_law_1173 rfl rfl ?_
    refine j_iconst X (v := (nI 0)) dL_law_1174 (by decide) ?_
    refine j_laload X hO2 rfl ⟨by decide, by decide⟩ dL_law_1175 ?_
    refine j_iload X (i := 7) dL_law_1176 rfl ?_
    refine j_i2l X dL_law_1178 rfl ?_
    rw [ha]
    refine j_lcmp X dL_law_1179 ?_
    rw [lg_cmp_0]
    refine j_if_eq X (tgt := 1185) dL_law_1180 (by decide) (fun _ => ?_) (fun q9 => absurd rfl q9)
    refine j_goto X (tgt := 3209) dL_law_1185 (by decide) ?_
    exact j_drop 6 (j_drop 7 (k _ _ _ _ ⟨hP2, hM2, ⟨_, hO2⟩, ⟨_, hD2⟩, hG2.low fun c9 hc9 => hf3 c9 (by omega), ⟨_, hR3⟩, kq_P hK _ _⟩))
theorem law_14 (X : jX p l s m args meth c (mLaw nm) g none) (hst : l.stackTraces = false) (hK9 : oKw g K kw sa w9) (hX : va_X b L xs (j0 g) (j0 g).heap) (hb : b < jb g) (hi : i + 5 ≤ L) (hL : L ≤ 2560) (hc : cells + 3 ≤ 603072) (hs : slots + 18 ≤ 7219306) (I : LI g kw sk t G) (k : ∀ z2 sk2 t2 G2, LI g kw sk2 t2 G2 → J p l e room_1 s m args below meth c Q 9 g (cells + 3) (slots + 18) z2 sk2 t2 3209 [some (.ref b), some (.ref (jb g + 0)), some (.ref (jb g + 454)), some (.ref (jb g + 462)), some (.ref (jb g + 463)), some (.int (nI i)), none, none, none] []) : J p l e room_1 s m args below meth c Q 9 g cells slots z sk t 1188 [some (.ref b), some (.ref (jb g + 0)), some (.ref (jb g + 454)), some (.ref (jb g + 462)), some (.ref (jb g + 463)), some (.int (nI i)), none, none, none] [] := by
  have hok := X.ok
  obtain ⟨hP, hM, ⟨a1, hO⟩, ⟨a2, hD⟩, hG, ⟨n0, hR⟩, hK⟩ := id I
  refine j_aload_n X (i := 1) dL_law_1188 rfl rfl ?_
  refine j_aload_n X (i := 0) dL_law_1189 rfl rfl ?_
  refine j_iload X (i := 5) dL_law_1190 rfl ?_
  refine j_iconst X (v := (nI 1)) dL_law_1192 (by decide) ?_
  refine j_iadd X dL_law_1193 ?_
  refine j_sld X hX hb (nI_add _ _) (by omega) (by omega) dL_law_1194 ?_
  refine j_aload_n X (i := 0) dL_law_1195 rfl rfl ?_
  refine j_iload X (i := 5) dL_law_1196 rfl ?_
  refine j_iconst X (v := (nI 2)) dL_law_1198 (by decide) ?_
  refine j_iadd X dL_law_1199 ?_
  refine j_sld X hX hb (nI_add _ _) (by omega) (by omega) dL_law_1200 ?_
  refine j_aload_n X (i := 3) dL_law_1201 rfl rfl ?_
  refine j_callSW_p X (w_bestShiftX hok hst hP hG hK hO (xs (i + 1)) (xs (i + 2))) iw_bestShiftX tw_4_31 tw_4_32 dL_law_1202 (fun v2 z2 sk2 t2 hp => ?_) (by show _ ≤ 603072; omega) (by show _ ≤ 7219306; omega)
  obtain ⟨rfl, hP2, hM2, ⟨a3, hO2, ha⟩, ⟨a4, hD2⟩, hG2, n1, hR2⟩ := LI.wrap I hp
  obtain ⟨M0, -⟩ := id hM2
  refine j_istore X (i := 6) dL_law_1205 (by decide) rfl ?_
  refine j_aload_n X (i := 2) dL_law_1207 rfl rfl ?_
  refine j_aload_n X (i := 0) dL_law_1208 rfl rfl ?_
  refine j_iload X (i := 5) dL_law_1209 rfl ?_
  refine j_iconst X (v := (nI 1)) dL_law_1211 (by decide) ?_
  refine j_iadd X dL_law_1212 ?_
  refine j_sld X hX hb (nI_add _ _) (by omega) (by omega) dL_law_1213 ?_
  refine j_aload_n X (i := 0) dL_law_1214 rfl rfl ?_
  refine j_iload X (i := 5) dL_law_1215 rfl ?_
  refine j_iconst X (v := (nI 2)) dL_law_1217 (by decide) ?_
  refine j_iadd X dL_law_1218 ?_
  refine j_sld X hX hb (nI_add _ _) (by omega) (by omega) dL_law_1219 ?_
  refine j_callV_p X (m_bestShiftX hok hst hM2 hR2 hK (xs (i + 1)) (xs (i + 2))) i_X10_bestShiftX tw_7_21 tw_7_22 tw_7_23 M0 rfl dL_law_1220 (fun v3 z3 sk3 t3 hq => ?_) (hmc := by show _ ≤ 603072; omega) (hms := by show _ ≤ 7219306; omega)
  obtain ⟨rfl, rfl, rfl, h7, hR3, hf3⟩ := hq
  refine j_istore X (i := 7) dL_law_1223 (by decide) rfl ?_
  refine j_aload_n X (i := 2) dL_law_1225 rfl rfl ?_
  refine j_callV X (m_thrown hok hst hM2) i_X10_thrown tw_6_124 tw_6_125 tw_6_126 M0 rfl dL_law_1226 ?_ (hmc := by show _ ≤ 603072; omega) (hms := by show _ ≤ 7219306; omega)
  rw [h7]
  refine j_iload X (i := 6) dL_law_1229 rfl ?_
  refine j_icmp_eq X (tgt := 1236) dL_law_1231 (by decide) (fun _ => ?_) (fun q9 => absurd rfl q9)
  refine j_iload X (i := 6) dL_law_1236 rfl ?_
  refine j_if_ne X (tgt := 1253) dL_law_1238 (by decide) (fun h9 => ?_) (fun h9 => ?_)
  · refine j_goto X (tgt := 3209) dL_law_1253 (by decide) ?_
    exact j_drop 6 (j_drop 7 (k _ _ _ _ ⟨hP2, hM2, ⟨_, hO2⟩, ⟨_, hD2⟩, hG2.low fun c9 hc9 => hf3 c9 (by omega), ⟨_, hR3⟩, kq_P hK _ _⟩))
  · have ha := ha h9
    refine j_aload_n X (i := 3) dL_law_1241 rfl rfl ?_
    refine j_iconst X (v := (nI 0)) dL_law_1242 (by decide) ?_
    refine j_laload X hO2 rfl ⟨by decide, by decide⟩ dL_law_1243 ?_
    refine j_iload X (i := 7) dL_law_1244 rfl ?_
    refine j_i2l X dL_law_1246 rfl ?_
    rw [ha]
    refine j_lcmp X dL_law_1247 ?_
    rw [lg_cmp_0]
    refine j_if_eq X (tgt := 1253) dL_law_1248 (by decide) (fun _ => ?_) (fun q9 => absurd rfl q9)
    refine j_goto X (tgt := 3209) dL_law_1253 (by decide) ?_
    exact j_drop 6 (j_drop 7 (k _ _ _ _ ⟨hP2, hM2, ⟨_, hO2⟩, ⟨_, hD2⟩, hG2.low fun c9 hc9 => hf3 c9 (by omega), ⟨_, hR3⟩, kq_P hK _ _⟩))
theorem law_15 (X : jX p l s m args meth c (mLaw nm) g none) (hst : l.stackTraces = false) (hK9 : oKw g K kw sa w9) (hX : va_X b L xs (j0 g) (j0 g).heap) (hb : b < jb g) (hi : i + 5 ≤ L) (hL : L ≤ 2560) (hc : cells + 3 ≤ 603072) (hs : slots + 18 ≤ 7219306) (I : LI g kw sk t G) (k : ∀ z2 sk2 t2 G2, LI g kw sk2 t2 G2 → J p l e room_1 s m args below meth c Q 9 g (cells + 3) (slots + 18) z2 sk2 t2 3209 [some (.ref b), some (.ref (jb g + 0)), some (.ref (jb g + 454)), some (.ref (jb g + 462)), some (.ref (jb g + 463)), some (.int (nI i)), none, none, none] []) : J p l e room_1 s m args below meth c Q 9 g cells slots z sk t 1256 [some (.ref b), some (.ref (jb g + 0)), some (.ref (jb g + 454)), some (.ref (jb g + 462)), some (.ref (jb g + 463)), some (.int (nI i)), none, none, none] [] := by
  have hok := X.ok
  obtain ⟨hP, hM, ⟨a1, hO⟩, ⟨a2, hD⟩, hG, ⟨n0, hR⟩, hK⟩ := id I
  refine j_aload_n X (i := 1) dL_law_1256 rfl rfl ?_
  refine j_aload_n X (i := 0) dL_law_1257 rfl rfl ?_
  refine j_iload X (i := 5) dL_law_1258 rfl ?_
  refine j_iconst X (v := (nI 1)) dL_law_1260 (by decide) ?_
  refine j_iadd X dL_law_1261 ?_
  refine j_sld X hX hb (nI_add _ _) (by omega) (by omega) dL_law_1262 ?_
  refine j_aload_n X (i := 0) dL_law_1263 rfl rfl ?_
  refine j_iload X (i := 5) dL_law_1264 rfl ?_
  refine j_iconst X (v := (nI 2)) dL_law_1266 (by decide) ?_
  refine j_iadd X dL_law_1267 ?_
  refine j_sld X hX hb (nI_add _ _) (by omega) (by omega) dL_law_1268 ?_
  refine j_aload_n X (i := 3) dL_law_1269 rfl rfl ?_
  refine j_callSW_p X (w_bestShiftY hok hst hP hG hK hO (xs (i + 1)) (xs (i + 2))) iw_bestShiftY tw_4_38 tw_4_39 dL_law_1270 (fun v2 z2 sk2 t2 hp => ?_) (by show _ ≤ 603072; omega) (by show _ ≤ 7219306; omega)
  obtain ⟨rfl, hP2, hM2, ⟨a3, hO2, ha⟩, ⟨a4, hD2⟩, hG2, n1, hR2⟩ := LI.wrap I hp
  obtain ⟨M0, -⟩ := id hM2
  refine j_istore X (i := 6) dL_law_1273 (by decide) rfl ?_
  refine j_aload_n X (i := 2) dL_law_1275 rfl rfl ?_
  refine j_aload_n X (i := 0) dL_law_1276 rfl rfl ?_
  refine j_iload X (i := 5) dL_law_1277 rfl ?_
  refine j_iconst X (v := (nI 1)) dL_law_1279 (by decide) ?_
  refine j_iadd X dL_law_1280 ?_
  refine j_sld X hX hb (nI_add _ _) (by omega) (by omega) dL_law_1281 ?_
  refine j_aload_n X (i := 0) dL_law_1282 rfl rfl ?_
  refine j_iload X (i := 5) dL_law_1283 rfl ?_
  refine j_iconst X (v := (nI 2)) dL_law_1285 (by decide) ?_
  refine j_iadd X dL_law_1286 ?_
  refine j_sld X hX hb (nI_add _ _) (by omega) (by omega) dL_law_1287 ?_
  refine j_callV_p X (m_bestShiftY hok hst hM2 hR2 hK (xs (i + 1)) (xs (i + 2))) i_X10_bestShiftY tw_7_25 tw_7_26 tw_7_27 M0 rfl dL_law_1288 (fun v3 z3 sk3 t3 hq => ?_) (hmc := by show _ ≤ 603072; omega) (hms := by show _ ≤ 7219306; omega)
  obtain ⟨rfl, rfl, rfl, h7, hR3, hf3⟩ := hq
  refine j_istore X (i := 7) dL_law_1291 (by decide) rfl ?_
  refine j_aload_n X (i := 2) dL_law_1293 rfl rfl ?_
  refine j_callV X (m_thrown hok hst hM2) i_X10_thrown tw_6_124 tw_6_125 tw_6_126 M0 rfl dL_law_1294 ?_ (hmc := by show _ ≤ 603072; omega) (hms := by show _ ≤ 7219306; omega)
  rw [h7]
  refine j_iload X (i := 6) dL_law_1297 rfl ?_
  refine j_icmp_eq X (tgt := 1304) dL_law_1299 (by decide) (fun _ => ?_) (fun q9 => absurd rfl q9)
  refine j_iload X (i := 6) dL_law_1304 rfl ?_
  refine j_if_ne X (tgt := 1321) dL_law_1306 (by decide) (fun h9 => ?_) (fun h9 => ?_)
  · refine j_goto X (tgt := 3209) dL_law_1321 (by decide) ?_
    exact j_drop 6 (j_drop 7 (k _ _ _ _ ⟨hP2, hM2, ⟨_, hO2⟩, ⟨_, hD2⟩, hG2.low fun c9 hc9 => hf3 c9 (by omega), ⟨_, hR3⟩, kq_P hK _ _⟩))
  · have ha := ha h9
    refine j_aload_n X (i := 3) dL_law_1309 rfl rfl ?_
    refine j_iconst X (v := (nI 0)) dL_law_1310 (by decide) ?_
    refine j_laload X hO2 rfl ⟨by decide, by decide⟩ dL_law_1311 ?_
    refine j_iload X (i := 7) dL_law_1312 rfl ?_
    refine j_i2l X dL_law_1314 rfl ?_
    rw [ha]
    refine j_lcmp X dL_law_1315 ?_
    rw [lg_cmp_0]
    refine j_if_eq X (tgt := 1321) dL_law_1316 (by decide) (fun _ => ?_) (fun q9 => absurd rfl q9)
    refine j_goto X (tgt := 3209) dL_law_1321 (by decide) ?_
    exact j_drop 6 (j_drop 7 (k _ _ _ _ ⟨hP2, hM2, ⟨_, hO2⟩, ⟨_, hD2⟩, hG2.low fun c9 hc9 => hf3 c9 (by omega), ⟨_, hR3⟩, kq_P hK _ _⟩))
theorem law_16 (X : jX p l s m args meth c (mLaw nm) g none) (hst : l.stackTraces = false) (hK9 : oKw g K kw sa w9) (hX : va_X b L xs (j0 g) (j0 g).heap) (hb : b < jb g) (hi : i + 5 ≤ L) (hL : L ≤ 2560) (hc : cells + 3 ≤ 603072) (hs : slots + 18 ≤ 7219306) (I : LI g kw sk t G) (k : ∀ z2 sk2 t2 G2, LI g kw sk2 t2 G2 → J p l e room_1 s m args below meth c Q 9 g (cells + 3) (slots + 18) z2 sk2 t2 3209 [some (.ref b), some (.ref (jb g + 0)), some (.ref (jb g + 454)), some (.ref (jb g + 462)), some (.ref (jb g + 463)), some (.int (nI i)), none, none, none] []) : J p l e room_1 s m args below meth c Q 9 g cells slots z sk t 1324 [some (.ref b), some (.ref (jb g + 0)), some (.ref (jb g + 454)), some (.ref (jb g + 462)), some (.ref (jb g + 463)), some (.int (nI i)), none, none, none] [] := by
  have hok := X.ok
  obtain ⟨hP, hM, ⟨a1, hO⟩, ⟨a2, hD⟩, hG, ⟨n0, hR⟩, hK⟩ := id I
  refine j_aload_n X (i := 1) dL_law_1324 rfl rfl ?_
  refine j_aload_n X (i := 3) dL_law_1325 rfl rfl ?_
  refine j_callSW_p X (w_addSheet hok hst hP hG hK hO) iw_addSheet tw_4_45 tw_4_46 dL_law_1326 (fun v2 z2 sk2 t2 hp => ?_) (by show _ ≤ 603072; omega) (by show _ ≤ 7219306; omega)
  obtain ⟨rfl, hP2, hM2, ⟨a3, hO2, ha⟩, ⟨a4, hD2⟩, hG2, n1, hR2⟩ := LI.wrap I hp
  obtain ⟨M0, -⟩ := id hM2
  refine j_istore X (i := 6) dL_law_1329 (by decide) rfl ?_
  refine j_aload_n X (i := 2) dL_law_1331 rfl rfl ?_
  refine j_callV_p X (m_addSheet hok hst hM2 hR2 hK) i_X10_addSheet tw_7_29 tw_7_30 tw_7_31 M0 rfl dL_law_1332 (fun v3 z3 sk3 t3 hq => ?_) (hmc := by show _ ≤ 603072; omega) (hms := by show _ ≤ 7219306; omega)
  obtain ⟨rfl, rfl, rfl, h7, hR3, hf3⟩ := hq
  refine j_istore X (i := 7) dL_law_1335 (by decide) rfl ?_
  refine j_aload_n X (i := 2) dL_law_1337 rfl rfl ?_
  refine j_callV X (m_thrown hok hst hM2) i_X10_thrown tw_6_124 tw_6_125 tw_6_126 M0 rfl dL_law_1338 ?_ (hmc := by show _ ≤ 603072; omega) (hms := by show _ ≤ 7219306; omega)
  rw [h7]
  refine j_iload X (i := 6) dL_law_1341 rfl ?_
  refine j_icmp_eq X (tgt := 1348) dL_law_1343 (by decide) (fun _ => ?_) (fun q9 => absurd rfl q9)
  refine j_iload X (i := 6) dL_law_1348 rfl ?_
  refine j_if_ne X (tgt := 1365) dL_law_1350 (by decide) (fun h9 => ?_) (fun h9 => ?_)
  · refine j_goto X (tgt := 3209) dL_law_1365 (by decide) ?_
    exact j_drop 6 (j_drop 7 (k _ _ _ _ ⟨hP2, hM2, ⟨_, hO2⟩, ⟨_, hD2⟩, hG2.low fun c9 hc9 => hf3 c9 (by omega), ⟨_, hR3⟩, k_addSheet hK⟩))
  · have ha := ha h9
    refine j_aload_n X (i := 3) dL_law_1353 rfl rfl ?_
    refine j_iconst X (v := (nI 0)) dL_law_1354 (by decide) ?_
    refine j_laload X hO2 rfl ⟨by decide, by decide⟩ dL_law_1355 ?_
    refine j_iload X (i := 7) dL_law_1356 rfl ?_
    refine j_i2l X dL_law_1358 rfl ?_
    rw [ha]
    refine j_lcmp X dL_law_1359 ?_
    rw [lg_cmp_0]
    refine j_if_eq X (tgt := 1365) dL_law_1360 (by decide) (fun _ => ?_) (fun q9 => absurd rfl q9)
    refine j_goto X (tgt := 3209) dL_law_1365 (by decide) ?_
    exact j_drop 6 (j_drop 7 (k _ _ _ _ ⟨hP2, hM2, ⟨_, hO2⟩, ⟨_, hD2⟩, hG2.low fun c9 hc9 => hf3 c9 (by omega), ⟨_, hR3⟩, k_addSheet hK⟩))
theorem law_17 (X : jX p l s m args meth c (mLaw nm) g none) (hst : l.stackTraces = false) (hK9 : oKw g K kw sa w9) (hX : va_X b L xs (j0 g) (j0 g).heap) (hb : b < jb g) (hi : i + 5 ≤ L) (hL : L ≤ 2560) (hc : cells + 3 ≤ 603072) (hs : slots + 18 ≤ 7219306) (I : LI g kw sk t G) (k : ∀ z2 sk2 t2 G2, LI g kw sk2 t2 G2 → J p l e room_1 s m args below meth c Q 9 g (cells + 3) (slots + 18) z2 sk2 t2 3209 [some (.ref b), some (.ref (jb g + 0)), some (.ref (jb g + 454)), some (.ref (jb g + 462)), some (.ref (jb g + 463)), some (.int (nI i)), none, none, none] []) : J p l e room_1 s m args below meth c Q 9 g cells slots z sk t 1368 [some (.ref b), some (.ref (jb g + 0)), some (.ref (jb g + 454)), some (.ref (jb g + 462)), some (.ref (jb g + 463)), some (.int (nI i)), none, none, none] [] := by
  have hok := X.ok
  obtain ⟨hP, hM, ⟨a1, hO⟩, ⟨a2, hD⟩, hG, ⟨n0, hR⟩, hK⟩ := id I
  refine j_aload_n X (i := 1) dL_law_1368 rfl rfl ?_
  refine j_aload_n X (i := 0) dL_law_1369 rfl rfl ?_
  refine j_iload X (i := 5) dL_law_1370 rfl ?_
  refine j_iconst X (v := (nI 1)) dL_law_1372 (by decide) ?_
  refine j_iadd X dL_law_1373 ?_
  refine j_sld X hX hb (nI_add _ _) (by omega) (by omega) dL_law_1374 ?_
  refine j_aload_n X (i := 0) dL_law_1375 rfl rfl ?_
  refine j_iload X (i := 5) dL_law_1376 rfl ?_
  refine j_iconst X (v := (nI 2)) dL_law_1378 (by decide) ?_
  refine j_iadd X dL_law_1379 ?_
  refine j_sld X hX hb (nI_add _ _) (by omega) (by omega) dL_law_1380 ?_
  refine j_aload_n X (i := 3) dL_law_1381 rfl rfl ?_
  refine j_callSW_p X (w_print hok hst hP hG hK hO (xs (i + 1)) (xs (i + 2))) iw_print tw_4_56 tw_4_57 dL_law_1382 (fun v2 z2 sk2 t2 hp => ?_) (by show _ ≤ 603072; omega) (by show _ ≤ 7219306; omega)
  obtain ⟨rfl, hP2, hM2, ⟨a3, hO2, ha⟩, ⟨a4, hD2⟩, hG2, n1, hR2⟩ := LI.wrap I hp
  obtain ⟨M0, -⟩ := id hM2
  refine j_istore X (i := 6) dL_law_1385 (by decide) rfl ?_
  refine j_aload_n X (i := 2) dL_law_1387 rfl rfl ?_
  refine j_aload_n X (i := 0) dL_law_1388 rfl rfl ?_
  refine j_iload X (i := 5) dL_law_1389 rfl ?_
  refine j_iconst X (v := (nI 1)) dL_law_1391 (by decide) ?_
  refine j_iadd X dL_law_1392 ?_
  refine j_sld X hX hb (nI_add _ _) (by omega) (by omega) dL_law_1393 ?_
  refine j_aload_n X (i := 0) dL_law_1394 rfl rfl ?_
  refine j_iload X (i := 5) dL_law_1395 rfl ?_
  refine j_iconst X (v := (nI 2)) dL_law_1397 (by decide) ?_
  refine j_iadd X dL_law_1398 ?_
  refine j_sld X hX hb (nI_add _ _) (by omega) (by omega) dL_law_1399 ?_
  refine j_callV_p X (m_print hok hst hM2 hR2 hK (xs (i + 1)) (xs (i + 2))) i_X10_print tw_7_37 tw_7_38 tw_7_39 M0 rfl dL_law_1400 (fun v3 z3 sk3 t3 hq => ?_) (hmc := by show _ ≤ 603072; omega) (hms := by show _ ≤ 7219306; omega)
  obtain ⟨rfl, rfl, rfl, h7, hR3, hf3⟩ := hq
  refine j_istore X (i := 7) dL_law_1403 (by decide) rfl ?_
  refine j_aload_n X (i := 2) dL_law_1405 rfl rfl ?_
  refine j_callV X (m_thrown hok hst hM2) i_X10_thrown tw_6_124 tw_6_125 tw_6_126 M0 rfl dL_law_1406 ?_ (hmc := by show _ ≤ 603072; omega) (hms := by show _ ≤ 7219306; omega)
  rw [h7]
  refine j_iload X (i := 6) dL_law_1409 rfl ?_
  refine j_icmp_eq X (tgt := 1416) dL_law_1411 (by decide) (fun _ => ?_) (fun q9 => absurd rfl q9)
  refine j_iload X (i := 6) dL_law_1416 rfl ?_
  refine j_if_ne X (tgt := 1433) dL_law_1418 (by decide) (fun h9 => ?_) (fun h9 => ?_)
  · refine j_goto X (tgt := 3209) dL_law_1433 (by decide) ?_
    exact j_drop 6 (j_drop 7 (k _ _ _ _ ⟨hP2, hM2, ⟨_, hO2⟩, ⟨_, hD2⟩, hG2.low fun c9 hc9 => hf3 c9 (by omega), ⟨_, hR3⟩, k_print hK (xs (i + 1)) (xs (i + 2))⟩))
  · have ha := ha h9
    refine j_aload_n X (i := 3) dL_law_1421 rfl rfl ?_
    refine j_iconst X (v := (nI 0)) dL_law_1422 (by decide) ?_
    refine j_laload X hO2 rfl ⟨by decide, by decide⟩ dL_law_1423 ?_
    refine j_iload X (i := 7) dL_law_1424 rfl ?_
    refine j_i2l X dL_law_1426 rfl ?_
    rw [ha]
    refine j_lcmp X dL_law_1427 ?_
    rw [lg_cmp_0]
    refine j_if_eq X (tgt := 1433) dL_law_1428 (by decide) (fun _ => ?_) (fun q9 => absurd rfl q9)
    refine j_goto X (tgt := 3209) dL_law_1433 (by decide) ?_
    exact j_drop 6 (j_drop 7 (k _ _ _ _ ⟨hP2, hM2, ⟨_, hO2⟩, ⟨_, hD2⟩, hG2.low fun c9 hc9 => hf3 c9 (by omega), ⟨_, hR3⟩, k_print hK (xs (i + 1)) (xs (i + 2))⟩))
theorem law_18 (X : jX p l s m args meth c (mLaw nm) g none) (hst : l.stackTraces = false) (hK9 : oKw g K kw sa w9) (hX : va_X b L xs (j0 g) (j0 g).heap) (hb : b < jb g) (hi : i + 5 ≤ L) (hL : L ≤ 2560) (hc : cells + 3 ≤ 603072) (hs : slots + 18 ≤ 7219306) (I : LI g kw sk t G) (k : ∀ z2 sk2 t2 G2, LI g kw sk2 t2 G2 → J p l e room_1 s m args below meth c Q 9 g (cells + 3) (slots + 18) z2 sk2 t2 3209 [some (.ref b), some (.ref (jb g + 0)), some (.ref (jb g + 454)), some (.ref (jb g + 462)), some (.ref (jb g + 463)), some (.int (nI i)), none, none, none] []) : J p l e room_1 s m args below meth c Q 9 g cells slots z sk t 1436 [some (.ref b), some (.ref (jb g + 0)), some (.ref (jb g + 454)), some (.ref (jb g + 462)), some (.ref (jb g + 463)), some (.int (nI i)), none, none, none] [] := by
  have hok := X.ok
  obtain ⟨hP, hM, ⟨a1, hO⟩, ⟨a2, hD⟩, hG, ⟨n0, hR⟩, hK⟩ := id I
  refine j_aload_n X (i := 1) dL_law_1436 rfl rfl ?_
  refine j_aload_n X (i := 0) dL_law_1437 rfl rfl ?_
  refine j_iload X (i := 5) dL_law_1438 rfl ?_
  refine j_iconst X (v := (nI 1)) dL_law_1440 (by decide) ?_
  refine j_iadd X dL_law_1441 ?_
  refine j_sld X hX hb (nI_add _ _) (by omega) (by omega) dL_law_1442 ?_
  refine j_aload_n X (i := 3) dL_law_1443 rfl rfl ?_
  refine j_callSW_p X (w_wouldSmear hok hst hP hG hK hO (xs (i + 1))) iw_wouldSmear tw_4_93 tw_4_94 dL_law_1444 (fun v2 z2 sk2 t2 hp => ?_) (by show _ ≤ 603072; omega) (by show _ ≤ 7219306; omega)
  obtain ⟨rfl, hP2, hM2, ⟨a3, hO2, ha⟩, ⟨a4, hD2⟩, hG2, n1, hR2⟩ := LI.wrap I hp
  obtain ⟨M0, -⟩ := id hM2
  refine j_istore X (i := 6) dL_law_1447 (by decide) rfl ?_
  refine j_aload_n X (i := 2) dL_law_1449 rfl rfl ?_
  refine j_aload_n X (i := 0) dL_law_1450 rfl rfl ?_
  refine j_iload X (i := 5) dL_law_1451 rfl ?_
  refine j_iconst X (v := (nI 1)) dL_law_1453 (by decide) ?_
  refine j_iadd X dL_law_1454 ?_
  refine j_sld X hX hb (nI_add _ _) (by omega) (by omega) dL_law_1455 ?_
  refine j_callV_p X (m_wouldSmear hok hst hM2 hR2 hK (xs (i + 1))) i_X10_wouldSmear tw_7_62 tw_7_63 tw_7_64 M0 rfl dL_law_1456 (fun v3 z3 sk3 t3 hq => ?_) (hmc := by show _ ≤ 603072; omega) (hms := by show _ ≤ 7219306; omega)
  obtain ⟨rfl, rfl, rfl, h7, hR3, hf3⟩ := hq
  refine j_istore X (i := 7) dL_law_1459 (by decide) rfl ?_
  refine j_aload_n X (i := 2) dL_law_1461 rfl rfl ?_
  refine j_callV X (m_thrown hok hst hM2) i_X10_thrown tw_6_124 tw_6_125 tw_6_126 M0 rfl dL_law_1462 ?_ (hmc := by show _ ≤ 603072; omega) (hms := by show _ ≤ 7219306; omega)
  rw [h7]
  refine j_iload X (i := 6) dL_law_1465 rfl ?_
  refine j_icmp_eq X (tgt := 1472) dL_law_1467 (by decide) (fun _ => ?_) (fun q9 => absurd rfl q9)
  refine j_iload X (i := 6) dL_law_1472 rfl ?_
  refine j_if_ne X (tgt := 1496) dL_law_1474 (by decide) (fun h9 => ?_) (fun h9 => ?_)
  · refine j_goto X (tgt := 3209) dL_law_1496 (by decide) ?_
    exact j_drop 6 (j_drop 7 (k _ _ _ _ ⟨hP2, hM2, ⟨_, hO2⟩, ⟨_, hD2⟩, hG2.low fun c9 hc9 => hf3 c9 (by omega), ⟨_, hR3⟩, kq_P hK _ _⟩))
  · have ha := ha h9
    refine j_aload_n X (i := 3) dL_law_1477 rfl rfl ?_
    refine j_iconst X (v := (nI 0)) dL_law_1478 (by decide) ?_
    refine j_laload X hO2 rfl ⟨by decide, by decide⟩ dL_law_1479 ?_
    refine j_iload X (i := 7) dL_law_1480 rfl ?_
    rw [ha]
    refine j_if_eq X (tgt := 1489) dL_law_1482 (by decide) (fun h8 => ?_) (fun h8 => ?_)
    · refine j_lconst X (v := 0) dL_law_1489 (by decide) ?_
      rw [cvB_0 h8]
      refine j_lcmp X dL_law_1490 ?_
      rw [lg_cmp_0]
      refine j_if_eq X (tgt := 1496) dL_law_1491 (by decide) (fun _ => ?_) (fun q9 => absurd rfl q9)
      refine j_goto X (tgt := 3209) dL_law_1496 (by decide) ?_
      exact j_drop 6 (j_drop 7 (k _ _ _ _ ⟨hP2, hM2, ⟨_, hO2⟩, ⟨_, hD2⟩, hG2.low fun c9 hc9 => hf3 c9 (by omega), ⟨_, hR3⟩, kq_P hK _ _⟩))
    · refine j_lconst X (v := 1) dL_law_1485 (by decide) ?_
      refine j_goto X (tgt := 1490) dL_law_1486 (by decide) ?_
      rw [cvB_1 h8]
      refine j_lcmp X dL_law_1490 ?_
      rw [lg_cmp_0]
      refine j_if_eq X (tgt := 1496) dL_law_1491 (by decide) (fun _ => ?_) (fun q9 => absurd rfl q9)
      refine j_goto X (tgt := 3209) dL_law_1496 (by decide) ?_
      exact j_drop 6 (j_drop 7 (k _ _ _ _ ⟨hP2, hM2, ⟨_, hO2⟩, ⟨_, hD2⟩, hG2.low fun c9 hc9 => hf3 c9 (by omega), ⟨_, hR3⟩, kq_P hK _ _⟩))
theorem law_19 (X : jX p l s m args meth c (mLaw nm) g none) (hst : l.stackTraces = false) (hK9 : oKw g K kw sa w9) (hX : va_X b L xs (j0 g) (j0 g).heap) (hb : b < jb g) (hi : i + 5 ≤ L) (hL : L ≤ 2560) (hc : cells + 3 ≤ 603072) (hs : slots + 18 ≤ 7219306) (I : LI g kw sk t G) (k : ∀ z2 sk2 t2 G2, LI g kw sk2 t2 G2 → J p l e room_1 s m args below meth c Q 9 g (cells + 3) (slots + 18) z2 sk2 t2 3209 [some (.ref b), some (.ref (jb g + 0)), some (.ref (jb g + 454)), some (.ref (jb g + 462)), some (.ref (jb g + 463)), some (.int (nI i)), none, none, none] []) : J p l e room_1 s m args below meth c Q 9 g cells slots z sk t 1499 [some (.ref b), some (.ref (jb g + 0)), some (.ref (jb g + 454)), some (.ref (jb g + 462)), some (.ref (jb g + 463)), some (.int (nI i)), none, none, none] [] := by
  have hok := X.ok
  obtain ⟨hP, hM, ⟨a1, hO⟩, ⟨a2, hD⟩, hG, ⟨n0, hR⟩, hK⟩ := id I
  obtain ⟨P0, -⟩ := id hP
  obtain ⟨M0, -⟩ := id hM
  refine j_aload_n X (i := 1) dL_law_1499 rfl rfl ?_
  refine j_callV_p X (f_sheetCount hok hst hP hG hK) i_X9_sheetCount tw_2_43 tw_2_44 tw_2_45 P0 rfl dL_law_1500 (fun v2 z2 sk2 t2 hp => ?_) (hmc := by show _ ≤ 603072; omega) (hms := by show _ ≤ 7219306; omega)
  obtain ⟨-, rfl, rfl, rfl, hG2, hf⟩ := hp
  have hR2 : RmG t2 454 (false, n0) G := hR.same fun c9 hc9 => hf c9 hc9
  refine j_aload_n X (i := 2) dL_law_1503 rfl rfl ?_
  refine j_callV_p X (m_sheetCount hok hst hM hR2 hK) i_X10_sheetCount tw_7_70 tw_7_71 tw_7_72 M0 rfl dL_law_1504 (fun v3 z3 sk3 t3 hq => ?_) (hmc := by show _ ≤ 603072; omega) (hms := by show _ ≤ 7219306; omega)
  obtain ⟨rfl, rfl, rfl, -, hR3, hf3⟩ := hq
  refine j_icmp_eq X (tgt := 3209) dL_law_1507 (by decide) (fun _ => ?_) (fun q9 => absurd rfl q9)
  refine j_widen (k := cells + 3) (n := slots + 18) (by omega) (by omega) ?_
  exact k _ _ _ _ ⟨hP, hM, ⟨a1, hO⟩, ⟨a2, hD⟩, hG2.low fun c9 hc9 => hf3 c9 (by omega), ⟨_, hR3⟩, hK⟩
theorem law_20 (X : jX p l s m args meth c (mLaw nm) g none) (hst : l.stackTraces = false) (hK9 : oKw g K kw sa w9) (hX : va_X b L xs (j0 g) (j0 g).heap) (hb : b < jb g) (hi : i + 5 ≤ L) (hL : L ≤ 2560) (hc : cells + 3 ≤ 603072) (hs : slots + 18 ≤ 7219306) (I : LI g kw sk t G) (k : ∀ z2 sk2 t2 G2, LI g kw sk2 t2 G2 → J p l e room_1 s m args below meth c Q 9 g (cells + 3) (slots + 18) z2 sk2 t2 3209 [some (.ref b), some (.ref (jb g + 0)), some (.ref (jb g + 454)), some (.ref (jb g + 462)), some (.ref (jb g + 463)), some (.int (nI i)), none, none, none] []) : J p l e room_1 s m args below meth c Q 9 g cells slots z sk t 1512 [some (.ref b), some (.ref (jb g + 0)), some (.ref (jb g + 454)), some (.ref (jb g + 462)), some (.ref (jb g + 463)), some (.int (nI i)), none, none, none] [] := by
  have hok := X.ok
  obtain ⟨hP, hM, ⟨a1, hO⟩, ⟨a2, hD⟩, hG, ⟨n0, hR⟩, hK⟩ := id I
  refine j_aload_n X (i := 1) dL_law_1512 rfl rfl ?_
  refine j_aload_n X (i := 0) dL_law_1513 rfl rfl ?_
  refine j_iload X (i := 5) dL_law_1514 rfl ?_
  refine j_iconst X (v := (nI 1)) dL_law_1516 (by decide) ?_
  refine j_iadd X dL_law_1517 ?_
  refine j_sld X hX hb (nI_add _ _) (by omega) (by omega) dL_law_1518 ?_
  refine j_aload_n X (i := 0) dL_law_1519 rfl rfl ?_
  refine j_iload X (i := 5) dL_law_1520 rfl ?_
  refine j_iconst X (v := (nI 2)) dL_law_1522 (by decide) ?_
  refine j_iadd X dL_law_1523 ?_
  refine j_sld X hX hb (nI_add _ _) (by omega) (by omega) dL_law_1524 ?_
  refine j_aload_n X (i := 0) dL_law_1525 rfl rfl ?_
  refine j_iload X (i := 5) dL_law_1526 rfl ?_
  refine j_iconst X (v := (nI 3)) dL_law_1528 (by decide) ?_
  refine j_iadd X dL_law_1529 ?_
  refine j_sld X hX hb (nI_add _ _) (by omega) (by omega) dL_law_1530 ?_
  refine j_aload_n X (i := 3) dL_law_1531 rfl rfl ?_
  refine j_callSW_p X (w_colour hok hst hP hG hK hO (xs (i + 1)) (xs (i + 2)) (xs (i + 3))) iw_colour tw_4_107 tw_4_108 dL_law_1532 (fun v2 z2 sk2 t2 hp => ?_) (by show _ ≤ 603072; omega) (by show _ ≤ 7219306; omega)
  obtain ⟨rfl, hP2, hM2, ⟨a3, hO2, ha⟩, ⟨a4, hD2⟩, hG2, n1, hR2⟩ := LI.wrap I hp
  obtain ⟨M0, -⟩ := id hM2
  refine j_istore X (i := 6) dL_law_1535 (by decide) rfl ?_
  refine j_aload_n X (i := 2) dL_law_1537 rfl rfl ?_
  refine j_aload_n X (i := 0) dL_law_1538 rfl rfl ?_
  refine j_iload X (i := 5) dL_law_1539 rfl ?_
  refine j_iconst X (v := (nI 1)) dL_law_1541 (by decide) ?_
  refine j_iadd X dL_law_1542 ?_
  refine j_sld X hX hb (nI_add _ _) (by omega) (by omega) dL_law_1543 ?_
  refine j_aload_n X (i := 0) dL_law_1544 rfl rfl ?_
  refine j_iload X (i := 5) dL_law_1545 rfl ?_
  refine j_iconst X (v := (nI 2)) dL_law_1547 (by decide) ?_
  refine j_iadd X dL_law_1548 ?_
  refine j_sld X hX hb (nI_add _ _) (by omega) (by omega) dL_law_1549 ?_
  refine j_aload_n X (i := 0) dL_law_1550 rfl rfl ?_
  refine j_iload X (i := 5) dL_law_1551 rfl ?_
  refine j_iconst X (v := (nI 3)) dL_law_1553 (by decide) ?_
  refine j_iadd X dL_law_1554 ?_
  refine j_sld X hX hb (nI_add _ _) (by omega) (by omega) dL_law_1555 ?_
  refine j_callV_p X (m_colour hok hst hM2 hR2 hK (xs (i + 1)) (xs (i + 2)) (xs (i + 3))) i_X10_colour tw_7_74 tw_7_75 tw_7_76 M0 rfl dL_law_1556 (fun v3 z3 sk3 t3 hq => ?_) (hmc := by show _ ≤ 603072; omega) (hms := by show _ ≤ 7219306; omega)
  obtain ⟨rfl, rfl, rfl, h7, hR3, hf3⟩ := hq
  refine j_istore X (i := 7) dL_law_1559 (by decide) rfl ?_
  refine j_aload_n X (i := 2) dL_law_1561 rfl rfl ?_
  refine j_callV X (m_thrown hok hst hM2) i_X10_thrown tw_6_124 tw_6_125 tw_6_126 M0 rfl dL_law_1562 ?_ (hmc := by show _ ≤ 603072; omega) (hms := by show _ ≤ 7219306; omega)
  rw [h7]
  refine j_iload X (i := 6) dL_law_1565 rfl ?_
  refine j_icmp_eq X (tgt := 1572) dL_law_1567 (by decide) (fun _ => ?_) (fun q9 => absurd rfl q9)
  refine j_iload X (i := 6) dL_law_1572 rfl ?_
  refine j_if_ne X (tgt := 1589) dL_law_1574 (by decide) (fun h9 => ?_) (fun h9 => ?_)
  · refine j_goto X (tgt := 3209) dL_law_1589 (by decide) ?_
    exact j_drop 6 (j_drop 7 (k _ _ _ _ ⟨hP2, hM2, ⟨_, hO2⟩, ⟨_, hD2⟩, hG2.low fun c9 hc9 => hf3 c9 (by omega), ⟨_, hR3⟩, kq_PP hK _ _ _⟩))
  · have ha := ha h9
    refine j_aload_n X (i := 3) dL_law_1577 rfl rfl ?_
    refine j_iconst X (v := (nI 0)) dL_law_1578 (by decide) ?_
    refine j_laload X hO2 rfl ⟨by decide, by decide⟩ dL_law_1579 ?_
    refine j_iload X (i := 7) dL_law_1580 rfl ?_
    refine j_i2l X dL_law_1582 rfl ?_
    rw [ha]
    refine j_lcmp X dL_law_1583 ?_
    rw [lg_cmp_0]
    refine j_if_eq X (tgt := 1589) dL_law_1584 (by decide) (fun _ => ?_) (fun q9 => absurd rfl q9)
    refine j_goto X (tgt := 3209) dL_law_1589 (by decide) ?_
    exact j_drop 6 (j_drop 7 (k _ _ _ _ ⟨hP2, hM2, ⟨_, hO2⟩, ⟨_, hD2⟩, hG2.low fun c9 hc9 => hf3 c9 (by omega), ⟨_, hR3⟩, kq_PP hK _ _ _⟩))
theorem law_21 (X : jX p l s m args meth c (mLaw nm) g none) (hst : l.stackTraces = false) (hK9 : oKw g K kw sa w9) (hX : va_X b L xs (j0 g) (j0 g).heap) (hb : b < jb g) (hi : i + 5 ≤ L) (hL : L ≤ 2560) (hc : cells + 3 ≤ 603072) (hs : slots + 18 ≤ 7219306) (I : LI g kw sk t G) (k : ∀ z2 sk2 t2 G2, LI g kw sk2 t2 G2 → J p l e room_1 s m args below meth c Q 9 g (cells + 3) (slots + 18) z2 sk2 t2 3209 [some (.ref b), some (.ref (jb g + 0)), some (.ref (jb g + 454)), some (.ref (jb g + 462)), some (.ref (jb g + 463)), some (.int (nI i)), none, none, none] []) : J p l e room_1 s m args below meth c Q 9 g cells slots z sk t 1592 [some (.ref b), some (.ref (jb g + 0)), some (.ref (jb g + 454)), some (.ref (jb g + 462)), some (.ref (jb g + 463)), some (.int (nI i)), none, none, none] [] := by
  have hok := X.ok
  obtain ⟨hP, hM, ⟨a1, hO⟩, ⟨a2, hD⟩, hG, ⟨n0, hR⟩, hK⟩ := id I
  refine j_aload_n X (i := 1) dL_law_1592 rfl rfl ?_
  refine j_aload_n X (i := 0) dL_law_1593 rfl rfl ?_
  refine j_iload X (i := 5) dL_law_1594 rfl ?_
  refine j_iconst X (v := (nI 1)) dL_law_1596 (by decide) ?_
  refine j_iadd X dL_law_1597 ?_
  refine j_sld X hX hb (nI_add _ _) (by omega) (by omega) dL_law_1598 ?_
  refine j_aload_n X (i := 0) dL_law_1599 rfl rfl ?_
  refine j_iload X (i := 5) dL_law_1600 rfl ?_
  refine j_iconst X (v := (nI 2)) dL_law_1602 (by decide) ?_
  refine j_iadd X dL_law_1603 ?_
  refine j_sld X hX hb (nI_add _ _) (by omega) (by omega) dL_law_1604 ?_
  refine j_aload_n X (i := 0) dL_law_1605 rfl rfl ?_
  refine j_iload X (i := 5) dL_law_1606 rfl ?_
  refine j_iconst X (v := (nI 3)) dL_law_1608 (by decide) ?_
  refine j_iadd X dL_law_1609 ?_
  refine j_sld X hX hb (nI_add _ _) (by omega) (by omega) dL_law_1610 ?_
  refine j_aload_n X (i := 3) dL_law_1611 rfl rfl ?_
  refine j_callSW_p X (w_intended hok hst hP hG hK hO (xs (i + 1)) (xs (i + 2)) (xs (i + 3))) iw_intended tw_4_115 tw_4_116 dL_law_1612 (fun v2 z2 sk2 t2 hp => ?_) (by show _ ≤ 603072; omega) (by show _ ≤ 7219306; omega)
  obtain ⟨rfl, hP2, hM2, ⟨a3, hO2, ha⟩, ⟨a4, hD2⟩, hG2, n1, hR2⟩ := LI.wrap I hp
  obtain ⟨M0, -⟩ := id hM2
  refine j_istore X (i := 6) dL_law_1615 (by decide) rfl ?_
  refine j_aload_n X (i := 2) dL_law_1617 rfl rfl ?_
  refine j_aload_n X (i := 0) dL_law_1618 rfl rfl ?_
  refine j_iload X (i := 5) dL_law_1619 rfl ?_
  refine j_iconst X (v := (nI 1)) dL_law_1621 (by decide) ?_
  refine j_iadd X dL_law_1622 ?_
  refine j_sld X hX hb (nI_add _ _) (by omega) (by omega) dL_law_1623 ?_
  refine j_aload_n X (i := 0) dL_law_1624 rfl rfl ?_
  refine j_iload X (i := 5) dL_law_1625 rfl ?_
  refine j_iconst X (v := (nI 2)) dL_law_1627 (by decide) ?_
  refine j_iadd X dL_law_1628 ?_
  refine j_sld X hX hb (nI_add _ _) (by omega) (by omega) dL_law_1629 ?_
  refine j_aload_n X (i := 0) dL_law_1630 rfl rfl ?_
  refine j_iload X (i := 5) dL_law_1631 rfl ?_
  refine j_iconst X (v := (nI 3)) dL_law_1633 (by decide) ?_
  refine j_iadd X dL_law_1634 ?_
  refine j_sld X hX hb (nI_add _ _) (by omega) (by omega) dL_law_1635 ?_
  refine j_callV_p X (m_intended hok hst hM2 hR2 hK (xs (i + 1)) (xs (i + 2)) (xs (i + 3))) i_X10_intended tw_7_86 tw_7_87 tw_7_88 M0 rfl dL_law_1636 (fun v3 z3 sk3 t3 hq => ?_) (hmc := by show _ ≤ 603072; omega) (hms := by show _ ≤ 7219306; omega)
  obtain ⟨rfl, rfl, rfl, h7, hR3, hf3⟩ := hq
  refine j_istore X (i := 7) dL_law_1639 (by decide) rfl ?_
  refine j_aload_n X (i := 2) dL_law_1641 rfl rfl ?_
  refine j_callV X (m_thrown hok hst hM2) i_X10_thrown tw_6_124 tw_6_125 tw_6_126 M0 rfl dL_law_1642 ?_ (hmc := by show _ ≤ 603072; omega) (hms := by show _ ≤ 7219306; omega)
  rw [h7]
  refine j_iload X (i := 6) dL_law_1645 rfl ?_
  refine j_icmp_eq X (tgt := 1652) dL_law_1647 (by decide) (fun _ => ?_) (fun q9 => absurd rfl q9)
  refine j_iload X (i := 6) dL_law_1652 rfl ?_
  refine j_if_ne X (tgt := 1669) dL_law_1654 (by decide) (fun h9 => ?_) (fun h9 => ?_)
  · refine j_goto X (tgt := 3209) dL_law_1669 (by decide) ?_
    exact j_drop 6 (j_drop 7 (k _ _ _ _ ⟨hP2, hM2, ⟨_, hO2⟩, ⟨_, hD2⟩, hG2.low fun c9 hc9 => hf3 c9 (by omega), ⟨_, hR3⟩, kq_PP hK _ _ _⟩))
  · have ha := ha h9
    refine j_aload_n X (i := 3) dL_law_1657 rfl rfl ?_
    refine j_iconst X (v := (nI 0)) dL_law_1658 (by decide) ?_
    refine j_laload X hO2 rfl ⟨by decide, by decide⟩ dL_law_1659 ?_
    refine j_iload X (i := 7) dL_law_1660 rfl ?_
    refine j_i2l X dL_law_1662 rfl ?_
    rw [ha]
    refine j_lcmp X dL_law_1663 ?_
    rw [lg_cmp_0]
    refine j_if_eq X (tgt := 1669) dL_law_1664 (by decide) (fun _ => ?_) (fun q9 => absurd rfl q9)
    refine j_goto X (tgt := 3209) dL_law_1669 (by decide) ?_
    exact j_drop 6 (j_drop 7 (k _ _ _ _ ⟨hP2, hM2, ⟨_, hO2⟩, ⟨_, hD2⟩, hG2.low fun c9 hc9 => hf3 c9 (by omega), ⟨_, hR3⟩, kq_PP hK _ _ _⟩))
theorem law_22 (X : jX p l s m args meth c (mLaw nm) g none) (hst : l.stackTraces = false) (hK9 : oKw g K kw sa w9) (hX : va_X b L xs (j0 g) (j0 g).heap) (hb : b < jb g) (hi : i + 5 ≤ L) (hL : L ≤ 2560) (hc : cells + 3 ≤ 603072) (hs : slots + 18 ≤ 7219306) (I : LI g kw sk t G) (k : ∀ z2 sk2 t2 G2, LI g kw sk2 t2 G2 → J p l e room_1 s m args below meth c Q 9 g (cells + 3) (slots + 18) z2 sk2 t2 3209 [some (.ref b), some (.ref (jb g + 0)), some (.ref (jb g + 454)), some (.ref (jb g + 462)), some (.ref (jb g + 463)), some (.int (nI i)), none, none, none] []) : J p l e room_1 s m args below meth c Q 9 g cells slots z sk t 1672 [some (.ref b), some (.ref (jb g + 0)), some (.ref (jb g + 454)), some (.ref (jb g + 462)), some (.ref (jb g + 463)), some (.int (nI i)), none, none, none] [] := by
  have hok := X.ok
  obtain ⟨hP, hM, ⟨a1, hO⟩, ⟨a2, hD⟩, hG, ⟨n0, hR⟩, hK⟩ := id I
  refine j_aload_n X (i := 1) dL_law_1672 rfl rfl ?_
  refine j_aload_n X (i := 0) dL_law_1673 rfl rfl ?_
  refine j_iload X (i := 5) dL_law_1674 rfl ?_
  refine j_iconst X (v := (nI 1)) dL_law_1676 (by decide) ?_
  refine j_iadd X dL_law_1677 ?_
  refine j_sld X hX hb (nI_add _ _) (by omega) (by omega) dL_law_1678 ?_
  refine j_aload_n X (i := 0) dL_law_1679 rfl rfl ?_
  refine j_iload X (i := 5) dL_law_1680 rfl ?_
  refine j_iconst X (v := (nI 2)) dL_law_1682 (by decide) ?_
  refine j_iadd X dL_law_1683 ?_
  refine j_sld X hX hb (nI_add _ _) (by omega) (by omega) dL_law_1684 ?_
  refine j_aload_n X (i := 3) dL_law_1685 rfl rfl ?_
  refine j_callSW_p X (w_placesOf hok hst hP hG hK hO (xs (i + 1)) (xs (i + 2))) iw_placesOf tw_4_123 tw_4_124 dL_law_1686 (fun v2 z2 sk2 t2 hp => ?_) (by show _ ≤ 603072; omega) (by show _ ≤ 7219306; omega)
  obtain ⟨rfl, hP2, hM2, ⟨a3, hO2, ha⟩, ⟨a4, hD2⟩, hG2, n1, hR2⟩ := LI.wrap I hp
  obtain ⟨M0, -⟩ := id hM2
  refine j_istore X (i := 6) dL_law_1689 (by decide) rfl ?_
  refine j_aload_n X (i := 2) dL_law_1691 rfl rfl ?_
  refine j_aload_n X (i := 0) dL_law_1692 rfl rfl ?_
  refine j_iload X (i := 5) dL_law_1693 rfl ?_
  refine j_iconst X (v := (nI 1)) dL_law_1695 (by decide) ?_
  refine j_iadd X dL_law_1696 ?_
  refine j_sld X hX hb (nI_add _ _) (by omega) (by omega) dL_law_1697 ?_
  refine j_aload_n X (i := 0) dL_law_1698 rfl rfl ?_
  refine j_iload X (i := 5) dL_law_1699 rfl ?_
  refine j_iconst X (v := (nI 2)) dL_law_1701 (by decide) ?_
  refine j_iadd X dL_law_1702 ?_
  refine j_sld X hX hb (nI_add _ _) (by omega) (by omega) dL_law_1703 ?_
  refine j_callV_p X (m_placesOf hok hst hM2 hR2 hK (xs (i + 1)) (xs (i + 2))) i_X10_placesOf tw_7_90 tw_7_91 tw_7_92 M0 rfl dL_law_1704 (fun v3 z3 sk3 t3 hq => ?_) (hmc := by show _ ≤ 603072; omega) (hms := by show _ ≤ 7219306; omega)
  obtain ⟨rfl, rfl, rfl, h7, hR3, hf3⟩ := hq
  refine j_istore X (i := 7) dL_law_1707 (by decide) rfl ?_
  refine j_aload_n X (i := 2) dL_law_1709 rfl rfl ?_
  refine j_callV X (m_thrown hok hst hM2) i_X10_thrown tw_6_124 tw_6_125 tw_6_126 M0 rfl dL_law_1710 ?_ (hmc := by show _ ≤ 603072; omega) (hms := by show _ ≤ 7219306; omega)
  rw [h7]
  refine j_iload X (i := 6) dL_law_1713 rfl ?_
  refine j_icmp_eq X (tgt := 1720) dL_law_1715 (by decide) (fun _ => ?_) (fun q9 => absurd rfl q9)
  refine j_iload X (i := 6) dL_law_1720 rfl ?_
  refine j_if_ne X (tgt := 1737) dL_law_1722 (by decide) (fun h9 => ?_) (fun h9 => ?_)
  · refine j_goto X (tgt := 3209) dL_law_1737 (by decide) ?_
    exact j_drop 6 (j_drop 7 (k _ _ _ _ ⟨hP2, hM2, ⟨_, hO2⟩, ⟨_, hD2⟩, hG2.low fun c9 hc9 => hf3 c9 (by omega), ⟨_, hR3⟩, kq_PP hK _ _ _⟩))
  · have ha := ha h9
    refine j_aload_n X (i := 3) dL_law_1725 rfl rfl ?_
    refine j_iconst X (v := (nI 0)) dL_law_1726 (by decide) ?_
    refine j_laload X hO2 rfl ⟨by decide, by decide⟩ dL_law_1727 ?_
    refine j_iload X (i := 7) dL_law_1728 rfl ?_
    refine j_i2l X dL_law_1730 rfl ?_
    rw [ha]
    refine j_lcmp X dL_law_1731 ?_
    rw [lg_cmp_0]
    refine j_if_eq X (tgt := 1737) dL_law_1732 (by decide) (fun _ => ?_) (fun q9 => absurd rfl q9)
    refine j_goto X (tgt := 3209) dL_law_1737 (by decide) ?_
    exact j_drop 6 (j_drop 7 (k _ _ _ _ ⟨hP2, hM2, ⟨_, hO2⟩, ⟨_, hD2⟩, hG2.low fun c9 hc9 => hf3 c9 (by omega), ⟨_, hR3⟩, kq_PP hK _ _ _⟩))
theorem law_23 (X : jX p l s m args meth c (mLaw nm) g none) (hst : l.stackTraces = false) (hK9 : oKw g K kw sa w9) (hX : va_X b L xs (j0 g) (j0 g).heap) (hb : b < jb g) (hi : i + 5 ≤ L) (hL : L ≤ 2560) (hc : cells + 3 ≤ 603072) (hs : slots + 18 ≤ 7219306) (I : LI g kw sk t G) (k : ∀ z2 sk2 t2 G2, LI g kw sk2 t2 G2 → J p l e room_1 s m args below meth c Q 9 g (cells + 3) (slots + 18) z2 sk2 t2 3209 [some (.ref b), some (.ref (jb g + 0)), some (.ref (jb g + 454)), some (.ref (jb g + 462)), some (.ref (jb g + 463)), some (.int (nI i)), none, none, none] []) : J p l e room_1 s m args below meth c Q 9 g cells slots z sk t 1740 [some (.ref b), some (.ref (jb g + 0)), some (.ref (jb g + 454)), some (.ref (jb g + 462)), some (.ref (jb g + 463)), some (.int (nI i)), none, none, none] [] := by
  have hok := X.ok
  obtain ⟨hP, hM, ⟨a1, hO⟩, ⟨a2, hD⟩, hG, ⟨n0, hR⟩, hK⟩ := id I
  refine j_aload_n X (i := 1) dL_law_1740 rfl rfl ?_
  refine j_aload_n X (i := 0) dL_law_1741 rfl rfl ?_
  refine j_iload X (i := 5) dL_law_1742 rfl ?_
  refine j_iconst X (v := (nI 1)) dL_law_1744 (by decide) ?_
  refine j_iadd X dL_law_1745 ?_
  refine j_sld X hX hb (nI_add _ _) (by omega) (by omega) dL_law_1746 ?_
  refine j_aload_n X (i := 3) dL_law_1747 rfl rfl ?_
  refine j_callSW_p X (w_wetness hok hst hP hG hK hO (xs (i + 1))) iw_wetness tw_4_135 tw_4_136 dL_law_1748 (fun v2 z2 sk2 t2 hp => ?_) (by show _ ≤ 603072; omega) (by show _ ≤ 7219306; omega)
  obtain ⟨rfl, hP2, hM2, ⟨a3, hO2, ha⟩, ⟨a4, hD2⟩, hG2, n1, hR2⟩ := LI.wrap I hp
  obtain ⟨M0, -⟩ := id hM2
  refine j_istore X (i := 6) dL_law_1751 (by decide) rfl ?_
  refine j_aload_n X (i := 2) dL_law_1753 rfl rfl ?_
  refine j_aload_n X (i := 0) dL_law_1754 rfl rfl ?_
  refine j_iload X (i := 5) dL_law_1755 rfl ?_
  refine j_iconst X (v := (nI 1)) dL_law_1757 (by decide) ?_
  refine j_iadd X dL_law_1758 ?_
  refine j_sld X hX hb (nI_add _ _) (by omega) (by omega) dL_law_1759 ?_
  refine j_callV_p X (m_wetness hok hst hM2 hR2 hK (xs (i + 1))) i_X10_wetness tw_7_94 tw_7_95 tw_7_96 M0 rfl dL_law_1760 (fun v3 z3 sk3 t3 hq => ?_) (hmc := by show _ ≤ 603072; omega) (hms := by show _ ≤ 7219306; omega)
  obtain ⟨rfl, rfl, rfl, h7, hR3, hf3⟩ := hq
  refine j_istore X (i := 7) dL_law_1763 (by decide) rfl ?_
  refine j_aload_n X (i := 2) dL_law_1765 rfl rfl ?_
  refine j_callV X (m_thrown hok hst hM2) i_X10_thrown tw_6_124 tw_6_125 tw_6_126 M0 rfl dL_law_1766 ?_ (hmc := by show _ ≤ 603072; omega) (hms := by show _ ≤ 7219306; omega)
  rw [h7]
  refine j_iload X (i := 6) dL_law_1769 rfl ?_
  refine j_icmp_eq X (tgt := 1776) dL_law_1771 (by decide) (fun _ => ?_) (fun q9 => absurd rfl q9)
  refine j_iload X (i := 6) dL_law_1776 rfl ?_
  refine j_if_ne X (tgt := 1793) dL_law_1778 (by decide) (fun h9 => ?_) (fun h9 => ?_)
  · refine j_goto X (tgt := 3209) dL_law_1793 (by decide) ?_
    exact j_drop 6 (j_drop 7 (k _ _ _ _ ⟨hP2, hM2, ⟨_, hO2⟩, ⟨_, hD2⟩, hG2.low fun c9 hc9 => hf3 c9 (by omega), ⟨_, hR3⟩, kq_P hK _ _⟩))
  · have ha := ha h9
    refine j_aload_n X (i := 3) dL_law_1781 rfl rfl ?_
    refine j_iconst X (v := (nI 0)) dL_law_1782 (by decide) ?_
    refine j_laload X hO2 rfl ⟨by decide, by decide⟩ dL_law_1783 ?_
    refine j_iload X (i := 7) dL_law_1784 rfl ?_
    refine j_i2l X dL_law_1786 rfl ?_
    rw [ha]
    refine j_lcmp X dL_law_1787 ?_
    rw [lg_cmp_0]
    refine j_if_eq X (tgt := 1793) dL_law_1788 (by decide) (fun _ => ?_) (fun q9 => absurd rfl q9)
    refine j_goto X (tgt := 3209) dL_law_1793 (by decide) ?_
    exact j_drop 6 (j_drop 7 (k _ _ _ _ ⟨hP2, hM2, ⟨_, hO2⟩, ⟨_, hD2⟩, hG2.low fun c9 hc9 => hf3 c9 (by omega), ⟨_, hR3⟩, kq_P hK _ _⟩))
theorem law_24 (X : jX p l s m args meth c (mLaw nm) g none) (hst : l.stackTraces = false) (hK9 : oKw g K kw sa w9) (hX : va_X b L xs (j0 g) (j0 g).heap) (hb : b < jb g) (hi : i + 5 ≤ L) (hL : L ≤ 2560) (hc : cells + 3 ≤ 603072) (hs : slots + 18 ≤ 7219306) (I : LI g kw sk t G) (k : ∀ z2 sk2 t2 G2, LI g kw sk2 t2 G2 → J p l e room_1 s m args below meth c Q 9 g (cells + 3) (slots + 18) z2 sk2 t2 3209 [some (.ref b), some (.ref (jb g + 0)), some (.ref (jb g + 454)), some (.ref (jb g + 462)), some (.ref (jb g + 463)), some (.int (nI i)), none, none, none] []) : J p l e room_1 s m args below meth c Q 9 g cells slots z sk t 1796 [some (.ref b), some (.ref (jb g + 0)), some (.ref (jb g + 454)), some (.ref (jb g + 462)), some (.ref (jb g + 463)), some (.int (nI i)), none, none, none] [] := by
  have hok := X.ok
  obtain ⟨hP, hM, ⟨a1, hO⟩, ⟨a2, hD⟩, hG, ⟨n0, hR⟩, hK⟩ := id I
  refine j_aload_n X (i := 1) dL_law_1796 rfl rfl ?_
  refine j_aload_n X (i := 0) dL_law_1797 rfl rfl ?_
  refine j_iload X (i := 5) dL_law_1798 rfl ?_
  refine j_iconst X (v := (nI 1)) dL_law_1800 (by decide) ?_
  refine j_iadd X dL_law_1801 ?_
  refine j_sld X hX hb (nI_add _ _) (by omega) (by omega) dL_law_1802 ?_
  refine j_aload_n X (i := 3) dL_law_1803 rfl rfl ?_
  refine j_callSW_p X (w_smears hok hst hP hG hK hO (xs (i + 1))) iw_smears tw_4_142 tw_4_143 dL_law_1804 (fun v2 z2 sk2 t2 hp => ?_) (by show _ ≤ 603072; omega) (by show _ ≤ 7219306; omega)
  obtain ⟨rfl, hP2, hM2, ⟨a3, hO2, ha⟩, ⟨a4, hD2⟩, hG2, n1, hR2⟩ := LI.wrap I hp
  obtain ⟨M0, -⟩ := id hM2
  refine j_istore X (i := 6) dL_law_1807 (by decide) rfl ?_
  refine j_aload_n X (i := 2) dL_law_1809 rfl rfl ?_
  refine j_aload_n X (i := 0) dL_law_1810 rfl rfl ?_
  refine j_iload X (i := 5) dL_law_1811 rfl ?_
  refine j_iconst X (v := (nI 1)) dL_law_1813 (by decide) ?_
  refine j_iadd X dL_law_1814 ?_
  refine j_sld X hX hb (nI_add _ _) (by omega) (by omega) dL_law_1815 ?_
  refine j_callV_p X (m_smears hok hst hM2 hR2 hK (xs (i + 1))) i_X10_smears tw_7_98 tw_7_99 tw_7_100 M0 rfl dL_law_1816 (fun v3 z3 sk3 t3 hq => ?_) (hmc := by show _ ≤ 603072; omega) (hms := by show _ ≤ 7219306; omega)
  obtain ⟨rfl, rfl, rfl, h7, hR3, hf3⟩ := hq
  refine j_istore X (i := 7) dL_law_1819 (by decide) rfl ?_
  refine j_aload_n X (i := 2) dL_law_1821 rfl rfl ?_
  refine j_callV X (m_thrown hok hst hM2) i_X10_thrown tw_6_124 tw_6_125 tw_6_126 M0 rfl dL_law_1822 ?_ (hmc := by show _ ≤ 603072; omega) (hms := by show _ ≤ 7219306; omega)
  rw [h7]
  refine j_iload X (i := 6) dL_law_1825 rfl ?_
  refine j_icmp_eq X (tgt := 1832) dL_law_1827 (by decide) (fun _ => ?_) (fun q9 => absurd rfl q9)
  refine j_iload X (i := 6) dL_law_1832 rfl ?_
  refine j_if_ne X (tgt := 1849) dL_law_1834 (by decide) (fun h9 => ?_) (fun h9 => ?_)
  · refine j_goto X (tgt := 3209) dL_law_1849 (by decide) ?_
    exact j_drop 6 (j_drop 7 (k _ _ _ _ ⟨hP2, hM2, ⟨_, hO2⟩, ⟨_, hD2⟩, hG2.low fun c9 hc9 => hf3 c9 (by omega), ⟨_, hR3⟩, kq_P hK _ _⟩))
  · have ha := ha h9
    refine j_aload_n X (i := 3) dL_law_1837 rfl rfl ?_
    refine j_iconst X (v := (nI 0)) dL_law_1838 (by decide) ?_
    refine j_laload X hO2 rfl ⟨by decide, by decide⟩ dL_law_1839 ?_
    refine j_iload X (i := 7) dL_law_1840 rfl ?_
    refine j_i2l X dL_law_1842 rfl ?_
    rw [ha]
    refine j_lcmp X dL_law_1843 ?_
    rw [lg_cmp_0]
    refine j_if_eq X (tgt := 1849) dL_law_1844 (by decide) (fun _ => ?_) (fun q9 => absurd rfl q9)
    refine j_goto X (tgt := 3209) dL_law_1849 (by decide) ?_
    exact j_drop 6 (j_drop 7 (k _ _ _ _ ⟨hP2, hM2, ⟨_, hO2⟩, ⟨_, hD2⟩, hG2.low fun c9 hc9 => hf3 c9 (by omega), ⟨_, hR3⟩, kq_P hK _ _⟩))
theorem law_25 (X : jX p l s m args meth c (mLaw nm) g none) (hst : l.stackTraces = false) (hK9 : oKw g K kw sa w9) (hX : va_X b L xs (j0 g) (j0 g).heap) (hb : b < jb g) (hi : i + 5 ≤ L) (hL : L ≤ 2560) (hc : cells + 3 ≤ 603072) (hs : slots + 18 ≤ 7219306) (I : LI g kw sk t G) (k : ∀ z2 sk2 t2 G2, LI g kw sk2 t2 G2 → J p l e room_1 s m args below meth c Q 9 g (cells + 3) (slots + 18) z2 sk2 t2 3209 [some (.ref b), some (.ref (jb g + 0)), some (.ref (jb g + 454)), some (.ref (jb g + 462)), some (.ref (jb g + 463)), some (.int (nI i)), none, none, none] []) : J p l e room_1 s m args below meth c Q 9 g cells slots z sk t 1852 [some (.ref b), some (.ref (jb g + 0)), some (.ref (jb g + 454)), some (.ref (jb g + 462)), some (.ref (jb g + 463)), some (.int (nI i)), none, none, none] [] := by
  have hok := X.ok
  obtain ⟨hP, hM, ⟨a1, hO⟩, ⟨a2, hD⟩, hG, ⟨n0, hR⟩, hK⟩ := id I
  refine j_aload_n X (i := 1) dL_law_1852 rfl rfl ?_
  refine j_aload_n X (i := 0) dL_law_1853 rfl rfl ?_
  refine j_iload X (i := 5) dL_law_1854 rfl ?_
  refine j_iconst X (v := (nI 1)) dL_law_1856 (by decide) ?_
  refine j_iadd X dL_law_1857 ?_
  refine j_sld X hX hb (nI_add _ _) (by omega) (by omega) dL_law_1858 ?_
  refine j_aload_n X (i := 3) dL_law_1859 rfl rfl ?_
  refine j_callSW_p X (w_misprints hok hst hP hG hK hO (xs (i + 1))) iw_misprints tw_4_149 tw_4_150 dL_law_1860 (fun v2 z2 sk2 t2 hp => ?_) (by show _ ≤ 603072; omega) (by show _ ≤ 7219306; omega)
  obtain ⟨rfl, hP2, hM2, ⟨a3, hO2, ha⟩, ⟨a4, hD2⟩, hG2, n1, hR2⟩ := LI.wrap I hp
  obtain ⟨M0, -⟩ := id hM2
  refine j_istore X (i := 6) dL_law_1863 (by decide) rfl ?_
  refine j_aload_n X (i := 2) dL_law_1865 rfl rfl ?_
  refine j_aload_n X (i := 0) dL_law_1866 rfl rfl ?_
  refine j_iload X (i := 5) dL_law_1867 rfl ?_
  refine j_iconst X (v := (nI 1)) dL_law_1869 (by decide) ?_
  refine j_iadd X dL_law_1870 ?_
  refine j_sld X hX hb (nI_add _ _) (by omega) (by omega) dL_law_1871 ?_
  refine j_callV_p X (m_misprints hok hst hM2 hR2 hK (xs (i + 1))) i_X10_misprints tw_7_102 tw_7_103 tw_7_104 M0 rfl dL_law_1872 (fun v3 z3 sk3 t3 hq => ?_) (hmc := by show _ ≤ 603072; omega) (hms := by show _ ≤ 7219306; omega)
  obtain ⟨rfl, rfl, rfl, h7, hR3, hf3⟩ := hq
  refine j_istore X (i := 7) dL_law_1875 (by decide) rfl ?_
  refine j_aload_n X (i := 2) dL_law_1877 rfl rfl ?_
  refine j_callV X (m_thrown hok hst hM2) i_X10_thrown tw_6_124 tw_6_125 tw_6_126 M0 rfl dL_law_1878 ?_ (hmc := by show _ ≤ 603072; omega) (hms := by show _ ≤ 7219306; omega)
  rw [h7]
  refine j_iload X (i := 6) dL_law_1881 rfl ?_
  refine j_icmp_eq X (tgt := 1888) dL_law_1883 (by decide) (fun _ => ?_) (fun q9 => absurd rfl q9)
  refine j_iload X (i := 6) dL_law_1888 rfl ?_
  refine j_if_ne X (tgt := 1905) dL_law_1890 (by decide) (fun h9 => ?_) (fun h9 => ?_)
  · refine j_goto X (tgt := 3209) dL_law_1905 (by decide) ?_
    exact j_drop 6 (j_drop 7 (k _ _ _ _ ⟨hP2, hM2, ⟨_, hO2⟩, ⟨_, hD2⟩, hG2.low fun c9 hc9 => hf3 c9 (by omega), ⟨_, hR3⟩, kq_P hK _ _⟩))
  · have ha := ha h9
    refine j_aload_n X (i := 3) dL_law_1893 rfl rfl ?_
    refine j_iconst X (v := (nI 0)) dL_law_1894 (by decide) ?_
    refine j_laload X hO2 rfl ⟨by decide, by decide⟩ dL_law_1895 ?_
    refine j_iload X (i := 7) dL_law_1896 rfl ?_
    refine j_i2l X dL_law_1898 rfl ?_
    rw [ha]
    refine j_lcmp X dL_law_1899 ?_
    rw [lg_cmp_0]
    refine j_if_eq X (tgt := 1905) dL_law_1900 (by decide) (fun _ => ?_) (fun q9 => absurd rfl q9)
    refine j_goto X (tgt := 3209) dL_law_1905 (by decide) ?_
    exact j_drop 6 (j_drop 7 (k _ _ _ _ ⟨hP2, hM2, ⟨_, hO2⟩, ⟨_, hD2⟩, hG2.low fun c9 hc9 => hf3 c9 (by omega), ⟨_, hR3⟩, kq_P hK _ _⟩))
theorem law_26 (X : jX p l s m args meth c (mLaw nm) g none) (hst : l.stackTraces = false) (hK9 : oKw g K kw sa w9) (hX : va_X b L xs (j0 g) (j0 g).heap) (hb : b < jb g) (hi : i + 5 ≤ L) (hL : L ≤ 2560) (hc : cells + 3 ≤ 603072) (hs : slots + 18 ≤ 7219306) (I : LI g kw sk t G) (k : ∀ z2 sk2 t2 G2, LI g kw sk2 t2 G2 → J p l e room_1 s m args below meth c Q 9 g (cells + 3) (slots + 18) z2 sk2 t2 3209 [some (.ref b), some (.ref (jb g + 0)), some (.ref (jb g + 454)), some (.ref (jb g + 462)), some (.ref (jb g + 463)), some (.int (nI i)), none, none, none] []) : J p l e room_1 s m args below meth c Q 9 g cells slots z sk t 1908 [some (.ref b), some (.ref (jb g + 0)), some (.ref (jb g + 454)), some (.ref (jb g + 462)), some (.ref (jb g + 463)), some (.int (nI i)), none, none, none] [] := by
  have hok := X.ok
  obtain ⟨hP, hM, ⟨a1, hO⟩, ⟨a2, hD⟩, hG, ⟨n0, hR⟩, hK⟩ := id I
  refine j_aload_n X (i := 1) dL_law_1908 rfl rfl ?_
  refine j_aload_n X (i := 0) dL_law_1909 rfl rfl ?_
  refine j_iload X (i := 5) dL_law_1910 rfl ?_
  refine j_iconst X (v := (nI 1)) dL_law_1912 (by decide) ?_
  refine j_iadd X dL_law_1913 ?_
  refine j_sld X hX hb (nI_add _ _) (by omega) (by omega) dL_law_1914 ?_
  refine j_aload_n X (i := 3) dL_law_1915 rfl rfl ?_
  refine j_callSW_p X (w_misprintsBySets hok hst hP hG hK hO (xs (i + 1))) iw_misprintsBySets tw_4_156 tw_4_157 dL_law_1916 (fun v2 z2 sk2 t2 hp => ?_) (by show _ ≤ 603072; omega) (by show _ ≤ 7219306; omega)
  obtain ⟨rfl, hP2, hM2, ⟨a3, hO2, ha⟩, ⟨a4, hD2⟩, hG2, n1, hR2⟩ := LI.wrap I hp
  obtain ⟨M0, -⟩ := id hM2
  refine j_istore X (i := 6) dL_law_1919 (by decide) rfl ?_
  refine j_aload_n X (i := 2) dL_law_1921 rfl rfl ?_
  refine j_aload_n X (i := 0) dL_law_1922 rfl rfl ?_
  refine j_iload X (i := 5) dL_law_1923 rfl ?_
  refine j_iconst X (v := (nI 1)) dL_law_1925 (by decide) ?_
  refine j_iadd X dL_law_1926 ?_
  refine j_sld X hX hb (nI_add _ _) (by omega) (by omega) dL_law_1927 ?_
  refine j_callV_p X (m_misBySets hok hst hM2 hR2 hK (xs (i + 1))) i_X10_misprintsBySets tw_7_110 tw_7_111 tw_7_112 M0 rfl dL_law_1928 (fun v3 z3 sk3 t3 hq => ?_) (hmc := by show _ ≤ 603072; omega) (hms := by show _ ≤ 7219306; omega)
  obtain ⟨rfl, rfl, rfl, h7, hR3, hf3⟩ := hq
  refine j_istore X (i := 7) dL_law_1931 (by decide) rfl ?_
  refine j_aload_n X (i := 2) dL_law_1933 rfl rfl ?_
  refine j_callV X (m_thrown hok hst hM2) i_X10_thrown tw_6_124 tw_6_125 tw_6_126 M0 rfl dL_law_1934 ?_ (hmc := by show _ ≤ 603072; omega) (hms := by show _ ≤ 7219306; omega)
  rw [h7]
  refine j_iload X (i := 6) dL_law_1937 rfl ?_
  refine j_icmp_eq X (tgt := 1944) dL_law_1939 (by decide) (fun _ => ?_) (fun q9 => absurd rfl q9)
  refine j_iload X (i := 6) dL_law_1944 rfl ?_
  refine j_if_ne X (tgt := 1961) dL_law_1946 (by decide) (fun h9 => ?_) (fun h9 => ?_)
  · refine j_goto X (tgt := 3209) dL_law_1961 (by decide) ?_
    exact j_drop 6 (j_drop 7 (k _ _ _ _ ⟨hP2, hM2, ⟨_, hO2⟩, ⟨_, hD2⟩, hG2.low fun c9 hc9 => hf3 c9 (by omega), ⟨_, hR3⟩, kq_P hK _ _⟩))
  · have ha := ha h9
    refine j_aload_n X (i := 3) dL_law_1949 rfl rfl ?_
    refine j_iconst X (v := (nI 0)) dL_law_1950 (by decide) ?_
    refine j_laload X hO2 rfl ⟨by decide, by decide⟩ dL_law_1951 ?_
    refine j_iload X (i := 7) dL_law_1952 rfl ?_
    refine j_i2l X dL_law_1954 rfl ?_
    rw [ha]
    refine j_lcmp X dL_law_1955 ?_
    rw [lg_cmp_0]
    refine j_if_eq X (tgt := 1961) dL_law_1956 (by decide) (fun _ => ?_) (fun q9 => absurd rfl q9)
    refine j_goto X (tgt := 3209) dL_law_1961 (by decide) ?_
    exact j_drop 6 (j_drop 7 (k _ _ _ _ ⟨hP2, hM2, ⟨_, hO2⟩, ⟨_, hD2⟩, hG2.low fun c9 hc9 => hf3 c9 (by omega), ⟨_, hR3⟩, kq_P hK _ _⟩))
theorem law_27 (X : jX p l s m args meth c (mLaw nm) g none) (hst : l.stackTraces = false) (hK9 : oKw g K kw sa w9) (hX : va_X b L xs (j0 g) (j0 g).heap) (hb : b < jb g) (hi : i + 5 ≤ L) (hL : L ≤ 2560) (hc : cells + 3 ≤ 603072) (hs : slots + 18 ≤ 7219306) (I : LI g kw sk t G) (k : ∀ z2 sk2 t2 G2, LI g kw sk2 t2 G2 → J p l e room_1 s m args below meth c Q 9 g (cells + 3) (slots + 18) z2 sk2 t2 3209 [some (.ref b), some (.ref (jb g + 0)), some (.ref (jb g + 454)), some (.ref (jb g + 462)), some (.ref (jb g + 463)), some (.int (nI i)), none, none, none] []) : J p l e room_1 s m args below meth c Q 9 g cells slots z sk t 1964 [some (.ref b), some (.ref (jb g + 0)), some (.ref (jb g + 454)), some (.ref (jb g + 462)), some (.ref (jb g + 463)), some (.int (nI i)), none, none, none] [] := by
  have hok := X.ok
  obtain ⟨hP, hM, ⟨a1, hO⟩, ⟨a2, hD⟩, hG, ⟨n0, hR⟩, hK⟩ := id I
  refine j_aload_n X (i := 1) dL_law_1964 rfl rfl ?_
  refine j_aload_n X (i := 0) dL_law_1965 rfl rfl ?_
  refine j_iload X (i := 5) dL_law_1966 rfl ?_
  refine j_iconst X (v := (nI 1)) dL_law_1968 (by decide) ?_
  refine j_iadd X dL_law_1969 ?_
  refine j_sld X hX hb (nI_add _ _) (by omega) (by omega) dL_law_1970 ?_
  refine j_aload_n X (i := 3) dL_law_1971 rfl rfl ?_
  refine j_callSW_p X (w_sheetByMisprints hok hst hP hG hK hO (xs (i + 1))) iw_sheetByMisprints tw_4_163 tw_4_164 dL_law_1972 (fun v2 z2 sk2 t2 hp => ?_) (by show _ ≤ 603072; omega) (by show _ ≤ 7219306; omega)
  obtain ⟨rfl, hP2, hM2, ⟨a3, hO2, ha⟩, ⟨a4, hD2⟩, hG2, n1, hR2⟩ := LI.wrap I hp
  obtain ⟨M0, -⟩ := id hM2
  refine j_istore X (i := 6) dL_law_1975 (by decide) rfl ?_
  refine j_aload_n X (i := 2) dL_law_1977 rfl rfl ?_
  refine j_aload_n X (i := 0) dL_law_1978 rfl rfl ?_
  refine j_iload X (i := 5) dL_law_1979 rfl ?_
  refine j_iconst X (v := (nI 1)) dL_law_1981 (by decide) ?_
  refine j_iadd X dL_law_1982 ?_
  refine j_sld X hX hb (nI_add _ _) (by omega) (by omega) dL_law_1983 ?_
  refine j_callV_p X (m_byMis hok hst hM2 hR2 hK (xs (i + 1))) i_X10_sheetByMisprints tw_7_114 tw_7_115 tw_7_116 M0 rfl dL_law_1984 (fun v3 z3 sk3 t3 hq => ?_) (hmc := by show _ ≤ 603072; omega) (hms := by show _ ≤ 7219306; omega)
  obtain ⟨rfl, rfl, rfl, h7, hR3, hf3⟩ := hq
  refine j_istore X (i := 7) dL_law_1987 (by decide) rfl ?_
  refine j_aload_n X (i := 2) dL_law_1989 rfl rfl ?_
  refine j_callV X (m_thrown hok hst hM2) i_X10_thrown tw_6_124 tw_6_125 tw_6_126 M0 rfl dL_law_1990 ?_ (hmc := by show _ ≤ 603072; omega) (hms := by show _ ≤ 7219306; omega)
  rw [h7]
  refine j_iload X (i := 6) dL_law_1993 rfl ?_
  refine j_icmp_eq X (tgt := 2000) dL_law_1995 (by decide) (fun _ => ?_) (fun q9 => absurd rfl q9)
  refine j_iload X (i := 6) dL_law_2000 rfl ?_
  refine j_if_ne X (tgt := 2017) dL_law_2002 (by decide) (fun h9 => ?_) (fun h9 => ?_)
  · refine j_goto X (tgt := 3209) dL_law_2017 (by decide) ?_
    exact j_drop 6 (j_drop 7 (k _ _ _ _ ⟨hP2, hM2, ⟨_, hO2⟩, ⟨_, hD2⟩, hG2.low fun c9 hc9 => hf3 c9 (by omega), ⟨_, hR3⟩, k_byMis hK (xs (i + 1))⟩))
  · have ha := ha h9
    refine j_aload_n X (i := 3) dL_law_2005 rfl rfl ?_
    refine j_iconst X (v := (nI 0)) dL_law_2006 (by decide) ?_
    refine j_laload X hO2 rfl ⟨by decide, by decide⟩ dL_law_2007 ?_
    refine j_iload X (i := 7) dL_law_2008 rfl ?_
    refine j_i2l X dL_law_2010 rfl ?_
    rw [ha]
    refine j_lcmp X dL_law_2011 ?_
    rw [lg_cmp_0]
    refine j_if_eq X (tgt := 2017) dL_law_2012 (by decide) (fun _ => ?_) (fun q9 => absurd rfl q9)
    refine j_goto X (tgt := 3209) dL_law_2017 (by decide) ?_
    exact j_drop 6 (j_drop 7 (k _ _ _ _ ⟨hP2, hM2, ⟨_, hO2⟩, ⟨_, hD2⟩, hG2.low fun c9 hc9 => hf3 c9 (by omega), ⟨_, hR3⟩, k_byMis hK (xs (i + 1))⟩))
theorem law_28 (X : jX p l s m args meth c (mLaw nm) g none) (hst : l.stackTraces = false) (hK9 : oKw g K kw sa w9) (hX : va_X b L xs (j0 g) (j0 g).heap) (hb : b < jb g) (hi : i + 5 ≤ L) (hL : L ≤ 2560) (hc : cells + 3 ≤ 603072) (hs : slots + 18 ≤ 7219306) (I : LI g kw sk t G) (k : ∀ z2 sk2 t2 G2, LI g kw sk2 t2 G2 → J p l e room_1 s m args below meth c Q 9 g (cells + 3) (slots + 18) z2 sk2 t2 3209 [some (.ref b), some (.ref (jb g + 0)), some (.ref (jb g + 454)), some (.ref (jb g + 462)), some (.ref (jb g + 463)), some (.int (nI i)), none, none, none] []) : J p l e room_1 s m args below meth c Q 9 g cells slots z sk t 2020 [some (.ref b), some (.ref (jb g + 0)), some (.ref (jb g + 454)), some (.ref (jb g + 462)), some (.ref (jb g + 463)), some (.int (nI i)), none, none, none] [] := by
  have hok := X.ok
  obtain ⟨hP, hM, ⟨a1, hO⟩, ⟨a2, hD⟩, hG, ⟨n0, hR⟩, hK⟩ := id I
  refine j_aload_n X (i := 1) dL_law_2020 rfl rfl ?_
  refine j_aload_n X (i := 0) dL_law_2021 rfl rfl ?_
  refine j_iload X (i := 5) dL_law_2022 rfl ?_
  refine j_iconst X (v := (nI 1)) dL_law_2024 (by decide) ?_
  refine j_iadd X dL_law_2025 ?_
  refine j_sld X hX hb (nI_add _ _) (by omega) (by omega) dL_law_2026 ?_
  refine j_aload_n X (i := 3) dL_law_2027 rfl rfl ?_
  refine j_callSW_p X (w_putInRack hok hst hP hG hK hO (xs (i + 1))) iw_putInRack tw_4_175 tw_4_176 dL_law_2028 (fun v2 z2 sk2 t2 hp => ?_) (by show _ ≤ 603072; omega) (by show _ ≤ 7219306; omega)
  obtain ⟨rfl, hP2, hM2, ⟨a3, hO2, ha⟩, ⟨a4, hD2⟩, hG2, n1, hR2⟩ := LI.wrap I hp
  obtain ⟨M0, -⟩ := id hM2
  refine j_istore X (i := 6) dL_law_2031 (by decide) rfl ?_
  refine j_aload_n X (i := 2) dL_law_2033 rfl rfl ?_
  refine j_aload_n X (i := 0) dL_law_2034 rfl rfl ?_
  refine j_iload X (i := 5) dL_law_2035 rfl ?_
  refine j_iconst X (v := (nI 1)) dL_law_2037 (by decide) ?_
  refine j_iadd X dL_law_2038 ?_
  refine j_sld X hX hb (nI_add _ _) (by omega) (by omega) dL_law_2039 ?_
  refine j_callV_p X (m_putInRack hok hst hM2 hR2 hK (xs (i + 1))) i_X10_putInRack tw_7_118 tw_7_119 tw_7_120 M0 rfl dL_law_2040 (fun v3 z3 sk3 t3 hq => ?_) (hmc := by show _ ≤ 603072; omega) (hms := by show _ ≤ 7219306; omega)
  obtain ⟨rfl, rfl, rfl, h7, hR3, hf3⟩ := hq
  refine j_istore X (i := 7) dL_law_2043 (by decide) rfl ?_
  refine j_aload_n X (i := 2) dL_law_2045 rfl rfl ?_
  refine j_callV X (m_thrown hok hst hM2) i_X10_thrown tw_6_124 tw_6_125 tw_6_126 M0 rfl dL_law_2046 ?_ (hmc := by show _ ≤ 603072; omega) (hms := by show _ ≤ 7219306; omega)
  rw [h7]
  refine j_iload X (i := 6) dL_law_2049 rfl ?_
  refine j_icmp_eq X (tgt := 2056) dL_law_2051 (by decide) (fun _ => ?_) (fun q9 => absurd rfl q9)
  refine j_iload X (i := 6) dL_law_2056 rfl ?_
  refine j_if_ne X (tgt := 2073) dL_law_2058 (by decide) (fun h9 => ?_) (fun h9 => ?_)
  · refine j_goto X (tgt := 3209) dL_law_2073 (by decide) ?_
    exact j_drop 6 (j_drop 7 (k _ _ _ _ ⟨hP2, hM2, ⟨_, hO2⟩, ⟨_, hD2⟩, hG2.low fun c9 hc9 => hf3 c9 (by omega), ⟨_, hR3⟩, k_putInRack hK (xs (i + 1))⟩))
  · have ha := ha h9
    refine j_aload_n X (i := 3) dL_law_2061 rfl rfl ?_
    refine j_iconst X (v := (nI 0)) dL_law_2062 (by decide) ?_
    refine j_laload X hO2 rfl ⟨by decide, by decide⟩ dL_law_2063 ?_
    refine j_iload X (i := 7) dL_law_2064 rfl ?_
    refine j_i2l X dL_law_2066 rfl ?_
    rw [ha]
    refine j_lcmp X dL_law_2067 ?_
    rw [lg_cmp_0]
    refine j_if_eq X (tgt := 2073) dL_law_2068 (by decide) (fun _ => ?_) (fun q9 => absurd rfl q9)
    refine j_goto X (tgt := 3209) dL_law_2073 (by decide) ?_
    exact j_drop 6 (j_drop 7 (k _ _ _ _ ⟨hP2, hM2, ⟨_, hO2⟩, ⟨_, hD2⟩, hG2.low fun c9 hc9 => hf3 c9 (by omega), ⟨_, hR3⟩, k_putInRack hK (xs (i + 1))⟩))
theorem law_29 (X : jX p l s m args meth c (mLaw nm) g none) (hst : l.stackTraces = false) (hK9 : oKw g K kw sa w9) (hX : va_X b L xs (j0 g) (j0 g).heap) (hb : b < jb g) (hi : i + 5 ≤ L) (hL : L ≤ 2560) (hc : cells + 3 ≤ 603072) (hs : slots + 18 ≤ 7219306) (I : LI g kw sk t G) (k : ∀ z2 sk2 t2 G2, LI g kw sk2 t2 G2 → J p l e room_1 s m args below meth c Q 9 g (cells + 3) (slots + 18) z2 sk2 t2 3209 [some (.ref b), some (.ref (jb g + 0)), some (.ref (jb g + 454)), some (.ref (jb g + 462)), some (.ref (jb g + 463)), some (.int (nI i)), none, none, none] []) : J p l e room_1 s m args below meth c Q 9 g cells slots z sk t 2076 [some (.ref b), some (.ref (jb g + 0)), some (.ref (jb g + 454)), some (.ref (jb g + 462)), some (.ref (jb g + 463)), some (.int (nI i)), none, none, none] [] := by
  have hok := X.ok
  obtain ⟨hP, hM, ⟨a1, hO⟩, ⟨a2, hD⟩, hG, ⟨n0, hR⟩, hK⟩ := id I
  refine j_aload_n X (i := 1) dL_law_2076 rfl rfl ?_
  refine j_aload_n X (i := 0) dL_law_2077 rfl rfl ?_
  refine j_iload X (i := 5) dL_law_2078 rfl ?_
  refine j_iconst X (v := (nI 1)) dL_law_2080 (by decide) ?_
  refine j_iadd X dL_law_2081 ?_
  refine j_sld X hX hb (nI_add _ _) (by omega) (by omega) dL_law_2082 ?_
  refine j_aload_n X (i := 3) dL_law_2083 rfl rfl ?_
  refine j_callSW_p X (w_takeOut hok hst hP hG hK hO (xs (i + 1))) iw_takeOut tw_4_190 tw_4_191 dL_law_2084 (fun v2 z2 sk2 t2 hp => ?_) (by show _ ≤ 603072; omega) (by show _ ≤ 7219306; omega)
  obtain ⟨rfl, hP2, hM2, ⟨a3, hO2, ha⟩, ⟨a4, hD2⟩, hG2, n1, hR2⟩ := LI.wrap I hp
  obtain ⟨M0, -⟩ := id hM2
  refine j_istore X (i := 6) dL_law_2087 (by decide) rfl ?_
  refine j_aload_n X (i := 2) dL_law_2089 rfl rfl ?_
  refine j_aload_n X (i := 0) dL_law_2090 rfl rfl ?_
  refine j_iload X (i := 5) dL_law_2091 rfl ?_
  refine j_iconst X (v := (nI 1)) dL_law_2093 (by decide) ?_
  refine j_iadd X dL_law_2094 ?_
  refine j_sld X hX hb (nI_add _ _) (by omega) (by omega) dL_law_2095 ?_
  refine j_callV_p X (m_takeOut hok hst hM2 hR2 hK (xs (i + 1))) i_X10_takeOut tw_7_122 tw_7_123 tw_7_124 M0 rfl dL_law_2096 (fun v3 z3 sk3 t3 hq => ?_) (hmc := by show _ ≤ 603072; omega) (hms := by show _ ≤ 7219306; omega)
  obtain ⟨rfl, rfl, rfl, h7, hR3, hf3⟩ := hq
  refine j_istore X (i := 7) dL_law_2099 (by decide) rfl ?_
  refine j_aload_n X (i := 2) dL_law_2101 rfl rfl ?_
  refine j_callV X (m_thrown hok hst hM2) i_X10_thrown tw_6_124 tw_6_125 tw_6_126 M0 rfl dL_law_2102 ?_ (hmc := by show _ ≤ 603072; omega) (hms := by show _ ≤ 7219306; omega)
  rw [h7]
  refine j_iload X (i := 6) dL_law_2105 rfl ?_
  refine j_icmp_eq X (tgt := 2112) dL_law_2107 (by decide) (fun _ => ?_) (fun q9 => absurd rfl q9)
  refine j_iload X (i := 6) dL_law_2112 rfl ?_
  refine j_if_ne X (tgt := 2129) dL_law_2114 (by decide) (fun h9 => ?_) (fun h9 => ?_)
  · refine j_goto X (tgt := 3209) dL_law_2129 (by decide) ?_
    exact j_drop 6 (j_drop 7 (k _ _ _ _ ⟨hP2, hM2, ⟨_, hO2⟩, ⟨_, hD2⟩, hG2.low fun c9 hc9 => hf3 c9 (by omega), ⟨_, hR3⟩, k_takeOut hK (xs (i + 1))⟩))
  · have ha := ha h9
    refine j_aload_n X (i := 3) dL_law_2117 rfl rfl ?_
    refine j_iconst X (v := (nI 0)) dL_law_2118 (by decide) ?_
    refine j_laload X hO2 rfl ⟨by decide, by decide⟩ dL_law_2119 ?_
    refine j_iload X (i := 7) dL_law_2120 rfl ?_
    refine j_i2l X dL_law_2122 rfl ?_
    rw [ha]
    refine j_lcmp X dL_law_2123 ?_
    rw [lg_cmp_0]
    refine j_if_eq X (tgt := 2129) dL_law_2124 (by decide) (fun _ => ?_) (fun q9 => absurd rfl q9)
    refine j_goto X (tgt := 3209) dL_law_2129 (by decide) ?_
    exact j_drop 6 (j_drop 7 (k _ _ _ _ ⟨hP2, hM2, ⟨_, hO2⟩, ⟨_, hD2⟩, hG2.low fun c9 hc9 => hf3 c9 (by omega), ⟨_, hR3⟩, k_takeOut hK (xs (i + 1))⟩))
theorem law_30 (X : jX p l s m args meth c (mLaw nm) g none) (hst : l.stackTraces = false) (hK9 : oKw g K kw sa w9) (hX : va_X b L xs (j0 g) (j0 g).heap) (hb : b < jb g) (hi : i + 5 ≤ L) (hL : L ≤ 2560) (hc : cells + 3 ≤ 603072) (hs : slots + 18 ≤ 7219306) (I : LI g kw sk t G) (k : ∀ z2 sk2 t2 G2, LI g kw sk2 t2 G2 → J p l e room_1 s m args below meth c Q 9 g (cells + 3) (slots + 18) z2 sk2 t2 3209 [some (.ref b), some (.ref (jb g + 0)), some (.ref (jb g + 454)), some (.ref (jb g + 462)), some (.ref (jb g + 463)), some (.int (nI i)), none, none, none] []) : J p l e room_1 s m args below meth c Q 9 g cells slots z sk t 2132 [some (.ref b), some (.ref (jb g + 0)), some (.ref (jb g + 454)), some (.ref (jb g + 462)), some (.ref (jb g + 463)), some (.int (nI i)), none, none, none] [] := by
  have hok := X.ok
  obtain ⟨hP, hM, ⟨a1, hO⟩, ⟨a2, hD⟩, hG, ⟨n0, hR⟩, hK⟩ := id I
  refine j_aload_n X (i := 1) dL_law_2132 rfl rfl ?_
  refine j_aload_n X (i := 0) dL_law_2133 rfl rfl ?_
  refine j_iload X (i := 5) dL_law_2134 rfl ?_
  refine j_iconst X (v := (nI 1)) dL_law_2136 (by decide) ?_
  refine j_iadd X dL_law_2137 ?_
  refine j_sld X hX hb (nI_add _ _) (by omega) (by omega) dL_law_2138 ?_
  refine j_aload_n X (i := 3) dL_law_2139 rfl rfl ?_
  refine j_callSW_p X (w_rackPlace hok hst hP hG hK hO (xs (i + 1))) iw_rackPlace tw_4_201 tw_4_202 dL_law_2140 (fun v2 z2 sk2 t2 hp => ?_) (by show _ ≤ 603072; omega) (by show _ ≤ 7219306; omega)
  obtain ⟨rfl, hP2, hM2, ⟨a3, hO2, ha⟩, ⟨a4, hD2⟩, hG2, n1, hR2⟩ := LI.wrap I hp
  obtain ⟨M0, -⟩ := id hM2
  refine j_istore X (i := 6) dL_law_2143 (by decide) rfl ?_
  refine j_aload_n X (i := 2) dL_law_2145 rfl rfl ?_
  refine j_aload_n X (i := 0) dL_law_2146 rfl rfl ?_
  refine j_iload X (i := 5) dL_law_2147 rfl ?_
  refine j_iconst X (v := (nI 1)) dL_law_2149 (by decide) ?_
  refine j_iadd X dL_law_2150 ?_
  refine j_sld X hX hb (nI_add _ _) (by omega) (by omega) dL_law_2151 ?_
  refine j_callV_p X (m_rackPlace hok hst hM2 hR2 hK (xs (i + 1))) i_X10_rackPlace tw_7_126 tw_7_127 tw_7_128 M0 rfl dL_law_2152 (fun v3 z3 sk3 t3 hq => ?_) (hmc := by show _ ≤ 603072; omega) (hms := by show _ ≤ 7219306; omega)
  obtain ⟨rfl, rfl, rfl, h7, hR3, hf3⟩ := hq
  refine j_istore X (i := 7) dL_law_2155 (by decide) rfl ?_
  refine j_aload_n X (i := 2) dL_law_2157 rfl rfl ?_
  refine j_callV X (m_thrown hok hst hM2) i_X10_thrown tw_6_124 tw_6_125 tw_6_126 M0 rfl dL_law_2158 ?_ (hmc := by show _ ≤ 603072; omega) (hms := by show _ ≤ 7219306; omega)
  rw [h7]
  refine j_iload X (i := 6) dL_law_2161 rfl ?_
  refine j_icmp_eq X (tgt := 2168) dL_law_2163 (by decide) (fun _ => ?_) (fun q9 => absurd rfl q9)
  refine j_iload X (i := 6) dL_law_2168 rfl ?_
  refine j_if_ne X (tgt := 2185) dL_law_2170 (by decide) (fun h9 => ?_) (fun h9 => ?_)
  · refine j_goto X (tgt := 3209) dL_law_2185 (by decide) ?_
    exact j_drop 6 (j_drop 7 (k _ _ _ _ ⟨hP2, hM2, ⟨_, hO2⟩, ⟨_, hD2⟩, hG2.low fun c9 hc9 => hf3 c9 (by omega), ⟨_, hR3⟩, kq_PP hK _ _ _⟩))
  · have ha := ha h9
    refine j_aload_n X (i := 3) dL_law_2173 rfl rfl ?_
    refine j_iconst X (v := (nI 0)) dL_law_2174 (by decide) ?_
    refine j_laload X hO2 rfl ⟨by decide, by decide⟩ dL_law_2175 ?_
    refine j_iload X (i := 7) dL_law_2176 rfl ?_
    refine j_i2l X dL_law_2178 rfl ?_
    rw [ha]
    refine j_lcmp X dL_law_2179 ?_
    rw [lg_cmp_0]
    refine j_if_eq X (tgt := 2185) dL_law_2180 (by decide) (fun _ => ?_) (fun q9 => absurd rfl q9)
    refine j_goto X (tgt := 3209) dL_law_2185 (by decide) ?_
    exact j_drop 6 (j_drop 7 (k _ _ _ _ ⟨hP2, hM2, ⟨_, hO2⟩, ⟨_, hD2⟩, hG2.low fun c9 hc9 => hf3 c9 (by omega), ⟨_, hR3⟩, kq_PP hK _ _ _⟩))
theorem law_31 (X : jX p l s m args meth c (mLaw nm) g none) (hst : l.stackTraces = false) (hK9 : oKw g K kw sa w9) (hX : va_X b L xs (j0 g) (j0 g).heap) (hb : b < jb g) (hi : i + 5 ≤ L) (hL : L ≤ 2560) (hc : cells + 3 ≤ 603072) (hs : slots + 18 ≤ 7219306) (I : LI g kw sk t G) (k : ∀ z2 sk2 t2 G2, LI g kw sk2 t2 G2 → J p l e room_1 s m args below meth c Q 9 g (cells + 3) (slots + 18) z2 sk2 t2 3209 [some (.ref b), some (.ref (jb g + 0)), some (.ref (jb g + 454)), some (.ref (jb g + 462)), some (.ref (jb g + 463)), some (.int (nI i)), none, none, none] []) : J p l e room_1 s m args below meth c Q 9 g cells slots z sk t 2188 [some (.ref b), some (.ref (jb g + 0)), some (.ref (jb g + 454)), some (.ref (jb g + 462)), some (.ref (jb g + 463)), some (.int (nI i)), none, none, none] [] := by
  have hok := X.ok
  obtain ⟨hP, hM, ⟨a1, hO⟩, ⟨a2, hD⟩, hG, ⟨n0, hR⟩, hK⟩ := id I
  refine j_aload_n X (i := 1) dL_law_2188 rfl rfl ?_
  refine j_aload_n X (i := 0) dL_law_2189 rfl rfl ?_
  refine j_iload X (i := 5) dL_law_2190 rfl ?_
  refine j_iconst X (v := (nI 1)) dL_law_2192 (by decide) ?_
  refine j_iadd X dL_law_2193 ?_
  refine j_sld X hX hb (nI_add _ _) (by omega) (by omega) dL_law_2194 ?_
  refine j_aload_n X (i := 3) dL_law_2195 rfl rfl ?_
  refine j_callSW_p X (w_sheetInRack hok hst hP hG hK hO (xs (i + 1))) iw_sheetInRack tw_4_210 tw_4_211 dL_law_2196 (fun v2 z2 sk2 t2 hp => ?_) (by show _ ≤ 603072; omega) (by show _ ≤ 7219306; omega)
  obtain ⟨rfl, hP2, hM2, ⟨a3, hO2, ha⟩, ⟨a4, hD2⟩, hG2, n1, hR2⟩ := LI.wrap I hp
  obtain ⟨M0, -⟩ := id hM2
  refine j_istore X (i := 6) dL_law_2199 (by decide) rfl ?_
  refine j_aload_n X (i := 2) dL_law_2201 rfl rfl ?_
  refine j_aload_n X (i := 0) dL_law_2202 rfl rfl ?_
  refine j_iload X (i := 5) dL_law_2203 rfl ?_
  refine j_iconst X (v := (nI 1)) dL_law_2205 (by decide) ?_
  refine j_iadd X dL_law_2206 ?_
  refine j_sld X hX hb (nI_add _ _) (by omega) (by omega) dL_law_2207 ?_
  refine j_callV_p X (m_sheetInRack hok hst hM2 hR2 hK (xs (i + 1))) i_X10_sheetInRack tw_7_130 tw_7_131 tw_7_132 M0 rfl dL_law_2208 (fun v3 z3 sk3 t3 hq => ?_) (hmc := by show _ ≤ 603072; omega) (hms := by show _ ≤ 7219306; omega)
  obtain ⟨rfl, rfl, rfl, h7, hR3, hf3⟩ := hq
  refine j_istore X (i := 7) dL_law_2211 (by decide) rfl ?_
  refine j_aload_n X (i := 2) dL_law_2213 rfl rfl ?_
  refine j_callV X (m_thrown hok hst hM2) i_X10_thrown tw_6_124 tw_6_125 tw_6_126 M0 rfl dL_law_2214 ?_ (hmc := by show _ ≤ 603072; omega) (hms := by show _ ≤ 7219306; omega)
  rw [h7]
  refine j_iload X (i := 6) dL_law_2217 rfl ?_
  refine j_icmp_eq X (tgt := 2224) dL_law_2219 (by decide) (fun _ => ?_) (fun q9 => absurd rfl q9)
  refine j_iload X (i := 6) dL_law_2224 rfl ?_
  refine j_if_ne X (tgt := 2241) dL_law_2226 (by decide) (fun h9 => ?_) (fun h9 => ?_)
  · refine j_goto X (tgt := 3209) dL_law_2241 (by decide) ?_
    exact j_drop 6 (j_drop 7 (k _ _ _ _ ⟨hP2, hM2, ⟨_, hO2⟩, ⟨_, hD2⟩, hG2.low fun c9 hc9 => hf3 c9 (by omega), ⟨_, hR3⟩, kq_PP hK _ _ _⟩))
  · have ha := ha h9
    refine j_aload_n X (i := 3) dL_law_2229 rfl rfl ?_
    refine j_iconst X (v := (nI 0)) dL_law_2230 (by decide) ?_
    refine j_laload X hO2 rfl ⟨by decide, by decide⟩ dL_law_2231 ?_
    refine j_iload X (i := 7) dL_law_2232 rfl ?_
    refine j_i2l X dL_law_2234 rfl ?_
    rw [ha]
    refine j_lcmp X dL_law_2235 ?_
    rw [lg_cmp_0]
    refine j_if_eq X (tgt := 2241) dL_law_2236 (by decide) (fun _ => ?_) (fun q9 => absurd rfl q9)
    refine j_goto X (tgt := 3209) dL_law_2241 (by decide) ?_
    exact j_drop 6 (j_drop 7 (k _ _ _ _ ⟨hP2, hM2, ⟨_, hO2⟩, ⟨_, hD2⟩, hG2.low fun c9 hc9 => hf3 c9 (by omega), ⟨_, hR3⟩, kq_PP hK _ _ _⟩))
theorem law_32 (X : jX p l s m args meth c (mLaw nm) g none) (hst : l.stackTraces = false) (hK9 : oKw g K kw sa w9) (hX : va_X b L xs (j0 g) (j0 g).heap) (hb : b < jb g) (hi : i + 5 ≤ L) (hL : L ≤ 2560) (hc : cells + 3 ≤ 603072) (hs : slots + 18 ≤ 7219306) (I : LI g kw sk t G) (k : ∀ z2 sk2 t2 G2, LI g kw sk2 t2 G2 → J p l e room_1 s m args below meth c Q 9 g (cells + 3) (slots + 18) z2 sk2 t2 3209 [some (.ref b), some (.ref (jb g + 0)), some (.ref (jb g + 454)), some (.ref (jb g + 462)), some (.ref (jb g + 463)), some (.int (nI i)), none, none, none] []) : J p l e room_1 s m args below meth c Q 9 g cells slots z sk t 2244 [some (.ref b), some (.ref (jb g + 0)), some (.ref (jb g + 454)), some (.ref (jb g + 462)), some (.ref (jb g + 463)), some (.int (nI i)), none, none, none] [] := by
  have hok := X.ok
  obtain ⟨hP, hM, ⟨a1, hO⟩, ⟨a2, hD⟩, hG, ⟨n0, hR⟩, hK⟩ := id I
  refine j_aload_n X (i := 1) dL_law_2244 rfl rfl ?_
  refine j_aload_n X (i := 0) dL_law_2245 rfl rfl ?_
  refine j_iload X (i := 5) dL_law_2246 rfl ?_
  refine j_iconst X (v := (nI 1)) dL_law_2248 (by decide) ?_
  refine j_iadd X dL_law_2249 ?_
  refine j_sld X hX hb (nI_add _ _) (by omega) (by omega) dL_law_2250 ?_
  refine j_aload_n X (i := 0) dL_law_2251 rfl rfl ?_
  refine j_iload X (i := 5) dL_law_2252 rfl ?_
  refine j_iconst X (v := (nI 2)) dL_law_2254 (by decide) ?_
  refine j_iadd X dL_law_2255 ?_
  refine j_sld X hX hb (nI_add _ _) (by omega) (by omega) dL_law_2256 ?_
  refine j_aload_n X (i := 3) dL_law_2257 rfl rfl ?_
  refine j_callSW_p X (w_addInk hok hst hP hG hK hO (xs (i + 1)) (xs (i + 2))) iw_addInk tw_4_220 tw_4_221 dL_law_2258 (fun v2 z2 sk2 t2 hp => ?_) (by show _ ≤ 603072; omega) (by show _ ≤ 7219306; omega)
  obtain ⟨rfl, hP2, hM2, ⟨a3, hO2, ha⟩, ⟨a4, hD2⟩, hG2, n1, hR2⟩ := LI.wrap I hp
  obtain ⟨M0, -⟩ := id hM2
  refine j_istore X (i := 6) dL_law_2261 (by decide) rfl ?_
  refine j_aload_n X (i := 2) dL_law_2263 rfl rfl ?_
  refine j_aload_n X (i := 0) dL_law_2264 rfl rfl ?_
  refine j_iload X (i := 5) dL_law_2265 rfl ?_
  refine j_iconst X (v := (nI 1)) dL_law_2267 (by decide) ?_
  refine j_iadd X dL_law_2268 ?_
  refine j_sld X hX hb (nI_add _ _) (by omega) (by omega) dL_law_2269 ?_
  refine j_aload_n X (i := 0) dL_law_2270 rfl rfl ?_
  refine j_iload X (i := 5) dL_law_2271 rfl ?_
  refine j_iconst X (v := (nI 2)) dL_law_2273 (by decide) ?_
  refine j_iadd X dL_law_2274 ?_
  refine j_sld X hX hb (nI_add _ _) (by omega) (by omega) dL_law_2275 ?_
  refine j_callV_p X (m_addInk hok hst hM2 hR2 hK (xs (i + 1)) (xs (i + 2))) i_X10_addInk tw_7_134 tw_7_135 tw_7_136 M0 rfl dL_law_2276 (fun v3 z3 sk3 t3 hq => ?_) (hmc := by show _ ≤ 603072; omega) (hms := by show _ ≤ 7219306; omega)
  obtain ⟨rfl, rfl, rfl, h7, hR3, hf3⟩ := hq
  refine j_istore X (i := 7) dL_law_2279 (by decide) rfl ?_
  refine j_aload_n X (i := 2) dL_law_2281 rfl rfl ?_
  refine j_callV X (m_thrown hok hst hM2) i_X10_thrown tw_6_124 tw_6_125 tw_6_126 M0 rfl dL_law_2282 ?_ (hmc := by show _ ≤ 603072; omega) (hms := by show _ ≤ 7219306; omega)
  rw [h7]
  refine j_iload X (i := 6) dL_law_2285 rfl ?_
  refine j_icmp_eq X (tgt := 2292) dL_law_2287 (by decide) (fun _ => ?_) (fun q9 => absurd rfl q9)
  refine j_iload X (i := 6) dL_law_2292 rfl ?_
  refine j_if_ne X (tgt := 2309) dL_law_2294 (by decide) (fun h9 => ?_) (fun h9 => ?_)
  · refine j_goto X (tgt := 3209) dL_law_2309 (by decide) ?_
    exact j_drop 6 (j_drop 7 (k _ _ _ _ ⟨hP2, hM2, ⟨_, hO2⟩, ⟨_, hD2⟩, hG2.low fun c9 hc9 => hf3 c9 (by omega), ⟨_, hR3⟩, k_addInk hK (xs (i + 1)) (xs (i + 2))⟩))
  · have ha := ha h9
    refine j_aload_n X (i := 3) dL_law_2297 rfl rfl ?_
    refine j_iconst X (v := (nI 0)) dL_law_2298 (by decide) ?_
    refine j_laload X hO2 rfl ⟨by decide, by decide⟩ dL_law_2299 ?_
    refine j_iload X (i := 7) dL_law_2300 rfl ?_
    refine j_i2l X dL_law_2302 rfl ?_
    rw [ha]
    refine j_lcmp X dL_law_2303 ?_
    rw [lg_cmp_0]
    refine j_if_eq X (tgt := 2309) dL_law_2304 (by decide) (fun _ => ?_) (fun q9 => absurd rfl q9)
    refine j_goto X (tgt := 3209) dL_law_2309 (by decide) ?_
    exact j_drop 6 (j_drop 7 (k _ _ _ _ ⟨hP2, hM2, ⟨_, hO2⟩, ⟨_, hD2⟩, hG2.low fun c9 hc9 => hf3 c9 (by omega), ⟨_, hR3⟩, k_addInk hK (xs (i + 1)) (xs (i + 2))⟩))
theorem law_33 (X : jX p l s m args meth c (mLaw nm) g none) (hst : l.stackTraces = false) (hK9 : oKw g K kw sa w9) (hX : va_X b L xs (j0 g) (j0 g).heap) (hb : b < jb g) (hi : i + 5 ≤ L) (hL : L ≤ 2560) (hc : cells + 3 ≤ 603072) (hs : slots + 18 ≤ 7219306) (I : LI g kw sk t G) (k : ∀ z2 sk2 t2 G2, LI g kw sk2 t2 G2 → J p l e room_1 s m args below meth c Q 9 g (cells + 3) (slots + 18) z2 sk2 t2 3209 [some (.ref b), some (.ref (jb g + 0)), some (.ref (jb g + 454)), some (.ref (jb g + 462)), some (.ref (jb g + 463)), some (.int (nI i)), none, none, none] []) : J p l e room_1 s m args below meth c Q 9 g cells slots z sk t 2312 [some (.ref b), some (.ref (jb g + 0)), some (.ref (jb g + 454)), some (.ref (jb g + 462)), some (.ref (jb g + 463)), some (.int (nI i)), none, none, none] [] := by
  have hok := X.ok
  obtain ⟨hP, hM, ⟨a1, hO⟩, ⟨a2, hD⟩, hG, ⟨n0, hR⟩, hK⟩ := id I
  refine j_aload_n X (i := 1) dL_law_2312 rfl rfl ?_
  refine j_aload_n X (i := 0) dL_law_2313 rfl rfl ?_
  refine j_iload X (i := 5) dL_law_2314 rfl ?_
  refine j_iconst X (v := (nI 1)) dL_law_2316 (by decide) ?_
  refine j_iadd X dL_law_2317 ?_
  refine j_sld X hX hb (nI_add _ _) (by omega) (by omega) dL_law_2318 ?_
  refine j_aload_n X (i := 3) dL_law_2319 rfl rfl ?_
  refine j_callSW_p X (w_drops hok hst hP hG hK hO (xs (i + 1))) iw_drops tw_4_231 tw_4_232 dL_law_2320 (fun v2 z2 sk2 t2 hp => ?_) (by show _ ≤ 603072; omega) (by show _ ≤ 7219306; omega)
  obtain ⟨rfl, hP2, hM2, ⟨a3, hO2, ha⟩, ⟨a4, hD2⟩, hG2, n1, hR2⟩ := LI.wrap I hp
  obtain ⟨M0, -⟩ := id hM2
  refine j_istore X (i := 6) dL_law_2323 (by decide) rfl ?_
  refine j_aload_n X (i := 2) dL_law_2325 rfl rfl ?_
  refine j_aload_n X (i := 0) dL_law_2326 rfl rfl ?_
  refine j_iload X (i := 5) dL_law_2327 rfl ?_
  refine j_iconst X (v := (nI 1)) dL_law_2329 (by decide) ?_
  refine j_iadd X dL_law_2330 ?_
  refine j_sld X hX hb (nI_add _ _) (by omega) (by omega) dL_law_2331 ?_
  refine j_callV_p X (m_drops hok hst hM2 hR2 hK (xs (i + 1))) i_X10_drops tw_7_138 tw_7_139 tw_7_140 M0 rfl dL_law_2332 (fun v3 z3 sk3 t3 hq => ?_) (hmc := by show _ ≤ 603072; omega) (hms := by show _ ≤ 7219306; omega)
  obtain ⟨rfl, rfl, rfl, h7, hR3, hf3⟩ := hq
  refine j_istore X (i := 7) dL_law_2335 (by decide) rfl ?_
  refine j_aload_n X (i := 2) dL_law_2337 rfl rfl ?_
  refine j_callV X (m_thrown hok hst hM2) i_X10_thrown tw_6_124 tw_6_125 tw_6_126 M0 rfl dL_law_2338 ?_ (hmc := by show _ ≤ 603072; omega) (hms := by show _ ≤ 7219306; omega)
  rw [h7]
  refine j_iload X (i := 6) dL_law_2341 rfl ?_
  refine j_icmp_eq X (tgt := 2348) dL_law_2343 (by decide) (fun _ => ?_) (fun q9 => absurd rfl q9)
  refine j_iload X (i := 6) dL_law_2348 rfl ?_
  refine j_if_ne X (tgt := 2365) dL_law_2350 (by decide) (fun h9 => ?_) (fun h9 => ?_)
  · refine j_goto X (tgt := 3209) dL_law_2365 (by decide) ?_
    exact j_drop 6 (j_drop 7 (k _ _ _ _ ⟨hP2, hM2, ⟨_, hO2⟩, ⟨_, hD2⟩, hG2.low fun c9 hc9 => hf3 c9 (by omega), ⟨_, hR3⟩, kq_P hK _ _⟩))
  · have ha := ha h9
    refine j_aload_n X (i := 3) dL_law_2353 rfl rfl ?_
    refine j_iconst X (v := (nI 0)) dL_law_2354 (by decide) ?_
    refine j_laload X hO2 rfl ⟨by decide, by decide⟩ dL_law_2355 ?_
    refine j_iload X (i := 7) dL_law_2356 rfl ?_
    refine j_i2l X dL_law_2358 rfl ?_
    rw [ha]
    refine j_lcmp X dL_law_2359 ?_
    rw [lg_cmp_0]
    refine j_if_eq X (tgt := 2365) dL_law_2360 (by decide) (fun _ => ?_) (fun q9 => absurd rfl q9)
    refine j_goto X (tgt := 3209) dL_law_2365 (by decide) ?_
    exact j_drop 6 (j_drop 7 (k _ _ _ _ ⟨hP2, hM2, ⟨_, hO2⟩, ⟨_, hD2⟩, hG2.low fun c9 hc9 => hf3 c9 (by omega), ⟨_, hR3⟩, kq_P hK _ _⟩))
theorem law_34 (X : jX p l s m args meth c (mLaw nm) g none) (hst : l.stackTraces = false) (hK9 : oKw g K kw sa w9) (hX : va_X b L xs (j0 g) (j0 g).heap) (hb : b < jb g) (hi : i + 5 ≤ L) (hL : L ≤ 2560) (hc : cells + 3 ≤ 603072) (hs : slots + 18 ≤ 7219306) (I : LI g kw sk t G) (k : ∀ z2 sk2 t2 G2, LI g kw sk2 t2 G2 → J p l e room_1 s m args below meth c Q 9 g (cells + 3) (slots + 18) z2 sk2 t2 3209 [some (.ref b), some (.ref (jb g + 0)), some (.ref (jb g + 454)), some (.ref (jb g + 462)), some (.ref (jb g + 463)), some (.int (nI i)), none, none, none] []) : J p l e room_1 s m args below meth c Q 9 g cells slots z sk t 2368 [some (.ref b), some (.ref (jb g + 0)), some (.ref (jb g + 454)), some (.ref (jb g + 462)), some (.ref (jb g + 463)), some (.int (nI i)), none, none, none] [] := by
  have hok := X.ok
  obtain ⟨hP, hM, ⟨a1, hO⟩, ⟨a2, hD⟩, hG, ⟨n0, hR⟩, hK⟩ := id I
  refine j_aload_n X (i := 1) dL_law_2368 rfl rfl ?_
  refine j_aload_n X (i := 0) dL_law_2369 rfl rfl ?_
  refine j_iload X (i := 5) dL_law_2370 rfl ?_
  refine j_iconst X (v := (nI 1)) dL_law_2372 (by decide) ?_
  refine j_iadd X dL_law_2373 ?_
  refine j_sld X hX hb (nI_add _ _) (by omega) (by omega) dL_law_2374 ?_
  refine j_aload_n X (i := 3) dL_law_2375 rfl rfl ?_
  refine j_callSW_p X (w_passHours hok hst hP hG hK hO (xs (i + 1))) iw_passHours tw_5_1 tw_5_2 dL_law_2376 (fun v2 z2 sk2 t2 hp => ?_) (by show _ ≤ 603072; omega) (by show _ ≤ 7219306; omega)
  obtain ⟨rfl, hP2, hM2, ⟨a3, hO2, ha⟩, ⟨a4, hD2⟩, hG2, n1, hR2⟩ := LI.wrap I hp
  obtain ⟨M0, -⟩ := id hM2
  refine j_istore X (i := 6) dL_law_2379 (by decide) rfl ?_
  refine j_aload_n X (i := 2) dL_law_2381 rfl rfl ?_
  refine j_aload_n X (i := 0) dL_law_2382 rfl rfl ?_
  refine j_iload X (i := 5) dL_law_2383 rfl ?_
  refine j_iconst X (v := (nI 1)) dL_law_2385 (by decide) ?_
  refine j_iadd X dL_law_2386 ?_
  refine j_sld X hX hb (nI_add _ _) (by omega) (by omega) dL_law_2387 ?_
  refine j_callV_p X (m_passHours hok hst hM2 hR2 hK (xs (i + 1))) i_X10_passHours tw_7_142 tw_7_143 tw_7_144 M0 rfl dL_law_2388 (fun v3 z3 sk3 t3 hq => ?_) (hmc := by show _ ≤ 603072; omega) (hms := by show _ ≤ 7219306; omega)
  obtain ⟨rfl, rfl, rfl, h7, hR3, hf3⟩ := hq
  refine j_istore X (i := 7) dL_law_2391 (by decide) rfl ?_
  refine j_aload_n X (i := 2) dL_law_2393 rfl rfl ?_
  refine j_callV X (m_thrown hok hst hM2) i_X10_thrown tw_6_124 tw_6_125 tw_6_126 M0 rfl dL_law_2394 ?_ (hmc := by show _ ≤ 603072; omega) (hms := by show _ ≤ 7219306; omega)
  rw [h7]
  refine j_iload X (i := 6) dL_law_2397 rfl ?_
  refine j_icmp_eq X (tgt := 2404) dL_law_2399 (by decide) (fun _ => ?_) (fun q9 => absurd rfl q9)
  refine j_iload X (i := 6) dL_law_2404 rfl ?_
  refine j_if_ne X (tgt := 2421) dL_law_2406 (by decide) (fun h9 => ?_) (fun h9 => ?_)
  · refine j_goto X (tgt := 3209) dL_law_2421 (by decide) ?_
    exact j_drop 6 (j_drop 7 (k _ _ _ _ ⟨hP2, hM2, ⟨_, hO2⟩, ⟨_, hD2⟩, hG2.low fun c9 hc9 => hf3 c9 (by omega), ⟨_, hR3⟩, k_passHours hK (xs (i + 1))⟩))
  · have ha := ha h9
    refine j_aload_n X (i := 3) dL_law_2409 rfl rfl ?_
    refine j_iconst X (v := (nI 0)) dL_law_2410 (by decide) ?_
    refine j_laload X hO2 rfl ⟨by decide, by decide⟩ dL_law_2411 ?_
    refine j_iload X (i := 7) dL_law_2412 rfl ?_
    refine j_i2l X dL_law_2414 rfl ?_
    rw [ha]
    refine j_lcmp X dL_law_2415 ?_
    rw [lg_cmp_0]
    refine j_if_eq X (tgt := 2421) dL_law_2416 (by decide) (fun _ => ?_) (fun q9 => absurd rfl q9)
    refine j_goto X (tgt := 3209) dL_law_2421 (by decide) ?_
    exact j_drop 6 (j_drop 7 (k _ _ _ _ ⟨hP2, hM2, ⟨_, hO2⟩, ⟨_, hD2⟩, hG2.low fun c9 hc9 => hf3 c9 (by omega), ⟨_, hR3⟩, k_passHours hK (xs (i + 1))⟩))
theorem law_35 (X : jX p l s m args meth c (mLaw nm) g none) (hst : l.stackTraces = false) (hK9 : oKw g K kw sa w9) (hX : va_X b L xs (j0 g) (j0 g).heap) (hb : b < jb g) (hi : i + 5 ≤ L) (hL : L ≤ 2560) (hc : cells + 3 ≤ 603072) (hs : slots + 18 ≤ 7219306) (I : LI g kw sk t G) (k : ∀ z2 sk2 t2 G2, LI g kw sk2 t2 G2 → J p l e room_1 s m args below meth c Q 9 g (cells + 3) (slots + 18) z2 sk2 t2 3209 [some (.ref b), some (.ref (jb g + 0)), some (.ref (jb g + 454)), some (.ref (jb g + 462)), some (.ref (jb g + 463)), some (.int (nI i)), none, none, none] []) : J p l e room_1 s m args below meth c Q 9 g cells slots z sk t 2424 [some (.ref b), some (.ref (jb g + 0)), some (.ref (jb g + 454)), some (.ref (jb g + 462)), some (.ref (jb g + 463)), some (.int (nI i)), none, none, none] [] := by
  have hok := X.ok
  obtain ⟨hP, hM, ⟨a1, hO⟩, ⟨a2, hD⟩, hG, ⟨n0, hR⟩, hK⟩ := id I
  obtain ⟨P0, -⟩ := id hP
  obtain ⟨M0, -⟩ := id hM
  refine j_aload_n X (i := 1) dL_law_2424 rfl rfl ?_
  refine j_callV_p X (f_hour hok hst hP hG hK) i_X9_hour tw_2_47 tw_2_48 tw_2_49 P0 rfl dL_law_2425 (fun v2 z2 sk2 t2 hp => ?_) (hmc := by show _ ≤ 603072; omega) (hms := by show _ ≤ 7219306; omega)
  obtain ⟨-, rfl, rfl, rfl, hG2, hf⟩ := hp
  have hR2 : RmG t2 454 (false, n0) G := hR.same fun c9 hc9 => hf c9 hc9
  refine j_aload_n X (i := 2) dL_law_2428 rfl rfl ?_
  refine j_callV_p X (m_hour hok hst hM hR2 hK) i_X10_hour tw_7_154 tw_7_155 tw_7_156 M0 rfl dL_law_2429 (fun v3 z3 sk3 t3 hq => ?_) (hmc := by show _ ≤ 603072; omega) (hms := by show _ ≤ 7219306; omega)
  obtain ⟨rfl, rfl, rfl, -, hR3, hf3⟩ := hq
  refine j_icmp_eq X (tgt := 3209) dL_law_2432 (by decide) (fun _ => ?_) (fun q9 => absurd rfl q9)
  refine j_widen (k := cells + 3) (n := slots + 18) (by omega) (by omega) ?_
  exact k _ _ _ _ ⟨hP, hM, ⟨a1, hO⟩, ⟨a2, hD⟩, hG2.low fun c9 hc9 => hf3 c9 (by omega), ⟨_, hR3⟩, hK⟩
theorem law_36 (X : jX p l s m args meth c (mLaw nm) g none) (hst : l.stackTraces = false) (hK9 : oKw g K kw sa w9) (hX : va_X b L xs (j0 g) (j0 g).heap) (hb : b < jb g) (hi : i + 5 ≤ L) (hL : L ≤ 2560) (hc : cells + 3 ≤ 603072) (hs : slots + 18 ≤ 7219306) (I : LI g kw sk t G) (k : ∀ z2 sk2 t2 G2, LI g kw sk2 t2 G2 → J p l e room_1 s m args below meth c Q 9 g (cells + 3) (slots + 18) z2 sk2 t2 3209 [some (.ref b), some (.ref (jb g + 0)), some (.ref (jb g + 454)), some (.ref (jb g + 462)), some (.ref (jb g + 463)), some (.int (nI i)), none, none, none] []) : J p l e room_1 s m args below meth c Q 9 g cells slots z sk t 2437 [some (.ref b), some (.ref (jb g + 0)), some (.ref (jb g + 454)), some (.ref (jb g + 462)), some (.ref (jb g + 463)), some (.int (nI i)), none, none, none] [] := by
  have hok := X.ok
  obtain ⟨hP, hM, ⟨a1, hO⟩, ⟨a2, hD⟩, hG, ⟨n0, hR⟩, hK⟩ := id I
  refine j_aload_n X (i := 1) dL_law_2437 rfl rfl ?_
  refine j_aload_n X (i := 0) dL_law_2438 rfl rfl ?_
  refine j_iload X (i := 5) dL_law_2439 rfl ?_
  refine j_iconst X (v := (nI 1)) dL_law_2441 (by decide) ?_
  refine j_iadd X dL_law_2442 ?_
  refine j_sld X hX hb (nI_add _ _) (by omega) (by omega) dL_law_2443 ?_
  refine j_aload_n X (i := 3) dL_law_2444 rfl rfl ?_
  refine j_callSW_p X (w_hoursUntilDry hok hst hP hG hK hO (xs (i + 1))) iw_hoursUntilDry tw_5_18 tw_5_19 dL_law_2445 (fun v2 z2 sk2 t2 hp => ?_) (by show _ ≤ 603072; omega) (by show _ ≤ 7219306; omega)
  obtain ⟨rfl, hP2, hM2, ⟨a3, hO2, ha⟩, ⟨a4, hD2⟩, hG2, n1, hR2⟩ := LI.wrap I hp
  obtain ⟨M0, -⟩ := id hM2
  refine j_istore X (i := 6) dL_law_2448 (by decide) rfl ?_
  refine j_aload_n X (i := 2) dL_law_2450 rfl rfl ?_
  refine j_aload_n X (i := 0) dL_law_2451 rfl rfl ?_
  refine j_iload X (i := 5) dL_law_2452 rfl ?_
  refine j_iconst X (v := (nI 1)) dL_law_2454 (by decide) ?_
  refine j_iadd X dL_law_2455 ?_
  refine j_sld X hX hb (nI_add _ _) (by omega) (by omega) dL_law_2456 ?_
  refine j_callV_p X (m_untilDry hok hst hM2 hR2 hK (xs (i + 1))) i_X10_hoursUntilDry tw_7_158 tw_7_159 tw_7_160 M0 rfl dL_law_2457 (fun v3 z3 sk3 t3 hq => ?_) (hmc := by show _ ≤ 603072; omega) (hms := by show _ ≤ 7219306; omega)
  obtain ⟨rfl, rfl, rfl, h7, hR3, hf3⟩ := hq
  refine j_istore X (i := 7) dL_law_2460 (by decide) rfl ?_
  refine j_aload_n X (i := 2) dL_law_2462 rfl rfl ?_
  refine j_callV X (m_thrown hok hst hM2) i_X10_thrown tw_6_124 tw_6_125 tw_6_126 M0 rfl dL_law_2463 ?_ (hmc := by show _ ≤ 603072; omega) (hms := by show _ ≤ 7219306; omega)
  rw [h7]
  refine j_iload X (i := 6) dL_law_2466 rfl ?_
  refine j_icmp_eq X (tgt := 2473) dL_law_2468 (by decide) (fun _ => ?_) (fun q9 => absurd rfl q9)
  refine j_iload X (i := 6) dL_law_2473 rfl ?_
  refine j_if_ne X (tgt := 2490) dL_law_2475 (by decide) (fun h9 => ?_) (fun h9 => ?_)
  · refine j_goto X (tgt := 3209) dL_law_2490 (by decide) ?_
    exact j_drop 6 (j_drop 7 (k _ _ _ _ ⟨hP2, hM2, ⟨_, hO2⟩, ⟨_, hD2⟩, hG2.low fun c9 hc9 => hf3 c9 (by omega), ⟨_, hR3⟩, kq_P hK _ _⟩))
  · have ha := ha h9
    refine j_aload_n X (i := 3) dL_law_2478 rfl rfl ?_
    refine j_iconst X (v := (nI 0)) dL_law_2479 (by decide) ?_
    refine j_laload X hO2 rfl ⟨by decide, by decide⟩ dL_law_2480 ?_
    refine j_iload X (i := 7) dL_law_2481 rfl ?_
    refine j_i2l X dL_law_2483 rfl ?_
    rw [ha]
    refine j_lcmp X dL_law_2484 ?_
    rw [lg_cmp_0]
    refine j_if_eq X (tgt := 2490) dL_law_2485 (by decide) (fun _ => ?_) (fun q9 => absurd rfl q9)
    refine j_goto X (tgt := 3209) dL_law_2490 (by decide) ?_
    exact j_drop 6 (j_drop 7 (k _ _ _ _ ⟨hP2, hM2, ⟨_, hO2⟩, ⟨_, hD2⟩, hG2.low fun c9 hc9 => hf3 c9 (by omega), ⟨_, hR3⟩, kq_P hK _ _⟩))
theorem law_37 (X : jX p l s m args meth c (mLaw nm) g none) (hst : l.stackTraces = false) (hK9 : oKw g K kw sa w9) (hX : va_X b L xs (j0 g) (j0 g).heap) (hb : b < jb g) (hi : i + 5 ≤ L) (hL : L ≤ 2560) (hc : cells + 3 ≤ 603072) (hs : slots + 18 ≤ 7219306) (I : LI g kw sk t G) (k : ∀ z2 sk2 t2 G2, LI g kw sk2 t2 G2 → J p l e room_1 s m args below meth c Q 9 g (cells + 3) (slots + 18) z2 sk2 t2 3209 [some (.ref b), some (.ref (jb g + 0)), some (.ref (jb g + 454)), some (.ref (jb g + 462)), some (.ref (jb g + 463)), some (.int (nI i)), none, none, none] []) : J p l e room_1 s m args below meth c Q 9 g cells slots z sk t 2493 [some (.ref b), some (.ref (jb g + 0)), some (.ref (jb g + 454)), some (.ref (jb g + 462)), some (.ref (jb g + 463)), some (.int (nI i)), none, none, none] [] := by
  have hok := X.ok
  obtain ⟨hP, hM, ⟨a1, hO⟩, ⟨a2, hD⟩, hG, ⟨n0, hR⟩, hK⟩ := id I
  refine j_aload_n X (i := 1) dL_law_2493 rfl rfl ?_
  refine j_aload_n X (i := 0) dL_law_2494 rfl rfl ?_
  refine j_iload X (i := 5) dL_law_2495 rfl ?_
  refine j_iconst X (v := (nI 1)) dL_law_2497 (by decide) ?_
  refine j_iadd X dL_law_2498 ?_
  refine j_sld X hX hb (nI_add _ _) (by omega) (by omega) dL_law_2499 ?_
  refine j_aload_n X (i := 3) dL_law_2500 rfl rfl ?_
  refine j_callSW_p X (w_hoursUntilDryAtOnce hok hst hP hG hK hO (xs (i + 1))) iw_hoursUntilDryAtOnce tw_5_25 tw_5_26 dL_law_2501 (fun v2 z2 sk2 t2 hp => ?_) (by show _ ≤ 603072; omega) (by show _ ≤ 7219306; omega)
  obtain ⟨rfl, hP2, hM2, ⟨a3, hO2, ha⟩, ⟨a4, hD2⟩, hG2, n1, hR2⟩ := LI.wrap I hp
  obtain ⟨M0, -⟩ := id hM2
  refine j_istore X (i := 6) dL_law_2504 (by decide) rfl ?_
  refine j_aload_n X (i := 2) dL_law_2506 rfl rfl ?_
  refine j_aload_n X (i := 0) dL_law_2507 rfl rfl ?_
  refine j_iload X (i := 5) dL_law_2508 rfl ?_
  refine j_iconst X (v := (nI 1)) dL_law_2510 (by decide) ?_
  refine j_iadd X dL_law_2511 ?_
  refine j_sld X hX hb (nI_add _ _) (by omega) (by omega) dL_law_2512 ?_
  refine j_callV_p X (m_untilDryAtOnce hok hst hM2 hR2 hK (xs (i + 1))) i_X10_hoursUntilDryAtOnce tw_7_166 tw_7_167 tw_7_168 M0 rfl dL_law_2513 (fun v3 z3 sk3 t3 hq => ?_) (hmc := by show _ ≤ 603072; omega) (hms := by show _ ≤ 7219306; omega)
  obtain ⟨rfl, rfl, rfl, h7, hR3, hf3⟩ := hq
  refine j_istore X (i := 7) dL_law_2516 (by decide) rfl ?_
  refine j_aload_n X (i := 2) dL_law_2518 rfl rfl ?_
  refine j_callV X (m_thrown hok hst hM2) i_X10_thrown tw_6_124 tw_6_125 tw_6_126 M0 rfl dL_law_2519 ?_ (hmc := by show _ ≤ 603072; omega) (hms := by show _ ≤ 7219306; omega)
  rw [h7]
  refine j_iload X (i := 6) dL_law_2522 rfl ?_
  refine j_icmp_eq X (tgt := 2529) dL_law_2524 (by decide) (fun _ => ?_) (fun q9 => absurd rfl q9)
  refine j_iload X (i := 6) dL_law_2529 rfl ?_
  refine j_if_ne X (tgt := 2546) dL_law_2531 (by decide) (fun h9 => ?_) (fun h9 => ?_)
  · refine j_goto X (tgt := 3209) dL_law_2546 (by decide) ?_
    exact j_drop 6 (j_drop 7 (k _ _ _ _ ⟨hP2, hM2, ⟨_, hO2⟩, ⟨_, hD2⟩, hG2.low fun c9 hc9 => hf3 c9 (by omega), ⟨_, hR3⟩, kq_P hK _ _⟩))
  · have ha := ha h9
    refine j_aload_n X (i := 3) dL_law_2534 rfl rfl ?_
    refine j_iconst X (v := (nI 0)) dL_law_2535 (by decide) ?_
    refine j_laload X hO2 rfl ⟨by decide, by decide⟩ dL_law_2536 ?_
    refine j_iload X (i := 7) dL_law_2537 rfl ?_
    refine j_i2l X dL_law_2539 rfl ?_
    rw [ha]
    refine j_lcmp X dL_law_2540 ?_
    rw [lg_cmp_0]
    refine j_if_eq X (tgt := 2546) dL_law_2541 (by decide) (fun _ => ?_) (fun q9 => absurd rfl q9)
    refine j_goto X (tgt := 3209) dL_law_2546 (by decide) ?_
    exact j_drop 6 (j_drop 7 (k _ _ _ _ ⟨hP2, hM2, ⟨_, hO2⟩, ⟨_, hD2⟩, hG2.low fun c9 hc9 => hf3 c9 (by omega), ⟨_, hR3⟩, kq_P hK _ _⟩))
theorem law_38 (X : jX p l s m args meth c (mLaw nm) g none) (hst : l.stackTraces = false) (hK9 : oKw g K kw sa w9) (hX : va_X b L xs (j0 g) (j0 g).heap) (hb : b < jb g) (hi : i + 5 ≤ L) (hL : L ≤ 2560) (hc : cells + 3 ≤ 603072) (hs : slots + 18 ≤ 7219306) (I : LI g kw sk t G) (k : ∀ z2 sk2 t2 G2, LI g kw sk2 t2 G2 → J p l e room_1 s m args below meth c Q 9 g (cells + 3) (slots + 18) z2 sk2 t2 3209 [some (.ref b), some (.ref (jb g + 0)), some (.ref (jb g + 454)), some (.ref (jb g + 462)), some (.ref (jb g + 463)), some (.int (nI i)), none, none, none] []) : J p l e room_1 s m args below meth c Q 9 g cells slots z sk t 2549 [some (.ref b), some (.ref (jb g + 0)), some (.ref (jb g + 454)), some (.ref (jb g + 462)), some (.ref (jb g + 463)), some (.int (nI i)), none, none, none] [] := by
  have hok := X.ok
  obtain ⟨hP, hM, ⟨a1, hO⟩, ⟨a2, hD⟩, hG, ⟨n0, hR⟩, hK⟩ := id I
  refine j_aload_n X (i := 1) dL_law_2549 rfl rfl ?_
  refine j_aload_n X (i := 3) dL_law_2550 rfl rfl ?_
  refine j_callSW_p X (w_refusalReason hok hst hP hG hK hO) iw_refusalReason tw_5_32 tw_5_33 dL_law_2551 (fun v2 z2 sk2 t2 hp => ?_) (by show _ ≤ 603072; omega) (by show _ ≤ 7219306; omega)
  obtain ⟨rfl, hP2, hM2, ⟨a3, hO2, ha⟩, ⟨a4, hD2⟩, hG2, n1, hR2⟩ := LI.wrap I hp
  obtain ⟨M0, -⟩ := id hM2
  refine j_istore X (i := 6) dL_law_2554 (by decide) rfl ?_
  refine j_aload_n X (i := 2) dL_law_2556 rfl rfl ?_
  refine j_callV_p X (m_reason hok hst hM2 hR2 hK) i_X10_refusalReason tw_7_170 tw_7_171 tw_7_172 M0 rfl dL_law_2557 (fun v3 z3 sk3 t3 hq => ?_) (hmc := by show _ ≤ 603072; omega) (hms := by show _ ≤ 7219306; omega)
  obtain ⟨rfl, rfl, rfl, h7, hR3, hf3⟩ := hq
  refine j_istore X (i := 7) dL_law_2560 (by decide) rfl ?_
  refine j_aload_n X (i := 2) dL_law_2562 rfl rfl ?_
  refine j_callV X (m_thrown hok hst hM2) i_X10_thrown tw_6_124 tw_6_125 tw_6_126 M0 rfl dL_law_2563 ?_ (hmc := by show _ ≤ 603072; omega) (hms := by show _ ≤ 7219306; omega)
  rw [h7]
  refine j_iload X (i := 6) dL_law_2566 rfl ?_
  refine j_icmp_eq X (tgt := 2573) dL_law_2568 (by decide) (fun _ => ?_) (fun q9 => absurd rfl q9)
  refine j_iload X (i := 6) dL_law_2573 rfl ?_
  refine j_if_ne X (tgt := 2590) dL_law_2575 (by decide) (fun h9 => ?_) (fun h9 => ?_)
  · refine j_goto X (tgt := 3209) dL_law_2590 (by decide) ?_
    exact j_drop 6 (j_drop 7 (k _ _ _ _ ⟨hP2, hM2, ⟨_, hO2⟩, ⟨_, hD2⟩, hG2.low fun c9 hc9 => hf3 c9 (by omega), ⟨_, hR3⟩, k_reason hK⟩))
  · have ha := ha h9
    refine j_aload_n X (i := 3) dL_law_2578 rfl rfl ?_
    refine j_iconst X (v := (nI 0)) dL_law_2579 (by decide) ?_
    refine j_laload X hO2 rfl ⟨by decide, by decide⟩ dL_law_2580 ?_
    refine j_iload X (i := 7) dL_law_2581 rfl ?_
    refine j_i2l X dL_law_2583 rfl ?_
    rw [ha]
    refine j_lcmp X dL_law_2584 ?_
    rw [lg_cmp_0]
    refine j_if_eq X (tgt := 2590) dL_law_2585 (by decide) (fun _ => ?_) (fun q9 => absurd rfl q9)
    refine j_goto X (tgt := 3209) dL_law_2590 (by decide) ?_
    exact j_drop 6 (j_drop 7 (k _ _ _ _ ⟨hP2, hM2, ⟨_, hO2⟩, ⟨_, hD2⟩, hG2.low fun c9 hc9 => hf3 c9 (by omega), ⟨_, hR3⟩, k_reason hK⟩))
theorem law_39 (X : jX p l s m args meth c (mLaw nm) g none) (hst : l.stackTraces = false) (hK9 : oKw g K kw sa w9) (hX : va_X b L xs (j0 g) (j0 g).heap) (hb : b < jb g) (hi : i + 5 ≤ L) (hL : L ≤ 2560) (hc : cells + 3 ≤ 603072) (hs : slots + 18 ≤ 7219306) (I : LI g kw sk t G) (k : ∀ z2 sk2 t2 G2, LI g kw sk2 t2 G2 → J p l e room_1 s m args below meth c Q 9 g (cells + 3) (slots + 18) z2 sk2 t2 3209 [some (.ref b), some (.ref (jb g + 0)), some (.ref (jb g + 454)), some (.ref (jb g + 462)), some (.ref (jb g + 463)), some (.int (nI i)), none, none, none] []) : J p l e room_1 s m args below meth c Q 9 g cells slots z sk t 2593 [some (.ref b), some (.ref (jb g + 0)), some (.ref (jb g + 454)), some (.ref (jb g + 462)), some (.ref (jb g + 463)), some (.int (nI i)), none, none, none] [] := by
  have hok := X.ok
  obtain ⟨hP, hM, ⟨a1, hO⟩, ⟨a2, hD⟩, hG, ⟨n0, hR⟩, hK⟩ := id I
  refine j_aload_n X (i := 1) dL_law_2593 rfl rfl ?_
  refine j_aload_n X (i := 3) dL_law_2594 rfl rfl ?_
  refine j_callSW_p X (w_refusalDetail hok hst hP hG hK hO) iw_refusalDetail tw_5_44 tw_5_45 dL_law_2595 (fun v2 z2 sk2 t2 hp => ?_) (by show _ ≤ 603072; omega) (by show _ ≤ 7219306; omega)
  obtain ⟨rfl, hP2, hM2, ⟨a3, hO2, ha⟩, ⟨a4, hD2⟩, hG2, n1, hR2⟩ := LI.wrap I hp
  obtain ⟨M0, -⟩ := id hM2
  refine j_istore X (i := 6) dL_law_2598 (by decide) rfl ?_
  refine j_aload_n X (i := 2) dL_law_2600 rfl rfl ?_
  refine j_callV_p X (m_detail hok hst hM2 hR2 hK) i_X10_refusalDetail tw_7_174 tw_7_175 tw_7_176 M0 rfl dL_law_2601 (fun v3 z3 sk3 t3 hq => ?_) (hmc := by show _ ≤ 603072; omega) (hms := by show _ ≤ 7219306; omega)
  obtain ⟨rfl, rfl, rfl, h7, hR3, hf3⟩ := hq
  refine j_istore X (i := 7) dL_law_2604 (by decide) rfl ?_
  refine j_aload_n X (i := 2) dL_law_2606 rfl rfl ?_
  refine j_callV X (m_thrown hok hst hM2) i_X10_thrown tw_6_124 tw_6_125 tw_6_126 M0 rfl dL_law_2607 ?_ (hmc := by show _ ≤ 603072; omega) (hms := by show _ ≤ 7219306; omega)
  rw [h7]
  refine j_iload X (i := 6) dL_law_2610 rfl ?_
  refine j_icmp_eq X (tgt := 2617) dL_law_2612 (by decide) (fun _ => ?_) (fun q9 => absurd rfl q9)
  refine j_iload X (i := 6) dL_law_2617 rfl ?_
  refine j_if_ne X (tgt := 2634) dL_law_2619 (by decide) (fun h9 => ?_) (fun h9 => ?_)
  · refine j_goto X (tgt := 3209) dL_law_2634 (by decide) ?_
    exact j_drop 6 (j_drop 7 (k _ _ _ _ ⟨hP2, hM2, ⟨_, hO2⟩, ⟨_, hD2⟩, hG2.low fun c9 hc9 => hf3 c9 (by omega), ⟨_, hR3⟩, k_detail hK⟩))
  · have ha := ha h9
    refine j_aload_n X (i := 3) dL_law_2622 rfl rfl ?_
    refine j_iconst X (v := (nI 0)) dL_law_2623 (by decide) ?_
    refine j_laload X hO2 rfl ⟨by decide, by decide⟩ dL_law_2624 ?_
    refine j_iload X (i := 7) dL_law_2625 rfl ?_
    refine j_i2l X dL_law_2627 rfl ?_
    rw [ha]
    refine j_lcmp X dL_law_2628 ?_
    rw [lg_cmp_0]
    refine j_if_eq X (tgt := 2634) dL_law_2629 (by decide) (fun _ => ?_) (fun q9 => absurd rfl q9)
    refine j_goto X (tgt := 3209) dL_law_2634 (by decide) ?_
    exact j_drop 6 (j_drop 7 (k _ _ _ _ ⟨hP2, hM2, ⟨_, hO2⟩, ⟨_, hD2⟩, hG2.low fun c9 hc9 => hf3 c9 (by omega), ⟨_, hR3⟩, k_detail hK⟩))
theorem law_40 (X : jX p l s m args meth c (mLaw nm) g none) (hst : l.stackTraces = false) (hK9 : oKw g K kw sa w9) (hX : va_X b L xs (j0 g) (j0 g).heap) (hb : b < jb g) (hi : i + 5 ≤ L) (hL : L ≤ 2560) (hc : cells + 3 ≤ 603072) (hs : slots + 18 ≤ 7219306) (I : LI g kw sk t G) (k : ∀ z2 sk2 t2 G2, LI g kw sk2 t2 G2 → J p l e room_1 s m args below meth c Q 9 g (cells + 3) (slots + 18) z2 sk2 t2 3209 [some (.ref b), some (.ref (jb g + 0)), some (.ref (jb g + 454)), some (.ref (jb g + 462)), some (.ref (jb g + 463)), some (.int (nI i)), none, none, none] []) : J p l e room_1 s m args below meth c Q 9 g cells slots z sk t 2637 [some (.ref b), some (.ref (jb g + 0)), some (.ref (jb g + 454)), some (.ref (jb g + 462)), some (.ref (jb g + 463)), some (.int (nI i)), none, none, none] [] := by
  have hok := X.ok
  obtain ⟨hP, hM, ⟨a1, hO⟩, ⟨a2, hD⟩, hG, ⟨n0, hR⟩, hK⟩ := id I
  refine j_aload_n X (i := 1) dL_law_2637 rfl rfl ?_
  refine j_aload X (i := 4) dL_law_2638 rfl ?_
  refine j_callSW_p X (w_meanWetness hok hst hP hG hK hD) iw_meanWetness tw_5_51 tw_5_52 dL_law_2640 (fun v2 z2 sk2 t2 hp => ?_) (by show _ ≤ 603072; omega) (by show _ ≤ 7219306; omega)
  obtain ⟨rfl, hP2, hM2, ⟨a3, hO2⟩, ⟨a4, hD2, ha⟩, hG2, n1, hR2⟩ := LI.wrapD I hp
  obtain ⟨M0, -⟩ := id hM2
  refine j_istore X (i := 6) dL_law_2643 (by decide) rfl ?_
  refine j_aload_n X (i := 2) dL_law_2645 rfl rfl ?_
  refine j_callV_p X (m_mean hok hst hM2 hR2 hK) i_X10_meanWetness tw_7_178 tw_7_179 tw_7_180 M0 rfl dL_law_2646 (fun v3 z3 sk3 t3 hq => ?_) (hmc := by show _ ≤ 603072; omega) (hms := by show _ ≤ 7219306; omega)
  obtain ⟨rfl, rfl, rfl, h7, hR3, hf3⟩ := hq
  refine j_dstore X (i := 7) dL_law_2649 (by decide) rfl rfl ?_
  refine j_aload_n X (i := 2) dL_law_2651 rfl rfl ?_
  refine j_callV X (m_thrown hok hst hM2) i_X10_thrown tw_6_124 tw_6_125 tw_6_126 M0 rfl dL_law_2652 ?_ (hmc := by show _ ≤ 603072; omega) (hms := by show _ ≤ 7219306; omega)
  rw [h7]
  refine j_iload X (i := 6) dL_law_2655 rfl ?_
  refine j_icmp_eq X (tgt := 2662) dL_law_2657 (by decide) (fun _ => ?_) (fun q9 => absurd rfl q9)
  refine j_iload X (i := 6) dL_law_2662 rfl ?_
  refine j_if_ne X (tgt := 2699) dL_law_2664 (by decide) (fun h9 => ?_) (fun h9 => ?_)
  · refine j_goto X (tgt := 3209) dL_law_2699 (by decide) ?_
    exact j_drop 6 (j_drop 7 (k _ _ _ _ ⟨hP2, hM2, ⟨_, hO2⟩, ⟨_, hD2⟩, hG2.low fun c9 hc9 => hf3 c9 (by omega), ⟨_, hR3⟩, hK⟩))
  · have ha := ha h9
    refine j_aload X (i := 4) dL_law_2667 rfl ?_
    refine j_iconst X (v := (nI 0)) dL_law_2669 (by decide) ?_
    refine j_daload X hD2 rfl ⟨by decide, by decide⟩ dL_law_2670 ?_
    refine j_dload X (i := 7) dL_law_2671 rfl ?_
    refine j_dcmp X dL_law_2673 ?_
    rw [ha, mean_eq hK h9]
    refine j_if_eq X (tgt := 2699) dL_law_2674 (by decide) (fun _ => ?_) (fun q9 => absurd rfl q9)
    refine j_goto X (tgt := 3209) dL_law_2699 (by decide) ?_
    exact j_drop 6 (j_drop 7 (k _ _ _ _ ⟨hP2, hM2, ⟨_, hO2⟩, ⟨_, hD2⟩, hG2.low fun c9 hc9 => hf3 c9 (by omega), ⟨_, hR3⟩, hK⟩))
theorem law_41 (X : jX p l s m args meth c (mLaw nm) g none) (hst : l.stackTraces = false) (hK9 : oKw g K kw sa w9) (hX : va_X b L xs (j0 g) (j0 g).heap) (hb : b < jb g) (hi : i + 5 ≤ L) (hL : L ≤ 2560) (hc : cells + 3 ≤ 603072) (hs : slots + 18 ≤ 7219306) (I : LI g kw sk t G) (k : ∀ z2 sk2 t2 G2, LI g kw sk2 t2 G2 → J p l e room_1 s m args below meth c Q 9 g (cells + 3) (slots + 18) z2 sk2 t2 3209 [some (.ref b), some (.ref (jb g + 0)), some (.ref (jb g + 454)), some (.ref (jb g + 462)), some (.ref (jb g + 463)), some (.int (nI i)), none, none, none] []) : J p l e room_1 s m args below meth c Q 9 g cells slots z sk t 2702 [some (.ref b), some (.ref (jb g + 0)), some (.ref (jb g + 454)), some (.ref (jb g + 462)), some (.ref (jb g + 463)), some (.int (nI i)), none, none, none] [] := by
  have hok := X.ok
  obtain ⟨hP, hM, ⟨a1, hO⟩, ⟨a2, hD⟩, hG, ⟨n0, hR⟩, hK⟩ := id I
  refine j_aload_n X (i := 1) dL_law_2702 rfl rfl ?_
  refine j_aload X (i := 4) dL_law_2703 rfl ?_
  refine j_callSW_p X (w_smearedFraction hok hst hP hG hK hD) iw_smearedFraction tw_5_79 tw_5_80 dL_law_2705 (fun v2 z2 sk2 t2 hp => ?_) (by show _ ≤ 603072; omega) (by show _ ≤ 7219306; omega)
  obtain ⟨rfl, hP2, hM2, ⟨a3, hO2⟩, ⟨a4, hD2, ha⟩, hG2, n1, hR2⟩ := LI.wrapD I hp
  obtain ⟨M0, -⟩ := id hM2
  refine j_istore X (i := 6) dL_law_2708 (by decide) rfl ?_
  refine j_aload_n X (i := 2) dL_law_2710 rfl rfl ?_
  refine j_callV_p X (m_frac hok hst hM2 hR2 hK) i_X10_smearedFraction tw_7_182 tw_7_183 tw_7_184 M0 rfl dL_law_2711 (fun v3 z3 sk3 t3 hq => ?_) (hmc := by show _ ≤ 603072; omega) (hms := by show _ ≤ 7219306; omega)
  obtain ⟨rfl, rfl, rfl, h7, hR3, hf3⟩ := hq
  refine j_fstore X (i := 7) dL_law_2714 (by decide) rfl ?_
  refine j_aload_n X (i := 2) dL_law_2716 rfl rfl ?_
  refine j_callV X (m_thrown hok hst hM2) i_X10_thrown tw_6_124 tw_6_125 tw_6_126 M0 rfl dL_law_2717 ?_ (hmc := by show _ ≤ 603072; omega) (hms := by show _ ≤ 7219306; omega)
  rw [h7]
  refine j_iload X (i := 6) dL_law_2720 rfl ?_
  refine j_icmp_eq X (tgt := 2727) dL_law_2722 (by decide) (fun _ => ?_) (fun q9 => absurd rfl q9)
  refine j_iload X (i := 6) dL_law_2727 rfl ?_
  refine j_if_ne X (tgt := 2765) dL_law_2729 (by decide) (fun h9 => ?_) (fun h9 => ?_)
  · refine j_goto X (tgt := 3209) dL_law_2765 (by decide) ?_
    exact j_drop 6 (j_drop 7 (k _ _ _ _ ⟨hP2, hM2, ⟨_, hO2⟩, ⟨_, hD2⟩, hG2.low fun c9 hc9 => hf3 c9 (by omega), ⟨_, hR3⟩, hK⟩))
  · have ha := ha h9
    refine j_aload X (i := 4) dL_law_2732 rfl ?_
    refine j_iconst X (v := (nI 0)) dL_law_2734 (by decide) ?_
    refine j_daload X hD2 rfl ⟨by decide, by decide⟩ dL_law_2735 ?_
    refine j_fload X (i := 7) dL_law_2736 rfl ?_
    refine j_f2d X dL_law_2738 (frac_n2 hK h9) ?_
    refine j_dcmp X dL_law_2739 ?_
    rw [ha, frac_eq hK h9]
    refine j_if_eq X (tgt := 2765) dL_law_2740 (by decide) (fun _ => ?_) (fun q9 => absurd rfl q9)
    refine j_goto X (tgt := 3209) dL_law_2765 (by decide) ?_
    exact j_drop 6 (j_drop 7 (k _ _ _ _ ⟨hP2, hM2, ⟨_, hO2⟩, ⟨_, hD2⟩, hG2.low fun c9 hc9 => hf3 c9 (by omega), ⟨_, hR3⟩, hK⟩))
theorem law_42 (X : jX p l s m args meth c (mLaw nm) g none) (hst : l.stackTraces = false) (hK9 : oKw g K kw sa w9) (hX : va_X b L xs (j0 g) (j0 g).heap) (hb : b < jb g) (hi : i + 5 ≤ L) (hL : L ≤ 2560) (hc : cells + 3 ≤ 603072) (hs : slots + 18 ≤ 7219306) (I : LI g kw sk t G) (k : ∀ z2 sk2 t2 G2, LI g kw sk2 t2 G2 → J p l e room_1 s m args below meth c Q 9 g (cells + 3) (slots + 18) z2 sk2 t2 3209 [some (.ref b), some (.ref (jb g + 0)), some (.ref (jb g + 454)), some (.ref (jb g + 462)), some (.ref (jb g + 463)), some (.int (nI i)), none, none, none] []) : J p l e room_1 s m args below meth c Q 9 g cells slots z sk t 2768 [some (.ref b), some (.ref (jb g + 0)), some (.ref (jb g + 454)), some (.ref (jb g + 462)), some (.ref (jb g + 463)), some (.int (nI i)), none, none, none] [] := by
  have hok := X.ok
  obtain ⟨hP, hM, ⟨a1, hO⟩, ⟨a2, hD⟩, hG, ⟨n0, hR⟩, hK⟩ := id I
  refine j_aload_n X (i := 1) dL_law_2768 rfl rfl ?_
  refine j_aload_n X (i := 0) dL_law_2769 rfl rfl ?_
  refine j_iload X (i := 5) dL_law_2770 rfl ?_
  refine j_iconst X (v := (nI 1)) dL_law_2772 (by decide) ?_
  refine j_iadd X dL_law_2773 ?_
  refine j_sld X hX hb (nI_add _ _) (by omega) (by omega) dL_law_2774 ?_
  refine j_aload_n X (i := 0) dL_law_2775 rfl rfl ?_
  refine j_iload X (i := 5) dL_law_2776 rfl ?_
  refine j_iconst X (v := (nI 2)) dL_law_2778 (by decide) ?_
  refine j_iadd X dL_law_2779 ?_
  refine j_sld X hX hb (nI_add _ _) (by omega) (by omega) dL_law_2780 ?_
  refine j_aload_n X (i := 3) dL_law_2781 rfl rfl ?_
  refine j_callSW_p X (w_writeRow hok hst hP hG hK hO (xs (i + 1)) (xs (i + 2))) iw_writeRow tw_5_86 tw_5_87 dL_law_2782 (fun v2 z2 sk2 t2 hp => ?_) (by show _ ≤ 603072; omega) (by show _ ≤ 7219306; omega)
  obtain ⟨rfl, hP2, hM2, ⟨a3, hO2, ha⟩, ⟨a4, hD2⟩, hG2, n1, hR2⟩ := LI.wrap I hp
  obtain ⟨M0, -⟩ := id hM2
  refine j_istore X (i := 6) dL_law_2785 (by decide) rfl ?_
  refine j_aload_n X (i := 2) dL_law_2787 rfl rfl ?_
  refine j_aload_n X (i := 0) dL_law_2788 rfl rfl ?_
  refine j_iload X (i := 5) dL_law_2789 rfl ?_
  refine j_iconst X (v := (nI 1)) dL_law_2791 (by decide) ?_
  refine j_iadd X dL_law_2792 ?_
  refine j_sld X hX hb (nI_add _ _) (by omega) (by omega) dL_law_2793 ?_
  refine j_aload_n X (i := 0) dL_law_2794 rfl rfl ?_
  refine j_iload X (i := 5) dL_law_2795 rfl ?_
  refine j_iconst X (v := (nI 2)) dL_law_2797 (by decide) ?_
  refine j_iadd X dL_law_2798 ?_
  refine j_sld X hX hb (nI_add _ _) (by omega) (by omega) dL_law_2799 ?_
  refine j_callV_p X (m_writeRow hok hst hM2 hR2 hK (xs (i + 1)) (xs (i + 2))) i_X10_writeRow tw_7_186 tw_7_187 tw_7_188 M0 rfl dL_law_2800 (fun v3 z3 sk3 t3 hq => ?_) (hmc := by show _ ≤ 603072; omega) (hms := by show _ ≤ 7219306; omega)
  obtain ⟨rfl, rfl, rfl, h7, hR3, hf3⟩ := hq
  refine j_istore X (i := 7) dL_law_2803 (by decide) rfl ?_
  refine j_aload_n X (i := 2) dL_law_2805 rfl rfl ?_
  refine j_callV X (m_thrown hok hst hM2) i_X10_thrown tw_6_124 tw_6_125 tw_6_126 M0 rfl dL_law_2806 ?_ (hmc := by show _ ≤ 603072; omega) (hms := by show _ ≤ 7219306; omega)
  rw [h7]
  refine j_iload X (i := 6) dL_law_2809 rfl ?_
  refine j_icmp_eq X (tgt := 2816) dL_law_2811 (by decide) (fun _ => ?_) (fun q9 => absurd rfl q9)
  refine j_iload X (i := 6) dL_law_2816 rfl ?_
  refine j_if_ne X (tgt := 2833) dL_law_2818 (by decide) (fun h9 => ?_) (fun h9 => ?_)
  · refine j_goto X (tgt := 3209) dL_law_2833 (by decide) ?_
    exact j_drop 6 (j_drop 7 (k _ _ _ _ ⟨hP2, hM2, ⟨_, hO2⟩, ⟨_, hD2⟩, hG2.low fun c9 hc9 => hf3 c9 (by omega), ⟨_, hR3⟩, k_writeRow hK (xs (i + 1)) (xs (i + 2))⟩))
  · have ha := ha h9
    refine j_aload_n X (i := 3) dL_law_2821 rfl rfl ?_
    refine j_iconst X (v := (nI 0)) dL_law_2822 (by decide) ?_
    refine j_laload X hO2 rfl ⟨by decide, by decide⟩ dL_law_2823 ?_
    refine j_iload X (i := 7) dL_law_2824 rfl ?_
    refine j_i2l X dL_law_2826 rfl ?_
    rw [ha]
    refine j_lcmp X dL_law_2827 ?_
    rw [lg_cmp_0]
    refine j_if_eq X (tgt := 2833) dL_law_2828 (by decide) (fun _ => ?_) (fun q9 => absurd rfl q9)
    refine j_goto X (tgt := 3209) dL_law_2833 (by decide) ?_
    exact j_drop 6 (j_drop 7 (k _ _ _ _ ⟨hP2, hM2, ⟨_, hO2⟩, ⟨_, hD2⟩, hG2.low fun c9 hc9 => hf3 c9 (by omega), ⟨_, hR3⟩, k_writeRow hK (xs (i + 1)) (xs (i + 2))⟩))
theorem law_43 (X : jX p l s m args meth c (mLaw nm) g none) (hst : l.stackTraces = false) (hK9 : oKw g K kw sa w9) (hX : va_X b L xs (j0 g) (j0 g).heap) (hb : b < jb g) (hi : i + 5 ≤ L) (hL : L ≤ 2560) (hc : cells + 3 ≤ 603072) (hs : slots + 18 ≤ 7219306) (I : LI g kw sk t G) (k : ∀ z2 sk2 t2 G2, LI g kw sk2 t2 G2 → J p l e room_1 s m args below meth c Q 9 g (cells + 3) (slots + 18) z2 sk2 t2 3209 [some (.ref b), some (.ref (jb g + 0)), some (.ref (jb g + 454)), some (.ref (jb g + 462)), some (.ref (jb g + 463)), some (.int (nI i)), none, none, none] []) : J p l e room_1 s m args below meth c Q 9 g cells slots z sk t 2836 [some (.ref b), some (.ref (jb g + 0)), some (.ref (jb g + 454)), some (.ref (jb g + 462)), some (.ref (jb g + 463)), some (.int (nI i)), none, none, none] [] := by
  have hok := X.ok
  obtain ⟨hP, hM, ⟨a1, hO⟩, ⟨a2, hD⟩, hG, ⟨n0, hR⟩, hK⟩ := id I
  refine j_aload_n X (i := 1) dL_law_2836 rfl rfl ?_
  refine j_aload_n X (i := 0) dL_law_2837 rfl rfl ?_
  refine j_iload X (i := 5) dL_law_2838 rfl ?_
  refine j_iconst X (v := (nI 1)) dL_law_2840 (by decide) ?_
  refine j_iadd X dL_law_2841 ?_
  refine j_sld X hX hb (nI_add _ _) (by omega) (by omega) dL_law_2842 ?_
  refine j_aload_n X (i := 3) dL_law_2843 rfl rfl ?_
  refine j_callSW_p X (w_outputCharacter hok hst hP hG hK hO (xs (i + 1))) iw_outputCharacter tw_5_93 tw_5_94 dL_law_2844 (fun v2 z2 sk2 t2 hp => ?_) (by show _ ≤ 603072; omega) (by show _ ≤ 7219306; omega)
  obtain ⟨rfl, hP2, hM2, ⟨a3, hO2, ha⟩, ⟨a4, hD2⟩, hG2, n1, hR2⟩ := LI.wrap I hp
  obtain ⟨M0, -⟩ := id hM2
  refine j_istore X (i := 6) dL_law_2847 (by decide) rfl ?_
  refine j_aload_n X (i := 2) dL_law_2849 rfl rfl ?_
  refine j_aload_n X (i := 0) dL_law_2850 rfl rfl ?_
  refine j_iload X (i := 5) dL_law_2851 rfl ?_
  refine j_iconst X (v := (nI 1)) dL_law_2853 (by decide) ?_
  refine j_iadd X dL_law_2854 ?_
  refine j_sld X hX hb (nI_add _ _) (by omega) (by omega) dL_law_2855 ?_
  refine j_callV_p X (m_outChar hok hst hM2 hR2 hK (xs (i + 1))) i_X10_outputCharacter tw_7_190 tw_7_191 tw_7_192 M0 rfl dL_law_2856 (fun v3 z3 sk3 t3 hq => ?_) (hmc := by show _ ≤ 603072; omega) (hms := by show _ ≤ 7219306; omega)
  obtain ⟨rfl, rfl, rfl, h7, hR3, hf3⟩ := hq
  refine j_istore X (i := 7) dL_law_2859 (by decide) rfl ?_
  refine j_aload_n X (i := 2) dL_law_2861 rfl rfl ?_
  refine j_callV X (m_thrown hok hst hM2) i_X10_thrown tw_6_124 tw_6_125 tw_6_126 M0 rfl dL_law_2862 ?_ (hmc := by show _ ≤ 603072; omega) (hms := by show _ ≤ 7219306; omega)
  rw [h7]
  refine j_iload X (i := 6) dL_law_2865 rfl ?_
  refine j_icmp_eq X (tgt := 2872) dL_law_2867 (by decide) (fun _ => ?_) (fun q9 => absurd rfl q9)
  refine j_iload X (i := 6) dL_law_2872 rfl ?_
  refine j_if_ne X (tgt := 2889) dL_law_2874 (by decide) (fun h9 => ?_) (fun h9 => ?_)
  · refine j_goto X (tgt := 3209) dL_law_2889 (by decide) ?_
    exact j_drop 6 (j_drop 7 (k _ _ _ _ ⟨hP2, hM2, ⟨_, hO2⟩, ⟨_, hD2⟩, hG2.low fun c9 hc9 => hf3 c9 (by omega), ⟨_, hR3⟩, k_outChar hK (xs (i + 1))⟩))
  · have ha := ha h9
    refine j_aload_n X (i := 3) dL_law_2877 rfl rfl ?_
    refine j_iconst X (v := (nI 0)) dL_law_2878 (by decide) ?_
    refine j_laload X hO2 rfl ⟨by decide, by decide⟩ dL_law_2879 ?_
    refine j_iload X (i := 7) dL_law_2880 rfl ?_
    refine j_i2l X dL_law_2882 rfl ?_
    rw [ha]
    refine j_lcmp X dL_law_2883 ?_
    rw [lg_cmp_0]
    refine j_if_eq X (tgt := 2889) dL_law_2884 (by decide) (fun _ => ?_) (fun q9 => absurd rfl q9)
    refine j_goto X (tgt := 3209) dL_law_2889 (by decide) ?_
    exact j_drop 6 (j_drop 7 (k _ _ _ _ ⟨hP2, hM2, ⟨_, hO2⟩, ⟨_, hD2⟩, hG2.low fun c9 hc9 => hf3 c9 (by omega), ⟨_, hR3⟩, k_outChar hK (xs (i + 1))⟩))
theorem law_44 (X : jX p l s m args meth c (mLaw nm) g none) (hst : l.stackTraces = false) (hK9 : oKw g K kw sa w9) (hX : va_X b L xs (j0 g) (j0 g).heap) (hb : b < jb g) (hi : i + 5 ≤ L) (hL : L ≤ 2560) (hc : cells + 3 ≤ 603072) (hs : slots + 18 ≤ 7219306) (I : LI g kw sk t G) (k : ∀ z2 sk2 t2 G2, LI g kw sk2 t2 G2 → J p l e room_1 s m args below meth c Q 9 g (cells + 3) (slots + 18) z2 sk2 t2 3209 [some (.ref b), some (.ref (jb g + 0)), some (.ref (jb g + 454)), some (.ref (jb g + 462)), some (.ref (jb g + 463)), some (.int (nI i)), none, none, none] []) : J p l e room_1 s m args below meth c Q 9 g cells slots z sk t 2892 [some (.ref b), some (.ref (jb g + 0)), some (.ref (jb g + 454)), some (.ref (jb g + 462)), some (.ref (jb g + 463)), some (.int (nI i)), none, none, none] [] := by
  have hok := X.ok
  obtain ⟨hP, hM, ⟨a1, hO⟩, ⟨a2, hD⟩, hG, ⟨n0, hR⟩, hK⟩ := id I
  obtain ⟨P0, -⟩ := id hP
  obtain ⟨M0, -⟩ := id hM
  refine j_aload_n X (i := 1) dL_law_2892 rfl rfl ?_
  refine j_callV_p X (f_isConsistent hok hst hP hG hK) i_X9_isConsistent tw_2_51 tw_2_52 tw_2_53 P0 rfl dL_law_2893 (fun v2 z2 sk2 t2 hp => ?_) (hmc := by show _ ≤ 603072; omega) (hms := by show _ ≤ 7219306; omega)
  obtain ⟨-, rfl, rfl, rfl, hG2, hf⟩ := hp
  have hR2 : RmG t2 454 (false, n0) G := hR.same fun c9 hc9 => hf c9 hc9
  refine j_aload_n X (i := 2) dL_law_2896 rfl rfl ?_
  refine j_callV_p X (m_isConsistent hok hst hM hR2 hK) i_X10_isConsistent tw_7_194 tw_7_195 tw_7_196 M0 rfl dL_law_2897 (fun v3 z3 sk3 t3 hq => ?_) (hmc := by show _ ≤ 603072; omega) (hms := by show _ ≤ 7219306; omega)
  obtain ⟨rfl, rfl, rfl, -, hR3, hf3⟩ := hq
  refine j_icmp_eq X (tgt := 3209) dL_law_2900 (by decide) (fun _ => ?_) (fun q9 => absurd rfl q9)
  refine j_widen (k := cells + 3) (n := slots + 18) (by omega) (by omega) ?_
  exact k _ _ _ _ ⟨hP, hM, ⟨a1, hO⟩, ⟨a2, hD⟩, hG2.low fun c9 hc9 => hf3 c9 (by omega), ⟨_, hR3⟩, hK⟩
theorem law_45 (X : jX p l s m args meth c (mLaw nm) g none) (hst : l.stackTraces = false) (hK9 : oKw g K kw sa w9) (hX : va_X b L xs (j0 g) (j0 g).heap) (hb : b < jb g) (hi : i + 5 ≤ L) (hL : L ≤ 2560) (hc : cells + 3 ≤ 603072) (hs : slots + 18 ≤ 7219306) (I : LI g kw sk t G) (k : ∀ z2 sk2 t2 G2, LI g kw sk2 t2 G2 → J p l e room_1 s m args below meth c Q 9 g (cells + 3) (slots + 18) z2 sk2 t2 3209 [some (.ref b), some (.ref (jb g + 0)), some (.ref (jb g + 454)), some (.ref (jb g + 462)), some (.ref (jb g + 463)), some (.int (nI i)), none, none, none] []) : J p l e room_1 s m args below meth c Q 9 g cells slots z sk t 2905 [some (.ref b), some (.ref (jb g + 0)), some (.ref (jb g + 454)), some (.ref (jb g + 462)), some (.ref (jb g + 463)), some (.int (nI i)), none, none, none] [] := by
  have hok := X.ok
  obtain ⟨hP, hM, ⟨a1, hO⟩, ⟨a2, hD⟩, hG, ⟨n0, hR⟩, hK⟩ := id I
  refine j_aload_n X (i := 1) dL_law_2905 rfl rfl ?_
  refine j_aload_n X (i := 0) dL_law_2906 rfl rfl ?_
  refine j_iload X (i := 5) dL_law_2907 rfl ?_
  refine j_iconst X (v := (nI 1)) dL_law_2909 (by decide) ?_
  refine j_iadd X dL_law_2910 ?_
  refine j_sld X hX hb (nI_add _ _) (by omega) (by omega) dL_law_2911 ?_
  refine j_i2c X dL_law_2912 (i2c_nI _) ?_
  refine j_aload_n X (i := 3) dL_law_2913 rfl rfl ?_
  refine j_callSW_p X (w_feed hok hst hP hG hK hO (Nat.mod_lt _ (by decide))) iw_feed tw_5_101 tw_5_102 dL_law_2914 (fun v2 z2 sk2 t2 hp => ?_) (by show _ ≤ 603072; omega) (by show _ ≤ 7219306; omega)
  obtain ⟨rfl, hP2, hM2, ⟨a3, hO2, ha⟩, ⟨a4, hD2⟩, hG2, n1, hR2⟩ := LI.wrap I hp
  obtain ⟨M0, -⟩ := id hM2
  refine j_istore X (i := 6) dL_law_2917 (by decide) rfl ?_
  refine j_aload_n X (i := 2) dL_law_2919 rfl rfl ?_
  refine j_aload_n X (i := 0) dL_law_2920 rfl rfl ?_
  refine j_iload X (i := 5) dL_law_2921 rfl ?_
  refine j_iconst X (v := (nI 1)) dL_law_2923 (by decide) ?_
  refine j_iadd X dL_law_2924 ?_
  refine j_sld X hX hb (nI_add _ _) (by omega) (by omega) dL_law_2925 ?_
  refine j_i2c X dL_law_2926 (i2c_nI _) ?_
  refine j_callV_p X (m_feed hok hst hM2 hR2 hK ((xs (i + 1)).toUInt32.toNat % 65536)) i_X10_feed tw_7_198 tw_7_199 tw_7_200 M0 rfl dL_law_2927 (fun v3 z3 sk3 t3 hq => ?_) (hmc := by show _ ≤ 603072; omega) (hms := by show _ ≤ 7219306; omega)
  obtain ⟨rfl, rfl, rfl, h7, hR3, hf3⟩ := hq
  refine j_istore X (i := 7) dL_law_2930 (by decide) rfl ?_
  refine j_aload_n X (i := 2) dL_law_2932 rfl rfl ?_
  refine j_callV X (m_thrown hok hst hM2) i_X10_thrown tw_6_124 tw_6_125 tw_6_126 M0 rfl dL_law_2933 ?_ (hmc := by show _ ≤ 603072; omega) (hms := by show _ ≤ 7219306; omega)
  rw [h7]
  refine j_iload X (i := 6) dL_law_2936 rfl ?_
  refine j_icmp_eq X (tgt := 2943) dL_law_2938 (by decide) (fun _ => ?_) (fun q9 => absurd rfl q9)
  refine j_iload X (i := 6) dL_law_2943 rfl ?_
  refine j_if_ne X (tgt := 2960) dL_law_2945 (by decide) (fun h9 => ?_) (fun h9 => ?_)
  · refine j_goto X (tgt := 3209) dL_law_2960 (by decide) ?_
    exact j_drop 6 (j_drop 7 (k _ _ _ _ ⟨hP2, hM2, ⟨_, hO2⟩, ⟨_, hD2⟩, hG2.low fun c9 hc9 => hf3 c9 (by omega), ⟨_, hR3⟩, k_feed hK (Nat.mod_lt _ (by decide))⟩))
  · have ha := ha h9
    refine j_aload_n X (i := 3) dL_law_2948 rfl rfl ?_
    refine j_iconst X (v := (nI 0)) dL_law_2949 (by decide) ?_
    refine j_laload X hO2 rfl ⟨by decide, by decide⟩ dL_law_2950 ?_
    refine j_iload X (i := 7) dL_law_2951 rfl ?_
    refine j_i2l X dL_law_2953 rfl ?_
    rw [ha]
    refine j_lcmp X dL_law_2954 ?_
    rw [lg_cmp_0]
    refine j_if_eq X (tgt := 2960) dL_law_2955 (by decide) (fun _ => ?_) (fun q9 => absurd rfl q9)
    refine j_goto X (tgt := 3209) dL_law_2960 (by decide) ?_
    exact j_drop 6 (j_drop 7 (k _ _ _ _ ⟨hP2, hM2, ⟨_, hO2⟩, ⟨_, hD2⟩, hG2.low fun c9 hc9 => hf3 c9 (by omega), ⟨_, hR3⟩, k_feed hK (Nat.mod_lt _ (by decide))⟩))
theorem law_46 (X : jX p l s m args meth c (mLaw nm) g none) (hst : l.stackTraces = false) (hK9 : oKw g K kw sa w9) (hX : va_X b L xs (j0 g) (j0 g).heap) (hb : b < jb g) (hi : i + 5 ≤ L) (hL : L ≤ 2560) (hc : cells + 3 ≤ 603072) (hs : slots + 18 ≤ 7219306) (I : LI g kw sk t G) (k : ∀ z2 sk2 t2 G2, LI g kw sk2 t2 G2 → J p l e room_1 s m args below meth c Q 9 g (cells + 3) (slots + 18) z2 sk2 t2 3209 [some (.ref b), some (.ref (jb g + 0)), some (.ref (jb g + 454)), some (.ref (jb g + 462)), some (.ref (jb g + 463)), some (.int (nI i)), none, none, none] []) : J p l e room_1 s m args below meth c Q 9 g cells slots z sk t 2963 [some (.ref b), some (.ref (jb g + 0)), some (.ref (jb g + 454)), some (.ref (jb g + 462)), some (.ref (jb g + 463)), some (.int (nI i)), none, none, none] [] := by
  have hok := X.ok
  obtain ⟨hP, hM, ⟨a1, hO⟩, ⟨a2, hD⟩, hG, ⟨n0, hR⟩, hK⟩ := id I
  refine j_aload_n X (i := 1) dL_law_2963 rfl rfl ?_
  refine j_aload_n X (i := 3) dL_law_2964 rfl rfl ?_
  refine j_callSW_p X (w_execute hok hst hP hG hK hO hK9) iw_execute tw_5_117 tw_5_118 dL_law_2965 (fun v2 z2 sk2 t2 hp => ?_) (by show _ ≤ 603072; omega) (by show _ ≤ 7219306; omega)
  obtain ⟨rfl, hP2, hM2, ⟨a3, hO2, ha⟩, ⟨a4, hD2⟩, hG2, n1, hR2⟩ := LI.wrap I hp
  obtain ⟨M0, -⟩ := id hM2
  refine j_istore X (i := 6) dL_law_2968 (by decide) rfl ?_
  refine j_aload_n X (i := 2) dL_law_2970 rfl rfl ?_
  refine j_callV_p X (m_execute hok hst hM2 hR2 hK) i_X10_execute tw_7_202 tw_7_203 tw_7_204 M0 rfl dL_law_2971 (fun v3 z3 sk3 t3 hq => ?_) (hmc := by show _ ≤ 603072; omega) (hms := by show _ ≤ 7219306; omega)
  obtain ⟨rfl, rfl, rfl, h7, ⟨n2, hR3⟩, hf3⟩ := hq
  refine j_istore X (i := 7) dL_law_2974 (by decide) rfl ?_
  refine j_aload_n X (i := 2) dL_law_2976 rfl rfl ?_
  refine j_callV X (m_thrown hok hst hM2) i_X10_thrown tw_6_124 tw_6_125 tw_6_126 M0 rfl dL_law_2977 ?_ (hmc := by show _ ≤ 603072; omega) (hms := by show _ ≤ 7219306; omega)
  rw [h7]
  refine j_iload X (i := 6) dL_law_2980 rfl ?_
  refine j_icmp_eq X (tgt := 2987) dL_law_2982 (by decide) (fun _ => ?_) (fun q9 => absurd rfl q9)
  refine j_iload X (i := 6) dL_law_2987 rfl ?_
  refine j_if_ne X (tgt := 3004) dL_law_2989 (by decide) (fun h9 => ?_) (fun h9 => ?_)
  · refine j_goto X (tgt := 3209) dL_law_3004 (by decide) ?_
    exact j_drop 6 (j_drop 7 (k _ _ _ _ ⟨hP2, hM2, ⟨_, hO2⟩, ⟨_, hD2⟩, hG2.low fun c9 hc9 => hf3 c9 (by omega), ⟨_, hR3⟩, ok_execute hK⟩))
  · have ha := ha h9
    refine j_aload_n X (i := 3) dL_law_2992 rfl rfl ?_
    refine j_iconst X (v := (nI 0)) dL_law_2993 (by decide) ?_
    refine j_laload X hO2 rfl ⟨by decide, by decide⟩ dL_law_2994 ?_
    refine j_iload X (i := 7) dL_law_2995 rfl ?_
    refine j_i2l X dL_law_2997 rfl ?_
    rw [ha]
    refine j_lcmp X dL_law_2998 ?_
    rw [lg_cmp_0]
    refine j_if_eq X (tgt := 3004) dL_law_2999 (by decide) (fun _ => ?_) (fun q9 => absurd rfl q9)
    refine j_goto X (tgt := 3209) dL_law_3004 (by decide) ?_
    exact j_drop 6 (j_drop 7 (k _ _ _ _ ⟨hP2, hM2, ⟨_, hO2⟩, ⟨_, hD2⟩, hG2.low fun c9 hc9 => hf3 c9 (by omega), ⟨_, hR3⟩, ok_execute hK⟩))
theorem law_47 (X : jX p l s m args meth c (mLaw nm) g none) (hst : l.stackTraces = false) (hK9 : oKw g K kw sa w9) (hX : va_X b L xs (j0 g) (j0 g).heap) (hb : b < jb g) (hi : i + 5 ≤ L) (hL : L ≤ 2560) (hc : cells + 3 ≤ 603072) (hs : slots + 18 ≤ 7219306) (I : LI g kw sk t G) (k : ∀ z2 sk2 t2 G2, LI g kw sk2 t2 G2 → J p l e room_1 s m args below meth c Q 9 g (cells + 3) (slots + 18) z2 sk2 t2 3209 [some (.ref b), some (.ref (jb g + 0)), some (.ref (jb g + 454)), some (.ref (jb g + 462)), some (.ref (jb g + 463)), some (.int (nI i)), none, none, none] []) : J p l e room_1 s m args below meth c Q 9 g cells slots z sk t 3007 [some (.ref b), some (.ref (jb g + 0)), some (.ref (jb g + 454)), some (.ref (jb g + 462)), some (.ref (jb g + 463)), some (.int (nI i)), none, none, none] [] := by
  have hok := X.ok
  obtain ⟨hP, hM, ⟨a1, hO⟩, ⟨a2, hD⟩, hG, ⟨n0, hR⟩, hK⟩ := id I
  refine j_aload_n X (i := 1) dL_law_3007 rfl rfl ?_
  refine j_aload_n X (i := 3) dL_law_3008 rfl rfl ?_
  refine j_callSW_p X (w_errorPosition hok hst hP hG hK hO) iw_errorPosition tw_6_14 tw_6_15 dL_law_3009 (fun v2 z2 sk2 t2 hp => ?_) (by show _ ≤ 603072; omega) (by show _ ≤ 7219306; omega)
  obtain ⟨rfl, hP2, hM2, ⟨a3, hO2, ha⟩, ⟨a4, hD2⟩, hG2, n1, hR2⟩ := LI.wrap I hp
  obtain ⟨M0, -⟩ := id hM2
  refine j_istore X (i := 6) dL_law_3012 (by decide) rfl ?_
  refine j_aload_n X (i := 2) dL_law_3014 rfl rfl ?_
  refine j_callV_p X (m_errorPos hok hst hM2 hR2 hK) i_X10_errorPosition tw_8_24 tw_8_25 tw_8_26 M0 rfl dL_law_3015 (fun v3 z3 sk3 t3 hq => ?_) (hmc := by show _ ≤ 603072; omega) (hms := by show _ ≤ 7219306; omega)
  obtain ⟨rfl, rfl, rfl, h7, hR3, hf3⟩ := hq
  refine j_istore X (i := 7) dL_law_3018 (by decide) rfl ?_
  refine j_aload_n X (i := 2) dL_law_3020 rfl rfl ?_
  refine j_callV X (m_thrown hok hst hM2) i_X10_thrown tw_6_124 tw_6_125 tw_6_126 M0 rfl dL_law_3021 ?_ (hmc := by show _ ≤ 603072; omega) (hms := by show _ ≤ 7219306; omega)
  rw [h7]
  refine j_iload X (i := 6) dL_law_3024 rfl ?_
  refine j_icmp_eq X (tgt := 3031) dL_law_3026 (by decide) (fun _ => ?_) (fun q9 => absurd rfl q9)
  refine j_iload X (i := 6) dL_law_3031 rfl ?_
  refine j_if_ne X (tgt := 3048) dL_law_3033 (by decide) (fun h9 => ?_) (fun h9 => ?_)
  · refine j_goto X (tgt := 3209) dL_law_3048 (by decide) ?_
    exact j_drop 6 (j_drop 7 (k _ _ _ _ ⟨hP2, hM2, ⟨_, hO2⟩, ⟨_, hD2⟩, hG2.low fun c9 hc9 => hf3 c9 (by omega), ⟨_, hR3⟩, k_errorPos hK⟩))
  · have ha := ha h9
    refine j_aload_n X (i := 3) dL_law_3036 rfl rfl ?_
    refine j_iconst X (v := (nI 0)) dL_law_3037 (by decide) ?_
    refine j_laload X hO2 rfl ⟨by decide, by decide⟩ dL_law_3038 ?_
    refine j_iload X (i := 7) dL_law_3039 rfl ?_
    refine j_i2l X dL_law_3041 rfl ?_
    rw [ha]
    refine j_lcmp X dL_law_3042 ?_
    rw [lg_cmp_0]
    refine j_if_eq X (tgt := 3048) dL_law_3043 (by decide) (fun _ => ?_) (fun q9 => absurd rfl q9)
    refine j_goto X (tgt := 3209) dL_law_3048 (by decide) ?_
    exact j_drop 6 (j_drop 7 (k _ _ _ _ ⟨hP2, hM2, ⟨_, hO2⟩, ⟨_, hD2⟩, hG2.low fun c9 hc9 => hf3 c9 (by omega), ⟨_, hR3⟩, k_errorPos hK⟩))
theorem law_48 (X : jX p l s m args meth c (mLaw nm) g none) (hst : l.stackTraces = false) (hK9 : oKw g K kw sa w9) (hX : va_X b L xs (j0 g) (j0 g).heap) (hb : b < jb g) (hi : i + 5 ≤ L) (hL : L ≤ 2560) (hc : cells + 3 ≤ 603072) (hs : slots + 18 ≤ 7219306) (I : LI g kw sk t G) (k : ∀ z2 sk2 t2 G2, LI g kw sk2 t2 G2 → J p l e room_1 s m args below meth c Q 9 g (cells + 3) (slots + 18) z2 sk2 t2 3209 [some (.ref b), some (.ref (jb g + 0)), some (.ref (jb g + 454)), some (.ref (jb g + 462)), some (.ref (jb g + 463)), some (.int (nI i)), none, none, none] []) : J p l e room_1 s m args below meth c Q 9 g cells slots z sk t 3051 [some (.ref b), some (.ref (jb g + 0)), some (.ref (jb g + 454)), some (.ref (jb g + 462)), some (.ref (jb g + 463)), some (.int (nI i)), none, none, none] [] := by
  have hok := X.ok
  obtain ⟨hP, hM, ⟨a1, hO⟩, ⟨a2, hD⟩, hG, ⟨n0, hR⟩, hK⟩ := id I
  refine j_aload_n X (i := 1) dL_law_3051 rfl rfl ?_
  refine j_aload_n X (i := 3) dL_law_3052 rfl rfl ?_
  refine j_callSW_p X (w_failedCommand hok hst hP hG hK hO) iw_failedCommand tw_6_22 tw_6_23 dL_law_3053 (fun v2 z2 sk2 t2 hp => ?_) (by show _ ≤ 603072; omega) (by show _ ≤ 7219306; omega)
  obtain ⟨rfl, hP2, hM2, ⟨a3, hO2, ha⟩, ⟨a4, hD2⟩, hG2, n1, hR2⟩ := LI.wrap I hp
  obtain ⟨M0, -⟩ := id hM2
  refine j_istore X (i := 6) dL_law_3056 (by decide) rfl ?_
  refine j_aload_n X (i := 2) dL_law_3058 rfl rfl ?_
  refine j_callV_p X (m_failed hok hst hM2 hR2 hK) i_X10_failedCommand tw_8_28 tw_8_29 tw_8_30 M0 rfl dL_law_3059 (fun v3 z3 sk3 t3 hq => ?_) (hmc := by show _ ≤ 603072; omega) (hms := by show _ ≤ 7219306; omega)
  obtain ⟨rfl, rfl, rfl, h7, hR3, hf3⟩ := hq
  refine j_istore X (i := 7) dL_law_3062 (by decide) rfl ?_
  refine j_aload_n X (i := 2) dL_law_3064 rfl rfl ?_
  refine j_callV X (m_thrown hok hst hM2) i_X10_thrown tw_6_124 tw_6_125 tw_6_126 M0 rfl dL_law_3065 ?_ (hmc := by show _ ≤ 603072; omega) (hms := by show _ ≤ 7219306; omega)
  rw [h7]
  refine j_iload X (i := 6) dL_law_3068 rfl ?_
  refine j_icmp_eq X (tgt := 3075) dL_law_3070 (by decide) (fun _ => ?_) (fun q9 => absurd rfl q9)
  refine j_iload X (i := 6) dL_law_3075 rfl ?_
  refine j_if_ne X (tgt := 3092) dL_law_3077 (by decide) (fun h9 => ?_) (fun h9 => ?_)
  · refine j_goto X (tgt := 3209) dL_law_3092 (by decide) ?_
    exact j_drop 6 (j_drop 7 (k _ _ _ _ ⟨hP2, hM2, ⟨_, hO2⟩, ⟨_, hD2⟩, hG2.low fun c9 hc9 => hf3 c9 (by omega), ⟨_, hR3⟩, k_failed hK⟩))
  · have ha := ha h9
    refine j_aload_n X (i := 3) dL_law_3080 rfl rfl ?_
    refine j_iconst X (v := (nI 0)) dL_law_3081 (by decide) ?_
    refine j_laload X hO2 rfl ⟨by decide, by decide⟩ dL_law_3082 ?_
    refine j_iload X (i := 7) dL_law_3083 rfl ?_
    refine j_i2l X dL_law_3085 rfl ?_
    rw [ha]
    refine j_lcmp X dL_law_3086 ?_
    rw [lg_cmp_0]
    refine j_if_eq X (tgt := 3092) dL_law_3087 (by decide) (fun _ => ?_) (fun q9 => absurd rfl q9)
    refine j_goto X (tgt := 3209) dL_law_3092 (by decide) ?_
    exact j_drop 6 (j_drop 7 (k _ _ _ _ ⟨hP2, hM2, ⟨_, hO2⟩, ⟨_, hD2⟩, hG2.low fun c9 hc9 => hf3 c9 (by omega), ⟨_, hR3⟩, k_failed hK⟩))
theorem law_49 (X : jX p l s m args meth c (mLaw nm) g none) (hst : l.stackTraces = false) (hK9 : oKw g K kw sa w9) (hX : va_X b L xs (j0 g) (j0 g).heap) (hb : b < jb g) (hi : i + 5 ≤ L) (hL : L ≤ 2560) (hc : cells + 3 ≤ 603072) (hs : slots + 18 ≤ 7219306) (I : LI g kw sk t G) (k : ∀ z2 sk2 t2 G2, LI g kw sk2 t2 G2 → J p l e room_1 s m args below meth c Q 9 g (cells + 3) (slots + 18) z2 sk2 t2 3209 [some (.ref b), some (.ref (jb g + 0)), some (.ref (jb g + 454)), some (.ref (jb g + 462)), some (.ref (jb g + 463)), some (.int (nI i)), none, none, none] []) : J p l e room_1 s m args below meth c Q 9 g cells slots z sk t 3095 [some (.ref b), some (.ref (jb g + 0)), some (.ref (jb g + 454)), some (.ref (jb g + 462)), some (.ref (jb g + 463)), some (.int (nI i)), none, none, none] [] := by
  have hok := X.ok
  obtain ⟨hP, hM, ⟨a1, hO⟩, ⟨a2, hD⟩, hG, ⟨n0, hR⟩, hK⟩ := id I
  refine j_aload_n X (i := 1) dL_law_3095 rfl rfl ?_
  refine j_aload_n X (i := 3) dL_law_3096 rfl rfl ?_
  refine j_callSW_p X (w_undo hok hst hP hG hK hO) iw_undo tw_6_30 tw_6_31 dL_law_3097 (fun v2 z2 sk2 t2 hp => ?_) (by show _ ≤ 603072; omega) (by show _ ≤ 7219306; omega)
  obtain ⟨rfl, hP2, hM2, ⟨a3, hO2, ha⟩, ⟨a4, hD2⟩, hG2, n1, hR2⟩ := LI.wrap I hp
  obtain ⟨M0, -⟩ := id hM2
  refine j_istore X (i := 6) dL_law_3100 (by decide) rfl ?_
  refine j_aload_n X (i := 2) dL_law_3102 rfl rfl ?_
  refine j_callV_p X (m_undo hok hst hM2 hR2 hK) i_X10_undo tw_8_32 tw_8_33 tw_8_34 M0 rfl dL_law_3103 (fun v3 z3 sk3 t3 hq => ?_) (hmc := by show _ ≤ 603072; omega) (hms := by show _ ≤ 7219306; omega)
  obtain ⟨rfl, rfl, rfl, h7, hR3, hf3⟩ := hq
  refine j_istore X (i := 7) dL_law_3106 (by decide) rfl ?_
  refine j_aload_n X (i := 2) dL_law_3108 rfl rfl ?_
  refine j_callV X (m_thrown hok hst hM2) i_X10_thrown tw_6_124 tw_6_125 tw_6_126 M0 rfl dL_law_3109 ?_ (hmc := by show _ ≤ 603072; omega) (hms := by show _ ≤ 7219306; omega)
  rw [h7]
  refine j_iload X (i := 6) dL_law_3112 rfl ?_
  refine j_icmp_eq X (tgt := 3119) dL_law_3114 (by decide) (fun _ => ?_) (fun q9 => absurd rfl q9)
  refine j_iload X (i := 6) dL_law_3119 rfl ?_
  refine j_if_ne X (tgt := 3136) dL_law_3121 (by decide) (fun h9 => ?_) (fun h9 => ?_)
  · refine j_goto X (tgt := 3209) dL_law_3136 (by decide) ?_
    exact j_drop 6 (j_drop 7 (k _ _ _ _ ⟨hP2, hM2, ⟨_, hO2⟩, ⟨_, hD2⟩, hG2.low fun c9 hc9 => hf3 c9 (by omega), ⟨_, hR3⟩, k_undo hK⟩))
  · have ha := ha h9
    refine j_aload_n X (i := 3) dL_law_3124 rfl rfl ?_
    refine j_iconst X (v := (nI 0)) dL_law_3125 (by decide) ?_
    refine j_laload X hO2 rfl ⟨by decide, by decide⟩ dL_law_3126 ?_
    refine j_iload X (i := 7) dL_law_3127 rfl ?_
    refine j_i2l X dL_law_3129 rfl ?_
    rw [ha]
    refine j_lcmp X dL_law_3130 ?_
    rw [lg_cmp_0]
    refine j_if_eq X (tgt := 3136) dL_law_3131 (by decide) (fun _ => ?_) (fun q9 => absurd rfl q9)
    refine j_goto X (tgt := 3209) dL_law_3136 (by decide) ?_
    exact j_drop 6 (j_drop 7 (k _ _ _ _ ⟨hP2, hM2, ⟨_, hO2⟩, ⟨_, hD2⟩, hG2.low fun c9 hc9 => hf3 c9 (by omega), ⟨_, hR3⟩, k_undo hK⟩))
theorem law_50 (X : jX p l s m args meth c (mLaw nm) g none) (hst : l.stackTraces = false) (hK9 : oKw g K kw sa w9) (hX : va_X b L xs (j0 g) (j0 g).heap) (hb : b < jb g) (hi : i + 5 ≤ L) (hL : L ≤ 2560) (hc : cells + 3 ≤ 603072) (hs : slots + 18 ≤ 7219306) (I : LI g kw sk t G) (k : ∀ z2 sk2 t2 G2, LI g kw sk2 t2 G2 → J p l e room_1 s m args below meth c Q 9 g (cells + 3) (slots + 18) z2 sk2 t2 3209 [some (.ref b), some (.ref (jb g + 0)), some (.ref (jb g + 454)), some (.ref (jb g + 462)), some (.ref (jb g + 463)), some (.int (nI i)), none, none, none] []) : J p l e room_1 s m args below meth c Q 9 g cells slots z sk t 3139 [some (.ref b), some (.ref (jb g + 0)), some (.ref (jb g + 454)), some (.ref (jb g + 462)), some (.ref (jb g + 463)), some (.int (nI i)), none, none, none] [] := by
  have hok := X.ok
  obtain ⟨hP, hM, ⟨a1, hO⟩, ⟨a2, hD⟩, hG, ⟨n0, hR⟩, hK⟩ := id I
  obtain ⟨P0, -⟩ := id hP
  obtain ⟨M0, -⟩ := id hM
  refine j_aload_n X (i := 1) dL_law_3139 rfl rfl ?_
  refine j_callV_p X (f_undoCount hok hst hP hG hK) i_X9_undoCount tw_2_155 tw_2_156 tw_2_157 P0 rfl dL_law_3140 (fun v2 z2 sk2 t2 hp => ?_) (hmc := by show _ ≤ 603072; omega) (hms := by show _ ≤ 7219306; omega)
  obtain ⟨-, rfl, rfl, rfl, hG2, hf⟩ := hp
  have hR2 : RmG t2 454 (false, n0) G := hR.same fun c9 hc9 => hf c9 hc9
  refine j_aload_n X (i := 2) dL_law_3143 rfl rfl ?_
  refine j_callV_p X (m_undoCount hok hst hM hR2 hK) i_X10_undoCount tw_8_36 tw_8_37 tw_8_38 M0 rfl dL_law_3144 (fun v3 z3 sk3 t3 hq => ?_) (hmc := by show _ ≤ 603072; omega) (hms := by show _ ≤ 7219306; omega)
  obtain ⟨rfl, rfl, rfl, -, hR3, hf3⟩ := hq
  refine j_icmp_eq X (tgt := 3209) dL_law_3147 (by decide) (fun _ => ?_) (fun q9 => absurd rfl q9)
  refine j_widen (k := cells + 3) (n := slots + 18) (by omega) (by omega) ?_
  exact k _ _ _ _ ⟨hP, hM, ⟨a1, hO⟩, ⟨a2, hD⟩, hG2.low fun c9 hc9 => hf3 c9 (by omega), ⟨_, hR3⟩, hK⟩
theorem law_51 (X : jX p l s m args meth c (mLaw nm) g none) (hst : l.stackTraces = false) (hK9 : oKw g K kw sa w9) (hX : va_X b L xs (j0 g) (j0 g).heap) (hb : b < jb g) (hi : i + 5 ≤ L) (hL : L ≤ 2560) (hc : cells + 3 ≤ 603072) (hs : slots + 18 ≤ 7219306) (I : LI g kw sk t G) (k : ∀ z2 sk2 t2 G2, LI g kw sk2 t2 G2 → J p l e room_1 s m args below meth c Q 9 g (cells + 3) (slots + 18) z2 sk2 t2 3209 [some (.ref b), some (.ref (jb g + 0)), some (.ref (jb g + 454)), some (.ref (jb g + 462)), some (.ref (jb g + 463)), some (.int (nI i)), none, none, none] []) : J p l e room_1 s m args below meth c Q 9 g cells slots z sk t 3152 [some (.ref b), some (.ref (jb g + 0)), some (.ref (jb g + 454)), some (.ref (jb g + 462)), some (.ref (jb g + 463)), some (.int (nI i)), none, none, none] [] := by
  have hok := X.ok
  obtain ⟨hP, hM, ⟨a1, hO⟩, ⟨a2, hD⟩, hG, ⟨n0, hR⟩, hK⟩ := id I
  obtain ⟨P0, -⟩ := id hP
  obtain ⟨M0, -⟩ := id hM
  refine j_aload_n X (i := 1) dL_law_3152 rfl rfl ?_
  refine j_callV_p X (f_save hok hst hP hG hK) i_X9_save tw_2_159 tw_2_160 tw_2_161 P0 rfl dL_law_3153 (fun v2 z2 sk2 t2 hp => ?_) (hmc := by show _ ≤ 603072; omega) (hms := by show _ ≤ 7219306; omega)
  obtain ⟨-, rfl, rfl, rfl, hG2, hf⟩ := hp
  have hR2 : RmG t2 454 (false, n0) G := hR.same fun c9 hc9 => hf c9 hc9
  refine j_aload_n X (i := 2) dL_law_3156 rfl rfl ?_
  refine j_callV_p X (m_save hok hst hM hR2 hK) i_X10_save tw_8_40 tw_8_41 tw_8_42 M0 rfl dL_law_3157 (fun v3 z3 sk3 t3 hq => ?_) (hmc := by show _ ≤ 603072; omega) (hms := by show _ ≤ 7219306; omega)
  obtain ⟨rfl, rfl, rfl, -, hR3, hf3⟩ := hq
  refine j_icmp_eq X (tgt := 3209) dL_law_3160 (by decide) (fun _ => ?_) (fun q9 => absurd rfl q9)
  refine j_widen (k := cells + 3) (n := slots + 18) (by omega) (by omega) ?_
  exact k _ _ _ _ ⟨hP, hM, ⟨a1, hO⟩, ⟨a2, hD⟩, hG2.low fun c9 hc9 => hf3 c9 (by omega), ⟨_, hR3⟩, k_save hK⟩
theorem law_52 (X : jX p l s m args meth c (mLaw nm) g none) (hst : l.stackTraces = false) (hK9 : oKw g K kw sa w9) (hX : va_X b L xs (j0 g) (j0 g).heap) (hb : b < jb g) (hi : i + 5 ≤ L) (hL : L ≤ 2560) (hc : cells + 3 ≤ 603072) (hs : slots + 18 ≤ 7219306) (I : LI g kw sk t G) (k : ∀ z2 sk2 t2 G2, LI g kw sk2 t2 G2 → J p l e room_1 s m args below meth c Q 9 g (cells + 3) (slots + 18) z2 sk2 t2 3209 [some (.ref b), some (.ref (jb g + 0)), some (.ref (jb g + 454)), some (.ref (jb g + 462)), some (.ref (jb g + 463)), some (.int (nI i)), none, none, none] []) : J p l e room_1 s m args below meth c Q 9 g cells slots z sk t 3165 [some (.ref b), some (.ref (jb g + 0)), some (.ref (jb g + 454)), some (.ref (jb g + 462)), some (.ref (jb g + 463)), some (.int (nI i)), none, none, none] [] := by
  have hok := X.ok
  obtain ⟨hP, hM, ⟨a1, hO⟩, ⟨a2, hD⟩, hG, ⟨n0, hR⟩, hK⟩ := id I
  refine j_aload_n X (i := 1) dL_law_3165 rfl rfl ?_
  refine j_aload_n X (i := 3) dL_law_3166 rfl rfl ?_
  refine j_callSW_p X (w_restore hok hst hP hG hK hO) iw_restore tw_6_42 tw_6_43 dL_law_3167 (fun v2 z2 sk2 t2 hp => ?_) (by show _ ≤ 603072; omega) (by show _ ≤ 7219306; omega)
  obtain ⟨rfl, hP2, hM2, ⟨a3, hO2, ha⟩, ⟨a4, hD2⟩, hG2, n1, hR2⟩ := LI.wrap I hp
  obtain ⟨M0, -⟩ := id hM2
  refine j_istore X (i := 6) dL_law_3170 (by decide) rfl ?_
  refine j_aload_n X (i := 2) dL_law_3172 rfl rfl ?_
  refine j_callV_p X (m_restore hok hst hM2 hR2 hK) i_X10_restore tw_8_44 tw_8_45 tw_8_46 M0 rfl dL_law_3173 (fun v3 z3 sk3 t3 hq => ?_) (hmc := by show _ ≤ 603072; omega) (hms := by show _ ≤ 7219306; omega)
  obtain ⟨rfl, rfl, rfl, h7, hR3, hf3⟩ := hq
  refine j_istore X (i := 7) dL_law_3176 (by decide) rfl ?_
  refine j_aload_n X (i := 2) dL_law_3178 rfl rfl ?_
  refine j_callV X (m_thrown hok hst hM2) i_X10_thrown tw_6_124 tw_6_125 tw_6_126 M0 rfl dL_law_3179 ?_ (hmc := by show _ ≤ 603072; omega) (hms := by show _ ≤ 7219306; omega)
  rw [h7]
  refine j_iload X (i := 6) dL_law_3182 rfl ?_
  refine j_icmp_eq X (tgt := 3189) dL_law_3184 (by decide) (fun _ => ?_) (fun q9 => absurd rfl q9)
  refine j_iload X (i := 6) dL_law_3189 rfl ?_
  refine j_if_ne X (tgt := 3206) dL_law_3191 (by decide) (fun h9 => ?_) (fun h9 => ?_)
  · refine j_goto X (tgt := 3209) dL_law_3206 (by decide) ?_
    exact j_drop 6 (j_drop 7 (k _ _ _ _ ⟨hP2, hM2, ⟨_, hO2⟩, ⟨_, hD2⟩, hG2.low fun c9 hc9 => hf3 c9 (by omega), ⟨_, hR3⟩, k_restore hK⟩))
  · have ha := ha h9
    refine j_aload_n X (i := 3) dL_law_3194 rfl rfl ?_
    refine j_iconst X (v := (nI 0)) dL_law_3195 (by decide) ?_
    refine j_laload X hO2 rfl ⟨by decide, by decide⟩ dL_law_3196 ?_
    refine j_iload X (i := 7) dL_law_3197 rfl ?_
    refine j_i2l X dL_law_3199 rfl ?_
    rw [ha]
    refine j_lcmp X dL_law_3200 ?_
    rw [lg_cmp_0]
    refine j_if_eq X (tgt := 3206) dL_law_3201 (by decide) (fun _ => ?_) (fun q9 => absurd rfl q9)
    refine j_goto X (tgt := 3209) dL_law_3206 (by decide) ?_
    exact j_drop 6 (j_drop 7 (k _ _ _ _ ⟨hP2, hM2, ⟨_, hO2⟩, ⟨_, hD2⟩, hG2.low fun c9 hc9 => hf3 c9 (by omega), ⟨_, hR3⟩, k_restore hK⟩))
end CASES
