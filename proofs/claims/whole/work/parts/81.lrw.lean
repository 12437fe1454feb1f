/-! ===== the law's rows ===== -/
theorem W_ialdS {M : qM} {pc q : Nat} (hd : decode (mB M) pc = .ok (.iaload, 1)) (hq : pc + 1 = q) (hO : mO M = 20) : ∀ ⦃d : Nat⦄ ⦃u : Nat × Nat⦄ ⦃ls : qL⦄ ⦃st : List Value⦄ ⦃h : qH⦄ ⦃Q : Option (Option Value) → qH → Prop⦄ ⦃i : Int32⦄ (_ : vpB i (hI h (SCR + 1) 0).toNatClampNeg = true), WP d M u pc ls (.int i :: .retAddr (1000 : Nat) :: st) h Q = WP d M u q ls (.int (hI h SCR i.toNatClampNeg) :: st) h Q := by
  intros
  rename_i g
  subst hq
  exact WP_go (by rw [stp_of hd rfl]; simp only [stI]; rw [if_pos ⟨hO, trivial, g⟩]; rfl)
theorem W_alenS {M : qM} {pc q : Nat} (hd : decode (mB M) pc = .ok (.arraylength, 1)) (hq : pc + 1 = q) (hO : mO M = 20) : ∀ ⦃d : Nat⦄ ⦃u : Nat × Nat⦄ ⦃ls : qL⦄ ⦃st : List Value⦄ ⦃h : qH⦄ ⦃Q : Option (Option Value) → qH → Prop⦄, WP d M u pc ls (.retAddr (1000 : Nat) :: st) h Q = WP d M u q ls (.int (hI h (SCR + 1) 0) :: st) h Q := by
  intros
  subst hq
  exact WP_go (by rw [stp_of hd rfl]; simp only [stI]; rw [if_neg (by omega), if_pos ⟨hO, trivial⟩]; rfl)
theorem eL_law {d : Nat} {h : qH} {Q : Option (Option Value) → qH → Prop} {x1 : Nat} : WM d mL_law [.retAddr x1] h Q = WP d mL_law (0, 0) 0 [some (.retAddr x1), none, none, none, none, none, none] [] h Q := rfl
theorem pCL_law : mC mL_law = 601024 := rfl
theorem pSL_law : mS mL_law = 7293034 := rfl
theorem pOL_law : mO mL_law = 20 := rfl
theorem pLL_law : mL mL_law = 7 := rfl
def rL_law_0 := W_new (M := mL_law) dL_law_0 (q := 3) rfl cl20_8 (by decide)
def rL_law_3 := W_dupI (M := mL_law) dL_law_3 (q := 4) rfl
def rL_law_3b := W_dupR (M := mL_law) dL_law_3 (q := 4) rfl
def rL_law_4 := W_invI0 (M := mL_law) dL_law_4 (q := 7) rfl ml2_20_15 rfl
def rL_law_7 := W_astore1 (M := mL_law) dL_law_7 (q := 8) rfl
def rL_law_8 := W_new (M := mL_law) dL_law_8 (q := 11) rfl cl20_16 (by decide)
def rL_law_11 := W_dupI (M := mL_law) dL_law_11 (q := 12) rfl
def rL_law_11b := W_dupR (M := mL_law) dL_law_11 (q := 12) rfl
def rL_law_12 := W_invI0 (M := mL_law) dL_law_12 (q := 15) rfl ml2_20_18 rfl
def rL_law_15 := W_astore2 (M := mL_law) dL_law_15 (q := 16) rfl
def rL_law_16 := W_iconst (M := mL_law) dL_law_16 (q := 17) rfl (v := (1)) rfl
def rL_law_17 := W_newa (M := mL_law) dL_law_17 (q := 19) rfl
def rL_law_19 := W_astore3 (M := mL_law) dL_law_19 (q := 20) rfl
def rL_law_20 := W_iconst (M := mL_law) dL_law_20 (q := 21) rfl (v := (0)) rfl
def rL_law_21 := W_istore4 (M := mL_law) dL_law_21 (q := 23) rfl
def rL_law_23 := W_iload4 (M := mL_law) dL_law_23 (q := 25) rfl
def rL_law_25 := W_aload0 (M := mL_law) dL_law_25 (q := 26) rfl
def rL_law_25b := W_aloadR0 (M := mL_law) dL_law_25 (q := 26) rfl
def rL_law_26 := W_alenS (M := mL_law) dL_law_26 (q := 27) rfl rfl
def rL_law_27 := W_bipush (M := mL_law) dL_law_27 (q := 29) rfl (v := (6)) rfl
def rL_law_29 := W_isub (M := mL_law) dL_law_29 (q := 30) rfl
def rL_law_30 := W_icmp_gt (M := mL_law) dL_law_30 (q := 33) rfl (t := 1555) rfl
def rL_law_33 := W_aload0 (M := mL_law) dL_law_33 (q := 34) rfl
def rL_law_33b := W_aloadR0 (M := mL_law) dL_law_33 (q := 34) rfl
def rL_law_34 := W_iload4 (M := mL_law) dL_law_34 (q := 36) rfl
def rL_law_36 := W_ialdS (M := mL_law) dL_law_36 (q := 37) rfl rfl
def rL_law_37 := W_bipush (M := mL_law) dL_law_37 (q := 39) rfl (v := (63)) rfl
def rL_law_39 := W_iand (M := mL_law) dL_law_39 (q := 40) rfl
def rL_law_40 := W_tab (M := mL_law) (k := 0) dL_law_40 [244, 317, 342, 355, 368, 405, 442, 467, 492, 517, 530, 555, 580, 617, 642, 655, 668, 681, 718, 731, 756, 769, 794, 807, 820, 857, 894, 907, 920, 933, 1030, 1043, 1056, 1122, 1176, 1230, 1279, 1316, 1341, 1366, 1391, 1404, 1417, 1430, 1455, 1511, 1536] (df := 1549) rfl rfl (by decide) (by decide) 0 rfl
def rL_law_244 := W_aload1 (M := mL_law) dL_law_244 (q := 245) rfl
def rL_law_244b := W_aloadR1 (M := mL_law) dL_law_244 (q := 245) rfl
def rL_law_245 := W_aload0 (M := mL_law) dL_law_245 (q := 246) rfl
def rL_law_245b := W_aloadR0 (M := mL_law) dL_law_245 (q := 246) rfl
def rL_law_246 := W_iload4 (M := mL_law) dL_law_246 (q := 248) rfl
def rL_law_248 := W_iconst (M := mL_law) dL_law_248 (q := 249) rfl (v := (1)) rfl
def rL_law_249 := W_iadd (M := mL_law) dL_law_249 (q := 250) rfl
def rL_law_250 := W_ialdS (M := mL_law) dL_law_250 (q := 251) rfl rfl
def rL_law_251 := W_aload0 (M := mL_law) dL_law_251 (q := 252) rfl
def rL_law_251b := W_aloadR0 (M := mL_law) dL_law_251 (q := 252) rfl
def rL_law_252 := W_iload4 (M := mL_law) dL_law_252 (q := 254) rfl
def rL_law_254 := W_iconst (M := mL_law) dL_law_254 (q := 255) rfl (v := (2)) rfl
def rL_law_255 := W_iadd (M := mL_law) dL_law_255 (q := 256) rfl
def rL_law_256 := W_ialdS (M := mL_law) dL_law_256 (q := 257) rfl rfl
def rL_law_257 := W_aload0 (M := mL_law) dL_law_257 (q := 258) rfl
def rL_law_257b := W_aloadR0 (M := mL_law) dL_law_257 (q := 258) rfl
def rL_law_258 := W_iload4 (M := mL_law) dL_law_258 (q := 260) rfl
def rL_law_260 := W_iconst (M := mL_law) dL_law_260 (q := 261) rfl (v := (3)) rfl
def rL_law_261 := W_iadd (M := mL_law) dL_law_261 (q := 262) rfl
def rL_law_262 := W_ialdS (M := mL_law) dL_law_262 (q := 263) rfl rfl
def rL_law_263 := W_aload0 (M := mL_law) dL_law_263 (q := 264) rfl
def rL_law_263b := W_aloadR0 (M := mL_law) dL_law_263 (q := 264) rfl
def rL_law_264 := W_iload4 (M := mL_law) dL_law_264 (q := 266) rfl
def rL_law_266 := W_iconst (M := mL_law) dL_law_266 (q := 267) rfl (v := (4)) rfl
def rL_law_267 := W_iadd (M := mL_law) dL_law_267 (q := 268) rfl
def rL_law_268 := W_ialdS (M := mL_law) dL_law_268 (q := 269) rfl rfl
def rL_law_269 := W_aload0 (M := mL_law) dL_law_269 (q := 270) rfl
def rL_law_269b := W_aloadR0 (M := mL_law) dL_law_269 (q := 270) rfl
def rL_law_270 := W_iload4 (M := mL_law) dL_law_270 (q := 272) rfl
def rL_law_272 := W_iconst (M := mL_law) dL_law_272 (q := 273) rfl (v := (5)) rfl
def rL_law_273 := W_iadd (M := mL_law) dL_law_273 (q := 274) rfl
def rL_law_274 := W_ialdS (M := mL_law) dL_law_274 (q := 275) rfl rfl
def rL_law_275 := W_invV5 (M := mL_law) dL_law_275 (q := 278) rfl ml0_20_19 rfl
def rL_law_278 := W_aload2 (M := mL_law) dL_law_278 (q := 279) rfl
def rL_law_278b := W_aloadR2 (M := mL_law) dL_law_278 (q := 279) rfl
def rL_law_279 := W_aload0 (M := mL_law) dL_law_279 (q := 280) rfl
def rL_law_279b := W_aloadR0 (M := mL_law) dL_law_279 (q := 280) rfl
def rL_law_280 := W_iload4 (M := mL_law) dL_law_280 (q := 282) rfl
def rL_law_282 := W_iconst (M := mL_law) dL_law_282 (q := 283) rfl (v := (1)) rfl
def rL_law_283 := W_iadd (M := mL_law) dL_law_283 (q := 284) rfl
def rL_law_284 := W_ialdS (M := mL_law) dL_law_284 (q := 285) rfl rfl
def rL_law_285 := W_aload0 (M := mL_law) dL_law_285 (q := 286) rfl
def rL_law_285b := W_aloadR0 (M := mL_law) dL_law_285 (q := 286) rfl
def rL_law_286 := W_iload4 (M := mL_law) dL_law_286 (q := 288) rfl
def rL_law_288 := W_iconst (M := mL_law) dL_law_288 (q := 289) rfl (v := (2)) rfl
def rL_law_289 := W_iadd (M := mL_law) dL_law_289 (q := 290) rfl
def rL_law_290 := W_ialdS (M := mL_law) dL_law_290 (q := 291) rfl rfl
def rL_law_291 := W_aload0 (M := mL_law) dL_law_291 (q := 292) rfl
def rL_law_291b := W_aloadR0 (M := mL_law) dL_law_291 (q := 292) rfl
def rL_law_292 := W_iload4 (M := mL_law) dL_law_292 (q := 294) rfl
def rL_law_294 := W_iconst (M := mL_law) dL_law_294 (q := 295) rfl (v := (3)) rfl
def rL_law_295 := W_iadd (M := mL_law) dL_law_295 (q := 296) rfl
def rL_law_296 := W_ialdS (M := mL_law) dL_law_296 (q := 297) rfl rfl
def rL_law_297 := W_aload0 (M := mL_law) dL_law_297 (q := 298) rfl
def rL_law_297b := W_aloadR0 (M := mL_law) dL_law_297 (q := 298) rfl
def rL_law_298 := W_iload4 (M := mL_law) dL_law_298 (q := 300) rfl
def rL_law_300 := W_iconst (M := mL_law) dL_law_300 (q := 301) rfl (v := (4)) rfl
def rL_law_301 := W_iadd (M := mL_law) dL_law_301 (q := 302) rfl
def rL_law_302 := W_ialdS (M := mL_law) dL_law_302 (q := 303) rfl rfl
def rL_law_303 := W_aload0 (M := mL_law) dL_law_303 (q := 304) rfl
def rL_law_303b := W_aloadR0 (M := mL_law) dL_law_303 (q := 304) rfl
def rL_law_304 := W_iload4 (M := mL_law) dL_law_304 (q := 306) rfl
def rL_law_306 := W_iconst (M := mL_law) dL_law_306 (q := 307) rfl (v := (5)) rfl
def rL_law_307 := W_iadd (M := mL_law) dL_law_307 (q := 308) rfl
def rL_law_308 := W_ialdS (M := mL_law) dL_law_308 (q := 309) rfl rfl
def rL_law_309 := W_invV5 (M := mL_law) dL_law_309 (q := 312) rfl ml0_20_23 rfl
def rL_law_312 := W_icmp_eq (M := mL_law) dL_law_312 (q := 315) rfl (t := 1549) rfl
def rL_law_315 := W_iconst (M := mL_law) dL_law_315 (q := 316) rfl (v := (0)) rfl
def rL_law_316 := W_zret (M := mL_law) dL_law_316 rfl
def rL_law_317 := W_aload1 (M := mL_law) dL_law_317 (q := 318) rfl
def rL_law_317b := W_aloadR1 (M := mL_law) dL_law_317 (q := 318) rfl
def rL_law_318 := W_aload0 (M := mL_law) dL_law_318 (q := 319) rfl
def rL_law_318b := W_aloadR0 (M := mL_law) dL_law_318 (q := 319) rfl
def rL_law_319 := W_iload4 (M := mL_law) dL_law_319 (q := 321) rfl
def rL_law_321 := W_iconst (M := mL_law) dL_law_321 (q := 322) rfl (v := (1)) rfl
def rL_law_322 := W_iadd (M := mL_law) dL_law_322 (q := 323) rfl
def rL_law_323 := W_ialdS (M := mL_law) dL_law_323 (q := 324) rfl rfl
def rL_law_324 := W_invV1 (M := mL_law) dL_law_324 (q := 327) rfl ml0_20_24 rfl
def rL_law_327 := W_aload2 (M := mL_law) dL_law_327 (q := 328) rfl
def rL_law_327b := W_aloadR2 (M := mL_law) dL_law_327 (q := 328) rfl
def rL_law_328 := W_aload0 (M := mL_law) dL_law_328 (q := 329) rfl
def rL_law_328b := W_aloadR0 (M := mL_law) dL_law_328 (q := 329) rfl
def rL_law_329 := W_iload4 (M := mL_law) dL_law_329 (q := 331) rfl
def rL_law_331 := W_iconst (M := mL_law) dL_law_331 (q := 332) rfl (v := (1)) rfl
def rL_law_332 := W_iadd (M := mL_law) dL_law_332 (q := 333) rfl
def rL_law_333 := W_ialdS (M := mL_law) dL_law_333 (q := 334) rfl rfl
def rL_law_334 := W_invV1 (M := mL_law) dL_law_334 (q := 337) rfl ml0_20_27 rfl
def rL_law_337 := W_icmp_eq (M := mL_law) dL_law_337 (q := 340) rfl (t := 1549) rfl
def rL_law_340 := W_iconst (M := mL_law) dL_law_340 (q := 341) rfl (v := (0)) rfl
def rL_law_341 := W_zret (M := mL_law) dL_law_341 rfl
def rL_law_342 := W_aload1 (M := mL_law) dL_law_342 (q := 343) rfl
def rL_law_342b := W_aloadR1 (M := mL_law) dL_law_342 (q := 343) rfl
def rL_law_343 := W_invV0 (M := mL_law) dL_law_343 (q := 346) rfl ml0_20_28 rfl
def rL_law_346 := W_aload2 (M := mL_law) dL_law_346 (q := 347) rfl
def rL_law_346b := W_aloadR2 (M := mL_law) dL_law_346 (q := 347) rfl
def rL_law_347 := W_invV0 (M := mL_law) dL_law_347 (q := 350) rfl ml0_20_32 rfl
def rL_law_350 := W_icmp_eq (M := mL_law) dL_law_350 (q := 353) rfl (t := 1549) rfl
def rL_law_353 := W_iconst (M := mL_law) dL_law_353 (q := 354) rfl (v := (0)) rfl
def rL_law_354 := W_zret (M := mL_law) dL_law_354 rfl
def rL_law_355 := W_aload1 (M := mL_law) dL_law_355 (q := 356) rfl
def rL_law_355b := W_aloadR1 (M := mL_law) dL_law_355 (q := 356) rfl
def rL_law_356 := W_invV0 (M := mL_law) dL_law_356 (q := 359) rfl ml0_20_33 rfl
def rL_law_359 := W_aload2 (M := mL_law) dL_law_359 (q := 360) rfl
def rL_law_359b := W_aloadR2 (M := mL_law) dL_law_359 (q := 360) rfl
def rL_law_360 := W_invV0 (M := mL_law) dL_law_360 (q := 363) rfl ml0_20_36 rfl
def rL_law_363 := W_icmp_eq (M := mL_law) dL_law_363 (q := 366) rfl (t := 1549) rfl
def rL_law_366 := W_iconst (M := mL_law) dL_law_366 (q := 367) rfl (v := (0)) rfl
def rL_law_367 := W_zret (M := mL_law) dL_law_367 rfl
def rL_law_368 := W_aload1 (M := mL_law) dL_law_368 (q := 369) rfl
def rL_law_368b := W_aloadR1 (M := mL_law) dL_law_368 (q := 369) rfl
def rL_law_369 := W_aload0 (M := mL_law) dL_law_369 (q := 370) rfl
def rL_law_369b := W_aloadR0 (M := mL_law) dL_law_369 (q := 370) rfl
def rL_law_370 := W_iload4 (M := mL_law) dL_law_370 (q := 372) rfl
def rL_law_372 := W_iconst (M := mL_law) dL_law_372 (q := 373) rfl (v := (1)) rfl
def rL_law_373 := W_iadd (M := mL_law) dL_law_373 (q := 374) rfl
def rL_law_374 := W_ialdS (M := mL_law) dL_law_374 (q := 375) rfl rfl
def rL_law_375 := W_aload0 (M := mL_law) dL_law_375 (q := 376) rfl
def rL_law_375b := W_aloadR0 (M := mL_law) dL_law_375 (q := 376) rfl
def rL_law_376 := W_iload4 (M := mL_law) dL_law_376 (q := 378) rfl
def rL_law_378 := W_iconst (M := mL_law) dL_law_378 (q := 379) rfl (v := (2)) rfl
def rL_law_379 := W_iadd (M := mL_law) dL_law_379 (q := 380) rfl
def rL_law_380 := W_ialdS (M := mL_law) dL_law_380 (q := 381) rfl rfl
def rL_law_381 := W_invV2 (M := mL_law) dL_law_381 (q := 384) rfl ml0_20_37 rfl
def rL_law_384 := W_aload2 (M := mL_law) dL_law_384 (q := 385) rfl
def rL_law_384b := W_aloadR2 (M := mL_law) dL_law_384 (q := 385) rfl
def rL_law_385 := W_aload0 (M := mL_law) dL_law_385 (q := 386) rfl
def rL_law_385b := W_aloadR0 (M := mL_law) dL_law_385 (q := 386) rfl
def rL_law_386 := W_iload4 (M := mL_law) dL_law_386 (q := 388) rfl
def rL_law_388 := W_iconst (M := mL_law) dL_law_388 (q := 389) rfl (v := (1)) rfl
def rL_law_389 := W_iadd (M := mL_law) dL_law_389 (q := 390) rfl
def rL_law_390 := W_ialdS (M := mL_law) dL_law_390 (q := 391) rfl rfl
def rL_law_391 := W_aload0 (M := mL_law) dL_law_391 (q := 392) rfl
def rL_law_391b := W_aloadR0 (M := mL_law) dL_law_391 (q := 392) rfl
def rL_law_392 := W_iload4 (M := mL_law) dL_law_392 (q := 394) rfl
def rL_law_394 := W_iconst (M := mL_law) dL_law_394 (q := 395) rfl (v := (2)) rfl
def rL_law_395 := W_iadd (M := mL_law) dL_law_395 (q := 396) rfl
def rL_law_396 := W_ialdS (M := mL_law) dL_law_396 (q := 397) rfl rfl
def rL_law_397 := W_invV2 (M := mL_law) dL_law_397 (q := 400) rfl ml0_20_41 rfl
def rL_law_400 := W_icmp_eq (M := mL_law) dL_law_400 (q := 403) rfl (t := 1549) rfl
def rL_law_403 := W_iconst (M := mL_law) dL_law_403 (q := 404) rfl (v := (0)) rfl
def rL_law_404 := W_zret (M := mL_law) dL_law_404 rfl
def rL_law_405 := W_aload1 (M := mL_law) dL_law_405 (q := 406) rfl
def rL_law_405b := W_aloadR1 (M := mL_law) dL_law_405 (q := 406) rfl
def rL_law_406 := W_aload0 (M := mL_law) dL_law_406 (q := 407) rfl
def rL_law_406b := W_aloadR0 (M := mL_law) dL_law_406 (q := 407) rfl
def rL_law_407 := W_iload4 (M := mL_law) dL_law_407 (q := 409) rfl
def rL_law_409 := W_iconst (M := mL_law) dL_law_409 (q := 410) rfl (v := (1)) rfl
def rL_law_410 := W_iadd (M := mL_law) dL_law_410 (q := 411) rfl
def rL_law_411 := W_ialdS (M := mL_law) dL_law_411 (q := 412) rfl rfl
def rL_law_412 := W_aload0 (M := mL_law) dL_law_412 (q := 413) rfl
def rL_law_412b := W_aloadR0 (M := mL_law) dL_law_412 (q := 413) rfl
def rL_law_413 := W_iload4 (M := mL_law) dL_law_413 (q := 415) rfl
def rL_law_415 := W_iconst (M := mL_law) dL_law_415 (q := 416) rfl (v := (2)) rfl
def rL_law_416 := W_iadd (M := mL_law) dL_law_416 (q := 417) rfl
def rL_law_417 := W_ialdS (M := mL_law) dL_law_417 (q := 418) rfl rfl
def rL_law_418 := W_invV2 (M := mL_law) dL_law_418 (q := 421) rfl ml0_20_42 rfl
def rL_law_421 := W_aload2 (M := mL_law) dL_law_421 (q := 422) rfl
def rL_law_421b := W_aloadR2 (M := mL_law) dL_law_421 (q := 422) rfl
def rL_law_422 := W_aload0 (M := mL_law) dL_law_422 (q := 423) rfl
def rL_law_422b := W_aloadR0 (M := mL_law) dL_law_422 (q := 423) rfl
def rL_law_423 := W_iload4 (M := mL_law) dL_law_423 (q := 425) rfl
def rL_law_425 := W_iconst (M := mL_law) dL_law_425 (q := 426) rfl (v := (1)) rfl
def rL_law_426 := W_iadd (M := mL_law) dL_law_426 (q := 427) rfl
def rL_law_427 := W_ialdS (M := mL_law) dL_law_427 (q := 428) rfl rfl
def rL_law_428 := W_aload0 (M := mL_law) dL_law_428 (q := 429) rfl
def rL_law_428b := W_aloadR0 (M := mL_law) dL_law_428 (q := 429) rfl
def rL_law_429 := W_iload4 (M := mL_law) dL_law_429 (q := 431) rfl
def rL_law_431 := W_iconst (M := mL_law) dL_law_431 (q := 432) rfl (v := (2)) rfl
def rL_law_432 := W_iadd (M := mL_law) dL_law_432 (q := 433) rfl
def rL_law_433 := W_ialdS (M := mL_law) dL_law_433 (q := 434) rfl rfl
def rL_law_434 := W_invV2 (M := mL_law) dL_law_434 (q := 437) rfl ml0_20_45 rfl
def rL_law_437 := W_icmp_eq (M := mL_law) dL_law_437 (q := 440) rfl (t := 1549) rfl
def rL_law_440 := W_iconst (M := mL_law) dL_law_440 (q := 441) rfl (v := (0)) rfl
def rL_law_441 := W_zret (M := mL_law) dL_law_441 rfl
def rL_law_442 := W_aload1 (M := mL_law) dL_law_442 (q := 443) rfl
def rL_law_442b := W_aloadR1 (M := mL_law) dL_law_442 (q := 443) rfl
def rL_law_443 := W_aload0 (M := mL_law) dL_law_443 (q := 444) rfl
def rL_law_443b := W_aloadR0 (M := mL_law) dL_law_443 (q := 444) rfl
def rL_law_444 := W_iload4 (M := mL_law) dL_law_444 (q := 446) rfl
def rL_law_446 := W_iconst (M := mL_law) dL_law_446 (q := 447) rfl (v := (1)) rfl
def rL_law_447 := W_iadd (M := mL_law) dL_law_447 (q := 448) rfl
def rL_law_448 := W_ialdS (M := mL_law) dL_law_448 (q := 449) rfl rfl
def rL_law_449 := W_invV1 (M := mL_law) dL_law_449 (q := 452) rfl ml0_20_46 rfl
def rL_law_452 := W_aload2 (M := mL_law) dL_law_452 (q := 453) rfl
def rL_law_452b := W_aloadR2 (M := mL_law) dL_law_452 (q := 453) rfl
def rL_law_453 := W_aload0 (M := mL_law) dL_law_453 (q := 454) rfl
def rL_law_453b := W_aloadR0 (M := mL_law) dL_law_453 (q := 454) rfl
def rL_law_454 := W_iload4 (M := mL_law) dL_law_454 (q := 456) rfl
def rL_law_456 := W_iconst (M := mL_law) dL_law_456 (q := 457) rfl (v := (1)) rfl
def rL_law_457 := W_iadd (M := mL_law) dL_law_457 (q := 458) rfl
def rL_law_458 := W_ialdS (M := mL_law) dL_law_458 (q := 459) rfl rfl
def rL_law_459 := W_invV1 (M := mL_law) dL_law_459 (q := 462) rfl ml0_20_49 rfl
def rL_law_462 := W_icmp_eq (M := mL_law) dL_law_462 (q := 465) rfl (t := 1549) rfl
def rL_law_465 := W_iconst (M := mL_law) dL_law_465 (q := 466) rfl (v := (0)) rfl
def rL_law_466 := W_zret (M := mL_law) dL_law_466 rfl
def rL_law_467 := W_aload1 (M := mL_law) dL_law_467 (q := 468) rfl
def rL_law_467b := W_aloadR1 (M := mL_law) dL_law_467 (q := 468) rfl
def rL_law_468 := W_aload0 (M := mL_law) dL_law_468 (q := 469) rfl
def rL_law_468b := W_aloadR0 (M := mL_law) dL_law_468 (q := 469) rfl
def rL_law_469 := W_iload4 (M := mL_law) dL_law_469 (q := 471) rfl
def rL_law_471 := W_iconst (M := mL_law) dL_law_471 (q := 472) rfl (v := (1)) rfl
def rL_law_472 := W_iadd (M := mL_law) dL_law_472 (q := 473) rfl
def rL_law_473 := W_ialdS (M := mL_law) dL_law_473 (q := 474) rfl rfl
def rL_law_474 := W_invV1 (M := mL_law) dL_law_474 (q := 477) rfl ml0_20_50 rfl
def rL_law_477 := W_aload2 (M := mL_law) dL_law_477 (q := 478) rfl
def rL_law_477b := W_aloadR2 (M := mL_law) dL_law_477 (q := 478) rfl
def rL_law_478 := W_aload0 (M := mL_law) dL_law_478 (q := 479) rfl
def rL_law_478b := W_aloadR0 (M := mL_law) dL_law_478 (q := 479) rfl
def rL_law_479 := W_iload4 (M := mL_law) dL_law_479 (q := 481) rfl
def rL_law_481 := W_iconst (M := mL_law) dL_law_481 (q := 482) rfl (v := (1)) rfl
def rL_law_482 := W_iadd (M := mL_law) dL_law_482 (q := 483) rfl
def rL_law_483 := W_ialdS (M := mL_law) dL_law_483 (q := 484) rfl rfl
def rL_law_484 := W_invV1 (M := mL_law) dL_law_484 (q := 487) rfl ml0_20_53 rfl
def rL_law_487 := W_icmp_eq (M := mL_law) dL_law_487 (q := 490) rfl (t := 1549) rfl
def rL_law_490 := W_iconst (M := mL_law) dL_law_490 (q := 491) rfl (v := (0)) rfl
def rL_law_491 := W_zret (M := mL_law) dL_law_491 rfl
def rL_law_492 := W_aload1 (M := mL_law) dL_law_492 (q := 493) rfl
def rL_law_492b := W_aloadR1 (M := mL_law) dL_law_492 (q := 493) rfl
def rL_law_493 := W_aload0 (M := mL_law) dL_law_493 (q := 494) rfl
def rL_law_493b := W_aloadR0 (M := mL_law) dL_law_493 (q := 494) rfl
def rL_law_494 := W_iload4 (M := mL_law) dL_law_494 (q := 496) rfl
def rL_law_496 := W_iconst (M := mL_law) dL_law_496 (q := 497) rfl (v := (1)) rfl
def rL_law_497 := W_iadd (M := mL_law) dL_law_497 (q := 498) rfl
def rL_law_498 := W_ialdS (M := mL_law) dL_law_498 (q := 499) rfl rfl
def rL_law_499 := W_invV1 (M := mL_law) dL_law_499 (q := 502) rfl ml0_20_54 rfl
def rL_law_502 := W_aload2 (M := mL_law) dL_law_502 (q := 503) rfl
def rL_law_502b := W_aloadR2 (M := mL_law) dL_law_502 (q := 503) rfl
def rL_law_503 := W_aload0 (M := mL_law) dL_law_503 (q := 504) rfl
def rL_law_503b := W_aloadR0 (M := mL_law) dL_law_503 (q := 504) rfl
def rL_law_504 := W_iload4 (M := mL_law) dL_law_504 (q := 506) rfl
def rL_law_506 := W_iconst (M := mL_law) dL_law_506 (q := 507) rfl (v := (1)) rfl
def rL_law_507 := W_iadd (M := mL_law) dL_law_507 (q := 508) rfl
def rL_law_508 := W_ialdS (M := mL_law) dL_law_508 (q := 509) rfl rfl
def rL_law_509 := W_invV1 (M := mL_law) dL_law_509 (q := 512) rfl ml0_20_57 rfl
def rL_law_512 := W_icmp_eq (M := mL_law) dL_law_512 (q := 515) rfl (t := 1549) rfl
def rL_law_515 := W_iconst (M := mL_law) dL_law_515 (q := 516) rfl (v := (0)) rfl
def rL_law_516 := W_zret (M := mL_law) dL_law_516 rfl
def rL_law_517 := W_aload1 (M := mL_law) dL_law_517 (q := 518) rfl
def rL_law_517b := W_aloadR1 (M := mL_law) dL_law_517 (q := 518) rfl
def rL_law_518 := W_invV0 (M := mL_law) dL_law_518 (q := 521) rfl ml0_20_58 rfl
def rL_law_521 := W_aload2 (M := mL_law) dL_law_521 (q := 522) rfl
def rL_law_521b := W_aloadR2 (M := mL_law) dL_law_521 (q := 522) rfl
def rL_law_522 := W_invV0 (M := mL_law) dL_law_522 (q := 525) rfl ml0_20_61 rfl
def rL_law_525 := W_icmp_eq (M := mL_law) dL_law_525 (q := 528) rfl (t := 1549) rfl
def rL_law_528 := W_iconst (M := mL_law) dL_law_528 (q := 529) rfl (v := (0)) rfl
def rL_law_529 := W_zret (M := mL_law) dL_law_529 rfl
def rL_law_530 := W_aload1 (M := mL_law) dL_law_530 (q := 531) rfl
def rL_law_530b := W_aloadR1 (M := mL_law) dL_law_530 (q := 531) rfl
def rL_law_531 := W_aload0 (M := mL_law) dL_law_531 (q := 532) rfl
def rL_law_531b := W_aloadR0 (M := mL_law) dL_law_531 (q := 532) rfl
def rL_law_532 := W_iload4 (M := mL_law) dL_law_532 (q := 534) rfl
def rL_law_534 := W_iconst (M := mL_law) dL_law_534 (q := 535) rfl (v := (1)) rfl
def rL_law_535 := W_iadd (M := mL_law) dL_law_535 (q := 536) rfl
def rL_law_536 := W_ialdS (M := mL_law) dL_law_536 (q := 537) rfl rfl
def rL_law_537 := W_invV1 (M := mL_law) dL_law_537 (q := 540) rfl ml0_20_62 rfl
def rL_law_540 := W_aload2 (M := mL_law) dL_law_540 (q := 541) rfl
def rL_law_540b := W_aloadR2 (M := mL_law) dL_law_540 (q := 541) rfl
def rL_law_541 := W_aload0 (M := mL_law) dL_law_541 (q := 542) rfl
def rL_law_541b := W_aloadR0 (M := mL_law) dL_law_541 (q := 542) rfl
def rL_law_542 := W_iload4 (M := mL_law) dL_law_542 (q := 544) rfl
def rL_law_544 := W_iconst (M := mL_law) dL_law_544 (q := 545) rfl (v := (1)) rfl
def rL_law_545 := W_iadd (M := mL_law) dL_law_545 (q := 546) rfl
def rL_law_546 := W_ialdS (M := mL_law) dL_law_546 (q := 547) rfl rfl
def rL_law_547 := W_invV1 (M := mL_law) dL_law_547 (q := 550) rfl ml0_20_65 rfl
def rL_law_550 := W_icmp_eq (M := mL_law) dL_law_550 (q := 553) rfl (t := 1549) rfl
def rL_law_553 := W_iconst (M := mL_law) dL_law_553 (q := 554) rfl (v := (0)) rfl
def rL_law_554 := W_zret (M := mL_law) dL_law_554 rfl
def rL_law_555 := W_aload1 (M := mL_law) dL_law_555 (q := 556) rfl
def rL_law_555b := W_aloadR1 (M := mL_law) dL_law_555 (q := 556) rfl
def rL_law_556 := W_aload0 (M := mL_law) dL_law_556 (q := 557) rfl
def rL_law_556b := W_aloadR0 (M := mL_law) dL_law_556 (q := 557) rfl
def rL_law_557 := W_iload4 (M := mL_law) dL_law_557 (q := 559) rfl
def rL_law_559 := W_iconst (M := mL_law) dL_law_559 (q := 560) rfl (v := (1)) rfl
def rL_law_560 := W_iadd (M := mL_law) dL_law_560 (q := 561) rfl
def rL_law_561 := W_ialdS (M := mL_law) dL_law_561 (q := 562) rfl rfl
def rL_law_562 := W_invV1 (M := mL_law) dL_law_562 (q := 565) rfl ml0_20_66 rfl
def rL_law_565 := W_aload2 (M := mL_law) dL_law_565 (q := 566) rfl
def rL_law_565b := W_aloadR2 (M := mL_law) dL_law_565 (q := 566) rfl
def rL_law_566 := W_aload0 (M := mL_law) dL_law_566 (q := 567) rfl
def rL_law_566b := W_aloadR0 (M := mL_law) dL_law_566 (q := 567) rfl
def rL_law_567 := W_iload4 (M := mL_law) dL_law_567 (q := 569) rfl
def rL_law_569 := W_iconst (M := mL_law) dL_law_569 (q := 570) rfl (v := (1)) rfl
def rL_law_570 := W_iadd (M := mL_law) dL_law_570 (q := 571) rfl
def rL_law_571 := W_ialdS (M := mL_law) dL_law_571 (q := 572) rfl rfl
def rL_law_572 := W_invV1 (M := mL_law) dL_law_572 (q := 575) rfl ml0_20_69 rfl
def rL_law_575 := W_icmp_eq (M := mL_law) dL_law_575 (q := 578) rfl (t := 1549) rfl
def rL_law_578 := W_iconst (M := mL_law) dL_law_578 (q := 579) rfl (v := (0)) rfl
def rL_law_579 := W_zret (M := mL_law) dL_law_579 rfl
def rL_law_580 := W_aload1 (M := mL_law) dL_law_580 (q := 581) rfl
def rL_law_580b := W_aloadR1 (M := mL_law) dL_law_580 (q := 581) rfl
def rL_law_581 := W_aload0 (M := mL_law) dL_law_581 (q := 582) rfl
def rL_law_581b := W_aloadR0 (M := mL_law) dL_law_581 (q := 582) rfl
def rL_law_582 := W_iload4 (M := mL_law) dL_law_582 (q := 584) rfl
def rL_law_584 := W_iconst (M := mL_law) dL_law_584 (q := 585) rfl (v := (1)) rfl
def rL_law_585 := W_iadd (M := mL_law) dL_law_585 (q := 586) rfl
def rL_law_586 := W_ialdS (M := mL_law) dL_law_586 (q := 587) rfl rfl
def rL_law_587 := W_aload0 (M := mL_law) dL_law_587 (q := 588) rfl
def rL_law_587b := W_aloadR0 (M := mL_law) dL_law_587 (q := 588) rfl
def rL_law_588 := W_iload4 (M := mL_law) dL_law_588 (q := 590) rfl
def rL_law_590 := W_iconst (M := mL_law) dL_law_590 (q := 591) rfl (v := (2)) rfl
def rL_law_591 := W_iadd (M := mL_law) dL_law_591 (q := 592) rfl
def rL_law_592 := W_ialdS (M := mL_law) dL_law_592 (q := 593) rfl rfl
def rL_law_593 := W_invV2 (M := mL_law) dL_law_593 (q := 596) rfl ml0_20_70 rfl
def rL_law_596 := W_aload2 (M := mL_law) dL_law_596 (q := 597) rfl
def rL_law_596b := W_aloadR2 (M := mL_law) dL_law_596 (q := 597) rfl
def rL_law_597 := W_aload0 (M := mL_law) dL_law_597 (q := 598) rfl
def rL_law_597b := W_aloadR0 (M := mL_law) dL_law_597 (q := 598) rfl
def rL_law_598 := W_iload4 (M := mL_law) dL_law_598 (q := 600) rfl
def rL_law_600 := W_iconst (M := mL_law) dL_law_600 (q := 601) rfl (v := (1)) rfl
def rL_law_601 := W_iadd (M := mL_law) dL_law_601 (q := 602) rfl
def rL_law_602 := W_ialdS (M := mL_law) dL_law_602 (q := 603) rfl rfl
def rL_law_603 := W_aload0 (M := mL_law) dL_law_603 (q := 604) rfl
def rL_law_603b := W_aloadR0 (M := mL_law) dL_law_603 (q := 604) rfl
def rL_law_604 := W_iload4 (M := mL_law) dL_law_604 (q := 606) rfl
def rL_law_606 := W_iconst (M := mL_law) dL_law_606 (q := 607) rfl (v := (2)) rfl
def rL_law_607 := W_iadd (M := mL_law) dL_law_607 (q := 608) rfl
def rL_law_608 := W_ialdS (M := mL_law) dL_law_608 (q := 609) rfl rfl
def rL_law_609 := W_invV2 (M := mL_law) dL_law_609 (q := 612) rfl ml0_20_73 rfl
def rL_law_612 := W_icmp_eq (M := mL_law) dL_law_612 (q := 615) rfl (t := 1549) rfl
def rL_law_615 := W_iconst (M := mL_law) dL_law_615 (q := 616) rfl (v := (0)) rfl
def rL_law_616 := W_zret (M := mL_law) dL_law_616 rfl
def rL_law_617 := W_aload1 (M := mL_law) dL_law_617 (q := 618) rfl
def rL_law_617b := W_aloadR1 (M := mL_law) dL_law_617 (q := 618) rfl
def rL_law_618 := W_aload0 (M := mL_law) dL_law_618 (q := 619) rfl
def rL_law_618b := W_aloadR0 (M := mL_law) dL_law_618 (q := 619) rfl
def rL_law_619 := W_iload4 (M := mL_law) dL_law_619 (q := 621) rfl
def rL_law_621 := W_iconst (M := mL_law) dL_law_621 (q := 622) rfl (v := (1)) rfl
def rL_law_622 := W_iadd (M := mL_law) dL_law_622 (q := 623) rfl
def rL_law_623 := W_ialdS (M := mL_law) dL_law_623 (q := 624) rfl rfl
def rL_law_624 := W_invV1 (M := mL_law) dL_law_624 (q := 627) rfl ml0_20_74 rfl
def rL_law_627 := W_aload2 (M := mL_law) dL_law_627 (q := 628) rfl
def rL_law_627b := W_aloadR2 (M := mL_law) dL_law_627 (q := 628) rfl
def rL_law_628 := W_aload0 (M := mL_law) dL_law_628 (q := 629) rfl
def rL_law_628b := W_aloadR0 (M := mL_law) dL_law_628 (q := 629) rfl
def rL_law_629 := W_iload4 (M := mL_law) dL_law_629 (q := 631) rfl
def rL_law_631 := W_iconst (M := mL_law) dL_law_631 (q := 632) rfl (v := (1)) rfl
def rL_law_632 := W_iadd (M := mL_law) dL_law_632 (q := 633) rfl
def rL_law_633 := W_ialdS (M := mL_law) dL_law_633 (q := 634) rfl rfl
def rL_law_634 := W_invV1 (M := mL_law) dL_law_634 (q := 637) rfl ml0_20_77 rfl
def rL_law_637 := W_icmp_eq (M := mL_law) dL_law_637 (q := 640) rfl (t := 1549) rfl
def rL_law_640 := W_iconst (M := mL_law) dL_law_640 (q := 641) rfl (v := (0)) rfl
def rL_law_641 := W_zret (M := mL_law) dL_law_641 rfl
def rL_law_642 := W_aload1 (M := mL_law) dL_law_642 (q := 643) rfl
def rL_law_642b := W_aloadR1 (M := mL_law) dL_law_642 (q := 643) rfl
def rL_law_643 := W_invV0 (M := mL_law) dL_law_643 (q := 646) rfl ml0_20_78 rfl
def rL_law_646 := W_aload2 (M := mL_law) dL_law_646 (q := 647) rfl
def rL_law_646b := W_aloadR2 (M := mL_law) dL_law_646 (q := 647) rfl
def rL_law_647 := W_invV0 (M := mL_law) dL_law_647 (q := 650) rfl ml0_20_81 rfl
def rL_law_650 := W_icmp_eq (M := mL_law) dL_law_650 (q := 653) rfl (t := 1549) rfl
def rL_law_653 := W_iconst (M := mL_law) dL_law_653 (q := 654) rfl (v := (0)) rfl
def rL_law_654 := W_zret (M := mL_law) dL_law_654 rfl
def rL_law_655 := W_aload1 (M := mL_law) dL_law_655 (q := 656) rfl
def rL_law_655b := W_aloadR1 (M := mL_law) dL_law_655 (q := 656) rfl
def rL_law_656 := W_invV0 (M := mL_law) dL_law_656 (q := 659) rfl ml0_20_82 rfl
def rL_law_659 := W_aload2 (M := mL_law) dL_law_659 (q := 660) rfl
def rL_law_659b := W_aloadR2 (M := mL_law) dL_law_659 (q := 660) rfl
def rL_law_660 := W_invV0 (M := mL_law) dL_law_660 (q := 663) rfl ml0_20_85 rfl
def rL_law_663 := W_icmp_eq (M := mL_law) dL_law_663 (q := 666) rfl (t := 1549) rfl
def rL_law_666 := W_iconst (M := mL_law) dL_law_666 (q := 667) rfl (v := (0)) rfl
def rL_law_667 := W_zret (M := mL_law) dL_law_667 rfl
def rL_law_668 := W_aload1 (M := mL_law) dL_law_668 (q := 669) rfl
def rL_law_668b := W_aloadR1 (M := mL_law) dL_law_668 (q := 669) rfl
def rL_law_669 := W_invV0 (M := mL_law) dL_law_669 (q := 672) rfl ml0_20_86 rfl
def rL_law_672 := W_aload2 (M := mL_law) dL_law_672 (q := 673) rfl
def rL_law_672b := W_aloadR2 (M := mL_law) dL_law_672 (q := 673) rfl
def rL_law_673 := W_invV0 (M := mL_law) dL_law_673 (q := 676) rfl ml0_20_89 rfl
def rL_law_676 := W_icmp_eq (M := mL_law) dL_law_676 (q := 679) rfl (t := 1549) rfl
def rL_law_679 := W_iconst (M := mL_law) dL_law_679 (q := 680) rfl (v := (0)) rfl
def rL_law_680 := W_zret (M := mL_law) dL_law_680 rfl
def rL_law_681 := W_aload1 (M := mL_law) dL_law_681 (q := 682) rfl
def rL_law_681b := W_aloadR1 (M := mL_law) dL_law_681 (q := 682) rfl
def rL_law_682 := W_aload0 (M := mL_law) dL_law_682 (q := 683) rfl
def rL_law_682b := W_aloadR0 (M := mL_law) dL_law_682 (q := 683) rfl
def rL_law_683 := W_iload4 (M := mL_law) dL_law_683 (q := 685) rfl
def rL_law_685 := W_iconst (M := mL_law) dL_law_685 (q := 686) rfl (v := (1)) rfl
def rL_law_686 := W_iadd (M := mL_law) dL_law_686 (q := 687) rfl
def rL_law_687 := W_ialdS (M := mL_law) dL_law_687 (q := 688) rfl rfl
def rL_law_688 := W_aload0 (M := mL_law) dL_law_688 (q := 689) rfl
def rL_law_688b := W_aloadR0 (M := mL_law) dL_law_688 (q := 689) rfl
def rL_law_689 := W_iload4 (M := mL_law) dL_law_689 (q := 691) rfl
def rL_law_691 := W_iconst (M := mL_law) dL_law_691 (q := 692) rfl (v := (2)) rfl
def rL_law_692 := W_iadd (M := mL_law) dL_law_692 (q := 693) rfl
def rL_law_693 := W_ialdS (M := mL_law) dL_law_693 (q := 694) rfl rfl
def rL_law_694 := W_invV2 (M := mL_law) dL_law_694 (q := 697) rfl ml0_20_90 rfl
def rL_law_697 := W_aload2 (M := mL_law) dL_law_697 (q := 698) rfl
def rL_law_697b := W_aloadR2 (M := mL_law) dL_law_697 (q := 698) rfl
def rL_law_698 := W_aload0 (M := mL_law) dL_law_698 (q := 699) rfl
def rL_law_698b := W_aloadR0 (M := mL_law) dL_law_698 (q := 699) rfl
def rL_law_699 := W_iload4 (M := mL_law) dL_law_699 (q := 701) rfl
def rL_law_701 := W_iconst (M := mL_law) dL_law_701 (q := 702) rfl (v := (1)) rfl
def rL_law_702 := W_iadd (M := mL_law) dL_law_702 (q := 703) rfl
def rL_law_703 := W_ialdS (M := mL_law) dL_law_703 (q := 704) rfl rfl
def rL_law_704 := W_aload0 (M := mL_law) dL_law_704 (q := 705) rfl
def rL_law_704b := W_aloadR0 (M := mL_law) dL_law_704 (q := 705) rfl
def rL_law_705 := W_iload4 (M := mL_law) dL_law_705 (q := 707) rfl
def rL_law_707 := W_iconst (M := mL_law) dL_law_707 (q := 708) rfl (v := (2)) rfl
def rL_law_708 := W_iadd (M := mL_law) dL_law_708 (q := 709) rfl
def rL_law_709 := W_ialdS (M := mL_law) dL_law_709 (q := 710) rfl rfl
def rL_law_710 := W_invV2 (M := mL_law) dL_law_710 (q := 713) rfl ml0_20_93 rfl
def rL_law_713 := W_icmp_eq (M := mL_law) dL_law_713 (q := 716) rfl (t := 1549) rfl
def rL_law_716 := W_iconst (M := mL_law) dL_law_716 (q := 717) rfl (v := (0)) rfl
def rL_law_717 := W_zret (M := mL_law) dL_law_717 rfl
def rL_law_718 := W_aload1 (M := mL_law) dL_law_718 (q := 719) rfl
def rL_law_718b := W_aloadR1 (M := mL_law) dL_law_718 (q := 719) rfl
def rL_law_719 := W_invV0 (M := mL_law) dL_law_719 (q := 722) rfl ml0_20_94 rfl
def rL_law_722 := W_aload2 (M := mL_law) dL_law_722 (q := 723) rfl
def rL_law_722b := W_aloadR2 (M := mL_law) dL_law_722 (q := 723) rfl
def rL_law_723 := W_invV0 (M := mL_law) dL_law_723 (q := 726) rfl ml0_20_97 rfl
def rL_law_726 := W_icmp_eq (M := mL_law) dL_law_726 (q := 729) rfl (t := 1549) rfl
def rL_law_729 := W_iconst (M := mL_law) dL_law_729 (q := 730) rfl (v := (0)) rfl
def rL_law_730 := W_zret (M := mL_law) dL_law_730 rfl
def rL_law_731 := W_aload1 (M := mL_law) dL_law_731 (q := 732) rfl
def rL_law_731b := W_aloadR1 (M := mL_law) dL_law_731 (q := 732) rfl
def rL_law_732 := W_aload0 (M := mL_law) dL_law_732 (q := 733) rfl
def rL_law_732b := W_aloadR0 (M := mL_law) dL_law_732 (q := 733) rfl
def rL_law_733 := W_iload4 (M := mL_law) dL_law_733 (q := 735) rfl
def rL_law_735 := W_iconst (M := mL_law) dL_law_735 (q := 736) rfl (v := (1)) rfl
def rL_law_736 := W_iadd (M := mL_law) dL_law_736 (q := 737) rfl
def rL_law_737 := W_ialdS (M := mL_law) dL_law_737 (q := 738) rfl rfl
def rL_law_738 := W_invV1 (M := mL_law) dL_law_738 (q := 741) rfl ml0_20_98 rfl
def rL_law_741 := W_aload2 (M := mL_law) dL_law_741 (q := 742) rfl
def rL_law_741b := W_aloadR2 (M := mL_law) dL_law_741 (q := 742) rfl
def rL_law_742 := W_aload0 (M := mL_law) dL_law_742 (q := 743) rfl
def rL_law_742b := W_aloadR0 (M := mL_law) dL_law_742 (q := 743) rfl
def rL_law_743 := W_iload4 (M := mL_law) dL_law_743 (q := 745) rfl
def rL_law_745 := W_iconst (M := mL_law) dL_law_745 (q := 746) rfl (v := (1)) rfl
def rL_law_746 := W_iadd (M := mL_law) dL_law_746 (q := 747) rfl
def rL_law_747 := W_ialdS (M := mL_law) dL_law_747 (q := 748) rfl rfl
def rL_law_748 := W_invV1 (M := mL_law) dL_law_748 (q := 751) rfl ml0_20_101 rfl
def rL_law_751 := W_icmp_eq (M := mL_law) dL_law_751 (q := 754) rfl (t := 1549) rfl
def rL_law_754 := W_iconst (M := mL_law) dL_law_754 (q := 755) rfl (v := (0)) rfl
def rL_law_755 := W_zret (M := mL_law) dL_law_755 rfl
def rL_law_756 := W_aload1 (M := mL_law) dL_law_756 (q := 757) rfl
def rL_law_756b := W_aloadR1 (M := mL_law) dL_law_756 (q := 757) rfl
def rL_law_757 := W_invV0 (M := mL_law) dL_law_757 (q := 760) rfl ml0_20_102 rfl
def rL_law_760 := W_aload2 (M := mL_law) dL_law_760 (q := 761) rfl
def rL_law_760b := W_aloadR2 (M := mL_law) dL_law_760 (q := 761) rfl
def rL_law_761 := W_invV0 (M := mL_law) dL_law_761 (q := 764) rfl ml0_20_105 rfl
def rL_law_764 := W_icmp_eq (M := mL_law) dL_law_764 (q := 767) rfl (t := 1549) rfl
def rL_law_767 := W_iconst (M := mL_law) dL_law_767 (q := 768) rfl (v := (0)) rfl
def rL_law_768 := W_zret (M := mL_law) dL_law_768 rfl
def rL_law_769 := W_aload1 (M := mL_law) dL_law_769 (q := 770) rfl
def rL_law_769b := W_aloadR1 (M := mL_law) dL_law_769 (q := 770) rfl
def rL_law_770 := W_aload0 (M := mL_law) dL_law_770 (q := 771) rfl
def rL_law_770b := W_aloadR0 (M := mL_law) dL_law_770 (q := 771) rfl
def rL_law_771 := W_iload4 (M := mL_law) dL_law_771 (q := 773) rfl
def rL_law_773 := W_iconst (M := mL_law) dL_law_773 (q := 774) rfl (v := (1)) rfl
def rL_law_774 := W_iadd (M := mL_law) dL_law_774 (q := 775) rfl
def rL_law_775 := W_ialdS (M := mL_law) dL_law_775 (q := 776) rfl rfl
def rL_law_776 := W_invV1 (M := mL_law) dL_law_776 (q := 779) rfl ml0_20_106 rfl
def rL_law_779 := W_aload2 (M := mL_law) dL_law_779 (q := 780) rfl
def rL_law_779b := W_aloadR2 (M := mL_law) dL_law_779 (q := 780) rfl
def rL_law_780 := W_aload0 (M := mL_law) dL_law_780 (q := 781) rfl
def rL_law_780b := W_aloadR0 (M := mL_law) dL_law_780 (q := 781) rfl
def rL_law_781 := W_iload4 (M := mL_law) dL_law_781 (q := 783) rfl
def rL_law_783 := W_iconst (M := mL_law) dL_law_783 (q := 784) rfl (v := (1)) rfl
def rL_law_784 := W_iadd (M := mL_law) dL_law_784 (q := 785) rfl
def rL_law_785 := W_ialdS (M := mL_law) dL_law_785 (q := 786) rfl rfl
def rL_law_786 := W_invV1 (M := mL_law) dL_law_786 (q := 789) rfl ml0_20_109 rfl
def rL_law_789 := W_icmp_eq (M := mL_law) dL_law_789 (q := 792) rfl (t := 1549) rfl
def rL_law_792 := W_iconst (M := mL_law) dL_law_792 (q := 793) rfl (v := (0)) rfl
def rL_law_793 := W_zret (M := mL_law) dL_law_793 rfl
def rL_law_794 := W_aload1 (M := mL_law) dL_law_794 (q := 795) rfl
def rL_law_794b := W_aloadR1 (M := mL_law) dL_law_794 (q := 795) rfl
def rL_law_795 := W_invV0 (M := mL_law) dL_law_795 (q := 798) rfl ml0_20_110 rfl
def rL_law_798 := W_aload2 (M := mL_law) dL_law_798 (q := 799) rfl
def rL_law_798b := W_aloadR2 (M := mL_law) dL_law_798 (q := 799) rfl
def rL_law_799 := W_invV0 (M := mL_law) dL_law_799 (q := 802) rfl ml0_20_113 rfl
def rL_law_802 := W_icmp_eq (M := mL_law) dL_law_802 (q := 805) rfl (t := 1549) rfl
def rL_law_805 := W_iconst (M := mL_law) dL_law_805 (q := 806) rfl (v := (0)) rfl
def rL_law_806 := W_zret (M := mL_law) dL_law_806 rfl
def rL_law_807 := W_aload1 (M := mL_law) dL_law_807 (q := 808) rfl
def rL_law_807b := W_aloadR1 (M := mL_law) dL_law_807 (q := 808) rfl
def rL_law_808 := W_invV0 (M := mL_law) dL_law_808 (q := 811) rfl ml0_20_114 rfl
def rL_law_811 := W_aload2 (M := mL_law) dL_law_811 (q := 812) rfl
def rL_law_811b := W_aloadR2 (M := mL_law) dL_law_811 (q := 812) rfl
def rL_law_812 := W_invV0 (M := mL_law) dL_law_812 (q := 815) rfl ml0_20_117 rfl
def rL_law_815 := W_icmp_eq (M := mL_law) dL_law_815 (q := 818) rfl (t := 1549) rfl
def rL_law_818 := W_iconst (M := mL_law) dL_law_818 (q := 819) rfl (v := (0)) rfl
def rL_law_819 := W_zret (M := mL_law) dL_law_819 rfl
def rL_law_820 := W_aload1 (M := mL_law) dL_law_820 (q := 821) rfl
def rL_law_820b := W_aloadR1 (M := mL_law) dL_law_820 (q := 821) rfl
def rL_law_821 := W_aload0 (M := mL_law) dL_law_821 (q := 822) rfl
def rL_law_821b := W_aloadR0 (M := mL_law) dL_law_821 (q := 822) rfl
def rL_law_822 := W_iload4 (M := mL_law) dL_law_822 (q := 824) rfl
def rL_law_824 := W_iconst (M := mL_law) dL_law_824 (q := 825) rfl (v := (1)) rfl
def rL_law_825 := W_iadd (M := mL_law) dL_law_825 (q := 826) rfl
def rL_law_826 := W_ialdS (M := mL_law) dL_law_826 (q := 827) rfl rfl
def rL_law_827 := W_aload0 (M := mL_law) dL_law_827 (q := 828) rfl
def rL_law_827b := W_aloadR0 (M := mL_law) dL_law_827 (q := 828) rfl
def rL_law_828 := W_iload4 (M := mL_law) dL_law_828 (q := 830) rfl
def rL_law_830 := W_iconst (M := mL_law) dL_law_830 (q := 831) rfl (v := (2)) rfl
def rL_law_831 := W_iadd (M := mL_law) dL_law_831 (q := 832) rfl
def rL_law_832 := W_ialdS (M := mL_law) dL_law_832 (q := 833) rfl rfl
def rL_law_833 := W_invV2 (M := mL_law) dL_law_833 (q := 836) rfl ml0_20_118 rfl
def rL_law_836 := W_aload2 (M := mL_law) dL_law_836 (q := 837) rfl
def rL_law_836b := W_aloadR2 (M := mL_law) dL_law_836 (q := 837) rfl
def rL_law_837 := W_aload0 (M := mL_law) dL_law_837 (q := 838) rfl
def rL_law_837b := W_aloadR0 (M := mL_law) dL_law_837 (q := 838) rfl
def rL_law_838 := W_iload4 (M := mL_law) dL_law_838 (q := 840) rfl
def rL_law_840 := W_iconst (M := mL_law) dL_law_840 (q := 841) rfl (v := (1)) rfl
def rL_law_841 := W_iadd (M := mL_law) dL_law_841 (q := 842) rfl
def rL_law_842 := W_ialdS (M := mL_law) dL_law_842 (q := 843) rfl rfl
def rL_law_843 := W_aload0 (M := mL_law) dL_law_843 (q := 844) rfl
def rL_law_843b := W_aloadR0 (M := mL_law) dL_law_843 (q := 844) rfl
def rL_law_844 := W_iload4 (M := mL_law) dL_law_844 (q := 846) rfl
def rL_law_846 := W_iconst (M := mL_law) dL_law_846 (q := 847) rfl (v := (2)) rfl
def rL_law_847 := W_iadd (M := mL_law) dL_law_847 (q := 848) rfl
def rL_law_848 := W_ialdS (M := mL_law) dL_law_848 (q := 849) rfl rfl
def rL_law_849 := W_invV2 (M := mL_law) dL_law_849 (q := 852) rfl ml0_20_121 rfl
def rL_law_852 := W_icmp_eq (M := mL_law) dL_law_852 (q := 855) rfl (t := 1549) rfl
def rL_law_855 := W_iconst (M := mL_law) dL_law_855 (q := 856) rfl (v := (0)) rfl
def rL_law_856 := W_zret (M := mL_law) dL_law_856 rfl
def rL_law_857 := W_aload1 (M := mL_law) dL_law_857 (q := 858) rfl
def rL_law_857b := W_aloadR1 (M := mL_law) dL_law_857 (q := 858) rfl
def rL_law_858 := W_aload0 (M := mL_law) dL_law_858 (q := 859) rfl
def rL_law_858b := W_aloadR0 (M := mL_law) dL_law_858 (q := 859) rfl
def rL_law_859 := W_iload4 (M := mL_law) dL_law_859 (q := 861) rfl
def rL_law_861 := W_iconst (M := mL_law) dL_law_861 (q := 862) rfl (v := (1)) rfl
def rL_law_862 := W_iadd (M := mL_law) dL_law_862 (q := 863) rfl
def rL_law_863 := W_ialdS (M := mL_law) dL_law_863 (q := 864) rfl rfl
def rL_law_864 := W_aload0 (M := mL_law) dL_law_864 (q := 865) rfl
def rL_law_864b := W_aloadR0 (M := mL_law) dL_law_864 (q := 865) rfl
def rL_law_865 := W_iload4 (M := mL_law) dL_law_865 (q := 867) rfl
def rL_law_867 := W_iconst (M := mL_law) dL_law_867 (q := 868) rfl (v := (2)) rfl
def rL_law_868 := W_iadd (M := mL_law) dL_law_868 (q := 869) rfl
def rL_law_869 := W_ialdS (M := mL_law) dL_law_869 (q := 870) rfl rfl
def rL_law_870 := W_invV2 (M := mL_law) dL_law_870 (q := 873) rfl ml0_20_122 rfl
def rL_law_873 := W_aload2 (M := mL_law) dL_law_873 (q := 874) rfl
def rL_law_873b := W_aloadR2 (M := mL_law) dL_law_873 (q := 874) rfl
def rL_law_874 := W_aload0 (M := mL_law) dL_law_874 (q := 875) rfl
def rL_law_874b := W_aloadR0 (M := mL_law) dL_law_874 (q := 875) rfl
def rL_law_875 := W_iload4 (M := mL_law) dL_law_875 (q := 877) rfl
def rL_law_877 := W_iconst (M := mL_law) dL_law_877 (q := 878) rfl (v := (1)) rfl
def rL_law_878 := W_iadd (M := mL_law) dL_law_878 (q := 879) rfl
def rL_law_879 := W_ialdS (M := mL_law) dL_law_879 (q := 880) rfl rfl
def rL_law_880 := W_aload0 (M := mL_law) dL_law_880 (q := 881) rfl
def rL_law_880b := W_aloadR0 (M := mL_law) dL_law_880 (q := 881) rfl
def rL_law_881 := W_iload4 (M := mL_law) dL_law_881 (q := 883) rfl
def rL_law_883 := W_iconst (M := mL_law) dL_law_883 (q := 884) rfl (v := (2)) rfl
def rL_law_884 := W_iadd (M := mL_law) dL_law_884 (q := 885) rfl
def rL_law_885 := W_ialdS (M := mL_law) dL_law_885 (q := 886) rfl rfl
def rL_law_886 := W_invV2 (M := mL_law) dL_law_886 (q := 889) rfl ml0_20_125 rfl
def rL_law_889 := W_icmp_eq (M := mL_law) dL_law_889 (q := 892) rfl (t := 1549) rfl
def rL_law_892 := W_iconst (M := mL_law) dL_law_892 (q := 893) rfl (v := (0)) rfl
def rL_law_893 := W_zret (M := mL_law) dL_law_893 rfl
def rL_law_894 := W_aload1 (M := mL_law) dL_law_894 (q := 895) rfl
def rL_law_894b := W_aloadR1 (M := mL_law) dL_law_894 (q := 895) rfl
def rL_law_895 := W_invV0 (M := mL_law) dL_law_895 (q := 898) rfl ml0_20_126 rfl
def rL_law_898 := W_aload2 (M := mL_law) dL_law_898 (q := 899) rfl
def rL_law_898b := W_aloadR2 (M := mL_law) dL_law_898 (q := 899) rfl
def rL_law_899 := W_invV0 (M := mL_law) dL_law_899 (q := 902) rfl ml0_20_129 rfl
def rL_law_902 := W_icmp_eq (M := mL_law) dL_law_902 (q := 905) rfl (t := 1549) rfl
def rL_law_905 := W_iconst (M := mL_law) dL_law_905 (q := 906) rfl (v := (0)) rfl
def rL_law_906 := W_zret (M := mL_law) dL_law_906 rfl
def rL_law_907 := W_aload1 (M := mL_law) dL_law_907 (q := 908) rfl
def rL_law_907b := W_aloadR1 (M := mL_law) dL_law_907 (q := 908) rfl
def rL_law_908 := W_invV0 (M := mL_law) dL_law_908 (q := 911) rfl ml0_20_130 rfl
def rL_law_911 := W_aload2 (M := mL_law) dL_law_911 (q := 912) rfl
def rL_law_911b := W_aloadR2 (M := mL_law) dL_law_911 (q := 912) rfl
def rL_law_912 := W_invV0 (M := mL_law) dL_law_912 (q := 915) rfl ml0_20_133 rfl
def rL_law_915 := W_icmp_eq (M := mL_law) dL_law_915 (q := 918) rfl (t := 1549) rfl
def rL_law_918 := W_iconst (M := mL_law) dL_law_918 (q := 919) rfl (v := (0)) rfl
def rL_law_919 := W_zret (M := mL_law) dL_law_919 rfl
def rL_law_920 := W_aload1 (M := mL_law) dL_law_920 (q := 921) rfl
def rL_law_920b := W_aloadR1 (M := mL_law) dL_law_920 (q := 921) rfl
def rL_law_921 := W_invV0 (M := mL_law) dL_law_921 (q := 924) rfl ml0_20_134 rfl
def rL_law_924 := W_aload2 (M := mL_law) dL_law_924 (q := 925) rfl
def rL_law_924b := W_aloadR2 (M := mL_law) dL_law_924 (q := 925) rfl
def rL_law_925 := W_invV0 (M := mL_law) dL_law_925 (q := 928) rfl ml0_20_137 rfl
def rL_law_928 := W_icmp_eq (M := mL_law) dL_law_928 (q := 931) rfl (t := 1549) rfl
def rL_law_931 := W_iconst (M := mL_law) dL_law_931 (q := 932) rfl (v := (0)) rfl
def rL_law_932 := W_zret (M := mL_law) dL_law_932 rfl
def rL_law_933 := W_aload1 (M := mL_law) dL_law_933 (q := 934) rfl
def rL_law_933b := W_aloadR1 (M := mL_law) dL_law_933 (q := 934) rfl
def rL_law_934 := W_aload0 (M := mL_law) dL_law_934 (q := 935) rfl
def rL_law_934b := W_aloadR0 (M := mL_law) dL_law_934 (q := 935) rfl
def rL_law_935 := W_iload4 (M := mL_law) dL_law_935 (q := 937) rfl
def rL_law_937 := W_iconst (M := mL_law) dL_law_937 (q := 938) rfl (v := (1)) rfl
def rL_law_938 := W_iadd (M := mL_law) dL_law_938 (q := 939) rfl
def rL_law_939 := W_ialdS (M := mL_law) dL_law_939 (q := 940) rfl rfl
def rL_law_940 := W_if_eq (M := mL_law) dL_law_940 (q := 943) rfl (t := 947) rfl
def rL_law_943 := W_iconst (M := mL_law) dL_law_943 (q := 944) rfl (v := (1)) rfl
def rL_law_944 := W_goto (M := mL_law) dL_law_944 (t := 948) rfl
def rL_law_947 := W_iconst (M := mL_law) dL_law_947 (q := 948) rfl (v := (0)) rfl
def rL_law_948 := W_aload0 (M := mL_law) dL_law_948 (q := 949) rfl
def rL_law_948b := W_aloadR0 (M := mL_law) dL_law_948 (q := 949) rfl
def rL_law_949 := W_iload4 (M := mL_law) dL_law_949 (q := 951) rfl
def rL_law_951 := W_iconst (M := mL_law) dL_law_951 (q := 952) rfl (v := (2)) rfl
def rL_law_952 := W_iadd (M := mL_law) dL_law_952 (q := 953) rfl
def rL_law_953 := W_ialdS (M := mL_law) dL_law_953 (q := 954) rfl rfl
def rL_law_954 := W_if_eq (M := mL_law) dL_law_954 (q := 957) rfl (t := 961) rfl
def rL_law_957 := W_iconst (M := mL_law) dL_law_957 (q := 958) rfl (v := (1)) rfl
def rL_law_958 := W_goto (M := mL_law) dL_law_958 (t := 962) rfl
def rL_law_961 := W_iconst (M := mL_law) dL_law_961 (q := 962) rfl (v := (0)) rfl
def rL_law_962 := W_aload0 (M := mL_law) dL_law_962 (q := 963) rfl
def rL_law_962b := W_aloadR0 (M := mL_law) dL_law_962 (q := 963) rfl
def rL_law_963 := W_iload4 (M := mL_law) dL_law_963 (q := 965) rfl
def rL_law_965 := W_iconst (M := mL_law) dL_law_965 (q := 966) rfl (v := (3)) rfl
def rL_law_966 := W_iadd (M := mL_law) dL_law_966 (q := 967) rfl
def rL_law_967 := W_ialdS (M := mL_law) dL_law_967 (q := 968) rfl rfl
def rL_law_968 := W_if_eq (M := mL_law) dL_law_968 (q := 971) rfl (t := 975) rfl
def rL_law_971 := W_iconst (M := mL_law) dL_law_971 (q := 972) rfl (v := (1)) rfl
def rL_law_972 := W_goto (M := mL_law) dL_law_972 (t := 976) rfl
def rL_law_975 := W_iconst (M := mL_law) dL_law_975 (q := 976) rfl (v := (0)) rfl
def rL_law_976 := W_invV3 (M := mL_law) dL_law_976 (q := 979) rfl ml0_20_138 rfl
def rL_law_979 := W_aload2 (M := mL_law) dL_law_979 (q := 980) rfl
def rL_law_979b := W_aloadR2 (M := mL_law) dL_law_979 (q := 980) rfl
def rL_law_980 := W_aload0 (M := mL_law) dL_law_980 (q := 981) rfl
def rL_law_980b := W_aloadR0 (M := mL_law) dL_law_980 (q := 981) rfl
def rL_law_981 := W_iload4 (M := mL_law) dL_law_981 (q := 983) rfl
def rL_law_983 := W_iconst (M := mL_law) dL_law_983 (q := 984) rfl (v := (1)) rfl
def rL_law_984 := W_iadd (M := mL_law) dL_law_984 (q := 985) rfl
def rL_law_985 := W_ialdS (M := mL_law) dL_law_985 (q := 986) rfl rfl
def rL_law_986 := W_if_eq (M := mL_law) dL_law_986 (q := 989) rfl (t := 993) rfl
def rL_law_989 := W_iconst (M := mL_law) dL_law_989 (q := 990) rfl (v := (1)) rfl
def rL_law_990 := W_goto (M := mL_law) dL_law_990 (t := 994) rfl
def rL_law_993 := W_iconst (M := mL_law) dL_law_993 (q := 994) rfl (v := (0)) rfl
def rL_law_994 := W_aload0 (M := mL_law) dL_law_994 (q := 995) rfl
def rL_law_994b := W_aloadR0 (M := mL_law) dL_law_994 (q := 995) rfl
def rL_law_995 := W_iload4 (M := mL_law) dL_law_995 (q := 997) rfl
def rL_law_997 := W_iconst (M := mL_law) dL_law_997 (q := 998) rfl (v := (2)) rfl
def rL_law_998 := W_iadd (M := mL_law) dL_law_998 (q := 999) rfl
def rL_law_999 := W_ialdS (M := mL_law) dL_law_999 (q := 1000) rfl rfl
def rL_law_1000 := W_if_eq (M := mL_law) dL_law_1000 (q := 1003) rfl (t := 1007) rfl
def rL_law_1003 := W_iconst (M := mL_law) dL_law_1003 (q := 1004) rfl (v := (1)) rfl
def rL_law_1004 := W_goto (M := mL_law) dL_law_1004 (t := 1008) rfl
def rL_law_1007 := W_iconst (M := mL_law) dL_law_1007 (q := 1008) rfl (v := (0)) rfl
def rL_law_1008 := W_aload0 (M := mL_law) dL_law_1008 (q := 1009) rfl
def rL_law_1008b := W_aloadR0 (M := mL_law) dL_law_1008 (q := 1009) rfl
def rL_law_1009 := W_iload4 (M := mL_law) dL_law_1009 (q := 1011) rfl
def rL_law_1011 := W_iconst (M := mL_law) dL_law_1011 (q := 1012) rfl (v := (3)) rfl
def rL_law_1012 := W_iadd (M := mL_law) dL_law_1012 (q := 1013) rfl
def rL_law_1013 := W_ialdS (M := mL_law) dL_law_1013 (q := 1014) rfl rfl
def rL_law_1014 := W_if_eq (M := mL_law) dL_law_1014 (q := 1017) rfl (t := 1021) rfl
def rL_law_1017 := W_iconst (M := mL_law) dL_law_1017 (q := 1018) rfl (v := (1)) rfl
def rL_law_1018 := W_goto (M := mL_law) dL_law_1018 (t := 1022) rfl
def rL_law_1021 := W_iconst (M := mL_law) dL_law_1021 (q := 1022) rfl (v := (0)) rfl
def rL_law_1022 := W_invV3 (M := mL_law) dL_law_1022 (q := 1025) rfl ml0_20_142 rfl
def rL_law_1025 := W_icmp_eq (M := mL_law) dL_law_1025 (q := 1028) rfl (t := 1549) rfl
def rL_law_1028 := W_iconst (M := mL_law) dL_law_1028 (q := 1029) rfl (v := (0)) rfl
def rL_law_1029 := W_zret (M := mL_law) dL_law_1029 rfl
def rL_law_1030 := W_aload1 (M := mL_law) dL_law_1030 (q := 1031) rfl
def rL_law_1030b := W_aloadR1 (M := mL_law) dL_law_1030 (q := 1031) rfl
def rL_law_1031 := W_invV0 (M := mL_law) dL_law_1031 (q := 1034) rfl ml0_20_143 rfl
def rL_law_1034 := W_aload2 (M := mL_law) dL_law_1034 (q := 1035) rfl
def rL_law_1034b := W_aloadR2 (M := mL_law) dL_law_1034 (q := 1035) rfl
def rL_law_1035 := W_invV0 (M := mL_law) dL_law_1035 (q := 1038) rfl ml0_20_146 rfl
def rL_law_1038 := W_icmp_eq (M := mL_law) dL_law_1038 (q := 1041) rfl (t := 1549) rfl
def rL_law_1041 := W_iconst (M := mL_law) dL_law_1041 (q := 1042) rfl (v := (0)) rfl
def rL_law_1042 := W_zret (M := mL_law) dL_law_1042 rfl
def rL_law_1043 := W_aload1 (M := mL_law) dL_law_1043 (q := 1044) rfl
def rL_law_1043b := W_aloadR1 (M := mL_law) dL_law_1043 (q := 1044) rfl
def rL_law_1044 := W_invV0 (M := mL_law) dL_law_1044 (q := 1047) rfl ml0_20_147 rfl
def rL_law_1047 := W_aload2 (M := mL_law) dL_law_1047 (q := 1048) rfl
def rL_law_1047b := W_aloadR2 (M := mL_law) dL_law_1047 (q := 1048) rfl
def rL_law_1048 := W_invV0 (M := mL_law) dL_law_1048 (q := 1051) rfl ml0_20_150 rfl
def rL_law_1051 := W_icmp_eq (M := mL_law) dL_law_1051 (q := 1054) rfl (t := 1549) rfl
def rL_law_1054 := W_iconst (M := mL_law) dL_law_1054 (q := 1055) rfl (v := (0)) rfl
def rL_law_1055 := W_zret (M := mL_law) dL_law_1055 rfl
def rL_law_1056 := W_aload1 (M := mL_law) dL_law_1056 (q := 1057) rfl
def rL_law_1056b := W_aloadR1 (M := mL_law) dL_law_1056 (q := 1057) rfl
def rL_law_1057 := W_aload0 (M := mL_law) dL_law_1057 (q := 1058) rfl
def rL_law_1057b := W_aloadR0 (M := mL_law) dL_law_1057 (q := 1058) rfl
def rL_law_1058 := W_iload4 (M := mL_law) dL_law_1058 (q := 1060) rfl
def rL_law_1060 := W_iconst (M := mL_law) dL_law_1060 (q := 1061) rfl (v := (1)) rfl
def rL_law_1061 := W_iadd (M := mL_law) dL_law_1061 (q := 1062) rfl
def rL_law_1062 := W_ialdS (M := mL_law) dL_law_1062 (q := 1063) rfl rfl
def rL_law_1063 := W_aload0 (M := mL_law) dL_law_1063 (q := 1064) rfl
def rL_law_1063b := W_aloadR0 (M := mL_law) dL_law_1063 (q := 1064) rfl
def rL_law_1064 := W_iload4 (M := mL_law) dL_law_1064 (q := 1066) rfl
def rL_law_1066 := W_iconst (M := mL_law) dL_law_1066 (q := 1067) rfl (v := (2)) rfl
def rL_law_1067 := W_iadd (M := mL_law) dL_law_1067 (q := 1068) rfl
def rL_law_1068 := W_ialdS (M := mL_law) dL_law_1068 (q := 1069) rfl rfl
def rL_law_1069 := W_aload0 (M := mL_law) dL_law_1069 (q := 1070) rfl
def rL_law_1069b := W_aloadR0 (M := mL_law) dL_law_1069 (q := 1070) rfl
def rL_law_1070 := W_iload4 (M := mL_law) dL_law_1070 (q := 1072) rfl
def rL_law_1072 := W_iconst (M := mL_law) dL_law_1072 (q := 1073) rfl (v := (3)) rfl
def rL_law_1073 := W_iadd (M := mL_law) dL_law_1073 (q := 1074) rfl
def rL_law_1074 := W_ialdS (M := mL_law) dL_law_1074 (q := 1075) rfl rfl
def rL_law_1075 := W_if_eq (M := mL_law) dL_law_1075 (q := 1078) rfl (t := 1082) rfl
def rL_law_1078 := W_iconst (M := mL_law) dL_law_1078 (q := 1079) rfl (v := (1)) rfl
def rL_law_1079 := W_goto (M := mL_law) dL_law_1079 (t := 1083) rfl
def rL_law_1082 := W_iconst (M := mL_law) dL_law_1082 (q := 1083) rfl (v := (0)) rfl
def rL_law_1083 := W_invV3 (M := mL_law) dL_law_1083 (q := 1086) rfl ml0_20_151 rfl
def rL_law_1086 := W_aload2 (M := mL_law) dL_law_1086 (q := 1087) rfl
def rL_law_1086b := W_aloadR2 (M := mL_law) dL_law_1086 (q := 1087) rfl
def rL_law_1087 := W_aload0 (M := mL_law) dL_law_1087 (q := 1088) rfl
def rL_law_1087b := W_aloadR0 (M := mL_law) dL_law_1087 (q := 1088) rfl
def rL_law_1088 := W_iload4 (M := mL_law) dL_law_1088 (q := 1090) rfl
def rL_law_1090 := W_iconst (M := mL_law) dL_law_1090 (q := 1091) rfl (v := (1)) rfl
def rL_law_1091 := W_iadd (M := mL_law) dL_law_1091 (q := 1092) rfl
def rL_law_1092 := W_ialdS (M := mL_law) dL_law_1092 (q := 1093) rfl rfl
def rL_law_1093 := W_aload0 (M := mL_law) dL_law_1093 (q := 1094) rfl
def rL_law_1093b := W_aloadR0 (M := mL_law) dL_law_1093 (q := 1094) rfl
def rL_law_1094 := W_iload4 (M := mL_law) dL_law_1094 (q := 1096) rfl
def rL_law_1096 := W_iconst (M := mL_law) dL_law_1096 (q := 1097) rfl (v := (2)) rfl
def rL_law_1097 := W_iadd (M := mL_law) dL_law_1097 (q := 1098) rfl
def rL_law_1098 := W_ialdS (M := mL_law) dL_law_1098 (q := 1099) rfl rfl
def rL_law_1099 := W_aload0 (M := mL_law) dL_law_1099 (q := 1100) rfl
def rL_law_1099b := W_aloadR0 (M := mL_law) dL_law_1099 (q := 1100) rfl
def rL_law_1100 := W_iload4 (M := mL_law) dL_law_1100 (q := 1102) rfl
def rL_law_1102 := W_iconst (M := mL_law) dL_law_1102 (q := 1103) rfl (v := (3)) rfl
def rL_law_1103 := W_iadd (M := mL_law) dL_law_1103 (q := 1104) rfl
def rL_law_1104 := W_ialdS (M := mL_law) dL_law_1104 (q := 1105) rfl rfl
def rL_law_1105 := W_if_eq (M := mL_law) dL_law_1105 (q := 1108) rfl (t := 1112) rfl
def rL_law_1108 := W_iconst (M := mL_law) dL_law_1108 (q := 1109) rfl (v := (1)) rfl
def rL_law_1109 := W_goto (M := mL_law) dL_law_1109 (t := 1113) rfl
def rL_law_1112 := W_iconst (M := mL_law) dL_law_1112 (q := 1113) rfl (v := (0)) rfl
def rL_law_1113 := W_invV3 (M := mL_law) dL_law_1113 (q := 1116) rfl ml0_20_155 rfl
def rL_law_1116 := W_lcmp (M := mL_law) dL_law_1116 (q := 1117) rfl
def rL_law_1117 := W_if_eq (M := mL_law) dL_law_1117 (q := 1120) rfl (t := 1549) rfl
def rL_law_1120 := W_iconst (M := mL_law) dL_law_1120 (q := 1121) rfl (v := (0)) rfl
def rL_law_1121 := W_zret (M := mL_law) dL_law_1121 rfl
def rL_law_1122 := W_aload1 (M := mL_law) dL_law_1122 (q := 1123) rfl
def rL_law_1122b := W_aloadR1 (M := mL_law) dL_law_1122 (q := 1123) rfl
def rL_law_1123 := W_aload0 (M := mL_law) dL_law_1123 (q := 1124) rfl
def rL_law_1123b := W_aloadR0 (M := mL_law) dL_law_1123 (q := 1124) rfl
def rL_law_1124 := W_iload4 (M := mL_law) dL_law_1124 (q := 1126) rfl
def rL_law_1126 := W_iconst (M := mL_law) dL_law_1126 (q := 1127) rfl (v := (1)) rfl
def rL_law_1127 := W_iadd (M := mL_law) dL_law_1127 (q := 1128) rfl
def rL_law_1128 := W_ialdS (M := mL_law) dL_law_1128 (q := 1129) rfl rfl
def rL_law_1129 := W_aload0 (M := mL_law) dL_law_1129 (q := 1130) rfl
def rL_law_1129b := W_aloadR0 (M := mL_law) dL_law_1129 (q := 1130) rfl
def rL_law_1130 := W_iload4 (M := mL_law) dL_law_1130 (q := 1132) rfl
def rL_law_1132 := W_iconst (M := mL_law) dL_law_1132 (q := 1133) rfl (v := (2)) rfl
def rL_law_1133 := W_iadd (M := mL_law) dL_law_1133 (q := 1134) rfl
def rL_law_1134 := W_ialdS (M := mL_law) dL_law_1134 (q := 1135) rfl rfl
def rL_law_1135 := W_if_eq (M := mL_law) dL_law_1135 (q := 1138) rfl (t := 1142) rfl
def rL_law_1138 := W_iconst (M := mL_law) dL_law_1138 (q := 1139) rfl (v := (1)) rfl
def rL_law_1139 := W_goto (M := mL_law) dL_law_1139 (t := 1143) rfl
def rL_law_1142 := W_iconst (M := mL_law) dL_law_1142 (q := 1143) rfl (v := (0)) rfl
def rL_law_1143 := W_invV2 (M := mL_law) dL_law_1143 (q := 1146) rfl ml0_20_156 rfl
def rL_law_1146 := W_aload2 (M := mL_law) dL_law_1146 (q := 1147) rfl
def rL_law_1146b := W_aloadR2 (M := mL_law) dL_law_1146 (q := 1147) rfl
def rL_law_1147 := W_aload0 (M := mL_law) dL_law_1147 (q := 1148) rfl
def rL_law_1147b := W_aloadR0 (M := mL_law) dL_law_1147 (q := 1148) rfl
def rL_law_1148 := W_iload4 (M := mL_law) dL_law_1148 (q := 1150) rfl
def rL_law_1150 := W_iconst (M := mL_law) dL_law_1150 (q := 1151) rfl (v := (1)) rfl
def rL_law_1151 := W_iadd (M := mL_law) dL_law_1151 (q := 1152) rfl
def rL_law_1152 := W_ialdS (M := mL_law) dL_law_1152 (q := 1153) rfl rfl
def rL_law_1153 := W_aload0 (M := mL_law) dL_law_1153 (q := 1154) rfl
def rL_law_1153b := W_aloadR0 (M := mL_law) dL_law_1153 (q := 1154) rfl
def rL_law_1154 := W_iload4 (M := mL_law) dL_law_1154 (q := 1156) rfl
def rL_law_1156 := W_iconst (M := mL_law) dL_law_1156 (q := 1157) rfl (v := (2)) rfl
def rL_law_1157 := W_iadd (M := mL_law) dL_law_1157 (q := 1158) rfl
def rL_law_1158 := W_ialdS (M := mL_law) dL_law_1158 (q := 1159) rfl rfl
def rL_law_1159 := W_if_eq (M := mL_law) dL_law_1159 (q := 1162) rfl (t := 1166) rfl
def rL_law_1162 := W_iconst (M := mL_law) dL_law_1162 (q := 1163) rfl (v := (1)) rfl
def rL_law_1163 := W_goto (M := mL_law) dL_law_1163 (t := 1167) rfl
def rL_law_1166 := W_iconst (M := mL_law) dL_law_1166 (q := 1167) rfl (v := (0)) rfl
def rL_law_1167 := W_invV2 (M := mL_law) dL_law_1167 (q := 1170) rfl ml0_20_160 rfl
def rL_law_1170 := W_lcmp (M := mL_law) dL_law_1170 (q := 1171) rfl
def rL_law_1171 := W_if_eq (M := mL_law) dL_law_1171 (q := 1174) rfl (t := 1549) rfl
def rL_law_1174 := W_iconst (M := mL_law) dL_law_1174 (q := 1175) rfl (v := (0)) rfl
def rL_law_1175 := W_zret (M := mL_law) dL_law_1175 rfl
def rL_law_1176 := W_aload1 (M := mL_law) dL_law_1176 (q := 1177) rfl
def rL_law_1176b := W_aloadR1 (M := mL_law) dL_law_1176 (q := 1177) rfl
def rL_law_1177 := W_aload0 (M := mL_law) dL_law_1177 (q := 1178) rfl
def rL_law_1177b := W_aloadR0 (M := mL_law) dL_law_1177 (q := 1178) rfl
def rL_law_1178 := W_iload4 (M := mL_law) dL_law_1178 (q := 1180) rfl
def rL_law_1180 := W_iconst (M := mL_law) dL_law_1180 (q := 1181) rfl (v := (1)) rfl
def rL_law_1181 := W_iadd (M := mL_law) dL_law_1181 (q := 1182) rfl
def rL_law_1182 := W_ialdS (M := mL_law) dL_law_1182 (q := 1183) rfl rfl
def rL_law_1183 := W_aload0 (M := mL_law) dL_law_1183 (q := 1184) rfl
def rL_law_1183b := W_aloadR0 (M := mL_law) dL_law_1183 (q := 1184) rfl
def rL_law_1184 := W_iload4 (M := mL_law) dL_law_1184 (q := 1186) rfl
def rL_law_1186 := W_iconst (M := mL_law) dL_law_1186 (q := 1187) rfl (v := (2)) rfl
def rL_law_1187 := W_iadd (M := mL_law) dL_law_1187 (q := 1188) rfl
def rL_law_1188 := W_ialdS (M := mL_law) dL_law_1188 (q := 1189) rfl rfl
def rL_law_1189 := W_if_eq (M := mL_law) dL_law_1189 (q := 1192) rfl (t := 1196) rfl
def rL_law_1192 := W_iconst (M := mL_law) dL_law_1192 (q := 1193) rfl (v := (1)) rfl
def rL_law_1193 := W_goto (M := mL_law) dL_law_1193 (t := 1197) rfl
def rL_law_1196 := W_iconst (M := mL_law) dL_law_1196 (q := 1197) rfl (v := (0)) rfl
def rL_law_1197 := W_invV2 (M := mL_law) dL_law_1197 (q := 1200) rfl ml0_20_161 rfl
def rL_law_1200 := W_aload2 (M := mL_law) dL_law_1200 (q := 1201) rfl
def rL_law_1200b := W_aloadR2 (M := mL_law) dL_law_1200 (q := 1201) rfl
def rL_law_1201 := W_aload0 (M := mL_law) dL_law_1201 (q := 1202) rfl
def rL_law_1201b := W_aloadR0 (M := mL_law) dL_law_1201 (q := 1202) rfl
def rL_law_1202 := W_iload4 (M := mL_law) dL_law_1202 (q := 1204) rfl
def rL_law_1204 := W_iconst (M := mL_law) dL_law_1204 (q := 1205) rfl (v := (1)) rfl
def rL_law_1205 := W_iadd (M := mL_law) dL_law_1205 (q := 1206) rfl
def rL_law_1206 := W_ialdS (M := mL_law) dL_law_1206 (q := 1207) rfl rfl
def rL_law_1207 := W_aload0 (M := mL_law) dL_law_1207 (q := 1208) rfl
def rL_law_1207b := W_aloadR0 (M := mL_law) dL_law_1207 (q := 1208) rfl
def rL_law_1208 := W_iload4 (M := mL_law) dL_law_1208 (q := 1210) rfl
def rL_law_1210 := W_iconst (M := mL_law) dL_law_1210 (q := 1211) rfl (v := (2)) rfl
def rL_law_1211 := W_iadd (M := mL_law) dL_law_1211 (q := 1212) rfl
def rL_law_1212 := W_ialdS (M := mL_law) dL_law_1212 (q := 1213) rfl rfl
def rL_law_1213 := W_if_eq (M := mL_law) dL_law_1213 (q := 1216) rfl (t := 1220) rfl
def rL_law_1216 := W_iconst (M := mL_law) dL_law_1216 (q := 1217) rfl (v := (1)) rfl
def rL_law_1217 := W_goto (M := mL_law) dL_law_1217 (t := 1221) rfl
def rL_law_1220 := W_iconst (M := mL_law) dL_law_1220 (q := 1221) rfl (v := (0)) rfl
def rL_law_1221 := W_invV2 (M := mL_law) dL_law_1221 (q := 1224) rfl ml0_20_164 rfl
def rL_law_1224 := W_lcmp (M := mL_law) dL_law_1224 (q := 1225) rfl
def rL_law_1225 := W_if_eq (M := mL_law) dL_law_1225 (q := 1228) rfl (t := 1549) rfl
def rL_law_1228 := W_iconst (M := mL_law) dL_law_1228 (q := 1229) rfl (v := (0)) rfl
def rL_law_1229 := W_zret (M := mL_law) dL_law_1229 rfl
def rL_law_1230 := W_aload1 (M := mL_law) dL_law_1230 (q := 1231) rfl
def rL_law_1230b := W_aloadR1 (M := mL_law) dL_law_1230 (q := 1231) rfl
def rL_law_1231 := W_aload0 (M := mL_law) dL_law_1231 (q := 1232) rfl
def rL_law_1231b := W_aloadR0 (M := mL_law) dL_law_1231 (q := 1232) rfl
def rL_law_1232 := W_iload4 (M := mL_law) dL_law_1232 (q := 1234) rfl
def rL_law_1234 := W_iconst (M := mL_law) dL_law_1234 (q := 1235) rfl (v := (1)) rfl
def rL_law_1235 := W_iadd (M := mL_law) dL_law_1235 (q := 1236) rfl
def rL_law_1236 := W_ialdS (M := mL_law) dL_law_1236 (q := 1237) rfl rfl
def rL_law_1237 := W_aload0 (M := mL_law) dL_law_1237 (q := 1238) rfl
def rL_law_1237b := W_aloadR0 (M := mL_law) dL_law_1237 (q := 1238) rfl
def rL_law_1238 := W_iload4 (M := mL_law) dL_law_1238 (q := 1240) rfl
def rL_law_1240 := W_iconst (M := mL_law) dL_law_1240 (q := 1241) rfl (v := (2)) rfl
def rL_law_1241 := W_iadd (M := mL_law) dL_law_1241 (q := 1242) rfl
def rL_law_1242 := W_ialdS (M := mL_law) dL_law_1242 (q := 1243) rfl rfl
def rL_law_1243 := W_aload0 (M := mL_law) dL_law_1243 (q := 1244) rfl
def rL_law_1243b := W_aloadR0 (M := mL_law) dL_law_1243 (q := 1244) rfl
def rL_law_1244 := W_iload4 (M := mL_law) dL_law_1244 (q := 1246) rfl
def rL_law_1246 := W_iconst (M := mL_law) dL_law_1246 (q := 1247) rfl (v := (3)) rfl
def rL_law_1247 := W_iadd (M := mL_law) dL_law_1247 (q := 1248) rfl
def rL_law_1248 := W_ialdS (M := mL_law) dL_law_1248 (q := 1249) rfl rfl
def rL_law_1249 := W_invV3 (M := mL_law) dL_law_1249 (q := 1252) rfl ml0_20_165 rfl
def rL_law_1252 := W_aload2 (M := mL_law) dL_law_1252 (q := 1253) rfl
def rL_law_1252b := W_aloadR2 (M := mL_law) dL_law_1252 (q := 1253) rfl
def rL_law_1253 := W_aload0 (M := mL_law) dL_law_1253 (q := 1254) rfl
def rL_law_1253b := W_aloadR0 (M := mL_law) dL_law_1253 (q := 1254) rfl
def rL_law_1254 := W_iload4 (M := mL_law) dL_law_1254 (q := 1256) rfl
def rL_law_1256 := W_iconst (M := mL_law) dL_law_1256 (q := 1257) rfl (v := (1)) rfl
def rL_law_1257 := W_iadd (M := mL_law) dL_law_1257 (q := 1258) rfl
def rL_law_1258 := W_ialdS (M := mL_law) dL_law_1258 (q := 1259) rfl rfl
def rL_law_1259 := W_aload0 (M := mL_law) dL_law_1259 (q := 1260) rfl
def rL_law_1259b := W_aloadR0 (M := mL_law) dL_law_1259 (q := 1260) rfl
def rL_law_1260 := W_iload4 (M := mL_law) dL_law_1260 (q := 1262) rfl
def rL_law_1262 := W_iconst (M := mL_law) dL_law_1262 (q := 1263) rfl (v := (2)) rfl
def rL_law_1263 := W_iadd (M := mL_law) dL_law_1263 (q := 1264) rfl
def rL_law_1264 := W_ialdS (M := mL_law) dL_law_1264 (q := 1265) rfl rfl
def rL_law_1265 := W_aload0 (M := mL_law) dL_law_1265 (q := 1266) rfl
def rL_law_1265b := W_aloadR0 (M := mL_law) dL_law_1265 (q := 1266) rfl
def rL_law_1266 := W_iload4 (M := mL_law) dL_law_1266 (q := 1268) rfl
def rL_law_1268 := W_iconst (M := mL_law) dL_law_1268 (q := 1269) rfl (v := (3)) rfl
def rL_law_1269 := W_iadd (M := mL_law) dL_law_1269 (q := 1270) rfl
def rL_law_1270 := W_ialdS (M := mL_law) dL_law_1270 (q := 1271) rfl rfl
def rL_law_1271 := W_invV3 (M := mL_law) dL_law_1271 (q := 1274) rfl ml0_20_169 rfl
def rL_law_1274 := W_icmp_eq (M := mL_law) dL_law_1274 (q := 1277) rfl (t := 1549) rfl
def rL_law_1277 := W_iconst (M := mL_law) dL_law_1277 (q := 1278) rfl (v := (0)) rfl
def rL_law_1278 := W_zret (M := mL_law) dL_law_1278 rfl
def rL_law_1279 := W_aload1 (M := mL_law) dL_law_1279 (q := 1280) rfl
def rL_law_1279b := W_aloadR1 (M := mL_law) dL_law_1279 (q := 1280) rfl
def rL_law_1280 := W_aload0 (M := mL_law) dL_law_1280 (q := 1281) rfl
def rL_law_1280b := W_aloadR0 (M := mL_law) dL_law_1280 (q := 1281) rfl
def rL_law_1281 := W_iload4 (M := mL_law) dL_law_1281 (q := 1283) rfl
def rL_law_1283 := W_iconst (M := mL_law) dL_law_1283 (q := 1284) rfl (v := (1)) rfl
def rL_law_1284 := W_iadd (M := mL_law) dL_law_1284 (q := 1285) rfl
def rL_law_1285 := W_ialdS (M := mL_law) dL_law_1285 (q := 1286) rfl rfl
def rL_law_1286 := W_aload0 (M := mL_law) dL_law_1286 (q := 1287) rfl
def rL_law_1286b := W_aloadR0 (M := mL_law) dL_law_1286 (q := 1287) rfl
def rL_law_1287 := W_iload4 (M := mL_law) dL_law_1287 (q := 1289) rfl
def rL_law_1289 := W_iconst (M := mL_law) dL_law_1289 (q := 1290) rfl (v := (2)) rfl
def rL_law_1290 := W_iadd (M := mL_law) dL_law_1290 (q := 1291) rfl
def rL_law_1291 := W_ialdS (M := mL_law) dL_law_1291 (q := 1292) rfl rfl
def rL_law_1292 := W_invV2 (M := mL_law) dL_law_1292 (q := 1295) rfl ml0_20_170 rfl
def rL_law_1295 := W_aload2 (M := mL_law) dL_law_1295 (q := 1296) rfl
def rL_law_1295b := W_aloadR2 (M := mL_law) dL_law_1295 (q := 1296) rfl
def rL_law_1296 := W_aload0 (M := mL_law) dL_law_1296 (q := 1297) rfl
def rL_law_1296b := W_aloadR0 (M := mL_law) dL_law_1296 (q := 1297) rfl
def rL_law_1297 := W_iload4 (M := mL_law) dL_law_1297 (q := 1299) rfl
def rL_law_1299 := W_iconst (M := mL_law) dL_law_1299 (q := 1300) rfl (v := (1)) rfl
def rL_law_1300 := W_iadd (M := mL_law) dL_law_1300 (q := 1301) rfl
def rL_law_1301 := W_ialdS (M := mL_law) dL_law_1301 (q := 1302) rfl rfl
def rL_law_1302 := W_aload0 (M := mL_law) dL_law_1302 (q := 1303) rfl
def rL_law_1302b := W_aloadR0 (M := mL_law) dL_law_1302 (q := 1303) rfl
def rL_law_1303 := W_iload4 (M := mL_law) dL_law_1303 (q := 1305) rfl
def rL_law_1305 := W_iconst (M := mL_law) dL_law_1305 (q := 1306) rfl (v := (2)) rfl
def rL_law_1306 := W_iadd (M := mL_law) dL_law_1306 (q := 1307) rfl
def rL_law_1307 := W_ialdS (M := mL_law) dL_law_1307 (q := 1308) rfl rfl
def rL_law_1308 := W_invV2 (M := mL_law) dL_law_1308 (q := 1311) rfl ml0_20_173 rfl
def rL_law_1311 := W_icmp_eq (M := mL_law) dL_law_1311 (q := 1314) rfl (t := 1549) rfl
def rL_law_1314 := W_iconst (M := mL_law) dL_law_1314 (q := 1315) rfl (v := (0)) rfl
def rL_law_1315 := W_zret (M := mL_law) dL_law_1315 rfl
def rL_law_1316 := W_aload1 (M := mL_law) dL_law_1316 (q := 1317) rfl
def rL_law_1316b := W_aloadR1 (M := mL_law) dL_law_1316 (q := 1317) rfl
def rL_law_1317 := W_aload0 (M := mL_law) dL_law_1317 (q := 1318) rfl
def rL_law_1317b := W_aloadR0 (M := mL_law) dL_law_1317 (q := 1318) rfl
def rL_law_1318 := W_iload4 (M := mL_law) dL_law_1318 (q := 1320) rfl
def rL_law_1320 := W_iconst (M := mL_law) dL_law_1320 (q := 1321) rfl (v := (1)) rfl
def rL_law_1321 := W_iadd (M := mL_law) dL_law_1321 (q := 1322) rfl
def rL_law_1322 := W_ialdS (M := mL_law) dL_law_1322 (q := 1323) rfl rfl
def rL_law_1323 := W_invV1 (M := mL_law) dL_law_1323 (q := 1326) rfl ml0_20_174 rfl
def rL_law_1326 := W_aload2 (M := mL_law) dL_law_1326 (q := 1327) rfl
def rL_law_1326b := W_aloadR2 (M := mL_law) dL_law_1326 (q := 1327) rfl
def rL_law_1327 := W_aload0 (M := mL_law) dL_law_1327 (q := 1328) rfl
def rL_law_1327b := W_aloadR0 (M := mL_law) dL_law_1327 (q := 1328) rfl
def rL_law_1328 := W_iload4 (M := mL_law) dL_law_1328 (q := 1330) rfl
def rL_law_1330 := W_iconst (M := mL_law) dL_law_1330 (q := 1331) rfl (v := (1)) rfl
def rL_law_1331 := W_iadd (M := mL_law) dL_law_1331 (q := 1332) rfl
def rL_law_1332 := W_ialdS (M := mL_law) dL_law_1332 (q := 1333) rfl rfl
def rL_law_1333 := W_invV1 (M := mL_law) dL_law_1333 (q := 1336) rfl ml0_20_177 rfl
def rL_law_1336 := W_icmp_eq (M := mL_law) dL_law_1336 (q := 1339) rfl (t := 1549) rfl
def rL_law_1339 := W_iconst (M := mL_law) dL_law_1339 (q := 1340) rfl (v := (0)) rfl
def rL_law_1340 := W_zret (M := mL_law) dL_law_1340 rfl
def rL_law_1341 := W_aload1 (M := mL_law) dL_law_1341 (q := 1342) rfl
def rL_law_1341b := W_aloadR1 (M := mL_law) dL_law_1341 (q := 1342) rfl
def rL_law_1342 := W_aload0 (M := mL_law) dL_law_1342 (q := 1343) rfl
def rL_law_1342b := W_aloadR0 (M := mL_law) dL_law_1342 (q := 1343) rfl
def rL_law_1343 := W_iload4 (M := mL_law) dL_law_1343 (q := 1345) rfl
def rL_law_1345 := W_iconst (M := mL_law) dL_law_1345 (q := 1346) rfl (v := (1)) rfl
def rL_law_1346 := W_iadd (M := mL_law) dL_law_1346 (q := 1347) rfl
def rL_law_1347 := W_ialdS (M := mL_law) dL_law_1347 (q := 1348) rfl rfl
def rL_law_1348 := W_invV1 (M := mL_law) dL_law_1348 (q := 1351) rfl ml0_20_178 rfl
def rL_law_1351 := W_aload2 (M := mL_law) dL_law_1351 (q := 1352) rfl
def rL_law_1351b := W_aloadR2 (M := mL_law) dL_law_1351 (q := 1352) rfl
def rL_law_1352 := W_aload0 (M := mL_law) dL_law_1352 (q := 1353) rfl
def rL_law_1352b := W_aloadR0 (M := mL_law) dL_law_1352 (q := 1353) rfl
def rL_law_1353 := W_iload4 (M := mL_law) dL_law_1353 (q := 1355) rfl
def rL_law_1355 := W_iconst (M := mL_law) dL_law_1355 (q := 1356) rfl (v := (1)) rfl
def rL_law_1356 := W_iadd (M := mL_law) dL_law_1356 (q := 1357) rfl
def rL_law_1357 := W_ialdS (M := mL_law) dL_law_1357 (q := 1358) rfl rfl
def rL_law_1358 := W_invV1 (M := mL_law) dL_law_1358 (q := 1361) rfl ml0_20_182 rfl
def rL_law_1361 := W_icmp_eq (M := mL_law) dL_law_1361 (q := 1364) rfl (t := 1549) rfl
def rL_law_1364 := W_iconst (M := mL_law) dL_law_1364 (q := 1365) rfl (v := (0)) rfl
def rL_law_1365 := W_zret (M := mL_law) dL_law_1365 rfl
def rL_law_1366 := W_aload1 (M := mL_law) dL_law_1366 (q := 1367) rfl
def rL_law_1366b := W_aloadR1 (M := mL_law) dL_law_1366 (q := 1367) rfl
def rL_law_1367 := W_aload0 (M := mL_law) dL_law_1367 (q := 1368) rfl
def rL_law_1367b := W_aloadR0 (M := mL_law) dL_law_1367 (q := 1368) rfl
def rL_law_1368 := W_iload4 (M := mL_law) dL_law_1368 (q := 1370) rfl
def rL_law_1370 := W_iconst (M := mL_law) dL_law_1370 (q := 1371) rfl (v := (1)) rfl
def rL_law_1371 := W_iadd (M := mL_law) dL_law_1371 (q := 1372) rfl
def rL_law_1372 := W_ialdS (M := mL_law) dL_law_1372 (q := 1373) rfl rfl
def rL_law_1373 := W_invV1 (M := mL_law) dL_law_1373 (q := 1376) rfl ml0_20_183 rfl
def rL_law_1376 := W_aload2 (M := mL_law) dL_law_1376 (q := 1377) rfl
def rL_law_1376b := W_aloadR2 (M := mL_law) dL_law_1376 (q := 1377) rfl
def rL_law_1377 := W_aload0 (M := mL_law) dL_law_1377 (q := 1378) rfl
def rL_law_1377b := W_aloadR0 (M := mL_law) dL_law_1377 (q := 1378) rfl
def rL_law_1378 := W_iload4 (M := mL_law) dL_law_1378 (q := 1380) rfl
def rL_law_1380 := W_iconst (M := mL_law) dL_law_1380 (q := 1381) rfl (v := (1)) rfl
def rL_law_1381 := W_iadd (M := mL_law) dL_law_1381 (q := 1382) rfl
def rL_law_1382 := W_ialdS (M := mL_law) dL_law_1382 (q := 1383) rfl rfl
def rL_law_1383 := W_invV1 (M := mL_law) dL_law_1383 (q := 1386) rfl ml0_20_186 rfl
def rL_law_1386 := W_icmp_eq (M := mL_law) dL_law_1386 (q := 1389) rfl (t := 1549) rfl
def rL_law_1389 := W_iconst (M := mL_law) dL_law_1389 (q := 1390) rfl (v := (0)) rfl
def rL_law_1390 := W_zret (M := mL_law) dL_law_1390 rfl
def rL_law_1391 := W_aload1 (M := mL_law) dL_law_1391 (q := 1392) rfl
def rL_law_1391b := W_aloadR1 (M := mL_law) dL_law_1391 (q := 1392) rfl
def rL_law_1392 := W_invV0 (M := mL_law) dL_law_1392 (q := 1395) rfl ml0_20_187 rfl
def rL_law_1395 := W_aload2 (M := mL_law) dL_law_1395 (q := 1396) rfl
def rL_law_1395b := W_aloadR2 (M := mL_law) dL_law_1395 (q := 1396) rfl
def rL_law_1396 := W_invV0 (M := mL_law) dL_law_1396 (q := 1399) rfl ml0_20_190 rfl
def rL_law_1399 := W_icmp_eq (M := mL_law) dL_law_1399 (q := 1402) rfl (t := 1549) rfl
def rL_law_1402 := W_iconst (M := mL_law) dL_law_1402 (q := 1403) rfl (v := (0)) rfl
def rL_law_1403 := W_zret (M := mL_law) dL_law_1403 rfl
def rL_law_1404 := W_aload1 (M := mL_law) dL_law_1404 (q := 1405) rfl
def rL_law_1404b := W_aloadR1 (M := mL_law) dL_law_1404 (q := 1405) rfl
def rL_law_1405 := W_invV0 (M := mL_law) dL_law_1405 (q := 1408) rfl ml0_20_191 rfl
def rL_law_1408 := W_aload2 (M := mL_law) dL_law_1408 (q := 1409) rfl
def rL_law_1408b := W_aloadR2 (M := mL_law) dL_law_1408 (q := 1409) rfl
def rL_law_1409 := W_invV0 (M := mL_law) dL_law_1409 (q := 1412) rfl ml0_20_195 rfl
def rL_law_1412 := W_icmp_eq (M := mL_law) dL_law_1412 (q := 1415) rfl (t := 1549) rfl
def rL_law_1415 := W_iconst (M := mL_law) dL_law_1415 (q := 1416) rfl (v := (0)) rfl
def rL_law_1416 := W_zret (M := mL_law) dL_law_1416 rfl
def rL_law_1417 := W_aload1 (M := mL_law) dL_law_1417 (q := 1418) rfl
def rL_law_1417b := W_aloadR1 (M := mL_law) dL_law_1417 (q := 1418) rfl
def rL_law_1418 := W_invV0 (M := mL_law) dL_law_1418 (q := 1421) rfl ml0_20_196 rfl
def rL_law_1421 := W_aload2 (M := mL_law) dL_law_1421 (q := 1422) rfl
def rL_law_1421b := W_aloadR2 (M := mL_law) dL_law_1421 (q := 1422) rfl
def rL_law_1422 := W_invV0 (M := mL_law) dL_law_1422 (q := 1425) rfl ml0_20_199 rfl
def rL_law_1425 := W_icmp_eq (M := mL_law) dL_law_1425 (q := 1428) rfl (t := 1549) rfl
def rL_law_1428 := W_iconst (M := mL_law) dL_law_1428 (q := 1429) rfl (v := (0)) rfl
def rL_law_1429 := W_zret (M := mL_law) dL_law_1429 rfl
def rL_law_1430 := W_aload1 (M := mL_law) dL_law_1430 (q := 1431) rfl
def rL_law_1430b := W_aloadR1 (M := mL_law) dL_law_1430 (q := 1431) rfl
def rL_law_1431 := W_aload0 (M := mL_law) dL_law_1431 (q := 1432) rfl
def rL_law_1431b := W_aloadR0 (M := mL_law) dL_law_1431 (q := 1432) rfl
def rL_law_1432 := W_iload4 (M := mL_law) dL_law_1432 (q := 1434) rfl
def rL_law_1434 := W_iconst (M := mL_law) dL_law_1434 (q := 1435) rfl (v := (1)) rfl
def rL_law_1435 := W_iadd (M := mL_law) dL_law_1435 (q := 1436) rfl
def rL_law_1436 := W_ialdS (M := mL_law) dL_law_1436 (q := 1437) rfl rfl
def rL_law_1437 := W_invV1 (M := mL_law) dL_law_1437 (q := 1440) rfl ml0_20_200 rfl
def rL_law_1440 := W_aload2 (M := mL_law) dL_law_1440 (q := 1441) rfl
def rL_law_1440b := W_aloadR2 (M := mL_law) dL_law_1440 (q := 1441) rfl
def rL_law_1441 := W_aload0 (M := mL_law) dL_law_1441 (q := 1442) rfl
def rL_law_1441b := W_aloadR0 (M := mL_law) dL_law_1441 (q := 1442) rfl
def rL_law_1442 := W_iload4 (M := mL_law) dL_law_1442 (q := 1444) rfl
def rL_law_1444 := W_iconst (M := mL_law) dL_law_1444 (q := 1445) rfl (v := (1)) rfl
def rL_law_1445 := W_iadd (M := mL_law) dL_law_1445 (q := 1446) rfl
def rL_law_1446 := W_ialdS (M := mL_law) dL_law_1446 (q := 1447) rfl rfl
def rL_law_1447 := W_invV1 (M := mL_law) dL_law_1447 (q := 1450) rfl ml0_20_203 rfl
def rL_law_1450 := W_icmp_eq (M := mL_law) dL_law_1450 (q := 1453) rfl (t := 1549) rfl
def rL_law_1453 := W_iconst (M := mL_law) dL_law_1453 (q := 1454) rfl (v := (0)) rfl
def rL_law_1454 := W_zret (M := mL_law) dL_law_1454 rfl
def rL_law_1455 := W_aload1 (M := mL_law) dL_law_1455 (q := 1456) rfl
def rL_law_1455b := W_aloadR1 (M := mL_law) dL_law_1455 (q := 1456) rfl
def rL_law_1456 := W_aload0 (M := mL_law) dL_law_1456 (q := 1457) rfl
def rL_law_1456b := W_aloadR0 (M := mL_law) dL_law_1456 (q := 1457) rfl
def rL_law_1457 := W_iload4 (M := mL_law) dL_law_1457 (q := 1459) rfl
def rL_law_1459 := W_iconst (M := mL_law) dL_law_1459 (q := 1460) rfl (v := (1)) rfl
def rL_law_1460 := W_iadd (M := mL_law) dL_law_1460 (q := 1461) rfl
def rL_law_1461 := W_ialdS (M := mL_law) dL_law_1461 (q := 1462) rfl rfl
def rL_law_1462 := W_aload3 (M := mL_law) dL_law_1462 (q := 1463) rfl
def rL_law_1462b := W_aloadR3 (M := mL_law) dL_law_1462 (q := 1463) rfl
def rL_law_1466 := W_istore5 (M := mL_law) dL_law_1466 (q := 1468) rfl
def rL_law_1468 := W_aload2 (M := mL_law) dL_law_1468 (q := 1469) rfl
def rL_law_1468b := W_aloadR2 (M := mL_law) dL_law_1468 (q := 1469) rfl
def rL_law_1469 := W_aload0 (M := mL_law) dL_law_1469 (q := 1470) rfl
def rL_law_1469b := W_aloadR0 (M := mL_law) dL_law_1469 (q := 1470) rfl
def rL_law_1470 := W_iload4 (M := mL_law) dL_law_1470 (q := 1472) rfl
def rL_law_1472 := W_iconst (M := mL_law) dL_law_1472 (q := 1473) rfl (v := (1)) rfl
def rL_law_1473 := W_iadd (M := mL_law) dL_law_1473 (q := 1474) rfl
def rL_law_1474 := W_ialdS (M := mL_law) dL_law_1474 (q := 1475) rfl rfl
def rL_law_1475 := W_invV1 (M := mL_law) dL_law_1475 (q := 1478) rfl ml0_20_209 rfl
def rL_law_1478 := W_istore6 (M := mL_law) dL_law_1478 (q := 1480) rfl
def rL_law_1480 := W_aload2 (M := mL_law) dL_law_1480 (q := 1481) rfl
def rL_law_1480b := W_aloadR2 (M := mL_law) dL_law_1480 (q := 1481) rfl
def rL_law_1481 := W_invV0 (M := mL_law) dL_law_1481 (q := 1484) rfl ml0_20_210 rfl
def rL_law_1484 := W_iload5 (M := mL_law) dL_law_1484 (q := 1486) rfl
def rL_law_1486 := W_icmp_eq (M := mL_law) dL_law_1486 (q := 1489) rfl (t := 1491) rfl
def rL_law_1489 := W_iconst (M := mL_law) dL_law_1489 (q := 1490) rfl (v := (0)) rfl
def rL_law_1490 := W_zret (M := mL_law) dL_law_1490 rfl
def rL_law_1491 := W_iload5 (M := mL_law) dL_law_1491 (q := 1493) rfl
def rL_law_1493 := W_if_ne (M := mL_law) dL_law_1493 (q := 1496) rfl (t := 1508) rfl
def rL_law_1496 := W_aload3 (M := mL_law) dL_law_1496 (q := 1497) rfl
def rL_law_1496b := W_aloadR3 (M := mL_law) dL_law_1496 (q := 1497) rfl
def rL_law_1497 := W_iconst (M := mL_law) dL_law_1497 (q := 1498) rfl (v := (0)) rfl
def rL_law_1498 := W_lald (M := mL_law) dL_law_1498 (q := 1499) rfl
def rL_law_1499 := W_iload6 (M := mL_law) dL_law_1499 (q := 1501) rfl
def rL_law_1501 := W_i2l (M := mL_law) dL_law_1501 (q := 1502) rfl
def rL_law_1502 := W_lcmp (M := mL_law) dL_law_1502 (q := 1503) rfl
def rL_law_1503 := W_if_eq (M := mL_law) dL_law_1503 (q := 1506) rfl (t := 1508) rfl
def rL_law_1506 := W_iconst (M := mL_law) dL_law_1506 (q := 1507) rfl (v := (0)) rfl
def rL_law_1507 := W_zret (M := mL_law) dL_law_1507 rfl
def rL_law_1508 := W_goto (M := mL_law) dL_law_1508 (t := 1549) rfl
def rL_law_1511 := W_aload1 (M := mL_law) dL_law_1511 (q := 1512) rfl
def rL_law_1511b := W_aloadR1 (M := mL_law) dL_law_1511 (q := 1512) rfl
def rL_law_1512 := W_aload0 (M := mL_law) dL_law_1512 (q := 1513) rfl
def rL_law_1512b := W_aloadR0 (M := mL_law) dL_law_1512 (q := 1513) rfl
def rL_law_1513 := W_iload4 (M := mL_law) dL_law_1513 (q := 1515) rfl
def rL_law_1515 := W_iconst (M := mL_law) dL_law_1515 (q := 1516) rfl (v := (1)) rfl
def rL_law_1516 := W_iadd (M := mL_law) dL_law_1516 (q := 1517) rfl
def rL_law_1517 := W_ialdS (M := mL_law) dL_law_1517 (q := 1518) rfl rfl
def rL_law_1518 := W_invV1 (M := mL_law) dL_law_1518 (q := 1521) rfl ml0_20_213 rfl
def rL_law_1521 := W_aload2 (M := mL_law) dL_law_1521 (q := 1522) rfl
def rL_law_1521b := W_aloadR2 (M := mL_law) dL_law_1521 (q := 1522) rfl
def rL_law_1522 := W_aload0 (M := mL_law) dL_law_1522 (q := 1523) rfl
def rL_law_1522b := W_aloadR0 (M := mL_law) dL_law_1522 (q := 1523) rfl
def rL_law_1523 := W_iload4 (M := mL_law) dL_law_1523 (q := 1525) rfl
def rL_law_1525 := W_iconst (M := mL_law) dL_law_1525 (q := 1526) rfl (v := (1)) rfl
def rL_law_1526 := W_iadd (M := mL_law) dL_law_1526 (q := 1527) rfl
def rL_law_1527 := W_ialdS (M := mL_law) dL_law_1527 (q := 1528) rfl rfl
def rL_law_1528 := W_invV1 (M := mL_law) dL_law_1528 (q := 1531) rfl ml0_20_216 rfl
def rL_law_1531 := W_icmp_eq (M := mL_law) dL_law_1531 (q := 1534) rfl (t := 1549) rfl
def rL_law_1534 := W_iconst (M := mL_law) dL_law_1534 (q := 1535) rfl (v := (0)) rfl
def rL_law_1535 := W_zret (M := mL_law) dL_law_1535 rfl
def rL_law_1536 := W_aload1 (M := mL_law) dL_law_1536 (q := 1537) rfl
def rL_law_1536b := W_aloadR1 (M := mL_law) dL_law_1536 (q := 1537) rfl
def rL_law_1537 := W_invV0 (M := mL_law) dL_law_1537 (q := 1540) rfl ml0_20_217 rfl
def rL_law_1540 := W_aload2 (M := mL_law) dL_law_1540 (q := 1541) rfl
def rL_law_1540b := W_aloadR2 (M := mL_law) dL_law_1540 (q := 1541) rfl
def rL_law_1541 := W_invV0 (M := mL_law) dL_law_1541 (q := 1544) rfl ml0_20_220 rfl
def rL_law_1544 := W_icmp_eq (M := mL_law) dL_law_1544 (q := 1547) rfl (t := 1549) rfl
def rL_law_1547 := W_iconst (M := mL_law) dL_law_1547 (q := 1548) rfl (v := (0)) rfl
def rL_law_1548 := W_zret (M := mL_law) dL_law_1548 rfl
def rL_law_1549 := W_iinc4 (M := mL_law) dL_law_1549 (q := 1552) rfl (v := (6)) rfl
def rL_law_1552 := W_goto (M := mL_law) dL_law_1552 (t := 23) rfl
def rL_law_1555 := W_iconst (M := mL_law) dL_law_1555 (q := 1556) rfl (v := (1)) rfl
def rL_law_1556 := W_zret (M := mL_law) dL_law_1556 rfl
