/-! The law's cases. -/
set_option maxRecDepth 100000 in
set_option maxHeartbeats 400000 in
theorem xl_state (P : xw_T) {X : xf_C} {b N j : Nat} {xs : Nat → Int32} {σ τ : xf_T} (hN : N ≤ 3074) (hj : j + 6 ≤ N) (hX : xf_ok X (xw_l P) xnR_LW xnc_LW_law 4 11 400 (xw_W P) (xw_D P) (xw_ty P)) (hB : xl_scr X b N xs) (hR : xr_R (xw_n P) (xw_w P) σ τ) (next : ∀ σ' τ' : xf_T, xr_R (xw_n P) (xw_w P) σ' τ' → xf_V X 550 [some (.ref b), some (.ref (xw_a P 0)), some (.ref (xw_a P 100)), some (.int (nI j))] [] (σ', τ')) : xf_V X 287 [some (.ref b), some (.ref (xw_a P 0)), some (.ref (xw_a P 100)), some (.int (nI j))] [] (σ, τ) := by
  refine xf_aload_n hX 288 rfl 1 xnd_LW_law_287 rfl rfl ?_
  refine xf_aload_n hX 289 rfl 0 xnd_LW_law_288 rfl rfl ?_
  refine xf_iload_n hX 290 rfl 3 xnd_LW_law_289 rfl rfl ?_
  refine xf_iconst hX 291 rfl (1) xnd_LW_law_290 (by decide) ?_
  refine xf_iadd hX 292 rfl xnd_LW_law_291 ?_
  refine xf_sld hX hB 293 rfl (j + 1) (nI_add j 1) (by omega) (by omega) xnd_LW_law_292 ?_
  refine xf_V1i hX 296 rfl (xc_state P σ τ (xs (j + 1))) xq_SC_state xk_LW_45 xrX_SC rfl rfl xnd_LW_law_293 ?_
  refine xf_aload_n hX 297 rfl 2 xnd_LW_law_296 rfl rfl ?_
  refine xf_aload_n hX 298 rfl 0 xnd_LW_law_297 rfl rfl ?_
  refine xf_iload_n hX 299 rfl 3 xnd_LW_law_298 rfl rfl ?_
  refine xf_iconst hX 300 rfl (1) xnd_LW_law_299 (by decide) ?_
  refine xf_iadd hX 301 rfl xnd_LW_law_300 ?_
  refine xf_sld hX hB 302 rfl (j + 1) (nI_add j 1) (by omega) (by omega) xnd_LW_law_301 ?_
  refine xf_V1i hX 305 rfl (xm_csta P σ τ (xs (j + 1))) xq_MO_state xk_LW_48 xrM_MO rfl rfl xnd_LW_law_302 ?_
  refine xf_icmp_eq hX 308 rfl 550 xnd_LW_law_305 (by decide) (fun _ => ?_) (fun h => absurd ((xr_state hR (xs (j + 1))).symm) h)
  exact next _ _ hR
set_option maxRecDepth 100000 in
set_option maxHeartbeats 400000 in
theorem xl_value (P : xw_T) {X : xf_C} {b N j : Nat} {xs : Nat → Int32} {σ τ : xf_T} (hN : N ≤ 3074) (hj : j + 6 ≤ N) (hX : xf_ok X (xw_l P) xnR_LW xnc_LW_law 4 11 400 (xw_W P) (xw_D P) (xw_ty P)) (hB : xl_scr X b N xs) (hR : xr_R (xw_n P) (xw_w P) σ τ) (next : ∀ σ' τ' : xf_T, xr_R (xw_n P) (xw_w P) σ' τ' → xf_V X 550 [some (.ref b), some (.ref (xw_a P 0)), some (.ref (xw_a P 100)), some (.int (nI j))] [] (σ', τ')) : xf_V X 310 [some (.ref b), some (.ref (xw_a P 0)), some (.ref (xw_a P 100)), some (.int (nI j))] [] (σ, τ) := by
  refine xf_aload_n hX 311 rfl 1 xnd_LW_law_310 rfl rfl ?_
  refine xf_aload_n hX 312 rfl 0 xnd_LW_law_311 rfl rfl ?_
  refine xf_iload_n hX 313 rfl 3 xnd_LW_law_312 rfl rfl ?_
  refine xf_iconst hX 314 rfl (1) xnd_LW_law_313 (by decide) ?_
  refine xf_iadd hX 315 rfl xnd_LW_law_314 ?_
  refine xf_sld hX hB 316 rfl (j + 1) (nI_add j 1) (by omega) (by omega) xnd_LW_law_315 ?_
  refine xf_V1i hX 319 rfl (xc_value P σ τ (xs (j + 1))) xq_SC_value xk_LW_49 xrX_SC rfl rfl xnd_LW_law_316 ?_
  refine xf_aload_n hX 320 rfl 2 xnd_LW_law_319 rfl rfl ?_
  refine xf_aload_n hX 321 rfl 0 xnd_LW_law_320 rfl rfl ?_
  refine xf_iload_n hX 322 rfl 3 xnd_LW_law_321 rfl rfl ?_
  refine xf_iconst hX 323 rfl (1) xnd_LW_law_322 (by decide) ?_
  refine xf_iadd hX 324 rfl xnd_LW_law_323 ?_
  refine xf_sld hX hB 325 rfl (j + 1) (nI_add j 1) (by omega) (by omega) xnd_LW_law_324 ?_
  refine xf_V1i hX 328 rfl (xm_cval P σ τ (xs (j + 1))) xq_MO_value xk_LW_52 xrM_MO rfl rfl xnd_LW_law_325 ?_
  refine xf_icmp_eq hX 331 rfl 550 xnd_LW_law_328 (by decide) (fun _ => ?_) (fun h => absurd ((xr_value hR (xs (j + 1))).1.symm) h)
  exact next _ _ hR
set_option maxRecDepth 100000 in
set_option maxHeartbeats 400000 in
theorem xl_token (P : xw_T) {X : xf_C} {b N j : Nat} {xs : Nat → Int32} {σ τ : xf_T} (hN : N ≤ 3074) (hj : j + 6 ≤ N) (hX : xf_ok X (xw_l P) xnR_LW xnc_LW_law 4 11 400 (xw_W P) (xw_D P) (xw_ty P)) (hB : xl_scr X b N xs) (hR : xr_R (xw_n P) (xw_w P) σ τ) (next : ∀ σ' τ' : xf_T, xr_R (xw_n P) (xw_w P) σ' τ' → xf_V X 550 [some (.ref b), some (.ref (xw_a P 0)), some (.ref (xw_a P 100)), some (.int (nI j))] [] (σ', τ')) : xf_V X 333 [some (.ref b), some (.ref (xw_a P 0)), some (.ref (xw_a P 100)), some (.int (nI j))] [] (σ, τ) := by
  refine xf_aload_n hX 334 rfl 1 xnd_LW_law_333 rfl rfl ?_
  refine xf_aload_n hX 335 rfl 0 xnd_LW_law_334 rfl rfl ?_
  refine xf_iload_n hX 336 rfl 3 xnd_LW_law_335 rfl rfl ?_
  refine xf_iconst hX 337 rfl (1) xnd_LW_law_336 (by decide) ?_
  refine xf_iadd hX 338 rfl xnd_LW_law_337 ?_
  refine xf_sld hX hB 339 rfl (j + 1) (nI_add j 1) (by omega) (by omega) xnd_LW_law_338 ?_
  refine xf_V1i hX 342 rfl (xc_token P σ τ (xs (j + 1))) xq_SC_token xk_LW_53 xrX_SC rfl rfl xnd_LW_law_339 ?_
  refine xf_aload_n hX 343 rfl 2 xnd_LW_law_342 rfl rfl ?_
  refine xf_aload_n hX 344 rfl 0 xnd_LW_law_343 rfl rfl ?_
  refine xf_iload_n hX 345 rfl 3 xnd_LW_law_344 rfl rfl ?_
  refine xf_iconst hX 346 rfl (1) xnd_LW_law_345 (by decide) ?_
  refine xf_iadd hX 347 rfl xnd_LW_law_346 ?_
  refine xf_sld hX hB 348 rfl (j + 1) (nI_add j 1) (by omega) (by omega) xnd_LW_law_347 ?_
  refine xf_V1i hX 351 rfl (xm_ctok P σ τ (xs (j + 1))) xq_MO_token xk_LW_56 xrM_MO rfl rfl xnd_LW_law_348 ?_
  refine xf_icmp_eq hX 354 rfl 550 xnd_LW_law_351 (by decide) (fun _ => ?_) (fun h => absurd ((xr_value hR (xs (j + 1))).2.symm) h)
  exact next _ _ hR
set_option maxRecDepth 100000 in
set_option maxHeartbeats 400000 in
theorem xl_pass (P : xw_T) {X : xf_C} {b N j : Nat} {xs : Nat → Int32} {σ τ : xf_T} (hN : N ≤ 3074) (hj : j + 6 ≤ N) (hX : xf_ok X (xw_l P) xnR_LW xnc_LW_law 4 11 400 (xw_W P) (xw_D P) (xw_ty P)) (hB : xl_scr X b N xs) (hR : xr_R (xw_n P) (xw_w P) σ τ) (next : ∀ σ' τ' : xf_T, xr_R (xw_n P) (xw_w P) σ' τ' → xf_V X 550 [some (.ref b), some (.ref (xw_a P 0)), some (.ref (xw_a P 100)), some (.int (nI j))] [] (σ', τ')) : xf_V X 356 [some (.ref b), some (.ref (xw_a P 0)), some (.ref (xw_a P 100)), some (.int (nI j))] [] (σ, τ) := by
  refine xf_aload_n hX 357 rfl 1 xnd_LW_law_356 rfl rfl ?_
  refine xf_aload_n hX 358 rfl 0 xnd_LW_law_357 rfl rfl ?_
  refine xf_iload_n hX 359 rfl 3 xnd_LW_law_358 rfl rfl ?_
  refine xf_iconst hX 360 rfl (1) xnd_LW_law_359 (by decide) ?_
  refine xf_iadd hX 361 rfl xnd_LW_law_360 ?_
  refine xf_sld hX hB 362 rfl (j + 1) (nI_add j 1) (by omega) (by omega) xnd_LW_law_361 ?_
  refine xf_V1i hX 365 rfl (xc_pass P σ τ (xs (j + 1))) xq_SC_pass xk_LW_57 xrX_SC rfl rfl xnd_LW_law_362 ?_
  refine xf_aload_n hX 366 rfl 2 xnd_LW_law_365 rfl rfl ?_
  refine xf_aload_n hX 367 rfl 0 xnd_LW_law_366 rfl rfl ?_
  refine xf_iload_n hX 368 rfl 3 xnd_LW_law_367 rfl rfl ?_
  refine xf_iconst hX 369 rfl (1) xnd_LW_law_368 (by decide) ?_
  refine xf_iadd hX 370 rfl xnd_LW_law_369 ?_
  refine xf_sld hX hB 371 rfl (j + 1) (nI_add j 1) (by omega) (by omega) xnd_LW_law_370 ?_
  refine xf_V1i hX 374 rfl (xm_cpass P _ τ (xs (j + 1))) xq_MO_pass xk_LW_61 xrM_MO rfl rfl xnd_LW_law_371 ?_
  refine xf_icmp_eq hX 377 rfl 550 xnd_LW_law_374 (by decide) (fun _ => ?_) (fun h => absurd ((xr_pass hR (xs (j + 1))).1.symm) h)
  exact next _ _ (xr_pass hR (xs (j + 1))).2
set_option maxRecDepth 100000 in
set_option maxHeartbeats 400000 in
theorem xl_where (P : xw_T) {X : xf_C} {b N j : Nat} {xs : Nat → Int32} {σ τ : xf_T} (hN : N ≤ 3074) (hj : j + 6 ≤ N) (hX : xf_ok X (xw_l P) xnR_LW xnc_LW_law 4 11 400 (xw_W P) (xw_D P) (xw_ty P)) (hB : xl_scr X b N xs) (hR : xr_R (xw_n P) (xw_w P) σ τ) (next : ∀ σ' τ' : xf_T, xr_R (xw_n P) (xw_w P) σ' τ' → xf_V X 550 [some (.ref b), some (.ref (xw_a P 0)), some (.ref (xw_a P 100)), some (.int (nI j))] [] (σ', τ')) : xf_V X 379 [some (.ref b), some (.ref (xw_a P 0)), some (.ref (xw_a P 100)), some (.int (nI j))] [] (σ, τ) := by
  refine xf_aload_n hX 380 rfl 1 xnd_LW_law_379 rfl rfl ?_
  refine xf_aload_n hX 381 rfl 0 xnd_LW_law_380 rfl rfl ?_
  refine xf_iload_n hX 382 rfl 3 xnd_LW_law_381 rfl rfl ?_
  refine xf_iconst hX 383 rfl (1) xnd_LW_law_382 (by decide) ?_
  refine xf_iadd hX 384 rfl xnd_LW_law_383 ?_
  refine xf_sld hX hB 385 rfl (j + 1) (nI_add j 1) (by omega) (by omega) xnd_LW_law_384 ?_
  refine xf_V1i hX 388 rfl (xc_where P σ τ (xs (j + 1)) hR.1.okP.1) xq_SC_where xk_LW_62 xrX_SC rfl rfl xnd_LW_law_385 ?_
  refine xf_aload_n hX 389 rfl 2 xnd_LW_law_388 rfl rfl ?_
  refine xf_aload_n hX 390 rfl 0 xnd_LW_law_389 rfl rfl ?_
  refine xf_iload_n hX 391 rfl 3 xnd_LW_law_390 rfl rfl ?_
  refine xf_iconst hX 392 rfl (1) xnd_LW_law_391 (by decide) ?_
  refine xf_iadd hX 393 rfl xnd_LW_law_392 ?_
  refine xf_sld hX hB 394 rfl (j + 1) (nI_add j 1) (by omega) (by omega) xnd_LW_law_393 ?_
  refine xf_V1i hX 397 rfl (xm_cwhe P σ τ (xs (j + 1)) hR.1.okP.2) xq_MO_where xk_LW_65 xrM_MO rfl rfl xnd_LW_law_394 ?_
  refine xf_icmp_eq hX 400 rfl 550 xnd_LW_law_397 (by decide) (fun _ => ?_) (fun h => absurd ((hR.1.whe (xs (j + 1))).1.symm) h)
  exact next _ _ hR
set_option maxRecDepth 100000 in
set_option maxHeartbeats 400000 in
theorem xl_at (P : xw_T) {X : xf_C} {b N j : Nat} {xs : Nat → Int32} {σ τ : xf_T} (hN : N ≤ 3074) (hj : j + 6 ≤ N) (hX : xf_ok X (xw_l P) xnR_LW xnc_LW_law 4 11 400 (xw_W P) (xw_D P) (xw_ty P)) (hB : xl_scr X b N xs) (hR : xr_R (xw_n P) (xw_w P) σ τ) (next : ∀ σ' τ' : xf_T, xr_R (xw_n P) (xw_w P) σ' τ' → xf_V X 550 [some (.ref b), some (.ref (xw_a P 0)), some (.ref (xw_a P 100)), some (.int (nI j))] [] (σ', τ')) : xf_V X 402 [some (.ref b), some (.ref (xw_a P 0)), some (.ref (xw_a P 100)), some (.int (nI j))] [] (σ, τ) := by
  refine xf_aload_n hX 403 rfl 1 xnd_LW_law_402 rfl rfl ?_
  refine xf_aload_n hX 404 rfl 0 xnd_LW_law_403 rfl rfl ?_
  refine xf_iload_n hX 405 rfl 3 xnd_LW_law_404 rfl rfl ?_
  refine xf_iconst hX 406 rfl (1) xnd_LW_law_405 (by decide) ?_
  refine xf_iadd hX 407 rfl xnd_LW_law_406 ?_
  refine xf_sld hX hB 408 rfl (j + 1) (nI_add j 1) (by omega) (by omega) xnd_LW_law_407 ?_
  refine xf_V1i hX 411 rfl (xc_at P σ τ (xs (j + 1)) ⟨hR.1.2.2.2.2.2.2.2.2.2.2.2.1, hR.1.2.2.2.2.2.2.2.2.2.2.2.2⟩) xq_SC_at xk_LW_66 xrX_SC rfl rfl xnd_LW_law_408 ?_
  refine xf_aload_n hX 412 rfl 2 xnd_LW_law_411 rfl rfl ?_
  refine xf_aload_n hX 413 rfl 0 xnd_LW_law_412 rfl rfl ?_
  refine xf_iload_n hX 414 rfl 3 xnd_LW_law_413 rfl rfl ?_
  refine xf_iconst hX 415 rfl (1) xnd_LW_law_414 (by decide) ?_
  refine xf_iadd hX 416 rfl xnd_LW_law_415 ?_
  refine xf_sld hX hB 417 rfl (j + 1) (nI_add j 1) (by omega) (by omega) xnd_LW_law_416 ?_
  refine xf_V1i hX 420 rfl (xm_cat P σ τ (xs (j + 1)) ⟨hR.1.2.2.2.2.2.2.2.2.2.2.2.1, hR.1.2.2.2.2.2.2.2.2.2.2.2.2⟩) xq_MO_at xk_LW_69 xrM_MO rfl rfl xnd_LW_law_417 ?_
  refine xf_icmp_eq hX 423 rfl 550 xnd_LW_law_420 (by decide) (fun _ => ?_) (fun h => absurd ((xr_atp hR (xs (j + 1))).symm) h)
  exact next _ _ hR
set_option maxRecDepth 100000 in
set_option maxHeartbeats 400000 in
theorem xl_item (P : xw_T) {X : xf_C} {b N j : Nat} {xs : Nat → Int32} {σ τ : xf_T} (hN : N ≤ 3074) (hj : j + 6 ≤ N) (hX : xf_ok X (xw_l P) xnR_LW xnc_LW_law 4 11 400 (xw_W P) (xw_D P) (xw_ty P)) (hB : xl_scr X b N xs) (hR : xr_R (xw_n P) (xw_w P) σ τ) (next : ∀ σ' τ' : xf_T, xr_R (xw_n P) (xw_w P) σ' τ' → xf_V X 550 [some (.ref b), some (.ref (xw_a P 0)), some (.ref (xw_a P 100)), some (.int (nI j))] [] (σ', τ')) : xf_V X 425 [some (.ref b), some (.ref (xw_a P 0)), some (.ref (xw_a P 100)), some (.int (nI j))] [] (σ, τ) := by
  refine xf_aload_n hX 426 rfl 1 xnd_LW_law_425 rfl rfl ?_
  refine xf_aload_n hX 427 rfl 0 xnd_LW_law_426 rfl rfl ?_
  refine xf_iload_n hX 428 rfl 3 xnd_LW_law_427 rfl rfl ?_
  refine xf_iconst hX 429 rfl (1) xnd_LW_law_428 (by decide) ?_
  refine xf_iadd hX 430 rfl xnd_LW_law_429 ?_
  refine xf_sld hX hB 431 rfl (j + 1) (nI_add j 1) (by omega) (by omega) xnd_LW_law_430 ?_
  refine xf_aload_n hX 432 rfl 0 xnd_LW_law_431 rfl rfl ?_
  refine xf_iload_n hX 433 rfl 3 xnd_LW_law_432 rfl rfl ?_
  refine xf_iconst hX 434 rfl (2) xnd_LW_law_433 (by decide) ?_
  refine xf_iadd hX 435 rfl xnd_LW_law_434 ?_
  refine xf_sld hX hB 436 rfl (j + 2) (nI_add j 2) (by omega) (by omega) xnd_LW_law_435 ?_
  refine xf_V2i hX 439 rfl (xc_item P σ τ (xs (j + 1)) (xs (j + 2)) ⟨hR.1.2.2.2.2.2.2.2.2.2.1, hR.1.2.2.2.2.2.2.2.2.2.2.1⟩) xq_SC_item xk_LW_70 xrX_SC rfl rfl xnd_LW_law_436 ?_
  refine xf_aload_n hX 440 rfl 2 xnd_LW_law_439 rfl rfl ?_
  refine xf_aload_n hX 441 rfl 0 xnd_LW_law_440 rfl rfl ?_
  refine xf_iload_n hX 442 rfl 3 xnd_LW_law_441 rfl rfl ?_
  refine xf_iconst hX 443 rfl (1) xnd_LW_law_442 (by decide) ?_
  refine xf_iadd hX 444 rfl xnd_LW_law_443 ?_
  refine xf_sld hX hB 445 rfl (j + 1) (nI_add j 1) (by omega) (by omega) xnd_LW_law_444 ?_
  refine xf_aload_n hX 446 rfl 0 xnd_LW_law_445 rfl rfl ?_
  refine xf_iload_n hX 447 rfl 3 xnd_LW_law_446 rfl rfl ?_
  refine xf_iconst hX 448 rfl (2) xnd_LW_law_447 (by decide) ?_
  refine xf_iadd hX 449 rfl xnd_LW_law_448 ?_
  refine xf_sld hX hB 450 rfl (j + 2) (nI_add j 2) (by omega) (by omega) xnd_LW_law_449 ?_
  refine xf_V2i hX 453 rfl (xm_citem P σ τ (xs (j + 1)) (xs (j + 2)) ⟨hR.1.2.2.2.2.2.2.2.2.2.1, hR.1.2.2.2.2.2.2.2.2.2.2.1⟩) xq_MO_item xk_LW_74 xrM_MO rfl rfl xnd_LW_law_450 ?_
  refine xf_icmp_eq hX 456 rfl 550 xnd_LW_law_453 (by decide) (fun _ => ?_) (fun h => absurd ((xr_item hR (xs (j + 1)) (xs (j + 2))).symm) h)
  exact next _ _ hR
set_option maxRecDepth 100000 in
set_option maxHeartbeats 400000 in
theorem xl_used (P : xw_T) {X : xf_C} {b N j : Nat} {xs : Nat → Int32} {σ τ : xf_T} (hN : N ≤ 3074) (hj : j + 6 ≤ N) (hX : xf_ok X (xw_l P) xnR_LW xnc_LW_law 4 11 400 (xw_W P) (xw_D P) (xw_ty P)) (hB : xl_scr X b N xs) (hR : xr_R (xw_n P) (xw_w P) σ τ) (next : ∀ σ' τ' : xf_T, xr_R (xw_n P) (xw_w P) σ' τ' → xf_V X 550 [some (.ref b), some (.ref (xw_a P 0)), some (.ref (xw_a P 100)), some (.int (nI j))] [] (σ', τ')) : xf_V X 458 [some (.ref b), some (.ref (xw_a P 0)), some (.ref (xw_a P 100)), some (.int (nI j))] [] (σ, τ) := by
  refine xf_aload_n hX 459 rfl 1 xnd_LW_law_458 rfl rfl ?_
  refine xf_aload_n hX 460 rfl 0 xnd_LW_law_459 rfl rfl ?_
  refine xf_iload_n hX 461 rfl 3 xnd_LW_law_460 rfl rfl ?_
  refine xf_iconst hX 462 rfl (1) xnd_LW_law_461 (by decide) ?_
  refine xf_iadd hX 463 rfl xnd_LW_law_462 ?_
  refine xf_sld hX hB 464 rfl (j + 1) (nI_add j 1) (by omega) (by omega) xnd_LW_law_463 ?_
  refine xf_V1i hX 467 rfl (xc_used P σ τ (xs (j + 1)) ⟨hR.1.2.2.2.2.2.2.2.2.2.1, hR.1.2.2.2.2.2.2.2.2.2.2.1⟩) xq_SC_used xk_LW_75 xrX_SC rfl rfl xnd_LW_law_464 ?_
  refine xf_aload_n hX 468 rfl 2 xnd_LW_law_467 rfl rfl ?_
  refine xf_aload_n hX 469 rfl 0 xnd_LW_law_468 rfl rfl ?_
  refine xf_iload_n hX 470 rfl 3 xnd_LW_law_469 rfl rfl ?_
  refine xf_iconst hX 471 rfl (1) xnd_LW_law_470 (by decide) ?_
  refine xf_iadd hX 472 rfl xnd_LW_law_471 ?_
  refine xf_sld hX hB 473 rfl (j + 1) (nI_add j 1) (by omega) (by omega) xnd_LW_law_472 ?_
  refine xf_V1i hX 476 rfl (xm_cused P σ τ (xs (j + 1)) ⟨hR.1.2.2.2.2.2.2.2.2.2.1, hR.1.2.2.2.2.2.2.2.2.2.2.1⟩) xq_MO_used xk_LW_78 xrM_MO rfl rfl xnd_LW_law_473 ?_
  refine xf_icmp_eq hX 479 rfl 550 xnd_LW_law_476 (by decide) (fun _ => ?_) (fun h => absurd ((xr_used hR (xs (j + 1))).symm) h)
  exact next _ _ hR
set_option maxRecDepth 100000 in
set_option maxHeartbeats 400000 in
theorem xl_version (P : xw_T) {X : xf_C} {b N j : Nat} {xs : Nat → Int32} {σ τ : xf_T} (hN : N ≤ 3074) (hj : j + 6 ≤ N) (hX : xf_ok X (xw_l P) xnR_LW xnc_LW_law 4 11 400 (xw_W P) (xw_D P) (xw_ty P)) (hB : xl_scr X b N xs) (hR : xr_R (xw_n P) (xw_w P) σ τ) (next : ∀ σ' τ' : xf_T, xr_R (xw_n P) (xw_w P) σ' τ' → xf_V X 550 [some (.ref b), some (.ref (xw_a P 0)), some (.ref (xw_a P 100)), some (.int (nI j))] [] (σ', τ')) : xf_V X 481 [some (.ref b), some (.ref (xw_a P 0)), some (.ref (xw_a P 100)), some (.int (nI j))] [] (σ, τ) := by
  refine xf_aload_n hX 482 rfl 1 xnd_LW_law_481 rfl rfl ?_
  refine xf_aload_n hX 483 rfl 0 xnd_LW_law_482 rfl rfl ?_
  refine xf_iload_n hX 484 rfl 3 xnd_LW_law_483 rfl rfl ?_
  refine xf_iconst hX 485 rfl (1) xnd_LW_law_484 (by decide) ?_
  refine xf_iadd hX 486 rfl xnd_LW_law_485 ?_
  refine xf_sld hX hB 487 rfl (j + 1) (nI_add j 1) (by omega) (by omega) xnd_LW_law_486 ?_
  refine xf_V1i hX 490 rfl (xc_version P σ τ (xs (j + 1))) xq_SC_version xk_LW_79 xrX_SC rfl rfl xnd_LW_law_487 ?_
  refine xf_aload_n hX 491 rfl 2 xnd_LW_law_490 rfl rfl ?_
  refine xf_aload_n hX 492 rfl 0 xnd_LW_law_491 rfl rfl ?_
  refine xf_iload_n hX 493 rfl 3 xnd_LW_law_492 rfl rfl ?_
  refine xf_iconst hX 494 rfl (1) xnd_LW_law_493 (by decide) ?_
  refine xf_iadd hX 495 rfl xnd_LW_law_494 ?_
  refine xf_sld hX hB 496 rfl (j + 1) (nI_add j 1) (by omega) (by omega) xnd_LW_law_495 ?_
  refine xf_V1i hX 499 rfl (xm_cver P σ τ (xs (j + 1))) xq_MO_version xk_LW_82 xrM_MO rfl rfl xnd_LW_law_496 ?_
  refine xf_icmp_eq hX 502 rfl 550 xnd_LW_law_499 (by decide) (fun _ => ?_) (fun h => absurd ((xr_version hR (xs (j + 1))).symm) h)
  exact next _ _ hR
set_option maxRecDepth 100000 in
set_option maxHeartbeats 400000 in
theorem xl_hash (P : xw_T) {X : xf_C} {b N j : Nat} {xs : Nat → Int32} {σ τ : xf_T} (hN : N ≤ 3074) (hj : j + 6 ≤ N) (hX : xf_ok X (xw_l P) xnR_LW xnc_LW_law 4 11 400 (xw_W P) (xw_D P) (xw_ty P)) (hB : xl_scr X b N xs) (hR : xr_R (xw_n P) (xw_w P) σ τ) (next : ∀ σ' τ' : xf_T, xr_R (xw_n P) (xw_w P) σ' τ' → xf_V X 550 [some (.ref b), some (.ref (xw_a P 0)), some (.ref (xw_a P 100)), some (.int (nI j))] [] (σ', τ')) : xf_V X 504 [some (.ref b), some (.ref (xw_a P 0)), some (.ref (xw_a P 100)), some (.int (nI j))] [] (σ, τ) := by
  refine xf_aload_n hX 505 rfl 1 xnd_LW_law_504 rfl rfl ?_
  refine xf_aload_n hX 506 rfl 0 xnd_LW_law_505 rfl rfl ?_
  refine xf_iload_n hX 507 rfl 3 xnd_LW_law_506 rfl rfl ?_
  refine xf_iconst hX 508 rfl (1) xnd_LW_law_507 (by decide) ?_
  refine xf_iadd hX 509 rfl xnd_LW_law_508 ?_
  refine xf_sld hX hB 510 rfl (j + 1) (nI_add j 1) (by omega) (by omega) xnd_LW_law_509 ?_
  refine xf_V1i hX 513 rfl (xc_hash P σ τ (xs (j + 1))) xq_SC_hash xk_LW_83 xrX_SC rfl rfl xnd_LW_law_510 ?_
  refine xf_aload_n hX 514 rfl 2 xnd_LW_law_513 rfl rfl ?_
  refine xf_aload_n hX 515 rfl 0 xnd_LW_law_514 rfl rfl ?_
  refine xf_iload_n hX 516 rfl 3 xnd_LW_law_515 rfl rfl ?_
  refine xf_iconst hX 517 rfl (1) xnd_LW_law_516 (by decide) ?_
  refine xf_iadd hX 518 rfl xnd_LW_law_517 ?_
  refine xf_sld hX hB 519 rfl (j + 1) (nI_add j 1) (by omega) (by omega) xnd_LW_law_518 ?_
  refine xf_V1i hX 522 rfl (xm_chash P σ τ (xs (j + 1))) xq_MO_hash xk_LW_86 xrM_MO rfl rfl xnd_LW_law_519 ?_
  refine xf_icmp_eq hX 525 rfl 550 xnd_LW_law_522 (by decide) (fun _ => ?_) (fun h => absurd (rfl) h)
  exact next _ _ hR
set_option maxRecDepth 100000 in
set_option maxHeartbeats 400000 in
theorem xl_count (P : xw_T) {X : xf_C} {b N j : Nat} {xs : Nat → Int32} {σ τ : xf_T} (hN : N ≤ 3074) (hj : j + 6 ≤ N) (hX : xf_ok X (xw_l P) xnR_LW xnc_LW_law 4 11 400 (xw_W P) (xw_D P) (xw_ty P)) (hB : xl_scr X b N xs) (hR : xr_R (xw_n P) (xw_w P) σ τ) (next : ∀ σ' τ' : xf_T, xr_R (xw_n P) (xw_w P) σ' τ' → xf_V X 550 [some (.ref b), some (.ref (xw_a P 0)), some (.ref (xw_a P 100)), some (.int (nI j))] [] (σ', τ')) : xf_V X 527 [some (.ref b), some (.ref (xw_a P 0)), some (.ref (xw_a P 100)), some (.int (nI j))] [] (σ, τ) := by
  refine xf_aload_n hX 528 rfl 1 xnd_LW_law_527 rfl rfl ?_
  refine xf_aload_n hX 529 rfl 0 xnd_LW_law_528 rfl rfl ?_
  refine xf_iload_n hX 530 rfl 3 xnd_LW_law_529 rfl rfl ?_
  refine xf_iconst hX 531 rfl (1) xnd_LW_law_530 (by decide) ?_
  refine xf_iadd hX 532 rfl xnd_LW_law_531 ?_
  refine xf_sld hX hB 533 rfl (j + 1) (nI_add j 1) (by omega) (by omega) xnd_LW_law_532 ?_
  refine xf_V1i hX 536 rfl (xc_count P σ τ (xs (j + 1))) xq_SC_count xk_LW_87 xrX_SC rfl rfl xnd_LW_law_533 ?_
  refine xf_aload_n hX 537 rfl 2 xnd_LW_law_536 rfl rfl ?_
  refine xf_aload_n hX 538 rfl 0 xnd_LW_law_537 rfl rfl ?_
  refine xf_iload_n hX 539 rfl 3 xnd_LW_law_538 rfl rfl ?_
  refine xf_iconst hX 540 rfl (1) xnd_LW_law_539 (by decide) ?_
  refine xf_iadd hX 541 rfl xnd_LW_law_540 ?_
  refine xf_sld hX hB 542 rfl (j + 1) (nI_add j 1) (by omega) (by omega) xnd_LW_law_541 ?_
  refine xf_V1i hX 545 rfl (xm_ccount P σ τ (xs (j + 1)) ⟨hR.1.2.2.2.2.2.2.2.2.2.1, hR.1.2.2.2.2.2.2.2.2.2.2.1⟩) xq_MO_count xk_LW_90 xrM_MO rfl rfl xnd_LW_law_542 ?_
  refine xf_icmp_eq hX 548 rfl 550 xnd_LW_law_545 (by decide) (fun _ => ?_) (fun h => absurd ((xr_count hR (xs (j + 1))).symm) h)
  exact next _ _ hR
