set_option maxRecDepth 20000 in
set_option maxHeartbeats 2000000 in
theorem lawc_0 {p : Program} {e : Env} {s : State} {m : MethodId} {below : List Frame} {meth : Method} {c : Code} (l : Launch) {b0 b : Nat} {xs : Nat → Int32} {D : va_G} {aC : Nat → ClassId} (E : EE p s m meth c D aC b 4 cL_law RL ret) (hb : b = s.heap.size) (hX : va_X b0 6 xs s s.heap) (hb0 : b0 < s.heap.size) : Wv p l e room_1 s m #[Value.ref b0] below meth c (lw_Z below #[Value.ref b0] s) D aC b 4 336 [some (AX b0), some (AR 0), some (AR 95), some (AI 0)] [] wv_318 116 6683 := by
  refine s_aload_n E dL_law_336 rfl rfl ?_
  refine s_xload_n E dL_law_337 rfl rfl ?_
  refine s_iload_n E dL_law_338 rfl rfl ?_
  refine s_iconst (v := 1) E dL_law_339 (by decide) ?_
  refine s_iadd E dL_law_340 ?_
  refine s_top (y := 1) (by decide) ?_
  refine s_sld E hX hb0 hb (vp_c (by decide)) dL_law_341 ?_
  refine s_top (y := (xs 1)) (congrArg xs (by decide)) ?_
  refine s_xload_n E dL_law_342 rfl rfl ?_
  refine s_iload_n E dL_law_343 rfl rfl ?_
  refine s_iconst (v := 2) E dL_law_344 (by decide) ?_
  refine s_iadd E dL_law_345 ?_
  refine s_top (y := 2) (by decide) ?_
  refine s_sld E hX hb0 hb (vp_c (by decide)) dL_law_346 ?_
  refine s_top (y := (xs 2)) (congrArg xs (by decide)) ?_
  refine s_xload_n E dL_law_347 rfl rfl ?_
  refine s_iload_n E dL_law_348 rfl rfl ?_
  refine s_iconst (v := 3) E dL_law_349 (by decide) ?_
  refine s_iadd E dL_law_350 ?_
  refine s_top (y := 3) (by decide) ?_
  refine s_sld E hX hb0 hb (vp_c (by decide)) dL_law_351 ?_
  refine s_top (y := (xs 3)) (congrArg xs (by decide)) ?_
  refine s_xload_n E dL_law_352 rfl rfl ?_
  refine s_iload_n E dL_law_353 rfl rfl ?_
  refine s_iconst (v := 4) E dL_law_354 (by decide) ?_
  refine s_iadd E dL_law_355 ?_
  refine s_top (y := 4) (by decide) ?_
  refine s_sld E hX hb0 hb (vp_c (by decide)) dL_law_356 ?_
  refine s_top (y := (xs 4)) (congrArg xs (by decide)) ?_
  refine s_xload_n E dL_law_357 rfl rfl ?_
  refine s_iload_n E dL_law_358 rfl rfl ?_
  refine s_iconst (v := 5) E dL_law_359 (by decide) ?_
  refine s_iadd E dL_law_360 ?_
  refine s_top (y := 5) (by decide) ?_
  refine s_sld E hX hb0 hb (vp_c (by decide)) dL_law_361 ?_
  refine s_top (y := (xs 5)) (congrArg xs (by decide)) ?_
  refine s_vI (As := [AI (xs 1), AI (xs 2), AI (xs 3), AI (xs 4), AI (xs 5)]) (S := []) E (K_X9_feed_0_CRMS l D aC b wv_318 ((xs 1)) ((xs 2)) ((xs 3)) ((xs 4)) ((xs 5)) FrC_0 RfC_0 FrM_0 RfM_0) cv_L_13 rfl rfl rfl (ltn FrC_0.1 (by decide)) (Nat.le_of_ble_eq_true rfl) (Nat.le_of_ble_eq_true rfl) ⟨(Nat.le_of_ble_eq_true rfl), (Nat.le_of_ble_eq_true rfl)⟩ (Nat.le_of_ble_eq_true rfl) dL_law_362 (fun r u_1 hp => ?_)
  obtain ⟨rfl, hu_1, hu_2, hu_3, hu_4⟩ := hp
  refine s_aload_n E dL_law_365 rfl rfl ?_
  refine s_xload_n E dL_law_366 rfl rfl ?_
  refine s_iload_n E dL_law_367 rfl rfl ?_
  refine s_iconst (v := 1) E dL_law_368 (by decide) ?_
  refine s_iadd E dL_law_369 ?_
  refine s_top (y := 1) (by decide) ?_
  refine s_sld E hX hb0 hb (vp_c (by decide)) dL_law_370 ?_
  refine s_top (y := (xs 1)) (congrArg xs (by decide)) ?_
  refine s_xload_n E dL_law_371 rfl rfl ?_
  refine s_iload_n E dL_law_372 rfl rfl ?_
  refine s_iconst (v := 2) E dL_law_373 (by decide) ?_
  refine s_iadd E dL_law_374 ?_
  refine s_top (y := 2) (by decide) ?_
  refine s_sld E hX hb0 hb (vp_c (by decide)) dL_law_375 ?_
  refine s_top (y := (xs 2)) (congrArg xs (by decide)) ?_
  refine s_xload_n E dL_law_376 rfl rfl ?_
  refine s_iload_n E dL_law_377 rfl rfl ?_
  refine s_iconst (v := 3) E dL_law_378 (by decide) ?_
  refine s_iadd E dL_law_379 ?_
  refine s_top (y := 3) (by decide) ?_
  refine s_sld E hX hb0 hb (vp_c (by decide)) dL_law_380 ?_
  refine s_top (y := (xs 3)) (congrArg xs (by decide)) ?_
  refine s_xload_n E dL_law_381 rfl rfl ?_
  refine s_iload_n E dL_law_382 rfl rfl ?_
  refine s_iconst (v := 4) E dL_law_383 (by decide) ?_
  refine s_iadd E dL_law_384 ?_
  refine s_top (y := 4) (by decide) ?_
  refine s_sld E hX hb0 hb (vp_c (by decide)) dL_law_385 ?_
  refine s_top (y := (xs 4)) (congrArg xs (by decide)) ?_
  refine s_xload_n E dL_law_386 rfl rfl ?_
  refine s_iload_n E dL_law_387 rfl rfl ?_
  refine s_iconst (v := 5) E dL_law_388 (by decide) ?_
  refine s_iadd E dL_law_389 ?_
  refine s_top (y := 5) (by decide) ?_
  refine s_sld E hX hb0 hb (vp_c (by decide)) dL_law_390 ?_
  refine s_top (y := (xs 5)) (congrArg xs (by decide)) ?_
  refine s_vI (As := [AI (xs 1), AI (xs 2), AI (xs 3), AI (xs 4), AI (xs 5)]) (S := [AI 20]) E (K_X10_feed_95_MS l D aC b u_1 ((xs 1)) ((xs 2)) ((xs 3)) ((xs 4)) ((xs 5)) hu_2 hu_3) cv_L_17 rfl rfl rfl (ltn hu_1.1 (by decide)) (Nat.le_of_ble_eq_true rfl) (Nat.le_of_ble_eq_true rfl) ⟨(Nat.le_of_ble_eq_true rfl), (Nat.le_of_ble_eq_true rfl)⟩ (Nat.le_of_ble_eq_true rfl) dL_law_391 (fun r u_2 hp => ?_)
  obtain ⟨rfl, hu_5⟩ := hp
  refine s_icmp_eq (tgt := 2494) E dL_law_394 (by decide) (fun _ => ?_) (fun hh => absurd (by decide) hh)
  exact law_tail l E hb hX hb0 u_2
set_option maxRecDepth 20000 in
set_option maxHeartbeats 2000000 in
theorem lawc_1 {p : Program} {e : Env} {s : State} {m : MethodId} {below : List Frame} {meth : Method} {c : Code} (l : Launch) {b0 b : Nat} {xs : Nat → Int32} {D : va_G} {aC : Nat → ClassId} (E : EE p s m meth c D aC b 4 cL_law RL ret) (hb : b = s.heap.size) (hX : va_X b0 6 xs s s.heap) (hb0 : b0 < s.heap.size) : Wv p l e room_1 s m #[Value.ref b0] below meth c (lw_Z below #[Value.ref b0] s) D aC b 4 399 [some (AX b0), some (AR 0), some (AR 95), some (AI 0)] [] wv_318 116 6683 := by
  refine s_aload_n E dL_law_399 rfl rfl ?_
  refine s_xload_n E dL_law_400 rfl rfl ?_
  refine s_iload_n E dL_law_401 rfl rfl ?_
  refine s_iconst (v := 1) E dL_law_402 (by decide) ?_
  refine s_iadd E dL_law_403 ?_
  refine s_top (y := 1) (by decide) ?_
  refine s_sld E hX hb0 hb (vp_c (by decide)) dL_law_404 ?_
  refine s_top (y := (xs 1)) (congrArg xs (by decide)) ?_
  refine s_vI (As := [AI (xs 1)]) (S := []) E (K_X9_end_0_CRMS l D aC b wv_318 ((xs 1)) FrC_0 RfC_0 FrM_0 RfM_0) cv_L_18 rfl rfl rfl (ltn FrC_0.1 (by decide)) (Nat.le_of_ble_eq_true rfl) (Nat.le_of_ble_eq_true rfl) ⟨(Nat.le_of_ble_eq_true rfl), (Nat.le_of_ble_eq_true rfl)⟩ (Nat.le_of_ble_eq_true rfl) dL_law_405 (fun r u_1 hp => ?_)
  obtain ⟨rfl, hu_1, hu_2, hu_3, hu_4⟩ := hp
  refine s_aload_n E dL_law_408 rfl rfl ?_
  refine s_xload_n E dL_law_409 rfl rfl ?_
  refine s_iload_n E dL_law_410 rfl rfl ?_
  refine s_iconst (v := 1) E dL_law_411 (by decide) ?_
  refine s_iadd E dL_law_412 ?_
  refine s_top (y := 1) (by decide) ?_
  refine s_sld E hX hb0 hb (vp_c (by decide)) dL_law_413 ?_
  refine s_top (y := (xs 1)) (congrArg xs (by decide)) ?_
  refine s_vI (As := [AI (xs 1)]) (S := [AI (sp_end ((xs 1)))]) E (K_X10_end_95_MS l D aC b u_1 ((xs 1)) hu_2 hu_3) cv_L_22 rfl rfl rfl (ltn hu_1.1 (by decide)) (Nat.le_of_ble_eq_true rfl) (Nat.le_of_ble_eq_true rfl) ⟨(Nat.le_of_ble_eq_true rfl), (Nat.le_of_ble_eq_true rfl)⟩ (Nat.le_of_ble_eq_true rfl) dL_law_414 (fun r u_2 hp => ?_)
  obtain ⟨rfl, hu_5⟩ := hp
  refine s_icmp_eq (tgt := 2494) E dL_law_417 (by decide) (fun _ => ?_) (fun hh => absurd rfl hh)
  exact law_tail l E hb hX hb0 u_2
set_option maxRecDepth 20000 in
set_option maxHeartbeats 2000000 in
theorem lawc_2 {p : Program} {e : Env} {s : State} {m : MethodId} {below : List Frame} {meth : Method} {c : Code} (l : Launch) {b0 b : Nat} {xs : Nat → Int32} {D : va_G} {aC : Nat → ClassId} (E : EE p s m meth c D aC b 4 cL_law RL ret) (hb : b = s.heap.size) (hX : va_X b0 6 xs s s.heap) (hb0 : b0 < s.heap.size) : Wv p l e room_1 s m #[Value.ref b0] below meth c (lw_Z below #[Value.ref b0] s) D aC b 4 422 [some (AX b0), some (AR 0), some (AR 95), some (AI 0)] [] wv_318 116 6683 := by
  refine s_aload_n E dL_law_422 rfl rfl ?_
  refine s_vI (As := []) (S := []) E (KB_24 l D aC b) cv_L_23 rfl rfl rfl (ltn FrC_0.1 (by decide)) (Nat.le_of_ble_eq_true rfl) (Nat.le_of_ble_eq_true rfl) ⟨(Nat.le_of_ble_eq_true rfl), (Nat.le_of_ble_eq_true rfl)⟩ (Nat.le_of_ble_eq_true rfl) dL_law_423 (fun r u hp => ?_)
  obtain ⟨rfl, rfl⟩ := hp
  refine s_aload_n E dL_law_426 rfl rfl ?_
  refine s_vI (As := []) (S := [AI 0]) E (KB_31 l D aC b) cv_L_27 rfl rfl rfl (by decide +kernel) (Nat.le_of_ble_eq_true rfl) (Nat.le_of_ble_eq_true rfl) ⟨(Nat.le_of_ble_eq_true rfl), (Nat.le_of_ble_eq_true rfl)⟩ (Nat.le_of_ble_eq_true rfl) dL_law_427 (fun r u hp => ?_)
  obtain ⟨rfl, rfl⟩ := hp
  refine s_icmp_eq (tgt := 2494) E dL_law_430 (by decide) (fun _ => ?_) (fun hh => absurd (by decide) hh)
  exact law_tail l E hb hX hb0 wb_491
set_option maxRecDepth 20000 in
set_option maxHeartbeats 2000000 in
theorem lawc_3 {p : Program} {e : Env} {s : State} {m : MethodId} {below : List Frame} {meth : Method} {c : Code} (l : Launch) {b0 b : Nat} {xs : Nat → Int32} {D : va_G} {aC : Nat → ClassId} (E : EE p s m meth c D aC b 4 cL_law RL ret) (hb : b = s.heap.size) (hX : va_X b0 6 xs s s.heap) (hb0 : b0 < s.heap.size) : Wv p l e room_1 s m #[Value.ref b0] below meth c (lw_Z below #[Value.ref b0] s) D aC b 4 435 [some (AX b0), some (AR 0), some (AR 95), some (AI 0)] [] wv_318 116 6683 := by
  refine s_aload_n E dL_law_435 rfl rfl ?_
  refine s_xload_n E dL_law_436 rfl rfl ?_
  refine s_iload_n E dL_law_437 rfl rfl ?_
  refine s_iconst (v := 1) E dL_law_438 (by decide) ?_
  refine s_iadd E dL_law_439 ?_
  refine s_top (y := 1) (by decide) ?_
  refine s_sld E hX hb0 hb (vp_c (by decide)) dL_law_440 ?_
  refine s_top (y := (xs 1)) (congrArg xs (by decide)) ?_
  refine s_vI (As := [AI (xs 1)]) (S := []) E (K_X9_fault_0_CRMS l D aC b wv_318 ((xs 1)) FrC_0 RfC_0 FrM_0 RfM_0) cv_L_28 rfl rfl rfl (ltn FrC_0.1 (by decide)) (Nat.le_of_ble_eq_true rfl) (Nat.le_of_ble_eq_true rfl) ⟨(Nat.le_of_ble_eq_true rfl), (Nat.le_of_ble_eq_true rfl)⟩ (Nat.le_of_ble_eq_true rfl) dL_law_441 (fun r u hp => ?_)
  obtain ⟨rfl, rfl⟩ := hp
  refine s_aload_n E dL_law_444 rfl rfl ?_
  refine s_xload_n E dL_law_445 rfl rfl ?_
  refine s_iload_n E dL_law_446 rfl rfl ?_
  refine s_iconst (v := 1) E dL_law_447 (by decide) ?_
  refine s_iadd E dL_law_448 ?_
  refine s_top (y := 1) (by decide) ?_
  refine s_sld E hX hb0 hb (vp_c (by decide)) dL_law_449 ?_
  refine s_top (y := (xs 1)) (congrArg xs (by decide)) ?_
  refine s_vI (As := [AI (xs 1)]) (S := [AI (sp_fault ((xs 1)))]) E (K_X10_fault_95_MS l D aC b wv_318 ((xs 1)) FrM_0 RfM_0) cv_L_31 rfl rfl rfl (ltn FrC_0.1 (by decide)) (Nat.le_of_ble_eq_true rfl) (Nat.le_of_ble_eq_true rfl) ⟨(Nat.le_of_ble_eq_true rfl), (Nat.le_of_ble_eq_true rfl)⟩ (Nat.le_of_ble_eq_true rfl) dL_law_450 (fun r u hp => ?_)
  obtain ⟨rfl, rfl⟩ := hp
  refine s_icmp_eq (tgt := 2494) E dL_law_453 (by decide) (fun _ => ?_) (fun hh => absurd rfl hh)
  exact law_tail l E hb hX hb0 wv_318
set_option maxRecDepth 20000 in
set_option maxHeartbeats 2000000 in
theorem lawc_4 {p : Program} {e : Env} {s : State} {m : MethodId} {below : List Frame} {meth : Method} {c : Code} (l : Launch) {b0 b : Nat} {xs : Nat → Int32} {D : va_G} {aC : Nat → ClassId} (E : EE p s m meth c D aC b 4 cL_law RL ret) (hb : b = s.heap.size) (hX : va_X b0 6 xs s s.heap) (hb0 : b0 < s.heap.size) : Wv p l e room_1 s m #[Value.ref b0] below meth c (lw_Z below #[Value.ref b0] s) D aC b 4 458 [some (AX b0), some (AR 0), some (AR 95), some (AI 0)] [] wv_318 116 6683 := by
  refine s_aload_n E dL_law_458 rfl rfl ?_
  refine s_xload_n E dL_law_459 rfl rfl ?_
  refine s_iload_n E dL_law_460 rfl rfl ?_
  refine s_iconst (v := 1) E dL_law_461 (by decide) ?_
  refine s_iadd E dL_law_462 ?_
  refine s_top (y := 1) (by decide) ?_
  refine s_sld E hX hb0 hb (vp_c (by decide)) dL_law_463 ?_
  refine s_top (y := (xs 1)) (congrArg xs (by decide)) ?_
  refine s_xload_n E dL_law_464 rfl rfl ?_
  refine s_iload_n E dL_law_465 rfl rfl ?_
  refine s_iconst (v := 2) E dL_law_466 (by decide) ?_
  refine s_iadd E dL_law_467 ?_
  refine s_top (y := 2) (by decide) ?_
  refine s_sld E hX hb0 hb (vp_c (by decide)) dL_law_468 ?_
  refine s_top (y := (xs 2)) (congrArg xs (by decide)) ?_
  refine s_vI (As := [AI (xs 1), AI (xs 2)]) (S := []) E (K_X9_door_0_CRMS l D aC b wv_318 ((xs 1)) ((xs 2)) FrC_0 RfC_0 FrM_0 RfM_0) cv_L_32 rfl rfl rfl (ltn FrC_0.1 (by decide)) (Nat.le_of_ble_eq_true rfl) (Nat.le_of_ble_eq_true rfl) ⟨(Nat.le_of_ble_eq_true rfl), (Nat.le_of_ble_eq_true rfl)⟩ (Nat.le_of_ble_eq_true rfl) dL_law_469 (fun r u hp => ?_)
  obtain ⟨rfl, rfl⟩ := hp
  refine s_aload_n E dL_law_472 rfl rfl ?_
  refine s_xload_n E dL_law_473 rfl rfl ?_
  refine s_iload_n E dL_law_474 rfl rfl ?_
  refine s_iconst (v := 1) E dL_law_475 (by decide) ?_
  refine s_iadd E dL_law_476 ?_
  refine s_top (y := 1) (by decide) ?_
  refine s_sld E hX hb0 hb (vp_c (by decide)) dL_law_477 ?_
  refine s_top (y := (xs 1)) (congrArg xs (by decide)) ?_
  refine s_xload_n E dL_law_478 rfl rfl ?_
  refine s_iload_n E dL_law_479 rfl rfl ?_
  refine s_iconst (v := 2) E dL_law_480 (by decide) ?_
  refine s_iadd E dL_law_481 ?_
  refine s_top (y := 2) (by decide) ?_
  refine s_sld E hX hb0 hb (vp_c (by decide)) dL_law_482 ?_
  refine s_top (y := (xs 2)) (congrArg xs (by decide)) ?_
  refine s_vI (As := [AI (xs 1), AI (xs 2)]) (S := [AI (-2)]) E (K_X10_door_95_MS l D aC b wv_318 ((xs 1)) ((xs 2)) FrM_0 RfM_0) cv_L_36 rfl rfl rfl (ltn FrC_0.1 (by decide)) (Nat.le_of_ble_eq_true rfl) (Nat.le_of_ble_eq_true rfl) ⟨(Nat.le_of_ble_eq_true rfl), (Nat.le_of_ble_eq_true rfl)⟩ (Nat.le_of_ble_eq_true rfl) dL_law_483 (fun r u hp => ?_)
  obtain ⟨rfl, rfl⟩ := hp
  refine s_icmp_eq (tgt := 2494) E dL_law_486 (by decide) (fun _ => ?_) (fun hh => absurd (by decide) hh)
  exact law_tail l E hb hX hb0 wv_318
set_option maxRecDepth 20000 in
set_option maxHeartbeats 2000000 in
theorem lawc_5 {p : Program} {e : Env} {s : State} {m : MethodId} {below : List Frame} {meth : Method} {c : Code} (l : Launch) {b0 b : Nat} {xs : Nat → Int32} {D : va_G} {aC : Nat → ClassId} (E : EE p s m meth c D aC b 4 cL_law RL ret) (hb : b = s.heap.size) (hX : va_X b0 6 xs s s.heap) (hb0 : b0 < s.heap.size) : Wv p l e room_1 s m #[Value.ref b0] below meth c (lw_Z below #[Value.ref b0] s) D aC b 4 491 [some (AX b0), some (AR 0), some (AR 95), some (AI 0)] [] wv_318 116 6683 := by
  refine s_aload_n E dL_law_491 rfl rfl ?_
  refine s_xload_n E dL_law_492 rfl rfl ?_
  refine s_iload_n E dL_law_493 rfl rfl ?_
  refine s_iconst (v := 1) E dL_law_494 (by decide) ?_
  refine s_iadd E dL_law_495 ?_
  refine s_top (y := 1) (by decide) ?_
  refine s_sld E hX hb0 hb (vp_c (by decide)) dL_law_496 ?_
  refine s_top (y := (xs 1)) (congrArg xs (by decide)) ?_
  refine s_xload_n E dL_law_497 rfl rfl ?_
  refine s_iload_n E dL_law_498 rfl rfl ?_
  refine s_iconst (v := 2) E dL_law_499 (by decide) ?_
  refine s_iadd E dL_law_500 ?_
  refine s_top (y := 2) (by decide) ?_
  refine s_sld E hX hb0 hb (vp_c (by decide)) dL_law_501 ?_
  refine s_top (y := (xs 2)) (congrArg xs (by decide)) ?_
  refine s_vI (As := [AI (xs 1), AI (xs 2)]) (S := []) E (K_X9_lady_0_CRMS l D aC b wv_318 ((xs 1)) ((xs 2)) FrC_0 RfC_0 FrM_0 RfM_0) cv_L_37 rfl rfl rfl (ltn FrC_0.1 (by decide)) (Nat.le_of_ble_eq_true rfl) (Nat.le_of_ble_eq_true rfl) ⟨(Nat.le_of_ble_eq_true rfl), (Nat.le_of_ble_eq_true rfl)⟩ (Nat.le_of_ble_eq_true rfl) dL_law_502 (fun r u hp => ?_)
  obtain ⟨rfl, rfl⟩ := hp
  refine s_aload_n E dL_law_505 rfl rfl ?_
  refine s_xload_n E dL_law_506 rfl rfl ?_
  refine s_iload_n E dL_law_507 rfl rfl ?_
  refine s_iconst (v := 1) E dL_law_508 (by decide) ?_
  refine s_iadd E dL_law_509 ?_
  refine s_top (y := 1) (by decide) ?_
  refine s_sld E hX hb0 hb (vp_c (by decide)) dL_law_510 ?_
  refine s_top (y := (xs 1)) (congrArg xs (by decide)) ?_
  refine s_xload_n E dL_law_511 rfl rfl ?_
  refine s_iload_n E dL_law_512 rfl rfl ?_
  refine s_iconst (v := 2) E dL_law_513 (by decide) ?_
  refine s_iadd E dL_law_514 ?_
  refine s_top (y := 2) (by decide) ?_
  refine s_sld E hX hb0 hb (vp_c (by decide)) dL_law_515 ?_
  refine s_top (y := (xs 2)) (congrArg xs (by decide)) ?_
  refine s_vI (As := [AI (xs 1), AI (xs 2)]) (S := [AI (-2)]) E (K_X10_lady_95_MS l D aC b wv_318 ((xs 1)) ((xs 2)) FrM_0 RfM_0) cv_L_40 rfl rfl rfl (ltn FrC_0.1 (by decide)) (Nat.le_of_ble_eq_true rfl) (Nat.le_of_ble_eq_true rfl) ⟨(Nat.le_of_ble_eq_true rfl), (Nat.le_of_ble_eq_true rfl)⟩ (Nat.le_of_ble_eq_true rfl) dL_law_516 (fun r u hp => ?_)
  obtain ⟨rfl, rfl⟩ := hp
  refine s_icmp_eq (tgt := 2494) E dL_law_519 (by decide) (fun _ => ?_) (fun hh => absurd (by decide) hh)
  exact law_tail l E hb hX hb0 wv_318
set_option maxRecDepth 20000 in
set_option maxHeartbeats 2000000 in
theorem lawc_6 {p : Program} {e : Env} {s : State} {m : MethodId} {below : List Frame} {meth : Method} {c : Code} (l : Launch) {b0 b : Nat} {xs : Nat → Int32} {D : va_G} {aC : Nat → ClassId} (E : EE p s m meth c D aC b 4 cL_law RL ret) (hb : b = s.heap.size) (hX : va_X b0 6 xs s s.heap) (hb0 : b0 < s.heap.size) : Wv p l e room_1 s m #[Value.ref b0] below meth c (lw_Z below #[Value.ref b0] s) D aC b 4 524 [some (AX b0), some (AR 0), some (AR 95), some (AI 0)] [] wv_318 116 6683 := by
  refine s_aload_n E dL_law_524 rfl rfl ?_
  refine s_xload_n E dL_law_525 rfl rfl ?_
  refine s_iload_n E dL_law_526 rfl rfl ?_
  refine s_iconst (v := 1) E dL_law_527 (by decide) ?_
  refine s_iadd E dL_law_528 ?_
  refine s_top (y := 1) (by decide) ?_
  refine s_sld E hX hb0 hb (vp_c (by decide)) dL_law_529 ?_
  refine s_top (y := (xs 1)) (congrArg xs (by decide)) ?_
  refine s_xload_n E dL_law_530 rfl rfl ?_
  refine s_iload_n E dL_law_531 rfl rfl ?_
  refine s_iconst (v := 2) E dL_law_532 (by decide) ?_
  refine s_iadd E dL_law_533 ?_
  refine s_top (y := 2) (by decide) ?_
  refine s_sld E hX hb0 hb (vp_c (by decide)) dL_law_534 ?_
  refine s_top (y := (xs 2)) (congrArg xs (by decide)) ?_
  refine s_vI (As := [AI (xs 1), AI (xs 2)]) (S := []) E (K_X9_minister_0_CRMS l D aC b wv_318 ((xs 1)) ((xs 2)) FrC_0 RfC_0 FrM_0 RfM_0) cv_L_41 rfl rfl rfl (ltn FrC_0.1 (by decide)) (Nat.le_of_ble_eq_true rfl) (Nat.le_of_ble_eq_true rfl) ⟨(Nat.le_of_ble_eq_true rfl), (Nat.le_of_ble_eq_true rfl)⟩ (Nat.le_of_ble_eq_true rfl) dL_law_535 (fun r u hp => ?_)
  obtain ⟨rfl, rfl⟩ := hp
  refine s_aload_n E dL_law_538 rfl rfl ?_
  refine s_xload_n E dL_law_539 rfl rfl ?_
  refine s_iload_n E dL_law_540 rfl rfl ?_
  refine s_iconst (v := 1) E dL_law_541 (by decide) ?_
  refine s_iadd E dL_law_542 ?_
  refine s_top (y := 1) (by decide) ?_
  refine s_sld E hX hb0 hb (vp_c (by decide)) dL_law_543 ?_
  refine s_top (y := (xs 1)) (congrArg xs (by decide)) ?_
  refine s_xload_n E dL_law_544 rfl rfl ?_
  refine s_iload_n E dL_law_545 rfl rfl ?_
  refine s_iconst (v := 2) E dL_law_546 (by decide) ?_
  refine s_iadd E dL_law_547 ?_
  refine s_top (y := 2) (by decide) ?_
  refine s_sld E hX hb0 hb (vp_c (by decide)) dL_law_548 ?_
  refine s_top (y := (xs 2)) (congrArg xs (by decide)) ?_
  refine s_vI (As := [AI (xs 1), AI (xs 2)]) (S := [AI (-2)]) E (K_X10_minister_95_MS l D aC b wv_318 ((xs 1)) ((xs 2)) FrM_0 RfM_0) cv_L_44 rfl rfl rfl (ltn FrC_0.1 (by decide)) (Nat.le_of_ble_eq_true rfl) (Nat.le_of_ble_eq_true rfl) ⟨(Nat.le_of_ble_eq_true rfl), (Nat.le_of_ble_eq_true rfl)⟩ (Nat.le_of_ble_eq_true rfl) dL_law_549 (fun r u_1 hp => ?_)
  obtain ⟨rfl, hu_1, hu_2⟩ := hp
  refine s_icmp_eq (tgt := 2494) E dL_law_552 (by decide) (fun _ => ?_) (fun hh => absurd (by decide) hh)
  exact law_tail l E hb hX hb0 u_1
set_option maxRecDepth 20000 in
set_option maxHeartbeats 2000000 in
theorem lawc_7 {p : Program} {e : Env} {s : State} {m : MethodId} {below : List Frame} {meth : Method} {c : Code} (l : Launch) {b0 b : Nat} {xs : Nat → Int32} {D : va_G} {aC : Nat → ClassId} (E : EE p s m meth c D aC b 4 cL_law RL ret) (hb : b = s.heap.size) (hX : va_X b0 6 xs s s.heap) (hb0 : b0 < s.heap.size) : Wv p l e room_1 s m #[Value.ref b0] below meth c (lw_Z below #[Value.ref b0] s) D aC b 4 557 [some (AX b0), some (AR 0), some (AR 95), some (AI 0)] [] wv_318 116 6683 := by
  refine s_aload_n E dL_law_557 rfl rfl ?_
  refine s_xload_n E dL_law_558 rfl rfl ?_
  refine s_iload_n E dL_law_559 rfl rfl ?_
  refine s_iconst (v := 1) E dL_law_560 (by decide) ?_
  refine s_iadd E dL_law_561 ?_
  refine s_top (y := 1) (by decide) ?_
  refine s_sld E hX hb0 hb (vp_c (by decide)) dL_law_562 ?_
  refine s_top (y := (xs 1)) (congrArg xs (by decide)) ?_
  refine s_xload_n E dL_law_563 rfl rfl ?_
  refine s_iload_n E dL_law_564 rfl rfl ?_
  refine s_iconst (v := 2) E dL_law_565 (by decide) ?_
  refine s_iadd E dL_law_566 ?_
  refine s_top (y := 2) (by decide) ?_
  refine s_sld E hX hb0 hb (vp_c (by decide)) dL_law_567 ?_
  refine s_top (y := (xs 2)) (congrArg xs (by decide)) ?_
  refine s_xload_n E dL_law_568 rfl rfl ?_
  refine s_iload_n E dL_law_569 rfl rfl ?_
  refine s_iconst (v := 3) E dL_law_570 (by decide) ?_
  refine s_iadd E dL_law_571 ?_
  refine s_top (y := 3) (by decide) ?_
  refine s_sld E hX hb0 hb (vp_c (by decide)) dL_law_572 ?_
  refine s_top (y := (xs 3)) (congrArg xs (by decide)) ?_
  refine s_vI (As := [AI (xs 1), AI (xs 2), AI (xs 3)]) (S := []) E (K_X9_way_0_CRMS l D aC b wv_318 ((xs 1)) ((xs 2)) ((xs 3)) FrC_0 RfC_0 FrM_0 RfM_0) cv_L_45 rfl rfl rfl (ltn FrC_0.1 (by decide)) (Nat.le_of_ble_eq_true rfl) (Nat.le_of_ble_eq_true rfl) ⟨(Nat.le_of_ble_eq_true rfl), (Nat.le_of_ble_eq_true rfl)⟩ (Nat.le_of_ble_eq_true rfl) dL_law_573 (fun r u hp => ?_)
  obtain ⟨rfl, rfl⟩ := hp
  refine s_aload_n E dL_law_576 rfl rfl ?_
  refine s_xload_n E dL_law_577 rfl rfl ?_
  refine s_iload_n E dL_law_578 rfl rfl ?_
  refine s_iconst (v := 1) E dL_law_579 (by decide) ?_
  refine s_iadd E dL_law_580 ?_
  refine s_top (y := 1) (by decide) ?_
  refine s_sld E hX hb0 hb (vp_c (by decide)) dL_law_581 ?_
  refine s_top (y := (xs 1)) (congrArg xs (by decide)) ?_
  refine s_xload_n E dL_law_582 rfl rfl ?_
  refine s_iload_n E dL_law_583 rfl rfl ?_
  refine s_iconst (v := 2) E dL_law_584 (by decide) ?_
  refine s_iadd E dL_law_585 ?_
  refine s_top (y := 2) (by decide) ?_
  refine s_sld E hX hb0 hb (vp_c (by decide)) dL_law_586 ?_
  refine s_top (y := (xs 2)) (congrArg xs (by decide)) ?_
  refine s_xload_n E dL_law_587 rfl rfl ?_
  refine s_iload_n E dL_law_588 rfl rfl ?_
  refine s_iconst (v := 3) E dL_law_589 (by decide) ?_
  refine s_iadd E dL_law_590 ?_
  refine s_top (y := 3) (by decide) ?_
  refine s_sld E hX hb0 hb (vp_c (by decide)) dL_law_591 ?_
  refine s_top (y := (xs 3)) (congrArg xs (by decide)) ?_
  refine s_vI (As := [AI (xs 1), AI (xs 2), AI (xs 3)]) (S := [AI (-2)]) E (K_X10_way_95_MS l D aC b wv_318 ((xs 1)) ((xs 2)) ((xs 3)) FrM_0 RfM_0) cv_L_49 rfl rfl rfl (ltn FrC_0.1 (by decide)) (Nat.le_of_ble_eq_true rfl) (Nat.le_of_ble_eq_true rfl) ⟨(Nat.le_of_ble_eq_true rfl), (Nat.le_of_ble_eq_true rfl)⟩ (Nat.le_of_ble_eq_true rfl) dL_law_592 (fun r u_1 hp => ?_)
  obtain ⟨rfl, hu_1, hu_2⟩ := hp
  refine s_icmp_eq (tgt := 2494) E dL_law_595 (by decide) (fun _ => ?_) (fun hh => absurd (by decide) hh)
  exact law_tail l E hb hX hb0 u_1
set_option maxRecDepth 20000 in
set_option maxHeartbeats 2000000 in
theorem lawc_8 {p : Program} {e : Env} {s : State} {m : MethodId} {below : List Frame} {meth : Method} {c : Code} (l : Launch) {b0 b : Nat} {xs : Nat → Int32} {D : va_G} {aC : Nat → ClassId} (E : EE p s m meth c D aC b 4 cL_law RL ret) (hb : b = s.heap.size) (hX : va_X b0 6 xs s s.heap) (hb0 : b0 < s.heap.size) : Wv p l e room_1 s m #[Value.ref b0] below meth c (lw_Z below #[Value.ref b0] s) D aC b 4 600 [some (AX b0), some (AR 0), some (AR 95), some (AI 0)] [] wv_318 116 6683 := by
  refine s_aload_n E dL_law_600 rfl rfl ?_
  refine s_xload_n E dL_law_601 rfl rfl ?_
  refine s_iload_n E dL_law_602 rfl rfl ?_
  refine s_iconst (v := 1) E dL_law_603 (by decide) ?_
  refine s_iadd E dL_law_604 ?_
  refine s_top (y := 1) (by decide) ?_
  refine s_sld E hX hb0 hb (vp_c (by decide)) dL_law_605 ?_
  refine s_top (y := (xs 1)) (congrArg xs (by decide)) ?_
  refine s_xload_n E dL_law_606 rfl rfl ?_
  refine s_iload_n E dL_law_607 rfl rfl ?_
  refine s_iconst (v := 2) E dL_law_608 (by decide) ?_
  refine s_iadd E dL_law_609 ?_
  refine s_top (y := 2) (by decide) ?_
  refine s_sld E hX hb0 hb (vp_c (by decide)) dL_law_610 ?_
  refine s_top (y := (xs 2)) (congrArg xs (by decide)) ?_
  refine s_vI (As := [AI (xs 1), AI (xs 2)]) (S := []) E (K_X9_reach_0_CRMS l D aC b wv_318 ((xs 1)) ((xs 2)) FrC_0 RfC_0 FrM_0 RfM_0) cv_L_50 rfl rfl rfl (ltn FrC_0.1 (by decide)) (Nat.le_of_ble_eq_true rfl) (Nat.le_of_ble_eq_true rfl) ⟨(Nat.le_of_ble_eq_true rfl), (Nat.le_of_ble_eq_true rfl)⟩ (Nat.le_of_ble_eq_true rfl) dL_law_611 (fun r u hp => ?_)
  obtain ⟨rfl, rfl⟩ := hp
  refine s_aload_n E dL_law_614 rfl rfl ?_
  refine s_xload_n E dL_law_615 rfl rfl ?_
  refine s_iload_n E dL_law_616 rfl rfl ?_
  refine s_iconst (v := 1) E dL_law_617 (by decide) ?_
  refine s_iadd E dL_law_618 ?_
  refine s_top (y := 1) (by decide) ?_
  refine s_sld E hX hb0 hb (vp_c (by decide)) dL_law_619 ?_
  refine s_top (y := (xs 1)) (congrArg xs (by decide)) ?_
  refine s_xload_n E dL_law_620 rfl rfl ?_
  refine s_iload_n E dL_law_621 rfl rfl ?_
  refine s_iconst (v := 2) E dL_law_622 (by decide) ?_
  refine s_iadd E dL_law_623 ?_
  refine s_top (y := 2) (by decide) ?_
  refine s_sld E hX hb0 hb (vp_c (by decide)) dL_law_624 ?_
  refine s_top (y := (xs 2)) (congrArg xs (by decide)) ?_
  refine s_vI (As := [AI (xs 1), AI (xs 2)]) (S := [AI (-2)]) E (K_X10_reach_95_MS l D aC b wv_318 ((xs 1)) ((xs 2)) FrM_0 RfM_0) cv_L_53 rfl rfl rfl (ltn FrC_0.1 (by decide)) (Nat.le_of_ble_eq_true rfl) (Nat.le_of_ble_eq_true rfl) ⟨(Nat.le_of_ble_eq_true rfl), (Nat.le_of_ble_eq_true rfl)⟩ (Nat.le_of_ble_eq_true rfl) dL_law_625 (fun r u_1 hp => ?_)
  obtain ⟨rfl, hu_1, hu_2⟩ := hp
  refine s_icmp_eq (tgt := 2494) E dL_law_628 (by decide) (fun _ => ?_) (fun hh => absurd (by decide) hh)
  exact law_tail l E hb hX hb0 u_1
set_option maxRecDepth 20000 in
set_option maxHeartbeats 2000000 in
theorem lawc_9 {p : Program} {e : Env} {s : State} {m : MethodId} {below : List Frame} {meth : Method} {c : Code} (l : Launch) {b0 b : Nat} {xs : Nat → Int32} {D : va_G} {aC : Nat → ClassId} (E : EE p s m meth c D aC b 4 cL_law RL ret) (hb : b = s.heap.size) (hX : va_X b0 6 xs s s.heap) (hb0 : b0 < s.heap.size) : Wv p l e room_1 s m #[Value.ref b0] below meth c (lw_Z below #[Value.ref b0] s) D aC b 4 633 [some (AX b0), some (AR 0), some (AR 95), some (AI 0)] [] wv_318 116 6683 := by
  refine s_aload_n E dL_law_633 rfl rfl ?_
  refine s_xload_n E dL_law_634 rfl rfl ?_
  refine s_iload_n E dL_law_635 rfl rfl ?_
  refine s_iconst (v := 1) E dL_law_636 (by decide) ?_
  refine s_iadd E dL_law_637 ?_
  refine s_top (y := 1) (by decide) ?_
  refine s_sld E hX hb0 hb (vp_c (by decide)) dL_law_638 ?_
  refine s_top (y := (xs 1)) (congrArg xs (by decide)) ?_
  refine s_xload_n E dL_law_639 rfl rfl ?_
  refine s_iload_n E dL_law_640 rfl rfl ?_
  refine s_iconst (v := 2) E dL_law_641 (by decide) ?_
  refine s_iadd E dL_law_642 ?_
  refine s_top (y := 2) (by decide) ?_
  refine s_sld E hX hb0 hb (vp_c (by decide)) dL_law_643 ?_
  refine s_top (y := (xs 2)) (congrArg xs (by decide)) ?_
  refine s_vI (As := [AI (xs 1), AI (xs 2)]) (S := []) E (K_X9_bidden_0_CRMS l D aC b wv_318 ((xs 1)) ((xs 2)) FrC_0 RfC_0 FrM_0 RfM_0) cv_L_54 rfl rfl rfl (ltn FrC_0.1 (by decide)) (Nat.le_of_ble_eq_true rfl) (Nat.le_of_ble_eq_true rfl) ⟨(Nat.le_of_ble_eq_true rfl), (Nat.le_of_ble_eq_true rfl)⟩ (Nat.le_of_ble_eq_true rfl) dL_law_644 (fun r u hp => ?_)
  obtain ⟨rfl, rfl⟩ := hp
  refine s_aload_n E dL_law_647 rfl rfl ?_
  refine s_xload_n E dL_law_648 rfl rfl ?_
  refine s_iload_n E dL_law_649 rfl rfl ?_
  refine s_iconst (v := 1) E dL_law_650 (by decide) ?_
  refine s_iadd E dL_law_651 ?_
  refine s_top (y := 1) (by decide) ?_
  refine s_sld E hX hb0 hb (vp_c (by decide)) dL_law_652 ?_
  refine s_top (y := (xs 1)) (congrArg xs (by decide)) ?_
  refine s_xload_n E dL_law_653 rfl rfl ?_
  refine s_iload_n E dL_law_654 rfl rfl ?_
  refine s_iconst (v := 2) E dL_law_655 (by decide) ?_
  refine s_iadd E dL_law_656 ?_
  refine s_top (y := 2) (by decide) ?_
  refine s_sld E hX hb0 hb (vp_c (by decide)) dL_law_657 ?_
  refine s_top (y := (xs 2)) (congrArg xs (by decide)) ?_
  refine s_vI (As := [AI (xs 1), AI (xs 2)]) (S := [AI (-2)]) E (K_X10_bidden_95_MS l D aC b wv_318 ((xs 1)) ((xs 2)) FrM_0 RfM_0) cv_L_57 rfl rfl rfl (ltn FrC_0.1 (by decide)) (Nat.le_of_ble_eq_true rfl) (Nat.le_of_ble_eq_true rfl) ⟨(Nat.le_of_ble_eq_true rfl), (Nat.le_of_ble_eq_true rfl)⟩ (Nat.le_of_ble_eq_true rfl) dL_law_658 (fun r u hp => ?_)
  obtain ⟨rfl, rfl⟩ := hp
  refine s_icmp_eq (tgt := 2494) E dL_law_661 (by decide) (fun _ => ?_) (fun hh => absurd (by decide) hh)
  exact law_tail l E hb hX hb0 wv_318
set_option maxRecDepth 20000 in
set_option maxHeartbeats 2000000 in
theorem lawc_10 {p : Program} {e : Env} {s : State} {m : MethodId} {below : List Frame} {meth : Method} {c : Code} (l : Launch) {b0 b : Nat} {xs : Nat → Int32} {D : va_G} {aC : Nat → ClassId} (E : EE p s m meth c D aC b 4 cL_law RL ret) (hb : b = s.heap.size) (hX : va_X b0 6 xs s s.heap) (hb0 : b0 < s.heap.size) : Wv p l e room_1 s m #[Value.ref b0] below meth c (lw_Z below #[Value.ref b0] s) D aC b 4 666 [some (AX b0), some (AR 0), some (AR 95), some (AI 0)] [] wv_318 116 6683 := by
  refine s_aload_n E dL_law_666 rfl rfl ?_
  refine s_xload_n E dL_law_667 rfl rfl ?_
  refine s_iload_n E dL_law_668 rfl rfl ?_
  refine s_iconst (v := 1) E dL_law_669 (by decide) ?_
  refine s_iadd E dL_law_670 ?_
  refine s_top (y := 1) (by decide) ?_
  refine s_sld E hX hb0 hb (vp_c (by decide)) dL_law_671 ?_
  refine s_top (y := (xs 1)) (congrArg xs (by decide)) ?_
  refine s_xload_n E dL_law_672 rfl rfl ?_
  refine s_iload_n E dL_law_673 rfl rfl ?_
  refine s_iconst (v := 2) E dL_law_674 (by decide) ?_
  refine s_iadd E dL_law_675 ?_
  refine s_top (y := 2) (by decide) ?_
  refine s_sld E hX hb0 hb (vp_c (by decide)) dL_law_676 ?_
  refine s_top (y := (xs 2)) (congrArg xs (by decide)) ?_
  refine s_vI (As := [AI (xs 1), AI (xs 2)]) (S := []) E (K_X9_at_0_CRMS l D aC b wv_318 ((xs 1)) ((xs 2)) FrC_0 RfC_0 FrM_0 RfM_0) cv_L_58 rfl rfl rfl (ltn FrC_0.1 (by decide)) (Nat.le_of_ble_eq_true rfl) (Nat.le_of_ble_eq_true rfl) ⟨(Nat.le_of_ble_eq_true rfl), (Nat.le_of_ble_eq_true rfl)⟩ (Nat.le_of_ble_eq_true rfl) dL_law_677 (fun r u hp => ?_)
  obtain ⟨rfl, rfl⟩ := hp
  refine s_aload_n E dL_law_680 rfl rfl ?_
  refine s_xload_n E dL_law_681 rfl rfl ?_
  refine s_iload_n E dL_law_682 rfl rfl ?_
  refine s_iconst (v := 1) E dL_law_683 (by decide) ?_
  refine s_iadd E dL_law_684 ?_
  refine s_top (y := 1) (by decide) ?_
  refine s_sld E hX hb0 hb (vp_c (by decide)) dL_law_685 ?_
  refine s_top (y := (xs 1)) (congrArg xs (by decide)) ?_
  refine s_xload_n E dL_law_686 rfl rfl ?_
  refine s_iload_n E dL_law_687 rfl rfl ?_
  refine s_iconst (v := 2) E dL_law_688 (by decide) ?_
  refine s_iadd E dL_law_689 ?_
  refine s_top (y := 2) (by decide) ?_
  refine s_sld E hX hb0 hb (vp_c (by decide)) dL_law_690 ?_
  refine s_top (y := (xs 2)) (congrArg xs (by decide)) ?_
  refine s_vI (As := [AI (xs 1), AI (xs 2)]) (S := [AI (-2)]) E (K_X10_at_95_MS l D aC b wv_318 ((xs 1)) ((xs 2)) FrM_0 RfM_0) cv_L_61 rfl rfl rfl (ltn FrC_0.1 (by decide)) (Nat.le_of_ble_eq_true rfl) (Nat.le_of_ble_eq_true rfl) ⟨(Nat.le_of_ble_eq_true rfl), (Nat.le_of_ble_eq_true rfl)⟩ (Nat.le_of_ble_eq_true rfl) dL_law_691 (fun r u_1 hp => ?_)
  obtain ⟨rfl, hu_1, hu_2⟩ := hp
  refine s_icmp_eq (tgt := 2494) E dL_law_694 (by decide) (fun _ => ?_) (fun hh => absurd (by decide) hh)
  exact law_tail l E hb hX hb0 u_1
set_option maxRecDepth 20000 in
set_option maxHeartbeats 2000000 in
theorem lawc_11 {p : Program} {e : Env} {s : State} {m : MethodId} {below : List Frame} {meth : Method} {c : Code} (l : Launch) {b0 b : Nat} {xs : Nat → Int32} {D : va_G} {aC : Nat → ClassId} (E : EE p s m meth c D aC b 4 cL_law RL ret) (hb : b = s.heap.size) (hX : va_X b0 6 xs s s.heap) (hb0 : b0 < s.heap.size) : Wv p l e room_1 s m #[Value.ref b0] below meth c (lw_Z below #[Value.ref b0] s) D aC b 4 699 [some (AX b0), some (AR 0), some (AR 95), some (AI 0)] [] wv_318 116 6683 := by
  refine s_aload_n E dL_law_699 rfl rfl ?_
  refine s_xload_n E dL_law_700 rfl rfl ?_
  refine s_iload_n E dL_law_701 rfl rfl ?_
  refine s_iconst (v := 1) E dL_law_702 (by decide) ?_
  refine s_iadd E dL_law_703 ?_
  refine s_top (y := 1) (by decide) ?_
  refine s_sld E hX hb0 hb (vp_c (by decide)) dL_law_704 ?_
  refine s_top (y := (xs 1)) (congrArg xs (by decide)) ?_
  refine s_xload_n E dL_law_705 rfl rfl ?_
  refine s_iload_n E dL_law_706 rfl rfl ?_
  refine s_iconst (v := 2) E dL_law_707 (by decide) ?_
  refine s_iadd E dL_law_708 ?_
  refine s_top (y := 2) (by decide) ?_
  refine s_sld E hX hb0 hb (vp_c (by decide)) dL_law_709 ?_
  refine s_top (y := (xs 2)) (congrArg xs (by decide)) ?_
  refine s_vI (As := [AI (xs 1), AI (xs 2)]) (S := []) E (K_X9_within_0_CRMS l D aC b wv_318 ((xs 1)) ((xs 2)) FrC_0 RfC_0 FrM_0 RfM_0) cv_L_62 rfl rfl rfl (ltn FrC_0.1 (by decide)) (Nat.le_of_ble_eq_true rfl) (Nat.le_of_ble_eq_true rfl) ⟨(Nat.le_of_ble_eq_true rfl), (Nat.le_of_ble_eq_true rfl)⟩ (Nat.le_of_ble_eq_true rfl) dL_law_710 (fun r u hp => ?_)
  obtain ⟨rfl, rfl⟩ := hp
  refine s_aload_n E dL_law_713 rfl rfl ?_
  refine s_xload_n E dL_law_714 rfl rfl ?_
  refine s_iload_n E dL_law_715 rfl rfl ?_
  refine s_iconst (v := 1) E dL_law_716 (by decide) ?_
  refine s_iadd E dL_law_717 ?_
  refine s_top (y := 1) (by decide) ?_
  refine s_sld E hX hb0 hb (vp_c (by decide)) dL_law_718 ?_
  refine s_top (y := (xs 1)) (congrArg xs (by decide)) ?_
  refine s_xload_n E dL_law_719 rfl rfl ?_
  refine s_iload_n E dL_law_720 rfl rfl ?_
  refine s_iconst (v := 2) E dL_law_721 (by decide) ?_
  refine s_iadd E dL_law_722 ?_
  refine s_top (y := 2) (by decide) ?_
  refine s_sld E hX hb0 hb (vp_c (by decide)) dL_law_723 ?_
  refine s_top (y := (xs 2)) (congrArg xs (by decide)) ?_
  refine s_vI (As := [AI (xs 1), AI (xs 2)]) (S := [AI (-2)]) E (K_X10_within_95_MS l D aC b wv_318 ((xs 1)) ((xs 2)) FrM_0 RfM_0) cv_L_65 rfl rfl rfl (ltn FrC_0.1 (by decide)) (Nat.le_of_ble_eq_true rfl) (Nat.le_of_ble_eq_true rfl) ⟨(Nat.le_of_ble_eq_true rfl), (Nat.le_of_ble_eq_true rfl)⟩ (Nat.le_of_ble_eq_true rfl) dL_law_724 (fun r u_1 hp => ?_)
  obtain ⟨rfl, hu_1, hu_2⟩ := hp
  refine s_icmp_eq (tgt := 2494) E dL_law_727 (by decide) (fun _ => ?_) (fun hh => absurd (by decide) hh)
  exact law_tail l E hb hX hb0 u_1
set_option maxRecDepth 20000 in
set_option maxHeartbeats 2000000 in
theorem lawc_12 {p : Program} {e : Env} {s : State} {m : MethodId} {below : List Frame} {meth : Method} {c : Code} (l : Launch) {b0 b : Nat} {xs : Nat → Int32} {D : va_G} {aC : Nat → ClassId} (E : EE p s m meth c D aC b 4 cL_law RL ret) (hb : b = s.heap.size) (hX : va_X b0 6 xs s s.heap) (hb0 : b0 < s.heap.size) : Wv p l e room_1 s m #[Value.ref b0] below meth c (lw_Z below #[Value.ref b0] s) D aC b 4 732 [some (AX b0), some (AR 0), some (AR 95), some (AI 0)] [] wv_318 116 6683 := by
  refine s_aload_n E dL_law_732 rfl rfl ?_
  refine s_xload_n E dL_law_733 rfl rfl ?_
  refine s_iload_n E dL_law_734 rfl rfl ?_
  refine s_iconst (v := 1) E dL_law_735 (by decide) ?_
  refine s_iadd E dL_law_736 ?_
  refine s_top (y := 1) (by decide) ?_
  refine s_sld E hX hb0 hb (vp_c (by decide)) dL_law_737 ?_
  refine s_top (y := (xs 1)) (congrArg xs (by decide)) ?_
  refine s_vI (As := [AI (xs 1)]) (S := []) E (K_X9_steps_0_CRMS l D aC b wv_318 ((xs 1)) FrC_0 RfC_0 FrM_0 RfM_0) cv_L_66 rfl rfl rfl (ltn FrC_0.1 (by decide)) (Nat.le_of_ble_eq_true rfl) (Nat.le_of_ble_eq_true rfl) ⟨(Nat.le_of_ble_eq_true rfl), (Nat.le_of_ble_eq_true rfl)⟩ (Nat.le_of_ble_eq_true rfl) dL_law_738 (fun r u hp => ?_)
  obtain ⟨rfl, rfl⟩ := hp
  refine s_aload_n E dL_law_741 rfl rfl ?_
  refine s_xload_n E dL_law_742 rfl rfl ?_
  refine s_iload_n E dL_law_743 rfl rfl ?_
  refine s_iconst (v := 1) E dL_law_744 (by decide) ?_
  refine s_iadd E dL_law_745 ?_
  refine s_top (y := 1) (by decide) ?_
  refine s_sld E hX hb0 hb (vp_c (by decide)) dL_law_746 ?_
  refine s_top (y := (xs 1)) (congrArg xs (by decide)) ?_
  refine s_vI (As := [AI (xs 1)]) (S := [AI (-2)]) E (K_X10_steps_95_MS l D aC b wv_318 ((xs 1)) FrM_0 RfM_0) cv_L_69 rfl rfl rfl (ltn FrC_0.1 (by decide)) (Nat.le_of_ble_eq_true rfl) (Nat.le_of_ble_eq_true rfl) ⟨(Nat.le_of_ble_eq_true rfl), (Nat.le_of_ble_eq_true rfl)⟩ (Nat.le_of_ble_eq_true rfl) dL_law_747 (fun r u_1 hp => ?_)
  obtain ⟨rfl, hu_1, hu_2⟩ := hp
  refine s_icmp_eq (tgt := 2494) E dL_law_750 (by decide) (fun _ => ?_) (fun hh => absurd (by decide) hh)
  exact law_tail l E hb hX hb0 u_1
set_option maxRecDepth 20000 in
set_option maxHeartbeats 2000000 in
theorem lawc_13 {p : Program} {e : Env} {s : State} {m : MethodId} {below : List Frame} {meth : Method} {c : Code} (l : Launch) {b0 b : Nat} {xs : Nat → Int32} {D : va_G} {aC : Nat → ClassId} (E : EE p s m meth c D aC b 4 cL_law RL ret) (hb : b = s.heap.size) (hX : va_X b0 6 xs s s.heap) (hb0 : b0 < s.heap.size) : Wv p l e room_1 s m #[Value.ref b0] below meth c (lw_Z below #[Value.ref b0] s) D aC b 4 755 [some (AX b0), some (AR 0), some (AR 95), some (AI 0)] [] wv_318 116 6683 := by
  refine s_aload_n E dL_law_755 rfl rfl ?_
  refine s_xload_n E dL_law_756 rfl rfl ?_
  refine s_iload_n E dL_law_757 rfl rfl ?_
  refine s_iconst (v := 1) E dL_law_758 (by decide) ?_
  refine s_iadd E dL_law_759 ?_
  refine s_top (y := 1) (by decide) ?_
  refine s_sld E hX hb0 hb (vp_c (by decide)) dL_law_760 ?_
  refine s_top (y := (xs 1)) (congrArg xs (by decide)) ?_
  refine s_vI (As := [AI (xs 1)]) (S := []) E (K_X9_sees_0_CRMS l D aC b wv_318 ((xs 1)) FrC_0 RfC_0 FrM_0 RfM_0) cv_L_70 rfl rfl rfl (ltn FrC_0.1 (by decide)) (Nat.le_of_ble_eq_true rfl) (Nat.le_of_ble_eq_true rfl) ⟨(Nat.le_of_ble_eq_true rfl), (Nat.le_of_ble_eq_true rfl)⟩ (Nat.le_of_ble_eq_true rfl) dL_law_761 (fun r u hp => ?_)
  obtain ⟨rfl, rfl⟩ := hp
  refine s_aload_n E dL_law_764 rfl rfl ?_
  refine s_xload_n E dL_law_765 rfl rfl ?_
  refine s_iload_n E dL_law_766 rfl rfl ?_
  refine s_iconst (v := 1) E dL_law_767 (by decide) ?_
  refine s_iadd E dL_law_768 ?_
  refine s_top (y := 1) (by decide) ?_
  refine s_sld E hX hb0 hb (vp_c (by decide)) dL_law_769 ?_
  refine s_top (y := (xs 1)) (congrArg xs (by decide)) ?_
  refine s_vI (As := [AI (xs 1)]) (S := [AI (-2)]) E (K_X10_sees_95_MS l D aC b wv_318 ((xs 1)) FrM_0 RfM_0) cv_L_73 rfl rfl rfl (ltn FrC_0.1 (by decide)) (Nat.le_of_ble_eq_true rfl) (Nat.le_of_ble_eq_true rfl) ⟨(Nat.le_of_ble_eq_true rfl), (Nat.le_of_ble_eq_true rfl)⟩ (Nat.le_of_ble_eq_true rfl) dL_law_770 (fun r u_1 hp => ?_)
  obtain ⟨rfl, hu_1, hu_2⟩ := hp
  refine s_icmp_eq (tgt := 2494) E dL_law_773 (by decide) (fun _ => ?_) (fun hh => absurd (by decide) hh)
  exact law_tail l E hb hX hb0 u_1
set_option maxRecDepth 20000 in
set_option maxHeartbeats 2000000 in
theorem lawc_14 {p : Program} {e : Env} {s : State} {m : MethodId} {below : List Frame} {meth : Method} {c : Code} (l : Launch) {b0 b : Nat} {xs : Nat → Int32} {D : va_G} {aC : Nat → ClassId} (E : EE p s m meth c D aC b 4 cL_law RL ret) (hb : b = s.heap.size) (hX : va_X b0 6 xs s s.heap) (hb0 : b0 < s.heap.size) : Wv p l e room_1 s m #[Value.ref b0] below meth c (lw_Z below #[Value.ref b0] s) D aC b 4 778 [some (AX b0), some (AR 0), some (AR 95), some (AI 0)] [] wv_318 116 6683 := by
  refine s_aload_n E dL_law_778 rfl rfl ?_
  refine s_xload_n E dL_law_779 rfl rfl ?_
  refine s_iload_n E dL_law_780 rfl rfl ?_
  refine s_iconst (v := 1) E dL_law_781 (by decide) ?_
  refine s_iadd E dL_law_782 ?_
  refine s_top (y := 1) (by decide) ?_
  refine s_sld E hX hb0 hb (vp_c (by decide)) dL_law_783 ?_
  refine s_top (y := (xs 1)) (congrArg xs (by decide)) ?_
  refine s_xload_n E dL_law_784 rfl rfl ?_
  refine s_iload_n E dL_law_785 rfl rfl ?_
  refine s_iconst (v := 2) E dL_law_786 (by decide) ?_
  refine s_iadd E dL_law_787 ?_
  refine s_top (y := 2) (by decide) ?_
  refine s_sld E hX hb0 hb (vp_c (by decide)) dL_law_788 ?_
  refine s_top (y := (xs 2)) (congrArg xs (by decide)) ?_
  refine s_vI (As := [AI (xs 1), AI (xs 2)]) (S := []) E (K_X9_meets_0_CRMS l D aC b wv_318 ((xs 1)) ((xs 2)) FrC_0 RfC_0 FrM_0 RfM_0) cv_L_74 rfl rfl rfl (ltn FrC_0.1 (by decide)) (Nat.le_of_ble_eq_true rfl) (Nat.le_of_ble_eq_true rfl) ⟨(Nat.le_of_ble_eq_true rfl), (Nat.le_of_ble_eq_true rfl)⟩ (Nat.le_of_ble_eq_true rfl) dL_law_789 (fun r u hp => ?_)
  obtain ⟨rfl, rfl⟩ := hp
  refine s_aload_n E dL_law_792 rfl rfl ?_
  refine s_xload_n E dL_law_793 rfl rfl ?_
  refine s_iload_n E dL_law_794 rfl rfl ?_
  refine s_iconst (v := 1) E dL_law_795 (by decide) ?_
  refine s_iadd E dL_law_796 ?_
  refine s_top (y := 1) (by decide) ?_
  refine s_sld E hX hb0 hb (vp_c (by decide)) dL_law_797 ?_
  refine s_top (y := (xs 1)) (congrArg xs (by decide)) ?_
  refine s_xload_n E dL_law_798 rfl rfl ?_
  refine s_iload_n E dL_law_799 rfl rfl ?_
  refine s_iconst (v := 2) E dL_law_800 (by decide) ?_
  refine s_iadd E dL_law_801 ?_
  refine s_top (y := 2) (by decide) ?_
  refine s_sld E hX hb0 hb (vp_c (by decide)) dL_law_802 ?_
  refine s_top (y := (xs 2)) (congrArg xs (by decide)) ?_
  refine s_vI (As := [AI (xs 1), AI (xs 2)]) (S := [AI (-2)]) E (K_X10_meets_95_MS l D aC b wv_318 ((xs 1)) ((xs 2)) FrM_0 RfM_0) cv_L_77 rfl rfl rfl (ltn FrC_0.1 (by decide)) (Nat.le_of_ble_eq_true rfl) (Nat.le_of_ble_eq_true rfl) ⟨(Nat.le_of_ble_eq_true rfl), (Nat.le_of_ble_eq_true rfl)⟩ (Nat.le_of_ble_eq_true rfl) dL_law_803 (fun r u_1 hp => ?_)
  obtain ⟨rfl, hu_1, hu_2⟩ := hp
  refine s_icmp_eq (tgt := 2494) E dL_law_806 (by decide) (fun _ => ?_) (fun hh => absurd (by decide) hh)
  exact law_tail l E hb hX hb0 u_1
set_option maxRecDepth 20000 in
set_option maxHeartbeats 2000000 in
theorem lawc_15 {p : Program} {e : Env} {s : State} {m : MethodId} {below : List Frame} {meth : Method} {c : Code} (l : Launch) {b0 b : Nat} {xs : Nat → Int32} {D : va_G} {aC : Nat → ClassId} (E : EE p s m meth c D aC b 4 cL_law RL ret) (hb : b = s.heap.size) (hX : va_X b0 6 xs s s.heap) (hb0 : b0 < s.heap.size) : Wv p l e room_1 s m #[Value.ref b0] below meth c (lw_Z below #[Value.ref b0] s) D aC b 4 811 [some (AX b0), some (AR 0), some (AR 95), some (AI 0)] [] wv_318 116 6683 := by
  refine s_aload_n E dL_law_811 rfl rfl ?_
  refine s_xload_n E dL_law_812 rfl rfl ?_
  refine s_iload_n E dL_law_813 rfl rfl ?_
  refine s_iconst (v := 1) E dL_law_814 (by decide) ?_
  refine s_iadd E dL_law_815 ?_
  refine s_top (y := 1) (by decide) ?_
  refine s_sld E hX hb0 hb (vp_c (by decide)) dL_law_816 ?_
  refine s_top (y := (xs 1)) (congrArg xs (by decide)) ?_
  refine s_xload_n E dL_law_817 rfl rfl ?_
  refine s_iload_n E dL_law_818 rfl rfl ?_
  refine s_iconst (v := 2) E dL_law_819 (by decide) ?_
  refine s_iadd E dL_law_820 ?_
  refine s_top (y := 2) (by decide) ?_
  refine s_sld E hX hb0 hb (vp_c (by decide)) dL_law_821 ?_
  refine s_top (y := (xs 2)) (congrArg xs (by decide)) ?_
  refine s_vI (As := [AI (xs 1), AI (xs 2)]) (S := []) E (K_X9_often_0_CRMS l D aC b wv_318 ((xs 1)) ((xs 2)) FrC_0 RfC_0 FrM_0 RfM_0) cv_L_78 rfl rfl rfl (ltn FrC_0.1 (by decide)) (Nat.le_of_ble_eq_true rfl) (Nat.le_of_ble_eq_true rfl) ⟨(Nat.le_of_ble_eq_true rfl), (Nat.le_of_ble_eq_true rfl)⟩ (Nat.le_of_ble_eq_true rfl) dL_law_822 (fun r u hp => ?_)
  obtain ⟨rfl, rfl⟩ := hp
  refine s_aload_n E dL_law_825 rfl rfl ?_
  refine s_xload_n E dL_law_826 rfl rfl ?_
  refine s_iload_n E dL_law_827 rfl rfl ?_
  refine s_iconst (v := 1) E dL_law_828 (by decide) ?_
  refine s_iadd E dL_law_829 ?_
  refine s_top (y := 1) (by decide) ?_
  refine s_sld E hX hb0 hb (vp_c (by decide)) dL_law_830 ?_
  refine s_top (y := (xs 1)) (congrArg xs (by decide)) ?_
  refine s_xload_n E dL_law_831 rfl rfl ?_
  refine s_iload_n E dL_law_832 rfl rfl ?_
  refine s_iconst (v := 2) E dL_law_833 (by decide) ?_
  refine s_iadd E dL_law_834 ?_
  refine s_top (y := 2) (by decide) ?_
  refine s_sld E hX hb0 hb (vp_c (by decide)) dL_law_835 ?_
  refine s_top (y := (xs 2)) (congrArg xs (by decide)) ?_
  refine s_vI (As := [AI (xs 1), AI (xs 2)]) (S := [AI (-2)]) E (K_X10_often_95_MS l D aC b wv_318 ((xs 1)) ((xs 2)) FrM_0 RfM_0) cv_L_81 rfl rfl rfl (ltn FrC_0.1 (by decide)) (Nat.le_of_ble_eq_true rfl) (Nat.le_of_ble_eq_true rfl) ⟨(Nat.le_of_ble_eq_true rfl), (Nat.le_of_ble_eq_true rfl)⟩ (Nat.le_of_ble_eq_true rfl) dL_law_836 (fun r u_1 hp => ?_)
  obtain ⟨rfl, hu_1, hu_2⟩ := hp
  refine s_icmp_eq (tgt := 2494) E dL_law_839 (by decide) (fun _ => ?_) (fun hh => absurd (by decide) hh)
  exact law_tail l E hb hX hb0 u_1
set_option maxRecDepth 20000 in
set_option maxHeartbeats 2000000 in
theorem lawc_16 {p : Program} {e : Env} {s : State} {m : MethodId} {below : List Frame} {meth : Method} {c : Code} (l : Launch) {b0 b : Nat} {xs : Nat → Int32} {D : va_G} {aC : Nat → ClassId} (E : EE p s m meth c D aC b 4 cL_law RL ret) (hb : b = s.heap.size) (hX : va_X b0 6 xs s s.heap) (hb0 : b0 < s.heap.size) : Wv p l e room_1 s m #[Value.ref b0] below meth c (lw_Z below #[Value.ref b0] s) D aC b 4 844 [some (AX b0), some (AR 0), some (AR 95), some (AI 0)] [] wv_318 116 6683 := by
  refine s_aload_n E dL_law_844 rfl rfl ?_
  refine s_xload_n E dL_law_845 rfl rfl ?_
  refine s_iload_n E dL_law_846 rfl rfl ?_
  refine s_iconst (v := 1) E dL_law_847 (by decide) ?_
  refine s_iadd E dL_law_848 ?_
  refine s_top (y := 1) (by decide) ?_
  refine s_sld E hX hb0 hb (vp_c (by decide)) dL_law_849 ?_
  refine s_top (y := (xs 1)) (congrArg xs (by decide)) ?_
  refine s_vI (As := [AI (xs 1)]) (S := []) E (K_X9_friends_0_CRMS l D aC b wv_318 ((xs 1)) FrC_0 RfC_0 FrM_0 RfM_0) cv_L_82 rfl rfl rfl (ltn FrC_0.1 (by decide)) (Nat.le_of_ble_eq_true rfl) (Nat.le_of_ble_eq_true rfl) ⟨(Nat.le_of_ble_eq_true rfl), (Nat.le_of_ble_eq_true rfl)⟩ (Nat.le_of_ble_eq_true rfl) dL_law_850 (fun r u hp => ?_)
  obtain ⟨rfl, rfl⟩ := hp
  refine s_aload_n E dL_law_853 rfl rfl ?_
  refine s_xload_n E dL_law_854 rfl rfl ?_
  refine s_iload_n E dL_law_855 rfl rfl ?_
  refine s_iconst (v := 1) E dL_law_856 (by decide) ?_
  refine s_iadd E dL_law_857 ?_
  refine s_top (y := 1) (by decide) ?_
  refine s_sld E hX hb0 hb (vp_c (by decide)) dL_law_858 ?_
  refine s_top (y := (xs 1)) (congrArg xs (by decide)) ?_
  refine s_vI (As := [AI (xs 1)]) (S := [AI (-2)]) E (K_X10_friends_95_MS l D aC b wv_318 ((xs 1)) FrM_0 RfM_0) cv_L_85 rfl rfl rfl (ltn FrC_0.1 (by decide)) (Nat.le_of_ble_eq_true rfl) (Nat.le_of_ble_eq_true rfl) ⟨(Nat.le_of_ble_eq_true rfl), (Nat.le_of_ble_eq_true rfl)⟩ (Nat.le_of_ble_eq_true rfl) dL_law_859 (fun r u_1 hp => ?_)
  obtain ⟨rfl, hu_1, hu_2⟩ := hp
  refine s_icmp_eq (tgt := 2494) E dL_law_862 (by decide) (fun _ => ?_) (fun hh => absurd (by decide) hh)
  exact law_tail l E hb hX hb0 u_1
set_option maxRecDepth 20000 in
set_option maxHeartbeats 2000000 in
theorem lawc_17 {p : Program} {e : Env} {s : State} {m : MethodId} {below : List Frame} {meth : Method} {c : Code} (l : Launch) {b0 b : Nat} {xs : Nat → Int32} {D : va_G} {aC : Nat → ClassId} (E : EE p s m meth c D aC b 4 cL_law RL ret) (hb : b = s.heap.size) (hX : va_X b0 6 xs s s.heap) (hb0 : b0 < s.heap.size) : Wv p l e room_1 s m #[Value.ref b0] below meth c (lw_Z below #[Value.ref b0] s) D aC b 4 867 [some (AX b0), some (AR 0), some (AR 95), some (AI 0)] [] wv_318 116 6683 := by
  refine s_aload_n E dL_law_867 rfl rfl ?_
  refine s_vI (As := []) (S := []) E (K_X9_crush_0_CRMS l D aC b wv_318  FrC_0 RfC_0 FrM_0 RfM_0) cv_L_86 rfl rfl rfl (ltn FrC_0.1 (by decide)) (Nat.le_of_ble_eq_true rfl) (Nat.le_of_ble_eq_true rfl) ⟨(Nat.le_of_ble_eq_true rfl), (Nat.le_of_ble_eq_true rfl)⟩ (Nat.le_of_ble_eq_true rfl) dL_law_868 (fun r u hp => ?_)
  obtain ⟨rfl, rfl⟩ := hp
  refine s_aload_n E dL_law_871 rfl rfl ?_
  refine s_vI (As := []) (S := [AI (-2)]) E (K_X10_crush_95_MS l D aC b wv_318  FrM_0 RfM_0) cv_L_89 rfl rfl rfl (ltn FrC_0.1 (by decide)) (Nat.le_of_ble_eq_true rfl) (Nat.le_of_ble_eq_true rfl) ⟨(Nat.le_of_ble_eq_true rfl), (Nat.le_of_ble_eq_true rfl)⟩ (Nat.le_of_ble_eq_true rfl) dL_law_872 (fun r u_1 hp => ?_)
  obtain ⟨rfl, hu_1, hu_2⟩ := hp
  refine s_icmp_eq (tgt := 2494) E dL_law_875 (by decide) (fun _ => ?_) (fun hh => absurd (by decide) hh)
  exact law_tail l E hb hX hb0 u_1
set_option maxRecDepth 20000 in
set_option maxHeartbeats 2000000 in
theorem lawc_18 {p : Program} {e : Env} {s : State} {m : MethodId} {below : List Frame} {meth : Method} {c : Code} (l : Launch) {b0 b : Nat} {xs : Nat → Int32} {D : va_G} {aC : Nat → ClassId} (E : EE p s m meth c D aC b 4 cL_law RL ret) (hb : b = s.heap.size) (hX : va_X b0 6 xs s s.heap) (hb0 : b0 < s.heap.size) : Wv p l e room_1 s m #[Value.ref b0] below meth c (lw_Z below #[Value.ref b0] s) D aC b 4 880 [some (AX b0), some (AR 0), some (AR 95), some (AI 0)] [] wv_318 116 6683 := by
  refine s_aload_n E dL_law_880 rfl rfl ?_
  refine s_vI (As := []) (S := []) E (K_X9_crushed_0_CRMS l D aC b wv_318  FrC_0 RfC_0 FrM_0 RfM_0) cv_L_90 rfl rfl rfl (ltn FrC_0.1 (by decide)) (Nat.le_of_ble_eq_true rfl) (Nat.le_of_ble_eq_true rfl) ⟨(Nat.le_of_ble_eq_true rfl), (Nat.le_of_ble_eq_true rfl)⟩ (Nat.le_of_ble_eq_true rfl) dL_law_881 (fun r u hp => ?_)
  obtain ⟨rfl, rfl⟩ := hp
  refine s_aload_n E dL_law_884 rfl rfl ?_
  refine s_vI (As := []) (S := [AI (-2)]) E (K_X10_crushed_95_MS l D aC b wv_318  FrM_0 RfM_0) cv_L_93 rfl rfl rfl (ltn FrC_0.1 (by decide)) (Nat.le_of_ble_eq_true rfl) (Nat.le_of_ble_eq_true rfl) ⟨(Nat.le_of_ble_eq_true rfl), (Nat.le_of_ble_eq_true rfl)⟩ (Nat.le_of_ble_eq_true rfl) dL_law_885 (fun r u_1 hp => ?_)
  obtain ⟨rfl, hu_1, hu_2⟩ := hp
  refine s_icmp_eq (tgt := 2494) E dL_law_888 (by decide) (fun _ => ?_) (fun hh => absurd (by decide) hh)
  exact law_tail l E hb hX hb0 u_1
set_option maxRecDepth 20000 in
set_option maxHeartbeats 2000000 in
theorem lawc_19 {p : Program} {e : Env} {s : State} {m : MethodId} {below : List Frame} {meth : Method} {c : Code} (l : Launch) {b0 b : Nat} {xs : Nat → Int32} {D : va_G} {aC : Nat → ClassId} (E : EE p s m meth c D aC b 4 cL_law RL ret) (hb : b = s.heap.size) (hX : va_X b0 6 xs s s.heap) (hb0 : b0 < s.heap.size) : Wv p l e room_1 s m #[Value.ref b0] below meth c (lw_Z below #[Value.ref b0] s) D aC b 4 893 [some (AX b0), some (AR 0), some (AR 95), some (AI 0)] [] wv_318 116 6683 := by
  refine s_aload_n E dL_law_893 rfl rfl ?_
  refine s_xload_n E dL_law_894 rfl rfl ?_
  refine s_iload_n E dL_law_895 rfl rfl ?_
  refine s_iconst (v := 1) E dL_law_896 (by decide) ?_
  refine s_iadd E dL_law_897 ?_
  refine s_top (y := 1) (by decide) ?_
  refine s_sld E hX hb0 hb (vp_c (by decide)) dL_law_898 ?_
  refine s_top (y := (xs 1)) (congrArg xs (by decide)) ?_
  refine s_vI (As := [AI (xs 1)]) (S := []) E (K_X9_likes_0_CRMS l D aC b wv_318 ((xs 1)) FrC_0 RfC_0 FrM_0 RfM_0) cv_L_94 rfl rfl rfl (ltn FrC_0.1 (by decide)) (Nat.le_of_ble_eq_true rfl) (Nat.le_of_ble_eq_true rfl) ⟨(Nat.le_of_ble_eq_true rfl), (Nat.le_of_ble_eq_true rfl)⟩ (Nat.le_of_ble_eq_true rfl) dL_law_899 (fun r u hp => ?_)
  obtain ⟨rfl, rfl⟩ := hp
  refine s_aload_n E dL_law_902 rfl rfl ?_
  refine s_xload_n E dL_law_903 rfl rfl ?_
  refine s_iload_n E dL_law_904 rfl rfl ?_
  refine s_iconst (v := 1) E dL_law_905 (by decide) ?_
  refine s_iadd E dL_law_906 ?_
  refine s_top (y := 1) (by decide) ?_
  refine s_sld E hX hb0 hb (vp_c (by decide)) dL_law_907 ?_
  refine s_top (y := (xs 1)) (congrArg xs (by decide)) ?_
  refine s_vI (As := [AI (xs 1)]) (S := [AI (-2)]) E (K_X10_likes_95_MS l D aC b wv_318 ((xs 1)) FrM_0 RfM_0) cv_L_97 rfl rfl rfl (ltn FrC_0.1 (by decide)) (Nat.le_of_ble_eq_true rfl) (Nat.le_of_ble_eq_true rfl) ⟨(Nat.le_of_ble_eq_true rfl), (Nat.le_of_ble_eq_true rfl)⟩ (Nat.le_of_ble_eq_true rfl) dL_law_908 (fun r u_1 hp => ?_)
  obtain ⟨rfl, hu_1, hu_2⟩ := hp
  refine s_icmp_eq (tgt := 2494) E dL_law_911 (by decide) (fun _ => ?_) (fun hh => absurd (by decide) hh)
  exact law_tail l E hb hX hb0 u_1
set_option maxRecDepth 20000 in
set_option maxHeartbeats 2000000 in
theorem lawc_20 {p : Program} {e : Env} {s : State} {m : MethodId} {below : List Frame} {meth : Method} {c : Code} (l : Launch) {b0 b : Nat} {xs : Nat → Int32} {D : va_G} {aC : Nat → ClassId} (E : EE p s m meth c D aC b 4 cL_law RL ret) (hb : b = s.heap.size) (hX : va_X b0 6 xs s s.heap) (hb0 : b0 < s.heap.size) : Wv p l e room_1 s m #[Value.ref b0] below meth c (lw_Z below #[Value.ref b0] s) D aC b 4 916 [some (AX b0), some (AR 0), some (AR 95), some (AI 0)] [] wv_318 116 6683 := by
  refine s_aload_n E dL_law_916 rfl rfl ?_
  refine s_xload_n E dL_law_917 rfl rfl ?_
  refine s_iload_n E dL_law_918 rfl rfl ?_
  refine s_iconst (v := 1) E dL_law_919 (by decide) ?_
  refine s_iadd E dL_law_920 ?_
  refine s_top (y := 1) (by decide) ?_
  refine s_sld E hX hb0 hb (vp_c (by decide)) dL_law_921 ?_
  refine s_top (y := (xs 1)) (congrArg xs (by decide)) ?_
  refine s_xload_n E dL_law_922 rfl rfl ?_
  refine s_iload_n E dL_law_923 rfl rfl ?_
  refine s_iconst (v := 2) E dL_law_924 (by decide) ?_
  refine s_iadd E dL_law_925 ?_
  refine s_top (y := 2) (by decide) ?_
  refine s_sld E hX hb0 hb (vp_c (by decide)) dL_law_926 ?_
  refine s_top (y := (xs 2)) (congrArg xs (by decide)) ?_
  refine s_xload_n E dL_law_927 rfl rfl ?_
  refine s_iload_n E dL_law_928 rfl rfl ?_
  refine s_iconst (v := 3) E dL_law_929 (by decide) ?_
  refine s_iadd E dL_law_930 ?_
  refine s_top (y := 3) (by decide) ?_
  refine s_sld E hX hb0 hb (vp_c (by decide)) dL_law_931 ?_
  refine s_top (y := (xs 3)) (congrArg xs (by decide)) ?_
  refine s_vI (As := [AI (xs 1), AI (xs 2), AI (xs 3)]) (S := []) E (K_X9_apart_0_CRMS l D aC b wv_318 ((xs 1)) ((xs 2)) ((xs 3)) FrC_0 RfC_0 FrM_0 RfM_0) cv_L_98 rfl rfl rfl (ltn FrC_0.1 (by decide)) (Nat.le_of_ble_eq_true rfl) (Nat.le_of_ble_eq_true rfl) ⟨(Nat.le_of_ble_eq_true rfl), (Nat.le_of_ble_eq_true rfl)⟩ (Nat.le_of_ble_eq_true rfl) dL_law_932 (fun r u hp => ?_)
  obtain ⟨rfl, rfl⟩ := hp
  refine s_aload_n E dL_law_935 rfl rfl ?_
  refine s_xload_n E dL_law_936 rfl rfl ?_
  refine s_iload_n E dL_law_937 rfl rfl ?_
  refine s_iconst (v := 1) E dL_law_938 (by decide) ?_
  refine s_iadd E dL_law_939 ?_
  refine s_top (y := 1) (by decide) ?_
  refine s_sld E hX hb0 hb (vp_c (by decide)) dL_law_940 ?_
  refine s_top (y := (xs 1)) (congrArg xs (by decide)) ?_
  refine s_xload_n E dL_law_941 rfl rfl ?_
  refine s_iload_n E dL_law_942 rfl rfl ?_
  refine s_iconst (v := 2) E dL_law_943 (by decide) ?_
  refine s_iadd E dL_law_944 ?_
  refine s_top (y := 2) (by decide) ?_
  refine s_sld E hX hb0 hb (vp_c (by decide)) dL_law_945 ?_
  refine s_top (y := (xs 2)) (congrArg xs (by decide)) ?_
  refine s_xload_n E dL_law_946 rfl rfl ?_
  refine s_iload_n E dL_law_947 rfl rfl ?_
  refine s_iconst (v := 3) E dL_law_948 (by decide) ?_
  refine s_iadd E dL_law_949 ?_
  refine s_top (y := 3) (by decide) ?_
  refine s_sld E hX hb0 hb (vp_c (by decide)) dL_law_950 ?_
  refine s_top (y := (xs 3)) (congrArg xs (by decide)) ?_
  refine s_vI (As := [AI (xs 1), AI (xs 2), AI (xs 3)]) (S := [AI (-2)]) E (K_X10_apart_95_MS l D aC b wv_318 ((xs 1)) ((xs 2)) ((xs 3)) FrM_0 RfM_0) cv_L_101 rfl rfl rfl (ltn FrC_0.1 (by decide)) (Nat.le_of_ble_eq_true rfl) (Nat.le_of_ble_eq_true rfl) ⟨(Nat.le_of_ble_eq_true rfl), (Nat.le_of_ble_eq_true rfl)⟩ (Nat.le_of_ble_eq_true rfl) dL_law_951 (fun r u_1 hp => ?_)
  obtain ⟨rfl, hu_1, hu_2⟩ := hp
  refine s_icmp_eq (tgt := 2494) E dL_law_954 (by decide) (fun _ => ?_) (fun hh => absurd (by decide) hh)
  exact law_tail l E hb hX hb0 u_1
set_option maxRecDepth 20000 in
set_option maxHeartbeats 2000000 in
theorem lawc_21 {p : Program} {e : Env} {s : State} {m : MethodId} {below : List Frame} {meth : Method} {c : Code} (l : Launch) {b0 b : Nat} {xs : Nat → Int32} {D : va_G} {aC : Nat → ClassId} (E : EE p s m meth c D aC b 4 cL_law RL ret) (hb : b = s.heap.size) (hX : va_X b0 6 xs s s.heap) (hb0 : b0 < s.heap.size) : Wv p l e room_1 s m #[Value.ref b0] below meth c (lw_Z below #[Value.ref b0] s) D aC b 4 959 [some (AX b0), some (AR 0), some (AR 95), some (AI 0)] [] wv_318 116 6683 := by
  refine s_aload_n E dL_law_959 rfl rfl ?_
  refine s_xload_n E dL_law_960 rfl rfl ?_
  refine s_iload_n E dL_law_961 rfl rfl ?_
  refine s_iconst (v := 1) E dL_law_962 (by decide) ?_
  refine s_iadd E dL_law_963 ?_
  refine s_top (y := 1) (by decide) ?_
  refine s_sld E hX hb0 hb (vp_c (by decide)) dL_law_964 ?_
  refine s_top (y := (xs 1)) (congrArg xs (by decide)) ?_
  refine s_vI (As := [AI (xs 1)]) (S := []) E (K_X9_alone_0_CRMS l D aC b wv_318 ((xs 1)) FrC_0 RfC_0 FrM_0 RfM_0) cv_L_102 rfl rfl rfl (ltn FrC_0.1 (by decide)) (Nat.le_of_ble_eq_true rfl) (Nat.le_of_ble_eq_true rfl) ⟨(Nat.le_of_ble_eq_true rfl), (Nat.le_of_ble_eq_true rfl)⟩ (Nat.le_of_ble_eq_true rfl) dL_law_965 (fun r u hp => ?_)
  obtain ⟨rfl, rfl⟩ := hp
  refine s_aload_n E dL_law_968 rfl rfl ?_
  refine s_xload_n E dL_law_969 rfl rfl ?_
  refine s_iload_n E dL_law_970 rfl rfl ?_
  refine s_iconst (v := 1) E dL_law_971 (by decide) ?_
  refine s_iadd E dL_law_972 ?_
  refine s_top (y := 1) (by decide) ?_
  refine s_sld E hX hb0 hb (vp_c (by decide)) dL_law_973 ?_
  refine s_top (y := (xs 1)) (congrArg xs (by decide)) ?_
  refine s_vI (As := [AI (xs 1)]) (S := [AI (-2)]) E (K_X10_alone_95_MS l D aC b wv_318 ((xs 1)) FrM_0 RfM_0) cv_L_105 rfl rfl rfl (ltn FrC_0.1 (by decide)) (Nat.le_of_ble_eq_true rfl) (Nat.le_of_ble_eq_true rfl) ⟨(Nat.le_of_ble_eq_true rfl), (Nat.le_of_ble_eq_true rfl)⟩ (Nat.le_of_ble_eq_true rfl) dL_law_974 (fun r u_1 hp => ?_)
  obtain ⟨rfl, hu_1, hu_2⟩ := hp
  refine s_icmp_eq (tgt := 2494) E dL_law_977 (by decide) (fun _ => ?_) (fun hh => absurd (by decide) hh)
  exact law_tail l E hb hX hb0 u_1
set_option maxRecDepth 20000 in
set_option maxHeartbeats 2000000 in
theorem lawc_22 {p : Program} {e : Env} {s : State} {m : MethodId} {below : List Frame} {meth : Method} {c : Code} (l : Launch) {b0 b : Nat} {xs : Nat → Int32} {D : va_G} {aC : Nat → ClassId} (E : EE p s m meth c D aC b 4 cL_law RL ret) (hb : b = s.heap.size) (hX : va_X b0 6 xs s s.heap) (hb0 : b0 < s.heap.size) : Wv p l e room_1 s m #[Value.ref b0] below meth c (lw_Z below #[Value.ref b0] s) D aC b 4 982 [some (AX b0), some (AR 0), some (AR 95), some (AI 0)] [] wv_318 116 6683 := by
  refine s_aload_n E dL_law_982 rfl rfl ?_
  refine s_xload_n E dL_law_983 rfl rfl ?_
  refine s_iload_n E dL_law_984 rfl rfl ?_
  refine s_iconst (v := 1) E dL_law_985 (by decide) ?_
  refine s_iadd E dL_law_986 ?_
  refine s_top (y := 1) (by decide) ?_
  refine s_sld E hX hb0 hb (vp_c (by decide)) dL_law_987 ?_
  refine s_top (y := (xs 1)) (congrArg xs (by decide)) ?_
  refine s_vI (As := [AI (xs 1)]) (S := []) E (K_X9_empty_0_CRMS l D aC b wv_318 ((xs 1)) FrC_0 RfC_0 FrM_0 RfM_0) cv_L_106 rfl rfl rfl (ltn FrC_0.1 (by decide)) (Nat.le_of_ble_eq_true rfl) (Nat.le_of_ble_eq_true rfl) ⟨(Nat.le_of_ble_eq_true rfl), (Nat.le_of_ble_eq_true rfl)⟩ (Nat.le_of_ble_eq_true rfl) dL_law_988 (fun r u hp => ?_)
  obtain ⟨rfl, rfl⟩ := hp
  refine s_aload_n E dL_law_991 rfl rfl ?_
  refine s_xload_n E dL_law_992 rfl rfl ?_
  refine s_iload_n E dL_law_993 rfl rfl ?_
  refine s_iconst (v := 1) E dL_law_994 (by decide) ?_
  refine s_iadd E dL_law_995 ?_
  refine s_top (y := 1) (by decide) ?_
  refine s_sld E hX hb0 hb (vp_c (by decide)) dL_law_996 ?_
  refine s_top (y := (xs 1)) (congrArg xs (by decide)) ?_
  refine s_vI (As := [AI (xs 1)]) (S := [AI (-2)]) E (K_X10_empty_95_MS l D aC b wv_318 ((xs 1)) FrM_0 RfM_0) cv_L_109 rfl rfl rfl (ltn FrC_0.1 (by decide)) (Nat.le_of_ble_eq_true rfl) (Nat.le_of_ble_eq_true rfl) ⟨(Nat.le_of_ble_eq_true rfl), (Nat.le_of_ble_eq_true rfl)⟩ (Nat.le_of_ble_eq_true rfl) dL_law_997 (fun r u_1 hp => ?_)
  obtain ⟨rfl, hu_1, hu_2⟩ := hp
  refine s_icmp_eq (tgt := 2494) E dL_law_1000 (by decide) (fun _ => ?_) (fun hh => absurd (by decide) hh)
  exact law_tail l E hb hX hb0 u_1
set_option maxRecDepth 20000 in
set_option maxHeartbeats 2000000 in
theorem lawc_23 {p : Program} {e : Env} {s : State} {m : MethodId} {below : List Frame} {meth : Method} {c : Code} (l : Launch) {b0 b : Nat} {xs : Nat → Int32} {D : va_G} {aC : Nat → ClassId} (E : EE p s m meth c D aC b 4 cL_law RL ret) (hb : b = s.heap.size) (hX : va_X b0 6 xs s s.heap) (hb0 : b0 < s.heap.size) : Wv p l e room_1 s m #[Value.ref b0] below meth c (lw_Z below #[Value.ref b0] s) D aC b 4 1005 [some (AX b0), some (AR 0), some (AR 95), some (AI 0)] [] wv_318 116 6683 := by
  refine s_aload_n E dL_law_1005 rfl rfl ?_
  refine s_xload_n E dL_law_1006 rfl rfl ?_
  refine s_iload_n E dL_law_1007 rfl rfl ?_
  refine s_iconst (v := 1) E dL_law_1008 (by decide) ?_
  refine s_iadd E dL_law_1009 ?_
  refine s_top (y := 1) (by decide) ?_
  refine s_sld E hX hb0 hb (vp_c (by decide)) dL_law_1010 ?_
  refine s_top (y := (xs 1)) (congrArg xs (by decide)) ?_
  refine s_vI (As := [AI (xs 1)]) (S := []) E (K_X9_late_0_CRMS l D aC b wv_318 ((xs 1)) FrC_0 RfC_0 FrM_0 RfM_0) cv_L_110 rfl rfl rfl (ltn FrC_0.1 (by decide)) (Nat.le_of_ble_eq_true rfl) (Nat.le_of_ble_eq_true rfl) ⟨(Nat.le_of_ble_eq_true rfl), (Nat.le_of_ble_eq_true rfl)⟩ (Nat.le_of_ble_eq_true rfl) dL_law_1011 (fun r u hp => ?_)
  obtain ⟨rfl, rfl⟩ := hp
  refine s_aload_n E dL_law_1014 rfl rfl ?_
  refine s_xload_n E dL_law_1015 rfl rfl ?_
  refine s_iload_n E dL_law_1016 rfl rfl ?_
  refine s_iconst (v := 1) E dL_law_1017 (by decide) ?_
  refine s_iadd E dL_law_1018 ?_
  refine s_top (y := 1) (by decide) ?_
  refine s_sld E hX hb0 hb (vp_c (by decide)) dL_law_1019 ?_
  refine s_top (y := (xs 1)) (congrArg xs (by decide)) ?_
  refine s_vI (As := [AI (xs 1)]) (S := [AI (-2)]) E (K_X10_late_95_MS l D aC b wv_318 ((xs 1)) FrM_0 RfM_0) cv_L_113 rfl rfl rfl (ltn FrC_0.1 (by decide)) (Nat.le_of_ble_eq_true rfl) (Nat.le_of_ble_eq_true rfl) ⟨(Nat.le_of_ble_eq_true rfl), (Nat.le_of_ble_eq_true rfl)⟩ (Nat.le_of_ble_eq_true rfl) dL_law_1020 (fun r u_1 hp => ?_)
  obtain ⟨rfl, hu_1, hu_2⟩ := hp
  refine s_icmp_eq (tgt := 2494) E dL_law_1023 (by decide) (fun _ => ?_) (fun hh => absurd (by decide) hh)
  exact law_tail l E hb hX hb0 u_1
