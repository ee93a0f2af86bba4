set_option maxRecDepth 20000 in
set_option maxHeartbeats 2000000 in
theorem lawc_0 {p : Program} {e : Env} {s : State} {m : MethodId} {below : List Frame} {meth : Method} {c : Code} (l : Launch) {b0 b n : Nat} {xs : Nat → Int32} {D : va_G} {aC : Nat → ClassId} (E : EE p s m meth c D aC b 4 cL_law RL ret) (hb : b = s.heap.size) (hX : va_X b0 n xs s s.heap) (hb0 : b0 < s.heap.size) (hn : n ≤ 3072) (w : XW) (hI : Iv w) (hR : RLs w) (i : Int32) (hi : 0 ≤ i.toInt ∧ i.toInt + 6 ≤ (n : Int)) (kk : ∀ u : XW, Iv u → RLs u → Wv p l e room_1 s m #[Value.ref b0] below meth c (lw_Z below #[Value.ref b0] s) D aC b 4 2492 [some (AX (b0 + 1)), some (AR 0), some (AR 95), some (AI i)] [] u 116 6683) : Wv p l e room_1 s m #[Value.ref b0] below meth c (lw_Z below #[Value.ref b0] s) D aC b 4 336 [some (AX (b0 + 1)), some (AR 0), some (AR 95), some (AI i)] [] w 116 6683 := by
  refine s_aload_n E dL_law_336 rfl rfl ?_
  refine s_xload_n E dL_law_337 rfl rfl ?_
  refine s_iload_n E dL_law_338 rfl rfl ?_
  refine s_iconst (v := 1) E dL_law_339 (by decide) ?_
  refine z_iadd (u := i.toInt) (v := 1) E dL_law_340 rfl (by decide) (by omega) (by omega) (fun z_1 hz_1 => ?_)
  refine s_sld E hX hb0 hb (z_in (u := z_1.toInt) rfl (by omega) (by omega)) dL_law_341 ?_
  refine s_top (y := (xs (i.toInt.toNat + 1))) (congrArg xs (by show z_1.toInt.toNat = _; omega)) ?_
  refine s_xload_n E dL_law_342 rfl rfl ?_
  refine s_iload_n E dL_law_343 rfl rfl ?_
  refine s_iconst (v := 2) E dL_law_344 (by decide) ?_
  refine z_iadd (u := i.toInt) (v := 2) E dL_law_345 rfl (by decide) (by omega) (by omega) (fun z_2 hz_2 => ?_)
  refine s_sld E hX hb0 hb (z_in (u := z_2.toInt) rfl (by omega) (by omega)) dL_law_346 ?_
  refine s_top (y := (xs (i.toInt.toNat + 2))) (congrArg xs (by show z_2.toInt.toNat = _; omega)) ?_
  refine s_xload_n E dL_law_347 rfl rfl ?_
  refine s_iload_n E dL_law_348 rfl rfl ?_
  refine s_iconst (v := 3) E dL_law_349 (by decide) ?_
  refine z_iadd (u := i.toInt) (v := 3) E dL_law_350 rfl (by decide) (by omega) (by omega) (fun z_3 hz_3 => ?_)
  refine s_sld E hX hb0 hb (z_in (u := z_3.toInt) rfl (by omega) (by omega)) dL_law_351 ?_
  refine s_top (y := (xs (i.toInt.toNat + 3))) (congrArg xs (by show z_3.toInt.toNat = _; omega)) ?_
  refine s_xload_n E dL_law_352 rfl rfl ?_
  refine s_iload_n E dL_law_353 rfl rfl ?_
  refine s_iconst (v := 4) E dL_law_354 (by decide) ?_
  refine z_iadd (u := i.toInt) (v := 4) E dL_law_355 rfl (by decide) (by omega) (by omega) (fun z_4 hz_4 => ?_)
  refine s_sld E hX hb0 hb (z_in (u := z_4.toInt) rfl (by omega) (by omega)) dL_law_356 ?_
  refine s_top (y := (xs (i.toInt.toNat + 4))) (congrArg xs (by show z_4.toInt.toNat = _; omega)) ?_
  refine s_xload_n E dL_law_357 rfl rfl ?_
  refine s_iload_n E dL_law_358 rfl rfl ?_
  refine s_iconst (v := 5) E dL_law_359 (by decide) ?_
  refine z_iadd (u := i.toInt) (v := 5) E dL_law_360 rfl (by decide) (by omega) (by omega) (fun z_5 hz_5 => ?_)
  refine s_sld E hX hb0 hb (z_in (u := z_5.toInt) rfl (by omega) (by omega)) dL_law_361 ?_
  refine s_top (y := (xs (i.toInt.toNat + 5))) (congrArg xs (by show z_5.toInt.toNat = _; omega)) ?_
  refine s_vI (As := [AI (xs (i.toInt.toNat + 1)), AI (xs (i.toInt.toNat + 2)), AI (xs (i.toInt.toNat + 3)), AI (xs (i.toInt.toNat + 4)), AI (xs (i.toInt.toNat + 5))]) (S := []) E (Z_X9_feed_0 l D aC b w (xs (i.toInt.toNat + 1)) (xs (i.toInt.toNat + 2)) (xs (i.toInt.toNat + 3)) (xs (i.toInt.toNat + 4)) (xs (i.toInt.toNat + 5)) hI) cv_L_13 rfl rfl rfl (jv_lt (jv_rfl hI) (by decide)) (Nat.le_of_ble_eq_true rfl) (Nat.le_of_ble_eq_true rfl) ⟨(Nat.le_of_ble_eq_true rfl), (Nat.le_of_ble_eq_true rfl)⟩ (Nat.le_of_ble_eq_true rfl) dL_law_362 (fun r_6 u_7 hp_8 => ?_)
  have hI_9 : Iv u_7 := hp_8.2.1
  have hR_10 : RLs u_7 := rl_k hR hp_8.2.2.1
  refine s_popI E dL_law_365 ?_
  refine s_aload_n E dL_law_366 rfl rfl ?_
  refine s_xload_n E dL_law_367 rfl rfl ?_
  refine s_iload_n E dL_law_368 rfl rfl ?_
  refine s_iconst (v := 1) E dL_law_369 (by decide) ?_
  refine z_iadd (u := i.toInt) (v := 1) E dL_law_370 rfl (by decide) (by omega) (by omega) (fun z_11 hz_11 => ?_)
  refine s_sld E hX hb0 hb (z_in (u := z_11.toInt) rfl (by omega) (by omega)) dL_law_371 ?_
  refine s_top (y := (xs (i.toInt.toNat + 1))) (congrArg xs (by show z_11.toInt.toNat = _; omega)) ?_
  refine s_xload_n E dL_law_372 rfl rfl ?_
  refine s_iload_n E dL_law_373 rfl rfl ?_
  refine s_iconst (v := 2) E dL_law_374 (by decide) ?_
  refine z_iadd (u := i.toInt) (v := 2) E dL_law_375 rfl (by decide) (by omega) (by omega) (fun z_12 hz_12 => ?_)
  refine s_sld E hX hb0 hb (z_in (u := z_12.toInt) rfl (by omega) (by omega)) dL_law_376 ?_
  refine s_top (y := (xs (i.toInt.toNat + 2))) (congrArg xs (by show z_12.toInt.toNat = _; omega)) ?_
  refine s_xload_n E dL_law_377 rfl rfl ?_
  refine s_iload_n E dL_law_378 rfl rfl ?_
  refine s_iconst (v := 3) E dL_law_379 (by decide) ?_
  refine z_iadd (u := i.toInt) (v := 3) E dL_law_380 rfl (by decide) (by omega) (by omega) (fun z_13 hz_13 => ?_)
  refine s_sld E hX hb0 hb (z_in (u := z_13.toInt) rfl (by omega) (by omega)) dL_law_381 ?_
  refine s_top (y := (xs (i.toInt.toNat + 3))) (congrArg xs (by show z_13.toInt.toNat = _; omega)) ?_
  refine s_xload_n E dL_law_382 rfl rfl ?_
  refine s_iload_n E dL_law_383 rfl rfl ?_
  refine s_iconst (v := 4) E dL_law_384 (by decide) ?_
  refine z_iadd (u := i.toInt) (v := 4) E dL_law_385 rfl (by decide) (by omega) (by omega) (fun z_14 hz_14 => ?_)
  refine s_sld E hX hb0 hb (z_in (u := z_14.toInt) rfl (by omega) (by omega)) dL_law_386 ?_
  refine s_top (y := (xs (i.toInt.toNat + 4))) (congrArg xs (by show z_14.toInt.toNat = _; omega)) ?_
  refine s_xload_n E dL_law_387 rfl rfl ?_
  refine s_iload_n E dL_law_388 rfl rfl ?_
  refine s_iconst (v := 5) E dL_law_389 (by decide) ?_
  refine z_iadd (u := i.toInt) (v := 5) E dL_law_390 rfl (by decide) (by omega) (by omega) (fun z_15 hz_15 => ?_)
  refine s_sld E hX hb0 hb (z_in (u := z_15.toInt) rfl (by omega) (by omega)) dL_law_391 ?_
  refine s_top (y := (xs (i.toInt.toNat + 5))) (congrArg xs (by show z_15.toInt.toNat = _; omega)) ?_
  refine s_vI (As := [AI (xs (i.toInt.toNat + 1)), AI (xs (i.toInt.toNat + 2)), AI (xs (i.toInt.toNat + 3)), AI (xs (i.toInt.toNat + 4)), AI (xs (i.toInt.toNat + 5))]) (S := []) E (Z_X10_feed_95 l D aC b u_7 (xs (i.toInt.toNat + 1)) (xs (i.toInt.toNat + 2)) (xs (i.toInt.toNat + 3)) (xs (i.toInt.toNat + 4)) (xs (i.toInt.toNat + 5)) hI_9) cv_L_17 rfl rfl rfl (jv_lt (jv_rfl hI_9) (by decide)) (Nat.le_of_ble_eq_true rfl) (Nat.le_of_ble_eq_true rfl) ⟨(Nat.le_of_ble_eq_true rfl), (Nat.le_of_ble_eq_true rfl)⟩ (Nat.le_of_ble_eq_true rfl) dL_law_392 (fun r_16 u_17 hp_18 => ?_)
  have hI_19 : Iv u_17 := hp_18.2.1
  have hR_20 : RLs u_17 := rl_k hR_10 hp_18.2.2.1
  refine s_popI E dL_law_395 ?_
  refine s_goto (tgt := 2492) E dL_law_396 (by decide) ?_
  exact kk u_17 hI_19 hR_20
set_option maxRecDepth 20000 in
set_option maxHeartbeats 2000000 in
theorem lawc_1 {p : Program} {e : Env} {s : State} {m : MethodId} {below : List Frame} {meth : Method} {c : Code} (l : Launch) {b0 b n : Nat} {xs : Nat → Int32} {D : va_G} {aC : Nat → ClassId} (E : EE p s m meth c D aC b 4 cL_law RL ret) (hb : b = s.heap.size) (hX : va_X b0 n xs s s.heap) (hb0 : b0 < s.heap.size) (hn : n ≤ 3072) (w : XW) (hI : Iv w) (hR : RLs w) (i : Int32) (hi : 0 ≤ i.toInt ∧ i.toInt + 6 ≤ (n : Int)) (kk : ∀ u : XW, Iv u → RLs u → Wv p l e room_1 s m #[Value.ref b0] below meth c (lw_Z below #[Value.ref b0] s) D aC b 4 2492 [some (AX (b0 + 1)), some (AR 0), some (AR 95), some (AI i)] [] u 116 6683) : Wv p l e room_1 s m #[Value.ref b0] below meth c (lw_Z below #[Value.ref b0] s) D aC b 4 399 [some (AX (b0 + 1)), some (AR 0), some (AR 95), some (AI i)] [] w 116 6683 := by
  refine s_aload_n E dL_law_399 rfl rfl ?_
  refine s_xload_n E dL_law_400 rfl rfl ?_
  refine s_iload_n E dL_law_401 rfl rfl ?_
  refine s_iconst (v := 1) E dL_law_402 (by decide) ?_
  refine z_iadd (u := i.toInt) (v := 1) E dL_law_403 rfl (by decide) (by omega) (by omega) (fun z_1 hz_1 => ?_)
  refine s_sld E hX hb0 hb (z_in (u := z_1.toInt) rfl (by omega) (by omega)) dL_law_404 ?_
  refine s_top (y := (xs (i.toInt.toNat + 1))) (congrArg xs (by show z_1.toInt.toNat = _; omega)) ?_
  refine s_vI (As := [AI (xs (i.toInt.toNat + 1))]) (S := []) E (Z_X9_end_0 l D aC b w (xs (i.toInt.toNat + 1)) hI) cv_L_18 rfl rfl rfl (jv_lt (jv_rfl hI) (by decide)) (Nat.le_of_ble_eq_true rfl) (Nat.le_of_ble_eq_true rfl) ⟨(Nat.le_of_ble_eq_true rfl), (Nat.le_of_ble_eq_true rfl)⟩ (Nat.le_of_ble_eq_true rfl) dL_law_405 (fun r_2 u_3 hp_4 => ?_)
  have hI_5 : Iv u_3 := hp_4.2.1
  have hR_6 : RLs u_3 := rl_k hR hp_4.2.2.1
  refine s_popI E dL_law_408 ?_
  refine s_aload_n E dL_law_409 rfl rfl ?_
  refine s_xload_n E dL_law_410 rfl rfl ?_
  refine s_iload_n E dL_law_411 rfl rfl ?_
  refine s_iconst (v := 1) E dL_law_412 (by decide) ?_
  refine z_iadd (u := i.toInt) (v := 1) E dL_law_413 rfl (by decide) (by omega) (by omega) (fun z_7 hz_7 => ?_)
  refine s_sld E hX hb0 hb (z_in (u := z_7.toInt) rfl (by omega) (by omega)) dL_law_414 ?_
  refine s_top (y := (xs (i.toInt.toNat + 1))) (congrArg xs (by show z_7.toInt.toNat = _; omega)) ?_
  refine s_vI (As := [AI (xs (i.toInt.toNat + 1))]) (S := []) E (Z_X10_end_95 l D aC b u_3 (xs (i.toInt.toNat + 1)) hI_5) cv_L_22 rfl rfl rfl (jv_lt (jv_rfl hI_5) (by decide)) (Nat.le_of_ble_eq_true rfl) (Nat.le_of_ble_eq_true rfl) ⟨(Nat.le_of_ble_eq_true rfl), (Nat.le_of_ble_eq_true rfl)⟩ (Nat.le_of_ble_eq_true rfl) dL_law_415 (fun r_8 u_9 hp_10 => ?_)
  have hI_11 : Iv u_9 := hp_10.2.1
  have hR_12 : RLs u_9 := rl_k hR_6 hp_10.2.2.1
  refine s_popI E dL_law_418 ?_
  refine s_goto (tgt := 2492) E dL_law_419 (by decide) ?_
  exact kk u_9 hI_11 hR_12
set_option maxRecDepth 20000 in
set_option maxHeartbeats 2000000 in
theorem lawc_2 {p : Program} {e : Env} {s : State} {m : MethodId} {below : List Frame} {meth : Method} {c : Code} (l : Launch) {b0 b n : Nat} {xs : Nat → Int32} {D : va_G} {aC : Nat → ClassId} (E : EE p s m meth c D aC b 4 cL_law RL ret) (hb : b = s.heap.size) (hX : va_X b0 n xs s s.heap) (hb0 : b0 < s.heap.size) (hn : n ≤ 3072) (w : XW) (hI : Iv w) (hR : RLs w) (i : Int32) (hi : 0 ≤ i.toInt ∧ i.toInt + 6 ≤ (n : Int)) (kk : ∀ u : XW, Iv u → RLs u → Wv p l e room_1 s m #[Value.ref b0] below meth c (lw_Z below #[Value.ref b0] s) D aC b 4 2492 [some (AX (b0 + 1)), some (AR 0), some (AR 95), some (AI i)] [] u 116 6683) : Wv p l e room_1 s m #[Value.ref b0] below meth c (lw_Z below #[Value.ref b0] s) D aC b 4 422 [some (AX (b0 + 1)), some (AR 0), some (AR 95), some (AI i)] [] w 116 6683 := by
  refine s_aload_n E dL_law_422 rfl rfl ?_
  refine s_vI (As := []) (S := []) E (Z_X9_ball_0 l D aC b w  hI) cv_L_23 rfl rfl rfl (jv_lt (jv_rfl hI) (by decide)) (Nat.le_of_ble_eq_true rfl) (Nat.le_of_ble_eq_true rfl) ⟨(Nat.le_of_ble_eq_true rfl), (Nat.le_of_ble_eq_true rfl)⟩ (Nat.le_of_ble_eq_true rfl) dL_law_423 (fun r_1 u_2 hp_3 => ?_)
  have hI_4 : Iv u_2 := hp_3.2.1
  have hR_5 : RLs u_2 := rl_k hR hp_3.2.2.1
  refine s_popI E dL_law_426 ?_
  refine s_aload_n E dL_law_427 rfl rfl ?_
  refine s_vI (As := []) (S := []) E (Z_X10_ball_95 l D aC b u_2  hI_4) cv_L_27 rfl rfl rfl (jv_lt (jv_rfl hI_4) (by decide)) (Nat.le_of_ble_eq_true rfl) (Nat.le_of_ble_eq_true rfl) ⟨(Nat.le_of_ble_eq_true rfl), (Nat.le_of_ble_eq_true rfl)⟩ (Nat.le_of_ble_eq_true rfl) dL_law_428 (fun r_6 u_7 hp_8 => ?_)
  have hI_9 : Iv u_7 := hp_8.2.1
  have hR_10 : RLs u_7 := rl_k hR_5 hp_8.2.2.1
  refine s_popI E dL_law_431 ?_
  refine s_goto (tgt := 2492) E dL_law_432 (by decide) ?_
  exact kk u_7 hI_9 hR_10
set_option maxRecDepth 20000 in
set_option maxHeartbeats 2000000 in
theorem lawc_3 {p : Program} {e : Env} {s : State} {m : MethodId} {below : List Frame} {meth : Method} {c : Code} (l : Launch) {b0 b n : Nat} {xs : Nat → Int32} {D : va_G} {aC : Nat → ClassId} (E : EE p s m meth c D aC b 4 cL_law RL ret) (hb : b = s.heap.size) (hX : va_X b0 n xs s s.heap) (hb0 : b0 < s.heap.size) (hn : n ≤ 3072) (w : XW) (hI : Iv w) (hR : RLs w) (i : Int32) (hi : 0 ≤ i.toInt ∧ i.toInt + 6 ≤ (n : Int)) (kk : ∀ u : XW, Iv u → RLs u → Wv p l e room_1 s m #[Value.ref b0] below meth c (lw_Z below #[Value.ref b0] s) D aC b 4 2492 [some (AX (b0 + 1)), some (AR 0), some (AR 95), some (AI i)] [] u 116 6683) : Wv p l e room_1 s m #[Value.ref b0] below meth c (lw_Z below #[Value.ref b0] s) D aC b 4 435 [some (AX (b0 + 1)), some (AR 0), some (AR 95), some (AI i)] [] w 116 6683 := by
  refine s_aload_n E dL_law_435 rfl rfl ?_
  refine s_xload_n E dL_law_436 rfl rfl ?_
  refine s_iload_n E dL_law_437 rfl rfl ?_
  refine s_iconst (v := 1) E dL_law_438 (by decide) ?_
  refine z_iadd (u := i.toInt) (v := 1) E dL_law_439 rfl (by decide) (by omega) (by omega) (fun z_1 hz_1 => ?_)
  refine s_sld E hX hb0 hb (z_in (u := z_1.toInt) rfl (by omega) (by omega)) dL_law_440 ?_
  refine s_top (y := (xs (i.toInt.toNat + 1))) (congrArg xs (by show z_1.toInt.toNat = _; omega)) ?_
  refine s_vI (As := [AI (xs (i.toInt.toNat + 1))]) (S := []) E (Z_X9_fault_0 l D aC b w (xs (i.toInt.toNat + 1)) hI) cv_L_28 rfl rfl rfl (jv_lt (jv_rfl hI) (by decide)) (Nat.le_of_ble_eq_true rfl) (Nat.le_of_ble_eq_true rfl) ⟨(Nat.le_of_ble_eq_true rfl), (Nat.le_of_ble_eq_true rfl)⟩ (Nat.le_of_ble_eq_true rfl) dL_law_441 (fun r_2 u_3 hp_4 => ?_)
  have hI_5 : Iv u_3 := by rw [← hp_4.2]; exact hI
  have hR_6 : RLs u_3 := rl_k hR (fun c_ _ => by rw [hp_4.2])
  refine s_popI E dL_law_444 ?_
  refine s_aload_n E dL_law_445 rfl rfl ?_
  refine s_xload_n E dL_law_446 rfl rfl ?_
  refine s_iload_n E dL_law_447 rfl rfl ?_
  refine s_iconst (v := 1) E dL_law_448 (by decide) ?_
  refine z_iadd (u := i.toInt) (v := 1) E dL_law_449 rfl (by decide) (by omega) (by omega) (fun z_7 hz_7 => ?_)
  refine s_sld E hX hb0 hb (z_in (u := z_7.toInt) rfl (by omega) (by omega)) dL_law_450 ?_
  refine s_top (y := (xs (i.toInt.toNat + 1))) (congrArg xs (by show z_7.toInt.toNat = _; omega)) ?_
  refine s_vI (As := [AI (xs (i.toInt.toNat + 1))]) (S := []) E (Z_X10_fault_95 l D aC b u_3 (xs (i.toInt.toNat + 1)) hI_5) cv_L_31 rfl rfl rfl (jv_lt (jv_rfl hI_5) (by decide)) (Nat.le_of_ble_eq_true rfl) (Nat.le_of_ble_eq_true rfl) ⟨(Nat.le_of_ble_eq_true rfl), (Nat.le_of_ble_eq_true rfl)⟩ (Nat.le_of_ble_eq_true rfl) dL_law_451 (fun r_8 u_9 hp_10 => ?_)
  have hI_11 : Iv u_9 := by rw [← hp_10.2]; exact hI_5
  have hR_12 : RLs u_9 := rl_k hR_6 (fun c_ _ => by rw [hp_10.2])
  refine s_popI E dL_law_454 ?_
  refine s_goto (tgt := 2492) E dL_law_455 (by decide) ?_
  exact kk u_9 hI_11 hR_12
set_option maxRecDepth 20000 in
set_option maxHeartbeats 2000000 in
theorem lawc_4 {p : Program} {e : Env} {s : State} {m : MethodId} {below : List Frame} {meth : Method} {c : Code} (l : Launch) {b0 b n : Nat} {xs : Nat → Int32} {D : va_G} {aC : Nat → ClassId} (E : EE p s m meth c D aC b 4 cL_law RL ret) (hb : b = s.heap.size) (hX : va_X b0 n xs s s.heap) (hb0 : b0 < s.heap.size) (hn : n ≤ 3072) (w : XW) (hI : Iv w) (hR : RLs w) (i : Int32) (hi : 0 ≤ i.toInt ∧ i.toInt + 6 ≤ (n : Int)) (kk : ∀ u : XW, Iv u → RLs u → Wv p l e room_1 s m #[Value.ref b0] below meth c (lw_Z below #[Value.ref b0] s) D aC b 4 2492 [some (AX (b0 + 1)), some (AR 0), some (AR 95), some (AI i)] [] u 116 6683) : Wv p l e room_1 s m #[Value.ref b0] below meth c (lw_Z below #[Value.ref b0] s) D aC b 4 458 [some (AX (b0 + 1)), some (AR 0), some (AR 95), some (AI i)] [] w 116 6683 := by
  refine s_aload_n E dL_law_458 rfl rfl ?_
  refine s_xload_n E dL_law_459 rfl rfl ?_
  refine s_iload_n E dL_law_460 rfl rfl ?_
  refine s_iconst (v := 1) E dL_law_461 (by decide) ?_
  refine z_iadd (u := i.toInt) (v := 1) E dL_law_462 rfl (by decide) (by omega) (by omega) (fun z_1 hz_1 => ?_)
  refine s_sld E hX hb0 hb (z_in (u := z_1.toInt) rfl (by omega) (by omega)) dL_law_463 ?_
  refine s_top (y := (xs (i.toInt.toNat + 1))) (congrArg xs (by show z_1.toInt.toNat = _; omega)) ?_
  refine s_xload_n E dL_law_464 rfl rfl ?_
  refine s_iload_n E dL_law_465 rfl rfl ?_
  refine s_iconst (v := 2) E dL_law_466 (by decide) ?_
  refine z_iadd (u := i.toInt) (v := 2) E dL_law_467 rfl (by decide) (by omega) (by omega) (fun z_2 hz_2 => ?_)
  refine s_sld E hX hb0 hb (z_in (u := z_2.toInt) rfl (by omega) (by omega)) dL_law_468 ?_
  refine s_top (y := (xs (i.toInt.toNat + 2))) (congrArg xs (by show z_2.toInt.toNat = _; omega)) ?_
  refine s_vI (As := [AI (xs (i.toInt.toNat + 1)), AI (xs (i.toInt.toNat + 2))]) (S := []) E (Z_X9_door_0 l D aC b w (xs (i.toInt.toNat + 1)) (xs (i.toInt.toNat + 2)) hI) cv_L_32 rfl rfl rfl (jv_lt (jv_rfl hI) (by decide)) (Nat.le_of_ble_eq_true rfl) (Nat.le_of_ble_eq_true rfl) ⟨(Nat.le_of_ble_eq_true rfl), (Nat.le_of_ble_eq_true rfl)⟩ (Nat.le_of_ble_eq_true rfl) dL_law_469 (fun r_3 u_4 hp_5 => ?_)
  have hI_6 : Iv u_4 := by rw [← hp_5.2]; exact hI
  have hR_7 : RLs u_4 := rl_k hR (fun c_ _ => by rw [hp_5.2])
  refine s_popI E dL_law_472 ?_
  refine s_aload_n E dL_law_473 rfl rfl ?_
  refine s_xload_n E dL_law_474 rfl rfl ?_
  refine s_iload_n E dL_law_475 rfl rfl ?_
  refine s_iconst (v := 1) E dL_law_476 (by decide) ?_
  refine z_iadd (u := i.toInt) (v := 1) E dL_law_477 rfl (by decide) (by omega) (by omega) (fun z_8 hz_8 => ?_)
  refine s_sld E hX hb0 hb (z_in (u := z_8.toInt) rfl (by omega) (by omega)) dL_law_478 ?_
  refine s_top (y := (xs (i.toInt.toNat + 1))) (congrArg xs (by show z_8.toInt.toNat = _; omega)) ?_
  refine s_xload_n E dL_law_479 rfl rfl ?_
  refine s_iload_n E dL_law_480 rfl rfl ?_
  refine s_iconst (v := 2) E dL_law_481 (by decide) ?_
  refine z_iadd (u := i.toInt) (v := 2) E dL_law_482 rfl (by decide) (by omega) (by omega) (fun z_9 hz_9 => ?_)
  refine s_sld E hX hb0 hb (z_in (u := z_9.toInt) rfl (by omega) (by omega)) dL_law_483 ?_
  refine s_top (y := (xs (i.toInt.toNat + 2))) (congrArg xs (by show z_9.toInt.toNat = _; omega)) ?_
  refine s_vI (As := [AI (xs (i.toInt.toNat + 1)), AI (xs (i.toInt.toNat + 2))]) (S := []) E (Z_X10_door_95 l D aC b u_4 (xs (i.toInt.toNat + 1)) (xs (i.toInt.toNat + 2)) hI_6) cv_L_36 rfl rfl rfl (jv_lt (jv_rfl hI_6) (by decide)) (Nat.le_of_ble_eq_true rfl) (Nat.le_of_ble_eq_true rfl) ⟨(Nat.le_of_ble_eq_true rfl), (Nat.le_of_ble_eq_true rfl)⟩ (Nat.le_of_ble_eq_true rfl) dL_law_484 (fun r_10 u_11 hp_12 => ?_)
  have hI_13 : Iv u_11 := by rw [← hp_12.2]; exact hI_6
  have hR_14 : RLs u_11 := rl_k hR_7 (fun c_ _ => by rw [hp_12.2])
  refine s_popI E dL_law_487 ?_
  refine s_goto (tgt := 2492) E dL_law_488 (by decide) ?_
  exact kk u_11 hI_13 hR_14
set_option maxRecDepth 20000 in
set_option maxHeartbeats 2000000 in
theorem lawc_5 {p : Program} {e : Env} {s : State} {m : MethodId} {below : List Frame} {meth : Method} {c : Code} (l : Launch) {b0 b n : Nat} {xs : Nat → Int32} {D : va_G} {aC : Nat → ClassId} (E : EE p s m meth c D aC b 4 cL_law RL ret) (hb : b = s.heap.size) (hX : va_X b0 n xs s s.heap) (hb0 : b0 < s.heap.size) (hn : n ≤ 3072) (w : XW) (hI : Iv w) (hR : RLs w) (i : Int32) (hi : 0 ≤ i.toInt ∧ i.toInt + 6 ≤ (n : Int)) (kk : ∀ u : XW, Iv u → RLs u → Wv p l e room_1 s m #[Value.ref b0] below meth c (lw_Z below #[Value.ref b0] s) D aC b 4 2492 [some (AX (b0 + 1)), some (AR 0), some (AR 95), some (AI i)] [] u 116 6683) : Wv p l e room_1 s m #[Value.ref b0] below meth c (lw_Z below #[Value.ref b0] s) D aC b 4 491 [some (AX (b0 + 1)), some (AR 0), some (AR 95), some (AI i)] [] w 116 6683 := by
  refine s_aload_n E dL_law_491 rfl rfl ?_
  refine s_xload_n E dL_law_492 rfl rfl ?_
  refine s_iload_n E dL_law_493 rfl rfl ?_
  refine s_iconst (v := 1) E dL_law_494 (by decide) ?_
  refine z_iadd (u := i.toInt) (v := 1) E dL_law_495 rfl (by decide) (by omega) (by omega) (fun z_1 hz_1 => ?_)
  refine s_sld E hX hb0 hb (z_in (u := z_1.toInt) rfl (by omega) (by omega)) dL_law_496 ?_
  refine s_top (y := (xs (i.toInt.toNat + 1))) (congrArg xs (by show z_1.toInt.toNat = _; omega)) ?_
  refine s_xload_n E dL_law_497 rfl rfl ?_
  refine s_iload_n E dL_law_498 rfl rfl ?_
  refine s_iconst (v := 2) E dL_law_499 (by decide) ?_
  refine z_iadd (u := i.toInt) (v := 2) E dL_law_500 rfl (by decide) (by omega) (by omega) (fun z_2 hz_2 => ?_)
  refine s_sld E hX hb0 hb (z_in (u := z_2.toInt) rfl (by omega) (by omega)) dL_law_501 ?_
  refine s_top (y := (xs (i.toInt.toNat + 2))) (congrArg xs (by show z_2.toInt.toNat = _; omega)) ?_
  refine s_vI (As := [AI (xs (i.toInt.toNat + 1)), AI (xs (i.toInt.toNat + 2))]) (S := []) E (Z_X9_lady_0 l D aC b w (xs (i.toInt.toNat + 1)) (xs (i.toInt.toNat + 2)) hI) cv_L_37 rfl rfl rfl (jv_lt (jv_rfl hI) (by decide)) (Nat.le_of_ble_eq_true rfl) (Nat.le_of_ble_eq_true rfl) ⟨(Nat.le_of_ble_eq_true rfl), (Nat.le_of_ble_eq_true rfl)⟩ (Nat.le_of_ble_eq_true rfl) dL_law_502 (fun r_3 u_4 hp_5 => ?_)
  have hI_6 : Iv u_4 := by rw [← hp_5.2]; exact hI
  have hR_7 : RLs u_4 := rl_k hR (fun c_ _ => by rw [hp_5.2])
  refine s_popI E dL_law_505 ?_
  refine s_aload_n E dL_law_506 rfl rfl ?_
  refine s_xload_n E dL_law_507 rfl rfl ?_
  refine s_iload_n E dL_law_508 rfl rfl ?_
  refine s_iconst (v := 1) E dL_law_509 (by decide) ?_
  refine z_iadd (u := i.toInt) (v := 1) E dL_law_510 rfl (by decide) (by omega) (by omega) (fun z_8 hz_8 => ?_)
  refine s_sld E hX hb0 hb (z_in (u := z_8.toInt) rfl (by omega) (by omega)) dL_law_511 ?_
  refine s_top (y := (xs (i.toInt.toNat + 1))) (congrArg xs (by show z_8.toInt.toNat = _; omega)) ?_
  refine s_xload_n E dL_law_512 rfl rfl ?_
  refine s_iload_n E dL_law_513 rfl rfl ?_
  refine s_iconst (v := 2) E dL_law_514 (by decide) ?_
  refine z_iadd (u := i.toInt) (v := 2) E dL_law_515 rfl (by decide) (by omega) (by omega) (fun z_9 hz_9 => ?_)
  refine s_sld E hX hb0 hb (z_in (u := z_9.toInt) rfl (by omega) (by omega)) dL_law_516 ?_
  refine s_top (y := (xs (i.toInt.toNat + 2))) (congrArg xs (by show z_9.toInt.toNat = _; omega)) ?_
  refine s_vI (As := [AI (xs (i.toInt.toNat + 1)), AI (xs (i.toInt.toNat + 2))]) (S := []) E (Z_X10_lady_95 l D aC b u_4 (xs (i.toInt.toNat + 1)) (xs (i.toInt.toNat + 2)) hI_6) cv_L_40 rfl rfl rfl (jv_lt (jv_rfl hI_6) (by decide)) (Nat.le_of_ble_eq_true rfl) (Nat.le_of_ble_eq_true rfl) ⟨(Nat.le_of_ble_eq_true rfl), (Nat.le_of_ble_eq_true rfl)⟩ (Nat.le_of_ble_eq_true rfl) dL_law_517 (fun r_10 u_11 hp_12 => ?_)
  have hI_13 : Iv u_11 := by rw [← hp_12.2]; exact hI_6
  have hR_14 : RLs u_11 := rl_k hR_7 (fun c_ _ => by rw [hp_12.2])
  refine s_popI E dL_law_520 ?_
  refine s_goto (tgt := 2492) E dL_law_521 (by decide) ?_
  exact kk u_11 hI_13 hR_14
set_option maxRecDepth 20000 in
set_option maxHeartbeats 2000000 in
theorem lawc_6 {p : Program} {e : Env} {s : State} {m : MethodId} {below : List Frame} {meth : Method} {c : Code} (l : Launch) {b0 b n : Nat} {xs : Nat → Int32} {D : va_G} {aC : Nat → ClassId} (E : EE p s m meth c D aC b 4 cL_law RL ret) (hb : b = s.heap.size) (hX : va_X b0 n xs s s.heap) (hb0 : b0 < s.heap.size) (hn : n ≤ 3072) (w : XW) (hI : Iv w) (hR : RLs w) (i : Int32) (hi : 0 ≤ i.toInt ∧ i.toInt + 6 ≤ (n : Int)) (kk : ∀ u : XW, Iv u → RLs u → Wv p l e room_1 s m #[Value.ref b0] below meth c (lw_Z below #[Value.ref b0] s) D aC b 4 2492 [some (AX (b0 + 1)), some (AR 0), some (AR 95), some (AI i)] [] u 116 6683) : Wv p l e room_1 s m #[Value.ref b0] below meth c (lw_Z below #[Value.ref b0] s) D aC b 4 524 [some (AX (b0 + 1)), some (AR 0), some (AR 95), some (AI i)] [] w 116 6683 := by
  refine s_aload_n E dL_law_524 rfl rfl ?_
  refine s_xload_n E dL_law_525 rfl rfl ?_
  refine s_iload_n E dL_law_526 rfl rfl ?_
  refine s_iconst (v := 1) E dL_law_527 (by decide) ?_
  refine z_iadd (u := i.toInt) (v := 1) E dL_law_528 rfl (by decide) (by omega) (by omega) (fun z_1 hz_1 => ?_)
  refine s_sld E hX hb0 hb (z_in (u := z_1.toInt) rfl (by omega) (by omega)) dL_law_529 ?_
  refine s_top (y := (xs (i.toInt.toNat + 1))) (congrArg xs (by show z_1.toInt.toNat = _; omega)) ?_
  refine s_xload_n E dL_law_530 rfl rfl ?_
  refine s_iload_n E dL_law_531 rfl rfl ?_
  refine s_iconst (v := 2) E dL_law_532 (by decide) ?_
  refine z_iadd (u := i.toInt) (v := 2) E dL_law_533 rfl (by decide) (by omega) (by omega) (fun z_2 hz_2 => ?_)
  refine s_sld E hX hb0 hb (z_in (u := z_2.toInt) rfl (by omega) (by omega)) dL_law_534 ?_
  refine s_top (y := (xs (i.toInt.toNat + 2))) (congrArg xs (by show z_2.toInt.toNat = _; omega)) ?_
  refine s_vI (As := [AI (xs (i.toInt.toNat + 1)), AI (xs (i.toInt.toNat + 2))]) (S := []) E (Z_X9_minister_0 l D aC b w (xs (i.toInt.toNat + 1)) (xs (i.toInt.toNat + 2)) hI) cv_L_41 rfl rfl rfl (jv_lt (jv_rfl hI) (by decide)) (Nat.le_of_ble_eq_true rfl) (Nat.le_of_ble_eq_true rfl) ⟨(Nat.le_of_ble_eq_true rfl), (Nat.le_of_ble_eq_true rfl)⟩ (Nat.le_of_ble_eq_true rfl) dL_law_535 (fun r_3 u_4 hp_5 => ?_)
  have hI_6 : Iv u_4 := by rw [← hp_5.2]; exact hI
  have hR_7 : RLs u_4 := rl_k hR (fun c_ _ => by rw [hp_5.2])
  refine s_popI E dL_law_538 ?_
  refine s_aload_n E dL_law_539 rfl rfl ?_
  refine s_xload_n E dL_law_540 rfl rfl ?_
  refine s_iload_n E dL_law_541 rfl rfl ?_
  refine s_iconst (v := 1) E dL_law_542 (by decide) ?_
  refine z_iadd (u := i.toInt) (v := 1) E dL_law_543 rfl (by decide) (by omega) (by omega) (fun z_8 hz_8 => ?_)
  refine s_sld E hX hb0 hb (z_in (u := z_8.toInt) rfl (by omega) (by omega)) dL_law_544 ?_
  refine s_top (y := (xs (i.toInt.toNat + 1))) (congrArg xs (by show z_8.toInt.toNat = _; omega)) ?_
  refine s_xload_n E dL_law_545 rfl rfl ?_
  refine s_iload_n E dL_law_546 rfl rfl ?_
  refine s_iconst (v := 2) E dL_law_547 (by decide) ?_
  refine z_iadd (u := i.toInt) (v := 2) E dL_law_548 rfl (by decide) (by omega) (by omega) (fun z_9 hz_9 => ?_)
  refine s_sld E hX hb0 hb (z_in (u := z_9.toInt) rfl (by omega) (by omega)) dL_law_549 ?_
  refine s_top (y := (xs (i.toInt.toNat + 2))) (congrArg xs (by show z_9.toInt.toNat = _; omega)) ?_
  refine s_vI (As := [AI (xs (i.toInt.toNat + 1)), AI (xs (i.toInt.toNat + 2))]) (S := []) E (Z_X10_minister_95 l D aC b u_4 (xs (i.toInt.toNat + 1)) (xs (i.toInt.toNat + 2)) hI_6) cv_L_44 rfl rfl rfl (jv_lt (jv_rfl hI_6) (by decide)) (Nat.le_of_ble_eq_true rfl) (Nat.le_of_ble_eq_true rfl) ⟨(Nat.le_of_ble_eq_true rfl), (Nat.le_of_ble_eq_true rfl)⟩ (Nat.le_of_ble_eq_true rfl) dL_law_550 (fun r_10 u_11 hp_12 => ?_)
  have hI_13 : Iv u_11 := hp_12.2.1
  have hR_14 : RLs u_11 := rl_k hR_7 hp_12.2.2.1
  refine s_popI E dL_law_553 ?_
  refine s_goto (tgt := 2492) E dL_law_554 (by decide) ?_
  exact kk u_11 hI_13 hR_14
set_option maxRecDepth 20000 in
set_option maxHeartbeats 2000000 in
theorem lawc_7 {p : Program} {e : Env} {s : State} {m : MethodId} {below : List Frame} {meth : Method} {c : Code} (l : Launch) {b0 b n : Nat} {xs : Nat → Int32} {D : va_G} {aC : Nat → ClassId} (E : EE p s m meth c D aC b 4 cL_law RL ret) (hb : b = s.heap.size) (hX : va_X b0 n xs s s.heap) (hb0 : b0 < s.heap.size) (hn : n ≤ 3072) (w : XW) (hI : Iv w) (hR : RLs w) (i : Int32) (hi : 0 ≤ i.toInt ∧ i.toInt + 6 ≤ (n : Int)) (kk : ∀ u : XW, Iv u → RLs u → Wv p l e room_1 s m #[Value.ref b0] below meth c (lw_Z below #[Value.ref b0] s) D aC b 4 2492 [some (AX (b0 + 1)), some (AR 0), some (AR 95), some (AI i)] [] u 116 6683) : Wv p l e room_1 s m #[Value.ref b0] below meth c (lw_Z below #[Value.ref b0] s) D aC b 4 557 [some (AX (b0 + 1)), some (AR 0), some (AR 95), some (AI i)] [] w 116 6683 := by
  refine s_aload_n E dL_law_557 rfl rfl ?_
  refine s_xload_n E dL_law_558 rfl rfl ?_
  refine s_iload_n E dL_law_559 rfl rfl ?_
  refine s_iconst (v := 1) E dL_law_560 (by decide) ?_
  refine z_iadd (u := i.toInt) (v := 1) E dL_law_561 rfl (by decide) (by omega) (by omega) (fun z_1 hz_1 => ?_)
  refine s_sld E hX hb0 hb (z_in (u := z_1.toInt) rfl (by omega) (by omega)) dL_law_562 ?_
  refine s_top (y := (xs (i.toInt.toNat + 1))) (congrArg xs (by show z_1.toInt.toNat = _; omega)) ?_
  refine s_xload_n E dL_law_563 rfl rfl ?_
  refine s_iload_n E dL_law_564 rfl rfl ?_
  refine s_iconst (v := 2) E dL_law_565 (by decide) ?_
  refine z_iadd (u := i.toInt) (v := 2) E dL_law_566 rfl (by decide) (by omega) (by omega) (fun z_2 hz_2 => ?_)
  refine s_sld E hX hb0 hb (z_in (u := z_2.toInt) rfl (by omega) (by omega)) dL_law_567 ?_
  refine s_top (y := (xs (i.toInt.toNat + 2))) (congrArg xs (by show z_2.toInt.toNat = _; omega)) ?_
  refine s_xload_n E dL_law_568 rfl rfl ?_
  refine s_iload_n E dL_law_569 rfl rfl ?_
  refine s_iconst (v := 3) E dL_law_570 (by decide) ?_
  refine z_iadd (u := i.toInt) (v := 3) E dL_law_571 rfl (by decide) (by omega) (by omega) (fun z_3 hz_3 => ?_)
  refine s_sld E hX hb0 hb (z_in (u := z_3.toInt) rfl (by omega) (by omega)) dL_law_572 ?_
  refine s_top (y := (xs (i.toInt.toNat + 3))) (congrArg xs (by show z_3.toInt.toNat = _; omega)) ?_
  refine s_vI (As := [AI (xs (i.toInt.toNat + 1)), AI (xs (i.toInt.toNat + 2)), AI (xs (i.toInt.toNat + 3))]) (S := []) E (Z_X9_way_0 l D aC b w (xs (i.toInt.toNat + 1)) (xs (i.toInt.toNat + 2)) (xs (i.toInt.toNat + 3)) hI) cv_L_45 rfl rfl rfl (jv_lt (jv_rfl hI) (by decide)) (Nat.le_of_ble_eq_true rfl) (Nat.le_of_ble_eq_true rfl) ⟨(Nat.le_of_ble_eq_true rfl), (Nat.le_of_ble_eq_true rfl)⟩ (Nat.le_of_ble_eq_true rfl) dL_law_573 (fun r_4 u_5 hp_6 => ?_)
  have hI_7 : Iv u_5 := by rw [← hp_6.2]; exact hI
  have hR_8 : RLs u_5 := rl_k hR (fun c_ _ => by rw [hp_6.2])
  refine s_popI E dL_law_576 ?_
  refine s_aload_n E dL_law_577 rfl rfl ?_
  refine s_xload_n E dL_law_578 rfl rfl ?_
  refine s_iload_n E dL_law_579 rfl rfl ?_
  refine s_iconst (v := 1) E dL_law_580 (by decide) ?_
  refine z_iadd (u := i.toInt) (v := 1) E dL_law_581 rfl (by decide) (by omega) (by omega) (fun z_9 hz_9 => ?_)
  refine s_sld E hX hb0 hb (z_in (u := z_9.toInt) rfl (by omega) (by omega)) dL_law_582 ?_
  refine s_top (y := (xs (i.toInt.toNat + 1))) (congrArg xs (by show z_9.toInt.toNat = _; omega)) ?_
  refine s_xload_n E dL_law_583 rfl rfl ?_
  refine s_iload_n E dL_law_584 rfl rfl ?_
  refine s_iconst (v := 2) E dL_law_585 (by decide) ?_
  refine z_iadd (u := i.toInt) (v := 2) E dL_law_586 rfl (by decide) (by omega) (by omega) (fun z_10 hz_10 => ?_)
  refine s_sld E hX hb0 hb (z_in (u := z_10.toInt) rfl (by omega) (by omega)) dL_law_587 ?_
  refine s_top (y := (xs (i.toInt.toNat + 2))) (congrArg xs (by show z_10.toInt.toNat = _; omega)) ?_
  refine s_xload_n E dL_law_588 rfl rfl ?_
  refine s_iload_n E dL_law_589 rfl rfl ?_
  refine s_iconst (v := 3) E dL_law_590 (by decide) ?_
  refine z_iadd (u := i.toInt) (v := 3) E dL_law_591 rfl (by decide) (by omega) (by omega) (fun z_11 hz_11 => ?_)
  refine s_sld E hX hb0 hb (z_in (u := z_11.toInt) rfl (by omega) (by omega)) dL_law_592 ?_
  refine s_top (y := (xs (i.toInt.toNat + 3))) (congrArg xs (by show z_11.toInt.toNat = _; omega)) ?_
  refine s_vI (As := [AI (xs (i.toInt.toNat + 1)), AI (xs (i.toInt.toNat + 2)), AI (xs (i.toInt.toNat + 3))]) (S := []) E (Z_X10_way_95 l D aC b u_5 (xs (i.toInt.toNat + 1)) (xs (i.toInt.toNat + 2)) (xs (i.toInt.toNat + 3)) hI_7) cv_L_49 rfl rfl rfl (jv_lt (jv_rfl hI_7) (by decide)) (Nat.le_of_ble_eq_true rfl) (Nat.le_of_ble_eq_true rfl) ⟨(Nat.le_of_ble_eq_true rfl), (Nat.le_of_ble_eq_true rfl)⟩ (Nat.le_of_ble_eq_true rfl) dL_law_593 (fun r_12 u_13 hp_14 => ?_)
  have hI_15 : Iv u_13 := hp_14.2.1
  have hR_16 : RLs u_13 := rl_k hR_8 hp_14.2.2.1
  refine s_popI E dL_law_596 ?_
  refine s_goto (tgt := 2492) E dL_law_597 (by decide) ?_
  exact kk u_13 hI_15 hR_16
set_option maxRecDepth 20000 in
set_option maxHeartbeats 2000000 in
theorem lawc_8 {p : Program} {e : Env} {s : State} {m : MethodId} {below : List Frame} {meth : Method} {c : Code} (l : Launch) {b0 b n : Nat} {xs : Nat → Int32} {D : va_G} {aC : Nat → ClassId} (E : EE p s m meth c D aC b 4 cL_law RL ret) (hb : b = s.heap.size) (hX : va_X b0 n xs s s.heap) (hb0 : b0 < s.heap.size) (hn : n ≤ 3072) (w : XW) (hI : Iv w) (hR : RLs w) (i : Int32) (hi : 0 ≤ i.toInt ∧ i.toInt + 6 ≤ (n : Int)) (kk : ∀ u : XW, Iv u → RLs u → Wv p l e room_1 s m #[Value.ref b0] below meth c (lw_Z below #[Value.ref b0] s) D aC b 4 2492 [some (AX (b0 + 1)), some (AR 0), some (AR 95), some (AI i)] [] u 116 6683) : Wv p l e room_1 s m #[Value.ref b0] below meth c (lw_Z below #[Value.ref b0] s) D aC b 4 600 [some (AX (b0 + 1)), some (AR 0), some (AR 95), some (AI i)] [] w 116 6683 := by
  refine s_aload_n E dL_law_600 rfl rfl ?_
  refine s_xload_n E dL_law_601 rfl rfl ?_
  refine s_iload_n E dL_law_602 rfl rfl ?_
  refine s_iconst (v := 1) E dL_law_603 (by decide) ?_
  refine z_iadd (u := i.toInt) (v := 1) E dL_law_604 rfl (by decide) (by omega) (by omega) (fun z_1 hz_1 => ?_)
  refine s_sld E hX hb0 hb (z_in (u := z_1.toInt) rfl (by omega) (by omega)) dL_law_605 ?_
  refine s_top (y := (xs (i.toInt.toNat + 1))) (congrArg xs (by show z_1.toInt.toNat = _; omega)) ?_
  refine s_xload_n E dL_law_606 rfl rfl ?_
  refine s_iload_n E dL_law_607 rfl rfl ?_
  refine s_iconst (v := 2) E dL_law_608 (by decide) ?_
  refine z_iadd (u := i.toInt) (v := 2) E dL_law_609 rfl (by decide) (by omega) (by omega) (fun z_2 hz_2 => ?_)
  refine s_sld E hX hb0 hb (z_in (u := z_2.toInt) rfl (by omega) (by omega)) dL_law_610 ?_
  refine s_top (y := (xs (i.toInt.toNat + 2))) (congrArg xs (by show z_2.toInt.toNat = _; omega)) ?_
  refine s_vI (As := [AI (xs (i.toInt.toNat + 1)), AI (xs (i.toInt.toNat + 2))]) (S := []) E (Z_X9_reach_0 l D aC b w (xs (i.toInt.toNat + 1)) (xs (i.toInt.toNat + 2)) hI) cv_L_50 rfl rfl rfl (jv_lt (jv_rfl hI) (by decide)) (Nat.le_of_ble_eq_true rfl) (Nat.le_of_ble_eq_true rfl) ⟨(Nat.le_of_ble_eq_true rfl), (Nat.le_of_ble_eq_true rfl)⟩ (Nat.le_of_ble_eq_true rfl) dL_law_611 (fun r_3 u_4 hp_5 => ?_)
  have hI_6 : Iv u_4 := by rw [← hp_5.2]; exact hI
  have hR_7 : RLs u_4 := rl_k hR (fun c_ _ => by rw [hp_5.2])
  refine s_popI E dL_law_614 ?_
  refine s_aload_n E dL_law_615 rfl rfl ?_
  refine s_xload_n E dL_law_616 rfl rfl ?_
  refine s_iload_n E dL_law_617 rfl rfl ?_
  refine s_iconst (v := 1) E dL_law_618 (by decide) ?_
  refine z_iadd (u := i.toInt) (v := 1) E dL_law_619 rfl (by decide) (by omega) (by omega) (fun z_8 hz_8 => ?_)
  refine s_sld E hX hb0 hb (z_in (u := z_8.toInt) rfl (by omega) (by omega)) dL_law_620 ?_
  refine s_top (y := (xs (i.toInt.toNat + 1))) (congrArg xs (by show z_8.toInt.toNat = _; omega)) ?_
  refine s_xload_n E dL_law_621 rfl rfl ?_
  refine s_iload_n E dL_law_622 rfl rfl ?_
  refine s_iconst (v := 2) E dL_law_623 (by decide) ?_
  refine z_iadd (u := i.toInt) (v := 2) E dL_law_624 rfl (by decide) (by omega) (by omega) (fun z_9 hz_9 => ?_)
  refine s_sld E hX hb0 hb (z_in (u := z_9.toInt) rfl (by omega) (by omega)) dL_law_625 ?_
  refine s_top (y := (xs (i.toInt.toNat + 2))) (congrArg xs (by show z_9.toInt.toNat = _; omega)) ?_
  refine s_vI (As := [AI (xs (i.toInt.toNat + 1)), AI (xs (i.toInt.toNat + 2))]) (S := []) E (Z_X10_reach_95 l D aC b u_4 (xs (i.toInt.toNat + 1)) (xs (i.toInt.toNat + 2)) hI_6) cv_L_53 rfl rfl rfl (jv_lt (jv_rfl hI_6) (by decide)) (Nat.le_of_ble_eq_true rfl) (Nat.le_of_ble_eq_true rfl) ⟨(Nat.le_of_ble_eq_true rfl), (Nat.le_of_ble_eq_true rfl)⟩ (Nat.le_of_ble_eq_true rfl) dL_law_626 (fun r_10 u_11 hp_12 => ?_)
  have hI_13 : Iv u_11 := hp_12.2.1
  have hR_14 : RLs u_11 := rl_k hR_7 hp_12.2.2.1
  refine s_popI E dL_law_629 ?_
  refine s_goto (tgt := 2492) E dL_law_630 (by decide) ?_
  exact kk u_11 hI_13 hR_14
set_option maxRecDepth 20000 in
set_option maxHeartbeats 2000000 in
theorem lawc_9 {p : Program} {e : Env} {s : State} {m : MethodId} {below : List Frame} {meth : Method} {c : Code} (l : Launch) {b0 b n : Nat} {xs : Nat → Int32} {D : va_G} {aC : Nat → ClassId} (E : EE p s m meth c D aC b 4 cL_law RL ret) (hb : b = s.heap.size) (hX : va_X b0 n xs s s.heap) (hb0 : b0 < s.heap.size) (hn : n ≤ 3072) (w : XW) (hI : Iv w) (hR : RLs w) (i : Int32) (hi : 0 ≤ i.toInt ∧ i.toInt + 6 ≤ (n : Int)) (kk : ∀ u : XW, Iv u → RLs u → Wv p l e room_1 s m #[Value.ref b0] below meth c (lw_Z below #[Value.ref b0] s) D aC b 4 2492 [some (AX (b0 + 1)), some (AR 0), some (AR 95), some (AI i)] [] u 116 6683) : Wv p l e room_1 s m #[Value.ref b0] below meth c (lw_Z below #[Value.ref b0] s) D aC b 4 633 [some (AX (b0 + 1)), some (AR 0), some (AR 95), some (AI i)] [] w 116 6683 := by
  refine s_aload_n E dL_law_633 rfl rfl ?_
  refine s_xload_n E dL_law_634 rfl rfl ?_
  refine s_iload_n E dL_law_635 rfl rfl ?_
  refine s_iconst (v := 1) E dL_law_636 (by decide) ?_
  refine z_iadd (u := i.toInt) (v := 1) E dL_law_637 rfl (by decide) (by omega) (by omega) (fun z_1 hz_1 => ?_)
  refine s_sld E hX hb0 hb (z_in (u := z_1.toInt) rfl (by omega) (by omega)) dL_law_638 ?_
  refine s_top (y := (xs (i.toInt.toNat + 1))) (congrArg xs (by show z_1.toInt.toNat = _; omega)) ?_
  refine s_xload_n E dL_law_639 rfl rfl ?_
  refine s_iload_n E dL_law_640 rfl rfl ?_
  refine s_iconst (v := 2) E dL_law_641 (by decide) ?_
  refine z_iadd (u := i.toInt) (v := 2) E dL_law_642 rfl (by decide) (by omega) (by omega) (fun z_2 hz_2 => ?_)
  refine s_sld E hX hb0 hb (z_in (u := z_2.toInt) rfl (by omega) (by omega)) dL_law_643 ?_
  refine s_top (y := (xs (i.toInt.toNat + 2))) (congrArg xs (by show z_2.toInt.toNat = _; omega)) ?_
  refine s_vI (As := [AI (xs (i.toInt.toNat + 1)), AI (xs (i.toInt.toNat + 2))]) (S := []) E (Z_X9_bidden_0 l D aC b w (xs (i.toInt.toNat + 1)) (xs (i.toInt.toNat + 2)) hI) cv_L_54 rfl rfl rfl (jv_lt (jv_rfl hI) (by decide)) (Nat.le_of_ble_eq_true rfl) (Nat.le_of_ble_eq_true rfl) ⟨(Nat.le_of_ble_eq_true rfl), (Nat.le_of_ble_eq_true rfl)⟩ (Nat.le_of_ble_eq_true rfl) dL_law_644 (fun r_3 u_4 hp_5 => ?_)
  have hI_6 : Iv u_4 := by rw [← hp_5.2]; exact hI
  have hR_7 : RLs u_4 := rl_k hR (fun c_ _ => by rw [hp_5.2])
  refine s_popI E dL_law_647 ?_
  refine s_aload_n E dL_law_648 rfl rfl ?_
  refine s_xload_n E dL_law_649 rfl rfl ?_
  refine s_iload_n E dL_law_650 rfl rfl ?_
  refine s_iconst (v := 1) E dL_law_651 (by decide) ?_
  refine z_iadd (u := i.toInt) (v := 1) E dL_law_652 rfl (by decide) (by omega) (by omega) (fun z_8 hz_8 => ?_)
  refine s_sld E hX hb0 hb (z_in (u := z_8.toInt) rfl (by omega) (by omega)) dL_law_653 ?_
  refine s_top (y := (xs (i.toInt.toNat + 1))) (congrArg xs (by show z_8.toInt.toNat = _; omega)) ?_
  refine s_xload_n E dL_law_654 rfl rfl ?_
  refine s_iload_n E dL_law_655 rfl rfl ?_
  refine s_iconst (v := 2) E dL_law_656 (by decide) ?_
  refine z_iadd (u := i.toInt) (v := 2) E dL_law_657 rfl (by decide) (by omega) (by omega) (fun z_9 hz_9 => ?_)
  refine s_sld E hX hb0 hb (z_in (u := z_9.toInt) rfl (by omega) (by omega)) dL_law_658 ?_
  refine s_top (y := (xs (i.toInt.toNat + 2))) (congrArg xs (by show z_9.toInt.toNat = _; omega)) ?_
  refine s_vI (As := [AI (xs (i.toInt.toNat + 1)), AI (xs (i.toInt.toNat + 2))]) (S := []) E (Z_X10_bidden_95 l D aC b u_4 (xs (i.toInt.toNat + 1)) (xs (i.toInt.toNat + 2)) hI_6) cv_L_57 rfl rfl rfl (jv_lt (jv_rfl hI_6) (by decide)) (Nat.le_of_ble_eq_true rfl) (Nat.le_of_ble_eq_true rfl) ⟨(Nat.le_of_ble_eq_true rfl), (Nat.le_of_ble_eq_true rfl)⟩ (Nat.le_of_ble_eq_true rfl) dL_law_659 (fun r_10 u_11 hp_12 => ?_)
  have hI_13 : Iv u_11 := by rw [← hp_12.2]; exact hI_6
  have hR_14 : RLs u_11 := rl_k hR_7 (fun c_ _ => by rw [hp_12.2])
  refine s_popI E dL_law_662 ?_
  refine s_goto (tgt := 2492) E dL_law_663 (by decide) ?_
  exact kk u_11 hI_13 hR_14
set_option maxRecDepth 20000 in
set_option maxHeartbeats 2000000 in
theorem lawc_10 {p : Program} {e : Env} {s : State} {m : MethodId} {below : List Frame} {meth : Method} {c : Code} (l : Launch) {b0 b n : Nat} {xs : Nat → Int32} {D : va_G} {aC : Nat → ClassId} (E : EE p s m meth c D aC b 4 cL_law RL ret) (hb : b = s.heap.size) (hX : va_X b0 n xs s s.heap) (hb0 : b0 < s.heap.size) (hn : n ≤ 3072) (w : XW) (hI : Iv w) (hR : RLs w) (i : Int32) (hi : 0 ≤ i.toInt ∧ i.toInt + 6 ≤ (n : Int)) (kk : ∀ u : XW, Iv u → RLs u → Wv p l e room_1 s m #[Value.ref b0] below meth c (lw_Z below #[Value.ref b0] s) D aC b 4 2492 [some (AX (b0 + 1)), some (AR 0), some (AR 95), some (AI i)] [] u 116 6683) : Wv p l e room_1 s m #[Value.ref b0] below meth c (lw_Z below #[Value.ref b0] s) D aC b 4 666 [some (AX (b0 + 1)), some (AR 0), some (AR 95), some (AI i)] [] w 116 6683 := by
  refine s_aload_n E dL_law_666 rfl rfl ?_
  refine s_xload_n E dL_law_667 rfl rfl ?_
  refine s_iload_n E dL_law_668 rfl rfl ?_
  refine s_iconst (v := 1) E dL_law_669 (by decide) ?_
  refine z_iadd (u := i.toInt) (v := 1) E dL_law_670 rfl (by decide) (by omega) (by omega) (fun z_1 hz_1 => ?_)
  refine s_sld E hX hb0 hb (z_in (u := z_1.toInt) rfl (by omega) (by omega)) dL_law_671 ?_
  refine s_top (y := (xs (i.toInt.toNat + 1))) (congrArg xs (by show z_1.toInt.toNat = _; omega)) ?_
  refine s_xload_n E dL_law_672 rfl rfl ?_
  refine s_iload_n E dL_law_673 rfl rfl ?_
  refine s_iconst (v := 2) E dL_law_674 (by decide) ?_
  refine z_iadd (u := i.toInt) (v := 2) E dL_law_675 rfl (by decide) (by omega) (by omega) (fun z_2 hz_2 => ?_)
  refine s_sld E hX hb0 hb (z_in (u := z_2.toInt) rfl (by omega) (by omega)) dL_law_676 ?_
  refine s_top (y := (xs (i.toInt.toNat + 2))) (congrArg xs (by show z_2.toInt.toNat = _; omega)) ?_
  refine s_vI (As := [AI (xs (i.toInt.toNat + 1)), AI (xs (i.toInt.toNat + 2))]) (S := []) E (Z_X9_at_0 l D aC b w (xs (i.toInt.toNat + 1)) (xs (i.toInt.toNat + 2)) hI) cv_L_58 rfl rfl rfl (jv_lt (jv_rfl hI) (by decide)) (Nat.le_of_ble_eq_true rfl) (Nat.le_of_ble_eq_true rfl) ⟨(Nat.le_of_ble_eq_true rfl), (Nat.le_of_ble_eq_true rfl)⟩ (Nat.le_of_ble_eq_true rfl) dL_law_677 (fun r_3 u_4 hp_5 => ?_)
  have hI_6 : Iv u_4 := by rw [← hp_5.2]; exact hI
  have hR_7 : RLs u_4 := rl_k hR (fun c_ _ => by rw [hp_5.2])
  refine s_popI E dL_law_680 ?_
  refine s_aload_n E dL_law_681 rfl rfl ?_
  refine s_xload_n E dL_law_682 rfl rfl ?_
  refine s_iload_n E dL_law_683 rfl rfl ?_
  refine s_iconst (v := 1) E dL_law_684 (by decide) ?_
  refine z_iadd (u := i.toInt) (v := 1) E dL_law_685 rfl (by decide) (by omega) (by omega) (fun z_8 hz_8 => ?_)
  refine s_sld E hX hb0 hb (z_in (u := z_8.toInt) rfl (by omega) (by omega)) dL_law_686 ?_
  refine s_top (y := (xs (i.toInt.toNat + 1))) (congrArg xs (by show z_8.toInt.toNat = _; omega)) ?_
  refine s_xload_n E dL_law_687 rfl rfl ?_
  refine s_iload_n E dL_law_688 rfl rfl ?_
  refine s_iconst (v := 2) E dL_law_689 (by decide) ?_
  refine z_iadd (u := i.toInt) (v := 2) E dL_law_690 rfl (by decide) (by omega) (by omega) (fun z_9 hz_9 => ?_)
  refine s_sld E hX hb0 hb (z_in (u := z_9.toInt) rfl (by omega) (by omega)) dL_law_691 ?_
  refine s_top (y := (xs (i.toInt.toNat + 2))) (congrArg xs (by show z_9.toInt.toNat = _; omega)) ?_
  refine s_vI (As := [AI (xs (i.toInt.toNat + 1)), AI (xs (i.toInt.toNat + 2))]) (S := []) E (Z_X10_at_95 l D aC b u_4 (xs (i.toInt.toNat + 1)) (xs (i.toInt.toNat + 2)) hI_6) cv_L_61 rfl rfl rfl (jv_lt (jv_rfl hI_6) (by decide)) (Nat.le_of_ble_eq_true rfl) (Nat.le_of_ble_eq_true rfl) ⟨(Nat.le_of_ble_eq_true rfl), (Nat.le_of_ble_eq_true rfl)⟩ (Nat.le_of_ble_eq_true rfl) dL_law_692 (fun r_10 u_11 hp_12 => ?_)
  have hI_13 : Iv u_11 := hp_12.2.1
  have hR_14 : RLs u_11 := rl_k hR_7 hp_12.2.2.1
  refine s_popI E dL_law_695 ?_
  refine s_goto (tgt := 2492) E dL_law_696 (by decide) ?_
  exact kk u_11 hI_13 hR_14
set_option maxRecDepth 20000 in
set_option maxHeartbeats 2000000 in
theorem lawc_11 {p : Program} {e : Env} {s : State} {m : MethodId} {below : List Frame} {meth : Method} {c : Code} (l : Launch) {b0 b n : Nat} {xs : Nat → Int32} {D : va_G} {aC : Nat → ClassId} (E : EE p s m meth c D aC b 4 cL_law RL ret) (hb : b = s.heap.size) (hX : va_X b0 n xs s s.heap) (hb0 : b0 < s.heap.size) (hn : n ≤ 3072) (w : XW) (hI : Iv w) (hR : RLs w) (i : Int32) (hi : 0 ≤ i.toInt ∧ i.toInt + 6 ≤ (n : Int)) (kk : ∀ u : XW, Iv u → RLs u → Wv p l e room_1 s m #[Value.ref b0] below meth c (lw_Z below #[Value.ref b0] s) D aC b 4 2492 [some (AX (b0 + 1)), some (AR 0), some (AR 95), some (AI i)] [] u 116 6683) : Wv p l e room_1 s m #[Value.ref b0] below meth c (lw_Z below #[Value.ref b0] s) D aC b 4 699 [some (AX (b0 + 1)), some (AR 0), some (AR 95), some (AI i)] [] w 116 6683 := by
  refine s_aload_n E dL_law_699 rfl rfl ?_
  refine s_xload_n E dL_law_700 rfl rfl ?_
  refine s_iload_n E dL_law_701 rfl rfl ?_
  refine s_iconst (v := 1) E dL_law_702 (by decide) ?_
  refine z_iadd (u := i.toInt) (v := 1) E dL_law_703 rfl (by decide) (by omega) (by omega) (fun z_1 hz_1 => ?_)
  refine s_sld E hX hb0 hb (z_in (u := z_1.toInt) rfl (by omega) (by omega)) dL_law_704 ?_
  refine s_top (y := (xs (i.toInt.toNat + 1))) (congrArg xs (by show z_1.toInt.toNat = _; omega)) ?_
  refine s_xload_n E dL_law_705 rfl rfl ?_
  refine s_iload_n E dL_law_706 rfl rfl ?_
  refine s_iconst (v := 2) E dL_law_707 (by decide) ?_
  refine z_iadd (u := i.toInt) (v := 2) E dL_law_708 rfl (by decide) (by omega) (by omega) (fun z_2 hz_2 => ?_)
  refine s_sld E hX hb0 hb (z_in (u := z_2.toInt) rfl (by omega) (by omega)) dL_law_709 ?_
  refine s_top (y := (xs (i.toInt.toNat + 2))) (congrArg xs (by show z_2.toInt.toNat = _; omega)) ?_
  refine s_vI (As := [AI (xs (i.toInt.toNat + 1)), AI (xs (i.toInt.toNat + 2))]) (S := []) E (Z_X9_within_0 l D aC b w (xs (i.toInt.toNat + 1)) (xs (i.toInt.toNat + 2)) hI) cv_L_62 rfl rfl rfl (jv_lt (jv_rfl hI) (by decide)) (Nat.le_of_ble_eq_true rfl) (Nat.le_of_ble_eq_true rfl) ⟨(Nat.le_of_ble_eq_true rfl), (Nat.le_of_ble_eq_true rfl)⟩ (Nat.le_of_ble_eq_true rfl) dL_law_710 (fun r_3 u_4 hp_5 => ?_)
  have hI_6 : Iv u_4 := by rw [← hp_5.2]; exact hI
  have hR_7 : RLs u_4 := rl_k hR (fun c_ _ => by rw [hp_5.2])
  refine s_popI E dL_law_713 ?_
  refine s_aload_n E dL_law_714 rfl rfl ?_
  refine s_xload_n E dL_law_715 rfl rfl ?_
  refine s_iload_n E dL_law_716 rfl rfl ?_
  refine s_iconst (v := 1) E dL_law_717 (by decide) ?_
  refine z_iadd (u := i.toInt) (v := 1) E dL_law_718 rfl (by decide) (by omega) (by omega) (fun z_8 hz_8 => ?_)
  refine s_sld E hX hb0 hb (z_in (u := z_8.toInt) rfl (by omega) (by omega)) dL_law_719 ?_
  refine s_top (y := (xs (i.toInt.toNat + 1))) (congrArg xs (by show z_8.toInt.toNat = _; omega)) ?_
  refine s_xload_n E dL_law_720 rfl rfl ?_
  refine s_iload_n E dL_law_721 rfl rfl ?_
  refine s_iconst (v := 2) E dL_law_722 (by decide) ?_
  refine z_iadd (u := i.toInt) (v := 2) E dL_law_723 rfl (by decide) (by omega) (by omega) (fun z_9 hz_9 => ?_)
  refine s_sld E hX hb0 hb (z_in (u := z_9.toInt) rfl (by omega) (by omega)) dL_law_724 ?_
  refine s_top (y := (xs (i.toInt.toNat + 2))) (congrArg xs (by show z_9.toInt.toNat = _; omega)) ?_
  refine s_vI (As := [AI (xs (i.toInt.toNat + 1)), AI (xs (i.toInt.toNat + 2))]) (S := []) E (Z_X10_within_95 l D aC b u_4 (xs (i.toInt.toNat + 1)) (xs (i.toInt.toNat + 2)) hI_6) cv_L_65 rfl rfl rfl (jv_lt (jv_rfl hI_6) (by decide)) (Nat.le_of_ble_eq_true rfl) (Nat.le_of_ble_eq_true rfl) ⟨(Nat.le_of_ble_eq_true rfl), (Nat.le_of_ble_eq_true rfl)⟩ (Nat.le_of_ble_eq_true rfl) dL_law_725 (fun r_10 u_11 hp_12 => ?_)
  have hI_13 : Iv u_11 := hp_12.2.1
  have hR_14 : RLs u_11 := rl_k hR_7 hp_12.2.2.1
  refine s_popI E dL_law_728 ?_
  refine s_goto (tgt := 2492) E dL_law_729 (by decide) ?_
  exact kk u_11 hI_13 hR_14
