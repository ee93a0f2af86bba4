set_option maxRecDepth 20000 in
set_option maxHeartbeats 2000000 in
theorem lawc_36 {p : Program} {e : Env} {s : State} {m : MethodId} {below : List Frame} {meth : Method} {c : Code} (l : Launch) {b0 b n : Nat} {xs : Nat → Int32} {D : va_G} {aC : Nat → ClassId} (E : EE p s m meth c D aC b 4 cL_law RL ret) (hb : b = s.heap.size) (hX : va_X b0 n xs s s.heap) (hb0 : b0 < s.heap.size) (hn : n ≤ 3072) (w : XW) (hI : Iv w) (hR : RLs w) (i : Int32) (hi : 0 ≤ i.toInt ∧ i.toInt + 6 ≤ (n : Int)) (kk : ∀ u : XW, Iv u → RLs u → Wv p l e room_1 s m #[Value.ref b0] below meth c (lw_Z below #[Value.ref b0] s) D aC b 4 2492 [some (AX (b0 + 1)), some (AR 0), some (AR 95), some (AI i)] [] u 116 6683) : Wv p l e room_1 s m #[Value.ref b0] below meth c (lw_Z below #[Value.ref b0] s) D aC b 4 1314 [some (AX (b0 + 1)), some (AR 0), some (AR 95), some (AI i)] [] w 116 6683 := by
  refine s_aload_n E dL_law_1314 rfl rfl ?_
  refine s_xload_n E dL_law_1315 rfl rfl ?_
  refine s_iload_n E dL_law_1316 rfl rfl ?_
  refine s_iconst (v := 1) E dL_law_1317 (by decide) ?_
  refine z_iadd (u := i.toInt) (v := 1) E dL_law_1318 rfl (by decide) (by omega) (by omega) (fun z_1 hz_1 => ?_)
  refine s_sld E hX hb0 hb (z_in (u := z_1.toInt) rfl (by omega) (by omega)) dL_law_1319 ?_
  refine s_top (y := (xs (i.toInt.toNat + 1))) (congrArg xs (by show z_1.toInt.toNat = _; omega)) ?_
  refine s_vI (As := [AI (xs (i.toInt.toNat + 1))]) (S := []) E (Z_X9_lasts_0 l D aC b w (xs (i.toInt.toNat + 1)) hI) cv_L_162 rfl rfl rfl (jv_lt (jv_rfl hI) (by decide)) (Nat.le_of_ble_eq_true rfl) (Nat.le_of_ble_eq_true rfl) ⟨(Nat.le_of_ble_eq_true rfl), (Nat.le_of_ble_eq_true rfl)⟩ (Nat.le_of_ble_eq_true rfl) dL_law_1320 (fun r_2 u_3 hp_4 => ?_)
  have hI_5 : Iv u_3 := hp_4.2.1
  have hR_6 : RLs u_3 := rl_k hR hp_4.2.2.1
  refine s_popI E dL_law_1323 ?_
  refine s_aload_n E dL_law_1324 rfl rfl ?_
  refine s_xload_n E dL_law_1325 rfl rfl ?_
  refine s_iload_n E dL_law_1326 rfl rfl ?_
  refine s_iconst (v := 1) E dL_law_1327 (by decide) ?_
  refine z_iadd (u := i.toInt) (v := 1) E dL_law_1328 rfl (by decide) (by omega) (by omega) (fun z_7 hz_7 => ?_)
  refine s_sld E hX hb0 hb (z_in (u := z_7.toInt) rfl (by omega) (by omega)) dL_law_1329 ?_
  refine s_top (y := (xs (i.toInt.toNat + 1))) (congrArg xs (by show z_7.toInt.toNat = _; omega)) ?_
  refine s_vI (As := [AI (xs (i.toInt.toNat + 1))]) (S := []) E (Z_X10_lasts_95 l D aC b u_3 (xs (i.toInt.toNat + 1)) hI_5) cv_L_165 rfl rfl rfl (jv_lt (jv_rfl hI_5) (by decide)) (Nat.le_of_ble_eq_true rfl) (Nat.le_of_ble_eq_true rfl) ⟨(Nat.le_of_ble_eq_true rfl), (Nat.le_of_ble_eq_true rfl)⟩ (Nat.le_of_ble_eq_true rfl) dL_law_1330 (fun r_8 u_9 hp_10 => ?_)
  have hI_11 : Iv u_9 := hp_10.2.1
  have hR_12 : RLs u_9 := rl_k hR_6 hp_10.2.2.1
  refine s_popI E dL_law_1333 ?_
  refine s_goto (tgt := 2492) E dL_law_1334 (by decide) ?_
  exact kk u_9 hI_11 hR_12
set_option maxRecDepth 20000 in
set_option maxHeartbeats 2000000 in
theorem lawc_37 {p : Program} {e : Env} {s : State} {m : MethodId} {below : List Frame} {meth : Method} {c : Code} (l : Launch) {b0 b n : Nat} {xs : Nat → Int32} {D : va_G} {aC : Nat → ClassId} (E : EE p s m meth c D aC b 4 cL_law RL ret) (hb : b = s.heap.size) (hX : va_X b0 n xs s s.heap) (hb0 : b0 < s.heap.size) (hn : n ≤ 3072) (w : XW) (hI : Iv w) (hR : RLs w) (i : Int32) (hi : 0 ≤ i.toInt ∧ i.toInt + 6 ≤ (n : Int)) (kk : ∀ u : XW, Iv u → RLs u → Wv p l e room_1 s m #[Value.ref b0] below meth c (lw_Z below #[Value.ref b0] s) D aC b 4 2492 [some (AX (b0 + 1)), some (AR 0), some (AR 95), some (AI i)] [] u 116 6683) : Wv p l e room_1 s m #[Value.ref b0] below meth c (lw_Z below #[Value.ref b0] s) D aC b 4 1337 [some (AX (b0 + 1)), some (AR 0), some (AR 95), some (AI i)] [] w 116 6683 := by
  refine s_aload_n E dL_law_1337 rfl rfl ?_
  refine s_xload_n E dL_law_1338 rfl rfl ?_
  refine s_iload_n E dL_law_1339 rfl rfl ?_
  refine s_iconst (v := 1) E dL_law_1340 (by decide) ?_
  refine z_iadd (u := i.toInt) (v := 1) E dL_law_1341 rfl (by decide) (by omega) (by omega) (fun z_1 hz_1 => ?_)
  refine s_sld E hX hb0 hb (z_in (u := z_1.toInt) rfl (by omega) (by omega)) dL_law_1342 ?_
  refine s_top (y := (xs (i.toInt.toNat + 1))) (congrArg xs (by show z_1.toInt.toNat = _; omega)) ?_
  refine s_vI (As := [AI (xs (i.toInt.toNat + 1))]) (S := []) E (Z_X9_needed_0 l D aC b w (xs (i.toInt.toNat + 1)) hI) cv_L_166 rfl rfl rfl (jv_lt (jv_rfl hI) (by decide)) (Nat.le_of_ble_eq_true rfl) (Nat.le_of_ble_eq_true rfl) ⟨(Nat.le_of_ble_eq_true rfl), (Nat.le_of_ble_eq_true rfl)⟩ (Nat.le_of_ble_eq_true rfl) dL_law_1343 (fun r_2 u_3 hp_4 => ?_)
  have hI_5 : Iv u_3 := hp_4.2.1
  have hR_6 : RLs u_3 := rl_k hR hp_4.2.2.1
  refine s_popI E dL_law_1346 ?_
  refine s_aload_n E dL_law_1347 rfl rfl ?_
  refine s_xload_n E dL_law_1348 rfl rfl ?_
  refine s_iload_n E dL_law_1349 rfl rfl ?_
  refine s_iconst (v := 1) E dL_law_1350 (by decide) ?_
  refine z_iadd (u := i.toInt) (v := 1) E dL_law_1351 rfl (by decide) (by omega) (by omega) (fun z_7 hz_7 => ?_)
  refine s_sld E hX hb0 hb (z_in (u := z_7.toInt) rfl (by omega) (by omega)) dL_law_1352 ?_
  refine s_top (y := (xs (i.toInt.toNat + 1))) (congrArg xs (by show z_7.toInt.toNat = _; omega)) ?_
  refine s_vI (As := [AI (xs (i.toInt.toNat + 1))]) (S := []) E (Z_X10_needed_95 l D aC b u_3 (xs (i.toInt.toNat + 1)) hI_5) cv_L_169 rfl rfl rfl (jv_lt (jv_rfl hI_5) (by decide)) (Nat.le_of_ble_eq_true rfl) (Nat.le_of_ble_eq_true rfl) ⟨(Nat.le_of_ble_eq_true rfl), (Nat.le_of_ble_eq_true rfl)⟩ (Nat.le_of_ble_eq_true rfl) dL_law_1353 (fun r_8 u_9 hp_10 => ?_)
  have hI_11 : Iv u_9 := hp_10.2.1
  have hR_12 : RLs u_9 := rl_k hR_6 hp_10.2.2.1
  refine s_popI E dL_law_1356 ?_
  refine s_goto (tgt := 2492) E dL_law_1357 (by decide) ?_
  exact kk u_9 hI_11 hR_12
set_option maxRecDepth 20000 in
set_option maxHeartbeats 2000000 in
theorem lawc_38 {p : Program} {e : Env} {s : State} {m : MethodId} {below : List Frame} {meth : Method} {c : Code} (l : Launch) {b0 b n : Nat} {xs : Nat → Int32} {D : va_G} {aC : Nat → ClassId} (E : EE p s m meth c D aC b 4 cL_law RL ret) (hb : b = s.heap.size) (hX : va_X b0 n xs s s.heap) (hb0 : b0 < s.heap.size) (hn : n ≤ 3072) (w : XW) (hI : Iv w) (hR : RLs w) (i : Int32) (hi : 0 ≤ i.toInt ∧ i.toInt + 6 ≤ (n : Int)) (kk : ∀ u : XW, Iv u → RLs u → Wv p l e room_1 s m #[Value.ref b0] below meth c (lw_Z below #[Value.ref b0] s) D aC b 4 2492 [some (AX (b0 + 1)), some (AR 0), some (AR 95), some (AI i)] [] u 116 6683) : Wv p l e room_1 s m #[Value.ref b0] below meth c (lw_Z below #[Value.ref b0] s) D aC b 4 1360 [some (AX (b0 + 1)), some (AR 0), some (AR 95), some (AI i)] [] w 116 6683 := by
  refine s_aload_n E dL_law_1360 rfl rfl ?_
  refine s_xload_n E dL_law_1361 rfl rfl ?_
  refine s_iload_n E dL_law_1362 rfl rfl ?_
  refine s_iconst (v := 1) E dL_law_1363 (by decide) ?_
  refine z_iadd (u := i.toInt) (v := 1) E dL_law_1364 rfl (by decide) (by omega) (by omega) (fun z_1 hz_1 => ?_)
  refine s_sld E hX hb0 hb (z_in (u := z_1.toInt) rfl (by omega) (by omega)) dL_law_1365 ?_
  refine s_top (y := (xs (i.toInt.toNat + 1))) (congrArg xs (by show z_1.toInt.toNat = _; omega)) ?_
  refine s_xload_n E dL_law_1366 rfl rfl ?_
  refine s_iload_n E dL_law_1367 rfl rfl ?_
  refine s_iconst (v := 2) E dL_law_1368 (by decide) ?_
  refine z_iadd (u := i.toInt) (v := 2) E dL_law_1369 rfl (by decide) (by omega) (by omega) (fun z_2 hz_2 => ?_)
  refine s_sld E hX hb0 hb (z_in (u := z_2.toInt) rfl (by omega) (by omega)) dL_law_1370 ?_
  refine s_top (y := (xs (i.toInt.toNat + 2))) (congrArg xs (by show z_2.toInt.toNat = _; omega)) ?_
  refine s_vI (As := [AI (xs (i.toInt.toNat + 1)), AI (xs (i.toInt.toNat + 2))]) (S := []) E (Z_X9_by_0 l D aC b w (xs (i.toInt.toNat + 1)) (xs (i.toInt.toNat + 2)) hI) cv_L_170 rfl rfl rfl (jv_lt (jv_rfl hI) (by decide)) (Nat.le_of_ble_eq_true rfl) (Nat.le_of_ble_eq_true rfl) ⟨(Nat.le_of_ble_eq_true rfl), (Nat.le_of_ble_eq_true rfl)⟩ (Nat.le_of_ble_eq_true rfl) dL_law_1371 (fun r_3 u_4 hp_5 => ?_)
  have hI_6 : Iv u_4 := hp_5.2.1
  have hR_7 : RLs u_4 := rl_k hR hp_5.2.2.1
  refine s_popI E dL_law_1374 ?_
  refine s_aload_n E dL_law_1375 rfl rfl ?_
  refine s_xload_n E dL_law_1376 rfl rfl ?_
  refine s_iload_n E dL_law_1377 rfl rfl ?_
  refine s_iconst (v := 1) E dL_law_1378 (by decide) ?_
  refine z_iadd (u := i.toInt) (v := 1) E dL_law_1379 rfl (by decide) (by omega) (by omega) (fun z_8 hz_8 => ?_)
  refine s_sld E hX hb0 hb (z_in (u := z_8.toInt) rfl (by omega) (by omega)) dL_law_1380 ?_
  refine s_top (y := (xs (i.toInt.toNat + 1))) (congrArg xs (by show z_8.toInt.toNat = _; omega)) ?_
  refine s_xload_n E dL_law_1381 rfl rfl ?_
  refine s_iload_n E dL_law_1382 rfl rfl ?_
  refine s_iconst (v := 2) E dL_law_1383 (by decide) ?_
  refine z_iadd (u := i.toInt) (v := 2) E dL_law_1384 rfl (by decide) (by omega) (by omega) (fun z_9 hz_9 => ?_)
  refine s_sld E hX hb0 hb (z_in (u := z_9.toInt) rfl (by omega) (by omega)) dL_law_1385 ?_
  refine s_top (y := (xs (i.toInt.toNat + 2))) (congrArg xs (by show z_9.toInt.toNat = _; omega)) ?_
  refine s_vI (As := [AI (xs (i.toInt.toNat + 1)), AI (xs (i.toInt.toNat + 2))]) (S := []) E (Z_X10_by_95 l D aC b u_4 (xs (i.toInt.toNat + 1)) (xs (i.toInt.toNat + 2)) hI_6) cv_L_173 rfl rfl rfl (jv_lt (jv_rfl hI_6) (by decide)) (Nat.le_of_ble_eq_true rfl) (Nat.le_of_ble_eq_true rfl) ⟨(Nat.le_of_ble_eq_true rfl), (Nat.le_of_ble_eq_true rfl)⟩ (Nat.le_of_ble_eq_true rfl) dL_law_1386 (fun r_10 u_11 hp_12 => ?_)
  have hI_13 : Iv u_11 := hp_12.2.1
  have hR_14 : RLs u_11 := rl_k hR_7 hp_12.2.2.1
  refine s_popI E dL_law_1389 ?_
  refine s_goto (tgt := 2492) E dL_law_1390 (by decide) ?_
  exact kk u_11 hI_13 hR_14
set_option maxRecDepth 20000 in
set_option maxHeartbeats 2000000 in
theorem lawc_39 {p : Program} {e : Env} {s : State} {m : MethodId} {below : List Frame} {meth : Method} {c : Code} (l : Launch) {b0 b n : Nat} {xs : Nat → Int32} {D : va_G} {aC : Nat → ClassId} (E : EE p s m meth c D aC b 4 cL_law RL ret) (hb : b = s.heap.size) (hX : va_X b0 n xs s s.heap) (hb0 : b0 < s.heap.size) (hn : n ≤ 3072) (w : XW) (hI : Iv w) (hR : RLs w) (i : Int32) (hi : 0 ≤ i.toInt ∧ i.toInt + 6 ≤ (n : Int)) (kk : ∀ u : XW, Iv u → RLs u → Wv p l e room_1 s m #[Value.ref b0] below meth c (lw_Z below #[Value.ref b0] s) D aC b 4 2492 [some (AX (b0 + 1)), some (AR 0), some (AR 95), some (AI i)] [] u 116 6683) : Wv p l e room_1 s m #[Value.ref b0] below meth c (lw_Z below #[Value.ref b0] s) D aC b 4 1393 [some (AX (b0 + 1)), some (AR 0), some (AR 95), some (AI i)] [] w 116 6683 := by
  refine s_aload_n E dL_law_1393 rfl rfl ?_
  refine s_xload_n E dL_law_1394 rfl rfl ?_
  refine s_iload_n E dL_law_1395 rfl rfl ?_
  refine s_iconst (v := 1) E dL_law_1396 (by decide) ?_
  refine z_iadd (u := i.toInt) (v := 1) E dL_law_1397 rfl (by decide) (by omega) (by omega) (fun z_1 hz_1 => ?_)
  refine s_sld E hX hb0 hb (z_in (u := z_1.toInt) rfl (by omega) (by omega)) dL_law_1398 ?_
  refine s_top (y := (xs (i.toInt.toNat + 1))) (congrArg xs (by show z_1.toInt.toNat = _; omega)) ?_
  refine s_xload_n E dL_law_1399 rfl rfl ?_
  refine s_iload_n E dL_law_1400 rfl rfl ?_
  refine s_iconst (v := 2) E dL_law_1401 (by decide) ?_
  refine z_iadd (u := i.toInt) (v := 2) E dL_law_1402 rfl (by decide) (by omega) (by omega) (fun z_2 hz_2 => ?_)
  refine s_sld E hX hb0 hb (z_in (u := z_2.toInt) rfl (by omega) (by omega)) dL_law_1403 ?_
  refine s_top (y := (xs (i.toInt.toNat + 2))) (congrArg xs (by show z_2.toInt.toNat = _; omega)) ?_
  refine s_xload_n E dL_law_1404 rfl rfl ?_
  refine s_iload_n E dL_law_1405 rfl rfl ?_
  refine s_iconst (v := 3) E dL_law_1406 (by decide) ?_
  refine z_iadd (u := i.toInt) (v := 3) E dL_law_1407 rfl (by decide) (by omega) (by omega) (fun z_3 hz_3 => ?_)
  refine s_sld E hX hb0 hb (z_in (u := z_3.toInt) rfl (by omega) (by omega)) dL_law_1408 ?_
  refine s_top (y := (xs (i.toInt.toNat + 3))) (congrArg xs (by show z_3.toInt.toNat = _; omega)) ?_
  refine s_vI (As := [AI (xs (i.toInt.toNat + 1)), AI (xs (i.toInt.toNat + 2)), AI (xs (i.toInt.toNat + 3))]) (S := []) E (Z_X9_carry_0 l D aC b w (xs (i.toInt.toNat + 1)) (xs (i.toInt.toNat + 2)) (xs (i.toInt.toNat + 3)) hI) cv_L_174 rfl rfl rfl (jv_lt (jv_rfl hI) (by decide)) (Nat.le_of_ble_eq_true rfl) (Nat.le_of_ble_eq_true rfl) ⟨(Nat.le_of_ble_eq_true rfl), (Nat.le_of_ble_eq_true rfl)⟩ (Nat.le_of_ble_eq_true rfl) dL_law_1409 (fun r_4 u_5 hp_6 => ?_)
  have hI_7 : Iv u_5 := hp_6.2.1
  have hR_8 : RLs u_5 := rl_k hR hp_6.2.2.1
  refine s_popI E dL_law_1412 ?_
  refine s_aload_n E dL_law_1413 rfl rfl ?_
  refine s_xload_n E dL_law_1414 rfl rfl ?_
  refine s_iload_n E dL_law_1415 rfl rfl ?_
  refine s_iconst (v := 1) E dL_law_1416 (by decide) ?_
  refine z_iadd (u := i.toInt) (v := 1) E dL_law_1417 rfl (by decide) (by omega) (by omega) (fun z_9 hz_9 => ?_)
  refine s_sld E hX hb0 hb (z_in (u := z_9.toInt) rfl (by omega) (by omega)) dL_law_1418 ?_
  refine s_top (y := (xs (i.toInt.toNat + 1))) (congrArg xs (by show z_9.toInt.toNat = _; omega)) ?_
  refine s_xload_n E dL_law_1419 rfl rfl ?_
  refine s_iload_n E dL_law_1420 rfl rfl ?_
  refine s_iconst (v := 2) E dL_law_1421 (by decide) ?_
  refine z_iadd (u := i.toInt) (v := 2) E dL_law_1422 rfl (by decide) (by omega) (by omega) (fun z_10 hz_10 => ?_)
  refine s_sld E hX hb0 hb (z_in (u := z_10.toInt) rfl (by omega) (by omega)) dL_law_1423 ?_
  refine s_top (y := (xs (i.toInt.toNat + 2))) (congrArg xs (by show z_10.toInt.toNat = _; omega)) ?_
  refine s_xload_n E dL_law_1424 rfl rfl ?_
  refine s_iload_n E dL_law_1425 rfl rfl ?_
  refine s_iconst (v := 3) E dL_law_1426 (by decide) ?_
  refine z_iadd (u := i.toInt) (v := 3) E dL_law_1427 rfl (by decide) (by omega) (by omega) (fun z_11 hz_11 => ?_)
  refine s_sld E hX hb0 hb (z_in (u := z_11.toInt) rfl (by omega) (by omega)) dL_law_1428 ?_
  refine s_top (y := (xs (i.toInt.toNat + 3))) (congrArg xs (by show z_11.toInt.toNat = _; omega)) ?_
  refine s_vI (As := [AI (xs (i.toInt.toNat + 1)), AI (xs (i.toInt.toNat + 2)), AI (xs (i.toInt.toNat + 3))]) (S := []) E (Z_X10_carry_95 l D aC b u_5 (xs (i.toInt.toNat + 1)) (xs (i.toInt.toNat + 2)) (xs (i.toInt.toNat + 3)) hI_7) cv_L_177 rfl rfl rfl (jv_lt (jv_rfl hI_7) (by decide)) (Nat.le_of_ble_eq_true rfl) (Nat.le_of_ble_eq_true rfl) ⟨(Nat.le_of_ble_eq_true rfl), (Nat.le_of_ble_eq_true rfl)⟩ (Nat.le_of_ble_eq_true rfl) dL_law_1429 (fun r_12 u_13 hp_14 => ?_)
  have hI_15 : Iv u_13 := hp_14.2.1
  have hR_16 : RLs u_13 := rl_k hR_8 hp_14.2.2.1
  refine s_popI E dL_law_1432 ?_
  refine s_goto (tgt := 2492) E dL_law_1433 (by decide) ?_
  exact kk u_13 hI_15 hR_16
set_option maxRecDepth 20000 in
set_option maxHeartbeats 2000000 in
theorem lawc_40 {p : Program} {e : Env} {s : State} {m : MethodId} {below : List Frame} {meth : Method} {c : Code} (l : Launch) {b0 b n : Nat} {xs : Nat → Int32} {D : va_G} {aC : Nat → ClassId} (E : EE p s m meth c D aC b 4 cL_law RL ret) (hb : b = s.heap.size) (hX : va_X b0 n xs s s.heap) (hb0 : b0 < s.heap.size) (hn : n ≤ 3072) (w : XW) (hI : Iv w) (hR : RLs w) (i : Int32) (hi : 0 ≤ i.toInt ∧ i.toInt + 6 ≤ (n : Int)) (kk : ∀ u : XW, Iv u → RLs u → Wv p l e room_1 s m #[Value.ref b0] below meth c (lw_Z below #[Value.ref b0] s) D aC b 4 2492 [some (AX (b0 + 1)), some (AR 0), some (AR 95), some (AI i)] [] u 116 6683) : Wv p l e room_1 s m #[Value.ref b0] below meth c (lw_Z below #[Value.ref b0] s) D aC b 4 1436 [some (AX (b0 + 1)), some (AR 0), some (AR 95), some (AI i)] [] w 116 6683 := by
  refine s_aload_n E dL_law_1436 rfl rfl ?_
  refine s_xload_n E dL_law_1437 rfl rfl ?_
  refine s_iload_n E dL_law_1438 rfl rfl ?_
  refine s_iconst (v := 1) E dL_law_1439 (by decide) ?_
  refine z_iadd (u := i.toInt) (v := 1) E dL_law_1440 rfl (by decide) (by omega) (by omega) (fun z_1 hz_1 => ?_)
  refine s_sld E hX hb0 hb (z_in (u := z_1.toInt) rfl (by omega) (by omega)) dL_law_1441 ?_
  refine s_top (y := (xs (i.toInt.toNat + 1))) (congrArg xs (by show z_1.toInt.toNat = _; omega)) ?_
  refine s_xload_n E dL_law_1442 rfl rfl ?_
  refine s_iload_n E dL_law_1443 rfl rfl ?_
  refine s_iconst (v := 2) E dL_law_1444 (by decide) ?_
  refine z_iadd (u := i.toInt) (v := 2) E dL_law_1445 rfl (by decide) (by omega) (by omega) (fun z_2 hz_2 => ?_)
  refine s_sld E hX hb0 hb (z_in (u := z_2.toInt) rfl (by omega) (by omega)) dL_law_1446 ?_
  refine s_top (y := (xs (i.toInt.toNat + 2))) (congrArg xs (by show z_2.toInt.toNat = _; omega)) ?_
  refine s_xload_n E dL_law_1447 rfl rfl ?_
  refine s_iload_n E dL_law_1448 rfl rfl ?_
  refine s_iconst (v := 3) E dL_law_1449 (by decide) ?_
  refine z_iadd (u := i.toInt) (v := 3) E dL_law_1450 rfl (by decide) (by omega) (by omega) (fun z_3 hz_3 => ?_)
  refine s_sld E hX hb0 hb (z_in (u := z_3.toInt) rfl (by omega) (by omega)) dL_law_1451 ?_
  refine s_top (y := (xs (i.toInt.toNat + 3))) (congrArg xs (by show z_3.toInt.toNat = _; omega)) ?_
  refine s_xload_n E dL_law_1452 rfl rfl ?_
  refine s_iload_n E dL_law_1453 rfl rfl ?_
  refine s_iconst (v := 4) E dL_law_1454 (by decide) ?_
  refine z_iadd (u := i.toInt) (v := 4) E dL_law_1455 rfl (by decide) (by omega) (by omega) (fun z_4 hz_4 => ?_)
  refine s_sld E hX hb0 hb (z_in (u := z_4.toInt) rfl (by omega) (by omega)) dL_law_1456 ?_
  refine s_top (y := (xs (i.toInt.toNat + 4))) (congrArg xs (by show z_4.toInt.toNat = _; omega)) ?_
  refine s_vI (As := [AI (xs (i.toInt.toNat + 1)), AI (xs (i.toInt.toNat + 2)), AI (xs (i.toInt.toNat + 3)), AI (xs (i.toInt.toNat + 4))]) (S := []) E (Z_X9_walk_0 l D aC b w (xs (i.toInt.toNat + 1)) (xs (i.toInt.toNat + 2)) (xs (i.toInt.toNat + 3)) (xs (i.toInt.toNat + 4)) hI) cv_L_178 rfl rfl rfl (jv_lt (jv_rfl hI) (by decide)) (Nat.le_of_ble_eq_true rfl) (Nat.le_of_ble_eq_true rfl) ⟨(Nat.le_of_ble_eq_true rfl), (Nat.le_of_ble_eq_true rfl)⟩ (Nat.le_of_ble_eq_true rfl) dL_law_1457 (fun r_5 u_6 hp_7 => ?_)
  have hI_8 : Iv u_6 := hp_7.2.1
  have hR_9 : RLs u_6 := rl_k hR hp_7.2.2.1
  refine s_popI E dL_law_1460 ?_
  refine s_aload_n E dL_law_1461 rfl rfl ?_
  refine s_xload_n E dL_law_1462 rfl rfl ?_
  refine s_iload_n E dL_law_1463 rfl rfl ?_
  refine s_iconst (v := 1) E dL_law_1464 (by decide) ?_
  refine z_iadd (u := i.toInt) (v := 1) E dL_law_1465 rfl (by decide) (by omega) (by omega) (fun z_10 hz_10 => ?_)
  refine s_sld E hX hb0 hb (z_in (u := z_10.toInt) rfl (by omega) (by omega)) dL_law_1466 ?_
  refine s_top (y := (xs (i.toInt.toNat + 1))) (congrArg xs (by show z_10.toInt.toNat = _; omega)) ?_
  refine s_xload_n E dL_law_1467 rfl rfl ?_
  refine s_iload_n E dL_law_1468 rfl rfl ?_
  refine s_iconst (v := 2) E dL_law_1469 (by decide) ?_
  refine z_iadd (u := i.toInt) (v := 2) E dL_law_1470 rfl (by decide) (by omega) (by omega) (fun z_11 hz_11 => ?_)
  refine s_sld E hX hb0 hb (z_in (u := z_11.toInt) rfl (by omega) (by omega)) dL_law_1471 ?_
  refine s_top (y := (xs (i.toInt.toNat + 2))) (congrArg xs (by show z_11.toInt.toNat = _; omega)) ?_
  refine s_xload_n E dL_law_1472 rfl rfl ?_
  refine s_iload_n E dL_law_1473 rfl rfl ?_
  refine s_iconst (v := 3) E dL_law_1474 (by decide) ?_
  refine z_iadd (u := i.toInt) (v := 3) E dL_law_1475 rfl (by decide) (by omega) (by omega) (fun z_12 hz_12 => ?_)
  refine s_sld E hX hb0 hb (z_in (u := z_12.toInt) rfl (by omega) (by omega)) dL_law_1476 ?_
  refine s_top (y := (xs (i.toInt.toNat + 3))) (congrArg xs (by show z_12.toInt.toNat = _; omega)) ?_
  refine s_xload_n E dL_law_1477 rfl rfl ?_
  refine s_iload_n E dL_law_1478 rfl rfl ?_
  refine s_iconst (v := 4) E dL_law_1479 (by decide) ?_
  refine z_iadd (u := i.toInt) (v := 4) E dL_law_1480 rfl (by decide) (by omega) (by omega) (fun z_13 hz_13 => ?_)
  refine s_sld E hX hb0 hb (z_in (u := z_13.toInt) rfl (by omega) (by omega)) dL_law_1481 ?_
  refine s_top (y := (xs (i.toInt.toNat + 4))) (congrArg xs (by show z_13.toInt.toNat = _; omega)) ?_
  refine s_vI (As := [AI (xs (i.toInt.toNat + 1)), AI (xs (i.toInt.toNat + 2)), AI (xs (i.toInt.toNat + 3)), AI (xs (i.toInt.toNat + 4))]) (S := []) E (Z_X10_walk_95 l D aC b u_6 (xs (i.toInt.toNat + 1)) (xs (i.toInt.toNat + 2)) (xs (i.toInt.toNat + 3)) (xs (i.toInt.toNat + 4)) hI_8) cv_L_182 rfl rfl rfl (jv_lt (jv_rfl hI_8) (by decide)) (Nat.le_of_ble_eq_true rfl) (Nat.le_of_ble_eq_true rfl) ⟨(Nat.le_of_ble_eq_true rfl), (Nat.le_of_ble_eq_true rfl)⟩ (Nat.le_of_ble_eq_true rfl) dL_law_1482 (fun r_14 u_15 hp_16 => ?_)
  have hI_17 : Iv u_15 := hp_16.2.1
  have hR_18 : RLs u_15 := rl_k hR_9 hp_16.2.2.1
  refine s_popI E dL_law_1485 ?_
  refine s_goto (tgt := 2492) E dL_law_1486 (by decide) ?_
  exact kk u_15 hI_17 hR_18
set_option maxRecDepth 20000 in
set_option maxHeartbeats 2000000 in
theorem lawc_41 {p : Program} {e : Env} {s : State} {m : MethodId} {below : List Frame} {meth : Method} {c : Code} (l : Launch) {b0 b n : Nat} {xs : Nat → Int32} {D : va_G} {aC : Nat → ClassId} (E : EE p s m meth c D aC b 4 cL_law RL ret) (hb : b = s.heap.size) (hX : va_X b0 n xs s s.heap) (hb0 : b0 < s.heap.size) (hn : n ≤ 3072) (w : XW) (hI : Iv w) (hR : RLs w) (i : Int32) (hi : 0 ≤ i.toInt ∧ i.toInt + 6 ≤ (n : Int)) (kk : ∀ u : XW, Iv u → RLs u → Wv p l e room_1 s m #[Value.ref b0] below meth c (lw_Z below #[Value.ref b0] s) D aC b 4 2492 [some (AX (b0 + 1)), some (AR 0), some (AR 95), some (AI i)] [] u 116 6683) : Wv p l e room_1 s m #[Value.ref b0] below meth c (lw_Z below #[Value.ref b0] s) D aC b 4 1489 [some (AX (b0 + 1)), some (AR 0), some (AR 95), some (AI i)] [] w 116 6683 := by
  refine s_aload_n E dL_law_1489 rfl rfl ?_
  refine s_xload_n E dL_law_1490 rfl rfl ?_
  refine s_iload_n E dL_law_1491 rfl rfl ?_
  refine s_iconst (v := 1) E dL_law_1492 (by decide) ?_
  refine z_iadd (u := i.toInt) (v := 1) E dL_law_1493 rfl (by decide) (by omega) (by omega) (fun z_1 hz_1 => ?_)
  refine s_sld E hX hb0 hb (z_in (u := z_1.toInt) rfl (by omega) (by omega)) dL_law_1494 ?_
  refine s_top (y := (xs (i.toInt.toNat + 1))) (congrArg xs (by show z_1.toInt.toNat = _; omega)) ?_
  refine s_xload_n E dL_law_1495 rfl rfl ?_
  refine s_iload_n E dL_law_1496 rfl rfl ?_
  refine s_iconst (v := 2) E dL_law_1497 (by decide) ?_
  refine z_iadd (u := i.toInt) (v := 2) E dL_law_1498 rfl (by decide) (by omega) (by omega) (fun z_2 hz_2 => ?_)
  refine s_sld E hX hb0 hb (z_in (u := z_2.toInt) rfl (by omega) (by omega)) dL_law_1499 ?_
  refine s_top (y := (xs (i.toInt.toNat + 2))) (congrArg xs (by show z_2.toInt.toNat = _; omega)) ?_
  refine s_vI (As := [AI (xs (i.toInt.toNat + 1)), AI (xs (i.toInt.toNat + 2))]) (S := []) E (Z_X9_widen_0 l D aC b w (xs (i.toInt.toNat + 1)) (xs (i.toInt.toNat + 2)) hI) cv_L_183 rfl rfl rfl (jv_lt (jv_rfl hI) (by decide)) (Nat.le_of_ble_eq_true rfl) (Nat.le_of_ble_eq_true rfl) ⟨(Nat.le_of_ble_eq_true rfl), (Nat.le_of_ble_eq_true rfl)⟩ (Nat.le_of_ble_eq_true rfl) dL_law_1500 (fun r_3 u_4 hp_5 => ?_)
  have hI_6 : Iv u_4 := hp_5.2.1
  have hR_7 : RLs u_4 := rl_k hR hp_5.2.2.1
  refine s_popI E dL_law_1503 ?_
  refine s_aload_n E dL_law_1504 rfl rfl ?_
  refine s_xload_n E dL_law_1505 rfl rfl ?_
  refine s_iload_n E dL_law_1506 rfl rfl ?_
  refine s_iconst (v := 1) E dL_law_1507 (by decide) ?_
  refine z_iadd (u := i.toInt) (v := 1) E dL_law_1508 rfl (by decide) (by omega) (by omega) (fun z_8 hz_8 => ?_)
  refine s_sld E hX hb0 hb (z_in (u := z_8.toInt) rfl (by omega) (by omega)) dL_law_1509 ?_
  refine s_top (y := (xs (i.toInt.toNat + 1))) (congrArg xs (by show z_8.toInt.toNat = _; omega)) ?_
  refine s_xload_n E dL_law_1510 rfl rfl ?_
  refine s_iload_n E dL_law_1511 rfl rfl ?_
  refine s_iconst (v := 2) E dL_law_1512 (by decide) ?_
  refine z_iadd (u := i.toInt) (v := 2) E dL_law_1513 rfl (by decide) (by omega) (by omega) (fun z_9 hz_9 => ?_)
  refine s_sld E hX hb0 hb (z_in (u := z_9.toInt) rfl (by omega) (by omega)) dL_law_1514 ?_
  refine s_top (y := (xs (i.toInt.toNat + 2))) (congrArg xs (by show z_9.toInt.toNat = _; omega)) ?_
  refine s_vI (As := [AI (xs (i.toInt.toNat + 1)), AI (xs (i.toInt.toNat + 2))]) (S := []) E (Z_X10_widen_95 l D aC b u_4 (xs (i.toInt.toNat + 1)) (xs (i.toInt.toNat + 2)) hI_6) cv_L_186 rfl rfl rfl (jv_lt (jv_rfl hI_6) (by decide)) (Nat.le_of_ble_eq_true rfl) (Nat.le_of_ble_eq_true rfl) ⟨(Nat.le_of_ble_eq_true rfl), (Nat.le_of_ble_eq_true rfl)⟩ (Nat.le_of_ble_eq_true rfl) dL_law_1515 (fun r_10 u_11 hp_12 => ?_)
  have hI_13 : Iv u_11 := hp_12.2.1
  have hR_14 : RLs u_11 := rl_k hR_7 hp_12.2.2.1
  refine s_popI E dL_law_1518 ?_
  refine s_goto (tgt := 2492) E dL_law_1519 (by decide) ?_
  exact kk u_11 hI_13 hR_14
set_option maxRecDepth 20000 in
set_option maxHeartbeats 2000000 in
theorem lawc_42 {p : Program} {e : Env} {s : State} {m : MethodId} {below : List Frame} {meth : Method} {c : Code} (l : Launch) {b0 b n : Nat} {xs : Nat → Int32} {D : va_G} {aC : Nat → ClassId} (E : EE p s m meth c D aC b 4 cL_law RL ret) (hb : b = s.heap.size) (hX : va_X b0 n xs s s.heap) (hb0 : b0 < s.heap.size) (hn : n ≤ 3072) (w : XW) (hI : Iv w) (hR : RLs w) (i : Int32) (hi : 0 ≤ i.toInt ∧ i.toInt + 6 ≤ (n : Int)) (kk : ∀ u : XW, Iv u → RLs u → Wv p l e room_1 s m #[Value.ref b0] below meth c (lw_Z below #[Value.ref b0] s) D aC b 4 2492 [some (AX (b0 + 1)), some (AR 0), some (AR 95), some (AI i)] [] u 116 6683) : Wv p l e room_1 s m #[Value.ref b0] below meth c (lw_Z below #[Value.ref b0] s) D aC b 4 1522 [some (AX (b0 + 1)), some (AR 0), some (AR 95), some (AI i)] [] w 116 6683 := by
  refine s_aload_n E dL_law_1522 rfl rfl ?_
  refine s_xload_n E dL_law_1523 rfl rfl ?_
  refine s_iload_n E dL_law_1524 rfl rfl ?_
  refine s_iconst (v := 1) E dL_law_1525 (by decide) ?_
  refine z_iadd (u := i.toInt) (v := 1) E dL_law_1526 rfl (by decide) (by omega) (by omega) (fun z_1 hz_1 => ?_)
  refine s_sld E hX hb0 hb (z_in (u := z_1.toInt) rfl (by omega) (by omega)) dL_law_1527 ?_
  refine s_top (y := (xs (i.toInt.toNat + 1))) (congrArg xs (by show z_1.toInt.toNat = _; omega)) ?_
  refine s_xload_n E dL_law_1528 rfl rfl ?_
  refine s_iload_n E dL_law_1529 rfl rfl ?_
  refine s_iconst (v := 2) E dL_law_1530 (by decide) ?_
  refine z_iadd (u := i.toInt) (v := 2) E dL_law_1531 rfl (by decide) (by omega) (by omega) (fun z_2 hz_2 => ?_)
  refine s_sld E hX hb0 hb (z_in (u := z_2.toInt) rfl (by omega) (by omega)) dL_law_1532 ?_
  refine s_top (y := (xs (i.toInt.toNat + 2))) (congrArg xs (by show z_2.toInt.toNat = _; omega)) ?_
  refine s_vI (As := [AI (xs (i.toInt.toNat + 1)), AI (xs (i.toInt.toNat + 2))]) (S := []) E (Z_X9_shut_0 l D aC b w (xs (i.toInt.toNat + 1)) (xs (i.toInt.toNat + 2)) hI) cv_L_187 rfl rfl rfl (jv_lt (jv_rfl hI) (by decide)) (Nat.le_of_ble_eq_true rfl) (Nat.le_of_ble_eq_true rfl) ⟨(Nat.le_of_ble_eq_true rfl), (Nat.le_of_ble_eq_true rfl)⟩ (Nat.le_of_ble_eq_true rfl) dL_law_1533 (fun r_3 u_4 hp_5 => ?_)
  have hI_6 : Iv u_4 := hp_5.2.1
  have hR_7 : RLs u_4 := rl_k hR hp_5.2.2.1
  refine s_popI E dL_law_1536 ?_
  refine s_aload_n E dL_law_1537 rfl rfl ?_
  refine s_xload_n E dL_law_1538 rfl rfl ?_
  refine s_iload_n E dL_law_1539 rfl rfl ?_
  refine s_iconst (v := 1) E dL_law_1540 (by decide) ?_
  refine z_iadd (u := i.toInt) (v := 1) E dL_law_1541 rfl (by decide) (by omega) (by omega) (fun z_8 hz_8 => ?_)
  refine s_sld E hX hb0 hb (z_in (u := z_8.toInt) rfl (by omega) (by omega)) dL_law_1542 ?_
  refine s_top (y := (xs (i.toInt.toNat + 1))) (congrArg xs (by show z_8.toInt.toNat = _; omega)) ?_
  refine s_xload_n E dL_law_1543 rfl rfl ?_
  refine s_iload_n E dL_law_1544 rfl rfl ?_
  refine s_iconst (v := 2) E dL_law_1545 (by decide) ?_
  refine z_iadd (u := i.toInt) (v := 2) E dL_law_1546 rfl (by decide) (by omega) (by omega) (fun z_9 hz_9 => ?_)
  refine s_sld E hX hb0 hb (z_in (u := z_9.toInt) rfl (by omega) (by omega)) dL_law_1547 ?_
  refine s_top (y := (xs (i.toInt.toNat + 2))) (congrArg xs (by show z_9.toInt.toNat = _; omega)) ?_
  refine s_vI (As := [AI (xs (i.toInt.toNat + 1)), AI (xs (i.toInt.toNat + 2))]) (S := []) E (Z_X10_shut_95 l D aC b u_4 (xs (i.toInt.toNat + 1)) (xs (i.toInt.toNat + 2)) hI_6) cv_L_190 rfl rfl rfl (jv_lt (jv_rfl hI_6) (by decide)) (Nat.le_of_ble_eq_true rfl) (Nat.le_of_ble_eq_true rfl) ⟨(Nat.le_of_ble_eq_true rfl), (Nat.le_of_ble_eq_true rfl)⟩ (Nat.le_of_ble_eq_true rfl) dL_law_1548 (fun r_10 u_11 hp_12 => ?_)
  have hI_13 : Iv u_11 := hp_12.2.1
  have hR_14 : RLs u_11 := rl_k hR_7 hp_12.2.2.1
  refine s_popI E dL_law_1551 ?_
  refine s_goto (tgt := 2492) E dL_law_1552 (by decide) ?_
  exact kk u_11 hI_13 hR_14
set_option maxRecDepth 20000 in
set_option maxHeartbeats 2000000 in
theorem lawc_43 {p : Program} {e : Env} {s : State} {m : MethodId} {below : List Frame} {meth : Method} {c : Code} (l : Launch) {b0 b n : Nat} {xs : Nat → Int32} {D : va_G} {aC : Nat → ClassId} (E : EE p s m meth c D aC b 4 cL_law RL ret) (hb : b = s.heap.size) (hX : va_X b0 n xs s s.heap) (hb0 : b0 < s.heap.size) (hn : n ≤ 3072) (w : XW) (hI : Iv w) (hR : RLs w) (i : Int32) (hi : 0 ≤ i.toInt ∧ i.toInt + 6 ≤ (n : Int)) (kk : ∀ u : XW, Iv u → RLs u → Wv p l e room_1 s m #[Value.ref b0] below meth c (lw_Z below #[Value.ref b0] s) D aC b 4 2492 [some (AX (b0 + 1)), some (AR 0), some (AR 95), some (AI i)] [] u 116 6683) : Wv p l e room_1 s m #[Value.ref b0] below meth c (lw_Z below #[Value.ref b0] s) D aC b 4 1555 [some (AX (b0 + 1)), some (AR 0), some (AR 95), some (AI i)] [] w 116 6683 := by
  refine s_aload_n E dL_law_1555 rfl rfl ?_
  refine s_xload_n E dL_law_1556 rfl rfl ?_
  refine s_iload_n E dL_law_1557 rfl rfl ?_
  refine s_iconst (v := 1) E dL_law_1558 (by decide) ?_
  refine z_iadd (u := i.toInt) (v := 1) E dL_law_1559 rfl (by decide) (by omega) (by omega) (fun z_1 hz_1 => ?_)
  refine s_sld E hX hb0 hb (z_in (u := z_1.toInt) rfl (by omega) (by omega)) dL_law_1560 ?_
  refine s_top (y := (xs (i.toInt.toNat + 1))) (congrArg xs (by show z_1.toInt.toNat = _; omega)) ?_
  refine s_xload_n E dL_law_1561 rfl rfl ?_
  refine s_iload_n E dL_law_1562 rfl rfl ?_
  refine s_iconst (v := 2) E dL_law_1563 (by decide) ?_
  refine z_iadd (u := i.toInt) (v := 2) E dL_law_1564 rfl (by decide) (by omega) (by omega) (fun z_2 hz_2 => ?_)
  refine s_sld E hX hb0 hb (z_in (u := z_2.toInt) rfl (by omega) (by omega)) dL_law_1565 ?_
  refine s_top (y := (xs (i.toInt.toNat + 2))) (congrArg xs (by show z_2.toInt.toNat = _; omega)) ?_
  refine s_xload_n E dL_law_1566 rfl rfl ?_
  refine s_iload_n E dL_law_1567 rfl rfl ?_
  refine s_iconst (v := 3) E dL_law_1568 (by decide) ?_
  refine z_iadd (u := i.toInt) (v := 3) E dL_law_1569 rfl (by decide) (by omega) (by omega) (fun z_3 hz_3 => ?_)
  refine s_sld E hX hb0 hb (z_in (u := z_3.toInt) rfl (by omega) (by omega)) dL_law_1570 ?_
  refine s_top (y := (xs (i.toInt.toNat + 3))) (congrArg xs (by show z_3.toInt.toNat = _; omega)) ?_
  refine s_vI (As := [AI (xs (i.toInt.toNat + 1)), AI (xs (i.toInt.toNat + 2)), AI (xs (i.toInt.toNat + 3))]) (S := []) E (Z_X9_bars_0 l D aC b w (xs (i.toInt.toNat + 1)) (xs (i.toInt.toNat + 2)) (xs (i.toInt.toNat + 3)) hI) cv_L_191 rfl rfl rfl (jv_lt (jv_rfl hI) (by decide)) (Nat.le_of_ble_eq_true rfl) (Nat.le_of_ble_eq_true rfl) ⟨(Nat.le_of_ble_eq_true rfl), (Nat.le_of_ble_eq_true rfl)⟩ (Nat.le_of_ble_eq_true rfl) dL_law_1571 (fun r_4 u_5 hp_6 => ?_)
  have hI_7 : Iv u_5 := hp_6.2.1
  have hR_8 : RLs u_5 := rl_k hR hp_6.2.2.1
  refine s_popI E dL_law_1574 ?_
  refine s_aload_n E dL_law_1575 rfl rfl ?_
  refine s_xload_n E dL_law_1576 rfl rfl ?_
  refine s_iload_n E dL_law_1577 rfl rfl ?_
  refine s_iconst (v := 1) E dL_law_1578 (by decide) ?_
  refine z_iadd (u := i.toInt) (v := 1) E dL_law_1579 rfl (by decide) (by omega) (by omega) (fun z_9 hz_9 => ?_)
  refine s_sld E hX hb0 hb (z_in (u := z_9.toInt) rfl (by omega) (by omega)) dL_law_1580 ?_
  refine s_top (y := (xs (i.toInt.toNat + 1))) (congrArg xs (by show z_9.toInt.toNat = _; omega)) ?_
  refine s_xload_n E dL_law_1581 rfl rfl ?_
  refine s_iload_n E dL_law_1582 rfl rfl ?_
  refine s_iconst (v := 2) E dL_law_1583 (by decide) ?_
  refine z_iadd (u := i.toInt) (v := 2) E dL_law_1584 rfl (by decide) (by omega) (by omega) (fun z_10 hz_10 => ?_)
  refine s_sld E hX hb0 hb (z_in (u := z_10.toInt) rfl (by omega) (by omega)) dL_law_1585 ?_
  refine s_top (y := (xs (i.toInt.toNat + 2))) (congrArg xs (by show z_10.toInt.toNat = _; omega)) ?_
  refine s_xload_n E dL_law_1586 rfl rfl ?_
  refine s_iload_n E dL_law_1587 rfl rfl ?_
  refine s_iconst (v := 3) E dL_law_1588 (by decide) ?_
  refine z_iadd (u := i.toInt) (v := 3) E dL_law_1589 rfl (by decide) (by omega) (by omega) (fun z_11 hz_11 => ?_)
  refine s_sld E hX hb0 hb (z_in (u := z_11.toInt) rfl (by omega) (by omega)) dL_law_1590 ?_
  refine s_top (y := (xs (i.toInt.toNat + 3))) (congrArg xs (by show z_11.toInt.toNat = _; omega)) ?_
  refine s_vI (As := [AI (xs (i.toInt.toNat + 1)), AI (xs (i.toInt.toNat + 2)), AI (xs (i.toInt.toNat + 3))]) (S := []) E (Z_X10_bars_95 l D aC b u_5 (xs (i.toInt.toNat + 1)) (xs (i.toInt.toNat + 2)) (xs (i.toInt.toNat + 3)) hI_7) cv_L_194 rfl rfl rfl (jv_lt (jv_rfl hI_7) (by decide)) (Nat.le_of_ble_eq_true rfl) (Nat.le_of_ble_eq_true rfl) ⟨(Nat.le_of_ble_eq_true rfl), (Nat.le_of_ble_eq_true rfl)⟩ (Nat.le_of_ble_eq_true rfl) dL_law_1591 (fun r_12 u_13 hp_14 => ?_)
  have hI_15 : Iv u_13 := hp_14.2.1
  have hR_16 : RLs u_13 := rl_k hR_8 hp_14.2.2.1
  refine s_popI E dL_law_1594 ?_
  refine s_goto (tgt := 2492) E dL_law_1595 (by decide) ?_
  exact kk u_13 hI_15 hR_16
set_option maxRecDepth 20000 in
set_option maxHeartbeats 2000000 in
theorem lawc_44 {p : Program} {e : Env} {s : State} {m : MethodId} {below : List Frame} {meth : Method} {c : Code} (l : Launch) {b0 b n : Nat} {xs : Nat → Int32} {D : va_G} {aC : Nat → ClassId} (E : EE p s m meth c D aC b 4 cL_law RL ret) (hb : b = s.heap.size) (hX : va_X b0 n xs s s.heap) (hb0 : b0 < s.heap.size) (hn : n ≤ 3072) (w : XW) (hI : Iv w) (hR : RLs w) (i : Int32) (hi : 0 ≤ i.toInt ∧ i.toInt + 6 ≤ (n : Int)) (kk : ∀ u : XW, Iv u → RLs u → Wv p l e room_1 s m #[Value.ref b0] below meth c (lw_Z below #[Value.ref b0] s) D aC b 4 2492 [some (AX (b0 + 1)), some (AR 0), some (AR 95), some (AI i)] [] u 116 6683) : Wv p l e room_1 s m #[Value.ref b0] below meth c (lw_Z below #[Value.ref b0] s) D aC b 4 1598 [some (AX (b0 + 1)), some (AR 0), some (AR 95), some (AI i)] [] w 116 6683 := by
  refine s_aload_n E dL_law_1598 rfl rfl ?_
  refine s_xload_n E dL_law_1599 rfl rfl ?_
  refine s_iload_n E dL_law_1600 rfl rfl ?_
  refine s_iconst (v := 1) E dL_law_1601 (by decide) ?_
  refine z_iadd (u := i.toInt) (v := 1) E dL_law_1602 rfl (by decide) (by omega) (by omega) (fun z_1 hz_1 => ?_)
  refine s_sld E hX hb0 hb (z_in (u := z_1.toInt) rfl (by omega) (by omega)) dL_law_1603 ?_
  refine s_top (y := (xs (i.toInt.toNat + 1))) (congrArg xs (by show z_1.toInt.toNat = _; omega)) ?_
  refine s_vI (As := [AI (xs (i.toInt.toNat + 1))]) (S := []) E (Z_X9_firsts_0 l D aC b w (xs (i.toInt.toNat + 1)) hI) cv_L_195 rfl rfl rfl (jv_lt (jv_rfl hI) (by decide)) (Nat.le_of_ble_eq_true rfl) (Nat.le_of_ble_eq_true rfl) ⟨(Nat.le_of_ble_eq_true rfl), (Nat.le_of_ble_eq_true rfl)⟩ (Nat.le_of_ble_eq_true rfl) dL_law_1604 (fun r_2 u_3 hp_4 => ?_)
  have hI_5 : Iv u_3 := hp_4.2.1
  have hR_6 : RLs u_3 := rl_k hR hp_4.2.2.1
  refine s_popI E dL_law_1607 ?_
  refine s_aload_n E dL_law_1608 rfl rfl ?_
  refine s_xload_n E dL_law_1609 rfl rfl ?_
  refine s_iload_n E dL_law_1610 rfl rfl ?_
  refine s_iconst (v := 1) E dL_law_1611 (by decide) ?_
  refine z_iadd (u := i.toInt) (v := 1) E dL_law_1612 rfl (by decide) (by omega) (by omega) (fun z_7 hz_7 => ?_)
  refine s_sld E hX hb0 hb (z_in (u := z_7.toInt) rfl (by omega) (by omega)) dL_law_1613 ?_
  refine s_top (y := (xs (i.toInt.toNat + 1))) (congrArg xs (by show z_7.toInt.toNat = _; omega)) ?_
  refine s_vI (As := [AI (xs (i.toInt.toNat + 1))]) (S := []) E (Z_X10_firsts_95 l D aC b u_3 (xs (i.toInt.toNat + 1)) hI_5) cv_L_198 rfl rfl rfl (jv_lt (jv_rfl hI_5) (by decide)) (Nat.le_of_ble_eq_true rfl) (Nat.le_of_ble_eq_true rfl) ⟨(Nat.le_of_ble_eq_true rfl), (Nat.le_of_ble_eq_true rfl)⟩ (Nat.le_of_ble_eq_true rfl) dL_law_1614 (fun r_8 u_9 hp_10 => ?_)
  have hI_11 : Iv u_9 := hp_10.2.1
  have hR_12 : RLs u_9 := rl_k hR_6 hp_10.2.2.1
  refine s_popI E dL_law_1617 ?_
  refine s_goto (tgt := 2492) E dL_law_1618 (by decide) ?_
  exact kk u_9 hI_11 hR_12
set_option maxRecDepth 20000 in
set_option maxHeartbeats 2000000 in
theorem lawc_45 {p : Program} {e : Env} {s : State} {m : MethodId} {below : List Frame} {meth : Method} {c : Code} (l : Launch) {b0 b n : Nat} {xs : Nat → Int32} {D : va_G} {aC : Nat → ClassId} (E : EE p s m meth c D aC b 4 cL_law RL ret) (hb : b = s.heap.size) (hX : va_X b0 n xs s s.heap) (hb0 : b0 < s.heap.size) (hn : n ≤ 3072) (w : XW) (hI : Iv w) (hR : RLs w) (i : Int32) (hi : 0 ≤ i.toInt ∧ i.toInt + 6 ≤ (n : Int)) (kk : ∀ u : XW, Iv u → RLs u → Wv p l e room_1 s m #[Value.ref b0] below meth c (lw_Z below #[Value.ref b0] s) D aC b 4 2492 [some (AX (b0 + 1)), some (AR 0), some (AR 95), some (AI i)] [] u 116 6683) : Wv p l e room_1 s m #[Value.ref b0] below meth c (lw_Z below #[Value.ref b0] s) D aC b 4 1621 [some (AX (b0 + 1)), some (AR 0), some (AR 95), some (AI i)] [] w 116 6683 := by
  refine s_aload_n E dL_law_1621 rfl rfl ?_
  refine s_xload_n E dL_law_1622 rfl rfl ?_
  refine s_iload_n E dL_law_1623 rfl rfl ?_
  refine s_iconst (v := 1) E dL_law_1624 (by decide) ?_
  refine z_iadd (u := i.toInt) (v := 1) E dL_law_1625 rfl (by decide) (by omega) (by omega) (fun z_1 hz_1 => ?_)
  refine s_sld E hX hb0 hb (z_in (u := z_1.toInt) rfl (by omega) (by omega)) dL_law_1626 ?_
  refine s_top (y := (xs (i.toInt.toNat + 1))) (congrArg xs (by show z_1.toInt.toNat = _; omega)) ?_
  refine s_vI (As := [AI (xs (i.toInt.toNat + 1))]) (S := []) E (Z_X9_ask_0 l D aC b w (xs (i.toInt.toNat + 1)) hI) cv_L_199 rfl rfl rfl (jv_lt (jv_rfl hI) (by decide)) (Nat.le_of_ble_eq_true rfl) (Nat.le_of_ble_eq_true rfl) ⟨(Nat.le_of_ble_eq_true rfl), (Nat.le_of_ble_eq_true rfl)⟩ (Nat.le_of_ble_eq_true rfl) dL_law_1627 (fun r_2 u_3 hp_4 => ?_)
  have hI_5 : Iv u_3 := hp_4.2.1
  have hR_6 : RLs u_3 := rl_k hR hp_4.2.2.1
  refine s_popI E dL_law_1630 ?_
  refine s_aload_n E dL_law_1631 rfl rfl ?_
  refine s_xload_n E dL_law_1632 rfl rfl ?_
  refine s_iload_n E dL_law_1633 rfl rfl ?_
  refine s_iconst (v := 1) E dL_law_1634 (by decide) ?_
  refine z_iadd (u := i.toInt) (v := 1) E dL_law_1635 rfl (by decide) (by omega) (by omega) (fun z_7 hz_7 => ?_)
  refine s_sld E hX hb0 hb (z_in (u := z_7.toInt) rfl (by omega) (by omega)) dL_law_1636 ?_
  refine s_top (y := (xs (i.toInt.toNat + 1))) (congrArg xs (by show z_7.toInt.toNat = _; omega)) ?_
  refine s_vI (As := [AI (xs (i.toInt.toNat + 1))]) (S := []) E (Z_X10_ask_95 l D aC b u_3 (xs (i.toInt.toNat + 1)) hI_5) cv_L_202 rfl rfl rfl (jv_lt (jv_rfl hI_5) (by decide)) (Nat.le_of_ble_eq_true rfl) (Nat.le_of_ble_eq_true rfl) ⟨(Nat.le_of_ble_eq_true rfl), (Nat.le_of_ble_eq_true rfl)⟩ (Nat.le_of_ble_eq_true rfl) dL_law_1637 (fun r_8 u_9 hp_10 => ?_)
  have hI_11 : Iv u_9 := hp_10.2.1
  have hR_12 : RLs u_9 := rl_k hR_6 hp_10.2.2.1
  refine s_popI E dL_law_1640 ?_
  refine s_goto (tgt := 2492) E dL_law_1641 (by decide) ?_
  exact kk u_9 hI_11 hR_12
set_option maxRecDepth 20000 in
set_option maxHeartbeats 2000000 in
theorem lawc_46 {p : Program} {e : Env} {s : State} {m : MethodId} {below : List Frame} {meth : Method} {c : Code} (l : Launch) {b0 b n : Nat} {xs : Nat → Int32} {D : va_G} {aC : Nat → ClassId} (E : EE p s m meth c D aC b 4 cL_law RL ret) (hb : b = s.heap.size) (hX : va_X b0 n xs s s.heap) (hb0 : b0 < s.heap.size) (hn : n ≤ 3072) (w : XW) (hI : Iv w) (hR : RLs w) (i : Int32) (hi : 0 ≤ i.toInt ∧ i.toInt + 6 ≤ (n : Int)) (kk : ∀ u : XW, Iv u → RLs u → Wv p l e room_1 s m #[Value.ref b0] below meth c (lw_Z below #[Value.ref b0] s) D aC b 4 2492 [some (AX (b0 + 1)), some (AR 0), some (AR 95), some (AI i)] [] u 116 6683) : Wv p l e room_1 s m #[Value.ref b0] below meth c (lw_Z below #[Value.ref b0] s) D aC b 4 1644 [some (AX (b0 + 1)), some (AR 0), some (AR 95), some (AI i)] [] w 116 6683 := by
  refine s_aload_n E dL_law_1644 rfl rfl ?_
  refine s_xload_n E dL_law_1645 rfl rfl ?_
  refine s_iload_n E dL_law_1646 rfl rfl ?_
  refine s_iconst (v := 1) E dL_law_1647 (by decide) ?_
  refine z_iadd (u := i.toInt) (v := 1) E dL_law_1648 rfl (by decide) (by omega) (by omega) (fun z_1 hz_1 => ?_)
  refine s_sld E hX hb0 hb (z_in (u := z_1.toInt) rfl (by omega) (by omega)) dL_law_1649 ?_
  refine s_top (y := (xs (i.toInt.toNat + 1))) (congrArg xs (by show z_1.toInt.toNat = _; omega)) ?_
  refine s_vI (As := [AI (xs (i.toInt.toNat + 1))]) (S := []) E (Z_X9_leaves_0 l D aC b w (xs (i.toInt.toNat + 1)) hI) cv_L_203 rfl rfl rfl (jv_lt (jv_rfl hI) (by decide)) (Nat.le_of_ble_eq_true rfl) (Nat.le_of_ble_eq_true rfl) ⟨(Nat.le_of_ble_eq_true rfl), (Nat.le_of_ble_eq_true rfl)⟩ (Nat.le_of_ble_eq_true rfl) dL_law_1650 (fun r_2 u_3 hp_4 => ?_)
  have hI_5 : Iv u_3 := hp_4.2.1
  have hR_6 : RLs u_3 := rl_k hR hp_4.2.2.1
  refine s_popI E dL_law_1653 ?_
  refine s_aload_n E dL_law_1654 rfl rfl ?_
  refine s_xload_n E dL_law_1655 rfl rfl ?_
  refine s_iload_n E dL_law_1656 rfl rfl ?_
  refine s_iconst (v := 1) E dL_law_1657 (by decide) ?_
  refine z_iadd (u := i.toInt) (v := 1) E dL_law_1658 rfl (by decide) (by omega) (by omega) (fun z_7 hz_7 => ?_)
  refine s_sld E hX hb0 hb (z_in (u := z_7.toInt) rfl (by omega) (by omega)) dL_law_1659 ?_
  refine s_top (y := (xs (i.toInt.toNat + 1))) (congrArg xs (by show z_7.toInt.toNat = _; omega)) ?_
  refine s_vI (As := [AI (xs (i.toInt.toNat + 1))]) (S := []) E (Z_X10_leaves_95 l D aC b u_3 (xs (i.toInt.toNat + 1)) hI_5) cv_L_206 rfl rfl rfl (jv_lt (jv_rfl hI_5) (by decide)) (Nat.le_of_ble_eq_true rfl) (Nat.le_of_ble_eq_true rfl) ⟨(Nat.le_of_ble_eq_true rfl), (Nat.le_of_ble_eq_true rfl)⟩ (Nat.le_of_ble_eq_true rfl) dL_law_1660 (fun r_8 u_9 hp_10 => ?_)
  have hI_11 : Iv u_9 := hp_10.2.1
  have hR_12 : RLs u_9 := rl_k hR_6 hp_10.2.2.1
  refine s_popI E dL_law_1663 ?_
  refine s_goto (tgt := 2492) E dL_law_1664 (by decide) ?_
  exact kk u_9 hI_11 hR_12
set_option maxRecDepth 20000 in
set_option maxHeartbeats 2000000 in
theorem lawc_47 {p : Program} {e : Env} {s : State} {m : MethodId} {below : List Frame} {meth : Method} {c : Code} (l : Launch) {b0 b n : Nat} {xs : Nat → Int32} {D : va_G} {aC : Nat → ClassId} (E : EE p s m meth c D aC b 4 cL_law RL ret) (hb : b = s.heap.size) (hX : va_X b0 n xs s s.heap) (hb0 : b0 < s.heap.size) (hn : n ≤ 3072) (w : XW) (hI : Iv w) (hR : RLs w) (i : Int32) (hi : 0 ≤ i.toInt ∧ i.toInt + 6 ≤ (n : Int)) (kk : ∀ u : XW, Iv u → RLs u → Wv p l e room_1 s m #[Value.ref b0] below meth c (lw_Z below #[Value.ref b0] s) D aC b 4 2492 [some (AX (b0 + 1)), some (AR 0), some (AR 95), some (AI i)] [] u 116 6683) : Wv p l e room_1 s m #[Value.ref b0] below meth c (lw_Z below #[Value.ref b0] s) D aC b 4 1667 [some (AX (b0 + 1)), some (AR 0), some (AR 95), some (AI i)] [] w 116 6683 := by
  refine s_aload_n E dL_law_1667 rfl rfl ?_
  refine s_xload_n E dL_law_1668 rfl rfl ?_
  refine s_iload_n E dL_law_1669 rfl rfl ?_
  refine s_iconst (v := 1) E dL_law_1670 (by decide) ?_
  refine z_iadd (u := i.toInt) (v := 1) E dL_law_1671 rfl (by decide) (by omega) (by omega) (fun z_1 hz_1 => ?_)
  refine s_sld E hX hb0 hb (z_in (u := z_1.toInt) rfl (by omega) (by omega)) dL_law_1672 ?_
  refine s_top (y := (xs (i.toInt.toNat + 1))) (congrArg xs (by show z_1.toInt.toNat = _; omega)) ?_
  refine s_vI (As := [AI (xs (i.toInt.toNat + 1))]) (S := []) E (Z_X9_seats_0 l D aC b w (xs (i.toInt.toNat + 1)) hI) cv_L_207 rfl rfl rfl (jv_lt (jv_rfl hI) (by decide)) (Nat.le_of_ble_eq_true rfl) (Nat.le_of_ble_eq_true rfl) ⟨(Nat.le_of_ble_eq_true rfl), (Nat.le_of_ble_eq_true rfl)⟩ (Nat.le_of_ble_eq_true rfl) dL_law_1673 (fun r_2 u_3 hp_4 => ?_)
  have hI_5 : Iv u_3 := by rw [← hp_4.2]; exact hI
  have hR_6 : RLs u_3 := rl_k hR (fun c_ _ => by rw [hp_4.2])
  refine s_popI E dL_law_1676 ?_
  refine s_aload_n E dL_law_1677 rfl rfl ?_
  refine s_xload_n E dL_law_1678 rfl rfl ?_
  refine s_iload_n E dL_law_1679 rfl rfl ?_
  refine s_iconst (v := 1) E dL_law_1680 (by decide) ?_
  refine z_iadd (u := i.toInt) (v := 1) E dL_law_1681 rfl (by decide) (by omega) (by omega) (fun z_7 hz_7 => ?_)
  refine s_sld E hX hb0 hb (z_in (u := z_7.toInt) rfl (by omega) (by omega)) dL_law_1682 ?_
  refine s_top (y := (xs (i.toInt.toNat + 1))) (congrArg xs (by show z_7.toInt.toNat = _; omega)) ?_
  refine s_vI (As := [AI (xs (i.toInt.toNat + 1))]) (S := []) E (Z_X10_seats_95 l D aC b u_3 (xs (i.toInt.toNat + 1)) hI_5) cv_L_210 rfl rfl rfl (jv_lt (jv_rfl hI_5) (by decide)) (Nat.le_of_ble_eq_true rfl) (Nat.le_of_ble_eq_true rfl) ⟨(Nat.le_of_ble_eq_true rfl), (Nat.le_of_ble_eq_true rfl)⟩ (Nat.le_of_ble_eq_true rfl) dL_law_1683 (fun r_8 u_9 hp_10 => ?_)
  have hI_11 : Iv u_9 := hp_10.2.1
  have hR_12 : RLs u_9 := rl_k hR_6 hp_10.2.2.1
  refine s_popI E dL_law_1686 ?_
  refine s_goto (tgt := 2492) E dL_law_1687 (by decide) ?_
  exact kk u_9 hI_11 hR_12
