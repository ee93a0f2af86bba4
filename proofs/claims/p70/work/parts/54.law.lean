set_option maxRecDepth 20000 in
set_option maxHeartbeats 2000000 in
theorem law_switch {p : Program} {e : Env} {s : State} {m : MethodId} {below : List Frame} {meth : Method} {c : Code} (l : Launch) {b0 b n : Nat} {xs : Nat → Int32} {D : va_G} {aC : Nat → ClassId} (E : EE p s m meth c D aC b 4 cL_law RL ret) (hb : b = s.heap.size) (hX : va_X b0 n xs s s.heap) (hb0 : b0 < s.heap.size) (hn : n ≤ 3072) (w : XW) (hI : Iv w) (hR : RLs w) (i : Int32) (hi : 0 ≤ i.toInt ∧ i.toInt + 6 ≤ (n : Int)) (kk : ∀ u : XW, Iv u → RLs u → Wv p l e room_1 s m #[Value.ref b0] below meth c (lw_Z below #[Value.ref b0] s) D aC b 4 2492 [some (AX (b0 + 1)), some (AR 0), some (AR 95), some (AI i)] [] u 116 6683) (x : Int32) : Wv p l e room_1 s m #[Value.ref b0] below meth c (lw_Z below #[Value.ref b0] s) D aC b 4 33 [some (AX (b0 + 1)), some (AR 0), some (AR 95), some (AI i)] [AI x] w 116 6683 := by
  by_cases hout : x.toInt < 0 ∨ 71 < x.toInt
  · refine s_tableOut (tgt := 2492) E dL_law_33 hout (by decide) ?_
    exact kk w hI hR
  · have ej : x = nI x.toInt.toNat := Int32.toInt_inj.mp (by rw [nI_toInt (by omega)]; omega)
    have hj : x.toInt.toNat < 72 := by omega
    refine s_top ej ?_
    generalize x.toInt.toNat = j at hj ⊢
    match j, hj with
    | 0, _ => exact s_tableIn (off := 303) (tgt := 336) E dL_law_33 (by decide) (by decide) (by decide +kernel) (by decide) (lawc_0 l E hb hX hb0 hn w hI hR i hi kk)
    | 1, _ => exact s_tableIn (off := 366) (tgt := 399) E dL_law_33 (by decide) (by decide) (by decide +kernel) (by decide) (lawc_1 l E hb hX hb0 hn w hI hR i hi kk)
    | 2, _ => exact s_tableIn (off := 389) (tgt := 422) E dL_law_33 (by decide) (by decide) (by decide +kernel) (by decide) (lawc_2 l E hb hX hb0 hn w hI hR i hi kk)
    | 3, _ => exact s_tableIn (off := 402) (tgt := 435) E dL_law_33 (by decide) (by decide) (by decide +kernel) (by decide) (lawc_3 l E hb hX hb0 hn w hI hR i hi kk)
    | 4, _ => exact s_tableIn (off := 425) (tgt := 458) E dL_law_33 (by decide) (by decide) (by decide +kernel) (by decide) (lawc_4 l E hb hX hb0 hn w hI hR i hi kk)
    | 5, _ => exact s_tableIn (off := 458) (tgt := 491) E dL_law_33 (by decide) (by decide) (by decide +kernel) (by decide) (lawc_5 l E hb hX hb0 hn w hI hR i hi kk)
    | 6, _ => exact s_tableIn (off := 491) (tgt := 524) E dL_law_33 (by decide) (by decide) (by decide +kernel) (by decide) (lawc_6 l E hb hX hb0 hn w hI hR i hi kk)
    | 7, _ => exact s_tableIn (off := 524) (tgt := 557) E dL_law_33 (by decide) (by decide) (by decide +kernel) (by decide) (lawc_7 l E hb hX hb0 hn w hI hR i hi kk)
    | 8, _ => exact s_tableIn (off := 567) (tgt := 600) E dL_law_33 (by decide) (by decide) (by decide +kernel) (by decide) (lawc_8 l E hb hX hb0 hn w hI hR i hi kk)
    | 9, _ => exact s_tableIn (off := 600) (tgt := 633) E dL_law_33 (by decide) (by decide) (by decide +kernel) (by decide) (lawc_9 l E hb hX hb0 hn w hI hR i hi kk)
    | 10, _ => exact s_tableIn (off := 633) (tgt := 666) E dL_law_33 (by decide) (by decide) (by decide +kernel) (by decide) (lawc_10 l E hb hX hb0 hn w hI hR i hi kk)
    | 11, _ => exact s_tableIn (off := 666) (tgt := 699) E dL_law_33 (by decide) (by decide) (by decide +kernel) (by decide) (lawc_11 l E hb hX hb0 hn w hI hR i hi kk)
    | 12, _ => exact s_tableIn (off := 699) (tgt := 732) E dL_law_33 (by decide) (by decide) (by decide +kernel) (by decide) (lawc_12 l E hb hX hb0 hn w hI hR i hi kk)
    | 13, _ => exact s_tableIn (off := 722) (tgt := 755) E dL_law_33 (by decide) (by decide) (by decide +kernel) (by decide) (lawc_13 l E hb hX hb0 hn w hI hR i hi kk)
    | 14, _ => exact s_tableIn (off := 745) (tgt := 778) E dL_law_33 (by decide) (by decide) (by decide +kernel) (by decide) (lawc_14 l E hb hX hb0 hn w hI hR i hi kk)
    | 15, _ => exact s_tableIn (off := 778) (tgt := 811) E dL_law_33 (by decide) (by decide) (by decide +kernel) (by decide) (lawc_15 l E hb hX hb0 hn w hI hR i hi kk)
    | 16, _ => exact s_tableIn (off := 811) (tgt := 844) E dL_law_33 (by decide) (by decide) (by decide +kernel) (by decide) (lawc_16 l E hb hX hb0 hn w hI hR i hi kk)
    | 17, _ => exact s_tableIn (off := 834) (tgt := 867) E dL_law_33 (by decide) (by decide) (by decide +kernel) (by decide) (lawc_17 l E hb hX hb0 hn w hI hR i hi kk)
    | 18, _ => exact s_tableIn (off := 847) (tgt := 880) E dL_law_33 (by decide) (by decide) (by decide +kernel) (by decide) (lawc_18 l E hb hX hb0 hn w hI hR i hi kk)
    | 19, _ => exact s_tableIn (off := 860) (tgt := 893) E dL_law_33 (by decide) (by decide) (by decide +kernel) (by decide) (lawc_19 l E hb hX hb0 hn w hI hR i hi kk)
    | 20, _ => exact s_tableIn (off := 883) (tgt := 916) E dL_law_33 (by decide) (by decide) (by decide +kernel) (by decide) (lawc_20 l E hb hX hb0 hn w hI hR i hi kk)
    | 21, _ => exact s_tableIn (off := 926) (tgt := 959) E dL_law_33 (by decide) (by decide) (by decide +kernel) (by decide) (lawc_21 l E hb hX hb0 hn w hI hR i hi kk)
    | 22, _ => exact s_tableIn (off := 949) (tgt := 982) E dL_law_33 (by decide) (by decide) (by decide +kernel) (by decide) (lawc_22 l E hb hX hb0 hn w hI hR i hi kk)
    | 23, _ => exact s_tableIn (off := 972) (tgt := 1005) E dL_law_33 (by decide) (by decide) (by decide +kernel) (by decide) (lawc_23 l E hb hX hb0 hn w hI hR i hi kk)
    | 24, _ => exact s_tableIn (off := 995) (tgt := 1028) E dL_law_33 (by decide) (by decide) (by decide +kernel) (by decide) (lawc_24 l E hb hX hb0 hn w hI hR i hi kk)
    | 25, _ => exact s_tableIn (off := 1018) (tgt := 1051) E dL_law_33 (by decide) (by decide) (by decide +kernel) (by decide) (lawc_25 l E hb hX hb0 hn w hI hR i hi kk)
    | 26, _ => exact s_tableIn (off := 1041) (tgt := 1074) E dL_law_33 (by decide) (by decide) (by decide +kernel) (by decide) (lawc_26 l E hb hX hb0 hn w hI hR i hi kk)
    | 27, _ => exact s_tableIn (off := 1064) (tgt := 1097) E dL_law_33 (by decide) (by decide) (by decide +kernel) (by decide) (lawc_27 l E hb hX hb0 hn w hI hR i hi kk)
    | 28, _ => exact s_tableIn (off := 1097) (tgt := 1130) E dL_law_33 (by decide) (by decide) (by decide +kernel) (by decide) (lawc_28 l E hb hX hb0 hn w hI hR i hi kk)
    | 29, _ => exact s_tableIn (off := 1110) (tgt := 1143) E dL_law_33 (by decide) (by decide) (by decide +kernel) (by decide) (lawc_29 l E hb hX hb0 hn w hI hR i hi kk)
    | 30, _ => exact s_tableIn (off := 1133) (tgt := 1166) E dL_law_33 (by decide) (by decide) (by decide +kernel) (by decide) (lawc_30 l E hb hX hb0 hn w hI hR i hi kk)
    | 31, _ => exact s_tableIn (off := 1146) (tgt := 1179) E dL_law_33 (by decide) (by decide) (by decide +kernel) (by decide) (lawc_31 l E hb hX hb0 hn w hI hR i hi kk)
    | 32, _ => exact s_tableIn (off := 1179) (tgt := 1212) E dL_law_33 (by decide) (by decide) (by decide +kernel) (by decide) (lawc_32 l E hb hX hb0 hn w hI hR i hi kk)
    | 33, _ => exact s_tableIn (off := 1212) (tgt := 1245) E dL_law_33 (by decide) (by decide) (by decide +kernel) (by decide) (lawc_33 l E hb hX hb0 hn w hI hR i hi kk)
    | 34, _ => exact s_tableIn (off := 1245) (tgt := 1278) E dL_law_33 (by decide) (by decide) (by decide +kernel) (by decide) (lawc_34 l E hb hX hb0 hn w hI hR i hi kk)
    | 35, _ => exact s_tableIn (off := 1268) (tgt := 1301) E dL_law_33 (by decide) (by decide) (by decide +kernel) (by decide) (lawc_35 l E hb hX hb0 hn w hI hR i hi kk)
    | 36, _ => exact s_tableIn (off := 1281) (tgt := 1314) E dL_law_33 (by decide) (by decide) (by decide +kernel) (by decide) (lawc_36 l E hb hX hb0 hn w hI hR i hi kk)
    | 37, _ => exact s_tableIn (off := 1304) (tgt := 1337) E dL_law_33 (by decide) (by decide) (by decide +kernel) (by decide) (lawc_37 l E hb hX hb0 hn w hI hR i hi kk)
    | 38, _ => exact s_tableIn (off := 1327) (tgt := 1360) E dL_law_33 (by decide) (by decide) (by decide +kernel) (by decide) (lawc_38 l E hb hX hb0 hn w hI hR i hi kk)
    | 39, _ => exact s_tableIn (off := 1360) (tgt := 1393) E dL_law_33 (by decide) (by decide) (by decide +kernel) (by decide) (lawc_39 l E hb hX hb0 hn w hI hR i hi kk)
    | 40, _ => exact s_tableIn (off := 1403) (tgt := 1436) E dL_law_33 (by decide) (by decide) (by decide +kernel) (by decide) (lawc_40 l E hb hX hb0 hn w hI hR i hi kk)
    | 41, _ => exact s_tableIn (off := 1456) (tgt := 1489) E dL_law_33 (by decide) (by decide) (by decide +kernel) (by decide) (lawc_41 l E hb hX hb0 hn w hI hR i hi kk)
    | 42, _ => exact s_tableIn (off := 1489) (tgt := 1522) E dL_law_33 (by decide) (by decide) (by decide +kernel) (by decide) (lawc_42 l E hb hX hb0 hn w hI hR i hi kk)
    | 43, _ => exact s_tableIn (off := 1522) (tgt := 1555) E dL_law_33 (by decide) (by decide) (by decide +kernel) (by decide) (lawc_43 l E hb hX hb0 hn w hI hR i hi kk)
    | 44, _ => exact s_tableIn (off := 1565) (tgt := 1598) E dL_law_33 (by decide) (by decide) (by decide +kernel) (by decide) (lawc_44 l E hb hX hb0 hn w hI hR i hi kk)
    | 45, _ => exact s_tableIn (off := 1588) (tgt := 1621) E dL_law_33 (by decide) (by decide) (by decide +kernel) (by decide) (lawc_45 l E hb hX hb0 hn w hI hR i hi kk)
    | 46, _ => exact s_tableIn (off := 1611) (tgt := 1644) E dL_law_33 (by decide) (by decide) (by decide +kernel) (by decide) (lawc_46 l E hb hX hb0 hn w hI hR i hi kk)
    | 47, _ => exact s_tableIn (off := 1634) (tgt := 1667) E dL_law_33 (by decide) (by decide) (by decide +kernel) (by decide) (lawc_47 l E hb hX hb0 hn w hI hR i hi kk)
    | 48, _ => exact s_tableIn (off := 1657) (tgt := 1690) E dL_law_33 (by decide) (by decide) (by decide +kernel) (by decide) (lawc_48 l E hb hX hb0 hn w hI hR i hi kk)
    | 49, _ => exact s_tableIn (off := 1680) (tgt := 1713) E dL_law_33 (by decide) (by decide) (by decide +kernel) (by decide) (lawc_49 l E hb hX hb0 hn w hI hR i hi kk)
    | 50, _ => exact s_tableIn (off := 1703) (tgt := 1736) E dL_law_33 (by decide) (by decide) (by decide +kernel) (by decide) (lawc_50 l E hb hX hb0 hn w hI hR i hi kk)
    | 51, _ => exact s_tableIn (off := 1726) (tgt := 1759) E dL_law_33 (by decide) (by decide) (by decide +kernel) (by decide) (lawc_51 l E hb hX hb0 hn w hI hR i hi kk)
    | 52, _ => exact s_tableIn (off := 1759) (tgt := 1792) E dL_law_33 (by decide) (by decide) (by decide +kernel) (by decide) (lawc_52 l E hb hX hb0 hn w hI hR i hi kk)
    | 53, _ => exact s_tableIn (off := 1772) (tgt := 1805) E dL_law_33 (by decide) (by decide) (by decide +kernel) (by decide) (lawc_53 l E hb hX hb0 hn w hI hR i hi kk)
    | 54, _ => exact s_tableIn (off := 1785) (tgt := 1818) E dL_law_33 (by decide) (by decide) (by decide +kernel) (by decide) (lawc_54 l E hb hX hb0 hn w hI hR i hi kk)
    | 55, _ => exact s_tableIn (off := 1798) (tgt := 1831) E dL_law_33 (by decide) (by decide) (by decide +kernel) (by decide) (lawc_55 l E hb hX hb0 hn w hI hR i hi kk)
    | 56, _ => exact s_tableIn (off := 1831) (tgt := 1864) E dL_law_33 (by decide) (by decide) (by decide +kernel) (by decide) (lawc_56 l E hb hX hb0 hn w hI hR i hi kk)
    | 57, _ => exact s_tableIn (off := 1884) (tgt := 1917) E dL_law_33 (by decide) (by decide) (by decide +kernel) (by decide) (lawc_57 l E hb hX hb0 hn w hI hR i hi kk)
    | 58, _ => exact s_tableIn (off := 1937) (tgt := 1970) E dL_law_33 (by decide) (by decide) (by decide +kernel) (by decide) (lawc_58 l E hb hX hb0 hn w hI hR i hi kk)
    | 59, _ => exact s_tableIn (off := 1980) (tgt := 2013) E dL_law_33 (by decide) (by decide) (by decide +kernel) (by decide) (lawc_59 l E hb hX hb0 hn w hI hR i hi kk)
    | 60, _ => exact s_tableIn (off := 2023) (tgt := 2056) E dL_law_33 (by decide) (by decide) (by decide +kernel) (by decide) (lawc_60 l E hb hX hb0 hn w hI hR i hi kk)
    | 61, _ => exact s_tableIn (off := 2056) (tgt := 2089) E dL_law_33 (by decide) (by decide) (by decide +kernel) (by decide) (lawc_61 l E hb hX hb0 hn w hI hR i hi kk)
    | 62, _ => exact s_tableIn (off := 2069) (tgt := 2102) E dL_law_33 (by decide) (by decide) (by decide +kernel) (by decide) (lawc_62 l E hb hX hb0 hn w hI hR i hi kk)
    | 63, _ => exact s_tableIn (off := 2082) (tgt := 2115) E dL_law_33 (by decide) (by decide) (by decide +kernel) (by decide) (lawc_63 l E hb hX hb0 hn w hI hR i hi kk)
    | 64, _ => exact s_tableIn (off := 2125) (tgt := 2158) E dL_law_33 (by decide) (by decide) (by decide +kernel) (by decide) (lawc_64 l E hb hX hb0 hn w hI hR i hi kk)
    | 65, _ => exact s_tableIn (off := 2178) (tgt := 2211) E dL_law_33 (by decide) (by decide) (by decide +kernel) (by decide) (lawc_65 l E hb hX hb0 hn w hI hR i hi kk)
    | 66, _ => exact s_tableIn (off := 2211) (tgt := 2244) E dL_law_33 (by decide) (by decide) (by decide +kernel) (by decide) (lawc_66 l E hb hX hb0 hn w hI hR i hi kk)
    | 67, _ => exact s_tableIn (off := 2234) (tgt := 2267) E dL_law_33 (by decide) (by decide) (by decide +kernel) (by decide) (lawc_67 l E hb hX hb0 hn w hI hR i hi kk)
    | 68, _ => exact s_tableIn (off := 2257) (tgt := 2290) E dL_law_33 (by decide) (by decide) (by decide +kernel) (by decide) (lawc_68 l E hb hX hb0 hn w hI hR i hi kk)
    | 69, _ => exact s_tableIn (off := 2280) (tgt := 2313) E dL_law_33 (by decide) (by decide) (by decide +kernel) (by decide) (lawc_69 l E hb hX hb0 hn w hI hR i hi kk)
    | 70, _ => exact s_tableIn (off := 2323) (tgt := 2356) E dL_law_33 (by decide) (by decide) (by decide +kernel) (by decide) (lawc_70 l E hb hX hb0 hn w hI hR i hi kk)
    | 71, _ => exact s_tableIn (off := 2396) (tgt := 2429) E dL_law_33 (by decide) (by decide) (by decide +kernel) (by decide) (lawc_71 l E hb hX hb0 hn w hI hR i hi kk)
    | j + 72, h => exact absurd h (by omega)
set_option maxRecDepth 20000 in
set_option maxHeartbeats 2000000 in
theorem law_loop {p : Program} {e : Env} {s : State} {m : MethodId} {below : List Frame} {meth : Method} {c : Code} (l : Launch) {b0 b n : Nat} {xs : Nat → Int32} {D : va_G} {aC : Nat → ClassId} (E : EE p s m meth c D aC b 4 cL_law RL ret) (hb : b = s.heap.size) (hX : va_X b0 n xs s s.heap) (hb0 : b0 < s.heap.size) (hn : n ≤ 3072) {w0 : XW} (h0 : Iv w0) (r0 : RLs w0) : Wv p l e room_1 s m #[Value.ref b0] below meth c (lw_Z below #[Value.ref b0] s) D aC b 4 18 [some (AX (b0 + 1)), some (AR 0), some (AR 95), some (AI 0)] [] w0 116 6683 := by
  refine z_loop (St := Int32) (Pi := fun q v => (0 ≤ q.toInt ∧ q.toInt ≤ 3078) ∧ Iv v ∧ RLs v) (Lf := fun i => [some (AX (b0 + 1)), some (AR 0), some (AR 95), some (AI i)]) (fun q _ => (3079 - q.toInt).toNat) 0 ⟨⟨by decide, by decide⟩, h0, r0⟩ ?_
  rintro i w ⟨hi, hI, hR⟩ ih
  refine s_loc (L2 := [some (AX (b0 + 1)), some (AR 0), some (AR 95), some (AI i)]) rfl ?_
  refine s_iload_n E dL_law_18 rfl rfl ?_
  refine s_xload_n E dL_law_19 rfl rfl ?_
  refine s_slen E hX hb0 hb dL_law_20 ?_
  refine z_nm (P := fun z => z.toInt = (n : Int)) (nI_toInt (by omega)) (fun zn hzn => ?_)
  refine s_bipush (v := 6) E dL_law_21 (by decide) ?_
  refine z_isub (u := zn.toInt) (v := 6) E dL_law_23 rfl (by decide) (by omega) (by omega) (fun zm hzm => ?_)
  refine z_icmp_gt (tgt := 2498) (u := i.toInt) (v := zm.toInt) E dL_law_24 (by decide) rfl rfl (fun h_ => ?_) (fun h_ => ?_)
  ·
    refine s_iconst (v := 1) E dL_law_2498 (by decide) ?_
    exact r_law E hb dL_law_2499 (Nat.le_of_ble_eq_true rfl) (Nat.le_of_ble_eq_true rfl)
  ·
    refine s_xload_n E dL_law_27 rfl rfl ?_
    refine s_iload_n E dL_law_28 rfl rfl ?_
    refine s_sld E hX hb0 hb (z_in (u := i.toInt) rfl (by omega) (by omega)) dL_law_29 ?_
    refine s_bipush (v := 127) E dL_law_30 (by decide) ?_
    refine s_iand E dL_law_32 ?_
    refine law_switch l E hb hX hb0 hn w hI hR i ⟨by omega, by omega⟩ (fun u hu hr => ?_) _
    refine z_iinc (u := i.toInt) (L2 := fun i => [some (AX (b0 + 1)), some (AR 0), some (AR 95), some (AI i)]) E dL_law_2492 rfl rfl (by decide) (fun _ => rfl) (by decide) (by omega) (by omega) (fun zq hzq => ?_)
    refine s_goto (tgt := 18) E dL_law_2495 (by decide) ?_
    exact ih zq u ⟨⟨by omega, by omega⟩, hu, hr⟩ (by first | omega | (dsimp only; omega))
set_option maxRecDepth 20000 in
set_option maxHeartbeats 4000000 in
theorem law_entry {p : Program} {e : Env} {s : State} {m : MethodId} {below : List Frame} {meth : Method} {c : Code} (l : Launch) {b0 b : Nat} {D : va_G} {aC : Nat → ClassId} (E : EE p s m meth c D aC b 4 cL_law RL ret) (hb : b = s.heap.size) (k18 : Wv p l e room_1 s m #[Value.ref b0] below meth c (lw_Z below #[Value.ref b0] s) D aC b 4 18 [some (AX (b0 + 1)), some (AR 0), some (AR 95), some (AI 0)] [] wv_318 116 6683) : Wv p l e room_1 s m #[Value.ref b0] below meth c (lw_Z below #[Value.ref b0] s) D aC b 4 0 [some (AX (b0 + 1)), none, none, none] [] w00 0 0 := by
  refine s_new E CI9 (by decide +kernel) k_20 k_21 k_1 (by decide +kernel) (Nat.le_of_ble_eq_true rfl) (Nat.le_of_ble_eq_true rfl) dL_law_0 ?_
  refine s_topR (y := 0) (by decide +kernel) ?_
  refine s_world (w2 := wv_1) rfl ?_
  refine Wv.widen (cs2 := 1) (sl2 := 15) (Nat.le_of_ble_eq_true rfl) (Nat.le_of_ble_eq_true rfl) ?_
  refine s_dupR E dL_law_3 ?_
  refine s_init (As := []) (S := [AR 0]) E (KC_42 l D aC b) ci_L_9 rfl rfl (Nat.le_of_ble_eq_true rfl) (Nat.le_of_ble_eq_true rfl) ⟨(Nat.le_of_ble_eq_true rfl), (Nat.le_of_ble_eq_true rfl)⟩ (Nat.le_of_ble_eq_true rfl) dL_law_4 (fun u hp => ?_)
  subst hp
  refine Wv.widen (cs2 := 95) (sl2 := 3579) (Nat.le_of_ble_eq_true rfl) (Nat.le_of_ble_eq_true rfl) ?_
  refine s_astore_n (L2 := [some (AX (b0 + 1)), some (AR 0), none, none]) E dL_law_7 rfl (by decide) rfl ?_
  refine s_new E CI10 (by decide +kernel) k_1235 k_1236 k_12 (by decide +kernel) (Nat.le_of_ble_eq_true rfl) (Nat.le_of_ble_eq_true rfl) dL_law_8 ?_
  refine s_topR (y := 95) (by decide +kernel) ?_
  refine s_world (w2 := wv_273) rfl ?_
  refine Wv.widen (cs2 := 96) (sl2 := 3619) (Nat.le_of_ble_eq_true rfl) (Nat.le_of_ble_eq_true rfl) ?_
  refine s_dupR E dL_law_11 ?_
  refine s_init (As := []) (S := [AR 95]) E (KC_43 l D aC b) ci_L_12 rfl rfl (Nat.le_of_ble_eq_true rfl) (Nat.le_of_ble_eq_true rfl) ⟨(Nat.le_of_ble_eq_true rfl), (Nat.le_of_ble_eq_true rfl)⟩ (Nat.le_of_ble_eq_true rfl) dL_law_12 (fun u hp => ?_)
  subst hp
  refine Wv.widen (cs2 := 116) (sl2 := 6683) (Nat.le_of_ble_eq_true rfl) (Nat.le_of_ble_eq_true rfl) ?_
  refine s_astore_n (L2 := [some (AX (b0 + 1)), some (AR 0), some (AR 95), none]) E dL_law_15 rfl (by decide) rfl ?_
  refine s_iconst (v := 0) E dL_law_16 (by decide) ?_
  refine s_istore_n (L2 := [some (AX (b0 + 1)), some (AR 0), some (AR 95), some (AI 0)]) E dL_law_17 rfl (by decide) rfl ?_
  exact k18
