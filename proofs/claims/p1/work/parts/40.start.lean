theorem law_arr {s : State} {args : Array Value} {ty : FieldType} (h : (Cond.arrayClass ty).before args s = true) : ∃ (cA : ClassId) (kA : Class) (comp : ClassId), s.vm.findClass ("[" ++ ty.toString) = some cA ∧ s.vm.classes[cA]? = some kA ∧ kA.kind = .array comp ty := by
  obtain ⟨cA, kA, comp, h1, h2, h3⟩ := Cond.arrayClass_spec h
  exact ⟨cA, kA, comp, h1, h2, h3⟩
theorem law_arrO {s : State} {args : Array Value} {n : String} (h : (Cond.arrayOver (.object n)).before args s = true) : ∃ (cA : ClassId) (kA : Class) (comp : ClassId), s.vm.findClass ("[" ++ (FieldType.object n).toString) = some cA ∧ s.vm.classes[cA]? = some kA ∧ kA.kind = .array comp (.object n) ∧ s.vm.findClass n = some comp := by
  obtain ⟨comp, cA, kA, h1, -, h3, h4, h5⟩ := Cond.arrayOver_spec h
  exact ⟨cA, kA, comp, h5, h3, h4, h1⟩
theorem Gl_of {s : State} {A0 : Array Value} (hts : ∀ w ∈ lw_tbl, w.before A0 s = true) : Gl s := by
  intro w hw ho A
  unfold okW at ho
  have h0 := hts w hw
  cases hg : goodWord w with
  | true => exact word_at (State.WarmedH.refl s) (good_of_word hg) h0
  | false =>
    rw [hg] at ho
    have hn : isNest w = true := by simpa using ho
    match w, hn, h0 with
    | .fieldLinkNest _ _ _ _ _ _, _, h0 => exact va_Nw.use rfl (va_Nw.of rfl h0)
    | .methodLinkNest _ _ _ _, _, h0 => exact va_Nw.use rfl (va_Nw.of rfl h0)
    | .arrayOver (.object _), _, h0 => exact va_AO.use (va_AO.of h0)
set_option maxRecDepth 20000 in
set_option maxHeartbeats 4000000 in
theorem law_known {s : State} {b : Nat} (hts : ∀ w ∈ lw_tbl, w.before #[Value.ref b] s = true) : ∃ (D : va_G) (aC : Nat → ClassId), va_K D vwCl (xTys aC) s ∧ Gl s := by
  obtain ⟨c0, i0, k0⟩ := u_known (C := RX0) (T := TX0) (N := 10) (n := 10) hts (fun w hw => (CI0.2.2.1 w hw).1) (hts (.instantiable RX0 10) (by decide +kernel))
  obtain ⟨c1, i1, k1⟩ := u_known (C := RX1) (T := TX1) (N := 8) (n := 8) hts (fun w hw => (CI1.2.2.1 w hw).1) (hts (.instantiable RX1 8) (by decide +kernel))
  obtain ⟨c2, i2, k2⟩ := u_known (C := RX2) (T := TX2) (N := 8) (n := 8) hts (fun w hw => (CI2.2.2.1 w hw).1) (hts (.instantiable RX2 8) (by decide +kernel))
  obtain ⟨c3, i3, k3⟩ := u_known (C := RX3) (T := TX3) (N := 3) (n := 3) hts (fun w hw => (CI3.2.2.1 w hw).1) (hts (.instantiable RX3 3) (by decide +kernel))
  obtain ⟨c4, i4, k4⟩ := u_known (C := RX4) (T := TX4) (N := 3) (n := 3) hts (fun w hw => (CI4.2.2.1 w hw).1) (hts (.instantiable RX4 3) (by decide +kernel))
  obtain ⟨c5, i5, k5⟩ := u_known (C := RX5) (T := TX5) (N := 6) (n := 6) hts (fun w hw => (CI5.2.2.1 w hw).1) (hts (.instantiable RX5 6) (by decide +kernel))
  obtain ⟨c6, i6, k6⟩ := u_known (C := RX6) (T := TX6) (N := 8) (n := 8) hts (fun w hw => (CI6.2.2.1 w hw).1) (hts (.instantiable RX6 8) (by decide +kernel))
  obtain ⟨c7, i7, k7⟩ := u_known (C := RX7) (T := TX7) (N := 3) (n := 3) hts (fun w hw => (CI7.2.2.1 w hw).1) (hts (.instantiable RX7 3) (by decide +kernel))
  obtain ⟨c8, i8, k8⟩ := u_known (C := RX8) (T := TX8) (N := 4) (n := 4) hts (fun w hw => (CI8.2.2.1 w hw).1) (hts (.instantiable RX8 4) (by decide +kernel))
  obtain ⟨c9, i9, k9⟩ := u_known (C := RX9) (T := TX9) (N := 15) (n := 15) hts (fun w hw => (CI9.2.2.1 w hw).1) (hts (.instantiable RX9 15) (by decide +kernel))
  obtain ⟨c10, i10, k10⟩ := u_known (C := RX10) (T := TX10) (N := 40) (n := 40) hts (fun w hw => (CI10.2.2.1 w hw).1) (hts (.instantiable RX10 40) (by decide +kernel))
  obtain ⟨a100, b100, d100, e100, f100, g100⟩ := law_arr (hts (.arrayClass .int) (by decide +kernel))
  obtain ⟨a101, b101, d101, e101, f101, g101⟩ := law_arr (hts (.arrayClass .long) (by decide +kernel))
  obtain ⟨a102, b102, d102, e102, f102, g102⟩ := law_arr (hts (.arrayClass .byte) (by decide +kernel))
  obtain ⟨a103, b103, d103, e103, f103, g103⟩ := law_arr (hts (.arrayClass .boolean) (by decide +kernel))
  obtain ⟨a104, b104, d104, e104, f104, g104, j104⟩ := law_arrO (hts (.arrayOver (.object "HoopCabinet$Ball")) (by decide +kernel))
  obtain ⟨a105, b105, d105, e105, f105, g105, j105⟩ := law_arrO (hts (.arrayOver (.object "HoopCabinet$Slot")) (by decide +kernel))
  refine ⟨(fun k => match k with | 0 => c0 | 1 => c1 | 2 => c2 | 3 => c3 | 4 => c4 | 5 => c5 | 6 => c6 | 7 => c7 | 8 => c8 | 9 => c9 | _ => c10, fun k => match k with | 0 => i0 | 1 => i1 | 2 => i2 | 3 => i3 | 4 => i4 | 5 => i5 | 6 => i6 | 7 => i7 | 8 => i8 | 9 => i9 | _ => i10), fun k => match k with | 100 => a100 | 101 => a101 | 102 => a102 | 103 => a103 | 104 => a104 | _ => a105, ⟨fun k q hq => ?_, fun k q hq => ?_⟩, Gl_of hts⟩
  · match k, hq with
    | 0, hq => cases hq; exact k0
    | 1, hq => cases hq; exact k1
    | 2, hq => cases hq; exact k2
    | 3, hq => cases hq; exact k3
    | 4, hq => cases hq; exact k4
    | 5, hq => cases hq; exact k5
    | 6, hq => cases hq; exact k6
    | 7, hq => cases hq; exact k7
    | 8, hq => cases hq; exact k8
    | 9, hq => cases hq; exact k9
    | 10, hq => cases hq; exact k10
    | k + 11, hq => simp [vwCl] at hq
  · match k, hq with
    | 0, hq => cases hq; exact ⟨fun n z => ⟨fun k h => (by cases h), b100, f100, d100, g100⟩, e100⟩
    | 1, hq => cases hq; exact ⟨fun n z => ⟨fun k h => (by cases h), b101, f101, d101, g101⟩, e101⟩
    | 2, hq => cases hq; exact ⟨fun n z => ⟨fun k h => (by cases h), b102, f102, d102, g102⟩, e102⟩
    | 3, hq => cases hq; exact ⟨fun n z => ⟨fun k h => (by cases h), b103, f103, d103, g103⟩, e103⟩
    | 4, hq => cases hq; exact ⟨fun n z => ⟨fun k h => (by cases h), b104, f104, d104, g104⟩, b104, d104, f104, g104, j104, e104⟩
    | 5, hq => cases hq; exact ⟨fun n z => ⟨fun k h => (by cases h), b105, f105, d105, g105⟩, b105, d105, f105, g105, j105, e105⟩
    | k + 6, hq => simp [xTys] at hq
set_option maxRecDepth 20000 in
set_option maxHeartbeats 4000000 in
theorem law_switch {p : Program} {e : Env} {s : State} {m : MethodId} {below : List Frame} {meth : Method} {c : Code} (l : Launch) {b0 b : Nat} {xs : Nat → Int32} {D : va_G} {aC : Nat → ClassId} (E : EE p s m meth c D aC b 4 cL_law RL ret) (hb : b = s.heap.size) (hX : va_X b0 6 xs s s.heap) (hb0 : b0 < s.heap.size) (x : Int32) : Wv p l e room_1 s m #[Value.ref b0] below meth c (lw_Z below #[Value.ref b0] s) D aC b 4 33 [some (AX b0), some (AR 0), some (AR 95), some (AI 0)] [AI x] wv_318 116 6683 := by
  by_cases hout : x.toInt < 0 ∨ 71 < x.toInt
  · refine s_tableOut (tgt := 2494) E dL_law_33 hout (by decide) ?_
    exact law_tail l E hb hX hb0 wv_318
  · have ej : x = nI x.toInt.toNat := Int32.toInt_inj.mp (by rw [nI_toInt (by omega)]; omega)
    have hj : x.toInt.toNat < 72 := by omega
    refine s_top ej ?_
    generalize x.toInt.toNat = j at hj ⊢
    match j, hj with
    | 0, _ => exact s_tableIn (off := 303) (tgt := 336) E dL_law_33 (by decide) (by decide) (by decide +kernel) (by decide) (lawc_0 l E hb hX hb0)
    | 1, _ => exact s_tableIn (off := 366) (tgt := 399) E dL_law_33 (by decide) (by decide) (by decide +kernel) (by decide) (lawc_1 l E hb hX hb0)
    | 2, _ => exact s_tableIn (off := 389) (tgt := 422) E dL_law_33 (by decide) (by decide) (by decide +kernel) (by decide) (lawc_2 l E hb hX hb0)
    | 3, _ => exact s_tableIn (off := 402) (tgt := 435) E dL_law_33 (by decide) (by decide) (by decide +kernel) (by decide) (lawc_3 l E hb hX hb0)
    | 4, _ => exact s_tableIn (off := 425) (tgt := 458) E dL_law_33 (by decide) (by decide) (by decide +kernel) (by decide) (lawc_4 l E hb hX hb0)
    | 5, _ => exact s_tableIn (off := 458) (tgt := 491) E dL_law_33 (by decide) (by decide) (by decide +kernel) (by decide) (lawc_5 l E hb hX hb0)
    | 6, _ => exact s_tableIn (off := 491) (tgt := 524) E dL_law_33 (by decide) (by decide) (by decide +kernel) (by decide) (lawc_6 l E hb hX hb0)
    | 7, _ => exact s_tableIn (off := 524) (tgt := 557) E dL_law_33 (by decide) (by decide) (by decide +kernel) (by decide) (lawc_7 l E hb hX hb0)
    | 8, _ => exact s_tableIn (off := 567) (tgt := 600) E dL_law_33 (by decide) (by decide) (by decide +kernel) (by decide) (lawc_8 l E hb hX hb0)
    | 9, _ => exact s_tableIn (off := 600) (tgt := 633) E dL_law_33 (by decide) (by decide) (by decide +kernel) (by decide) (lawc_9 l E hb hX hb0)
    | 10, _ => exact s_tableIn (off := 633) (tgt := 666) E dL_law_33 (by decide) (by decide) (by decide +kernel) (by decide) (lawc_10 l E hb hX hb0)
    | 11, _ => exact s_tableIn (off := 666) (tgt := 699) E dL_law_33 (by decide) (by decide) (by decide +kernel) (by decide) (lawc_11 l E hb hX hb0)
    | 12, _ => exact s_tableIn (off := 699) (tgt := 732) E dL_law_33 (by decide) (by decide) (by decide +kernel) (by decide) (lawc_12 l E hb hX hb0)
    | 13, _ => exact s_tableIn (off := 722) (tgt := 755) E dL_law_33 (by decide) (by decide) (by decide +kernel) (by decide) (lawc_13 l E hb hX hb0)
    | 14, _ => exact s_tableIn (off := 745) (tgt := 778) E dL_law_33 (by decide) (by decide) (by decide +kernel) (by decide) (lawc_14 l E hb hX hb0)
    | 15, _ => exact s_tableIn (off := 778) (tgt := 811) E dL_law_33 (by decide) (by decide) (by decide +kernel) (by decide) (lawc_15 l E hb hX hb0)
    | 16, _ => exact s_tableIn (off := 811) (tgt := 844) E dL_law_33 (by decide) (by decide) (by decide +kernel) (by decide) (lawc_16 l E hb hX hb0)
    | 17, _ => exact s_tableIn (off := 834) (tgt := 867) E dL_law_33 (by decide) (by decide) (by decide +kernel) (by decide) (lawc_17 l E hb hX hb0)
    | 18, _ => exact s_tableIn (off := 847) (tgt := 880) E dL_law_33 (by decide) (by decide) (by decide +kernel) (by decide) (lawc_18 l E hb hX hb0)
    | 19, _ => exact s_tableIn (off := 860) (tgt := 893) E dL_law_33 (by decide) (by decide) (by decide +kernel) (by decide) (lawc_19 l E hb hX hb0)
    | 20, _ => exact s_tableIn (off := 883) (tgt := 916) E dL_law_33 (by decide) (by decide) (by decide +kernel) (by decide) (lawc_20 l E hb hX hb0)
    | 21, _ => exact s_tableIn (off := 926) (tgt := 959) E dL_law_33 (by decide) (by decide) (by decide +kernel) (by decide) (lawc_21 l E hb hX hb0)
    | 22, _ => exact s_tableIn (off := 949) (tgt := 982) E dL_law_33 (by decide) (by decide) (by decide +kernel) (by decide) (lawc_22 l E hb hX hb0)
    | 23, _ => exact s_tableIn (off := 972) (tgt := 1005) E dL_law_33 (by decide) (by decide) (by decide +kernel) (by decide) (lawc_23 l E hb hX hb0)
    | 24, _ => exact s_tableIn (off := 995) (tgt := 1028) E dL_law_33 (by decide) (by decide) (by decide +kernel) (by decide) (lawc_24 l E hb hX hb0)
    | 25, _ => exact s_tableIn (off := 1018) (tgt := 1051) E dL_law_33 (by decide) (by decide) (by decide +kernel) (by decide) (lawc_25 l E hb hX hb0)
    | 26, _ => exact s_tableIn (off := 1041) (tgt := 1074) E dL_law_33 (by decide) (by decide) (by decide +kernel) (by decide) (lawc_26 l E hb hX hb0)
    | 27, _ => exact s_tableIn (off := 1064) (tgt := 1097) E dL_law_33 (by decide) (by decide) (by decide +kernel) (by decide) (lawc_27 l E hb hX hb0)
    | 28, _ => exact s_tableIn (off := 1097) (tgt := 1130) E dL_law_33 (by decide) (by decide) (by decide +kernel) (by decide) (lawc_28 l E hb hX hb0)
    | 29, _ => exact s_tableIn (off := 1110) (tgt := 1143) E dL_law_33 (by decide) (by decide) (by decide +kernel) (by decide) (lawc_29 l E hb hX hb0)
    | 30, _ => exact s_tableIn (off := 1133) (tgt := 1166) E dL_law_33 (by decide) (by decide) (by decide +kernel) (by decide) (lawc_30 l E hb hX hb0)
    | 31, _ => exact s_tableIn (off := 1146) (tgt := 1179) E dL_law_33 (by decide) (by decide) (by decide +kernel) (by decide) (lawc_31 l E hb hX hb0)
    | 32, _ => exact s_tableIn (off := 1179) (tgt := 1212) E dL_law_33 (by decide) (by decide) (by decide +kernel) (by decide) (lawc_32 l E hb hX hb0)
    | 33, _ => exact s_tableIn (off := 1212) (tgt := 1245) E dL_law_33 (by decide) (by decide) (by decide +kernel) (by decide) (lawc_33 l E hb hX hb0)
    | 34, _ => exact s_tableIn (off := 1245) (tgt := 1278) E dL_law_33 (by decide) (by decide) (by decide +kernel) (by decide) (lawc_34 l E hb hX hb0)
    | 35, _ => exact s_tableIn (off := 1268) (tgt := 1301) E dL_law_33 (by decide) (by decide) (by decide +kernel) (by decide) (lawc_35 l E hb hX hb0)
    | 36, _ => exact s_tableIn (off := 1281) (tgt := 1314) E dL_law_33 (by decide) (by decide) (by decide +kernel) (by decide) (lawc_36 l E hb hX hb0)
    | 37, _ => exact s_tableIn (off := 1304) (tgt := 1337) E dL_law_33 (by decide) (by decide) (by decide +kernel) (by decide) (lawc_37 l E hb hX hb0)
    | 38, _ => exact s_tableIn (off := 1327) (tgt := 1360) E dL_law_33 (by decide) (by decide) (by decide +kernel) (by decide) (lawc_38 l E hb hX hb0)
    | 39, _ => exact s_tableIn (off := 1360) (tgt := 1393) E dL_law_33 (by decide) (by decide) (by decide +kernel) (by decide) (lawc_39 l E hb hX hb0)
    | 40, _ => exact s_tableIn (off := 1403) (tgt := 1436) E dL_law_33 (by decide) (by decide) (by decide +kernel) (by decide) (lawc_40 l E hb hX hb0)
    | 41, _ => exact s_tableIn (off := 1456) (tgt := 1489) E dL_law_33 (by decide) (by decide) (by decide +kernel) (by decide) (lawc_41 l E hb hX hb0)
    | 42, _ => exact s_tableIn (off := 1489) (tgt := 1522) E dL_law_33 (by decide) (by decide) (by decide +kernel) (by decide) (lawc_42 l E hb hX hb0)
    | 43, _ => exact s_tableIn (off := 1522) (tgt := 1555) E dL_law_33 (by decide) (by decide) (by decide +kernel) (by decide) (lawc_43 l E hb hX hb0)
    | 44, _ => exact s_tableIn (off := 1565) (tgt := 1598) E dL_law_33 (by decide) (by decide) (by decide +kernel) (by decide) (lawc_44 l E hb hX hb0)
    | 45, _ => exact s_tableIn (off := 1588) (tgt := 1621) E dL_law_33 (by decide) (by decide) (by decide +kernel) (by decide) (lawc_45 l E hb hX hb0)
    | 46, _ => exact s_tableIn (off := 1611) (tgt := 1644) E dL_law_33 (by decide) (by decide) (by decide +kernel) (by decide) (lawc_46 l E hb hX hb0)
    | 47, _ => exact s_tableIn (off := 1634) (tgt := 1667) E dL_law_33 (by decide) (by decide) (by decide +kernel) (by decide) (lawc_47 l E hb hX hb0)
    | 48, _ => exact s_tableIn (off := 1657) (tgt := 1690) E dL_law_33 (by decide) (by decide) (by decide +kernel) (by decide) (lawc_48 l E hb hX hb0)
    | 49, _ => exact s_tableIn (off := 1680) (tgt := 1713) E dL_law_33 (by decide) (by decide) (by decide +kernel) (by decide) (lawc_49 l E hb hX hb0)
    | 50, _ => exact s_tableIn (off := 1703) (tgt := 1736) E dL_law_33 (by decide) (by decide) (by decide +kernel) (by decide) (lawc_50 l E hb hX hb0)
    | 51, _ => exact s_tableIn (off := 1726) (tgt := 1759) E dL_law_33 (by decide) (by decide) (by decide +kernel) (by decide) (lawc_51 l E hb hX hb0)
    | 52, _ => exact s_tableIn (off := 1759) (tgt := 1792) E dL_law_33 (by decide) (by decide) (by decide +kernel) (by decide) (lawc_52 l E hb hX hb0)
    | 53, _ => exact s_tableIn (off := 1772) (tgt := 1805) E dL_law_33 (by decide) (by decide) (by decide +kernel) (by decide) (lawc_53 l E hb hX hb0)
    | 54, _ => exact s_tableIn (off := 1785) (tgt := 1818) E dL_law_33 (by decide) (by decide) (by decide +kernel) (by decide) (lawc_54 l E hb hX hb0)
    | 55, _ => exact s_tableIn (off := 1798) (tgt := 1831) E dL_law_33 (by decide) (by decide) (by decide +kernel) (by decide) (lawc_55 l E hb hX hb0)
    | 56, _ => exact s_tableIn (off := 1831) (tgt := 1864) E dL_law_33 (by decide) (by decide) (by decide +kernel) (by decide) (lawc_56 l E hb hX hb0)
    | 57, _ => exact s_tableIn (off := 1884) (tgt := 1917) E dL_law_33 (by decide) (by decide) (by decide +kernel) (by decide) (lawc_57 l E hb hX hb0)
    | 58, _ => exact s_tableIn (off := 1938) (tgt := 1971) E dL_law_33 (by decide) (by decide) (by decide +kernel) (by decide) (lawc_58 l E hb hX hb0)
    | 59, _ => exact s_tableIn (off := 1982) (tgt := 2015) E dL_law_33 (by decide) (by decide) (by decide +kernel) (by decide) (lawc_59 l E hb hX hb0)
    | 60, _ => exact s_tableIn (off := 2025) (tgt := 2058) E dL_law_33 (by decide) (by decide) (by decide +kernel) (by decide) (lawc_60 l E hb hX hb0)
    | 61, _ => exact s_tableIn (off := 2058) (tgt := 2091) E dL_law_33 (by decide) (by decide) (by decide +kernel) (by decide) (lawc_61 l E hb hX hb0)
    | 62, _ => exact s_tableIn (off := 2071) (tgt := 2104) E dL_law_33 (by decide) (by decide) (by decide +kernel) (by decide) (lawc_62 l E hb hX hb0)
    | 63, _ => exact s_tableIn (off := 2084) (tgt := 2117) E dL_law_33 (by decide) (by decide) (by decide +kernel) (by decide) (lawc_63 l E hb hX hb0)
    | 64, _ => exact s_tableIn (off := 2127) (tgt := 2160) E dL_law_33 (by decide) (by decide) (by decide +kernel) (by decide) (lawc_64 l E hb hX hb0)
    | 65, _ => exact s_tableIn (off := 2180) (tgt := 2213) E dL_law_33 (by decide) (by decide) (by decide +kernel) (by decide) (lawc_65 l E hb hX hb0)
    | 66, _ => exact s_tableIn (off := 2213) (tgt := 2246) E dL_law_33 (by decide) (by decide) (by decide +kernel) (by decide) (lawc_66 l E hb hX hb0)
    | 67, _ => exact s_tableIn (off := 2236) (tgt := 2269) E dL_law_33 (by decide) (by decide) (by decide +kernel) (by decide) (lawc_67 l E hb hX hb0)
    | 68, _ => exact s_tableIn (off := 2259) (tgt := 2292) E dL_law_33 (by decide) (by decide) (by decide +kernel) (by decide) (lawc_68 l E hb hX hb0)
    | 69, _ => exact s_tableIn (off := 2282) (tgt := 2315) E dL_law_33 (by decide) (by decide) (by decide +kernel) (by decide) (lawc_69 l E hb hX hb0)
    | 70, _ => exact s_tableIn (off := 2325) (tgt := 2358) E dL_law_33 (by decide) (by decide) (by decide +kernel) (by decide) (lawc_70 l E hb hX hb0)
    | 71, _ => exact s_tableIn (off := 2398) (tgt := 2431) E dL_law_33 (by decide) (by decide) (by decide +kernel) (by decide) (lawc_71 l E hb hX hb0)
    | j + 72, h => exact absurd h (by omega)
set_option maxRecDepth 20000 in
set_option maxHeartbeats 4000000 in
theorem law_six {p : Program} {e : Env} {s : State} {m : MethodId} {below : List Frame} {meth : Method} {c : Code} (l : Launch) {b0 b : Nat} {xs : Nat → Int32} {D : va_G} {aC : Nat → ClassId} (E : EE p s m meth c D aC b 4 cL_law RL ret) (hb : b = s.heap.size) (hX : va_X b0 6 xs s s.heap) (hb0 : b0 < s.heap.size) : Wv p l e room_1 s m #[Value.ref b0] below meth c (lw_Z below #[Value.ref b0] s) D aC b 4 18 [some (AX b0), some (AR 0), some (AR 95), some (AI 0)] [] wv_318 116 6683 := by
  refine s_iload_n E dL_law_18 rfl rfl ?_
  refine s_xload_n E dL_law_19 rfl rfl ?_
  refine s_slen E hX hb0 hb dL_law_20 ?_
  refine s_top (y := 6) rfl ?_
  refine s_bipush (v := 6) E dL_law_21 (by decide) ?_
  refine s_isub E dL_law_23 ?_
  refine s_top (y := 0) (by decide) ?_
  refine s_icmp_gt (tgt := 2500) E dL_law_24 (by decide) (fun hh => absurd hh (by decide)) (fun _ => ?_)
  refine s_xload_n E dL_law_27 rfl rfl ?_
  refine s_iload_n E dL_law_28 rfl rfl ?_
  refine s_sld E hX hb0 hb (vp_c (by decide)) dL_law_29 ?_
  refine s_top (y := (xs 0)) (congrArg xs (by decide)) ?_
  refine s_bipush (v := 127) E dL_law_30 (by decide) ?_
  refine s_iand E dL_law_32 ?_
  exact law_switch l E hb hX hb0 _
set_option maxRecDepth 20000 in
set_option maxHeartbeats 4000000 in
theorem law_few {p : Program} {e : Env} {s : State} {m : MethodId} {below : List Frame} {meth : Method} {c : Code} (l : Launch) {b0 b : Nat} {xs : Nat → Int32} {D : va_G} {aC : Nat → ClassId} (E : EE p s m meth c D aC b 4 cL_law RL ret) (hb : b = s.heap.size) (hb0 : b0 < s.heap.size) {n : Nat} (hX : va_X b0 n xs s s.heap) (hn : n < 6) : Wv p l e room_1 s m #[Value.ref b0] below meth c (lw_Z below #[Value.ref b0] s) D aC b 4 18 [some (AX b0), some (AR 0), some (AR 95), some (AI 0)] [] wv_318 116 6683 := by
  match n, hn, hX with
  | 0, _, hX =>
    refine s_iload_n E dL_law_18 rfl rfl ?_
    refine s_xload_n E dL_law_19 rfl rfl ?_
    refine s_slen E hX hb0 hb dL_law_20 ?_
    refine s_top (y := 0) rfl ?_
    refine s_bipush (v := 6) E dL_law_21 (by decide) ?_
    refine s_isub E dL_law_23 ?_
    refine s_top (y := (-6)) (by decide) ?_
    refine s_icmp_gt (tgt := 2500) E dL_law_24 (by decide) (fun _ => ?_) (fun hh => absurd (by decide) hh)
    refine s_iconst (v := 1) E dL_law_2500 (by decide) ?_
    exact r_law E hb dL_law_2501 (Nat.le_of_ble_eq_true rfl) (Nat.le_of_ble_eq_true rfl)
  | 1, _, hX =>
    refine s_iload_n E dL_law_18 rfl rfl ?_
    refine s_xload_n E dL_law_19 rfl rfl ?_
    refine s_slen E hX hb0 hb dL_law_20 ?_
    refine s_top (y := 1) rfl ?_
    refine s_bipush (v := 6) E dL_law_21 (by decide) ?_
    refine s_isub E dL_law_23 ?_
    refine s_top (y := (-5)) (by decide) ?_
    refine s_icmp_gt (tgt := 2500) E dL_law_24 (by decide) (fun _ => ?_) (fun hh => absurd (by decide) hh)
    refine s_iconst (v := 1) E dL_law_2500 (by decide) ?_
    exact r_law E hb dL_law_2501 (Nat.le_of_ble_eq_true rfl) (Nat.le_of_ble_eq_true rfl)
  | 2, _, hX =>
    refine s_iload_n E dL_law_18 rfl rfl ?_
    refine s_xload_n E dL_law_19 rfl rfl ?_
    refine s_slen E hX hb0 hb dL_law_20 ?_
    refine s_top (y := 2) rfl ?_
    refine s_bipush (v := 6) E dL_law_21 (by decide) ?_
    refine s_isub E dL_law_23 ?_
    refine s_top (y := (-4)) (by decide) ?_
    refine s_icmp_gt (tgt := 2500) E dL_law_24 (by decide) (fun _ => ?_) (fun hh => absurd (by decide) hh)
    refine s_iconst (v := 1) E dL_law_2500 (by decide) ?_
    exact r_law E hb dL_law_2501 (Nat.le_of_ble_eq_true rfl) (Nat.le_of_ble_eq_true rfl)
  | 3, _, hX =>
    refine s_iload_n E dL_law_18 rfl rfl ?_
    refine s_xload_n E dL_law_19 rfl rfl ?_
    refine s_slen E hX hb0 hb dL_law_20 ?_
    refine s_top (y := 3) rfl ?_
    refine s_bipush (v := 6) E dL_law_21 (by decide) ?_
    refine s_isub E dL_law_23 ?_
    refine s_top (y := (-3)) (by decide) ?_
    refine s_icmp_gt (tgt := 2500) E dL_law_24 (by decide) (fun _ => ?_) (fun hh => absurd (by decide) hh)
    refine s_iconst (v := 1) E dL_law_2500 (by decide) ?_
    exact r_law E hb dL_law_2501 (Nat.le_of_ble_eq_true rfl) (Nat.le_of_ble_eq_true rfl)
  | 4, _, hX =>
    refine s_iload_n E dL_law_18 rfl rfl ?_
    refine s_xload_n E dL_law_19 rfl rfl ?_
    refine s_slen E hX hb0 hb dL_law_20 ?_
    refine s_top (y := 4) rfl ?_
    refine s_bipush (v := 6) E dL_law_21 (by decide) ?_
    refine s_isub E dL_law_23 ?_
    refine s_top (y := (-2)) (by decide) ?_
    refine s_icmp_gt (tgt := 2500) E dL_law_24 (by decide) (fun _ => ?_) (fun hh => absurd (by decide) hh)
    refine s_iconst (v := 1) E dL_law_2500 (by decide) ?_
    exact r_law E hb dL_law_2501 (Nat.le_of_ble_eq_true rfl) (Nat.le_of_ble_eq_true rfl)
  | 5, _, hX =>
    refine s_iload_n E dL_law_18 rfl rfl ?_
    refine s_xload_n E dL_law_19 rfl rfl ?_
    refine s_slen E hX hb0 hb dL_law_20 ?_
    refine s_top (y := 5) rfl ?_
    refine s_bipush (v := 6) E dL_law_21 (by decide) ?_
    refine s_isub E dL_law_23 ?_
    refine s_top (y := (-1)) (by decide) ?_
    refine s_icmp_gt (tgt := 2500) E dL_law_24 (by decide) (fun _ => ?_) (fun hh => absurd (by decide) hh)
    refine s_iconst (v := 1) E dL_law_2500 (by decide) ?_
    exact r_law E hb dL_law_2501 (Nat.le_of_ble_eq_true rfl) (Nat.le_of_ble_eq_true rfl)
  | n + 6, h, _ => exact absurd h (by omega)
set_option maxRecDepth 20000 in
set_option maxHeartbeats 4000000 in
theorem law_entry {p : Program} {e : Env} {s : State} {m : MethodId} {below : List Frame} {meth : Method} {c : Code} (l : Launch) {b0 b : Nat} {xs : Nat → Int32} {D : va_G} {aC : Nat → ClassId} (E : EE p s m meth c D aC b 4 cL_law RL ret) (hb : b = s.heap.size)  (k18 : Wv p l e room_1 s m #[Value.ref b0] below meth c (lw_Z below #[Value.ref b0] s) D aC b 4 18 [some (AX b0), some (AR 0), some (AR 95), some (AI 0)] [] wv_318 116 6683) : Wv p l e room_1 s m #[Value.ref b0] below meth c (lw_Z below #[Value.ref b0] s) D aC b 4 0 [some (AX b0), none, none, none] [] w00 0 0 := by
  refine s_new E CI9 (by decide +kernel) k_20 k_21 k_1 (by decide +kernel) (Nat.le_of_ble_eq_true rfl) (Nat.le_of_ble_eq_true rfl) dL_law_0 ?_
  refine s_topR (y := 0) (by decide +kernel) ?_
  refine s_world (w2 := wv_1) rfl ?_
  refine Wv.widen (cs2 := 1) (sl2 := 15) (Nat.le_of_ble_eq_true rfl) (Nat.le_of_ble_eq_true rfl) ?_
  refine s_dupR E dL_law_3 ?_
  refine s_init (As := []) (S := [AR 0]) E (KC_42 l D aC b) ci_L_9 rfl rfl (Nat.le_of_ble_eq_true rfl) (Nat.le_of_ble_eq_true rfl) ⟨(Nat.le_of_ble_eq_true rfl), (Nat.le_of_ble_eq_true rfl)⟩ (Nat.le_of_ble_eq_true rfl) dL_law_4 (fun u hp => ?_)
  subst hp
  refine Wv.widen (cs2 := 95) (sl2 := 3579) (Nat.le_of_ble_eq_true rfl) (Nat.le_of_ble_eq_true rfl) ?_
  refine s_astore_n (L2 := [some (AX b0), some (AR 0), none, none]) E dL_law_7 rfl (by decide) rfl ?_
  refine s_new E CI10 (by decide +kernel) k_1235 k_1236 k_12 (by decide +kernel) (Nat.le_of_ble_eq_true rfl) (Nat.le_of_ble_eq_true rfl) dL_law_8 ?_
  refine s_topR (y := 95) (by decide +kernel) ?_
  refine s_world (w2 := wv_273) rfl ?_
  refine Wv.widen (cs2 := 96) (sl2 := 3619) (Nat.le_of_ble_eq_true rfl) (Nat.le_of_ble_eq_true rfl) ?_
  refine s_dupR E dL_law_11 ?_
  refine s_init (As := []) (S := [AR 95]) E (KC_43 l D aC b) ci_L_12 rfl rfl (Nat.le_of_ble_eq_true rfl) (Nat.le_of_ble_eq_true rfl) ⟨(Nat.le_of_ble_eq_true rfl), (Nat.le_of_ble_eq_true rfl)⟩ (Nat.le_of_ble_eq_true rfl) dL_law_12 (fun u hp => ?_)
  subst hp
  refine Wv.widen (cs2 := 116) (sl2 := 6683) (Nat.le_of_ble_eq_true rfl) (Nat.le_of_ble_eq_true rfl) ?_
  refine s_astore_n (L2 := [some (AX b0), some (AR 0), some (AR 95), none]) E dL_law_15 rfl (by decide) rfl ?_
  refine s_iconst (v := 0) E dL_law_16 (by decide) ?_
  refine s_istore_n (L2 := [some (AX b0), some (AR 0), some (AR 95), some (AI 0)]) E dL_law_17 rfl (by decide) rfl ?_
  exact k18
set_option maxRecDepth 20000 in
set_option maxHeartbeats 4000000 in
/-- THE LAW, from its entry -/
theorem whole_start {p : Program} {e : Env} {s : State} {m : MethodId} {below : List Frame} {meth : Method} {c : Code} (l : Launch) {b L : Nat} {xs : Nat → Int32} (hL : L ≤ 6) (C0 : lw_At p s m meth c b L xs) : W p l e room_1 s m #[Value.ref b] below meth c s.heap [] 0 0 (lw_Z below #[Value.ref b] s) (entryFrame m ([Value.ref b] : List Value).toArray 4) := by
  obtain ⟨hx, hb, hr, hml, hown, hts, hX, hbl, hlocks, hgv⟩ := id C0
  obtain ⟨D, aC, hK, hG⟩ := law_known hts
  have E : EE p s m meth c D aC s.heap.size 4 code RL ret := ⟨hx, hb, hml, hown, hG, hK, hr, hlocks, Nat.le_refl _⟩
  have hl := lv_entry ([Value.ref b]) (n := 4) (Nat.le_of_ble_eq_true rfl)
  rw [lg_entry_eq]
  generalize (lg_sl ([Value.ref b]) ++ List.replicate (4 - (lg_sl ([Value.ref b])).length) Slot.unset).toArray = ls at hl ⊢
  have hH : xH D aC s.heap.size w00 s.heap := ⟨fun k q h => by simp [xL, w00] at h, rfl⟩
  refine law_entry (xs := xs) l E rfl ?_ s.heap [] ls hH va_S.rf hl
  rcases (show L = 6 ∨ L < 6 by omega) with h | h
  · subst h
    exact law_six l E rfl hX hbl
  · exact law_few l E rfl hbl hX h
