set_option maxRecDepth 20000 in
set_option maxHeartbeats 2000000 in
theorem lawc_60 {p : Program} {e : Env} {s : State} {m : MethodId} {below : List Frame} {meth : Method} {c : Code} (l : Launch) {b0 b n : Nat} {xs : Nat → Int32} {D : va_G} {aC : Nat → ClassId} (E : EE p s m meth c D aC b 4 cL_law RL ret) (hb : b = s.heap.size) (hX : va_X b0 n xs s s.heap) (hb0 : b0 < s.heap.size) (hn : n ≤ 3072) (w : XW) (hI : Iv w) (hR : RLs w) (i : Int32) (hi : 0 ≤ i.toInt ∧ i.toInt + 6 ≤ (n : Int)) (kk : ∀ u : XW, Iv u → RLs u → Wv p l e room_1 s m #[Value.ref b0] below meth c (lw_Z below #[Value.ref b0] s) D aC b 4 2492 [some (AX (b0 + 1)), some (AR 0), some (AR 95), some (AI i)] [] u 116 6683) : Wv p l e room_1 s m #[Value.ref b0] below meth c (lw_Z below #[Value.ref b0] s) D aC b 4 2056 [some (AX (b0 + 1)), some (AR 0), some (AR 95), some (AI i)] [] w 116 6683 := by
  refine s_aload_n E dL_law_2056 rfl rfl ?_
  refine s_xload_n E dL_law_2057 rfl rfl ?_
  refine s_iload_n E dL_law_2058 rfl rfl ?_
  refine s_iconst (v := 1) E dL_law_2059 (by decide) ?_
  refine z_iadd (u := i.toInt) (v := 1) E dL_law_2060 rfl (by decide) (by omega) (by omega) (fun z_1 hz_1 => ?_)
  refine s_sld E hX hb0 hb (z_in (u := z_1.toInt) rfl (by omega) (by omega)) dL_law_2061 ?_
  refine s_top (y := (xs (i.toInt.toNat + 1))) (congrArg xs (by show z_1.toInt.toNat = _; omega)) ?_
  refine s_xload_n E dL_law_2062 rfl rfl ?_
  refine s_iload_n E dL_law_2063 rfl rfl ?_
  refine s_iconst (v := 2) E dL_law_2064 (by decide) ?_
  refine z_iadd (u := i.toInt) (v := 2) E dL_law_2065 rfl (by decide) (by omega) (by omega) (fun z_2 hz_2 => ?_)
  refine s_sld E hX hb0 hb (z_in (u := z_2.toInt) rfl (by omega) (by omega)) dL_law_2066 ?_
  refine s_top (y := (xs (i.toInt.toNat + 2))) (congrArg xs (by show z_2.toInt.toNat = _; omega)) ?_
  refine s_vI (As := [AI (xs (i.toInt.toNat + 1)), AI (xs (i.toInt.toNat + 2))]) (S := []) E (Z_X9_move_0 l D aC b w (xs (i.toInt.toNat + 1)) (xs (i.toInt.toNat + 2)) hI) cv_L_261 rfl rfl rfl (jv_lt (jv_rfl hI) (by decide)) (Nat.le_of_ble_eq_true rfl) (Nat.le_of_ble_eq_true rfl) ⟨(Nat.le_of_ble_eq_true rfl), (Nat.le_of_ble_eq_true rfl)⟩ (Nat.le_of_ble_eq_true rfl) dL_law_2067 (fun r_3 u_4 hp_5 => ?_)
  have hI_6 : Iv u_4 := hp_5.2.1
  have hR_7 : RLs u_4 := rl_k hR hp_5.2.2.1
  refine s_popI E dL_law_2070 ?_
  refine s_aload_n E dL_law_2071 rfl rfl ?_
  refine s_xload_n E dL_law_2072 rfl rfl ?_
  refine s_iload_n E dL_law_2073 rfl rfl ?_
  refine s_iconst (v := 1) E dL_law_2074 (by decide) ?_
  refine z_iadd (u := i.toInt) (v := 1) E dL_law_2075 rfl (by decide) (by omega) (by omega) (fun z_8 hz_8 => ?_)
  refine s_sld E hX hb0 hb (z_in (u := z_8.toInt) rfl (by omega) (by omega)) dL_law_2076 ?_
  refine s_top (y := (xs (i.toInt.toNat + 1))) (congrArg xs (by show z_8.toInt.toNat = _; omega)) ?_
  refine s_xload_n E dL_law_2077 rfl rfl ?_
  refine s_iload_n E dL_law_2078 rfl rfl ?_
  refine s_iconst (v := 2) E dL_law_2079 (by decide) ?_
  refine z_iadd (u := i.toInt) (v := 2) E dL_law_2080 rfl (by decide) (by omega) (by omega) (fun z_9 hz_9 => ?_)
  refine s_sld E hX hb0 hb (z_in (u := z_9.toInt) rfl (by omega) (by omega)) dL_law_2081 ?_
  refine s_top (y := (xs (i.toInt.toNat + 2))) (congrArg xs (by show z_9.toInt.toNat = _; omega)) ?_
  refine s_vI (As := [AI (xs (i.toInt.toNat + 1)), AI (xs (i.toInt.toNat + 2))]) (S := []) E (Z_X10_move_95 l D aC b u_4 (xs (i.toInt.toNat + 1)) (xs (i.toInt.toNat + 2)) hI_6) cv_L_264 rfl rfl rfl (jv_lt (jv_rfl hI_6) (by decide)) (Nat.le_of_ble_eq_true rfl) (Nat.le_of_ble_eq_true rfl) ⟨(Nat.le_of_ble_eq_true rfl), (Nat.le_of_ble_eq_true rfl)⟩ (Nat.le_of_ble_eq_true rfl) dL_law_2082 (fun r_10 u_11 hp_12 => ?_)
  have hI_13 : Iv u_11 := hp_12.2.1
  have hR_14 : RLs u_11 := rl_k hR_7 hp_12.2.2.1
  refine s_popI E dL_law_2085 ?_
  refine s_goto (tgt := 2492) E dL_law_2086 (by decide) ?_
  exact kk u_11 hI_13 hR_14
set_option maxRecDepth 20000 in
set_option maxHeartbeats 2000000 in
theorem lawc_61 {p : Program} {e : Env} {s : State} {m : MethodId} {below : List Frame} {meth : Method} {c : Code} (l : Launch) {b0 b n : Nat} {xs : Nat → Int32} {D : va_G} {aC : Nat → ClassId} (E : EE p s m meth c D aC b 4 cL_law RL ret) (hb : b = s.heap.size) (hX : va_X b0 n xs s s.heap) (hb0 : b0 < s.heap.size) (hn : n ≤ 3072) (w : XW) (hI : Iv w) (hR : RLs w) (i : Int32) (hi : 0 ≤ i.toInt ∧ i.toInt + 6 ≤ (n : Int)) (kk : ∀ u : XW, Iv u → RLs u → Wv p l e room_1 s m #[Value.ref b0] below meth c (lw_Z below #[Value.ref b0] s) D aC b 4 2492 [some (AX (b0 + 1)), some (AR 0), some (AR 95), some (AI i)] [] u 116 6683) : Wv p l e room_1 s m #[Value.ref b0] below meth c (lw_Z below #[Value.ref b0] s) D aC b 4 2089 [some (AX (b0 + 1)), some (AR 0), some (AR 95), some (AI i)] [] w 116 6683 := by
  refine s_aload_n E dL_law_2089 rfl rfl ?_
  refine s_vI (As := []) (S := []) E (Z_X9_undo_0 l D aC b w  hI) cv_L_265 rfl rfl rfl (jv_lt (jv_rfl hI) (by decide)) (Nat.le_of_ble_eq_true rfl) (Nat.le_of_ble_eq_true rfl) ⟨(Nat.le_of_ble_eq_true rfl), (Nat.le_of_ble_eq_true rfl)⟩ (Nat.le_of_ble_eq_true rfl) dL_law_2090 (fun r_1 u_2 hp_3 => ?_)
  have hI_4 : Iv u_2 := hp_3.2.1
  have hR_5 : RLs u_2 := rl_k hR hp_3.2.2.1
  refine s_popI E dL_law_2093 ?_
  refine s_aload_n E dL_law_2094 rfl rfl ?_
  refine s_vI (As := []) (S := []) E (Z_X10_undo_95 l D aC b u_2  hI_4) cv_L_268 rfl rfl rfl (jv_lt (jv_rfl hI_4) (by decide)) (Nat.le_of_ble_eq_true rfl) (Nat.le_of_ble_eq_true rfl) ⟨(Nat.le_of_ble_eq_true rfl), (Nat.le_of_ble_eq_true rfl)⟩ (Nat.le_of_ble_eq_true rfl) dL_law_2095 (fun r_6 u_7 hp_8 => ?_)
  have hI_9 : Iv u_7 := hp_8.2.1
  have hR_10 : RLs u_7 := rl_k hR_5 hp_8.2.2.1
  refine s_popI E dL_law_2098 ?_
  refine s_goto (tgt := 2492) E dL_law_2099 (by decide) ?_
  exact kk u_7 hI_9 hR_10
set_option maxRecDepth 20000 in
set_option maxHeartbeats 2000000 in
theorem lawc_62 {p : Program} {e : Env} {s : State} {m : MethodId} {below : List Frame} {meth : Method} {c : Code} (l : Launch) {b0 b n : Nat} {xs : Nat → Int32} {D : va_G} {aC : Nat → ClassId} (E : EE p s m meth c D aC b 4 cL_law RL ret) (hb : b = s.heap.size) (hX : va_X b0 n xs s s.heap) (hb0 : b0 < s.heap.size) (hn : n ≤ 3072) (w : XW) (hI : Iv w) (hR : RLs w) (i : Int32) (hi : 0 ≤ i.toInt ∧ i.toInt + 6 ≤ (n : Int)) (kk : ∀ u : XW, Iv u → RLs u → Wv p l e room_1 s m #[Value.ref b0] below meth c (lw_Z below #[Value.ref b0] s) D aC b 4 2492 [some (AX (b0 + 1)), some (AR 0), some (AR 95), some (AI i)] [] u 116 6683) : Wv p l e room_1 s m #[Value.ref b0] below meth c (lw_Z below #[Value.ref b0] s) D aC b 4 2102 [some (AX (b0 + 1)), some (AR 0), some (AR 95), some (AI i)] [] w 116 6683 := by
  refine s_aload_n E dL_law_2102 rfl rfl ?_
  refine s_vI (As := []) (S := []) E (Z_X9_anew_0 l D aC b w  hI) cv_L_269 rfl rfl rfl (jv_lt (jv_rfl hI) (by decide)) (Nat.le_of_ble_eq_true rfl) (Nat.le_of_ble_eq_true rfl) ⟨(Nat.le_of_ble_eq_true rfl), (Nat.le_of_ble_eq_true rfl)⟩ (Nat.le_of_ble_eq_true rfl) dL_law_2103 (fun r_1 u_2 hp_3 => ?_)
  have hI_4 : Iv u_2 := hp_3.2.1
  have hR_5 : RLs u_2 := rl_k hR hp_3.2.2.1
  refine s_popI E dL_law_2106 ?_
  refine s_aload_n E dL_law_2107 rfl rfl ?_
  refine s_vI (As := []) (S := []) E (Z_X10_anew_95 l D aC b u_2  hI_4) cv_L_272 rfl rfl rfl (jv_lt (jv_rfl hI_4) (by decide)) (Nat.le_of_ble_eq_true rfl) (Nat.le_of_ble_eq_true rfl) ⟨(Nat.le_of_ble_eq_true rfl), (Nat.le_of_ble_eq_true rfl)⟩ (Nat.le_of_ble_eq_true rfl) dL_law_2108 (fun r_6 u_7 hp_8 => ?_)
  have hI_9 : Iv u_7 := hp_8.2.1
  have hR_10 : RLs u_7 := rl_k hR_5 hp_8.2.2.1
  refine s_popI E dL_law_2111 ?_
  refine s_goto (tgt := 2492) E dL_law_2112 (by decide) ?_
  exact kk u_7 hI_9 hR_10
set_option maxRecDepth 20000 in
set_option maxHeartbeats 2000000 in
theorem lawc_63 {p : Program} {e : Env} {s : State} {m : MethodId} {below : List Frame} {meth : Method} {c : Code} (l : Launch) {b0 b n : Nat} {xs : Nat → Int32} {D : va_G} {aC : Nat → ClassId} (E : EE p s m meth c D aC b 4 cL_law RL ret) (hb : b = s.heap.size) (hX : va_X b0 n xs s s.heap) (hb0 : b0 < s.heap.size) (hn : n ≤ 3072) (w : XW) (hI : Iv w) (hR : RLs w) (i : Int32) (hi : 0 ≤ i.toInt ∧ i.toInt + 6 ≤ (n : Int)) (kk : ∀ u : XW, Iv u → RLs u → Wv p l e room_1 s m #[Value.ref b0] below meth c (lw_Z below #[Value.ref b0] s) D aC b 4 2492 [some (AX (b0 + 1)), some (AR 0), some (AR 95), some (AI i)] [] u 116 6683) : Wv p l e room_1 s m #[Value.ref b0] below meth c (lw_Z below #[Value.ref b0] s) D aC b 4 2115 [some (AX (b0 + 1)), some (AR 0), some (AR 95), some (AI i)] [] w 116 6683 := by
  refine s_aload_n E dL_law_2115 rfl rfl ?_
  refine s_xload_n E dL_law_2116 rfl rfl ?_
  refine s_iload_n E dL_law_2117 rfl rfl ?_
  refine s_iconst (v := 1) E dL_law_2118 (by decide) ?_
  refine z_iadd (u := i.toInt) (v := 1) E dL_law_2119 rfl (by decide) (by omega) (by omega) (fun z_1 hz_1 => ?_)
  refine s_sld E hX hb0 hb (z_in (u := z_1.toInt) rfl (by omega) (by omega)) dL_law_2120 ?_
  refine s_top (y := (xs (i.toInt.toNat + 1))) (congrArg xs (by show z_1.toInt.toNat = _; omega)) ?_
  refine s_xload_n E dL_law_2121 rfl rfl ?_
  refine s_iload_n E dL_law_2122 rfl rfl ?_
  refine s_iconst (v := 2) E dL_law_2123 (by decide) ?_
  refine z_iadd (u := i.toInt) (v := 2) E dL_law_2124 rfl (by decide) (by omega) (by omega) (fun z_2 hz_2 => ?_)
  refine s_sld E hX hb0 hb (z_in (u := z_2.toInt) rfl (by omega) (by omega)) dL_law_2125 ?_
  refine s_top (y := (xs (i.toInt.toNat + 2))) (congrArg xs (by show z_2.toInt.toNat = _; omega)) ?_
  refine s_xload_n E dL_law_2126 rfl rfl ?_
  refine s_iload_n E dL_law_2127 rfl rfl ?_
  refine s_iconst (v := 3) E dL_law_2128 (by decide) ?_
  refine z_iadd (u := i.toInt) (v := 3) E dL_law_2129 rfl (by decide) (by omega) (by omega) (fun z_3 hz_3 => ?_)
  refine s_sld E hX hb0 hb (z_in (u := z_3.toInt) rfl (by omega) (by omega)) dL_law_2130 ?_
  refine s_top (y := (xs (i.toInt.toNat + 3))) (congrArg xs (by show z_3.toInt.toNat = _; omega)) ?_
  refine s_vI (As := [AI (xs (i.toInt.toNat + 1)), AI (xs (i.toInt.toNat + 2)), AI (xs (i.toInt.toNat + 3))]) (S := []) E (Z_X9_drawn_0 l D aC b w (xs (i.toInt.toNat + 1)) (xs (i.toInt.toNat + 2)) (xs (i.toInt.toNat + 3)) hI) cv_L_273 rfl rfl rfl (jv_lt (jv_rfl hI) (by decide)) (Nat.le_of_ble_eq_true rfl) (Nat.le_of_ble_eq_true rfl) ⟨(Nat.le_of_ble_eq_true rfl), (Nat.le_of_ble_eq_true rfl)⟩ (Nat.le_of_ble_eq_true rfl) dL_law_2131 (fun r_4 u_5 hp_6 => ?_)
  have hI_7 : Iv u_5 := hp_6.2.1
  have hR_8 : RLs u_5 := rl_k hR hp_6.2.2.1
  refine s_popI E dL_law_2134 ?_
  refine s_aload_n E dL_law_2135 rfl rfl ?_
  refine s_xload_n E dL_law_2136 rfl rfl ?_
  refine s_iload_n E dL_law_2137 rfl rfl ?_
  refine s_iconst (v := 1) E dL_law_2138 (by decide) ?_
  refine z_iadd (u := i.toInt) (v := 1) E dL_law_2139 rfl (by decide) (by omega) (by omega) (fun z_9 hz_9 => ?_)
  refine s_sld E hX hb0 hb (z_in (u := z_9.toInt) rfl (by omega) (by omega)) dL_law_2140 ?_
  refine s_top (y := (xs (i.toInt.toNat + 1))) (congrArg xs (by show z_9.toInt.toNat = _; omega)) ?_
  refine s_xload_n E dL_law_2141 rfl rfl ?_
  refine s_iload_n E dL_law_2142 rfl rfl ?_
  refine s_iconst (v := 2) E dL_law_2143 (by decide) ?_
  refine z_iadd (u := i.toInt) (v := 2) E dL_law_2144 rfl (by decide) (by omega) (by omega) (fun z_10 hz_10 => ?_)
  refine s_sld E hX hb0 hb (z_in (u := z_10.toInt) rfl (by omega) (by omega)) dL_law_2145 ?_
  refine s_top (y := (xs (i.toInt.toNat + 2))) (congrArg xs (by show z_10.toInt.toNat = _; omega)) ?_
  refine s_xload_n E dL_law_2146 rfl rfl ?_
  refine s_iload_n E dL_law_2147 rfl rfl ?_
  refine s_iconst (v := 3) E dL_law_2148 (by decide) ?_
  refine z_iadd (u := i.toInt) (v := 3) E dL_law_2149 rfl (by decide) (by omega) (by omega) (fun z_11 hz_11 => ?_)
  refine s_sld E hX hb0 hb (z_in (u := z_11.toInt) rfl (by omega) (by omega)) dL_law_2150 ?_
  refine s_top (y := (xs (i.toInt.toNat + 3))) (congrArg xs (by show z_11.toInt.toNat = _; omega)) ?_
  refine s_vI (As := [AI (xs (i.toInt.toNat + 1)), AI (xs (i.toInt.toNat + 2)), AI (xs (i.toInt.toNat + 3))]) (S := []) E (Z_X10_drawn_95 l D aC b u_5 (xs (i.toInt.toNat + 1)) (xs (i.toInt.toNat + 2)) (xs (i.toInt.toNat + 3)) hI_7) cv_L_276 rfl rfl rfl (jv_lt (jv_rfl hI_7) (by decide)) (Nat.le_of_ble_eq_true rfl) (Nat.le_of_ble_eq_true rfl) ⟨(Nat.le_of_ble_eq_true rfl), (Nat.le_of_ble_eq_true rfl)⟩ (Nat.le_of_ble_eq_true rfl) dL_law_2151 (fun r_12 u_13 hp_14 => ?_)
  have hI_15 : Iv u_13 := hp_14.2.1
  have hR_16 : RLs u_13 := rl_k hR_8 hp_14.2.2.1
  refine s_popI E dL_law_2154 ?_
  refine s_goto (tgt := 2492) E dL_law_2155 (by decide) ?_
  exact kk u_13 hI_15 hR_16
set_option maxRecDepth 20000 in
set_option maxHeartbeats 2000000 in
theorem lawc_64 {p : Program} {e : Env} {s : State} {m : MethodId} {below : List Frame} {meth : Method} {c : Code} (l : Launch) {b0 b n : Nat} {xs : Nat → Int32} {D : va_G} {aC : Nat → ClassId} (E : EE p s m meth c D aC b 4 cL_law RL ret) (hb : b = s.heap.size) (hX : va_X b0 n xs s s.heap) (hb0 : b0 < s.heap.size) (hn : n ≤ 3072) (w : XW) (hI : Iv w) (hR : RLs w) (i : Int32) (hi : 0 ≤ i.toInt ∧ i.toInt + 6 ≤ (n : Int)) (kk : ∀ u : XW, Iv u → RLs u → Wv p l e room_1 s m #[Value.ref b0] below meth c (lw_Z below #[Value.ref b0] s) D aC b 4 2492 [some (AX (b0 + 1)), some (AR 0), some (AR 95), some (AI i)] [] u 116 6683) : Wv p l e room_1 s m #[Value.ref b0] below meth c (lw_Z below #[Value.ref b0] s) D aC b 4 2158 [some (AX (b0 + 1)), some (AR 0), some (AR 95), some (AI i)] [] w 116 6683 := by
  refine s_aload_n E dL_law_2158 rfl rfl ?_
  refine s_xload_n E dL_law_2159 rfl rfl ?_
  refine s_iload_n E dL_law_2160 rfl rfl ?_
  refine s_iconst (v := 1) E dL_law_2161 (by decide) ?_
  refine z_iadd (u := i.toInt) (v := 1) E dL_law_2162 rfl (by decide) (by omega) (by omega) (fun z_1 hz_1 => ?_)
  refine s_sld E hX hb0 hb (z_in (u := z_1.toInt) rfl (by omega) (by omega)) dL_law_2163 ?_
  refine s_top (y := (xs (i.toInt.toNat + 1))) (congrArg xs (by show z_1.toInt.toNat = _; omega)) ?_
  refine s_xload_n E dL_law_2164 rfl rfl ?_
  refine s_iload_n E dL_law_2165 rfl rfl ?_
  refine s_iconst (v := 2) E dL_law_2166 (by decide) ?_
  refine z_iadd (u := i.toInt) (v := 2) E dL_law_2167 rfl (by decide) (by omega) (by omega) (fun z_2 hz_2 => ?_)
  refine s_sld E hX hb0 hb (z_in (u := z_2.toInt) rfl (by omega) (by omega)) dL_law_2168 ?_
  refine s_top (y := (xs (i.toInt.toNat + 2))) (congrArg xs (by show z_2.toInt.toNat = _; omega)) ?_
  refine s_xload_n E dL_law_2169 rfl rfl ?_
  refine s_iload_n E dL_law_2170 rfl rfl ?_
  refine s_iconst (v := 3) E dL_law_2171 (by decide) ?_
  refine z_iadd (u := i.toInt) (v := 3) E dL_law_2172 rfl (by decide) (by omega) (by omega) (fun z_3 hz_3 => ?_)
  refine s_sld E hX hb0 hb (z_in (u := z_3.toInt) rfl (by omega) (by omega)) dL_law_2173 ?_
  refine s_top (y := (xs (i.toInt.toNat + 3))) (congrArg xs (by show z_3.toInt.toNat = _; omega)) ?_
  refine s_xload_n E dL_law_2174 rfl rfl ?_
  refine s_iload_n E dL_law_2175 rfl rfl ?_
  refine s_iconst (v := 4) E dL_law_2176 (by decide) ?_
  refine z_iadd (u := i.toInt) (v := 4) E dL_law_2177 rfl (by decide) (by omega) (by omega) (fun z_4 hz_4 => ?_)
  refine s_sld E hX hb0 hb (z_in (u := z_4.toInt) rfl (by omega) (by omega)) dL_law_2178 ?_
  refine s_top (y := (xs (i.toInt.toNat + 4))) (congrArg xs (by show z_4.toInt.toNat = _; omega)) ?_
  refine s_vI (As := [AI (xs (i.toInt.toNat + 1)), AI (xs (i.toInt.toNat + 2)), AI (xs (i.toInt.toNat + 3)), AI (xs (i.toInt.toNat + 4))]) (S := []) E (Z_X9_luck_0 l D aC b w (xs (i.toInt.toNat + 1)) (xs (i.toInt.toNat + 2)) (xs (i.toInt.toNat + 3)) (xs (i.toInt.toNat + 4)) hI) cv_L_277 rfl rfl rfl (jv_lt (jv_rfl hI) (by decide)) (Nat.le_of_ble_eq_true rfl) (Nat.le_of_ble_eq_true rfl) ⟨(Nat.le_of_ble_eq_true rfl), (Nat.le_of_ble_eq_true rfl)⟩ (Nat.le_of_ble_eq_true rfl) dL_law_2179 (fun r_5 u_6 hp_7 => ?_)
  have hI_8 : Iv u_6 := hp_7.2.1
  have hR_9 : RLs u_6 := rl_k hR hp_7.2.2.1
  refine s_popI E dL_law_2182 ?_
  refine s_aload_n E dL_law_2183 rfl rfl ?_
  refine s_xload_n E dL_law_2184 rfl rfl ?_
  refine s_iload_n E dL_law_2185 rfl rfl ?_
  refine s_iconst (v := 1) E dL_law_2186 (by decide) ?_
  refine z_iadd (u := i.toInt) (v := 1) E dL_law_2187 rfl (by decide) (by omega) (by omega) (fun z_10 hz_10 => ?_)
  refine s_sld E hX hb0 hb (z_in (u := z_10.toInt) rfl (by omega) (by omega)) dL_law_2188 ?_
  refine s_top (y := (xs (i.toInt.toNat + 1))) (congrArg xs (by show z_10.toInt.toNat = _; omega)) ?_
  refine s_xload_n E dL_law_2189 rfl rfl ?_
  refine s_iload_n E dL_law_2190 rfl rfl ?_
  refine s_iconst (v := 2) E dL_law_2191 (by decide) ?_
  refine z_iadd (u := i.toInt) (v := 2) E dL_law_2192 rfl (by decide) (by omega) (by omega) (fun z_11 hz_11 => ?_)
  refine s_sld E hX hb0 hb (z_in (u := z_11.toInt) rfl (by omega) (by omega)) dL_law_2193 ?_
  refine s_top (y := (xs (i.toInt.toNat + 2))) (congrArg xs (by show z_11.toInt.toNat = _; omega)) ?_
  refine s_xload_n E dL_law_2194 rfl rfl ?_
  refine s_iload_n E dL_law_2195 rfl rfl ?_
  refine s_iconst (v := 3) E dL_law_2196 (by decide) ?_
  refine z_iadd (u := i.toInt) (v := 3) E dL_law_2197 rfl (by decide) (by omega) (by omega) (fun z_12 hz_12 => ?_)
  refine s_sld E hX hb0 hb (z_in (u := z_12.toInt) rfl (by omega) (by omega)) dL_law_2198 ?_
  refine s_top (y := (xs (i.toInt.toNat + 3))) (congrArg xs (by show z_12.toInt.toNat = _; omega)) ?_
  refine s_xload_n E dL_law_2199 rfl rfl ?_
  refine s_iload_n E dL_law_2200 rfl rfl ?_
  refine s_iconst (v := 4) E dL_law_2201 (by decide) ?_
  refine z_iadd (u := i.toInt) (v := 4) E dL_law_2202 rfl (by decide) (by omega) (by omega) (fun z_13 hz_13 => ?_)
  refine s_sld E hX hb0 hb (z_in (u := z_13.toInt) rfl (by omega) (by omega)) dL_law_2203 ?_
  refine s_top (y := (xs (i.toInt.toNat + 4))) (congrArg xs (by show z_13.toInt.toNat = _; omega)) ?_
  refine s_vI (As := [AI (xs (i.toInt.toNat + 1)), AI (xs (i.toInt.toNat + 2)), AI (xs (i.toInt.toNat + 3)), AI (xs (i.toInt.toNat + 4))]) (S := []) E (Z_X10_luck_95 l D aC b u_6 (xs (i.toInt.toNat + 1)) (xs (i.toInt.toNat + 2)) (xs (i.toInt.toNat + 3)) (xs (i.toInt.toNat + 4)) hI_8) cv_L_280 rfl rfl rfl (jv_lt (jv_rfl hI_8) (by decide)) (Nat.le_of_ble_eq_true rfl) (Nat.le_of_ble_eq_true rfl) ⟨(Nat.le_of_ble_eq_true rfl), (Nat.le_of_ble_eq_true rfl)⟩ (Nat.le_of_ble_eq_true rfl) dL_law_2204 (fun r_14 u_15 hp_16 => ?_)
  have hI_17 : Iv u_15 := hp_16.2.1
  have hR_18 : RLs u_15 := rl_k hR_9 hp_16.2.2.1
  refine s_popI E dL_law_2207 ?_
  refine s_goto (tgt := 2492) E dL_law_2208 (by decide) ?_
  exact kk u_15 hI_17 hR_18
set_option maxRecDepth 20000 in
set_option maxHeartbeats 2000000 in
theorem lawc_65 {p : Program} {e : Env} {s : State} {m : MethodId} {below : List Frame} {meth : Method} {c : Code} (l : Launch) {b0 b n : Nat} {xs : Nat → Int32} {D : va_G} {aC : Nat → ClassId} (E : EE p s m meth c D aC b 4 cL_law RL ret) (hb : b = s.heap.size) (hX : va_X b0 n xs s s.heap) (hb0 : b0 < s.heap.size) (hn : n ≤ 3072) (w : XW) (hI : Iv w) (hR : RLs w) (i : Int32) (hi : 0 ≤ i.toInt ∧ i.toInt + 6 ≤ (n : Int)) (kk : ∀ u : XW, Iv u → RLs u → Wv p l e room_1 s m #[Value.ref b0] below meth c (lw_Z below #[Value.ref b0] s) D aC b 4 2492 [some (AX (b0 + 1)), some (AR 0), some (AR 95), some (AI i)] [] u 116 6683) : Wv p l e room_1 s m #[Value.ref b0] below meth c (lw_Z below #[Value.ref b0] s) D aC b 4 2211 [some (AX (b0 + 1)), some (AR 0), some (AR 95), some (AI i)] [] w 116 6683 := by
  refine s_aload_n E dL_law_2211 rfl rfl ?_
  refine s_xload_n E dL_law_2212 rfl rfl ?_
  refine s_iload_n E dL_law_2213 rfl rfl ?_
  refine s_iconst (v := 1) E dL_law_2214 (by decide) ?_
  refine z_iadd (u := i.toInt) (v := 1) E dL_law_2215 rfl (by decide) (by omega) (by omega) (fun z_1 hz_1 => ?_)
  refine s_sld E hX hb0 hb (z_in (u := z_1.toInt) rfl (by omega) (by omega)) dL_law_2216 ?_
  refine s_top (y := (xs (i.toInt.toNat + 1))) (congrArg xs (by show z_1.toInt.toNat = _; omega)) ?_
  refine s_xload_n E dL_law_2217 rfl rfl ?_
  refine s_iload_n E dL_law_2218 rfl rfl ?_
  refine s_iconst (v := 2) E dL_law_2219 (by decide) ?_
  refine z_iadd (u := i.toInt) (v := 2) E dL_law_2220 rfl (by decide) (by omega) (by omega) (fun z_2 hz_2 => ?_)
  refine s_sld E hX hb0 hb (z_in (u := z_2.toInt) rfl (by omega) (by omega)) dL_law_2221 ?_
  refine s_top (y := (xs (i.toInt.toNat + 2))) (congrArg xs (by show z_2.toInt.toNat = _; omega)) ?_
  refine s_vI (As := [AI (xs (i.toInt.toNat + 1)), AI (xs (i.toInt.toNat + 2))]) (S := []) E (Z_X9_hang_0 l D aC b w (xs (i.toInt.toNat + 1)) (xs (i.toInt.toNat + 2)) hI) cv_L_281 rfl rfl rfl (jv_lt (jv_rfl hI) (by decide)) (Nat.le_of_ble_eq_true rfl) (Nat.le_of_ble_eq_true rfl) ⟨(Nat.le_of_ble_eq_true rfl), (Nat.le_of_ble_eq_true rfl)⟩ (Nat.le_of_ble_eq_true rfl) dL_law_2222 (fun r_3 u_4 hp_5 => ?_)
  have hI_6 : Iv u_4 := hp_5.2.1
  have hR_7 : RLs u_4 := rl_k hR hp_5.2.2.1
  refine s_popI E dL_law_2225 ?_
  refine s_aload_n E dL_law_2226 rfl rfl ?_
  refine s_xload_n E dL_law_2227 rfl rfl ?_
  refine s_iload_n E dL_law_2228 rfl rfl ?_
  refine s_iconst (v := 1) E dL_law_2229 (by decide) ?_
  refine z_iadd (u := i.toInt) (v := 1) E dL_law_2230 rfl (by decide) (by omega) (by omega) (fun z_8 hz_8 => ?_)
  refine s_sld E hX hb0 hb (z_in (u := z_8.toInt) rfl (by omega) (by omega)) dL_law_2231 ?_
  refine s_top (y := (xs (i.toInt.toNat + 1))) (congrArg xs (by show z_8.toInt.toNat = _; omega)) ?_
  refine s_xload_n E dL_law_2232 rfl rfl ?_
  refine s_iload_n E dL_law_2233 rfl rfl ?_
  refine s_iconst (v := 2) E dL_law_2234 (by decide) ?_
  refine z_iadd (u := i.toInt) (v := 2) E dL_law_2235 rfl (by decide) (by omega) (by omega) (fun z_9 hz_9 => ?_)
  refine s_sld E hX hb0 hb (z_in (u := z_9.toInt) rfl (by omega) (by omega)) dL_law_2236 ?_
  refine s_top (y := (xs (i.toInt.toNat + 2))) (congrArg xs (by show z_9.toInt.toNat = _; omega)) ?_
  refine s_vI (As := [AI (xs (i.toInt.toNat + 1)), AI (xs (i.toInt.toNat + 2))]) (S := []) E (Z_X10_hang_95 l D aC b u_4 (xs (i.toInt.toNat + 1)) (xs (i.toInt.toNat + 2)) hI_6) cv_L_284 rfl rfl rfl (jv_lt (jv_rfl hI_6) (by decide)) (Nat.le_of_ble_eq_true rfl) (Nat.le_of_ble_eq_true rfl) ⟨(Nat.le_of_ble_eq_true rfl), (Nat.le_of_ble_eq_true rfl)⟩ (Nat.le_of_ble_eq_true rfl) dL_law_2237 (fun r_10 u_11 hp_12 => ?_)
  have hI_13 : Iv u_11 := hp_12.2.1
  have hR_14 : RLs u_11 := rl_k hR_7 hp_12.2.2.1
  refine s_popI E dL_law_2240 ?_
  refine s_goto (tgt := 2492) E dL_law_2241 (by decide) ?_
  exact kk u_11 hI_13 hR_14
set_option maxRecDepth 20000 in
set_option maxHeartbeats 2000000 in
theorem lawc_66 {p : Program} {e : Env} {s : State} {m : MethodId} {below : List Frame} {meth : Method} {c : Code} (l : Launch) {b0 b n : Nat} {xs : Nat → Int32} {D : va_G} {aC : Nat → ClassId} (E : EE p s m meth c D aC b 4 cL_law RL ret) (hb : b = s.heap.size) (hX : va_X b0 n xs s s.heap) (hb0 : b0 < s.heap.size) (hn : n ≤ 3072) (w : XW) (hI : Iv w) (hR : RLs w) (i : Int32) (hi : 0 ≤ i.toInt ∧ i.toInt + 6 ≤ (n : Int)) (kk : ∀ u : XW, Iv u → RLs u → Wv p l e room_1 s m #[Value.ref b0] below meth c (lw_Z below #[Value.ref b0] s) D aC b 4 2492 [some (AX (b0 + 1)), some (AR 0), some (AR 95), some (AI i)] [] u 116 6683) : Wv p l e room_1 s m #[Value.ref b0] below meth c (lw_Z below #[Value.ref b0] s) D aC b 4 2244 [some (AX (b0 + 1)), some (AR 0), some (AR 95), some (AI i)] [] w 116 6683 := by
  refine s_aload_n E dL_law_2244 rfl rfl ?_
  refine s_xload_n E dL_law_2245 rfl rfl ?_
  refine s_iload_n E dL_law_2246 rfl rfl ?_
  refine s_iconst (v := 1) E dL_law_2247 (by decide) ?_
  refine z_iadd (u := i.toInt) (v := 1) E dL_law_2248 rfl (by decide) (by omega) (by omega) (fun z_1 hz_1 => ?_)
  refine s_sld E hX hb0 hb (z_in (u := z_1.toInt) rfl (by omega) (by omega)) dL_law_2249 ?_
  refine s_top (y := (xs (i.toInt.toNat + 1))) (congrArg xs (by show z_1.toInt.toNat = _; omega)) ?_
  refine s_vI (As := [AI (xs (i.toInt.toNat + 1))]) (S := []) E (Z_X9_count_0 l D aC b w (xs (i.toInt.toNat + 1)) hI) cv_L_285 rfl rfl rfl (jv_lt (jv_rfl hI) (by decide)) (Nat.le_of_ble_eq_true rfl) (Nat.le_of_ble_eq_true rfl) ⟨(Nat.le_of_ble_eq_true rfl), (Nat.le_of_ble_eq_true rfl)⟩ (Nat.le_of_ble_eq_true rfl) dL_law_2250 (fun r_2 u_3 hp_4 => ?_)
  have hI_5 : Iv u_3 := by rw [← hp_4.2]; exact hI
  have hR_6 : RLs u_3 := rl_k hR (fun c_ _ => by rw [hp_4.2])
  refine s_popI E dL_law_2253 ?_
  refine s_aload_n E dL_law_2254 rfl rfl ?_
  refine s_xload_n E dL_law_2255 rfl rfl ?_
  refine s_iload_n E dL_law_2256 rfl rfl ?_
  refine s_iconst (v := 1) E dL_law_2257 (by decide) ?_
  refine z_iadd (u := i.toInt) (v := 1) E dL_law_2258 rfl (by decide) (by omega) (by omega) (fun z_7 hz_7 => ?_)
  refine s_sld E hX hb0 hb (z_in (u := z_7.toInt) rfl (by omega) (by omega)) dL_law_2259 ?_
  refine s_top (y := (xs (i.toInt.toNat + 1))) (congrArg xs (by show z_7.toInt.toNat = _; omega)) ?_
  refine s_vI (As := [AI (xs (i.toInt.toNat + 1))]) (S := []) E (Z_X10_count_95 l D aC b u_3 (xs (i.toInt.toNat + 1)) hI_5) cv_L_288 rfl rfl rfl (jv_lt (jv_rfl hI_5) (by decide)) (Nat.le_of_ble_eq_true rfl) (Nat.le_of_ble_eq_true rfl) ⟨(Nat.le_of_ble_eq_true rfl), (Nat.le_of_ble_eq_true rfl)⟩ (Nat.le_of_ble_eq_true rfl) dL_law_2260 (fun r_8 u_9 hp_10 => ?_)
  have hI_11 : Iv u_9 := by rw [← hp_10.2]; exact hI_5
  have hR_12 : RLs u_9 := rl_k hR_6 (fun c_ _ => by rw [hp_10.2])
  refine s_popI E dL_law_2263 ?_
  refine s_goto (tgt := 2492) E dL_law_2264 (by decide) ?_
  exact kk u_9 hI_11 hR_12
set_option maxRecDepth 20000 in
set_option maxHeartbeats 2000000 in
theorem lawc_67 {p : Program} {e : Env} {s : State} {m : MethodId} {below : List Frame} {meth : Method} {c : Code} (l : Launch) {b0 b n : Nat} {xs : Nat → Int32} {D : va_G} {aC : Nat → ClassId} (E : EE p s m meth c D aC b 4 cL_law RL ret) (hb : b = s.heap.size) (hX : va_X b0 n xs s s.heap) (hb0 : b0 < s.heap.size) (hn : n ≤ 3072) (w : XW) (hI : Iv w) (hR : RLs w) (i : Int32) (hi : 0 ≤ i.toInt ∧ i.toInt + 6 ≤ (n : Int)) (kk : ∀ u : XW, Iv u → RLs u → Wv p l e room_1 s m #[Value.ref b0] below meth c (lw_Z below #[Value.ref b0] s) D aC b 4 2492 [some (AX (b0 + 1)), some (AR 0), some (AR 95), some (AI i)] [] u 116 6683) : Wv p l e room_1 s m #[Value.ref b0] below meth c (lw_Z below #[Value.ref b0] s) D aC b 4 2267 [some (AX (b0 + 1)), some (AR 0), some (AR 95), some (AI i)] [] w 116 6683 := by
  refine s_aload_n E dL_law_2267 rfl rfl ?_
  refine s_xload_n E dL_law_2268 rfl rfl ?_
  refine s_iload_n E dL_law_2269 rfl rfl ?_
  refine s_iconst (v := 1) E dL_law_2270 (by decide) ?_
  refine z_iadd (u := i.toInt) (v := 1) E dL_law_2271 rfl (by decide) (by omega) (by omega) (fun z_1 hz_1 => ?_)
  refine s_sld E hX hb0 hb (z_in (u := z_1.toInt) rfl (by omega) (by omega)) dL_law_2272 ?_
  refine s_top (y := (xs (i.toInt.toNat + 1))) (congrArg xs (by show z_1.toInt.toNat = _; omega)) ?_
  refine s_vI (As := [AI (xs (i.toInt.toNat + 1))]) (S := []) E (Z_X9_image_0 l D aC b w (xs (i.toInt.toNat + 1)) hI) cv_L_289 rfl rfl rfl (jv_lt (jv_rfl hI) (by decide)) (Nat.le_of_ble_eq_true rfl) (Nat.le_of_ble_eq_true rfl) ⟨(Nat.le_of_ble_eq_true rfl), (Nat.le_of_ble_eq_true rfl)⟩ (Nat.le_of_ble_eq_true rfl) dL_law_2273 (fun r_2 u_3 hp_4 => ?_)
  have hI_5 : Iv u_3 := by rcases hp_4 with ⟨_, _, rfl⟩ | ⟨_, _, h_⟩; exact hI; exact h_.1
  have hrr_2 : (r_2.toInt = -2 ∧ ¬ (0 ≤ (xs (i.toInt.toNat + 1)).toInt ∧ (xs (i.toInt.toNat + 1)).toInt ≤ 2)) ∨ (r_2.toInt = 0 ∧ 0 ≤ (xs (i.toInt.toNat + 1)).toInt ∧ (xs (i.toInt.toNat + 1)).toInt ≤ 2) := by rcases hp_4 with ⟨h1_, h2_, _⟩ | ⟨h1_, h2_, _⟩; exact Or.inl ⟨h1_, h2_⟩; exact Or.inr ⟨h1_, h2_⟩
  refine s_popI E dL_law_2276 ?_
  refine s_aload_n E dL_law_2277 rfl rfl ?_
  refine s_xload_n E dL_law_2278 rfl rfl ?_
  refine s_iload_n E dL_law_2279 rfl rfl ?_
  refine s_iconst (v := 1) E dL_law_2280 (by decide) ?_
  refine z_iadd (u := i.toInt) (v := 1) E dL_law_2281 rfl (by decide) (by omega) (by omega) (fun z_6 hz_6 => ?_)
  refine s_sld E hX hb0 hb (z_in (u := z_6.toInt) rfl (by omega) (by omega)) dL_law_2282 ?_
  refine s_top (y := (xs (i.toInt.toNat + 1))) (congrArg xs (by show z_6.toInt.toNat = _; omega)) ?_
  refine s_vI (As := [AI (xs (i.toInt.toNat + 1))]) (S := []) E (Z_X10_image_95 l D aC b u_3 (xs (i.toInt.toNat + 1)) hI_5) cv_L_292 rfl rfl rfl (jv_lt (jv_rfl hI_5) (by decide)) (Nat.le_of_ble_eq_true rfl) (Nat.le_of_ble_eq_true rfl) ⟨(Nat.le_of_ble_eq_true rfl), (Nat.le_of_ble_eq_true rfl)⟩ (Nat.le_of_ble_eq_true rfl) dL_law_2283 (fun r_7 u_8 hp_9 => ?_)
  have hI_10 : Iv u_8 := by rcases hp_9 with ⟨_, _, rfl⟩ | ⟨_, _, h_⟩; exact hI_5; exact h_.1
  have hrr_7 : (r_7.toInt = -2 ∧ ¬ (0 ≤ (xs (i.toInt.toNat + 1)).toInt ∧ (xs (i.toInt.toNat + 1)).toInt ≤ 2)) ∨ (r_7.toInt = 0 ∧ 0 ≤ (xs (i.toInt.toNat + 1)).toInt ∧ (xs (i.toInt.toNat + 1)).toInt ≤ 2) := by rcases hp_9 with ⟨h1_, h2_, _⟩ | ⟨h1_, h2_, _⟩; exact Or.inl ⟨h1_, h2_⟩; exact Or.inr ⟨h1_, h2_⟩
  have hR_11 : RLs u_8 := rl_img hR hp_4 hp_9
  refine s_popI E dL_law_2286 ?_
  refine s_goto (tgt := 2492) E dL_law_2287 (by decide) ?_
  exact kk u_8 hI_10 hR_11
set_option maxRecDepth 20000 in
set_option maxHeartbeats 2000000 in
theorem lawc_68 {p : Program} {e : Env} {s : State} {m : MethodId} {below : List Frame} {meth : Method} {c : Code} (l : Launch) {b0 b n : Nat} {xs : Nat → Int32} {D : va_G} {aC : Nat → ClassId} (E : EE p s m meth c D aC b 4 cL_law RL ret) (hb : b = s.heap.size) (hX : va_X b0 n xs s s.heap) (hb0 : b0 < s.heap.size) (hn : n ≤ 3072) (w : XW) (hI : Iv w) (hR : RLs w) (i : Int32) (hi : 0 ≤ i.toInt ∧ i.toInt + 6 ≤ (n : Int)) (kk : ∀ u : XW, Iv u → RLs u → Wv p l e room_1 s m #[Value.ref b0] below meth c (lw_Z below #[Value.ref b0] s) D aC b 4 2492 [some (AX (b0 + 1)), some (AR 0), some (AR 95), some (AI i)] [] u 116 6683) : Wv p l e room_1 s m #[Value.ref b0] below meth c (lw_Z below #[Value.ref b0] s) D aC b 4 2290 [some (AX (b0 + 1)), some (AR 0), some (AR 95), some (AI i)] [] w 116 6683 := by
  refine s_aload_n E dL_law_2290 rfl rfl ?_
  refine s_xload_n E dL_law_2291 rfl rfl ?_
  refine s_iload_n E dL_law_2292 rfl rfl ?_
  refine s_iconst (v := 1) E dL_law_2293 (by decide) ?_
  refine z_iadd (u := i.toInt) (v := 1) E dL_law_2294 rfl (by decide) (by omega) (by omega) (fun z_1 hz_1 => ?_)
  refine s_sld E hX hb0 hb (z_in (u := z_1.toInt) rfl (by omega) (by omega)) dL_law_2295 ?_
  refine s_top (y := (xs (i.toInt.toNat + 1))) (congrArg xs (by show z_1.toInt.toNat = _; omega)) ?_
  refine s_vI (As := [AI (xs (i.toInt.toNat + 1))]) (S := []) E (Z_X9_back_0 l D aC b w (xs (i.toInt.toNat + 1)) hI) cv_L_293 rfl rfl rfl (jv_lt (jv_rfl hI) (by decide)) (Nat.le_of_ble_eq_true rfl) (Nat.le_of_ble_eq_true rfl) ⟨(Nat.le_of_ble_eq_true rfl), (Nat.le_of_ble_eq_true rfl)⟩ (Nat.le_of_ble_eq_true rfl) dL_law_2296 (fun r_2 u_3 hp_4 => ?_)
  have hI_5 : Iv u_3 := hp_4.2.2.1
  have hR_6 : RLs u_3 := rl_k hR hp_4.2.2.2.1
  refine s_popI E dL_law_2299 ?_
  refine s_aload_n E dL_law_2300 rfl rfl ?_
  refine s_xload_n E dL_law_2301 rfl rfl ?_
  refine s_iload_n E dL_law_2302 rfl rfl ?_
  refine s_iconst (v := 1) E dL_law_2303 (by decide) ?_
  refine z_iadd (u := i.toInt) (v := 1) E dL_law_2304 rfl (by decide) (by omega) (by omega) (fun z_7 hz_7 => ?_)
  refine s_sld E hX hb0 hb (z_in (u := z_7.toInt) rfl (by omega) (by omega)) dL_law_2305 ?_
  refine s_top (y := (xs (i.toInt.toNat + 1))) (congrArg xs (by show z_7.toInt.toNat = _; omega)) ?_
  refine s_vI (As := [AI (xs (i.toInt.toNat + 1))]) (S := []) E (Z_X10_back_95 l D aC b u_3 (xs (i.toInt.toNat + 1)) hI_5) cv_L_296 rfl rfl rfl (jv_lt (jv_rfl hI_5) (by decide)) (Nat.le_of_ble_eq_true rfl) (Nat.le_of_ble_eq_true rfl) ⟨(Nat.le_of_ble_eq_true rfl), (Nat.le_of_ble_eq_true rfl)⟩ (Nat.le_of_ble_eq_true rfl) dL_law_2306 (fun r_8 u_9 hp_10 => ?_)
  have hI_11 : Iv u_9 := hp_10.2.2.1
  have hR_12 : RLs u_9 := rl_k hR_6 hp_10.2.2.2.1
  refine s_popI E dL_law_2309 ?_
  refine s_goto (tgt := 2492) E dL_law_2310 (by decide) ?_
  exact kk u_9 hI_11 hR_12
set_option maxRecDepth 20000 in
set_option maxHeartbeats 2000000 in
theorem lawc_69 {p : Program} {e : Env} {s : State} {m : MethodId} {below : List Frame} {meth : Method} {c : Code} (l : Launch) {b0 b n : Nat} {xs : Nat → Int32} {D : va_G} {aC : Nat → ClassId} (E : EE p s m meth c D aC b 4 cL_law RL ret) (hb : b = s.heap.size) (hX : va_X b0 n xs s s.heap) (hb0 : b0 < s.heap.size) (hn : n ≤ 3072) (w : XW) (hI : Iv w) (hR : RLs w) (i : Int32) (hi : 0 ≤ i.toInt ∧ i.toInt + 6 ≤ (n : Int)) (kk : ∀ u : XW, Iv u → RLs u → Wv p l e room_1 s m #[Value.ref b0] below meth c (lw_Z below #[Value.ref b0] s) D aC b 4 2492 [some (AX (b0 + 1)), some (AR 0), some (AR 95), some (AI i)] [] u 116 6683) : Wv p l e room_1 s m #[Value.ref b0] below meth c (lw_Z below #[Value.ref b0] s) D aC b 4 2313 [some (AX (b0 + 1)), some (AR 0), some (AR 95), some (AI i)] [] w 116 6683 := by
  refine s_aload_n E dL_law_2313 rfl rfl ?_
  refine s_xload_n E dL_law_2314 rfl rfl ?_
  refine s_iload_n E dL_law_2315 rfl rfl ?_
  refine s_iconst (v := 1) E dL_law_2316 (by decide) ?_
  refine z_iadd (u := i.toInt) (v := 1) E dL_law_2317 rfl (by decide) (by omega) (by omega) (fun z_1 hz_1 => ?_)
  refine s_sld E hX hb0 hb (z_in (u := z_1.toInt) rfl (by omega) (by omega)) dL_law_2318 ?_
  refine s_top (y := (xs (i.toInt.toNat + 1))) (congrArg xs (by show z_1.toInt.toNat = _; omega)) ?_
  refine s_xload_n E dL_law_2319 rfl rfl ?_
  refine s_iload_n E dL_law_2320 rfl rfl ?_
  refine s_iconst (v := 2) E dL_law_2321 (by decide) ?_
  refine z_iadd (u := i.toInt) (v := 2) E dL_law_2322 rfl (by decide) (by omega) (by omega) (fun z_2 hz_2 => ?_)
  refine s_sld E hX hb0 hb (z_in (u := z_2.toInt) rfl (by omega) (by omega)) dL_law_2323 ?_
  refine s_top (y := (xs (i.toInt.toNat + 2))) (congrArg xs (by show z_2.toInt.toNat = _; omega)) ?_
  refine s_xload_n E dL_law_2324 rfl rfl ?_
  refine s_iload_n E dL_law_2325 rfl rfl ?_
  refine s_iconst (v := 3) E dL_law_2326 (by decide) ?_
  refine z_iadd (u := i.toInt) (v := 3) E dL_law_2327 rfl (by decide) (by omega) (by omega) (fun z_3 hz_3 => ?_)
  refine s_sld E hX hb0 hb (z_in (u := z_3.toInt) rfl (by omega) (by omega)) dL_law_2328 ?_
  refine s_top (y := (xs (i.toInt.toNat + 3))) (congrArg xs (by show z_3.toInt.toNat = _; omega)) ?_
  refine s_vI (As := [AI (xs (i.toInt.toNat + 1)), AI (xs (i.toInt.toNat + 2)), AI (xs (i.toInt.toNat + 3))]) (S := []) E (Z_X9_row_0 l D aC b w (xs (i.toInt.toNat + 1)) (xs (i.toInt.toNat + 2)) (xs (i.toInt.toNat + 3)) hI) cv_L_297 rfl rfl rfl (jv_lt (jv_rfl hI) (by decide)) (Nat.le_of_ble_eq_true rfl) (Nat.le_of_ble_eq_true rfl) ⟨(Nat.le_of_ble_eq_true rfl), (Nat.le_of_ble_eq_true rfl)⟩ (Nat.le_of_ble_eq_true rfl) dL_law_2329 (fun r_4 u_5 hp_6 => ?_)
  have hI_7 : Iv u_5 := by rcases hp_6 with ⟨_, _, rfl⟩ | ⟨_, _, _, rfl⟩ | ⟨_, _, _, h_⟩; exact hI; exact hI; exact h_.1
  have hrr_4 : (r_4.toInt = -2 ∧ ¬ rwC (xs (i.toInt.toNat + 1)) (xs (i.toInt.toNat + 2)) (xs (i.toInt.toNat + 3))) ∨ (r_4.toInt = -3 ∧ rwC (xs (i.toInt.toNat + 1)) (xs (i.toInt.toNat + 2)) (xs (i.toInt.toNat + 3)) ∧ (xs (i.toInt.toNat + 3)).toInt < 0) ∨ (r_4.toInt = 0 ∧ rwC (xs (i.toInt.toNat + 1)) (xs (i.toInt.toNat + 2)) (xs (i.toInt.toNat + 3)) ∧ 0 ≤ (xs (i.toInt.toNat + 3)).toInt) := by rcases hp_6 with ⟨h1_, h2_, _⟩ | ⟨h1_, h2_, h3_, _⟩ | ⟨h1_, h2_, h3_, _⟩; exact Or.inl ⟨h1_, h2_⟩; exact Or.inr (Or.inl ⟨h1_, h2_, h3_⟩); exact Or.inr (Or.inr ⟨h1_, h2_, h3_⟩)
  unfold rwC at hrr_4
  refine s_popI E dL_law_2332 ?_
  refine s_aload_n E dL_law_2333 rfl rfl ?_
  refine s_xload_n E dL_law_2334 rfl rfl ?_
  refine s_iload_n E dL_law_2335 rfl rfl ?_
  refine s_iconst (v := 1) E dL_law_2336 (by decide) ?_
  refine z_iadd (u := i.toInt) (v := 1) E dL_law_2337 rfl (by decide) (by omega) (by omega) (fun z_8 hz_8 => ?_)
  refine s_sld E hX hb0 hb (z_in (u := z_8.toInt) rfl (by omega) (by omega)) dL_law_2338 ?_
  refine s_top (y := (xs (i.toInt.toNat + 1))) (congrArg xs (by show z_8.toInt.toNat = _; omega)) ?_
  refine s_xload_n E dL_law_2339 rfl rfl ?_
  refine s_iload_n E dL_law_2340 rfl rfl ?_
  refine s_iconst (v := 2) E dL_law_2341 (by decide) ?_
  refine z_iadd (u := i.toInt) (v := 2) E dL_law_2342 rfl (by decide) (by omega) (by omega) (fun z_9 hz_9 => ?_)
  refine s_sld E hX hb0 hb (z_in (u := z_9.toInt) rfl (by omega) (by omega)) dL_law_2343 ?_
  refine s_top (y := (xs (i.toInt.toNat + 2))) (congrArg xs (by show z_9.toInt.toNat = _; omega)) ?_
  refine s_xload_n E dL_law_2344 rfl rfl ?_
  refine s_iload_n E dL_law_2345 rfl rfl ?_
  refine s_iconst (v := 3) E dL_law_2346 (by decide) ?_
  refine z_iadd (u := i.toInt) (v := 3) E dL_law_2347 rfl (by decide) (by omega) (by omega) (fun z_10 hz_10 => ?_)
  refine s_sld E hX hb0 hb (z_in (u := z_10.toInt) rfl (by omega) (by omega)) dL_law_2348 ?_
  refine s_top (y := (xs (i.toInt.toNat + 3))) (congrArg xs (by show z_10.toInt.toNat = _; omega)) ?_
  refine s_vI (As := [AI (xs (i.toInt.toNat + 1)), AI (xs (i.toInt.toNat + 2)), AI (xs (i.toInt.toNat + 3))]) (S := []) E (Z_X10_row_95 l D aC b u_5 (xs (i.toInt.toNat + 1)) (xs (i.toInt.toNat + 2)) (xs (i.toInt.toNat + 3)) hI_7) cv_L_300 rfl rfl rfl (jv_lt (jv_rfl hI_7) (by decide)) (Nat.le_of_ble_eq_true rfl) (Nat.le_of_ble_eq_true rfl) ⟨(Nat.le_of_ble_eq_true rfl), (Nat.le_of_ble_eq_true rfl)⟩ (Nat.le_of_ble_eq_true rfl) dL_law_2349 (fun r_11 u_12 hp_13 => ?_)
  have hI_14 : Iv u_12 := by rcases hp_13 with ⟨_, _, rfl⟩ | ⟨_, _, _, rfl⟩ | ⟨_, _, _, h_⟩; exact hI_7; exact hI_7; exact h_.1
  have hrr_11 : (r_11.toInt = -2 ∧ ¬ rwC (xs (i.toInt.toNat + 1)) (xs (i.toInt.toNat + 2)) (xs (i.toInt.toNat + 3))) ∨ (r_11.toInt = -3 ∧ rwC (xs (i.toInt.toNat + 1)) (xs (i.toInt.toNat + 2)) (xs (i.toInt.toNat + 3)) ∧ (xs (i.toInt.toNat + 3)).toInt < 0) ∨ (r_11.toInt = 0 ∧ rwC (xs (i.toInt.toNat + 1)) (xs (i.toInt.toNat + 2)) (xs (i.toInt.toNat + 3)) ∧ 0 ≤ (xs (i.toInt.toNat + 3)).toInt) := by rcases hp_13 with ⟨h1_, h2_, _⟩ | ⟨h1_, h2_, h3_, _⟩ | ⟨h1_, h2_, h3_, _⟩; exact Or.inl ⟨h1_, h2_⟩; exact Or.inr (Or.inl ⟨h1_, h2_, h3_⟩); exact Or.inr (Or.inr ⟨h1_, h2_, h3_⟩)
  unfold rwC at hrr_11
  have hR_15 : RLs u_12 := rl_row hR hp_6 hp_13
  refine s_popI E dL_law_2352 ?_
  refine s_goto (tgt := 2492) E dL_law_2353 (by decide) ?_
  exact kk u_12 hI_14 hR_15
set_option maxRecDepth 20000 in
set_option maxHeartbeats 2000000 in
theorem lawc_70 {p : Program} {e : Env} {s : State} {m : MethodId} {below : List Frame} {meth : Method} {c : Code} (l : Launch) {b0 b n : Nat} {xs : Nat → Int32} {D : va_G} {aC : Nat → ClassId} (E : EE p s m meth c D aC b 4 cL_law RL ret) (hb : b = s.heap.size) (hX : va_X b0 n xs s s.heap) (hb0 : b0 < s.heap.size) (hn : n ≤ 3072) (w : XW) (hI : Iv w) (hR : RLs w) (i : Int32) (hi : 0 ≤ i.toInt ∧ i.toInt + 6 ≤ (n : Int)) (kk : ∀ u : XW, Iv u → RLs u → Wv p l e room_1 s m #[Value.ref b0] below meth c (lw_Z below #[Value.ref b0] s) D aC b 4 2492 [some (AX (b0 + 1)), some (AR 0), some (AR 95), some (AI i)] [] u 116 6683) : Wv p l e room_1 s m #[Value.ref b0] below meth c (lw_Z below #[Value.ref b0] s) D aC b 4 2356 [some (AX (b0 + 1)), some (AR 0), some (AR 95), some (AI i)] [] w 116 6683 := by
  refine s_aload_n E dL_law_2356 rfl rfl ?_
  refine s_xload_n E dL_law_2357 rfl rfl ?_
  refine s_iload_n E dL_law_2358 rfl rfl ?_
  refine s_iconst (v := 1) E dL_law_2359 (by decide) ?_
  refine z_iadd (u := i.toInt) (v := 1) E dL_law_2360 rfl (by decide) (by omega) (by omega) (fun z_1 hz_1 => ?_)
  refine s_sld E hX hb0 hb (z_in (u := z_1.toInt) rfl (by omega) (by omega)) dL_law_2361 ?_
  refine s_top (y := (xs (i.toInt.toNat + 1))) (congrArg xs (by show z_1.toInt.toNat = _; omega)) ?_
  refine s_xload_n E dL_law_2362 rfl rfl ?_
  refine s_iload_n E dL_law_2363 rfl rfl ?_
  refine s_iconst (v := 2) E dL_law_2364 (by decide) ?_
  refine z_iadd (u := i.toInt) (v := 2) E dL_law_2365 rfl (by decide) (by omega) (by omega) (fun z_2 hz_2 => ?_)
  refine s_sld E hX hb0 hb (z_in (u := z_2.toInt) rfl (by omega) (by omega)) dL_law_2366 ?_
  refine s_top (y := (xs (i.toInt.toNat + 2))) (congrArg xs (by show z_2.toInt.toNat = _; omega)) ?_
  refine s_xload_n E dL_law_2367 rfl rfl ?_
  refine s_iload_n E dL_law_2368 rfl rfl ?_
  refine s_iconst (v := 3) E dL_law_2369 (by decide) ?_
  refine z_iadd (u := i.toInt) (v := 3) E dL_law_2370 rfl (by decide) (by omega) (by omega) (fun z_3 hz_3 => ?_)
  refine s_sld E hX hb0 hb (z_in (u := z_3.toInt) rfl (by omega) (by omega)) dL_law_2371 ?_
  refine s_top (y := (xs (i.toInt.toNat + 3))) (congrArg xs (by show z_3.toInt.toNat = _; omega)) ?_
  refine s_i2l E dL_law_2372 ?_
  refine s_bipush (v := 32) E dL_law_2373 (by decide) ?_
  refine s_lshl E dL_law_2375 ?_
  refine s_xload_n E dL_law_2376 rfl rfl ?_
  refine s_iload_n E dL_law_2377 rfl rfl ?_
  refine s_iconst (v := 4) E dL_law_2378 (by decide) ?_
  refine z_iadd (u := i.toInt) (v := 4) E dL_law_2379 rfl (by decide) (by omega) (by omega) (fun z_4 hz_4 => ?_)
  refine s_sld E hX hb0 hb (z_in (u := z_4.toInt) rfl (by omega) (by omega)) dL_law_2380 ?_
  refine s_top (y := (xs (i.toInt.toNat + 4))) (congrArg xs (by show z_4.toInt.toNat = _; omega)) ?_
  refine s_i2l E dL_law_2381 ?_
  refine s_ldc2 E k_1995 rfl dL_law_2382 ?_
  refine s_land E dL_law_2385 ?_
  refine s_lor E dL_law_2386 ?_
  refine s_vI (As := [AI (xs (i.toInt.toNat + 1)), AI (xs (i.toInt.toNat + 2)), AL ((((xs (i.toInt.toNat + 3)).toInt64) <<< ((32 : Int32).toInt64 &&& 63)) ||| (((xs (i.toInt.toNat + 4)).toInt64) &&& 4294967295))]) (S := []) E (Z_X9_write_0 l D aC b w (xs (i.toInt.toNat + 1)) (xs (i.toInt.toNat + 2)) ((((xs (i.toInt.toNat + 3)).toInt64) <<< ((32 : Int32).toInt64 &&& 63)) ||| (((xs (i.toInt.toNat + 4)).toInt64) &&& 4294967295)) hI) cv_L_303 rfl rfl rfl (jv_lt (jv_rfl hI) (by decide)) (Nat.le_of_ble_eq_true rfl) (Nat.le_of_ble_eq_true rfl) ⟨(Nat.le_of_ble_eq_true rfl), (Nat.le_of_ble_eq_true rfl)⟩ (Nat.le_of_ble_eq_true rfl) dL_law_2387 (fun r_5 u_6 hp_7 => ?_)
  have hI_8 : Iv u_6 := hp_7.2.2.1
  have hR_9 : RLs u_6 := rl_k hR hp_7.2.2.2.1
  refine s_aload_n E dL_law_2390 rfl rfl ?_
  refine s_xload_n E dL_law_2391 rfl rfl ?_
  refine s_iload_n E dL_law_2392 rfl rfl ?_
  refine s_iconst (v := 1) E dL_law_2393 (by decide) ?_
  refine z_iadd (u := i.toInt) (v := 1) E dL_law_2394 rfl (by decide) (by omega) (by omega) (fun z_10 hz_10 => ?_)
  refine s_sld E hX hb0 hb (z_in (u := z_10.toInt) rfl (by omega) (by omega)) dL_law_2395 ?_
  refine s_top (y := (xs (i.toInt.toNat + 1))) (congrArg xs (by show z_10.toInt.toNat = _; omega)) ?_
  refine s_xload_n E dL_law_2396 rfl rfl ?_
  refine s_iload_n E dL_law_2397 rfl rfl ?_
  refine s_iconst (v := 2) E dL_law_2398 (by decide) ?_
  refine z_iadd (u := i.toInt) (v := 2) E dL_law_2399 rfl (by decide) (by omega) (by omega) (fun z_11 hz_11 => ?_)
  refine s_sld E hX hb0 hb (z_in (u := z_11.toInt) rfl (by omega) (by omega)) dL_law_2400 ?_
  refine s_top (y := (xs (i.toInt.toNat + 2))) (congrArg xs (by show z_11.toInt.toNat = _; omega)) ?_
  refine s_xload_n E dL_law_2401 rfl rfl ?_
  refine s_iload_n E dL_law_2402 rfl rfl ?_
  refine s_iconst (v := 3) E dL_law_2403 (by decide) ?_
  refine z_iadd (u := i.toInt) (v := 3) E dL_law_2404 rfl (by decide) (by omega) (by omega) (fun z_12 hz_12 => ?_)
  refine s_sld E hX hb0 hb (z_in (u := z_12.toInt) rfl (by omega) (by omega)) dL_law_2405 ?_
  refine s_top (y := (xs (i.toInt.toNat + 3))) (congrArg xs (by show z_12.toInt.toNat = _; omega)) ?_
  refine s_i2l E dL_law_2406 ?_
  refine s_bipush (v := 32) E dL_law_2407 (by decide) ?_
  refine s_lshl E dL_law_2409 ?_
  refine s_xload_n E dL_law_2410 rfl rfl ?_
  refine s_iload_n E dL_law_2411 rfl rfl ?_
  refine s_iconst (v := 4) E dL_law_2412 (by decide) ?_
  refine z_iadd (u := i.toInt) (v := 4) E dL_law_2413 rfl (by decide) (by omega) (by omega) (fun z_13 hz_13 => ?_)
  refine s_sld E hX hb0 hb (z_in (u := z_13.toInt) rfl (by omega) (by omega)) dL_law_2414 ?_
  refine s_top (y := (xs (i.toInt.toNat + 4))) (congrArg xs (by show z_13.toInt.toNat = _; omega)) ?_
  refine s_i2l E dL_law_2415 ?_
  refine s_ldc2 E k_1995 rfl dL_law_2416 ?_
  refine s_land E dL_law_2419 ?_
  refine s_lor E dL_law_2420 ?_
  refine s_vI (As := [AI (xs (i.toInt.toNat + 1)), AI (xs (i.toInt.toNat + 2)), AL ((((xs (i.toInt.toNat + 3)).toInt64) <<< ((32 : Int32).toInt64 &&& 63)) ||| (((xs (i.toInt.toNat + 4)).toInt64) &&& 4294967295))]) (S := [AI r_5]) E (Z_X10_write_95 l D aC b u_6 (xs (i.toInt.toNat + 1)) (xs (i.toInt.toNat + 2)) ((((xs (i.toInt.toNat + 3)).toInt64) <<< ((32 : Int32).toInt64 &&& 63)) ||| (((xs (i.toInt.toNat + 4)).toInt64) &&& 4294967295)) hI_8) cv_L_307 rfl rfl rfl (jv_lt (jv_rfl hI_8) (by decide)) (Nat.le_of_ble_eq_true rfl) (Nat.le_of_ble_eq_true rfl) ⟨(Nat.le_of_ble_eq_true rfl), (Nat.le_of_ble_eq_true rfl)⟩ (Nat.le_of_ble_eq_true rfl) dL_law_2421 (fun r_14 u_15 hp_16 => ?_)
  have hI_17 : Iv u_15 := hp_16.2.2.1
  have hR_18 : RLs u_15 := rl_k hR_9 hp_16.2.2.2
  refine s_icmp_eq (tgt := 2492) E dL_law_2424 (by decide) (fun _ => ?_) (fun h_ => absurd (wr_eq hR hp_7.2.2.2.1 hp_7.2.1 hp_16.2.1) h_)
  exact kk u_15 hI_17 hR_18
set_option maxRecDepth 20000 in
set_option maxHeartbeats 2000000 in
theorem lawc_71 {p : Program} {e : Env} {s : State} {m : MethodId} {below : List Frame} {meth : Method} {c : Code} (l : Launch) {b0 b n : Nat} {xs : Nat → Int32} {D : va_G} {aC : Nat → ClassId} (E : EE p s m meth c D aC b 4 cL_law RL ret) (hb : b = s.heap.size) (hX : va_X b0 n xs s s.heap) (hb0 : b0 < s.heap.size) (hn : n ≤ 3072) (w : XW) (hI : Iv w) (hR : RLs w) (i : Int32) (hi : 0 ≤ i.toInt ∧ i.toInt + 6 ≤ (n : Int)) (kk : ∀ u : XW, Iv u → RLs u → Wv p l e room_1 s m #[Value.ref b0] below meth c (lw_Z below #[Value.ref b0] s) D aC b 4 2492 [some (AX (b0 + 1)), some (AR 0), some (AR 95), some (AI i)] [] u 116 6683) : Wv p l e room_1 s m #[Value.ref b0] below meth c (lw_Z below #[Value.ref b0] s) D aC b 4 2429 [some (AX (b0 + 1)), some (AR 0), some (AR 95), some (AI i)] [] w 116 6683 := by
  refine s_aload_n E dL_law_2429 rfl rfl ?_
  refine s_xload_n E dL_law_2430 rfl rfl ?_
  refine s_iload_n E dL_law_2431 rfl rfl ?_
  refine s_iconst (v := 1) E dL_law_2432 (by decide) ?_
  refine z_iadd (u := i.toInt) (v := 1) E dL_law_2433 rfl (by decide) (by omega) (by omega) (fun z_1 hz_1 => ?_)
  refine s_sld E hX hb0 hb (z_in (u := z_1.toInt) rfl (by omega) (by omega)) dL_law_2434 ?_
  refine s_top (y := (xs (i.toInt.toNat + 1))) (congrArg xs (by show z_1.toInt.toNat = _; omega)) ?_
  refine s_xload_n E dL_law_2435 rfl rfl ?_
  refine s_iload_n E dL_law_2436 rfl rfl ?_
  refine s_iconst (v := 2) E dL_law_2437 (by decide) ?_
  refine z_iadd (u := i.toInt) (v := 2) E dL_law_2438 rfl (by decide) (by omega) (by omega) (fun z_2 hz_2 => ?_)
  refine s_sld E hX hb0 hb (z_in (u := z_2.toInt) rfl (by omega) (by omega)) dL_law_2439 ?_
  refine s_top (y := (xs (i.toInt.toNat + 2))) (congrArg xs (by show z_2.toInt.toNat = _; omega)) ?_
  refine s_xload_n E dL_law_2440 rfl rfl ?_
  refine s_iload_n E dL_law_2441 rfl rfl ?_
  refine s_iconst (v := 3) E dL_law_2442 (by decide) ?_
  refine z_iadd (u := i.toInt) (v := 3) E dL_law_2443 rfl (by decide) (by omega) (by omega) (fun z_3 hz_3 => ?_)
  refine s_sld E hX hb0 hb (z_in (u := z_3.toInt) rfl (by omega) (by omega)) dL_law_2444 ?_
  refine s_top (y := (xs (i.toInt.toNat + 3))) (congrArg xs (by show z_3.toInt.toNat = _; omega)) ?_
  refine s_xload_n E dL_law_2445 rfl rfl ?_
  refine s_iload_n E dL_law_2446 rfl rfl ?_
  refine s_iconst (v := 4) E dL_law_2447 (by decide) ?_
  refine z_iadd (u := i.toInt) (v := 4) E dL_law_2448 rfl (by decide) (by omega) (by omega) (fun z_4 hz_4 => ?_)
  refine s_sld E hX hb0 hb (z_in (u := z_4.toInt) rfl (by omega) (by omega)) dL_law_2449 ?_
  refine s_top (y := (xs (i.toInt.toNat + 4))) (congrArg xs (by show z_4.toInt.toNat = _; omega)) ?_
  refine s_xload_n E dL_law_2450 rfl rfl ?_
  refine s_iload_n E dL_law_2451 rfl rfl ?_
  refine s_iconst (v := 5) E dL_law_2452 (by decide) ?_
  refine z_iadd (u := i.toInt) (v := 5) E dL_law_2453 rfl (by decide) (by omega) (by omega) (fun z_5 hz_5 => ?_)
  refine s_sld E hX hb0 hb (z_in (u := z_5.toInt) rfl (by omega) (by omega)) dL_law_2454 ?_
  refine s_top (y := (xs (i.toInt.toNat + 5))) (congrArg xs (by show z_5.toInt.toNat = _; omega)) ?_
  refine s_vI (As := [AI (xs (i.toInt.toNat + 1)), AI (xs (i.toInt.toNat + 2)), AI (xs (i.toInt.toNat + 3)), AI (xs (i.toInt.toNat + 4)), AI (xs (i.toInt.toNat + 5))]) (S := []) E (Z_X9_paste_0 l D aC b w (xs (i.toInt.toNat + 1)) (xs (i.toInt.toNat + 2)) (xs (i.toInt.toNat + 3)) (xs (i.toInt.toNat + 4)) (xs (i.toInt.toNat + 5)) hI) cv_L_308 rfl rfl rfl (jv_lt (jv_rfl hI) (by decide)) (Nat.le_of_ble_eq_true rfl) (Nat.le_of_ble_eq_true rfl) ⟨(Nat.le_of_ble_eq_true rfl), (Nat.le_of_ble_eq_true rfl)⟩ (Nat.le_of_ble_eq_true rfl) dL_law_2455 (fun r_6 u_7 hp_8 => ?_)
  have hI_9 : Iv u_7 := hp_8.2.2.1
  have hR_10 : RLs u_7 := rl_k hR hp_8.2.2.2.1
  refine s_popI E dL_law_2458 ?_
  refine s_aload_n E dL_law_2459 rfl rfl ?_
  refine s_xload_n E dL_law_2460 rfl rfl ?_
  refine s_iload_n E dL_law_2461 rfl rfl ?_
  refine s_iconst (v := 1) E dL_law_2462 (by decide) ?_
  refine z_iadd (u := i.toInt) (v := 1) E dL_law_2463 rfl (by decide) (by omega) (by omega) (fun z_11 hz_11 => ?_)
  refine s_sld E hX hb0 hb (z_in (u := z_11.toInt) rfl (by omega) (by omega)) dL_law_2464 ?_
  refine s_top (y := (xs (i.toInt.toNat + 1))) (congrArg xs (by show z_11.toInt.toNat = _; omega)) ?_
  refine s_xload_n E dL_law_2465 rfl rfl ?_
  refine s_iload_n E dL_law_2466 rfl rfl ?_
  refine s_iconst (v := 2) E dL_law_2467 (by decide) ?_
  refine z_iadd (u := i.toInt) (v := 2) E dL_law_2468 rfl (by decide) (by omega) (by omega) (fun z_12 hz_12 => ?_)
  refine s_sld E hX hb0 hb (z_in (u := z_12.toInt) rfl (by omega) (by omega)) dL_law_2469 ?_
  refine s_top (y := (xs (i.toInt.toNat + 2))) (congrArg xs (by show z_12.toInt.toNat = _; omega)) ?_
  refine s_xload_n E dL_law_2470 rfl rfl ?_
  refine s_iload_n E dL_law_2471 rfl rfl ?_
  refine s_iconst (v := 3) E dL_law_2472 (by decide) ?_
  refine z_iadd (u := i.toInt) (v := 3) E dL_law_2473 rfl (by decide) (by omega) (by omega) (fun z_13 hz_13 => ?_)
  refine s_sld E hX hb0 hb (z_in (u := z_13.toInt) rfl (by omega) (by omega)) dL_law_2474 ?_
  refine s_top (y := (xs (i.toInt.toNat + 3))) (congrArg xs (by show z_13.toInt.toNat = _; omega)) ?_
  refine s_xload_n E dL_law_2475 rfl rfl ?_
  refine s_iload_n E dL_law_2476 rfl rfl ?_
  refine s_iconst (v := 4) E dL_law_2477 (by decide) ?_
  refine z_iadd (u := i.toInt) (v := 4) E dL_law_2478 rfl (by decide) (by omega) (by omega) (fun z_14 hz_14 => ?_)
  refine s_sld E hX hb0 hb (z_in (u := z_14.toInt) rfl (by omega) (by omega)) dL_law_2479 ?_
  refine s_top (y := (xs (i.toInt.toNat + 4))) (congrArg xs (by show z_14.toInt.toNat = _; omega)) ?_
  refine s_xload_n E dL_law_2480 rfl rfl ?_
  refine s_iload_n E dL_law_2481 rfl rfl ?_
  refine s_iconst (v := 5) E dL_law_2482 (by decide) ?_
  refine z_iadd (u := i.toInt) (v := 5) E dL_law_2483 rfl (by decide) (by omega) (by omega) (fun z_15 hz_15 => ?_)
  refine s_sld E hX hb0 hb (z_in (u := z_15.toInt) rfl (by omega) (by omega)) dL_law_2484 ?_
  refine s_top (y := (xs (i.toInt.toNat + 5))) (congrArg xs (by show z_15.toInt.toNat = _; omega)) ?_
  refine s_vI (As := [AI (xs (i.toInt.toNat + 1)), AI (xs (i.toInt.toNat + 2)), AI (xs (i.toInt.toNat + 3)), AI (xs (i.toInt.toNat + 4)), AI (xs (i.toInt.toNat + 5))]) (S := []) E (Z_X10_paste_95 l D aC b u_7 (xs (i.toInt.toNat + 1)) (xs (i.toInt.toNat + 2)) (xs (i.toInt.toNat + 3)) (xs (i.toInt.toNat + 4)) (xs (i.toInt.toNat + 5)) hI_9) cv_L_311 rfl rfl rfl (jv_lt (jv_rfl hI_9) (by decide)) (Nat.le_of_ble_eq_true rfl) (Nat.le_of_ble_eq_true rfl) ⟨(Nat.le_of_ble_eq_true rfl), (Nat.le_of_ble_eq_true rfl)⟩ (Nat.le_of_ble_eq_true rfl) dL_law_2485 (fun r_16 u_17 hp_18 => ?_)
  have hI_19 : Iv u_17 := hp_18.2.2.1
  have hR_20 : RLs u_17 := rl_k hR_10 hp_18.2.2.2
  refine s_popI E dL_law_2488 ?_
  refine s_goto (tgt := 2492) E dL_law_2489 (by decide) ?_
  exact kk u_17 hI_19 hR_20
