set_option maxRecDepth 20000 in
set_option maxHeartbeats 2000000 in
theorem lawc_24 {p : Program} {e : Env} {s : State} {m : MethodId} {below : List Frame} {meth : Method} {c : Code} (l : Launch) {b0 b n : Nat} {xs : Nat → Int32} {D : va_G} {aC : Nat → ClassId} (E : EE p s m meth c D aC b 4 cL_law RL ret) (hb : b = s.heap.size) (hX : va_X b0 n xs s s.heap) (hb0 : b0 < s.heap.size) (hn : n ≤ 3072) (w : XW) (hI : Iv w) (hR : RLs w) (i : Int32) (hi : 0 ≤ i.toInt ∧ i.toInt + 6 ≤ (n : Int)) (kk : ∀ u : XW, Iv u → RLs u → Wv p l e room_1 s m #[Value.ref b0] below meth c (lw_Z below #[Value.ref b0] s) D aC b 4 2492 [some (AX (b0 + 1)), some (AR 0), some (AR 95), some (AI i)] [] u 116 6683) : Wv p l e room_1 s m #[Value.ref b0] below meth c (lw_Z below #[Value.ref b0] s) D aC b 4 1028 [some (AX (b0 + 1)), some (AR 0), some (AR 95), some (AI i)] [] w 116 6683 := by
  refine s_aload_n E dL_law_1028 rfl rfl ?_
  refine s_xload_n E dL_law_1029 rfl rfl ?_
  refine s_iload_n E dL_law_1030 rfl rfl ?_
  refine s_iconst (v := 1) E dL_law_1031 (by decide) ?_
  refine z_iadd (u := i.toInt) (v := 1) E dL_law_1032 rfl (by decide) (by omega) (by omega) (fun z_1 hz_1 => ?_)
  refine s_sld E hX hb0 hb (z_in (u := z_1.toInt) rfl (by omega) (by omega)) dL_law_1033 ?_
  refine s_top (y := (xs (i.toInt.toNat + 1))) (congrArg xs (by show z_1.toInt.toNat = _; omega)) ?_
  refine s_vI (As := [AI (xs (i.toInt.toNat + 1))]) (S := []) E (Z_X9_waits_0 l D aC b w (xs (i.toInt.toNat + 1)) hI) cv_L_114 rfl rfl rfl (jv_lt (jv_rfl hI) (by decide)) (Nat.le_of_ble_eq_true rfl) (Nat.le_of_ble_eq_true rfl) ⟨(Nat.le_of_ble_eq_true rfl), (Nat.le_of_ble_eq_true rfl)⟩ (Nat.le_of_ble_eq_true rfl) dL_law_1034 (fun r_2 u_3 hp_4 => ?_)
  have hI_5 : Iv u_3 := by rw [← hp_4.2]; exact hI
  have hR_6 : RLs u_3 := rl_k hR (fun c_ _ => by rw [hp_4.2])
  refine s_popI E dL_law_1037 ?_
  refine s_aload_n E dL_law_1038 rfl rfl ?_
  refine s_xload_n E dL_law_1039 rfl rfl ?_
  refine s_iload_n E dL_law_1040 rfl rfl ?_
  refine s_iconst (v := 1) E dL_law_1041 (by decide) ?_
  refine z_iadd (u := i.toInt) (v := 1) E dL_law_1042 rfl (by decide) (by omega) (by omega) (fun z_7 hz_7 => ?_)
  refine s_sld E hX hb0 hb (z_in (u := z_7.toInt) rfl (by omega) (by omega)) dL_law_1043 ?_
  refine s_top (y := (xs (i.toInt.toNat + 1))) (congrArg xs (by show z_7.toInt.toNat = _; omega)) ?_
  refine s_vI (As := [AI (xs (i.toInt.toNat + 1))]) (S := []) E (Z_X10_waits_95 l D aC b u_3 (xs (i.toInt.toNat + 1)) hI_5) cv_L_117 rfl rfl rfl (jv_lt (jv_rfl hI_5) (by decide)) (Nat.le_of_ble_eq_true rfl) (Nat.le_of_ble_eq_true rfl) ⟨(Nat.le_of_ble_eq_true rfl), (Nat.le_of_ble_eq_true rfl)⟩ (Nat.le_of_ble_eq_true rfl) dL_law_1044 (fun r_8 u_9 hp_10 => ?_)
  have hI_11 : Iv u_9 := hp_10.2.1
  have hR_12 : RLs u_9 := rl_k hR_6 hp_10.2.2.1
  refine s_popI E dL_law_1047 ?_
  refine s_goto (tgt := 2492) E dL_law_1048 (by decide) ?_
  exact kk u_9 hI_11 hR_12
set_option maxRecDepth 20000 in
set_option maxHeartbeats 2000000 in
theorem lawc_25 {p : Program} {e : Env} {s : State} {m : MethodId} {below : List Frame} {meth : Method} {c : Code} (l : Launch) {b0 b n : Nat} {xs : Nat → Int32} {D : va_G} {aC : Nat → ClassId} (E : EE p s m meth c D aC b 4 cL_law RL ret) (hb : b = s.heap.size) (hX : va_X b0 n xs s s.heap) (hb0 : b0 < s.heap.size) (hn : n ≤ 3072) (w : XW) (hI : Iv w) (hR : RLs w) (i : Int32) (hi : 0 ≤ i.toInt ∧ i.toInt + 6 ≤ (n : Int)) (kk : ∀ u : XW, Iv u → RLs u → Wv p l e room_1 s m #[Value.ref b0] below meth c (lw_Z below #[Value.ref b0] s) D aC b 4 2492 [some (AX (b0 + 1)), some (AR 0), some (AR 95), some (AI i)] [] u 116 6683) : Wv p l e room_1 s m #[Value.ref b0] below meth c (lw_Z below #[Value.ref b0] s) D aC b 4 1051 [some (AX (b0 + 1)), some (AR 0), some (AR 95), some (AI i)] [] w 116 6683 := by
  refine s_aload_n E dL_law_1051 rfl rfl ?_
  refine s_xload_n E dL_law_1052 rfl rfl ?_
  refine s_iload_n E dL_law_1053 rfl rfl ?_
  refine s_iconst (v := 1) E dL_law_1054 (by decide) ?_
  refine z_iadd (u := i.toInt) (v := 1) E dL_law_1055 rfl (by decide) (by omega) (by omega) (fun z_1 hz_1 => ?_)
  refine s_sld E hX hb0 hb (z_in (u := z_1.toInt) rfl (by omega) (by omega)) dL_law_1056 ?_
  refine s_top (y := (xs (i.toInt.toNat + 1))) (congrArg xs (by show z_1.toInt.toNat = _; omega)) ?_
  refine s_vI (As := [AI (xs (i.toInt.toNat + 1))]) (S := []) E (Z_X9_mate_0 l D aC b w (xs (i.toInt.toNat + 1)) hI) cv_L_118 rfl rfl rfl (jv_lt (jv_rfl hI) (by decide)) (Nat.le_of_ble_eq_true rfl) (Nat.le_of_ble_eq_true rfl) ⟨(Nat.le_of_ble_eq_true rfl), (Nat.le_of_ble_eq_true rfl)⟩ (Nat.le_of_ble_eq_true rfl) dL_law_1057 (fun r_2 u_3 hp_4 => ?_)
  have hI_5 : Iv u_3 := by rw [← hp_4.2]; exact hI
  have hR_6 : RLs u_3 := rl_k hR (fun c_ _ => by rw [hp_4.2])
  refine s_popI E dL_law_1060 ?_
  refine s_aload_n E dL_law_1061 rfl rfl ?_
  refine s_xload_n E dL_law_1062 rfl rfl ?_
  refine s_iload_n E dL_law_1063 rfl rfl ?_
  refine s_iconst (v := 1) E dL_law_1064 (by decide) ?_
  refine z_iadd (u := i.toInt) (v := 1) E dL_law_1065 rfl (by decide) (by omega) (by omega) (fun z_7 hz_7 => ?_)
  refine s_sld E hX hb0 hb (z_in (u := z_7.toInt) rfl (by omega) (by omega)) dL_law_1066 ?_
  refine s_top (y := (xs (i.toInt.toNat + 1))) (congrArg xs (by show z_7.toInt.toNat = _; omega)) ?_
  refine s_vI (As := [AI (xs (i.toInt.toNat + 1))]) (S := []) E (Z_X10_mate_95 l D aC b u_3 (xs (i.toInt.toNat + 1)) hI_5) cv_L_121 rfl rfl rfl (jv_lt (jv_rfl hI_5) (by decide)) (Nat.le_of_ble_eq_true rfl) (Nat.le_of_ble_eq_true rfl) ⟨(Nat.le_of_ble_eq_true rfl), (Nat.le_of_ble_eq_true rfl)⟩ (Nat.le_of_ble_eq_true rfl) dL_law_1067 (fun r_8 u_9 hp_10 => ?_)
  have hI_11 : Iv u_9 := hp_10.2.1
  have hR_12 : RLs u_9 := rl_k hR_6 hp_10.2.2.1
  refine s_popI E dL_law_1070 ?_
  refine s_goto (tgt := 2492) E dL_law_1071 (by decide) ?_
  exact kk u_9 hI_11 hR_12
set_option maxRecDepth 20000 in
set_option maxHeartbeats 2000000 in
theorem lawc_26 {p : Program} {e : Env} {s : State} {m : MethodId} {below : List Frame} {meth : Method} {c : Code} (l : Launch) {b0 b n : Nat} {xs : Nat → Int32} {D : va_G} {aC : Nat → ClassId} (E : EE p s m meth c D aC b 4 cL_law RL ret) (hb : b = s.heap.size) (hX : va_X b0 n xs s s.heap) (hb0 : b0 < s.heap.size) (hn : n ≤ 3072) (w : XW) (hI : Iv w) (hR : RLs w) (i : Int32) (hi : 0 ≤ i.toInt ∧ i.toInt + 6 ≤ (n : Int)) (kk : ∀ u : XW, Iv u → RLs u → Wv p l e room_1 s m #[Value.ref b0] below meth c (lw_Z below #[Value.ref b0] s) D aC b 4 2492 [some (AX (b0 + 1)), some (AR 0), some (AR 95), some (AI i)] [] u 116 6683) : Wv p l e room_1 s m #[Value.ref b0] below meth c (lw_Z below #[Value.ref b0] s) D aC b 4 1074 [some (AX (b0 + 1)), some (AR 0), some (AR 95), some (AI i)] [] w 116 6683 := by
  refine s_aload_n E dL_law_1074 rfl rfl ?_
  refine s_xload_n E dL_law_1075 rfl rfl ?_
  refine s_iload_n E dL_law_1076 rfl rfl ?_
  refine s_iconst (v := 1) E dL_law_1077 (by decide) ?_
  refine z_iadd (u := i.toInt) (v := 1) E dL_law_1078 rfl (by decide) (by omega) (by omega) (fun z_1 hz_1 => ?_)
  refine s_sld E hX hb0 hb (z_in (u := z_1.toInt) rfl (by omega) (by omega)) dL_law_1079 ?_
  refine s_top (y := (xs (i.toInt.toNat + 1))) (congrArg xs (by show z_1.toInt.toNat = _; omega)) ?_
  refine s_vI (As := [AI (xs (i.toInt.toNat + 1))]) (S := []) E (Z_X9_hears_0 l D aC b w (xs (i.toInt.toNat + 1)) hI) cv_L_122 rfl rfl rfl (jv_lt (jv_rfl hI) (by decide)) (Nat.le_of_ble_eq_true rfl) (Nat.le_of_ble_eq_true rfl) ⟨(Nat.le_of_ble_eq_true rfl), (Nat.le_of_ble_eq_true rfl)⟩ (Nat.le_of_ble_eq_true rfl) dL_law_1080 (fun r_2 u_3 hp_4 => ?_)
  have hI_5 : Iv u_3 := hp_4.2.1
  have hR_6 : RLs u_3 := rl_k hR hp_4.2.2.1
  refine s_popI E dL_law_1083 ?_
  refine s_aload_n E dL_law_1084 rfl rfl ?_
  refine s_xload_n E dL_law_1085 rfl rfl ?_
  refine s_iload_n E dL_law_1086 rfl rfl ?_
  refine s_iconst (v := 1) E dL_law_1087 (by decide) ?_
  refine z_iadd (u := i.toInt) (v := 1) E dL_law_1088 rfl (by decide) (by omega) (by omega) (fun z_7 hz_7 => ?_)
  refine s_sld E hX hb0 hb (z_in (u := z_7.toInt) rfl (by omega) (by omega)) dL_law_1089 ?_
  refine s_top (y := (xs (i.toInt.toNat + 1))) (congrArg xs (by show z_7.toInt.toNat = _; omega)) ?_
  refine s_vI (As := [AI (xs (i.toInt.toNat + 1))]) (S := []) E (Z_X10_hears_95 l D aC b u_3 (xs (i.toInt.toNat + 1)) hI_5) cv_L_125 rfl rfl rfl (jv_lt (jv_rfl hI_5) (by decide)) (Nat.le_of_ble_eq_true rfl) (Nat.le_of_ble_eq_true rfl) ⟨(Nat.le_of_ble_eq_true rfl), (Nat.le_of_ble_eq_true rfl)⟩ (Nat.le_of_ble_eq_true rfl) dL_law_1090 (fun r_8 u_9 hp_10 => ?_)
  have hI_11 : Iv u_9 := hp_10.2.1
  have hR_12 : RLs u_9 := rl_k hR_6 hp_10.2.2.1
  refine s_popI E dL_law_1093 ?_
  refine s_goto (tgt := 2492) E dL_law_1094 (by decide) ?_
  exact kk u_9 hI_11 hR_12
set_option maxRecDepth 20000 in
set_option maxHeartbeats 2000000 in
theorem lawc_27 {p : Program} {e : Env} {s : State} {m : MethodId} {below : List Frame} {meth : Method} {c : Code} (l : Launch) {b0 b n : Nat} {xs : Nat → Int32} {D : va_G} {aC : Nat → ClassId} (E : EE p s m meth c D aC b 4 cL_law RL ret) (hb : b = s.heap.size) (hX : va_X b0 n xs s s.heap) (hb0 : b0 < s.heap.size) (hn : n ≤ 3072) (w : XW) (hI : Iv w) (hR : RLs w) (i : Int32) (hi : 0 ≤ i.toInt ∧ i.toInt + 6 ≤ (n : Int)) (kk : ∀ u : XW, Iv u → RLs u → Wv p l e room_1 s m #[Value.ref b0] below meth c (lw_Z below #[Value.ref b0] s) D aC b 4 2492 [some (AX (b0 + 1)), some (AR 0), some (AR 95), some (AI i)] [] u 116 6683) : Wv p l e room_1 s m #[Value.ref b0] below meth c (lw_Z below #[Value.ref b0] s) D aC b 4 1097 [some (AX (b0 + 1)), some (AR 0), some (AR 95), some (AI i)] [] w 116 6683 := by
  refine s_aload_n E dL_law_1097 rfl rfl ?_
  refine s_xload_n E dL_law_1098 rfl rfl ?_
  refine s_iload_n E dL_law_1099 rfl rfl ?_
  refine s_iconst (v := 1) E dL_law_1100 (by decide) ?_
  refine z_iadd (u := i.toInt) (v := 1) E dL_law_1101 rfl (by decide) (by omega) (by omega) (fun z_1 hz_1 => ?_)
  refine s_sld E hX hb0 hb (z_in (u := z_1.toInt) rfl (by omega) (by omega)) dL_law_1102 ?_
  refine s_top (y := (xs (i.toInt.toNat + 1))) (congrArg xs (by show z_1.toInt.toNat = _; omega)) ?_
  refine s_xload_n E dL_law_1103 rfl rfl ?_
  refine s_iload_n E dL_law_1104 rfl rfl ?_
  refine s_iconst (v := 2) E dL_law_1105 (by decide) ?_
  refine z_iadd (u := i.toInt) (v := 2) E dL_law_1106 rfl (by decide) (by omega) (by omega) (fun z_2 hz_2 => ?_)
  refine s_sld E hX hb0 hb (z_in (u := z_2.toInt) rfl (by omega) (by omega)) dL_law_1107 ?_
  refine s_top (y := (xs (i.toInt.toNat + 2))) (congrArg xs (by show z_2.toInt.toNat = _; omega)) ?_
  refine s_vI (As := [AI (xs (i.toInt.toNat + 1)), AI (xs (i.toInt.toNat + 2))]) (S := []) E (Z_X9_hands_0 l D aC b w (xs (i.toInt.toNat + 1)) (xs (i.toInt.toNat + 2)) hI) cv_L_126 rfl rfl rfl (jv_lt (jv_rfl hI) (by decide)) (Nat.le_of_ble_eq_true rfl) (Nat.le_of_ble_eq_true rfl) ⟨(Nat.le_of_ble_eq_true rfl), (Nat.le_of_ble_eq_true rfl)⟩ (Nat.le_of_ble_eq_true rfl) dL_law_1108 (fun r_3 u_4 hp_5 => ?_)
  have hI_6 : Iv u_4 := hp_5.2.1
  have hR_7 : RLs u_4 := rl_k hR hp_5.2.2.1
  refine s_popI E dL_law_1111 ?_
  refine s_aload_n E dL_law_1112 rfl rfl ?_
  refine s_xload_n E dL_law_1113 rfl rfl ?_
  refine s_iload_n E dL_law_1114 rfl rfl ?_
  refine s_iconst (v := 1) E dL_law_1115 (by decide) ?_
  refine z_iadd (u := i.toInt) (v := 1) E dL_law_1116 rfl (by decide) (by omega) (by omega) (fun z_8 hz_8 => ?_)
  refine s_sld E hX hb0 hb (z_in (u := z_8.toInt) rfl (by omega) (by omega)) dL_law_1117 ?_
  refine s_top (y := (xs (i.toInt.toNat + 1))) (congrArg xs (by show z_8.toInt.toNat = _; omega)) ?_
  refine s_xload_n E dL_law_1118 rfl rfl ?_
  refine s_iload_n E dL_law_1119 rfl rfl ?_
  refine s_iconst (v := 2) E dL_law_1120 (by decide) ?_
  refine z_iadd (u := i.toInt) (v := 2) E dL_law_1121 rfl (by decide) (by omega) (by omega) (fun z_9 hz_9 => ?_)
  refine s_sld E hX hb0 hb (z_in (u := z_9.toInt) rfl (by omega) (by omega)) dL_law_1122 ?_
  refine s_top (y := (xs (i.toInt.toNat + 2))) (congrArg xs (by show z_9.toInt.toNat = _; omega)) ?_
  refine s_vI (As := [AI (xs (i.toInt.toNat + 1)), AI (xs (i.toInt.toNat + 2))]) (S := []) E (Z_X10_hands_95 l D aC b u_4 (xs (i.toInt.toNat + 1)) (xs (i.toInt.toNat + 2)) hI_6) cv_L_129 rfl rfl rfl (jv_lt (jv_rfl hI_6) (by decide)) (Nat.le_of_ble_eq_true rfl) (Nat.le_of_ble_eq_true rfl) ⟨(Nat.le_of_ble_eq_true rfl), (Nat.le_of_ble_eq_true rfl)⟩ (Nat.le_of_ble_eq_true rfl) dL_law_1123 (fun r_10 u_11 hp_12 => ?_)
  have hI_13 : Iv u_11 := hp_12.2.1
  have hR_14 : RLs u_11 := rl_k hR_7 hp_12.2.2.1
  refine s_popI E dL_law_1126 ?_
  refine s_goto (tgt := 2492) E dL_law_1127 (by decide) ?_
  exact kk u_11 hI_13 hR_14
set_option maxRecDepth 20000 in
set_option maxHeartbeats 2000000 in
theorem lawc_28 {p : Program} {e : Env} {s : State} {m : MethodId} {below : List Frame} {meth : Method} {c : Code} (l : Launch) {b0 b n : Nat} {xs : Nat → Int32} {D : va_G} {aC : Nat → ClassId} (E : EE p s m meth c D aC b 4 cL_law RL ret) (hb : b = s.heap.size) (hX : va_X b0 n xs s s.heap) (hb0 : b0 < s.heap.size) (hn : n ≤ 3072) (w : XW) (hI : Iv w) (hR : RLs w) (i : Int32) (hi : 0 ≤ i.toInt ∧ i.toInt + 6 ≤ (n : Int)) (kk : ∀ u : XW, Iv u → RLs u → Wv p l e room_1 s m #[Value.ref b0] below meth c (lw_Z below #[Value.ref b0] s) D aC b 4 2492 [some (AX (b0 + 1)), some (AR 0), some (AR 95), some (AI i)] [] u 116 6683) : Wv p l e room_1 s m #[Value.ref b0] below meth c (lw_Z below #[Value.ref b0] s) D aC b 4 1130 [some (AX (b0 + 1)), some (AR 0), some (AR 95), some (AI i)] [] w 116 6683 := by
  refine s_aload_n E dL_law_1130 rfl rfl ?_
  refine s_vI (As := []) (S := []) E (Z_X9_dummies_0 l D aC b w  hI) cv_L_130 rfl rfl rfl (jv_lt (jv_rfl hI) (by decide)) (Nat.le_of_ble_eq_true rfl) (Nat.le_of_ble_eq_true rfl) ⟨(Nat.le_of_ble_eq_true rfl), (Nat.le_of_ble_eq_true rfl)⟩ (Nat.le_of_ble_eq_true rfl) dL_law_1131 (fun r_1 u_2 hp_3 => ?_)
  have hI_4 : Iv u_2 := hp_3.2.1
  have hR_5 : RLs u_2 := rl_k hR hp_3.2.2.1
  refine s_popI E dL_law_1134 ?_
  refine s_aload_n E dL_law_1135 rfl rfl ?_
  refine s_vI (As := []) (S := []) E (Z_X10_dummies_95 l D aC b u_2  hI_4) cv_L_133 rfl rfl rfl (jv_lt (jv_rfl hI_4) (by decide)) (Nat.le_of_ble_eq_true rfl) (Nat.le_of_ble_eq_true rfl) ⟨(Nat.le_of_ble_eq_true rfl), (Nat.le_of_ble_eq_true rfl)⟩ (Nat.le_of_ble_eq_true rfl) dL_law_1136 (fun r_6 u_7 hp_8 => ?_)
  have hI_9 : Iv u_7 := hp_8.2.1
  have hR_10 : RLs u_7 := rl_k hR_5 hp_8.2.2.1
  refine s_popI E dL_law_1139 ?_
  refine s_goto (tgt := 2492) E dL_law_1140 (by decide) ?_
  exact kk u_7 hI_9 hR_10
set_option maxRecDepth 20000 in
set_option maxHeartbeats 2000000 in
theorem lawc_29 {p : Program} {e : Env} {s : State} {m : MethodId} {below : List Frame} {meth : Method} {c : Code} (l : Launch) {b0 b n : Nat} {xs : Nat → Int32} {D : va_G} {aC : Nat → ClassId} (E : EE p s m meth c D aC b 4 cL_law RL ret) (hb : b = s.heap.size) (hX : va_X b0 n xs s s.heap) (hb0 : b0 < s.heap.size) (hn : n ≤ 3072) (w : XW) (hI : Iv w) (hR : RLs w) (i : Int32) (hi : 0 ≤ i.toInt ∧ i.toInt + 6 ≤ (n : Int)) (kk : ∀ u : XW, Iv u → RLs u → Wv p l e room_1 s m #[Value.ref b0] below meth c (lw_Z below #[Value.ref b0] s) D aC b 4 2492 [some (AX (b0 + 1)), some (AR 0), some (AR 95), some (AI i)] [] u 116 6683) : Wv p l e room_1 s m #[Value.ref b0] below meth c (lw_Z below #[Value.ref b0] s) D aC b 4 1143 [some (AX (b0 + 1)), some (AR 0), some (AR 95), some (AI i)] [] w 116 6683 := by
  refine s_aload_n E dL_law_1143 rfl rfl ?_
  refine s_xload_n E dL_law_1144 rfl rfl ?_
  refine s_iload_n E dL_law_1145 rfl rfl ?_
  refine s_iconst (v := 1) E dL_law_1146 (by decide) ?_
  refine z_iadd (u := i.toInt) (v := 1) E dL_law_1147 rfl (by decide) (by omega) (by omega) (fun z_1 hz_1 => ?_)
  refine s_sld E hX hb0 hb (z_in (u := z_1.toInt) rfl (by omega) (by omega)) dL_law_1148 ?_
  refine s_top (y := (xs (i.toInt.toNat + 1))) (congrArg xs (by show z_1.toInt.toNat = _; omega)) ?_
  refine s_vI (As := [AI (xs (i.toInt.toNat + 1))]) (S := []) E (Z_X9_blocks_0 l D aC b w (xs (i.toInt.toNat + 1)) hI) cv_L_134 rfl rfl rfl (jv_lt (jv_rfl hI) (by decide)) (Nat.le_of_ble_eq_true rfl) (Nat.le_of_ble_eq_true rfl) ⟨(Nat.le_of_ble_eq_true rfl), (Nat.le_of_ble_eq_true rfl)⟩ (Nat.le_of_ble_eq_true rfl) dL_law_1149 (fun r_2 u_3 hp_4 => ?_)
  have hI_5 : Iv u_3 := hp_4.2.1
  have hR_6 : RLs u_3 := rl_k hR hp_4.2.2.1
  refine s_popI E dL_law_1152 ?_
  refine s_aload_n E dL_law_1153 rfl rfl ?_
  refine s_xload_n E dL_law_1154 rfl rfl ?_
  refine s_iload_n E dL_law_1155 rfl rfl ?_
  refine s_iconst (v := 1) E dL_law_1156 (by decide) ?_
  refine z_iadd (u := i.toInt) (v := 1) E dL_law_1157 rfl (by decide) (by omega) (by omega) (fun z_7 hz_7 => ?_)
  refine s_sld E hX hb0 hb (z_in (u := z_7.toInt) rfl (by omega) (by omega)) dL_law_1158 ?_
  refine s_top (y := (xs (i.toInt.toNat + 1))) (congrArg xs (by show z_7.toInt.toNat = _; omega)) ?_
  refine s_vI (As := [AI (xs (i.toInt.toNat + 1))]) (S := []) E (Z_X10_blocks_95 l D aC b u_3 (xs (i.toInt.toNat + 1)) hI_5) cv_L_137 rfl rfl rfl (jv_lt (jv_rfl hI_5) (by decide)) (Nat.le_of_ble_eq_true rfl) (Nat.le_of_ble_eq_true rfl) ⟨(Nat.le_of_ble_eq_true rfl), (Nat.le_of_ble_eq_true rfl)⟩ (Nat.le_of_ble_eq_true rfl) dL_law_1159 (fun r_8 u_9 hp_10 => ?_)
  have hI_11 : Iv u_9 := hp_10.2.1
  have hR_12 : RLs u_9 := rl_k hR_6 hp_10.2.2.1
  refine s_popI E dL_law_1162 ?_
  refine s_goto (tgt := 2492) E dL_law_1163 (by decide) ?_
  exact kk u_9 hI_11 hR_12
set_option maxRecDepth 20000 in
set_option maxHeartbeats 2000000 in
theorem lawc_30 {p : Program} {e : Env} {s : State} {m : MethodId} {below : List Frame} {meth : Method} {c : Code} (l : Launch) {b0 b n : Nat} {xs : Nat → Int32} {D : va_G} {aC : Nat → ClassId} (E : EE p s m meth c D aC b 4 cL_law RL ret) (hb : b = s.heap.size) (hX : va_X b0 n xs s s.heap) (hb0 : b0 < s.heap.size) (hn : n ≤ 3072) (w : XW) (hI : Iv w) (hR : RLs w) (i : Int32) (hi : 0 ≤ i.toInt ∧ i.toInt + 6 ≤ (n : Int)) (kk : ∀ u : XW, Iv u → RLs u → Wv p l e room_1 s m #[Value.ref b0] below meth c (lw_Z below #[Value.ref b0] s) D aC b 4 2492 [some (AX (b0 + 1)), some (AR 0), some (AR 95), some (AI i)] [] u 116 6683) : Wv p l e room_1 s m #[Value.ref b0] below meth c (lw_Z below #[Value.ref b0] s) D aC b 4 1166 [some (AX (b0 + 1)), some (AR 0), some (AR 95), some (AI i)] [] w 116 6683 := by
  refine s_aload_n E dL_law_1166 rfl rfl ?_
  refine s_vI (As := []) (S := []) E (Z_X9_strongest_0 l D aC b w  hI) cv_L_138 rfl rfl rfl (jv_lt (jv_rfl hI) (by decide)) (Nat.le_of_ble_eq_true rfl) (Nat.le_of_ble_eq_true rfl) ⟨(Nat.le_of_ble_eq_true rfl), (Nat.le_of_ble_eq_true rfl)⟩ (Nat.le_of_ble_eq_true rfl) dL_law_1167 (fun r_1 u_2 hp_3 => ?_)
  have hI_4 : Iv u_2 := hp_3.2.1
  have hR_5 : RLs u_2 := rl_k hR hp_3.2.2.1
  refine s_popI E dL_law_1170 ?_
  refine s_aload_n E dL_law_1171 rfl rfl ?_
  refine s_vI (As := []) (S := []) E (Z_X10_strongest_95 l D aC b u_2  hI_4) cv_L_141 rfl rfl rfl (jv_lt (jv_rfl hI_4) (by decide)) (Nat.le_of_ble_eq_true rfl) (Nat.le_of_ble_eq_true rfl) ⟨(Nat.le_of_ble_eq_true rfl), (Nat.le_of_ble_eq_true rfl)⟩ (Nat.le_of_ble_eq_true rfl) dL_law_1172 (fun r_6 u_7 hp_8 => ?_)
  have hI_9 : Iv u_7 := hp_8.2.1
  have hR_10 : RLs u_7 := rl_k hR_5 hp_8.2.2.1
  refine s_popI E dL_law_1175 ?_
  refine s_goto (tgt := 2492) E dL_law_1176 (by decide) ?_
  exact kk u_7 hI_9 hR_10
set_option maxRecDepth 20000 in
set_option maxHeartbeats 2000000 in
theorem lawc_31 {p : Program} {e : Env} {s : State} {m : MethodId} {below : List Frame} {meth : Method} {c : Code} (l : Launch) {b0 b n : Nat} {xs : Nat → Int32} {D : va_G} {aC : Nat → ClassId} (E : EE p s m meth c D aC b 4 cL_law RL ret) (hb : b = s.heap.size) (hX : va_X b0 n xs s s.heap) (hb0 : b0 < s.heap.size) (hn : n ≤ 3072) (w : XW) (hI : Iv w) (hR : RLs w) (i : Int32) (hi : 0 ≤ i.toInt ∧ i.toInt + 6 ≤ (n : Int)) (kk : ∀ u : XW, Iv u → RLs u → Wv p l e room_1 s m #[Value.ref b0] below meth c (lw_Z below #[Value.ref b0] s) D aC b 4 2492 [some (AX (b0 + 1)), some (AR 0), some (AR 95), some (AI i)] [] u 116 6683) : Wv p l e room_1 s m #[Value.ref b0] below meth c (lw_Z below #[Value.ref b0] s) D aC b 4 1179 [some (AX (b0 + 1)), some (AR 0), some (AR 95), some (AI i)] [] w 116 6683 := by
  refine s_aload_n E dL_law_1179 rfl rfl ?_
  refine s_xload_n E dL_law_1180 rfl rfl ?_
  refine s_iload_n E dL_law_1181 rfl rfl ?_
  refine s_iconst (v := 1) E dL_law_1182 (by decide) ?_
  refine z_iadd (u := i.toInt) (v := 1) E dL_law_1183 rfl (by decide) (by omega) (by omega) (fun z_1 hz_1 => ?_)
  refine s_sld E hX hb0 hb (z_in (u := z_1.toInt) rfl (by omega) (by omega)) dL_law_1184 ?_
  refine s_top (y := (xs (i.toInt.toNat + 1))) (congrArg xs (by show z_1.toInt.toNat = _; omega)) ?_
  refine s_xload_n E dL_law_1185 rfl rfl ?_
  refine s_iload_n E dL_law_1186 rfl rfl ?_
  refine s_iconst (v := 2) E dL_law_1187 (by decide) ?_
  refine z_iadd (u := i.toInt) (v := 2) E dL_law_1188 rfl (by decide) (by omega) (by omega) (fun z_2 hz_2 => ?_)
  refine s_sld E hX hb0 hb (z_in (u := z_2.toInt) rfl (by omega) (by omega)) dL_law_1189 ?_
  refine s_top (y := (xs (i.toInt.toNat + 2))) (congrArg xs (by show z_2.toInt.toNat = _; omega)) ?_
  refine s_vI (As := [AI (xs (i.toInt.toNat + 1)), AI (xs (i.toInt.toNat + 2))]) (S := []) E (Z_X9_have_0 l D aC b w (xs (i.toInt.toNat + 1)) (xs (i.toInt.toNat + 2)) hI) cv_L_142 rfl rfl rfl (jv_lt (jv_rfl hI) (by decide)) (Nat.le_of_ble_eq_true rfl) (Nat.le_of_ble_eq_true rfl) ⟨(Nat.le_of_ble_eq_true rfl), (Nat.le_of_ble_eq_true rfl)⟩ (Nat.le_of_ble_eq_true rfl) dL_law_1190 (fun r_3 u_4 hp_5 => ?_)
  have hI_6 : Iv u_4 := hp_5.2.1
  have hR_7 : RLs u_4 := rl_k hR hp_5.2.2.1
  refine s_popI E dL_law_1193 ?_
  refine s_aload_n E dL_law_1194 rfl rfl ?_
  refine s_xload_n E dL_law_1195 rfl rfl ?_
  refine s_iload_n E dL_law_1196 rfl rfl ?_
  refine s_iconst (v := 1) E dL_law_1197 (by decide) ?_
  refine z_iadd (u := i.toInt) (v := 1) E dL_law_1198 rfl (by decide) (by omega) (by omega) (fun z_8 hz_8 => ?_)
  refine s_sld E hX hb0 hb (z_in (u := z_8.toInt) rfl (by omega) (by omega)) dL_law_1199 ?_
  refine s_top (y := (xs (i.toInt.toNat + 1))) (congrArg xs (by show z_8.toInt.toNat = _; omega)) ?_
  refine s_xload_n E dL_law_1200 rfl rfl ?_
  refine s_iload_n E dL_law_1201 rfl rfl ?_
  refine s_iconst (v := 2) E dL_law_1202 (by decide) ?_
  refine z_iadd (u := i.toInt) (v := 2) E dL_law_1203 rfl (by decide) (by omega) (by omega) (fun z_9 hz_9 => ?_)
  refine s_sld E hX hb0 hb (z_in (u := z_9.toInt) rfl (by omega) (by omega)) dL_law_1204 ?_
  refine s_top (y := (xs (i.toInt.toNat + 2))) (congrArg xs (by show z_9.toInt.toNat = _; omega)) ?_
  refine s_vI (As := [AI (xs (i.toInt.toNat + 1)), AI (xs (i.toInt.toNat + 2))]) (S := []) E (Z_X10_have_95 l D aC b u_4 (xs (i.toInt.toNat + 1)) (xs (i.toInt.toNat + 2)) hI_6) cv_L_145 rfl rfl rfl (jv_lt (jv_rfl hI_6) (by decide)) (Nat.le_of_ble_eq_true rfl) (Nat.le_of_ble_eq_true rfl) ⟨(Nat.le_of_ble_eq_true rfl), (Nat.le_of_ble_eq_true rfl)⟩ (Nat.le_of_ble_eq_true rfl) dL_law_1205 (fun r_10 u_11 hp_12 => ?_)
  have hI_13 : Iv u_11 := hp_12.2.1
  have hR_14 : RLs u_11 := rl_k hR_7 hp_12.2.2.1
  refine s_popI E dL_law_1208 ?_
  refine s_goto (tgt := 2492) E dL_law_1209 (by decide) ?_
  exact kk u_11 hI_13 hR_14
set_option maxRecDepth 20000 in
set_option maxHeartbeats 2000000 in
theorem lawc_32 {p : Program} {e : Env} {s : State} {m : MethodId} {below : List Frame} {meth : Method} {c : Code} (l : Launch) {b0 b n : Nat} {xs : Nat → Int32} {D : va_G} {aC : Nat → ClassId} (E : EE p s m meth c D aC b 4 cL_law RL ret) (hb : b = s.heap.size) (hX : va_X b0 n xs s s.heap) (hb0 : b0 < s.heap.size) (hn : n ≤ 3072) (w : XW) (hI : Iv w) (hR : RLs w) (i : Int32) (hi : 0 ≤ i.toInt ∧ i.toInt + 6 ≤ (n : Int)) (kk : ∀ u : XW, Iv u → RLs u → Wv p l e room_1 s m #[Value.ref b0] below meth c (lw_Z below #[Value.ref b0] s) D aC b 4 2492 [some (AX (b0 + 1)), some (AR 0), some (AR 95), some (AI i)] [] u 116 6683) : Wv p l e room_1 s m #[Value.ref b0] below meth c (lw_Z below #[Value.ref b0] s) D aC b 4 1212 [some (AX (b0 + 1)), some (AR 0), some (AR 95), some (AI i)] [] w 116 6683 := by
  refine s_aload_n E dL_law_1212 rfl rfl ?_
  refine s_xload_n E dL_law_1213 rfl rfl ?_
  refine s_iload_n E dL_law_1214 rfl rfl ?_
  refine s_iconst (v := 1) E dL_law_1215 (by decide) ?_
  refine z_iadd (u := i.toInt) (v := 1) E dL_law_1216 rfl (by decide) (by omega) (by omega) (fun z_1 hz_1 => ?_)
  refine s_sld E hX hb0 hb (z_in (u := z_1.toInt) rfl (by omega) (by omega)) dL_law_1217 ?_
  refine s_top (y := (xs (i.toInt.toNat + 1))) (congrArg xs (by show z_1.toInt.toNat = _; omega)) ?_
  refine s_xload_n E dL_law_1218 rfl rfl ?_
  refine s_iload_n E dL_law_1219 rfl rfl ?_
  refine s_iconst (v := 2) E dL_law_1220 (by decide) ?_
  refine z_iadd (u := i.toInt) (v := 2) E dL_law_1221 rfl (by decide) (by omega) (by omega) (fun z_2 hz_2 => ?_)
  refine s_sld E hX hb0 hb (z_in (u := z_2.toInt) rfl (by omega) (by omega)) dL_law_1222 ?_
  refine s_top (y := (xs (i.toInt.toNat + 2))) (congrArg xs (by show z_2.toInt.toNat = _; omega)) ?_
  refine s_vI (As := [AI (xs (i.toInt.toNat + 1)), AI (xs (i.toInt.toNat + 2))]) (S := []) E (Z_X9_gets_0 l D aC b w (xs (i.toInt.toNat + 1)) (xs (i.toInt.toNat + 2)) hI) cv_L_146 rfl rfl rfl (jv_lt (jv_rfl hI) (by decide)) (Nat.le_of_ble_eq_true rfl) (Nat.le_of_ble_eq_true rfl) ⟨(Nat.le_of_ble_eq_true rfl), (Nat.le_of_ble_eq_true rfl)⟩ (Nat.le_of_ble_eq_true rfl) dL_law_1223 (fun r_3 u_4 hp_5 => ?_)
  have hI_6 : Iv u_4 := hp_5.2.1
  have hR_7 : RLs u_4 := rl_k hR hp_5.2.2.1
  refine s_popI E dL_law_1226 ?_
  refine s_aload_n E dL_law_1227 rfl rfl ?_
  refine s_xload_n E dL_law_1228 rfl rfl ?_
  refine s_iload_n E dL_law_1229 rfl rfl ?_
  refine s_iconst (v := 1) E dL_law_1230 (by decide) ?_
  refine z_iadd (u := i.toInt) (v := 1) E dL_law_1231 rfl (by decide) (by omega) (by omega) (fun z_8 hz_8 => ?_)
  refine s_sld E hX hb0 hb (z_in (u := z_8.toInt) rfl (by omega) (by omega)) dL_law_1232 ?_
  refine s_top (y := (xs (i.toInt.toNat + 1))) (congrArg xs (by show z_8.toInt.toNat = _; omega)) ?_
  refine s_xload_n E dL_law_1233 rfl rfl ?_
  refine s_iload_n E dL_law_1234 rfl rfl ?_
  refine s_iconst (v := 2) E dL_law_1235 (by decide) ?_
  refine z_iadd (u := i.toInt) (v := 2) E dL_law_1236 rfl (by decide) (by omega) (by omega) (fun z_9 hz_9 => ?_)
  refine s_sld E hX hb0 hb (z_in (u := z_9.toInt) rfl (by omega) (by omega)) dL_law_1237 ?_
  refine s_top (y := (xs (i.toInt.toNat + 2))) (congrArg xs (by show z_9.toInt.toNat = _; omega)) ?_
  refine s_vI (As := [AI (xs (i.toInt.toNat + 1)), AI (xs (i.toInt.toNat + 2))]) (S := []) E (Z_X10_gets_95 l D aC b u_4 (xs (i.toInt.toNat + 1)) (xs (i.toInt.toNat + 2)) hI_6) cv_L_149 rfl rfl rfl (jv_lt (jv_rfl hI_6) (by decide)) (Nat.le_of_ble_eq_true rfl) (Nat.le_of_ble_eq_true rfl) ⟨(Nat.le_of_ble_eq_true rfl), (Nat.le_of_ble_eq_true rfl)⟩ (Nat.le_of_ble_eq_true rfl) dL_law_1238 (fun r_10 u_11 hp_12 => ?_)
  have hI_13 : Iv u_11 := hp_12.2.1
  have hR_14 : RLs u_11 := rl_k hR_7 hp_12.2.2.1
  refine s_popI E dL_law_1241 ?_
  refine s_goto (tgt := 2492) E dL_law_1242 (by decide) ?_
  exact kk u_11 hI_13 hR_14
set_option maxRecDepth 20000 in
set_option maxHeartbeats 2000000 in
theorem lawc_33 {p : Program} {e : Env} {s : State} {m : MethodId} {below : List Frame} {meth : Method} {c : Code} (l : Launch) {b0 b n : Nat} {xs : Nat → Int32} {D : va_G} {aC : Nat → ClassId} (E : EE p s m meth c D aC b 4 cL_law RL ret) (hb : b = s.heap.size) (hX : va_X b0 n xs s s.heap) (hb0 : b0 < s.heap.size) (hn : n ≤ 3072) (w : XW) (hI : Iv w) (hR : RLs w) (i : Int32) (hi : 0 ≤ i.toInt ∧ i.toInt + 6 ≤ (n : Int)) (kk : ∀ u : XW, Iv u → RLs u → Wv p l e room_1 s m #[Value.ref b0] below meth c (lw_Z below #[Value.ref b0] s) D aC b 4 2492 [some (AX (b0 + 1)), some (AR 0), some (AR 95), some (AI i)] [] u 116 6683) : Wv p l e room_1 s m #[Value.ref b0] below meth c (lw_Z below #[Value.ref b0] s) D aC b 4 1245 [some (AX (b0 + 1)), some (AR 0), some (AR 95), some (AI i)] [] w 116 6683 := by
  refine s_aload_n E dL_law_1245 rfl rfl ?_
  refine s_xload_n E dL_law_1246 rfl rfl ?_
  refine s_iload_n E dL_law_1247 rfl rfl ?_
  refine s_iconst (v := 1) E dL_law_1248 (by decide) ?_
  refine z_iadd (u := i.toInt) (v := 1) E dL_law_1249 rfl (by decide) (by omega) (by omega) (fun z_1 hz_1 => ?_)
  refine s_sld E hX hb0 hb (z_in (u := z_1.toInt) rfl (by omega) (by omega)) dL_law_1250 ?_
  refine s_top (y := (xs (i.toInt.toNat + 1))) (congrArg xs (by show z_1.toInt.toNat = _; omega)) ?_
  refine s_xload_n E dL_law_1251 rfl rfl ?_
  refine s_iload_n E dL_law_1252 rfl rfl ?_
  refine s_iconst (v := 2) E dL_law_1253 (by decide) ?_
  refine z_iadd (u := i.toInt) (v := 2) E dL_law_1254 rfl (by decide) (by omega) (by omega) (fun z_2 hz_2 => ?_)
  refine s_sld E hX hb0 hb (z_in (u := z_2.toInt) rfl (by omega) (by omega)) dL_law_1255 ?_
  refine s_top (y := (xs (i.toInt.toNat + 2))) (congrArg xs (by show z_2.toInt.toNat = _; omega)) ?_
  refine s_vI (As := [AI (xs (i.toInt.toNat + 1)), AI (xs (i.toInt.toNat + 2))]) (S := []) E (Z_X9_from_0 l D aC b w (xs (i.toInt.toNat + 1)) (xs (i.toInt.toNat + 2)) hI) cv_L_150 rfl rfl rfl (jv_lt (jv_rfl hI) (by decide)) (Nat.le_of_ble_eq_true rfl) (Nat.le_of_ble_eq_true rfl) ⟨(Nat.le_of_ble_eq_true rfl), (Nat.le_of_ble_eq_true rfl)⟩ (Nat.le_of_ble_eq_true rfl) dL_law_1256 (fun r_3 u_4 hp_5 => ?_)
  have hI_6 : Iv u_4 := hp_5.2.1
  have hR_7 : RLs u_4 := rl_k hR hp_5.2.2.1
  refine s_popI E dL_law_1259 ?_
  refine s_aload_n E dL_law_1260 rfl rfl ?_
  refine s_xload_n E dL_law_1261 rfl rfl ?_
  refine s_iload_n E dL_law_1262 rfl rfl ?_
  refine s_iconst (v := 1) E dL_law_1263 (by decide) ?_
  refine z_iadd (u := i.toInt) (v := 1) E dL_law_1264 rfl (by decide) (by omega) (by omega) (fun z_8 hz_8 => ?_)
  refine s_sld E hX hb0 hb (z_in (u := z_8.toInt) rfl (by omega) (by omega)) dL_law_1265 ?_
  refine s_top (y := (xs (i.toInt.toNat + 1))) (congrArg xs (by show z_8.toInt.toNat = _; omega)) ?_
  refine s_xload_n E dL_law_1266 rfl rfl ?_
  refine s_iload_n E dL_law_1267 rfl rfl ?_
  refine s_iconst (v := 2) E dL_law_1268 (by decide) ?_
  refine z_iadd (u := i.toInt) (v := 2) E dL_law_1269 rfl (by decide) (by omega) (by omega) (fun z_9 hz_9 => ?_)
  refine s_sld E hX hb0 hb (z_in (u := z_9.toInt) rfl (by omega) (by omega)) dL_law_1270 ?_
  refine s_top (y := (xs (i.toInt.toNat + 2))) (congrArg xs (by show z_9.toInt.toNat = _; omega)) ?_
  refine s_vI (As := [AI (xs (i.toInt.toNat + 1)), AI (xs (i.toInt.toNat + 2))]) (S := []) E (Z_X10_from_95 l D aC b u_4 (xs (i.toInt.toNat + 1)) (xs (i.toInt.toNat + 2)) hI_6) cv_L_153 rfl rfl rfl (jv_lt (jv_rfl hI_6) (by decide)) (Nat.le_of_ble_eq_true rfl) (Nat.le_of_ble_eq_true rfl) ⟨(Nat.le_of_ble_eq_true rfl), (Nat.le_of_ble_eq_true rfl)⟩ (Nat.le_of_ble_eq_true rfl) dL_law_1271 (fun r_10 u_11 hp_12 => ?_)
  have hI_13 : Iv u_11 := hp_12.2.1
  have hR_14 : RLs u_11 := rl_k hR_7 hp_12.2.2.1
  refine s_popI E dL_law_1274 ?_
  refine s_goto (tgt := 2492) E dL_law_1275 (by decide) ?_
  exact kk u_11 hI_13 hR_14
set_option maxRecDepth 20000 in
set_option maxHeartbeats 2000000 in
theorem lawc_34 {p : Program} {e : Env} {s : State} {m : MethodId} {below : List Frame} {meth : Method} {c : Code} (l : Launch) {b0 b n : Nat} {xs : Nat → Int32} {D : va_G} {aC : Nat → ClassId} (E : EE p s m meth c D aC b 4 cL_law RL ret) (hb : b = s.heap.size) (hX : va_X b0 n xs s s.heap) (hb0 : b0 < s.heap.size) (hn : n ≤ 3072) (w : XW) (hI : Iv w) (hR : RLs w) (i : Int32) (hi : 0 ≤ i.toInt ∧ i.toInt + 6 ≤ (n : Int)) (kk : ∀ u : XW, Iv u → RLs u → Wv p l e room_1 s m #[Value.ref b0] below meth c (lw_Z below #[Value.ref b0] s) D aC b 4 2492 [some (AX (b0 + 1)), some (AR 0), some (AR 95), some (AI i)] [] u 116 6683) : Wv p l e room_1 s m #[Value.ref b0] below meth c (lw_Z below #[Value.ref b0] s) D aC b 4 1278 [some (AX (b0 + 1)), some (AR 0), some (AR 95), some (AI i)] [] w 116 6683 := by
  refine s_aload_n E dL_law_1278 rfl rfl ?_
  refine s_xload_n E dL_law_1279 rfl rfl ?_
  refine s_iload_n E dL_law_1280 rfl rfl ?_
  refine s_iconst (v := 1) E dL_law_1281 (by decide) ?_
  refine z_iadd (u := i.toInt) (v := 1) E dL_law_1282 rfl (by decide) (by omega) (by omega) (fun z_1 hz_1 => ?_)
  refine s_sld E hX hb0 hb (z_in (u := z_1.toInt) rfl (by omega) (by omega)) dL_law_1283 ?_
  refine s_top (y := (xs (i.toInt.toNat + 1))) (congrArg xs (by show z_1.toInt.toNat = _; omega)) ?_
  refine s_vI (As := [AI (xs (i.toInt.toNat + 1))]) (S := []) E (Z_X9_all_0 l D aC b w (xs (i.toInt.toNat + 1)) hI) cv_L_154 rfl rfl rfl (jv_lt (jv_rfl hI) (by decide)) (Nat.le_of_ble_eq_true rfl) (Nat.le_of_ble_eq_true rfl) ⟨(Nat.le_of_ble_eq_true rfl), (Nat.le_of_ble_eq_true rfl)⟩ (Nat.le_of_ble_eq_true rfl) dL_law_1284 (fun r_2 u_3 hp_4 => ?_)
  have hI_5 : Iv u_3 := hp_4.2.1
  have hR_6 : RLs u_3 := rl_k hR hp_4.2.2.1
  refine s_popI E dL_law_1287 ?_
  refine s_aload_n E dL_law_1288 rfl rfl ?_
  refine s_xload_n E dL_law_1289 rfl rfl ?_
  refine s_iload_n E dL_law_1290 rfl rfl ?_
  refine s_iconst (v := 1) E dL_law_1291 (by decide) ?_
  refine z_iadd (u := i.toInt) (v := 1) E dL_law_1292 rfl (by decide) (by omega) (by omega) (fun z_7 hz_7 => ?_)
  refine s_sld E hX hb0 hb (z_in (u := z_7.toInt) rfl (by omega) (by omega)) dL_law_1293 ?_
  refine s_top (y := (xs (i.toInt.toNat + 1))) (congrArg xs (by show z_7.toInt.toNat = _; omega)) ?_
  refine s_vI (As := [AI (xs (i.toInt.toNat + 1))]) (S := []) E (Z_X10_all_95 l D aC b u_3 (xs (i.toInt.toNat + 1)) hI_5) cv_L_157 rfl rfl rfl (jv_lt (jv_rfl hI_5) (by decide)) (Nat.le_of_ble_eq_true rfl) (Nat.le_of_ble_eq_true rfl) ⟨(Nat.le_of_ble_eq_true rfl), (Nat.le_of_ble_eq_true rfl)⟩ (Nat.le_of_ble_eq_true rfl) dL_law_1294 (fun r_8 u_9 hp_10 => ?_)
  have hI_11 : Iv u_9 := hp_10.2.1
  have hR_12 : RLs u_9 := rl_k hR_6 hp_10.2.2.1
  refine s_popI E dL_law_1297 ?_
  refine s_goto (tgt := 2492) E dL_law_1298 (by decide) ?_
  exact kk u_9 hI_11 hR_12
set_option maxRecDepth 20000 in
set_option maxHeartbeats 2000000 in
theorem lawc_35 {p : Program} {e : Env} {s : State} {m : MethodId} {below : List Frame} {meth : Method} {c : Code} (l : Launch) {b0 b n : Nat} {xs : Nat → Int32} {D : va_G} {aC : Nat → ClassId} (E : EE p s m meth c D aC b 4 cL_law RL ret) (hb : b = s.heap.size) (hX : va_X b0 n xs s s.heap) (hb0 : b0 < s.heap.size) (hn : n ≤ 3072) (w : XW) (hI : Iv w) (hR : RLs w) (i : Int32) (hi : 0 ≤ i.toInt ∧ i.toInt + 6 ≤ (n : Int)) (kk : ∀ u : XW, Iv u → RLs u → Wv p l e room_1 s m #[Value.ref b0] below meth c (lw_Z below #[Value.ref b0] s) D aC b 4 2492 [some (AX (b0 + 1)), some (AR 0), some (AR 95), some (AI i)] [] u 116 6683) : Wv p l e room_1 s m #[Value.ref b0] below meth c (lw_Z below #[Value.ref b0] s) D aC b 4 1301 [some (AX (b0 + 1)), some (AR 0), some (AR 95), some (AI i)] [] w 116 6683 := by
  refine s_aload_n E dL_law_1301 rfl rfl ?_
  refine s_vI (As := []) (S := []) E (Z_X9_best_0 l D aC b w  hI) cv_L_158 rfl rfl rfl (jv_lt (jv_rfl hI) (by decide)) (Nat.le_of_ble_eq_true rfl) (Nat.le_of_ble_eq_true rfl) ⟨(Nat.le_of_ble_eq_true rfl), (Nat.le_of_ble_eq_true rfl)⟩ (Nat.le_of_ble_eq_true rfl) dL_law_1302 (fun r_1 u_2 hp_3 => ?_)
  have hI_4 : Iv u_2 := hp_3.2.1
  have hR_5 : RLs u_2 := rl_k hR hp_3.2.2.1
  refine s_popI E dL_law_1305 ?_
  refine s_aload_n E dL_law_1306 rfl rfl ?_
  refine s_vI (As := []) (S := []) E (Z_X10_best_95 l D aC b u_2  hI_4) cv_L_161 rfl rfl rfl (jv_lt (jv_rfl hI_4) (by decide)) (Nat.le_of_ble_eq_true rfl) (Nat.le_of_ble_eq_true rfl) ⟨(Nat.le_of_ble_eq_true rfl), (Nat.le_of_ble_eq_true rfl)⟩ (Nat.le_of_ble_eq_true rfl) dL_law_1307 (fun r_6 u_7 hp_8 => ?_)
  have hI_9 : Iv u_7 := hp_8.2.1
  have hR_10 : RLs u_7 := rl_k hR_5 hp_8.2.2.1
  refine s_popI E dL_law_1310 ?_
  refine s_goto (tgt := 2492) E dL_law_1311 (by decide) ?_
  exact kk u_7 hI_9 hR_10
