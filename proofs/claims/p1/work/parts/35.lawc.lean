set_option maxRecDepth 20000 in
set_option maxHeartbeats 2000000 in
theorem lawc_24 {p : Program} {e : Env} {s : State} {m : MethodId} {below : List Frame} {meth : Method} {c : Code} (l : Launch) {b0 b : Nat} {xs : Nat → Int32} {D : va_G} {aC : Nat → ClassId} (E : EE p s m meth c D aC b 4 cL_law RL ret) (hb : b = s.heap.size) (hX : va_X b0 6 xs s s.heap) (hb0 : b0 < s.heap.size) : Wv p l e room_1 s m #[Value.ref b0] below meth c (lw_Z below #[Value.ref b0] s) D aC b 4 1028 [some (AX b0), some (AR 0), some (AR 95), some (AI 0)] [] wv_318 116 6683 := by
  refine s_aload_n E dL_law_1028 rfl rfl ?_
  refine s_xload_n E dL_law_1029 rfl rfl ?_
  refine s_iload_n E dL_law_1030 rfl rfl ?_
  refine s_iconst (v := 1) E dL_law_1031 (by decide) ?_
  refine s_iadd E dL_law_1032 ?_
  refine s_top (y := 1) (by decide) ?_
  refine s_sld E hX hb0 hb (vp_c (by decide)) dL_law_1033 ?_
  refine s_top (y := (xs 1)) (congrArg xs (by decide)) ?_
  refine s_vI (As := [AI (xs 1)]) (S := []) E (K_X9_waits_0_CRMS l D aC b wv_318 ((xs 1)) FrC_0 RfC_0 FrM_0 RfM_0) cv_L_114 rfl rfl rfl (ltn FrC_0.1 (by decide)) (Nat.le_of_ble_eq_true rfl) (Nat.le_of_ble_eq_true rfl) ⟨(Nat.le_of_ble_eq_true rfl), (Nat.le_of_ble_eq_true rfl)⟩ (Nat.le_of_ble_eq_true rfl) dL_law_1034 (fun r u hp => ?_)
  obtain ⟨rfl, rfl⟩ := hp
  refine s_aload_n E dL_law_1037 rfl rfl ?_
  refine s_xload_n E dL_law_1038 rfl rfl ?_
  refine s_iload_n E dL_law_1039 rfl rfl ?_
  refine s_iconst (v := 1) E dL_law_1040 (by decide) ?_
  refine s_iadd E dL_law_1041 ?_
  refine s_top (y := 1) (by decide) ?_
  refine s_sld E hX hb0 hb (vp_c (by decide)) dL_law_1042 ?_
  refine s_top (y := (xs 1)) (congrArg xs (by decide)) ?_
  refine s_vI (As := [AI (xs 1)]) (S := [AI (-2)]) E (K_X10_waits_95_MS l D aC b wv_318 ((xs 1)) FrM_0 RfM_0) cv_L_117 rfl rfl rfl (ltn FrC_0.1 (by decide)) (Nat.le_of_ble_eq_true rfl) (Nat.le_of_ble_eq_true rfl) ⟨(Nat.le_of_ble_eq_true rfl), (Nat.le_of_ble_eq_true rfl)⟩ (Nat.le_of_ble_eq_true rfl) dL_law_1043 (fun r u_1 hp => ?_)
  obtain ⟨rfl, hu_1, hu_2⟩ := hp
  refine s_icmp_eq (tgt := 2494) E dL_law_1046 (by decide) (fun _ => ?_) (fun hh => absurd (by decide) hh)
  exact law_tail l E hb hX hb0 u_1
set_option maxRecDepth 20000 in
set_option maxHeartbeats 2000000 in
theorem lawc_25 {p : Program} {e : Env} {s : State} {m : MethodId} {below : List Frame} {meth : Method} {c : Code} (l : Launch) {b0 b : Nat} {xs : Nat → Int32} {D : va_G} {aC : Nat → ClassId} (E : EE p s m meth c D aC b 4 cL_law RL ret) (hb : b = s.heap.size) (hX : va_X b0 6 xs s s.heap) (hb0 : b0 < s.heap.size) : Wv p l e room_1 s m #[Value.ref b0] below meth c (lw_Z below #[Value.ref b0] s) D aC b 4 1051 [some (AX b0), some (AR 0), some (AR 95), some (AI 0)] [] wv_318 116 6683 := by
  refine s_aload_n E dL_law_1051 rfl rfl ?_
  refine s_xload_n E dL_law_1052 rfl rfl ?_
  refine s_iload_n E dL_law_1053 rfl rfl ?_
  refine s_iconst (v := 1) E dL_law_1054 (by decide) ?_
  refine s_iadd E dL_law_1055 ?_
  refine s_top (y := 1) (by decide) ?_
  refine s_sld E hX hb0 hb (vp_c (by decide)) dL_law_1056 ?_
  refine s_top (y := (xs 1)) (congrArg xs (by decide)) ?_
  refine s_vI (As := [AI (xs 1)]) (S := []) E (K_X9_mate_0_CRMS l D aC b wv_318 ((xs 1)) FrC_0 RfC_0 FrM_0 RfM_0) cv_L_118 rfl rfl rfl (ltn FrC_0.1 (by decide)) (Nat.le_of_ble_eq_true rfl) (Nat.le_of_ble_eq_true rfl) ⟨(Nat.le_of_ble_eq_true rfl), (Nat.le_of_ble_eq_true rfl)⟩ (Nat.le_of_ble_eq_true rfl) dL_law_1057 (fun r u hp => ?_)
  obtain ⟨rfl, rfl⟩ := hp
  refine s_aload_n E dL_law_1060 rfl rfl ?_
  refine s_xload_n E dL_law_1061 rfl rfl ?_
  refine s_iload_n E dL_law_1062 rfl rfl ?_
  refine s_iconst (v := 1) E dL_law_1063 (by decide) ?_
  refine s_iadd E dL_law_1064 ?_
  refine s_top (y := 1) (by decide) ?_
  refine s_sld E hX hb0 hb (vp_c (by decide)) dL_law_1065 ?_
  refine s_top (y := (xs 1)) (congrArg xs (by decide)) ?_
  refine s_vI (As := [AI (xs 1)]) (S := [AI (-2)]) E (K_X10_mate_95_MS l D aC b wv_318 ((xs 1)) FrM_0 RfM_0) cv_L_121 rfl rfl rfl (ltn FrC_0.1 (by decide)) (Nat.le_of_ble_eq_true rfl) (Nat.le_of_ble_eq_true rfl) ⟨(Nat.le_of_ble_eq_true rfl), (Nat.le_of_ble_eq_true rfl)⟩ (Nat.le_of_ble_eq_true rfl) dL_law_1066 (fun r u_1 hp => ?_)
  obtain ⟨rfl, hu_1, hu_2⟩ := hp
  refine s_icmp_eq (tgt := 2494) E dL_law_1069 (by decide) (fun _ => ?_) (fun hh => absurd (by decide) hh)
  exact law_tail l E hb hX hb0 u_1
set_option maxRecDepth 20000 in
set_option maxHeartbeats 2000000 in
theorem lawc_26 {p : Program} {e : Env} {s : State} {m : MethodId} {below : List Frame} {meth : Method} {c : Code} (l : Launch) {b0 b : Nat} {xs : Nat → Int32} {D : va_G} {aC : Nat → ClassId} (E : EE p s m meth c D aC b 4 cL_law RL ret) (hb : b = s.heap.size) (hX : va_X b0 6 xs s s.heap) (hb0 : b0 < s.heap.size) : Wv p l e room_1 s m #[Value.ref b0] below meth c (lw_Z below #[Value.ref b0] s) D aC b 4 1074 [some (AX b0), some (AR 0), some (AR 95), some (AI 0)] [] wv_318 116 6683 := by
  refine s_aload_n E dL_law_1074 rfl rfl ?_
  refine s_xload_n E dL_law_1075 rfl rfl ?_
  refine s_iload_n E dL_law_1076 rfl rfl ?_
  refine s_iconst (v := 1) E dL_law_1077 (by decide) ?_
  refine s_iadd E dL_law_1078 ?_
  refine s_top (y := 1) (by decide) ?_
  refine s_sld E hX hb0 hb (vp_c (by decide)) dL_law_1079 ?_
  refine s_top (y := (xs 1)) (congrArg xs (by decide)) ?_
  refine s_vI (As := [AI (xs 1)]) (S := []) E (K_X9_hears_0_CRMS l D aC b wv_318 ((xs 1)) FrC_0 RfC_0 FrM_0 RfM_0) cv_L_122 rfl rfl rfl (ltn FrC_0.1 (by decide)) (Nat.le_of_ble_eq_true rfl) (Nat.le_of_ble_eq_true rfl) ⟨(Nat.le_of_ble_eq_true rfl), (Nat.le_of_ble_eq_true rfl)⟩ (Nat.le_of_ble_eq_true rfl) dL_law_1080 (fun r u hp => ?_)
  obtain ⟨rfl, rfl⟩ := hp
  refine s_aload_n E dL_law_1083 rfl rfl ?_
  refine s_xload_n E dL_law_1084 rfl rfl ?_
  refine s_iload_n E dL_law_1085 rfl rfl ?_
  refine s_iconst (v := 1) E dL_law_1086 (by decide) ?_
  refine s_iadd E dL_law_1087 ?_
  refine s_top (y := 1) (by decide) ?_
  refine s_sld E hX hb0 hb (vp_c (by decide)) dL_law_1088 ?_
  refine s_top (y := (xs 1)) (congrArg xs (by decide)) ?_
  refine s_vI (As := [AI (xs 1)]) (S := [AI (-2)]) E (K_X10_hears_95_MS l D aC b wv_318 ((xs 1)) FrM_0 RfM_0) cv_L_125 rfl rfl rfl (ltn FrC_0.1 (by decide)) (Nat.le_of_ble_eq_true rfl) (Nat.le_of_ble_eq_true rfl) ⟨(Nat.le_of_ble_eq_true rfl), (Nat.le_of_ble_eq_true rfl)⟩ (Nat.le_of_ble_eq_true rfl) dL_law_1089 (fun r u_1 hp => ?_)
  obtain ⟨rfl, hu_1, hu_2⟩ := hp
  refine s_icmp_eq (tgt := 2494) E dL_law_1092 (by decide) (fun _ => ?_) (fun hh => absurd (by decide) hh)
  exact law_tail l E hb hX hb0 u_1
set_option maxRecDepth 20000 in
set_option maxHeartbeats 2000000 in
theorem lawc_27 {p : Program} {e : Env} {s : State} {m : MethodId} {below : List Frame} {meth : Method} {c : Code} (l : Launch) {b0 b : Nat} {xs : Nat → Int32} {D : va_G} {aC : Nat → ClassId} (E : EE p s m meth c D aC b 4 cL_law RL ret) (hb : b = s.heap.size) (hX : va_X b0 6 xs s s.heap) (hb0 : b0 < s.heap.size) : Wv p l e room_1 s m #[Value.ref b0] below meth c (lw_Z below #[Value.ref b0] s) D aC b 4 1097 [some (AX b0), some (AR 0), some (AR 95), some (AI 0)] [] wv_318 116 6683 := by
  refine s_aload_n E dL_law_1097 rfl rfl ?_
  refine s_xload_n E dL_law_1098 rfl rfl ?_
  refine s_iload_n E dL_law_1099 rfl rfl ?_
  refine s_iconst (v := 1) E dL_law_1100 (by decide) ?_
  refine s_iadd E dL_law_1101 ?_
  refine s_top (y := 1) (by decide) ?_
  refine s_sld E hX hb0 hb (vp_c (by decide)) dL_law_1102 ?_
  refine s_top (y := (xs 1)) (congrArg xs (by decide)) ?_
  refine s_xload_n E dL_law_1103 rfl rfl ?_
  refine s_iload_n E dL_law_1104 rfl rfl ?_
  refine s_iconst (v := 2) E dL_law_1105 (by decide) ?_
  refine s_iadd E dL_law_1106 ?_
  refine s_top (y := 2) (by decide) ?_
  refine s_sld E hX hb0 hb (vp_c (by decide)) dL_law_1107 ?_
  refine s_top (y := (xs 2)) (congrArg xs (by decide)) ?_
  refine s_vI (As := [AI (xs 1), AI (xs 2)]) (S := []) E (K_X9_hands_0_CRMS l D aC b wv_318 ((xs 1)) ((xs 2)) FrC_0 RfC_0 FrM_0 RfM_0) cv_L_126 rfl rfl rfl (ltn FrC_0.1 (by decide)) (Nat.le_of_ble_eq_true rfl) (Nat.le_of_ble_eq_true rfl) ⟨(Nat.le_of_ble_eq_true rfl), (Nat.le_of_ble_eq_true rfl)⟩ (Nat.le_of_ble_eq_true rfl) dL_law_1108 (fun r u hp => ?_)
  obtain ⟨rfl, rfl⟩ := hp
  refine s_aload_n E dL_law_1111 rfl rfl ?_
  refine s_xload_n E dL_law_1112 rfl rfl ?_
  refine s_iload_n E dL_law_1113 rfl rfl ?_
  refine s_iconst (v := 1) E dL_law_1114 (by decide) ?_
  refine s_iadd E dL_law_1115 ?_
  refine s_top (y := 1) (by decide) ?_
  refine s_sld E hX hb0 hb (vp_c (by decide)) dL_law_1116 ?_
  refine s_top (y := (xs 1)) (congrArg xs (by decide)) ?_
  refine s_xload_n E dL_law_1117 rfl rfl ?_
  refine s_iload_n E dL_law_1118 rfl rfl ?_
  refine s_iconst (v := 2) E dL_law_1119 (by decide) ?_
  refine s_iadd E dL_law_1120 ?_
  refine s_top (y := 2) (by decide) ?_
  refine s_sld E hX hb0 hb (vp_c (by decide)) dL_law_1121 ?_
  refine s_top (y := (xs 2)) (congrArg xs (by decide)) ?_
  refine s_vI (As := [AI (xs 1), AI (xs 2)]) (S := [AI (-2)]) E (K_X10_hands_95_MS l D aC b wv_318 ((xs 1)) ((xs 2)) FrM_0 RfM_0) cv_L_129 rfl rfl rfl (ltn FrC_0.1 (by decide)) (Nat.le_of_ble_eq_true rfl) (Nat.le_of_ble_eq_true rfl) ⟨(Nat.le_of_ble_eq_true rfl), (Nat.le_of_ble_eq_true rfl)⟩ (Nat.le_of_ble_eq_true rfl) dL_law_1122 (fun r u_1 hp => ?_)
  obtain ⟨rfl, hu_1, hu_2⟩ := hp
  refine s_icmp_eq (tgt := 2494) E dL_law_1125 (by decide) (fun _ => ?_) (fun hh => absurd (by decide) hh)
  exact law_tail l E hb hX hb0 u_1
set_option maxRecDepth 20000 in
set_option maxHeartbeats 2000000 in
theorem lawc_28 {p : Program} {e : Env} {s : State} {m : MethodId} {below : List Frame} {meth : Method} {c : Code} (l : Launch) {b0 b : Nat} {xs : Nat → Int32} {D : va_G} {aC : Nat → ClassId} (E : EE p s m meth c D aC b 4 cL_law RL ret) (hb : b = s.heap.size) (hX : va_X b0 6 xs s s.heap) (hb0 : b0 < s.heap.size) : Wv p l e room_1 s m #[Value.ref b0] below meth c (lw_Z below #[Value.ref b0] s) D aC b 4 1130 [some (AX b0), some (AR 0), some (AR 95), some (AI 0)] [] wv_318 116 6683 := by
  refine s_aload_n E dL_law_1130 rfl rfl ?_
  refine s_vI (As := []) (S := []) E (K_X9_dummies_0_CRMS l D aC b wv_318  FrC_0 RfC_0 FrM_0 RfM_0) cv_L_130 rfl rfl rfl (ltn FrC_0.1 (by decide)) (Nat.le_of_ble_eq_true rfl) (Nat.le_of_ble_eq_true rfl) ⟨(Nat.le_of_ble_eq_true rfl), (Nat.le_of_ble_eq_true rfl)⟩ (Nat.le_of_ble_eq_true rfl) dL_law_1131 (fun r u hp => ?_)
  obtain ⟨rfl, rfl⟩ := hp
  refine s_aload_n E dL_law_1134 rfl rfl ?_
  refine s_vI (As := []) (S := [AI (-2)]) E (K_X10_dummies_95_MS l D aC b wv_318  FrM_0 RfM_0) cv_L_133 rfl rfl rfl (ltn FrC_0.1 (by decide)) (Nat.le_of_ble_eq_true rfl) (Nat.le_of_ble_eq_true rfl) ⟨(Nat.le_of_ble_eq_true rfl), (Nat.le_of_ble_eq_true rfl)⟩ (Nat.le_of_ble_eq_true rfl) dL_law_1135 (fun r u_1 hp => ?_)
  obtain ⟨rfl, hu_1, hu_2⟩ := hp
  refine s_icmp_eq (tgt := 2494) E dL_law_1138 (by decide) (fun _ => ?_) (fun hh => absurd (by decide) hh)
  exact law_tail l E hb hX hb0 u_1
set_option maxRecDepth 20000 in
set_option maxHeartbeats 2000000 in
theorem lawc_29 {p : Program} {e : Env} {s : State} {m : MethodId} {below : List Frame} {meth : Method} {c : Code} (l : Launch) {b0 b : Nat} {xs : Nat → Int32} {D : va_G} {aC : Nat → ClassId} (E : EE p s m meth c D aC b 4 cL_law RL ret) (hb : b = s.heap.size) (hX : va_X b0 6 xs s s.heap) (hb0 : b0 < s.heap.size) : Wv p l e room_1 s m #[Value.ref b0] below meth c (lw_Z below #[Value.ref b0] s) D aC b 4 1143 [some (AX b0), some (AR 0), some (AR 95), some (AI 0)] [] wv_318 116 6683 := by
  refine s_aload_n E dL_law_1143 rfl rfl ?_
  refine s_xload_n E dL_law_1144 rfl rfl ?_
  refine s_iload_n E dL_law_1145 rfl rfl ?_
  refine s_iconst (v := 1) E dL_law_1146 (by decide) ?_
  refine s_iadd E dL_law_1147 ?_
  refine s_top (y := 1) (by decide) ?_
  refine s_sld E hX hb0 hb (vp_c (by decide)) dL_law_1148 ?_
  refine s_top (y := (xs 1)) (congrArg xs (by decide)) ?_
  refine s_vI (As := [AI (xs 1)]) (S := []) E (K_X9_blocks_0_CRMS l D aC b wv_318 ((xs 1)) FrC_0 RfC_0 FrM_0 RfM_0) cv_L_134 rfl rfl rfl (ltn FrC_0.1 (by decide)) (Nat.le_of_ble_eq_true rfl) (Nat.le_of_ble_eq_true rfl) ⟨(Nat.le_of_ble_eq_true rfl), (Nat.le_of_ble_eq_true rfl)⟩ (Nat.le_of_ble_eq_true rfl) dL_law_1149 (fun r u hp => ?_)
  obtain ⟨rfl, rfl⟩ := hp
  refine s_aload_n E dL_law_1152 rfl rfl ?_
  refine s_xload_n E dL_law_1153 rfl rfl ?_
  refine s_iload_n E dL_law_1154 rfl rfl ?_
  refine s_iconst (v := 1) E dL_law_1155 (by decide) ?_
  refine s_iadd E dL_law_1156 ?_
  refine s_top (y := 1) (by decide) ?_
  refine s_sld E hX hb0 hb (vp_c (by decide)) dL_law_1157 ?_
  refine s_top (y := (xs 1)) (congrArg xs (by decide)) ?_
  refine s_vI (As := [AI (xs 1)]) (S := [AI (-2)]) E (K_X10_blocks_95_MS l D aC b wv_318 ((xs 1)) FrM_0 RfM_0) cv_L_137 rfl rfl rfl (ltn FrC_0.1 (by decide)) (Nat.le_of_ble_eq_true rfl) (Nat.le_of_ble_eq_true rfl) ⟨(Nat.le_of_ble_eq_true rfl), (Nat.le_of_ble_eq_true rfl)⟩ (Nat.le_of_ble_eq_true rfl) dL_law_1158 (fun r u_1 hp => ?_)
  obtain ⟨rfl, hu_1, hu_2⟩ := hp
  refine s_icmp_eq (tgt := 2494) E dL_law_1161 (by decide) (fun _ => ?_) (fun hh => absurd (by decide) hh)
  exact law_tail l E hb hX hb0 u_1
set_option maxRecDepth 20000 in
set_option maxHeartbeats 2000000 in
theorem lawc_30 {p : Program} {e : Env} {s : State} {m : MethodId} {below : List Frame} {meth : Method} {c : Code} (l : Launch) {b0 b : Nat} {xs : Nat → Int32} {D : va_G} {aC : Nat → ClassId} (E : EE p s m meth c D aC b 4 cL_law RL ret) (hb : b = s.heap.size) (hX : va_X b0 6 xs s s.heap) (hb0 : b0 < s.heap.size) : Wv p l e room_1 s m #[Value.ref b0] below meth c (lw_Z below #[Value.ref b0] s) D aC b 4 1166 [some (AX b0), some (AR 0), some (AR 95), some (AI 0)] [] wv_318 116 6683 := by
  refine s_aload_n E dL_law_1166 rfl rfl ?_
  refine s_vI (As := []) (S := []) E (K_X9_strongest_0_CRMS l D aC b wv_318  FrC_0 RfC_0 FrM_0 RfM_0) cv_L_138 rfl rfl rfl (ltn FrC_0.1 (by decide)) (Nat.le_of_ble_eq_true rfl) (Nat.le_of_ble_eq_true rfl) ⟨(Nat.le_of_ble_eq_true rfl), (Nat.le_of_ble_eq_true rfl)⟩ (Nat.le_of_ble_eq_true rfl) dL_law_1167 (fun r u hp => ?_)
  obtain ⟨rfl, rfl⟩ := hp
  refine s_aload_n E dL_law_1170 rfl rfl ?_
  refine s_vI (As := []) (S := [AI (-2)]) E (K_X10_strongest_95_MS l D aC b wv_318  FrM_0 RfM_0) cv_L_141 rfl rfl rfl (ltn FrC_0.1 (by decide)) (Nat.le_of_ble_eq_true rfl) (Nat.le_of_ble_eq_true rfl) ⟨(Nat.le_of_ble_eq_true rfl), (Nat.le_of_ble_eq_true rfl)⟩ (Nat.le_of_ble_eq_true rfl) dL_law_1171 (fun r u_1 hp => ?_)
  obtain ⟨rfl, hu_1, hu_2⟩ := hp
  refine s_icmp_eq (tgt := 2494) E dL_law_1174 (by decide) (fun _ => ?_) (fun hh => absurd (by decide) hh)
  exact law_tail l E hb hX hb0 u_1
set_option maxRecDepth 20000 in
set_option maxHeartbeats 2000000 in
theorem lawc_31 {p : Program} {e : Env} {s : State} {m : MethodId} {below : List Frame} {meth : Method} {c : Code} (l : Launch) {b0 b : Nat} {xs : Nat → Int32} {D : va_G} {aC : Nat → ClassId} (E : EE p s m meth c D aC b 4 cL_law RL ret) (hb : b = s.heap.size) (hX : va_X b0 6 xs s s.heap) (hb0 : b0 < s.heap.size) : Wv p l e room_1 s m #[Value.ref b0] below meth c (lw_Z below #[Value.ref b0] s) D aC b 4 1179 [some (AX b0), some (AR 0), some (AR 95), some (AI 0)] [] wv_318 116 6683 := by
  refine s_aload_n E dL_law_1179 rfl rfl ?_
  refine s_xload_n E dL_law_1180 rfl rfl ?_
  refine s_iload_n E dL_law_1181 rfl rfl ?_
  refine s_iconst (v := 1) E dL_law_1182 (by decide) ?_
  refine s_iadd E dL_law_1183 ?_
  refine s_top (y := 1) (by decide) ?_
  refine s_sld E hX hb0 hb (vp_c (by decide)) dL_law_1184 ?_
  refine s_top (y := (xs 1)) (congrArg xs (by decide)) ?_
  refine s_xload_n E dL_law_1185 rfl rfl ?_
  refine s_iload_n E dL_law_1186 rfl rfl ?_
  refine s_iconst (v := 2) E dL_law_1187 (by decide) ?_
  refine s_iadd E dL_law_1188 ?_
  refine s_top (y := 2) (by decide) ?_
  refine s_sld E hX hb0 hb (vp_c (by decide)) dL_law_1189 ?_
  refine s_top (y := (xs 2)) (congrArg xs (by decide)) ?_
  refine s_vI (As := [AI (xs 1), AI (xs 2)]) (S := []) E (K_X9_have_0_CRMS l D aC b wv_318 ((xs 1)) ((xs 2)) FrC_0 RfC_0 FrM_0 RfM_0) cv_L_142 rfl rfl rfl (ltn FrC_0.1 (by decide)) (Nat.le_of_ble_eq_true rfl) (Nat.le_of_ble_eq_true rfl) ⟨(Nat.le_of_ble_eq_true rfl), (Nat.le_of_ble_eq_true rfl)⟩ (Nat.le_of_ble_eq_true rfl) dL_law_1190 (fun r u hp => ?_)
  obtain ⟨rfl, rfl⟩ := hp
  refine s_aload_n E dL_law_1193 rfl rfl ?_
  refine s_xload_n E dL_law_1194 rfl rfl ?_
  refine s_iload_n E dL_law_1195 rfl rfl ?_
  refine s_iconst (v := 1) E dL_law_1196 (by decide) ?_
  refine s_iadd E dL_law_1197 ?_
  refine s_top (y := 1) (by decide) ?_
  refine s_sld E hX hb0 hb (vp_c (by decide)) dL_law_1198 ?_
  refine s_top (y := (xs 1)) (congrArg xs (by decide)) ?_
  refine s_xload_n E dL_law_1199 rfl rfl ?_
  refine s_iload_n E dL_law_1200 rfl rfl ?_
  refine s_iconst (v := 2) E dL_law_1201 (by decide) ?_
  refine s_iadd E dL_law_1202 ?_
  refine s_top (y := 2) (by decide) ?_
  refine s_sld E hX hb0 hb (vp_c (by decide)) dL_law_1203 ?_
  refine s_top (y := (xs 2)) (congrArg xs (by decide)) ?_
  refine s_vI (As := [AI (xs 1), AI (xs 2)]) (S := [AI (-2)]) E (K_X10_have_95_MS l D aC b wv_318 ((xs 1)) ((xs 2)) FrM_0 RfM_0) cv_L_145 rfl rfl rfl (ltn FrC_0.1 (by decide)) (Nat.le_of_ble_eq_true rfl) (Nat.le_of_ble_eq_true rfl) ⟨(Nat.le_of_ble_eq_true rfl), (Nat.le_of_ble_eq_true rfl)⟩ (Nat.le_of_ble_eq_true rfl) dL_law_1204 (fun r u_1 hp => ?_)
  obtain ⟨rfl, hu_1, hu_2⟩ := hp
  refine s_icmp_eq (tgt := 2494) E dL_law_1207 (by decide) (fun _ => ?_) (fun hh => absurd (by decide) hh)
  exact law_tail l E hb hX hb0 u_1
set_option maxRecDepth 20000 in
set_option maxHeartbeats 2000000 in
theorem lawc_32 {p : Program} {e : Env} {s : State} {m : MethodId} {below : List Frame} {meth : Method} {c : Code} (l : Launch) {b0 b : Nat} {xs : Nat → Int32} {D : va_G} {aC : Nat → ClassId} (E : EE p s m meth c D aC b 4 cL_law RL ret) (hb : b = s.heap.size) (hX : va_X b0 6 xs s s.heap) (hb0 : b0 < s.heap.size) : Wv p l e room_1 s m #[Value.ref b0] below meth c (lw_Z below #[Value.ref b0] s) D aC b 4 1212 [some (AX b0), some (AR 0), some (AR 95), some (AI 0)] [] wv_318 116 6683 := by
  refine s_aload_n E dL_law_1212 rfl rfl ?_
  refine s_xload_n E dL_law_1213 rfl rfl ?_
  refine s_iload_n E dL_law_1214 rfl rfl ?_
  refine s_iconst (v := 1) E dL_law_1215 (by decide) ?_
  refine s_iadd E dL_law_1216 ?_
  refine s_top (y := 1) (by decide) ?_
  refine s_sld E hX hb0 hb (vp_c (by decide)) dL_law_1217 ?_
  refine s_top (y := (xs 1)) (congrArg xs (by decide)) ?_
  refine s_xload_n E dL_law_1218 rfl rfl ?_
  refine s_iload_n E dL_law_1219 rfl rfl ?_
  refine s_iconst (v := 2) E dL_law_1220 (by decide) ?_
  refine s_iadd E dL_law_1221 ?_
  refine s_top (y := 2) (by decide) ?_
  refine s_sld E hX hb0 hb (vp_c (by decide)) dL_law_1222 ?_
  refine s_top (y := (xs 2)) (congrArg xs (by decide)) ?_
  refine s_vI (As := [AI (xs 1), AI (xs 2)]) (S := []) E (K_X9_gets_0_CRMS l D aC b wv_318 ((xs 1)) ((xs 2)) FrC_0 RfC_0 FrM_0 RfM_0) cv_L_146 rfl rfl rfl (ltn FrC_0.1 (by decide)) (Nat.le_of_ble_eq_true rfl) (Nat.le_of_ble_eq_true rfl) ⟨(Nat.le_of_ble_eq_true rfl), (Nat.le_of_ble_eq_true rfl)⟩ (Nat.le_of_ble_eq_true rfl) dL_law_1223 (fun r u hp => ?_)
  obtain ⟨rfl, rfl⟩ := hp
  refine s_aload_n E dL_law_1226 rfl rfl ?_
  refine s_xload_n E dL_law_1227 rfl rfl ?_
  refine s_iload_n E dL_law_1228 rfl rfl ?_
  refine s_iconst (v := 1) E dL_law_1229 (by decide) ?_
  refine s_iadd E dL_law_1230 ?_
  refine s_top (y := 1) (by decide) ?_
  refine s_sld E hX hb0 hb (vp_c (by decide)) dL_law_1231 ?_
  refine s_top (y := (xs 1)) (congrArg xs (by decide)) ?_
  refine s_xload_n E dL_law_1232 rfl rfl ?_
  refine s_iload_n E dL_law_1233 rfl rfl ?_
  refine s_iconst (v := 2) E dL_law_1234 (by decide) ?_
  refine s_iadd E dL_law_1235 ?_
  refine s_top (y := 2) (by decide) ?_
  refine s_sld E hX hb0 hb (vp_c (by decide)) dL_law_1236 ?_
  refine s_top (y := (xs 2)) (congrArg xs (by decide)) ?_
  refine s_vI (As := [AI (xs 1), AI (xs 2)]) (S := [AI (-2)]) E (K_X10_gets_95_MS l D aC b wv_318 ((xs 1)) ((xs 2)) FrM_0 RfM_0) cv_L_149 rfl rfl rfl (ltn FrC_0.1 (by decide)) (Nat.le_of_ble_eq_true rfl) (Nat.le_of_ble_eq_true rfl) ⟨(Nat.le_of_ble_eq_true rfl), (Nat.le_of_ble_eq_true rfl)⟩ (Nat.le_of_ble_eq_true rfl) dL_law_1237 (fun r u_1 hp => ?_)
  obtain ⟨rfl, hu_1, hu_2⟩ := hp
  refine s_icmp_eq (tgt := 2494) E dL_law_1240 (by decide) (fun _ => ?_) (fun hh => absurd (by decide) hh)
  exact law_tail l E hb hX hb0 u_1
set_option maxRecDepth 20000 in
set_option maxHeartbeats 2000000 in
theorem lawc_33 {p : Program} {e : Env} {s : State} {m : MethodId} {below : List Frame} {meth : Method} {c : Code} (l : Launch) {b0 b : Nat} {xs : Nat → Int32} {D : va_G} {aC : Nat → ClassId} (E : EE p s m meth c D aC b 4 cL_law RL ret) (hb : b = s.heap.size) (hX : va_X b0 6 xs s s.heap) (hb0 : b0 < s.heap.size) : Wv p l e room_1 s m #[Value.ref b0] below meth c (lw_Z below #[Value.ref b0] s) D aC b 4 1245 [some (AX b0), some (AR 0), some (AR 95), some (AI 0)] [] wv_318 116 6683 := by
  refine s_aload_n E dL_law_1245 rfl rfl ?_
  refine s_xload_n E dL_law_1246 rfl rfl ?_
  refine s_iload_n E dL_law_1247 rfl rfl ?_
  refine s_iconst (v := 1) E dL_law_1248 (by decide) ?_
  refine s_iadd E dL_law_1249 ?_
  refine s_top (y := 1) (by decide) ?_
  refine s_sld E hX hb0 hb (vp_c (by decide)) dL_law_1250 ?_
  refine s_top (y := (xs 1)) (congrArg xs (by decide)) ?_
  refine s_xload_n E dL_law_1251 rfl rfl ?_
  refine s_iload_n E dL_law_1252 rfl rfl ?_
  refine s_iconst (v := 2) E dL_law_1253 (by decide) ?_
  refine s_iadd E dL_law_1254 ?_
  refine s_top (y := 2) (by decide) ?_
  refine s_sld E hX hb0 hb (vp_c (by decide)) dL_law_1255 ?_
  refine s_top (y := (xs 2)) (congrArg xs (by decide)) ?_
  refine s_vI (As := [AI (xs 1), AI (xs 2)]) (S := []) E (K_X9_from_0_CRMS l D aC b wv_318 ((xs 1)) ((xs 2)) FrC_0 RfC_0 FrM_0 RfM_0) cv_L_150 rfl rfl rfl (ltn FrC_0.1 (by decide)) (Nat.le_of_ble_eq_true rfl) (Nat.le_of_ble_eq_true rfl) ⟨(Nat.le_of_ble_eq_true rfl), (Nat.le_of_ble_eq_true rfl)⟩ (Nat.le_of_ble_eq_true rfl) dL_law_1256 (fun r u hp => ?_)
  obtain ⟨rfl, rfl⟩ := hp
  refine s_aload_n E dL_law_1259 rfl rfl ?_
  refine s_xload_n E dL_law_1260 rfl rfl ?_
  refine s_iload_n E dL_law_1261 rfl rfl ?_
  refine s_iconst (v := 1) E dL_law_1262 (by decide) ?_
  refine s_iadd E dL_law_1263 ?_
  refine s_top (y := 1) (by decide) ?_
  refine s_sld E hX hb0 hb (vp_c (by decide)) dL_law_1264 ?_
  refine s_top (y := (xs 1)) (congrArg xs (by decide)) ?_
  refine s_xload_n E dL_law_1265 rfl rfl ?_
  refine s_iload_n E dL_law_1266 rfl rfl ?_
  refine s_iconst (v := 2) E dL_law_1267 (by decide) ?_
  refine s_iadd E dL_law_1268 ?_
  refine s_top (y := 2) (by decide) ?_
  refine s_sld E hX hb0 hb (vp_c (by decide)) dL_law_1269 ?_
  refine s_top (y := (xs 2)) (congrArg xs (by decide)) ?_
  refine s_vI (As := [AI (xs 1), AI (xs 2)]) (S := [AI (-2)]) E (K_X10_from_95_MS l D aC b wv_318 ((xs 1)) ((xs 2)) FrM_0 RfM_0) cv_L_153 rfl rfl rfl (ltn FrC_0.1 (by decide)) (Nat.le_of_ble_eq_true rfl) (Nat.le_of_ble_eq_true rfl) ⟨(Nat.le_of_ble_eq_true rfl), (Nat.le_of_ble_eq_true rfl)⟩ (Nat.le_of_ble_eq_true rfl) dL_law_1270 (fun r u_1 hp => ?_)
  obtain ⟨rfl, hu_1, hu_2⟩ := hp
  refine s_icmp_eq (tgt := 2494) E dL_law_1273 (by decide) (fun _ => ?_) (fun hh => absurd (by decide) hh)
  exact law_tail l E hb hX hb0 u_1
set_option maxRecDepth 20000 in
set_option maxHeartbeats 2000000 in
theorem lawc_34 {p : Program} {e : Env} {s : State} {m : MethodId} {below : List Frame} {meth : Method} {c : Code} (l : Launch) {b0 b : Nat} {xs : Nat → Int32} {D : va_G} {aC : Nat → ClassId} (E : EE p s m meth c D aC b 4 cL_law RL ret) (hb : b = s.heap.size) (hX : va_X b0 6 xs s s.heap) (hb0 : b0 < s.heap.size) : Wv p l e room_1 s m #[Value.ref b0] below meth c (lw_Z below #[Value.ref b0] s) D aC b 4 1278 [some (AX b0), some (AR 0), some (AR 95), some (AI 0)] [] wv_318 116 6683 := by
  refine s_aload_n E dL_law_1278 rfl rfl ?_
  refine s_xload_n E dL_law_1279 rfl rfl ?_
  refine s_iload_n E dL_law_1280 rfl rfl ?_
  refine s_iconst (v := 1) E dL_law_1281 (by decide) ?_
  refine s_iadd E dL_law_1282 ?_
  refine s_top (y := 1) (by decide) ?_
  refine s_sld E hX hb0 hb (vp_c (by decide)) dL_law_1283 ?_
  refine s_top (y := (xs 1)) (congrArg xs (by decide)) ?_
  refine s_vI (As := [AI (xs 1)]) (S := []) E (K_X9_all_0_CRMS l D aC b wv_318 ((xs 1)) FrC_0 RfC_0 FrM_0 RfM_0) cv_L_154 rfl rfl rfl (ltn FrC_0.1 (by decide)) (Nat.le_of_ble_eq_true rfl) (Nat.le_of_ble_eq_true rfl) ⟨(Nat.le_of_ble_eq_true rfl), (Nat.le_of_ble_eq_true rfl)⟩ (Nat.le_of_ble_eq_true rfl) dL_law_1284 (fun r u hp => ?_)
  obtain ⟨rfl, rfl⟩ := hp
  refine s_aload_n E dL_law_1287 rfl rfl ?_
  refine s_xload_n E dL_law_1288 rfl rfl ?_
  refine s_iload_n E dL_law_1289 rfl rfl ?_
  refine s_iconst (v := 1) E dL_law_1290 (by decide) ?_
  refine s_iadd E dL_law_1291 ?_
  refine s_top (y := 1) (by decide) ?_
  refine s_sld E hX hb0 hb (vp_c (by decide)) dL_law_1292 ?_
  refine s_top (y := (xs 1)) (congrArg xs (by decide)) ?_
  refine s_vI (As := [AI (xs 1)]) (S := [AI (-2)]) E (K_X10_all_95_MS l D aC b wv_318 ((xs 1)) FrM_0 RfM_0) cv_L_157 rfl rfl rfl (ltn FrC_0.1 (by decide)) (Nat.le_of_ble_eq_true rfl) (Nat.le_of_ble_eq_true rfl) ⟨(Nat.le_of_ble_eq_true rfl), (Nat.le_of_ble_eq_true rfl)⟩ (Nat.le_of_ble_eq_true rfl) dL_law_1293 (fun r u_1 hp => ?_)
  obtain ⟨rfl, hu_1, hu_2⟩ := hp
  refine s_icmp_eq (tgt := 2494) E dL_law_1296 (by decide) (fun _ => ?_) (fun hh => absurd (by decide) hh)
  exact law_tail l E hb hX hb0 u_1
set_option maxRecDepth 20000 in
set_option maxHeartbeats 2000000 in
theorem lawc_35 {p : Program} {e : Env} {s : State} {m : MethodId} {below : List Frame} {meth : Method} {c : Code} (l : Launch) {b0 b : Nat} {xs : Nat → Int32} {D : va_G} {aC : Nat → ClassId} (E : EE p s m meth c D aC b 4 cL_law RL ret) (hb : b = s.heap.size) (hX : va_X b0 6 xs s s.heap) (hb0 : b0 < s.heap.size) : Wv p l e room_1 s m #[Value.ref b0] below meth c (lw_Z below #[Value.ref b0] s) D aC b 4 1301 [some (AX b0), some (AR 0), some (AR 95), some (AI 0)] [] wv_318 116 6683 := by
  refine s_aload_n E dL_law_1301 rfl rfl ?_
  refine s_vI (As := []) (S := []) E (K_X9_best_0_CRMS l D aC b wv_318  FrC_0 RfC_0 FrM_0 RfM_0) cv_L_158 rfl rfl rfl (ltn FrC_0.1 (by decide)) (Nat.le_of_ble_eq_true rfl) (Nat.le_of_ble_eq_true rfl) ⟨(Nat.le_of_ble_eq_true rfl), (Nat.le_of_ble_eq_true rfl)⟩ (Nat.le_of_ble_eq_true rfl) dL_law_1302 (fun r u hp => ?_)
  obtain ⟨rfl, rfl⟩ := hp
  refine s_aload_n E dL_law_1305 rfl rfl ?_
  refine s_vI (As := []) (S := [AI (-2)]) E (K_X10_best_95_MS l D aC b wv_318  FrM_0 RfM_0) cv_L_161 rfl rfl rfl (ltn FrC_0.1 (by decide)) (Nat.le_of_ble_eq_true rfl) (Nat.le_of_ble_eq_true rfl) ⟨(Nat.le_of_ble_eq_true rfl), (Nat.le_of_ble_eq_true rfl)⟩ (Nat.le_of_ble_eq_true rfl) dL_law_1306 (fun r u_1 hp => ?_)
  obtain ⟨rfl, hu_1, hu_2⟩ := hp
  refine s_icmp_eq (tgt := 2494) E dL_law_1309 (by decide) (fun _ => ?_) (fun hh => absurd (by decide) hh)
  exact law_tail l E hb hX hb0 u_1
set_option maxRecDepth 20000 in
set_option maxHeartbeats 2000000 in
theorem lawc_36 {p : Program} {e : Env} {s : State} {m : MethodId} {below : List Frame} {meth : Method} {c : Code} (l : Launch) {b0 b : Nat} {xs : Nat → Int32} {D : va_G} {aC : Nat → ClassId} (E : EE p s m meth c D aC b 4 cL_law RL ret) (hb : b = s.heap.size) (hX : va_X b0 6 xs s s.heap) (hb0 : b0 < s.heap.size) : Wv p l e room_1 s m #[Value.ref b0] below meth c (lw_Z below #[Value.ref b0] s) D aC b 4 1314 [some (AX b0), some (AR 0), some (AR 95), some (AI 0)] [] wv_318 116 6683 := by
  refine s_aload_n E dL_law_1314 rfl rfl ?_
  refine s_xload_n E dL_law_1315 rfl rfl ?_
  refine s_iload_n E dL_law_1316 rfl rfl ?_
  refine s_iconst (v := 1) E dL_law_1317 (by decide) ?_
  refine s_iadd E dL_law_1318 ?_
  refine s_top (y := 1) (by decide) ?_
  refine s_sld E hX hb0 hb (vp_c (by decide)) dL_law_1319 ?_
  refine s_top (y := (xs 1)) (congrArg xs (by decide)) ?_
  refine s_vI (As := [AI (xs 1)]) (S := []) E (K_X9_lasts_0_CRMS l D aC b wv_318 ((xs 1)) FrC_0 RfC_0 FrM_0 RfM_0) cv_L_162 rfl rfl rfl (ltn FrC_0.1 (by decide)) (Nat.le_of_ble_eq_true rfl) (Nat.le_of_ble_eq_true rfl) ⟨(Nat.le_of_ble_eq_true rfl), (Nat.le_of_ble_eq_true rfl)⟩ (Nat.le_of_ble_eq_true rfl) dL_law_1320 (fun r u hp => ?_)
  obtain ⟨rfl, rfl⟩ := hp
  refine s_aload_n E dL_law_1323 rfl rfl ?_
  refine s_xload_n E dL_law_1324 rfl rfl ?_
  refine s_iload_n E dL_law_1325 rfl rfl ?_
  refine s_iconst (v := 1) E dL_law_1326 (by decide) ?_
  refine s_iadd E dL_law_1327 ?_
  refine s_top (y := 1) (by decide) ?_
  refine s_sld E hX hb0 hb (vp_c (by decide)) dL_law_1328 ?_
  refine s_top (y := (xs 1)) (congrArg xs (by decide)) ?_
  refine s_vI (As := [AI (xs 1)]) (S := [AI (-2)]) E (K_X10_lasts_95_MS l D aC b wv_318 ((xs 1)) FrM_0 RfM_0) cv_L_165 rfl rfl rfl (ltn FrC_0.1 (by decide)) (Nat.le_of_ble_eq_true rfl) (Nat.le_of_ble_eq_true rfl) ⟨(Nat.le_of_ble_eq_true rfl), (Nat.le_of_ble_eq_true rfl)⟩ (Nat.le_of_ble_eq_true rfl) dL_law_1329 (fun r u_1 hp => ?_)
  obtain ⟨rfl, hu_1, hu_2⟩ := hp
  refine s_icmp_eq (tgt := 2494) E dL_law_1332 (by decide) (fun _ => ?_) (fun hh => absurd (by decide) hh)
  exact law_tail l E hb hX hb0 u_1
set_option maxRecDepth 20000 in
set_option maxHeartbeats 2000000 in
theorem lawc_37 {p : Program} {e : Env} {s : State} {m : MethodId} {below : List Frame} {meth : Method} {c : Code} (l : Launch) {b0 b : Nat} {xs : Nat → Int32} {D : va_G} {aC : Nat → ClassId} (E : EE p s m meth c D aC b 4 cL_law RL ret) (hb : b = s.heap.size) (hX : va_X b0 6 xs s s.heap) (hb0 : b0 < s.heap.size) : Wv p l e room_1 s m #[Value.ref b0] below meth c (lw_Z below #[Value.ref b0] s) D aC b 4 1337 [some (AX b0), some (AR 0), some (AR 95), some (AI 0)] [] wv_318 116 6683 := by
  refine s_aload_n E dL_law_1337 rfl rfl ?_
  refine s_xload_n E dL_law_1338 rfl rfl ?_
  refine s_iload_n E dL_law_1339 rfl rfl ?_
  refine s_iconst (v := 1) E dL_law_1340 (by decide) ?_
  refine s_iadd E dL_law_1341 ?_
  refine s_top (y := 1) (by decide) ?_
  refine s_sld E hX hb0 hb (vp_c (by decide)) dL_law_1342 ?_
  refine s_top (y := (xs 1)) (congrArg xs (by decide)) ?_
  refine s_vI (As := [AI (xs 1)]) (S := []) E (K_X9_needed_0_CRMS l D aC b wv_318 ((xs 1)) FrC_0 RfC_0 FrM_0 RfM_0) cv_L_166 rfl rfl rfl (ltn FrC_0.1 (by decide)) (Nat.le_of_ble_eq_true rfl) (Nat.le_of_ble_eq_true rfl) ⟨(Nat.le_of_ble_eq_true rfl), (Nat.le_of_ble_eq_true rfl)⟩ (Nat.le_of_ble_eq_true rfl) dL_law_1343 (fun r u hp => ?_)
  obtain ⟨rfl, rfl⟩ := hp
  refine s_aload_n E dL_law_1346 rfl rfl ?_
  refine s_xload_n E dL_law_1347 rfl rfl ?_
  refine s_iload_n E dL_law_1348 rfl rfl ?_
  refine s_iconst (v := 1) E dL_law_1349 (by decide) ?_
  refine s_iadd E dL_law_1350 ?_
  refine s_top (y := 1) (by decide) ?_
  refine s_sld E hX hb0 hb (vp_c (by decide)) dL_law_1351 ?_
  refine s_top (y := (xs 1)) (congrArg xs (by decide)) ?_
  refine s_vI (As := [AI (xs 1)]) (S := [AI (-2)]) E (K_X10_needed_95_MS l D aC b wv_318 ((xs 1)) FrM_0 RfM_0) cv_L_169 rfl rfl rfl (ltn FrC_0.1 (by decide)) (Nat.le_of_ble_eq_true rfl) (Nat.le_of_ble_eq_true rfl) ⟨(Nat.le_of_ble_eq_true rfl), (Nat.le_of_ble_eq_true rfl)⟩ (Nat.le_of_ble_eq_true rfl) dL_law_1352 (fun r u_1 hp => ?_)
  obtain ⟨rfl, hu_1, hu_2⟩ := hp
  refine s_icmp_eq (tgt := 2494) E dL_law_1355 (by decide) (fun _ => ?_) (fun hh => absurd (by decide) hh)
  exact law_tail l E hb hX hb0 u_1
set_option maxRecDepth 20000 in
set_option maxHeartbeats 2000000 in
theorem lawc_38 {p : Program} {e : Env} {s : State} {m : MethodId} {below : List Frame} {meth : Method} {c : Code} (l : Launch) {b0 b : Nat} {xs : Nat → Int32} {D : va_G} {aC : Nat → ClassId} (E : EE p s m meth c D aC b 4 cL_law RL ret) (hb : b = s.heap.size) (hX : va_X b0 6 xs s s.heap) (hb0 : b0 < s.heap.size) : Wv p l e room_1 s m #[Value.ref b0] below meth c (lw_Z below #[Value.ref b0] s) D aC b 4 1360 [some (AX b0), some (AR 0), some (AR 95), some (AI 0)] [] wv_318 116 6683 := by
  refine s_aload_n E dL_law_1360 rfl rfl ?_
  refine s_xload_n E dL_law_1361 rfl rfl ?_
  refine s_iload_n E dL_law_1362 rfl rfl ?_
  refine s_iconst (v := 1) E dL_law_1363 (by decide) ?_
  refine s_iadd E dL_law_1364 ?_
  refine s_top (y := 1) (by decide) ?_
  refine s_sld E hX hb0 hb (vp_c (by decide)) dL_law_1365 ?_
  refine s_top (y := (xs 1)) (congrArg xs (by decide)) ?_
  refine s_xload_n E dL_law_1366 rfl rfl ?_
  refine s_iload_n E dL_law_1367 rfl rfl ?_
  refine s_iconst (v := 2) E dL_law_1368 (by decide) ?_
  refine s_iadd E dL_law_1369 ?_
  refine s_top (y := 2) (by decide) ?_
  refine s_sld E hX hb0 hb (vp_c (by decide)) dL_law_1370 ?_
  refine s_top (y := (xs 2)) (congrArg xs (by decide)) ?_
  refine s_vI (As := [AI (xs 1), AI (xs 2)]) (S := []) E (K_X9_by_0_CRMS l D aC b wv_318 ((xs 1)) ((xs 2)) FrC_0 RfC_0 FrM_0 RfM_0) cv_L_170 rfl rfl rfl (ltn FrC_0.1 (by decide)) (Nat.le_of_ble_eq_true rfl) (Nat.le_of_ble_eq_true rfl) ⟨(Nat.le_of_ble_eq_true rfl), (Nat.le_of_ble_eq_true rfl)⟩ (Nat.le_of_ble_eq_true rfl) dL_law_1371 (fun r u hp => ?_)
  obtain ⟨rfl, rfl⟩ := hp
  refine s_aload_n E dL_law_1374 rfl rfl ?_
  refine s_xload_n E dL_law_1375 rfl rfl ?_
  refine s_iload_n E dL_law_1376 rfl rfl ?_
  refine s_iconst (v := 1) E dL_law_1377 (by decide) ?_
  refine s_iadd E dL_law_1378 ?_
  refine s_top (y := 1) (by decide) ?_
  refine s_sld E hX hb0 hb (vp_c (by decide)) dL_law_1379 ?_
  refine s_top (y := (xs 1)) (congrArg xs (by decide)) ?_
  refine s_xload_n E dL_law_1380 rfl rfl ?_
  refine s_iload_n E dL_law_1381 rfl rfl ?_
  refine s_iconst (v := 2) E dL_law_1382 (by decide) ?_
  refine s_iadd E dL_law_1383 ?_
  refine s_top (y := 2) (by decide) ?_
  refine s_sld E hX hb0 hb (vp_c (by decide)) dL_law_1384 ?_
  refine s_top (y := (xs 2)) (congrArg xs (by decide)) ?_
  refine s_vI (As := [AI (xs 1), AI (xs 2)]) (S := [AI (-2)]) E (K_X10_by_95_MS l D aC b wv_318 ((xs 1)) ((xs 2)) FrM_0 RfM_0) cv_L_173 rfl rfl rfl (ltn FrC_0.1 (by decide)) (Nat.le_of_ble_eq_true rfl) (Nat.le_of_ble_eq_true rfl) ⟨(Nat.le_of_ble_eq_true rfl), (Nat.le_of_ble_eq_true rfl)⟩ (Nat.le_of_ble_eq_true rfl) dL_law_1385 (fun r u_1 hp => ?_)
  obtain ⟨rfl, hu_1, hu_2⟩ := hp
  refine s_icmp_eq (tgt := 2494) E dL_law_1388 (by decide) (fun _ => ?_) (fun hh => absurd (by decide) hh)
  exact law_tail l E hb hX hb0 u_1
set_option maxRecDepth 20000 in
set_option maxHeartbeats 2000000 in
theorem lawc_39 {p : Program} {e : Env} {s : State} {m : MethodId} {below : List Frame} {meth : Method} {c : Code} (l : Launch) {b0 b : Nat} {xs : Nat → Int32} {D : va_G} {aC : Nat → ClassId} (E : EE p s m meth c D aC b 4 cL_law RL ret) (hb : b = s.heap.size) (hX : va_X b0 6 xs s s.heap) (hb0 : b0 < s.heap.size) : Wv p l e room_1 s m #[Value.ref b0] below meth c (lw_Z below #[Value.ref b0] s) D aC b 4 1393 [some (AX b0), some (AR 0), some (AR 95), some (AI 0)] [] wv_318 116 6683 := by
  refine s_aload_n E dL_law_1393 rfl rfl ?_
  refine s_xload_n E dL_law_1394 rfl rfl ?_
  refine s_iload_n E dL_law_1395 rfl rfl ?_
  refine s_iconst (v := 1) E dL_law_1396 (by decide) ?_
  refine s_iadd E dL_law_1397 ?_
  refine s_top (y := 1) (by decide) ?_
  refine s_sld E hX hb0 hb (vp_c (by decide)) dL_law_1398 ?_
  refine s_top (y := (xs 1)) (congrArg xs (by decide)) ?_
  refine s_xload_n E dL_law_1399 rfl rfl ?_
  refine s_iload_n E dL_law_1400 rfl rfl ?_
  refine s_iconst (v := 2) E dL_law_1401 (by decide) ?_
  refine s_iadd E dL_law_1402 ?_
  refine s_top (y := 2) (by decide) ?_
  refine s_sld E hX hb0 hb (vp_c (by decide)) dL_law_1403 ?_
  refine s_top (y := (xs 2)) (congrArg xs (by decide)) ?_
  refine s_xload_n E dL_law_1404 rfl rfl ?_
  refine s_iload_n E dL_law_1405 rfl rfl ?_
  refine s_iconst (v := 3) E dL_law_1406 (by decide) ?_
  refine s_iadd E dL_law_1407 ?_
  refine s_top (y := 3) (by decide) ?_
  refine s_sld E hX hb0 hb (vp_c (by decide)) dL_law_1408 ?_
  refine s_top (y := (xs 3)) (congrArg xs (by decide)) ?_
  refine s_vI (As := [AI (xs 1), AI (xs 2), AI (xs 3)]) (S := []) E (K_X9_carry_0_CRMS l D aC b wv_318 ((xs 1)) ((xs 2)) ((xs 3)) FrC_0 RfC_0 FrM_0 RfM_0) cv_L_174 rfl rfl rfl (ltn FrC_0.1 (by decide)) (Nat.le_of_ble_eq_true rfl) (Nat.le_of_ble_eq_true rfl) ⟨(Nat.le_of_ble_eq_true rfl), (Nat.le_of_ble_eq_true rfl)⟩ (Nat.le_of_ble_eq_true rfl) dL_law_1409 (fun r u hp => ?_)
  obtain ⟨rfl, rfl⟩ := hp
  refine s_aload_n E dL_law_1412 rfl rfl ?_
  refine s_xload_n E dL_law_1413 rfl rfl ?_
  refine s_iload_n E dL_law_1414 rfl rfl ?_
  refine s_iconst (v := 1) E dL_law_1415 (by decide) ?_
  refine s_iadd E dL_law_1416 ?_
  refine s_top (y := 1) (by decide) ?_
  refine s_sld E hX hb0 hb (vp_c (by decide)) dL_law_1417 ?_
  refine s_top (y := (xs 1)) (congrArg xs (by decide)) ?_
  refine s_xload_n E dL_law_1418 rfl rfl ?_
  refine s_iload_n E dL_law_1419 rfl rfl ?_
  refine s_iconst (v := 2) E dL_law_1420 (by decide) ?_
  refine s_iadd E dL_law_1421 ?_
  refine s_top (y := 2) (by decide) ?_
  refine s_sld E hX hb0 hb (vp_c (by decide)) dL_law_1422 ?_
  refine s_top (y := (xs 2)) (congrArg xs (by decide)) ?_
  refine s_xload_n E dL_law_1423 rfl rfl ?_
  refine s_iload_n E dL_law_1424 rfl rfl ?_
  refine s_iconst (v := 3) E dL_law_1425 (by decide) ?_
  refine s_iadd E dL_law_1426 ?_
  refine s_top (y := 3) (by decide) ?_
  refine s_sld E hX hb0 hb (vp_c (by decide)) dL_law_1427 ?_
  refine s_top (y := (xs 3)) (congrArg xs (by decide)) ?_
  refine s_vI (As := [AI (xs 1), AI (xs 2), AI (xs 3)]) (S := [AI (-2)]) E (K_X10_carry_95_MS l D aC b wv_318 ((xs 1)) ((xs 2)) ((xs 3)) FrM_0 RfM_0) cv_L_177 rfl rfl rfl (ltn FrC_0.1 (by decide)) (Nat.le_of_ble_eq_true rfl) (Nat.le_of_ble_eq_true rfl) ⟨(Nat.le_of_ble_eq_true rfl), (Nat.le_of_ble_eq_true rfl)⟩ (Nat.le_of_ble_eq_true rfl) dL_law_1428 (fun r u_1 hp => ?_)
  obtain ⟨rfl, hu_1, hu_2⟩ := hp
  refine s_icmp_eq (tgt := 2494) E dL_law_1431 (by decide) (fun _ => ?_) (fun hh => absurd (by decide) hh)
  exact law_tail l E hb hX hb0 u_1
set_option maxRecDepth 20000 in
set_option maxHeartbeats 2000000 in
theorem lawc_40 {p : Program} {e : Env} {s : State} {m : MethodId} {below : List Frame} {meth : Method} {c : Code} (l : Launch) {b0 b : Nat} {xs : Nat → Int32} {D : va_G} {aC : Nat → ClassId} (E : EE p s m meth c D aC b 4 cL_law RL ret) (hb : b = s.heap.size) (hX : va_X b0 6 xs s s.heap) (hb0 : b0 < s.heap.size) : Wv p l e room_1 s m #[Value.ref b0] below meth c (lw_Z below #[Value.ref b0] s) D aC b 4 1436 [some (AX b0), some (AR 0), some (AR 95), some (AI 0)] [] wv_318 116 6683 := by
  refine s_aload_n E dL_law_1436 rfl rfl ?_
  refine s_xload_n E dL_law_1437 rfl rfl ?_
  refine s_iload_n E dL_law_1438 rfl rfl ?_
  refine s_iconst (v := 1) E dL_law_1439 (by decide) ?_
  refine s_iadd E dL_law_1440 ?_
  refine s_top (y := 1) (by decide) ?_
  refine s_sld E hX hb0 hb (vp_c (by decide)) dL_law_1441 ?_
  refine s_top (y := (xs 1)) (congrArg xs (by decide)) ?_
  refine s_xload_n E dL_law_1442 rfl rfl ?_
  refine s_iload_n E dL_law_1443 rfl rfl ?_
  refine s_iconst (v := 2) E dL_law_1444 (by decide) ?_
  refine s_iadd E dL_law_1445 ?_
  refine s_top (y := 2) (by decide) ?_
  refine s_sld E hX hb0 hb (vp_c (by decide)) dL_law_1446 ?_
  refine s_top (y := (xs 2)) (congrArg xs (by decide)) ?_
  refine s_xload_n E dL_law_1447 rfl rfl ?_
  refine s_iload_n E dL_law_1448 rfl rfl ?_
  refine s_iconst (v := 3) E dL_law_1449 (by decide) ?_
  refine s_iadd E dL_law_1450 ?_
  refine s_top (y := 3) (by decide) ?_
  refine s_sld E hX hb0 hb (vp_c (by decide)) dL_law_1451 ?_
  refine s_top (y := (xs 3)) (congrArg xs (by decide)) ?_
  refine s_xload_n E dL_law_1452 rfl rfl ?_
  refine s_iload_n E dL_law_1453 rfl rfl ?_
  refine s_iconst (v := 4) E dL_law_1454 (by decide) ?_
  refine s_iadd E dL_law_1455 ?_
  refine s_top (y := 4) (by decide) ?_
  refine s_sld E hX hb0 hb (vp_c (by decide)) dL_law_1456 ?_
  refine s_top (y := (xs 4)) (congrArg xs (by decide)) ?_
  refine s_vI (As := [AI (xs 1), AI (xs 2), AI (xs 3), AI (xs 4)]) (S := []) E (K_X9_walk_0_CRMS l D aC b wv_318 ((xs 1)) ((xs 2)) ((xs 3)) ((xs 4)) FrC_0 RfC_0 FrM_0 RfM_0) cv_L_178 rfl rfl rfl (ltn FrC_0.1 (by decide)) (Nat.le_of_ble_eq_true rfl) (Nat.le_of_ble_eq_true rfl) ⟨(Nat.le_of_ble_eq_true rfl), (Nat.le_of_ble_eq_true rfl)⟩ (Nat.le_of_ble_eq_true rfl) dL_law_1457 (fun r u hp => ?_)
  obtain ⟨rfl, rfl⟩ := hp
  refine s_aload_n E dL_law_1460 rfl rfl ?_
  refine s_xload_n E dL_law_1461 rfl rfl ?_
  refine s_iload_n E dL_law_1462 rfl rfl ?_
  refine s_iconst (v := 1) E dL_law_1463 (by decide) ?_
  refine s_iadd E dL_law_1464 ?_
  refine s_top (y := 1) (by decide) ?_
  refine s_sld E hX hb0 hb (vp_c (by decide)) dL_law_1465 ?_
  refine s_top (y := (xs 1)) (congrArg xs (by decide)) ?_
  refine s_xload_n E dL_law_1466 rfl rfl ?_
  refine s_iload_n E dL_law_1467 rfl rfl ?_
  refine s_iconst (v := 2) E dL_law_1468 (by decide) ?_
  refine s_iadd E dL_law_1469 ?_
  refine s_top (y := 2) (by decide) ?_
  refine s_sld E hX hb0 hb (vp_c (by decide)) dL_law_1470 ?_
  refine s_top (y := (xs 2)) (congrArg xs (by decide)) ?_
  refine s_xload_n E dL_law_1471 rfl rfl ?_
  refine s_iload_n E dL_law_1472 rfl rfl ?_
  refine s_iconst (v := 3) E dL_law_1473 (by decide) ?_
  refine s_iadd E dL_law_1474 ?_
  refine s_top (y := 3) (by decide) ?_
  refine s_sld E hX hb0 hb (vp_c (by decide)) dL_law_1475 ?_
  refine s_top (y := (xs 3)) (congrArg xs (by decide)) ?_
  refine s_xload_n E dL_law_1476 rfl rfl ?_
  refine s_iload_n E dL_law_1477 rfl rfl ?_
  refine s_iconst (v := 4) E dL_law_1478 (by decide) ?_
  refine s_iadd E dL_law_1479 ?_
  refine s_top (y := 4) (by decide) ?_
  refine s_sld E hX hb0 hb (vp_c (by decide)) dL_law_1480 ?_
  refine s_top (y := (xs 4)) (congrArg xs (by decide)) ?_
  refine s_vI (As := [AI (xs 1), AI (xs 2), AI (xs 3), AI (xs 4)]) (S := [AI (-2)]) E (K_X10_walk_95_MS l D aC b wv_318 ((xs 1)) ((xs 2)) ((xs 3)) ((xs 4)) FrM_0 RfM_0) cv_L_182 rfl rfl rfl (ltn FrC_0.1 (by decide)) (Nat.le_of_ble_eq_true rfl) (Nat.le_of_ble_eq_true rfl) ⟨(Nat.le_of_ble_eq_true rfl), (Nat.le_of_ble_eq_true rfl)⟩ (Nat.le_of_ble_eq_true rfl) dL_law_1481 (fun r u_1 hp => ?_)
  obtain ⟨rfl, hu_1, hu_2⟩ := hp
  refine s_icmp_eq (tgt := 2494) E dL_law_1484 (by decide) (fun _ => ?_) (fun hh => absurd (by decide) hh)
  exact law_tail l E hb hX hb0 u_1
set_option maxRecDepth 20000 in
set_option maxHeartbeats 2000000 in
theorem lawc_41 {p : Program} {e : Env} {s : State} {m : MethodId} {below : List Frame} {meth : Method} {c : Code} (l : Launch) {b0 b : Nat} {xs : Nat → Int32} {D : va_G} {aC : Nat → ClassId} (E : EE p s m meth c D aC b 4 cL_law RL ret) (hb : b = s.heap.size) (hX : va_X b0 6 xs s s.heap) (hb0 : b0 < s.heap.size) : Wv p l e room_1 s m #[Value.ref b0] below meth c (lw_Z below #[Value.ref b0] s) D aC b 4 1489 [some (AX b0), some (AR 0), some (AR 95), some (AI 0)] [] wv_318 116 6683 := by
  refine s_aload_n E dL_law_1489 rfl rfl ?_
  refine s_xload_n E dL_law_1490 rfl rfl ?_
  refine s_iload_n E dL_law_1491 rfl rfl ?_
  refine s_iconst (v := 1) E dL_law_1492 (by decide) ?_
  refine s_iadd E dL_law_1493 ?_
  refine s_top (y := 1) (by decide) ?_
  refine s_sld E hX hb0 hb (vp_c (by decide)) dL_law_1494 ?_
  refine s_top (y := (xs 1)) (congrArg xs (by decide)) ?_
  refine s_xload_n E dL_law_1495 rfl rfl ?_
  refine s_iload_n E dL_law_1496 rfl rfl ?_
  refine s_iconst (v := 2) E dL_law_1497 (by decide) ?_
  refine s_iadd E dL_law_1498 ?_
  refine s_top (y := 2) (by decide) ?_
  refine s_sld E hX hb0 hb (vp_c (by decide)) dL_law_1499 ?_
  refine s_top (y := (xs 2)) (congrArg xs (by decide)) ?_
  refine s_vI (As := [AI (xs 1), AI (xs 2)]) (S := []) E (K_X9_widen_0_CRMS l D aC b wv_318 ((xs 1)) ((xs 2)) FrC_0 RfC_0 FrM_0 RfM_0) cv_L_183 rfl rfl rfl (ltn FrC_0.1 (by decide)) (Nat.le_of_ble_eq_true rfl) (Nat.le_of_ble_eq_true rfl) ⟨(Nat.le_of_ble_eq_true rfl), (Nat.le_of_ble_eq_true rfl)⟩ (Nat.le_of_ble_eq_true rfl) dL_law_1500 (fun r u hp => ?_)
  obtain ⟨rfl, rfl⟩ := hp
  refine s_aload_n E dL_law_1503 rfl rfl ?_
  refine s_xload_n E dL_law_1504 rfl rfl ?_
  refine s_iload_n E dL_law_1505 rfl rfl ?_
  refine s_iconst (v := 1) E dL_law_1506 (by decide) ?_
  refine s_iadd E dL_law_1507 ?_
  refine s_top (y := 1) (by decide) ?_
  refine s_sld E hX hb0 hb (vp_c (by decide)) dL_law_1508 ?_
  refine s_top (y := (xs 1)) (congrArg xs (by decide)) ?_
  refine s_xload_n E dL_law_1509 rfl rfl ?_
  refine s_iload_n E dL_law_1510 rfl rfl ?_
  refine s_iconst (v := 2) E dL_law_1511 (by decide) ?_
  refine s_iadd E dL_law_1512 ?_
  refine s_top (y := 2) (by decide) ?_
  refine s_sld E hX hb0 hb (vp_c (by decide)) dL_law_1513 ?_
  refine s_top (y := (xs 2)) (congrArg xs (by decide)) ?_
  refine s_vI (As := [AI (xs 1), AI (xs 2)]) (S := [AI (-2)]) E (K_X10_widen_95_MS l D aC b wv_318 ((xs 1)) ((xs 2)) FrM_0 RfM_0) cv_L_186 rfl rfl rfl (ltn FrC_0.1 (by decide)) (Nat.le_of_ble_eq_true rfl) (Nat.le_of_ble_eq_true rfl) ⟨(Nat.le_of_ble_eq_true rfl), (Nat.le_of_ble_eq_true rfl)⟩ (Nat.le_of_ble_eq_true rfl) dL_law_1514 (fun r u_1 hp => ?_)
  obtain ⟨rfl, hu_1, hu_2⟩ := hp
  refine s_icmp_eq (tgt := 2494) E dL_law_1517 (by decide) (fun _ => ?_) (fun hh => absurd (by decide) hh)
  exact law_tail l E hb hX hb0 u_1
set_option maxRecDepth 20000 in
set_option maxHeartbeats 2000000 in
theorem lawc_42 {p : Program} {e : Env} {s : State} {m : MethodId} {below : List Frame} {meth : Method} {c : Code} (l : Launch) {b0 b : Nat} {xs : Nat → Int32} {D : va_G} {aC : Nat → ClassId} (E : EE p s m meth c D aC b 4 cL_law RL ret) (hb : b = s.heap.size) (hX : va_X b0 6 xs s s.heap) (hb0 : b0 < s.heap.size) : Wv p l e room_1 s m #[Value.ref b0] below meth c (lw_Z below #[Value.ref b0] s) D aC b 4 1522 [some (AX b0), some (AR 0), some (AR 95), some (AI 0)] [] wv_318 116 6683 := by
  refine s_aload_n E dL_law_1522 rfl rfl ?_
  refine s_xload_n E dL_law_1523 rfl rfl ?_
  refine s_iload_n E dL_law_1524 rfl rfl ?_
  refine s_iconst (v := 1) E dL_law_1525 (by decide) ?_
  refine s_iadd E dL_law_1526 ?_
  refine s_top (y := 1) (by decide) ?_
  refine s_sld E hX hb0 hb (vp_c (by decide)) dL_law_1527 ?_
  refine s_top (y := (xs 1)) (congrArg xs (by decide)) ?_
  refine s_xload_n E dL_law_1528 rfl rfl ?_
  refine s_iload_n E dL_law_1529 rfl rfl ?_
  refine s_iconst (v := 2) E dL_law_1530 (by decide) ?_
  refine s_iadd E dL_law_1531 ?_
  refine s_top (y := 2) (by decide) ?_
  refine s_sld E hX hb0 hb (vp_c (by decide)) dL_law_1532 ?_
  refine s_top (y := (xs 2)) (congrArg xs (by decide)) ?_
  refine s_vI (As := [AI (xs 1), AI (xs 2)]) (S := []) E (K_X9_shut_0_CRMS l D aC b wv_318 ((xs 1)) ((xs 2)) FrC_0 RfC_0 FrM_0 RfM_0) cv_L_187 rfl rfl rfl (ltn FrC_0.1 (by decide)) (Nat.le_of_ble_eq_true rfl) (Nat.le_of_ble_eq_true rfl) ⟨(Nat.le_of_ble_eq_true rfl), (Nat.le_of_ble_eq_true rfl)⟩ (Nat.le_of_ble_eq_true rfl) dL_law_1533 (fun r u hp => ?_)
  obtain ⟨rfl, rfl⟩ := hp
  refine s_aload_n E dL_law_1536 rfl rfl ?_
  refine s_xload_n E dL_law_1537 rfl rfl ?_
  refine s_iload_n E dL_law_1538 rfl rfl ?_
  refine s_iconst (v := 1) E dL_law_1539 (by decide) ?_
  refine s_iadd E dL_law_1540 ?_
  refine s_top (y := 1) (by decide) ?_
  refine s_sld E hX hb0 hb (vp_c (by decide)) dL_law_1541 ?_
  refine s_top (y := (xs 1)) (congrArg xs (by decide)) ?_
  refine s_xload_n E dL_law_1542 rfl rfl ?_
  refine s_iload_n E dL_law_1543 rfl rfl ?_
  refine s_iconst (v := 2) E dL_law_1544 (by decide) ?_
  refine s_iadd E dL_law_1545 ?_
  refine s_top (y := 2) (by decide) ?_
  refine s_sld E hX hb0 hb (vp_c (by decide)) dL_law_1546 ?_
  refine s_top (y := (xs 2)) (congrArg xs (by decide)) ?_
  refine s_vI (As := [AI (xs 1), AI (xs 2)]) (S := [AI (-2)]) E (K_X10_shut_95_MS l D aC b wv_318 ((xs 1)) ((xs 2)) FrM_0 RfM_0) cv_L_190 rfl rfl rfl (ltn FrC_0.1 (by decide)) (Nat.le_of_ble_eq_true rfl) (Nat.le_of_ble_eq_true rfl) ⟨(Nat.le_of_ble_eq_true rfl), (Nat.le_of_ble_eq_true rfl)⟩ (Nat.le_of_ble_eq_true rfl) dL_law_1547 (fun r u_1 hp => ?_)
  obtain ⟨rfl, hu_1, hu_2⟩ := hp
  refine s_icmp_eq (tgt := 2494) E dL_law_1550 (by decide) (fun _ => ?_) (fun hh => absurd (by decide) hh)
  exact law_tail l E hb hX hb0 u_1
set_option maxRecDepth 20000 in
set_option maxHeartbeats 2000000 in
theorem lawc_43 {p : Program} {e : Env} {s : State} {m : MethodId} {below : List Frame} {meth : Method} {c : Code} (l : Launch) {b0 b : Nat} {xs : Nat → Int32} {D : va_G} {aC : Nat → ClassId} (E : EE p s m meth c D aC b 4 cL_law RL ret) (hb : b = s.heap.size) (hX : va_X b0 6 xs s s.heap) (hb0 : b0 < s.heap.size) : Wv p l e room_1 s m #[Value.ref b0] below meth c (lw_Z below #[Value.ref b0] s) D aC b 4 1555 [some (AX b0), some (AR 0), some (AR 95), some (AI 0)] [] wv_318 116 6683 := by
  refine s_aload_n E dL_law_1555 rfl rfl ?_
  refine s_xload_n E dL_law_1556 rfl rfl ?_
  refine s_iload_n E dL_law_1557 rfl rfl ?_
  refine s_iconst (v := 1) E dL_law_1558 (by decide) ?_
  refine s_iadd E dL_law_1559 ?_
  refine s_top (y := 1) (by decide) ?_
  refine s_sld E hX hb0 hb (vp_c (by decide)) dL_law_1560 ?_
  refine s_top (y := (xs 1)) (congrArg xs (by decide)) ?_
  refine s_xload_n E dL_law_1561 rfl rfl ?_
  refine s_iload_n E dL_law_1562 rfl rfl ?_
  refine s_iconst (v := 2) E dL_law_1563 (by decide) ?_
  refine s_iadd E dL_law_1564 ?_
  refine s_top (y := 2) (by decide) ?_
  refine s_sld E hX hb0 hb (vp_c (by decide)) dL_law_1565 ?_
  refine s_top (y := (xs 2)) (congrArg xs (by decide)) ?_
  refine s_xload_n E dL_law_1566 rfl rfl ?_
  refine s_iload_n E dL_law_1567 rfl rfl ?_
  refine s_iconst (v := 3) E dL_law_1568 (by decide) ?_
  refine s_iadd E dL_law_1569 ?_
  refine s_top (y := 3) (by decide) ?_
  refine s_sld E hX hb0 hb (vp_c (by decide)) dL_law_1570 ?_
  refine s_top (y := (xs 3)) (congrArg xs (by decide)) ?_
  refine s_vI (As := [AI (xs 1), AI (xs 2), AI (xs 3)]) (S := []) E (K_X9_bars_0_CRMS l D aC b wv_318 ((xs 1)) ((xs 2)) ((xs 3)) FrC_0 RfC_0 FrM_0 RfM_0) cv_L_191 rfl rfl rfl (ltn FrC_0.1 (by decide)) (Nat.le_of_ble_eq_true rfl) (Nat.le_of_ble_eq_true rfl) ⟨(Nat.le_of_ble_eq_true rfl), (Nat.le_of_ble_eq_true rfl)⟩ (Nat.le_of_ble_eq_true rfl) dL_law_1571 (fun r u hp => ?_)
  obtain ⟨rfl, rfl⟩ := hp
  refine s_aload_n E dL_law_1574 rfl rfl ?_
  refine s_xload_n E dL_law_1575 rfl rfl ?_
  refine s_iload_n E dL_law_1576 rfl rfl ?_
  refine s_iconst (v := 1) E dL_law_1577 (by decide) ?_
  refine s_iadd E dL_law_1578 ?_
  refine s_top (y := 1) (by decide) ?_
  refine s_sld E hX hb0 hb (vp_c (by decide)) dL_law_1579 ?_
  refine s_top (y := (xs 1)) (congrArg xs (by decide)) ?_
  refine s_xload_n E dL_law_1580 rfl rfl ?_
  refine s_iload_n E dL_law_1581 rfl rfl ?_
  refine s_iconst (v := 2) E dL_law_1582 (by decide) ?_
  refine s_iadd E dL_law_1583 ?_
  refine s_top (y := 2) (by decide) ?_
  refine s_sld E hX hb0 hb (vp_c (by decide)) dL_law_1584 ?_
  refine s_top (y := (xs 2)) (congrArg xs (by decide)) ?_
  refine s_xload_n E dL_law_1585 rfl rfl ?_
  refine s_iload_n E dL_law_1586 rfl rfl ?_
  refine s_iconst (v := 3) E dL_law_1587 (by decide) ?_
  refine s_iadd E dL_law_1588 ?_
  refine s_top (y := 3) (by decide) ?_
  refine s_sld E hX hb0 hb (vp_c (by decide)) dL_law_1589 ?_
  refine s_top (y := (xs 3)) (congrArg xs (by decide)) ?_
  refine s_vI (As := [AI (xs 1), AI (xs 2), AI (xs 3)]) (S := [AI (-2)]) E (K_X10_bars_95_MS l D aC b wv_318 ((xs 1)) ((xs 2)) ((xs 3)) FrM_0 RfM_0) cv_L_194 rfl rfl rfl (ltn FrC_0.1 (by decide)) (Nat.le_of_ble_eq_true rfl) (Nat.le_of_ble_eq_true rfl) ⟨(Nat.le_of_ble_eq_true rfl), (Nat.le_of_ble_eq_true rfl)⟩ (Nat.le_of_ble_eq_true rfl) dL_law_1590 (fun r u hp => ?_)
  obtain ⟨rfl, rfl⟩ := hp
  refine s_icmp_eq (tgt := 2494) E dL_law_1593 (by decide) (fun _ => ?_) (fun hh => absurd (by decide) hh)
  exact law_tail l E hb hX hb0 wv_318
set_option maxRecDepth 20000 in
set_option maxHeartbeats 2000000 in
theorem lawc_44 {p : Program} {e : Env} {s : State} {m : MethodId} {below : List Frame} {meth : Method} {c : Code} (l : Launch) {b0 b : Nat} {xs : Nat → Int32} {D : va_G} {aC : Nat → ClassId} (E : EE p s m meth c D aC b 4 cL_law RL ret) (hb : b = s.heap.size) (hX : va_X b0 6 xs s s.heap) (hb0 : b0 < s.heap.size) : Wv p l e room_1 s m #[Value.ref b0] below meth c (lw_Z below #[Value.ref b0] s) D aC b 4 1598 [some (AX b0), some (AR 0), some (AR 95), some (AI 0)] [] wv_318 116 6683 := by
  refine s_aload_n E dL_law_1598 rfl rfl ?_
  refine s_xload_n E dL_law_1599 rfl rfl ?_
  refine s_iload_n E dL_law_1600 rfl rfl ?_
  refine s_iconst (v := 1) E dL_law_1601 (by decide) ?_
  refine s_iadd E dL_law_1602 ?_
  refine s_top (y := 1) (by decide) ?_
  refine s_sld E hX hb0 hb (vp_c (by decide)) dL_law_1603 ?_
  refine s_top (y := (xs 1)) (congrArg xs (by decide)) ?_
  refine s_vI (As := [AI (xs 1)]) (S := []) E (K_X9_firsts_0_CRMS l D aC b wv_318 ((xs 1)) FrC_0 RfC_0 FrM_0 RfM_0) cv_L_195 rfl rfl rfl (ltn FrC_0.1 (by decide)) (Nat.le_of_ble_eq_true rfl) (Nat.le_of_ble_eq_true rfl) ⟨(Nat.le_of_ble_eq_true rfl), (Nat.le_of_ble_eq_true rfl)⟩ (Nat.le_of_ble_eq_true rfl) dL_law_1604 (fun r u hp => ?_)
  obtain ⟨rfl, rfl⟩ := hp
  refine s_aload_n E dL_law_1607 rfl rfl ?_
  refine s_xload_n E dL_law_1608 rfl rfl ?_
  refine s_iload_n E dL_law_1609 rfl rfl ?_
  refine s_iconst (v := 1) E dL_law_1610 (by decide) ?_
  refine s_iadd E dL_law_1611 ?_
  refine s_top (y := 1) (by decide) ?_
  refine s_sld E hX hb0 hb (vp_c (by decide)) dL_law_1612 ?_
  refine s_top (y := (xs 1)) (congrArg xs (by decide)) ?_
  refine s_vI (As := [AI (xs 1)]) (S := [AI (-2)]) E (K_X10_firsts_95_MS l D aC b wv_318 ((xs 1)) FrM_0 RfM_0) cv_L_198 rfl rfl rfl (ltn FrC_0.1 (by decide)) (Nat.le_of_ble_eq_true rfl) (Nat.le_of_ble_eq_true rfl) ⟨(Nat.le_of_ble_eq_true rfl), (Nat.le_of_ble_eq_true rfl)⟩ (Nat.le_of_ble_eq_true rfl) dL_law_1613 (fun r u hp => ?_)
  obtain ⟨rfl, rfl⟩ := hp
  refine s_icmp_eq (tgt := 2494) E dL_law_1616 (by decide) (fun _ => ?_) (fun hh => absurd (by decide) hh)
  exact law_tail l E hb hX hb0 wv_318
set_option maxRecDepth 20000 in
set_option maxHeartbeats 2000000 in
theorem lawc_45 {p : Program} {e : Env} {s : State} {m : MethodId} {below : List Frame} {meth : Method} {c : Code} (l : Launch) {b0 b : Nat} {xs : Nat → Int32} {D : va_G} {aC : Nat → ClassId} (E : EE p s m meth c D aC b 4 cL_law RL ret) (hb : b = s.heap.size) (hX : va_X b0 6 xs s s.heap) (hb0 : b0 < s.heap.size) : Wv p l e room_1 s m #[Value.ref b0] below meth c (lw_Z below #[Value.ref b0] s) D aC b 4 1621 [some (AX b0), some (AR 0), some (AR 95), some (AI 0)] [] wv_318 116 6683 := by
  refine s_aload_n E dL_law_1621 rfl rfl ?_
  refine s_xload_n E dL_law_1622 rfl rfl ?_
  refine s_iload_n E dL_law_1623 rfl rfl ?_
  refine s_iconst (v := 1) E dL_law_1624 (by decide) ?_
  refine s_iadd E dL_law_1625 ?_
  refine s_top (y := 1) (by decide) ?_
  refine s_sld E hX hb0 hb (vp_c (by decide)) dL_law_1626 ?_
  refine s_top (y := (xs 1)) (congrArg xs (by decide)) ?_
  refine s_vI (As := [AI (xs 1)]) (S := []) E (K_X9_ask_0_CRMS l D aC b wv_318 ((xs 1)) FrC_0 RfC_0 FrM_0 RfM_0) cv_L_199 rfl rfl rfl (ltn FrC_0.1 (by decide)) (Nat.le_of_ble_eq_true rfl) (Nat.le_of_ble_eq_true rfl) ⟨(Nat.le_of_ble_eq_true rfl), (Nat.le_of_ble_eq_true rfl)⟩ (Nat.le_of_ble_eq_true rfl) dL_law_1627 (fun r u hp => ?_)
  obtain ⟨rfl, rfl⟩ := hp
  refine s_aload_n E dL_law_1630 rfl rfl ?_
  refine s_xload_n E dL_law_1631 rfl rfl ?_
  refine s_iload_n E dL_law_1632 rfl rfl ?_
  refine s_iconst (v := 1) E dL_law_1633 (by decide) ?_
  refine s_iadd E dL_law_1634 ?_
  refine s_top (y := 1) (by decide) ?_
  refine s_sld E hX hb0 hb (vp_c (by decide)) dL_law_1635 ?_
  refine s_top (y := (xs 1)) (congrArg xs (by decide)) ?_
  refine s_vI (As := [AI (xs 1)]) (S := [AI (-2)]) E (K_X10_ask_95_MS l D aC b wv_318 ((xs 1)) FrM_0 RfM_0) cv_L_202 rfl rfl rfl (ltn FrC_0.1 (by decide)) (Nat.le_of_ble_eq_true rfl) (Nat.le_of_ble_eq_true rfl) ⟨(Nat.le_of_ble_eq_true rfl), (Nat.le_of_ble_eq_true rfl)⟩ (Nat.le_of_ble_eq_true rfl) dL_law_1636 (fun r u hp => ?_)
  obtain ⟨rfl, rfl⟩ := hp
  refine s_icmp_eq (tgt := 2494) E dL_law_1639 (by decide) (fun _ => ?_) (fun hh => absurd (by decide) hh)
  exact law_tail l E hb hX hb0 wv_318
set_option maxRecDepth 20000 in
set_option maxHeartbeats 2000000 in
theorem lawc_46 {p : Program} {e : Env} {s : State} {m : MethodId} {below : List Frame} {meth : Method} {c : Code} (l : Launch) {b0 b : Nat} {xs : Nat → Int32} {D : va_G} {aC : Nat → ClassId} (E : EE p s m meth c D aC b 4 cL_law RL ret) (hb : b = s.heap.size) (hX : va_X b0 6 xs s s.heap) (hb0 : b0 < s.heap.size) : Wv p l e room_1 s m #[Value.ref b0] below meth c (lw_Z below #[Value.ref b0] s) D aC b 4 1644 [some (AX b0), some (AR 0), some (AR 95), some (AI 0)] [] wv_318 116 6683 := by
  refine s_aload_n E dL_law_1644 rfl rfl ?_
  refine s_xload_n E dL_law_1645 rfl rfl ?_
  refine s_iload_n E dL_law_1646 rfl rfl ?_
  refine s_iconst (v := 1) E dL_law_1647 (by decide) ?_
  refine s_iadd E dL_law_1648 ?_
  refine s_top (y := 1) (by decide) ?_
  refine s_sld E hX hb0 hb (vp_c (by decide)) dL_law_1649 ?_
  refine s_top (y := (xs 1)) (congrArg xs (by decide)) ?_
  refine s_vI (As := [AI (xs 1)]) (S := []) E (K_X9_leaves_0_CRMS l D aC b wv_318 ((xs 1)) FrC_0 RfC_0 FrM_0 RfM_0) cv_L_203 rfl rfl rfl (ltn FrC_0.1 (by decide)) (Nat.le_of_ble_eq_true rfl) (Nat.le_of_ble_eq_true rfl) ⟨(Nat.le_of_ble_eq_true rfl), (Nat.le_of_ble_eq_true rfl)⟩ (Nat.le_of_ble_eq_true rfl) dL_law_1650 (fun r u hp => ?_)
  obtain ⟨rfl, rfl⟩ := hp
  refine s_aload_n E dL_law_1653 rfl rfl ?_
  refine s_xload_n E dL_law_1654 rfl rfl ?_
  refine s_iload_n E dL_law_1655 rfl rfl ?_
  refine s_iconst (v := 1) E dL_law_1656 (by decide) ?_
  refine s_iadd E dL_law_1657 ?_
  refine s_top (y := 1) (by decide) ?_
  refine s_sld E hX hb0 hb (vp_c (by decide)) dL_law_1658 ?_
  refine s_top (y := (xs 1)) (congrArg xs (by decide)) ?_
  refine s_vI (As := [AI (xs 1)]) (S := [AI (-2)]) E (K_X10_leaves_95_MS l D aC b wv_318 ((xs 1)) FrM_0 RfM_0) cv_L_206 rfl rfl rfl (ltn FrC_0.1 (by decide)) (Nat.le_of_ble_eq_true rfl) (Nat.le_of_ble_eq_true rfl) ⟨(Nat.le_of_ble_eq_true rfl), (Nat.le_of_ble_eq_true rfl)⟩ (Nat.le_of_ble_eq_true rfl) dL_law_1659 (fun r u hp => ?_)
  obtain ⟨rfl, rfl⟩ := hp
  refine s_icmp_eq (tgt := 2494) E dL_law_1662 (by decide) (fun _ => ?_) (fun hh => absurd (by decide) hh)
  exact law_tail l E hb hX hb0 wv_318
set_option maxRecDepth 20000 in
set_option maxHeartbeats 2000000 in
theorem lawc_47 {p : Program} {e : Env} {s : State} {m : MethodId} {below : List Frame} {meth : Method} {c : Code} (l : Launch) {b0 b : Nat} {xs : Nat → Int32} {D : va_G} {aC : Nat → ClassId} (E : EE p s m meth c D aC b 4 cL_law RL ret) (hb : b = s.heap.size) (hX : va_X b0 6 xs s s.heap) (hb0 : b0 < s.heap.size) : Wv p l e room_1 s m #[Value.ref b0] below meth c (lw_Z below #[Value.ref b0] s) D aC b 4 1667 [some (AX b0), some (AR 0), some (AR 95), some (AI 0)] [] wv_318 116 6683 := by
  refine s_aload_n E dL_law_1667 rfl rfl ?_
  refine s_xload_n E dL_law_1668 rfl rfl ?_
  refine s_iload_n E dL_law_1669 rfl rfl ?_
  refine s_iconst (v := 1) E dL_law_1670 (by decide) ?_
  refine s_iadd E dL_law_1671 ?_
  refine s_top (y := 1) (by decide) ?_
  refine s_sld E hX hb0 hb (vp_c (by decide)) dL_law_1672 ?_
  refine s_top (y := (xs 1)) (congrArg xs (by decide)) ?_
  refine s_vI (As := [AI (xs 1)]) (S := []) E (K_X9_seats_0_CRMS l D aC b wv_318 ((xs 1)) FrC_0 RfC_0 FrM_0 RfM_0) cv_L_207 rfl rfl rfl (ltn FrC_0.1 (by decide)) (Nat.le_of_ble_eq_true rfl) (Nat.le_of_ble_eq_true rfl) ⟨(Nat.le_of_ble_eq_true rfl), (Nat.le_of_ble_eq_true rfl)⟩ (Nat.le_of_ble_eq_true rfl) dL_law_1673 (fun r u hp => ?_)
  obtain ⟨rfl, rfl⟩ := hp
  refine s_aload_n E dL_law_1676 rfl rfl ?_
  refine s_xload_n E dL_law_1677 rfl rfl ?_
  refine s_iload_n E dL_law_1678 rfl rfl ?_
  refine s_iconst (v := 1) E dL_law_1679 (by decide) ?_
  refine s_iadd E dL_law_1680 ?_
  refine s_top (y := 1) (by decide) ?_
  refine s_sld E hX hb0 hb (vp_c (by decide)) dL_law_1681 ?_
  refine s_top (y := (xs 1)) (congrArg xs (by decide)) ?_
  refine s_vI (As := [AI (xs 1)]) (S := [AI (-2)]) E (K_X10_seats_95_MS l D aC b wv_318 ((xs 1)) FrM_0 RfM_0) cv_L_210 rfl rfl rfl (ltn FrC_0.1 (by decide)) (Nat.le_of_ble_eq_true rfl) (Nat.le_of_ble_eq_true rfl) ⟨(Nat.le_of_ble_eq_true rfl), (Nat.le_of_ble_eq_true rfl)⟩ (Nat.le_of_ble_eq_true rfl) dL_law_1682 (fun r u_1 hp => ?_)
  obtain ⟨rfl, hu_1, hu_2⟩ := hp
  refine s_icmp_eq (tgt := 2494) E dL_law_1685 (by decide) (fun _ => ?_) (fun hh => absurd (by decide) hh)
  exact law_tail l E hb hX hb0 u_1
