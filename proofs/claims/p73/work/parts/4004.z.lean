set_option maxRecDepth 20000 in
set_option maxHeartbeats 2000000 in
theorem Z_X10_readBid_95 (l : Launch) (D : va_G) (aC : Nat → ClassId) (b : Nat) (w : XW)  (hI : Iv w) (hpi : (w.2.2.1 95 9).toInt ≤ (w.2.2.1 95 8).toInt ∧ ((w.2.2.1 95 10).toInt = 0 ∨ (w.2.2.1 95 9).toInt < (w.2.2.1 95 8).toInt)) (hy7 : (w.2.2.1 101 7).toInt ≤ 9) : CnV l D aC b M_X10_readBid 9 310 0 0 [AR 95] w (fun u => ((u.2.2.1 95 7).toInt = (w.2.2.1 95 7).toInt ∧ ((u.2.2.1 95 12).toInt = 0 → (w.2.2.1 95 12).toInt = 0) ∧ (w.2.2.1 95 9).toInt ≤ (u.2.2.1 95 9).toInt ∧ (u.2.2.1 95 9).toInt ≤ (u.2.2.1 95 8).toInt ∧ ((u.2.2.1 95 10).toInt = 0 ∨ (u.2.2.1 95 9).toInt < (u.2.2.1 95 8).toInt) ∧ (u.2.2.1 101 9).toInt = (w.2.2.1 101 9).toInt) ∧ Jv w u) := by
  refine cn_V (own := RX10) (nm := "readBid") (L0 := [some (AR 95), none]) (by decide +kernel) rfl rfl (Nat.le_of_ble_eq_true rfl) rfl ?_
  intro p e s m args below meth c E hin
  have hJ : Jv w w := jv_rfl hI
  refine s_bipush (v := 74) E dX10_readBid_0 (by decide) ?_
  refine s_iconst (v := 3) E dX10_readBid_2 (by decide) ?_
  refine s_aload_n E dX10_readBid_3 rfl rfl ?_
  refine s_gR (r := 101) E fg_X10_31 rfl rfl (jv_lt hJ (by decide)) (jv_r hJ (by decide +kernel)) dX10_readBid_4 ?_
  refine s_bipush (v := 7) E dX10_readBid_7 (by decide) ?_
  refine s_iald E rfl (jv_lt hJ (by decide)) (z_in (u := 7) (by decide) (by omega) (by omega)) dX10_readBid_9 ?_
  refine z_nm (P := fun z => z.toInt = (w.2.2.1 101 7).toInt ∧ 0 ≤ z.toInt ∧ z.toInt ≤ 10) ⟨rfl, (rw_101_7 hJ)⟩ (fun z_1 hz_1 => ?_)
  refine z_imul (u := 3) (v := z_1.toInt) E dX10_readBid_10 (by decide) rfl (by omega) (by omega) (fun z_2 hz_2 => ?_)
  have hhz_2 : 0 ≤ z_2.toInt ∧ z_2.toInt ≤ 27 := by omega
  refine z_iadd (u := 74) (v := z_2.toInt) E dX10_readBid_11 (by decide) rfl (by omega) (by omega) (fun z_3 hz_3 => ?_)
  refine s_istore_n (L2 := [some (AR 95), some (AI z_3)]) E dX10_readBid_12 rfl (by decide) rfl ?_
  refine s_aload_n E dX10_readBid_13 rfl rfl ?_
  refine s_gR (r := 101) E fg_X10_31 rfl rfl (jv_lt hJ (by decide)) (jv_r hJ (by decide +kernel)) dX10_readBid_14 ?_
  refine s_iload_n E dX10_readBid_17 rfl rfl ?_
  refine s_aload_n E dX10_readBid_18 rfl rfl ?_
  refine s_iconst (v := 0) E dX10_readBid_19 (by decide) ?_
  refine s_aload_n E dX10_readBid_20 rfl rfl ?_
  refine s_gR (r := 101) E fg_X10_31 rfl rfl (jv_lt hJ (by decide)) (jv_r hJ (by decide +kernel)) dX10_readBid_21 ?_
  refine s_iconst (v := 5) E dX10_readBid_24 (by decide) ?_
  refine s_iald E rfl (jv_lt hJ (by decide)) (z_in (u := 5) (by decide) (by omega) (by omega)) dX10_readBid_25 ?_
  refine z_nm (P := fun z => z.toInt = (w.2.2.1 101 5).toInt ∧ 0 ≤ z.toInt ∧ z.toInt ≤ 6) ⟨rfl, (rw_101_5 hJ)⟩ (fun z_4 hz_4 => ?_)
  refine s_iconst (v := 1) E dX10_readBid_26 (by decide) ?_
  refine z_isub (u := z_4.toInt) (v := 1) E dX10_readBid_27 rfl (by decide) (by omega) (by omega) (fun z_5 hz_5 => ?_)
  refine s_vI (As := [AI 0, AI z_5]) (S := [AI z_3, AR 101]) E (Z_X10_number_95 l D aC b w 0 z_5 hJ.1  (by omega)) cv_X10_161 rfl rfl rfl (jv_lt hJ (by decide)) (Nat.le_of_ble_eq_true rfl) (Nat.le_of_ble_eq_true rfl) ⟨(Nat.le_of_ble_eq_true rfl), (Nat.le_of_ble_eq_true rfl)⟩ (Nat.le_of_ble_eq_true rfl) dX10_readBid_28 (fun z_8 u_6 hp_7 => ?_)
  obtain ⟨hz_8, hxz_8, hf_u_6_101, hp_7⟩ := hp_7
  have hc_ : (0 : Int32).toInt = 0 := by decide
  have hj_9 := jv_trans hJ hp_7
  have hfa_101_7 := congrArg Int32.toInt (congrFun hf_u_6_101 7)
  have hfa_101_9 := congrArg Int32.toInt (congrFun hf_u_6_101 9)
  have hrz_8 : 0 ≤ z_8.toInt ∧ z_8.toInt ≤ 5 := by omega
  refine s_iast E rfl (jv_lt hj_9 (by decide)) (z_in (u := z_3.toInt) rfl (by omega) (by omega)) dX10_readBid_31 ?_
  refine s_gen (P := fun v => Jv w v ∧ (v.2.2.1 95 7).toInt = (u_6.2.2.1 95 7).toInt ∧ (v.2.2.1 95 8).toInt = (u_6.2.2.1 95 8).toInt ∧ (v.2.2.1 95 9).toInt = (u_6.2.2.1 95 9).toInt ∧ (v.2.2.1 95 10).toInt = (u_6.2.2.1 95 10).toInt ∧ (v.2.2.1 95 12).toInt = (u_6.2.2.1 95 12).toInt ∧ (v.2.2.1 101 7).toInt = (u_6.2.2.1 101 7).toInt ∧ (v.2.2.1 101 9).toInt = (u_6.2.2.1 101 9).toInt) ⟨(jv_a_101 (i := z_3) (x := z_8) hj_9 0 5 74 101 3 z_3.toInt (by decide +kernel) (by decide) rfl (by omega) (by omega) (by omega) (by have hb_ := z32 z_8; omega) (by have hb_ := z32 z_8; omega)), rfl, rfl, rfl, rfl, rfl, (keep_ne (u := z_3.toInt) rfl (by omega) (by omega)), (keep_ne (u := z_3.toInt) rfl (by omega) (by omega))⟩ (fun v_10 hj_11 => ?_)
  obtain ⟨hj_11, hk_12k0, hk_12k1, hk_12k2, hk_12k3, hk_12k4, hk_12k5, hk_12k6⟩ := hj_11
  refine s_aload_n E dX10_readBid_32 rfl rfl ?_
  refine s_gR (r := 101) E fg_X10_31 rfl rfl (jv_lt hj_11 (by decide)) (jv_r hj_11 (by decide +kernel)) dX10_readBid_33 ?_
  refine s_iload_n E dX10_readBid_36 rfl rfl ?_
  refine s_iconst (v := 1) E dX10_readBid_37 (by decide) ?_
  refine z_iadd (u := z_3.toInt) (v := 1) E dX10_readBid_38 rfl (by decide) (by omega) (by omega) (fun z_13 hz_13 => ?_)
  refine s_aload_n E dX10_readBid_39 rfl rfl ?_
  refine s_ldcS (i := 24) E (by decide) rfl dX10_readBid_40 ?_
  refine s_vI (As := [AX (sA aC 24)]) (S := [AI z_13, AR 101]) E (Z_X10_freshRoom_95 l D aC b v_10  hj_11.1  24 (by decide) (by omega)) cv_X10_182 rfl rfl rfl (jv_lt hj_11 (by decide)) (Nat.le_of_ble_eq_true rfl) (Nat.le_of_ble_eq_true rfl) ⟨(Nat.le_of_ble_eq_true rfl), (Nat.le_of_ble_eq_true rfl)⟩ (Nat.le_of_ble_eq_true rfl) dX10_readBid_42 (fun z_16 u_14 hp_15 => ?_)
  obtain ⟨hz_16, hxz_16, hf_u_14_101, hp_15⟩ := hp_15
  have hj_17 := jv_trans hj_11 hp_15
  have hfa_101_7 := congrArg Int32.toInt (congrFun hf_u_14_101 7)
  have hfa_101_9 := congrArg Int32.toInt (congrFun hf_u_14_101 9)
  have hrz_16 : 0 ≤ z_16.toInt ∧ z_16.toInt ≤ 7 := by omega
  refine s_iast E rfl (jv_lt hj_17 (by decide)) (z_in (u := z_13.toInt) rfl (by omega) (by omega)) dX10_readBid_45 ?_
  refine s_gen (P := fun v => Jv w v ∧ (v.2.2.1 95 7).toInt = (u_14.2.2.1 95 7).toInt ∧ (v.2.2.1 95 8).toInt = (u_14.2.2.1 95 8).toInt ∧ (v.2.2.1 95 9).toInt = (u_14.2.2.1 95 9).toInt ∧ (v.2.2.1 95 10).toInt = (u_14.2.2.1 95 10).toInt ∧ (v.2.2.1 95 12).toInt = (u_14.2.2.1 95 12).toInt ∧ (v.2.2.1 101 7).toInt = (u_14.2.2.1 101 7).toInt ∧ (v.2.2.1 101 9).toInt = (u_14.2.2.1 101 9).toInt) ⟨(jv_a_101 (i := z_13) (x := z_16) hj_17 0 7 75 102 3 z_13.toInt (by decide +kernel) (by decide) rfl (by omega) (by omega) (by omega) (by have hb_ := z32 z_16; omega) (by have hb_ := z32 z_16; omega)), rfl, rfl, rfl, rfl, rfl, (keep_ne (u := z_13.toInt) rfl (by omega) (by omega)), (keep_ne (u := z_13.toInt) rfl (by omega) (by omega))⟩ (fun v_18 hj_19 => ?_)
  obtain ⟨hj_19, hk_20k0, hk_20k1, hk_20k2, hk_20k3, hk_20k4, hk_20k5, hk_20k6⟩ := hj_19
  refine s_aload_n E dX10_readBid_46 rfl rfl ?_
  refine s_gR (r := 101) E fg_X10_31 rfl rfl (jv_lt hj_19 (by decide)) (jv_r hj_19 (by decide +kernel)) dX10_readBid_47 ?_
  refine s_iload_n E dX10_readBid_50 rfl rfl ?_
  refine s_iconst (v := 2) E dX10_readBid_51 (by decide) ?_
  refine z_iadd (u := z_3.toInt) (v := 2) E dX10_readBid_52 rfl (by decide) (by omega) (by omega) (fun z_21 hz_21 => ?_)
  refine s_aload_n E dX10_readBid_53 rfl rfl ?_
  refine s_ldcS (i := 29) E (by decide) rfl dX10_readBid_54 ?_
  refine s_iconst (v := 0) E dX10_readBid_56 (by decide) ?_
  refine s_bipush (v := 13) E dX10_readBid_57 (by decide) ?_
  refine s_vI (As := [AX (sA aC 29), AI 0, AI 13]) (S := [AI z_21, AR 101]) E (Z_X10_told_95 l D aC b v_18 0 13 hj_19.1  29 (by decide) (by omega)) cv_X10_164 rfl rfl rfl (jv_lt hj_19 (by decide)) (Nat.le_of_ble_eq_true rfl) (Nat.le_of_ble_eq_true rfl) ⟨(Nat.le_of_ble_eq_true rfl), (Nat.le_of_ble_eq_true rfl)⟩ (Nat.le_of_ble_eq_true rfl) dX10_readBid_59 (fun z_24 u_22 hp_23 => ?_)
  obtain ⟨hz_24, hxz_24, hf_u_22_101, hp_23⟩ := hp_23
  have hc_ : (0 : Int32).toInt = 0 := by decide
  have hc_ : (13 : Int32).toInt = 13 := by decide
  have hj_25 := jv_trans hj_19 hp_23
  have hfa_101_7 := congrArg Int32.toInt (congrFun hf_u_22_101 7)
  have hfa_101_9 := congrArg Int32.toInt (congrFun hf_u_22_101 9)
  have hrz_24 : 0 ≤ z_24.toInt ∧ z_24.toInt ≤ 13 := by omega
  refine s_iast E rfl (jv_lt hj_25 (by decide)) (z_in (u := z_21.toInt) rfl (by omega) (by omega)) dX10_readBid_62 ?_
  refine s_gen (P := fun v => Jv w v ∧ (v.2.2.1 95 7).toInt = (u_22.2.2.1 95 7).toInt ∧ (v.2.2.1 95 8).toInt = (u_22.2.2.1 95 8).toInt ∧ (v.2.2.1 95 9).toInt = (u_22.2.2.1 95 9).toInt ∧ (v.2.2.1 95 10).toInt = (u_22.2.2.1 95 10).toInt ∧ (v.2.2.1 95 12).toInt = (u_22.2.2.1 95 12).toInt ∧ (v.2.2.1 101 7).toInt = (u_22.2.2.1 101 7).toInt ∧ (v.2.2.1 101 9).toInt = (u_22.2.2.1 101 9).toInt) ⟨(jv_a_101 (i := z_21) (x := z_24) hj_25 0 13 76 103 3 z_21.toInt (by decide +kernel) (by decide) rfl (by omega) (by omega) (by omega) (by have hb_ := z32 z_24; omega) (by have hb_ := z32 z_24; omega)), rfl, rfl, rfl, rfl, rfl, (keep_ne (u := z_21.toInt) rfl (by omega) (by omega)), (keep_ne (u := z_21.toInt) rfl (by omega) (by omega))⟩ (fun v_26 hj_27 => ?_)
  obtain ⟨hj_27, hk_28k0, hk_28k1, hk_28k2, hk_28k3, hk_28k4, hk_28k5, hk_28k6⟩ := hj_27
  refine s_aload_n E dX10_readBid_63 rfl rfl ?_
  refine s_gR (r := 101) E fg_X10_31 rfl rfl (jv_lt hj_27 (by decide)) (jv_r hj_27 (by decide +kernel)) dX10_readBid_64 ?_
  refine s_bipush (v := 7) E dX10_readBid_67 (by decide) ?_
  refine s_dup2 E dX10_readBid_69 ?_
  refine s_iald E rfl (jv_lt hj_27 (by decide)) (z_in (u := 7) (by decide) (by omega) (by omega)) dX10_readBid_70 ?_
  refine z_nm (P := fun z => z.toInt = (v_26.2.2.1 101 7).toInt ∧ 0 ≤ z.toInt ∧ z.toInt ≤ 10) ⟨rfl, (rw_101_7 hj_27)⟩ (fun z_29 hz_29 => ?_)
  refine s_iconst (v := 1) E dX10_readBid_71 (by decide) ?_
  refine z_iadd (u := z_29.toInt) (v := 1) E dX10_readBid_72 rfl (by decide) (by omega) (by omega) (fun z_30 hz_30 => ?_)
  have hhz_30 : 0 ≤ z_30.toInt ∧ z_30.toInt ≤ 10 := by omega
  refine s_iast E rfl (jv_lt hj_27 (by decide)) (z_in (u := 7) (by decide) (by omega) (by omega)) dX10_readBid_73 ?_
  refine s_gen (P := fun v => Jv w v ∧ (v.2.2.1 95 7).toInt = (v_26.2.2.1 95 7).toInt ∧ (v.2.2.1 95 8).toInt = (v_26.2.2.1 95 8).toInt ∧ (v.2.2.1 95 9).toInt = (v_26.2.2.1 95 9).toInt ∧ (v.2.2.1 95 10).toInt = (v_26.2.2.1 95 10).toInt ∧ (v.2.2.1 95 12).toInt = (v_26.2.2.1 95 12).toInt ∧ (v.2.2.1 101 7).toInt = z_30.toInt ∧ (v.2.2.1 101 9).toInt = (v_26.2.2.1 101 9).toInt) ⟨(jv_a_101 (i := 7) (x := z_30) hj_27 0 10 7 7 1 7 (by decide +kernel) (by decide) (by decide) (by omega) (by omega) (by omega) (by have hb_ := z32 z_30; omega) (by have hb_ := z32 z_30; omega)), rfl, rfl, rfl, rfl, rfl, rfl, rfl⟩ (fun v_31 hj_32 => ?_)
  obtain ⟨hj_32, hk_33k0, hk_33k1, hk_33k2, hk_33k3, hk_33k4, hk_33k5, hk_33k6⟩ := hj_32
  exact r_void E dX10_readBid_74 ⟨(by omega), hj_32⟩
