set_option maxRecDepth 20000 in
set_option maxHeartbeats 2000000 in
theorem Z_X10_readFirst_95 (l : Launch) (D : va_G) (aC : Nat → ClassId) (b : Nat) (w : XW)  (hI : Iv w) (hpi : (w.2.2.1 95 9).toInt ≤ (w.2.2.1 95 8).toInt ∧ ((w.2.2.1 95 10).toInt = 0 ∨ (w.2.2.1 95 9).toInt < (w.2.2.1 95 8).toInt)) (hy5 : (w.2.2.1 101 5).toInt = 0) : CnV l D aC b M_X10_readFirst 8 289 0 0 [AR 95] w (fun u => ((u.2.2.1 95 7).toInt = (w.2.2.1 95 7).toInt ∧ ((u.2.2.1 95 12).toInt = 0 → (w.2.2.1 95 12).toInt = 0) ∧ (w.2.2.1 95 9).toInt ≤ (u.2.2.1 95 9).toInt ∧ (u.2.2.1 95 9).toInt ≤ (u.2.2.1 95 8).toInt ∧ ((u.2.2.1 95 10).toInt = 0 ∨ (u.2.2.1 95 9).toInt < (u.2.2.1 95 8).toInt) ∧ (u.2.2.1 101 9).toInt = (w.2.2.1 101 9).toInt) ∧ Jv w u) := by
  refine cn_V (own := RX10) (nm := "readFirst") (L0 := [some (AR 95)]) (by decide +kernel) rfl rfl (Nat.le_of_ble_eq_true rfl) rfl ?_
  intro p e s m args below meth c E hin
  have hJ : Jv w w := jv_rfl hI
  refine s_aload_n E dX10_readFirst_0 rfl rfl ?_
  refine s_ldcS (i := 15) E (by decide) rfl dX10_readFirst_1 ?_
  refine s_vV (As := [AX (sA aC 15)]) (S := []) E (Z_X10_needs_95 l D aC b w  hJ.1  15 (by decide) (by omega)) cv_X10_157 rfl rfl rfl (jv_lt hJ (by decide)) (Nat.le_of_ble_eq_true rfl) (Nat.le_of_ble_eq_true rfl) ⟨(Nat.le_of_ble_eq_true rfl), (Nat.le_of_ble_eq_true rfl)⟩ (Nat.le_of_ble_eq_true rfl) dX10_readFirst_3 (fun u_1 hp_2 => ?_)
  obtain ⟨hx_hp_2, hf_u_1_101, hp_2⟩ := hp_2
  have hj_3 := jv_trans hJ hp_2
  have hfa_101_9 := congrArg Int32.toInt (congrFun hf_u_1_101 9)
  have hfa_101_5 := congrArg Int32.toInt (congrFun hf_u_1_101 5)
  refine s_aload_n E dX10_readFirst_6 rfl rfl ?_
  refine s_gR (r := 101) E fg_X10_31 rfl rfl (jv_lt hj_3 (by decide)) (jv_r hj_3 (by decide +kernel)) dX10_readFirst_7 ?_
  refine s_iconst (v := 0) E dX10_readFirst_10 (by decide) ?_
  refine s_aload_n E dX10_readFirst_11 rfl rfl ?_
  refine s_ldcS (i := 16) E (by decide) rfl dX10_readFirst_12 ?_
  refine s_iconst (v := 1) E dX10_readFirst_14 (by decide) ?_
  refine s_bipush (v := 8) E dX10_readFirst_15 (by decide) ?_
  refine s_vI (As := [AX (sA aC 16), AI 1, AI 8]) (S := [AI 0, AR 101]) E (Z_X10_told_95 l D aC b u_1 1 8 hj_3.1  16 (by decide) (by omega)) cv_X10_164 rfl rfl rfl (jv_lt hj_3 (by decide)) (Nat.le_of_ble_eq_true rfl) (Nat.le_of_ble_eq_true rfl) ⟨(Nat.le_of_ble_eq_true rfl), (Nat.le_of_ble_eq_true rfl)⟩ (Nat.le_of_ble_eq_true rfl) dX10_readFirst_17 (fun z_6 u_4 hp_5 => ?_)
  obtain ⟨hz_6, hxz_6, hf_u_4_101, hp_5⟩ := hp_5
  have hc_ : (1 : Int32).toInt = 1 := by decide
  have hc_ : (8 : Int32).toInt = 8 := by decide
  have hj_7 := jv_trans hj_3 hp_5
  have hfa_101_9 := congrArg Int32.toInt (congrFun hf_u_4_101 9)
  have hfa_101_5 := congrArg Int32.toInt (congrFun hf_u_4_101 5)
  have hrz_6 : 0 ≤ z_6.toInt ∧ z_6.toInt ≤ 8 := by omega
  refine s_iast E rfl (jv_lt hj_7 (by decide)) (z_in (u := 0) (by decide) (by omega) (by omega)) dX10_readFirst_20 ?_
  refine s_gen (P := fun v => Jv w v ∧ (v.2.2.1 95 7).toInt = (u_4.2.2.1 95 7).toInt ∧ (v.2.2.1 95 8).toInt = (u_4.2.2.1 95 8).toInt ∧ (v.2.2.1 95 9).toInt = (u_4.2.2.1 95 9).toInt ∧ (v.2.2.1 95 10).toInt = (u_4.2.2.1 95 10).toInt ∧ (v.2.2.1 95 12).toInt = (u_4.2.2.1 95 12).toInt ∧ (v.2.2.1 101 9).toInt = (u_4.2.2.1 101 9).toInt ∧ (v.2.2.1 101 5).toInt = (u_4.2.2.1 101 5).toInt) ⟨(jv_rooms hj_7 (by omega) (by have hb_ := z32 z_6; omega) (by have hb_ := z32 z_6; omega)), rfl, rfl, rfl, rfl, rfl, rfl, rfl⟩ (fun v_8 hj_9 => ?_)
  obtain ⟨hj_9, hk_10k0, hk_10k1, hk_10k2, hk_10k3, hk_10k4, hk_10k5, hk_10k6⟩ := hj_9
  refine s_aload_n E dX10_readFirst_21 rfl rfl ?_
  refine s_gR (r := 101) E fg_X10_31 rfl rfl (jv_lt hj_9 (by decide)) (jv_r hj_9 (by decide +kernel)) dX10_readFirst_22 ?_
  refine s_iconst (v := 1) E dX10_readFirst_25 (by decide) ?_
  refine s_aload_n E dX10_readFirst_26 rfl rfl ?_
  refine s_ldcS (i := 17) E (by decide) rfl dX10_readFirst_27 ?_
  refine s_iconst (v := 1) E dX10_readFirst_29 (by decide) ?_
  refine s_bipush (v := 14) E dX10_readFirst_30 (by decide) ?_
  refine s_vI (As := [AX (sA aC 17), AI 1, AI 14]) (S := [AI 1, AR 101]) E (Z_X10_told_95 l D aC b v_8 1 14 hj_9.1  17 (by decide) (by omega)) cv_X10_164 rfl rfl rfl (jv_lt hj_9 (by decide)) (Nat.le_of_ble_eq_true rfl) (Nat.le_of_ble_eq_true rfl) ⟨(Nat.le_of_ble_eq_true rfl), (Nat.le_of_ble_eq_true rfl)⟩ (Nat.le_of_ble_eq_true rfl) dX10_readFirst_32 (fun z_13 u_11 hp_12 => ?_)
  obtain ⟨hz_13, hxz_13, hf_u_11_101, hp_12⟩ := hp_12
  have hc_ : (1 : Int32).toInt = 1 := by decide
  have hc_ : (14 : Int32).toInt = 14 := by decide
  have hj_14 := jv_trans hj_9 hp_12
  have hfa_101_9 := congrArg Int32.toInt (congrFun hf_u_11_101 9)
  have hfa_101_5 := congrArg Int32.toInt (congrFun hf_u_11_101 5)
  have hrz_13 : 0 ≤ z_13.toInt ∧ z_13.toInt ≤ 14 := by omega
  refine s_iast E rfl (jv_lt hj_14 (by decide)) (z_in (u := 1) (by decide) (by omega) (by omega)) dX10_readFirst_35 ?_
  refine s_gen (P := fun v => Jv w v ∧ (v.2.2.1 95 7).toInt = (u_11.2.2.1 95 7).toInt ∧ (v.2.2.1 95 8).toInt = (u_11.2.2.1 95 8).toInt ∧ (v.2.2.1 95 9).toInt = (u_11.2.2.1 95 9).toInt ∧ (v.2.2.1 95 10).toInt = (u_11.2.2.1 95 10).toInt ∧ (v.2.2.1 95 12).toInt = (u_11.2.2.1 95 12).toInt ∧ (v.2.2.1 101 9).toInt = (u_11.2.2.1 101 9).toInt ∧ (v.2.2.1 101 5).toInt = (u_11.2.2.1 101 5).toInt) ⟨(jv_a_101 (i := 1) (x := z_13) hj_14 0 14 1 1 1 1 (by decide +kernel) (by decide) (by decide) (by omega) (by omega) (by omega) (by have hb_ := z32 z_13; omega) (by have hb_ := z32 z_13; omega)), rfl, rfl, rfl, rfl, rfl, rfl, rfl⟩ (fun v_15 hj_16 => ?_)
  obtain ⟨hj_16, hk_17k0, hk_17k1, hk_17k2, hk_17k3, hk_17k4, hk_17k5, hk_17k6⟩ := hj_16
  refine s_aload_n E dX10_readFirst_36 rfl rfl ?_
  refine s_gR (r := 101) E fg_X10_31 rfl rfl (jv_lt hj_16 (by decide)) (jv_r hj_16 (by decide +kernel)) dX10_readFirst_37 ?_
  refine s_iconst (v := 2) E dX10_readFirst_40 (by decide) ?_
  refine s_aload_n E dX10_readFirst_41 rfl rfl ?_
  refine s_ldcS (i := 18) E (by decide) rfl dX10_readFirst_42 ?_
  refine s_iconst (v := 0) E dX10_readFirst_44 (by decide) ?_
  refine s_iconst (v := 3) E dX10_readFirst_45 (by decide) ?_
  refine s_vI (As := [AX (sA aC 18), AI 0, AI 3]) (S := [AI 2, AR 101]) E (Z_X10_told_95 l D aC b v_15 0 3 hj_16.1  18 (by decide) (by omega)) cv_X10_164 rfl rfl rfl (jv_lt hj_16 (by decide)) (Nat.le_of_ble_eq_true rfl) (Nat.le_of_ble_eq_true rfl) ⟨(Nat.le_of_ble_eq_true rfl), (Nat.le_of_ble_eq_true rfl)⟩ (Nat.le_of_ble_eq_true rfl) dX10_readFirst_46 (fun z_20 u_18 hp_19 => ?_)
  obtain ⟨hz_20, hxz_20, hf_u_18_101, hp_19⟩ := hp_19
  have hc_ : (0 : Int32).toInt = 0 := by decide
  have hc_ : (3 : Int32).toInt = 3 := by decide
  have hj_21 := jv_trans hj_16 hp_19
  have hfa_101_9 := congrArg Int32.toInt (congrFun hf_u_18_101 9)
  have hfa_101_5 := congrArg Int32.toInt (congrFun hf_u_18_101 5)
  have hrz_20 : 0 ≤ z_20.toInt ∧ z_20.toInt ≤ 3 := by omega
  refine s_iast E rfl (jv_lt hj_21 (by decide)) (z_in (u := 2) (by decide) (by omega) (by omega)) dX10_readFirst_49 ?_
  refine s_gen (P := fun v => Jv w v ∧ (v.2.2.1 95 7).toInt = (u_18.2.2.1 95 7).toInt ∧ (v.2.2.1 95 8).toInt = (u_18.2.2.1 95 8).toInt ∧ (v.2.2.1 95 9).toInt = (u_18.2.2.1 95 9).toInt ∧ (v.2.2.1 95 10).toInt = (u_18.2.2.1 95 10).toInt ∧ (v.2.2.1 95 12).toInt = (u_18.2.2.1 95 12).toInt ∧ (v.2.2.1 101 9).toInt = (u_18.2.2.1 101 9).toInt ∧ (v.2.2.1 101 5).toInt = (u_18.2.2.1 101 5).toInt) ⟨(jv_a_101 (i := 2) (x := z_20) hj_21 0 3 2 2 1 2 (by decide +kernel) (by decide) (by decide) (by omega) (by omega) (by omega) (by have hb_ := z32 z_20; omega) (by have hb_ := z32 z_20; omega)), rfl, rfl, rfl, rfl, rfl, rfl, rfl⟩ (fun v_22 hj_23 => ?_)
  obtain ⟨hj_23, hk_24k0, hk_24k1, hk_24k2, hk_24k3, hk_24k4, hk_24k5, hk_24k6⟩ := hj_23
  refine s_aload_n E dX10_readFirst_50 rfl rfl ?_
  refine s_gR (r := 101) E fg_X10_31 rfl rfl (jv_lt hj_23 (by decide)) (jv_r hj_23 (by decide +kernel)) dX10_readFirst_51 ?_
  refine s_iconst (v := 3) E dX10_readFirst_54 (by decide) ?_
  refine s_aload_n E dX10_readFirst_55 rfl rfl ?_
  refine s_ldcS (i := 19) E (by decide) rfl dX10_readFirst_56 ?_
  refine s_iconst (v := 0) E dX10_readFirst_58 (by decide) ?_
  refine s_bipush (v := 10) E dX10_readFirst_59 (by decide) ?_
  refine s_vI (As := [AX (sA aC 19), AI 0, AI 10]) (S := [AI 3, AR 101]) E (Z_X10_told_95 l D aC b v_22 0 10 hj_23.1  19 (by decide) (by omega)) cv_X10_164 rfl rfl rfl (jv_lt hj_23 (by decide)) (Nat.le_of_ble_eq_true rfl) (Nat.le_of_ble_eq_true rfl) ⟨(Nat.le_of_ble_eq_true rfl), (Nat.le_of_ble_eq_true rfl)⟩ (Nat.le_of_ble_eq_true rfl) dX10_readFirst_61 (fun z_27 u_25 hp_26 => ?_)
  obtain ⟨hz_27, hxz_27, hf_u_25_101, hp_26⟩ := hp_26
  have hc_ : (0 : Int32).toInt = 0 := by decide
  have hc_ : (10 : Int32).toInt = 10 := by decide
  have hj_28 := jv_trans hj_23 hp_26
  have hfa_101_9 := congrArg Int32.toInt (congrFun hf_u_25_101 9)
  have hfa_101_5 := congrArg Int32.toInt (congrFun hf_u_25_101 5)
  have hrz_27 : 0 ≤ z_27.toInt ∧ z_27.toInt ≤ 10 := by omega
  refine s_iast E rfl (jv_lt hj_28 (by decide)) (z_in (u := 3) (by decide) (by omega) (by omega)) dX10_readFirst_64 ?_
  refine s_gen (P := fun v => Jv w v ∧ (v.2.2.1 95 7).toInt = (u_25.2.2.1 95 7).toInt ∧ (v.2.2.1 95 8).toInt = (u_25.2.2.1 95 8).toInt ∧ (v.2.2.1 95 9).toInt = (u_25.2.2.1 95 9).toInt ∧ (v.2.2.1 95 10).toInt = (u_25.2.2.1 95 10).toInt ∧ (v.2.2.1 95 12).toInt = (u_25.2.2.1 95 12).toInt ∧ (v.2.2.1 101 9).toInt = (u_25.2.2.1 101 9).toInt ∧ (v.2.2.1 101 5).toInt = (u_25.2.2.1 101 5).toInt) ⟨(jv_a_101 (i := 3) (x := z_27) hj_28 0 10 3 3 1 3 (by decide +kernel) (by decide) (by decide) (by omega) (by omega) (by omega) (by have hb_ := z32 z_27; omega) (by have hb_ := z32 z_27; omega)), rfl, rfl, rfl, rfl, rfl, rfl, rfl⟩ (fun v_29 hj_30 => ?_)
  obtain ⟨hj_30, hk_31k0, hk_31k1, hk_31k2, hk_31k3, hk_31k4, hk_31k5, hk_31k6⟩ := hj_30
  exact r_void E dX10_readFirst_65 ⟨(by omega), hj_30⟩
