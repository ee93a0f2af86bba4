set_option maxRecDepth 20000 in
set_option maxHeartbeats 2000000 in
theorem Z_X10_readFirst_95 (l : Launch) (D : va_G) (aC : Nat → ClassId) (b : Nat) (w : XW)  (hI : Iv w) (hpi : (w.2.2.1 95 9).toInt ≤ (w.2.2.1 95 8).toInt ∧ ((w.2.2.1 95 10).toInt = 0 ∨ (w.2.2.1 95 9).toInt < (w.2.2.1 95 8).toInt)) (hy5 : (w.2.2.1 101 5).toInt = 0) : CnV l D aC b M_X10_readFirst 8 289 0 0 [AR 95] w (fun u => ((u.2.2.1 95 7).toInt = (w.2.2.1 95 7).toInt ∧ ((u.2.2.1 95 12).toInt = 0 → (w.2.2.1 95 12).toInt = 0) ∧ (w.2.2.1 95 9).toInt ≤ (u.2.2.1 95 9).toInt ∧ (u.2.2.1 95 9).toInt ≤ (u.2.2.1 95 8).toInt ∧ ((u.2.2.1 95 10).toInt = 0 ∨ (u.2.2.1 95 9).toInt < (u.2.2.1 95 8).toInt) ∧ (u.2.2.1 101 9).toInt = (w.2.2.1 101 9).toInt) ∧ Jv w u) := by
  refine cn_V (own := RX10) (nm := "readFirst") (L0 := [some (AR 95)]) (by decide +kernel) rfl rfl (Nat.le_of_ble_eq_true rfl) rfl ?_
  intro p e s m args below meth c E hin
  have hJ : Jv w w := jv_rfl hI
  refine s_aload_n E dX10_readFirst_0 rfl rfl ?_
  refine s_ldcS (i := 15) E (by decide) rfl dX10_readFirst_1 ?_
  refine s_vV (As := [AX (sA aC 15)]) (S := []) E (Z_X10_needs_95 l D aC b w  hJ.1  15 (by decide) (by omega)) cv_X10_157 rfl rfl rfl (jv_lt hJ (by decide)) (Nat.le_of_ble_eq_true rfl) (Nat.le_of_ble_eq_true rfl) ⟨(Nat.le_of_ble_eq_true rfl), (Nat.le_of_ble_eq_true rfl)⟩ (Nat.le_of_ble_eq_true rfl) dX10_readFirst_3 (fun u_1 hp_2 => ?_)
  obtain ⟨hx_hp_2, hf_u_1_101, hp_2⟩ := hp_2
  have hj_3 := jv_trans hJ hp_2
  have hfa_101_9 := congrArg Int32.toInt (congrFun hf_u_1_101 9)
  have hfa_101_5 := congrArg Int32.toInt (congrFun hf_u_1_101 5)
  refine s_aload_n E dX10_readFirst_6 rfl rfl ?_
  refine s_gR (r := 101) E fg_X10_31 rfl rfl (jv_lt hj_3 (by decide)) (jv_r hj_3 (by decide +kernel)) dX10_readFirst_7 ?_
  refine s_iconst (v := 0) E dX10_readFirst_10 (by decide) ?_
  refine s_aload_n E dX10_readFirst_11 rfl rfl ?_
  refine s_ldcS (i := 16) E (by decide) rfl dX10_readFirst_12 ?_
  refine s_iconst (v := 1) E dX10_readFirst_14 (by decide) ?_
  refine s_bipush (v := 8) E dX10_readFirst_15 (by decide) ?_
  refine s_vI (As := [AX (sA aC 16), AI 1, AI 8]) (S := [AI 0, AR 101]) E (Z_X10_told_95 l D aC b u_1 1 8 hj_3.1  16 (by decide) (by omega)) cv_X10_164 rfl rfl rfl (jv_lt hj_3 (by decide)) (Nat.le_of_ble_eq_true rfl) (Nat.le_of_ble_eq_true rfl) ⟨(Nat.le_of_ble_eq_true rfl), (Nat.le_of_ble_eq_true rfl)⟩ (Nat.le_of_ble_eq_true rfl) dX10_readFirst_17 (fun z_6 u_4 hp_5 => ?_)
  obtain ⟨hz_6, hxz_6, hf_u_4_101, hp_5⟩ := hp_5
  have hc_ : (1 : Int32).toInt = 1 := by decide
  have hc_ : (8 : Int32).toInt = 8 := by decide
  have hj_7 := jv_trans hj_3 hp_5
  have hfa_101_9 := congrArg Int32.toInt (congrFun hf_u_4_101 9)
  have hfa_101_5 := congrArg Int32.toInt (congrFun hf_u_4_101 5)
  have hrz_6 : 0 ≤ z_6.toInt ∧ z_6.toInt ≤ 8 := by omega
  refine s_iast E rfl (jv_lt hj_7 (by decide)) (z_in (u := 0) (by decide) (by omega) (by omega)) dX10_readFirst_20 ?_
  refine s_gen (P := fun v => Jv w v ∧ (v.2.2.1 95 7).toInt = (u_4.2.2.1 95 7).toInt ∧ (v.2.2.1 95 8).toInt = (u_4.2.2.1 95 8).toInt ∧ (v.2.2.1 95 9).toInt = (u_4.2.2.1 95 9).toInt ∧ (v.2.2.1 95 10).toInt = (u_4.2.2.1 95 10).toInt ∧ (v.2.2.1 95 12).toInt = (u_4.2.2.1 95 12).toInt ∧ (v.2.2.1 101 9).toInt = (u_4.2.2.1 101 9).toInt ∧ (v.2.2.1 101 5).toInt = (u_4.2.2.1 101 5).toInt) ⟨(jv_rooms hj_7 (by omega) (by have hb_ := z32 z_6; omega) (by have hb_ := z32 z_6; omega)), rfl, rfl, rfl, rfl, rfl, rfl, rfl⟩ (fun v_8 hj_9 => ?_)
  obtain ⟨hj_9, hk_10k0, hk_10k1, hk_10k2, hk_10k3, hk_10k4, hk_10k5, hk_10k6⟩ := hj_9
  refine s_aload_n E dX10_readFirst_21 rfl rfl ?_
  refine s_gR (r := 101) E fg_X10_31 rfl rfl (jv_lt hj_9 (by decide)) (jv_r hj_9 (by decide +kernel)) dX10_readFirst_22 ?_
  refine s_iconst (v := 1) E dX10_readFirst_25 (by decide) ?_
  refine s_aload_n E dX10_readFirst_26 rfl rfl ?_
  refine s_ldcS (i := 17) E (by decide) rfl dX10_readFirst_27 ?_
  refine s_iconst (v := 1) E dX10_readFirst_29 (by decide) ?_
  refine s_bipush (v := 14) E dX10_readFirst_30 (by decide) ?_
  refine s_vI (As := [AX (sA aC 17), AI 1, AI 14]) (S := [AI 1, AR 101]) E (Z_X10_told_95 l D aC b v_8 1 14 hj_9.1  17 (by decide) (by omega)) cv_X10_164 rfl rfl rfl (jv_lt hj_9 (by decide)) (Nat.le_of_ble_eq_true rfl) (Nat.le_of_ble_eq_true rfl) ⟨(Nat.le_of_ble_eq_true rfl), (Nat.le_of_ble_eq_true rfl)⟩ (Nat.le_of_ble_eq_true rfl) dX10_readFirst_32 (fun z_13 u_11 hp_12 => ?_)
  obtain ⟨hz_13, hxz_13, hf_u_11_101, hp_12⟩ := hp_12
  have hc_ : (1 : Int32).toInt = 1 := by decide
  have hc_ : (14 : Int32).toInt = 14 := by decide
  have hj_14 := jv_trans hj_9 hp_12
  have hfa_101_9 := congrArg Int32.toInt (congrFun hf_u_11_101 9)
  have hfa_101_5 := congrArg Int32.toInt (congrFun hf_u_11_101 5)
  have hrz_13 : 0 ≤ z_13.toInt ∧ z_13.toInt ≤ 14 := by omega
  refine s_iast E rfl (jv_lt hj_14 (by decide)) (z_in (u := 1) (by decide) (by omega) (by omega)) dX10_readFirst_35 ?_
  refine s_gen (P := fun v => Jv w v ∧ (v.2.2.1 95 7).toInt = (u_11.2.2.1 95 7).toInt ∧ (v.2.2.1 95 8).toInt = (u_11.2.2.1 95 8).toInt ∧ (v.2.2.1 95 9).toInt = (u_11.2.2.1 95 9).toInt ∧ (v.2.2.1 95 10).toInt = (u_11.2.2.1 95 10).toInt ∧ (v.2.2.1 95 12).toInt = (u_11.2.2.1 95 12).toInt ∧ (v.2.2.1 101 9).toInt = (u_11.2.2.1 101 9).toInt ∧ (v.2.2.1 101 5).toInt = (u_11.2.2.1 101 5).toInt) ⟨(jv_a_101 (i := 1) (x := z_13) hj_14 0 14 1 1 1 1 (by decide +kernel) (by decide) (by decide) (by omega) (by omega) (by omega) (by have hb_ := z32 z_13; omega) (by have hb_ := z32 z_13; omega)), rfl, rfl, rfl, rfl, rfl, rfl, rfl⟩ (fun v_15 hj_16 => ?_)
  obtain ⟨hj_16, hk_17k0, hk_17k1, hk_17k2, hk_17k3, hk_17k4, hk_17k5, hk_17k6⟩ := hj_16
  refine s_aload_n E dX10_readFirst_36 rfl rfl ?_
  refine s_gR (r := 101) E fg_X10_31 rfl rfl (jv_lt hj_16 (by decide)) (jv_r hj_16 (by decide +kernel)) dX10_readFirst_37 ?_
  refine s_iconst (v := 2) E dX10_readFirst_40 (by decide) ?_
  refine s_aload_n E dX10_readFirst_41 rfl rfl ?_
  refine s_ldcS (i := 18) E (by decide) rfl dX10_readFirst_42 ?_
  refine s_iconst (v := 0) E dX10_readFirst_44 (by decide) ?_
  refine s_iconst (v := 3) E dX10_readFirst_45 (by decide) ?_
  refine s_vI (As := [AX (sA aC 18), AI 0, AI 3]) (S := [AI 2, AR 101]) E (Z_X10_told_95 l D aC b v_15 0 3 hj_16.1  18 (by decide) (by omega)) cv_X10_164 rfl rfl rfl (jv_lt hj_16 (by decide)) (Nat.le_of_ble_eq_true rfl) (Nat.le_of_ble_eq_true rfl) ⟨(Nat.le_of_ble_eq_true rfl), (Nat.le_of_ble_eq_true rfl)⟩ (Nat.le_of_ble_eq_true rfl) dX10_readFirst_46 (fun z_20 u_18 hp_19 => ?_)
  obtain ⟨hz_20, hxz_20, hf_u_18_101, hp_19⟩ := hp_19
  have hc_ : (0 : Int32).toInt = 0 := by decide
  have hc_ : (3 : Int32).toInt = 3 := by decide
  have hj_21 := jv_trans hj_16 hp_19
  have hfa_101_9 := congrArg Int32.toInt (congrFun hf_u_18_101 9)
  have hfa_101_5 := congrArg Int32.toInt (congrFun hf_u_18_101 5)
  have hrz_20 : 0 ≤ z_20.toInt ∧ z_20.toInt ≤ 3 := by omega
  refine s_iast E rfl (jv_lt hj_21 (by decide)) (z_in (u := 2) (by decide) (by omega) (by omega)) dX10_readFirst_49 ?_
  refine s_gen (P := fun v => Jv w v ∧ (v.2.2.1 95 7).toInt = (u_18.2.2.1 95 7).toInt ∧ (v.2.2.1 95 8).toInt = (u_18.2.2.1 95 8).toInt ∧ (v.2.2.1 95 9).toInt = (u_18.2.2.1 95 9).toInt ∧ (v.2.2.1 95 10).toInt = (u_18.2.2.1 95 10).toInt ∧ (v.2.2.1 95 12).toInt = (u_18.2.2.1 95 12).toInt ∧ (v.2.2.1 101 9).toInt = (u_18.2.2.1 101 9).toInt ∧ (v.2.2.1 101 5).toInt = (u_18.2.2.1 101 5).toInt) ⟨(jv_a_101 (i := 2) (x := z_20) hj_21 0 3 2 2 1 2 (by decide +kernel) (by decide) (by decide) (by omega) (by omega) (by omega) (by have hb_ := z32 z_20; omega) (by have hb_ := z32 z_20; omega)), rfl, rfl, rfl, rfl, rfl, rfl, rfl⟩ (fun v_22 hj_23 => ?_)
  obtain ⟨hj_23, hk_24k0, hk_24k1, hk_24k2, hk_24k3, hk_24k4, hk_24k5, hk_24k6⟩ := hj_23
  refine s_aload_n E dX10_readFirst_50 rfl rfl ?_
  refine s_gR (r := 101) E fg_X10_31 rfl rfl (jv_lt hj_23 (by decide)) (jv_r hj_23 (by decide +kernel)) dX10_readFirst_51 ?_
  refine s_iconst (v := 3) E dX10_readFirst_54 (by decide) ?_
  refine s_aload_n E dX10_readFirst_55 rfl rfl ?_
  refine s_ldcS (i := 19) E (by decide) rfl dX10_readFirst_56 ?_
  refine s_iconst (v := 0) E dX10_readFirst_58 (by decide) ?_
  refine s_bipush (v := 10) E dX10_readFirst_59 (by decide) ?_
  refine s_vI (As := [AX (sA aC 19), AI 0, AI 10]) (S := [AI 3, AR 101]) E (Z_X10_told_95 l D aC b v_22 0 10 hj_23.1  19 (by decide) (by omega)) cv_X10_164 rfl rfl rfl (jv_lt hj_23 (by decide)) (Nat.le_of_ble_eq_true rfl) (Nat.le_of_ble_eq_true rfl) ⟨(Nat.le_of_ble_eq_true rfl), (Nat.le_of_ble_eq_true rfl)⟩ (Nat.le_of_ble_eq_true rfl) dX10_readFirst_61 (fun z_27 u_25 hp_26 => ?_)
  obtain ⟨hz_27, hxz_27, hf_u_25_101, hp_26⟩ := hp_26
  have hc_ : (0 : Int32).toInt = 0 := by decide
  have hc_ : (10 : Int32).toInt = 10 := by decide
  have hj_28 := jv_trans hj_23 hp_26
  have hfa_101_9 := congrArg Int32.toInt (congrFun hf_u_25_101 9)
  have hfa_101_5 := congrArg Int32.toInt (congrFun hf_u_25_101 5)
  have hrz_27 : 0 ≤ z_27.toInt ∧ z_27.toInt ≤ 10 := by omega
  refine s_iast E rfl (jv_lt hj_28 (by decide)) (z_in (u := 3) (by decide) (by omega) (by omega)) dX10_readFirst_64 ?_
  refine s_gen (P := fun v => Jv w v ∧ (v.2.2.1 95 7).toInt = (u_25.2.2.1 95 7).toInt ∧ (v.2.2.1 95 8).toInt = (u_25.2.2.1 95 8).toInt ∧ (v.2.2.1 95 9).toInt = (u_25.2.2.1 95 9).toInt ∧ (v.2.2.1 95 10).toInt = (u_25.2.2.1 95 10).toInt ∧ (v.2.2.1 95 12).toInt = (u_25.2.2.1 95 12).toInt ∧ (v.2.2.1 101 9).toInt = (u_25.2.2.1 101 9).toInt ∧ (v.2.2.1 101 5).toInt = (u_25.2.2.1 101 5).toInt) ⟨(jv_a_101 (i := 3) (x := z_27) hj_28 0 10 3 3 1 3 (by decide +kernel) (by decide) (by decide) (by omega) (by omega) (by omega) (by have hb_ := z32 z_27; omega) (by have hb_ := z32 z_27; omega)), rfl, rfl, rfl, rfl, rfl, rfl, rfl⟩ (fun v_29 hj_30 => ?_)
  obtain ⟨hj_30, hk_31k0, hk_31k1, hk_31k2, hk_31k3, hk_31k4, hk_31k5, hk_31k6⟩ := hj_30
  exact r_void E dX10_readFirst_65 ⟨(by omega), hj_30⟩
set_option maxRecDepth 20000 in
set_option maxHeartbeats 2000000 in
theorem Z_X10_readLine_95 (l : Launch) (D : va_G) (aC : Nat → ClassId) (b : Nat) (w : XW)  (hI : Iv w) (hpi : (w.2.2.1 95 9).toInt ≤ (w.2.2.1 95 8).toInt ∧ ((w.2.2.1 95 10).toInt = 0 ∨ (w.2.2.1 95 9).toInt < (w.2.2.1 95 8).toInt)) (hy9 : (w.2.2.1 101 9).toInt ≤ 1000) (hy5 : (w.2.2.1 101 9).toInt = 0 → (w.2.2.1 101 5).toInt = 0) : CnV l D aC b M_X10_readLine 11 353 0 0 [AR 95] w (fun u => ((u.2.2.1 95 7).toInt = (w.2.2.1 95 7).toInt ∧ ((u.2.2.1 95 12).toInt = 0 → (w.2.2.1 95 12).toInt = 0) ∧ (w.2.2.1 95 9).toInt ≤ (u.2.2.1 95 9).toInt ∧ (u.2.2.1 95 9).toInt ≤ (u.2.2.1 95 8).toInt ∧ ((u.2.2.1 95 10).toInt = 0 ∨ (u.2.2.1 95 9).toInt < (u.2.2.1 95 8).toInt) ∧ ((u.2.2.1 95 12).toInt = 0 → (w.2.2.1 95 9).toInt < (u.2.2.1 95 9).toInt) ∧ (u.2.2.1 101 9).toInt = (w.2.2.1 101 9).toInt + 1) ∧ Jv w u) := by
  refine cn_V (own := RX10) (nm := "readLine") (L0 := [some (AR 95)]) (by decide +kernel) rfl rfl (Nat.le_of_ble_eq_true rfl) rfl ?_
  intro p e s m args below meth c E hin
  have hJ : Jv w w := jv_rfl hI
  refine s_aload_n E dX10_readLine_0 rfl rfl ?_
  refine s_gR (r := 101) E fg_X10_31 rfl rfl (jv_lt hJ (by decide)) (jv_r hJ (by decide +kernel)) dX10_readLine_1 ?_
  refine s_bipush (v := 9) E dX10_readLine_4 (by decide) ?_
  refine s_iald E rfl (jv_lt hJ (by decide)) (z_in (u := 9) (by decide) (by omega) (by omega)) dX10_readLine_6 ?_
  refine z_nm (P := fun z => z.toInt = (w.2.2.1 101 9).toInt ∧ 0 ≤ z.toInt ∧ z.toInt ≤ 2147483647) ⟨rfl, (rw_101_9 hJ)⟩ (fun z_1 hz_1 => ?_)
  refine z_if_ne (tgt := 17) (u := z_1.toInt) E dX10_readLine_7 (by decide) rfl (fun h_2 => ?_) (fun h_2 => ?_)
  ·
    refine s_aload_n E dX10_readLine_17 rfl rfl ?_
    refine s_vV (As := []) (S := []) E (Z_X10_readNext_95 l D aC b w  hJ.1  (by omega)) cv_X10_212 rfl rfl rfl (jv_lt hJ (by decide)) (Nat.le_of_ble_eq_true rfl) (Nat.le_of_ble_eq_true rfl) ⟨(Nat.le_of_ble_eq_true rfl), (Nat.le_of_ble_eq_true rfl)⟩ (Nat.le_of_ble_eq_true rfl) dX10_readLine_18 (fun u_3 hp_4 => ?_)
    obtain ⟨hx_hp_4, hp_4⟩ := hp_4
    have hj_5 := jv_trans hJ hp_4
    refine s_aload_n E dX10_readLine_21 rfl rfl ?_
    refine s_vI (As := []) (S := []) E (Z_X10_good_95 l D aC b u_3  hj_5.1 ) cv_X10_130 rfl rfl rfl (jv_lt hj_5 (by decide)) (Nat.le_of_ble_eq_true rfl) (Nat.le_of_ble_eq_true rfl) ⟨(Nat.le_of_ble_eq_true rfl), (Nat.le_of_ble_eq_true rfl)⟩ (Nat.le_of_ble_eq_true rfl) dX10_readLine_22 (fun z_8 u_6 hp_7 => ?_)
    obtain ⟨hz_8, hxz_8, hp_7⟩ := hp_7
    subst hp_7
    refine z_if_eq (tgt := 41) (u := z_8.toInt) E dX10_readLine_25 (by decide) rfl (fun h_10 => ?_) (fun h_10 => ?_)
    ·
      refine s_aload_n E dX10_readLine_41 rfl rfl ?_
      refine s_vI (As := []) (S := []) E (Z_X10_good_95 l D aC b u_3  hj_5.1 ) cv_X10_130 rfl rfl rfl (jv_lt hj_5 (by decide)) (Nat.le_of_ble_eq_true rfl) (Nat.le_of_ble_eq_true rfl) ⟨(Nat.le_of_ble_eq_true rfl), (Nat.le_of_ble_eq_true rfl)⟩ (Nat.le_of_ble_eq_true rfl) dX10_readLine_42 (fun z_13 u_11 hp_12 => ?_)
      obtain ⟨hz_13, hxz_13, hp_12⟩ := hp_12
      subst hp_12
      refine z_if_eq (tgt := 52) (u := z_13.toInt) E dX10_readLine_45 (by decide) rfl (fun h_15 => ?_) (fun h_15 => ?_)
      ·
        refine s_aload_n E dX10_readLine_52 rfl rfl ?_
        refine s_gR (r := 101) E fg_X10_31 rfl rfl (jv_lt hj_5 (by decide)) (jv_r hj_5 (by decide +kernel)) dX10_readLine_53 ?_
        refine s_bipush (v := 9) E dX10_readLine_56 (by decide) ?_
        refine s_dup2 E dX10_readLine_58 ?_
        refine s_iald E rfl (jv_lt hj_5 (by decide)) (z_in (u := 9) (by decide) (by omega) (by omega)) dX10_readLine_59 ?_
        refine z_nm (P := fun z => z.toInt = (u_3.2.2.1 101 9).toInt ∧ 0 ≤ z.toInt ∧ z.toInt ≤ 2147483647) ⟨rfl, (rw_101_9 hj_5)⟩ (fun z_16 hz_16 => ?_)
        refine s_iconst (v := 1) E dX10_readLine_60 (by decide) ?_
        refine z_iadd (u := z_16.toInt) (v := 1) E dX10_readLine_61 rfl (by decide) (by omega) (by omega) (fun z_17 hz_17 => ?_)
        have hhz_17 : 1 ≤ z_17.toInt ∧ z_17.toInt ≤ 1001 := by omega
        refine s_iast E rfl (jv_lt hj_5 (by decide)) (z_in (u := 9) (by decide) (by omega) (by omega)) dX10_readLine_62 ?_
        refine s_gen (P := fun v => Jv w v ∧ (v.2.2.1 95 7).toInt = (u_3.2.2.1 95 7).toInt ∧ (v.2.2.1 95 8).toInt = (u_3.2.2.1 95 8).toInt ∧ (v.2.2.1 95 9).toInt = (u_3.2.2.1 95 9).toInt ∧ (v.2.2.1 95 10).toInt = (u_3.2.2.1 95 10).toInt ∧ (v.2.2.1 95 12).toInt = (u_3.2.2.1 95 12).toInt ∧ (v.2.2.1 101 9).toInt = z_17.toInt ∧ (v.2.2.1 101 5).toInt = (u_3.2.2.1 101 5).toInt) ⟨(jv_a_101 (i := 9) (x := z_17) hj_5 0 2147483647 9 9 1 9 (by decide +kernel) (by decide) (by decide) (by omega) (by omega) (by omega) (by have hb_ := z32 z_17; omega) (by have hb_ := z32 z_17; omega)), rfl, rfl, rfl, rfl, rfl, rfl, rfl⟩ (fun v_18 hj_19 => ?_)
        obtain ⟨hj_19, hk_20k0, hk_20k1, hk_20k2, hk_20k3, hk_20k4, hk_20k5, hk_20k6⟩ := hj_19
        exact r_void E dX10_readLine_63 ⟨(by omega), hj_19⟩
      ·
        refine s_aload_n E dX10_readLine_48 rfl rfl ?_
        refine s_vV (As := []) (S := []) E (Z_X10_advance_95 l D aC b u_3  hj_5.1 ) cv_X10_147 rfl rfl rfl (jv_lt hj_5 (by decide)) (Nat.le_of_ble_eq_true rfl) (Nat.le_of_ble_eq_true rfl) ⟨(Nat.le_of_ble_eq_true rfl), (Nat.le_of_ble_eq_true rfl)⟩ (Nat.le_of_ble_eq_true rfl) dX10_readLine_49 (fun u_21 hp_22 => ?_)
        obtain ⟨hx_hp_22, hf_u_21_99, hf_u_21_101, hp_22⟩ := hp_22
        have hj_23 := jv_trans hj_5 hp_22
        have hfa_101_9 := congrArg Int32.toInt (congrFun hf_u_21_101 9)
        have hfa_101_5 := congrArg Int32.toInt (congrFun hf_u_21_101 5)
        refine s_aload_n E dX10_readLine_52 rfl rfl ?_
        refine s_gR (r := 101) E fg_X10_31 rfl rfl (jv_lt hj_23 (by decide)) (jv_r hj_23 (by decide +kernel)) dX10_readLine_53 ?_
        refine s_bipush (v := 9) E dX10_readLine_56 (by decide) ?_
        refine s_dup2 E dX10_readLine_58 ?_
        refine s_iald E rfl (jv_lt hj_23 (by decide)) (z_in (u := 9) (by decide) (by omega) (by omega)) dX10_readLine_59 ?_
        refine z_nm (P := fun z => z.toInt = (u_21.2.2.1 101 9).toInt ∧ 0 ≤ z.toInt ∧ z.toInt ≤ 2147483647) ⟨rfl, (rw_101_9 hj_23)⟩ (fun z_24 hz_24 => ?_)
        refine s_iconst (v := 1) E dX10_readLine_60 (by decide) ?_
        refine z_iadd (u := z_24.toInt) (v := 1) E dX10_readLine_61 rfl (by decide) (by omega) (by omega) (fun z_25 hz_25 => ?_)
        have hhz_25 : 1 ≤ z_25.toInt ∧ z_25.toInt ≤ 1001 := by omega
        refine s_iast E rfl (jv_lt hj_23 (by decide)) (z_in (u := 9) (by decide) (by omega) (by omega)) dX10_readLine_62 ?_
        refine s_gen (P := fun v => Jv w v ∧ (v.2.2.1 95 7).toInt = (u_21.2.2.1 95 7).toInt ∧ (v.2.2.1 95 8).toInt = (u_21.2.2.1 95 8).toInt ∧ (v.2.2.1 95 9).toInt = (u_21.2.2.1 95 9).toInt ∧ (v.2.2.1 95 10).toInt = (u_21.2.2.1 95 10).toInt ∧ (v.2.2.1 95 12).toInt = (u_21.2.2.1 95 12).toInt ∧ (v.2.2.1 101 9).toInt = z_25.toInt ∧ (v.2.2.1 101 5).toInt = (u_21.2.2.1 101 5).toInt) ⟨(jv_a_101 (i := 9) (x := z_25) hj_23 0 2147483647 9 9 1 9 (by decide +kernel) (by decide) (by decide) (by omega) (by omega) (by omega) (by have hb_ := z32 z_25; omega) (by have hb_ := z32 z_25; omega)), rfl, rfl, rfl, rfl, rfl, rfl, rfl⟩ (fun v_26 hj_27 => ?_)
        obtain ⟨hj_27, hk_28k0, hk_28k1, hk_28k2, hk_28k3, hk_28k4, hk_28k5, hk_28k6⟩ := hj_27
        exact r_void E dX10_readLine_63 ⟨(by omega), hj_27⟩
    ·
      refine s_aload_n E dX10_readLine_28 rfl rfl ?_
      refine s_gI E fg_X10_106 rfl rfl (jv_lt hj_5 (by decide)) dX10_readLine_29 ?_
      refine z_nm (P := fun z => z.toInt = (u_3.2.2.1 95 10).toInt ∧ 0 ≤ z.toInt ∧ z.toInt ≤ 4) ⟨rfl, (rg_95_10 hj_5)⟩ (fun z_29 hz_29 => ?_)
      refine s_iconst (v := 3) E dX10_readLine_32 (by decide) ?_
      refine z_icmp_eq (tgt := 41) (u := z_29.toInt) (v := 3) E dX10_readLine_33 (by decide) rfl (by decide) (fun h_30 => ?_) (fun h_30 => ?_)
      ·
        refine s_aload_n E dX10_readLine_41 rfl rfl ?_
        refine s_vI (As := []) (S := []) E (Z_X10_good_95 l D aC b u_3  hj_5.1 ) cv_X10_130 rfl rfl rfl (jv_lt hj_5 (by decide)) (Nat.le_of_ble_eq_true rfl) (Nat.le_of_ble_eq_true rfl) ⟨(Nat.le_of_ble_eq_true rfl), (Nat.le_of_ble_eq_true rfl)⟩ (Nat.le_of_ble_eq_true rfl) dX10_readLine_42 (fun z_33 u_31 hp_32 => ?_)
        obtain ⟨hz_33, hxz_33, hp_32⟩ := hp_32
        subst hp_32
        refine z_if_eq (tgt := 52) (u := z_33.toInt) E dX10_readLine_45 (by decide) rfl (fun h_35 => ?_) (fun h_35 => ?_)
        ·
          refine s_aload_n E dX10_readLine_52 rfl rfl ?_
          refine s_gR (r := 101) E fg_X10_31 rfl rfl (jv_lt hj_5 (by decide)) (jv_r hj_5 (by decide +kernel)) dX10_readLine_53 ?_
          refine s_bipush (v := 9) E dX10_readLine_56 (by decide) ?_
          refine s_dup2 E dX10_readLine_58 ?_
          refine s_iald E rfl (jv_lt hj_5 (by decide)) (z_in (u := 9) (by decide) (by omega) (by omega)) dX10_readLine_59 ?_
          refine z_nm (P := fun z => z.toInt = (u_3.2.2.1 101 9).toInt ∧ 0 ≤ z.toInt ∧ z.toInt ≤ 2147483647) ⟨rfl, (rw_101_9 hj_5)⟩ (fun z_36 hz_36 => ?_)
          refine s_iconst (v := 1) E dX10_readLine_60 (by decide) ?_
          refine z_iadd (u := z_36.toInt) (v := 1) E dX10_readLine_61 rfl (by decide) (by omega) (by omega) (fun z_37 hz_37 => ?_)
          have hhz_37 : 1 ≤ z_37.toInt ∧ z_37.toInt ≤ 1001 := by omega
          refine s_iast E rfl (jv_lt hj_5 (by decide)) (z_in (u := 9) (by decide) (by omega) (by omega)) dX10_readLine_62 ?_
          refine s_gen (P := fun v => Jv w v ∧ (v.2.2.1 95 7).toInt = (u_3.2.2.1 95 7).toInt ∧ (v.2.2.1 95 8).toInt = (u_3.2.2.1 95 8).toInt ∧ (v.2.2.1 95 9).toInt = (u_3.2.2.1 95 9).toInt ∧ (v.2.2.1 95 10).toInt = (u_3.2.2.1 95 10).toInt ∧ (v.2.2.1 95 12).toInt = (u_3.2.2.1 95 12).toInt ∧ (v.2.2.1 101 9).toInt = z_37.toInt ∧ (v.2.2.1 101 5).toInt = (u_3.2.2.1 101 5).toInt) ⟨(jv_a_101 (i := 9) (x := z_37) hj_5 0 2147483647 9 9 1 9 (by decide +kernel) (by decide) (by decide) (by omega) (by omega) (by omega) (by have hb_ := z32 z_37; omega) (by have hb_ := z32 z_37; omega)), rfl, rfl, rfl, rfl, rfl, rfl, rfl⟩ (fun v_38 hj_39 => ?_)
          obtain ⟨hj_39, hk_40k0, hk_40k1, hk_40k2, hk_40k3, hk_40k4, hk_40k5, hk_40k6⟩ := hj_39
          exact r_void E dX10_readLine_63 ⟨(by omega), hj_39⟩
        ·
          refine s_aload_n E dX10_readLine_48 rfl rfl ?_
          refine s_vV (As := []) (S := []) E (Z_X10_advance_95 l D aC b u_3  hj_5.1 ) cv_X10_147 rfl rfl rfl (jv_lt hj_5 (by decide)) (Nat.le_of_ble_eq_true rfl) (Nat.le_of_ble_eq_true rfl) ⟨(Nat.le_of_ble_eq_true rfl), (Nat.le_of_ble_eq_true rfl)⟩ (Nat.le_of_ble_eq_true rfl) dX10_readLine_49 (fun u_41 hp_42 => ?_)
          obtain ⟨hx_hp_42, hf_u_41_99, hf_u_41_101, hp_42⟩ := hp_42
          have hj_43 := jv_trans hj_5 hp_42
          have hfa_101_9 := congrArg Int32.toInt (congrFun hf_u_41_101 9)
          have hfa_101_5 := congrArg Int32.toInt (congrFun hf_u_41_101 5)
          refine s_aload_n E dX10_readLine_52 rfl rfl ?_
          refine s_gR (r := 101) E fg_X10_31 rfl rfl (jv_lt hj_43 (by decide)) (jv_r hj_43 (by decide +kernel)) dX10_readLine_53 ?_
          refine s_bipush (v := 9) E dX10_readLine_56 (by decide) ?_
          refine s_dup2 E dX10_readLine_58 ?_
          refine s_iald E rfl (jv_lt hj_43 (by decide)) (z_in (u := 9) (by decide) (by omega) (by omega)) dX10_readLine_59 ?_
          refine z_nm (P := fun z => z.toInt = (u_41.2.2.1 101 9).toInt ∧ 0 ≤ z.toInt ∧ z.toInt ≤ 2147483647) ⟨rfl, (rw_101_9 hj_43)⟩ (fun z_44 hz_44 => ?_)
          refine s_iconst (v := 1) E dX10_readLine_60 (by decide) ?_
          refine z_iadd (u := z_44.toInt) (v := 1) E dX10_readLine_61 rfl (by decide) (by omega) (by omega) (fun z_45 hz_45 => ?_)
          have hhz_45 : 1 ≤ z_45.toInt ∧ z_45.toInt ≤ 1001 := by omega
          refine s_iast E rfl (jv_lt hj_43 (by decide)) (z_in (u := 9) (by decide) (by omega) (by omega)) dX10_readLine_62 ?_
          refine s_gen (P := fun v => Jv w v ∧ (v.2.2.1 95 7).toInt = (u_41.2.2.1 95 7).toInt ∧ (v.2.2.1 95 8).toInt = (u_41.2.2.1 95 8).toInt ∧ (v.2.2.1 95 9).toInt = (u_41.2.2.1 95 9).toInt ∧ (v.2.2.1 95 10).toInt = (u_41.2.2.1 95 10).toInt ∧ (v.2.2.1 95 12).toInt = (u_41.2.2.1 95 12).toInt ∧ (v.2.2.1 101 9).toInt = z_45.toInt ∧ (v.2.2.1 101 5).toInt = (u_41.2.2.1 101 5).toInt) ⟨(jv_a_101 (i := 9) (x := z_45) hj_43 0 2147483647 9 9 1 9 (by decide +kernel) (by decide) (by decide) (by omega) (by omega) (by omega) (by have hb_ := z32 z_45; omega) (by have hb_ := z32 z_45; omega)), rfl, rfl, rfl, rfl, rfl, rfl, rfl⟩ (fun v_46 hj_47 => ?_)
          obtain ⟨hj_47, hk_48k0, hk_48k1, hk_48k2, hk_48k3, hk_48k4, hk_48k5, hk_48k6⟩ := hj_47
          exact r_void E dX10_readLine_63 ⟨(by omega), hj_47⟩
      ·
        refine s_aload_n E dX10_readLine_36 rfl rfl ?_
        refine s_iconst (v := 1) E dX10_readLine_37 (by decide) ?_
        refine s_vV (As := [AI 1]) (S := []) E (Z_X10_errs_95 l D aC b u_3 1 hj_5.1 (by decide)) cv_X10_153 rfl rfl rfl (jv_lt hj_5 (by decide)) (Nat.le_of_ble_eq_true rfl) (Nat.le_of_ble_eq_true rfl) ⟨(Nat.le_of_ble_eq_true rfl), (Nat.le_of_ble_eq_true rfl)⟩ (Nat.le_of_ble_eq_true rfl) dX10_readLine_38 (fun u_49 hp_50 => ?_)
        have hc_ : (1 : Int32).toInt = 1 := by decide
        obtain ⟨hx_hp_50, hf_u_49_101, hp_50⟩ := hp_50
        have hj_51 := jv_trans hj_5 hp_50
        have hfa_101_9 := congrArg Int32.toInt (congrFun hf_u_49_101 9)
        have hfa_101_5 := congrArg Int32.toInt (congrFun hf_u_49_101 5)
        refine s_aload_n E dX10_readLine_41 rfl rfl ?_
        refine s_vI (As := []) (S := []) E (Z_X10_good_95 l D aC b u_49  hj_51.1 ) cv_X10_130 rfl rfl rfl (jv_lt hj_51 (by decide)) (Nat.le_of_ble_eq_true rfl) (Nat.le_of_ble_eq_true rfl) ⟨(Nat.le_of_ble_eq_true rfl), (Nat.le_of_ble_eq_true rfl)⟩ (Nat.le_of_ble_eq_true rfl) dX10_readLine_42 (fun z_54 u_52 hp_53 => ?_)
        obtain ⟨hz_54, hxz_54, hp_53⟩ := hp_53
        subst hp_53
        refine z_if_eq (tgt := 52) (u := z_54.toInt) E dX10_readLine_45 (by decide) rfl (fun h_56 => ?_) (fun h_56 => ?_)
        ·
          refine s_aload_n E dX10_readLine_52 rfl rfl ?_
          refine s_gR (r := 101) E fg_X10_31 rfl rfl (jv_lt hj_51 (by decide)) (jv_r hj_51 (by decide +kernel)) dX10_readLine_53 ?_
          refine s_bipush (v := 9) E dX10_readLine_56 (by decide) ?_
          refine s_dup2 E dX10_readLine_58 ?_
          refine s_iald E rfl (jv_lt hj_51 (by decide)) (z_in (u := 9) (by decide) (by omega) (by omega)) dX10_readLine_59 ?_
          refine z_nm (P := fun z => z.toInt = (u_49.2.2.1 101 9).toInt ∧ 0 ≤ z.toInt ∧ z.toInt ≤ 2147483647) ⟨rfl, (rw_101_9 hj_51)⟩ (fun z_57 hz_57 => ?_)
          refine s_iconst (v := 1) E dX10_readLine_60 (by decide) ?_
          refine z_iadd (u := z_57.toInt) (v := 1) E dX10_readLine_61 rfl (by decide) (by omega) (by omega) (fun z_58 hz_58 => ?_)
          have hhz_58 : 1 ≤ z_58.toInt ∧ z_58.toInt ≤ 1001 := by omega
          refine s_iast E rfl (jv_lt hj_51 (by decide)) (z_in (u := 9) (by decide) (by omega) (by omega)) dX10_readLine_62 ?_
          refine s_gen (P := fun v => Jv w v ∧ (v.2.2.1 95 7).toInt = (u_49.2.2.1 95 7).toInt ∧ (v.2.2.1 95 8).toInt = (u_49.2.2.1 95 8).toInt ∧ (v.2.2.1 95 9).toInt = (u_49.2.2.1 95 9).toInt ∧ (v.2.2.1 95 10).toInt = (u_49.2.2.1 95 10).toInt ∧ (v.2.2.1 95 12).toInt = (u_49.2.2.1 95 12).toInt ∧ (v.2.2.1 101 9).toInt = z_58.toInt ∧ (v.2.2.1 101 5).toInt = (u_49.2.2.1 101 5).toInt) ⟨(jv_a_101 (i := 9) (x := z_58) hj_51 0 2147483647 9 9 1 9 (by decide +kernel) (by decide) (by decide) (by omega) (by omega) (by omega) (by have hb_ := z32 z_58; omega) (by have hb_ := z32 z_58; omega)), rfl, rfl, rfl, rfl, rfl, rfl, rfl⟩ (fun v_59 hj_60 => ?_)
          obtain ⟨hj_60, hk_61k0, hk_61k1, hk_61k2, hk_61k3, hk_61k4, hk_61k5, hk_61k6⟩ := hj_60
          exact r_void E dX10_readLine_63 ⟨(by omega), hj_60⟩
        ·
          refine s_aload_n E dX10_readLine_48 rfl rfl ?_
          refine s_vV (As := []) (S := []) E (Z_X10_advance_95 l D aC b u_49  hj_51.1 ) cv_X10_147 rfl rfl rfl (jv_lt hj_51 (by decide)) (Nat.le_of_ble_eq_true rfl) (Nat.le_of_ble_eq_true rfl) ⟨(Nat.le_of_ble_eq_true rfl), (Nat.le_of_ble_eq_true rfl)⟩ (Nat.le_of_ble_eq_true rfl) dX10_readLine_49 (fun u_62 hp_63 => ?_)
          obtain ⟨hx_hp_63, hf_u_62_99, hf_u_62_101, hp_63⟩ := hp_63
          have hj_64 := jv_trans hj_51 hp_63
          have hfa_101_9 := congrArg Int32.toInt (congrFun hf_u_62_101 9)
          have hfa_101_5 := congrArg Int32.toInt (congrFun hf_u_62_101 5)
          refine s_aload_n E dX10_readLine_52 rfl rfl ?_
          refine s_gR (r := 101) E fg_X10_31 rfl rfl (jv_lt hj_64 (by decide)) (jv_r hj_64 (by decide +kernel)) dX10_readLine_53 ?_
          refine s_bipush (v := 9) E dX10_readLine_56 (by decide) ?_
          refine s_dup2 E dX10_readLine_58 ?_
          refine s_iald E rfl (jv_lt hj_64 (by decide)) (z_in (u := 9) (by decide) (by omega) (by omega)) dX10_readLine_59 ?_
          refine z_nm (P := fun z => z.toInt = (u_62.2.2.1 101 9).toInt ∧ 0 ≤ z.toInt ∧ z.toInt ≤ 2147483647) ⟨rfl, (rw_101_9 hj_64)⟩ (fun z_65 hz_65 => ?_)
          refine s_iconst (v := 1) E dX10_readLine_60 (by decide) ?_
          refine z_iadd (u := z_65.toInt) (v := 1) E dX10_readLine_61 rfl (by decide) (by omega) (by omega) (fun z_66 hz_66 => ?_)
          have hhz_66 : 1 ≤ z_66.toInt ∧ z_66.toInt ≤ 1001 := by omega
          refine s_iast E rfl (jv_lt hj_64 (by decide)) (z_in (u := 9) (by decide) (by omega) (by omega)) dX10_readLine_62 ?_
          refine s_gen (P := fun v => Jv w v ∧ (v.2.2.1 95 7).toInt = (u_62.2.2.1 95 7).toInt ∧ (v.2.2.1 95 8).toInt = (u_62.2.2.1 95 8).toInt ∧ (v.2.2.1 95 9).toInt = (u_62.2.2.1 95 9).toInt ∧ (v.2.2.1 95 10).toInt = (u_62.2.2.1 95 10).toInt ∧ (v.2.2.1 95 12).toInt = (u_62.2.2.1 95 12).toInt ∧ (v.2.2.1 101 9).toInt = z_66.toInt ∧ (v.2.2.1 101 5).toInt = (u_62.2.2.1 101 5).toInt) ⟨(jv_a_101 (i := 9) (x := z_66) hj_64 0 2147483647 9 9 1 9 (by decide +kernel) (by decide) (by decide) (by omega) (by omega) (by omega) (by have hb_ := z32 z_66; omega) (by have hb_ := z32 z_66; omega)), rfl, rfl, rfl, rfl, rfl, rfl, rfl⟩ (fun v_67 hj_68 => ?_)
          obtain ⟨hj_68, hk_69k0, hk_69k1, hk_69k2, hk_69k3, hk_69k4, hk_69k5, hk_69k6⟩ := hj_68
          exact r_void E dX10_readLine_63 ⟨(by omega), hj_68⟩
  ·
    refine s_aload_n E dX10_readLine_10 rfl rfl ?_
    refine s_vV (As := []) (S := []) E (Z_X10_readFirst_95 l D aC b w  hJ.1  (by omega) (by omega)) cv_X10_209 rfl rfl rfl (jv_lt hJ (by decide)) (Nat.le_of_ble_eq_true rfl) (Nat.le_of_ble_eq_true rfl) ⟨(Nat.le_of_ble_eq_true rfl), (Nat.le_of_ble_eq_true rfl)⟩ (Nat.le_of_ble_eq_true rfl) dX10_readLine_11 (fun u_70 hp_71 => ?_)
    obtain ⟨hx_hp_71, hp_71⟩ := hp_71
    have hj_72 := jv_trans hJ hp_71
    refine s_goto (tgt := 21) E dX10_readLine_14 (by decide) ?_
    refine s_aload_n E dX10_readLine_21 rfl rfl ?_
    refine s_vI (As := []) (S := []) E (Z_X10_good_95 l D aC b u_70  hj_72.1 ) cv_X10_130 rfl rfl rfl (jv_lt hj_72 (by decide)) (Nat.le_of_ble_eq_true rfl) (Nat.le_of_ble_eq_true rfl) ⟨(Nat.le_of_ble_eq_true rfl), (Nat.le_of_ble_eq_true rfl)⟩ (Nat.le_of_ble_eq_true rfl) dX10_readLine_22 (fun z_75 u_73 hp_74 => ?_)
    obtain ⟨hz_75, hxz_75, hp_74⟩ := hp_74
    subst hp_74
    refine z_if_eq (tgt := 41) (u := z_75.toInt) E dX10_readLine_25 (by decide) rfl (fun h_77 => ?_) (fun h_77 => ?_)
    ·
      refine s_aload_n E dX10_readLine_41 rfl rfl ?_
      refine s_vI (As := []) (S := []) E (Z_X10_good_95 l D aC b u_70  hj_72.1 ) cv_X10_130 rfl rfl rfl (jv_lt hj_72 (by decide)) (Nat.le_of_ble_eq_true rfl) (Nat.le_of_ble_eq_true rfl) ⟨(Nat.le_of_ble_eq_true rfl), (Nat.le_of_ble_eq_true rfl)⟩ (Nat.le_of_ble_eq_true rfl) dX10_readLine_42 (fun z_80 u_78 hp_79 => ?_)
      obtain ⟨hz_80, hxz_80, hp_79⟩ := hp_79
      subst hp_79
      refine z_if_eq (tgt := 52) (u := z_80.toInt) E dX10_readLine_45 (by decide) rfl (fun h_82 => ?_) (fun h_82 => ?_)
      ·
        refine s_aload_n E dX10_readLine_52 rfl rfl ?_
        refine s_gR (r := 101) E fg_X10_31 rfl rfl (jv_lt hj_72 (by decide)) (jv_r hj_72 (by decide +kernel)) dX10_readLine_53 ?_
        refine s_bipush (v := 9) E dX10_readLine_56 (by decide) ?_
        refine s_dup2 E dX10_readLine_58 ?_
        refine s_iald E rfl (jv_lt hj_72 (by decide)) (z_in (u := 9) (by decide) (by omega) (by omega)) dX10_readLine_59 ?_
        refine z_nm (P := fun z => z.toInt = (u_70.2.2.1 101 9).toInt ∧ 0 ≤ z.toInt ∧ z.toInt ≤ 2147483647) ⟨rfl, (rw_101_9 hj_72)⟩ (fun z_83 hz_83 => ?_)
        refine s_iconst (v := 1) E dX10_readLine_60 (by decide) ?_
        refine z_iadd (u := z_83.toInt) (v := 1) E dX10_readLine_61 rfl (by decide) (by omega) (by omega) (fun z_84 hz_84 => ?_)
        have hhz_84 : 1 ≤ z_84.toInt ∧ z_84.toInt ≤ 1001 := by omega
        refine s_iast E rfl (jv_lt hj_72 (by decide)) (z_in (u := 9) (by decide) (by omega) (by omega)) dX10_readLine_62 ?_
        refine s_gen (P := fun v => Jv w v ∧ (v.2.2.1 95 7).toInt = (u_70.2.2.1 95 7).toInt ∧ (v.2.2.1 95 8).toInt = (u_70.2.2.1 95 8).toInt ∧ (v.2.2.1 95 9).toInt = (u_70.2.2.1 95 9).toInt ∧ (v.2.2.1 95 10).toInt = (u_70.2.2.1 95 10).toInt ∧ (v.2.2.1 95 12).toInt = (u_70.2.2.1 95 12).toInt ∧ (v.2.2.1 101 9).toInt = z_84.toInt ∧ (v.2.2.1 101 5).toInt = (u_70.2.2.1 101 5).toInt) ⟨(jv_a_101 (i := 9) (x := z_84) hj_72 0 2147483647 9 9 1 9 (by decide +kernel) (by decide) (by decide) (by omega) (by omega) (by omega) (by have hb_ := z32 z_84; omega) (by have hb_ := z32 z_84; omega)), rfl, rfl, rfl, rfl, rfl, rfl, rfl⟩ (fun v_85 hj_86 => ?_)
        obtain ⟨hj_86, hk_87k0, hk_87k1, hk_87k2, hk_87k3, hk_87k4, hk_87k5, hk_87k6⟩ := hj_86
        exact r_void E dX10_readLine_63 ⟨(by omega), hj_86⟩
      ·
        refine s_aload_n E dX10_readLine_48 rfl rfl ?_
        refine s_vV (As := []) (S := []) E (Z_X10_advance_95 l D aC b u_70  hj_72.1 ) cv_X10_147 rfl rfl rfl (jv_lt hj_72 (by decide)) (Nat.le_of_ble_eq_true rfl) (Nat.le_of_ble_eq_true rfl) ⟨(Nat.le_of_ble_eq_true rfl), (Nat.le_of_ble_eq_true rfl)⟩ (Nat.le_of_ble_eq_true rfl) dX10_readLine_49 (fun u_88 hp_89 => ?_)
        obtain ⟨hx_hp_89, hf_u_88_99, hf_u_88_101, hp_89⟩ := hp_89
        have hj_90 := jv_trans hj_72 hp_89
        have hfa_101_9 := congrArg Int32.toInt (congrFun hf_u_88_101 9)
        have hfa_101_5 := congrArg Int32.toInt (congrFun hf_u_88_101 5)
        refine s_aload_n E dX10_readLine_52 rfl rfl ?_
        refine s_gR (r := 101) E fg_X10_31 rfl rfl (jv_lt hj_90 (by decide)) (jv_r hj_90 (by decide +kernel)) dX10_readLine_53 ?_
        refine s_bipush (v := 9) E dX10_readLine_56 (by decide) ?_
        refine s_dup2 E dX10_readLine_58 ?_
        refine s_iald E rfl (jv_lt hj_90 (by decide)) (z_in (u := 9) (by decide) (by omega) (by omega)) dX10_readLine_59 ?_
        refine z_nm (P := fun z => z.toInt = (u_88.2.2.1 101 9).toInt ∧ 0 ≤ z.toInt ∧ z.toInt ≤ 2147483647) ⟨rfl, (rw_101_9 hj_90)⟩ (fun z_91 hz_91 => ?_)
        refine s_iconst (v := 1) E dX10_readLine_60 (by decide) ?_
        refine z_iadd (u := z_91.toInt) (v := 1) E dX10_readLine_61 rfl (by decide) (by omega) (by omega) (fun z_92 hz_92 => ?_)
        have hhz_92 : 1 ≤ z_92.toInt ∧ z_92.toInt ≤ 1001 := by omega
        refine s_iast E rfl (jv_lt hj_90 (by decide)) (z_in (u := 9) (by decide) (by omega) (by omega)) dX10_readLine_62 ?_
        refine s_gen (P := fun v => Jv w v ∧ (v.2.2.1 95 7).toInt = (u_88.2.2.1 95 7).toInt ∧ (v.2.2.1 95 8).toInt = (u_88.2.2.1 95 8).toInt ∧ (v.2.2.1 95 9).toInt = (u_88.2.2.1 95 9).toInt ∧ (v.2.2.1 95 10).toInt = (u_88.2.2.1 95 10).toInt ∧ (v.2.2.1 95 12).toInt = (u_88.2.2.1 95 12).toInt ∧ (v.2.2.1 101 9).toInt = z_92.toInt ∧ (v.2.2.1 101 5).toInt = (u_88.2.2.1 101 5).toInt) ⟨(jv_a_101 (i := 9) (x := z_92) hj_90 0 2147483647 9 9 1 9 (by decide +kernel) (by decide) (by decide) (by omega) (by omega) (by omega) (by have hb_ := z32 z_92; omega) (by have hb_ := z32 z_92; omega)), rfl, rfl, rfl, rfl, rfl, rfl, rfl⟩ (fun v_93 hj_94 => ?_)
        obtain ⟨hj_94, hk_95k0, hk_95k1, hk_95k2, hk_95k3, hk_95k4, hk_95k5, hk_95k6⟩ := hj_94
        exact r_void E dX10_readLine_63 ⟨(by omega), hj_94⟩
    ·
      refine s_aload_n E dX10_readLine_28 rfl rfl ?_
      refine s_gI E fg_X10_106 rfl rfl (jv_lt hj_72 (by decide)) dX10_readLine_29 ?_
      refine z_nm (P := fun z => z.toInt = (u_70.2.2.1 95 10).toInt ∧ 0 ≤ z.toInt ∧ z.toInt ≤ 4) ⟨rfl, (rg_95_10 hj_72)⟩ (fun z_96 hz_96 => ?_)
      refine s_iconst (v := 3) E dX10_readLine_32 (by decide) ?_
      refine z_icmp_eq (tgt := 41) (u := z_96.toInt) (v := 3) E dX10_readLine_33 (by decide) rfl (by decide) (fun h_97 => ?_) (fun h_97 => ?_)
      ·
        refine s_aload_n E dX10_readLine_41 rfl rfl ?_
        refine s_vI (As := []) (S := []) E (Z_X10_good_95 l D aC b u_70  hj_72.1 ) cv_X10_130 rfl rfl rfl (jv_lt hj_72 (by decide)) (Nat.le_of_ble_eq_true rfl) (Nat.le_of_ble_eq_true rfl) ⟨(Nat.le_of_ble_eq_true rfl), (Nat.le_of_ble_eq_true rfl)⟩ (Nat.le_of_ble_eq_true rfl) dX10_readLine_42 (fun z_100 u_98 hp_99 => ?_)
        obtain ⟨hz_100, hxz_100, hp_99⟩ := hp_99
        subst hp_99
        refine z_if_eq (tgt := 52) (u := z_100.toInt) E dX10_readLine_45 (by decide) rfl (fun h_102 => ?_) (fun h_102 => ?_)
        ·
          refine s_aload_n E dX10_readLine_52 rfl rfl ?_
          refine s_gR (r := 101) E fg_X10_31 rfl rfl (jv_lt hj_72 (by decide)) (jv_r hj_72 (by decide +kernel)) dX10_readLine_53 ?_
          refine s_bipush (v := 9) E dX10_readLine_56 (by decide) ?_
          refine s_dup2 E dX10_readLine_58 ?_
          refine s_iald E rfl (jv_lt hj_72 (by decide)) (z_in (u := 9) (by decide) (by omega) (by omega)) dX10_readLine_59 ?_
          refine z_nm (P := fun z => z.toInt = (u_70.2.2.1 101 9).toInt ∧ 0 ≤ z.toInt ∧ z.toInt ≤ 2147483647) ⟨rfl, (rw_101_9 hj_72)⟩ (fun z_103 hz_103 => ?_)
          refine s_iconst (v := 1) E dX10_readLine_60 (by decide) ?_
          refine z_iadd (u := z_103.toInt) (v := 1) E dX10_readLine_61 rfl (by decide) (by omega) (by omega) (fun z_104 hz_104 => ?_)
          have hhz_104 : 1 ≤ z_104.toInt ∧ z_104.toInt ≤ 1001 := by omega
          refine s_iast E rfl (jv_lt hj_72 (by decide)) (z_in (u := 9) (by decide) (by omega) (by omega)) dX10_readLine_62 ?_
          refine s_gen (P := fun v => Jv w v ∧ (v.2.2.1 95 7).toInt = (u_70.2.2.1 95 7).toInt ∧ (v.2.2.1 95 8).toInt = (u_70.2.2.1 95 8).toInt ∧ (v.2.2.1 95 9).toInt = (u_70.2.2.1 95 9).toInt ∧ (v.2.2.1 95 10).toInt = (u_70.2.2.1 95 10).toInt ∧ (v.2.2.1 95 12).toInt = (u_70.2.2.1 95 12).toInt ∧ (v.2.2.1 101 9).toInt = z_104.toInt ∧ (v.2.2.1 101 5).toInt = (u_70.2.2.1 101 5).toInt) ⟨(jv_a_101 (i := 9) (x := z_104) hj_72 0 2147483647 9 9 1 9 (by decide +kernel) (by decide) (by decide) (by omega) (by omega) (by omega) (by have hb_ := z32 z_104; omega) (by have hb_ := z32 z_104; omega)), rfl, rfl, rfl, rfl, rfl, rfl, rfl⟩ (fun v_105 hj_106 => ?_)
          obtain ⟨hj_106, hk_107k0, hk_107k1, hk_107k2, hk_107k3, hk_107k4, hk_107k5, hk_107k6⟩ := hj_106
          exact r_void E dX10_readLine_63 ⟨(by omega), hj_106⟩
        ·
          refine s_aload_n E dX10_readLine_48 rfl rfl ?_
          refine s_vV (As := []) (S := []) E (Z_X10_advance_95 l D aC b u_70  hj_72.1 ) cv_X10_147 rfl rfl rfl (jv_lt hj_72 (by decide)) (Nat.le_of_ble_eq_true rfl) (Nat.le_of_ble_eq_true rfl) ⟨(Nat.le_of_ble_eq_true rfl), (Nat.le_of_ble_eq_true rfl)⟩ (Nat.le_of_ble_eq_true rfl) dX10_readLine_49 (fun u_108 hp_109 => ?_)
          obtain ⟨hx_hp_109, hf_u_108_99, hf_u_108_101, hp_109⟩ := hp_109
          have hj_110 := jv_trans hj_72 hp_109
          have hfa_101_9 := congrArg Int32.toInt (congrFun hf_u_108_101 9)
          have hfa_101_5 := congrArg Int32.toInt (congrFun hf_u_108_101 5)
          refine s_aload_n E dX10_readLine_52 rfl rfl ?_
          refine s_gR (r := 101) E fg_X10_31 rfl rfl (jv_lt hj_110 (by decide)) (jv_r hj_110 (by decide +kernel)) dX10_readLine_53 ?_
          refine s_bipush (v := 9) E dX10_readLine_56 (by decide) ?_
          refine s_dup2 E dX10_readLine_58 ?_
          refine s_iald E rfl (jv_lt hj_110 (by decide)) (z_in (u := 9) (by decide) (by omega) (by omega)) dX10_readLine_59 ?_
          refine z_nm (P := fun z => z.toInt = (u_108.2.2.1 101 9).toInt ∧ 0 ≤ z.toInt ∧ z.toInt ≤ 2147483647) ⟨rfl, (rw_101_9 hj_110)⟩ (fun z_111 hz_111 => ?_)
          refine s_iconst (v := 1) E dX10_readLine_60 (by decide) ?_
          refine z_iadd (u := z_111.toInt) (v := 1) E dX10_readLine_61 rfl (by decide) (by omega) (by omega) (fun z_112 hz_112 => ?_)
          have hhz_112 : 1 ≤ z_112.toInt ∧ z_112.toInt ≤ 1001 := by omega
          refine s_iast E rfl (jv_lt hj_110 (by decide)) (z_in (u := 9) (by decide) (by omega) (by omega)) dX10_readLine_62 ?_
          refine s_gen (P := fun v => Jv w v ∧ (v.2.2.1 95 7).toInt = (u_108.2.2.1 95 7).toInt ∧ (v.2.2.1 95 8).toInt = (u_108.2.2.1 95 8).toInt ∧ (v.2.2.1 95 9).toInt = (u_108.2.2.1 95 9).toInt ∧ (v.2.2.1 95 10).toInt = (u_108.2.2.1 95 10).toInt ∧ (v.2.2.1 95 12).toInt = (u_108.2.2.1 95 12).toInt ∧ (v.2.2.1 101 9).toInt = z_112.toInt ∧ (v.2.2.1 101 5).toInt = (u_108.2.2.1 101 5).toInt) ⟨(jv_a_101 (i := 9) (x := z_112) hj_110 0 2147483647 9 9 1 9 (by decide +kernel) (by decide) (by decide) (by omega) (by omega) (by omega) (by have hb_ := z32 z_112; omega) (by have hb_ := z32 z_112; omega)), rfl, rfl, rfl, rfl, rfl, rfl, rfl⟩ (fun v_113 hj_114 => ?_)
          obtain ⟨hj_114, hk_115k0, hk_115k1, hk_115k2, hk_115k3, hk_115k4, hk_115k5, hk_115k6⟩ := hj_114
          exact r_void E dX10_readLine_63 ⟨(by omega), hj_114⟩
      ·
        refine s_aload_n E dX10_readLine_36 rfl rfl ?_
        refine s_iconst (v := 1) E dX10_readLine_37 (by decide) ?_
        refine s_vV (As := [AI 1]) (S := []) E (Z_X10_errs_95 l D aC b u_70 1 hj_72.1 (by decide)) cv_X10_153 rfl rfl rfl (jv_lt hj_72 (by decide)) (Nat.le_of_ble_eq_true rfl) (Nat.le_of_ble_eq_true rfl) ⟨(Nat.le_of_ble_eq_true rfl), (Nat.le_of_ble_eq_true rfl)⟩ (Nat.le_of_ble_eq_true rfl) dX10_readLine_38 (fun u_116 hp_117 => ?_)
        have hc_ : (1 : Int32).toInt = 1 := by decide
        obtain ⟨hx_hp_117, hf_u_116_101, hp_117⟩ := hp_117
        have hj_118 := jv_trans hj_72 hp_117
        have hfa_101_9 := congrArg Int32.toInt (congrFun hf_u_116_101 9)
        have hfa_101_5 := congrArg Int32.toInt (congrFun hf_u_116_101 5)
        refine s_aload_n E dX10_readLine_41 rfl rfl ?_
        refine s_vI (As := []) (S := []) E (Z_X10_good_95 l D aC b u_116  hj_118.1 ) cv_X10_130 rfl rfl rfl (jv_lt hj_118 (by decide)) (Nat.le_of_ble_eq_true rfl) (Nat.le_of_ble_eq_true rfl) ⟨(Nat.le_of_ble_eq_true rfl), (Nat.le_of_ble_eq_true rfl)⟩ (Nat.le_of_ble_eq_true rfl) dX10_readLine_42 (fun z_121 u_119 hp_120 => ?_)
        obtain ⟨hz_121, hxz_121, hp_120⟩ := hp_120
        subst hp_120
        refine z_if_eq (tgt := 52) (u := z_121.toInt) E dX10_readLine_45 (by decide) rfl (fun h_123 => ?_) (fun h_123 => ?_)
        ·
          refine s_aload_n E dX10_readLine_52 rfl rfl ?_
          refine s_gR (r := 101) E fg_X10_31 rfl rfl (jv_lt hj_118 (by decide)) (jv_r hj_118 (by decide +kernel)) dX10_readLine_53 ?_
          refine s_bipush (v := 9) E dX10_readLine_56 (by decide) ?_
          refine s_dup2 E dX10_readLine_58 ?_
          refine s_iald E rfl (jv_lt hj_118 (by decide)) (z_in (u := 9) (by decide) (by omega) (by omega)) dX10_readLine_59 ?_
          refine z_nm (P := fun z => z.toInt = (u_116.2.2.1 101 9).toInt ∧ 0 ≤ z.toInt ∧ z.toInt ≤ 2147483647) ⟨rfl, (rw_101_9 hj_118)⟩ (fun z_124 hz_124 => ?_)
          refine s_iconst (v := 1) E dX10_readLine_60 (by decide) ?_
          refine z_iadd (u := z_124.toInt) (v := 1) E dX10_readLine_61 rfl (by decide) (by omega) (by omega) (fun z_125 hz_125 => ?_)
          have hhz_125 : 1 ≤ z_125.toInt ∧ z_125.toInt ≤ 1001 := by omega
          refine s_iast E rfl (jv_lt hj_118 (by decide)) (z_in (u := 9) (by decide) (by omega) (by omega)) dX10_readLine_62 ?_
          refine s_gen (P := fun v => Jv w v ∧ (v.2.2.1 95 7).toInt = (u_116.2.2.1 95 7).toInt ∧ (v.2.2.1 95 8).toInt = (u_116.2.2.1 95 8).toInt ∧ (v.2.2.1 95 9).toInt = (u_116.2.2.1 95 9).toInt ∧ (v.2.2.1 95 10).toInt = (u_116.2.2.1 95 10).toInt ∧ (v.2.2.1 95 12).toInt = (u_116.2.2.1 95 12).toInt ∧ (v.2.2.1 101 9).toInt = z_125.toInt ∧ (v.2.2.1 101 5).toInt = (u_116.2.2.1 101 5).toInt) ⟨(jv_a_101 (i := 9) (x := z_125) hj_118 0 2147483647 9 9 1 9 (by decide +kernel) (by decide) (by decide) (by omega) (by omega) (by omega) (by have hb_ := z32 z_125; omega) (by have hb_ := z32 z_125; omega)), rfl, rfl, rfl, rfl, rfl, rfl, rfl⟩ (fun v_126 hj_127 => ?_)
          obtain ⟨hj_127, hk_128k0, hk_128k1, hk_128k2, hk_128k3, hk_128k4, hk_128k5, hk_128k6⟩ := hj_127
          exact r_void E dX10_readLine_63 ⟨(by omega), hj_127⟩
        ·
          refine s_aload_n E dX10_readLine_48 rfl rfl ?_
          refine s_vV (As := []) (S := []) E (Z_X10_advance_95 l D aC b u_116  hj_118.1 ) cv_X10_147 rfl rfl rfl (jv_lt hj_118 (by decide)) (Nat.le_of_ble_eq_true rfl) (Nat.le_of_ble_eq_true rfl) ⟨(Nat.le_of_ble_eq_true rfl), (Nat.le_of_ble_eq_true rfl)⟩ (Nat.le_of_ble_eq_true rfl) dX10_readLine_49 (fun u_129 hp_130 => ?_)
          obtain ⟨hx_hp_130, hf_u_129_99, hf_u_129_101, hp_130⟩ := hp_130
          have hj_131 := jv_trans hj_118 hp_130
          have hfa_101_9 := congrArg Int32.toInt (congrFun hf_u_129_101 9)
          have hfa_101_5 := congrArg Int32.toInt (congrFun hf_u_129_101 5)
          refine s_aload_n E dX10_readLine_52 rfl rfl ?_
          refine s_gR (r := 101) E fg_X10_31 rfl rfl (jv_lt hj_131 (by decide)) (jv_r hj_131 (by decide +kernel)) dX10_readLine_53 ?_
          refine s_bipush (v := 9) E dX10_readLine_56 (by decide) ?_
          refine s_dup2 E dX10_readLine_58 ?_
          refine s_iald E rfl (jv_lt hj_131 (by decide)) (z_in (u := 9) (by decide) (by omega) (by omega)) dX10_readLine_59 ?_
          refine z_nm (P := fun z => z.toInt = (u_129.2.2.1 101 9).toInt ∧ 0 ≤ z.toInt ∧ z.toInt ≤ 2147483647) ⟨rfl, (rw_101_9 hj_131)⟩ (fun z_132 hz_132 => ?_)
          refine s_iconst (v := 1) E dX10_readLine_60 (by decide) ?_
          refine z_iadd (u := z_132.toInt) (v := 1) E dX10_readLine_61 rfl (by decide) (by omega) (by omega) (fun z_133 hz_133 => ?_)
          have hhz_133 : 1 ≤ z_133.toInt ∧ z_133.toInt ≤ 1001 := by omega
          refine s_iast E rfl (jv_lt hj_131 (by decide)) (z_in (u := 9) (by decide) (by omega) (by omega)) dX10_readLine_62 ?_
          refine s_gen (P := fun v => Jv w v ∧ (v.2.2.1 95 7).toInt = (u_129.2.2.1 95 7).toInt ∧ (v.2.2.1 95 8).toInt = (u_129.2.2.1 95 8).toInt ∧ (v.2.2.1 95 9).toInt = (u_129.2.2.1 95 9).toInt ∧ (v.2.2.1 95 10).toInt = (u_129.2.2.1 95 10).toInt ∧ (v.2.2.1 95 12).toInt = (u_129.2.2.1 95 12).toInt ∧ (v.2.2.1 101 9).toInt = z_133.toInt ∧ (v.2.2.1 101 5).toInt = (u_129.2.2.1 101 5).toInt) ⟨(jv_a_101 (i := 9) (x := z_133) hj_131 0 2147483647 9 9 1 9 (by decide +kernel) (by decide) (by decide) (by omega) (by omega) (by omega) (by have hb_ := z32 z_133; omega) (by have hb_ := z32 z_133; omega)), rfl, rfl, rfl, rfl, rfl, rfl, rfl⟩ (fun v_134 hj_135 => ?_)
          obtain ⟨hj_135, hk_136k0, hk_136k1, hk_136k2, hk_136k3, hk_136k4, hk_136k5, hk_136k6⟩ := hj_135
          exact r_void E dX10_readLine_63 ⟨(by omega), hj_135⟩
