set_option maxRecDepth 20000 in
set_option maxHeartbeats 2000000 in
theorem Z_X10_readDoor_95 (l : Launch) (D : va_G) (aC : Nat → ClassId) (b : Nat) (w : XW)  (hI : Iv w) (hpi : (w.2.2.1 95 9).toInt ≤ (w.2.2.1 95 8).toInt ∧ ((w.2.2.1 95 10).toInt = 0 ∨ (w.2.2.1 95 9).toInt < (w.2.2.1 95 8).toInt)) (hy4 : (w.2.2.1 101 4).toInt ≤ 11) : CnV l D aC b M_X10_readDoor 8 289 0 0 [AR 95] w (fun u => ((u.2.2.1 95 7).toInt = (w.2.2.1 95 7).toInt ∧ ((u.2.2.1 95 12).toInt = 0 → (w.2.2.1 95 12).toInt = 0) ∧ (w.2.2.1 95 9).toInt ≤ (u.2.2.1 95 9).toInt ∧ (u.2.2.1 95 9).toInt ≤ (u.2.2.1 95 8).toInt ∧ ((u.2.2.1 95 10).toInt = 0 ∨ (u.2.2.1 95 9).toInt < (u.2.2.1 95 8).toInt) ∧ (u.2.2.1 101 9).toInt = (w.2.2.1 101 9).toInt) ∧ Jv w u) := by
  refine cn_V (own := RX10) (nm := "readDoor") (L0 := [some (AR 95), none]) (by decide +kernel) rfl rfl (Nat.le_of_ble_eq_true rfl) rfl ?_
  intro p e s m args below meth c E hin
  have hJ : Jv w w := jv_rfl hI
  refine s_bipush (v := 10) E dX10_readDoor_0 (by decide) ?_
  refine s_iconst (v := 3) E dX10_readDoor_2 (by decide) ?_
  refine s_aload_n E dX10_readDoor_3 rfl rfl ?_
  refine s_gR (r := 101) E fg_X10_31 rfl rfl (jv_lt hJ (by decide)) (jv_r hJ (by decide +kernel)) dX10_readDoor_4 ?_
  refine s_iconst (v := 4) E dX10_readDoor_7 (by decide) ?_
  refine s_iald E rfl (jv_lt hJ (by decide)) (z_in (u := 4) (by decide) (by omega) (by omega)) dX10_readDoor_8 ?_
  refine z_nm (P := fun z => z.toInt = (w.2.2.1 101 4).toInt ∧ 0 ≤ z.toInt ∧ z.toInt ≤ 12) ⟨rfl, (rw_101_4 hJ)⟩ (fun z_1 hz_1 => ?_)
  refine z_imul (u := 3) (v := z_1.toInt) E dX10_readDoor_9 (by decide) rfl (by omega) (by omega) (fun z_2 hz_2 => ?_)
  have hhz_2 : 0 ≤ z_2.toInt ∧ z_2.toInt ≤ 33 := by omega
  refine z_iadd (u := 10) (v := z_2.toInt) E dX10_readDoor_10 (by decide) rfl (by omega) (by omega) (fun z_3 hz_3 => ?_)
  refine s_istore_n (L2 := [some (AR 95), some (AI z_3)]) E dX10_readDoor_11 rfl (by decide) rfl ?_
  refine s_aload_n E dX10_readDoor_12 rfl rfl ?_
  refine s_gR (r := 101) E fg_X10_31 rfl rfl (jv_lt hJ (by decide)) (jv_r hJ (by decide +kernel)) dX10_readDoor_13 ?_
  refine s_iload_n E dX10_readDoor_16 rfl rfl ?_
  refine s_aload_n E dX10_readDoor_17 rfl rfl ?_
  refine s_iconst (v := 0) E dX10_readDoor_18 (by decide) ?_
  refine s_aload_n E dX10_readDoor_19 rfl rfl ?_
  refine s_gR (r := 101) E fg_X10_31 rfl rfl (jv_lt hJ (by decide)) (jv_r hJ (by decide +kernel)) dX10_readDoor_20 ?_
  refine s_iconst (v := 0) E dX10_readDoor_23 (by decide) ?_
  refine s_iald E rfl (jv_lt hJ (by decide)) (z_in (u := 0) (by decide) (by omega) (by omega)) dX10_readDoor_24 ?_
  refine z_nm (P := fun z => z.toInt = (w.2.2.1 101 0).toInt ∧ 0 ≤ z.toInt ∧ z.toInt ≤ 8) ⟨rfl, (rw_101_0 hJ)⟩ (fun z_4 hz_4 => ?_)
  refine s_iconst (v := 1) E dX10_readDoor_25 (by decide) ?_
  refine z_isub (u := z_4.toInt) (v := 1) E dX10_readDoor_26 rfl (by decide) (by omega) (by omega) (fun z_5 hz_5 => ?_)
  refine s_vI (As := [AI 0, AI z_5]) (S := [AI z_3, AR 101]) E (Z_X10_number_95 l D aC b w 0 z_5 hJ.1  (by omega)) cv_X10_161 rfl rfl rfl (jv_lt hJ (by decide)) (Nat.le_of_ble_eq_true rfl) (Nat.le_of_ble_eq_true rfl) ⟨(Nat.le_of_ble_eq_true rfl), (Nat.le_of_ble_eq_true rfl)⟩ (Nat.le_of_ble_eq_true rfl) dX10_readDoor_27 (fun z_8 u_6 hp_7 => ?_)
  obtain ⟨hz_8, hxz_8, hf_u_6_101, hp_7⟩ := hp_7
  have hc_ : (0 : Int32).toInt = 0 := by decide
  have hj_9 := jv_trans hJ hp_7
  have hfa_101_4 := congrArg Int32.toInt (congrFun hf_u_6_101 4)
  have hfa_101_9 := congrArg Int32.toInt (congrFun hf_u_6_101 9)
  have hrz_8 : 0 ≤ z_8.toInt ∧ z_8.toInt ≤ 7 := by omega
  refine s_iast E rfl (jv_lt hj_9 (by decide)) (z_in (u := z_3.toInt) rfl (by omega) (by omega)) dX10_readDoor_30 ?_
  have hj_11 : Jv w (upI u_6 101 z_3.toNatClampNeg z_8) := (jv_dor hj_9 (Or.inl (by omega)) (by omega) (by omega) (by have hb_ := z32 z_8; omega) (by have hb_ := z32 z_8; omega))
  have hke_ : ((upI u_6 101 z_3.toNatClampNeg z_8).2.2.1 95 7).toInt = (u_6.2.2.1 95 7).toInt := rfl
  have hke_ : ((upI u_6 101 z_3.toNatClampNeg z_8).2.2.1 95 8).toInt = (u_6.2.2.1 95 8).toInt := rfl
  have hke_ : ((upI u_6 101 z_3.toNatClampNeg z_8).2.2.1 95 9).toInt = (u_6.2.2.1 95 9).toInt := rfl
  have hke_ : ((upI u_6 101 z_3.toNatClampNeg z_8).2.2.1 95 10).toInt = (u_6.2.2.1 95 10).toInt := rfl
  have hke_ : ((upI u_6 101 z_3.toNatClampNeg z_8).2.2.1 95 12).toInt = (u_6.2.2.1 95 12).toInt := rfl
  have hke_ : ((upI u_6 101 z_3.toNatClampNeg z_8).2.2.1 95 11).toInt = (u_6.2.2.1 95 11).toInt := rfl
  have hke_ : ((upI u_6 101 z_3.toNatClampNeg z_8).2.2.1 101 4).toInt = (u_6.2.2.1 101 4).toInt := keep_ne (u := z_3.toInt) rfl (by omega) (by omega)
  have hke_ : ((upI u_6 101 z_3.toNatClampNeg z_8).2.2.1 101 9).toInt = (u_6.2.2.1 101 9).toInt := keep_ne (u := z_3.toInt) rfl (by omega) (by omega)
  refine s_aload_n E dX10_readDoor_31 rfl rfl ?_
  refine s_ldcS (i := 24) E (by decide) rfl dX10_readDoor_32 ?_
  refine s_vV (As := [AX (sA aC 24)]) (S := []) E (Z_X10_needs_95 l D aC b (upI u_6 101 z_3.toNatClampNeg z_8)  hj_11.1  24 (by decide) (by omega)) cv_X10_157 rfl rfl rfl (jv_lt hj_11 (by decide)) (Nat.le_of_ble_eq_true rfl) (Nat.le_of_ble_eq_true rfl) ⟨(Nat.le_of_ble_eq_true rfl), (Nat.le_of_ble_eq_true rfl)⟩ (Nat.le_of_ble_eq_true rfl) dX10_readDoor_34 (fun u_12 hp_13 => ?_)
  obtain ⟨hx_hp_13, hf_u_12_101, hp_13⟩ := hp_13
  have hj_14 := jv_trans hj_11 hp_13
  have hfa_101_4 := congrArg Int32.toInt (congrFun hf_u_12_101 4)
  have hfa_101_9 := congrArg Int32.toInt (congrFun hf_u_12_101 9)
  refine s_aload_n E dX10_readDoor_37 rfl rfl ?_
  refine s_vI (As := []) (S := []) E (Z_X10_good_95 l D aC b u_12  hj_14.1 ) cv_X10_130 rfl rfl rfl (jv_lt hj_14 (by decide)) (Nat.le_of_ble_eq_true rfl) (Nat.le_of_ble_eq_true rfl) ⟨(Nat.le_of_ble_eq_true rfl), (Nat.le_of_ble_eq_true rfl)⟩ (Nat.le_of_ble_eq_true rfl) dX10_readDoor_38 (fun z_17 u_15 hp_16 => ?_)
  obtain ⟨hz_17, hxz_17, hp_16⟩ := hp_16
  subst hp_16
  refine z_if_eq (tgt := 70) (u := z_17.toInt) E dX10_readDoor_41 (by decide) rfl (fun h_19 => ?_) (fun h_19 => ?_)
  ·
    have f2_ : (u_12.2.2.1 101) = (u_12.2.2.1 101) := by first | rfl | exact f2a_
    refine s_aload_n E dX10_readDoor_70 rfl rfl ?_
    refine s_gR (r := 101) E fg_X10_31 rfl rfl (jv_lt hj_14 (by decide)) (jv_r hj_14 (by decide +kernel)) dX10_readDoor_71 ?_
    refine s_iload_n E dX10_readDoor_74 rfl rfl ?_
    refine s_iconst (v := 1) E dX10_readDoor_75 (by decide) ?_
    refine z_iadd (u := z_3.toInt) (v := 1) E dX10_readDoor_76 rfl (by decide) (by omega) (by omega) (fun z_20 hz_20 => ?_)
    refine s_aload_n E dX10_readDoor_77 rfl rfl ?_
    refine s_iconst (v := 0) E dX10_readDoor_78 (by decide) ?_
    refine s_aload_n E dX10_readDoor_79 rfl rfl ?_
    refine s_gR (r := 101) E fg_X10_31 rfl rfl (jv_lt hj_14 (by decide)) (jv_r hj_14 (by decide +kernel)) dX10_readDoor_80 ?_
    refine s_iconst (v := 0) E dX10_readDoor_83 (by decide) ?_
    refine s_iald E rfl (jv_lt hj_14 (by decide)) (z_in (u := 0) (by decide) (by omega) (by omega)) dX10_readDoor_84 ?_
    refine z_nm (P := fun z => z.toInt = (u_12.2.2.1 101 0).toInt ∧ 0 ≤ z.toInt ∧ z.toInt ≤ 8) ⟨rfl, (rw_101_0 hj_14)⟩ (fun z_21 hz_21 => ?_)
    refine s_iconst (v := 1) E dX10_readDoor_85 (by decide) ?_
    refine z_isub (u := z_21.toInt) (v := 1) E dX10_readDoor_86 rfl (by decide) (by omega) (by omega) (fun z_22 hz_22 => ?_)
    refine s_vI (As := [AI 0, AI z_22]) (S := [AI z_20, AR 101]) E (Z_X10_number_95 l D aC b u_12 0 z_22 hj_14.1  (by omega)) cv_X10_161 rfl rfl rfl (jv_lt hj_14 (by decide)) (Nat.le_of_ble_eq_true rfl) (Nat.le_of_ble_eq_true rfl) ⟨(Nat.le_of_ble_eq_true rfl), (Nat.le_of_ble_eq_true rfl)⟩ (Nat.le_of_ble_eq_true rfl) dX10_readDoor_87 (fun z_25 u_23 hp_24 => ?_)
    obtain ⟨hz_25, hxz_25, hf_u_23_101, hp_24⟩ := hp_24
    have hc_ : (0 : Int32).toInt = 0 := by decide
    have hj_26 := jv_trans hj_14 hp_24
    have hfa_101_4 := congrArg Int32.toInt (congrFun hf_u_23_101 4)
    have hfa_101_9 := congrArg Int32.toInt (congrFun hf_u_23_101 9)
    have f3_ : (u_23.2.2.1 101) = (u_12.2.2.1 101) := hf_u_23_101.trans f2_
    have hrz_25 : 0 ≤ z_25.toInt ∧ z_25.toInt ≤ 7 := by omega
    have hne_ : (u_23.2.2.1 95 12).toInt = 0 → ¬ (u_12.2.2.1 101 z_3.toNatClampNeg).toInt = z_25.toInt := by intro h0_; omega
    refine s_iast E rfl (jv_lt hj_26 (by decide)) (z_in (u := z_20.toInt) rfl (by omega) (by omega)) dX10_readDoor_90 ?_
    have hj_28 : Jv w (upI u_23 101 z_20.toNatClampNeg z_25) := (jv_dor hj_26 (Or.inr (by omega)) (by omega) (by omega) (by have hb_ := z32 z_25; omega) (by have hb_ := z32 z_25; omega))
    have hke_ : ((upI u_23 101 z_20.toNatClampNeg z_25).2.2.1 95 7).toInt = (u_23.2.2.1 95 7).toInt := rfl
    have hke_ : ((upI u_23 101 z_20.toNatClampNeg z_25).2.2.1 95 8).toInt = (u_23.2.2.1 95 8).toInt := rfl
    have hke_ : ((upI u_23 101 z_20.toNatClampNeg z_25).2.2.1 95 9).toInt = (u_23.2.2.1 95 9).toInt := rfl
    have hke_ : ((upI u_23 101 z_20.toNatClampNeg z_25).2.2.1 95 10).toInt = (u_23.2.2.1 95 10).toInt := rfl
    have hke_ : ((upI u_23 101 z_20.toNatClampNeg z_25).2.2.1 95 12).toInt = (u_23.2.2.1 95 12).toInt := rfl
    have hke_ : ((upI u_23 101 z_20.toNatClampNeg z_25).2.2.1 95 11).toInt = (u_23.2.2.1 95 11).toInt := rfl
    have hke_ : ((upI u_23 101 z_20.toNatClampNeg z_25).2.2.1 101 4).toInt = (u_23.2.2.1 101 4).toInt := keep_ne (u := z_20.toInt) rfl (by omega) (by omega)
    have hke_ : ((upI u_23 101 z_20.toNatClampNeg z_25).2.2.1 101 9).toInt = (u_23.2.2.1 101 9).toInt := keep_ne (u := z_20.toInt) rfl (by omega) (by omega)
    refine s_aload_n E dX10_readDoor_91 rfl rfl ?_
    refine s_gR (r := 101) E fg_X10_31 rfl rfl (jv_lt hj_28 (by decide)) (jv_r hj_28 (by decide +kernel)) dX10_readDoor_92 ?_
    refine s_iload_n E dX10_readDoor_95 rfl rfl ?_
    refine s_iconst (v := 2) E dX10_readDoor_96 (by decide) ?_
    refine z_iadd (u := z_3.toInt) (v := 2) E dX10_readDoor_97 rfl (by decide) (by omega) (by omega) (fun z_29 hz_29 => ?_)
    refine s_aload_n E dX10_readDoor_98 rfl rfl ?_
    refine s_ldcS (i := 25) E (by decide) rfl dX10_readDoor_99 ?_
    refine s_iconst (v := 1) E dX10_readDoor_101 (by decide) ?_
    refine s_bipush (v := 9) E dX10_readDoor_102 (by decide) ?_
    refine s_vI (As := [AX (sA aC 25), AI 1, AI 9]) (S := [AI z_29, AR 101]) E (Z_X10_told_95 l D aC b (upI u_23 101 z_20.toNatClampNeg z_25) 1 9 hj_28.1  25 (by decide) (by omega)) cv_X10_164 rfl rfl rfl (jv_lt hj_28 (by decide)) (Nat.le_of_ble_eq_true rfl) (Nat.le_of_ble_eq_true rfl) ⟨(Nat.le_of_ble_eq_true rfl), (Nat.le_of_ble_eq_true rfl)⟩ (Nat.le_of_ble_eq_true rfl) dX10_readDoor_104 (fun z_32 u_30 hp_31 => ?_)
    obtain ⟨hz_32, hxz_32, hf_u_30_101, hp_31⟩ := hp_31
    have hc_ : (1 : Int32).toInt = 1 := by decide
    have hc_ : (9 : Int32).toInt = 9 := by decide
    have hj_33 := jv_trans hj_28 hp_31
    have hfa_101_4 := congrArg Int32.toInt (congrFun hf_u_30_101 4)
    have hfa_101_9 := congrArg Int32.toInt (congrFun hf_u_30_101 9)
    have hrz_32 : 0 ≤ z_32.toInt ∧ z_32.toInt ≤ 9 := by omega
    have f4_ := hf_u_30_101
    refine s_iast E rfl (jv_lt hj_33 (by decide)) (z_in (u := z_29.toInt) rfl (by omega) (by omega)) dX10_readDoor_107 ?_
    have hj_35 : Jv w (upI u_30 101 z_29.toNatClampNeg z_32) := (jv_a_101 (i := z_29) (x := z_32) hj_33 0 9 12 45 3 z_29.toInt (by decide +kernel) (by decide) rfl (by omega) (by omega) (by omega) (by have hb_ := z32 z_32; omega) (by have hb_ := z32 z_32; omega))
    have hke_ : ((upI u_30 101 z_29.toNatClampNeg z_32).2.2.1 95 7).toInt = (u_30.2.2.1 95 7).toInt := rfl
    have hke_ : ((upI u_30 101 z_29.toNatClampNeg z_32).2.2.1 95 8).toInt = (u_30.2.2.1 95 8).toInt := rfl
    have hke_ : ((upI u_30 101 z_29.toNatClampNeg z_32).2.2.1 95 9).toInt = (u_30.2.2.1 95 9).toInt := rfl
    have hke_ : ((upI u_30 101 z_29.toNatClampNeg z_32).2.2.1 95 10).toInt = (u_30.2.2.1 95 10).toInt := rfl
    have hke_ : ((upI u_30 101 z_29.toNatClampNeg z_32).2.2.1 95 12).toInt = (u_30.2.2.1 95 12).toInt := rfl
    have hke_ : ((upI u_30 101 z_29.toNatClampNeg z_32).2.2.1 95 11).toInt = (u_30.2.2.1 95 11).toInt := rfl
    have hke_ : ((upI u_30 101 z_29.toNatClampNeg z_32).2.2.1 101 4).toInt = (u_30.2.2.1 101 4).toInt := keep_ne (u := z_29.toInt) rfl (by omega) (by omega)
    have hke_ : ((upI u_30 101 z_29.toNatClampNeg z_32).2.2.1 101 9).toInt = (u_30.2.2.1 101 9).toInt := keep_ne (u := z_29.toInt) rfl (by omega) (by omega)
    refine s_aload_n E dX10_readDoor_108 rfl rfl ?_
    refine s_gR (r := 101) E fg_X10_31 rfl rfl (jv_lt hj_35 (by decide)) (jv_r hj_35 (by decide +kernel)) dX10_readDoor_109 ?_
    refine s_iconst (v := 4) E dX10_readDoor_112 (by decide) ?_
    refine s_dup2 E dX10_readDoor_113 ?_
    refine s_iald E rfl (jv_lt hj_35 (by decide)) (z_in (u := 4) (by decide) (by omega) (by omega)) dX10_readDoor_114 ?_
    refine z_nm (P := fun z => z.toInt = ((upI u_30 101 z_29.toNatClampNeg z_32).2.2.1 101 4).toInt ∧ 0 ≤ z.toInt ∧ z.toInt ≤ 12) ⟨rfl, (rw_101_4 hj_35)⟩ (fun z_36 hz_36 => ?_)
    refine s_iconst (v := 1) E dX10_readDoor_115 (by decide) ?_
    refine z_iadd (u := z_36.toInt) (v := 1) E dX10_readDoor_116 rfl (by decide) (by omega) (by omega) (fun z_37 hz_37 => ?_)
    have hhz_37 : 0 ≤ z_37.toInt ∧ z_37.toInt ≤ 12 := by omega
    refine s_iast E rfl (jv_lt hj_35 (by decide)) (z_in (u := 4) (by decide) (by omega) (by omega)) dX10_readDoor_117 ?_
    refine s_world (w2 := (upI (upI u_30 101 z_29.toNatClampNeg z_32) 101 4 z_37)) rfl ?_
    have hj_39 : Jv w (upI (upI u_30 101 z_29.toNatClampNeg z_32) 101 4 z_37) := (jv_dor4 hj_35 (by omega) (by omega) (by omega) (fun h0_ => dor_fin (N := (w.2.2.1 101 4).toInt) f4_ f3_ (by omega) (by omega) (by omega) (by omega) (by omega) (hne_ (by omega))))
    have hke_ : ((upI (upI u_30 101 z_29.toNatClampNeg z_32) 101 4 z_37).2.2.1 95 7).toInt = ((upI u_30 101 z_29.toNatClampNeg z_32).2.2.1 95 7).toInt := rfl
    have hke_ : ((upI (upI u_30 101 z_29.toNatClampNeg z_32) 101 4 z_37).2.2.1 95 8).toInt = ((upI u_30 101 z_29.toNatClampNeg z_32).2.2.1 95 8).toInt := rfl
    have hke_ : ((upI (upI u_30 101 z_29.toNatClampNeg z_32) 101 4 z_37).2.2.1 95 9).toInt = ((upI u_30 101 z_29.toNatClampNeg z_32).2.2.1 95 9).toInt := rfl
    have hke_ : ((upI (upI u_30 101 z_29.toNatClampNeg z_32) 101 4 z_37).2.2.1 95 10).toInt = ((upI u_30 101 z_29.toNatClampNeg z_32).2.2.1 95 10).toInt := rfl
    have hke_ : ((upI (upI u_30 101 z_29.toNatClampNeg z_32) 101 4 z_37).2.2.1 95 12).toInt = ((upI u_30 101 z_29.toNatClampNeg z_32).2.2.1 95 12).toInt := rfl
    have hke_ : ((upI (upI u_30 101 z_29.toNatClampNeg z_32) 101 4 z_37).2.2.1 95 11).toInt = ((upI u_30 101 z_29.toNatClampNeg z_32).2.2.1 95 11).toInt := rfl
    have hke_ : ((upI (upI u_30 101 z_29.toNatClampNeg z_32) 101 4 z_37).2.2.1 101 4).toInt = z_37.toInt := rfl
    have hke_ : ((upI (upI u_30 101 z_29.toNatClampNeg z_32) 101 4 z_37).2.2.1 101 9).toInt = ((upI u_30 101 z_29.toNatClampNeg z_32).2.2.1 101 9).toInt := rfl
    exact r_void E dX10_readDoor_118 ⟨(by omega), hj_39⟩
  ·
    refine s_aload_n E dX10_readDoor_44 rfl rfl ?_
    refine s_gI E fg_X10_106 rfl rfl (jv_lt hj_14 (by decide)) dX10_readDoor_45 ?_
    refine z_nm (P := fun z => z.toInt = (u_12.2.2.1 95 10).toInt ∧ 0 ≤ z.toInt ∧ z.toInt ≤ 4) ⟨rfl, (rg_95_10 hj_14)⟩ (fun z_40 hz_40 => ?_)
    refine s_iconst (v := 2) E dX10_readDoor_48 (by decide) ?_
    refine z_icmp_ne (tgt := 70) (u := z_40.toInt) (v := 2) E dX10_readDoor_49 (by decide) rfl (by decide) (fun h_41 => ?_) (fun h_41 => ?_)
    ·
      have f2_ : (u_12.2.2.1 101) = (u_12.2.2.1 101) := by first | rfl | exact f2a_
      refine s_aload_n E dX10_readDoor_70 rfl rfl ?_
      refine s_gR (r := 101) E fg_X10_31 rfl rfl (jv_lt hj_14 (by decide)) (jv_r hj_14 (by decide +kernel)) dX10_readDoor_71 ?_
      refine s_iload_n E dX10_readDoor_74 rfl rfl ?_
      refine s_iconst (v := 1) E dX10_readDoor_75 (by decide) ?_
      refine z_iadd (u := z_3.toInt) (v := 1) E dX10_readDoor_76 rfl (by decide) (by omega) (by omega) (fun z_42 hz_42 => ?_)
      refine s_aload_n E dX10_readDoor_77 rfl rfl ?_
      refine s_iconst (v := 0) E dX10_readDoor_78 (by decide) ?_
      refine s_aload_n E dX10_readDoor_79 rfl rfl ?_
      refine s_gR (r := 101) E fg_X10_31 rfl rfl (jv_lt hj_14 (by decide)) (jv_r hj_14 (by decide +kernel)) dX10_readDoor_80 ?_
      refine s_iconst (v := 0) E dX10_readDoor_83 (by decide) ?_
      refine s_iald E rfl (jv_lt hj_14 (by decide)) (z_in (u := 0) (by decide) (by omega) (by omega)) dX10_readDoor_84 ?_
      refine z_nm (P := fun z => z.toInt = (u_12.2.2.1 101 0).toInt ∧ 0 ≤ z.toInt ∧ z.toInt ≤ 8) ⟨rfl, (rw_101_0 hj_14)⟩ (fun z_43 hz_43 => ?_)
      refine s_iconst (v := 1) E dX10_readDoor_85 (by decide) ?_
      refine z_isub (u := z_43.toInt) (v := 1) E dX10_readDoor_86 rfl (by decide) (by omega) (by omega) (fun z_44 hz_44 => ?_)
      refine s_vI (As := [AI 0, AI z_44]) (S := [AI z_42, AR 101]) E (Z_X10_number_95 l D aC b u_12 0 z_44 hj_14.1  (by omega)) cv_X10_161 rfl rfl rfl (jv_lt hj_14 (by decide)) (Nat.le_of_ble_eq_true rfl) (Nat.le_of_ble_eq_true rfl) ⟨(Nat.le_of_ble_eq_true rfl), (Nat.le_of_ble_eq_true rfl)⟩ (Nat.le_of_ble_eq_true rfl) dX10_readDoor_87 (fun z_47 u_45 hp_46 => ?_)
      obtain ⟨hz_47, hxz_47, hf_u_45_101, hp_46⟩ := hp_46
      have hc_ : (0 : Int32).toInt = 0 := by decide
      have hj_48 := jv_trans hj_14 hp_46
      have hfa_101_4 := congrArg Int32.toInt (congrFun hf_u_45_101 4)
      have hfa_101_9 := congrArg Int32.toInt (congrFun hf_u_45_101 9)
      have f3_ : (u_45.2.2.1 101) = (u_12.2.2.1 101) := hf_u_45_101.trans f2_
      have hrz_47 : 0 ≤ z_47.toInt ∧ z_47.toInt ≤ 7 := by omega
      have hne_ : (u_45.2.2.1 95 12).toInt = 0 → ¬ (u_12.2.2.1 101 z_3.toNatClampNeg).toInt = z_47.toInt := by intro h0_; omega
      refine s_iast E rfl (jv_lt hj_48 (by decide)) (z_in (u := z_42.toInt) rfl (by omega) (by omega)) dX10_readDoor_90 ?_
      have hj_50 : Jv w (upI u_45 101 z_42.toNatClampNeg z_47) := (jv_dor hj_48 (Or.inr (by omega)) (by omega) (by omega) (by have hb_ := z32 z_47; omega) (by have hb_ := z32 z_47; omega))
      have hke_ : ((upI u_45 101 z_42.toNatClampNeg z_47).2.2.1 95 7).toInt = (u_45.2.2.1 95 7).toInt := rfl
      have hke_ : ((upI u_45 101 z_42.toNatClampNeg z_47).2.2.1 95 8).toInt = (u_45.2.2.1 95 8).toInt := rfl
      have hke_ : ((upI u_45 101 z_42.toNatClampNeg z_47).2.2.1 95 9).toInt = (u_45.2.2.1 95 9).toInt := rfl
      have hke_ : ((upI u_45 101 z_42.toNatClampNeg z_47).2.2.1 95 10).toInt = (u_45.2.2.1 95 10).toInt := rfl
      have hke_ : ((upI u_45 101 z_42.toNatClampNeg z_47).2.2.1 95 12).toInt = (u_45.2.2.1 95 12).toInt := rfl
      have hke_ : ((upI u_45 101 z_42.toNatClampNeg z_47).2.2.1 95 11).toInt = (u_45.2.2.1 95 11).toInt := rfl
      have hke_ : ((upI u_45 101 z_42.toNatClampNeg z_47).2.2.1 101 4).toInt = (u_45.2.2.1 101 4).toInt := keep_ne (u := z_42.toInt) rfl (by omega) (by omega)
      have hke_ : ((upI u_45 101 z_42.toNatClampNeg z_47).2.2.1 101 9).toInt = (u_45.2.2.1 101 9).toInt := keep_ne (u := z_42.toInt) rfl (by omega) (by omega)
      refine s_aload_n E dX10_readDoor_91 rfl rfl ?_
      refine s_gR (r := 101) E fg_X10_31 rfl rfl (jv_lt hj_50 (by decide)) (jv_r hj_50 (by decide +kernel)) dX10_readDoor_92 ?_
      refine s_iload_n E dX10_readDoor_95 rfl rfl ?_
      refine s_iconst (v := 2) E dX10_readDoor_96 (by decide) ?_
      refine z_iadd (u := z_3.toInt) (v := 2) E dX10_readDoor_97 rfl (by decide) (by omega) (by omega) (fun z_51 hz_51 => ?_)
      refine s_aload_n E dX10_readDoor_98 rfl rfl ?_
      refine s_ldcS (i := 25) E (by decide) rfl dX10_readDoor_99 ?_
      refine s_iconst (v := 1) E dX10_readDoor_101 (by decide) ?_
      refine s_bipush (v := 9) E dX10_readDoor_102 (by decide) ?_
      refine s_vI (As := [AX (sA aC 25), AI 1, AI 9]) (S := [AI z_51, AR 101]) E (Z_X10_told_95 l D aC b (upI u_45 101 z_42.toNatClampNeg z_47) 1 9 hj_50.1  25 (by decide) (by omega)) cv_X10_164 rfl rfl rfl (jv_lt hj_50 (by decide)) (Nat.le_of_ble_eq_true rfl) (Nat.le_of_ble_eq_true rfl) ⟨(Nat.le_of_ble_eq_true rfl), (Nat.le_of_ble_eq_true rfl)⟩ (Nat.le_of_ble_eq_true rfl) dX10_readDoor_104 (fun z_54 u_52 hp_53 => ?_)
      obtain ⟨hz_54, hxz_54, hf_u_52_101, hp_53⟩ := hp_53
      have hc_ : (1 : Int32).toInt = 1 := by decide
      have hc_ : (9 : Int32).toInt = 9 := by decide
      have hj_55 := jv_trans hj_50 hp_53
      have hfa_101_4 := congrArg Int32.toInt (congrFun hf_u_52_101 4)
      have hfa_101_9 := congrArg Int32.toInt (congrFun hf_u_52_101 9)
      have hrz_54 : 0 ≤ z_54.toInt ∧ z_54.toInt ≤ 9 := by omega
      have f4_ := hf_u_52_101
      refine s_iast E rfl (jv_lt hj_55 (by decide)) (z_in (u := z_51.toInt) rfl (by omega) (by omega)) dX10_readDoor_107 ?_
      have hj_57 : Jv w (upI u_52 101 z_51.toNatClampNeg z_54) := (jv_a_101 (i := z_51) (x := z_54) hj_55 0 9 12 45 3 z_51.toInt (by decide +kernel) (by decide) rfl (by omega) (by omega) (by omega) (by have hb_ := z32 z_54; omega) (by have hb_ := z32 z_54; omega))
      have hke_ : ((upI u_52 101 z_51.toNatClampNeg z_54).2.2.1 95 7).toInt = (u_52.2.2.1 95 7).toInt := rfl
      have hke_ : ((upI u_52 101 z_51.toNatClampNeg z_54).2.2.1 95 8).toInt = (u_52.2.2.1 95 8).toInt := rfl
      have hke_ : ((upI u_52 101 z_51.toNatClampNeg z_54).2.2.1 95 9).toInt = (u_52.2.2.1 95 9).toInt := rfl
      have hke_ : ((upI u_52 101 z_51.toNatClampNeg z_54).2.2.1 95 10).toInt = (u_52.2.2.1 95 10).toInt := rfl
      have hke_ : ((upI u_52 101 z_51.toNatClampNeg z_54).2.2.1 95 12).toInt = (u_52.2.2.1 95 12).toInt := rfl
      have hke_ : ((upI u_52 101 z_51.toNatClampNeg z_54).2.2.1 95 11).toInt = (u_52.2.2.1 95 11).toInt := rfl
      have hke_ : ((upI u_52 101 z_51.toNatClampNeg z_54).2.2.1 101 4).toInt = (u_52.2.2.1 101 4).toInt := keep_ne (u := z_51.toInt) rfl (by omega) (by omega)
      have hke_ : ((upI u_52 101 z_51.toNatClampNeg z_54).2.2.1 101 9).toInt = (u_52.2.2.1 101 9).toInt := keep_ne (u := z_51.toInt) rfl (by omega) (by omega)
      refine s_aload_n E dX10_readDoor_108 rfl rfl ?_
      refine s_gR (r := 101) E fg_X10_31 rfl rfl (jv_lt hj_57 (by decide)) (jv_r hj_57 (by decide +kernel)) dX10_readDoor_109 ?_
      refine s_iconst (v := 4) E dX10_readDoor_112 (by decide) ?_
      refine s_dup2 E dX10_readDoor_113 ?_
      refine s_iald E rfl (jv_lt hj_57 (by decide)) (z_in (u := 4) (by decide) (by omega) (by omega)) dX10_readDoor_114 ?_
      refine z_nm (P := fun z => z.toInt = ((upI u_52 101 z_51.toNatClampNeg z_54).2.2.1 101 4).toInt ∧ 0 ≤ z.toInt ∧ z.toInt ≤ 12) ⟨rfl, (rw_101_4 hj_57)⟩ (fun z_58 hz_58 => ?_)
      refine s_iconst (v := 1) E dX10_readDoor_115 (by decide) ?_
      refine z_iadd (u := z_58.toInt) (v := 1) E dX10_readDoor_116 rfl (by decide) (by omega) (by omega) (fun z_59 hz_59 => ?_)
      have hhz_59 : 0 ≤ z_59.toInt ∧ z_59.toInt ≤ 12 := by omega
      refine s_iast E rfl (jv_lt hj_57 (by decide)) (z_in (u := 4) (by decide) (by omega) (by omega)) dX10_readDoor_117 ?_
      refine s_world (w2 := (upI (upI u_52 101 z_51.toNatClampNeg z_54) 101 4 z_59)) rfl ?_
      have hj_61 : Jv w (upI (upI u_52 101 z_51.toNatClampNeg z_54) 101 4 z_59) := (jv_dor4 hj_57 (by omega) (by omega) (by omega) (fun h0_ => dor_fin (N := (w.2.2.1 101 4).toInt) f4_ f3_ (by omega) (by omega) (by omega) (by omega) (by omega) (hne_ (by omega))))
      have hke_ : ((upI (upI u_52 101 z_51.toNatClampNeg z_54) 101 4 z_59).2.2.1 95 7).toInt = ((upI u_52 101 z_51.toNatClampNeg z_54).2.2.1 95 7).toInt := rfl
      have hke_ : ((upI (upI u_52 101 z_51.toNatClampNeg z_54) 101 4 z_59).2.2.1 95 8).toInt = ((upI u_52 101 z_51.toNatClampNeg z_54).2.2.1 95 8).toInt := rfl
      have hke_ : ((upI (upI u_52 101 z_51.toNatClampNeg z_54) 101 4 z_59).2.2.1 95 9).toInt = ((upI u_52 101 z_51.toNatClampNeg z_54).2.2.1 95 9).toInt := rfl
      have hke_ : ((upI (upI u_52 101 z_51.toNatClampNeg z_54) 101 4 z_59).2.2.1 95 10).toInt = ((upI u_52 101 z_51.toNatClampNeg z_54).2.2.1 95 10).toInt := rfl
      have hke_ : ((upI (upI u_52 101 z_51.toNatClampNeg z_54) 101 4 z_59).2.2.1 95 12).toInt = ((upI u_52 101 z_51.toNatClampNeg z_54).2.2.1 95 12).toInt := rfl
      have hke_ : ((upI (upI u_52 101 z_51.toNatClampNeg z_54) 101 4 z_59).2.2.1 95 11).toInt = ((upI u_52 101 z_51.toNatClampNeg z_54).2.2.1 95 11).toInt := rfl
      have hke_ : ((upI (upI u_52 101 z_51.toNatClampNeg z_54) 101 4 z_59).2.2.1 101 4).toInt = z_59.toInt := rfl
      have hke_ : ((upI (upI u_52 101 z_51.toNatClampNeg z_54) 101 4 z_59).2.2.1 101 9).toInt = ((upI u_52 101 z_51.toNatClampNeg z_54).2.2.1 101 9).toInt := rfl
      exact r_void E dX10_readDoor_118 ⟨(by omega), hj_61⟩
    ·
      refine s_aload_n E dX10_readDoor_52 rfl rfl ?_
      refine s_gI E fg_X10_117 rfl rfl (jv_lt hj_14 (by decide)) dX10_readDoor_53 ?_
      refine z_nm (P := fun z => z.toInt = (u_12.2.2.1 95 11).toInt ∧ 0 ≤ z.toInt ∧ z.toInt ≤ 99999) ⟨rfl, (rg_95_11 hj_14)⟩ (fun z_62 hz_62 => ?_)
      refine s_aload_n E dX10_readDoor_56 rfl rfl ?_
      refine s_gR (r := 101) E fg_X10_31 rfl rfl (jv_lt hj_14 (by decide)) (jv_r hj_14 (by decide +kernel)) dX10_readDoor_57 ?_
      refine s_iload_n E dX10_readDoor_60 rfl rfl ?_
      refine s_iald E rfl (jv_lt hj_14 (by decide)) (z_in (u := z_3.toInt) rfl (by omega) (by omega)) dX10_readDoor_61 ?_
      refine z_nm (P := fun z => z.toInt = (u_12.2.2.1 101 z_3.toNatClampNeg).toInt ∧ 0 ≤ z.toInt ∧ z.toInt ≤ 7) ⟨rfl, (rs_v hj_14 (by decide) 0 7 10 43 3 z_3 z_3.toInt (by decide +kernel) rfl (by omega) (by omega) (by omega))⟩ (fun z_63 hz_63 => ?_)
      refine z_icmp_ne (tgt := 70) (u := z_62.toInt) (v := z_63.toInt) E dX10_readDoor_62 (by decide) rfl rfl (fun h_64 => ?_) (fun h_64 => ?_)
      ·
        have f2_ : (u_12.2.2.1 101) = (u_12.2.2.1 101) := by first | rfl | exact f2a_
        refine s_aload_n E dX10_readDoor_70 rfl rfl ?_
        refine s_gR (r := 101) E fg_X10_31 rfl rfl (jv_lt hj_14 (by decide)) (jv_r hj_14 (by decide +kernel)) dX10_readDoor_71 ?_
        refine s_iload_n E dX10_readDoor_74 rfl rfl ?_
        refine s_iconst (v := 1) E dX10_readDoor_75 (by decide) ?_
        refine z_iadd (u := z_3.toInt) (v := 1) E dX10_readDoor_76 rfl (by decide) (by omega) (by omega) (fun z_65 hz_65 => ?_)
        refine s_aload_n E dX10_readDoor_77 rfl rfl ?_
        refine s_iconst (v := 0) E dX10_readDoor_78 (by decide) ?_
        refine s_aload_n E dX10_readDoor_79 rfl rfl ?_
        refine s_gR (r := 101) E fg_X10_31 rfl rfl (jv_lt hj_14 (by decide)) (jv_r hj_14 (by decide +kernel)) dX10_readDoor_80 ?_
        refine s_iconst (v := 0) E dX10_readDoor_83 (by decide) ?_
        refine s_iald E rfl (jv_lt hj_14 (by decide)) (z_in (u := 0) (by decide) (by omega) (by omega)) dX10_readDoor_84 ?_
        refine z_nm (P := fun z => z.toInt = (u_12.2.2.1 101 0).toInt ∧ 0 ≤ z.toInt ∧ z.toInt ≤ 8) ⟨rfl, (rw_101_0 hj_14)⟩ (fun z_66 hz_66 => ?_)
        refine s_iconst (v := 1) E dX10_readDoor_85 (by decide) ?_
        refine z_isub (u := z_66.toInt) (v := 1) E dX10_readDoor_86 rfl (by decide) (by omega) (by omega) (fun z_67 hz_67 => ?_)
        refine s_vI (As := [AI 0, AI z_67]) (S := [AI z_65, AR 101]) E (Z_X10_number_95 l D aC b u_12 0 z_67 hj_14.1  (by omega)) cv_X10_161 rfl rfl rfl (jv_lt hj_14 (by decide)) (Nat.le_of_ble_eq_true rfl) (Nat.le_of_ble_eq_true rfl) ⟨(Nat.le_of_ble_eq_true rfl), (Nat.le_of_ble_eq_true rfl)⟩ (Nat.le_of_ble_eq_true rfl) dX10_readDoor_87 (fun z_70 u_68 hp_69 => ?_)
        obtain ⟨hz_70, hxz_70, hf_u_68_101, hp_69⟩ := hp_69
        have hc_ : (0 : Int32).toInt = 0 := by decide
        have hj_71 := jv_trans hj_14 hp_69
        have hfa_101_4 := congrArg Int32.toInt (congrFun hf_u_68_101 4)
        have hfa_101_9 := congrArg Int32.toInt (congrFun hf_u_68_101 9)
        have f3_ : (u_68.2.2.1 101) = (u_12.2.2.1 101) := hf_u_68_101.trans f2_
        have hrz_70 : 0 ≤ z_70.toInt ∧ z_70.toInt ≤ 7 := by omega
        have hne_ : (u_68.2.2.1 95 12).toInt = 0 → ¬ (u_12.2.2.1 101 z_3.toNatClampNeg).toInt = z_70.toInt := by intro h0_; omega
        refine s_iast E rfl (jv_lt hj_71 (by decide)) (z_in (u := z_65.toInt) rfl (by omega) (by omega)) dX10_readDoor_90 ?_
        have hj_73 : Jv w (upI u_68 101 z_65.toNatClampNeg z_70) := (jv_dor hj_71 (Or.inr (by omega)) (by omega) (by omega) (by have hb_ := z32 z_70; omega) (by have hb_ := z32 z_70; omega))
        have hke_ : ((upI u_68 101 z_65.toNatClampNeg z_70).2.2.1 95 7).toInt = (u_68.2.2.1 95 7).toInt := rfl
        have hke_ : ((upI u_68 101 z_65.toNatClampNeg z_70).2.2.1 95 8).toInt = (u_68.2.2.1 95 8).toInt := rfl
        have hke_ : ((upI u_68 101 z_65.toNatClampNeg z_70).2.2.1 95 9).toInt = (u_68.2.2.1 95 9).toInt := rfl
        have hke_ : ((upI u_68 101 z_65.toNatClampNeg z_70).2.2.1 95 10).toInt = (u_68.2.2.1 95 10).toInt := rfl
        have hke_ : ((upI u_68 101 z_65.toNatClampNeg z_70).2.2.1 95 12).toInt = (u_68.2.2.1 95 12).toInt := rfl
        have hke_ : ((upI u_68 101 z_65.toNatClampNeg z_70).2.2.1 95 11).toInt = (u_68.2.2.1 95 11).toInt := rfl
        have hke_ : ((upI u_68 101 z_65.toNatClampNeg z_70).2.2.1 101 4).toInt = (u_68.2.2.1 101 4).toInt := keep_ne (u := z_65.toInt) rfl (by omega) (by omega)
        have hke_ : ((upI u_68 101 z_65.toNatClampNeg z_70).2.2.1 101 9).toInt = (u_68.2.2.1 101 9).toInt := keep_ne (u := z_65.toInt) rfl (by omega) (by omega)
        refine s_aload_n E dX10_readDoor_91 rfl rfl ?_
        refine s_gR (r := 101) E fg_X10_31 rfl rfl (jv_lt hj_73 (by decide)) (jv_r hj_73 (by decide +kernel)) dX10_readDoor_92 ?_
        refine s_iload_n E dX10_readDoor_95 rfl rfl ?_
        refine s_iconst (v := 2) E dX10_readDoor_96 (by decide) ?_
        refine z_iadd (u := z_3.toInt) (v := 2) E dX10_readDoor_97 rfl (by decide) (by omega) (by omega) (fun z_74 hz_74 => ?_)
        refine s_aload_n E dX10_readDoor_98 rfl rfl ?_
        refine s_ldcS (i := 25) E (by decide) rfl dX10_readDoor_99 ?_
        refine s_iconst (v := 1) E dX10_readDoor_101 (by decide) ?_
        refine s_bipush (v := 9) E dX10_readDoor_102 (by decide) ?_
        refine s_vI (As := [AX (sA aC 25), AI 1, AI 9]) (S := [AI z_74, AR 101]) E (Z_X10_told_95 l D aC b (upI u_68 101 z_65.toNatClampNeg z_70) 1 9 hj_73.1  25 (by decide) (by omega)) cv_X10_164 rfl rfl rfl (jv_lt hj_73 (by decide)) (Nat.le_of_ble_eq_true rfl) (Nat.le_of_ble_eq_true rfl) ⟨(Nat.le_of_ble_eq_true rfl), (Nat.le_of_ble_eq_true rfl)⟩ (Nat.le_of_ble_eq_true rfl) dX10_readDoor_104 (fun z_77 u_75 hp_76 => ?_)
        obtain ⟨hz_77, hxz_77, hf_u_75_101, hp_76⟩ := hp_76
        have hc_ : (1 : Int32).toInt = 1 := by decide
        have hc_ : (9 : Int32).toInt = 9 := by decide
        have hj_78 := jv_trans hj_73 hp_76
        have hfa_101_4 := congrArg Int32.toInt (congrFun hf_u_75_101 4)
        have hfa_101_9 := congrArg Int32.toInt (congrFun hf_u_75_101 9)
        have hrz_77 : 0 ≤ z_77.toInt ∧ z_77.toInt ≤ 9 := by omega
        have f4_ := hf_u_75_101
        refine s_iast E rfl (jv_lt hj_78 (by decide)) (z_in (u := z_74.toInt) rfl (by omega) (by omega)) dX10_readDoor_107 ?_
        have hj_80 : Jv w (upI u_75 101 z_74.toNatClampNeg z_77) := (jv_a_101 (i := z_74) (x := z_77) hj_78 0 9 12 45 3 z_74.toInt (by decide +kernel) (by decide) rfl (by omega) (by omega) (by omega) (by have hb_ := z32 z_77; omega) (by have hb_ := z32 z_77; omega))
        have hke_ : ((upI u_75 101 z_74.toNatClampNeg z_77).2.2.1 95 7).toInt = (u_75.2.2.1 95 7).toInt := rfl
        have hke_ : ((upI u_75 101 z_74.toNatClampNeg z_77).2.2.1 95 8).toInt = (u_75.2.2.1 95 8).toInt := rfl
        have hke_ : ((upI u_75 101 z_74.toNatClampNeg z_77).2.2.1 95 9).toInt = (u_75.2.2.1 95 9).toInt := rfl
        have hke_ : ((upI u_75 101 z_74.toNatClampNeg z_77).2.2.1 95 10).toInt = (u_75.2.2.1 95 10).toInt := rfl
        have hke_ : ((upI u_75 101 z_74.toNatClampNeg z_77).2.2.1 95 12).toInt = (u_75.2.2.1 95 12).toInt := rfl
        have hke_ : ((upI u_75 101 z_74.toNatClampNeg z_77).2.2.1 95 11).toInt = (u_75.2.2.1 95 11).toInt := rfl
        have hke_ : ((upI u_75 101 z_74.toNatClampNeg z_77).2.2.1 101 4).toInt = (u_75.2.2.1 101 4).toInt := keep_ne (u := z_74.toInt) rfl (by omega) (by omega)
        have hke_ : ((upI u_75 101 z_74.toNatClampNeg z_77).2.2.1 101 9).toInt = (u_75.2.2.1 101 9).toInt := keep_ne (u := z_74.toInt) rfl (by omega) (by omega)
        refine s_aload_n E dX10_readDoor_108 rfl rfl ?_
        refine s_gR (r := 101) E fg_X10_31 rfl rfl (jv_lt hj_80 (by decide)) (jv_r hj_80 (by decide +kernel)) dX10_readDoor_109 ?_
        refine s_iconst (v := 4) E dX10_readDoor_112 (by decide) ?_
        refine s_dup2 E dX10_readDoor_113 ?_
        refine s_iald E rfl (jv_lt hj_80 (by decide)) (z_in (u := 4) (by decide) (by omega) (by omega)) dX10_readDoor_114 ?_
        refine z_nm (P := fun z => z.toInt = ((upI u_75 101 z_74.toNatClampNeg z_77).2.2.1 101 4).toInt ∧ 0 ≤ z.toInt ∧ z.toInt ≤ 12) ⟨rfl, (rw_101_4 hj_80)⟩ (fun z_81 hz_81 => ?_)
        refine s_iconst (v := 1) E dX10_readDoor_115 (by decide) ?_
        refine z_iadd (u := z_81.toInt) (v := 1) E dX10_readDoor_116 rfl (by decide) (by omega) (by omega) (fun z_82 hz_82 => ?_)
        have hhz_82 : 0 ≤ z_82.toInt ∧ z_82.toInt ≤ 12 := by omega
        refine s_iast E rfl (jv_lt hj_80 (by decide)) (z_in (u := 4) (by decide) (by omega) (by omega)) dX10_readDoor_117 ?_
        refine s_world (w2 := (upI (upI u_75 101 z_74.toNatClampNeg z_77) 101 4 z_82)) rfl ?_
        have hj_84 : Jv w (upI (upI u_75 101 z_74.toNatClampNeg z_77) 101 4 z_82) := (jv_dor4 hj_80 (by omega) (by omega) (by omega) (fun h0_ => dor_fin (N := (w.2.2.1 101 4).toInt) f4_ f3_ (by omega) (by omega) (by omega) (by omega) (by omega) (hne_ (by omega))))
        have hke_ : ((upI (upI u_75 101 z_74.toNatClampNeg z_77) 101 4 z_82).2.2.1 95 7).toInt = ((upI u_75 101 z_74.toNatClampNeg z_77).2.2.1 95 7).toInt := rfl
        have hke_ : ((upI (upI u_75 101 z_74.toNatClampNeg z_77) 101 4 z_82).2.2.1 95 8).toInt = ((upI u_75 101 z_74.toNatClampNeg z_77).2.2.1 95 8).toInt := rfl
        have hke_ : ((upI (upI u_75 101 z_74.toNatClampNeg z_77) 101 4 z_82).2.2.1 95 9).toInt = ((upI u_75 101 z_74.toNatClampNeg z_77).2.2.1 95 9).toInt := rfl
        have hke_ : ((upI (upI u_75 101 z_74.toNatClampNeg z_77) 101 4 z_82).2.2.1 95 10).toInt = ((upI u_75 101 z_74.toNatClampNeg z_77).2.2.1 95 10).toInt := rfl
        have hke_ : ((upI (upI u_75 101 z_74.toNatClampNeg z_77) 101 4 z_82).2.2.1 95 12).toInt = ((upI u_75 101 z_74.toNatClampNeg z_77).2.2.1 95 12).toInt := rfl
        have hke_ : ((upI (upI u_75 101 z_74.toNatClampNeg z_77) 101 4 z_82).2.2.1 95 11).toInt = ((upI u_75 101 z_74.toNatClampNeg z_77).2.2.1 95 11).toInt := rfl
        have hke_ : ((upI (upI u_75 101 z_74.toNatClampNeg z_77) 101 4 z_82).2.2.1 101 4).toInt = z_82.toInt := rfl
        have hke_ : ((upI (upI u_75 101 z_74.toNatClampNeg z_77) 101 4 z_82).2.2.1 101 9).toInt = ((upI u_75 101 z_74.toNatClampNeg z_77).2.2.1 101 9).toInt := rfl
        exact r_void E dX10_readDoor_118 ⟨(by omega), hj_84⟩
      ·
        refine s_aload_n E dX10_readDoor_65 rfl rfl ?_
        refine s_iconst (v := 2) E dX10_readDoor_66 (by decide) ?_
        refine s_vV (As := [AI 2]) (S := []) E (Z_X10_errs_95 l D aC b u_12 2 hj_14.1 (by decide)) cv_X10_153 rfl rfl rfl (jv_lt hj_14 (by decide)) (Nat.le_of_ble_eq_true rfl) (Nat.le_of_ble_eq_true rfl) ⟨(Nat.le_of_ble_eq_true rfl), (Nat.le_of_ble_eq_true rfl)⟩ (Nat.le_of_ble_eq_true rfl) dX10_readDoor_67 (fun u_85 hp_86 => ?_)
        have hc_ : (2 : Int32).toInt = 2 := by decide
        obtain ⟨hx_hp_86, hf_u_85_101, hp_86⟩ := hp_86
        have hj_87 := jv_trans hj_14 hp_86
        have hfa_101_4 := congrArg Int32.toInt (congrFun hf_u_85_101 4)
        have hfa_101_9 := congrArg Int32.toInt (congrFun hf_u_85_101 9)
        have f2a_ : (u_85.2.2.1 101) = (u_12.2.2.1 101) := hf_u_85_101
        have f2_ : (u_85.2.2.1 101) = (u_12.2.2.1 101) := by first | rfl | exact f2a_
        refine s_aload_n E dX10_readDoor_70 rfl rfl ?_
        refine s_gR (r := 101) E fg_X10_31 rfl rfl (jv_lt hj_87 (by decide)) (jv_r hj_87 (by decide +kernel)) dX10_readDoor_71 ?_
        refine s_iload_n E dX10_readDoor_74 rfl rfl ?_
        refine s_iconst (v := 1) E dX10_readDoor_75 (by decide) ?_
        refine z_iadd (u := z_3.toInt) (v := 1) E dX10_readDoor_76 rfl (by decide) (by omega) (by omega) (fun z_88 hz_88 => ?_)
        refine s_aload_n E dX10_readDoor_77 rfl rfl ?_
        refine s_iconst (v := 0) E dX10_readDoor_78 (by decide) ?_
        refine s_aload_n E dX10_readDoor_79 rfl rfl ?_
        refine s_gR (r := 101) E fg_X10_31 rfl rfl (jv_lt hj_87 (by decide)) (jv_r hj_87 (by decide +kernel)) dX10_readDoor_80 ?_
        refine s_iconst (v := 0) E dX10_readDoor_83 (by decide) ?_
        refine s_iald E rfl (jv_lt hj_87 (by decide)) (z_in (u := 0) (by decide) (by omega) (by omega)) dX10_readDoor_84 ?_
        refine z_nm (P := fun z => z.toInt = (u_85.2.2.1 101 0).toInt ∧ 0 ≤ z.toInt ∧ z.toInt ≤ 8) ⟨rfl, (rw_101_0 hj_87)⟩ (fun z_89 hz_89 => ?_)
        refine s_iconst (v := 1) E dX10_readDoor_85 (by decide) ?_
        refine z_isub (u := z_89.toInt) (v := 1) E dX10_readDoor_86 rfl (by decide) (by omega) (by omega) (fun z_90 hz_90 => ?_)
        refine s_vI (As := [AI 0, AI z_90]) (S := [AI z_88, AR 101]) E (Z_X10_number_95 l D aC b u_85 0 z_90 hj_87.1  (by omega)) cv_X10_161 rfl rfl rfl (jv_lt hj_87 (by decide)) (Nat.le_of_ble_eq_true rfl) (Nat.le_of_ble_eq_true rfl) ⟨(Nat.le_of_ble_eq_true rfl), (Nat.le_of_ble_eq_true rfl)⟩ (Nat.le_of_ble_eq_true rfl) dX10_readDoor_87 (fun z_93 u_91 hp_92 => ?_)
        obtain ⟨hz_93, hxz_93, hf_u_91_101, hp_92⟩ := hp_92
        have hc_ : (0 : Int32).toInt = 0 := by decide
        have hj_94 := jv_trans hj_87 hp_92
        have hfa_101_4 := congrArg Int32.toInt (congrFun hf_u_91_101 4)
        have hfa_101_9 := congrArg Int32.toInt (congrFun hf_u_91_101 9)
        have f3_ : (u_91.2.2.1 101) = (u_12.2.2.1 101) := hf_u_91_101.trans f2_
        have hrz_93 : 0 ≤ z_93.toInt ∧ z_93.toInt ≤ 7 := by omega
        have hne_ : (u_91.2.2.1 95 12).toInt = 0 → ¬ (u_12.2.2.1 101 z_3.toNatClampNeg).toInt = z_93.toInt := by intro h0_; omega
        refine s_iast E rfl (jv_lt hj_94 (by decide)) (z_in (u := z_88.toInt) rfl (by omega) (by omega)) dX10_readDoor_90 ?_
        have hj_96 : Jv w (upI u_91 101 z_88.toNatClampNeg z_93) := (jv_dor hj_94 (Or.inr (by omega)) (by omega) (by omega) (by have hb_ := z32 z_93; omega) (by have hb_ := z32 z_93; omega))
        have hke_ : ((upI u_91 101 z_88.toNatClampNeg z_93).2.2.1 95 7).toInt = (u_91.2.2.1 95 7).toInt := rfl
        have hke_ : ((upI u_91 101 z_88.toNatClampNeg z_93).2.2.1 95 8).toInt = (u_91.2.2.1 95 8).toInt := rfl
        have hke_ : ((upI u_91 101 z_88.toNatClampNeg z_93).2.2.1 95 9).toInt = (u_91.2.2.1 95 9).toInt := rfl
        have hke_ : ((upI u_91 101 z_88.toNatClampNeg z_93).2.2.1 95 10).toInt = (u_91.2.2.1 95 10).toInt := rfl
        have hke_ : ((upI u_91 101 z_88.toNatClampNeg z_93).2.2.1 95 12).toInt = (u_91.2.2.1 95 12).toInt := rfl
        have hke_ : ((upI u_91 101 z_88.toNatClampNeg z_93).2.2.1 95 11).toInt = (u_91.2.2.1 95 11).toInt := rfl
        have hke_ : ((upI u_91 101 z_88.toNatClampNeg z_93).2.2.1 101 4).toInt = (u_91.2.2.1 101 4).toInt := keep_ne (u := z_88.toInt) rfl (by omega) (by omega)
        have hke_ : ((upI u_91 101 z_88.toNatClampNeg z_93).2.2.1 101 9).toInt = (u_91.2.2.1 101 9).toInt := keep_ne (u := z_88.toInt) rfl (by omega) (by omega)
        refine s_aload_n E dX10_readDoor_91 rfl rfl ?_
        refine s_gR (r := 101) E fg_X10_31 rfl rfl (jv_lt hj_96 (by decide)) (jv_r hj_96 (by decide +kernel)) dX10_readDoor_92 ?_
        refine s_iload_n E dX10_readDoor_95 rfl rfl ?_
        refine s_iconst (v := 2) E dX10_readDoor_96 (by decide) ?_
        refine z_iadd (u := z_3.toInt) (v := 2) E dX10_readDoor_97 rfl (by decide) (by omega) (by omega) (fun z_97 hz_97 => ?_)
        refine s_aload_n E dX10_readDoor_98 rfl rfl ?_
        refine s_ldcS (i := 25) E (by decide) rfl dX10_readDoor_99 ?_
        refine s_iconst (v := 1) E dX10_readDoor_101 (by decide) ?_
        refine s_bipush (v := 9) E dX10_readDoor_102 (by decide) ?_
        refine s_vI (As := [AX (sA aC 25), AI 1, AI 9]) (S := [AI z_97, AR 101]) E (Z_X10_told_95 l D aC b (upI u_91 101 z_88.toNatClampNeg z_93) 1 9 hj_96.1  25 (by decide) (by omega)) cv_X10_164 rfl rfl rfl (jv_lt hj_96 (by decide)) (Nat.le_of_ble_eq_true rfl) (Nat.le_of_ble_eq_true rfl) ⟨(Nat.le_of_ble_eq_true rfl), (Nat.le_of_ble_eq_true rfl)⟩ (Nat.le_of_ble_eq_true rfl) dX10_readDoor_104 (fun z_100 u_98 hp_99 => ?_)
        obtain ⟨hz_100, hxz_100, hf_u_98_101, hp_99⟩ := hp_99
        have hc_ : (1 : Int32).toInt = 1 := by decide
        have hc_ : (9 : Int32).toInt = 9 := by decide
        have hj_101 := jv_trans hj_96 hp_99
        have hfa_101_4 := congrArg Int32.toInt (congrFun hf_u_98_101 4)
        have hfa_101_9 := congrArg Int32.toInt (congrFun hf_u_98_101 9)
        have hrz_100 : 0 ≤ z_100.toInt ∧ z_100.toInt ≤ 9 := by omega
        have f4_ := hf_u_98_101
        refine s_iast E rfl (jv_lt hj_101 (by decide)) (z_in (u := z_97.toInt) rfl (by omega) (by omega)) dX10_readDoor_107 ?_
        have hj_103 : Jv w (upI u_98 101 z_97.toNatClampNeg z_100) := (jv_a_101 (i := z_97) (x := z_100) hj_101 0 9 12 45 3 z_97.toInt (by decide +kernel) (by decide) rfl (by omega) (by omega) (by omega) (by have hb_ := z32 z_100; omega) (by have hb_ := z32 z_100; omega))
        have hke_ : ((upI u_98 101 z_97.toNatClampNeg z_100).2.2.1 95 7).toInt = (u_98.2.2.1 95 7).toInt := rfl
        have hke_ : ((upI u_98 101 z_97.toNatClampNeg z_100).2.2.1 95 8).toInt = (u_98.2.2.1 95 8).toInt := rfl
        have hke_ : ((upI u_98 101 z_97.toNatClampNeg z_100).2.2.1 95 9).toInt = (u_98.2.2.1 95 9).toInt := rfl
        have hke_ : ((upI u_98 101 z_97.toNatClampNeg z_100).2.2.1 95 10).toInt = (u_98.2.2.1 95 10).toInt := rfl
        have hke_ : ((upI u_98 101 z_97.toNatClampNeg z_100).2.2.1 95 12).toInt = (u_98.2.2.1 95 12).toInt := rfl
        have hke_ : ((upI u_98 101 z_97.toNatClampNeg z_100).2.2.1 95 11).toInt = (u_98.2.2.1 95 11).toInt := rfl
        have hke_ : ((upI u_98 101 z_97.toNatClampNeg z_100).2.2.1 101 4).toInt = (u_98.2.2.1 101 4).toInt := keep_ne (u := z_97.toInt) rfl (by omega) (by omega)
        have hke_ : ((upI u_98 101 z_97.toNatClampNeg z_100).2.2.1 101 9).toInt = (u_98.2.2.1 101 9).toInt := keep_ne (u := z_97.toInt) rfl (by omega) (by omega)
        refine s_aload_n E dX10_readDoor_108 rfl rfl ?_
        refine s_gR (r := 101) E fg_X10_31 rfl rfl (jv_lt hj_103 (by decide)) (jv_r hj_103 (by decide +kernel)) dX10_readDoor_109 ?_
        refine s_iconst (v := 4) E dX10_readDoor_112 (by decide) ?_
        refine s_dup2 E dX10_readDoor_113 ?_
        refine s_iald E rfl (jv_lt hj_103 (by decide)) (z_in (u := 4) (by decide) (by omega) (by omega)) dX10_readDoor_114 ?_
        refine z_nm (P := fun z => z.toInt = ((upI u_98 101 z_97.toNatClampNeg z_100).2.2.1 101 4).toInt ∧ 0 ≤ z.toInt ∧ z.toInt ≤ 12) ⟨rfl, (rw_101_4 hj_103)⟩ (fun z_104 hz_104 => ?_)
        refine s_iconst (v := 1) E dX10_readDoor_115 (by decide) ?_
        refine z_iadd (u := z_104.toInt) (v := 1) E dX10_readDoor_116 rfl (by decide) (by omega) (by omega) (fun z_105 hz_105 => ?_)
        have hhz_105 : 0 ≤ z_105.toInt ∧ z_105.toInt ≤ 12 := by omega
        refine s_iast E rfl (jv_lt hj_103 (by decide)) (z_in (u := 4) (by decide) (by omega) (by omega)) dX10_readDoor_117 ?_
        refine s_world (w2 := (upI (upI u_98 101 z_97.toNatClampNeg z_100) 101 4 z_105)) rfl ?_
        have hj_107 : Jv w (upI (upI u_98 101 z_97.toNatClampNeg z_100) 101 4 z_105) := (jv_dor4 hj_103 (by omega) (by omega) (by omega) (fun h0_ => dor_fin (N := (w.2.2.1 101 4).toInt) f4_ f3_ (by omega) (by omega) (by omega) (by omega) (by omega) (hne_ (by omega))))
        have hke_ : ((upI (upI u_98 101 z_97.toNatClampNeg z_100) 101 4 z_105).2.2.1 95 7).toInt = ((upI u_98 101 z_97.toNatClampNeg z_100).2.2.1 95 7).toInt := rfl
        have hke_ : ((upI (upI u_98 101 z_97.toNatClampNeg z_100) 101 4 z_105).2.2.1 95 8).toInt = ((upI u_98 101 z_97.toNatClampNeg z_100).2.2.1 95 8).toInt := rfl
        have hke_ : ((upI (upI u_98 101 z_97.toNatClampNeg z_100) 101 4 z_105).2.2.1 95 9).toInt = ((upI u_98 101 z_97.toNatClampNeg z_100).2.2.1 95 9).toInt := rfl
        have hke_ : ((upI (upI u_98 101 z_97.toNatClampNeg z_100) 101 4 z_105).2.2.1 95 10).toInt = ((upI u_98 101 z_97.toNatClampNeg z_100).2.2.1 95 10).toInt := rfl
        have hke_ : ((upI (upI u_98 101 z_97.toNatClampNeg z_100) 101 4 z_105).2.2.1 95 12).toInt = ((upI u_98 101 z_97.toNatClampNeg z_100).2.2.1 95 12).toInt := rfl
        have hke_ : ((upI (upI u_98 101 z_97.toNatClampNeg z_100) 101 4 z_105).2.2.1 95 11).toInt = ((upI u_98 101 z_97.toNatClampNeg z_100).2.2.1 95 11).toInt := rfl
        have hke_ : ((upI (upI u_98 101 z_97.toNatClampNeg z_100) 101 4 z_105).2.2.1 101 4).toInt = z_105.toInt := rfl
        have hke_ : ((upI (upI u_98 101 z_97.toNatClampNeg z_100) 101 4 z_105).2.2.1 101 9).toInt = ((upI u_98 101 z_97.toNatClampNeg z_100).2.2.1 101 9).toInt := rfl
        exact r_void E dX10_readDoor_118 ⟨(by omega), hj_107⟩
