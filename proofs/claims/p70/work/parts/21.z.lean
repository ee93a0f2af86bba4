set_option maxRecDepth 20000 in
set_option maxHeartbeats 2000000 in
theorem Z_X8_put_14 (l : Launch) (D : va_G) (aC : Nat → ClassId) (b : Nat) (w : XW) (x1 : Int32) (x2 : Int32) (x3 : Int32) (hI : Iv w)  : CnV l D aC b M_X8_put 1 22 0 0 [AR 14, AI x1, AI x2, AI x3] w (fun u => Jv w u) := by
  refine cn_V (own := RX8) (nm := "put") (L0 := [some (AR 14), some (AI x1), some (AI x2), some (AI x3)]) (by decide +kernel) rfl rfl (Nat.le_of_ble_eq_true rfl) rfl ?_
  intro p e s m args below meth c E hin
  have hJ : Jv w w := jv_rfl hI
  have hb_x1 := z32 x1
  have hb_x2 := z32 x2
  have hb_x3 := z32 x3
  refine s_aload_n E dX8_put_0 rfl rfl ?_
  refine s_iload_n E dX8_put_1 rfl rfl ?_
  refine s_iload_n E dX8_put_2 rfl rfl ?_
  refine s_vI (As := [AI x1, AI x2]) (S := []) E (Z_X8_hasCell_14 l D aC b w x1 x2 hJ.1 ) cv_X8_31 rfl rfl rfl (jv_lt hJ (by decide)) (Nat.le_of_ble_eq_true rfl) (Nat.le_of_ble_eq_true rfl) ⟨(Nat.le_of_ble_eq_true rfl), (Nat.le_of_ble_eq_true rfl)⟩ (Nat.le_of_ble_eq_true rfl) dX8_put_3 (fun z_3 u_1 hp_2 => ?_)
  obtain ⟨hz_3, hp_2⟩ := hp_2
  subst hp_2
  refine z_if_eq (tgt := 23) (u := z_3.toInt) E dX8_put_6 (by decide) rfl (fun h_5 => ?_) (fun h_5 => ?_)
  ·
    exact r_void E dX8_put_23 hJ
  ·
    refine s_aload_n E dX8_put_9 rfl rfl ?_
    refine s_gR (r := 15) E fg_X8_24 rfl rfl (jv_lt hJ (by decide)) (jv_r hJ (by decide +kernel)) dX8_put_10 ?_
    refine s_iload_n E dX8_put_13 rfl rfl ?_
    refine s_aload_n E dX8_put_14 rfl rfl ?_
    refine s_gI E fg_X8_21 rfl rfl (jv_lt hJ (by decide)) dX8_put_15 ?_
    refine s_top (y := 3) (z_pt (by decide) (rg_14_2 hJ)) ?_
    refine z_imul (u := x1.toInt) (v := 3) E dX8_put_18 rfl (by decide) (by omega) (by omega) (fun z_6 hz_6 => ?_)
    refine s_iload_n E dX8_put_19 rfl rfl ?_
    refine z_iadd (u := z_6.toInt) (v := x2.toInt) E dX8_put_20 rfl rfl (by omega) (by omega) (fun z_7 hz_7 => ?_)
    refine s_iload_n E dX8_put_21 rfl rfl ?_
    refine s_iast E rfl (jv_lt hJ (by decide)) (z_in (u := z_7.toInt) rfl (by omega) (by omega)) dX8_put_22 ?_
    refine s_gen (P := fun v => Jv w v ∧ (v.2.2.1 14 3).toInt = (w.2.2.1 14 3).toInt) ⟨(jv_a_15 hJ (by have hb_ := z32 x3; omega) (by have hb_ := z32 x3; omega)), rfl⟩ (fun v_8 hj_9 => ?_)
    obtain ⟨hj_9, hk_10k0⟩ := hj_9
    exact r_void E dX8_put_23 hj_9
set_option maxRecDepth 20000 in
set_option maxHeartbeats 2000000 in
theorem Z_X8_add_14 (l : Launch) (D : va_G) (aC : Nat → ClassId) (b : Nat) (w : XW) (x1 : Int32) (x2 : Int32) (x3 : Int32) (x4 : Int32) (hI : Iv w)  : CnV l D aC b M_X8_add 2 45 0 0 [AR 14, AI x1, AI x2, AI x3, AI x4] w (fun u => Jv w u) := by
  refine cn_V (own := RX8) (nm := "add") (L0 := [some (AR 14), some (AI x1), some (AI x2), some (AI x3), some (AI x4)]) (by decide +kernel) rfl rfl (Nat.le_of_ble_eq_true rfl) rfl ?_
  intro p e s m args below meth c E hin
  have hJ : Jv w w := jv_rfl hI
  have hb_x1 := z32 x1
  have hb_x2 := z32 x2
  have hb_x3 := z32 x3
  have hb_x4 := z32 x4
  refine s_aload_n E dX8_add_0 rfl rfl ?_
  refine s_vI (As := []) (S := []) E (Z_X8_isFull_14 l D aC b w  hJ.1 ) cv_X8_35 rfl rfl rfl (jv_lt hJ (by decide)) (Nat.le_of_ble_eq_true rfl) (Nat.le_of_ble_eq_true rfl) ⟨(Nat.le_of_ble_eq_true rfl), (Nat.le_of_ble_eq_true rfl)⟩ (Nat.le_of_ble_eq_true rfl) dX8_add_1 (fun z_3 u_1 hp_2 => ?_)
  obtain ⟨hz_3, hp_2⟩ := hp_2
  subst hp_2
  refine z_if_eq (tgt := 8) (u := z_3.toInt) E dX8_add_4 (by decide) rfl (fun h_5 => ?_) (fun h_5 => ?_)
  ·
    refine s_aload_n E dX8_add_8 rfl rfl ?_
    refine s_dupR E dX8_add_9 ?_
    refine s_gI E fg_X8_28 rfl rfl (jv_lt hJ (by decide)) dX8_add_10 ?_
    refine z_nm (P := fun z => z.toInt = (w.2.2.1 14 3).toInt ∧ 0 ≤ z.toInt ∧ z.toInt ≤ 12) ⟨rfl, (rg_14_3 hJ)⟩ (fun z_6 hz_6 => ?_)
    refine s_iconst (v := 1) E dX8_add_13 (by decide) ?_
    refine z_iadd (u := z_6.toInt) (v := 1) E dX8_add_14 rfl (by decide) (by omega) (by omega) (fun z_7 hz_7 => ?_)
    refine s_pI E fp_X8_28 (Or.inl rfl) rfl (jv_lt hJ (by decide)) dX8_add_15 ?_
    refine s_gen (P := Jv w) (jv_f_14_3 hJ (by have hb_ := z32 z_7; omega) (by have hb_ := z32 z_7; omega)) (fun v_8 hj_9 => ?_)
    refine s_aload_n E dX8_add_18 rfl rfl ?_
    refine s_aload_n E dX8_add_19 rfl rfl ?_
    refine s_gI E fg_X8_28 rfl rfl (jv_lt hj_9 (by decide)) dX8_add_20 ?_
    refine z_nm (P := fun z => z.toInt = (v_8.2.2.1 14 3).toInt ∧ 0 ≤ z.toInt ∧ z.toInt ≤ 12) ⟨rfl, (rg_14_3 hj_9)⟩ (fun z_10 hz_10 => ?_)
    refine s_iconst (v := 1) E dX8_add_23 (by decide) ?_
    refine z_isub (u := z_10.toInt) (v := 1) E dX8_add_24 rfl (by decide) (by omega) (by omega) (fun z_11 hz_11 => ?_)
    refine s_iconst (v := 0) E dX8_add_25 (by decide) ?_
    refine s_iload_n E dX8_add_26 rfl rfl ?_
    refine s_vV (As := [AI z_11, AI 0, AI x1]) (S := []) E (Z_X8_put_14 l D aC b v_8 z_11 0 x1 hj_9.1 ) cv_X8_39 rfl rfl rfl (jv_lt hj_9 (by decide)) (Nat.le_of_ble_eq_true rfl) (Nat.le_of_ble_eq_true rfl) ⟨(Nat.le_of_ble_eq_true rfl), (Nat.le_of_ble_eq_true rfl)⟩ (Nat.le_of_ble_eq_true rfl) dX8_add_27 (fun u_12 hp_13 => ?_)
    have hj_14 := jv_trans hj_9 hp_13
    refine s_aload_n E dX8_add_30 rfl rfl ?_
    refine s_aload_n E dX8_add_31 rfl rfl ?_
    refine s_gI E fg_X8_28 rfl rfl (jv_lt hj_14 (by decide)) dX8_add_32 ?_
    refine z_nm (P := fun z => z.toInt = (u_12.2.2.1 14 3).toInt ∧ 0 ≤ z.toInt ∧ z.toInt ≤ 12) ⟨rfl, (rg_14_3 hj_14)⟩ (fun z_15 hz_15 => ?_)
    refine s_iconst (v := 1) E dX8_add_35 (by decide) ?_
    refine z_isub (u := z_15.toInt) (v := 1) E dX8_add_36 rfl (by decide) (by omega) (by omega) (fun z_16 hz_16 => ?_)
    refine s_iconst (v := 1) E dX8_add_37 (by decide) ?_
    refine s_iload_n E dX8_add_38 rfl rfl ?_
    refine s_vV (As := [AI z_16, AI 1, AI x2]) (S := []) E (Z_X8_put_14 l D aC b u_12 z_16 1 x2 hj_14.1 ) cv_X8_39 rfl rfl rfl (jv_lt hj_14 (by decide)) (Nat.le_of_ble_eq_true rfl) (Nat.le_of_ble_eq_true rfl) ⟨(Nat.le_of_ble_eq_true rfl), (Nat.le_of_ble_eq_true rfl)⟩ (Nat.le_of_ble_eq_true rfl) dX8_add_39 (fun u_17 hp_18 => ?_)
    have hj_19 := jv_trans hj_14 hp_18
    refine s_aload_n E dX8_add_42 rfl rfl ?_
    refine s_aload_n E dX8_add_43 rfl rfl ?_
    refine s_gI E fg_X8_28 rfl rfl (jv_lt hj_19 (by decide)) dX8_add_44 ?_
    refine z_nm (P := fun z => z.toInt = (u_17.2.2.1 14 3).toInt ∧ 0 ≤ z.toInt ∧ z.toInt ≤ 12) ⟨rfl, (rg_14_3 hj_19)⟩ (fun z_20 hz_20 => ?_)
    refine s_iconst (v := 1) E dX8_add_47 (by decide) ?_
    refine z_isub (u := z_20.toInt) (v := 1) E dX8_add_48 rfl (by decide) (by omega) (by omega) (fun z_21 hz_21 => ?_)
    refine s_iconst (v := 2) E dX8_add_49 (by decide) ?_
    refine s_iload_n E dX8_add_50 rfl rfl ?_
    refine s_vV (As := [AI z_21, AI 2, AI x3]) (S := []) E (Z_X8_put_14 l D aC b u_17 z_21 2 x3 hj_19.1 ) cv_X8_39 rfl rfl rfl (jv_lt hj_19 (by decide)) (Nat.le_of_ble_eq_true rfl) (Nat.le_of_ble_eq_true rfl) ⟨(Nat.le_of_ble_eq_true rfl), (Nat.le_of_ble_eq_true rfl)⟩ (Nat.le_of_ble_eq_true rfl) dX8_add_51 (fun u_22 hp_23 => ?_)
    have hj_24 := jv_trans hj_19 hp_23
    refine s_aload_n E dX8_add_54 rfl rfl ?_
    refine s_aload_n E dX8_add_55 rfl rfl ?_
    refine s_gI E fg_X8_28 rfl rfl (jv_lt hj_24 (by decide)) dX8_add_56 ?_
    refine z_nm (P := fun z => z.toInt = (u_22.2.2.1 14 3).toInt ∧ 0 ≤ z.toInt ∧ z.toInt ≤ 12) ⟨rfl, (rg_14_3 hj_24)⟩ (fun z_25 hz_25 => ?_)
    refine s_iconst (v := 1) E dX8_add_59 (by decide) ?_
    refine z_isub (u := z_25.toInt) (v := 1) E dX8_add_60 rfl (by decide) (by omega) (by omega) (fun z_26 hz_26 => ?_)
    refine s_iconst (v := 3) E dX8_add_61 (by decide) ?_
    refine s_iload E dX8_add_62 rfl ?_
    refine s_vV (As := [AI z_26, AI 3, AI x4]) (S := []) E (Z_X8_put_14 l D aC b u_22 z_26 3 x4 hj_24.1 ) cv_X8_39 rfl rfl rfl (jv_lt hj_24 (by decide)) (Nat.le_of_ble_eq_true rfl) (Nat.le_of_ble_eq_true rfl) ⟨(Nat.le_of_ble_eq_true rfl), (Nat.le_of_ble_eq_true rfl)⟩ (Nat.le_of_ble_eq_true rfl) dX8_add_64 (fun u_27 hp_28 => ?_)
    have hj_29 := jv_trans hj_24 hp_28
    exact r_void E dX8_add_67 hj_29
  ·
    exact r_void E dX8_add_7 hJ
set_option maxRecDepth 20000 in
set_option maxHeartbeats 2000000 in
theorem Z_X6_readDoor_24 (l : Launch) (D : va_G) (aC : Nat → ClassId) (b : Nat) (w : XW)  (hI : Iv w)  : CnV l D aC b M_X6_readDoor 6 243 0 0 [AR 24] w (fun u => Jv w u) := by
  refine cn_V (own := RX6) (nm := "readDoor") (L0 := [some (AR 24), none, none, none]) (by decide +kernel) rfl rfl (Nat.le_of_ble_eq_true rfl) rfl ?_
  intro p e s m args below meth c E hin
  have hJ : Jv w w := jv_rfl hI
  refine s_aload_n E dX6_readDoor_0 rfl rfl ?_
  refine s_aload_n E dX6_readDoor_1 rfl rfl ?_
  refine s_gR (r := 13) E fg_X6_15 rfl rfl (jv_lt hJ (by decide)) (jv_r hJ (by decide +kernel)) dX6_readDoor_2 ?_
  refine s_gR (r := 14) E fg_X6_116 rfl rfl (jv_lt hJ (by decide)) (jv_r hJ (by decide +kernel)) dX6_readDoor_5 ?_
  refine s_vV (As := [AR 14]) (S := []) E (Z_X6_startRow_24_r14 l D aC b w  hJ.1 ) cv_X6_120 rfl rfl rfl (jv_lt hJ (by decide)) (Nat.le_of_ble_eq_true rfl) (Nat.le_of_ble_eq_true rfl) ⟨(Nat.le_of_ble_eq_true rfl), (Nat.le_of_ble_eq_true rfl)⟩ (Nat.le_of_ble_eq_true rfl) dX6_readDoor_8 (fun u_1 hp_2 => ?_)
  have hj_3 := jv_trans hJ hp_2
  refine s_aload_n E dX6_readDoor_11 rfl rfl ?_
  refine s_iconst (v := 0) E dX6_readDoor_12 (by decide) ?_
  refine s_aload_n E dX6_readDoor_13 rfl rfl ?_
  refine s_gR (r := 13) E fg_X6_15 rfl rfl (jv_lt hj_3 (by decide)) (jv_r hj_3 (by decide +kernel)) dX6_readDoor_14 ?_
  refine s_gI E fg_X6_99 rfl rfl (jv_lt hj_3 (by decide)) dX6_readDoor_17 ?_
  refine z_nm (P := fun z => z.toInt = (u_1.2.2.1 13 1).toInt ∧ (-2147483648) ≤ z.toInt ∧ z.toInt ≤ 2147483647) ⟨rfl, z32 _⟩ (fun z_4 hz_4 => ?_)
  refine s_iconst (v := 1) E dX6_readDoor_20 (by decide) ?_
  refine s_isub E dX6_readDoor_21 ?_
  refine z_nm (P := fun z => (-2147483648) ≤ z.toInt ∧ z.toInt ≤ 2147483647) (z32 _) (fun z_5 hz_5 => ?_)
  refine s_vI (As := [AI 0, AI z_5]) (S := []) E (Z_X6_takeNumber_24 l D aC b u_1 0 z_5 hj_3.1 ) cv_X6_96 rfl rfl rfl (jv_lt hj_3 (by decide)) (Nat.le_of_ble_eq_true rfl) (Nat.le_of_ble_eq_true rfl) ⟨(Nat.le_of_ble_eq_true rfl), (Nat.le_of_ble_eq_true rfl)⟩ (Nat.le_of_ble_eq_true rfl) dX6_readDoor_22 (fun z_8 u_6 hp_7 => ?_)
  obtain ⟨hz_8, hxz_8, hp_7⟩ := hp_7
  have hc_ : (0 : Int32).toInt = 0 := by decide
  have hj_9 := jv_trans hj_3 hp_7
  refine s_istore_n (L2 := [some (AR 24), some (AI z_8), none, none]) E dX6_readDoor_25 rfl (by decide) rfl ?_
  refine s_aload_n E dX6_readDoor_26 rfl rfl ?_
  refine s_ldcS (i := 6) E (by decide) rfl dX6_readDoor_27 ?_
  refine s_vV (As := [AX (sA aC 6)]) (S := []) E (Z_X6_takeWord_24 l D aC b u_6  hj_9.1  6 (by decide)) cv_X6_90 rfl rfl rfl (jv_lt hj_9 (by decide)) (Nat.le_of_ble_eq_true rfl) (Nat.le_of_ble_eq_true rfl) ⟨(Nat.le_of_ble_eq_true rfl), (Nat.le_of_ble_eq_true rfl)⟩ (Nat.le_of_ble_eq_true rfl) dX6_readDoor_29 (fun u_10 hp_11 => ?_)
  have hj_12 := jv_trans hj_9 hp_11
  refine s_aload_n E dX6_readDoor_32 rfl rfl ?_
  refine s_gI E fg_X6_49 rfl rfl (jv_lt hj_12 (by decide)) dX6_readDoor_33 ?_
  refine z_nm (P := fun z => z.toInt = (u_10.2.2.1 24 3).toInt ∧ 0 ≤ z.toInt ∧ z.toInt ≤ 4) ⟨rfl, (rg_24_3 hj_12)⟩ (fun z_13 hz_13 => ?_)
  refine s_iconst (v := 2) E dX6_readDoor_36 (by decide) ?_
  refine z_icmp_ne (tgt := 53) (u := z_13.toInt) (v := 2) E dX6_readDoor_37 (by decide) rfl (by decide) (fun h_14 => ?_) (fun h_14 => ?_)
  ·
    refine s_aload_n E dX6_readDoor_53 rfl rfl ?_
    refine s_iconst (v := 0) E dX6_readDoor_54 (by decide) ?_
    refine s_aload_n E dX6_readDoor_55 rfl rfl ?_
    refine s_gR (r := 13) E fg_X6_15 rfl rfl (jv_lt hj_12 (by decide)) (jv_r hj_12 (by decide +kernel)) dX6_readDoor_56 ?_
    refine s_gI E fg_X6_99 rfl rfl (jv_lt hj_12 (by decide)) dX6_readDoor_59 ?_
    refine z_nm (P := fun z => z.toInt = (u_10.2.2.1 13 1).toInt ∧ (-2147483648) ≤ z.toInt ∧ z.toInt ≤ 2147483647) ⟨rfl, z32 _⟩ (fun z_15 hz_15 => ?_)
    refine s_iconst (v := 1) E dX6_readDoor_62 (by decide) ?_
    refine s_isub E dX6_readDoor_63 ?_
    refine z_nm (P := fun z => (-2147483648) ≤ z.toInt ∧ z.toInt ≤ 2147483647) (z32 _) (fun z_16 hz_16 => ?_)
    refine s_vI (As := [AI 0, AI z_16]) (S := []) E (Z_X6_takeNumber_24 l D aC b u_10 0 z_16 hj_12.1 ) cv_X6_96 rfl rfl rfl (jv_lt hj_12 (by decide)) (Nat.le_of_ble_eq_true rfl) (Nat.le_of_ble_eq_true rfl) ⟨(Nat.le_of_ble_eq_true rfl), (Nat.le_of_ble_eq_true rfl)⟩ (Nat.le_of_ble_eq_true rfl) dX6_readDoor_64 (fun z_19 u_17 hp_18 => ?_)
    obtain ⟨hz_19, hxz_19, hp_18⟩ := hp_18
    have hc_ : (0 : Int32).toInt = 0 := by decide
    have hj_20 := jv_trans hj_12 hp_18
    refine s_istore_n (L2 := [some (AR 24), some (AI z_8), some (AI z_19), none]) E dX6_readDoor_67 rfl (by decide) rfl ?_
    refine s_aload_n E dX6_readDoor_68 rfl rfl ?_
    refine s_ldcS (i := 7) E (by decide) rfl dX6_readDoor_69 ?_
    refine s_vV (As := [AX (sA aC 7)]) (S := []) E (Z_X6_takeWord_24 l D aC b u_17  hj_20.1  7 (by decide)) cv_X6_90 rfl rfl rfl (jv_lt hj_20 (by decide)) (Nat.le_of_ble_eq_true rfl) (Nat.le_of_ble_eq_true rfl) ⟨(Nat.le_of_ble_eq_true rfl), (Nat.le_of_ble_eq_true rfl)⟩ (Nat.le_of_ble_eq_true rfl) dX6_readDoor_71 (fun u_21 hp_22 => ?_)
    have hj_23 := jv_trans hj_20 hp_22
    refine s_aload_n E dX6_readDoor_74 rfl rfl ?_
    refine s_iconst (v := 1) E dX6_readDoor_75 (by decide) ?_
    refine s_bipush (v := 9) E dX6_readDoor_76 (by decide) ?_
    refine s_vI (As := [AI 1, AI 9]) (S := []) E (Z_X6_takeNumber_24 l D aC b u_21 1 9 hj_23.1 ) cv_X6_96 rfl rfl rfl (jv_lt hj_23 (by decide)) (Nat.le_of_ble_eq_true rfl) (Nat.le_of_ble_eq_true rfl) ⟨(Nat.le_of_ble_eq_true rfl), (Nat.le_of_ble_eq_true rfl)⟩ (Nat.le_of_ble_eq_true rfl) dX6_readDoor_78 (fun z_26 u_24 hp_25 => ?_)
    obtain ⟨hz_26, hxz_26, hp_25⟩ := hp_25
    have hc_ : (1 : Int32).toInt = 1 := by decide
    have hc_ : (9 : Int32).toInt = 9 := by decide
    have hj_27 := jv_trans hj_23 hp_25
    refine s_istore_n (L2 := [some (AR 24), some (AI z_8), some (AI z_19), some (AI z_26)]) E dX6_readDoor_81 rfl (by decide) rfl ?_
    refine s_aload_n E dX6_readDoor_82 rfl rfl ?_
    refine s_vV (As := []) (S := []) E (Z_X6_takeSign_24 l D aC b u_24  hj_27.1 ) cv_X6_113 rfl rfl rfl (jv_lt hj_27 (by decide)) (Nat.le_of_ble_eq_true rfl) (Nat.le_of_ble_eq_true rfl) ⟨(Nat.le_of_ble_eq_true rfl), (Nat.le_of_ble_eq_true rfl)⟩ (Nat.le_of_ble_eq_true rfl) dX6_readDoor_83 (fun u_28 hp_29 => ?_)
    have hj_30 := jv_trans hj_27 hp_29
    refine s_aload_n E dX6_readDoor_86 rfl rfl ?_
    refine s_gI E fg_X6_40 rfl rfl (jv_lt hj_30 (by decide)) dX6_readDoor_87 ?_
    refine z_nm (P := fun z => z.toInt = (u_28.2.2.1 24 6).toInt ∧ 0 ≤ z.toInt ∧ z.toInt ≤ 3) ⟨rfl, (rg_24_6 hj_30)⟩ (fun z_31 hz_31 => ?_)
    refine z_if_ne (tgt := 107) (u := z_31.toInt) E dX6_readDoor_90 (by decide) rfl (fun h_32 => ?_) (fun h_32 => ?_)
    ·
      exact r_void E dX6_readDoor_107 hj_30
    ·
      refine s_aload_n E dX6_readDoor_93 rfl rfl ?_
      refine s_gR (r := 13) E fg_X6_15 rfl rfl (jv_lt hj_30 (by decide)) (jv_r hj_30 (by decide +kernel)) dX6_readDoor_94 ?_
      refine s_gR (r := 14) E fg_X6_116 rfl rfl (jv_lt hj_30 (by decide)) (jv_r hj_30 (by decide +kernel)) dX6_readDoor_97 ?_
      refine s_iload_n E dX6_readDoor_100 rfl rfl ?_
      refine s_iload_n E dX6_readDoor_101 rfl rfl ?_
      refine s_iload_n E dX6_readDoor_102 rfl rfl ?_
      refine s_iconst (v := 0) E dX6_readDoor_103 (by decide) ?_
      refine s_vV (As := [AI z_8, AI z_19, AI z_26, AI 0]) (S := []) E (Z_X8_add_14 l D aC b u_28 z_8 z_19 z_26 0 hj_30.1 ) cv_X6_132 rfl rfl rfl (jv_lt hj_30 (by decide)) (Nat.le_of_ble_eq_true rfl) (Nat.le_of_ble_eq_true rfl) ⟨(Nat.le_of_ble_eq_true rfl), (Nat.le_of_ble_eq_true rfl)⟩ (Nat.le_of_ble_eq_true rfl) dX6_readDoor_104 (fun u_33 hp_34 => ?_)
      have hj_35 := jv_trans hj_30 hp_34
      exact r_void E dX6_readDoor_107 hj_35
  ·
    refine s_aload_n E dX6_readDoor_40 rfl rfl ?_
    refine s_vI (As := []) (S := []) E (Z_X6_digits_24 l D aC b u_10  hj_12.1 ) cv_X6_126 rfl rfl rfl (jv_lt hj_12 (by decide)) (Nat.le_of_ble_eq_true rfl) (Nat.le_of_ble_eq_true rfl) ⟨(Nat.le_of_ble_eq_true rfl), (Nat.le_of_ble_eq_true rfl)⟩ (Nat.le_of_ble_eq_true rfl) dX6_readDoor_41 (fun z_38 u_36 hp_37 => ?_)
    obtain ⟨hz_38, hp_37⟩ := hp_37
    subst hp_37
    refine s_iload_n E dX6_readDoor_44 rfl rfl ?_
    refine z_icmp_ne (tgt := 53) (u := z_38.toInt) (v := z_8.toInt) E dX6_readDoor_45 (by decide) rfl rfl (fun h_40 => ?_) (fun h_40 => ?_)
    ·
      refine s_aload_n E dX6_readDoor_53 rfl rfl ?_
      refine s_iconst (v := 0) E dX6_readDoor_54 (by decide) ?_
      refine s_aload_n E dX6_readDoor_55 rfl rfl ?_
      refine s_gR (r := 13) E fg_X6_15 rfl rfl (jv_lt hj_12 (by decide)) (jv_r hj_12 (by decide +kernel)) dX6_readDoor_56 ?_
      refine s_gI E fg_X6_99 rfl rfl (jv_lt hj_12 (by decide)) dX6_readDoor_59 ?_
      refine z_nm (P := fun z => z.toInt = (u_10.2.2.1 13 1).toInt ∧ (-2147483648) ≤ z.toInt ∧ z.toInt ≤ 2147483647) ⟨rfl, z32 _⟩ (fun z_41 hz_41 => ?_)
      refine s_iconst (v := 1) E dX6_readDoor_62 (by decide) ?_
      refine s_isub E dX6_readDoor_63 ?_
      refine z_nm (P := fun z => (-2147483648) ≤ z.toInt ∧ z.toInt ≤ 2147483647) (z32 _) (fun z_42 hz_42 => ?_)
      refine s_vI (As := [AI 0, AI z_42]) (S := []) E (Z_X6_takeNumber_24 l D aC b u_10 0 z_42 hj_12.1 ) cv_X6_96 rfl rfl rfl (jv_lt hj_12 (by decide)) (Nat.le_of_ble_eq_true rfl) (Nat.le_of_ble_eq_true rfl) ⟨(Nat.le_of_ble_eq_true rfl), (Nat.le_of_ble_eq_true rfl)⟩ (Nat.le_of_ble_eq_true rfl) dX6_readDoor_64 (fun z_45 u_43 hp_44 => ?_)
      obtain ⟨hz_45, hxz_45, hp_44⟩ := hp_44
      have hc_ : (0 : Int32).toInt = 0 := by decide
      have hj_46 := jv_trans hj_12 hp_44
      refine s_istore_n (L2 := [some (AR 24), some (AI z_8), some (AI z_45), none]) E dX6_readDoor_67 rfl (by decide) rfl ?_
      refine s_aload_n E dX6_readDoor_68 rfl rfl ?_
      refine s_ldcS (i := 7) E (by decide) rfl dX6_readDoor_69 ?_
      refine s_vV (As := [AX (sA aC 7)]) (S := []) E (Z_X6_takeWord_24 l D aC b u_43  hj_46.1  7 (by decide)) cv_X6_90 rfl rfl rfl (jv_lt hj_46 (by decide)) (Nat.le_of_ble_eq_true rfl) (Nat.le_of_ble_eq_true rfl) ⟨(Nat.le_of_ble_eq_true rfl), (Nat.le_of_ble_eq_true rfl)⟩ (Nat.le_of_ble_eq_true rfl) dX6_readDoor_71 (fun u_47 hp_48 => ?_)
      have hj_49 := jv_trans hj_46 hp_48
      refine s_aload_n E dX6_readDoor_74 rfl rfl ?_
      refine s_iconst (v := 1) E dX6_readDoor_75 (by decide) ?_
      refine s_bipush (v := 9) E dX6_readDoor_76 (by decide) ?_
      refine s_vI (As := [AI 1, AI 9]) (S := []) E (Z_X6_takeNumber_24 l D aC b u_47 1 9 hj_49.1 ) cv_X6_96 rfl rfl rfl (jv_lt hj_49 (by decide)) (Nat.le_of_ble_eq_true rfl) (Nat.le_of_ble_eq_true rfl) ⟨(Nat.le_of_ble_eq_true rfl), (Nat.le_of_ble_eq_true rfl)⟩ (Nat.le_of_ble_eq_true rfl) dX6_readDoor_78 (fun z_52 u_50 hp_51 => ?_)
      obtain ⟨hz_52, hxz_52, hp_51⟩ := hp_51
      have hc_ : (1 : Int32).toInt = 1 := by decide
      have hc_ : (9 : Int32).toInt = 9 := by decide
      have hj_53 := jv_trans hj_49 hp_51
      refine s_istore_n (L2 := [some (AR 24), some (AI z_8), some (AI z_45), some (AI z_52)]) E dX6_readDoor_81 rfl (by decide) rfl ?_
      refine s_aload_n E dX6_readDoor_82 rfl rfl ?_
      refine s_vV (As := []) (S := []) E (Z_X6_takeSign_24 l D aC b u_50  hj_53.1 ) cv_X6_113 rfl rfl rfl (jv_lt hj_53 (by decide)) (Nat.le_of_ble_eq_true rfl) (Nat.le_of_ble_eq_true rfl) ⟨(Nat.le_of_ble_eq_true rfl), (Nat.le_of_ble_eq_true rfl)⟩ (Nat.le_of_ble_eq_true rfl) dX6_readDoor_83 (fun u_54 hp_55 => ?_)
      have hj_56 := jv_trans hj_53 hp_55
      refine s_aload_n E dX6_readDoor_86 rfl rfl ?_
      refine s_gI E fg_X6_40 rfl rfl (jv_lt hj_56 (by decide)) dX6_readDoor_87 ?_
      refine z_nm (P := fun z => z.toInt = (u_54.2.2.1 24 6).toInt ∧ 0 ≤ z.toInt ∧ z.toInt ≤ 3) ⟨rfl, (rg_24_6 hj_56)⟩ (fun z_57 hz_57 => ?_)
      refine z_if_ne (tgt := 107) (u := z_57.toInt) E dX6_readDoor_90 (by decide) rfl (fun h_58 => ?_) (fun h_58 => ?_)
      ·
        exact r_void E dX6_readDoor_107 hj_56
      ·
        refine s_aload_n E dX6_readDoor_93 rfl rfl ?_
        refine s_gR (r := 13) E fg_X6_15 rfl rfl (jv_lt hj_56 (by decide)) (jv_r hj_56 (by decide +kernel)) dX6_readDoor_94 ?_
        refine s_gR (r := 14) E fg_X6_116 rfl rfl (jv_lt hj_56 (by decide)) (jv_r hj_56 (by decide +kernel)) dX6_readDoor_97 ?_
        refine s_iload_n E dX6_readDoor_100 rfl rfl ?_
        refine s_iload_n E dX6_readDoor_101 rfl rfl ?_
        refine s_iload_n E dX6_readDoor_102 rfl rfl ?_
        refine s_iconst (v := 0) E dX6_readDoor_103 (by decide) ?_
        refine s_vV (As := [AI z_8, AI z_45, AI z_52, AI 0]) (S := []) E (Z_X8_add_14 l D aC b u_54 z_8 z_45 z_52 0 hj_56.1 ) cv_X6_132 rfl rfl rfl (jv_lt hj_56 (by decide)) (Nat.le_of_ble_eq_true rfl) (Nat.le_of_ble_eq_true rfl) ⟨(Nat.le_of_ble_eq_true rfl), (Nat.le_of_ble_eq_true rfl)⟩ (Nat.le_of_ble_eq_true rfl) dX6_readDoor_104 (fun u_59 hp_60 => ?_)
        have hj_61 := jv_trans hj_56 hp_60
        exact r_void E dX6_readDoor_107 hj_61
    ·
      refine s_aload_n E dX6_readDoor_48 rfl rfl ?_
      refine s_iconst (v := 2) E dX6_readDoor_49 (by decide) ?_
      refine s_vV (As := [AI 2]) (S := []) E (Z_X6_fail_24 l D aC b u_10 2 hj_12.1 (by decide)) cv_X6_85 rfl rfl rfl (jv_lt hj_12 (by decide)) (Nat.le_of_ble_eq_true rfl) (Nat.le_of_ble_eq_true rfl) ⟨(Nat.le_of_ble_eq_true rfl), (Nat.le_of_ble_eq_true rfl)⟩ (Nat.le_of_ble_eq_true rfl) dX6_readDoor_50 (fun u_62 hp_63 => ?_)
      have hc_ : (2 : Int32).toInt = 2 := by decide
      obtain ⟨hx_hp_63, hp_63⟩ := hp_63
      have hj_64 := jv_trans hj_12 hp_63
      refine s_aload_n E dX6_readDoor_53 rfl rfl ?_
      refine s_iconst (v := 0) E dX6_readDoor_54 (by decide) ?_
      refine s_aload_n E dX6_readDoor_55 rfl rfl ?_
      refine s_gR (r := 13) E fg_X6_15 rfl rfl (jv_lt hj_64 (by decide)) (jv_r hj_64 (by decide +kernel)) dX6_readDoor_56 ?_
      refine s_gI E fg_X6_99 rfl rfl (jv_lt hj_64 (by decide)) dX6_readDoor_59 ?_
      refine z_nm (P := fun z => z.toInt = (u_62.2.2.1 13 1).toInt ∧ (-2147483648) ≤ z.toInt ∧ z.toInt ≤ 2147483647) ⟨rfl, z32 _⟩ (fun z_65 hz_65 => ?_)
      refine s_iconst (v := 1) E dX6_readDoor_62 (by decide) ?_
      refine s_isub E dX6_readDoor_63 ?_
      refine z_nm (P := fun z => (-2147483648) ≤ z.toInt ∧ z.toInt ≤ 2147483647) (z32 _) (fun z_66 hz_66 => ?_)
      refine s_vI (As := [AI 0, AI z_66]) (S := []) E (Z_X6_takeNumber_24 l D aC b u_62 0 z_66 hj_64.1 ) cv_X6_96 rfl rfl rfl (jv_lt hj_64 (by decide)) (Nat.le_of_ble_eq_true rfl) (Nat.le_of_ble_eq_true rfl) ⟨(Nat.le_of_ble_eq_true rfl), (Nat.le_of_ble_eq_true rfl)⟩ (Nat.le_of_ble_eq_true rfl) dX6_readDoor_64 (fun z_69 u_67 hp_68 => ?_)
      obtain ⟨hz_69, hxz_69, hp_68⟩ := hp_68
      have hc_ : (0 : Int32).toInt = 0 := by decide
      have hj_70 := jv_trans hj_64 hp_68
      refine s_istore_n (L2 := [some (AR 24), some (AI z_8), some (AI z_69), none]) E dX6_readDoor_67 rfl (by decide) rfl ?_
      refine s_aload_n E dX6_readDoor_68 rfl rfl ?_
      refine s_ldcS (i := 7) E (by decide) rfl dX6_readDoor_69 ?_
      refine s_vV (As := [AX (sA aC 7)]) (S := []) E (Z_X6_takeWord_24 l D aC b u_67  hj_70.1  7 (by decide)) cv_X6_90 rfl rfl rfl (jv_lt hj_70 (by decide)) (Nat.le_of_ble_eq_true rfl) (Nat.le_of_ble_eq_true rfl) ⟨(Nat.le_of_ble_eq_true rfl), (Nat.le_of_ble_eq_true rfl)⟩ (Nat.le_of_ble_eq_true rfl) dX6_readDoor_71 (fun u_71 hp_72 => ?_)
      have hj_73 := jv_trans hj_70 hp_72
      refine s_aload_n E dX6_readDoor_74 rfl rfl ?_
      refine s_iconst (v := 1) E dX6_readDoor_75 (by decide) ?_
      refine s_bipush (v := 9) E dX6_readDoor_76 (by decide) ?_
      refine s_vI (As := [AI 1, AI 9]) (S := []) E (Z_X6_takeNumber_24 l D aC b u_71 1 9 hj_73.1 ) cv_X6_96 rfl rfl rfl (jv_lt hj_73 (by decide)) (Nat.le_of_ble_eq_true rfl) (Nat.le_of_ble_eq_true rfl) ⟨(Nat.le_of_ble_eq_true rfl), (Nat.le_of_ble_eq_true rfl)⟩ (Nat.le_of_ble_eq_true rfl) dX6_readDoor_78 (fun z_76 u_74 hp_75 => ?_)
      obtain ⟨hz_76, hxz_76, hp_75⟩ := hp_75
      have hc_ : (1 : Int32).toInt = 1 := by decide
      have hc_ : (9 : Int32).toInt = 9 := by decide
      have hj_77 := jv_trans hj_73 hp_75
      refine s_istore_n (L2 := [some (AR 24), some (AI z_8), some (AI z_69), some (AI z_76)]) E dX6_readDoor_81 rfl (by decide) rfl ?_
      refine s_aload_n E dX6_readDoor_82 rfl rfl ?_
      refine s_vV (As := []) (S := []) E (Z_X6_takeSign_24 l D aC b u_74  hj_77.1 ) cv_X6_113 rfl rfl rfl (jv_lt hj_77 (by decide)) (Nat.le_of_ble_eq_true rfl) (Nat.le_of_ble_eq_true rfl) ⟨(Nat.le_of_ble_eq_true rfl), (Nat.le_of_ble_eq_true rfl)⟩ (Nat.le_of_ble_eq_true rfl) dX6_readDoor_83 (fun u_78 hp_79 => ?_)
      have hj_80 := jv_trans hj_77 hp_79
      refine s_aload_n E dX6_readDoor_86 rfl rfl ?_
      refine s_gI E fg_X6_40 rfl rfl (jv_lt hj_80 (by decide)) dX6_readDoor_87 ?_
      refine z_nm (P := fun z => z.toInt = (u_78.2.2.1 24 6).toInt ∧ 0 ≤ z.toInt ∧ z.toInt ≤ 3) ⟨rfl, (rg_24_6 hj_80)⟩ (fun z_81 hz_81 => ?_)
      refine z_if_ne (tgt := 107) (u := z_81.toInt) E dX6_readDoor_90 (by decide) rfl (fun h_82 => ?_) (fun h_82 => ?_)
      ·
        exact r_void E dX6_readDoor_107 hj_80
      ·
        refine s_aload_n E dX6_readDoor_93 rfl rfl ?_
        refine s_gR (r := 13) E fg_X6_15 rfl rfl (jv_lt hj_80 (by decide)) (jv_r hj_80 (by decide +kernel)) dX6_readDoor_94 ?_
        refine s_gR (r := 14) E fg_X6_116 rfl rfl (jv_lt hj_80 (by decide)) (jv_r hj_80 (by decide +kernel)) dX6_readDoor_97 ?_
        refine s_iload_n E dX6_readDoor_100 rfl rfl ?_
        refine s_iload_n E dX6_readDoor_101 rfl rfl ?_
        refine s_iload_n E dX6_readDoor_102 rfl rfl ?_
        refine s_iconst (v := 0) E dX6_readDoor_103 (by decide) ?_
        refine s_vV (As := [AI z_8, AI z_69, AI z_76, AI 0]) (S := []) E (Z_X8_add_14 l D aC b u_78 z_8 z_69 z_76 0 hj_80.1 ) cv_X6_132 rfl rfl rfl (jv_lt hj_80 (by decide)) (Nat.le_of_ble_eq_true rfl) (Nat.le_of_ble_eq_true rfl) ⟨(Nat.le_of_ble_eq_true rfl), (Nat.le_of_ble_eq_true rfl)⟩ (Nat.le_of_ble_eq_true rfl) dX6_readDoor_104 (fun u_83 hp_84 => ?_)
        have hj_85 := jv_trans hj_80 hp_84
        exact r_void E dX6_readDoor_107 hj_85
set_option maxRecDepth 20000 in
set_option maxHeartbeats 2000000 in
theorem Z_X6_readBall_24 (l : Launch) (D : va_G) (aC : Nat → ClassId) (b : Nat) (w : XW)  (hI : Iv w)  : CnV l D aC b M_X6_readBall 6 243 0 0 [AR 24] w (fun u => Jv w u) := by
  refine cn_V (own := RX6) (nm := "readBall") (L0 := [some (AR 24)]) (by decide +kernel) rfl rfl (Nat.le_of_ble_eq_true rfl) rfl ?_
  intro p e s m args below meth c E hin
  have hJ : Jv w w := jv_rfl hI
  refine s_aload_n E dX6_readBall_0 rfl rfl ?_
  refine s_ldcS (i := 0) E (by decide) rfl dX6_readBall_1 ?_
  refine s_vV (As := [AX (sA aC 0)]) (S := []) E (Z_X6_takeWord_24 l D aC b w  hJ.1  0 (by decide)) cv_X6_90 rfl rfl rfl (jv_lt hJ (by decide)) (Nat.le_of_ble_eq_true rfl) (Nat.le_of_ble_eq_true rfl) ⟨(Nat.le_of_ble_eq_true rfl), (Nat.le_of_ble_eq_true rfl)⟩ (Nat.le_of_ble_eq_true rfl) dX6_readBall_3 (fun u_1 hp_2 => ?_)
  have hj_3 := jv_trans hJ hp_2
  refine s_aload_n E dX6_readBall_6 rfl rfl ?_
  refine s_ldcS (i := 1) E (by decide) rfl dX6_readBall_7 ?_
  refine s_vV (As := [AX (sA aC 1)]) (S := []) E (Z_X6_takeWord_24 l D aC b u_1  hj_3.1  1 (by decide)) cv_X6_90 rfl rfl rfl (jv_lt hj_3 (by decide)) (Nat.le_of_ble_eq_true rfl) (Nat.le_of_ble_eq_true rfl) ⟨(Nat.le_of_ble_eq_true rfl), (Nat.le_of_ble_eq_true rfl)⟩ (Nat.le_of_ble_eq_true rfl) dX6_readBall_9 (fun u_4 hp_5 => ?_)
  have hj_6 := jv_trans hj_3 hp_5
  refine s_aload_n E dX6_readBall_12 rfl rfl ?_
  refine s_gR (r := 13) E fg_X6_15 rfl rfl (jv_lt hj_6 (by decide)) (jv_r hj_6 (by decide +kernel)) dX6_readBall_13 ?_
  refine s_aload_n E dX6_readBall_16 rfl rfl ?_
  refine s_iconst (v := 1) E dX6_readBall_17 (by decide) ?_
  refine s_bipush (v := 8) E dX6_readBall_18 (by decide) ?_
  refine s_vI (As := [AI 1, AI 8]) (S := [AR 13]) E (Z_X6_takeNumber_24 l D aC b u_4 1 8 hj_6.1 ) cv_X6_96 rfl rfl rfl (jv_lt hj_6 (by decide)) (Nat.le_of_ble_eq_true rfl) (Nat.le_of_ble_eq_true rfl) ⟨(Nat.le_of_ble_eq_true rfl), (Nat.le_of_ble_eq_true rfl)⟩ (Nat.le_of_ble_eq_true rfl) dX6_readBall_20 (fun z_9 u_7 hp_8 => ?_)
  obtain ⟨hz_9, hxz_9, hp_8⟩ := hp_8
  have hc_ : (1 : Int32).toInt = 1 := by decide
  have hc_ : (8 : Int32).toInt = 8 := by decide
  have hj_10 := jv_trans hj_6 hp_8
  refine s_pI E fp_X6_99 (Or.inl rfl) rfl (jv_lt hj_10 (by decide)) dX6_readBall_23 ?_
  refine s_gen (P := Jv w) (jv_f_13_1 hj_10 (fun h0_ => by first | omega | decide)) (fun v_11 hj_12 => ?_)
  refine s_aload_n E dX6_readBall_26 rfl rfl ?_
  refine s_ldcS (i := 2) E (by decide) rfl dX6_readBall_27 ?_
  refine s_vV (As := [AX (sA aC 2)]) (S := []) E (Z_X6_takeWord_24 l D aC b v_11  hj_12.1  2 (by decide)) cv_X6_90 rfl rfl rfl (jv_lt hj_12 (by decide)) (Nat.le_of_ble_eq_true rfl) (Nat.le_of_ble_eq_true rfl) ⟨(Nat.le_of_ble_eq_true rfl), (Nat.le_of_ble_eq_true rfl)⟩ (Nat.le_of_ble_eq_true rfl) dX6_readBall_29 (fun u_13 hp_14 => ?_)
  have hj_15 := jv_trans hj_12 hp_14
  refine s_aload_n E dX6_readBall_32 rfl rfl ?_
  refine s_gR (r := 13) E fg_X6_15 rfl rfl (jv_lt hj_15 (by decide)) (jv_r hj_15 (by decide +kernel)) dX6_readBall_33 ?_
  refine s_aload_n E dX6_readBall_36 rfl rfl ?_
  refine s_iconst (v := 1) E dX6_readBall_37 (by decide) ?_
  refine s_bipush (v := 14) E dX6_readBall_38 (by decide) ?_
  refine s_vI (As := [AI 1, AI 14]) (S := [AR 13]) E (Z_X6_takeNumber_24 l D aC b u_13 1 14 hj_15.1 ) cv_X6_96 rfl rfl rfl (jv_lt hj_15 (by decide)) (Nat.le_of_ble_eq_true rfl) (Nat.le_of_ble_eq_true rfl) ⟨(Nat.le_of_ble_eq_true rfl), (Nat.le_of_ble_eq_true rfl)⟩ (Nat.le_of_ble_eq_true rfl) dX6_readBall_40 (fun z_18 u_16 hp_17 => ?_)
  obtain ⟨hz_18, hxz_18, hp_17⟩ := hp_17
  have hc_ : (1 : Int32).toInt = 1 := by decide
  have hc_ : (14 : Int32).toInt = 14 := by decide
  have hj_19 := jv_trans hj_15 hp_17
  refine s_pI E fp_X6_103 (Or.inl rfl) rfl (jv_lt hj_19 (by decide)) dX6_readBall_43 ?_
  refine s_gen (P := Jv w) (jv_f_13_2 hj_19 (fun h0_ => by first | omega | decide)) (fun v_20 hj_21 => ?_)
  refine s_aload_n E dX6_readBall_46 rfl rfl ?_
  refine s_ldcS (i := 3) E (by decide) rfl dX6_readBall_47 ?_
  refine s_vV (As := [AX (sA aC 3)]) (S := []) E (Z_X6_takeWord_24 l D aC b v_20  hj_21.1  3 (by decide)) cv_X6_90 rfl rfl rfl (jv_lt hj_21 (by decide)) (Nat.le_of_ble_eq_true rfl) (Nat.le_of_ble_eq_true rfl) ⟨(Nat.le_of_ble_eq_true rfl), (Nat.le_of_ble_eq_true rfl)⟩ (Nat.le_of_ble_eq_true rfl) dX6_readBall_49 (fun u_22 hp_23 => ?_)
  have hj_24 := jv_trans hj_21 hp_23
  refine s_aload_n E dX6_readBall_52 rfl rfl ?_
  refine s_gR (r := 13) E fg_X6_15 rfl rfl (jv_lt hj_24 (by decide)) (jv_r hj_24 (by decide +kernel)) dX6_readBall_53 ?_
  refine s_aload_n E dX6_readBall_56 rfl rfl ?_
  refine s_iconst (v := 0) E dX6_readBall_57 (by decide) ?_
  refine s_iconst (v := 3) E dX6_readBall_58 (by decide) ?_
  refine s_vI (As := [AI 0, AI 3]) (S := [AR 13]) E (Z_X6_takeNumber_24 l D aC b u_22 0 3 hj_24.1 ) cv_X6_96 rfl rfl rfl (jv_lt hj_24 (by decide)) (Nat.le_of_ble_eq_true rfl) (Nat.le_of_ble_eq_true rfl) ⟨(Nat.le_of_ble_eq_true rfl), (Nat.le_of_ble_eq_true rfl)⟩ (Nat.le_of_ble_eq_true rfl) dX6_readBall_59 (fun z_27 u_25 hp_26 => ?_)
  obtain ⟨hz_27, hxz_27, hp_26⟩ := hp_26
  have hc_ : (0 : Int32).toInt = 0 := by decide
  have hc_ : (3 : Int32).toInt = 3 := by decide
  have hj_28 := jv_trans hj_24 hp_26
  refine s_pI E fp_X6_107 (Or.inl rfl) rfl (jv_lt hj_28 (by decide)) dX6_readBall_62 ?_
  refine s_gen (P := Jv w) (jv_f_13_3 hj_28 (by have hb_ := z32 z_27; omega) (by have hb_ := z32 z_27; omega)) (fun v_29 hj_30 => ?_)
  refine s_aload_n E dX6_readBall_65 rfl rfl ?_
  refine s_ldcS (i := 4) E (by decide) rfl dX6_readBall_66 ?_
  refine s_vV (As := [AX (sA aC 4)]) (S := []) E (Z_X6_takeWord_24 l D aC b v_29  hj_30.1  4 (by decide)) cv_X6_90 rfl rfl rfl (jv_lt hj_30 (by decide)) (Nat.le_of_ble_eq_true rfl) (Nat.le_of_ble_eq_true rfl) ⟨(Nat.le_of_ble_eq_true rfl), (Nat.le_of_ble_eq_true rfl)⟩ (Nat.le_of_ble_eq_true rfl) dX6_readBall_68 (fun u_31 hp_32 => ?_)
  have hj_33 := jv_trans hj_30 hp_32
  refine s_aload_n E dX6_readBall_71 rfl rfl ?_
  refine s_gR (r := 13) E fg_X6_15 rfl rfl (jv_lt hj_33 (by decide)) (jv_r hj_33 (by decide +kernel)) dX6_readBall_72 ?_
  refine s_aload_n E dX6_readBall_75 rfl rfl ?_
  refine s_iconst (v := 0) E dX6_readBall_76 (by decide) ?_
  refine s_bipush (v := 10) E dX6_readBall_77 (by decide) ?_
  refine s_vI (As := [AI 0, AI 10]) (S := [AR 13]) E (Z_X6_takeNumber_24 l D aC b u_31 0 10 hj_33.1 ) cv_X6_96 rfl rfl rfl (jv_lt hj_33 (by decide)) (Nat.le_of_ble_eq_true rfl) (Nat.le_of_ble_eq_true rfl) ⟨(Nat.le_of_ble_eq_true rfl), (Nat.le_of_ble_eq_true rfl)⟩ (Nat.le_of_ble_eq_true rfl) dX6_readBall_79 (fun z_36 u_34 hp_35 => ?_)
  obtain ⟨hz_36, hxz_36, hp_35⟩ := hp_35
  have hc_ : (0 : Int32).toInt = 0 := by decide
  have hc_ : (10 : Int32).toInt = 10 := by decide
  have hj_37 := jv_trans hj_33 hp_35
  refine s_pI E fp_X6_111 (Or.inl rfl) rfl (jv_lt hj_37 (by decide)) dX6_readBall_82 ?_
  refine s_gen (P := Jv w) (jv_f_13_4 hj_37 (by have hb_ := z32 z_36; omega) (by have hb_ := z32 z_36; omega)) (fun v_38 hj_39 => ?_)
  refine s_aload_n E dX6_readBall_85 rfl rfl ?_
  refine s_vV (As := []) (S := []) E (Z_X6_takeSign_24 l D aC b v_38  hj_39.1 ) cv_X6_113 rfl rfl rfl (jv_lt hj_39 (by decide)) (Nat.le_of_ble_eq_true rfl) (Nat.le_of_ble_eq_true rfl) ⟨(Nat.le_of_ble_eq_true rfl), (Nat.le_of_ble_eq_true rfl)⟩ (Nat.le_of_ble_eq_true rfl) dX6_readBall_86 (fun u_40 hp_41 => ?_)
  have hj_42 := jv_trans hj_39 hp_41
  exact r_void E dX6_readBall_89 hj_42
set_option maxRecDepth 20000 in
set_option maxHeartbeats 2000000 in
theorem Z_X6_readLine_24 (l : Launch) (D : va_G) (aC : Nat → ClassId) (b : Nat) (w : XW)  (hI : Iv w)  : CnV l D aC b M_X6_readLine 7 266 0 0 [AR 24] w (fun u => Jv w u) := by
  refine cn_V (own := RX6) (nm := "readLine") (L0 := [some (AR 24)]) (by decide +kernel) rfl rfl (Nat.le_of_ble_eq_true rfl) rfl ?_
  intro p e s m args below meth c E hin
  have hJ : Jv w w := jv_rfl hI
  refine s_aload_n E dX6_readLine_0 rfl rfl ?_
  refine s_gR (r := 13) E fg_X6_15 rfl rfl (jv_lt hJ (by decide)) (jv_r hJ (by decide +kernel)) dX6_readLine_1 ?_
  refine s_gI E fg_X6_55 rfl rfl (jv_lt hJ (by decide)) dX6_readLine_4 ?_
  refine z_nm (P := fun z => z.toInt = (w.2.2.1 13 0).toInt ∧ (-2147483648) ≤ z.toInt ∧ z.toInt ≤ 2147483647) ⟨rfl, z32 _⟩ (fun z_1 hz_1 => ?_)
  refine z_if_ne (tgt := 17) (u := z_1.toInt) E dX6_readLine_7 (by decide) rfl (fun h_2 => ?_) (fun h_2 => ?_)
  ·
    refine s_aload_n E dX6_readLine_17 rfl rfl ?_
    refine s_ldcS (i := 5) E (by decide) rfl dX6_readLine_18 ?_
    refine s_vI (As := [AX (sA aC 5)]) (S := []) E (Z_X6_isWord_24 l D aC b w  hJ.1  5 (by decide)) cv_X6_63 rfl rfl rfl (jv_lt hJ (by decide)) (Nat.le_of_ble_eq_true rfl) (Nat.le_of_ble_eq_true rfl) ⟨(Nat.le_of_ble_eq_true rfl), (Nat.le_of_ble_eq_true rfl)⟩ (Nat.le_of_ble_eq_true rfl) dX6_readLine_20 (fun z_5 u_3 hp_4 => ?_)
    obtain ⟨hz_5, hp_4⟩ := hp_4
    subst hp_4
    refine z_if_eq (tgt := 33) (u := z_5.toInt) E dX6_readLine_23 (by decide) rfl (fun h_7 => ?_) (fun h_7 => ?_)
    ·
      refine s_aload_n E dX6_readLine_33 rfl rfl ?_
      refine s_ldcS (i := 8) E (by decide) rfl dX6_readLine_34 ?_
      refine s_vI (As := [AX (sA aC 8)]) (S := []) E (Z_X6_isWord_24 l D aC b w  hJ.1  8 (by decide)) cv_X6_63 rfl rfl rfl (jv_lt hJ (by decide)) (Nat.le_of_ble_eq_true rfl) (Nat.le_of_ble_eq_true rfl) ⟨(Nat.le_of_ble_eq_true rfl), (Nat.le_of_ble_eq_true rfl)⟩ (Nat.le_of_ble_eq_true rfl) dX6_readLine_36 (fun z_10 u_8 hp_9 => ?_)
      obtain ⟨hz_10, hp_9⟩ := hp_9
      subst hp_9
      refine z_if_eq (tgt := 49) (u := z_10.toInt) E dX6_readLine_39 (by decide) rfl (fun h_12 => ?_) (fun h_12 => ?_)
      ·
        refine s_aload_n E dX6_readLine_49 rfl rfl ?_
        refine s_ldcS (i := 10) E (by decide) rfl dX6_readLine_50 ?_
        refine s_vI (As := [AX (sA aC 10)]) (S := []) E (Z_X6_isWord_24 l D aC b w  hJ.1  10 (by decide)) cv_X6_63 rfl rfl rfl (jv_lt hJ (by decide)) (Nat.le_of_ble_eq_true rfl) (Nat.le_of_ble_eq_true rfl) ⟨(Nat.le_of_ble_eq_true rfl), (Nat.le_of_ble_eq_true rfl)⟩ (Nat.le_of_ble_eq_true rfl) dX6_readLine_52 (fun z_15 u_13 hp_14 => ?_)
        obtain ⟨hz_15, hp_14⟩ := hp_14
        subst hp_14
        refine z_if_eq (tgt := 65) (u := z_15.toInt) E dX6_readLine_55 (by decide) rfl (fun h_17 => ?_) (fun h_17 => ?_)
        ·
          refine s_aload_n E dX6_readLine_65 rfl rfl ?_
          refine s_ldcS (i := 13) E (by decide) rfl dX6_readLine_66 ?_
          refine s_vI (As := [AX (sA aC 13)]) (S := []) E (Z_X6_isWord_24 l D aC b w  hJ.1  13 (by decide)) cv_X6_63 rfl rfl rfl (jv_lt hJ (by decide)) (Nat.le_of_ble_eq_true rfl) (Nat.le_of_ble_eq_true rfl) ⟨(Nat.le_of_ble_eq_true rfl), (Nat.le_of_ble_eq_true rfl)⟩ (Nat.le_of_ble_eq_true rfl) dX6_readLine_68 (fun z_20 u_18 hp_19 => ?_)
          obtain ⟨hz_20, hp_19⟩ := hp_19
          subst hp_19
          refine z_if_eq (tgt := 81) (u := z_20.toInt) E dX6_readLine_71 (by decide) rfl (fun h_22 => ?_) (fun h_22 => ?_)
          ·
            refine s_aload_n E dX6_readLine_81 rfl rfl ?_
            refine s_iconst (v := 1) E dX6_readLine_82 (by decide) ?_
            refine s_vV (As := [AI 1]) (S := []) E (Z_X6_fail_24 l D aC b w 1 hJ.1 (by decide)) cv_X6_85 rfl rfl rfl (jv_lt hJ (by decide)) (Nat.le_of_ble_eq_true rfl) (Nat.le_of_ble_eq_true rfl) ⟨(Nat.le_of_ble_eq_true rfl), (Nat.le_of_ble_eq_true rfl)⟩ (Nat.le_of_ble_eq_true rfl) dX6_readLine_83 (fun u_23 hp_24 => ?_)
            have hc_ : (1 : Int32).toInt = 1 := by decide
            obtain ⟨hx_hp_24, hp_24⟩ := hp_24
            have hj_25 := jv_trans hJ hp_24
            refine s_aload_n E dX6_readLine_86 rfl rfl ?_
            refine s_gR (r := 13) E fg_X6_15 rfl rfl (jv_lt hj_25 (by decide)) (jv_r hj_25 (by decide +kernel)) dX6_readLine_87 ?_
            refine s_dupR E dX6_readLine_90 ?_
            refine s_gI E fg_X6_55 rfl rfl (jv_lt hj_25 (by decide)) dX6_readLine_91 ?_
            refine z_nm (P := fun z => z.toInt = (u_23.2.2.1 13 0).toInt ∧ (-2147483648) ≤ z.toInt ∧ z.toInt ≤ 2147483647) ⟨rfl, z32 _⟩ (fun z_26 hz_26 => ?_)
            refine s_iconst (v := 1) E dX6_readLine_94 (by decide) ?_
            refine s_iadd E dX6_readLine_95 ?_
            refine z_nm (P := fun z => (-2147483648) ≤ z.toInt ∧ z.toInt ≤ 2147483647) (z32 _) (fun z_27 hz_27 => ?_)
            refine s_pI E fp_X6_55 (Or.inl rfl) rfl (jv_lt hj_25 (by decide)) dX6_readLine_96 ?_
            refine s_gen (P := Jv w) (jv_f_13_0 hj_25 (by have hb_ := z32 z_27; omega) (by have hb_ := z32 z_27; omega)) (fun v_28 hj_29 => ?_)
            exact r_void E dX6_readLine_99 hj_29
          ·
            refine s_aload_n E dX6_readLine_74 rfl rfl ?_
            refine s_vV (As := []) (S := []) E (Z_X6_readBid_24 l D aC b w  hJ.1 ) cv_X6_82 rfl rfl rfl (jv_lt hJ (by decide)) (Nat.le_of_ble_eq_true rfl) (Nat.le_of_ble_eq_true rfl) ⟨(Nat.le_of_ble_eq_true rfl), (Nat.le_of_ble_eq_true rfl)⟩ (Nat.le_of_ble_eq_true rfl) dX6_readLine_75 (fun u_30 hp_31 => ?_)
            have hj_32 := jv_trans hJ hp_31
            refine s_goto (tgt := 86) E dX6_readLine_78 (by decide) ?_
            refine s_aload_n E dX6_readLine_86 rfl rfl ?_
            refine s_gR (r := 13) E fg_X6_15 rfl rfl (jv_lt hj_32 (by decide)) (jv_r hj_32 (by decide +kernel)) dX6_readLine_87 ?_
            refine s_dupR E dX6_readLine_90 ?_
            refine s_gI E fg_X6_55 rfl rfl (jv_lt hj_32 (by decide)) dX6_readLine_91 ?_
            refine z_nm (P := fun z => z.toInt = (u_30.2.2.1 13 0).toInt ∧ (-2147483648) ≤ z.toInt ∧ z.toInt ≤ 2147483647) ⟨rfl, z32 _⟩ (fun z_33 hz_33 => ?_)
            refine s_iconst (v := 1) E dX6_readLine_94 (by decide) ?_
            refine s_iadd E dX6_readLine_95 ?_
            refine z_nm (P := fun z => (-2147483648) ≤ z.toInt ∧ z.toInt ≤ 2147483647) (z32 _) (fun z_34 hz_34 => ?_)
            refine s_pI E fp_X6_55 (Or.inl rfl) rfl (jv_lt hj_32 (by decide)) dX6_readLine_96 ?_
            refine s_gen (P := Jv w) (jv_f_13_0 hj_32 (by have hb_ := z32 z_34; omega) (by have hb_ := z32 z_34; omega)) (fun v_35 hj_36 => ?_)
            exact r_void E dX6_readLine_99 hj_36
        ·
          refine s_aload_n E dX6_readLine_58 rfl rfl ?_
          refine s_vV (As := []) (S := []) E (Z_X6_readMinister_24 l D aC b w  hJ.1 ) cv_X6_77 rfl rfl rfl (jv_lt hJ (by decide)) (Nat.le_of_ble_eq_true rfl) (Nat.le_of_ble_eq_true rfl) ⟨(Nat.le_of_ble_eq_true rfl), (Nat.le_of_ble_eq_true rfl)⟩ (Nat.le_of_ble_eq_true rfl) dX6_readLine_59 (fun u_37 hp_38 => ?_)
          have hj_39 := jv_trans hJ hp_38
          refine s_goto (tgt := 86) E dX6_readLine_62 (by decide) ?_
          refine s_aload_n E dX6_readLine_86 rfl rfl ?_
          refine s_gR (r := 13) E fg_X6_15 rfl rfl (jv_lt hj_39 (by decide)) (jv_r hj_39 (by decide +kernel)) dX6_readLine_87 ?_
          refine s_dupR E dX6_readLine_90 ?_
          refine s_gI E fg_X6_55 rfl rfl (jv_lt hj_39 (by decide)) dX6_readLine_91 ?_
          refine z_nm (P := fun z => z.toInt = (u_37.2.2.1 13 0).toInt ∧ (-2147483648) ≤ z.toInt ∧ z.toInt ≤ 2147483647) ⟨rfl, z32 _⟩ (fun z_40 hz_40 => ?_)
          refine s_iconst (v := 1) E dX6_readLine_94 (by decide) ?_
          refine s_iadd E dX6_readLine_95 ?_
          refine z_nm (P := fun z => (-2147483648) ≤ z.toInt ∧ z.toInt ≤ 2147483647) (z32 _) (fun z_41 hz_41 => ?_)
          refine s_pI E fp_X6_55 (Or.inl rfl) rfl (jv_lt hj_39 (by decide)) dX6_readLine_96 ?_
          refine s_gen (P := Jv w) (jv_f_13_0 hj_39 (by have hb_ := z32 z_41; omega) (by have hb_ := z32 z_41; omega)) (fun v_42 hj_43 => ?_)
          exact r_void E dX6_readLine_99 hj_43
      ·
        refine s_aload_n E dX6_readLine_42 rfl rfl ?_
        refine s_vV (As := []) (S := []) E (Z_X6_readLady_24 l D aC b w  hJ.1 ) cv_X6_72 rfl rfl rfl (jv_lt hJ (by decide)) (Nat.le_of_ble_eq_true rfl) (Nat.le_of_ble_eq_true rfl) ⟨(Nat.le_of_ble_eq_true rfl), (Nat.le_of_ble_eq_true rfl)⟩ (Nat.le_of_ble_eq_true rfl) dX6_readLine_43 (fun u_44 hp_45 => ?_)
        have hj_46 := jv_trans hJ hp_45
        refine s_goto (tgt := 86) E dX6_readLine_46 (by decide) ?_
        refine s_aload_n E dX6_readLine_86 rfl rfl ?_
        refine s_gR (r := 13) E fg_X6_15 rfl rfl (jv_lt hj_46 (by decide)) (jv_r hj_46 (by decide +kernel)) dX6_readLine_87 ?_
        refine s_dupR E dX6_readLine_90 ?_
        refine s_gI E fg_X6_55 rfl rfl (jv_lt hj_46 (by decide)) dX6_readLine_91 ?_
        refine z_nm (P := fun z => z.toInt = (u_44.2.2.1 13 0).toInt ∧ (-2147483648) ≤ z.toInt ∧ z.toInt ≤ 2147483647) ⟨rfl, z32 _⟩ (fun z_47 hz_47 => ?_)
        refine s_iconst (v := 1) E dX6_readLine_94 (by decide) ?_
        refine s_iadd E dX6_readLine_95 ?_
        refine z_nm (P := fun z => (-2147483648) ≤ z.toInt ∧ z.toInt ≤ 2147483647) (z32 _) (fun z_48 hz_48 => ?_)
        refine s_pI E fp_X6_55 (Or.inl rfl) rfl (jv_lt hj_46 (by decide)) dX6_readLine_96 ?_
        refine s_gen (P := Jv w) (jv_f_13_0 hj_46 (by have hb_ := z32 z_48; omega) (by have hb_ := z32 z_48; omega)) (fun v_49 hj_50 => ?_)
        exact r_void E dX6_readLine_99 hj_50
    ·
      refine s_aload_n E dX6_readLine_26 rfl rfl ?_
      refine s_vV (As := []) (S := []) E (Z_X6_readDoor_24 l D aC b w  hJ.1 ) cv_X6_67 rfl rfl rfl (jv_lt hJ (by decide)) (Nat.le_of_ble_eq_true rfl) (Nat.le_of_ble_eq_true rfl) ⟨(Nat.le_of_ble_eq_true rfl), (Nat.le_of_ble_eq_true rfl)⟩ (Nat.le_of_ble_eq_true rfl) dX6_readLine_27 (fun u_51 hp_52 => ?_)
      have hj_53 := jv_trans hJ hp_52
      refine s_goto (tgt := 86) E dX6_readLine_30 (by decide) ?_
      refine s_aload_n E dX6_readLine_86 rfl rfl ?_
      refine s_gR (r := 13) E fg_X6_15 rfl rfl (jv_lt hj_53 (by decide)) (jv_r hj_53 (by decide +kernel)) dX6_readLine_87 ?_
      refine s_dupR E dX6_readLine_90 ?_
      refine s_gI E fg_X6_55 rfl rfl (jv_lt hj_53 (by decide)) dX6_readLine_91 ?_
      refine z_nm (P := fun z => z.toInt = (u_51.2.2.1 13 0).toInt ∧ (-2147483648) ≤ z.toInt ∧ z.toInt ≤ 2147483647) ⟨rfl, z32 _⟩ (fun z_54 hz_54 => ?_)
      refine s_iconst (v := 1) E dX6_readLine_94 (by decide) ?_
      refine s_iadd E dX6_readLine_95 ?_
      refine z_nm (P := fun z => (-2147483648) ≤ z.toInt ∧ z.toInt ≤ 2147483647) (z32 _) (fun z_55 hz_55 => ?_)
      refine s_pI E fp_X6_55 (Or.inl rfl) rfl (jv_lt hj_53 (by decide)) dX6_readLine_96 ?_
      refine s_gen (P := Jv w) (jv_f_13_0 hj_53 (by have hb_ := z32 z_55; omega) (by have hb_ := z32 z_55; omega)) (fun v_56 hj_57 => ?_)
      exact r_void E dX6_readLine_99 hj_57
  ·
    refine s_aload_n E dX6_readLine_10 rfl rfl ?_
    refine s_vV (As := []) (S := []) E (Z_X6_readBall_24 l D aC b w  hJ.1 ) cv_X6_58 rfl rfl rfl (jv_lt hJ (by decide)) (Nat.le_of_ble_eq_true rfl) (Nat.le_of_ble_eq_true rfl) ⟨(Nat.le_of_ble_eq_true rfl), (Nat.le_of_ble_eq_true rfl)⟩ (Nat.le_of_ble_eq_true rfl) dX6_readLine_11 (fun u_58 hp_59 => ?_)
    have hj_60 := jv_trans hJ hp_59
    refine s_goto (tgt := 86) E dX6_readLine_14 (by decide) ?_
    refine s_aload_n E dX6_readLine_86 rfl rfl ?_
    refine s_gR (r := 13) E fg_X6_15 rfl rfl (jv_lt hj_60 (by decide)) (jv_r hj_60 (by decide +kernel)) dX6_readLine_87 ?_
    refine s_dupR E dX6_readLine_90 ?_
    refine s_gI E fg_X6_55 rfl rfl (jv_lt hj_60 (by decide)) dX6_readLine_91 ?_
    refine z_nm (P := fun z => z.toInt = (u_58.2.2.1 13 0).toInt ∧ (-2147483648) ≤ z.toInt ∧ z.toInt ≤ 2147483647) ⟨rfl, z32 _⟩ (fun z_61 hz_61 => ?_)
    refine s_iconst (v := 1) E dX6_readLine_94 (by decide) ?_
    refine s_iadd E dX6_readLine_95 ?_
    refine z_nm (P := fun z => (-2147483648) ≤ z.toInt ∧ z.toInt ≤ 2147483647) (z32 _) (fun z_62 hz_62 => ?_)
    refine s_pI E fp_X6_55 (Or.inl rfl) rfl (jv_lt hj_60 (by decide)) dX6_readLine_96 ?_
    refine s_gen (P := Jv w) (jv_f_13_0 hj_60 (by have hb_ := z32 z_62; omega) (by have hb_ := z32 z_62; omega)) (fun v_63 hj_64 => ?_)
    exact r_void E dX6_readLine_99 hj_64
set_option maxRecDepth 20000 in
set_option maxHeartbeats 2000000 in
theorem Z_X6_read_24 (l : Launch) (D : va_G) (aC : Nat → ClassId) (b : Nat) (w : XW) (x1 : Int32) (hI : Iv w)  : CnV l D aC b M_X6_read 8 286 0 0 [AR 24, AI x1] w (fun u => Jv w u) := by
  refine cn_V (own := RX6) (nm := "read") (L0 := [some (AR 24), some (AI x1), none]) (by decide +kernel) rfl rfl (Nat.le_of_ble_eq_true rfl) rfl ?_
  intro p e s m args below meth c E hin
  have hJ : Jv w w := jv_rfl hI
  have hb_x1 := z32 x1
  refine s_aload_n E dX6_read_0 rfl rfl ?_
  refine s_iconst (v := 0) E dX6_read_1 (by decide) ?_
  refine s_iload_n E dX6_read_2 rfl rfl ?_
  refine s_aload_n E dX6_read_3 rfl rfl ?_
  refine s_gR (r := 1) E fg_X6_9 rfl rfl (jv_lt hJ (by decide)) (jv_r hJ (by decide +kernel)) dX6_read_4 ?_
  refine s_alen (v := 1000) E rfl (by decide) (jv_lt hJ (by decide)) (by decide) dX6_read_7 ?_
  refine z_min (u := x1.toInt) (v := 1000) E ⟨k_368, k_369, k_4, k_370⟩ (Nat.le_of_ble_eq_true rfl) (Nat.le_of_ble_eq_true rfl) (Nat.le_of_ble_eq_true rfl) (Nat.le_of_ble_eq_true rfl) dX6_read_8 rfl (by decide) (fun z_1 hz_1 => ?_)
  refine z_max (u := 0) (v := z_1.toInt) E ⟨k_371, k_41, k_4, k_42⟩ (Nat.le_of_ble_eq_true rfl) (Nat.le_of_ble_eq_true rfl) (Nat.le_of_ble_eq_true rfl) (Nat.le_of_ble_eq_true rfl) dX6_read_11 (by decide) rfl (fun z_2 hz_2 => ?_)
  refine s_pI E fp_X6_32 (Or.inl rfl) rfl (jv_lt hJ (by decide)) dX6_read_14 ?_
  refine s_gen (P := fun v => Jv w v ∧ (v.2.2.1 13 1).toInt = (w.2.2.1 13 1).toInt ∧ (v.2.2.1 13 2).toInt = (w.2.2.1 13 2).toInt) ⟨(jv_f_24_2 hJ (by have hb_ := z32 z_2; omega) (by have hb_ := z32 z_2; omega)), rfl, rfl⟩ (fun v_3 hj_4 => ?_)
  obtain ⟨hj_4, hk_5k0, hk_5k1⟩ := hj_4
  refine s_aload_n E dX6_read_17 rfl rfl ?_
  refine s_gR (r := 13) E fg_X6_15 rfl rfl (jv_lt hj_4 (by decide)) (jv_r hj_4 (by decide +kernel)) dX6_read_18 ?_
  refine s_vV (As := []) (S := []) E (Z_X0_clear_13 l D aC b v_3  hj_4.1 ) cv_X6_35 rfl rfl rfl (jv_lt hj_4 (by decide)) (Nat.le_of_ble_eq_true rfl) (Nat.le_of_ble_eq_true rfl) ⟨(Nat.le_of_ble_eq_true rfl), (Nat.le_of_ble_eq_true rfl)⟩ (Nat.le_of_ble_eq_true rfl) dX6_read_21 (fun u_6 hp_7 => ?_)
  obtain ⟨hx_hp_7, hp_7⟩ := hp_7
  have hj_8 := jv_trans hj_4 hp_7
  refine s_aload_n E dX6_read_24 rfl rfl ?_
  refine s_iconst (v := 0) E dX6_read_25 (by decide) ?_
  refine s_pI E fp_X6_40 (Or.inl rfl) rfl (jv_lt hj_8 (by decide)) dX6_read_26 ?_
  refine s_gen (P := fun v => Jv w v ∧ (v.2.2.1 13 1).toInt = (u_6.2.2.1 13 1).toInt ∧ (v.2.2.1 13 2).toInt = (u_6.2.2.1 13 2).toInt) ⟨(jv_f_24_6 hj_8 (by decide) (by decide) (fun h0_ => by omega)), rfl, rfl⟩ (fun v_9 hj_10 => ?_)
  obtain ⟨hj_10, hk_11k0, hk_11k1⟩ := hj_10
  refine s_aload_n E dX6_read_29 rfl rfl ?_
  refine s_iconst (v := (-1)) E dX6_read_30 (by decide) ?_
  refine s_pI E fp_X6_19 (Or.inl rfl) rfl (jv_lt hj_10 (by decide)) dX6_read_31 ?_
  refine s_gen (P := fun v => Jv w v ∧ (v.2.2.1 13 1).toInt = (v_9.2.2.1 13 1).toInt ∧ (v.2.2.1 13 2).toInt = (v_9.2.2.1 13 2).toInt) ⟨(jv_f_24_7 hj_10 (by decide) (by decide)), rfl, rfl⟩ (fun v_12 hj_13 => ?_)
  obtain ⟨hj_13, hk_14k0, hk_14k1⟩ := hj_13
  refine s_aload_n E dX6_read_34 rfl rfl ?_
  refine s_iconst (v := 0) E dX6_read_35 (by decide) ?_
  refine s_pI E fp_X6_43 (Or.inl rfl) rfl (jv_lt hj_13 (by decide)) dX6_read_36 ?_
  refine s_gen (P := fun v => Jv w v ∧ (v.2.2.1 13 1).toInt = (v_12.2.2.1 13 1).toInt ∧ (v.2.2.1 13 2).toInt = (v_12.2.2.1 13 2).toInt) ⟨(jv_f_24_5 hj_13 (by decide) (by decide)), rfl, rfl⟩ (fun v_15 hj_16 => ?_)
  obtain ⟨hj_16, hk_17k0, hk_17k1⟩ := hj_16
  refine s_aload_n E dX6_read_39 rfl rfl ?_
  refine s_vV (As := []) (S := []) E (Z_X6_nextToken_24 l D aC b v_15  hj_16.1 ) cv_X6_46 rfl rfl rfl (jv_lt hj_16 (by decide)) (Nat.le_of_ble_eq_true rfl) (Nat.le_of_ble_eq_true rfl) ⟨(Nat.le_of_ble_eq_true rfl), (Nat.le_of_ble_eq_true rfl)⟩ (Nat.le_of_ble_eq_true rfl) dX6_read_40 (fun u_18 hp_19 => ?_)
  obtain ⟨hx_hp_19, hp_19⟩ := hp_19
  have hj_20 := jv_trans hj_16 hp_19
  refine s_iconst (v := 0) E dX6_read_43 (by decide) ?_
  refine s_istore_n (L2 := [some (AR 24), some (AI x1), some (AI 0)]) E dX6_read_44 rfl (by decide) rfl ?_
  refine z_loop (St := Int32) (Pi := fun q45_2_20 v45 => (0 ≤ q45_2_20.toInt ∧ q45_2_20.toInt ≤ 1000) ∧ Jv w v45) (Lf := fun q45_2_20 => [some (AR 24), some (AI x1), some (AI q45_2_20)]) (fun q45_2_20 _ => (1001 - q45_2_20.toInt).toNat) 0 ⟨⟨by decide, by decide⟩, hj_20⟩ ?_
  rintro q45_2_20 v45 ⟨hq45_2, hj_21⟩ ih45
  refine s_loc (L2 := [some (AR 24), some (AI x1), some (AI q45_2_20)]) rfl ?_
  refine s_iload_n E dX6_read_45 rfl rfl ?_
  refine s_aload_n E dX6_read_46 rfl rfl ?_
  refine s_gI E fg_X6_32 rfl rfl (jv_lt hj_21 (by decide)) dX6_read_47 ?_
  refine z_nm (P := fun z => z.toInt = (v45.2.2.1 24 2).toInt ∧ 0 ≤ z.toInt ∧ z.toInt ≤ 1000) ⟨rfl, (rg_24_2 hj_21)⟩ (fun z_22 hz_22 => ?_)
  refine z_icmp_ge (tgt := 77) (u := q45_2_20.toInt) (v := z_22.toInt) E dX6_read_50 (by decide) rfl rfl (fun h_23 => ?_) (fun h_23 => ?_)
  ·
    exact r_void E dX6_read_77 hj_21
  ·
    refine s_aload_n E dX6_read_53 rfl rfl ?_
    refine s_gI E fg_X6_40 rfl rfl (jv_lt hj_21 (by decide)) dX6_read_54 ?_
    refine z_nm (P := fun z => z.toInt = (v45.2.2.1 24 6).toInt ∧ 0 ≤ z.toInt ∧ z.toInt ≤ 3) ⟨rfl, (rg_24_6 hj_21)⟩ (fun z_24 hz_24 => ?_)
    refine z_if_ne (tgt := 77) (u := z_24.toInt) E dX6_read_57 (by decide) rfl (fun h_25 => ?_) (fun h_25 => ?_)
    ·
      exact r_void E dX6_read_77 hj_21
    ·
      refine s_aload_n E dX6_read_60 rfl rfl ?_
      refine s_gI E fg_X6_49 rfl rfl (jv_lt hj_21 (by decide)) dX6_read_61 ?_
      refine z_nm (P := fun z => z.toInt = (v45.2.2.1 24 3).toInt ∧ 0 ≤ z.toInt ∧ z.toInt ≤ 4) ⟨rfl, (rg_24_3 hj_21)⟩ (fun z_26 hz_26 => ?_)
      refine z_if_eq (tgt := 77) (u := z_26.toInt) E dX6_read_64 (by decide) rfl (fun h_27 => ?_) (fun h_27 => ?_)
      ·
        exact r_void E dX6_read_77 hj_21
      ·
        refine s_aload_n E dX6_read_67 rfl rfl ?_
        refine s_vV (As := []) (S := []) E (Z_X6_readLine_24 l D aC b v45  hj_21.1 ) cv_X6_52 rfl rfl rfl (jv_lt hj_21 (by decide)) (Nat.le_of_ble_eq_true rfl) (Nat.le_of_ble_eq_true rfl) ⟨(Nat.le_of_ble_eq_true rfl), (Nat.le_of_ble_eq_true rfl)⟩ (Nat.le_of_ble_eq_true rfl) dX6_read_68 (fun u_28 hp_29 => ?_)
        have hj_30 := jv_trans hj_21 hp_29
        refine z_iinc (u := q45_2_20.toInt) (L2 := fun z_31 => [some (AR 24), some (AI x1), some (AI z_31)]) E dX6_read_71 rfl rfl (by decide) (fun _ => rfl) (by decide) (by omega) (by omega) (fun z_31 hz_31 => ?_)
        refine s_goto (tgt := 45) E dX6_read_74 (by decide) ?_
        exact ih45 z_31 u_28 ⟨⟨by have hb_ := z32 z_31; omega, by have hb_ := z32 z_31; omega⟩, hj_30⟩ (by first | omega | decide | (dsimp only; omega) | (dsimp only; decide))
set_option maxRecDepth 20000 in
set_option maxHeartbeats 2000000 in
theorem Z_X8_copyFrom_3_r14 (l : Launch) (D : va_G) (aC : Nat → ClassId) (b : Nat) (w : XW)  (hI : Iv w)  : CnV l D aC b M_X8_copyFrom 1 60 0 0 [AR 3, AR 14] w (fun u => Jv w u) := by
  refine cn_V (own := RX8) (nm := "copyFrom") (L0 := [some (AR 3), some (AR 14)]) (by decide +kernel) rfl rfl (Nat.le_of_ble_eq_true rfl) rfl ?_
  intro p e s m args below meth c E hin
  have hJ : Jv w w := jv_rfl hI
  refine s_aload_n E dX8_copyFrom_0 rfl rfl ?_
  refine s_gR (r := 15) E fg_X8_24 rfl rfl (jv_lt hJ (by decide)) (jv_r hJ (by decide +kernel)) dX8_copyFrom_1 ?_
  refine s_iconst (v := 0) E dX8_copyFrom_4 (by decide) ?_
  refine s_aload_n E dX8_copyFrom_5 rfl rfl ?_
  refine s_gR (r := 4) E fg_X8_24 rfl rfl (jv_lt hJ (by decide)) (jv_r hJ (by decide +kernel)) dX8_copyFrom_6 ?_
  refine s_iconst (v := 0) E dX8_copyFrom_9 (by decide) ?_
  refine s_aload_n E dX8_copyFrom_10 rfl rfl ?_
  refine s_gR (r := 4) E fg_X8_24 rfl rfl (jv_lt hJ (by decide)) (jv_r hJ (by decide +kernel)) dX8_copyFrom_11 ?_
  refine s_alen (v := 36) E rfl (by decide) (jv_lt hJ (by decide)) (by decide) dX8_copyFrom_14 ?_
  refine s_aload_n E dX8_copyFrom_15 rfl rfl ?_
  refine s_gR (r := 15) E fg_X8_24 rfl rfl (jv_lt hJ (by decide)) (jv_r hJ (by decide +kernel)) dX8_copyFrom_16 ?_
  refine s_alen (v := 36) E rfl (by decide) (jv_lt hJ (by decide)) (by decide) dX8_copyFrom_19 ?_
  refine z_min (u := 36) (v := 36) E ⟨k_535, k_369, k_4, k_370⟩ (Nat.le_of_ble_eq_true rfl) (Nat.le_of_ble_eq_true rfl) (Nat.le_of_ble_eq_true rfl) (Nat.le_of_ble_eq_true rfl) dX8_copyFrom_20 (by decide) (by decide) (fun z_1 hz_1 => ?_)
  refine z_copy100 (S := []) (u1 := 0) (u2 := 0) (u3 := z_1.toInt) E k_536 k_538 k_537 k_17 rfl rfl (jv_lt hJ (by decide)) (jv_lt hJ (by decide)) (by decide) (by decide) rfl (by omega) (by omega) (by omega) (by omega) (by omega) (Nat.le_of_ble_eq_true rfl) (Nat.le_of_ble_eq_true rfl) dX8_copyFrom_23 ?_
  refine s_gen (P := Jv w) (jv_c_15_4 hJ) (fun v_2 hj_3 => ?_)
  refine s_aload_n E dX8_copyFrom_26 rfl rfl ?_
  refine s_aload_n E dX8_copyFrom_27 rfl rfl ?_
  refine s_gI E fg_X8_28 rfl rfl (jv_lt hj_3 (by decide)) dX8_copyFrom_28 ?_
  refine z_nm (P := fun z => z.toInt = (v_2.2.2.1 14 3).toInt ∧ 0 ≤ z.toInt ∧ z.toInt ≤ 12) ⟨rfl, (rg_14_3 hj_3)⟩ (fun z_4 hz_4 => ?_)
  refine s_pI E fp_X8_28 (Or.inl rfl) rfl (jv_lt hj_3 (by decide)) dX8_copyFrom_31 ?_
  refine s_gen (P := Jv w) (jv_f_3_3 hj_3 (by have hb_ := z32 z_4; omega) (by have hb_ := z32 z_4; omega)) (fun v_5 hj_6 => ?_)
  exact r_void E dX8_copyFrom_34 hj_6
set_option maxRecDepth 20000 in
set_option maxHeartbeats 2000000 in
theorem Z_X8_copyFrom_5_r16 (l : Launch) (D : va_G) (aC : Nat → ClassId) (b : Nat) (w : XW)  (hI : Iv w)  : CnV l D aC b M_X8_copyFrom 1 60 0 0 [AR 5, AR 16] w (fun u => Jv w u) := by
  refine cn_V (own := RX8) (nm := "copyFrom") (L0 := [some (AR 5), some (AR 16)]) (by decide +kernel) rfl rfl (Nat.le_of_ble_eq_true rfl) rfl ?_
  intro p e s m args below meth c E hin
  have hJ : Jv w w := jv_rfl hI
  refine s_aload_n E dX8_copyFrom_0 rfl rfl ?_
  refine s_gR (r := 17) E fg_X8_24 rfl rfl (jv_lt hJ (by decide)) (jv_r hJ (by decide +kernel)) dX8_copyFrom_1 ?_
  refine s_iconst (v := 0) E dX8_copyFrom_4 (by decide) ?_
  refine s_aload_n E dX8_copyFrom_5 rfl rfl ?_
  refine s_gR (r := 6) E fg_X8_24 rfl rfl (jv_lt hJ (by decide)) (jv_r hJ (by decide +kernel)) dX8_copyFrom_6 ?_
  refine s_iconst (v := 0) E dX8_copyFrom_9 (by decide) ?_
  refine s_aload_n E dX8_copyFrom_10 rfl rfl ?_
  refine s_gR (r := 6) E fg_X8_24 rfl rfl (jv_lt hJ (by decide)) (jv_r hJ (by decide +kernel)) dX8_copyFrom_11 ?_
  refine s_alen (v := 12) E rfl (by decide) (jv_lt hJ (by decide)) (by decide) dX8_copyFrom_14 ?_
  refine s_aload_n E dX8_copyFrom_15 rfl rfl ?_
  refine s_gR (r := 17) E fg_X8_24 rfl rfl (jv_lt hJ (by decide)) (jv_r hJ (by decide +kernel)) dX8_copyFrom_16 ?_
  refine s_alen (v := 12) E rfl (by decide) (jv_lt hJ (by decide)) (by decide) dX8_copyFrom_19 ?_
  refine z_min (u := 12) (v := 12) E ⟨k_535, k_369, k_4, k_370⟩ (Nat.le_of_ble_eq_true rfl) (Nat.le_of_ble_eq_true rfl) (Nat.le_of_ble_eq_true rfl) (Nat.le_of_ble_eq_true rfl) dX8_copyFrom_20 (by decide) (by decide) (fun z_1 hz_1 => ?_)
  refine z_copy100 (S := []) (u1 := 0) (u2 := 0) (u3 := z_1.toInt) E k_536 k_538 k_537 k_17 rfl rfl (jv_lt hJ (by decide)) (jv_lt hJ (by decide)) (by decide) (by decide) rfl (by omega) (by omega) (by omega) (by omega) (by omega) (Nat.le_of_ble_eq_true rfl) (Nat.le_of_ble_eq_true rfl) dX8_copyFrom_23 ?_
  refine s_gen (P := Jv w) (jv_c_17_6 hJ) (fun v_2 hj_3 => ?_)
  refine s_aload_n E dX8_copyFrom_26 rfl rfl ?_
  refine s_aload_n E dX8_copyFrom_27 rfl rfl ?_
  refine s_gI E fg_X8_28 rfl rfl (jv_lt hj_3 (by decide)) dX8_copyFrom_28 ?_
  refine z_nm (P := fun z => z.toInt = (v_2.2.2.1 16 3).toInt ∧ 0 ≤ z.toInt ∧ z.toInt ≤ 6) ⟨rfl, (rg_16_3 hj_3)⟩ (fun z_4 hz_4 => ?_)
  refine s_pI E fp_X8_28 (Or.inl rfl) rfl (jv_lt hj_3 (by decide)) dX8_copyFrom_31 ?_
  refine s_gen (P := Jv w) (jv_f_5_3 hj_3 (by have hb_ := z32 z_4; omega) (by have hb_ := z32 z_4; omega)) (fun v_5 hj_6 => ?_)
  exact r_void E dX8_copyFrom_34 hj_6
set_option maxRecDepth 20000 in
set_option maxHeartbeats 2000000 in
theorem Z_X8_copyFrom_7_r18 (l : Launch) (D : va_G) (aC : Nat → ClassId) (b : Nat) (w : XW)  (hI : Iv w)  : CnV l D aC b M_X8_copyFrom 1 60 0 0 [AR 7, AR 18] w (fun u => Jv w u) := by
  refine cn_V (own := RX8) (nm := "copyFrom") (L0 := [some (AR 7), some (AR 18)]) (by decide +kernel) rfl rfl (Nat.le_of_ble_eq_true rfl) rfl ?_
  intro p e s m args below meth c E hin
  have hJ : Jv w w := jv_rfl hI
  refine s_aload_n E dX8_copyFrom_0 rfl rfl ?_
  refine s_gR (r := 19) E fg_X8_24 rfl rfl (jv_lt hJ (by decide)) (jv_r hJ (by decide +kernel)) dX8_copyFrom_1 ?_
  refine s_iconst (v := 0) E dX8_copyFrom_4 (by decide) ?_
  refine s_aload_n E dX8_copyFrom_5 rfl rfl ?_
  refine s_gR (r := 8) E fg_X8_24 rfl rfl (jv_lt hJ (by decide)) (jv_r hJ (by decide +kernel)) dX8_copyFrom_6 ?_
  refine s_iconst (v := 0) E dX8_copyFrom_9 (by decide) ?_
  refine s_aload_n E dX8_copyFrom_10 rfl rfl ?_
  refine s_gR (r := 8) E fg_X8_24 rfl rfl (jv_lt hJ (by decide)) (jv_r hJ (by decide +kernel)) dX8_copyFrom_11 ?_
  refine s_alen (v := 16) E rfl (by decide) (jv_lt hJ (by decide)) (by decide) dX8_copyFrom_14 ?_
  refine s_aload_n E dX8_copyFrom_15 rfl rfl ?_
  refine s_gR (r := 19) E fg_X8_24 rfl rfl (jv_lt hJ (by decide)) (jv_r hJ (by decide +kernel)) dX8_copyFrom_16 ?_
  refine s_alen (v := 16) E rfl (by decide) (jv_lt hJ (by decide)) (by decide) dX8_copyFrom_19 ?_
  refine z_min (u := 16) (v := 16) E ⟨k_535, k_369, k_4, k_370⟩ (Nat.le_of_ble_eq_true rfl) (Nat.le_of_ble_eq_true rfl) (Nat.le_of_ble_eq_true rfl) (Nat.le_of_ble_eq_true rfl) dX8_copyFrom_20 (by decide) (by decide) (fun z_1 hz_1 => ?_)
  refine z_copy100 (S := []) (u1 := 0) (u2 := 0) (u3 := z_1.toInt) E k_536 k_538 k_537 k_17 rfl rfl (jv_lt hJ (by decide)) (jv_lt hJ (by decide)) (by decide) (by decide) rfl (by omega) (by omega) (by omega) (by omega) (by omega) (Nat.le_of_ble_eq_true rfl) (Nat.le_of_ble_eq_true rfl) dX8_copyFrom_23 ?_
  refine s_gen (P := Jv w) (jv_c_19_8 hJ) (fun v_2 hj_3 => ?_)
  refine s_aload_n E dX8_copyFrom_26 rfl rfl ?_
  refine s_aload_n E dX8_copyFrom_27 rfl rfl ?_
  refine s_gI E fg_X8_28 rfl rfl (jv_lt hj_3 (by decide)) dX8_copyFrom_28 ?_
  refine z_nm (P := fun z => z.toInt = (v_2.2.2.1 18 3).toInt ∧ 0 ≤ z.toInt ∧ z.toInt ≤ 8) ⟨rfl, (rg_18_3 hj_3)⟩ (fun z_4 hz_4 => ?_)
  refine s_pI E fp_X8_28 (Or.inl rfl) rfl (jv_lt hj_3 (by decide)) dX8_copyFrom_31 ?_
  refine s_gen (P := Jv w) (jv_f_7_3 hj_3 (by have hb_ := z32 z_4; omega) (by have hb_ := z32 z_4; omega)) (fun v_5 hj_6 => ?_)
  exact r_void E dX8_copyFrom_34 hj_6
set_option maxRecDepth 20000 in
set_option maxHeartbeats 2000000 in
theorem Z_X8_copyFrom_9_r20 (l : Launch) (D : va_G) (aC : Nat → ClassId) (b : Nat) (w : XW)  (hI : Iv w)  : CnV l D aC b M_X8_copyFrom 1 60 0 0 [AR 9, AR 20] w (fun u => Jv w u) := by
  refine cn_V (own := RX8) (nm := "copyFrom") (L0 := [some (AR 9), some (AR 20)]) (by decide +kernel) rfl rfl (Nat.le_of_ble_eq_true rfl) rfl ?_
  intro p e s m args below meth c E hin
  have hJ : Jv w w := jv_rfl hI
  refine s_aload_n E dX8_copyFrom_0 rfl rfl ?_
  refine s_gR (r := 21) E fg_X8_24 rfl rfl (jv_lt hJ (by decide)) (jv_r hJ (by decide +kernel)) dX8_copyFrom_1 ?_
  refine s_iconst (v := 0) E dX8_copyFrom_4 (by decide) ?_
  refine s_aload_n E dX8_copyFrom_5 rfl rfl ?_
  refine s_gR (r := 10) E fg_X8_24 rfl rfl (jv_lt hJ (by decide)) (jv_r hJ (by decide +kernel)) dX8_copyFrom_6 ?_
  refine s_iconst (v := 0) E dX8_copyFrom_9 (by decide) ?_
  refine s_aload_n E dX8_copyFrom_10 rfl rfl ?_
  refine s_gR (r := 10) E fg_X8_24 rfl rfl (jv_lt hJ (by decide)) (jv_r hJ (by decide +kernel)) dX8_copyFrom_11 ?_
  refine s_alen (v := 30) E rfl (by decide) (jv_lt hJ (by decide)) (by decide) dX8_copyFrom_14 ?_
  refine s_aload_n E dX8_copyFrom_15 rfl rfl ?_
  refine s_gR (r := 21) E fg_X8_24 rfl rfl (jv_lt hJ (by decide)) (jv_r hJ (by decide +kernel)) dX8_copyFrom_16 ?_
  refine s_alen (v := 30) E rfl (by decide) (jv_lt hJ (by decide)) (by decide) dX8_copyFrom_19 ?_
  refine z_min (u := 30) (v := 30) E ⟨k_535, k_369, k_4, k_370⟩ (Nat.le_of_ble_eq_true rfl) (Nat.le_of_ble_eq_true rfl) (Nat.le_of_ble_eq_true rfl) (Nat.le_of_ble_eq_true rfl) dX8_copyFrom_20 (by decide) (by decide) (fun z_1 hz_1 => ?_)
  refine z_copy100 (S := []) (u1 := 0) (u2 := 0) (u3 := z_1.toInt) E k_536 k_538 k_537 k_17 rfl rfl (jv_lt hJ (by decide)) (jv_lt hJ (by decide)) (by decide) (by decide) rfl (by omega) (by omega) (by omega) (by omega) (by omega) (Nat.le_of_ble_eq_true rfl) (Nat.le_of_ble_eq_true rfl) dX8_copyFrom_23 ?_
  refine s_gen (P := Jv w) (jv_c_21_10 hJ) (fun v_2 hj_3 => ?_)
  refine s_aload_n E dX8_copyFrom_26 rfl rfl ?_
  refine s_aload_n E dX8_copyFrom_27 rfl rfl ?_
  refine s_gI E fg_X8_28 rfl rfl (jv_lt hj_3 (by decide)) dX8_copyFrom_28 ?_
  refine z_nm (P := fun z => z.toInt = (v_2.2.2.1 20 3).toInt ∧ 0 ≤ z.toInt ∧ z.toInt ≤ 10) ⟨rfl, (rg_20_3 hj_3)⟩ (fun z_4 hz_4 => ?_)
  refine s_pI E fp_X8_28 (Or.inl rfl) rfl (jv_lt hj_3 (by decide)) dX8_copyFrom_31 ?_
  refine s_gen (P := Jv w) (jv_f_9_3 hj_3 (by have hb_ := z32 z_4; omega) (by have hb_ := z32 z_4; omega)) (fun v_5 hj_6 => ?_)
  exact r_void E dX8_copyFrom_34 hj_6
set_option maxRecDepth 20000 in
set_option maxHeartbeats 2000000 in
theorem Z_X8_copyFrom_11_r22 (l : Launch) (D : va_G) (aC : Nat → ClassId) (b : Nat) (w : XW)  (hI : Iv w)  : CnV l D aC b M_X8_copyFrom 1 60 0 0 [AR 11, AR 22] w (fun u => Jv w u) := by
  refine cn_V (own := RX8) (nm := "copyFrom") (L0 := [some (AR 11), some (AR 22)]) (by decide +kernel) rfl rfl (Nat.le_of_ble_eq_true rfl) rfl ?_
  intro p e s m args below meth c E hin
  have hJ : Jv w w := jv_rfl hI
  refine s_aload_n E dX8_copyFrom_0 rfl rfl ?_
  refine s_gR (r := 23) E fg_X8_24 rfl rfl (jv_lt hJ (by decide)) (jv_r hJ (by decide +kernel)) dX8_copyFrom_1 ?_
  refine s_iconst (v := 0) E dX8_copyFrom_4 (by decide) ?_
  refine s_aload_n E dX8_copyFrom_5 rfl rfl ?_
  refine s_gR (r := 12) E fg_X8_24 rfl rfl (jv_lt hJ (by decide)) (jv_r hJ (by decide +kernel)) dX8_copyFrom_6 ?_
  refine s_iconst (v := 0) E dX8_copyFrom_9 (by decide) ?_
  refine s_aload_n E dX8_copyFrom_10 rfl rfl ?_
  refine s_gR (r := 12) E fg_X8_24 rfl rfl (jv_lt hJ (by decide)) (jv_r hJ (by decide +kernel)) dX8_copyFrom_11 ?_
  refine s_alen (v := 120) E rfl (by decide) (jv_lt hJ (by decide)) (by decide) dX8_copyFrom_14 ?_
  refine s_aload_n E dX8_copyFrom_15 rfl rfl ?_
  refine s_gR (r := 23) E fg_X8_24 rfl rfl (jv_lt hJ (by decide)) (jv_r hJ (by decide +kernel)) dX8_copyFrom_16 ?_
  refine s_alen (v := 120) E rfl (by decide) (jv_lt hJ (by decide)) (by decide) dX8_copyFrom_19 ?_
  refine z_min (u := 120) (v := 120) E ⟨k_535, k_369, k_4, k_370⟩ (Nat.le_of_ble_eq_true rfl) (Nat.le_of_ble_eq_true rfl) (Nat.le_of_ble_eq_true rfl) (Nat.le_of_ble_eq_true rfl) dX8_copyFrom_20 (by decide) (by decide) (fun z_1 hz_1 => ?_)
  refine z_copy100 (S := []) (u1 := 0) (u2 := 0) (u3 := z_1.toInt) E k_536 k_538 k_537 k_17 rfl rfl (jv_lt hJ (by decide)) (jv_lt hJ (by decide)) (by decide) (by decide) rfl (by omega) (by omega) (by omega) (by omega) (by omega) (Nat.le_of_ble_eq_true rfl) (Nat.le_of_ble_eq_true rfl) dX8_copyFrom_23 ?_
  refine s_gen (P := Jv w) (jv_c_23_12 hJ) (fun v_2 hj_3 => ?_)
  refine s_aload_n E dX8_copyFrom_26 rfl rfl ?_
  refine s_aload_n E dX8_copyFrom_27 rfl rfl ?_
  refine s_gI E fg_X8_28 rfl rfl (jv_lt hj_3 (by decide)) dX8_copyFrom_28 ?_
  refine z_nm (P := fun z => z.toInt = (v_2.2.2.1 22 3).toInt ∧ 0 ≤ z.toInt ∧ z.toInt ≤ 30) ⟨rfl, (rg_22_3 hj_3)⟩ (fun z_4 hz_4 => ?_)
  refine s_pI E fp_X8_28 (Or.inl rfl) rfl (jv_lt hj_3 (by decide)) dX8_copyFrom_31 ?_
  refine s_gen (P := Jv w) (jv_f_11_3 hj_3 (by have hb_ := z32 z_4; omega) (by have hb_ := z32 z_4; omega)) (fun v_5 hj_6 => ?_)
  exact r_void E dX8_copyFrom_34 hj_6
set_option maxRecDepth 20000 in
set_option maxHeartbeats 2000000 in
theorem Z_X0_copyFrom_2_r13 (l : Launch) (D : va_G) (aC : Nat → ClassId) (b : Nat) (w : XW)  (hI : Iv w) (hz0 : (w.2.2.1 24 6).toInt = 0) : CnV l D aC b M_X0_copyFrom 2 81 0 0 [AR 2, AR 13] w (fun u => Jv w u) := by
  refine cn_V (own := RX0) (nm := "copyFrom") (L0 := [some (AR 2), some (AR 13)]) (by decide +kernel) rfl rfl (Nat.le_of_ble_eq_true rfl) rfl ?_
  intro p e s m args below meth c E hin
  have hJ : Jv w w := jv_rfl hI
  refine s_aload_n E dX0_copyFrom_0 rfl rfl ?_
  refine s_aload_n E dX0_copyFrom_1 rfl rfl ?_
  refine s_gI E fg_X0_32 rfl rfl (jv_lt hJ (by decide)) dX0_copyFrom_2 ?_
  refine z_nm (P := fun z => z.toInt = (w.2.2.1 13 0).toInt ∧ (-2147483648) ≤ z.toInt ∧ z.toInt ≤ 2147483647) ⟨rfl, z32 _⟩ (fun z_1 hz_1 => ?_)
  refine s_pI E fp_X0_32 (Or.inl rfl) rfl (jv_lt hJ (by decide)) dX0_copyFrom_5 ?_
  refine s_gen (P := fun v => Jv w v ∧ (v.2.2.1 24 6).toInt = (w.2.2.1 24 6).toInt) ⟨(jv_f_2_0 hJ (by have hb_ := z32 z_1; omega) (by have hb_ := z32 z_1; omega)), rfl⟩ (fun v_2 hj_3 => ?_)
  obtain ⟨hj_3, hk_4k0⟩ := hj_3
  refine s_aload_n E dX0_copyFrom_8 rfl rfl ?_
  refine s_aload_n E dX0_copyFrom_9 rfl rfl ?_
  refine s_gI E fg_X0_36 rfl rfl (jv_lt hj_3 (by decide)) dX0_copyFrom_10 ?_
  refine z_nm (P := fun z => z.toInt = (v_2.2.2.1 13 1).toInt ∧ 0 ≤ z.toInt ∧ z.toInt ≤ 8) ⟨rfl, (dz_1 hj_3 (by omega))⟩ (fun z_5 hz_5 => ?_)
  refine s_pI E fp_X0_36 (Or.inl rfl) rfl (jv_lt hj_3 (by decide)) dX0_copyFrom_13 ?_
  refine s_gen (P := fun v => Jv w v ∧ (v.2.2.1 24 6).toInt = (v_2.2.2.1 24 6).toInt ∧ (v.2.2.1 13 1).toInt = (v_2.2.2.1 13 1).toInt) ⟨(jv_f_2_1 hj_3 (by have hb_ := z32 z_5; omega) (by have hb_ := z32 z_5; omega)), rfl, rfl⟩ (fun v_6 hj_7 => ?_)
  obtain ⟨hj_7, hk_8k0, hk_8k1⟩ := hj_7
  refine s_aload_n E dX0_copyFrom_16 rfl rfl ?_
  refine s_aload_n E dX0_copyFrom_17 rfl rfl ?_
  refine s_gI E fg_X0_39 rfl rfl (jv_lt hj_7 (by decide)) dX0_copyFrom_18 ?_
  refine z_nm (P := fun z => z.toInt = (v_6.2.2.1 13 2).toInt ∧ 0 ≤ z.toInt ∧ z.toInt ≤ 14) ⟨rfl, (dz_2 hj_7 (by omega))⟩ (fun z_9 hz_9 => ?_)
  refine s_pI E fp_X0_39 (Or.inl rfl) rfl (jv_lt hj_7 (by decide)) dX0_copyFrom_21 ?_
  refine s_gen (P := fun v => Jv w v ∧ (v.2.2.1 24 6).toInt = (v_6.2.2.1 24 6).toInt ∧ (v.2.2.1 13 1).toInt = (v_6.2.2.1 13 1).toInt ∧ (v.2.2.1 13 2).toInt = (v_6.2.2.1 13 2).toInt) ⟨(jv_f_2_2 hj_7 (by have hb_ := z32 z_9; omega) (by have hb_ := z32 z_9; omega)), rfl, rfl, rfl⟩ (fun v_10 hj_11 => ?_)
  obtain ⟨hj_11, hk_12k0, hk_12k1, hk_12k2⟩ := hj_11
  refine s_aload_n E dX0_copyFrom_24 rfl rfl ?_
  refine s_aload_n E dX0_copyFrom_25 rfl rfl ?_
  refine s_gI E fg_X0_42 rfl rfl (jv_lt hj_11 (by decide)) dX0_copyFrom_26 ?_
  refine z_nm (P := fun z => z.toInt = (v_10.2.2.1 13 3).toInt ∧ (-2147483648) ≤ z.toInt ∧ z.toInt ≤ 2147483647) ⟨rfl, z32 _⟩ (fun z_13 hz_13 => ?_)
  refine s_pI E fp_X0_42 (Or.inl rfl) rfl (jv_lt hj_11 (by decide)) dX0_copyFrom_29 ?_
  refine s_gen (P := fun v => Jv w v ∧ (v.2.2.1 24 6).toInt = (v_10.2.2.1 24 6).toInt ∧ (v.2.2.1 13 1).toInt = (v_10.2.2.1 13 1).toInt ∧ (v.2.2.1 13 2).toInt = (v_10.2.2.1 13 2).toInt) ⟨(jv_f_2_3 hj_11 (by have hb_ := z32 z_13; omega) (by have hb_ := z32 z_13; omega)), rfl, rfl, rfl⟩ (fun v_14 hj_15 => ?_)
  obtain ⟨hj_15, hk_16k0, hk_16k1, hk_16k2⟩ := hj_15
  refine s_aload_n E dX0_copyFrom_32 rfl rfl ?_
  refine s_aload_n E dX0_copyFrom_33 rfl rfl ?_
  refine s_gI E fg_X0_45 rfl rfl (jv_lt hj_15 (by decide)) dX0_copyFrom_34 ?_
  refine z_nm (P := fun z => z.toInt = (v_14.2.2.1 13 4).toInt ∧ (-2147483648) ≤ z.toInt ∧ z.toInt ≤ 2147483647) ⟨rfl, z32 _⟩ (fun z_17 hz_17 => ?_)
  refine s_pI E fp_X0_45 (Or.inl rfl) rfl (jv_lt hj_15 (by decide)) dX0_copyFrom_37 ?_
  refine s_gen (P := fun v => Jv w v ∧ (v.2.2.1 24 6).toInt = (v_14.2.2.1 24 6).toInt ∧ (v.2.2.1 13 1).toInt = (v_14.2.2.1 13 1).toInt ∧ (v.2.2.1 13 2).toInt = (v_14.2.2.1 13 2).toInt) ⟨(jv_f_2_4 hj_15 (by have hb_ := z32 z_17; omega) (by have hb_ := z32 z_17; omega)), rfl, rfl, rfl⟩ (fun v_18 hj_19 => ?_)
  obtain ⟨hj_19, hk_20k0, hk_20k1, hk_20k2⟩ := hj_19
  refine s_aload_n E dX0_copyFrom_40 rfl rfl ?_
  refine s_gR (r := 3) E fg_X0_14 rfl rfl (jv_lt hj_19 (by decide)) (jv_r hj_19 (by decide +kernel)) dX0_copyFrom_41 ?_
  refine s_aload_n E dX0_copyFrom_44 rfl rfl ?_
  refine s_gR (r := 14) E fg_X0_14 rfl rfl (jv_lt hj_19 (by decide)) (jv_r hj_19 (by decide +kernel)) dX0_copyFrom_45 ?_
  refine s_vV (As := [AR 14]) (S := []) E (Z_X8_copyFrom_3_r14 l D aC b v_18  hj_19.1 ) cv_X0_51 rfl rfl rfl (jv_lt hj_19 (by decide)) (Nat.le_of_ble_eq_true rfl) (Nat.le_of_ble_eq_true rfl) ⟨(Nat.le_of_ble_eq_true rfl), (Nat.le_of_ble_eq_true rfl)⟩ (Nat.le_of_ble_eq_true rfl) dX0_copyFrom_48 (fun u_21 hp_22 => ?_)
  have hj_23 := jv_trans hj_19 hp_22
  refine s_aload_n E dX0_copyFrom_51 rfl rfl ?_
  refine s_gR (r := 5) E fg_X0_20 rfl rfl (jv_lt hj_23 (by decide)) (jv_r hj_23 (by decide +kernel)) dX0_copyFrom_52 ?_
  refine s_aload_n E dX0_copyFrom_55 rfl rfl ?_
  refine s_gR (r := 16) E fg_X0_20 rfl rfl (jv_lt hj_23 (by decide)) (jv_r hj_23 (by decide +kernel)) dX0_copyFrom_56 ?_
  refine s_vV (As := [AR 16]) (S := []) E (Z_X8_copyFrom_5_r16 l D aC b u_21  hj_23.1 ) cv_X0_51 rfl rfl rfl (jv_lt hj_23 (by decide)) (Nat.le_of_ble_eq_true rfl) (Nat.le_of_ble_eq_true rfl) ⟨(Nat.le_of_ble_eq_true rfl), (Nat.le_of_ble_eq_true rfl)⟩ (Nat.le_of_ble_eq_true rfl) dX0_copyFrom_59 (fun u_24 hp_25 => ?_)
  have hj_26 := jv_trans hj_23 hp_25
  refine s_aload_n E dX0_copyFrom_62 rfl rfl ?_
  refine s_gR (r := 7) E fg_X0_23 rfl rfl (jv_lt hj_26 (by decide)) (jv_r hj_26 (by decide +kernel)) dX0_copyFrom_63 ?_
  refine s_aload_n E dX0_copyFrom_66 rfl rfl ?_
  refine s_gR (r := 18) E fg_X0_23 rfl rfl (jv_lt hj_26 (by decide)) (jv_r hj_26 (by decide +kernel)) dX0_copyFrom_67 ?_
  refine s_vV (As := [AR 18]) (S := []) E (Z_X8_copyFrom_7_r18 l D aC b u_24  hj_26.1 ) cv_X0_51 rfl rfl rfl (jv_lt hj_26 (by decide)) (Nat.le_of_ble_eq_true rfl) (Nat.le_of_ble_eq_true rfl) ⟨(Nat.le_of_ble_eq_true rfl), (Nat.le_of_ble_eq_true rfl)⟩ (Nat.le_of_ble_eq_true rfl) dX0_copyFrom_70 (fun u_27 hp_28 => ?_)
  have hj_29 := jv_trans hj_26 hp_28
  refine s_aload_n E dX0_copyFrom_73 rfl rfl ?_
  refine s_gR (r := 9) E fg_X0_26 rfl rfl (jv_lt hj_29 (by decide)) (jv_r hj_29 (by decide +kernel)) dX0_copyFrom_74 ?_
  refine s_aload_n E dX0_copyFrom_77 rfl rfl ?_
  refine s_gR (r := 20) E fg_X0_26 rfl rfl (jv_lt hj_29 (by decide)) (jv_r hj_29 (by decide +kernel)) dX0_copyFrom_78 ?_
  refine s_vV (As := [AR 20]) (S := []) E (Z_X8_copyFrom_9_r20 l D aC b u_27  hj_29.1 ) cv_X0_51 rfl rfl rfl (jv_lt hj_29 (by decide)) (Nat.le_of_ble_eq_true rfl) (Nat.le_of_ble_eq_true rfl) ⟨(Nat.le_of_ble_eq_true rfl), (Nat.le_of_ble_eq_true rfl)⟩ (Nat.le_of_ble_eq_true rfl) dX0_copyFrom_81 (fun u_30 hp_31 => ?_)
  have hj_32 := jv_trans hj_29 hp_31
  refine s_aload_n E dX0_copyFrom_84 rfl rfl ?_
  refine s_gR (r := 11) E fg_X0_29 rfl rfl (jv_lt hj_32 (by decide)) (jv_r hj_32 (by decide +kernel)) dX0_copyFrom_85 ?_
  refine s_aload_n E dX0_copyFrom_88 rfl rfl ?_
  refine s_gR (r := 22) E fg_X0_29 rfl rfl (jv_lt hj_32 (by decide)) (jv_r hj_32 (by decide +kernel)) dX0_copyFrom_89 ?_
  refine s_vV (As := [AR 22]) (S := []) E (Z_X8_copyFrom_11_r22 l D aC b u_30  hj_32.1 ) cv_X0_51 rfl rfl rfl (jv_lt hj_32 (by decide)) (Nat.le_of_ble_eq_true rfl) (Nat.le_of_ble_eq_true rfl) ⟨(Nat.le_of_ble_eq_true rfl), (Nat.le_of_ble_eq_true rfl)⟩ (Nat.le_of_ble_eq_true rfl) dX0_copyFrom_92 (fun u_33 hp_34 => ?_)
  have hj_35 := jv_trans hj_32 hp_34
  exact r_void E dX0_copyFrom_95 hj_35
set_option maxRecDepth 20000 in
set_option maxHeartbeats 2000000 in
theorem Z_X8_hasCell_3 (l : Launch) (D : va_G) (aC : Nat → ClassId) (b : Nat) (w : XW) (x1 : Int32) (x2 : Int32) (hI : Iv w)  : CnI l D aC b M_X8_hasCell 0 0 0 0 [AR 3, AI x1, AI x2] w (fun r u => (0 ≤ r.toInt ∧ r.toInt ≤ 1 ∧ (r.toInt = 0 ∨ (0 ≤ x1.toInt ∧ x1.toInt ≤ 11)) ∧ (r.toInt = 0 ∨ (0 ≤ x2.toInt ∧ x2.toInt ≤ 2)) ∧ (r.toInt = 0 ∨ (1 ≤ (w.2.2.1 3 3).toInt ∧ (w.2.2.1 3 3).toInt ≤ 12))) ∧ w = u) := by
  refine cn_I (own := RX8) (nm := "hasCell") (L0 := [some (AR 3), some (AI x1), some (AI x2)]) (by decide +kernel) rfl rfl (Nat.le_of_ble_eq_true rfl) rfl ?_
  intro p e s m args below meth c E hin
  have hJ : Jv w w := jv_rfl hI
  have hb_x1 := z32 x1
  have hb_x2 := z32 x2
  refine s_iload_n E dX8_hasCell_0 rfl rfl ?_
  refine z_if_lt (tgt := 28) (u := x1.toInt) E dX8_hasCell_1 (by decide) rfl (fun h_1 => ?_) (fun h_1 => ?_)
  ·
    refine s_iconst (v := 0) E dX8_hasCell_28 (by decide) ?_
    exact r_bool E dX8_hasCell_29 (Or.inl rfl) ⟨⟨by decide, by decide, by first | (left; decide) | (right; decide) | (right; have hb_ := z32 x1; omega), by first | (left; decide) | (right; decide) | (right; have hb_ := z32 x2; omega), by first | (left; decide) | (right; decide) | (right; have hb_ := z32 (w.2.2.1 3 3); omega)⟩, rfl⟩
  ·
    refine s_iload_n E dX8_hasCell_4 rfl rfl ?_
    refine s_aload_n E dX8_hasCell_5 rfl rfl ?_
    refine s_gI E fg_X8_28 rfl rfl (jv_lt hJ (by decide)) dX8_hasCell_6 ?_
    refine z_nm (P := fun z => z.toInt = (w.2.2.1 3 3).toInt ∧ 0 ≤ z.toInt ∧ z.toInt ≤ 12) ⟨rfl, (rg_3_3 hJ)⟩ (fun z_2 hz_2 => ?_)
    refine z_icmp_ge (tgt := 28) (u := x1.toInt) (v := z_2.toInt) E dX8_hasCell_9 (by decide) rfl rfl (fun h_3 => ?_) (fun h_3 => ?_)
    ·
      refine s_iconst (v := 0) E dX8_hasCell_28 (by decide) ?_
      exact r_bool E dX8_hasCell_29 (Or.inl rfl) ⟨⟨by decide, by decide, by first | (left; decide) | (right; decide) | (right; have hb_ := z32 x1; omega), by first | (left; decide) | (right; decide) | (right; have hb_ := z32 x2; omega), by first | (left; decide) | (right; decide) | (right; have hb_ := z32 (w.2.2.1 3 3); omega)⟩, rfl⟩
    ·
      refine s_iload_n E dX8_hasCell_12 rfl rfl ?_
      refine z_if_lt (tgt := 28) (u := x2.toInt) E dX8_hasCell_13 (by decide) rfl (fun h_4 => ?_) (fun h_4 => ?_)
      ·
        refine s_iconst (v := 0) E dX8_hasCell_28 (by decide) ?_
        exact r_bool E dX8_hasCell_29 (Or.inl rfl) ⟨⟨by decide, by decide, by first | (left; decide) | (right; decide) | (right; have hb_ := z32 x1; omega), by first | (left; decide) | (right; decide) | (right; have hb_ := z32 x2; omega), by first | (left; decide) | (right; decide) | (right; have hb_ := z32 (w.2.2.1 3 3); omega)⟩, rfl⟩
      ·
        refine s_iload_n E dX8_hasCell_16 rfl rfl ?_
        refine s_aload_n E dX8_hasCell_17 rfl rfl ?_
        refine s_gI E fg_X8_21 rfl rfl (jv_lt hJ (by decide)) dX8_hasCell_18 ?_
        refine s_top (y := 3) (z_pt (by decide) (rg_3_2 hJ)) ?_
        refine z_icmp_ge (tgt := 28) (u := x2.toInt) (v := 3) E dX8_hasCell_21 (by decide) rfl (by decide) (fun h_5 => ?_) (fun h_5 => ?_)
        ·
          refine s_iconst (v := 0) E dX8_hasCell_28 (by decide) ?_
          exact r_bool E dX8_hasCell_29 (Or.inl rfl) ⟨⟨by decide, by decide, by first | (left; decide) | (right; decide) | (right; have hb_ := z32 x1; omega), by first | (left; decide) | (right; decide) | (right; have hb_ := z32 x2; omega), by first | (left; decide) | (right; decide) | (right; have hb_ := z32 (w.2.2.1 3 3); omega)⟩, rfl⟩
        ·
          refine s_iconst (v := 1) E dX8_hasCell_24 (by decide) ?_
          refine s_goto (tgt := 29) E dX8_hasCell_25 (by decide) ?_
          exact r_bool E dX8_hasCell_29 (Or.inr rfl) ⟨⟨by decide, by decide, by first | (left; decide) | (right; decide) | (right; have hb_ := z32 x1; omega), by first | (left; decide) | (right; decide) | (right; have hb_ := z32 x2; omega), by first | (left; decide) | (right; decide) | (right; have hb_ := z32 (w.2.2.1 3 3); omega)⟩, rfl⟩
set_option maxRecDepth 20000 in
set_option maxHeartbeats 2000000 in
theorem Z_X8_cell_3 (l : Launch) (D : va_G) (aC : Nat → ClassId) (b : Nat) (w : XW) (x1 : Int32) (x2 : Int32) (hI : Iv w)  : CnI l D aC b M_X8_cell 1 22 0 0 [AR 3, AI x1, AI x2] w (fun r u => ((-2147483648) ≤ r.toInt ∧ r.toInt ≤ 2147483647 ∧ (¬ r.toInt = 0 ∨ (0 ≤ x1.toInt ∧ x1.toInt ≤ 11)) ∧ (¬ r.toInt = 0 ∨ (0 ≤ x2.toInt ∧ x2.toInt ≤ 2)) ∧ (¬ r.toInt = 0 ∨ (1 ≤ (w.2.2.1 3 3).toInt ∧ (w.2.2.1 3 3).toInt ≤ 12))) ∧ w = u) := by
  refine cn_I (own := RX8) (nm := "cell") (L0 := [some (AR 3), some (AI x1), some (AI x2)]) (by decide +kernel) rfl rfl (Nat.le_of_ble_eq_true rfl) rfl ?_
  intro p e s m args below meth c E hin
  have hJ : Jv w w := jv_rfl hI
  have hb_x1 := z32 x1
  have hb_x2 := z32 x2
  refine s_aload_n E dX8_cell_0 rfl rfl ?_
  refine s_iload_n E dX8_cell_1 rfl rfl ?_
  refine s_iload_n E dX8_cell_2 rfl rfl ?_
  refine s_vI (As := [AI x1, AI x2]) (S := []) E (Z_X8_hasCell_3 l D aC b w x1 x2 hJ.1 ) cv_X8_31 rfl rfl rfl (jv_lt hJ (by decide)) (Nat.le_of_ble_eq_true rfl) (Nat.le_of_ble_eq_true rfl) ⟨(Nat.le_of_ble_eq_true rfl), (Nat.le_of_ble_eq_true rfl)⟩ (Nat.le_of_ble_eq_true rfl) dX8_cell_3 (fun z_3 u_1 hp_2 => ?_)
  obtain ⟨hz_3, hp_2⟩ := hp_2
  subst hp_2
  refine z_if_eq (tgt := 25) (u := z_3.toInt) E dX8_cell_6 (by decide) rfl (fun h_5 => ?_) (fun h_5 => ?_)
  ·
    refine s_iconst (v := (-1)) E dX8_cell_25 (by decide) ?_
    exact r_int E dX8_cell_26 ⟨⟨by decide, by decide, by first | (left; decide) | (right; decide) | (right; have hb_ := z32 x1; omega), by first | (left; decide) | (right; decide) | (right; have hb_ := z32 x2; omega), by first | (left; decide) | (right; decide) | (right; have hb_ := z32 (w.2.2.1 3 3); omega)⟩, rfl⟩
  ·
    refine s_aload_n E dX8_cell_9 rfl rfl ?_
    refine s_gR (r := 4) E fg_X8_24 rfl rfl (jv_lt hJ (by decide)) (jv_r hJ (by decide +kernel)) dX8_cell_10 ?_
    refine s_iload_n E dX8_cell_13 rfl rfl ?_
    refine s_aload_n E dX8_cell_14 rfl rfl ?_
    refine s_gI E fg_X8_21 rfl rfl (jv_lt hJ (by decide)) dX8_cell_15 ?_
    refine s_top (y := 3) (z_pt (by decide) (rg_3_2 hJ)) ?_
    refine z_imul (u := x1.toInt) (v := 3) E dX8_cell_18 rfl (by decide) (by omega) (by omega) (fun z_6 hz_6 => ?_)
    refine s_iload_n E dX8_cell_19 rfl rfl ?_
    refine z_iadd (u := z_6.toInt) (v := x2.toInt) E dX8_cell_20 rfl rfl (by omega) (by omega) (fun z_7 hz_7 => ?_)
    refine s_iald E rfl (jv_lt hJ (by decide)) (z_in (u := z_7.toInt) rfl (by omega) (by omega)) dX8_cell_21 ?_
    refine z_nm (P := fun z => (-2147483648) ≤ z.toInt ∧ z.toInt ≤ 2147483647) (z32 _) (fun z_8 hz_8 => ?_)
    refine s_goto (tgt := 26) E dX8_cell_22 (by decide) ?_
    exact r_int E dX8_cell_26 ⟨⟨by have hb_ := z32 z_8; omega, by have hb_ := z32 z_8; omega, by first | (right; decide) | (have hb_ := z32 z_8; omega) | (have hb_ := z32 z_8; have hc_ := z32 x1; omega), by first | (right; decide) | (have hb_ := z32 z_8; omega) | (have hb_ := z32 z_8; have hc_ := z32 x2; omega), by first | (right; decide) | (have hb_ := z32 z_8; omega) | (have hb_ := z32 z_8; have hc_ := z32 (w.2.2.1 3 3); omega)⟩, rfl⟩
set_option maxRecDepth 20000 in
set_option maxHeartbeats 2000000 in
theorem Z_X0_hasRoom_2 (l : Launch) (D : va_G) (aC : Nat → ClassId) (b : Nat) (w : XW) (x1 : Int32) (hI : Iv w)  : CnI l D aC b M_X0_hasRoom 0 0 0 0 [AR 2, AI x1] w (fun r u => (0 ≤ r.toInt ∧ r.toInt ≤ 1 ∧ (r.toInt = 0 ∨ (0 ≤ x1.toInt ∧ x1.toInt ≤ 7)) ∧ (r.toInt = 0 ∨ (1 ≤ (w.2.2.1 2 1).toInt ∧ (w.2.2.1 2 1).toInt ≤ 8))) ∧ w = u) := by
  refine cn_I (own := RX0) (nm := "hasRoom") (L0 := [some (AR 2), some (AI x1)]) (by decide +kernel) rfl rfl (Nat.le_of_ble_eq_true rfl) rfl ?_
  intro p e s m args below meth c E hin
  have hJ : Jv w w := jv_rfl hI
  have hb_x1 := z32 x1
  refine s_iload_n E dX0_hasRoom_0 rfl rfl ?_
  refine z_if_lt (tgt := 16) (u := x1.toInt) E dX0_hasRoom_1 (by decide) rfl (fun h_1 => ?_) (fun h_1 => ?_)
  ·
    refine s_iconst (v := 0) E dX0_hasRoom_16 (by decide) ?_
    exact r_bool E dX0_hasRoom_17 (Or.inl rfl) ⟨⟨by decide, by decide, by first | (left; decide) | (right; decide) | (right; have hb_ := z32 x1; omega), by first | (left; decide) | (right; decide) | (right; have hb_ := z32 (w.2.2.1 2 1); omega)⟩, rfl⟩
  ·
    refine s_iload_n E dX0_hasRoom_4 rfl rfl ?_
    refine s_aload_n E dX0_hasRoom_5 rfl rfl ?_
    refine s_gI E fg_X0_36 rfl rfl (jv_lt hJ (by decide)) dX0_hasRoom_6 ?_
    refine z_nm (P := fun z => z.toInt = (w.2.2.1 2 1).toInt ∧ 0 ≤ z.toInt ∧ z.toInt ≤ 8) ⟨rfl, (rg_2_1 hJ)⟩ (fun z_2 hz_2 => ?_)
    refine z_icmp_ge (tgt := 16) (u := x1.toInt) (v := z_2.toInt) E dX0_hasRoom_9 (by decide) rfl rfl (fun h_3 => ?_) (fun h_3 => ?_)
    ·
      refine s_iconst (v := 0) E dX0_hasRoom_16 (by decide) ?_
      exact r_bool E dX0_hasRoom_17 (Or.inl rfl) ⟨⟨by decide, by decide, by first | (left; decide) | (right; decide) | (right; have hb_ := z32 x1; omega), by first | (left; decide) | (right; decide) | (right; have hb_ := z32 (w.2.2.1 2 1); omega)⟩, rfl⟩
    ·
      refine s_iconst (v := 1) E dX0_hasRoom_12 (by decide) ?_
      refine s_goto (tgt := 17) E dX0_hasRoom_13 (by decide) ?_
      exact r_bool E dX0_hasRoom_17 (Or.inr rfl) ⟨⟨by decide, by decide, by first | (left; decide) | (right; decide) | (right; have hb_ := z32 x1; omega), by first | (left; decide) | (right; decide) | (right; have hb_ := z32 (w.2.2.1 2 1); omega)⟩, rfl⟩
set_option maxRecDepth 20000 in
set_option maxHeartbeats 2000000 in
theorem Z_X8_hasCell_5 (l : Launch) (D : va_G) (aC : Nat → ClassId) (b : Nat) (w : XW) (x1 : Int32) (x2 : Int32) (hI : Iv w)  : CnI l D aC b M_X8_hasCell 0 0 0 0 [AR 5, AI x1, AI x2] w (fun r u => (0 ≤ r.toInt ∧ r.toInt ≤ 1 ∧ (r.toInt = 0 ∨ (0 ≤ x1.toInt ∧ x1.toInt ≤ 5)) ∧ (r.toInt = 0 ∨ (0 ≤ x2.toInt ∧ x2.toInt ≤ 1)) ∧ (r.toInt = 0 ∨ (1 ≤ (w.2.2.1 5 3).toInt ∧ (w.2.2.1 5 3).toInt ≤ 6))) ∧ w = u) := by
  refine cn_I (own := RX8) (nm := "hasCell") (L0 := [some (AR 5), some (AI x1), some (AI x2)]) (by decide +kernel) rfl rfl (Nat.le_of_ble_eq_true rfl) rfl ?_
  intro p e s m args below meth c E hin
  have hJ : Jv w w := jv_rfl hI
  have hb_x1 := z32 x1
  have hb_x2 := z32 x2
  refine s_iload_n E dX8_hasCell_0 rfl rfl ?_
  refine z_if_lt (tgt := 28) (u := x1.toInt) E dX8_hasCell_1 (by decide) rfl (fun h_1 => ?_) (fun h_1 => ?_)
  ·
    refine s_iconst (v := 0) E dX8_hasCell_28 (by decide) ?_
    exact r_bool E dX8_hasCell_29 (Or.inl rfl) ⟨⟨by decide, by decide, by first | (left; decide) | (right; decide) | (right; have hb_ := z32 x1; omega), by first | (left; decide) | (right; decide) | (right; have hb_ := z32 x2; omega), by first | (left; decide) | (right; decide) | (right; have hb_ := z32 (w.2.2.1 5 3); omega)⟩, rfl⟩
  ·
    refine s_iload_n E dX8_hasCell_4 rfl rfl ?_
    refine s_aload_n E dX8_hasCell_5 rfl rfl ?_
    refine s_gI E fg_X8_28 rfl rfl (jv_lt hJ (by decide)) dX8_hasCell_6 ?_
    refine z_nm (P := fun z => z.toInt = (w.2.2.1 5 3).toInt ∧ 0 ≤ z.toInt ∧ z.toInt ≤ 6) ⟨rfl, (rg_5_3 hJ)⟩ (fun z_2 hz_2 => ?_)
    refine z_icmp_ge (tgt := 28) (u := x1.toInt) (v := z_2.toInt) E dX8_hasCell_9 (by decide) rfl rfl (fun h_3 => ?_) (fun h_3 => ?_)
    ·
      refine s_iconst (v := 0) E dX8_hasCell_28 (by decide) ?_
      exact r_bool E dX8_hasCell_29 (Or.inl rfl) ⟨⟨by decide, by decide, by first | (left; decide) | (right; decide) | (right; have hb_ := z32 x1; omega), by first | (left; decide) | (right; decide) | (right; have hb_ := z32 x2; omega), by first | (left; decide) | (right; decide) | (right; have hb_ := z32 (w.2.2.1 5 3); omega)⟩, rfl⟩
    ·
      refine s_iload_n E dX8_hasCell_12 rfl rfl ?_
      refine z_if_lt (tgt := 28) (u := x2.toInt) E dX8_hasCell_13 (by decide) rfl (fun h_4 => ?_) (fun h_4 => ?_)
      ·
        refine s_iconst (v := 0) E dX8_hasCell_28 (by decide) ?_
        exact r_bool E dX8_hasCell_29 (Or.inl rfl) ⟨⟨by decide, by decide, by first | (left; decide) | (right; decide) | (right; have hb_ := z32 x1; omega), by first | (left; decide) | (right; decide) | (right; have hb_ := z32 x2; omega), by first | (left; decide) | (right; decide) | (right; have hb_ := z32 (w.2.2.1 5 3); omega)⟩, rfl⟩
      ·
        refine s_iload_n E dX8_hasCell_16 rfl rfl ?_
        refine s_aload_n E dX8_hasCell_17 rfl rfl ?_
        refine s_gI E fg_X8_21 rfl rfl (jv_lt hJ (by decide)) dX8_hasCell_18 ?_
        refine s_top (y := 2) (z_pt (by decide) (rg_5_2 hJ)) ?_
        refine z_icmp_ge (tgt := 28) (u := x2.toInt) (v := 2) E dX8_hasCell_21 (by decide) rfl (by decide) (fun h_5 => ?_) (fun h_5 => ?_)
        ·
          refine s_iconst (v := 0) E dX8_hasCell_28 (by decide) ?_
          exact r_bool E dX8_hasCell_29 (Or.inl rfl) ⟨⟨by decide, by decide, by first | (left; decide) | (right; decide) | (right; have hb_ := z32 x1; omega), by first | (left; decide) | (right; decide) | (right; have hb_ := z32 x2; omega), by first | (left; decide) | (right; decide) | (right; have hb_ := z32 (w.2.2.1 5 3); omega)⟩, rfl⟩
        ·
          refine s_iconst (v := 1) E dX8_hasCell_24 (by decide) ?_
          refine s_goto (tgt := 29) E dX8_hasCell_25 (by decide) ?_
          exact r_bool E dX8_hasCell_29 (Or.inr rfl) ⟨⟨by decide, by decide, by first | (left; decide) | (right; decide) | (right; have hb_ := z32 x1; omega), by first | (left; decide) | (right; decide) | (right; have hb_ := z32 x2; omega), by first | (left; decide) | (right; decide) | (right; have hb_ := z32 (w.2.2.1 5 3); omega)⟩, rfl⟩
set_option maxRecDepth 20000 in
set_option maxHeartbeats 2000000 in
theorem Z_X8_cell_5 (l : Launch) (D : va_G) (aC : Nat → ClassId) (b : Nat) (w : XW) (x1 : Int32) (x2 : Int32) (hI : Iv w)  : CnI l D aC b M_X8_cell 1 22 0 0 [AR 5, AI x1, AI x2] w (fun r u => ((-2147483648) ≤ r.toInt ∧ r.toInt ≤ 2147483647 ∧ (¬ r.toInt = 0 ∨ (0 ≤ x1.toInt ∧ x1.toInt ≤ 5)) ∧ (¬ r.toInt = 0 ∨ (0 ≤ x2.toInt ∧ x2.toInt ≤ 1)) ∧ (¬ r.toInt = 0 ∨ (1 ≤ (w.2.2.1 5 3).toInt ∧ (w.2.2.1 5 3).toInt ≤ 6))) ∧ w = u) := by
  refine cn_I (own := RX8) (nm := "cell") (L0 := [some (AR 5), some (AI x1), some (AI x2)]) (by decide +kernel) rfl rfl (Nat.le_of_ble_eq_true rfl) rfl ?_
  intro p e s m args below meth c E hin
  have hJ : Jv w w := jv_rfl hI
  have hb_x1 := z32 x1
  have hb_x2 := z32 x2
  refine s_aload_n E dX8_cell_0 rfl rfl ?_
  refine s_iload_n E dX8_cell_1 rfl rfl ?_
  refine s_iload_n E dX8_cell_2 rfl rfl ?_
  refine s_vI (As := [AI x1, AI x2]) (S := []) E (Z_X8_hasCell_5 l D aC b w x1 x2 hJ.1 ) cv_X8_31 rfl rfl rfl (jv_lt hJ (by decide)) (Nat.le_of_ble_eq_true rfl) (Nat.le_of_ble_eq_true rfl) ⟨(Nat.le_of_ble_eq_true rfl), (Nat.le_of_ble_eq_true rfl)⟩ (Nat.le_of_ble_eq_true rfl) dX8_cell_3 (fun z_3 u_1 hp_2 => ?_)
  obtain ⟨hz_3, hp_2⟩ := hp_2
  subst hp_2
  refine z_if_eq (tgt := 25) (u := z_3.toInt) E dX8_cell_6 (by decide) rfl (fun h_5 => ?_) (fun h_5 => ?_)
  ·
    refine s_iconst (v := (-1)) E dX8_cell_25 (by decide) ?_
    exact r_int E dX8_cell_26 ⟨⟨by decide, by decide, by first | (left; decide) | (right; decide) | (right; have hb_ := z32 x1; omega), by first | (left; decide) | (right; decide) | (right; have hb_ := z32 x2; omega), by first | (left; decide) | (right; decide) | (right; have hb_ := z32 (w.2.2.1 5 3); omega)⟩, rfl⟩
  ·
    refine s_aload_n E dX8_cell_9 rfl rfl ?_
    refine s_gR (r := 6) E fg_X8_24 rfl rfl (jv_lt hJ (by decide)) (jv_r hJ (by decide +kernel)) dX8_cell_10 ?_
    refine s_iload_n E dX8_cell_13 rfl rfl ?_
    refine s_aload_n E dX8_cell_14 rfl rfl ?_
    refine s_gI E fg_X8_21 rfl rfl (jv_lt hJ (by decide)) dX8_cell_15 ?_
    refine s_top (y := 2) (z_pt (by decide) (rg_5_2 hJ)) ?_
    refine z_imul (u := x1.toInt) (v := 2) E dX8_cell_18 rfl (by decide) (by omega) (by omega) (fun z_6 hz_6 => ?_)
    refine s_iload_n E dX8_cell_19 rfl rfl ?_
    refine z_iadd (u := z_6.toInt) (v := x2.toInt) E dX8_cell_20 rfl rfl (by omega) (by omega) (fun z_7 hz_7 => ?_)
    refine s_iald E rfl (jv_lt hJ (by decide)) (z_in (u := z_7.toInt) rfl (by omega) (by omega)) dX8_cell_21 ?_
    refine z_nm (P := fun z => (-2147483648) ≤ z.toInt ∧ z.toInt ≤ 2147483647) (z32 _) (fun z_8 hz_8 => ?_)
    refine s_goto (tgt := 26) E dX8_cell_22 (by decide) ?_
    exact r_int E dX8_cell_26 ⟨⟨by have hb_ := z32 z_8; omega, by have hb_ := z32 z_8; omega, by first | (right; decide) | (have hb_ := z32 z_8; omega) | (have hb_ := z32 z_8; have hc_ := z32 x1; omega), by first | (right; decide) | (have hb_ := z32 z_8; omega) | (have hb_ := z32 z_8; have hc_ := z32 x2; omega), by first | (right; decide) | (have hb_ := z32 z_8; omega) | (have hb_ := z32 z_8; have hc_ := z32 (w.2.2.1 5 3); omega)⟩, rfl⟩
set_option maxRecDepth 20000 in
set_option maxHeartbeats 2000000 in
theorem Z_X2_openDoor_69_r2 (l : Launch) (D : va_G) (aC : Nat → ClassId) (b : Nat) (w : XW) (x1 : Int32) (x2 : Int32) (hI : Iv w)  : CnV l D aC b M_X2_openDoor 2 44 0 0 [AR 69, AR 2, AI x1, AI x2] w (fun u => Jv w u) := by
  refine cn_V (own := RX2) (nm := "openDoor") (L0 := [some (AR 69), some (AR 2), some (AI x1), some (AI x2), none, none, none]) (by decide +kernel) rfl rfl (Nat.le_of_ble_eq_true rfl) rfl ?_
  intro p e s m args below meth c E hin
  have hJ : Jv w w := jv_rfl hI
  have hb_x1 := z32 x1
  have hb_x2 := z32 x2
  refine s_aload_n E dX2_openDoor_0 rfl rfl ?_
  refine s_gR (r := 3) E fg_X2_68 rfl rfl (jv_lt hJ (by decide)) (jv_r hJ (by decide +kernel)) dX2_openDoor_1 ?_
  refine s_iload_n E dX2_openDoor_4 rfl rfl ?_
  refine s_iconst (v := 0) E dX2_openDoor_5 (by decide) ?_
  refine s_vI (As := [AI x1, AI 0]) (S := []) E (Z_X8_cell_3 l D aC b w x1 0 hJ.1 ) cv_X2_44 rfl rfl rfl (jv_lt hJ (by decide)) (Nat.le_of_ble_eq_true rfl) (Nat.le_of_ble_eq_true rfl) ⟨(Nat.le_of_ble_eq_true rfl), (Nat.le_of_ble_eq_true rfl)⟩ (Nat.le_of_ble_eq_true rfl) dX2_openDoor_6 (fun z_3 u_1 hp_2 => ?_)
  obtain ⟨hz_3, hp_2⟩ := hp_2
  subst hp_2
  refine s_istore (L2 := [some (AR 69), some (AR 2), some (AI x1), some (AI x2), some (AI z_3), none, none]) E dX2_openDoor_9 (by decide) rfl ?_
  refine s_aload_n E dX2_openDoor_11 rfl rfl ?_
  refine s_gR (r := 3) E fg_X2_68 rfl rfl (jv_lt hJ (by decide)) (jv_r hJ (by decide +kernel)) dX2_openDoor_12 ?_
  refine s_iload_n E dX2_openDoor_15 rfl rfl ?_
  refine s_iconst (v := 1) E dX2_openDoor_16 (by decide) ?_
  refine s_vI (As := [AI x1, AI 1]) (S := []) E (Z_X8_cell_3 l D aC b w x1 1 hJ.1 ) cv_X2_44 rfl rfl rfl (jv_lt hJ (by decide)) (Nat.le_of_ble_eq_true rfl) (Nat.le_of_ble_eq_true rfl) ⟨(Nat.le_of_ble_eq_true rfl), (Nat.le_of_ble_eq_true rfl)⟩ (Nat.le_of_ble_eq_true rfl) dX2_openDoor_17 (fun z_7 u_5 hp_6 => ?_)
  obtain ⟨hz_7, hp_6⟩ := hp_6
  subst hp_6
  refine s_istore (L2 := [some (AR 69), some (AR 2), some (AI x1), some (AI x2), some (AI z_3), some (AI z_7), none]) E dX2_openDoor_20 (by decide) rfl ?_
  refine s_aload_n E dX2_openDoor_22 rfl rfl ?_
  refine s_iload E dX2_openDoor_23 rfl ?_
  refine s_vI (As := [AI z_3]) (S := []) E (Z_X0_hasRoom_2 l D aC b w z_3 hJ.1 ) cv_X2_74 rfl rfl rfl (jv_lt hJ (by decide)) (Nat.le_of_ble_eq_true rfl) (Nat.le_of_ble_eq_true rfl) ⟨(Nat.le_of_ble_eq_true rfl), (Nat.le_of_ble_eq_true rfl)⟩ (Nat.le_of_ble_eq_true rfl) dX2_openDoor_25 (fun z_11 u_9 hp_10 => ?_)
  obtain ⟨hz_11, hp_10⟩ := hp_10
  subst hp_10
  refine z_if_eq (tgt := 40) (u := z_11.toInt) E dX2_openDoor_28 (by decide) rfl (fun h_13 => ?_) (fun h_13 => ?_)
  ·
    exact r_void E dX2_openDoor_40 hJ
  ·
    refine s_aload_n E dX2_openDoor_31 rfl rfl ?_
    refine s_iload E dX2_openDoor_32 rfl ?_
    refine s_vI (As := [AI z_7]) (S := []) E (Z_X0_hasRoom_2 l D aC b w z_7 hJ.1 ) cv_X2_74 rfl rfl rfl (jv_lt hJ (by decide)) (Nat.le_of_ble_eq_true rfl) (Nat.le_of_ble_eq_true rfl) ⟨(Nat.le_of_ble_eq_true rfl), (Nat.le_of_ble_eq_true rfl)⟩ (Nat.le_of_ble_eq_true rfl) dX2_openDoor_34 (fun z_16 u_14 hp_15 => ?_)
    obtain ⟨hz_16, hp_15⟩ := hp_15
    subst hp_15
    refine z_if_ne (tgt := 41) (u := z_16.toInt) E dX2_openDoor_37 (by decide) rfl (fun h_18 => ?_) (fun h_18 => ?_)
    ·
      refine s_iconst (v := 0) E dX2_openDoor_41 (by decide) ?_
      refine s_istore (L2 := [some (AR 69), some (AR 2), some (AI x1), some (AI x2), some (AI z_3), some (AI z_7), some (AI 0)]) E dX2_openDoor_42 (by decide) rfl ?_
      refine z_loop (St := Int32) (Pi := fun q44_6_18 v44 => (0 ≤ q44_6_18.toInt ∧ q44_6_18.toInt ≤ 6) ∧ (1 ≤ (v44.2.2.1 2 1).toInt ∧ (v44.2.2.1 2 1).toInt ≤ 8) ∧ Jv w v44) (Lf := fun q44_6_18 => [some (AR 69), some (AR 2), some (AI x1), some (AI x2), some (AI z_3), some (AI z_7), some (AI q44_6_18)]) (fun q44_6_18 _ => (7 - q44_6_18.toInt).toNat) 0 ⟨⟨by decide, by decide⟩, ⟨by omega, by omega⟩, hJ⟩ ?_
      rintro q44_6_18 v44 ⟨hq44_6, ha44_0, hj_19⟩ ih44
      refine s_loc (L2 := [some (AR 69), some (AR 2), some (AI x1), some (AI x2), some (AI z_3), some (AI z_7), some (AI q44_6_18)]) rfl ?_
      refine s_iload E dX2_openDoor_44 rfl ?_
      refine s_aload_n E dX2_openDoor_46 rfl rfl ?_
      refine s_gI E fg_X2_35 rfl rfl (jv_lt hj_19 (by decide)) dX2_openDoor_47 ?_
      refine z_nm (P := fun z => z.toInt = (v44.2.2.1 69 5).toInt ∧ 0 ≤ z.toInt ∧ z.toInt ≤ 6) ⟨rfl, (rg_69_5 hj_19)⟩ (fun z_20 hz_20 => ?_)
      refine z_icmp_ge (tgt := 113) (u := q44_6_18.toInt) (v := z_20.toInt) E dX2_openDoor_50 (by decide) rfl rfl (fun h_21 => ?_) (fun h_21 => ?_)
      ·
        exact r_void E dX2_openDoor_113 hj_19
      ·
        refine s_aload_n E dX2_openDoor_53 rfl rfl ?_
        refine s_gR (r := 5) E fg_X2_39 rfl rfl (jv_lt hj_19 (by decide)) (jv_r hj_19 (by decide +kernel)) dX2_openDoor_54 ?_
        refine s_iload E dX2_openDoor_57 rfl ?_
        refine s_iconst (v := 1) E dX2_openDoor_59 (by decide) ?_
        refine s_vI (As := [AI q44_6_18, AI 1]) (S := []) E (Z_X8_cell_5 l D aC b v44 q44_6_18 1 hj_19.1 ) cv_X2_44 rfl rfl rfl (jv_lt hj_19 (by decide)) (Nat.le_of_ble_eq_true rfl) (Nat.le_of_ble_eq_true rfl) ⟨(Nat.le_of_ble_eq_true rfl), (Nat.le_of_ble_eq_true rfl)⟩ (Nat.le_of_ble_eq_true rfl) dX2_openDoor_60 (fun z_24 u_22 hp_23 => ?_)
        obtain ⟨hz_24, hp_23⟩ := hp_23
        subst hp_23
        refine s_iload_n E dX2_openDoor_63 rfl rfl ?_
        refine z_icmp_gt (tgt := 107) (u := z_24.toInt) (v := x2.toInt) E dX2_openDoor_64 (by decide) rfl rfl (fun h_26 => ?_) (fun h_26 => ?_)
        ·
          refine z_iinc (u := q44_6_18.toInt) (L2 := fun z_27 => [some (AR 69), some (AR 2), some (AI x1), some (AI x2), some (AI z_3), some (AI z_7), some (AI z_27)]) E dX2_openDoor_107 rfl rfl (by decide) (fun _ => rfl) (by decide) (by omega) (by omega) (fun z_27 hz_27 => ?_)
          refine s_goto (tgt := 44) E dX2_openDoor_110 (by decide) ?_
          exact ih44 z_27 v44 ⟨⟨by have hb_ := z32 z_27; omega, by have hb_ := z32 z_27; omega⟩, ⟨by omega, by omega⟩, hj_19⟩ (by first | omega | decide | (dsimp only; omega) | (dsimp only; decide))
        ·
          refine s_aload_n E dX2_openDoor_67 rfl rfl ?_
          refine s_gR (r := 70) E fg_X2_9 rfl rfl (jv_lt hj_19 (by decide)) (jv_r hj_19 (by decide +kernel)) dX2_openDoor_68 ?_
          refine s_iload E dX2_openDoor_71 rfl ?_
          refine s_bipush (v := 8) E dX2_openDoor_73 (by decide) ?_
          refine z_imul (u := q44_6_18.toInt) (v := 8) E dX2_openDoor_75 rfl (by decide) (by omega) (by omega) (fun z_28 hz_28 => ?_)
          refine s_iload E dX2_openDoor_76 rfl ?_
          refine z_iadd (u := z_28.toInt) (v := z_3.toInt) E dX2_openDoor_78 rfl rfl (by omega) (by omega) (fun z_29 hz_29 => ?_)
          refine s_dup2 E dX2_openDoor_79 ?_
          refine s_iald E rfl (jv_lt hj_19 (by decide)) (z_in (u := z_29.toInt) rfl (by omega) (by omega)) dX2_openDoor_80 ?_
          refine z_nm (P := fun z => (-2147483648) ≤ z.toInt ∧ z.toInt ≤ 2147483647) (z32 _) (fun z_30 hz_30 => ?_)
          refine s_iconst (v := 1) E dX2_openDoor_81 (by decide) ?_
          refine s_iload E dX2_openDoor_82 rfl ?_
          refine z_shl1 7 (u := z_7.toInt) (B := 128) E dX2_openDoor_84 rfl (by omega) (by omega) (by decide) (by decide) (fun z_31 hz_31 => ?_)
          refine s_ior E dX2_openDoor_85 ?_
          refine z_nm (P := fun z => (-2147483648) ≤ z.toInt ∧ z.toInt ≤ 2147483647) (z32 _) (fun z_32 hz_32 => ?_)
          refine s_iast E rfl (jv_lt hj_19 (by decide)) (z_in (u := z_29.toInt) rfl (by omega) (by omega)) dX2_openDoor_86 ?_
          refine s_gen (P := fun v => Jv w v ∧ (v.2.2.1 2 1).toInt = (v44.2.2.1 2 1).toInt ∧ (v.2.2.1 69 5).toInt = (v44.2.2.1 69 5).toInt) ⟨(jv_a_70 hj_19 (by have hb_ := z32 z_32; omega) (by have hb_ := z32 z_32; omega)), rfl, rfl⟩ (fun v_33 hj_34 => ?_)
          obtain ⟨hj_34, hk_35k0, hk_35k1⟩ := hj_34
          refine s_aload_n E dX2_openDoor_87 rfl rfl ?_
          refine s_gR (r := 70) E fg_X2_9 rfl rfl (jv_lt hj_34 (by decide)) (jv_r hj_34 (by decide +kernel)) dX2_openDoor_88 ?_
          refine s_iload E dX2_openDoor_91 rfl ?_
          refine s_bipush (v := 8) E dX2_openDoor_93 (by decide) ?_
          refine z_imul (u := q44_6_18.toInt) (v := 8) E dX2_openDoor_95 rfl (by decide) (by omega) (by omega) (fun z_36 hz_36 => ?_)
          refine s_iload E dX2_openDoor_96 rfl ?_
          refine z_iadd (u := z_36.toInt) (v := z_7.toInt) E dX2_openDoor_98 rfl rfl (by omega) (by omega) (fun z_37 hz_37 => ?_)
          refine s_dup2 E dX2_openDoor_99 ?_
          refine s_iald E rfl (jv_lt hj_34 (by decide)) (z_in (u := z_37.toInt) rfl (by omega) (by omega)) dX2_openDoor_100 ?_
          refine z_nm (P := fun z => (-2147483648) ≤ z.toInt ∧ z.toInt ≤ 2147483647) (z32 _) (fun z_38 hz_38 => ?_)
          refine s_iconst (v := 1) E dX2_openDoor_101 (by decide) ?_
          refine s_iload E dX2_openDoor_102 rfl ?_
          refine z_shl1 7 (u := z_3.toInt) (B := 128) E dX2_openDoor_104 rfl (by omega) (by omega) (by decide) (by decide) (fun z_39 hz_39 => ?_)
          refine s_ior E dX2_openDoor_105 ?_
          refine z_nm (P := fun z => (-2147483648) ≤ z.toInt ∧ z.toInt ≤ 2147483647) (z32 _) (fun z_40 hz_40 => ?_)
          refine s_iast E rfl (jv_lt hj_34 (by decide)) (z_in (u := z_37.toInt) rfl (by omega) (by omega)) dX2_openDoor_106 ?_
          refine s_gen (P := fun v => Jv w v ∧ (v.2.2.1 2 1).toInt = (v_33.2.2.1 2 1).toInt ∧ (v.2.2.1 69 5).toInt = (v_33.2.2.1 69 5).toInt) ⟨(jv_a_70 hj_34 (by have hb_ := z32 z_40; omega) (by have hb_ := z32 z_40; omega)), rfl, rfl⟩ (fun v_41 hj_42 => ?_)
          obtain ⟨hj_42, hk_43k0, hk_43k1⟩ := hj_42
          refine z_iinc (u := q44_6_18.toInt) (L2 := fun z_44 => [some (AR 69), some (AR 2), some (AI x1), some (AI x2), some (AI z_3), some (AI z_7), some (AI z_44)]) E dX2_openDoor_107 rfl rfl (by decide) (fun _ => rfl) (by decide) (by omega) (by omega) (fun z_44 hz_44 => ?_)
          refine s_goto (tgt := 44) E dX2_openDoor_110 (by decide) ?_
          exact ih44 z_44 v_41 ⟨⟨by have hb_ := z32 z_44; omega, by have hb_ := z32 z_44; omega⟩, ⟨by omega, by omega⟩, hj_42⟩ (by first | omega | decide | (dsimp only; omega) | (dsimp only; decide))
    ·
      exact r_void E dX2_openDoor_40 hJ
set_option maxRecDepth 20000 in
set_option maxHeartbeats 2000000 in
theorem Z_X2_openDoors_69_r2 (l : Launch) (D : va_G) (aC : Nat → ClassId) (b : Nat) (w : XW) (x1 : Int32) (x2 : Int32) (hI : Iv w)  : CnV l D aC b M_X2_openDoors 3 70 0 0 [AR 69, AR 2, AI x1, AI x2] w (fun u => Jv w u) := by
  refine cn_V (own := RX2) (nm := "openDoors") (L0 := [some (AR 69), some (AR 2), some (AI x1), some (AI x2), none, none]) (by decide +kernel) rfl rfl (Nat.le_of_ble_eq_true rfl) rfl ?_
  intro p e s m args below meth c E hin
  have hJ : Jv w w := jv_rfl hI
  have hb_x1 := z32 x1
  have hb_x2 := z32 x2
  refine s_aload_n E dX2_openDoors_0 rfl rfl ?_
  refine s_aload_n E dX2_openDoors_1 rfl rfl ?_
  refine s_gR (r := 5) E fg_X2_39 rfl rfl (jv_lt hJ (by decide)) (jv_r hJ (by decide +kernel)) dX2_openDoors_2 ?_
  refine s_gI E fg_X2_57 rfl rfl (jv_lt hJ (by decide)) dX2_openDoors_5 ?_
  refine z_nm (P := fun z => z.toInt = (w.2.2.1 5 3).toInt ∧ 0 ≤ z.toInt ∧ z.toInt ≤ 6) ⟨rfl, (rg_5_3 hJ)⟩ (fun z_1 hz_1 => ?_)
  refine s_pI E fp_X2_35 (Or.inl rfl) rfl (jv_lt hJ (by decide)) dX2_openDoors_8 ?_
  refine s_gen (P := Jv w) (jv_f_69_5 hJ (by have hb_ := z32 z_1; omega) (by have hb_ := z32 z_1; omega)) (fun v_2 hj_3 => ?_)
  refine s_aload_n E dX2_openDoors_11 rfl rfl ?_
  refine s_aload_n E dX2_openDoors_12 rfl rfl ?_
  refine s_gI E fg_X2_60 rfl rfl (jv_lt hj_3 (by decide)) dX2_openDoors_13 ?_
  refine z_nm (P := fun z => z.toInt = (v_2.2.2.1 2 1).toInt ∧ 0 ≤ z.toInt ∧ z.toInt ≤ 8) ⟨rfl, (rg_2_1 hj_3)⟩ (fun z_4 hz_4 => ?_)
  refine s_pI E fp_X2_63 (Or.inl rfl) rfl (jv_lt hj_3 (by decide)) dX2_openDoors_16 ?_
  refine s_gen (P := Jv w) (jv_f_69_6 hj_3 (by have hb_ := z32 z_4; omega) (by have hb_ := z32 z_4; omega)) (fun v_5 hj_6 => ?_)
  refine s_aload_n E dX2_openDoors_19 rfl rfl ?_
  refine s_aload_n E dX2_openDoors_20 rfl rfl ?_
  refine s_gI E fg_X2_64 rfl rfl (jv_lt hj_6 (by decide)) dX2_openDoors_21 ?_
  refine z_nm (P := fun z => z.toInt = (v_5.2.2.1 2 2).toInt ∧ 0 ≤ z.toInt ∧ z.toInt ≤ 14) ⟨rfl, (rg_2_2 hj_6)⟩ (fun z_7 hz_7 => ?_)
  refine s_pI E fp_X2_67 (Or.inl rfl) rfl (jv_lt hj_6 (by decide)) dX2_openDoors_24 ?_
  refine s_gen (P := Jv w) (jv_f_69_7 hj_6 (by have hb_ := z32 z_7; omega) (by have hb_ := z32 z_7; omega)) (fun v_8 hj_9 => ?_)
  refine s_iconst (v := 0) E dX2_openDoors_27 (by decide) ?_
  refine s_istore (L2 := [some (AR 69), some (AR 2), some (AI x1), some (AI x2), some (AI 0), none]) E dX2_openDoors_28 (by decide) rfl ?_
  refine z_loop (St := Int32) (Pi := fun q30_4_9 v30 => (0 ≤ q30_4_9.toInt ∧ q30_4_9.toInt ≤ 6) ∧ Jv w v30) (Lf := fun q30_4_9 => [some (AR 69), some (AR 2), some (AI x1), some (AI x2), some (AI q30_4_9), none]) (fun q30_4_9 _ => (7 - q30_4_9.toInt).toNat) 0 ⟨⟨by decide, by decide⟩, hj_9⟩ ?_
  rintro q30_4_9 v30 ⟨hq30_4, hj_10⟩ ih30
  refine s_loc (L2 := [some (AR 69), some (AR 2), some (AI x1), some (AI x2), some (AI q30_4_9), none]) rfl ?_
  refine s_iload E dX2_openDoors_30 rfl ?_
  refine s_aload_n E dX2_openDoors_32 rfl rfl ?_
  refine s_gI E fg_X2_35 rfl rfl (jv_lt hj_10 (by decide)) dX2_openDoors_33 ?_
  refine z_nm (P := fun z => z.toInt = (v30.2.2.1 69 5).toInt ∧ 0 ≤ z.toInt ∧ z.toInt ≤ 6) ⟨rfl, (rg_69_5 hj_10)⟩ (fun z_11 hz_11 => ?_)
  refine z_icmp_ge (tgt := 80) (u := q30_4_9.toInt) (v := z_11.toInt) E dX2_openDoors_36 (by decide) rfl rfl (fun h_12 => ?_) (fun h_12 => ?_)
  ·
    refine s_iconst (v := 0) E dX2_openDoors_80 (by decide) ?_
    refine s_istore (L2 := [some (AR 69), some (AR 2), some (AI x1), some (AI x2), some (AI 0), none]) E dX2_openDoors_81 (by decide) rfl ?_
    refine z_loop (St := Int32) (Pi := fun q83_4_12 v83 => (0 ≤ q83_4_12.toInt ∧ q83_4_12.toInt ≤ 12) ∧ Jv w v83) (Lf := fun q83_4_12 => [some (AR 69), some (AR 2), some (AI x1), some (AI x2), some (AI q83_4_12), none]) (fun q83_4_12 _ => (13 - q83_4_12.toInt).toNat) 0 ⟨⟨by decide, by decide⟩, hj_10⟩ ?_
    rintro q83_4_12 v83 ⟨hq83_4, hj_13⟩ ih83
    refine s_loc (L2 := [some (AR 69), some (AR 2), some (AI x1), some (AI x2), some (AI q83_4_12), none]) rfl ?_
    refine s_iload E dX2_openDoors_83 rfl ?_
    refine s_aload_n E dX2_openDoors_85 rfl rfl ?_
    refine s_gR (r := 3) E fg_X2_68 rfl rfl (jv_lt hj_13 (by decide)) (jv_r hj_13 (by decide +kernel)) dX2_openDoors_86 ?_
    refine s_gI E fg_X2_57 rfl rfl (jv_lt hj_13 (by decide)) dX2_openDoors_89 ?_
    refine z_nm (P := fun z => z.toInt = (v83.2.2.1 3 3).toInt ∧ 0 ≤ z.toInt ∧ z.toInt ≤ 12) ⟨rfl, (rg_3_3 hj_13)⟩ (fun z_14 hz_14 => ?_)
    refine z_icmp_ge (tgt := 146) (u := q83_4_12.toInt) (v := z_14.toInt) E dX2_openDoors_92 (by decide) rfl rfl (fun h_15 => ?_) (fun h_15 => ?_)
    ·
      exact r_void E dX2_openDoors_146 hj_13
    ·
      refine s_iload E dX2_openDoors_95 rfl ?_
      refine s_iload_n E dX2_openDoors_97 rfl rfl ?_
      refine z_icmp_eq (tgt := 107) (u := q83_4_12.toInt) (v := x1.toInt) E dX2_openDoors_98 (by decide) rfl rfl (fun h_16 => ?_) (fun h_16 => ?_)
      ·
        refine s_iconst (v := 1) E dX2_openDoors_107 (by decide) ?_
        refine s_goto (tgt := 112) E dX2_openDoors_108 (by decide) ?_
        refine s_istore (L2 := [some (AR 69), some (AR 2), some (AI x1), some (AI x2), some (AI q83_4_12), some (AI 1)]) E dX2_openDoors_112 (by decide) rfl ?_
        refine s_aload_n E dX2_openDoors_114 rfl rfl ?_
        refine s_aload_n E dX2_openDoors_115 rfl rfl ?_
        refine s_iload E dX2_openDoors_116 rfl ?_
        refine s_iload E dX2_openDoors_118 rfl ?_
        refine z_if_eq (tgt := 127) (u := 1) E dX2_openDoors_120 (by decide) (by decide) (fun h_17 => absurd h_17 (by omega)) (fun h_17 => ?_)
        refine s_iload_n E dX2_openDoors_123 rfl rfl ?_
        refine s_goto (tgt := 137) E dX2_openDoors_124 (by decide) ?_
        refine s_vV (As := [AR 2, AI q83_4_12, AI x2]) (S := []) E (Z_X2_openDoor_69_r2 l D aC b v83 q83_4_12 x2 hj_13.1 ) cv_X2_71 rfl rfl rfl (jv_lt hj_13 (by decide)) (Nat.le_of_ble_eq_true rfl) (Nat.le_of_ble_eq_true rfl) ⟨(Nat.le_of_ble_eq_true rfl), (Nat.le_of_ble_eq_true rfl)⟩ (Nat.le_of_ble_eq_true rfl) dX2_openDoors_137 (fun u_18 hp_19 => ?_)
        have hj_20 := jv_trans hj_13 hp_19
        refine z_iinc (u := q83_4_12.toInt) (L2 := fun z_21 => [some (AR 69), some (AR 2), some (AI x1), some (AI x2), some (AI z_21), some (AI 1)]) E dX2_openDoors_140 rfl rfl (by decide) (fun _ => rfl) (by decide) (by omega) (by omega) (fun z_21 hz_21 => ?_)
        refine s_goto (tgt := 83) E dX2_openDoors_143 (by decide) ?_
        refine s_drop (i := 5) (L2 := [some (AR 69), some (AR 2), some (AI x1), some (AI x2), some (AI z_21), none]) rfl ?_
        exact ih83 z_21 u_18 ⟨⟨by have hb_ := z32 z_21; omega, by have hb_ := z32 z_21; omega⟩, hj_20⟩ (by first | omega | decide | (dsimp only; omega) | (dsimp only; decide))
      ·
        refine s_iload_n E dX2_openDoors_101 rfl rfl ?_
        refine s_bipush (v := (-2)) E dX2_openDoors_102 (by decide) ?_
        refine z_icmp_ne (tgt := 111) (u := x1.toInt) (v := (-2)) E dX2_openDoors_104 (by decide) rfl (by decide) (fun h_22 => ?_) (fun h_22 => ?_)
        ·
          refine s_iconst (v := 0) E dX2_openDoors_111 (by decide) ?_
          refine s_istore (L2 := [some (AR 69), some (AR 2), some (AI x1), some (AI x2), some (AI q83_4_12), some (AI 0)]) E dX2_openDoors_112 (by decide) rfl ?_
          refine s_aload_n E dX2_openDoors_114 rfl rfl ?_
          refine s_aload_n E dX2_openDoors_115 rfl rfl ?_
          refine s_iload E dX2_openDoors_116 rfl ?_
          refine s_iload E dX2_openDoors_118 rfl ?_
          refine z_if_eq (tgt := 127) (u := 0) E dX2_openDoors_120 (by decide) (by decide) (fun h_23 => ?_) (fun h_23 => absurd h_23 (by omega))
          refine s_aload_n E dX2_openDoors_127 rfl rfl ?_
          refine s_gR (r := 3) E fg_X2_68 rfl rfl (jv_lt hj_13 (by decide)) (jv_r hj_13 (by decide +kernel)) dX2_openDoors_128 ?_
          refine s_iload E dX2_openDoors_131 rfl ?_
          refine s_iconst (v := 2) E dX2_openDoors_133 (by decide) ?_
          refine s_vI (As := [AI q83_4_12, AI 2]) (S := [AI q83_4_12, AR 2, AR 69]) E (Z_X8_cell_3 l D aC b v83 q83_4_12 2 hj_13.1 ) cv_X2_44 rfl rfl rfl (jv_lt hj_13 (by decide)) (Nat.le_of_ble_eq_true rfl) (Nat.le_of_ble_eq_true rfl) ⟨(Nat.le_of_ble_eq_true rfl), (Nat.le_of_ble_eq_true rfl)⟩ (Nat.le_of_ble_eq_true rfl) dX2_openDoors_134 (fun z_26 u_24 hp_25 => ?_)
          obtain ⟨hz_26, hp_25⟩ := hp_25
          subst hp_25
          refine s_vV (As := [AR 2, AI q83_4_12, AI z_26]) (S := []) E (Z_X2_openDoor_69_r2 l D aC b v83 q83_4_12 z_26 hj_13.1 ) cv_X2_71 rfl rfl rfl (jv_lt hj_13 (by decide)) (Nat.le_of_ble_eq_true rfl) (Nat.le_of_ble_eq_true rfl) ⟨(Nat.le_of_ble_eq_true rfl), (Nat.le_of_ble_eq_true rfl)⟩ (Nat.le_of_ble_eq_true rfl) dX2_openDoors_137 (fun u_28 hp_29 => ?_)
          have hj_30 := jv_trans hj_13 hp_29
          refine z_iinc (u := q83_4_12.toInt) (L2 := fun z_31 => [some (AR 69), some (AR 2), some (AI x1), some (AI x2), some (AI z_31), some (AI 0)]) E dX2_openDoors_140 rfl rfl (by decide) (fun _ => rfl) (by decide) (by omega) (by omega) (fun z_31 hz_31 => ?_)
          refine s_goto (tgt := 83) E dX2_openDoors_143 (by decide) ?_
          refine s_drop (i := 5) (L2 := [some (AR 69), some (AR 2), some (AI x1), some (AI x2), some (AI z_31), none]) rfl ?_
          exact ih83 z_31 u_28 ⟨⟨by have hb_ := z32 z_31; omega, by have hb_ := z32 z_31; omega⟩, hj_30⟩ (by first | omega | decide | (dsimp only; omega) | (dsimp only; decide))
        ·
          refine s_iconst (v := 1) E dX2_openDoors_107 (by decide) ?_
          refine s_goto (tgt := 112) E dX2_openDoors_108 (by decide) ?_
          refine s_istore (L2 := [some (AR 69), some (AR 2), some (AI x1), some (AI x2), some (AI q83_4_12), some (AI 1)]) E dX2_openDoors_112 (by decide) rfl ?_
          refine s_aload_n E dX2_openDoors_114 rfl rfl ?_
          refine s_aload_n E dX2_openDoors_115 rfl rfl ?_
          refine s_iload E dX2_openDoors_116 rfl ?_
          refine s_iload E dX2_openDoors_118 rfl ?_
          refine z_if_eq (tgt := 127) (u := 1) E dX2_openDoors_120 (by decide) (by decide) (fun h_32 => absurd h_32 (by omega)) (fun h_32 => ?_)
          refine s_iload_n E dX2_openDoors_123 rfl rfl ?_
          refine s_goto (tgt := 137) E dX2_openDoors_124 (by decide) ?_
          refine s_vV (As := [AR 2, AI q83_4_12, AI x2]) (S := []) E (Z_X2_openDoor_69_r2 l D aC b v83 q83_4_12 x2 hj_13.1 ) cv_X2_71 rfl rfl rfl (jv_lt hj_13 (by decide)) (Nat.le_of_ble_eq_true rfl) (Nat.le_of_ble_eq_true rfl) ⟨(Nat.le_of_ble_eq_true rfl), (Nat.le_of_ble_eq_true rfl)⟩ (Nat.le_of_ble_eq_true rfl) dX2_openDoors_137 (fun u_33 hp_34 => ?_)
          have hj_35 := jv_trans hj_13 hp_34
          refine z_iinc (u := q83_4_12.toInt) (L2 := fun z_36 => [some (AR 69), some (AR 2), some (AI x1), some (AI x2), some (AI z_36), some (AI 1)]) E dX2_openDoors_140 rfl rfl (by decide) (fun _ => rfl) (by decide) (by omega) (by omega) (fun z_36 hz_36 => ?_)
          refine s_goto (tgt := 83) E dX2_openDoors_143 (by decide) ?_
          refine s_drop (i := 5) (L2 := [some (AR 69), some (AR 2), some (AI x1), some (AI x2), some (AI z_36), none]) rfl ?_
          exact ih83 z_36 u_33 ⟨⟨by have hb_ := z32 z_36; omega, by have hb_ := z32 z_36; omega⟩, hj_35⟩ (by first | omega | decide | (dsimp only; omega) | (dsimp only; decide))
  ·
    refine s_iconst (v := 0) E dX2_openDoors_39 (by decide) ?_
    refine s_istore (L2 := [some (AR 69), some (AR 2), some (AI x1), some (AI x2), some (AI q30_4_9), some (AI 0)]) E dX2_openDoors_40 (by decide) rfl ?_
    refine z_loop (St := Int32) (Pi := fun q42_5_36 v42 => (0 ≤ q42_5_36.toInt ∧ q42_5_36.toInt ≤ 8) ∧ (1 ≤ (v42.2.2.1 69 5).toInt ∧ (v42.2.2.1 69 5).toInt ≤ 6) ∧ Jv w v42) (Lf := fun q42_5_36 => [some (AR 69), some (AR 2), some (AI x1), some (AI x2), some (AI q30_4_9), some (AI q42_5_36)]) (fun q42_5_36 _ => (9 - q42_5_36.toInt).toNat) 0 ⟨⟨by decide, by decide⟩, ⟨by omega, by omega⟩, hj_10⟩ ?_
    rintro q42_5_36 v42 ⟨hq42_5, ha42_0, hj_37⟩ ih42
    refine s_loc (L2 := [some (AR 69), some (AR 2), some (AI x1), some (AI x2), some (AI q30_4_9), some (AI q42_5_36)]) rfl ?_
    refine s_iload E dX2_openDoors_42 rfl ?_
    refine s_aload_n E dX2_openDoors_44 rfl rfl ?_
    refine s_gI E fg_X2_63 rfl rfl (jv_lt hj_37 (by decide)) dX2_openDoors_45 ?_
    refine z_nm (P := fun z => z.toInt = (v42.2.2.1 69 6).toInt ∧ 0 ≤ z.toInt ∧ z.toInt ≤ 8) ⟨rfl, (rg_69_6 hj_37)⟩ (fun z_38 hz_38 => ?_)
    refine z_icmp_ge (tgt := 74) (u := q42_5_36.toInt) (v := z_38.toInt) E dX2_openDoors_48 (by decide) rfl rfl (fun h_39 => ?_) (fun h_39 => ?_)
    ·
      refine z_iinc (u := q30_4_9.toInt) (L2 := fun z_40 => [some (AR 69), some (AR 2), some (AI x1), some (AI x2), some (AI z_40), some (AI q42_5_36)]) E dX2_openDoors_74 rfl rfl (by decide) (fun _ => rfl) (by decide) (by omega) (by omega) (fun z_40 hz_40 => ?_)
      refine s_goto (tgt := 30) E dX2_openDoors_77 (by decide) ?_
      refine s_drop (i := 5) (L2 := [some (AR 69), some (AR 2), some (AI x1), some (AI x2), some (AI z_40), none]) rfl ?_
      exact ih30 z_40 v42 ⟨⟨by have hb_ := z32 z_40; omega, by have hb_ := z32 z_40; omega⟩, hj_37⟩ (by first | omega | decide | (dsimp only; omega) | (dsimp only; decide))
    ·
      refine s_aload_n E dX2_openDoors_51 rfl rfl ?_
      refine s_gR (r := 70) E fg_X2_9 rfl rfl (jv_lt hj_37 (by decide)) (jv_r hj_37 (by decide +kernel)) dX2_openDoors_52 ?_
      refine s_iload E dX2_openDoors_55 rfl ?_
      refine s_bipush (v := 8) E dX2_openDoors_57 (by decide) ?_
      refine z_imul (u := q30_4_9.toInt) (v := 8) E dX2_openDoors_59 rfl (by decide) (by omega) (by omega) (fun z_41 hz_41 => ?_)
      refine s_iload E dX2_openDoors_60 rfl ?_
      refine z_iadd (u := z_41.toInt) (v := q42_5_36.toInt) E dX2_openDoors_62 rfl rfl (by omega) (by omega) (fun z_42 hz_42 => ?_)
      refine s_iconst (v := 1) E dX2_openDoors_63 (by decide) ?_
      refine s_iload E dX2_openDoors_64 rfl ?_
      refine z_shl1 7 (u := q42_5_36.toInt) (B := 128) E dX2_openDoors_66 rfl (by omega) (by omega) (by decide) (by decide) (fun z_43 hz_43 => ?_)
      refine s_iast E rfl (jv_lt hj_37 (by decide)) (z_in (u := z_42.toInt) rfl (by omega) (by omega)) dX2_openDoors_67 ?_
      refine s_gen (P := fun v => Jv w v ∧ (v.2.2.1 69 5).toInt = (v42.2.2.1 69 5).toInt ∧ (v.2.2.1 69 6).toInt = (v42.2.2.1 69 6).toInt) ⟨(jv_a_70 hj_37 (by have hb_ := z32 z_43; omega) (by have hb_ := z32 z_43; omega)), rfl, rfl⟩ (fun v_44 hj_45 => ?_)
      obtain ⟨hj_45, hk_46k0, hk_46k1⟩ := hj_45
      refine z_iinc (u := q42_5_36.toInt) (L2 := fun z_47 => [some (AR 69), some (AR 2), some (AI x1), some (AI x2), some (AI q30_4_9), some (AI z_47)]) E dX2_openDoors_68 rfl rfl (by decide) (fun _ => rfl) (by decide) (by omega) (by omega) (fun z_47 hz_47 => ?_)
      refine s_goto (tgt := 42) E dX2_openDoors_71 (by decide) ?_
      exact ih42 z_47 v_44 ⟨⟨by have hb_ := z32 z_47; omega, by have hb_ := z32 z_47; omega⟩, ⟨by omega, by omega⟩, hj_45⟩ (by first | omega | decide | (dsimp only; omega) | (dsimp only; decide))
set_option maxRecDepth 20000 in
set_option maxHeartbeats 2000000 in
theorem Z_J7_fill_53178_r71 (l : Launch) (D : va_G) (aC : Nat → ClassId) (b : Nat) (w : XW) (x1 : Int32) (hI : Iv w)  : CnV l D aC b M_J7_fill_53178 0 0 0 0 [AR 71, AI x1] w (fun u => Jv w u) := by
  refine cn_V (own := RJ7) (nm := "fill") (L0 := [some (AR 71), some (AI x1), none, none]) (by decide +kernel) rfl rfl (Nat.le_of_ble_eq_true rfl) rfl ?_
  intro p e s m args below meth c E hin
  have hJ : Jv w w := jv_rfl hI
  have hb_x1 := z32 x1
  refine s_iconst (v := 0) E dJ7_fill_53178_0 (by decide) ?_
  refine s_istore_n (L2 := [some (AR 71), some (AI x1), some (AI 0), none]) E dJ7_fill_53178_1 rfl (by decide) rfl ?_
  refine s_aload_n E dJ7_fill_53178_2 rfl rfl ?_
  refine s_alen (v := 90) E rfl (by decide) (jv_lt hJ (by decide)) (by decide) dJ7_fill_53178_3 ?_
  refine s_istore_n (L2 := [some (AR 71), some (AI x1), some (AI 0), some (AI 90)]) E dJ7_fill_53178_4 rfl (by decide) rfl ?_
  refine z_loop (St := Int32) (Pi := fun q5_2_0 v5 => (0 ≤ q5_2_0.toInt ∧ q5_2_0.toInt ≤ 90) ∧ Jv w v5) (Lf := fun q5_2_0 => [some (AR 71), some (AI x1), some (AI q5_2_0), some (AI 90)]) (fun q5_2_0 _ => (91 - q5_2_0.toInt).toNat) 0 ⟨⟨by decide, by decide⟩, hJ⟩ ?_
  rintro q5_2_0 v5 ⟨hq5_2, hj_1⟩ ih5
  refine s_loc (L2 := [some (AR 71), some (AI x1), some (AI q5_2_0), some (AI 90)]) rfl ?_
  refine s_iload_n E dJ7_fill_53178_5 rfl rfl ?_
  refine s_iload_n E dJ7_fill_53178_6 rfl rfl ?_
  refine z_icmp_ge (tgt := 20) (u := q5_2_0.toInt) (v := 90) E dJ7_fill_53178_7 (by decide) rfl (by decide) (fun h_2 => ?_) (fun h_2 => ?_)
  ·
    exact r_void E dJ7_fill_53178_20 hj_1
  ·
    refine s_aload_n E dJ7_fill_53178_10 rfl rfl ?_
    refine s_iload_n E dJ7_fill_53178_11 rfl rfl ?_
    refine s_iload_n E dJ7_fill_53178_12 rfl rfl ?_
    refine s_iast E rfl (jv_lt hj_1 (by decide)) (z_in (u := q5_2_0.toInt) rfl (by omega) (by omega)) dJ7_fill_53178_13 ?_
    refine s_gen (P := Jv w) (jv_a_71 hj_1 (by have hb_ := z32 x1; omega) (by have hb_ := z32 x1; omega)) (fun v_3 hj_4 => ?_)
    refine z_iinc (u := q5_2_0.toInt) (L2 := fun z_5 => [some (AR 71), some (AI x1), some (AI z_5), some (AI 90)]) E dJ7_fill_53178_14 rfl rfl (by decide) (fun _ => rfl) (by decide) (by omega) (by omega) (fun z_5 hz_5 => ?_)
    refine s_goto (tgt := 5) E dJ7_fill_53178_17 (by decide) ?_
    exact ih5 z_5 v_3 ⟨⟨by have hb_ := z32 z_5; omega, by have hb_ := z32 z_5; omega⟩, hj_4⟩ (by first | omega | decide | (dsimp only; omega) | (dsimp only; decide))
set_option maxRecDepth 20000 in
set_option maxHeartbeats 2000000 in
theorem Z_J7_fill_53178_r72 (l : Launch) (D : va_G) (aC : Nat → ClassId) (b : Nat) (w : XW) (x1 : Int32) (hI : Iv w)  : CnV l D aC b M_J7_fill_53178 0 0 0 0 [AR 72, AI x1] w (fun u => Jv w u) := by
  refine cn_V (own := RJ7) (nm := "fill") (L0 := [some (AR 72), some (AI x1), none, none]) (by decide +kernel) rfl rfl (Nat.le_of_ble_eq_true rfl) rfl ?_
  intro p e s m args below meth c E hin
  have hJ : Jv w w := jv_rfl hI
  have hb_x1 := z32 x1
  refine s_iconst (v := 0) E dJ7_fill_53178_0 (by decide) ?_
  refine s_istore_n (L2 := [some (AR 72), some (AI x1), some (AI 0), none]) E dJ7_fill_53178_1 rfl (by decide) rfl ?_
  refine s_aload_n E dJ7_fill_53178_2 rfl rfl ?_
  refine s_alen (v := 90) E rfl (by decide) (jv_lt hJ (by decide)) (by decide) dJ7_fill_53178_3 ?_
  refine s_istore_n (L2 := [some (AR 72), some (AI x1), some (AI 0), some (AI 90)]) E dJ7_fill_53178_4 rfl (by decide) rfl ?_
  refine z_loop (St := Int32) (Pi := fun q5_2_0 v5 => (0 ≤ q5_2_0.toInt ∧ q5_2_0.toInt ≤ 90) ∧ Jv w v5) (Lf := fun q5_2_0 => [some (AR 72), some (AI x1), some (AI q5_2_0), some (AI 90)]) (fun q5_2_0 _ => (91 - q5_2_0.toInt).toNat) 0 ⟨⟨by decide, by decide⟩, hJ⟩ ?_
  rintro q5_2_0 v5 ⟨hq5_2, hj_1⟩ ih5
  refine s_loc (L2 := [some (AR 72), some (AI x1), some (AI q5_2_0), some (AI 90)]) rfl ?_
  refine s_iload_n E dJ7_fill_53178_5 rfl rfl ?_
  refine s_iload_n E dJ7_fill_53178_6 rfl rfl ?_
  refine z_icmp_ge (tgt := 20) (u := q5_2_0.toInt) (v := 90) E dJ7_fill_53178_7 (by decide) rfl (by decide) (fun h_2 => ?_) (fun h_2 => ?_)
  ·
    exact r_void E dJ7_fill_53178_20 hj_1
  ·
    refine s_aload_n E dJ7_fill_53178_10 rfl rfl ?_
    refine s_iload_n E dJ7_fill_53178_11 rfl rfl ?_
    refine s_iload_n E dJ7_fill_53178_12 rfl rfl ?_
    refine s_iast E rfl (jv_lt hj_1 (by decide)) (z_in (u := q5_2_0.toInt) rfl (by omega) (by omega)) dJ7_fill_53178_13 ?_
    refine s_gen (P := Jv w) (jv_a_72 hj_1 (by have hb_ := z32 x1; omega) (by have hb_ := z32 x1; omega)) (fun v_3 hj_4 => ?_)
    refine z_iinc (u := q5_2_0.toInt) (L2 := fun z_5 => [some (AR 72), some (AI x1), some (AI z_5), some (AI 90)]) E dJ7_fill_53178_14 rfl rfl (by decide) (fun _ => rfl) (by decide) (by omega) (by omega) (fun z_5 hz_5 => ?_)
    refine s_goto (tgt := 5) E dJ7_fill_53178_17 (by decide) ?_
    exact ih5 z_5 v_3 ⟨⟨by have hb_ := z32 z_5; omega, by have hb_ := z32 z_5; omega⟩, hj_4⟩ (by first | omega | decide | (dsimp only; omega) | (dsimp only; decide))
set_option maxRecDepth 20000 in
set_option maxHeartbeats 2000000 in
theorem Z_X8_hasCell_11 (l : Launch) (D : va_G) (aC : Nat → ClassId) (b : Nat) (w : XW) (x1 : Int32) (x2 : Int32) (hI : Iv w)  : CnI l D aC b M_X8_hasCell 0 0 0 0 [AR 11, AI x1, AI x2] w (fun r u => (0 ≤ r.toInt ∧ r.toInt ≤ 1 ∧ (r.toInt = 0 ∨ (0 ≤ x1.toInt ∧ x1.toInt ≤ 29)) ∧ (r.toInt = 0 ∨ (0 ≤ x2.toInt ∧ x2.toInt ≤ 3)) ∧ (r.toInt = 0 ∨ (1 ≤ (w.2.2.1 11 3).toInt ∧ (w.2.2.1 11 3).toInt ≤ 30))) ∧ w = u) := by
  refine cn_I (own := RX8) (nm := "hasCell") (L0 := [some (AR 11), some (AI x1), some (AI x2)]) (by decide +kernel) rfl rfl (Nat.le_of_ble_eq_true rfl) rfl ?_
  intro p e s m args below meth c E hin
  have hJ : Jv w w := jv_rfl hI
  have hb_x1 := z32 x1
  have hb_x2 := z32 x2
  refine s_iload_n E dX8_hasCell_0 rfl rfl ?_
  refine z_if_lt (tgt := 28) (u := x1.toInt) E dX8_hasCell_1 (by decide) rfl (fun h_1 => ?_) (fun h_1 => ?_)
  ·
    refine s_iconst (v := 0) E dX8_hasCell_28 (by decide) ?_
    exact r_bool E dX8_hasCell_29 (Or.inl rfl) ⟨⟨by decide, by decide, by first | (left; decide) | (right; decide) | (right; have hb_ := z32 x1; omega), by first | (left; decide) | (right; decide) | (right; have hb_ := z32 x2; omega), by first | (left; decide) | (right; decide) | (right; have hb_ := z32 (w.2.2.1 11 3); omega)⟩, rfl⟩
  ·
    refine s_iload_n E dX8_hasCell_4 rfl rfl ?_
    refine s_aload_n E dX8_hasCell_5 rfl rfl ?_
    refine s_gI E fg_X8_28 rfl rfl (jv_lt hJ (by decide)) dX8_hasCell_6 ?_
    refine z_nm (P := fun z => z.toInt = (w.2.2.1 11 3).toInt ∧ 0 ≤ z.toInt ∧ z.toInt ≤ 30) ⟨rfl, (rg_11_3 hJ)⟩ (fun z_2 hz_2 => ?_)
    refine z_icmp_ge (tgt := 28) (u := x1.toInt) (v := z_2.toInt) E dX8_hasCell_9 (by decide) rfl rfl (fun h_3 => ?_) (fun h_3 => ?_)
    ·
      refine s_iconst (v := 0) E dX8_hasCell_28 (by decide) ?_
      exact r_bool E dX8_hasCell_29 (Or.inl rfl) ⟨⟨by decide, by decide, by first | (left; decide) | (right; decide) | (right; have hb_ := z32 x1; omega), by first | (left; decide) | (right; decide) | (right; have hb_ := z32 x2; omega), by first | (left; decide) | (right; decide) | (right; have hb_ := z32 (w.2.2.1 11 3); omega)⟩, rfl⟩
    ·
      refine s_iload_n E dX8_hasCell_12 rfl rfl ?_
      refine z_if_lt (tgt := 28) (u := x2.toInt) E dX8_hasCell_13 (by decide) rfl (fun h_4 => ?_) (fun h_4 => ?_)
      ·
        refine s_iconst (v := 0) E dX8_hasCell_28 (by decide) ?_
        exact r_bool E dX8_hasCell_29 (Or.inl rfl) ⟨⟨by decide, by decide, by first | (left; decide) | (right; decide) | (right; have hb_ := z32 x1; omega), by first | (left; decide) | (right; decide) | (right; have hb_ := z32 x2; omega), by first | (left; decide) | (right; decide) | (right; have hb_ := z32 (w.2.2.1 11 3); omega)⟩, rfl⟩
      ·
        refine s_iload_n E dX8_hasCell_16 rfl rfl ?_
        refine s_aload_n E dX8_hasCell_17 rfl rfl ?_
        refine s_gI E fg_X8_21 rfl rfl (jv_lt hJ (by decide)) dX8_hasCell_18 ?_
        refine s_top (y := 4) (z_pt (by decide) (rg_11_2 hJ)) ?_
        refine z_icmp_ge (tgt := 28) (u := x2.toInt) (v := 4) E dX8_hasCell_21 (by decide) rfl (by decide) (fun h_5 => ?_) (fun h_5 => ?_)
        ·
          refine s_iconst (v := 0) E dX8_hasCell_28 (by decide) ?_
          exact r_bool E dX8_hasCell_29 (Or.inl rfl) ⟨⟨by decide, by decide, by first | (left; decide) | (right; decide) | (right; have hb_ := z32 x1; omega), by first | (left; decide) | (right; decide) | (right; have hb_ := z32 x2; omega), by first | (left; decide) | (right; decide) | (right; have hb_ := z32 (w.2.2.1 11 3); omega)⟩, rfl⟩
        ·
          refine s_iconst (v := 1) E dX8_hasCell_24 (by decide) ?_
          refine s_goto (tgt := 29) E dX8_hasCell_25 (by decide) ?_
          exact r_bool E dX8_hasCell_29 (Or.inr rfl) ⟨⟨by decide, by decide, by first | (left; decide) | (right; decide) | (right; have hb_ := z32 x1; omega), by first | (left; decide) | (right; decide) | (right; have hb_ := z32 x2; omega), by first | (left; decide) | (right; decide) | (right; have hb_ := z32 (w.2.2.1 11 3); omega)⟩, rfl⟩
set_option maxRecDepth 20000 in
set_option maxHeartbeats 2000000 in
theorem Z_X8_cell_11 (l : Launch) (D : va_G) (aC : Nat → ClassId) (b : Nat) (w : XW) (x1 : Int32) (x2 : Int32) (hI : Iv w)  : CnI l D aC b M_X8_cell 1 22 0 0 [AR 11, AI x1, AI x2] w (fun r u => ((-2147483648) ≤ r.toInt ∧ r.toInt ≤ 2147483647 ∧ (¬ r.toInt = 0 ∨ (0 ≤ x1.toInt ∧ x1.toInt ≤ 29)) ∧ (¬ r.toInt = 0 ∨ (0 ≤ x2.toInt ∧ x2.toInt ≤ 3)) ∧ (¬ r.toInt = 0 ∨ (1 ≤ (w.2.2.1 11 3).toInt ∧ (w.2.2.1 11 3).toInt ≤ 30))) ∧ w = u) := by
  refine cn_I (own := RX8) (nm := "cell") (L0 := [some (AR 11), some (AI x1), some (AI x2)]) (by decide +kernel) rfl rfl (Nat.le_of_ble_eq_true rfl) rfl ?_
  intro p e s m args below meth c E hin
  have hJ : Jv w w := jv_rfl hI
  have hb_x1 := z32 x1
  have hb_x2 := z32 x2
  refine s_aload_n E dX8_cell_0 rfl rfl ?_
  refine s_iload_n E dX8_cell_1 rfl rfl ?_
  refine s_iload_n E dX8_cell_2 rfl rfl ?_
  refine s_vI (As := [AI x1, AI x2]) (S := []) E (Z_X8_hasCell_11 l D aC b w x1 x2 hJ.1 ) cv_X8_31 rfl rfl rfl (jv_lt hJ (by decide)) (Nat.le_of_ble_eq_true rfl) (Nat.le_of_ble_eq_true rfl) ⟨(Nat.le_of_ble_eq_true rfl), (Nat.le_of_ble_eq_true rfl)⟩ (Nat.le_of_ble_eq_true rfl) dX8_cell_3 (fun z_3 u_1 hp_2 => ?_)
  obtain ⟨hz_3, hp_2⟩ := hp_2
  subst hp_2
  refine z_if_eq (tgt := 25) (u := z_3.toInt) E dX8_cell_6 (by decide) rfl (fun h_5 => ?_) (fun h_5 => ?_)
  ·
    refine s_iconst (v := (-1)) E dX8_cell_25 (by decide) ?_
    exact r_int E dX8_cell_26 ⟨⟨by decide, by decide, by first | (left; decide) | (right; decide) | (right; have hb_ := z32 x1; omega), by first | (left; decide) | (right; decide) | (right; have hb_ := z32 x2; omega), by first | (left; decide) | (right; decide) | (right; have hb_ := z32 (w.2.2.1 11 3); omega)⟩, rfl⟩
  ·
    refine s_aload_n E dX8_cell_9 rfl rfl ?_
    refine s_gR (r := 12) E fg_X8_24 rfl rfl (jv_lt hJ (by decide)) (jv_r hJ (by decide +kernel)) dX8_cell_10 ?_
    refine s_iload_n E dX8_cell_13 rfl rfl ?_
    refine s_aload_n E dX8_cell_14 rfl rfl ?_
    refine s_gI E fg_X8_21 rfl rfl (jv_lt hJ (by decide)) dX8_cell_15 ?_
    refine s_top (y := 4) (z_pt (by decide) (rg_11_2 hJ)) ?_
    refine z_imul (u := x1.toInt) (v := 4) E dX8_cell_18 rfl (by decide) (by omega) (by omega) (fun z_6 hz_6 => ?_)
    refine s_iload_n E dX8_cell_19 rfl rfl ?_
    refine z_iadd (u := z_6.toInt) (v := x2.toInt) E dX8_cell_20 rfl rfl (by omega) (by omega) (fun z_7 hz_7 => ?_)
    refine s_iald E rfl (jv_lt hJ (by decide)) (z_in (u := z_7.toInt) rfl (by omega) (by omega)) dX8_cell_21 ?_
    refine z_nm (P := fun z => (-2147483648) ≤ z.toInt ∧ z.toInt ≤ 2147483647) (z32 _) (fun z_8 hz_8 => ?_)
    refine s_goto (tgt := 26) E dX8_cell_22 (by decide) ?_
    exact r_int E dX8_cell_26 ⟨⟨by have hb_ := z32 z_8; omega, by have hb_ := z32 z_8; omega, by first | (right; decide) | (have hb_ := z32 z_8; omega) | (have hb_ := z32 z_8; have hc_ := z32 x1; omega), by first | (right; decide) | (have hb_ := z32 z_8; omega) | (have hb_ := z32 z_8; have hc_ := z32 x2; omega), by first | (right; decide) | (have hb_ := z32 z_8; omega) | (have hb_ := z32 z_8; have hc_ := z32 (w.2.2.1 11 3); omega)⟩, rfl⟩
set_option maxRecDepth 20000 in
set_option maxHeartbeats 2000000 in
theorem Z_X2_hearBid_69 (l : Launch) (D : va_G) (aC : Nat → ClassId) (b : Nat) (w : XW) (x1 : Int32) (x2 : Int32) (x3 : Int32) (hI : Iv w)  : CnV l D aC b M_X2_hearBid 0 0 0 0 [AR 69, AI x1, AI x2, AI x3] w (fun u => Jv w u) := by
  refine cn_V (own := RX2) (nm := "hearBid") (L0 := [some (AR 69), some (AI x1), some (AI x2), some (AI x3), none]) (by decide +kernel) rfl rfl (Nat.le_of_ble_eq_true rfl) rfl ?_
  intro p e s m args below meth c E hin
  have hJ : Jv w w := jv_rfl hI
  have hb_x1 := z32 x1
  have hb_x2 := z32 x2
  have hb_x3 := z32 x3
  refine s_iload_n E dX2_hearBid_0 rfl rfl ?_
  refine z_if_lt (tgt := 16) (u := x1.toInt) E dX2_hearBid_1 (by decide) rfl (fun h_1 => ?_) (fun h_1 => ?_)
  ·
    exact r_void E dX2_hearBid_16 hJ
  ·
    refine s_iload_n E dX2_hearBid_4 rfl rfl ?_
    refine s_aload_n E dX2_hearBid_5 rfl rfl ?_
    refine s_gI E fg_X2_35 rfl rfl (jv_lt hJ (by decide)) dX2_hearBid_6 ?_
    refine z_nm (P := fun z => z.toInt = (w.2.2.1 69 5).toInt ∧ 0 ≤ z.toInt ∧ z.toInt ≤ 6) ⟨rfl, (rg_69_5 hJ)⟩ (fun z_2 hz_2 => ?_)
    refine z_icmp_ge (tgt := 16) (u := x1.toInt) (v := z_2.toInt) E dX2_hearBid_9 (by decide) rfl rfl (fun h_3 => ?_) (fun h_3 => ?_)
    ·
      exact r_void E dX2_hearBid_16 hJ
    ·
      refine s_iload_n E dX2_hearBid_12 rfl rfl ?_
      refine z_if_ge (tgt := 17) (u := x3.toInt) E dX2_hearBid_13 (by decide) rfl (fun h_4 => ?_) (fun h_4 => ?_)
      ·
        refine s_iload_n E dX2_hearBid_17 rfl rfl ?_
        refine s_istore (L2 := [some (AR 69), some (AI x1), some (AI x2), some (AI x3), some (AI x3)]) E dX2_hearBid_18 (by decide) rfl ?_
        refine z_loop (St := Int32) (Pi := fun q20_4_4 v20 => (0 ≤ q20_4_4.toInt ∧ q20_4_4.toInt ≤ 2147483647) ∧ (1 ≤ (v20.2.2.1 69 5).toInt ∧ (v20.2.2.1 69 5).toInt ≤ 6) ∧ Jv w v20) (Lf := fun q20_4_4 => [some (AR 69), some (AI x1), some (AI x2), some (AI x3), some (AI q20_4_4)]) (fun q20_4_4 _ => (2147483648 - q20_4_4.toInt).toNat) x3 ⟨⟨by have hb_ := z32 x3; omega, by have hb_ := z32 x3; omega⟩, ⟨by omega, by omega⟩, hJ⟩ ?_
        rintro q20_4_4 v20 ⟨hq20_4, ha20_0, hj_5⟩ ih20
        refine s_loc (L2 := [some (AR 69), some (AI x1), some (AI x2), some (AI x3), some (AI q20_4_4)]) rfl ?_
        refine s_iload E dX2_hearBid_20 rfl ?_
        refine s_aload_n E dX2_hearBid_22 rfl rfl ?_
        refine s_gI E fg_X2_67 rfl rfl (jv_lt hj_5 (by decide)) dX2_hearBid_23 ?_
        refine z_nm (P := fun z => z.toInt = (v20.2.2.1 69 7).toInt ∧ 0 ≤ z.toInt ∧ z.toInt ≤ 14) ⟨rfl, (rg_69_7 hj_5)⟩ (fun z_6 hz_6 => ?_)
        refine z_icmp_gt (tgt := 77) (u := q20_4_4.toInt) (v := z_6.toInt) E dX2_hearBid_26 (by decide) rfl rfl (fun h_7 => ?_) (fun h_7 => ?_)
        ·
          exact r_void E dX2_hearBid_77 hj_5
        ·
          refine s_aload_n E dX2_hearBid_29 rfl rfl ?_
          refine s_gR (r := 72) E fg_X2_18 rfl rfl (jv_lt hj_5 (by decide)) (jv_r hj_5 (by decide +kernel)) dX2_hearBid_30 ?_
          refine s_iload_n E dX2_hearBid_33 rfl rfl ?_
          refine s_bipush (v := 15) E dX2_hearBid_34 (by decide) ?_
          refine z_imul (u := x1.toInt) (v := 15) E dX2_hearBid_36 rfl (by decide) (by omega) (by omega) (fun z_8 hz_8 => ?_)
          refine s_iload E dX2_hearBid_37 rfl ?_
          refine z_iadd (u := z_8.toInt) (v := q20_4_4.toInt) E dX2_hearBid_39 rfl rfl (by omega) (by omega) (fun z_9 hz_9 => ?_)
          refine s_iald E rfl (jv_lt hj_5 (by decide)) (z_in (u := z_9.toInt) rfl (by omega) (by omega)) dX2_hearBid_40 ?_
          refine z_nm (P := fun z => (-2147483648) ≤ z.toInt ∧ z.toInt ≤ 2147483647) (z32 _) (fun z_10 hz_10 => ?_)
          refine s_iload_n E dX2_hearBid_41 rfl rfl ?_
          refine z_icmp_gt (tgt := 71) (u := z_10.toInt) (v := x3.toInt) E dX2_hearBid_42 (by decide) rfl rfl (fun h_11 => ?_) (fun h_11 => ?_)
          ·
            refine z_iinc (u := q20_4_4.toInt) (L2 := fun z_12 => [some (AR 69), some (AI x1), some (AI x2), some (AI x3), some (AI z_12)]) E dX2_hearBid_71 rfl rfl (by decide) (fun _ => rfl) (by decide) (by omega) (by omega) (fun z_12 hz_12 => ?_)
            refine s_goto (tgt := 20) E dX2_hearBid_74 (by decide) ?_
            exact ih20 z_12 v20 ⟨⟨by have hb_ := z32 z_12; omega, by have hb_ := z32 z_12; omega⟩, ⟨by omega, by omega⟩, hj_5⟩ (by first | omega | decide | (dsimp only; omega) | (dsimp only; decide))
          ·
            refine s_aload_n E dX2_hearBid_45 rfl rfl ?_
            refine s_gR (r := 72) E fg_X2_18 rfl rfl (jv_lt hj_5 (by decide)) (jv_r hj_5 (by decide +kernel)) dX2_hearBid_46 ?_
            refine s_iload_n E dX2_hearBid_49 rfl rfl ?_
            refine s_bipush (v := 15) E dX2_hearBid_50 (by decide) ?_
            refine z_imul (u := x1.toInt) (v := 15) E dX2_hearBid_52 rfl (by decide) (by omega) (by omega) (fun z_13 hz_13 => ?_)
            refine s_iload E dX2_hearBid_53 rfl ?_
            refine z_iadd (u := z_13.toInt) (v := q20_4_4.toInt) E dX2_hearBid_55 rfl rfl (by omega) (by omega) (fun z_14 hz_14 => ?_)
            refine s_iload_n E dX2_hearBid_56 rfl rfl ?_
            refine s_iast E rfl (jv_lt hj_5 (by decide)) (z_in (u := z_14.toInt) rfl (by omega) (by omega)) dX2_hearBid_57 ?_
            refine s_gen (P := fun v => Jv w v ∧ (v.2.2.1 69 5).toInt = (v20.2.2.1 69 5).toInt) ⟨(jv_a_72 hj_5 (by have hb_ := z32 x3; omega) (by have hb_ := z32 x3; omega)), rfl⟩ (fun v_15 hj_16 => ?_)
            obtain ⟨hj_16, hk_17k0⟩ := hj_16
            refine s_aload_n E dX2_hearBid_58 rfl rfl ?_
            refine s_gR (r := 71) E fg_X2_15 rfl rfl (jv_lt hj_16 (by decide)) (jv_r hj_16 (by decide +kernel)) dX2_hearBid_59 ?_
            refine s_iload_n E dX2_hearBid_62 rfl rfl ?_
            refine s_bipush (v := 15) E dX2_hearBid_63 (by decide) ?_
            refine z_imul (u := x1.toInt) (v := 15) E dX2_hearBid_65 rfl (by decide) (by omega) (by omega) (fun z_18 hz_18 => ?_)
            refine s_iload E dX2_hearBid_66 rfl ?_
            refine z_iadd (u := z_18.toInt) (v := q20_4_4.toInt) E dX2_hearBid_68 rfl rfl (by omega) (by omega) (fun z_19 hz_19 => ?_)
            refine s_iload_n E dX2_hearBid_69 rfl rfl ?_
            refine s_iast E rfl (jv_lt hj_16 (by decide)) (z_in (u := z_19.toInt) rfl (by omega) (by omega)) dX2_hearBid_70 ?_
            refine s_gen (P := fun v => Jv w v ∧ (v.2.2.1 69 5).toInt = (v_15.2.2.1 69 5).toInt) ⟨(jv_a_71 hj_16 (by have hb_ := z32 x2; omega) (by have hb_ := z32 x2; omega)), rfl⟩ (fun v_20 hj_21 => ?_)
            obtain ⟨hj_21, hk_22k0⟩ := hj_21
            refine z_iinc (u := q20_4_4.toInt) (L2 := fun z_23 => [some (AR 69), some (AI x1), some (AI x2), some (AI x3), some (AI z_23)]) E dX2_hearBid_71 rfl rfl (by decide) (fun _ => rfl) (by decide) (by omega) (by omega) (fun z_23 hz_23 => ?_)
            refine s_goto (tgt := 20) E dX2_hearBid_74 (by decide) ?_
            exact ih20 z_23 v_20 ⟨⟨by have hb_ := z32 z_23; omega, by have hb_ := z32 z_23; omega⟩, ⟨by omega, by omega⟩, hj_21⟩ (by first | omega | decide | (dsimp only; omega) | (dsimp only; decide))
      ·
        exact r_void E dX2_hearBid_16 hJ
set_option maxRecDepth 20000 in
set_option maxHeartbeats 2000000 in
theorem Z_X8_hasCell_9 (l : Launch) (D : va_G) (aC : Nat → ClassId) (b : Nat) (w : XW) (x1 : Int32) (x2 : Int32) (hI : Iv w)  : CnI l D aC b M_X8_hasCell 0 0 0 0 [AR 9, AI x1, AI x2] w (fun r u => (0 ≤ r.toInt ∧ r.toInt ≤ 1 ∧ (r.toInt = 0 ∨ (0 ≤ x1.toInt ∧ x1.toInt ≤ 9)) ∧ (r.toInt = 0 ∨ (0 ≤ x2.toInt ∧ x2.toInt ≤ 2)) ∧ (r.toInt = 0 ∨ (1 ≤ (w.2.2.1 9 3).toInt ∧ (w.2.2.1 9 3).toInt ≤ 10))) ∧ w = u) := by
  refine cn_I (own := RX8) (nm := "hasCell") (L0 := [some (AR 9), some (AI x1), some (AI x2)]) (by decide +kernel) rfl rfl (Nat.le_of_ble_eq_true rfl) rfl ?_
  intro p e s m args below meth c E hin
  have hJ : Jv w w := jv_rfl hI
  have hb_x1 := z32 x1
  have hb_x2 := z32 x2
  refine s_iload_n E dX8_hasCell_0 rfl rfl ?_
  refine z_if_lt (tgt := 28) (u := x1.toInt) E dX8_hasCell_1 (by decide) rfl (fun h_1 => ?_) (fun h_1 => ?_)
  ·
    refine s_iconst (v := 0) E dX8_hasCell_28 (by decide) ?_
    exact r_bool E dX8_hasCell_29 (Or.inl rfl) ⟨⟨by decide, by decide, by first | (left; decide) | (right; decide) | (right; have hb_ := z32 x1; omega), by first | (left; decide) | (right; decide) | (right; have hb_ := z32 x2; omega), by first | (left; decide) | (right; decide) | (right; have hb_ := z32 (w.2.2.1 9 3); omega)⟩, rfl⟩
  ·
    refine s_iload_n E dX8_hasCell_4 rfl rfl ?_
    refine s_aload_n E dX8_hasCell_5 rfl rfl ?_
    refine s_gI E fg_X8_28 rfl rfl (jv_lt hJ (by decide)) dX8_hasCell_6 ?_
    refine z_nm (P := fun z => z.toInt = (w.2.2.1 9 3).toInt ∧ 0 ≤ z.toInt ∧ z.toInt ≤ 10) ⟨rfl, (rg_9_3 hJ)⟩ (fun z_2 hz_2 => ?_)
    refine z_icmp_ge (tgt := 28) (u := x1.toInt) (v := z_2.toInt) E dX8_hasCell_9 (by decide) rfl rfl (fun h_3 => ?_) (fun h_3 => ?_)
    ·
      refine s_iconst (v := 0) E dX8_hasCell_28 (by decide) ?_
      exact r_bool E dX8_hasCell_29 (Or.inl rfl) ⟨⟨by decide, by decide, by first | (left; decide) | (right; decide) | (right; have hb_ := z32 x1; omega), by first | (left; decide) | (right; decide) | (right; have hb_ := z32 x2; omega), by first | (left; decide) | (right; decide) | (right; have hb_ := z32 (w.2.2.1 9 3); omega)⟩, rfl⟩
    ·
      refine s_iload_n E dX8_hasCell_12 rfl rfl ?_
      refine z_if_lt (tgt := 28) (u := x2.toInt) E dX8_hasCell_13 (by decide) rfl (fun h_4 => ?_) (fun h_4 => ?_)
      ·
        refine s_iconst (v := 0) E dX8_hasCell_28 (by decide) ?_
        exact r_bool E dX8_hasCell_29 (Or.inl rfl) ⟨⟨by decide, by decide, by first | (left; decide) | (right; decide) | (right; have hb_ := z32 x1; omega), by first | (left; decide) | (right; decide) | (right; have hb_ := z32 x2; omega), by first | (left; decide) | (right; decide) | (right; have hb_ := z32 (w.2.2.1 9 3); omega)⟩, rfl⟩
      ·
        refine s_iload_n E dX8_hasCell_16 rfl rfl ?_
        refine s_aload_n E dX8_hasCell_17 rfl rfl ?_
        refine s_gI E fg_X8_21 rfl rfl (jv_lt hJ (by decide)) dX8_hasCell_18 ?_
        refine s_top (y := 3) (z_pt (by decide) (rg_9_2 hJ)) ?_
        refine z_icmp_ge (tgt := 28) (u := x2.toInt) (v := 3) E dX8_hasCell_21 (by decide) rfl (by decide) (fun h_5 => ?_) (fun h_5 => ?_)
        ·
          refine s_iconst (v := 0) E dX8_hasCell_28 (by decide) ?_
          exact r_bool E dX8_hasCell_29 (Or.inl rfl) ⟨⟨by decide, by decide, by first | (left; decide) | (right; decide) | (right; have hb_ := z32 x1; omega), by first | (left; decide) | (right; decide) | (right; have hb_ := z32 x2; omega), by first | (left; decide) | (right; decide) | (right; have hb_ := z32 (w.2.2.1 9 3); omega)⟩, rfl⟩
        ·
          refine s_iconst (v := 1) E dX8_hasCell_24 (by decide) ?_
          refine s_goto (tgt := 29) E dX8_hasCell_25 (by decide) ?_
          exact r_bool E dX8_hasCell_29 (Or.inr rfl) ⟨⟨by decide, by decide, by first | (left; decide) | (right; decide) | (right; have hb_ := z32 x1; omega), by first | (left; decide) | (right; decide) | (right; have hb_ := z32 x2; omega), by first | (left; decide) | (right; decide) | (right; have hb_ := z32 (w.2.2.1 9 3); omega)⟩, rfl⟩
set_option maxRecDepth 20000 in
set_option maxHeartbeats 2000000 in
theorem Z_X8_cell_9 (l : Launch) (D : va_G) (aC : Nat → ClassId) (b : Nat) (w : XW) (x1 : Int32) (x2 : Int32) (hI : Iv w)  : CnI l D aC b M_X8_cell 1 22 0 0 [AR 9, AI x1, AI x2] w (fun r u => ((-2147483648) ≤ r.toInt ∧ r.toInt ≤ 2147483647 ∧ (¬ r.toInt = 0 ∨ (0 ≤ x1.toInt ∧ x1.toInt ≤ 9)) ∧ (¬ r.toInt = 0 ∨ (0 ≤ x2.toInt ∧ x2.toInt ≤ 2)) ∧ (¬ r.toInt = 0 ∨ (1 ≤ (w.2.2.1 9 3).toInt ∧ (w.2.2.1 9 3).toInt ≤ 10))) ∧ w = u) := by
  refine cn_I (own := RX8) (nm := "cell") (L0 := [some (AR 9), some (AI x1), some (AI x2)]) (by decide +kernel) rfl rfl (Nat.le_of_ble_eq_true rfl) rfl ?_
  intro p e s m args below meth c E hin
  have hJ : Jv w w := jv_rfl hI
  have hb_x1 := z32 x1
  have hb_x2 := z32 x2
  refine s_aload_n E dX8_cell_0 rfl rfl ?_
  refine s_iload_n E dX8_cell_1 rfl rfl ?_
  refine s_iload_n E dX8_cell_2 rfl rfl ?_
  refine s_vI (As := [AI x1, AI x2]) (S := []) E (Z_X8_hasCell_9 l D aC b w x1 x2 hJ.1 ) cv_X8_31 rfl rfl rfl (jv_lt hJ (by decide)) (Nat.le_of_ble_eq_true rfl) (Nat.le_of_ble_eq_true rfl) ⟨(Nat.le_of_ble_eq_true rfl), (Nat.le_of_ble_eq_true rfl)⟩ (Nat.le_of_ble_eq_true rfl) dX8_cell_3 (fun z_3 u_1 hp_2 => ?_)
  obtain ⟨hz_3, hp_2⟩ := hp_2
  subst hp_2
  refine z_if_eq (tgt := 25) (u := z_3.toInt) E dX8_cell_6 (by decide) rfl (fun h_5 => ?_) (fun h_5 => ?_)
  ·
    refine s_iconst (v := (-1)) E dX8_cell_25 (by decide) ?_
    exact r_int E dX8_cell_26 ⟨⟨by decide, by decide, by first | (left; decide) | (right; decide) | (right; have hb_ := z32 x1; omega), by first | (left; decide) | (right; decide) | (right; have hb_ := z32 x2; omega), by first | (left; decide) | (right; decide) | (right; have hb_ := z32 (w.2.2.1 9 3); omega)⟩, rfl⟩
  ·
    refine s_aload_n E dX8_cell_9 rfl rfl ?_
    refine s_gR (r := 10) E fg_X8_24 rfl rfl (jv_lt hJ (by decide)) (jv_r hJ (by decide +kernel)) dX8_cell_10 ?_
    refine s_iload_n E dX8_cell_13 rfl rfl ?_
    refine s_aload_n E dX8_cell_14 rfl rfl ?_
    refine s_gI E fg_X8_21 rfl rfl (jv_lt hJ (by decide)) dX8_cell_15 ?_
    refine s_top (y := 3) (z_pt (by decide) (rg_9_2 hJ)) ?_
    refine z_imul (u := x1.toInt) (v := 3) E dX8_cell_18 rfl (by decide) (by omega) (by omega) (fun z_6 hz_6 => ?_)
    refine s_iload_n E dX8_cell_19 rfl rfl ?_
    refine z_iadd (u := z_6.toInt) (v := x2.toInt) E dX8_cell_20 rfl rfl (by omega) (by omega) (fun z_7 hz_7 => ?_)
    refine s_iald E rfl (jv_lt hJ (by decide)) (z_in (u := z_7.toInt) rfl (by omega) (by omega)) dX8_cell_21 ?_
    refine z_nm (P := fun z => (-2147483648) ≤ z.toInt ∧ z.toInt ≤ 2147483647) (z32 _) (fun z_8 hz_8 => ?_)
    refine s_goto (tgt := 26) E dX8_cell_22 (by decide) ?_
    exact r_int E dX8_cell_26 ⟨⟨by have hb_ := z32 z_8; omega, by have hb_ := z32 z_8; omega, by first | (right; decide) | (have hb_ := z32 z_8; omega) | (have hb_ := z32 z_8; have hc_ := z32 x1; omega), by first | (right; decide) | (have hb_ := z32 z_8; omega) | (have hb_ := z32 z_8; have hc_ := z32 x2; omega), by first | (right; decide) | (have hb_ := z32 z_8; omega) | (have hb_ := z32 z_8; have hc_ := z32 (w.2.2.1 9 3); omega)⟩, rfl⟩
set_option maxRecDepth 20000 in
set_option maxHeartbeats 2000000 in
theorem Z_X2_hearBids_69_r2 (l : Launch) (D : va_G) (aC : Nat → ClassId) (b : Nat) (w : XW)  (hI : Iv w)  : CnV l D aC b M_X2_hearBids 2 44 0 0 [AR 69, AR 2] w (fun u => Jv w u) := by
  refine cn_V (own := RX2) (nm := "hearBids") (L0 := [some (AR 69), some (AR 2), none]) (by decide +kernel) rfl rfl (Nat.le_of_ble_eq_true rfl) rfl ?_
  intro p e s m args below meth c E hin
  have hJ : Jv w w := jv_rfl hI
  refine s_aload_n E dX2_hearBids_0 rfl rfl ?_
  refine s_gR (r := 71) E fg_X2_15 rfl rfl (jv_lt hJ (by decide)) (jv_r hJ (by decide +kernel)) dX2_hearBids_1 ?_
  refine s_iconst (v := (-1)) E dX2_hearBids_4 (by decide) ?_
  refine s_sV (As := [AR 71, AI (-1)]) (S := []) E (Z_J7_fill_53178_r71 l D aC b w ((-1)) hJ.1 ) cs_X2_78 rfl rfl (Nat.le_of_ble_eq_true rfl) (Nat.le_of_ble_eq_true rfl) ⟨(Nat.le_of_ble_eq_true rfl), (Nat.le_of_ble_eq_true rfl)⟩ (Nat.le_of_ble_eq_true rfl) dX2_hearBids_5 (fun u_1 hp_2 => ?_)
  have hj_3 := jv_trans hJ hp_2
  refine s_aload_n E dX2_hearBids_8 rfl rfl ?_
  refine s_gR (r := 72) E fg_X2_18 rfl rfl (jv_lt hj_3 (by decide)) (jv_r hj_3 (by decide +kernel)) dX2_hearBids_9 ?_
  refine s_iconst (v := (-1)) E dX2_hearBids_12 (by decide) ?_
  refine s_sV (As := [AR 72, AI (-1)]) (S := []) E (Z_J7_fill_53178_r72 l D aC b u_1 ((-1)) hj_3.1 ) cs_X2_78 rfl rfl (Nat.le_of_ble_eq_true rfl) (Nat.le_of_ble_eq_true rfl) ⟨(Nat.le_of_ble_eq_true rfl), (Nat.le_of_ble_eq_true rfl)⟩ (Nat.le_of_ble_eq_true rfl) dX2_hearBids_13 (fun u_4 hp_5 => ?_)
  have hj_6 := jv_trans hj_3 hp_5
  refine s_iconst (v := 0) E dX2_hearBids_16 (by decide) ?_
  refine s_istore_n (L2 := [some (AR 69), some (AR 2), some (AI 0)]) E dX2_hearBids_17 rfl (by decide) rfl ?_
  refine z_loop (St := Int32) (Pi := fun q18_2_6 v18 => (0 ≤ q18_2_6.toInt ∧ q18_2_6.toInt ≤ 10) ∧ Jv w v18) (Lf := fun q18_2_6 => [some (AR 69), some (AR 2), some (AI q18_2_6)]) (fun q18_2_6 _ => (11 - q18_2_6.toInt).toNat) 0 ⟨⟨by decide, by decide⟩, hj_6⟩ ?_
  rintro q18_2_6 v18 ⟨hq18_2, hj_7⟩ ih18
  refine s_loc (L2 := [some (AR 69), some (AR 2), some (AI q18_2_6)]) rfl ?_
  refine s_iload_n E dX2_hearBids_18 rfl rfl ?_
  refine s_aload_n E dX2_hearBids_19 rfl rfl ?_
  refine s_gR (r := 9) E fg_X2_84 rfl rfl (jv_lt hj_7 (by decide)) (jv_r hj_7 (by decide +kernel)) dX2_hearBids_20 ?_
  refine s_gI E fg_X2_57 rfl rfl (jv_lt hj_7 (by decide)) dX2_hearBids_23 ?_
  refine z_nm (P := fun z => z.toInt = (v18.2.2.1 9 3).toInt ∧ 0 ≤ z.toInt ∧ z.toInt ≤ 10) ⟨rfl, (rg_9_3 hj_7)⟩ (fun z_8 hz_8 => ?_)
  refine z_icmp_ge (tgt := 66) (u := q18_2_6.toInt) (v := z_8.toInt) E dX2_hearBids_26 (by decide) rfl rfl (fun h_9 => ?_) (fun h_9 => ?_)
  ·
    refine s_iconst (v := 0) E dX2_hearBids_66 (by decide) ?_
    refine s_istore_n (L2 := [some (AR 69), some (AR 2), some (AI 0)]) E dX2_hearBids_67 rfl (by decide) rfl ?_
    refine z_loop (St := Int32) (Pi := fun q68_2_9 v68 => (0 ≤ q68_2_9.toInt ∧ q68_2_9.toInt ≤ 30) ∧ Jv w v68) (Lf := fun q68_2_9 => [some (AR 69), some (AR 2), some (AI q68_2_9)]) (fun q68_2_9 _ => (31 - q68_2_9.toInt).toNat) 0 ⟨⟨by decide, by decide⟩, hj_7⟩ ?_
    rintro q68_2_9 v68 ⟨hq68_2, hj_10⟩ ih68
    refine s_loc (L2 := [some (AR 69), some (AR 2), some (AI q68_2_9)]) rfl ?_
    refine s_iload_n E dX2_hearBids_68 rfl rfl ?_
    refine s_aload_n E dX2_hearBids_69 rfl rfl ?_
    refine s_gR (r := 11) E fg_X2_91 rfl rfl (jv_lt hj_10 (by decide)) (jv_r hj_10 (by decide +kernel)) dX2_hearBids_70 ?_
    refine s_gI E fg_X2_57 rfl rfl (jv_lt hj_10 (by decide)) dX2_hearBids_73 ?_
    refine z_nm (P := fun z => z.toInt = (v68.2.2.1 11 3).toInt ∧ 0 ≤ z.toInt ∧ z.toInt ≤ 30) ⟨rfl, (rg_11_3 hj_10)⟩ (fun z_11 hz_11 => ?_)
    refine z_icmp_ge (tgt := 128) (u := q68_2_9.toInt) (v := z_11.toInt) E dX2_hearBids_76 (by decide) rfl rfl (fun h_12 => ?_) (fun h_12 => ?_)
    ·
      exact r_void E dX2_hearBids_128 hj_10
    ·
      refine s_aload_n E dX2_hearBids_79 rfl rfl ?_
      refine s_gR (r := 11) E fg_X2_91 rfl rfl (jv_lt hj_10 (by decide)) (jv_r hj_10 (by decide +kernel)) dX2_hearBids_80 ?_
      refine s_iload_n E dX2_hearBids_83 rfl rfl ?_
      refine s_iconst (v := 0) E dX2_hearBids_84 (by decide) ?_
      refine s_vI (As := [AI q68_2_9, AI 0]) (S := []) E (Z_X8_cell_11 l D aC b v68 q68_2_9 0 hj_10.1 ) cv_X2_44 rfl rfl rfl (jv_lt hj_10 (by decide)) (Nat.le_of_ble_eq_true rfl) (Nat.le_of_ble_eq_true rfl) ⟨(Nat.le_of_ble_eq_true rfl), (Nat.le_of_ble_eq_true rfl)⟩ (Nat.le_of_ble_eq_true rfl) dX2_hearBids_85 (fun z_15 u_13 hp_14 => ?_)
      obtain ⟨hz_15, hp_14⟩ := hp_14
      subst hp_14
      refine z_if_ne (tgt := 122) (u := z_15.toInt) E dX2_hearBids_88 (by decide) rfl (fun h_17 => ?_) (fun h_17 => ?_)
      ·
        refine z_iinc (u := q68_2_9.toInt) (L2 := fun z_18 => [some (AR 69), some (AR 2), some (AI z_18)]) E dX2_hearBids_122 rfl rfl (by decide) (fun _ => rfl) (by decide) (by omega) (by omega) (fun z_18 hz_18 => ?_)
        refine s_goto (tgt := 68) E dX2_hearBids_125 (by decide) ?_
        exact ih68 z_18 v68 ⟨⟨by have hb_ := z32 z_18; omega, by have hb_ := z32 z_18; omega⟩, hj_10⟩ (by first | omega | decide | (dsimp only; omega) | (dsimp only; decide))
      ·
        refine s_aload_n E dX2_hearBids_91 rfl rfl ?_
        refine s_aload_n E dX2_hearBids_92 rfl rfl ?_
        refine s_gR (r := 11) E fg_X2_91 rfl rfl (jv_lt hj_10 (by decide)) (jv_r hj_10 (by decide +kernel)) dX2_hearBids_93 ?_
        refine s_iload_n E dX2_hearBids_96 rfl rfl ?_
        refine s_iconst (v := 1) E dX2_hearBids_97 (by decide) ?_
        refine s_vI (As := [AI q68_2_9, AI 1]) (S := [AR 69]) E (Z_X8_cell_11 l D aC b v68 q68_2_9 1 hj_10.1 ) cv_X2_44 rfl rfl rfl (jv_lt hj_10 (by decide)) (Nat.le_of_ble_eq_true rfl) (Nat.le_of_ble_eq_true rfl) ⟨(Nat.le_of_ble_eq_true rfl), (Nat.le_of_ble_eq_true rfl)⟩ (Nat.le_of_ble_eq_true rfl) dX2_hearBids_98 (fun z_21 u_19 hp_20 => ?_)
        obtain ⟨hz_21, hp_20⟩ := hp_20
        subst hp_20
        refine s_aload_n E dX2_hearBids_101 rfl rfl ?_
        refine s_gR (r := 11) E fg_X2_91 rfl rfl (jv_lt hj_10 (by decide)) (jv_r hj_10 (by decide +kernel)) dX2_hearBids_102 ?_
        refine s_iload_n E dX2_hearBids_105 rfl rfl ?_
        refine s_iconst (v := 2) E dX2_hearBids_106 (by decide) ?_
        refine s_vI (As := [AI q68_2_9, AI 2]) (S := [AI z_21, AR 69]) E (Z_X8_cell_11 l D aC b v68 q68_2_9 2 hj_10.1 ) cv_X2_44 rfl rfl rfl (jv_lt hj_10 (by decide)) (Nat.le_of_ble_eq_true rfl) (Nat.le_of_ble_eq_true rfl) ⟨(Nat.le_of_ble_eq_true rfl), (Nat.le_of_ble_eq_true rfl)⟩ (Nat.le_of_ble_eq_true rfl) dX2_hearBids_107 (fun z_25 u_23 hp_24 => ?_)
        obtain ⟨hz_25, hp_24⟩ := hp_24
        subst hp_24
        refine s_aload_n E dX2_hearBids_110 rfl rfl ?_
        refine s_gR (r := 11) E fg_X2_91 rfl rfl (jv_lt hj_10 (by decide)) (jv_r hj_10 (by decide +kernel)) dX2_hearBids_111 ?_
        refine s_iload_n E dX2_hearBids_114 rfl rfl ?_
        refine s_iconst (v := 3) E dX2_hearBids_115 (by decide) ?_
        refine s_vI (As := [AI q68_2_9, AI 3]) (S := [AI z_25, AI z_21, AR 69]) E (Z_X8_cell_11 l D aC b v68 q68_2_9 3 hj_10.1 ) cv_X2_44 rfl rfl rfl (jv_lt hj_10 (by decide)) (Nat.le_of_ble_eq_true rfl) (Nat.le_of_ble_eq_true rfl) ⟨(Nat.le_of_ble_eq_true rfl), (Nat.le_of_ble_eq_true rfl)⟩ (Nat.le_of_ble_eq_true rfl) dX2_hearBids_116 (fun z_29 u_27 hp_28 => ?_)
        obtain ⟨hz_29, hp_28⟩ := hp_28
        subst hp_28
        refine s_vV (As := [AI z_21, AI z_25, AI z_29]) (S := []) E (Z_X2_hearBid_69 l D aC b v68 z_21 z_25 z_29 hj_10.1 ) cv_X2_87 rfl rfl rfl (jv_lt hj_10 (by decide)) (Nat.le_of_ble_eq_true rfl) (Nat.le_of_ble_eq_true rfl) ⟨(Nat.le_of_ble_eq_true rfl), (Nat.le_of_ble_eq_true rfl)⟩ (Nat.le_of_ble_eq_true rfl) dX2_hearBids_119 (fun u_31 hp_32 => ?_)
        have hj_33 := jv_trans hj_10 hp_32
        refine z_iinc (u := q68_2_9.toInt) (L2 := fun z_34 => [some (AR 69), some (AR 2), some (AI z_34)]) E dX2_hearBids_122 rfl rfl (by decide) (fun _ => rfl) (by decide) (by omega) (by omega) (fun z_34 hz_34 => ?_)
        refine s_goto (tgt := 68) E dX2_hearBids_125 (by decide) ?_
        exact ih68 z_34 u_31 ⟨⟨by have hb_ := z32 z_34; omega, by have hb_ := z32 z_34; omega⟩, hj_33⟩ (by first | omega | decide | (dsimp only; omega) | (dsimp only; decide))
  ·
    refine s_aload_n E dX2_hearBids_29 rfl rfl ?_
    refine s_aload_n E dX2_hearBids_30 rfl rfl ?_
    refine s_gR (r := 9) E fg_X2_84 rfl rfl (jv_lt hj_7 (by decide)) (jv_r hj_7 (by decide +kernel)) dX2_hearBids_31 ?_
    refine s_iload_n E dX2_hearBids_34 rfl rfl ?_
    refine s_iconst (v := 0) E dX2_hearBids_35 (by decide) ?_
    refine s_vI (As := [AI q18_2_6, AI 0]) (S := [AR 69]) E (Z_X8_cell_9 l D aC b v18 q18_2_6 0 hj_7.1 ) cv_X2_44 rfl rfl rfl (jv_lt hj_7 (by decide)) (Nat.le_of_ble_eq_true rfl) (Nat.le_of_ble_eq_true rfl) ⟨(Nat.le_of_ble_eq_true rfl), (Nat.le_of_ble_eq_true rfl)⟩ (Nat.le_of_ble_eq_true rfl) dX2_hearBids_36 (fun z_37 u_35 hp_36 => ?_)
    obtain ⟨hz_37, hp_36⟩ := hp_36
    subst hp_36
    refine s_aload_n E dX2_hearBids_39 rfl rfl ?_
    refine s_gR (r := 9) E fg_X2_84 rfl rfl (jv_lt hj_7 (by decide)) (jv_r hj_7 (by decide +kernel)) dX2_hearBids_40 ?_
    refine s_iload_n E dX2_hearBids_43 rfl rfl ?_
    refine s_iconst (v := 1) E dX2_hearBids_44 (by decide) ?_
    refine s_vI (As := [AI q18_2_6, AI 1]) (S := [AI z_37, AR 69]) E (Z_X8_cell_9 l D aC b v18 q18_2_6 1 hj_7.1 ) cv_X2_44 rfl rfl rfl (jv_lt hj_7 (by decide)) (Nat.le_of_ble_eq_true rfl) (Nat.le_of_ble_eq_true rfl) ⟨(Nat.le_of_ble_eq_true rfl), (Nat.le_of_ble_eq_true rfl)⟩ (Nat.le_of_ble_eq_true rfl) dX2_hearBids_45 (fun z_41 u_39 hp_40 => ?_)
    obtain ⟨hz_41, hp_40⟩ := hp_40
    subst hp_40
    refine s_aload_n E dX2_hearBids_48 rfl rfl ?_
    refine s_gR (r := 9) E fg_X2_84 rfl rfl (jv_lt hj_7 (by decide)) (jv_r hj_7 (by decide +kernel)) dX2_hearBids_49 ?_
    refine s_iload_n E dX2_hearBids_52 rfl rfl ?_
    refine s_iconst (v := 2) E dX2_hearBids_53 (by decide) ?_
    refine s_vI (As := [AI q18_2_6, AI 2]) (S := [AI z_41, AI z_37, AR 69]) E (Z_X8_cell_9 l D aC b v18 q18_2_6 2 hj_7.1 ) cv_X2_44 rfl rfl rfl (jv_lt hj_7 (by decide)) (Nat.le_of_ble_eq_true rfl) (Nat.le_of_ble_eq_true rfl) ⟨(Nat.le_of_ble_eq_true rfl), (Nat.le_of_ble_eq_true rfl)⟩ (Nat.le_of_ble_eq_true rfl) dX2_hearBids_54 (fun z_45 u_43 hp_44 => ?_)
    obtain ⟨hz_45, hp_44⟩ := hp_44
    subst hp_44
    refine s_vV (As := [AI z_37, AI z_41, AI z_45]) (S := []) E (Z_X2_hearBid_69 l D aC b v18 z_37 z_41 z_45 hj_7.1 ) cv_X2_87 rfl rfl rfl (jv_lt hj_7 (by decide)) (Nat.le_of_ble_eq_true rfl) (Nat.le_of_ble_eq_true rfl) ⟨(Nat.le_of_ble_eq_true rfl), (Nat.le_of_ble_eq_true rfl)⟩ (Nat.le_of_ble_eq_true rfl) dX2_hearBids_57 (fun u_47 hp_48 => ?_)
    have hj_49 := jv_trans hj_7 hp_48
    refine z_iinc (u := q18_2_6.toInt) (L2 := fun z_50 => [some (AR 69), some (AR 2), some (AI z_50)]) E dX2_hearBids_60 rfl rfl (by decide) (fun _ => rfl) (by decide) (by omega) (by omega) (fun z_50 hz_50 => ?_)
    refine s_goto (tgt := 18) E dX2_hearBids_63 (by decide) ?_
    exact ih18 z_50 u_47 ⟨⟨by have hb_ := z32 z_50; omega, by have hb_ := z32 z_50; omega⟩, hj_49⟩ (by first | omega | decide | (dsimp only; omega) | (dsimp only; decide))
set_option maxRecDepth 20000 in
set_option maxHeartbeats 2000000 in
theorem Z_X2_isHere_69 (l : Launch) (D : va_G) (aC : Nat → ClassId) (b : Nat) (w : XW) (x1 : Int32) (x2 : Int32) (hI : Iv w)  : CnI l D aC b M_X2_isHere 0 0 0 0 [AR 69, AI x1, AI x2] w (fun r u => (0 ≤ r.toInt ∧ r.toInt ≤ 1 ∧ (r.toInt = 0 ∨ (0 ≤ x1.toInt ∧ x1.toInt ≤ 5)) ∧ (r.toInt = 0 ∨ (0 ≤ x2.toInt ∧ x2.toInt ≤ 14)) ∧ (r.toInt = 0 ∨ (1 ≤ (w.2.2.1 69 5).toInt ∧ (w.2.2.1 69 5).toInt ≤ 6))) ∧ w = u) := by
  refine cn_I (own := RX2) (nm := "isHere") (L0 := [some (AR 69), some (AI x1), some (AI x2)]) (by decide +kernel) rfl rfl (Nat.le_of_ble_eq_true rfl) rfl ?_
  intro p e s m args below meth c E hin
  have hJ : Jv w w := jv_rfl hI
  have hb_x1 := z32 x1
  have hb_x2 := z32 x2
  refine s_iload_n E dX2_isHere_0 rfl rfl ?_
  refine z_if_lt (tgt := 28) (u := x1.toInt) E dX2_isHere_1 (by decide) rfl (fun h_1 => ?_) (fun h_1 => ?_)
  ·
    refine s_iconst (v := 0) E dX2_isHere_28 (by decide) ?_
    exact r_bool E dX2_isHere_29 (Or.inl rfl) ⟨⟨by decide, by decide, by first | (left; decide) | (right; decide) | (right; have hb_ := z32 x1; omega), by first | (left; decide) | (right; decide) | (right; have hb_ := z32 x2; omega), by first | (left; decide) | (right; decide) | (right; have hb_ := z32 (w.2.2.1 69 5); omega)⟩, rfl⟩
  ·
    refine s_iload_n E dX2_isHere_4 rfl rfl ?_
    refine s_aload_n E dX2_isHere_5 rfl rfl ?_
    refine s_gI E fg_X2_35 rfl rfl (jv_lt hJ (by decide)) dX2_isHere_6 ?_
    refine z_nm (P := fun z => z.toInt = (w.2.2.1 69 5).toInt ∧ 0 ≤ z.toInt ∧ z.toInt ≤ 6) ⟨rfl, (rg_69_5 hJ)⟩ (fun z_2 hz_2 => ?_)
    refine z_icmp_ge (tgt := 28) (u := x1.toInt) (v := z_2.toInt) E dX2_isHere_9 (by decide) rfl rfl (fun h_3 => ?_) (fun h_3 => ?_)
    ·
      refine s_iconst (v := 0) E dX2_isHere_28 (by decide) ?_
      exact r_bool E dX2_isHere_29 (Or.inl rfl) ⟨⟨by decide, by decide, by first | (left; decide) | (right; decide) | (right; have hb_ := z32 x1; omega), by first | (left; decide) | (right; decide) | (right; have hb_ := z32 x2; omega), by first | (left; decide) | (right; decide) | (right; have hb_ := z32 (w.2.2.1 69 5); omega)⟩, rfl⟩
    ·
      refine s_iload_n E dX2_isHere_12 rfl rfl ?_
      refine z_if_lt (tgt := 28) (u := x2.toInt) E dX2_isHere_13 (by decide) rfl (fun h_4 => ?_) (fun h_4 => ?_)
      ·
        refine s_iconst (v := 0) E dX2_isHere_28 (by decide) ?_
        exact r_bool E dX2_isHere_29 (Or.inl rfl) ⟨⟨by decide, by decide, by first | (left; decide) | (right; decide) | (right; have hb_ := z32 x1; omega), by first | (left; decide) | (right; decide) | (right; have hb_ := z32 x2; omega), by first | (left; decide) | (right; decide) | (right; have hb_ := z32 (w.2.2.1 69 5); omega)⟩, rfl⟩
      ·
        refine s_iload_n E dX2_isHere_16 rfl rfl ?_
        refine s_aload_n E dX2_isHere_17 rfl rfl ?_
        refine s_gI E fg_X2_67 rfl rfl (jv_lt hJ (by decide)) dX2_isHere_18 ?_
        refine z_nm (P := fun z => z.toInt = (w.2.2.1 69 7).toInt ∧ 0 ≤ z.toInt ∧ z.toInt ≤ 14) ⟨rfl, (rg_69_7 hJ)⟩ (fun z_5 hz_5 => ?_)
        refine z_icmp_gt (tgt := 28) (u := x2.toInt) (v := z_5.toInt) E dX2_isHere_21 (by decide) rfl rfl (fun h_6 => ?_) (fun h_6 => ?_)
        ·
          refine s_iconst (v := 0) E dX2_isHere_28 (by decide) ?_
          exact r_bool E dX2_isHere_29 (Or.inl rfl) ⟨⟨by decide, by decide, by first | (left; decide) | (right; decide) | (right; have hb_ := z32 x1; omega), by first | (left; decide) | (right; decide) | (right; have hb_ := z32 x2; omega), by first | (left; decide) | (right; decide) | (right; have hb_ := z32 (w.2.2.1 69 5); omega)⟩, rfl⟩
        ·
          refine s_iconst (v := 1) E dX2_isHere_24 (by decide) ?_
          refine s_goto (tgt := 29) E dX2_isHere_25 (by decide) ?_
          exact r_bool E dX2_isHere_29 (Or.inr rfl) ⟨⟨by decide, by decide, by first | (left; decide) | (right; decide) | (right; have hb_ := z32 x1; omega), by first | (left; decide) | (right; decide) | (right; have hb_ := z32 x2; omega), by first | (left; decide) | (right; decide) | (right; have hb_ := z32 (w.2.2.1 69 5); omega)⟩, rfl⟩
set_option maxRecDepth 20000 in
set_option maxHeartbeats 2000000 in
theorem Z_X2_placeOf_69 (l : Launch) (D : va_G) (aC : Nat → ClassId) (b : Nat) (w : XW) (x1 : Int32) (x2 : Int32) (hI : Iv w)  : CnI l D aC b M_X2_placeOf 1 22 0 0 [AR 69, AI x1, AI x2] w (fun r u => ((-2147483648) ≤ r.toInt ∧ r.toInt ≤ 2147483647 ∧ (¬ r.toInt = 0 ∨ (0 ≤ x1.toInt ∧ x1.toInt ≤ 5)) ∧ (¬ r.toInt = 0 ∨ (0 ≤ x2.toInt ∧ x2.toInt ≤ 14)) ∧ (¬ r.toInt = 0 ∨ (1 ≤ (w.2.2.1 69 5).toInt ∧ (w.2.2.1 69 5).toInt ≤ 6))) ∧ w = u) := by
  refine cn_I (own := RX2) (nm := "placeOf") (L0 := [some (AR 69), some (AI x1), some (AI x2)]) (by decide +kernel) rfl rfl (Nat.le_of_ble_eq_true rfl) rfl ?_
  intro p e s m args below meth c E hin
  have hJ : Jv w w := jv_rfl hI
  have hb_x1 := z32 x1
  have hb_x2 := z32 x2
  refine s_aload_n E dX2_placeOf_0 rfl rfl ?_
  refine s_iload_n E dX2_placeOf_1 rfl rfl ?_
  refine s_iload_n E dX2_placeOf_2 rfl rfl ?_
  refine s_vI (As := [AI x1, AI x2]) (S := []) E (Z_X2_isHere_69 l D aC b w x1 x2 hJ.1 ) cv_X2_127 rfl rfl rfl (jv_lt hJ (by decide)) (Nat.le_of_ble_eq_true rfl) (Nat.le_of_ble_eq_true rfl) ⟨(Nat.le_of_ble_eq_true rfl), (Nat.le_of_ble_eq_true rfl)⟩ (Nat.le_of_ble_eq_true rfl) dX2_placeOf_3 (fun z_3 u_1 hp_2 => ?_)
  obtain ⟨hz_3, hp_2⟩ := hp_2
  subst hp_2
  refine z_if_eq (tgt := 23) (u := z_3.toInt) E dX2_placeOf_6 (by decide) rfl (fun h_5 => ?_) (fun h_5 => ?_)
  ·
    refine s_iconst (v := (-1)) E dX2_placeOf_23 (by decide) ?_
    exact r_int E dX2_placeOf_24 ⟨⟨by decide, by decide, by first | (left; decide) | (right; decide) | (right; have hb_ := z32 x1; omega), by first | (left; decide) | (right; decide) | (right; have hb_ := z32 x2; omega), by first | (left; decide) | (right; decide) | (right; have hb_ := z32 (w.2.2.1 69 5); omega)⟩, rfl⟩
  ·
    refine s_aload_n E dX2_placeOf_9 rfl rfl ?_
    refine s_gR (r := 73) E fg_X2_21 rfl rfl (jv_lt hJ (by decide)) (jv_r hJ (by decide +kernel)) dX2_placeOf_10 ?_
    refine s_iload_n E dX2_placeOf_13 rfl rfl ?_
    refine s_bipush (v := 15) E dX2_placeOf_14 (by decide) ?_
    refine z_imul (u := x1.toInt) (v := 15) E dX2_placeOf_16 rfl (by decide) (by omega) (by omega) (fun z_6 hz_6 => ?_)
    refine s_iload_n E dX2_placeOf_17 rfl rfl ?_
    refine z_iadd (u := z_6.toInt) (v := x2.toInt) E dX2_placeOf_18 rfl rfl (by omega) (by omega) (fun z_7 hz_7 => ?_)
    refine s_iald E rfl (jv_lt hJ (by decide)) (z_in (u := z_7.toInt) rfl (by omega) (by omega)) dX2_placeOf_19 ?_
    refine z_nm (P := fun z => (-2147483648) ≤ z.toInt ∧ z.toInt ≤ 2147483647) (z32 _) (fun z_8 hz_8 => ?_)
    refine s_goto (tgt := 24) E dX2_placeOf_20 (by decide) ?_
    exact r_int E dX2_placeOf_24 ⟨⟨by have hb_ := z32 z_8; omega, by have hb_ := z32 z_8; omega, by first | (right; decide) | (have hb_ := z32 z_8; omega) | (have hb_ := z32 z_8; have hc_ := z32 x1; omega), by first | (right; decide) | (have hb_ := z32 z_8; omega) | (have hb_ := z32 z_8; have hc_ := z32 x2; omega), by first | (right; decide) | (have hb_ := z32 z_8; omega) | (have hb_ := z32 z_8; have hc_ := z32 (w.2.2.1 69 5); omega)⟩, rfl⟩
set_option maxRecDepth 20000 in
set_option maxHeartbeats 2000000 in
theorem Z_X2_ladiesIn_69 (l : Launch) (D : va_G) (aC : Nat → ClassId) (b : Nat) (w : XW) (x1 : Int32) (x2 : Int32) (hI : Iv w)  : CnI l D aC b M_X2_ladiesIn 2 44 0 0 [AR 69, AI x1, AI x2] w (fun r u => ((-2147483648) ≤ r.toInt ∧ r.toInt ≤ 2147483647) ∧ w = u) := by
  refine cn_I (own := RX2) (nm := "ladiesIn") (L0 := [some (AR 69), some (AI x1), some (AI x2), none, none]) (by decide +kernel) rfl rfl (Nat.le_of_ble_eq_true rfl) rfl ?_
  intro p e s m args below meth c E hin
  have hJ : Jv w w := jv_rfl hI
  have hb_x1 := z32 x1
  have hb_x2 := z32 x2
  refine s_iconst (v := 0) E dX2_ladiesIn_0 (by decide) ?_
  refine s_istore_n (L2 := [some (AR 69), some (AI x1), some (AI x2), some (AI 0), none]) E dX2_ladiesIn_1 rfl (by decide) rfl ?_
  refine s_iconst (v := 0) E dX2_ladiesIn_2 (by decide) ?_
  refine s_istore (L2 := [some (AR 69), some (AI x1), some (AI x2), some (AI 0), some (AI 0)]) E dX2_ladiesIn_3 (by decide) rfl ?_
  refine z_loop (St := Int32 × Int32) (Pi := fun ⟨q5_3_0, q5_4_0⟩ v5 => (0 ≤ q5_4_0.toInt ∧ q5_4_0.toInt ≤ 6) ∧ w = v5) (Lf := fun ⟨q5_3_0, q5_4_0⟩ => [some (AR 69), some (AI x1), some (AI x2), some (AI q5_3_0), some (AI q5_4_0)]) (fun ⟨q5_3_0, q5_4_0⟩ _ => (7 - q5_4_0.toInt).toNat) ⟨0, 0⟩ ⟨⟨by decide, by decide⟩, rfl⟩ ?_
  rintro ⟨q5_3_0, q5_4_0⟩ v5 ⟨hq5_4, hv_⟩ ih5
  subst hv_
  have hbq5_3 := z32 q5_3_0
  refine s_loc (L2 := [some (AR 69), some (AI x1), some (AI x2), some (AI q5_3_0), some (AI q5_4_0)]) rfl ?_
  refine s_iload E dX2_ladiesIn_5 rfl ?_
  refine s_aload_n E dX2_ladiesIn_7 rfl rfl ?_
  refine s_gI E fg_X2_35 rfl rfl (jv_lt hJ (by decide)) dX2_ladiesIn_8 ?_
  refine z_nm (P := fun z => z.toInt = (w.2.2.1 69 5).toInt ∧ 0 ≤ z.toInt ∧ z.toInt ≤ 6) ⟨rfl, (rg_69_5 hJ)⟩ (fun z_2 hz_2 => ?_)
  refine z_icmp_ge (tgt := 38) (u := q5_4_0.toInt) (v := z_2.toInt) E dX2_ladiesIn_11 (by decide) rfl rfl (fun h_3 => ?_) (fun h_3 => ?_)
  ·
    refine s_iload_n E dX2_ladiesIn_38 rfl rfl ?_
    exact r_int E dX2_ladiesIn_39 ⟨⟨by have hb_ := z32 q5_3_0; omega, by have hb_ := z32 q5_3_0; omega⟩, rfl⟩
  ·
    refine s_aload_n E dX2_ladiesIn_14 rfl rfl ?_
    refine s_iload E dX2_ladiesIn_15 rfl ?_
    refine s_iload_n E dX2_ladiesIn_17 rfl rfl ?_
    refine s_vI (As := [AI q5_4_0, AI x2]) (S := []) E (Z_X2_placeOf_69 l D aC b w q5_4_0 x2 hJ.1 ) cv_X2_111 rfl rfl rfl (jv_lt hJ (by decide)) (Nat.le_of_ble_eq_true rfl) (Nat.le_of_ble_eq_true rfl) ⟨(Nat.le_of_ble_eq_true rfl), (Nat.le_of_ble_eq_true rfl)⟩ (Nat.le_of_ble_eq_true rfl) dX2_ladiesIn_18 (fun z_6 u_4 hp_5 => ?_)
    obtain ⟨hz_6, hp_5⟩ := hp_5
    subst hp_5
    refine s_iload_n E dX2_ladiesIn_21 rfl rfl ?_
    refine z_icmp_ne (tgt := 32) (u := z_6.toInt) (v := x1.toInt) E dX2_ladiesIn_22 (by decide) rfl rfl (fun h_8 => ?_) (fun h_8 => ?_)
    ·
      refine z_iinc (u := q5_4_0.toInt) (L2 := fun z_9 => [some (AR 69), some (AI x1), some (AI x2), some (AI q5_3_0), some (AI z_9)]) E dX2_ladiesIn_32 rfl rfl (by decide) (fun _ => rfl) (by decide) (by omega) (by omega) (fun z_9 hz_9 => ?_)
      refine s_goto (tgt := 5) E dX2_ladiesIn_35 (by decide) ?_
      exact ih5 ⟨q5_3_0, z_9⟩ w ⟨⟨by have hb_ := z32 z_9; omega, by have hb_ := z32 z_9; omega⟩, rfl⟩ (by first | omega | decide | (dsimp only; omega) | (dsimp only; decide))
    ·
      refine s_iload_n E dX2_ladiesIn_25 rfl rfl ?_
      refine s_iconst (v := 1) E dX2_ladiesIn_26 (by decide) ?_
      refine s_iload E dX2_ladiesIn_27 rfl ?_
      refine z_shl1 5 (u := q5_4_0.toInt) (B := 32) E dX2_ladiesIn_29 rfl (by omega) (by omega) (by decide) (by decide) (fun z_10 hz_10 => ?_)
      refine s_ior E dX2_ladiesIn_30 ?_
      refine z_nm (P := fun z => (-2147483648) ≤ z.toInt ∧ z.toInt ≤ 2147483647) (z32 _) (fun z_11 hz_11 => ?_)
      refine s_istore_n (L2 := [some (AR 69), some (AI x1), some (AI x2), some (AI z_11), some (AI q5_4_0)]) E dX2_ladiesIn_31 rfl (by decide) rfl ?_
      refine z_iinc (u := q5_4_0.toInt) (L2 := fun z_12 => [some (AR 69), some (AI x1), some (AI x2), some (AI z_11), some (AI z_12)]) E dX2_ladiesIn_32 rfl rfl (by decide) (fun _ => rfl) (by decide) (by omega) (by omega) (fun z_12 hz_12 => ?_)
      refine s_goto (tgt := 5) E dX2_ladiesIn_35 (by decide) ?_
      exact ih5 ⟨z_11, z_12⟩ w ⟨⟨by have hb_ := z32 z_12; omega, by have hb_ := z32 z_12; omega⟩, rfl⟩ (by first | omega | decide | (dsimp only; omega) | (dsimp only; decide))
set_option maxRecDepth 20000 in
set_option maxHeartbeats 2000000 in
theorem Z_X2_gather_69 (l : Launch) (D : va_G) (aC : Nat → ClassId) (b : Nat) (w : XW)  (hI : Iv w)  : CnV l D aC b M_X2_gather 3 68 0 0 [AR 69] w (fun u => Jv w u) := by
  refine cn_V (own := RX2) (nm := "gather") (L0 := [some (AR 69), none, none]) (by decide +kernel) rfl rfl (Nat.le_of_ble_eq_true rfl) rfl ?_
  intro p e s m args below meth c E hin
  have hJ : Jv w w := jv_rfl hI
  refine s_iconst (v := 0) E dX2_gather_0 (by decide) ?_
  refine s_istore_n (L2 := [some (AR 69), some (AI 0), none]) E dX2_gather_1 rfl (by decide) rfl ?_
  refine z_loop (St := Int32) (Pi := fun q2_1_0 v2 => (0 ≤ q2_1_0.toInt ∧ q2_1_0.toInt ≤ 6) ∧ Jv w v2) (Lf := fun q2_1_0 => [some (AR 69), some (AI q2_1_0), none]) (fun q2_1_0 _ => (7 - q2_1_0.toInt).toNat) 0 ⟨⟨by decide, by decide⟩, hJ⟩ ?_
  rintro q2_1_0 v2 ⟨hq2_1, hj_1⟩ ih2
  refine s_loc (L2 := [some (AR 69), some (AI q2_1_0), none]) rfl ?_
  refine s_iload_n E dX2_gather_2 rfl rfl ?_
  refine s_aload_n E dX2_gather_3 rfl rfl ?_
  refine s_gI E fg_X2_35 rfl rfl (jv_lt hj_1 (by decide)) dX2_gather_4 ?_
  refine z_nm (P := fun z => z.toInt = (v2.2.2.1 69 5).toInt ∧ 0 ≤ z.toInt ∧ z.toInt ≤ 6) ⟨rfl, (rg_69_5 hj_1)⟩ (fun z_2 hz_2 => ?_)
  refine z_icmp_ge (tgt := 54) (u := q2_1_0.toInt) (v := z_2.toInt) E dX2_gather_7 (by decide) rfl rfl (fun h_3 => ?_) (fun h_3 => ?_)
  ·
    exact r_void E dX2_gather_54 hj_1
  ·
    refine s_iconst (v := 0) E dX2_gather_10 (by decide) ?_
    refine s_istore_n (L2 := [some (AR 69), some (AI q2_1_0), some (AI 0)]) E dX2_gather_11 rfl (by decide) rfl ?_
    refine z_loop (St := Int32) (Pi := fun q12_2_3 v12 => (0 ≤ q12_2_3.toInt ∧ q12_2_3.toInt ≤ 15) ∧ (1 ≤ (v12.2.2.1 69 5).toInt ∧ (v12.2.2.1 69 5).toInt ≤ 6) ∧ Jv w v12) (Lf := fun q12_2_3 => [some (AR 69), some (AI q2_1_0), some (AI q12_2_3)]) (fun q12_2_3 _ => (16 - q12_2_3.toInt).toNat) 0 ⟨⟨by decide, by decide⟩, ⟨by omega, by omega⟩, hj_1⟩ ?_
    rintro q12_2_3 v12 ⟨hq12_2, ha12_0, hj_4⟩ ih12
    refine s_loc (L2 := [some (AR 69), some (AI q2_1_0), some (AI q12_2_3)]) rfl ?_
    refine s_iload_n E dX2_gather_12 rfl rfl ?_
    refine s_aload_n E dX2_gather_13 rfl rfl ?_
    refine s_gI E fg_X2_67 rfl rfl (jv_lt hj_4 (by decide)) dX2_gather_14 ?_
    refine z_nm (P := fun z => z.toInt = (v12.2.2.1 69 7).toInt ∧ 0 ≤ z.toInt ∧ z.toInt ≤ 14) ⟨rfl, (rg_69_7 hj_4)⟩ (fun z_5 hz_5 => ?_)
    refine z_icmp_gt (tgt := 48) (u := q12_2_3.toInt) (v := z_5.toInt) E dX2_gather_17 (by decide) rfl rfl (fun h_6 => ?_) (fun h_6 => ?_)
    ·
      refine z_iinc (u := q2_1_0.toInt) (L2 := fun z_7 => [some (AR 69), some (AI z_7), some (AI q12_2_3)]) E dX2_gather_48 rfl rfl (by decide) (fun _ => rfl) (by decide) (by omega) (by omega) (fun z_7 hz_7 => ?_)
      refine s_goto (tgt := 2) E dX2_gather_51 (by decide) ?_
      refine s_drop (i := 2) (L2 := [some (AR 69), some (AI z_7), none]) rfl ?_
      exact ih2 z_7 v12 ⟨⟨by have hb_ := z32 z_7; omega, by have hb_ := z32 z_7; omega⟩, hj_4⟩ (by first | omega | decide | (dsimp only; omega) | (dsimp only; decide))
    ·
      refine s_aload_n E dX2_gather_20 rfl rfl ?_
      refine s_gR (r := 74) E fg_X2_24 rfl rfl (jv_lt hj_4 (by decide)) (jv_r hj_4 (by decide +kernel)) dX2_gather_21 ?_
      refine s_iload_n E dX2_gather_24 rfl rfl ?_
      refine s_bipush (v := 15) E dX2_gather_25 (by decide) ?_
      refine z_imul (u := q2_1_0.toInt) (v := 15) E dX2_gather_27 rfl (by decide) (by omega) (by omega) (fun z_8 hz_8 => ?_)
      refine s_iload_n E dX2_gather_28 rfl rfl ?_
      refine z_iadd (u := z_8.toInt) (v := q12_2_3.toInt) E dX2_gather_29 rfl rfl (by omega) (by omega) (fun z_9 hz_9 => ?_)
      refine s_aload_n E dX2_gather_30 rfl rfl ?_
      refine s_aload_n E dX2_gather_31 rfl rfl ?_
      refine s_iload_n E dX2_gather_32 rfl rfl ?_
      refine s_iload_n E dX2_gather_33 rfl rfl ?_
      refine s_vI (As := [AI q2_1_0, AI q12_2_3]) (S := [AR 69, AI z_9, AR 74]) E (Z_X2_placeOf_69 l D aC b v12 q2_1_0 q12_2_3 hj_4.1 ) cv_X2_111 rfl rfl rfl (jv_lt hj_4 (by decide)) (Nat.le_of_ble_eq_true rfl) (Nat.le_of_ble_eq_true rfl) ⟨(Nat.le_of_ble_eq_true rfl), (Nat.le_of_ble_eq_true rfl)⟩ (Nat.le_of_ble_eq_true rfl) dX2_gather_34 (fun z_12 u_10 hp_11 => ?_)
      obtain ⟨hz_12, hp_11⟩ := hp_11
      subst hp_11
      refine s_iload_n E dX2_gather_37 rfl rfl ?_
      refine s_vI (As := [AI z_12, AI q12_2_3]) (S := [AI z_9, AR 74]) E (Z_X2_ladiesIn_69 l D aC b v12 z_12 q12_2_3 hj_4.1 ) cv_X2_114 rfl rfl rfl (jv_lt hj_4 (by decide)) (Nat.le_of_ble_eq_true rfl) (Nat.le_of_ble_eq_true rfl) ⟨(Nat.le_of_ble_eq_true rfl), (Nat.le_of_ble_eq_true rfl)⟩ (Nat.le_of_ble_eq_true rfl) dX2_gather_38 (fun z_16 u_14 hp_15 => ?_)
      obtain ⟨hz_16, hp_15⟩ := hp_15
      subst hp_15
      refine s_iast E rfl (jv_lt hj_4 (by decide)) (z_in (u := z_9.toInt) rfl (by omega) (by omega)) dX2_gather_41 ?_
      refine s_gen (P := fun v => Jv w v ∧ (v.2.2.1 69 5).toInt = (v12.2.2.1 69 5).toInt) ⟨(jv_a_74 hj_4 (by have hb_ := z32 z_16; omega) (by have hb_ := z32 z_16; omega)), rfl⟩ (fun v_18 hj_19 => ?_)
      obtain ⟨hj_19, hk_20k0⟩ := hj_19
      refine z_iinc (u := q12_2_3.toInt) (L2 := fun z_21 => [some (AR 69), some (AI q2_1_0), some (AI z_21)]) E dX2_gather_42 rfl rfl (by decide) (fun _ => rfl) (by decide) (by omega) (by omega) (fun z_21 hz_21 => ?_)
      refine s_goto (tgt := 12) E dX2_gather_45 (by decide) ?_
      exact ih12 z_21 v_18 ⟨⟨by have hb_ := z32 z_21; omega, by have hb_ := z32 z_21; omega⟩, ⟨by omega, by omega⟩, hj_19⟩ (by first | omega | decide | (dsimp only; omega) | (dsimp only; decide))
set_option maxRecDepth 20000 in
set_option maxHeartbeats 2000000 in
theorem Z_X2_goalOf_69 (l : Launch) (D : va_G) (aC : Nat → ClassId) (b : Nat) (w : XW) (x1 : Int32) (x2 : Int32) (hI : Iv w)  : CnI l D aC b M_X2_goalOf 1 22 0 0 [AR 69, AI x1, AI x2] w (fun r u => ((-2147483648) ≤ r.toInt ∧ r.toInt ≤ 2147483647 ∧ (¬ r.toInt = 0 ∨ (0 ≤ x1.toInt ∧ x1.toInt ≤ 5)) ∧ (¬ r.toInt = 0 ∨ (0 ≤ x2.toInt ∧ x2.toInt ≤ 14)) ∧ (¬ r.toInt = 0 ∨ (1 ≤ (w.2.2.1 69 5).toInt ∧ (w.2.2.1 69 5).toInt ≤ 6))) ∧ w = u) := by
  refine cn_I (own := RX2) (nm := "goalOf") (L0 := [some (AR 69), some (AI x1), some (AI x2)]) (by decide +kernel) rfl rfl (Nat.le_of_ble_eq_true rfl) rfl ?_
  intro p e s m args below meth c E hin
  have hJ : Jv w w := jv_rfl hI
  have hb_x1 := z32 x1
  have hb_x2 := z32 x2
  refine s_aload_n E dX2_goalOf_0 rfl rfl ?_
  refine s_iload_n E dX2_goalOf_1 rfl rfl ?_
  refine s_iload_n E dX2_goalOf_2 rfl rfl ?_
  refine s_vI (As := [AI x1, AI x2]) (S := []) E (Z_X2_isHere_69 l D aC b w x1 x2 hJ.1 ) cv_X2_127 rfl rfl rfl (jv_lt hJ (by decide)) (Nat.le_of_ble_eq_true rfl) (Nat.le_of_ble_eq_true rfl) ⟨(Nat.le_of_ble_eq_true rfl), (Nat.le_of_ble_eq_true rfl)⟩ (Nat.le_of_ble_eq_true rfl) dX2_goalOf_3 (fun z_3 u_1 hp_2 => ?_)
  obtain ⟨hz_3, hp_2⟩ := hp_2
  subst hp_2
  refine z_if_eq (tgt := 23) (u := z_3.toInt) E dX2_goalOf_6 (by decide) rfl (fun h_5 => ?_) (fun h_5 => ?_)
  ·
    refine s_iconst (v := (-1)) E dX2_goalOf_23 (by decide) ?_
    exact r_int E dX2_goalOf_24 ⟨⟨by decide, by decide, by first | (left; decide) | (right; decide) | (right; have hb_ := z32 x1; omega), by first | (left; decide) | (right; decide) | (right; have hb_ := z32 x2; omega), by first | (left; decide) | (right; decide) | (right; have hb_ := z32 (w.2.2.1 69 5); omega)⟩, rfl⟩
  ·
    refine s_aload_n E dX2_goalOf_9 rfl rfl ?_
    refine s_gR (r := 71) E fg_X2_15 rfl rfl (jv_lt hJ (by decide)) (jv_r hJ (by decide +kernel)) dX2_goalOf_10 ?_
    refine s_iload_n E dX2_goalOf_13 rfl rfl ?_
    refine s_bipush (v := 15) E dX2_goalOf_14 (by decide) ?_
    refine z_imul (u := x1.toInt) (v := 15) E dX2_goalOf_16 rfl (by decide) (by omega) (by omega) (fun z_6 hz_6 => ?_)
    refine s_iload_n E dX2_goalOf_17 rfl rfl ?_
    refine z_iadd (u := z_6.toInt) (v := x2.toInt) E dX2_goalOf_18 rfl rfl (by omega) (by omega) (fun z_7 hz_7 => ?_)
    refine s_iald E rfl (jv_lt hJ (by decide)) (z_in (u := z_7.toInt) rfl (by omega) (by omega)) dX2_goalOf_19 ?_
    refine z_nm (P := fun z => (-2147483648) ≤ z.toInt ∧ z.toInt ≤ 2147483647) (z32 _) (fun z_8 hz_8 => ?_)
    refine s_goto (tgt := 24) E dX2_goalOf_20 (by decide) ?_
    exact r_int E dX2_goalOf_24 ⟨⟨by have hb_ := z32 z_8; omega, by have hb_ := z32 z_8; omega, by first | (right; decide) | (have hb_ := z32 z_8; omega) | (have hb_ := z32 z_8; have hc_ := z32 x1; omega), by first | (right; decide) | (have hb_ := z32 z_8; omega) | (have hb_ := z32 z_8; have hc_ := z32 x2; omega), by first | (right; decide) | (have hb_ := z32 z_8; omega) | (have hb_ := z32 z_8; have hc_ := z32 (w.2.2.1 69 5); omega)⟩, rfl⟩
set_option maxRecDepth 20000 in
set_option maxHeartbeats 2000000 in
theorem Z_X2_stepsFrom_69 (l : Launch) (D : va_G) (aC : Nat → ClassId) (b : Nat) (w : XW) (x1 : Int32) (x2 : Int32) (hI : Iv w)  : CnI l D aC b M_X2_stepsFrom 0 0 0 0 [AR 69, AI x1, AI x2] w (fun r u => ((-2147483648) ≤ r.toInt ∧ r.toInt ≤ 2147483647 ∧ (r.toInt = 0 ∨ (0 ≤ x1.toInt ∧ x1.toInt ≤ 5)) ∧ (r.toInt = 0 ∨ (0 ≤ x2.toInt ∧ x2.toInt ≤ 7)) ∧ (r.toInt = 0 ∨ (1 ≤ (w.2.2.1 69 5).toInt ∧ (w.2.2.1 69 5).toInt ≤ 6)) ∧ (r.toInt = 0 ∨ (1 ≤ (w.2.2.1 69 6).toInt ∧ (w.2.2.1 69 6).toInt ≤ 8))) ∧ w = u) := by
  refine cn_I (own := RX2) (nm := "stepsFrom") (L0 := [some (AR 69), some (AI x1), some (AI x2)]) (by decide +kernel) rfl rfl (Nat.le_of_ble_eq_true rfl) rfl ?_
  intro p e s m args below meth c E hin
  have hJ : Jv w w := jv_rfl hI
  have hb_x1 := z32 x1
  have hb_x2 := z32 x2
  refine s_iload_n E dX2_stepsFrom_0 rfl rfl ?_
  refine z_if_lt (tgt := 24) (u := x1.toInt) E dX2_stepsFrom_1 (by decide) rfl (fun h_1 => ?_) (fun h_1 => ?_)
  ·
    refine s_iconst (v := 0) E dX2_stepsFrom_24 (by decide) ?_
    exact r_int E dX2_stepsFrom_25 ⟨⟨by decide, by decide, by first | (left; decide) | (right; decide) | (right; have hb_ := z32 x1; omega), by first | (left; decide) | (right; decide) | (right; have hb_ := z32 x2; omega), by first | (left; decide) | (right; decide) | (right; have hb_ := z32 (w.2.2.1 69 5); omega), by first | (left; decide) | (right; decide) | (right; have hb_ := z32 (w.2.2.1 69 6); omega)⟩, rfl⟩
  ·
    refine s_iload_n E dX2_stepsFrom_4 rfl rfl ?_
    refine s_aload_n E dX2_stepsFrom_5 rfl rfl ?_
    refine s_gI E fg_X2_35 rfl rfl (jv_lt hJ (by decide)) dX2_stepsFrom_6 ?_
    refine z_nm (P := fun z => z.toInt = (w.2.2.1 69 5).toInt ∧ 0 ≤ z.toInt ∧ z.toInt ≤ 6) ⟨rfl, (rg_69_5 hJ)⟩ (fun z_2 hz_2 => ?_)
    refine z_icmp_ge (tgt := 24) (u := x1.toInt) (v := z_2.toInt) E dX2_stepsFrom_9 (by decide) rfl rfl (fun h_3 => ?_) (fun h_3 => ?_)
    ·
      refine s_iconst (v := 0) E dX2_stepsFrom_24 (by decide) ?_
      exact r_int E dX2_stepsFrom_25 ⟨⟨by decide, by decide, by first | (left; decide) | (right; decide) | (right; have hb_ := z32 x1; omega), by first | (left; decide) | (right; decide) | (right; have hb_ := z32 x2; omega), by first | (left; decide) | (right; decide) | (right; have hb_ := z32 (w.2.2.1 69 5); omega), by first | (left; decide) | (right; decide) | (right; have hb_ := z32 (w.2.2.1 69 6); omega)⟩, rfl⟩
    ·
      refine s_iload_n E dX2_stepsFrom_12 rfl rfl ?_
      refine z_if_lt (tgt := 24) (u := x2.toInt) E dX2_stepsFrom_13 (by decide) rfl (fun h_4 => ?_) (fun h_4 => ?_)
      ·
        refine s_iconst (v := 0) E dX2_stepsFrom_24 (by decide) ?_
        exact r_int E dX2_stepsFrom_25 ⟨⟨by decide, by decide, by first | (left; decide) | (right; decide) | (right; have hb_ := z32 x1; omega), by first | (left; decide) | (right; decide) | (right; have hb_ := z32 x2; omega), by first | (left; decide) | (right; decide) | (right; have hb_ := z32 (w.2.2.1 69 5); omega), by first | (left; decide) | (right; decide) | (right; have hb_ := z32 (w.2.2.1 69 6); omega)⟩, rfl⟩
      ·
        refine s_iload_n E dX2_stepsFrom_16 rfl rfl ?_
        refine s_aload_n E dX2_stepsFrom_17 rfl rfl ?_
        refine s_gI E fg_X2_63 rfl rfl (jv_lt hJ (by decide)) dX2_stepsFrom_18 ?_
        refine z_nm (P := fun z => z.toInt = (w.2.2.1 69 6).toInt ∧ 0 ≤ z.toInt ∧ z.toInt ≤ 8) ⟨rfl, (rg_69_6 hJ)⟩ (fun z_5 hz_5 => ?_)
        refine z_icmp_lt (tgt := 26) (u := x2.toInt) (v := z_5.toInt) E dX2_stepsFrom_21 (by decide) rfl rfl (fun h_6 => ?_) (fun h_6 => ?_)
        ·
          refine s_aload_n E dX2_stepsFrom_26 rfl rfl ?_
          refine s_gR (r := 70) E fg_X2_9 rfl rfl (jv_lt hJ (by decide)) (jv_r hJ (by decide +kernel)) dX2_stepsFrom_27 ?_
          refine s_iload_n E dX2_stepsFrom_30 rfl rfl ?_
          refine s_bipush (v := 8) E dX2_stepsFrom_31 (by decide) ?_
          refine z_imul (u := x1.toInt) (v := 8) E dX2_stepsFrom_33 rfl (by decide) (by omega) (by omega) (fun z_7 hz_7 => ?_)
          refine s_iload_n E dX2_stepsFrom_34 rfl rfl ?_
          refine z_iadd (u := z_7.toInt) (v := x2.toInt) E dX2_stepsFrom_35 rfl rfl (by omega) (by omega) (fun z_8 hz_8 => ?_)
          refine s_iald E rfl (jv_lt hJ (by decide)) (z_in (u := z_8.toInt) rfl (by omega) (by omega)) dX2_stepsFrom_36 ?_
          refine z_nm (P := fun z => (-2147483648) ≤ z.toInt ∧ z.toInt ≤ 2147483647) (z32 _) (fun z_9 hz_9 => ?_)
          exact r_int E dX2_stepsFrom_37 ⟨⟨by have hb_ := z32 z_9; omega, by have hb_ := z32 z_9; omega, by first | (right; decide) | (have hb_ := z32 z_9; omega) | (have hb_ := z32 z_9; have hc_ := z32 x1; omega), by first | (right; decide) | (have hb_ := z32 z_9; omega) | (have hb_ := z32 z_9; have hc_ := z32 x2; omega), by first | (right; decide) | (have hb_ := z32 z_9; omega) | (have hb_ := z32 z_9; have hc_ := z32 (w.2.2.1 69 5); omega), by first | (right; decide) | (have hb_ := z32 z_9; omega) | (have hb_ := z32 z_9; have hc_ := z32 (w.2.2.1 69 6); omega)⟩, rfl⟩
        ·
          refine s_iconst (v := 0) E dX2_stepsFrom_24 (by decide) ?_
          exact r_int E dX2_stepsFrom_25 ⟨⟨by decide, by decide, by first | (left; decide) | (right; decide) | (right; have hb_ := z32 x1; omega), by first | (left; decide) | (right; decide) | (right; have hb_ := z32 x2; omega), by first | (left; decide) | (right; decide) | (right; have hb_ := z32 (w.2.2.1 69 5); omega), by first | (left; decide) | (right; decide) | (right; have hb_ := z32 (w.2.2.1 69 6); omega)⟩, rfl⟩
set_option maxRecDepth 20000 in
set_option maxHeartbeats 2000000 in
theorem Z_X9_hasBit (l : Launch) (D : va_G) (aC : Nat → ClassId) (b : Nat) (w : XW) (x1 : Int32) (x2 : Int32) (hI : Iv w)  : CnI l D aC b M_X9_hasBit 0 0 0 0 [AI x1, AI x2] w (fun r u => (0 ≤ r.toInt ∧ r.toInt ≤ 1 ∧ (r.toInt = 0 ∨ (0 ≤ x2.toInt ∧ x2.toInt ≤ 31))) ∧ w = u) := by
  refine cn_I (own := RX9) (nm := "hasBit") (L0 := [some (AI x1), some (AI x2)]) (by decide +kernel) rfl rfl (Nat.le_of_ble_eq_true rfl) rfl ?_
  intro p e s m args below meth c E hin
  have hJ : Jv w w := jv_rfl hI
  have hb_x1 := z32 x1
  have hb_x2 := z32 x2
  refine s_iload_n E dX9_hasBit_0 rfl rfl ?_
  refine z_if_lt (tgt := 22) (u := x2.toInt) E dX9_hasBit_1 (by decide) rfl (fun h_1 => ?_) (fun h_1 => ?_)
  ·
    refine s_iconst (v := 0) E dX9_hasBit_22 (by decide) ?_
    exact r_bool E dX9_hasBit_23 (Or.inl rfl) ⟨⟨by decide, by decide, by first | (left; decide) | (right; decide) | (right; have hb_ := z32 x2; omega)⟩, rfl⟩
  ·
    refine s_iload_n E dX9_hasBit_4 rfl rfl ?_
    refine s_bipush (v := 32) E dX9_hasBit_5 (by decide) ?_
    refine z_icmp_ge (tgt := 22) (u := x2.toInt) (v := 32) E dX9_hasBit_7 (by decide) rfl (by decide) (fun h_2 => ?_) (fun h_2 => ?_)
    ·
      refine s_iconst (v := 0) E dX9_hasBit_22 (by decide) ?_
      exact r_bool E dX9_hasBit_23 (Or.inl rfl) ⟨⟨by decide, by decide, by first | (left; decide) | (right; decide) | (right; have hb_ := z32 x2; omega)⟩, rfl⟩
    ·
      refine s_iload_n E dX9_hasBit_10 rfl rfl ?_
      refine s_iload_n E dX9_hasBit_11 rfl rfl ?_
      refine s_iushr E dX9_hasBit_12 ?_
      refine z_nm (P := fun z => (-2147483648) ≤ z.toInt ∧ z.toInt ≤ 2147483647) (z32 _) (fun z_3 hz_3 => ?_)
      refine s_iconst (v := 1) E dX9_hasBit_13 (by decide) ?_
      refine z_mask (v := 1) E dX9_hasBit_14 (by decide) (by decide) (fun z_4 hz_4 => ?_)
      refine z_if_eq (tgt := 22) (u := z_4.toInt) E dX9_hasBit_15 (by decide) rfl (fun h_5 => ?_) (fun h_5 => ?_)
      ·
        refine s_iconst (v := 0) E dX9_hasBit_22 (by decide) ?_
        exact r_bool E dX9_hasBit_23 (Or.inl rfl) ⟨⟨by decide, by decide, by first | (left; decide) | (right; decide) | (right; have hb_ := z32 x2; omega)⟩, rfl⟩
      ·
        refine s_iconst (v := 1) E dX9_hasBit_18 (by decide) ?_
        refine s_goto (tgt := 23) E dX9_hasBit_19 (by decide) ?_
        exact r_bool E dX9_hasBit_23 (Or.inr rfl) ⟨⟨by decide, by decide, by first | (left; decide) | (right; decide) | (right; have hb_ := z32 x2; omega)⟩, rfl⟩
set_option maxRecDepth 20000 in
set_option maxHeartbeats 2000000 in
theorem Z_X2_spread_69 (l : Launch) (D : va_G) (aC : Nat → ClassId) (b : Nat) (w : XW) (x1 : Int32) (x2 : Int32) (hI : Iv w)  : CnI l D aC b M_X2_spread 1 22 0 0 [AR 69, AI x1, AI x2] w (fun r u => ((-2147483648) ≤ r.toInt ∧ r.toInt ≤ 2147483647) ∧ w = u) := by
  refine cn_I (own := RX2) (nm := "spread") (L0 := [some (AR 69), some (AI x1), some (AI x2), none, none]) (by decide +kernel) rfl rfl (Nat.le_of_ble_eq_true rfl) rfl ?_
  intro p e s m args below meth c E hin
  have hJ : Jv w w := jv_rfl hI
  have hb_x1 := z32 x1
  have hb_x2 := z32 x2
  refine s_iconst (v := 0) E dX2_spread_0 (by decide) ?_
  refine s_istore_n (L2 := [some (AR 69), some (AI x1), some (AI x2), some (AI 0), none]) E dX2_spread_1 rfl (by decide) rfl ?_
  refine s_iconst (v := 0) E dX2_spread_2 (by decide) ?_
  refine s_istore (L2 := [some (AR 69), some (AI x1), some (AI x2), some (AI 0), some (AI 0)]) E dX2_spread_3 (by decide) rfl ?_
  refine z_loop (St := Int32 × Int32) (Pi := fun ⟨q5_3_0, q5_4_0⟩ v5 => (0 ≤ q5_4_0.toInt ∧ q5_4_0.toInt ≤ 8) ∧ w = v5) (Lf := fun ⟨q5_3_0, q5_4_0⟩ => [some (AR 69), some (AI x1), some (AI x2), some (AI q5_3_0), some (AI q5_4_0)]) (fun ⟨q5_3_0, q5_4_0⟩ _ => (9 - q5_4_0.toInt).toNat) ⟨0, 0⟩ ⟨⟨by decide, by decide⟩, rfl⟩ ?_
  rintro ⟨q5_3_0, q5_4_0⟩ v5 ⟨hq5_4, hv_⟩ ih5
  subst hv_
  have hbq5_3 := z32 q5_3_0
  refine s_loc (L2 := [some (AR 69), some (AI x1), some (AI x2), some (AI q5_3_0), some (AI q5_4_0)]) rfl ?_
  refine s_iload E dX2_spread_5 rfl ?_
  refine s_aload_n E dX2_spread_7 rfl rfl ?_
  refine s_gI E fg_X2_63 rfl rfl (jv_lt hJ (by decide)) dX2_spread_8 ?_
  refine z_nm (P := fun z => z.toInt = (w.2.2.1 69 6).toInt ∧ 0 ≤ z.toInt ∧ z.toInt ≤ 8) ⟨rfl, (rg_69_6 hJ)⟩ (fun z_2 hz_2 => ?_)
  refine z_icmp_ge (tgt := 39) (u := q5_4_0.toInt) (v := z_2.toInt) E dX2_spread_11 (by decide) rfl rfl (fun h_3 => ?_) (fun h_3 => ?_)
  ·
    refine s_iload_n E dX2_spread_39 rfl rfl ?_
    exact r_int E dX2_spread_40 ⟨⟨by have hb_ := z32 q5_3_0; omega, by have hb_ := z32 q5_3_0; omega⟩, rfl⟩
  ·
    refine s_iload_n E dX2_spread_14 rfl rfl ?_
    refine s_iload E dX2_spread_15 rfl ?_
    refine s_sI (As := [AI x2, AI q5_4_0]) (S := []) E (Z_X9_hasBit l D aC b w x2 q5_4_0 hJ.1 ) cs_X2_123 rfl rfl (Nat.le_of_ble_eq_true rfl) (Nat.le_of_ble_eq_true rfl) ⟨(Nat.le_of_ble_eq_true rfl), (Nat.le_of_ble_eq_true rfl)⟩ (Nat.le_of_ble_eq_true rfl) dX2_spread_17 (fun z_6 u_4 hp_5 => ?_)
    obtain ⟨hz_6, hp_5⟩ := hp_5
    subst hp_5
    refine z_if_eq (tgt := 33) (u := z_6.toInt) E dX2_spread_20 (by decide) rfl (fun h_8 => ?_) (fun h_8 => ?_)
    ·
      refine z_iinc (u := q5_4_0.toInt) (L2 := fun z_9 => [some (AR 69), some (AI x1), some (AI x2), some (AI q5_3_0), some (AI z_9)]) E dX2_spread_33 rfl rfl (by decide) (fun _ => rfl) (by decide) (by omega) (by omega) (fun z_9 hz_9 => ?_)
      refine s_goto (tgt := 5) E dX2_spread_36 (by decide) ?_
      exact ih5 ⟨q5_3_0, z_9⟩ w ⟨⟨by have hb_ := z32 z_9; omega, by have hb_ := z32 z_9; omega⟩, rfl⟩ (by first | omega | decide | (dsimp only; omega) | (dsimp only; decide))
    ·
      refine s_iload_n E dX2_spread_23 rfl rfl ?_
      refine s_aload_n E dX2_spread_24 rfl rfl ?_
      refine s_iload_n E dX2_spread_25 rfl rfl ?_
      refine s_iload E dX2_spread_26 rfl ?_
      refine s_vI (As := [AI x1, AI q5_4_0]) (S := [AI q5_3_0]) E (Z_X2_stepsFrom_69 l D aC b w x1 q5_4_0 hJ.1 ) cv_X2_101 rfl rfl rfl (jv_lt hJ (by decide)) (Nat.le_of_ble_eq_true rfl) (Nat.le_of_ble_eq_true rfl) ⟨(Nat.le_of_ble_eq_true rfl), (Nat.le_of_ble_eq_true rfl)⟩ (Nat.le_of_ble_eq_true rfl) dX2_spread_28 (fun z_12 u_10 hp_11 => ?_)
      obtain ⟨hz_12, hp_11⟩ := hp_11
      subst hp_11
      refine s_ior E dX2_spread_31 ?_
      refine z_nm (P := fun z => (-2147483648) ≤ z.toInt ∧ z.toInt ≤ 2147483647) (z32 _) (fun z_14 hz_14 => ?_)
      refine s_istore_n (L2 := [some (AR 69), some (AI x1), some (AI x2), some (AI z_14), some (AI q5_4_0)]) E dX2_spread_32 rfl (by decide) rfl ?_
      refine z_iinc (u := q5_4_0.toInt) (L2 := fun z_15 => [some (AR 69), some (AI x1), some (AI x2), some (AI z_14), some (AI z_15)]) E dX2_spread_33 rfl rfl (by decide) (fun _ => rfl) (by decide) (by omega) (by omega) (fun z_15 hz_15 => ?_)
      refine s_goto (tgt := 5) E dX2_spread_36 (by decide) ?_
      exact ih5 ⟨z_14, z_15⟩ w ⟨⟨by have hb_ := z32 z_15; omega, by have hb_ := z32 z_15; omega⟩, rfl⟩ (by first | omega | decide | (dsimp only; omega) | (dsimp only; decide))
set_option maxRecDepth 20000 in
set_option maxHeartbeats 2000000 in
theorem Z_X9_lowest (l : Launch) (D : va_G) (aC : Nat → ClassId) (b : Nat) (w : XW) (x1 : Int32) (hI : Iv w)  : CnI l D aC b M_X9_lowest 1 21 0 0 [AI x1] w (fun r u => ((-1) ≤ r.toInt ∧ r.toInt ≤ 31) ∧ w = u) := by
  refine cn_I (own := RX9) (nm := "lowest") (L0 := [some (AI x1), none]) (by decide +kernel) rfl rfl (Nat.le_of_ble_eq_true rfl) rfl ?_
  intro p e s m args below meth c E hin
  have hJ : Jv w w := jv_rfl hI
  have hb_x1 := z32 x1
  refine s_iconst (v := 0) E dX9_lowest_0 (by decide) ?_
  refine s_istore_n (L2 := [some (AI x1), some (AI 0)]) E dX9_lowest_1 rfl (by decide) rfl ?_
  refine z_loop (St := Int32) (Pi := fun q2_1_0 v2 => (0 ≤ q2_1_0.toInt ∧ q2_1_0.toInt ≤ 32) ∧ w = v2) (Lf := fun q2_1_0 => [some (AI x1), some (AI q2_1_0)]) (fun q2_1_0 _ => (33 - q2_1_0.toInt).toNat) 0 ⟨⟨by decide, by decide⟩, rfl⟩ ?_
  rintro q2_1_0 v2 ⟨hq2_1, hv_⟩ ih2
  subst hv_
  refine s_loc (L2 := [some (AI x1), some (AI q2_1_0)]) rfl ?_
  refine s_iload_n E dX9_lowest_2 rfl rfl ?_
  refine s_bipush (v := 32) E dX9_lowest_3 (by decide) ?_
  refine z_icmp_ge (tgt := 24) (u := q2_1_0.toInt) (v := 32) E dX9_lowest_5 (by decide) rfl (by decide) (fun h_2 => ?_) (fun h_2 => ?_)
  ·
    refine s_iconst (v := (-1)) E dX9_lowest_24 (by decide) ?_
    exact r_int E dX9_lowest_25 ⟨(by decide), rfl⟩
  ·
    refine s_iload_n E dX9_lowest_8 rfl rfl ?_
    refine s_iload_n E dX9_lowest_9 rfl rfl ?_
    refine s_sI (As := [AI x1, AI q2_1_0]) (S := []) E (Z_X9_hasBit l D aC b w x1 q2_1_0 hJ.1 ) cs_X9_175 rfl rfl (Nat.le_of_ble_eq_true rfl) (Nat.le_of_ble_eq_true rfl) ⟨(Nat.le_of_ble_eq_true rfl), (Nat.le_of_ble_eq_true rfl)⟩ (Nat.le_of_ble_eq_true rfl) dX9_lowest_10 (fun z_5 u_3 hp_4 => ?_)
    obtain ⟨hz_5, hp_4⟩ := hp_4
    subst hp_4
    refine z_if_eq (tgt := 18) (u := z_5.toInt) E dX9_lowest_13 (by decide) rfl (fun h_7 => ?_) (fun h_7 => ?_)
    ·
      refine z_iinc (u := q2_1_0.toInt) (L2 := fun z_8 => [some (AI x1), some (AI z_8)]) E dX9_lowest_18 rfl rfl (by decide) (fun _ => rfl) (by decide) (by omega) (by omega) (fun z_8 hz_8 => ?_)
      refine s_goto (tgt := 2) E dX9_lowest_21 (by decide) ?_
      exact ih2 z_8 w ⟨⟨by have hb_ := z32 z_8; omega, by have hb_ := z32 z_8; omega⟩, rfl⟩ (by first | omega | decide | (dsimp only; omega) | (dsimp only; decide))
    ·
      refine s_iload_n E dX9_lowest_16 rfl rfl ?_
      exact r_int E dX9_lowest_17 ⟨⟨by have hb_ := z32 q2_1_0; omega, by have hb_ := z32 q2_1_0; omega⟩, rfl⟩
set_option maxRecDepth 20000 in
set_option maxHeartbeats 2000000 in
theorem Z_X2_nextRoom_69 (l : Launch) (D : va_G) (aC : Nat → ClassId) (b : Nat) (w : XW) (x1 : Int32) (x2 : Int32) (x3 : Int32) (hI : Iv w)  : CnI l D aC b M_X2_nextRoom 2 46 0 0 [AR 69, AI x1, AI x2, AI x3] w (fun r u => ((-2147483648) ≤ r.toInt ∧ r.toInt ≤ 2147483647) ∧ w = u) := by
  refine cn_I (own := RX2) (nm := "nextRoom") (L0 := [some (AR 69), some (AI x1), some (AI x2), some (AI x3), none, none, none]) (by decide +kernel) rfl rfl (Nat.le_of_ble_eq_true rfl) rfl ?_
  intro p e s m args below meth c E hin
  have hJ : Jv w w := jv_rfl hI
  have hb_x1 := z32 x1
  have hb_x2 := z32 x2
  have hb_x3 := z32 x3
  refine s_iload_n E dX2_nextRoom_0 rfl rfl ?_
  refine s_iconst (v := (-1)) E dX2_nextRoom_1 (by decide) ?_
  refine z_icmp_eq (tgt := 10) (u := x3.toInt) (v := (-1)) E dX2_nextRoom_2 (by decide) rfl (by decide) (fun h_1 => ?_) (fun h_1 => ?_)
  ·
    refine s_iload_n E dX2_nextRoom_10 rfl rfl ?_
    exact r_int E dX2_nextRoom_11 ⟨⟨by have hb_ := z32 x2; omega, by have hb_ := z32 x2; omega⟩, rfl⟩
  ·
    refine s_iload_n E dX2_nextRoom_5 rfl rfl ?_
    refine s_iload_n E dX2_nextRoom_6 rfl rfl ?_
    refine z_icmp_ne (tgt := 12) (u := x3.toInt) (v := x2.toInt) E dX2_nextRoom_7 (by decide) rfl rfl (fun h_2 => ?_) (fun h_2 => ?_)
    ·
      refine s_iconst (v := 1) E dX2_nextRoom_12 (by decide) ?_
      refine s_iload_n E dX2_nextRoom_13 rfl rfl ?_
      refine s_ishl E dX2_nextRoom_14 ?_
      refine z_nm (P := fun z => (-2147483648) ≤ z.toInt ∧ z.toInt ≤ 2147483647) (z32 _) (fun z_3 hz_3 => ?_)
      refine s_istore (L2 := [some (AR 69), some (AI x1), some (AI x2), some (AI x3), some (AI z_3), none, none]) E dX2_nextRoom_15 (by decide) rfl ?_
      refine s_iconst (v := 0) E dX2_nextRoom_17 (by decide) ?_
      refine s_istore (L2 := [some (AR 69), some (AI x1), some (AI x2), some (AI x3), some (AI z_3), some (AI 0), none]) E dX2_nextRoom_18 (by decide) rfl ?_
      refine z_loop (St := Int32 × Int32) (Pi := fun ⟨q20_4_3, q20_5_3⟩ v20 => (0 ≤ q20_5_3.toInt ∧ q20_5_3.toInt ≤ 8) ∧ w = v20) (Lf := fun ⟨q20_4_3, q20_5_3⟩ => [some (AR 69), some (AI x1), some (AI x2), some (AI x3), some (AI q20_4_3), some (AI q20_5_3), none]) (fun ⟨q20_4_3, q20_5_3⟩ _ => (9 - q20_5_3.toInt).toNat) ⟨z_3, 0⟩ ⟨⟨by decide, by decide⟩, rfl⟩ ?_
      rintro ⟨q20_4_3, q20_5_3⟩ v20 ⟨hq20_5, hv_⟩ ih20
      subst hv_
      have hbq20_4 := z32 q20_4_3
      refine s_loc (L2 := [some (AR 69), some (AI x1), some (AI x2), some (AI x3), some (AI q20_4_3), some (AI q20_5_3), none]) rfl ?_
      refine s_iload E dX2_nextRoom_20 rfl ?_
      refine s_aload_n E dX2_nextRoom_22 rfl rfl ?_
      refine s_gI E fg_X2_63 rfl rfl (jv_lt hJ (by decide)) dX2_nextRoom_23 ?_
      refine z_nm (P := fun z => z.toInt = (w.2.2.1 69 6).toInt ∧ 0 ≤ z.toInt ∧ z.toInt ≤ 8) ⟨rfl, (rg_69_6 hJ)⟩ (fun z_5 hz_5 => ?_)
      refine z_icmp_ge (tgt := 66) (u := q20_5_3.toInt) (v := z_5.toInt) E dX2_nextRoom_26 (by decide) rfl rfl (fun h_6 => ?_) (fun h_6 => ?_)
      ·
        refine s_iload_n E dX2_nextRoom_66 rfl rfl ?_
        exact r_int E dX2_nextRoom_67 ⟨⟨by have hb_ := z32 x2; omega, by have hb_ := z32 x2; omega⟩, rfl⟩
      ·
        refine s_aload_n E dX2_nextRoom_29 rfl rfl ?_
        refine s_iload_n E dX2_nextRoom_30 rfl rfl ?_
        refine s_iload_n E dX2_nextRoom_31 rfl rfl ?_
        refine s_vI (As := [AI x1, AI x2]) (S := []) E (Z_X2_stepsFrom_69 l D aC b w x1 x2 hJ.1 ) cv_X2_101 rfl rfl rfl (jv_lt hJ (by decide)) (Nat.le_of_ble_eq_true rfl) (Nat.le_of_ble_eq_true rfl) ⟨(Nat.le_of_ble_eq_true rfl), (Nat.le_of_ble_eq_true rfl)⟩ (Nat.le_of_ble_eq_true rfl) dX2_nextRoom_32 (fun z_9 u_7 hp_8 => ?_)
        obtain ⟨hz_9, hp_8⟩ := hp_8
        subst hp_8
        refine s_iload E dX2_nextRoom_35 rfl ?_
        refine s_iand E dX2_nextRoom_37 ?_
        refine z_nm (P := fun z => (-2147483648) ≤ z.toInt ∧ z.toInt ≤ 2147483647) (z32 _) (fun z_11 hz_11 => ?_)
        refine s_istore (L2 := [some (AR 69), some (AI x1), some (AI x2), some (AI x3), some (AI q20_4_3), some (AI q20_5_3), some (AI z_11)]) E dX2_nextRoom_38 (by decide) rfl ?_
        refine s_iload E dX2_nextRoom_40 rfl ?_
        refine z_if_eq (tgt := 51) (u := z_11.toInt) E dX2_nextRoom_42 (by decide) rfl (fun h_12 => ?_) (fun h_12 => ?_)
        ·
          refine s_aload_n E dX2_nextRoom_51 rfl rfl ?_
          refine s_iload_n E dX2_nextRoom_52 rfl rfl ?_
          refine s_iload E dX2_nextRoom_53 rfl ?_
          refine s_vI (As := [AI x1, AI q20_4_3]) (S := []) E (Z_X2_spread_69 l D aC b w x1 q20_4_3 hJ.1 ) cv_X2_108 rfl rfl rfl (jv_lt hJ (by decide)) (Nat.le_of_ble_eq_true rfl) (Nat.le_of_ble_eq_true rfl) ⟨(Nat.le_of_ble_eq_true rfl), (Nat.le_of_ble_eq_true rfl)⟩ (Nat.le_of_ble_eq_true rfl) dX2_nextRoom_55 (fun z_15 u_13 hp_14 => ?_)
          obtain ⟨hz_15, hp_14⟩ := hp_14
          subst hp_14
          refine s_istore (L2 := [some (AR 69), some (AI x1), some (AI x2), some (AI x3), some (AI z_15), some (AI q20_5_3), some (AI z_11)]) E dX2_nextRoom_58 (by decide) rfl ?_
          refine z_iinc (u := q20_5_3.toInt) (L2 := fun z_17 => [some (AR 69), some (AI x1), some (AI x2), some (AI x3), some (AI z_15), some (AI z_17), some (AI z_11)]) E dX2_nextRoom_60 rfl rfl (by decide) (fun _ => rfl) (by decide) (by omega) (by omega) (fun z_17 hz_17 => ?_)
          refine s_goto (tgt := 20) E dX2_nextRoom_63 (by decide) ?_
          refine s_drop (i := 6) (L2 := [some (AR 69), some (AI x1), some (AI x2), some (AI x3), some (AI z_15), some (AI z_17), none]) rfl ?_
          exact ih20 ⟨z_15, z_17⟩ w ⟨⟨by have hb_ := z32 z_17; omega, by have hb_ := z32 z_17; omega⟩, rfl⟩ (by first | omega | decide | (dsimp only; omega) | (dsimp only; decide))
        ·
          refine s_iload E dX2_nextRoom_45 rfl ?_
          refine s_sI (As := [AI z_11]) (S := []) E (Z_X9_lowest l D aC b w z_11 hJ.1 ) cs_X2_104 rfl rfl (Nat.le_of_ble_eq_true rfl) (Nat.le_of_ble_eq_true rfl) ⟨(Nat.le_of_ble_eq_true rfl), (Nat.le_of_ble_eq_true rfl)⟩ (Nat.le_of_ble_eq_true rfl) dX2_nextRoom_47 (fun z_20 u_18 hp_19 => ?_)
          obtain ⟨hz_20, hp_19⟩ := hp_19
          subst hp_19
          exact r_int E dX2_nextRoom_50 ⟨⟨by have hb_ := z32 z_20; omega, by have hb_ := z32 z_20; omega⟩, rfl⟩
    ·
      refine s_iload_n E dX2_nextRoom_10 rfl rfl ?_
      exact r_int E dX2_nextRoom_11 ⟨⟨by have hb_ := z32 x2; omega, by have hb_ := z32 x2; omega⟩, rfl⟩
set_option maxRecDepth 20000 in
set_option maxHeartbeats 2000000 in
theorem Z_X2_goAsBidden_69 (l : Launch) (D : va_G) (aC : Nat → ClassId) (b : Nat) (w : XW) (x1 : Int32) (x2 : Int32) (hI : Iv w) (hx1 : 0 ≤ x1.toInt ∧ x1.toInt ≤ 5) : CnV l D aC b M_X2_goAsBidden 3 72 0 0 [AR 69, AI x1, AI x2] w (fun u => Jv w u) := by
  refine cn_V (own := RX2) (nm := "goAsBidden") (L0 := [some (AR 69), some (AI x1), some (AI x2), none, none]) (by decide +kernel) rfl rfl (Nat.le_of_ble_eq_true rfl) rfl ?_
  intro p e s m args below meth c E hin
  have hJ : Jv w w := jv_rfl hI
  have hb_x2 := z32 x2
  refine s_iload_n E dX2_goAsBidden_0 rfl rfl ?_
  refine s_istore_n (L2 := [some (AR 69), some (AI x1), some (AI x2), some (AI x2), none]) E dX2_goAsBidden_1 rfl (by decide) rfl ?_
  refine s_aload_n E dX2_goAsBidden_2 rfl rfl ?_
  refine s_gR (r := 73) E fg_X2_21 rfl rfl (jv_lt hJ (by decide)) (jv_r hJ (by decide +kernel)) dX2_goAsBidden_3 ?_
  refine s_iload_n E dX2_goAsBidden_6 rfl rfl ?_
  refine s_bipush (v := 15) E dX2_goAsBidden_7 (by decide) ?_
  refine z_imul (u := x1.toInt) (v := 15) E dX2_goAsBidden_9 rfl (by decide) (by omega) (by omega) (fun z_1 hz_1 => ?_)
  refine s_iload_n E dX2_goAsBidden_10 rfl rfl ?_
  refine s_iast E rfl (jv_lt hJ (by decide)) (z_in (u := z_1.toInt) rfl (by omega) (by omega)) dX2_goAsBidden_11 ?_
  refine s_gen (P := Jv w) (jv_a_73 hJ (by have hb_ := z32 x2; omega) (by have hb_ := z32 x2; omega)) (fun v_2 hj_3 => ?_)
  refine s_iconst (v := 0) E dX2_goAsBidden_12 (by decide) ?_
  refine s_istore (L2 := [some (AR 69), some (AI x1), some (AI x2), some (AI x2), some (AI 0)]) E dX2_goAsBidden_13 (by decide) rfl ?_
  refine z_loop (St := Int32 × Int32) (Pi := fun ⟨q15_3_3, q15_4_3⟩ v15 => (0 ≤ q15_4_3.toInt ∧ q15_4_3.toInt ≤ 14) ∧ Jv w v15) (Lf := fun ⟨q15_3_3, q15_4_3⟩ => [some (AR 69), some (AI x1), some (AI x2), some (AI q15_3_3), some (AI q15_4_3)]) (fun ⟨q15_3_3, q15_4_3⟩ _ => (15 - q15_4_3.toInt).toNat) ⟨x2, 0⟩ ⟨⟨by decide, by decide⟩, hj_3⟩ ?_
  rintro ⟨q15_3_3, q15_4_3⟩ v15 ⟨hq15_4, hj_4⟩ ih15
  have hbq15_3 := z32 q15_3_3
  refine s_loc (L2 := [some (AR 69), some (AI x1), some (AI x2), some (AI q15_3_3), some (AI q15_4_3)]) rfl ?_
  refine s_iload E dX2_goAsBidden_15 rfl ?_
  refine s_aload_n E dX2_goAsBidden_17 rfl rfl ?_
  refine s_gI E fg_X2_67 rfl rfl (jv_lt hj_4 (by decide)) dX2_goAsBidden_18 ?_
  refine z_nm (P := fun z => z.toInt = (v15.2.2.1 69 7).toInt ∧ 0 ≤ z.toInt ∧ z.toInt ≤ 14) ⟨rfl, (rg_69_7 hj_4)⟩ (fun z_5 hz_5 => ?_)
  refine z_icmp_ge (tgt := 59) (u := q15_4_3.toInt) (v := z_5.toInt) E dX2_goAsBidden_21 (by decide) rfl rfl (fun h_6 => ?_) (fun h_6 => ?_)
  ·
    exact r_void E dX2_goAsBidden_59 hj_4
  ·
    refine s_aload_n E dX2_goAsBidden_24 rfl rfl ?_
    refine s_iload_n E dX2_goAsBidden_25 rfl rfl ?_
    refine s_iload_n E dX2_goAsBidden_26 rfl rfl ?_
    refine s_aload_n E dX2_goAsBidden_27 rfl rfl ?_
    refine s_iload_n E dX2_goAsBidden_28 rfl rfl ?_
    refine s_iload E dX2_goAsBidden_29 rfl ?_
    refine s_vI (As := [AI x1, AI q15_4_3]) (S := [AI q15_3_3, AI x1, AR 69]) E (Z_X2_goalOf_69 l D aC b v15 x1 q15_4_3 hj_4.1 ) cv_X2_94 rfl rfl rfl (jv_lt hj_4 (by decide)) (Nat.le_of_ble_eq_true rfl) (Nat.le_of_ble_eq_true rfl) ⟨(Nat.le_of_ble_eq_true rfl), (Nat.le_of_ble_eq_true rfl)⟩ (Nat.le_of_ble_eq_true rfl) dX2_goAsBidden_31 (fun z_9 u_7 hp_8 => ?_)
    obtain ⟨hz_9, hp_8⟩ := hp_8
    subst hp_8
    refine s_vI (As := [AI x1, AI q15_3_3, AI z_9]) (S := []) E (Z_X2_nextRoom_69 l D aC b v15 x1 q15_3_3 z_9 hj_4.1 ) cv_X2_97 rfl rfl rfl (jv_lt hj_4 (by decide)) (Nat.le_of_ble_eq_true rfl) (Nat.le_of_ble_eq_true rfl) ⟨(Nat.le_of_ble_eq_true rfl), (Nat.le_of_ble_eq_true rfl)⟩ (Nat.le_of_ble_eq_true rfl) dX2_goAsBidden_34 (fun z_13 u_11 hp_12 => ?_)
    obtain ⟨hz_13, hp_12⟩ := hp_12
    subst hp_12
    refine s_istore_n (L2 := [some (AR 69), some (AI x1), some (AI x2), some (AI z_13), some (AI q15_4_3)]) E dX2_goAsBidden_37 rfl (by decide) rfl ?_
    refine s_aload_n E dX2_goAsBidden_38 rfl rfl ?_
    refine s_gR (r := 73) E fg_X2_21 rfl rfl (jv_lt hj_4 (by decide)) (jv_r hj_4 (by decide +kernel)) dX2_goAsBidden_39 ?_
    refine s_iload_n E dX2_goAsBidden_42 rfl rfl ?_
    refine s_bipush (v := 15) E dX2_goAsBidden_43 (by decide) ?_
    refine z_imul (u := x1.toInt) (v := 15) E dX2_goAsBidden_45 rfl (by decide) (by omega) (by omega) (fun z_15 hz_15 => ?_)
    refine s_iload E dX2_goAsBidden_46 rfl ?_
    refine z_iadd (u := z_15.toInt) (v := q15_4_3.toInt) E dX2_goAsBidden_48 rfl rfl (by omega) (by omega) (fun z_16 hz_16 => ?_)
    refine s_iconst (v := 1) E dX2_goAsBidden_49 (by decide) ?_
    refine z_iadd (u := z_16.toInt) (v := 1) E dX2_goAsBidden_50 rfl (by decide) (by omega) (by omega) (fun z_17 hz_17 => ?_)
    refine s_iload_n E dX2_goAsBidden_51 rfl rfl ?_
    refine s_iast E rfl (jv_lt hj_4 (by decide)) (z_in (u := z_17.toInt) rfl (by omega) (by omega)) dX2_goAsBidden_52 ?_
    refine s_gen (P := fun v => Jv w v ∧ (v.2.2.1 69 7).toInt = (v15.2.2.1 69 7).toInt) ⟨(jv_a_73 hj_4 (by have hb_ := z32 z_13; omega) (by have hb_ := z32 z_13; omega)), rfl⟩ (fun v_18 hj_19 => ?_)
    obtain ⟨hj_19, hk_20k0⟩ := hj_19
    refine z_iinc (u := q15_4_3.toInt) (L2 := fun z_21 => [some (AR 69), some (AI x1), some (AI x2), some (AI z_13), some (AI z_21)]) E dX2_goAsBidden_53 rfl rfl (by decide) (fun _ => rfl) (by decide) (by omega) (by omega) (fun z_21 hz_21 => ?_)
    refine s_goto (tgt := 15) E dX2_goAsBidden_56 (by decide) ?_
    exact ih15 ⟨z_13, z_21⟩ v_18 ⟨⟨by have hb_ := z32 z_21; omega, by have hb_ := z32 z_21; omega⟩, hj_19⟩ (by first | omega | decide | (dsimp only; omega) | (dsimp only; decide))
set_option maxRecDepth 20000 in
set_option maxHeartbeats 2000000 in
theorem Z_X2_settle_69_r2 (l : Launch) (D : va_G) (aC : Nat → ClassId) (b : Nat) (w : XW) (x1 : Int32) (x2 : Int32) (hI : Iv w)  : CnV l D aC b M_X2_settle 4 96 0 0 [AR 69, AR 2, AI x1, AI x2] w (fun u => Jv w u) := by
  refine cn_V (own := RX2) (nm := "settle") (L0 := [some (AR 69), some (AR 2), some (AI x1), some (AI x2), none]) (by decide +kernel) rfl rfl (Nat.le_of_ble_eq_true rfl) rfl ?_
  intro p e s m args below meth c E hin
  have hJ : Jv w w := jv_rfl hI
  have hb_x1 := z32 x1
  have hb_x2 := z32 x2
  refine s_aload_n E dX2_settle_0 rfl rfl ?_
  refine s_aload_n E dX2_settle_1 rfl rfl ?_
  refine s_iload_n E dX2_settle_2 rfl rfl ?_
  refine s_iload_n E dX2_settle_3 rfl rfl ?_
  refine s_vV (As := [AR 2, AI x1, AI x2]) (S := []) E (Z_X2_openDoors_69_r2 l D aC b w x1 x2 hJ.1 ) cv_X2_27 rfl rfl rfl (jv_lt hJ (by decide)) (Nat.le_of_ble_eq_true rfl) (Nat.le_of_ble_eq_true rfl) ⟨(Nat.le_of_ble_eq_true rfl), (Nat.le_of_ble_eq_true rfl)⟩ (Nat.le_of_ble_eq_true rfl) dX2_settle_4 (fun u_1 hp_2 => ?_)
  have hj_3 := jv_trans hJ hp_2
  refine s_aload_n E dX2_settle_7 rfl rfl ?_
  refine s_aload_n E dX2_settle_8 rfl rfl ?_
  refine s_vV (As := [AR 2]) (S := []) E (Z_X2_hearBids_69_r2 l D aC b u_1  hj_3.1 ) cv_X2_31 rfl rfl rfl (jv_lt hj_3 (by decide)) (Nat.le_of_ble_eq_true rfl) (Nat.le_of_ble_eq_true rfl) ⟨(Nat.le_of_ble_eq_true rfl), (Nat.le_of_ble_eq_true rfl)⟩ (Nat.le_of_ble_eq_true rfl) dX2_settle_9 (fun u_4 hp_5 => ?_)
  have hj_6 := jv_trans hj_3 hp_5
  refine s_iconst (v := 0) E dX2_settle_12 (by decide) ?_
  refine s_istore (L2 := [some (AR 69), some (AR 2), some (AI x1), some (AI x2), some (AI 0)]) E dX2_settle_13 (by decide) rfl ?_
  refine z_loop (St := Int32) (Pi := fun q15_4_6 v15 => (0 ≤ q15_4_6.toInt ∧ q15_4_6.toInt ≤ 6) ∧ Jv w v15) (Lf := fun q15_4_6 => [some (AR 69), some (AR 2), some (AI x1), some (AI x2), some (AI q15_4_6)]) (fun q15_4_6 _ => (7 - q15_4_6.toInt).toNat) 0 ⟨⟨by decide, by decide⟩, hj_6⟩ ?_
  rintro q15_4_6 v15 ⟨hq15_4, hj_7⟩ ih15
  refine s_loc (L2 := [some (AR 69), some (AR 2), some (AI x1), some (AI x2), some (AI q15_4_6)]) rfl ?_
  refine s_iload E dX2_settle_15 rfl ?_
  refine s_aload_n E dX2_settle_17 rfl rfl ?_
  refine s_gI E fg_X2_35 rfl rfl (jv_lt hj_7 (by decide)) dX2_settle_18 ?_
  refine z_nm (P := fun z => z.toInt = (v15.2.2.1 69 5).toInt ∧ 0 ≤ z.toInt ∧ z.toInt ≤ 6) ⟨rfl, (rg_69_5 hj_7)⟩ (fun z_8 hz_8 => ?_)
  refine z_icmp_ge (tgt := 46) (u := q15_4_6.toInt) (v := z_8.toInt) E dX2_settle_21 (by decide) rfl rfl (fun h_9 => ?_) (fun h_9 => ?_)
  ·
    refine s_aload_n E dX2_settle_46 rfl rfl ?_
    refine s_vV (As := []) (S := []) E (Z_X2_gather_69 l D aC b v15  hj_7.1 ) cv_X2_54 rfl rfl rfl (jv_lt hj_7 (by decide)) (Nat.le_of_ble_eq_true rfl) (Nat.le_of_ble_eq_true rfl) ⟨(Nat.le_of_ble_eq_true rfl), (Nat.le_of_ble_eq_true rfl)⟩ (Nat.le_of_ble_eq_true rfl) dX2_settle_47 (fun u_10 hp_11 => ?_)
    have hj_12 := jv_trans hj_7 hp_11
    exact r_void E dX2_settle_50 hj_12
  ·
    refine s_aload_n E dX2_settle_24 rfl rfl ?_
    refine s_iload E dX2_settle_25 rfl ?_
    refine s_aload_n E dX2_settle_27 rfl rfl ?_
    refine s_gR (r := 5) E fg_X2_39 rfl rfl (jv_lt hj_7 (by decide)) (jv_r hj_7 (by decide +kernel)) dX2_settle_28 ?_
    refine s_iload E dX2_settle_31 rfl ?_
    refine s_iconst (v := 0) E dX2_settle_33 (by decide) ?_
    refine s_vI (As := [AI q15_4_6, AI 0]) (S := [AI q15_4_6, AR 69]) E (Z_X8_cell_5 l D aC b v15 q15_4_6 0 hj_7.1 ) cv_X2_44 rfl rfl rfl (jv_lt hj_7 (by decide)) (Nat.le_of_ble_eq_true rfl) (Nat.le_of_ble_eq_true rfl) ⟨(Nat.le_of_ble_eq_true rfl), (Nat.le_of_ble_eq_true rfl)⟩ (Nat.le_of_ble_eq_true rfl) dX2_settle_34 (fun z_15 u_13 hp_14 => ?_)
    obtain ⟨hz_15, hp_14⟩ := hp_14
    subst hp_14
    refine s_vV (As := [AI q15_4_6, AI z_15]) (S := []) E (Z_X2_goAsBidden_69 l D aC b v15 q15_4_6 z_15 hj_7.1 ⟨by have hb_ := z32 q15_4_6; omega, by have hb_ := z32 q15_4_6; omega⟩) cv_X2_50 rfl rfl rfl (jv_lt hj_7 (by decide)) (Nat.le_of_ble_eq_true rfl) (Nat.le_of_ble_eq_true rfl) ⟨(Nat.le_of_ble_eq_true rfl), (Nat.le_of_ble_eq_true rfl)⟩ (Nat.le_of_ble_eq_true rfl) dX2_settle_37 (fun u_17 hp_18 => ?_)
    have hj_19 := jv_trans hj_7 hp_18
    refine z_iinc (u := q15_4_6.toInt) (L2 := fun z_20 => [some (AR 69), some (AR 2), some (AI x1), some (AI x2), some (AI z_20)]) E dX2_settle_40 rfl rfl (by decide) (fun _ => rfl) (by decide) (by omega) (by omega) (fun z_20 hz_20 => ?_)
    refine s_goto (tgt := 15) E dX2_settle_43 (by decide) ?_
    exact ih15 z_20 u_17 ⟨⟨by have hb_ := z32 z_20; omega, by have hb_ := z32 z_20; omega⟩, hj_19⟩ (by first | omega | decide | (dsimp only; omega) | (dsimp only; decide))
set_option maxRecDepth 20000 in
set_option maxHeartbeats 2000000 in
theorem Z_X9_settle_0 (l : Launch) (D : va_G) (aC : Nat → ClassId) (b : Nat) (w : XW)  (hI : Iv w)  : CnV l D aC b M_X9_settle 5 120 0 0 [AR 0] w (fun u => Jv w u) := by
  refine cn_V (own := RX9) (nm := "settle") (L0 := [some (AR 0)]) (by decide +kernel) rfl rfl (Nat.le_of_ble_eq_true rfl) rfl ?_
  intro p e s m args below meth c E hin
  have hJ : Jv w w := jv_rfl hI
  refine s_aload_n E dX9_settle_0 rfl rfl ?_
  refine s_gR (r := 69) E fg_X9_54 rfl rfl (jv_lt hJ (by decide)) (jv_r hJ (by decide +kernel)) dX9_settle_1 ?_
  refine s_aload_n E dX9_settle_4 rfl rfl ?_
  refine s_gR (r := 2) E fg_X9_20 rfl rfl (jv_lt hJ (by decide)) (jv_r hJ (by decide +kernel)) dX9_settle_5 ?_
  refine s_iconst (v := (-1)) E dX9_settle_8 (by decide) ?_
  refine s_iconst (v := 0) E dX9_settle_9 (by decide) ?_
  refine s_vV (As := [AR 2, AI (-1), AI 0]) (S := []) E (Z_X2_settle_69_r2 l D aC b w ((-1)) 0 hJ.1 ) cv_X9_116 rfl rfl rfl (jv_lt hJ (by decide)) (Nat.le_of_ble_eq_true rfl) (Nat.le_of_ble_eq_true rfl) ⟨(Nat.le_of_ble_eq_true rfl), (Nat.le_of_ble_eq_true rfl)⟩ (Nat.le_of_ble_eq_true rfl) dX9_settle_10 (fun u_1 hp_2 => ?_)
  have hj_3 := jv_trans hJ hp_2
  exact r_void E dX9_settle_13 hj_3
