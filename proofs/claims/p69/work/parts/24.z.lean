set_option maxRecDepth 20000 in
set_option maxHeartbeats 2000000 in
theorem Z_X2_copyFrom_75_r69 (l : Launch) (D : va_G) (aC : Nat → ClassId) (b : Nat) (w : XW)  (hI : Iv w)  : CnV l D aC b M_X2_copyFrom 1 60 0 0 [AR 75, AR 69] w (fun u => Jv w u) := by
  refine cn_V (own := RX2) (nm := "copyFrom") (L0 := [some (AR 75), some (AR 69)]) (by decide +kernel) rfl rfl (Nat.le_of_ble_eq_true rfl) rfl ?_
  intro p e s m args below meth c E hin
  have hJ : Jv w w := jv_rfl hI
  refine s_aload_n E dX2_copyFrom_0 rfl rfl ?_
  refine s_gR (r := 70) E fg_X2_9 rfl rfl (jv_lt hJ (by decide)) (jv_r hJ (by decide +kernel)) dX2_copyFrom_1 ?_
  refine s_iconst (v := 0) E dX2_copyFrom_4 (by decide) ?_
  refine s_aload_n E dX2_copyFrom_5 rfl rfl ?_
  refine s_gR (r := 76) E fg_X2_9 rfl rfl (jv_lt hJ (by decide)) (jv_r hJ (by decide +kernel)) dX2_copyFrom_6 ?_
  refine s_iconst (v := 0) E dX2_copyFrom_9 (by decide) ?_
  refine s_aload_n E dX2_copyFrom_10 rfl rfl ?_
  refine s_gR (r := 76) E fg_X2_9 rfl rfl (jv_lt hJ (by decide)) (jv_r hJ (by decide +kernel)) dX2_copyFrom_11 ?_
  refine s_alen (v := 48) E rfl (by decide) (jv_lt hJ (by decide)) (by decide) dX2_copyFrom_14 ?_
  refine z_copy100 (S := []) (u1 := 0) (u2 := 0) (u3 := 48) E k_1077 k_538 k_537 k_17 rfl rfl (jv_lt hJ (by decide)) (jv_lt hJ (by decide)) (by decide) (by decide) (by decide) (by omega) (by omega) (by omega) (by omega) (by omega) (Nat.le_of_ble_eq_true rfl) (Nat.le_of_ble_eq_true rfl) dX2_copyFrom_15 ?_
  refine s_gen (P := Jv w) (jv_c_70_76 hJ) (fun v_1 hj_2 => ?_)
  refine s_aload_n E dX2_copyFrom_18 rfl rfl ?_
  refine s_gR (r := 73) E fg_X2_21 rfl rfl (jv_lt hj_2 (by decide)) (jv_r hj_2 (by decide +kernel)) dX2_copyFrom_19 ?_
  refine s_iconst (v := 0) E dX2_copyFrom_22 (by decide) ?_
  refine s_aload_n E dX2_copyFrom_23 rfl rfl ?_
  refine s_gR (r := 79) E fg_X2_21 rfl rfl (jv_lt hj_2 (by decide)) (jv_r hj_2 (by decide +kernel)) dX2_copyFrom_24 ?_
  refine s_iconst (v := 0) E dX2_copyFrom_27 (by decide) ?_
  refine s_aload_n E dX2_copyFrom_28 rfl rfl ?_
  refine s_gR (r := 79) E fg_X2_21 rfl rfl (jv_lt hj_2 (by decide)) (jv_r hj_2 (by decide +kernel)) dX2_copyFrom_29 ?_
  refine s_alen (v := 90) E rfl (by decide) (jv_lt hj_2 (by decide)) (by decide) dX2_copyFrom_32 ?_
  refine z_copy100 (S := []) (u1 := 0) (u2 := 0) (u3 := 90) E k_1077 k_538 k_537 k_17 rfl rfl (jv_lt hj_2 (by decide)) (jv_lt hj_2 (by decide)) (by decide) (by decide) (by decide) (by omega) (by omega) (by omega) (by omega) (by omega) (Nat.le_of_ble_eq_true rfl) (Nat.le_of_ble_eq_true rfl) dX2_copyFrom_33 ?_
  refine s_gen (P := Jv w) (jv_c_73_79 hj_2) (fun v_3 hj_4 => ?_)
  refine s_aload_n E dX2_copyFrom_36 rfl rfl ?_
  refine s_gR (r := 74) E fg_X2_24 rfl rfl (jv_lt hj_4 (by decide)) (jv_r hj_4 (by decide +kernel)) dX2_copyFrom_37 ?_
  refine s_iconst (v := 0) E dX2_copyFrom_40 (by decide) ?_
  refine s_aload_n E dX2_copyFrom_41 rfl rfl ?_
  refine s_gR (r := 80) E fg_X2_24 rfl rfl (jv_lt hj_4 (by decide)) (jv_r hj_4 (by decide +kernel)) dX2_copyFrom_42 ?_
  refine s_iconst (v := 0) E dX2_copyFrom_45 (by decide) ?_
  refine s_aload_n E dX2_copyFrom_46 rfl rfl ?_
  refine s_gR (r := 80) E fg_X2_24 rfl rfl (jv_lt hj_4 (by decide)) (jv_r hj_4 (by decide +kernel)) dX2_copyFrom_47 ?_
  refine s_alen (v := 90) E rfl (by decide) (jv_lt hj_4 (by decide)) (by decide) dX2_copyFrom_50 ?_
  refine z_copy100 (S := []) (u1 := 0) (u2 := 0) (u3 := 90) E k_1077 k_538 k_537 k_17 rfl rfl (jv_lt hj_4 (by decide)) (jv_lt hj_4 (by decide)) (by decide) (by decide) (by decide) (by omega) (by omega) (by omega) (by omega) (by omega) (Nat.le_of_ble_eq_true rfl) (Nat.le_of_ble_eq_true rfl) dX2_copyFrom_51 ?_
  refine s_gen (P := Jv w) (jv_c_74_80 hj_4) (fun v_5 hj_6 => ?_)
  refine s_aload_n E dX2_copyFrom_54 rfl rfl ?_
  refine s_aload_n E dX2_copyFrom_55 rfl rfl ?_
  refine s_gI E fg_X2_35 rfl rfl (jv_lt hj_6 (by decide)) dX2_copyFrom_56 ?_
  refine z_nm (P := fun z => z.toInt = (v_5.2.2.1 69 5).toInt ∧ 0 ≤ z.toInt ∧ z.toInt ≤ 6) ⟨rfl, (rg_69_5 hj_6)⟩ (fun z_7 hz_7 => ?_)
  refine s_pI E fp_X2_35 (Or.inl rfl) rfl (jv_lt hj_6 (by decide)) dX2_copyFrom_59 ?_
  refine s_gen (P := Jv w) (jv_f_75_5 hj_6 (by have hb_ := z32 z_7; omega) (by have hb_ := z32 z_7; omega)) (fun v_8 hj_9 => ?_)
  refine s_aload_n E dX2_copyFrom_62 rfl rfl ?_
  refine s_aload_n E dX2_copyFrom_63 rfl rfl ?_
  refine s_gI E fg_X2_63 rfl rfl (jv_lt hj_9 (by decide)) dX2_copyFrom_64 ?_
  refine z_nm (P := fun z => z.toInt = (v_8.2.2.1 69 6).toInt ∧ 0 ≤ z.toInt ∧ z.toInt ≤ 8) ⟨rfl, (rg_69_6 hj_9)⟩ (fun z_10 hz_10 => ?_)
  refine s_pI E fp_X2_63 (Or.inl rfl) rfl (jv_lt hj_9 (by decide)) dX2_copyFrom_67 ?_
  refine s_gen (P := Jv w) (jv_f_75_6 hj_9 (by have hb_ := z32 z_10; omega) (by have hb_ := z32 z_10; omega)) (fun v_11 hj_12 => ?_)
  refine s_aload_n E dX2_copyFrom_70 rfl rfl ?_
  refine s_aload_n E dX2_copyFrom_71 rfl rfl ?_
  refine s_gI E fg_X2_67 rfl rfl (jv_lt hj_12 (by decide)) dX2_copyFrom_72 ?_
  refine z_nm (P := fun z => z.toInt = (v_11.2.2.1 69 7).toInt ∧ 0 ≤ z.toInt ∧ z.toInt ≤ 14) ⟨rfl, (rg_69_7 hj_12)⟩ (fun z_13 hz_13 => ?_)
  refine s_pI E fp_X2_67 (Or.inl rfl) rfl (jv_lt hj_12 (by decide)) dX2_copyFrom_75 ?_
  refine s_gen (P := Jv w) (jv_f_75_7 hj_12 (by have hb_ := z32 z_13; omega) (by have hb_ := z32 z_13; omega)) (fun v_14 hj_15 => ?_)
  exact r_void E dX2_copyFrom_78 hj_15
set_option maxRecDepth 20000 in
set_option maxHeartbeats 2000000 in
theorem Z_X2_friendsOf_75 (l : Launch) (D : va_G) (aC : Nat → ClassId) (b : Nat) (w : XW) (x1 : Int32) (hI : Iv w)  : CnI l D aC b M_X2_friendsOf 2 44 0 0 [AR 75, AI x1] w (fun r u => ((-2147483648) ≤ r.toInt ∧ r.toInt ≤ 2147483647) ∧ Jv w u) := by
  refine cn_I (own := RX2) (nm := "friendsOf") (L0 := [some (AR 75), some (AI x1), none, none]) (by decide +kernel) rfl rfl (Nat.le_of_ble_eq_true rfl) rfl ?_
  intro p e s m args below meth c E hin
  have hJ : Jv w w := jv_rfl hI
  refine s_iconst (v := 0) E dX2_friendsOf_0 (by decide) ?_
  refine s_istore_n (L2 := [some (AR 75), some (AI x1), some (AI 0), none]) E dX2_friendsOf_1 rfl (by decide) rfl ?_
  refine s_iconst (v := 0) E dX2_friendsOf_2 (by decide) ?_
  refine s_istore_n (L2 := [some (AR 75), some (AI x1), some (AI 0), some (AI 0)]) E dX2_friendsOf_3 rfl (by decide) rfl ?_
  refine z_loop (St := Int32 × Int32) (Pi := fun ⟨q4_2_0, q4_3_0⟩ v4 => (0 ≤ q4_3_0.toInt ∧ q4_3_0.toInt ≤ 15) ∧ Jv w v4) (Lf := fun ⟨q4_2_0, q4_3_0⟩ => [some (AR 75), some (AI x1), some (AI q4_2_0), some (AI q4_3_0)]) (fun ⟨q4_2_0, q4_3_0⟩ _ => (16 - q4_3_0.toInt).toNat) ⟨0, 0⟩ ⟨⟨by decide, by decide⟩, hJ⟩ ?_
  rintro ⟨q4_2_0, q4_3_0⟩ v4 ⟨hq4_3, hj_1⟩ ih4
  refine s_loc (L2 := [some (AR 75), some (AI x1), some (AI q4_2_0), some (AI q4_3_0)]) rfl ?_
  refine s_iload_n E dX2_friendsOf_4 rfl rfl ?_
  refine s_aload_n E dX2_friendsOf_5 rfl rfl ?_
  refine s_gI E fg_X2_67 rfl rfl (jv_lt hj_1 (by decide)) dX2_friendsOf_6 ?_
  refine z_nm (P := fun z => z.toInt = (v4.2.2.1 75 7).toInt ∧ 0 ≤ z.toInt ∧ z.toInt ≤ 14) ⟨rfl, (rg_75_7 hj_1)⟩ (fun z_2 hz_2 => ?_)
  refine z_icmp_gt (tgt := 27) (u := q4_3_0.toInt) (v := z_2.toInt) E dX2_friendsOf_9 (by decide) rfl rfl (fun h_3 => ?_) (fun h_3 => ?_)
  ·
    refine s_iload_n E dX2_friendsOf_27 rfl rfl ?_
    refine s_iconst (v := 1) E dX2_friendsOf_28 (by decide) ?_
    refine s_iload_n E dX2_friendsOf_29 rfl rfl ?_
    refine s_ishl E dX2_friendsOf_30 ?_
    refine z_any (fun z_4 => ?_)
    refine s_iconst (v := (-1)) E dX2_friendsOf_31 (by decide) ?_
    refine s_ixor E dX2_friendsOf_32 ?_
    refine z_any (fun z_5 => ?_)
    refine s_iand E dX2_friendsOf_33 ?_
    refine z_any (fun z_6 => ?_)
    exact r_int E dX2_friendsOf_34 ⟨⟨by have hb_ := z32 z_6; omega, by have hb_ := z32 z_6; omega⟩, hj_1⟩
  ·
    refine s_iload_n E dX2_friendsOf_12 rfl rfl ?_
    refine s_aload_n E dX2_friendsOf_13 rfl rfl ?_
    refine s_iload_n E dX2_friendsOf_14 rfl rfl ?_
    refine s_iload_n E dX2_friendsOf_15 rfl rfl ?_
    refine s_vI (As := [AI x1, AI q4_3_0]) (S := [AI q4_2_0]) E (Z_X2_companyOf_75 l D aC b v4 x1 q4_3_0 hj_1.1 ) cv_X2_130 rfl rfl rfl (jv_lt hj_1 (by decide)) (Nat.le_of_ble_eq_true rfl) (Nat.le_of_ble_eq_true rfl) ⟨(Nat.le_of_ble_eq_true rfl), (Nat.le_of_ble_eq_true rfl)⟩ (Nat.le_of_ble_eq_true rfl) dX2_friendsOf_16 (fun z_9 u_7 hp_8 => ?_)
    obtain ⟨hz_9, hp_8⟩ := hp_8
    subst hp_8
    refine s_ior E dX2_friendsOf_19 ?_
    refine z_any (fun z_11 => ?_)
    refine s_istore_n (L2 := [some (AR 75), some (AI x1), some (AI z_11), some (AI q4_3_0)]) E dX2_friendsOf_20 rfl (by decide) rfl ?_
    refine z_iinc (u := q4_3_0.toInt) (L2 := fun z_12 => [some (AR 75), some (AI x1), some (AI z_11), some (AI z_12)]) E dX2_friendsOf_21 rfl rfl (by decide) (fun _ => rfl) (by decide) (by omega) (by omega) (fun z_12 hz_12 => ?_)
    refine s_goto (tgt := 4) E dX2_friendsOf_24 (by decide) ?_
    exact ih4 ⟨z_11, z_12⟩ v4 ⟨⟨by have hb_ := z32 z_12; omega, by have hb_ := z32 z_12; omega⟩, hj_1⟩ (by first | omega | (dsimp only; omega))
set_option maxRecDepth 20000 in
set_option maxHeartbeats 2000000 in
theorem Z_X2_stepsOf_75 (l : Launch) (D : va_G) (aC : Nat → ClassId) (b : Nat) (w : XW) (x1 : Int32) (hI : Iv w)  : CnI l D aC b M_X2_stepsOf 2 44 0 0 [AR 75, AI x1] w (fun r u => ((-2147483648) ≤ r.toInt ∧ r.toInt ≤ 2147483647) ∧ Jv w u) := by
  refine cn_I (own := RX2) (nm := "stepsOf") (L0 := [some (AR 75), some (AI x1), none, none]) (by decide +kernel) rfl rfl (Nat.le_of_ble_eq_true rfl) rfl ?_
  intro p e s m args below meth c E hin
  have hJ : Jv w w := jv_rfl hI
  refine s_iconst (v := 0) E dX2_stepsOf_0 (by decide) ?_
  refine s_istore_n (L2 := [some (AR 75), some (AI x1), some (AI 0), none]) E dX2_stepsOf_1 rfl (by decide) rfl ?_
  refine s_iconst (v := 1) E dX2_stepsOf_2 (by decide) ?_
  refine s_istore_n (L2 := [some (AR 75), some (AI x1), some (AI 0), some (AI 1)]) E dX2_stepsOf_3 rfl (by decide) rfl ?_
  refine z_loop (St := Int32 × Int32) (Pi := fun ⟨q4_2_0, q4_3_0⟩ v4 => (1 ≤ q4_3_0.toInt ∧ q4_3_0.toInt ≤ 15) ∧ Jv w v4) (Lf := fun ⟨q4_2_0, q4_3_0⟩ => [some (AR 75), some (AI x1), some (AI q4_2_0), some (AI q4_3_0)]) (fun ⟨q4_2_0, q4_3_0⟩ _ => (16 - q4_3_0.toInt).toNat) ⟨0, 1⟩ ⟨⟨by decide, by decide⟩, hJ⟩ ?_
  rintro ⟨q4_2_0, q4_3_0⟩ v4 ⟨hq4_3, hj_1⟩ ih4
  refine s_loc (L2 := [some (AR 75), some (AI x1), some (AI q4_2_0), some (AI q4_3_0)]) rfl ?_
  refine s_iload_n E dX2_stepsOf_4 rfl rfl ?_
  refine s_aload_n E dX2_stepsOf_5 rfl rfl ?_
  refine s_gI E fg_X2_67 rfl rfl (jv_lt hj_1 (by decide)) dX2_stepsOf_6 ?_
  refine z_nm (P := fun z => z.toInt = (v4.2.2.1 75 7).toInt ∧ 0 ≤ z.toInt ∧ z.toInt ≤ 14) ⟨rfl, (rg_75_7 hj_1)⟩ (fun z_2 hz_2 => ?_)
  refine z_icmp_gt (tgt := 38) (u := q4_3_0.toInt) (v := z_2.toInt) E dX2_stepsOf_9 (by decide) rfl rfl (fun h_3 => ?_) (fun h_3 => ?_)
  ·
    refine s_iload_n E dX2_stepsOf_38 rfl rfl ?_
    exact r_int E dX2_stepsOf_39 ⟨⟨by have hb_ := z32 q4_2_0; omega, by have hb_ := z32 q4_2_0; omega⟩, hj_1⟩
  ·
    refine s_aload_n E dX2_stepsOf_12 rfl rfl ?_
    refine s_iload_n E dX2_stepsOf_13 rfl rfl ?_
    refine s_iload_n E dX2_stepsOf_14 rfl rfl ?_
    refine s_vI (As := [AI x1, AI q4_3_0]) (S := []) E (Z_X2_placeOf_75 l D aC b v4 x1 q4_3_0 hj_1.1 ) cv_X2_111 rfl rfl rfl (jv_lt hj_1 (by decide)) (Nat.le_of_ble_eq_true rfl) (Nat.le_of_ble_eq_true rfl) ⟨(Nat.le_of_ble_eq_true rfl), (Nat.le_of_ble_eq_true rfl)⟩ (Nat.le_of_ble_eq_true rfl) dX2_stepsOf_15 (fun z_6 u_4 hp_5 => ?_)
    obtain ⟨hz_6, hp_5⟩ := hp_5
    subst hp_5
    refine s_aload_n E dX2_stepsOf_18 rfl rfl ?_
    refine s_iload_n E dX2_stepsOf_19 rfl rfl ?_
    refine s_iload_n E dX2_stepsOf_20 rfl rfl ?_
    refine s_iconst (v := 1) E dX2_stepsOf_21 (by decide) ?_
    refine z_isub (u := q4_3_0.toInt) (v := 1) E dX2_stepsOf_22 rfl (by decide) (by omega) (by omega) (fun z_8 hz_8 => ?_)
    refine s_vI (As := [AI x1, AI z_8]) (S := [AI z_6]) E (Z_X2_placeOf_75 l D aC b v4 x1 z_8 hj_1.1 ) cv_X2_111 rfl rfl rfl (jv_lt hj_1 (by decide)) (Nat.le_of_ble_eq_true rfl) (Nat.le_of_ble_eq_true rfl) ⟨(Nat.le_of_ble_eq_true rfl), (Nat.le_of_ble_eq_true rfl)⟩ (Nat.le_of_ble_eq_true rfl) dX2_stepsOf_23 (fun z_11 u_9 hp_10 => ?_)
    obtain ⟨hz_11, hp_10⟩ := hp_10
    subst hp_10
    refine z_icmp_eq (tgt := 32) (u := z_6.toInt) (v := z_11.toInt) E dX2_stepsOf_26 (by decide) rfl rfl (fun h_13 => ?_) (fun h_13 => ?_)
    ·
      refine z_iinc (u := q4_3_0.toInt) (L2 := fun z_14 => [some (AR 75), some (AI x1), some (AI q4_2_0), some (AI z_14)]) E dX2_stepsOf_32 rfl rfl (by decide) (fun _ => rfl) (by decide) (by omega) (by omega) (fun z_14 hz_14 => ?_)
      refine s_goto (tgt := 4) E dX2_stepsOf_35 (by decide) ?_
      exact ih4 ⟨q4_2_0, z_14⟩ v4 ⟨⟨by have hb_ := z32 z_14; omega, by have hb_ := z32 z_14; omega⟩, hj_1⟩ (by first | omega | (dsimp only; omega))
    ·
      refine z_iincW (L2 := fun z_15 => [some (AR 75), some (AI x1), some (AI z_15), some (AI q4_3_0)]) E dX2_stepsOf_29 rfl (by decide) (fun _ => rfl) (fun z_15 => ?_)
      refine z_iinc (u := q4_3_0.toInt) (L2 := fun z_16 => [some (AR 75), some (AI x1), some (AI z_15), some (AI z_16)]) E dX2_stepsOf_32 rfl rfl (by decide) (fun _ => rfl) (by decide) (by omega) (by omega) (fun z_16 hz_16 => ?_)
      refine s_goto (tgt := 4) E dX2_stepsOf_35 (by decide) ?_
      exact ih4 ⟨z_15, z_16⟩ v4 ⟨⟨by have hb_ := z32 z_16; omega, by have hb_ := z32 z_16; omega⟩, hj_1⟩ (by first | omega | (dsimp only; omega))
set_option maxRecDepth 20000 in
set_option maxHeartbeats 2000000 in
theorem Z_X2_keepStill_75 (l : Launch) (D : va_G) (aC : Nat → ClassId) (b : Nat) (w : XW) (x1 : Int32) (hI : Iv w) (hx1 : 0 ≤ x1.toInt ∧ x1.toInt ≤ 5) : CnV l D aC b M_X2_keepStill 2 44 0 0 [AR 75, AI x1] w (fun u => Jv w u) := by
  refine cn_V (own := RX2) (nm := "keepStill") (L0 := [some (AR 75), some (AI x1), none, none]) (by decide +kernel) rfl rfl (Nat.le_of_ble_eq_true rfl) rfl ?_
  intro p e s m args below meth c E hin
  have hJ : Jv w w := jv_rfl hI
  refine s_aload_n E dX2_keepStill_0 rfl rfl ?_
  refine s_iload_n E dX2_keepStill_1 rfl rfl ?_
  refine s_iconst (v := 0) E dX2_keepStill_2 (by decide) ?_
  refine s_vI (As := [AI x1, AI 0]) (S := []) E (Z_X2_placeOf_75 l D aC b w x1 0 hJ.1 ) cv_X2_111 rfl rfl rfl (jv_lt hJ (by decide)) (Nat.le_of_ble_eq_true rfl) (Nat.le_of_ble_eq_true rfl) ⟨(Nat.le_of_ble_eq_true rfl), (Nat.le_of_ble_eq_true rfl)⟩ (Nat.le_of_ble_eq_true rfl) dX2_keepStill_3 (fun z_3 u_1 hp_2 => ?_)
  obtain ⟨hz_3, hp_2⟩ := hp_2
  subst hp_2
  refine s_istore_n (L2 := [some (AR 75), some (AI x1), some (AI z_3), none]) E dX2_keepStill_6 rfl (by decide) rfl ?_
  refine s_iconst (v := 1) E dX2_keepStill_7 (by decide) ?_
  refine s_istore_n (L2 := [some (AR 75), some (AI x1), some (AI z_3), some (AI 1)]) E dX2_keepStill_8 rfl (by decide) rfl ?_
  refine z_loop (St := Int32) (Pi := fun q9_3_4 v9 => (1 ≤ q9_3_4.toInt ∧ q9_3_4.toInt ≤ 15) ∧ Jv w v9) (Lf := fun q9_3_4 => [some (AR 75), some (AI x1), some (AI z_3), some (AI q9_3_4)]) (fun q9_3_4 _ => (16 - q9_3_4.toInt).toNat) 1 ⟨⟨by decide, by decide⟩, hJ⟩ ?_
  rintro q9_3_4 v9 ⟨hq9_3, hj_5⟩ ih9
  refine s_loc (L2 := [some (AR 75), some (AI x1), some (AI z_3), some (AI q9_3_4)]) rfl ?_
  refine s_iload_n E dX2_keepStill_9 rfl rfl ?_
  refine s_aload_n E dX2_keepStill_10 rfl rfl ?_
  refine s_gI E fg_X2_67 rfl rfl (jv_lt hj_5 (by decide)) dX2_keepStill_11 ?_
  refine z_nm (P := fun z => z.toInt = (v9.2.2.1 75 7).toInt ∧ 0 ≤ z.toInt ∧ z.toInt ≤ 14) ⟨rfl, (rg_75_7 hj_5)⟩ (fun z_6 hz_6 => ?_)
  refine z_icmp_gt (tgt := 35) (u := q9_3_4.toInt) (v := z_6.toInt) E dX2_keepStill_14 (by decide) rfl rfl (fun h_7 => ?_) (fun h_7 => ?_)
  ·
    exact r_void E dX2_keepStill_35 hj_5
  ·
    refine s_aload_n E dX2_keepStill_17 rfl rfl ?_
    refine s_gR (r := 79) E fg_X2_21 rfl rfl (jv_lt hj_5 (by decide)) (jv_r hj_5 (by decide +kernel)) dX2_keepStill_18 ?_
    refine s_iload_n E dX2_keepStill_21 rfl rfl ?_
    refine s_bipush (v := 15) E dX2_keepStill_22 (by decide) ?_
    refine z_imul (u := x1.toInt) (v := 15) E dX2_keepStill_24 rfl (by decide) (by omega) (by omega) (fun z_8 hz_8 => ?_)
    refine s_iload_n E dX2_keepStill_25 rfl rfl ?_
    refine z_iadd (u := z_8.toInt) (v := q9_3_4.toInt) E dX2_keepStill_26 rfl rfl (by omega) (by omega) (fun z_9 hz_9 => ?_)
    refine s_iload_n E dX2_keepStill_27 rfl rfl ?_
    refine s_iast E rfl (jv_lt hj_5 (by decide)) (z_in (u := z_9.toInt) rfl (by omega) (by omega)) dX2_keepStill_28 ?_
    refine s_gen (P := fun v => Jv w v ∧ (v.2.2.1 75 7).toInt = (v9.2.2.1 75 7).toInt) ⟨(jv_a_79 hj_5 (by have hb_ := z32 z_3; omega) (by have hb_ := z32 z_3; omega)), rfl⟩ (fun v_10 hj_11 => ?_)
    obtain ⟨hj_11, hk_12⟩ := hj_11
    refine z_iinc (u := q9_3_4.toInt) (L2 := fun z_13 => [some (AR 75), some (AI x1), some (AI z_3), some (AI z_13)]) E dX2_keepStill_29 rfl rfl (by decide) (fun _ => rfl) (by decide) (by omega) (by omega) (fun z_13 hz_13 => ?_)
    refine s_goto (tgt := 9) E dX2_keepStill_32 (by decide) ?_
    exact ih9 z_13 v_10 ⟨⟨by have hb_ := z32 z_13; omega, by have hb_ := z32 z_13; omega⟩, hj_11⟩ (by first | omega | (dsimp only; omega))
set_option maxRecDepth 20000 in
set_option maxHeartbeats 2000000 in
theorem Z_X9_gainOf_0 (l : Launch) (D : va_G) (aC : Nat → ClassId) (b : Nat) (w : XW) (x1 : Int32) (x2 : Int32) (x3 : Int32) (x4 : Int32) (hI : Iv w) (hx1 : 0 ≤ x1.toInt ∧ x1.toInt ≤ 5) (hx2 : 0 ≤ x2.toInt ∧ x2.toInt ≤ 5) : CnI l D aC b M_X9_gainOf 4 90 0 0 [AR 0, AI x1, AI x2, AI x3, AI x4] w (fun r u => ((-2147483648) ≤ r.toInt ∧ r.toInt ≤ 2147483647) ∧ Jv w u) := by
  refine cn_I (own := RX9) (nm := "gainOf") (L0 := [some (AR 0), some (AI x1), some (AI x2), some (AI x3), some (AI x4)]) (by decide +kernel) rfl rfl (Nat.le_of_ble_eq_true rfl) rfl ?_
  intro p e s m args below meth c E hin
  have hJ : Jv w w := jv_rfl hI
  refine s_aload_n E dX9_gainOf_0 rfl rfl ?_
  refine s_gR (r := 75) E fg_X9_58 rfl rfl (jv_lt hJ (by decide)) (jv_r hJ (by decide +kernel)) dX9_gainOf_1 ?_
  refine s_aload_n E dX9_gainOf_4 rfl rfl ?_
  refine s_gR (r := 69) E fg_X9_54 rfl rfl (jv_lt hJ (by decide)) (jv_r hJ (by decide +kernel)) dX9_gainOf_5 ?_
  refine s_vV (As := [AR 69]) (S := []) E (Z_X2_copyFrom_75_r69 l D aC b w  hJ.1 ) cv_X9_350 rfl rfl rfl (jv_lt hJ (by decide)) (Nat.le_of_ble_eq_true rfl) (Nat.le_of_ble_eq_true rfl) ⟨(Nat.le_of_ble_eq_true rfl), (Nat.le_of_ble_eq_true rfl)⟩ (Nat.le_of_ble_eq_true rfl) dX9_gainOf_8 (fun u_1 hp_2 => ?_)
  have hj_3 := jv_trans hJ hp_2
  refine s_iload_n E dX9_gainOf_11 rfl rfl ?_
  refine s_iconst (v := 1) E dX9_gainOf_12 (by decide) ?_
  refine z_icmp_ne (tgt := 24) (u := x3.toInt) (v := 1) E dX9_gainOf_13 (by decide) rfl (by decide) (fun h_4 => ?_) (fun h_4 => ?_)
  ·
    refine s_iload E dX9_gainOf_24 rfl ?_
    refine s_iconst (v := 1) E dX9_gainOf_26 (by decide) ?_
    refine z_icmp_ne (tgt := 38) (u := x4.toInt) (v := 1) E dX9_gainOf_27 (by decide) rfl (by decide) (fun h_5 => ?_) (fun h_5 => ?_)
    ·
      refine s_aload_n E dX9_gainOf_38 rfl rfl ?_
      refine s_gR (r := 75) E fg_X9_58 rfl rfl (jv_lt hj_3 (by decide)) (jv_r hj_3 (by decide +kernel)) dX9_gainOf_39 ?_
      refine s_vV (As := []) (S := []) E (Z_X2_gather_75 l D aC b u_1  hj_3.1 ) cv_X9_356 rfl rfl rfl (jv_lt hj_3 (by decide)) (Nat.le_of_ble_eq_true rfl) (Nat.le_of_ble_eq_true rfl) ⟨(Nat.le_of_ble_eq_true rfl), (Nat.le_of_ble_eq_true rfl)⟩ (Nat.le_of_ble_eq_true rfl) dX9_gainOf_42 (fun u_6 hp_7 => ?_)
      have hj_8 := jv_trans hj_3 hp_7
      refine s_iconst (v := 2) E dX9_gainOf_45 (by decide) ?_
      refine s_aload_n E dX9_gainOf_46 rfl rfl ?_
      refine s_gR (r := 75) E fg_X9_58 rfl rfl (jv_lt hj_8 (by decide)) (jv_r hj_8 (by decide +kernel)) dX9_gainOf_47 ?_
      refine s_iload_n E dX9_gainOf_50 rfl rfl ?_
      refine s_vI (As := [AI x1]) (S := [AI 2]) E (Z_X2_friendsOf_75 l D aC b u_6 x1 hj_8.1 ) cv_X9_181 rfl rfl rfl (jv_lt hj_8 (by decide)) (Nat.le_of_ble_eq_true rfl) (Nat.le_of_ble_eq_true rfl) ⟨(Nat.le_of_ble_eq_true rfl), (Nat.le_of_ble_eq_true rfl)⟩ (Nat.le_of_ble_eq_true rfl) dX9_gainOf_51 (fun z_11 u_9 hp_10 => ?_)
      obtain ⟨hz_11, hp_10⟩ := hp_10
      have hj_12 := jv_trans hj_8 hp_10
      refine s_sI (As := [AI z_11]) (S := [AI 2]) E (Z_J6_bitCount_0f7a4 l D aC b u_9 z_11 hj_12.1 ) cs_X9_203 rfl rfl (Nat.le_of_ble_eq_true rfl) (Nat.le_of_ble_eq_true rfl) ⟨(Nat.le_of_ble_eq_true rfl), (Nat.le_of_ble_eq_true rfl)⟩ (Nat.le_of_ble_eq_true rfl) dX9_gainOf_54 (fun z_15 u_13 hp_14 => ?_)
      obtain ⟨hz_15, hp_14⟩ := hp_14
      subst hp_14
      refine z_imul (u := 2) (v := z_15.toInt) E dX9_gainOf_57 (by decide) rfl (by omega) (by omega) (fun z_17 hz_17 => ?_)
      refine s_aload_n E dX9_gainOf_58 rfl rfl ?_
      refine s_gR (r := 75) E fg_X9_58 rfl rfl (jv_lt hj_12 (by decide)) (jv_r hj_12 (by decide +kernel)) dX9_gainOf_59 ?_
      refine s_iload_n E dX9_gainOf_62 rfl rfl ?_
      refine s_vI (As := [AI x1]) (S := [AI z_17]) E (Z_X2_stepsOf_75 l D aC b u_9 x1 hj_12.1 ) cv_X9_165 rfl rfl rfl (jv_lt hj_12 (by decide)) (Nat.le_of_ble_eq_true rfl) (Nat.le_of_ble_eq_true rfl) ⟨(Nat.le_of_ble_eq_true rfl), (Nat.le_of_ble_eq_true rfl)⟩ (Nat.le_of_ble_eq_true rfl) dX9_gainOf_63 (fun z_20 u_18 hp_19 => ?_)
      obtain ⟨hz_20, hp_19⟩ := hp_19
      have hj_21 := jv_trans hj_12 hp_19
      refine s_isub E dX9_gainOf_66 ?_
      refine z_any (fun z_22 => ?_)
      exact r_int E dX9_gainOf_67 ⟨⟨by have hb_ := z32 z_22; omega, by have hb_ := z32 z_22; omega⟩, hj_21⟩
    ·
      refine s_aload_n E dX9_gainOf_30 rfl rfl ?_
      refine s_gR (r := 75) E fg_X9_58 rfl rfl (jv_lt hj_3 (by decide)) (jv_r hj_3 (by decide +kernel)) dX9_gainOf_31 ?_
      refine s_iload_n E dX9_gainOf_34 rfl rfl ?_
      refine s_vV (As := [AI x2]) (S := []) E (Z_X2_keepStill_75 l D aC b u_1 x2 hj_3.1 ⟨by have hb_ := z32 x2; omega, by have hb_ := z32 x2; omega⟩) cv_X9_353 rfl rfl rfl (jv_lt hj_3 (by decide)) (Nat.le_of_ble_eq_true rfl) (Nat.le_of_ble_eq_true rfl) ⟨(Nat.le_of_ble_eq_true rfl), (Nat.le_of_ble_eq_true rfl)⟩ (Nat.le_of_ble_eq_true rfl) dX9_gainOf_35 (fun u_23 hp_24 => ?_)
      have hj_25 := jv_trans hj_3 hp_24
      refine s_aload_n E dX9_gainOf_38 rfl rfl ?_
      refine s_gR (r := 75) E fg_X9_58 rfl rfl (jv_lt hj_25 (by decide)) (jv_r hj_25 (by decide +kernel)) dX9_gainOf_39 ?_
      refine s_vV (As := []) (S := []) E (Z_X2_gather_75 l D aC b u_23  hj_25.1 ) cv_X9_356 rfl rfl rfl (jv_lt hj_25 (by decide)) (Nat.le_of_ble_eq_true rfl) (Nat.le_of_ble_eq_true rfl) ⟨(Nat.le_of_ble_eq_true rfl), (Nat.le_of_ble_eq_true rfl)⟩ (Nat.le_of_ble_eq_true rfl) dX9_gainOf_42 (fun u_26 hp_27 => ?_)
      have hj_28 := jv_trans hj_25 hp_27
      refine s_iconst (v := 2) E dX9_gainOf_45 (by decide) ?_
      refine s_aload_n E dX9_gainOf_46 rfl rfl ?_
      refine s_gR (r := 75) E fg_X9_58 rfl rfl (jv_lt hj_28 (by decide)) (jv_r hj_28 (by decide +kernel)) dX9_gainOf_47 ?_
      refine s_iload_n E dX9_gainOf_50 rfl rfl ?_
      refine s_vI (As := [AI x1]) (S := [AI 2]) E (Z_X2_friendsOf_75 l D aC b u_26 x1 hj_28.1 ) cv_X9_181 rfl rfl rfl (jv_lt hj_28 (by decide)) (Nat.le_of_ble_eq_true rfl) (Nat.le_of_ble_eq_true rfl) ⟨(Nat.le_of_ble_eq_true rfl), (Nat.le_of_ble_eq_true rfl)⟩ (Nat.le_of_ble_eq_true rfl) dX9_gainOf_51 (fun z_31 u_29 hp_30 => ?_)
      obtain ⟨hz_31, hp_30⟩ := hp_30
      have hj_32 := jv_trans hj_28 hp_30
      refine s_sI (As := [AI z_31]) (S := [AI 2]) E (Z_J6_bitCount_0f7a4 l D aC b u_29 z_31 hj_32.1 ) cs_X9_203 rfl rfl (Nat.le_of_ble_eq_true rfl) (Nat.le_of_ble_eq_true rfl) ⟨(Nat.le_of_ble_eq_true rfl), (Nat.le_of_ble_eq_true rfl)⟩ (Nat.le_of_ble_eq_true rfl) dX9_gainOf_54 (fun z_35 u_33 hp_34 => ?_)
      obtain ⟨hz_35, hp_34⟩ := hp_34
      subst hp_34
      refine z_imul (u := 2) (v := z_35.toInt) E dX9_gainOf_57 (by decide) rfl (by omega) (by omega) (fun z_37 hz_37 => ?_)
      refine s_aload_n E dX9_gainOf_58 rfl rfl ?_
      refine s_gR (r := 75) E fg_X9_58 rfl rfl (jv_lt hj_32 (by decide)) (jv_r hj_32 (by decide +kernel)) dX9_gainOf_59 ?_
      refine s_iload_n E dX9_gainOf_62 rfl rfl ?_
      refine s_vI (As := [AI x1]) (S := [AI z_37]) E (Z_X2_stepsOf_75 l D aC b u_29 x1 hj_32.1 ) cv_X9_165 rfl rfl rfl (jv_lt hj_32 (by decide)) (Nat.le_of_ble_eq_true rfl) (Nat.le_of_ble_eq_true rfl) ⟨(Nat.le_of_ble_eq_true rfl), (Nat.le_of_ble_eq_true rfl)⟩ (Nat.le_of_ble_eq_true rfl) dX9_gainOf_63 (fun z_40 u_38 hp_39 => ?_)
      obtain ⟨hz_40, hp_39⟩ := hp_39
      have hj_41 := jv_trans hj_32 hp_39
      refine s_isub E dX9_gainOf_66 ?_
      refine z_any (fun z_42 => ?_)
      exact r_int E dX9_gainOf_67 ⟨⟨by have hb_ := z32 z_42; omega, by have hb_ := z32 z_42; omega⟩, hj_41⟩
  ·
    refine s_aload_n E dX9_gainOf_16 rfl rfl ?_
    refine s_gR (r := 75) E fg_X9_58 rfl rfl (jv_lt hj_3 (by decide)) (jv_r hj_3 (by decide +kernel)) dX9_gainOf_17 ?_
    refine s_iload_n E dX9_gainOf_20 rfl rfl ?_
    refine s_vV (As := [AI x1]) (S := []) E (Z_X2_keepStill_75 l D aC b u_1 x1 hj_3.1 ⟨by have hb_ := z32 x1; omega, by have hb_ := z32 x1; omega⟩) cv_X9_353 rfl rfl rfl (jv_lt hj_3 (by decide)) (Nat.le_of_ble_eq_true rfl) (Nat.le_of_ble_eq_true rfl) ⟨(Nat.le_of_ble_eq_true rfl), (Nat.le_of_ble_eq_true rfl)⟩ (Nat.le_of_ble_eq_true rfl) dX9_gainOf_21 (fun u_43 hp_44 => ?_)
    have hj_45 := jv_trans hj_3 hp_44
    refine s_iload E dX9_gainOf_24 rfl ?_
    refine s_iconst (v := 1) E dX9_gainOf_26 (by decide) ?_
    refine z_icmp_ne (tgt := 38) (u := x4.toInt) (v := 1) E dX9_gainOf_27 (by decide) rfl (by decide) (fun h_46 => ?_) (fun h_46 => ?_)
    ·
      refine s_aload_n E dX9_gainOf_38 rfl rfl ?_
      refine s_gR (r := 75) E fg_X9_58 rfl rfl (jv_lt hj_45 (by decide)) (jv_r hj_45 (by decide +kernel)) dX9_gainOf_39 ?_
      refine s_vV (As := []) (S := []) E (Z_X2_gather_75 l D aC b u_43  hj_45.1 ) cv_X9_356 rfl rfl rfl (jv_lt hj_45 (by decide)) (Nat.le_of_ble_eq_true rfl) (Nat.le_of_ble_eq_true rfl) ⟨(Nat.le_of_ble_eq_true rfl), (Nat.le_of_ble_eq_true rfl)⟩ (Nat.le_of_ble_eq_true rfl) dX9_gainOf_42 (fun u_47 hp_48 => ?_)
      have hj_49 := jv_trans hj_45 hp_48
      refine s_iconst (v := 2) E dX9_gainOf_45 (by decide) ?_
      refine s_aload_n E dX9_gainOf_46 rfl rfl ?_
      refine s_gR (r := 75) E fg_X9_58 rfl rfl (jv_lt hj_49 (by decide)) (jv_r hj_49 (by decide +kernel)) dX9_gainOf_47 ?_
      refine s_iload_n E dX9_gainOf_50 rfl rfl ?_
      refine s_vI (As := [AI x1]) (S := [AI 2]) E (Z_X2_friendsOf_75 l D aC b u_47 x1 hj_49.1 ) cv_X9_181 rfl rfl rfl (jv_lt hj_49 (by decide)) (Nat.le_of_ble_eq_true rfl) (Nat.le_of_ble_eq_true rfl) ⟨(Nat.le_of_ble_eq_true rfl), (Nat.le_of_ble_eq_true rfl)⟩ (Nat.le_of_ble_eq_true rfl) dX9_gainOf_51 (fun z_52 u_50 hp_51 => ?_)
      obtain ⟨hz_52, hp_51⟩ := hp_51
      have hj_53 := jv_trans hj_49 hp_51
      refine s_sI (As := [AI z_52]) (S := [AI 2]) E (Z_J6_bitCount_0f7a4 l D aC b u_50 z_52 hj_53.1 ) cs_X9_203 rfl rfl (Nat.le_of_ble_eq_true rfl) (Nat.le_of_ble_eq_true rfl) ⟨(Nat.le_of_ble_eq_true rfl), (Nat.le_of_ble_eq_true rfl)⟩ (Nat.le_of_ble_eq_true rfl) dX9_gainOf_54 (fun z_56 u_54 hp_55 => ?_)
      obtain ⟨hz_56, hp_55⟩ := hp_55
      subst hp_55
      refine z_imul (u := 2) (v := z_56.toInt) E dX9_gainOf_57 (by decide) rfl (by omega) (by omega) (fun z_58 hz_58 => ?_)
      refine s_aload_n E dX9_gainOf_58 rfl rfl ?_
      refine s_gR (r := 75) E fg_X9_58 rfl rfl (jv_lt hj_53 (by decide)) (jv_r hj_53 (by decide +kernel)) dX9_gainOf_59 ?_
      refine s_iload_n E dX9_gainOf_62 rfl rfl ?_
      refine s_vI (As := [AI x1]) (S := [AI z_58]) E (Z_X2_stepsOf_75 l D aC b u_50 x1 hj_53.1 ) cv_X9_165 rfl rfl rfl (jv_lt hj_53 (by decide)) (Nat.le_of_ble_eq_true rfl) (Nat.le_of_ble_eq_true rfl) ⟨(Nat.le_of_ble_eq_true rfl), (Nat.le_of_ble_eq_true rfl)⟩ (Nat.le_of_ble_eq_true rfl) dX9_gainOf_63 (fun z_61 u_59 hp_60 => ?_)
      obtain ⟨hz_61, hp_60⟩ := hp_60
      have hj_62 := jv_trans hj_53 hp_60
      refine s_isub E dX9_gainOf_66 ?_
      refine z_any (fun z_63 => ?_)
      exact r_int E dX9_gainOf_67 ⟨⟨by have hb_ := z32 z_63; omega, by have hb_ := z32 z_63; omega⟩, hj_62⟩
    ·
      refine s_aload_n E dX9_gainOf_30 rfl rfl ?_
      refine s_gR (r := 75) E fg_X9_58 rfl rfl (jv_lt hj_45 (by decide)) (jv_r hj_45 (by decide +kernel)) dX9_gainOf_31 ?_
      refine s_iload_n E dX9_gainOf_34 rfl rfl ?_
      refine s_vV (As := [AI x2]) (S := []) E (Z_X2_keepStill_75 l D aC b u_43 x2 hj_45.1 ⟨by have hb_ := z32 x2; omega, by have hb_ := z32 x2; omega⟩) cv_X9_353 rfl rfl rfl (jv_lt hj_45 (by decide)) (Nat.le_of_ble_eq_true rfl) (Nat.le_of_ble_eq_true rfl) ⟨(Nat.le_of_ble_eq_true rfl), (Nat.le_of_ble_eq_true rfl)⟩ (Nat.le_of_ble_eq_true rfl) dX9_gainOf_35 (fun u_64 hp_65 => ?_)
      have hj_66 := jv_trans hj_45 hp_65
      refine s_aload_n E dX9_gainOf_38 rfl rfl ?_
      refine s_gR (r := 75) E fg_X9_58 rfl rfl (jv_lt hj_66 (by decide)) (jv_r hj_66 (by decide +kernel)) dX9_gainOf_39 ?_
      refine s_vV (As := []) (S := []) E (Z_X2_gather_75 l D aC b u_64  hj_66.1 ) cv_X9_356 rfl rfl rfl (jv_lt hj_66 (by decide)) (Nat.le_of_ble_eq_true rfl) (Nat.le_of_ble_eq_true rfl) ⟨(Nat.le_of_ble_eq_true rfl), (Nat.le_of_ble_eq_true rfl)⟩ (Nat.le_of_ble_eq_true rfl) dX9_gainOf_42 (fun u_67 hp_68 => ?_)
      have hj_69 := jv_trans hj_66 hp_68
      refine s_iconst (v := 2) E dX9_gainOf_45 (by decide) ?_
      refine s_aload_n E dX9_gainOf_46 rfl rfl ?_
      refine s_gR (r := 75) E fg_X9_58 rfl rfl (jv_lt hj_69 (by decide)) (jv_r hj_69 (by decide +kernel)) dX9_gainOf_47 ?_
      refine s_iload_n E dX9_gainOf_50 rfl rfl ?_
      refine s_vI (As := [AI x1]) (S := [AI 2]) E (Z_X2_friendsOf_75 l D aC b u_67 x1 hj_69.1 ) cv_X9_181 rfl rfl rfl (jv_lt hj_69 (by decide)) (Nat.le_of_ble_eq_true rfl) (Nat.le_of_ble_eq_true rfl) ⟨(Nat.le_of_ble_eq_true rfl), (Nat.le_of_ble_eq_true rfl)⟩ (Nat.le_of_ble_eq_true rfl) dX9_gainOf_51 (fun z_72 u_70 hp_71 => ?_)
      obtain ⟨hz_72, hp_71⟩ := hp_71
      have hj_73 := jv_trans hj_69 hp_71
      refine s_sI (As := [AI z_72]) (S := [AI 2]) E (Z_J6_bitCount_0f7a4 l D aC b u_70 z_72 hj_73.1 ) cs_X9_203 rfl rfl (Nat.le_of_ble_eq_true rfl) (Nat.le_of_ble_eq_true rfl) ⟨(Nat.le_of_ble_eq_true rfl), (Nat.le_of_ble_eq_true rfl)⟩ (Nat.le_of_ble_eq_true rfl) dX9_gainOf_54 (fun z_76 u_74 hp_75 => ?_)
      obtain ⟨hz_76, hp_75⟩ := hp_75
      subst hp_75
      refine z_imul (u := 2) (v := z_76.toInt) E dX9_gainOf_57 (by decide) rfl (by omega) (by omega) (fun z_78 hz_78 => ?_)
      refine s_aload_n E dX9_gainOf_58 rfl rfl ?_
      refine s_gR (r := 75) E fg_X9_58 rfl rfl (jv_lt hj_73 (by decide)) (jv_r hj_73 (by decide +kernel)) dX9_gainOf_59 ?_
      refine s_iload_n E dX9_gainOf_62 rfl rfl ?_
      refine s_vI (As := [AI x1]) (S := [AI z_78]) E (Z_X2_stepsOf_75 l D aC b u_70 x1 hj_73.1 ) cv_X9_165 rfl rfl rfl (jv_lt hj_73 (by decide)) (Nat.le_of_ble_eq_true rfl) (Nat.le_of_ble_eq_true rfl) ⟨(Nat.le_of_ble_eq_true rfl), (Nat.le_of_ble_eq_true rfl)⟩ (Nat.le_of_ble_eq_true rfl) dX9_gainOf_63 (fun z_81 u_79 hp_80 => ?_)
      obtain ⟨hz_81, hp_80⟩ := hp_80
      have hj_82 := jv_trans hj_73 hp_80
      refine s_isub E dX9_gainOf_66 ?_
      refine z_any (fun z_83 => ?_)
      exact r_int E dX9_gainOf_67 ⟨⟨by have hb_ := z32 z_83; omega, by have hb_ := z32 z_83; omega⟩, hj_82⟩
set_option maxRecDepth 20000 in
set_option maxHeartbeats 2000000 in
theorem Z_X9_isContent_0 (l : Launch) (D : va_G) (aC : Nat → ClassId) (b : Nat) (w : XW) (x1 : Int32) (x2 : Int32) (x3 : Int32) (x4 : Int32) (hI : Iv w) (hx1 : 0 ≤ x1.toInt ∧ x1.toInt ≤ 5) (hx2 : 0 ≤ x2.toInt ∧ x2.toInt ≤ 5) : CnI l D aC b M_X9_isContent 5 114 0 0 [AR 0, AI x1, AI x2, AI x3, AI x4] w (fun r u => (0 ≤ r.toInt ∧ r.toInt ≤ 1) ∧ Jv w u) := by
  refine cn_I (own := RX9) (nm := "isContent") (L0 := [some (AR 0), some (AI x1), some (AI x2), some (AI x3), some (AI x4)]) (by decide +kernel) rfl rfl (Nat.le_of_ble_eq_true rfl) rfl ?_
  intro p e s m args below meth c E hin
  have hJ : Jv w w := jv_rfl hI
  refine s_aload_n E dX9_isContent_0 rfl rfl ?_
  refine s_iload_n E dX9_isContent_1 rfl rfl ?_
  refine s_iload_n E dX9_isContent_2 rfl rfl ?_
  refine s_iload_n E dX9_isContent_3 rfl rfl ?_
  refine s_iload E dX9_isContent_4 rfl ?_
  refine s_vI (As := [AI x1, AI x2, AI x3, AI x4]) (S := []) E (Z_X9_gainOf_0 l D aC b w x1 x2 x3 x4 hJ.1 ⟨by have hb_ := z32 x1; omega, by have hb_ := z32 x1; omega⟩ ⟨by have hb_ := z32 x2; omega, by have hb_ := z32 x2; omega⟩) cv_X9_346 rfl rfl rfl (jv_lt hJ (by decide)) (Nat.le_of_ble_eq_true rfl) (Nat.le_of_ble_eq_true rfl) ⟨(Nat.le_of_ble_eq_true rfl), (Nat.le_of_ble_eq_true rfl)⟩ (Nat.le_of_ble_eq_true rfl) dX9_isContent_6 (fun z_3 u_1 hp_2 => ?_)
  obtain ⟨hz_3, hp_2⟩ := hp_2
  have hj_4 := jv_trans hJ hp_2
  refine s_aload_n E dX9_isContent_9 rfl rfl ?_
  refine s_iload_n E dX9_isContent_10 rfl rfl ?_
  refine s_iload_n E dX9_isContent_11 rfl rfl ?_
  refine s_iconst (v := 1) E dX9_isContent_12 (by decide) ?_
  refine s_iload_n E dX9_isContent_13 rfl rfl ?_
  refine s_isub E dX9_isContent_14 ?_
  refine z_any (fun z_5 => ?_)
  refine s_iload E dX9_isContent_15 rfl ?_
  refine s_vI (As := [AI x1, AI x2, AI z_5, AI x4]) (S := [AI z_3]) E (Z_X9_gainOf_0 l D aC b u_1 x1 x2 z_5 x4 hj_4.1 ⟨by have hb_ := z32 x1; omega, by have hb_ := z32 x1; omega⟩ ⟨by have hb_ := z32 x2; omega, by have hb_ := z32 x2; omega⟩) cv_X9_346 rfl rfl rfl (jv_lt hj_4 (by decide)) (Nat.le_of_ble_eq_true rfl) (Nat.le_of_ble_eq_true rfl) ⟨(Nat.le_of_ble_eq_true rfl), (Nat.le_of_ble_eq_true rfl)⟩ (Nat.le_of_ble_eq_true rfl) dX9_isContent_17 (fun z_8 u_6 hp_7 => ?_)
  obtain ⟨hz_8, hp_7⟩ := hp_7
  have hj_9 := jv_trans hj_4 hp_7
  refine z_icmp_lt (tgt := 27) (u := z_3.toInt) (v := z_8.toInt) E dX9_isContent_20 (by decide) rfl rfl (fun h_10 => ?_) (fun h_10 => ?_)
  ·
    refine s_iconst (v := 0) E dX9_isContent_27 (by decide) ?_
    exact r_bool E dX9_isContent_28 (Or.inl rfl) ⟨(by decide), hj_9⟩
  ·
    refine s_iconst (v := 1) E dX9_isContent_23 (by decide) ?_
    refine s_goto (tgt := 28) E dX9_isContent_24 (by decide) ?_
    exact r_bool E dX9_isContent_28 (Or.inr rfl) ⟨(by decide), hj_9⟩
set_option maxRecDepth 20000 in
set_option maxHeartbeats 2000000 in
theorem Z_X9_rests_0 (l : Launch) (D : va_G) (aC : Nat → ClassId) (b : Nat) (w : XW) (x1 : Int32) (x2 : Int32) (hI : Iv w)  : CnI l D aC b M_X9_rests 6 138 0 0 [AR 0, AI x1, AI x2] w (fun r u => ((-2147483648) ≤ r.toInt ∧ r.toInt ≤ 2147483647 ∧ (¬ r.toInt = 0 ∨ (0 ≤ x1.toInt ∧ x1.toInt ≤ 5)) ∧ (¬ r.toInt = 0 ∨ (0 ≤ x2.toInt ∧ x2.toInt ≤ 5)) ∧ (¬ r.toInt = 0 ∨ (1 ≤ (w.2.2.1 5 3).toInt ∧ (w.2.2.1 5 3).toInt ≤ 6))) ∧ Jv w u) := by
  refine cn_I (own := RX9) (nm := "rests") (L0 := [some (AR 0), some (AI x1), some (AI x2), none, none, none, none]) (by decide +kernel) rfl rfl (Nat.le_of_ble_eq_true rfl) rfl ?_
  intro p e s m args below meth c E hin
  have hJ : Jv w w := jv_rfl hI
  refine s_aload_n E dX9_rests_0 rfl rfl ?_
  refine s_gR (r := 2) E fg_X9_20 rfl rfl (jv_lt hJ (by decide)) (jv_r hJ (by decide +kernel)) dX9_rests_1 ?_
  refine s_iload_n E dX9_rests_4 rfl rfl ?_
  refine s_vI (As := [AI x1]) (S := []) E (Z_X0_hasLady_2 l D aC b w x1 hJ.1 ) cv_X9_139 rfl rfl rfl (jv_lt hJ (by decide)) (Nat.le_of_ble_eq_true rfl) (Nat.le_of_ble_eq_true rfl) ⟨(Nat.le_of_ble_eq_true rfl), (Nat.le_of_ble_eq_true rfl)⟩ (Nat.le_of_ble_eq_true rfl) dX9_rests_5 (fun z_3 u_1 hp_2 => ?_)
  obtain ⟨hz_3, hp_2⟩ := hp_2
  subst hp_2
  refine z_if_eq (tgt := 27) (u := z_3.toInt) E dX9_rests_8 (by decide) rfl (fun h_5 => ?_) (fun h_5 => ?_)
  ·
    refine s_bipush (v := (-2)) E dX9_rests_27 (by decide) ?_
    exact r_int E dX9_rests_29 ⟨⟨by decide, by decide, by first | (left; decide) | (right; have hb_ := z32 x1; omega), by first | (left; decide) | (right; have hb_ := z32 x2; omega), by first | (left; decide) | (right; have hb_ := z32 (w.2.2.1 5 3); omega)⟩, hJ⟩
  ·
    refine s_aload_n E dX9_rests_11 rfl rfl ?_
    refine s_gR (r := 2) E fg_X9_20 rfl rfl (jv_lt hJ (by decide)) (jv_r hJ (by decide +kernel)) dX9_rests_12 ?_
    refine s_iload_n E dX9_rests_15 rfl rfl ?_
    refine s_vI (As := [AI x2]) (S := []) E (Z_X0_hasLady_2 l D aC b w x2 hJ.1 ) cv_X9_139 rfl rfl rfl (jv_lt hJ (by decide)) (Nat.le_of_ble_eq_true rfl) (Nat.le_of_ble_eq_true rfl) ⟨(Nat.le_of_ble_eq_true rfl), (Nat.le_of_ble_eq_true rfl)⟩ (Nat.le_of_ble_eq_true rfl) dX9_rests_16 (fun z_8 u_6 hp_7 => ?_)
    obtain ⟨hz_8, hp_7⟩ := hp_7
    subst hp_7
    refine z_if_eq (tgt := 27) (u := z_8.toInt) E dX9_rests_19 (by decide) rfl (fun h_10 => ?_) (fun h_10 => ?_)
    ·
      refine s_bipush (v := (-2)) E dX9_rests_27 (by decide) ?_
      exact r_int E dX9_rests_29 ⟨⟨by decide, by decide, by first | (left; decide) | (right; have hb_ := z32 x1; omega), by first | (left; decide) | (right; have hb_ := z32 x2; omega), by first | (left; decide) | (right; have hb_ := z32 (w.2.2.1 5 3); omega)⟩, hJ⟩
    ·
      refine s_iload_n E dX9_rests_22 rfl rfl ?_
      refine s_iload_n E dX9_rests_23 rfl rfl ?_
      refine z_icmp_ne (tgt := 30) (u := x1.toInt) (v := x2.toInt) E dX9_rests_24 (by decide) rfl rfl (fun h_11 => ?_) (fun h_11 => ?_)
      ·
        refine s_iconst (v := 0) E dX9_rests_30 (by decide) ?_
        refine s_istore_n (L2 := [some (AR 0), some (AI x1), some (AI x2), some (AI 0), none, none, none]) E dX9_rests_31 rfl (by decide) rfl ?_
        refine s_iconst (v := 0) E dX9_rests_32 (by decide) ?_
        refine s_istore (L2 := [some (AR 0), some (AI x1), some (AI x2), some (AI 0), some (AI 0), none, none]) E dX9_rests_33 (by decide) rfl ?_
        refine z_loop (St := Int32 × Int32) (Pi := fun ⟨q35_3_11, q35_4_11⟩ v35 => (0 ≤ q35_4_11.toInt ∧ q35_4_11.toInt ≤ 4) ∧ Jv w v35) (Lf := fun ⟨q35_3_11, q35_4_11⟩ => [some (AR 0), some (AI x1), some (AI x2), some (AI q35_3_11), some (AI q35_4_11), none, none]) (fun ⟨q35_3_11, q35_4_11⟩ _ => (5 - q35_4_11.toInt).toNat) ⟨0, 0⟩ ⟨⟨by decide, by decide⟩, hJ⟩ ?_
        rintro ⟨q35_3_11, q35_4_11⟩ v35 ⟨hq35_4, hj_12⟩ ih35
        refine s_loc (L2 := [some (AR 0), some (AI x1), some (AI x2), some (AI q35_3_11), some (AI q35_4_11), none, none]) rfl ?_
        refine s_iload E dX9_rests_35 rfl ?_
        refine s_iconst (v := 4) E dX9_rests_37 (by decide) ?_
        refine z_icmp_ge (tgt := 92) (u := q35_4_11.toInt) (v := 4) E dX9_rests_38 (by decide) rfl (by decide) (fun h_13 => ?_) (fun h_13 => ?_)
        ·
          refine s_iload_n E dX9_rests_92 rfl rfl ?_
          exact r_int E dX9_rests_93 ⟨⟨by have hb_ := z32 q35_3_11; omega, by have hb_ := z32 q35_3_11; omega, by have hb_ := z32 q35_3_11; have hc_ := z32 x1; omega, by have hb_ := z32 q35_3_11; have hc_ := z32 x2; omega, by have hb_ := z32 q35_3_11; have hc_ := z32 (w.2.2.1 5 3); omega⟩, hj_12⟩
        ·
          refine s_iload E dX9_rests_41 rfl ?_
          refine s_iconst (v := 1) E dX9_rests_43 (by decide) ?_
          refine z_mask (v := 1) E dX9_rests_44 (by decide) (by decide) (fun z_14 hz_14 => ?_)
          refine s_istore (L2 := [some (AR 0), some (AI x1), some (AI x2), some (AI q35_3_11), some (AI q35_4_11), some (AI z_14), none]) E dX9_rests_45 (by decide) rfl ?_
          refine s_iload E dX9_rests_47 rfl ?_
          refine s_iconst (v := 1) E dX9_rests_49 (by decide) ?_
          refine s_ishr E dX9_rests_50 ?_
          refine z_any (fun z_15 => ?_)
          refine s_istore (L2 := [some (AR 0), some (AI x1), some (AI x2), some (AI q35_3_11), some (AI q35_4_11), some (AI z_14), some (AI z_15)]) E dX9_rests_51 (by decide) rfl ?_
          refine s_aload_n E dX9_rests_53 rfl rfl ?_
          refine s_iload_n E dX9_rests_54 rfl rfl ?_
          refine s_iload_n E dX9_rests_55 rfl rfl ?_
          refine s_iload E dX9_rests_56 rfl ?_
          refine s_iload E dX9_rests_58 rfl ?_
          refine s_vI (As := [AI x1, AI x2, AI z_14, AI z_15]) (S := []) E (Z_X9_isContent_0 l D aC b v35 x1 x2 z_14 z_15 hj_12.1 ⟨by have hb_ := z32 x1; omega, by have hb_ := z32 x1; omega⟩ ⟨by have hb_ := z32 x2; omega, by have hb_ := z32 x2; omega⟩) cv_X9_342 rfl rfl rfl (jv_lt hj_12 (by decide)) (Nat.le_of_ble_eq_true rfl) (Nat.le_of_ble_eq_true rfl) ⟨(Nat.le_of_ble_eq_true rfl), (Nat.le_of_ble_eq_true rfl)⟩ (Nat.le_of_ble_eq_true rfl) dX9_rests_60 (fun z_18 u_16 hp_17 => ?_)
          obtain ⟨hz_18, hp_17⟩ := hp_17
          have hj_19 := jv_trans hj_12 hp_17
          refine z_if_eq (tgt := 86) (u := z_18.toInt) E dX9_rests_63 (by decide) rfl (fun h_20 => ?_) (fun h_20 => ?_)
          ·
            refine z_iinc (u := q35_4_11.toInt) (L2 := fun z_21 => [some (AR 0), some (AI x1), some (AI x2), some (AI q35_3_11), some (AI z_21), some (AI z_14), some (AI z_15)]) E dX9_rests_86 rfl rfl (by decide) (fun _ => rfl) (by decide) (by omega) (by omega) (fun z_21 hz_21 => ?_)
            refine s_goto (tgt := 35) E dX9_rests_89 (by decide) ?_
            refine s_drop (i := 5) (L2 := [some (AR 0), some (AI x1), some (AI x2), some (AI q35_3_11), some (AI z_21), none, some (AI z_15)]) rfl ?_
            refine s_drop (i := 6) (L2 := [some (AR 0), some (AI x1), some (AI x2), some (AI q35_3_11), some (AI z_21), none, none]) rfl ?_
            exact ih35 ⟨q35_3_11, z_21⟩ u_16 ⟨⟨by have hb_ := z32 z_21; omega, by have hb_ := z32 z_21; omega⟩, hj_19⟩ (by first | omega | (dsimp only; omega))
          ·
            refine s_aload_n E dX9_rests_66 rfl rfl ?_
            refine s_iload_n E dX9_rests_67 rfl rfl ?_
            refine s_iload_n E dX9_rests_68 rfl rfl ?_
            refine s_iload E dX9_rests_69 rfl ?_
            refine s_iload E dX9_rests_71 rfl ?_
            refine s_vI (As := [AI x2, AI x1, AI z_15, AI z_14]) (S := []) E (Z_X9_isContent_0 l D aC b u_16 x2 x1 z_15 z_14 hj_19.1 ⟨by have hb_ := z32 x2; omega, by have hb_ := z32 x2; omega⟩ ⟨by have hb_ := z32 x1; omega, by have hb_ := z32 x1; omega⟩) cv_X9_342 rfl rfl rfl (jv_lt hj_19 (by decide)) (Nat.le_of_ble_eq_true rfl) (Nat.le_of_ble_eq_true rfl) ⟨(Nat.le_of_ble_eq_true rfl), (Nat.le_of_ble_eq_true rfl)⟩ (Nat.le_of_ble_eq_true rfl) dX9_rests_73 (fun z_24 u_22 hp_23 => ?_)
            obtain ⟨hz_24, hp_23⟩ := hp_23
            have hj_25 := jv_trans hj_19 hp_23
            refine z_if_eq (tgt := 86) (u := z_24.toInt) E dX9_rests_76 (by decide) rfl (fun h_26 => ?_) (fun h_26 => ?_)
            ·
              refine z_iinc (u := q35_4_11.toInt) (L2 := fun z_27 => [some (AR 0), some (AI x1), some (AI x2), some (AI q35_3_11), some (AI z_27), some (AI z_14), some (AI z_15)]) E dX9_rests_86 rfl rfl (by decide) (fun _ => rfl) (by decide) (by omega) (by omega) (fun z_27 hz_27 => ?_)
              refine s_goto (tgt := 35) E dX9_rests_89 (by decide) ?_
              refine s_drop (i := 5) (L2 := [some (AR 0), some (AI x1), some (AI x2), some (AI q35_3_11), some (AI z_27), none, some (AI z_15)]) rfl ?_
              refine s_drop (i := 6) (L2 := [some (AR 0), some (AI x1), some (AI x2), some (AI q35_3_11), some (AI z_27), none, none]) rfl ?_
              exact ih35 ⟨q35_3_11, z_27⟩ u_22 ⟨⟨by have hb_ := z32 z_27; omega, by have hb_ := z32 z_27; omega⟩, hj_25⟩ (by first | omega | (dsimp only; omega))
            ·
              refine s_iload_n E dX9_rests_79 rfl rfl ?_
              refine s_iconst (v := 1) E dX9_rests_80 (by decide) ?_
              refine s_iload E dX9_rests_81 rfl ?_
              refine z_shl1 3 (u := q35_4_11.toInt) (B := 8) E dX9_rests_83 rfl (by omega) (by omega) (by decide) (by decide) (fun z_28 hz_28 => ?_)
              refine s_ior E dX9_rests_84 ?_
              refine z_any (fun z_29 => ?_)
              refine s_istore_n (L2 := [some (AR 0), some (AI x1), some (AI x2), some (AI z_29), some (AI q35_4_11), some (AI z_14), some (AI z_15)]) E dX9_rests_85 rfl (by decide) rfl ?_
              refine z_iinc (u := q35_4_11.toInt) (L2 := fun z_30 => [some (AR 0), some (AI x1), some (AI x2), some (AI z_29), some (AI z_30), some (AI z_14), some (AI z_15)]) E dX9_rests_86 rfl rfl (by decide) (fun _ => rfl) (by decide) (by omega) (by omega) (fun z_30 hz_30 => ?_)
              refine s_goto (tgt := 35) E dX9_rests_89 (by decide) ?_
              refine s_drop (i := 5) (L2 := [some (AR 0), some (AI x1), some (AI x2), some (AI z_29), some (AI z_30), none, some (AI z_15)]) rfl ?_
              refine s_drop (i := 6) (L2 := [some (AR 0), some (AI x1), some (AI x2), some (AI z_29), some (AI z_30), none, none]) rfl ?_
              exact ih35 ⟨z_29, z_30⟩ u_22 ⟨⟨by have hb_ := z32 z_30; omega, by have hb_ := z32 z_30; omega⟩, hj_25⟩ (by first | omega | (dsimp only; omega))
      ·
        refine s_bipush (v := (-2)) E dX9_rests_27 (by decide) ?_
        exact r_int E dX9_rests_29 ⟨⟨by decide, by decide, by first | (left; decide) | (right; have hb_ := z32 x1; omega), by first | (left; decide) | (right; have hb_ := z32 x2; omega), by first | (left; decide) | (right; have hb_ := z32 (w.2.2.1 5 3); omega)⟩, hJ⟩
set_option maxRecDepth 20000 in
set_option maxHeartbeats 2000000 in
theorem Z_X9_gains_0 (l : Launch) (D : va_G) (aC : Nat → ClassId) (b : Nat) (w : XW) (x1 : Int32) (x2 : Int32) (x3 : Int32) (x4 : Int32) (hI : Iv w)  : CnI l D aC b M_X9_gains 5 114 0 0 [AR 0, AI x1, AI x2, AI x3, AI x4] w (fun r u => ((-2147483648) ≤ r.toInt ∧ r.toInt ≤ 2147483647 ∧ (¬ r.toInt = 0 ∨ (0 ≤ x1.toInt ∧ x1.toInt ≤ 5)) ∧ (¬ r.toInt = 0 ∨ (0 ≤ x2.toInt ∧ x2.toInt ≤ 5)) ∧ (¬ r.toInt = 0 ∨ (0 ≤ x3.toInt ∧ x3.toInt ≤ 1)) ∧ (¬ r.toInt = 0 ∨ (0 ≤ x4.toInt ∧ x4.toInt ≤ 1)) ∧ (¬ r.toInt = 0 ∨ (1 ≤ (w.2.2.1 5 3).toInt ∧ (w.2.2.1 5 3).toInt ≤ 6))) ∧ Jv w u) := by
  refine cn_I (own := RX9) (nm := "gains") (L0 := [some (AR 0), some (AI x1), some (AI x2), some (AI x3), some (AI x4)]) (by decide +kernel) rfl rfl (Nat.le_of_ble_eq_true rfl) rfl ?_
  intro p e s m args below meth c E hin
  have hJ : Jv w w := jv_rfl hI
  refine s_aload_n E dX9_gains_0 rfl rfl ?_
  refine s_gR (r := 2) E fg_X9_20 rfl rfl (jv_lt hJ (by decide)) (jv_r hJ (by decide +kernel)) dX9_gains_1 ?_
  refine s_iload_n E dX9_gains_4 rfl rfl ?_
  refine s_vI (As := [AI x1]) (S := []) E (Z_X0_hasLady_2 l D aC b w x1 hJ.1 ) cv_X9_139 rfl rfl rfl (jv_lt hJ (by decide)) (Nat.le_of_ble_eq_true rfl) (Nat.le_of_ble_eq_true rfl) ⟨(Nat.le_of_ble_eq_true rfl), (Nat.le_of_ble_eq_true rfl)⟩ (Nat.le_of_ble_eq_true rfl) dX9_gains_5 (fun z_3 u_1 hp_2 => ?_)
  obtain ⟨hz_3, hp_2⟩ := hp_2
  subst hp_2
  refine z_if_eq (tgt := 42) (u := z_3.toInt) E dX9_gains_8 (by decide) rfl (fun h_5 => ?_) (fun h_5 => ?_)
  ·
    refine s_sipush (v := (-1000)) E dX9_gains_42 (by decide) ?_
    exact r_int E dX9_gains_45 ⟨⟨by decide, by decide, by first | (left; decide) | (right; have hb_ := z32 x1; omega), by first | (left; decide) | (right; have hb_ := z32 x2; omega), by first | (left; decide) | (right; have hb_ := z32 x3; omega), by first | (left; decide) | (right; have hb_ := z32 x4; omega), by first | (left; decide) | (right; have hb_ := z32 (w.2.2.1 5 3); omega)⟩, hJ⟩
  ·
    refine s_aload_n E dX9_gains_11 rfl rfl ?_
    refine s_gR (r := 2) E fg_X9_20 rfl rfl (jv_lt hJ (by decide)) (jv_r hJ (by decide +kernel)) dX9_gains_12 ?_
    refine s_iload_n E dX9_gains_15 rfl rfl ?_
    refine s_vI (As := [AI x2]) (S := []) E (Z_X0_hasLady_2 l D aC b w x2 hJ.1 ) cv_X9_139 rfl rfl rfl (jv_lt hJ (by decide)) (Nat.le_of_ble_eq_true rfl) (Nat.le_of_ble_eq_true rfl) ⟨(Nat.le_of_ble_eq_true rfl), (Nat.le_of_ble_eq_true rfl)⟩ (Nat.le_of_ble_eq_true rfl) dX9_gains_16 (fun z_8 u_6 hp_7 => ?_)
    obtain ⟨hz_8, hp_7⟩ := hp_7
    subst hp_7
    refine z_if_eq (tgt := 42) (u := z_8.toInt) E dX9_gains_19 (by decide) rfl (fun h_10 => ?_) (fun h_10 => ?_)
    ·
      refine s_sipush (v := (-1000)) E dX9_gains_42 (by decide) ?_
      exact r_int E dX9_gains_45 ⟨⟨by decide, by decide, by first | (left; decide) | (right; have hb_ := z32 x1; omega), by first | (left; decide) | (right; have hb_ := z32 x2; omega), by first | (left; decide) | (right; have hb_ := z32 x3; omega), by first | (left; decide) | (right; have hb_ := z32 x4; omega), by first | (left; decide) | (right; have hb_ := z32 (w.2.2.1 5 3); omega)⟩, hJ⟩
    ·
      refine s_iload_n E dX9_gains_22 rfl rfl ?_
      refine s_iload_n E dX9_gains_23 rfl rfl ?_
      refine z_icmp_eq (tgt := 42) (u := x1.toInt) (v := x2.toInt) E dX9_gains_24 (by decide) rfl rfl (fun h_11 => ?_) (fun h_11 => ?_)
      ·
        refine s_sipush (v := (-1000)) E dX9_gains_42 (by decide) ?_
        exact r_int E dX9_gains_45 ⟨⟨by decide, by decide, by first | (left; decide) | (right; have hb_ := z32 x1; omega), by first | (left; decide) | (right; have hb_ := z32 x2; omega), by first | (left; decide) | (right; have hb_ := z32 x3; omega), by first | (left; decide) | (right; have hb_ := z32 x4; omega), by first | (left; decide) | (right; have hb_ := z32 (w.2.2.1 5 3); omega)⟩, hJ⟩
      ·
        refine s_iload_n E dX9_gains_27 rfl rfl ?_
        refine s_sI (As := [AI x3]) (S := []) E (Z_X9_isPart l D aC b w x3 hJ.1 ) cs_X9_320 rfl rfl (Nat.le_of_ble_eq_true rfl) (Nat.le_of_ble_eq_true rfl) ⟨(Nat.le_of_ble_eq_true rfl), (Nat.le_of_ble_eq_true rfl)⟩ (Nat.le_of_ble_eq_true rfl) dX9_gains_28 (fun z_14 u_12 hp_13 => ?_)
        obtain ⟨hz_14, hp_13⟩ := hp_13
        subst hp_13
        refine z_if_eq (tgt := 42) (u := z_14.toInt) E dX9_gains_31 (by decide) rfl (fun h_16 => ?_) (fun h_16 => ?_)
        ·
          refine s_sipush (v := (-1000)) E dX9_gains_42 (by decide) ?_
          exact r_int E dX9_gains_45 ⟨⟨by decide, by decide, by first | (left; decide) | (right; have hb_ := z32 x1; omega), by first | (left; decide) | (right; have hb_ := z32 x2; omega), by first | (left; decide) | (right; have hb_ := z32 x3; omega), by first | (left; decide) | (right; have hb_ := z32 x4; omega), by first | (left; decide) | (right; have hb_ := z32 (w.2.2.1 5 3); omega)⟩, hJ⟩
        ·
          refine s_iload E dX9_gains_34 rfl ?_
          refine s_sI (As := [AI x4]) (S := []) E (Z_X9_isPart l D aC b w x4 hJ.1 ) cs_X9_320 rfl rfl (Nat.le_of_ble_eq_true rfl) (Nat.le_of_ble_eq_true rfl) ⟨(Nat.le_of_ble_eq_true rfl), (Nat.le_of_ble_eq_true rfl)⟩ (Nat.le_of_ble_eq_true rfl) dX9_gains_36 (fun z_19 u_17 hp_18 => ?_)
          obtain ⟨hz_19, hp_18⟩ := hp_18
          subst hp_18
          refine z_if_ne (tgt := 46) (u := z_19.toInt) E dX9_gains_39 (by decide) rfl (fun h_21 => ?_) (fun h_21 => ?_)
          ·
            refine s_aload_n E dX9_gains_46 rfl rfl ?_
            refine s_iload_n E dX9_gains_47 rfl rfl ?_
            refine s_iload_n E dX9_gains_48 rfl rfl ?_
            refine s_iload_n E dX9_gains_49 rfl rfl ?_
            refine s_iload E dX9_gains_50 rfl ?_
            refine s_vI (As := [AI x1, AI x2, AI x3, AI x4]) (S := []) E (Z_X9_gainOf_0 l D aC b w x1 x2 x3 x4 hJ.1 ⟨by have hb_ := z32 x1; omega, by have hb_ := z32 x1; omega⟩ ⟨by have hb_ := z32 x2; omega, by have hb_ := z32 x2; omega⟩) cv_X9_346 rfl rfl rfl (jv_lt hJ (by decide)) (Nat.le_of_ble_eq_true rfl) (Nat.le_of_ble_eq_true rfl) ⟨(Nat.le_of_ble_eq_true rfl), (Nat.le_of_ble_eq_true rfl)⟩ (Nat.le_of_ble_eq_true rfl) dX9_gains_52 (fun z_24 u_22 hp_23 => ?_)
            obtain ⟨hz_24, hp_23⟩ := hp_23
            have hj_25 := jv_trans hJ hp_23
            exact r_int E dX9_gains_55 ⟨⟨by have hb_ := z32 z_24; omega, by have hb_ := z32 z_24; omega, by have hb_ := z32 z_24; have hc_ := z32 x1; omega, by have hb_ := z32 z_24; have hc_ := z32 x2; omega, by have hb_ := z32 z_24; have hc_ := z32 x3; omega, by have hb_ := z32 z_24; have hc_ := z32 x4; omega, by have hb_ := z32 z_24; have hc_ := z32 (w.2.2.1 5 3); omega⟩, hj_25⟩
          ·
            refine s_sipush (v := (-1000)) E dX9_gains_42 (by decide) ?_
            exact r_int E dX9_gains_45 ⟨⟨by decide, by decide, by first | (left; decide) | (right; have hb_ := z32 x1; omega), by first | (left; decide) | (right; have hb_ := z32 x2; omega), by first | (left; decide) | (right; have hb_ := z32 x3; omega), by first | (left; decide) | (right; have hb_ := z32 x4; omega), by first | (left; decide) | (right; have hb_ := z32 (w.2.2.1 5 3); omega)⟩, hJ⟩
set_option maxRecDepth 20000 in
set_option maxHeartbeats 2000000 in
theorem Z_X9_isChanceDance_0 (l : Launch) (D : va_G) (aC : Nat → ClassId) (b : Nat) (w : XW) (x1 : Int32) (hI : Iv w)  : CnI l D aC b M_X9_isChanceDance 2 41 0 0 [AR 0, AI x1] w (fun r u => (0 ≤ r.toInt ∧ r.toInt ≤ 1 ∧ (r.toInt = 0 ∨ (0 ≤ x1.toInt ∧ x1.toInt ≤ 8)) ∧ (r.toInt = 0 ∨ (1 ≤ (w.2.2.1 2 0).toInt ∧ (w.2.2.1 2 0).toInt ≤ 2147483647))) ∧ w = u) := by
  refine cn_I (own := RX9) (nm := "isChanceDance") (L0 := [some (AR 0), some (AI x1)]) (by decide +kernel) rfl rfl (Nat.le_of_ble_eq_true rfl) rfl ?_
  intro p e s m args below meth c E hin
  have hJ : Jv w w := jv_rfl hI
  refine s_aload_n E dX9_isChanceDance_0 rfl rfl ?_
  refine s_gR (r := 2) E fg_X9_20 rfl rfl (jv_lt hJ (by decide)) (jv_r hJ (by decide +kernel)) dX9_isChanceDance_1 ?_
  refine s_iload_n E dX9_isChanceDance_4 rfl rfl ?_
  refine s_vI (As := [AI x1]) (S := []) E (Z_X0_hasDance_2 l D aC b w x1 hJ.1 ) cv_X9_153 rfl rfl rfl (jv_lt hJ (by decide)) (Nat.le_of_ble_eq_true rfl) (Nat.le_of_ble_eq_true rfl) ⟨(Nat.le_of_ble_eq_true rfl), (Nat.le_of_ble_eq_true rfl)⟩ (Nat.le_of_ble_eq_true rfl) dX9_isChanceDance_5 (fun z_3 u_1 hp_2 => ?_)
  obtain ⟨hz_3, hp_2⟩ := hp_2
  subst hp_2
  refine z_if_eq (tgt := 21) (u := z_3.toInt) E dX9_isChanceDance_8 (by decide) rfl (fun h_5 => ?_) (fun h_5 => ?_)
  ·
    refine s_iconst (v := 0) E dX9_isChanceDance_21 (by decide) ?_
    exact r_bool E dX9_isChanceDance_22 (Or.inl rfl) ⟨⟨by decide, by decide, by first | (left; decide) | (right; have hb_ := z32 x1; omega), by first | (left; decide) | (right; have hb_ := z32 (w.2.2.1 2 0); omega)⟩, rfl⟩
  ·
    refine s_iload_n E dX9_isChanceDance_11 rfl rfl ?_
    refine s_bipush (v := 8) E dX9_isChanceDance_12 (by decide) ?_
    refine z_icmp_gt (tgt := 21) (u := x1.toInt) (v := 8) E dX9_isChanceDance_14 (by decide) rfl (by decide) (fun h_6 => ?_) (fun h_6 => ?_)
    ·
      refine s_iconst (v := 0) E dX9_isChanceDance_21 (by decide) ?_
      exact r_bool E dX9_isChanceDance_22 (Or.inl rfl) ⟨⟨by decide, by decide, by first | (left; decide) | (right; have hb_ := z32 x1; omega), by first | (left; decide) | (right; have hb_ := z32 (w.2.2.1 2 0); omega)⟩, rfl⟩
    ·
      refine s_iconst (v := 1) E dX9_isChanceDance_17 (by decide) ?_
      refine s_goto (tgt := 22) E dX9_isChanceDance_18 (by decide) ?_
      exact r_bool E dX9_isChanceDance_22 (Or.inr rfl) ⟨⟨by decide, by decide, by first | (left; decide) | (right; have hb_ := z32 x1; omega), by first | (left; decide) | (right; have hb_ := z32 (w.2.2.1 2 0); omega)⟩, rfl⟩
set_option maxRecDepth 20000 in
set_option maxHeartbeats 2000000 in
theorem Z_J7_fill_d0a16_r92 (l : Launch) (D : va_G) (aC : Nat → ClassId) (b : Nat) (w : XW) (x1 : Int64) (hI : Iv w)  : CnV l D aC b M_J7_fill_d0a16 0 0 0 0 [AR 92, AL x1] w (fun u => Jv w u) := by
  refine cn_V (own := RJ7) (nm := "fill") (L0 := [some (AR 92), some (AL x1), none, none, none]) (by decide +kernel) rfl rfl (Nat.le_of_ble_eq_true rfl) rfl ?_
  intro p e s m args below meth c E hin
  have hJ : Jv w w := jv_rfl hI
  refine s_iconst (v := 0) E dJ7_fill_d0a16_0 (by decide) ?_
  refine s_istore_n (L2 := [some (AR 92), some (AL x1), none, some (AI 0), none]) E dJ7_fill_d0a16_1 rfl (by decide) rfl ?_
  refine s_aload_n E dJ7_fill_d0a16_2 rfl rfl ?_
  refine s_alen (v := 64) E rfl (by decide) (jv_lt hJ (by decide)) (by decide) dJ7_fill_d0a16_3 ?_
  refine s_istore (L2 := [some (AR 92), some (AL x1), none, some (AI 0), some (AI 64)]) E dJ7_fill_d0a16_4 (by decide) rfl ?_
  refine z_loop (St := Int32) (Pi := fun q6_3_0 v6 => (0 ≤ q6_3_0.toInt ∧ q6_3_0.toInt ≤ 64) ∧ Jv w v6) (Lf := fun q6_3_0 => [some (AR 92), some (AL x1), none, some (AI q6_3_0), some (AI 64)]) (fun q6_3_0 _ => (65 - q6_3_0.toInt).toNat) 0 ⟨⟨by decide, by decide⟩, hJ⟩ ?_
  rintro q6_3_0 v6 ⟨hq6_3, hj_1⟩ ih6
  refine s_loc (L2 := [some (AR 92), some (AL x1), none, some (AI q6_3_0), some (AI 64)]) rfl ?_
  refine s_iload_n E dJ7_fill_d0a16_6 rfl rfl ?_
  refine s_iload E dJ7_fill_d0a16_7 rfl ?_
  refine z_icmp_ge (tgt := 22) (u := q6_3_0.toInt) (v := 64) E dJ7_fill_d0a16_9 (by decide) rfl (by decide) (fun h_2 => ?_) (fun h_2 => ?_)
  ·
    exact r_void E dJ7_fill_d0a16_22 hj_1
  ·
    refine s_aload_n E dJ7_fill_d0a16_12 rfl rfl ?_
    refine s_iload_n E dJ7_fill_d0a16_13 rfl rfl ?_
    refine s_lload_n E dJ7_fill_d0a16_14 rfl rfl ?_
    refine s_last E rfl (jv_lt hj_1 (by decide)) (z_in (u := q6_3_0.toInt) rfl (by omega) (by omega)) dJ7_fill_d0a16_15 ?_
    refine s_gen (P := Jv w) (jv_L hj_1) (fun v_3 hj_4 => ?_)
    refine z_iinc (u := q6_3_0.toInt) (L2 := fun z_5 => [some (AR 92), some (AL x1), none, some (AI z_5), some (AI 64)]) E dJ7_fill_d0a16_16 rfl rfl (by decide) (fun _ => rfl) (by decide) (by omega) (by omega) (fun z_5 hz_5 => ?_)
    refine s_goto (tgt := 6) E dJ7_fill_d0a16_19 (by decide) ?_
    exact ih6 z_5 v_3 ⟨⟨by have hb_ := z32 z_5; omega, by have hb_ := z32 z_5; omega⟩, hj_4⟩ (by first | omega | (dsimp only; omega))
set_option maxRecDepth 20000 in
set_option maxHeartbeats 2000000 in
theorem Z_J7_fill_d0a16_r93 (l : Launch) (D : va_G) (aC : Nat → ClassId) (b : Nat) (w : XW) (x1 : Int64) (hI : Iv w)  : CnV l D aC b M_J7_fill_d0a16 0 0 0 0 [AR 93, AL x1] w (fun u => Jv w u) := by
  refine cn_V (own := RJ7) (nm := "fill") (L0 := [some (AR 93), some (AL x1), none, none, none]) (by decide +kernel) rfl rfl (Nat.le_of_ble_eq_true rfl) rfl ?_
  intro p e s m args below meth c E hin
  have hJ : Jv w w := jv_rfl hI
  refine s_iconst (v := 0) E dJ7_fill_d0a16_0 (by decide) ?_
  refine s_istore_n (L2 := [some (AR 93), some (AL x1), none, some (AI 0), none]) E dJ7_fill_d0a16_1 rfl (by decide) rfl ?_
  refine s_aload_n E dJ7_fill_d0a16_2 rfl rfl ?_
  refine s_alen (v := 64) E rfl (by decide) (jv_lt hJ (by decide)) (by decide) dJ7_fill_d0a16_3 ?_
  refine s_istore (L2 := [some (AR 93), some (AL x1), none, some (AI 0), some (AI 64)]) E dJ7_fill_d0a16_4 (by decide) rfl ?_
  refine z_loop (St := Int32) (Pi := fun q6_3_0 v6 => (0 ≤ q6_3_0.toInt ∧ q6_3_0.toInt ≤ 64) ∧ Jv w v6) (Lf := fun q6_3_0 => [some (AR 93), some (AL x1), none, some (AI q6_3_0), some (AI 64)]) (fun q6_3_0 _ => (65 - q6_3_0.toInt).toNat) 0 ⟨⟨by decide, by decide⟩, hJ⟩ ?_
  rintro q6_3_0 v6 ⟨hq6_3, hj_1⟩ ih6
  refine s_loc (L2 := [some (AR 93), some (AL x1), none, some (AI q6_3_0), some (AI 64)]) rfl ?_
  refine s_iload_n E dJ7_fill_d0a16_6 rfl rfl ?_
  refine s_iload E dJ7_fill_d0a16_7 rfl ?_
  refine z_icmp_ge (tgt := 22) (u := q6_3_0.toInt) (v := 64) E dJ7_fill_d0a16_9 (by decide) rfl (by decide) (fun h_2 => ?_) (fun h_2 => ?_)
  ·
    exact r_void E dJ7_fill_d0a16_22 hj_1
  ·
    refine s_aload_n E dJ7_fill_d0a16_12 rfl rfl ?_
    refine s_iload_n E dJ7_fill_d0a16_13 rfl rfl ?_
    refine s_lload_n E dJ7_fill_d0a16_14 rfl rfl ?_
    refine s_last E rfl (jv_lt hj_1 (by decide)) (z_in (u := q6_3_0.toInt) rfl (by omega) (by omega)) dJ7_fill_d0a16_15 ?_
    refine s_gen (P := Jv w) (jv_L hj_1) (fun v_3 hj_4 => ?_)
    refine z_iinc (u := q6_3_0.toInt) (L2 := fun z_5 => [some (AR 93), some (AL x1), none, some (AI z_5), some (AI 64)]) E dJ7_fill_d0a16_16 rfl rfl (by decide) (fun _ => rfl) (by decide) (by omega) (by omega) (fun z_5 hz_5 => ?_)
    refine s_goto (tgt := 6) E dJ7_fill_d0a16_19 (by decide) ?_
    exact ih6 z_5 v_3 ⟨⟨by have hb_ := z32 z_5; omega, by have hb_ := z32 z_5; omega⟩, hj_4⟩ (by first | omega | (dsimp only; omega))
set_option maxRecDepth 20000 in
set_option maxHeartbeats 2000000 in
theorem Z_X4_playOne_91_r69_r81 (l : Launch) (D : va_G) (aC : Nat → ClassId) (b : Nat) (w : XW) (x1 : Int32) (x2 : Int32) (hI : Iv w)  : CnV l D aC b M_X4_playOne 3 69 0 0 [AR 91, AR 69, AR 81, AI x1, AI x2] w (fun u => Jv w u) := by
  refine cn_V (own := RX4) (nm := "playOne") (L0 := [some (AR 91), some (AR 69), some (AR 81), some (AI x1), some (AI x2), none]) (by decide +kernel) rfl rfl (Nat.le_of_ble_eq_true rfl) rfl ?_
  intro p e s m args below meth c E hin
  have hJ : Jv w w := jv_rfl hI
  refine s_aload_n E dX4_playOne_0 rfl rfl ?_
  rcases jv_mz hJ with hz_1 | hz_1
  ·
    refine s_gR (r := 93) E fg_X4_15 rfl rfl (jv_lt hJ (by decide)) hz_1.2 dX4_playOne_1 ?_
    refine s_lconst (v := 0) E dX4_playOne_4 (by decide) ?_
    refine s_sV (As := [AR 93, AL 0]) (S := []) E (Z_J7_fill_d0a16_r93 l D aC b w 0 hJ.1 ) cs_X4_18 rfl rfl (Nat.le_of_ble_eq_true rfl) (Nat.le_of_ble_eq_true rfl) ⟨(Nat.le_of_ble_eq_true rfl), (Nat.le_of_ble_eq_true rfl)⟩ (Nat.le_of_ble_eq_true rfl) dX4_playOne_5 (fun u_2 hp_3 => ?_)
    have hj_4 := jv_trans hJ hp_3
    refine s_iconst (v := 0) E dX4_playOne_8 (by decide) ?_
    refine s_istore (L2 := [some (AR 91), some (AR 69), some (AR 81), some (AI x1), some (AI x2), some (AI 0)]) E dX4_playOne_9 (by decide) rfl ?_
    refine z_loop (St := Int32) (Pi := fun q11_5_4 v11 => (0 ≤ q11_5_4.toInt ∧ q11_5_4.toInt ≤ 64) ∧ Jv w v11) (Lf := fun q11_5_4 => [some (AR 91), some (AR 69), some (AR 81), some (AI x1), some (AI x2), some (AI q11_5_4)]) (fun q11_5_4 _ => (65 - q11_5_4.toInt).toNat) 0 ⟨⟨by decide, by decide⟩, hj_4⟩ ?_
    rintro q11_5_4 v11 ⟨hq11_5, hj_5⟩ ih11
    refine s_loc (L2 := [some (AR 91), some (AR 69), some (AR 81), some (AI x1), some (AI x2), some (AI q11_5_4)]) rfl ?_
    refine s_iload E dX4_playOne_11 rfl ?_
    refine s_bipush (v := 64) E dX4_playOne_13 (by decide) ?_
    refine z_icmp_ge (tgt := 90) (u := q11_5_4.toInt) (v := 64) E dX4_playOne_15 (by decide) rfl (by decide) (fun h_6 => ?_) (fun h_6 => ?_)
    ·
      refine s_aload_n E dX4_playOne_90 rfl rfl ?_
      rcases jv_mz hj_5 with hz_7 | hz_7
      ·
        refine s_gR (r := 92) E fg_X4_9 rfl rfl (jv_lt hj_5 (by decide)) hz_7.1 dX4_playOne_91 ?_
        refine s_astore (L2 := [some (AR 91), some (AR 69), some (AR 81), some (AI x1), some (AI x2), some (AR 92)]) E dX4_playOne_94 (by decide) rfl ?_
        refine s_aload_n E dX4_playOne_96 rfl rfl ?_
        refine s_aload_n E dX4_playOne_97 rfl rfl ?_
        refine s_gR (r := 93) E fg_X4_15 rfl rfl (jv_lt hj_5 (by decide)) hz_7.2 dX4_playOne_98 ?_
        refine s_pR E fp_X4_9 rfl rfl (jv_lt hj_5 (by decide)) dX4_playOne_101 ?_
        refine s_aload_n E dX4_playOne_104 rfl rfl ?_
        refine s_aload E dX4_playOne_105 rfl ?_
        refine s_pR E fp_X4_15 rfl rfl (jv_lt hj_5 (by decide)) dX4_playOne_107 ?_
        refine s_gen (P := fun v => Jv w v ∧ Mz1 v) (jv_swap0 hj_5 hz_7) (fun v_8 hj_9 => ?_)
        obtain ⟨hj_9, hz_10⟩ := hj_9
        exact r_void E dX4_playOne_110 hj_9
      ·
        refine s_gR (r := 93) E fg_X4_9 rfl rfl (jv_lt hj_5 (by decide)) hz_7.1 dX4_playOne_91 ?_
        refine s_astore (L2 := [some (AR 91), some (AR 69), some (AR 81), some (AI x1), some (AI x2), some (AR 93)]) E dX4_playOne_94 (by decide) rfl ?_
        refine s_aload_n E dX4_playOne_96 rfl rfl ?_
        refine s_aload_n E dX4_playOne_97 rfl rfl ?_
        refine s_gR (r := 92) E fg_X4_15 rfl rfl (jv_lt hj_5 (by decide)) hz_7.2 dX4_playOne_98 ?_
        refine s_pR E fp_X4_9 rfl rfl (jv_lt hj_5 (by decide)) dX4_playOne_101 ?_
        refine s_aload_n E dX4_playOne_104 rfl rfl ?_
        refine s_aload E dX4_playOne_105 rfl ?_
        refine s_pR E fp_X4_15 rfl rfl (jv_lt hj_5 (by decide)) dX4_playOne_107 ?_
        refine s_gen (P := fun v => Jv w v ∧ Mz0 v) (jv_swap1 hj_5 hz_7) (fun v_11 hj_12 => ?_)
        obtain ⟨hj_12, hz_13⟩ := hj_12
        exact r_void E dX4_playOne_110 hj_12
    ·
      refine s_aload_n E dX4_playOne_18 rfl rfl ?_
      rcases jv_mz hj_5 with hz_14 | hz_14
      ·
        refine s_gR (r := 92) E fg_X4_9 rfl rfl (jv_lt hj_5 (by decide)) hz_14.1 dX4_playOne_19 ?_
        refine s_iload E dX4_playOne_22 rfl ?_
        refine s_lald E rfl (jv_lt hj_5 (by decide)) (z_in (u := q11_5_4.toInt) rfl (by omega) (by omega)) dX4_playOne_24 ?_
        refine z_anyL (fun z_15 => ?_)
        refine s_lconst (v := 0) E dX4_playOne_25 (by decide) ?_
        refine z_lcmp (u := z_15.toInt) (v := 0) E dX4_playOne_26 rfl (by decide) (fun z_16 hz_16 => ?_)
        refine z_if_eq (tgt := 84) (u := z_16.toInt) E dX4_playOne_27 (by decide) rfl (fun h_17 => ?_) (fun h_17 => ?_)
        ·
          refine z_iinc (u := q11_5_4.toInt) (L2 := fun z_18 => [some (AR 91), some (AR 69), some (AR 81), some (AI x1), some (AI x2), some (AI z_18)]) E dX4_playOne_84 rfl rfl (by decide) (fun _ => rfl) (by decide) (by omega) (by omega) (fun z_18 hz_18 => ?_)
          refine s_goto (tgt := 11) E dX4_playOne_87 (by decide) ?_
          exact ih11 z_18 v11 ⟨⟨by have hb_ := z32 z_18; omega, by have hb_ := z32 z_18; omega⟩, hj_5⟩ (by first | omega | (dsimp only; omega))
        ·
          refine s_aload_n E dX4_playOne_30 rfl rfl ?_
          refine s_gR (r := 93) E fg_X4_15 rfl rfl (jv_lt hj_5 (by decide)) hz_14.2 dX4_playOne_31 ?_
          refine s_iload E dX4_playOne_34 rfl ?_
          refine s_dup2 E dX4_playOne_36 ?_
          refine s_lald E rfl (jv_lt hj_5 (by decide)) (z_in (u := q11_5_4.toInt) rfl (by omega) (by omega)) dX4_playOne_37 ?_
          refine z_anyL (fun z_19 => ?_)
          refine s_aload_n E dX4_playOne_38 rfl rfl ?_
          refine s_gR (r := 92) E fg_X4_9 rfl rfl (jv_lt hj_5 (by decide)) hz_14.1 dX4_playOne_39 ?_
          refine s_iload E dX4_playOne_42 rfl ?_
          refine s_lald E rfl (jv_lt hj_5 (by decide)) (z_in (u := q11_5_4.toInt) rfl (by omega) (by omega)) dX4_playOne_44 ?_
          refine z_anyL (fun z_20 => ?_)
          refine s_iload E dX4_playOne_45 rfl ?_
          refine z_i2l (u := x2.toInt) E dX4_playOne_47 rfl (fun z_21 hz_21 => ?_)
          refine s_lmul E dX4_playOne_48 ?_
          refine z_anyL (fun z_22 => ?_)
          refine s_ladd E dX4_playOne_49 ?_
          refine z_anyL (fun z_23 => ?_)
          refine s_last E rfl (jv_lt hj_5 (by decide)) (z_in (u := q11_5_4.toInt) rfl (by omega) (by omega)) dX4_playOne_50 ?_
          refine s_gen (P := fun v => Jv w v ∧ Mz0 v) ⟨(jv_L hj_5), hz_14⟩ (fun v_24 hj_25 => ?_)
          obtain ⟨hj_25, hz_26⟩ := hj_25
          refine s_aload_n E dX4_playOne_51 rfl rfl ?_
          refine s_gR (r := 93) E fg_X4_15 rfl rfl (jv_lt hj_25 (by decide)) hz_26.2 dX4_playOne_52 ?_
          refine s_aload_n E dX4_playOne_55 rfl rfl ?_
          refine s_aload_n E dX4_playOne_56 rfl rfl ?_
          refine s_iload_n E dX4_playOne_57 rfl rfl ?_
          refine s_iload E dX4_playOne_58 rfl ?_
          refine s_vI (As := [AR 69, AI x1, AI q11_5_4]) (S := [AR 93]) E (Z_X5_passed_81_r69 l D aC b v_24 x1 q11_5_4 hj_25.1 ) cv_X4_34 rfl rfl rfl (jv_lt hj_25 (by decide)) (Nat.le_of_ble_eq_true rfl) (Nat.le_of_ble_eq_true rfl) ⟨(Nat.le_of_ble_eq_true rfl), (Nat.le_of_ble_eq_true rfl)⟩ (Nat.le_of_ble_eq_true rfl) dX4_playOne_60 (fun z_29 u_27 hp_28 => ?_)
          obtain ⟨hz_29, hp_28⟩ := hp_28
          have hj_30 := jv_trans hj_25 hp_28
          refine s_bipush (v := 63) E dX4_playOne_63 (by decide) ?_
          refine z_mask (v := 63) E dX4_playOne_65 (by decide) (by decide) (fun z_31 hz_31 => ?_)
          refine s_dup2 E dX4_playOne_66 ?_
          refine s_lald E rfl (jv_lt hj_30 (by decide)) (z_in (u := z_31.toInt) rfl (by omega) (by omega)) dX4_playOne_67 ?_
          refine z_anyL (fun z_32 => ?_)
          refine s_aload_n E dX4_playOne_68 rfl rfl ?_
          rcases jv_mz hj_30 with hz_33 | hz_33
          ·
            refine s_gR (r := 92) E fg_X4_9 rfl rfl (jv_lt hj_30 (by decide)) hz_33.1 dX4_playOne_69 ?_
            refine s_iload E dX4_playOne_72 rfl ?_
            refine s_lald E rfl (jv_lt hj_30 (by decide)) (z_in (u := q11_5_4.toInt) rfl (by omega) (by omega)) dX4_playOne_74 ?_
            refine z_anyL (fun z_34 => ?_)
            refine s_bipush (v := 10) E dX4_playOne_75 (by decide) ?_
            refine s_iload E dX4_playOne_77 rfl ?_
            refine s_isub E dX4_playOne_79 ?_
            refine z_any (fun z_35 => ?_)
            refine z_i2l (u := z_35.toInt) E dX4_playOne_80 rfl (fun z_36 hz_36 => ?_)
            refine s_lmul E dX4_playOne_81 ?_
            refine z_anyL (fun z_37 => ?_)
            refine s_ladd E dX4_playOne_82 ?_
            refine z_anyL (fun z_38 => ?_)
            refine s_last E rfl (jv_lt hj_30 (by decide)) (z_in (u := z_31.toInt) rfl (by omega) (by omega)) dX4_playOne_83 ?_
            refine s_gen (P := fun v => Jv w v ∧ Mz0 v) ⟨(jv_L hj_30), hz_33⟩ (fun v_39 hj_40 => ?_)
            obtain ⟨hj_40, hz_41⟩ := hj_40
            refine z_iinc (u := q11_5_4.toInt) (L2 := fun z_42 => [some (AR 91), some (AR 69), some (AR 81), some (AI x1), some (AI x2), some (AI z_42)]) E dX4_playOne_84 rfl rfl (by decide) (fun _ => rfl) (by decide) (by omega) (by omega) (fun z_42 hz_42 => ?_)
            refine s_goto (tgt := 11) E dX4_playOne_87 (by decide) ?_
            exact ih11 z_42 v_39 ⟨⟨by have hb_ := z32 z_42; omega, by have hb_ := z32 z_42; omega⟩, hj_40⟩ (by first | omega | (dsimp only; omega))
          ·
            refine s_gR (r := 93) E fg_X4_9 rfl rfl (jv_lt hj_30 (by decide)) hz_33.1 dX4_playOne_69 ?_
            refine s_iload E dX4_playOne_72 rfl ?_
            refine s_lald E rfl (jv_lt hj_30 (by decide)) (z_in (u := q11_5_4.toInt) rfl (by omega) (by omega)) dX4_playOne_74 ?_
            refine z_anyL (fun z_43 => ?_)
            refine s_bipush (v := 10) E dX4_playOne_75 (by decide) ?_
            refine s_iload E dX4_playOne_77 rfl ?_
            refine s_isub E dX4_playOne_79 ?_
            refine z_any (fun z_44 => ?_)
            refine z_i2l (u := z_44.toInt) E dX4_playOne_80 rfl (fun z_45 hz_45 => ?_)
            refine s_lmul E dX4_playOne_81 ?_
            refine z_anyL (fun z_46 => ?_)
            refine s_ladd E dX4_playOne_82 ?_
            refine z_anyL (fun z_47 => ?_)
            refine s_last E rfl (jv_lt hj_30 (by decide)) (z_in (u := z_31.toInt) rfl (by omega) (by omega)) dX4_playOne_83 ?_
            refine s_gen (P := fun v => Jv w v ∧ Mz1 v) ⟨(jv_L hj_30), hz_33⟩ (fun v_48 hj_49 => ?_)
            obtain ⟨hj_49, hz_50⟩ := hj_49
            refine z_iinc (u := q11_5_4.toInt) (L2 := fun z_51 => [some (AR 91), some (AR 69), some (AR 81), some (AI x1), some (AI x2), some (AI z_51)]) E dX4_playOne_84 rfl rfl (by decide) (fun _ => rfl) (by decide) (by omega) (by omega) (fun z_51 hz_51 => ?_)
            refine s_goto (tgt := 11) E dX4_playOne_87 (by decide) ?_
            exact ih11 z_51 v_48 ⟨⟨by have hb_ := z32 z_51; omega, by have hb_ := z32 z_51; omega⟩, hj_49⟩ (by first | omega | (dsimp only; omega))
      ·
        refine s_gR (r := 93) E fg_X4_9 rfl rfl (jv_lt hj_5 (by decide)) hz_14.1 dX4_playOne_19 ?_
        refine s_iload E dX4_playOne_22 rfl ?_
        refine s_lald E rfl (jv_lt hj_5 (by decide)) (z_in (u := q11_5_4.toInt) rfl (by omega) (by omega)) dX4_playOne_24 ?_
        refine z_anyL (fun z_52 => ?_)
        refine s_lconst (v := 0) E dX4_playOne_25 (by decide) ?_
        refine z_lcmp (u := z_52.toInt) (v := 0) E dX4_playOne_26 rfl (by decide) (fun z_53 hz_53 => ?_)
        refine z_if_eq (tgt := 84) (u := z_53.toInt) E dX4_playOne_27 (by decide) rfl (fun h_54 => ?_) (fun h_54 => ?_)
        ·
          refine z_iinc (u := q11_5_4.toInt) (L2 := fun z_55 => [some (AR 91), some (AR 69), some (AR 81), some (AI x1), some (AI x2), some (AI z_55)]) E dX4_playOne_84 rfl rfl (by decide) (fun _ => rfl) (by decide) (by omega) (by omega) (fun z_55 hz_55 => ?_)
          refine s_goto (tgt := 11) E dX4_playOne_87 (by decide) ?_
          exact ih11 z_55 v11 ⟨⟨by have hb_ := z32 z_55; omega, by have hb_ := z32 z_55; omega⟩, hj_5⟩ (by first | omega | (dsimp only; omega))
        ·
          refine s_aload_n E dX4_playOne_30 rfl rfl ?_
          refine s_gR (r := 92) E fg_X4_15 rfl rfl (jv_lt hj_5 (by decide)) hz_14.2 dX4_playOne_31 ?_
          refine s_iload E dX4_playOne_34 rfl ?_
          refine s_dup2 E dX4_playOne_36 ?_
          refine s_lald E rfl (jv_lt hj_5 (by decide)) (z_in (u := q11_5_4.toInt) rfl (by omega) (by omega)) dX4_playOne_37 ?_
          refine z_anyL (fun z_56 => ?_)
          refine s_aload_n E dX4_playOne_38 rfl rfl ?_
          refine s_gR (r := 93) E fg_X4_9 rfl rfl (jv_lt hj_5 (by decide)) hz_14.1 dX4_playOne_39 ?_
          refine s_iload E dX4_playOne_42 rfl ?_
          refine s_lald E rfl (jv_lt hj_5 (by decide)) (z_in (u := q11_5_4.toInt) rfl (by omega) (by omega)) dX4_playOne_44 ?_
          refine z_anyL (fun z_57 => ?_)
          refine s_iload E dX4_playOne_45 rfl ?_
          refine z_i2l (u := x2.toInt) E dX4_playOne_47 rfl (fun z_58 hz_58 => ?_)
          refine s_lmul E dX4_playOne_48 ?_
          refine z_anyL (fun z_59 => ?_)
          refine s_ladd E dX4_playOne_49 ?_
          refine z_anyL (fun z_60 => ?_)
          refine s_last E rfl (jv_lt hj_5 (by decide)) (z_in (u := q11_5_4.toInt) rfl (by omega) (by omega)) dX4_playOne_50 ?_
          refine s_gen (P := fun v => Jv w v ∧ Mz1 v) ⟨(jv_L hj_5), hz_14⟩ (fun v_61 hj_62 => ?_)
          obtain ⟨hj_62, hz_63⟩ := hj_62
          refine s_aload_n E dX4_playOne_51 rfl rfl ?_
          refine s_gR (r := 92) E fg_X4_15 rfl rfl (jv_lt hj_62 (by decide)) hz_63.2 dX4_playOne_52 ?_
          refine s_aload_n E dX4_playOne_55 rfl rfl ?_
          refine s_aload_n E dX4_playOne_56 rfl rfl ?_
          refine s_iload_n E dX4_playOne_57 rfl rfl ?_
          refine s_iload E dX4_playOne_58 rfl ?_
          refine s_vI (As := [AR 69, AI x1, AI q11_5_4]) (S := [AR 92]) E (Z_X5_passed_81_r69 l D aC b v_61 x1 q11_5_4 hj_62.1 ) cv_X4_34 rfl rfl rfl (jv_lt hj_62 (by decide)) (Nat.le_of_ble_eq_true rfl) (Nat.le_of_ble_eq_true rfl) ⟨(Nat.le_of_ble_eq_true rfl), (Nat.le_of_ble_eq_true rfl)⟩ (Nat.le_of_ble_eq_true rfl) dX4_playOne_60 (fun z_66 u_64 hp_65 => ?_)
          obtain ⟨hz_66, hp_65⟩ := hp_65
          have hj_67 := jv_trans hj_62 hp_65
          refine s_bipush (v := 63) E dX4_playOne_63 (by decide) ?_
          refine z_mask (v := 63) E dX4_playOne_65 (by decide) (by decide) (fun z_68 hz_68 => ?_)
          refine s_dup2 E dX4_playOne_66 ?_
          refine s_lald E rfl (jv_lt hj_67 (by decide)) (z_in (u := z_68.toInt) rfl (by omega) (by omega)) dX4_playOne_67 ?_
          refine z_anyL (fun z_69 => ?_)
          refine s_aload_n E dX4_playOne_68 rfl rfl ?_
          rcases jv_mz hj_67 with hz_70 | hz_70
          ·
            refine s_gR (r := 92) E fg_X4_9 rfl rfl (jv_lt hj_67 (by decide)) hz_70.1 dX4_playOne_69 ?_
            refine s_iload E dX4_playOne_72 rfl ?_
            refine s_lald E rfl (jv_lt hj_67 (by decide)) (z_in (u := q11_5_4.toInt) rfl (by omega) (by omega)) dX4_playOne_74 ?_
            refine z_anyL (fun z_71 => ?_)
            refine s_bipush (v := 10) E dX4_playOne_75 (by decide) ?_
            refine s_iload E dX4_playOne_77 rfl ?_
            refine s_isub E dX4_playOne_79 ?_
            refine z_any (fun z_72 => ?_)
            refine z_i2l (u := z_72.toInt) E dX4_playOne_80 rfl (fun z_73 hz_73 => ?_)
            refine s_lmul E dX4_playOne_81 ?_
            refine z_anyL (fun z_74 => ?_)
            refine s_ladd E dX4_playOne_82 ?_
            refine z_anyL (fun z_75 => ?_)
            refine s_last E rfl (jv_lt hj_67 (by decide)) (z_in (u := z_68.toInt) rfl (by omega) (by omega)) dX4_playOne_83 ?_
            refine s_gen (P := fun v => Jv w v ∧ Mz0 v) ⟨(jv_L hj_67), hz_70⟩ (fun v_76 hj_77 => ?_)
            obtain ⟨hj_77, hz_78⟩ := hj_77
            refine z_iinc (u := q11_5_4.toInt) (L2 := fun z_79 => [some (AR 91), some (AR 69), some (AR 81), some (AI x1), some (AI x2), some (AI z_79)]) E dX4_playOne_84 rfl rfl (by decide) (fun _ => rfl) (by decide) (by omega) (by omega) (fun z_79 hz_79 => ?_)
            refine s_goto (tgt := 11) E dX4_playOne_87 (by decide) ?_
            exact ih11 z_79 v_76 ⟨⟨by have hb_ := z32 z_79; omega, by have hb_ := z32 z_79; omega⟩, hj_77⟩ (by first | omega | (dsimp only; omega))
          ·
            refine s_gR (r := 93) E fg_X4_9 rfl rfl (jv_lt hj_67 (by decide)) hz_70.1 dX4_playOne_69 ?_
            refine s_iload E dX4_playOne_72 rfl ?_
            refine s_lald E rfl (jv_lt hj_67 (by decide)) (z_in (u := q11_5_4.toInt) rfl (by omega) (by omega)) dX4_playOne_74 ?_
            refine z_anyL (fun z_80 => ?_)
            refine s_bipush (v := 10) E dX4_playOne_75 (by decide) ?_
            refine s_iload E dX4_playOne_77 rfl ?_
            refine s_isub E dX4_playOne_79 ?_
            refine z_any (fun z_81 => ?_)
            refine z_i2l (u := z_81.toInt) E dX4_playOne_80 rfl (fun z_82 hz_82 => ?_)
            refine s_lmul E dX4_playOne_81 ?_
            refine z_anyL (fun z_83 => ?_)
            refine s_ladd E dX4_playOne_82 ?_
            refine z_anyL (fun z_84 => ?_)
            refine s_last E rfl (jv_lt hj_67 (by decide)) (z_in (u := z_68.toInt) rfl (by omega) (by omega)) dX4_playOne_83 ?_
            refine s_gen (P := fun v => Jv w v ∧ Mz1 v) ⟨(jv_L hj_67), hz_70⟩ (fun v_85 hj_86 => ?_)
            obtain ⟨hj_86, hz_87⟩ := hj_86
            refine z_iinc (u := q11_5_4.toInt) (L2 := fun z_88 => [some (AR 91), some (AR 69), some (AR 81), some (AI x1), some (AI x2), some (AI z_88)]) E dX4_playOne_84 rfl rfl (by decide) (fun _ => rfl) (by decide) (by omega) (by omega) (fun z_88 hz_88 => ?_)
            refine s_goto (tgt := 11) E dX4_playOne_87 (by decide) ?_
            exact ih11 z_88 v_85 ⟨⟨by have hb_ := z32 z_88; omega, by have hb_ := z32 z_88; omega⟩, hj_86⟩ (by first | omega | (dsimp only; omega))
  ·
    refine s_gR (r := 92) E fg_X4_15 rfl rfl (jv_lt hJ (by decide)) hz_1.2 dX4_playOne_1 ?_
    refine s_lconst (v := 0) E dX4_playOne_4 (by decide) ?_
    refine s_sV (As := [AR 92, AL 0]) (S := []) E (Z_J7_fill_d0a16_r92 l D aC b w 0 hJ.1 ) cs_X4_18 rfl rfl (Nat.le_of_ble_eq_true rfl) (Nat.le_of_ble_eq_true rfl) ⟨(Nat.le_of_ble_eq_true rfl), (Nat.le_of_ble_eq_true rfl)⟩ (Nat.le_of_ble_eq_true rfl) dX4_playOne_5 (fun u_89 hp_90 => ?_)
    have hj_91 := jv_trans hJ hp_90
    refine s_iconst (v := 0) E dX4_playOne_8 (by decide) ?_
    refine s_istore (L2 := [some (AR 91), some (AR 69), some (AR 81), some (AI x1), some (AI x2), some (AI 0)]) E dX4_playOne_9 (by decide) rfl ?_
    refine z_loop (St := Int32) (Pi := fun q11_5_91 v11 => (0 ≤ q11_5_91.toInt ∧ q11_5_91.toInt ≤ 64) ∧ Jv w v11) (Lf := fun q11_5_91 => [some (AR 91), some (AR 69), some (AR 81), some (AI x1), some (AI x2), some (AI q11_5_91)]) (fun q11_5_91 _ => (65 - q11_5_91.toInt).toNat) 0 ⟨⟨by decide, by decide⟩, hj_91⟩ ?_
    rintro q11_5_91 v11 ⟨hq11_5, hj_92⟩ ih11
    refine s_loc (L2 := [some (AR 91), some (AR 69), some (AR 81), some (AI x1), some (AI x2), some (AI q11_5_91)]) rfl ?_
    refine s_iload E dX4_playOne_11 rfl ?_
    refine s_bipush (v := 64) E dX4_playOne_13 (by decide) ?_
    refine z_icmp_ge (tgt := 90) (u := q11_5_91.toInt) (v := 64) E dX4_playOne_15 (by decide) rfl (by decide) (fun h_93 => ?_) (fun h_93 => ?_)
    ·
      refine s_aload_n E dX4_playOne_90 rfl rfl ?_
      rcases jv_mz hj_92 with hz_94 | hz_94
      ·
        refine s_gR (r := 92) E fg_X4_9 rfl rfl (jv_lt hj_92 (by decide)) hz_94.1 dX4_playOne_91 ?_
        refine s_astore (L2 := [some (AR 91), some (AR 69), some (AR 81), some (AI x1), some (AI x2), some (AR 92)]) E dX4_playOne_94 (by decide) rfl ?_
        refine s_aload_n E dX4_playOne_96 rfl rfl ?_
        refine s_aload_n E dX4_playOne_97 rfl rfl ?_
        refine s_gR (r := 93) E fg_X4_15 rfl rfl (jv_lt hj_92 (by decide)) hz_94.2 dX4_playOne_98 ?_
        refine s_pR E fp_X4_9 rfl rfl (jv_lt hj_92 (by decide)) dX4_playOne_101 ?_
        refine s_aload_n E dX4_playOne_104 rfl rfl ?_
        refine s_aload E dX4_playOne_105 rfl ?_
        refine s_pR E fp_X4_15 rfl rfl (jv_lt hj_92 (by decide)) dX4_playOne_107 ?_
        refine s_gen (P := fun v => Jv w v ∧ Mz1 v) (jv_swap0 hj_92 hz_94) (fun v_95 hj_96 => ?_)
        obtain ⟨hj_96, hz_97⟩ := hj_96
        exact r_void E dX4_playOne_110 hj_96
      ·
        refine s_gR (r := 93) E fg_X4_9 rfl rfl (jv_lt hj_92 (by decide)) hz_94.1 dX4_playOne_91 ?_
        refine s_astore (L2 := [some (AR 91), some (AR 69), some (AR 81), some (AI x1), some (AI x2), some (AR 93)]) E dX4_playOne_94 (by decide) rfl ?_
        refine s_aload_n E dX4_playOne_96 rfl rfl ?_
        refine s_aload_n E dX4_playOne_97 rfl rfl ?_
        refine s_gR (r := 92) E fg_X4_15 rfl rfl (jv_lt hj_92 (by decide)) hz_94.2 dX4_playOne_98 ?_
        refine s_pR E fp_X4_9 rfl rfl (jv_lt hj_92 (by decide)) dX4_playOne_101 ?_
        refine s_aload_n E dX4_playOne_104 rfl rfl ?_
        refine s_aload E dX4_playOne_105 rfl ?_
        refine s_pR E fp_X4_15 rfl rfl (jv_lt hj_92 (by decide)) dX4_playOne_107 ?_
        refine s_gen (P := fun v => Jv w v ∧ Mz0 v) (jv_swap1 hj_92 hz_94) (fun v_98 hj_99 => ?_)
        obtain ⟨hj_99, hz_100⟩ := hj_99
        exact r_void E dX4_playOne_110 hj_99
    ·
      refine s_aload_n E dX4_playOne_18 rfl rfl ?_
      rcases jv_mz hj_92 with hz_101 | hz_101
      ·
        refine s_gR (r := 92) E fg_X4_9 rfl rfl (jv_lt hj_92 (by decide)) hz_101.1 dX4_playOne_19 ?_
        refine s_iload E dX4_playOne_22 rfl ?_
        refine s_lald E rfl (jv_lt hj_92 (by decide)) (z_in (u := q11_5_91.toInt) rfl (by omega) (by omega)) dX4_playOne_24 ?_
        refine z_anyL (fun z_102 => ?_)
        refine s_lconst (v := 0) E dX4_playOne_25 (by decide) ?_
        refine z_lcmp (u := z_102.toInt) (v := 0) E dX4_playOne_26 rfl (by decide) (fun z_103 hz_103 => ?_)
        refine z_if_eq (tgt := 84) (u := z_103.toInt) E dX4_playOne_27 (by decide) rfl (fun h_104 => ?_) (fun h_104 => ?_)
        ·
          refine z_iinc (u := q11_5_91.toInt) (L2 := fun z_105 => [some (AR 91), some (AR 69), some (AR 81), some (AI x1), some (AI x2), some (AI z_105)]) E dX4_playOne_84 rfl rfl (by decide) (fun _ => rfl) (by decide) (by omega) (by omega) (fun z_105 hz_105 => ?_)
          refine s_goto (tgt := 11) E dX4_playOne_87 (by decide) ?_
          exact ih11 z_105 v11 ⟨⟨by have hb_ := z32 z_105; omega, by have hb_ := z32 z_105; omega⟩, hj_92⟩ (by first | omega | (dsimp only; omega))
        ·
          refine s_aload_n E dX4_playOne_30 rfl rfl ?_
          refine s_gR (r := 93) E fg_X4_15 rfl rfl (jv_lt hj_92 (by decide)) hz_101.2 dX4_playOne_31 ?_
          refine s_iload E dX4_playOne_34 rfl ?_
          refine s_dup2 E dX4_playOne_36 ?_
          refine s_lald E rfl (jv_lt hj_92 (by decide)) (z_in (u := q11_5_91.toInt) rfl (by omega) (by omega)) dX4_playOne_37 ?_
          refine z_anyL (fun z_106 => ?_)
          refine s_aload_n E dX4_playOne_38 rfl rfl ?_
          refine s_gR (r := 92) E fg_X4_9 rfl rfl (jv_lt hj_92 (by decide)) hz_101.1 dX4_playOne_39 ?_
          refine s_iload E dX4_playOne_42 rfl ?_
          refine s_lald E rfl (jv_lt hj_92 (by decide)) (z_in (u := q11_5_91.toInt) rfl (by omega) (by omega)) dX4_playOne_44 ?_
          refine z_anyL (fun z_107 => ?_)
          refine s_iload E dX4_playOne_45 rfl ?_
          refine z_i2l (u := x2.toInt) E dX4_playOne_47 rfl (fun z_108 hz_108 => ?_)
          refine s_lmul E dX4_playOne_48 ?_
          refine z_anyL (fun z_109 => ?_)
          refine s_ladd E dX4_playOne_49 ?_
          refine z_anyL (fun z_110 => ?_)
          refine s_last E rfl (jv_lt hj_92 (by decide)) (z_in (u := q11_5_91.toInt) rfl (by omega) (by omega)) dX4_playOne_50 ?_
          refine s_gen (P := fun v => Jv w v ∧ Mz0 v) ⟨(jv_L hj_92), hz_101⟩ (fun v_111 hj_112 => ?_)
          obtain ⟨hj_112, hz_113⟩ := hj_112
          refine s_aload_n E dX4_playOne_51 rfl rfl ?_
          refine s_gR (r := 93) E fg_X4_15 rfl rfl (jv_lt hj_112 (by decide)) hz_113.2 dX4_playOne_52 ?_
          refine s_aload_n E dX4_playOne_55 rfl rfl ?_
          refine s_aload_n E dX4_playOne_56 rfl rfl ?_
          refine s_iload_n E dX4_playOne_57 rfl rfl ?_
          refine s_iload E dX4_playOne_58 rfl ?_
          refine s_vI (As := [AR 69, AI x1, AI q11_5_91]) (S := [AR 93]) E (Z_X5_passed_81_r69 l D aC b v_111 x1 q11_5_91 hj_112.1 ) cv_X4_34 rfl rfl rfl (jv_lt hj_112 (by decide)) (Nat.le_of_ble_eq_true rfl) (Nat.le_of_ble_eq_true rfl) ⟨(Nat.le_of_ble_eq_true rfl), (Nat.le_of_ble_eq_true rfl)⟩ (Nat.le_of_ble_eq_true rfl) dX4_playOne_60 (fun z_116 u_114 hp_115 => ?_)
          obtain ⟨hz_116, hp_115⟩ := hp_115
          have hj_117 := jv_trans hj_112 hp_115
          refine s_bipush (v := 63) E dX4_playOne_63 (by decide) ?_
          refine z_mask (v := 63) E dX4_playOne_65 (by decide) (by decide) (fun z_118 hz_118 => ?_)
          refine s_dup2 E dX4_playOne_66 ?_
          refine s_lald E rfl (jv_lt hj_117 (by decide)) (z_in (u := z_118.toInt) rfl (by omega) (by omega)) dX4_playOne_67 ?_
          refine z_anyL (fun z_119 => ?_)
          refine s_aload_n E dX4_playOne_68 rfl rfl ?_
          rcases jv_mz hj_117 with hz_120 | hz_120
          ·
            refine s_gR (r := 92) E fg_X4_9 rfl rfl (jv_lt hj_117 (by decide)) hz_120.1 dX4_playOne_69 ?_
            refine s_iload E dX4_playOne_72 rfl ?_
            refine s_lald E rfl (jv_lt hj_117 (by decide)) (z_in (u := q11_5_91.toInt) rfl (by omega) (by omega)) dX4_playOne_74 ?_
            refine z_anyL (fun z_121 => ?_)
            refine s_bipush (v := 10) E dX4_playOne_75 (by decide) ?_
            refine s_iload E dX4_playOne_77 rfl ?_
            refine s_isub E dX4_playOne_79 ?_
            refine z_any (fun z_122 => ?_)
            refine z_i2l (u := z_122.toInt) E dX4_playOne_80 rfl (fun z_123 hz_123 => ?_)
            refine s_lmul E dX4_playOne_81 ?_
            refine z_anyL (fun z_124 => ?_)
            refine s_ladd E dX4_playOne_82 ?_
            refine z_anyL (fun z_125 => ?_)
            refine s_last E rfl (jv_lt hj_117 (by decide)) (z_in (u := z_118.toInt) rfl (by omega) (by omega)) dX4_playOne_83 ?_
            refine s_gen (P := fun v => Jv w v ∧ Mz0 v) ⟨(jv_L hj_117), hz_120⟩ (fun v_126 hj_127 => ?_)
            obtain ⟨hj_127, hz_128⟩ := hj_127
            refine z_iinc (u := q11_5_91.toInt) (L2 := fun z_129 => [some (AR 91), some (AR 69), some (AR 81), some (AI x1), some (AI x2), some (AI z_129)]) E dX4_playOne_84 rfl rfl (by decide) (fun _ => rfl) (by decide) (by omega) (by omega) (fun z_129 hz_129 => ?_)
            refine s_goto (tgt := 11) E dX4_playOne_87 (by decide) ?_
            exact ih11 z_129 v_126 ⟨⟨by have hb_ := z32 z_129; omega, by have hb_ := z32 z_129; omega⟩, hj_127⟩ (by first | omega | (dsimp only; omega))
          ·
            refine s_gR (r := 93) E fg_X4_9 rfl rfl (jv_lt hj_117 (by decide)) hz_120.1 dX4_playOne_69 ?_
            refine s_iload E dX4_playOne_72 rfl ?_
            refine s_lald E rfl (jv_lt hj_117 (by decide)) (z_in (u := q11_5_91.toInt) rfl (by omega) (by omega)) dX4_playOne_74 ?_
            refine z_anyL (fun z_130 => ?_)
            refine s_bipush (v := 10) E dX4_playOne_75 (by decide) ?_
            refine s_iload E dX4_playOne_77 rfl ?_
            refine s_isub E dX4_playOne_79 ?_
            refine z_any (fun z_131 => ?_)
            refine z_i2l (u := z_131.toInt) E dX4_playOne_80 rfl (fun z_132 hz_132 => ?_)
            refine s_lmul E dX4_playOne_81 ?_
            refine z_anyL (fun z_133 => ?_)
            refine s_ladd E dX4_playOne_82 ?_
            refine z_anyL (fun z_134 => ?_)
            refine s_last E rfl (jv_lt hj_117 (by decide)) (z_in (u := z_118.toInt) rfl (by omega) (by omega)) dX4_playOne_83 ?_
            refine s_gen (P := fun v => Jv w v ∧ Mz1 v) ⟨(jv_L hj_117), hz_120⟩ (fun v_135 hj_136 => ?_)
            obtain ⟨hj_136, hz_137⟩ := hj_136
            refine z_iinc (u := q11_5_91.toInt) (L2 := fun z_138 => [some (AR 91), some (AR 69), some (AR 81), some (AI x1), some (AI x2), some (AI z_138)]) E dX4_playOne_84 rfl rfl (by decide) (fun _ => rfl) (by decide) (by omega) (by omega) (fun z_138 hz_138 => ?_)
            refine s_goto (tgt := 11) E dX4_playOne_87 (by decide) ?_
            exact ih11 z_138 v_135 ⟨⟨by have hb_ := z32 z_138; omega, by have hb_ := z32 z_138; omega⟩, hj_136⟩ (by first | omega | (dsimp only; omega))
      ·
        refine s_gR (r := 93) E fg_X4_9 rfl rfl (jv_lt hj_92 (by decide)) hz_101.1 dX4_playOne_19 ?_
        refine s_iload E dX4_playOne_22 rfl ?_
        refine s_lald E rfl (jv_lt hj_92 (by decide)) (z_in (u := q11_5_91.toInt) rfl (by omega) (by omega)) dX4_playOne_24 ?_
        refine z_anyL (fun z_139 => ?_)
        refine s_lconst (v := 0) E dX4_playOne_25 (by decide) ?_
        refine z_lcmp (u := z_139.toInt) (v := 0) E dX4_playOne_26 rfl (by decide) (fun z_140 hz_140 => ?_)
        refine z_if_eq (tgt := 84) (u := z_140.toInt) E dX4_playOne_27 (by decide) rfl (fun h_141 => ?_) (fun h_141 => ?_)
        ·
          refine z_iinc (u := q11_5_91.toInt) (L2 := fun z_142 => [some (AR 91), some (AR 69), some (AR 81), some (AI x1), some (AI x2), some (AI z_142)]) E dX4_playOne_84 rfl rfl (by decide) (fun _ => rfl) (by decide) (by omega) (by omega) (fun z_142 hz_142 => ?_)
          refine s_goto (tgt := 11) E dX4_playOne_87 (by decide) ?_
          exact ih11 z_142 v11 ⟨⟨by have hb_ := z32 z_142; omega, by have hb_ := z32 z_142; omega⟩, hj_92⟩ (by first | omega | (dsimp only; omega))
        ·
          refine s_aload_n E dX4_playOne_30 rfl rfl ?_
          refine s_gR (r := 92) E fg_X4_15 rfl rfl (jv_lt hj_92 (by decide)) hz_101.2 dX4_playOne_31 ?_
          refine s_iload E dX4_playOne_34 rfl ?_
          refine s_dup2 E dX4_playOne_36 ?_
          refine s_lald E rfl (jv_lt hj_92 (by decide)) (z_in (u := q11_5_91.toInt) rfl (by omega) (by omega)) dX4_playOne_37 ?_
          refine z_anyL (fun z_143 => ?_)
          refine s_aload_n E dX4_playOne_38 rfl rfl ?_
          refine s_gR (r := 93) E fg_X4_9 rfl rfl (jv_lt hj_92 (by decide)) hz_101.1 dX4_playOne_39 ?_
          refine s_iload E dX4_playOne_42 rfl ?_
          refine s_lald E rfl (jv_lt hj_92 (by decide)) (z_in (u := q11_5_91.toInt) rfl (by omega) (by omega)) dX4_playOne_44 ?_
          refine z_anyL (fun z_144 => ?_)
          refine s_iload E dX4_playOne_45 rfl ?_
          refine z_i2l (u := x2.toInt) E dX4_playOne_47 rfl (fun z_145 hz_145 => ?_)
          refine s_lmul E dX4_playOne_48 ?_
          refine z_anyL (fun z_146 => ?_)
          refine s_ladd E dX4_playOne_49 ?_
          refine z_anyL (fun z_147 => ?_)
          refine s_last E rfl (jv_lt hj_92 (by decide)) (z_in (u := q11_5_91.toInt) rfl (by omega) (by omega)) dX4_playOne_50 ?_
          refine s_gen (P := fun v => Jv w v ∧ Mz1 v) ⟨(jv_L hj_92), hz_101⟩ (fun v_148 hj_149 => ?_)
          obtain ⟨hj_149, hz_150⟩ := hj_149
          refine s_aload_n E dX4_playOne_51 rfl rfl ?_
          refine s_gR (r := 92) E fg_X4_15 rfl rfl (jv_lt hj_149 (by decide)) hz_150.2 dX4_playOne_52 ?_
          refine s_aload_n E dX4_playOne_55 rfl rfl ?_
          refine s_aload_n E dX4_playOne_56 rfl rfl ?_
          refine s_iload_n E dX4_playOne_57 rfl rfl ?_
          refine s_iload E dX4_playOne_58 rfl ?_
          refine s_vI (As := [AR 69, AI x1, AI q11_5_91]) (S := [AR 92]) E (Z_X5_passed_81_r69 l D aC b v_148 x1 q11_5_91 hj_149.1 ) cv_X4_34 rfl rfl rfl (jv_lt hj_149 (by decide)) (Nat.le_of_ble_eq_true rfl) (Nat.le_of_ble_eq_true rfl) ⟨(Nat.le_of_ble_eq_true rfl), (Nat.le_of_ble_eq_true rfl)⟩ (Nat.le_of_ble_eq_true rfl) dX4_playOne_60 (fun z_153 u_151 hp_152 => ?_)
          obtain ⟨hz_153, hp_152⟩ := hp_152
          have hj_154 := jv_trans hj_149 hp_152
          refine s_bipush (v := 63) E dX4_playOne_63 (by decide) ?_
          refine z_mask (v := 63) E dX4_playOne_65 (by decide) (by decide) (fun z_155 hz_155 => ?_)
          refine s_dup2 E dX4_playOne_66 ?_
          refine s_lald E rfl (jv_lt hj_154 (by decide)) (z_in (u := z_155.toInt) rfl (by omega) (by omega)) dX4_playOne_67 ?_
          refine z_anyL (fun z_156 => ?_)
          refine s_aload_n E dX4_playOne_68 rfl rfl ?_
          rcases jv_mz hj_154 with hz_157 | hz_157
          ·
            refine s_gR (r := 92) E fg_X4_9 rfl rfl (jv_lt hj_154 (by decide)) hz_157.1 dX4_playOne_69 ?_
            refine s_iload E dX4_playOne_72 rfl ?_
            refine s_lald E rfl (jv_lt hj_154 (by decide)) (z_in (u := q11_5_91.toInt) rfl (by omega) (by omega)) dX4_playOne_74 ?_
            refine z_anyL (fun z_158 => ?_)
            refine s_bipush (v := 10) E dX4_playOne_75 (by decide) ?_
            refine s_iload E dX4_playOne_77 rfl ?_
            refine s_isub E dX4_playOne_79 ?_
            refine z_any (fun z_159 => ?_)
            refine z_i2l (u := z_159.toInt) E dX4_playOne_80 rfl (fun z_160 hz_160 => ?_)
            refine s_lmul E dX4_playOne_81 ?_
            refine z_anyL (fun z_161 => ?_)
            refine s_ladd E dX4_playOne_82 ?_
            refine z_anyL (fun z_162 => ?_)
            refine s_last E rfl (jv_lt hj_154 (by decide)) (z_in (u := z_155.toInt) rfl (by omega) (by omega)) dX4_playOne_83 ?_
            refine s_gen (P := fun v => Jv w v ∧ Mz0 v) ⟨(jv_L hj_154), hz_157⟩ (fun v_163 hj_164 => ?_)
            obtain ⟨hj_164, hz_165⟩ := hj_164
            refine z_iinc (u := q11_5_91.toInt) (L2 := fun z_166 => [some (AR 91), some (AR 69), some (AR 81), some (AI x1), some (AI x2), some (AI z_166)]) E dX4_playOne_84 rfl rfl (by decide) (fun _ => rfl) (by decide) (by omega) (by omega) (fun z_166 hz_166 => ?_)
            refine s_goto (tgt := 11) E dX4_playOne_87 (by decide) ?_
            exact ih11 z_166 v_163 ⟨⟨by have hb_ := z32 z_166; omega, by have hb_ := z32 z_166; omega⟩, hj_164⟩ (by first | omega | (dsimp only; omega))
          ·
            refine s_gR (r := 93) E fg_X4_9 rfl rfl (jv_lt hj_154 (by decide)) hz_157.1 dX4_playOne_69 ?_
            refine s_iload E dX4_playOne_72 rfl ?_
            refine s_lald E rfl (jv_lt hj_154 (by decide)) (z_in (u := q11_5_91.toInt) rfl (by omega) (by omega)) dX4_playOne_74 ?_
            refine z_anyL (fun z_167 => ?_)
            refine s_bipush (v := 10) E dX4_playOne_75 (by decide) ?_
            refine s_iload E dX4_playOne_77 rfl ?_
            refine s_isub E dX4_playOne_79 ?_
            refine z_any (fun z_168 => ?_)
            refine z_i2l (u := z_168.toInt) E dX4_playOne_80 rfl (fun z_169 hz_169 => ?_)
            refine s_lmul E dX4_playOne_81 ?_
            refine z_anyL (fun z_170 => ?_)
            refine s_ladd E dX4_playOne_82 ?_
            refine z_anyL (fun z_171 => ?_)
            refine s_last E rfl (jv_lt hj_154 (by decide)) (z_in (u := z_155.toInt) rfl (by omega) (by omega)) dX4_playOne_83 ?_
            refine s_gen (P := fun v => Jv w v ∧ Mz1 v) ⟨(jv_L hj_154), hz_157⟩ (fun v_172 hj_173 => ?_)
            obtain ⟨hj_173, hz_174⟩ := hj_173
            refine z_iinc (u := q11_5_91.toInt) (L2 := fun z_175 => [some (AR 91), some (AR 69), some (AR 81), some (AI x1), some (AI x2), some (AI z_175)]) E dX4_playOne_84 rfl rfl (by decide) (fun _ => rfl) (by decide) (by omega) (by omega) (fun z_175 hz_175 => ?_)
            refine s_goto (tgt := 11) E dX4_playOne_87 (by decide) ?_
            exact ih11 z_175 v_172 ⟨⟨by have hb_ := z32 z_175; omega, by have hb_ := z32 z_175; omega⟩, hj_173⟩ (by first | omega | (dsimp only; omega))
set_option maxRecDepth 20000 in
set_option maxHeartbeats 2000000 in
theorem Z_X4_play_91_r69_r81 (l : Launch) (D : va_G) (aC : Nat → ClassId) (b : Nat) (w : XW) (x1 : Int32) (x2 : Int32) (x3 : Int32) (hI : Iv w)  : CnV l D aC b M_X4_play 4 94 0 0 [AR 91, AR 69, AR 81, AI x1, AI x2, AI x3] w (fun u => Jv w u) := by
  refine cn_V (own := RX4) (nm := "play") (L0 := [some (AR 91), some (AR 69), some (AR 81), some (AI x1), some (AI x2), some (AI x3), none]) (by decide +kernel) rfl rfl (Nat.le_of_ble_eq_true rfl) rfl ?_
  intro p e s m args below meth c E hin
  have hJ : Jv w w := jv_rfl hI
  refine s_aload_n E dX4_play_0 rfl rfl ?_
  rcases jv_mz hJ with hz_1 | hz_1
  ·
    refine s_gR (r := 92) E fg_X4_9 rfl rfl (jv_lt hJ (by decide)) hz_1.1 dX4_play_1 ?_
    refine s_lconst (v := 0) E dX4_play_4 (by decide) ?_
    refine s_sV (As := [AR 92, AL 0]) (S := []) E (Z_J7_fill_d0a16_r92 l D aC b w 0 hJ.1 ) cs_X4_18 rfl rfl (Nat.le_of_ble_eq_true rfl) (Nat.le_of_ble_eq_true rfl) ⟨(Nat.le_of_ble_eq_true rfl), (Nat.le_of_ble_eq_true rfl)⟩ (Nat.le_of_ble_eq_true rfl) dX4_play_5 (fun u_2 hp_3 => ?_)
    have hj_4 := jv_trans hJ hp_3
    refine s_aload_n E dX4_play_8 rfl rfl ?_
    rcases jv_mz hj_4 with hz_5 | hz_5
    ·
      refine s_gR (r := 92) E fg_X4_9 rfl rfl (jv_lt hj_4 (by decide)) hz_5.1 dX4_play_9 ?_
      refine s_iconst (v := 1) E dX4_play_12 (by decide) ?_
      refine s_iload_n E dX4_play_13 rfl rfl ?_
      refine s_ishl E dX4_play_14 ?_
      refine z_any (fun z_6 => ?_)
      refine s_bipush (v := 63) E dX4_play_15 (by decide) ?_
      refine z_mask (v := 63) E dX4_play_17 (by decide) (by decide) (fun z_7 hz_7 => ?_)
      refine s_lconst (v := 1) E dX4_play_18 (by decide) ?_
      refine s_last E rfl (jv_lt hj_4 (by decide)) (z_in (u := z_7.toInt) rfl (by omega) (by omega)) dX4_play_19 ?_
      refine s_gen (P := fun v => Jv w v ∧ Mz0 v) ⟨(jv_L hj_4), hz_5⟩ (fun v_8 hj_9 => ?_)
      obtain ⟨hj_9, hz_10⟩ := hj_9
      refine s_aload_n E dX4_play_20 rfl rfl ?_
      refine s_lconst (v := 1) E dX4_play_21 (by decide) ?_
      refine s_pL E fp_X4_24 rfl rfl (jv_lt hj_9 (by decide)) dX4_play_22 ?_
      refine s_gen (P := fun v => Jv w v ∧ Mz0 v) ⟨(jv_L hj_9), hz_10⟩ (fun v_11 hj_12 => ?_)
      obtain ⟨hj_12, hz_13⟩ := hj_12
      refine s_iconst (v := 0) E dX4_play_25 (by decide) ?_
      refine s_istore (L2 := [some (AR 91), some (AR 69), some (AR 81), some (AI x1), some (AI x2), some (AI x3), some (AI 0)]) E dX4_play_26 (by decide) rfl ?_
      refine z_loop (St := Int32) (Pi := fun q28_6_13 v28 => (0 ≤ q28_6_13.toInt ∧ q28_6_13.toInt ≤ 9) ∧ Jv w v28) (Lf := fun q28_6_13 => [some (AR 91), some (AR 69), some (AR 81), some (AI x1), some (AI x2), some (AI x3), some (AI q28_6_13)]) (fun q28_6_13 _ => (10 - q28_6_13.toInt).toNat) 0 ⟨⟨by decide, by decide⟩, hj_12⟩ ?_
      rintro q28_6_13 v28 ⟨hq28_6, hj_14⟩ ih28
      refine s_loc (L2 := [some (AR 91), some (AR 69), some (AR 81), some (AI x1), some (AI x2), some (AI x3), some (AI q28_6_13)]) rfl ?_
      refine s_iload E dX4_play_28 rfl ?_
      refine s_iload E dX4_play_30 rfl ?_
      refine z_icmp_gt (tgt := 70) (u := q28_6_13.toInt) (v := x2.toInt) E dX4_play_32 (by decide) rfl rfl (fun h_15 => ?_) (fun h_15 => ?_)
      ·
        exact r_void E dX4_play_70 hj_14
      ·
        refine s_iload E dX4_play_35 rfl ?_
        refine s_bipush (v := 8) E dX4_play_37 (by decide) ?_
        refine z_icmp_gt (tgt := 70) (u := q28_6_13.toInt) (v := 8) E dX4_play_39 (by decide) rfl (by decide) (fun h_16 => ?_) (fun h_16 => ?_)
        ·
          exact r_void E dX4_play_70 hj_14
        ·
          refine s_aload_n E dX4_play_42 rfl rfl ?_
          refine s_aload_n E dX4_play_43 rfl rfl ?_
          refine s_aload_n E dX4_play_44 rfl rfl ?_
          refine s_iload E dX4_play_45 rfl ?_
          refine s_iload E dX4_play_47 rfl ?_
          refine s_vV (As := [AR 69, AR 81, AI q28_6_13, AI x3]) (S := []) E (Z_X4_playOne_91_r69_r81 l D aC b v28 q28_6_13 x3 hj_14.1 ) cv_X4_28 rfl rfl rfl (jv_lt hj_14 (by decide)) (Nat.le_of_ble_eq_true rfl) (Nat.le_of_ble_eq_true rfl) ⟨(Nat.le_of_ble_eq_true rfl), (Nat.le_of_ble_eq_true rfl)⟩ (Nat.le_of_ble_eq_true rfl) dX4_play_49 (fun u_17 hp_18 => ?_)
          have hj_19 := jv_trans hj_14 hp_18
          refine s_aload_n E dX4_play_52 rfl rfl ?_
          refine s_dupR E dX4_play_53 ?_
          refine s_gL E fg_X4_24 rfl rfl (jv_lt hj_19 (by decide)) dX4_play_54 ?_
          refine z_anyL (fun z_20 => ?_)
          refine s_ldc2 E k_1108 rfl dX4_play_57 ?_
          refine s_lmul E dX4_play_60 ?_
          refine z_anyL (fun z_21 => ?_)
          refine s_pL E fp_X4_24 rfl rfl (jv_lt hj_19 (by decide)) dX4_play_61 ?_
          refine s_gen (P := Jv w) (jv_L hj_19) (fun v_22 hj_23 => ?_)
          refine z_iinc (u := q28_6_13.toInt) (L2 := fun z_24 => [some (AR 91), some (AR 69), some (AR 81), some (AI x1), some (AI x2), some (AI x3), some (AI z_24)]) E dX4_play_64 rfl rfl (by decide) (fun _ => rfl) (by decide) (by omega) (by omega) (fun z_24 hz_24 => ?_)
          refine s_goto (tgt := 28) E dX4_play_67 (by decide) ?_
          exact ih28 z_24 v_22 ⟨⟨by have hb_ := z32 z_24; omega, by have hb_ := z32 z_24; omega⟩, hj_23⟩ (by first | omega | (dsimp only; omega))
    ·
      refine s_gR (r := 93) E fg_X4_9 rfl rfl (jv_lt hj_4 (by decide)) hz_5.1 dX4_play_9 ?_
      refine s_iconst (v := 1) E dX4_play_12 (by decide) ?_
      refine s_iload_n E dX4_play_13 rfl rfl ?_
      refine s_ishl E dX4_play_14 ?_
      refine z_any (fun z_25 => ?_)
      refine s_bipush (v := 63) E dX4_play_15 (by decide) ?_
      refine z_mask (v := 63) E dX4_play_17 (by decide) (by decide) (fun z_26 hz_26 => ?_)
      refine s_lconst (v := 1) E dX4_play_18 (by decide) ?_
      refine s_last E rfl (jv_lt hj_4 (by decide)) (z_in (u := z_26.toInt) rfl (by omega) (by omega)) dX4_play_19 ?_
      refine s_gen (P := fun v => Jv w v ∧ Mz1 v) ⟨(jv_L hj_4), hz_5⟩ (fun v_27 hj_28 => ?_)
      obtain ⟨hj_28, hz_29⟩ := hj_28
      refine s_aload_n E dX4_play_20 rfl rfl ?_
      refine s_lconst (v := 1) E dX4_play_21 (by decide) ?_
      refine s_pL E fp_X4_24 rfl rfl (jv_lt hj_28 (by decide)) dX4_play_22 ?_
      refine s_gen (P := fun v => Jv w v ∧ Mz1 v) ⟨(jv_L hj_28), hz_29⟩ (fun v_30 hj_31 => ?_)
      obtain ⟨hj_31, hz_32⟩ := hj_31
      refine s_iconst (v := 0) E dX4_play_25 (by decide) ?_
      refine s_istore (L2 := [some (AR 91), some (AR 69), some (AR 81), some (AI x1), some (AI x2), some (AI x3), some (AI 0)]) E dX4_play_26 (by decide) rfl ?_
      refine z_loop (St := Int32) (Pi := fun q28_6_32 v28 => (0 ≤ q28_6_32.toInt ∧ q28_6_32.toInt ≤ 9) ∧ Jv w v28) (Lf := fun q28_6_32 => [some (AR 91), some (AR 69), some (AR 81), some (AI x1), some (AI x2), some (AI x3), some (AI q28_6_32)]) (fun q28_6_32 _ => (10 - q28_6_32.toInt).toNat) 0 ⟨⟨by decide, by decide⟩, hj_31⟩ ?_
      rintro q28_6_32 v28 ⟨hq28_6, hj_33⟩ ih28
      refine s_loc (L2 := [some (AR 91), some (AR 69), some (AR 81), some (AI x1), some (AI x2), some (AI x3), some (AI q28_6_32)]) rfl ?_
      refine s_iload E dX4_play_28 rfl ?_
      refine s_iload E dX4_play_30 rfl ?_
      refine z_icmp_gt (tgt := 70) (u := q28_6_32.toInt) (v := x2.toInt) E dX4_play_32 (by decide) rfl rfl (fun h_34 => ?_) (fun h_34 => ?_)
      ·
        exact r_void E dX4_play_70 hj_33
      ·
        refine s_iload E dX4_play_35 rfl ?_
        refine s_bipush (v := 8) E dX4_play_37 (by decide) ?_
        refine z_icmp_gt (tgt := 70) (u := q28_6_32.toInt) (v := 8) E dX4_play_39 (by decide) rfl (by decide) (fun h_35 => ?_) (fun h_35 => ?_)
        ·
          exact r_void E dX4_play_70 hj_33
        ·
          refine s_aload_n E dX4_play_42 rfl rfl ?_
          refine s_aload_n E dX4_play_43 rfl rfl ?_
          refine s_aload_n E dX4_play_44 rfl rfl ?_
          refine s_iload E dX4_play_45 rfl ?_
          refine s_iload E dX4_play_47 rfl ?_
          refine s_vV (As := [AR 69, AR 81, AI q28_6_32, AI x3]) (S := []) E (Z_X4_playOne_91_r69_r81 l D aC b v28 q28_6_32 x3 hj_33.1 ) cv_X4_28 rfl rfl rfl (jv_lt hj_33 (by decide)) (Nat.le_of_ble_eq_true rfl) (Nat.le_of_ble_eq_true rfl) ⟨(Nat.le_of_ble_eq_true rfl), (Nat.le_of_ble_eq_true rfl)⟩ (Nat.le_of_ble_eq_true rfl) dX4_play_49 (fun u_36 hp_37 => ?_)
          have hj_38 := jv_trans hj_33 hp_37
          refine s_aload_n E dX4_play_52 rfl rfl ?_
          refine s_dupR E dX4_play_53 ?_
          refine s_gL E fg_X4_24 rfl rfl (jv_lt hj_38 (by decide)) dX4_play_54 ?_
          refine z_anyL (fun z_39 => ?_)
          refine s_ldc2 E k_1108 rfl dX4_play_57 ?_
          refine s_lmul E dX4_play_60 ?_
          refine z_anyL (fun z_40 => ?_)
          refine s_pL E fp_X4_24 rfl rfl (jv_lt hj_38 (by decide)) dX4_play_61 ?_
          refine s_gen (P := Jv w) (jv_L hj_38) (fun v_41 hj_42 => ?_)
          refine z_iinc (u := q28_6_32.toInt) (L2 := fun z_43 => [some (AR 91), some (AR 69), some (AR 81), some (AI x1), some (AI x2), some (AI x3), some (AI z_43)]) E dX4_play_64 rfl rfl (by decide) (fun _ => rfl) (by decide) (by omega) (by omega) (fun z_43 hz_43 => ?_)
          refine s_goto (tgt := 28) E dX4_play_67 (by decide) ?_
          exact ih28 z_43 v_41 ⟨⟨by have hb_ := z32 z_43; omega, by have hb_ := z32 z_43; omega⟩, hj_42⟩ (by first | omega | (dsimp only; omega))
  ·
    refine s_gR (r := 93) E fg_X4_9 rfl rfl (jv_lt hJ (by decide)) hz_1.1 dX4_play_1 ?_
    refine s_lconst (v := 0) E dX4_play_4 (by decide) ?_
    refine s_sV (As := [AR 93, AL 0]) (S := []) E (Z_J7_fill_d0a16_r93 l D aC b w 0 hJ.1 ) cs_X4_18 rfl rfl (Nat.le_of_ble_eq_true rfl) (Nat.le_of_ble_eq_true rfl) ⟨(Nat.le_of_ble_eq_true rfl), (Nat.le_of_ble_eq_true rfl)⟩ (Nat.le_of_ble_eq_true rfl) dX4_play_5 (fun u_44 hp_45 => ?_)
    have hj_46 := jv_trans hJ hp_45
    refine s_aload_n E dX4_play_8 rfl rfl ?_
    rcases jv_mz hj_46 with hz_47 | hz_47
    ·
      refine s_gR (r := 92) E fg_X4_9 rfl rfl (jv_lt hj_46 (by decide)) hz_47.1 dX4_play_9 ?_
      refine s_iconst (v := 1) E dX4_play_12 (by decide) ?_
      refine s_iload_n E dX4_play_13 rfl rfl ?_
      refine s_ishl E dX4_play_14 ?_
      refine z_any (fun z_48 => ?_)
      refine s_bipush (v := 63) E dX4_play_15 (by decide) ?_
      refine z_mask (v := 63) E dX4_play_17 (by decide) (by decide) (fun z_49 hz_49 => ?_)
      refine s_lconst (v := 1) E dX4_play_18 (by decide) ?_
      refine s_last E rfl (jv_lt hj_46 (by decide)) (z_in (u := z_49.toInt) rfl (by omega) (by omega)) dX4_play_19 ?_
      refine s_gen (P := fun v => Jv w v ∧ Mz0 v) ⟨(jv_L hj_46), hz_47⟩ (fun v_50 hj_51 => ?_)
      obtain ⟨hj_51, hz_52⟩ := hj_51
      refine s_aload_n E dX4_play_20 rfl rfl ?_
      refine s_lconst (v := 1) E dX4_play_21 (by decide) ?_
      refine s_pL E fp_X4_24 rfl rfl (jv_lt hj_51 (by decide)) dX4_play_22 ?_
      refine s_gen (P := fun v => Jv w v ∧ Mz0 v) ⟨(jv_L hj_51), hz_52⟩ (fun v_53 hj_54 => ?_)
      obtain ⟨hj_54, hz_55⟩ := hj_54
      refine s_iconst (v := 0) E dX4_play_25 (by decide) ?_
      refine s_istore (L2 := [some (AR 91), some (AR 69), some (AR 81), some (AI x1), some (AI x2), some (AI x3), some (AI 0)]) E dX4_play_26 (by decide) rfl ?_
      refine z_loop (St := Int32) (Pi := fun q28_6_55 v28 => (0 ≤ q28_6_55.toInt ∧ q28_6_55.toInt ≤ 9) ∧ Jv w v28) (Lf := fun q28_6_55 => [some (AR 91), some (AR 69), some (AR 81), some (AI x1), some (AI x2), some (AI x3), some (AI q28_6_55)]) (fun q28_6_55 _ => (10 - q28_6_55.toInt).toNat) 0 ⟨⟨by decide, by decide⟩, hj_54⟩ ?_
      rintro q28_6_55 v28 ⟨hq28_6, hj_56⟩ ih28
      refine s_loc (L2 := [some (AR 91), some (AR 69), some (AR 81), some (AI x1), some (AI x2), some (AI x3), some (AI q28_6_55)]) rfl ?_
      refine s_iload E dX4_play_28 rfl ?_
      refine s_iload E dX4_play_30 rfl ?_
      refine z_icmp_gt (tgt := 70) (u := q28_6_55.toInt) (v := x2.toInt) E dX4_play_32 (by decide) rfl rfl (fun h_57 => ?_) (fun h_57 => ?_)
      ·
        exact r_void E dX4_play_70 hj_56
      ·
        refine s_iload E dX4_play_35 rfl ?_
        refine s_bipush (v := 8) E dX4_play_37 (by decide) ?_
        refine z_icmp_gt (tgt := 70) (u := q28_6_55.toInt) (v := 8) E dX4_play_39 (by decide) rfl (by decide) (fun h_58 => ?_) (fun h_58 => ?_)
        ·
          exact r_void E dX4_play_70 hj_56
        ·
          refine s_aload_n E dX4_play_42 rfl rfl ?_
          refine s_aload_n E dX4_play_43 rfl rfl ?_
          refine s_aload_n E dX4_play_44 rfl rfl ?_
          refine s_iload E dX4_play_45 rfl ?_
          refine s_iload E dX4_play_47 rfl ?_
          refine s_vV (As := [AR 69, AR 81, AI q28_6_55, AI x3]) (S := []) E (Z_X4_playOne_91_r69_r81 l D aC b v28 q28_6_55 x3 hj_56.1 ) cv_X4_28 rfl rfl rfl (jv_lt hj_56 (by decide)) (Nat.le_of_ble_eq_true rfl) (Nat.le_of_ble_eq_true rfl) ⟨(Nat.le_of_ble_eq_true rfl), (Nat.le_of_ble_eq_true rfl)⟩ (Nat.le_of_ble_eq_true rfl) dX4_play_49 (fun u_59 hp_60 => ?_)
          have hj_61 := jv_trans hj_56 hp_60
          refine s_aload_n E dX4_play_52 rfl rfl ?_
          refine s_dupR E dX4_play_53 ?_
          refine s_gL E fg_X4_24 rfl rfl (jv_lt hj_61 (by decide)) dX4_play_54 ?_
          refine z_anyL (fun z_62 => ?_)
          refine s_ldc2 E k_1108 rfl dX4_play_57 ?_
          refine s_lmul E dX4_play_60 ?_
          refine z_anyL (fun z_63 => ?_)
          refine s_pL E fp_X4_24 rfl rfl (jv_lt hj_61 (by decide)) dX4_play_61 ?_
          refine s_gen (P := Jv w) (jv_L hj_61) (fun v_64 hj_65 => ?_)
          refine z_iinc (u := q28_6_55.toInt) (L2 := fun z_66 => [some (AR 91), some (AR 69), some (AR 81), some (AI x1), some (AI x2), some (AI x3), some (AI z_66)]) E dX4_play_64 rfl rfl (by decide) (fun _ => rfl) (by decide) (by omega) (by omega) (fun z_66 hz_66 => ?_)
          refine s_goto (tgt := 28) E dX4_play_67 (by decide) ?_
          exact ih28 z_66 v_64 ⟨⟨by have hb_ := z32 z_66; omega, by have hb_ := z32 z_66; omega⟩, hj_65⟩ (by first | omega | (dsimp only; omega))
    ·
      refine s_gR (r := 93) E fg_X4_9 rfl rfl (jv_lt hj_46 (by decide)) hz_47.1 dX4_play_9 ?_
      refine s_iconst (v := 1) E dX4_play_12 (by decide) ?_
      refine s_iload_n E dX4_play_13 rfl rfl ?_
      refine s_ishl E dX4_play_14 ?_
      refine z_any (fun z_67 => ?_)
      refine s_bipush (v := 63) E dX4_play_15 (by decide) ?_
      refine z_mask (v := 63) E dX4_play_17 (by decide) (by decide) (fun z_68 hz_68 => ?_)
      refine s_lconst (v := 1) E dX4_play_18 (by decide) ?_
      refine s_last E rfl (jv_lt hj_46 (by decide)) (z_in (u := z_68.toInt) rfl (by omega) (by omega)) dX4_play_19 ?_
      refine s_gen (P := fun v => Jv w v ∧ Mz1 v) ⟨(jv_L hj_46), hz_47⟩ (fun v_69 hj_70 => ?_)
      obtain ⟨hj_70, hz_71⟩ := hj_70
      refine s_aload_n E dX4_play_20 rfl rfl ?_
      refine s_lconst (v := 1) E dX4_play_21 (by decide) ?_
      refine s_pL E fp_X4_24 rfl rfl (jv_lt hj_70 (by decide)) dX4_play_22 ?_
      refine s_gen (P := fun v => Jv w v ∧ Mz1 v) ⟨(jv_L hj_70), hz_71⟩ (fun v_72 hj_73 => ?_)
      obtain ⟨hj_73, hz_74⟩ := hj_73
      refine s_iconst (v := 0) E dX4_play_25 (by decide) ?_
      refine s_istore (L2 := [some (AR 91), some (AR 69), some (AR 81), some (AI x1), some (AI x2), some (AI x3), some (AI 0)]) E dX4_play_26 (by decide) rfl ?_
      refine z_loop (St := Int32) (Pi := fun q28_6_74 v28 => (0 ≤ q28_6_74.toInt ∧ q28_6_74.toInt ≤ 9) ∧ Jv w v28) (Lf := fun q28_6_74 => [some (AR 91), some (AR 69), some (AR 81), some (AI x1), some (AI x2), some (AI x3), some (AI q28_6_74)]) (fun q28_6_74 _ => (10 - q28_6_74.toInt).toNat) 0 ⟨⟨by decide, by decide⟩, hj_73⟩ ?_
      rintro q28_6_74 v28 ⟨hq28_6, hj_75⟩ ih28
      refine s_loc (L2 := [some (AR 91), some (AR 69), some (AR 81), some (AI x1), some (AI x2), some (AI x3), some (AI q28_6_74)]) rfl ?_
      refine s_iload E dX4_play_28 rfl ?_
      refine s_iload E dX4_play_30 rfl ?_
      refine z_icmp_gt (tgt := 70) (u := q28_6_74.toInt) (v := x2.toInt) E dX4_play_32 (by decide) rfl rfl (fun h_76 => ?_) (fun h_76 => ?_)
      ·
        exact r_void E dX4_play_70 hj_75
      ·
        refine s_iload E dX4_play_35 rfl ?_
        refine s_bipush (v := 8) E dX4_play_37 (by decide) ?_
        refine z_icmp_gt (tgt := 70) (u := q28_6_74.toInt) (v := 8) E dX4_play_39 (by decide) rfl (by decide) (fun h_77 => ?_) (fun h_77 => ?_)
        ·
          exact r_void E dX4_play_70 hj_75
        ·
          refine s_aload_n E dX4_play_42 rfl rfl ?_
          refine s_aload_n E dX4_play_43 rfl rfl ?_
          refine s_aload_n E dX4_play_44 rfl rfl ?_
          refine s_iload E dX4_play_45 rfl ?_
          refine s_iload E dX4_play_47 rfl ?_
          refine s_vV (As := [AR 69, AR 81, AI q28_6_74, AI x3]) (S := []) E (Z_X4_playOne_91_r69_r81 l D aC b v28 q28_6_74 x3 hj_75.1 ) cv_X4_28 rfl rfl rfl (jv_lt hj_75 (by decide)) (Nat.le_of_ble_eq_true rfl) (Nat.le_of_ble_eq_true rfl) ⟨(Nat.le_of_ble_eq_true rfl), (Nat.le_of_ble_eq_true rfl)⟩ (Nat.le_of_ble_eq_true rfl) dX4_play_49 (fun u_78 hp_79 => ?_)
          have hj_80 := jv_trans hj_75 hp_79
          refine s_aload_n E dX4_play_52 rfl rfl ?_
          refine s_dupR E dX4_play_53 ?_
          refine s_gL E fg_X4_24 rfl rfl (jv_lt hj_80 (by decide)) dX4_play_54 ?_
          refine z_anyL (fun z_81 => ?_)
          refine s_ldc2 E k_1108 rfl dX4_play_57 ?_
          refine s_lmul E dX4_play_60 ?_
          refine z_anyL (fun z_82 => ?_)
          refine s_pL E fp_X4_24 rfl rfl (jv_lt hj_80 (by decide)) dX4_play_61 ?_
          refine s_gen (P := Jv w) (jv_L hj_80) (fun v_83 hj_84 => ?_)
          refine z_iinc (u := q28_6_74.toInt) (L2 := fun z_85 => [some (AR 91), some (AR 69), some (AR 81), some (AI x1), some (AI x2), some (AI x3), some (AI z_85)]) E dX4_play_64 rfl rfl (by decide) (fun _ => rfl) (by decide) (by omega) (by omega) (fun z_85 hz_85 => ?_)
          refine s_goto (tgt := 28) E dX4_play_67 (by decide) ?_
          exact ih28 z_85 v_83 ⟨⟨by have hb_ := z32 z_85; omega, by have hb_ := z32 z_85; omega⟩, hj_84⟩ (by first | omega | (dsimp only; omega))
set_option maxRecDepth 20000 in
set_option maxHeartbeats 2000000 in
theorem Z_X4_weightWith_91 (l : Launch) (D : va_G) (aC : Nat → ClassId) (b : Nat) (w : XW) (x1 : Int32) (hI : Iv w)  : CnL l D aC b M_X4_weightWith 1 21 0 0 [AR 91, AI x1] w (fun r u => ((-9223372036854775808) ≤ r.toInt ∧ r.toInt ≤ 9223372036854775807) ∧ Jv w u) := by
  refine cn_L (own := RX4) (nm := "weightWith") (L0 := [some (AR 91), some (AI x1), none, none, none]) (by decide +kernel) rfl rfl (Nat.le_of_ble_eq_true rfl) rfl ?_
  intro p e s m args below meth c E hin
  have hJ : Jv w w := jv_rfl hI
  refine s_lconst (v := 0) E dX4_weightWith_0 (by decide) ?_
  refine s_lstore_n (L2 := [some (AR 91), some (AI x1), some (AL 0), none, none]) E dX4_weightWith_1 rfl (by decide) rfl ?_
  refine s_iconst (v := 0) E dX4_weightWith_2 (by decide) ?_
  refine s_istore (L2 := [some (AR 91), some (AI x1), some (AL 0), none, some (AI 0)]) E dX4_weightWith_3 (by decide) rfl ?_
  refine z_loop (St := Int64 × Int32) (Pi := fun ⟨q5_2_0, q5_4_0⟩ v5 => (0 ≤ q5_4_0.toInt ∧ q5_4_0.toInt ≤ 64) ∧ Jv w v5) (Lf := fun ⟨q5_2_0, q5_4_0⟩ => [some (AR 91), some (AI x1), some (AL q5_2_0), none, some (AI q5_4_0)]) (fun ⟨q5_2_0, q5_4_0⟩ _ => (65 - q5_4_0.toInt).toNat) ⟨0, 0⟩ ⟨⟨by decide, by decide⟩, hJ⟩ ?_
  rintro ⟨q5_2_0, q5_4_0⟩ v5 ⟨hq5_4, hj_1⟩ ih5
  refine s_loc (L2 := [some (AR 91), some (AI x1), some (AL q5_2_0), none, some (AI q5_4_0)]) rfl ?_
  refine s_iload E dX4_weightWith_5 rfl ?_
  refine s_bipush (v := 64) E dX4_weightWith_7 (by decide) ?_
  refine z_icmp_ge (tgt := 37) (u := q5_4_0.toInt) (v := 64) E dX4_weightWith_9 (by decide) rfl (by decide) (fun h_2 => ?_) (fun h_2 => ?_)
  ·
    refine s_lload_n E dX4_weightWith_37 rfl rfl ?_
    exact r_long E dX4_weightWith_38 ⟨⟨by have hb_ := z64 q5_2_0; omega, by have hb_ := z64 q5_2_0; omega⟩, hj_1⟩
  ·
    refine s_iload E dX4_weightWith_12 rfl ?_
    refine s_iload_n E dX4_weightWith_14 rfl rfl ?_
    refine s_sI (As := [AI q5_4_0, AI x1]) (S := []) E (Z_X9_hasBit l D aC b v5 q5_4_0 x1 hj_1.1 ) cs_X4_40 rfl rfl (Nat.le_of_ble_eq_true rfl) (Nat.le_of_ble_eq_true rfl) ⟨(Nat.le_of_ble_eq_true rfl), (Nat.le_of_ble_eq_true rfl)⟩ (Nat.le_of_ble_eq_true rfl) dX4_weightWith_15 (fun z_5 u_3 hp_4 => ?_)
    obtain ⟨hz_5, hp_4⟩ := hp_4
    subst hp_4
    refine z_if_eq (tgt := 31) (u := z_5.toInt) E dX4_weightWith_18 (by decide) rfl (fun h_7 => ?_) (fun h_7 => ?_)
    ·
      refine z_iinc (u := q5_4_0.toInt) (L2 := fun z_8 => [some (AR 91), some (AI x1), some (AL q5_2_0), none, some (AI z_8)]) E dX4_weightWith_31 rfl rfl (by decide) (fun _ => rfl) (by decide) (by omega) (by omega) (fun z_8 hz_8 => ?_)
      refine s_goto (tgt := 5) E dX4_weightWith_34 (by decide) ?_
      exact ih5 ⟨q5_2_0, z_8⟩ v5 ⟨⟨by have hb_ := z32 z_8; omega, by have hb_ := z32 z_8; omega⟩, hj_1⟩ (by first | omega | (dsimp only; omega))
    ·
      refine s_lload_n E dX4_weightWith_21 rfl rfl ?_
      refine s_aload_n E dX4_weightWith_22 rfl rfl ?_
      rcases jv_mz hj_1 with hz_9 | hz_9
      ·
        refine s_gR (r := 92) E fg_X4_9 rfl rfl (jv_lt hj_1 (by decide)) hz_9.1 dX4_weightWith_23 ?_
        refine s_iload E dX4_weightWith_26 rfl ?_
        refine s_lald E rfl (jv_lt hj_1 (by decide)) (z_in (u := q5_4_0.toInt) rfl (by omega) (by omega)) dX4_weightWith_28 ?_
        refine z_anyL (fun z_10 => ?_)
        refine s_ladd E dX4_weightWith_29 ?_
        refine z_anyL (fun z_11 => ?_)
        refine s_lstore_n (L2 := [some (AR 91), some (AI x1), some (AL z_11), none, some (AI q5_4_0)]) E dX4_weightWith_30 rfl (by decide) rfl ?_
        refine z_iinc (u := q5_4_0.toInt) (L2 := fun z_12 => [some (AR 91), some (AI x1), some (AL z_11), none, some (AI z_12)]) E dX4_weightWith_31 rfl rfl (by decide) (fun _ => rfl) (by decide) (by omega) (by omega) (fun z_12 hz_12 => ?_)
        refine s_goto (tgt := 5) E dX4_weightWith_34 (by decide) ?_
        exact ih5 ⟨z_11, z_12⟩ v5 ⟨⟨by have hb_ := z32 z_12; omega, by have hb_ := z32 z_12; omega⟩, hj_1⟩ (by first | omega | (dsimp only; omega))
      ·
        refine s_gR (r := 93) E fg_X4_9 rfl rfl (jv_lt hj_1 (by decide)) hz_9.1 dX4_weightWith_23 ?_
        refine s_iload E dX4_weightWith_26 rfl ?_
        refine s_lald E rfl (jv_lt hj_1 (by decide)) (z_in (u := q5_4_0.toInt) rfl (by omega) (by omega)) dX4_weightWith_28 ?_
        refine z_anyL (fun z_13 => ?_)
        refine s_ladd E dX4_weightWith_29 ?_
        refine z_anyL (fun z_14 => ?_)
        refine s_lstore_n (L2 := [some (AR 91), some (AI x1), some (AL z_14), none, some (AI q5_4_0)]) E dX4_weightWith_30 rfl (by decide) rfl ?_
        refine z_iinc (u := q5_4_0.toInt) (L2 := fun z_15 => [some (AR 91), some (AI x1), some (AL z_14), none, some (AI z_15)]) E dX4_weightWith_31 rfl rfl (by decide) (fun _ => rfl) (by decide) (by omega) (by omega) (fun z_15 hz_15 => ?_)
        refine s_goto (tgt := 5) E dX4_weightWith_34 (by decide) ?_
        exact ih5 ⟨z_14, z_15⟩ v5 ⟨⟨by have hb_ := z32 z_15; omega, by have hb_ := z32 z_15; omega⟩, hj_1⟩ (by first | omega | (dsimp only; omega))
set_option maxRecDepth 20000 in
set_option maxHeartbeats 2000000 in
theorem Z_X9_chance_0 (l : Launch) (D : va_G) (aC : Nat → ClassId) (b : Nat) (w : XW) (x1 : Int32) (x2 : Int32) (x3 : Int32) (x4 : Int32) (hI : Iv w)  : CnL l D aC b M_X9_chance 5 120 0 0 [AR 0, AI x1, AI x2, AI x3, AI x4] w (fun r u => ((-9223372036854775808) ≤ r.toInt ∧ r.toInt ≤ 9223372036854775807) ∧ Jv w u) := by
  refine cn_L (own := RX9) (nm := "chance") (L0 := [some (AR 0), some (AI x1), some (AI x2), some (AI x3), some (AI x4)]) (by decide +kernel) rfl rfl (Nat.le_of_ble_eq_true rfl) rfl ?_
  intro p e s m args below meth c E hin
  have hJ : Jv w w := jv_rfl hI
  refine s_aload_n E dX9_chance_0 rfl rfl ?_
  refine s_gR (r := 2) E fg_X9_20 rfl rfl (jv_lt hJ (by decide)) (jv_r hJ (by decide +kernel)) dX9_chance_1 ?_
  refine s_iload_n E dX9_chance_4 rfl rfl ?_
  refine s_vI (As := [AI x1]) (S := []) E (Z_X0_hasLady_2 l D aC b w x1 hJ.1 ) cv_X9_139 rfl rfl rfl (jv_lt hJ (by decide)) (Nat.le_of_ble_eq_true rfl) (Nat.le_of_ble_eq_true rfl) ⟨(Nat.le_of_ble_eq_true rfl), (Nat.le_of_ble_eq_true rfl)⟩ (Nat.le_of_ble_eq_true rfl) dX9_chance_5 (fun z_3 u_1 hp_2 => ?_)
  obtain ⟨hz_3, hp_2⟩ := hp_2
  subst hp_2
  refine z_if_eq (tgt := 38) (u := z_3.toInt) E dX9_chance_8 (by decide) rfl (fun h_5 => ?_) (fun h_5 => ?_)
  ·
    refine s_ldc2 E k_1095 rfl dX9_chance_38 ?_
    exact r_long E dX9_chance_41 ⟨(by decide), hJ⟩
  ·
    refine s_aload_n E dX9_chance_11 rfl rfl ?_
    refine s_gR (r := 2) E fg_X9_20 rfl rfl (jv_lt hJ (by decide)) (jv_r hJ (by decide +kernel)) dX9_chance_12 ?_
    refine s_iload_n E dX9_chance_15 rfl rfl ?_
    refine s_vI (As := [AI x2]) (S := []) E (Z_X0_hasLady_2 l D aC b w x2 hJ.1 ) cv_X9_139 rfl rfl rfl (jv_lt hJ (by decide)) (Nat.le_of_ble_eq_true rfl) (Nat.le_of_ble_eq_true rfl) ⟨(Nat.le_of_ble_eq_true rfl), (Nat.le_of_ble_eq_true rfl)⟩ (Nat.le_of_ble_eq_true rfl) dX9_chance_16 (fun z_8 u_6 hp_7 => ?_)
    obtain ⟨hz_8, hp_7⟩ := hp_7
    subst hp_7
    refine z_if_eq (tgt := 38) (u := z_8.toInt) E dX9_chance_19 (by decide) rfl (fun h_10 => ?_) (fun h_10 => ?_)
    ·
      refine s_ldc2 E k_1095 rfl dX9_chance_38 ?_
      exact r_long E dX9_chance_41 ⟨(by decide), hJ⟩
    ·
      refine s_aload_n E dX9_chance_22 rfl rfl ?_
      refine s_iload_n E dX9_chance_23 rfl rfl ?_
      refine s_vI (As := [AI x3]) (S := []) E (Z_X9_isChanceDance_0 l D aC b w x3 hJ.1 ) cv_X9_359 rfl rfl rfl (jv_lt hJ (by decide)) (Nat.le_of_ble_eq_true rfl) (Nat.le_of_ble_eq_true rfl) ⟨(Nat.le_of_ble_eq_true rfl), (Nat.le_of_ble_eq_true rfl)⟩ (Nat.le_of_ble_eq_true rfl) dX9_chance_24 (fun z_13 u_11 hp_12 => ?_)
      obtain ⟨hz_13, hp_12⟩ := hp_12
      subst hp_12
      refine z_if_eq (tgt := 38) (u := z_13.toInt) E dX9_chance_27 (by decide) rfl (fun h_15 => ?_) (fun h_15 => ?_)
      ·
        refine s_ldc2 E k_1095 rfl dX9_chance_38 ?_
        exact r_long E dX9_chance_41 ⟨(by decide), hJ⟩
      ·
        refine s_iload E dX9_chance_30 rfl ?_
        refine s_sI (As := [AI x4]) (S := []) E (Z_X9_isPart l D aC b w x4 hJ.1 ) cs_X9_320 rfl rfl (Nat.le_of_ble_eq_true rfl) (Nat.le_of_ble_eq_true rfl) ⟨(Nat.le_of_ble_eq_true rfl), (Nat.le_of_ble_eq_true rfl)⟩ (Nat.le_of_ble_eq_true rfl) dX9_chance_32 (fun z_18 u_16 hp_17 => ?_)
        obtain ⟨hz_18, hp_17⟩ := hp_17
        subst hp_17
        refine z_if_ne (tgt := 42) (u := z_18.toInt) E dX9_chance_35 (by decide) rfl (fun h_20 => ?_) (fun h_20 => ?_)
        ·
          refine s_aload_n E dX9_chance_42 rfl rfl ?_
          refine s_vV (As := []) (S := []) E (Z_X9_passAsTold_0 l D aC b w  hJ.1 ) cv_X9_227 rfl rfl rfl (jv_lt hJ (by decide)) (Nat.le_of_ble_eq_true rfl) (Nat.le_of_ble_eq_true rfl) ⟨(Nat.le_of_ble_eq_true rfl), (Nat.le_of_ble_eq_true rfl)⟩ (Nat.le_of_ble_eq_true rfl) dX9_chance_43 (fun u_21 hp_22 => ?_)
          have hj_23 := jv_trans hJ hp_22
          refine s_aload_n E dX9_chance_46 rfl rfl ?_
          refine s_gR (r := 91) E fg_X9_85 rfl rfl (jv_lt hj_23 (by decide)) (jv_r hj_23 (by decide +kernel)) dX9_chance_47 ?_
          refine s_aload_n E dX9_chance_50 rfl rfl ?_
          refine s_gR (r := 69) E fg_X9_54 rfl rfl (jv_lt hj_23 (by decide)) (jv_r hj_23 (by decide +kernel)) dX9_chance_51 ?_
          refine s_aload_n E dX9_chance_54 rfl rfl ?_
          refine s_gR (r := 81) E fg_X9_64 rfl rfl (jv_lt hj_23 (by decide)) (jv_r hj_23 (by decide +kernel)) dX9_chance_55 ?_
          refine s_iload_n E dX9_chance_58 rfl rfl ?_
          refine s_iload_n E dX9_chance_59 rfl rfl ?_
          refine s_aload_n E dX9_chance_60 rfl rfl ?_
          refine s_gR (r := 2) E fg_X9_20 rfl rfl (jv_lt hj_23 (by decide)) (jv_r hj_23 (by decide +kernel)) dX9_chance_61 ?_
          refine s_gI E fg_X9_364 rfl rfl (jv_lt hj_23 (by decide)) dX9_chance_64 ?_
          refine z_nm (P := fun z => z.toInt = (u_21.2.2.1 2 4).toInt) rfl (fun z_24 hz_24 => ?_)
          refine s_vV (As := [AR 69, AR 81, AI x1, AI x3, AI z_24]) (S := []) E (Z_X4_play_91_r69_r81 l D aC b u_21 x1 x3 z_24 hj_23.1 ) cv_X9_367 rfl rfl rfl (jv_lt hj_23 (by decide)) (Nat.le_of_ble_eq_true rfl) (Nat.le_of_ble_eq_true rfl) ⟨(Nat.le_of_ble_eq_true rfl), (Nat.le_of_ble_eq_true rfl)⟩ (Nat.le_of_ble_eq_true rfl) dX9_chance_67 (fun u_25 hp_26 => ?_)
          have hj_27 := jv_trans hj_23 hp_26
          refine s_aload_n E dX9_chance_70 rfl rfl ?_
          refine s_gR (r := 91) E fg_X9_85 rfl rfl (jv_lt hj_27 (by decide)) (jv_r hj_27 (by decide +kernel)) dX9_chance_71 ?_
          refine s_iload_n E dX9_chance_74 rfl rfl ?_
          refine s_vL (As := [AI x2]) (S := []) E (Z_X4_weightWith_91 l D aC b u_25 x2 hj_27.1 ) cv_X9_371 rfl rfl rfl (jv_lt hj_27 (by decide)) (Nat.le_of_ble_eq_true rfl) (Nat.le_of_ble_eq_true rfl) ⟨(Nat.le_of_ble_eq_true rfl), (Nat.le_of_ble_eq_true rfl)⟩ (Nat.le_of_ble_eq_true rfl) dX9_chance_75 (fun z_30 u_28 hp_29 => ?_)
          obtain ⟨hz_30, hp_29⟩ := hp_29
          have hj_31 := jv_trans hj_27 hp_29
          refine s_aload_n E dX9_chance_78 rfl rfl ?_
          refine s_gR (r := 91) E fg_X9_85 rfl rfl (jv_lt hj_31 (by decide)) (jv_r hj_31 (by decide +kernel)) dX9_chance_79 ?_
          refine s_gL E fg_X9_374 rfl rfl (jv_lt hj_31 (by decide)) dX9_chance_82 ?_
          refine z_anyL (fun z_32 => ?_)
          refine s_iload E dX9_chance_85 rfl ?_
          refine s_sL (As := [AL z_30, AL z_32, AI x4]) (S := []) E (Z_X9_lowestTerms l D aC b u_28 z_30 z_32 x4 hj_31.1 ) cs_X9_329 rfl rfl (Nat.le_of_ble_eq_true rfl) (Nat.le_of_ble_eq_true rfl) ⟨(Nat.le_of_ble_eq_true rfl), (Nat.le_of_ble_eq_true rfl)⟩ (Nat.le_of_ble_eq_true rfl) dX9_chance_87 (fun z_35 u_33 hp_34 => ?_)
          obtain ⟨hz_35, hp_34⟩ := hp_34
          have hj_36 := jv_trans hj_31 hp_34
          exact r_long E dX9_chance_90 ⟨⟨by have hb_ := z64 z_35; omega, by have hb_ := z64 z_35; omega⟩, hj_36⟩
        ·
          refine s_ldc2 E k_1095 rfl dX9_chance_38 ?_
          exact r_long E dX9_chance_41 ⟨(by decide), hJ⟩
set_option maxRecDepth 20000 in
set_option maxHeartbeats 2000000 in
theorem Z_X4_weightOfHolders_91 (l : Launch) (D : va_G) (aC : Nat → ClassId) (b : Nat) (w : XW)  (hI : Iv w)  : CnL l D aC b M_X4_weightOfHolders 1 20 0 0 [AR 91] w (fun r u => ((-9223372036854775808) ≤ r.toInt ∧ r.toInt ≤ 9223372036854775807) ∧ Jv w u) := by
  refine cn_L (own := RX4) (nm := "weightOfHolders") (L0 := [some (AR 91), none, none, none]) (by decide +kernel) rfl rfl (Nat.le_of_ble_eq_true rfl) rfl ?_
  intro p e s m args below meth c E hin
  have hJ : Jv w w := jv_rfl hI
  refine s_lconst (v := 0) E dX4_weightOfHolders_0 (by decide) ?_
  refine s_lstore_n (L2 := [some (AR 91), some (AL 0), none, none]) E dX4_weightOfHolders_1 rfl (by decide) rfl ?_
  refine s_iconst (v := 0) E dX4_weightOfHolders_2 (by decide) ?_
  refine s_istore_n (L2 := [some (AR 91), some (AL 0), none, some (AI 0)]) E dX4_weightOfHolders_3 rfl (by decide) rfl ?_
  refine z_loop (St := Int64 × Int32) (Pi := fun ⟨q4_1_0, q4_3_0⟩ v4 => (0 ≤ q4_3_0.toInt ∧ q4_3_0.toInt ≤ 64) ∧ Jv w v4) (Lf := fun ⟨q4_1_0, q4_3_0⟩ => [some (AR 91), some (AL q4_1_0), none, some (AI q4_3_0)]) (fun ⟨q4_1_0, q4_3_0⟩ _ => (65 - q4_3_0.toInt).toNat) ⟨0, 0⟩ ⟨⟨by decide, by decide⟩, hJ⟩ ?_
  rintro ⟨q4_1_0, q4_3_0⟩ v4 ⟨hq4_3, hj_1⟩ ih4
  refine s_loc (L2 := [some (AR 91), some (AL q4_1_0), none, some (AI q4_3_0)]) rfl ?_
  refine s_iload_n E dX4_weightOfHolders_4 rfl rfl ?_
  refine s_bipush (v := 64) E dX4_weightOfHolders_5 (by decide) ?_
  refine z_icmp_ge (tgt := 31) (u := q4_3_0.toInt) (v := 64) E dX4_weightOfHolders_7 (by decide) rfl (by decide) (fun h_2 => ?_) (fun h_2 => ?_)
  ·
    refine s_lload_n E dX4_weightOfHolders_31 rfl rfl ?_
    exact r_long E dX4_weightOfHolders_32 ⟨⟨by have hb_ := z64 q4_1_0; omega, by have hb_ := z64 q4_1_0; omega⟩, hj_1⟩
  ·
    refine s_lload_n E dX4_weightOfHolders_10 rfl rfl ?_
    refine s_aload_n E dX4_weightOfHolders_11 rfl rfl ?_
    rcases jv_mz hj_1 with hz_3 | hz_3
    ·
      refine s_gR (r := 92) E fg_X4_9 rfl rfl (jv_lt hj_1 (by decide)) hz_3.1 dX4_weightOfHolders_12 ?_
      refine s_iload_n E dX4_weightOfHolders_15 rfl rfl ?_
      refine s_lald E rfl (jv_lt hj_1 (by decide)) (z_in (u := q4_3_0.toInt) rfl (by omega) (by omega)) dX4_weightOfHolders_16 ?_
      refine z_anyL (fun z_4 => ?_)
      refine s_iload_n E dX4_weightOfHolders_17 rfl rfl ?_
      refine s_sI (As := [AI q4_3_0]) (S := [AL z_4, AL q4_1_0]) E (Z_J6_bitCount_0f7a4 l D aC b v4 q4_3_0 hj_1.1 ) cs_X4_44 rfl rfl (Nat.le_of_ble_eq_true rfl) (Nat.le_of_ble_eq_true rfl) ⟨(Nat.le_of_ble_eq_true rfl), (Nat.le_of_ble_eq_true rfl)⟩ (Nat.le_of_ble_eq_true rfl) dX4_weightOfHolders_18 (fun z_7 u_5 hp_6 => ?_)
      obtain ⟨hz_7, hp_6⟩ := hp_6
      subst hp_6
      refine z_i2l (u := z_7.toInt) E dX4_weightOfHolders_21 rfl (fun z_9 hz_9 => ?_)
      refine s_lmul E dX4_weightOfHolders_22 ?_
      refine z_anyL (fun z_10 => ?_)
      refine s_ladd E dX4_weightOfHolders_23 ?_
      refine z_anyL (fun z_11 => ?_)
      refine s_lstore_n (L2 := [some (AR 91), some (AL z_11), none, some (AI q4_3_0)]) E dX4_weightOfHolders_24 rfl (by decide) rfl ?_
      refine z_iinc (u := q4_3_0.toInt) (L2 := fun z_12 => [some (AR 91), some (AL z_11), none, some (AI z_12)]) E dX4_weightOfHolders_25 rfl rfl (by decide) (fun _ => rfl) (by decide) (by omega) (by omega) (fun z_12 hz_12 => ?_)
      refine s_goto (tgt := 4) E dX4_weightOfHolders_28 (by decide) ?_
      exact ih4 ⟨z_11, z_12⟩ v4 ⟨⟨by have hb_ := z32 z_12; omega, by have hb_ := z32 z_12; omega⟩, hj_1⟩ (by first | omega | (dsimp only; omega))
    ·
      refine s_gR (r := 93) E fg_X4_9 rfl rfl (jv_lt hj_1 (by decide)) hz_3.1 dX4_weightOfHolders_12 ?_
      refine s_iload_n E dX4_weightOfHolders_15 rfl rfl ?_
      refine s_lald E rfl (jv_lt hj_1 (by decide)) (z_in (u := q4_3_0.toInt) rfl (by omega) (by omega)) dX4_weightOfHolders_16 ?_
      refine z_anyL (fun z_13 => ?_)
      refine s_iload_n E dX4_weightOfHolders_17 rfl rfl ?_
      refine s_sI (As := [AI q4_3_0]) (S := [AL z_13, AL q4_1_0]) E (Z_J6_bitCount_0f7a4 l D aC b v4 q4_3_0 hj_1.1 ) cs_X4_44 rfl rfl (Nat.le_of_ble_eq_true rfl) (Nat.le_of_ble_eq_true rfl) ⟨(Nat.le_of_ble_eq_true rfl), (Nat.le_of_ble_eq_true rfl)⟩ (Nat.le_of_ble_eq_true rfl) dX4_weightOfHolders_18 (fun z_16 u_14 hp_15 => ?_)
      obtain ⟨hz_16, hp_15⟩ := hp_15
      subst hp_15
      refine z_i2l (u := z_16.toInt) E dX4_weightOfHolders_21 rfl (fun z_18 hz_18 => ?_)
      refine s_lmul E dX4_weightOfHolders_22 ?_
      refine z_anyL (fun z_19 => ?_)
      refine s_ladd E dX4_weightOfHolders_23 ?_
      refine z_anyL (fun z_20 => ?_)
      refine s_lstore_n (L2 := [some (AR 91), some (AL z_20), none, some (AI q4_3_0)]) E dX4_weightOfHolders_24 rfl (by decide) rfl ?_
      refine z_iinc (u := q4_3_0.toInt) (L2 := fun z_21 => [some (AR 91), some (AL z_20), none, some (AI z_21)]) E dX4_weightOfHolders_25 rfl rfl (by decide) (fun _ => rfl) (by decide) (by omega) (by omega) (fun z_21 hz_21 => ?_)
      refine s_goto (tgt := 4) E dX4_weightOfHolders_28 (by decide) ?_
      exact ih4 ⟨z_20, z_21⟩ v4 ⟨⟨by have hb_ := z32 z_21; omega, by have hb_ := z32 z_21; omega⟩, hj_1⟩ (by first | omega | (dsimp only; omega))
set_option maxRecDepth 20000 in
set_option maxHeartbeats 2000000 in
theorem Z_X9_mean_0 (l : Launch) (D : va_G) (aC : Nat → ClassId) (b : Nat) (w : XW) (x1 : Int32) (x2 : Int32) (x3 : Int32) (hI : Iv w)  : CnL l D aC b M_X9_mean 5 120 0 0 [AR 0, AI x1, AI x2, AI x3] w (fun r u => ((-9223372036854775808) ≤ r.toInt ∧ r.toInt ≤ 9223372036854775807) ∧ Jv w u) := by
  refine cn_L (own := RX9) (nm := "mean") (L0 := [some (AR 0), some (AI x1), some (AI x2), some (AI x3)]) (by decide +kernel) rfl rfl (Nat.le_of_ble_eq_true rfl) rfl ?_
  intro p e s m args below meth c E hin
  have hJ : Jv w w := jv_rfl hI
  refine s_aload_n E dX9_mean_0 rfl rfl ?_
  refine s_gR (r := 2) E fg_X9_20 rfl rfl (jv_lt hJ (by decide)) (jv_r hJ (by decide +kernel)) dX9_mean_1 ?_
  refine s_iload_n E dX9_mean_4 rfl rfl ?_
  refine s_vI (As := [AI x1]) (S := []) E (Z_X0_hasLady_2 l D aC b w x1 hJ.1 ) cv_X9_139 rfl rfl rfl (jv_lt hJ (by decide)) (Nat.le_of_ble_eq_true rfl) (Nat.le_of_ble_eq_true rfl) ⟨(Nat.le_of_ble_eq_true rfl), (Nat.le_of_ble_eq_true rfl)⟩ (Nat.le_of_ble_eq_true rfl) dX9_mean_5 (fun z_3 u_1 hp_2 => ?_)
  obtain ⟨hz_3, hp_2⟩ := hp_2
  subst hp_2
  refine z_if_eq (tgt := 26) (u := z_3.toInt) E dX9_mean_8 (by decide) rfl (fun h_5 => ?_) (fun h_5 => ?_)
  ·
    refine s_ldc2 E k_1095 rfl dX9_mean_26 ?_
    exact r_long E dX9_mean_29 ⟨(by decide), hJ⟩
  ·
    refine s_aload_n E dX9_mean_11 rfl rfl ?_
    refine s_iload_n E dX9_mean_12 rfl rfl ?_
    refine s_vI (As := [AI x2]) (S := []) E (Z_X9_isChanceDance_0 l D aC b w x2 hJ.1 ) cv_X9_359 rfl rfl rfl (jv_lt hJ (by decide)) (Nat.le_of_ble_eq_true rfl) (Nat.le_of_ble_eq_true rfl) ⟨(Nat.le_of_ble_eq_true rfl), (Nat.le_of_ble_eq_true rfl)⟩ (Nat.le_of_ble_eq_true rfl) dX9_mean_13 (fun z_8 u_6 hp_7 => ?_)
    obtain ⟨hz_8, hp_7⟩ := hp_7
    subst hp_7
    refine z_if_eq (tgt := 26) (u := z_8.toInt) E dX9_mean_16 (by decide) rfl (fun h_10 => ?_) (fun h_10 => ?_)
    ·
      refine s_ldc2 E k_1095 rfl dX9_mean_26 ?_
      exact r_long E dX9_mean_29 ⟨(by decide), hJ⟩
    ·
      refine s_iload_n E dX9_mean_19 rfl rfl ?_
      refine s_sI (As := [AI x3]) (S := []) E (Z_X9_isPart l D aC b w x3 hJ.1 ) cs_X9_320 rfl rfl (Nat.le_of_ble_eq_true rfl) (Nat.le_of_ble_eq_true rfl) ⟨(Nat.le_of_ble_eq_true rfl), (Nat.le_of_ble_eq_true rfl)⟩ (Nat.le_of_ble_eq_true rfl) dX9_mean_20 (fun z_13 u_11 hp_12 => ?_)
      obtain ⟨hz_13, hp_12⟩ := hp_12
      subst hp_12
      refine z_if_ne (tgt := 30) (u := z_13.toInt) E dX9_mean_23 (by decide) rfl (fun h_15 => ?_) (fun h_15 => ?_)
      ·
        refine s_aload_n E dX9_mean_30 rfl rfl ?_
        refine s_vV (As := []) (S := []) E (Z_X9_passAsTold_0 l D aC b w  hJ.1 ) cv_X9_227 rfl rfl rfl (jv_lt hJ (by decide)) (Nat.le_of_ble_eq_true rfl) (Nat.le_of_ble_eq_true rfl) ⟨(Nat.le_of_ble_eq_true rfl), (Nat.le_of_ble_eq_true rfl)⟩ (Nat.le_of_ble_eq_true rfl) dX9_mean_31 (fun u_16 hp_17 => ?_)
        have hj_18 := jv_trans hJ hp_17
        refine s_aload_n E dX9_mean_34 rfl rfl ?_
        refine s_gR (r := 91) E fg_X9_85 rfl rfl (jv_lt hj_18 (by decide)) (jv_r hj_18 (by decide +kernel)) dX9_mean_35 ?_
        refine s_aload_n E dX9_mean_38 rfl rfl ?_
        refine s_gR (r := 69) E fg_X9_54 rfl rfl (jv_lt hj_18 (by decide)) (jv_r hj_18 (by decide +kernel)) dX9_mean_39 ?_
        refine s_aload_n E dX9_mean_42 rfl rfl ?_
        refine s_gR (r := 81) E fg_X9_64 rfl rfl (jv_lt hj_18 (by decide)) (jv_r hj_18 (by decide +kernel)) dX9_mean_43 ?_
        refine s_iload_n E dX9_mean_46 rfl rfl ?_
        refine s_iload_n E dX9_mean_47 rfl rfl ?_
        refine s_aload_n E dX9_mean_48 rfl rfl ?_
        refine s_gR (r := 2) E fg_X9_20 rfl rfl (jv_lt hj_18 (by decide)) (jv_r hj_18 (by decide +kernel)) dX9_mean_49 ?_
        refine s_gI E fg_X9_364 rfl rfl (jv_lt hj_18 (by decide)) dX9_mean_52 ?_
        refine z_nm (P := fun z => z.toInt = (u_16.2.2.1 2 4).toInt) rfl (fun z_19 hz_19 => ?_)
        refine s_vV (As := [AR 69, AR 81, AI x1, AI x2, AI z_19]) (S := []) E (Z_X4_play_91_r69_r81 l D aC b u_16 x1 x2 z_19 hj_18.1 ) cv_X9_367 rfl rfl rfl (jv_lt hj_18 (by decide)) (Nat.le_of_ble_eq_true rfl) (Nat.le_of_ble_eq_true rfl) ⟨(Nat.le_of_ble_eq_true rfl), (Nat.le_of_ble_eq_true rfl)⟩ (Nat.le_of_ble_eq_true rfl) dX9_mean_55 (fun u_20 hp_21 => ?_)
        have hj_22 := jv_trans hj_18 hp_21
        refine s_aload_n E dX9_mean_58 rfl rfl ?_
        refine s_gR (r := 91) E fg_X9_85 rfl rfl (jv_lt hj_22 (by decide)) (jv_r hj_22 (by decide +kernel)) dX9_mean_59 ?_
        refine s_vL (As := []) (S := []) E (Z_X4_weightOfHolders_91 l D aC b u_20  hj_22.1 ) cv_X9_377 rfl rfl rfl (jv_lt hj_22 (by decide)) (Nat.le_of_ble_eq_true rfl) (Nat.le_of_ble_eq_true rfl) ⟨(Nat.le_of_ble_eq_true rfl), (Nat.le_of_ble_eq_true rfl)⟩ (Nat.le_of_ble_eq_true rfl) dX9_mean_62 (fun z_25 u_23 hp_24 => ?_)
        obtain ⟨hz_25, hp_24⟩ := hp_24
        have hj_26 := jv_trans hj_22 hp_24
        refine s_aload_n E dX9_mean_65 rfl rfl ?_
        refine s_gR (r := 91) E fg_X9_85 rfl rfl (jv_lt hj_26 (by decide)) (jv_r hj_26 (by decide +kernel)) dX9_mean_66 ?_
        refine s_gL E fg_X9_374 rfl rfl (jv_lt hj_26 (by decide)) dX9_mean_69 ?_
        refine z_anyL (fun z_27 => ?_)
        refine s_iload_n E dX9_mean_72 rfl rfl ?_
        refine s_sL (As := [AL z_25, AL z_27, AI x3]) (S := []) E (Z_X9_lowestTerms l D aC b u_23 z_25 z_27 x3 hj_26.1 ) cs_X9_329 rfl rfl (Nat.le_of_ble_eq_true rfl) (Nat.le_of_ble_eq_true rfl) ⟨(Nat.le_of_ble_eq_true rfl), (Nat.le_of_ble_eq_true rfl)⟩ (Nat.le_of_ble_eq_true rfl) dX9_mean_73 (fun z_30 u_28 hp_29 => ?_)
        obtain ⟨hz_30, hp_29⟩ := hp_29
        have hj_31 := jv_trans hj_26 hp_29
        exact r_long E dX9_mean_76 ⟨⟨by have hb_ := z64 z_30; omega, by have hb_ := z64 z_30; omega⟩, hj_31⟩
      ·
        refine s_ldc2 E k_1095 rfl dX9_mean_26 ?_
        exact r_long E dX9_mean_29 ⟨(by decide), hJ⟩
set_option maxRecDepth 20000 in
set_option maxHeartbeats 2000000 in
theorem Z_X8_isFull_11 (l : Launch) (D : va_G) (aC : Nat → ClassId) (b : Nat) (w : XW)  (hI : Iv w)  : CnI l D aC b M_X8_isFull 0 0 0 0 [AR 11] w (fun r u => (0 ≤ r.toInt ∧ r.toInt ≤ 1 ∧ (¬ r.toInt = 0 ∨ (0 ≤ (w.2.2.1 11 3).toInt ∧ (w.2.2.1 11 3).toInt ≤ 29)) ∧ (r.toInt = 0 ∨ (30 ≤ (w.2.2.1 11 3).toInt ∧ (w.2.2.1 11 3).toInt ≤ 30))) ∧ w = u) := by
  refine cn_I (own := RX8) (nm := "isFull") (L0 := [some (AR 11)]) (by decide +kernel) rfl rfl (Nat.le_of_ble_eq_true rfl) rfl ?_
  intro p e s m args below meth c E hin
  have hJ : Jv w w := jv_rfl hI
  refine s_aload_n E dX8_isFull_0 rfl rfl ?_
  refine s_gI E fg_X8_28 rfl rfl (jv_lt hJ (by decide)) dX8_isFull_1 ?_
  refine z_nm (P := fun z => z.toInt = (w.2.2.1 11 3).toInt ∧ 0 ≤ z.toInt ∧ z.toInt ≤ 30) ⟨rfl, (rg_11_3 hJ)⟩ (fun z_1 hz_1 => ?_)
  refine s_aload_n E dX8_isFull_4 rfl rfl ?_
  refine s_gI E fg_X8_15 rfl rfl (jv_lt hJ (by decide)) dX8_isFull_5 ?_
  refine s_top (y := 30) (z_pt (by decide) (rg_11_1 hJ)) ?_
  refine z_icmp_lt (tgt := 15) (u := z_1.toInt) (v := 30) E dX8_isFull_8 (by decide) rfl (by decide) (fun h_2 => ?_) (fun h_2 => ?_)
  ·
    refine s_iconst (v := 0) E dX8_isFull_15 (by decide) ?_
    exact r_bool E dX8_isFull_16 (Or.inl rfl) ⟨⟨by decide, by decide, by first | (left; decide) | (right; have hb_ := z32 (w.2.2.1 11 3); omega), by first | (left; decide) | (right; have hb_ := z32 (w.2.2.1 11 3); omega)⟩, rfl⟩
  ·
    refine s_iconst (v := 1) E dX8_isFull_11 (by decide) ?_
    refine s_goto (tgt := 16) E dX8_isFull_12 (by decide) ?_
    exact r_bool E dX8_isFull_16 (Or.inr rfl) ⟨⟨by decide, by decide, by first | (left; decide) | (right; have hb_ := z32 (w.2.2.1 11 3); omega), by first | (left; decide) | (right; have hb_ := z32 (w.2.2.1 11 3); omega)⟩, rfl⟩
set_option maxRecDepth 20000 in
set_option maxHeartbeats 2000000 in
theorem Z_X8_put_11 (l : Launch) (D : va_G) (aC : Nat → ClassId) (b : Nat) (w : XW) (x1 : Int32) (x2 : Int32) (x3 : Int32) (hI : Iv w)  : CnV l D aC b M_X8_put 1 22 0 0 [AR 11, AI x1, AI x2, AI x3] w (fun u => Jv w u) := by
  refine cn_V (own := RX8) (nm := "put") (L0 := [some (AR 11), some (AI x1), some (AI x2), some (AI x3)]) (by decide +kernel) rfl rfl (Nat.le_of_ble_eq_true rfl) rfl ?_
  intro p e s m args below meth c E hin
  have hJ : Jv w w := jv_rfl hI
  refine s_aload_n E dX8_put_0 rfl rfl ?_
  refine s_iload_n E dX8_put_1 rfl rfl ?_
  refine s_iload_n E dX8_put_2 rfl rfl ?_
  refine s_vI (As := [AI x1, AI x2]) (S := []) E (Z_X8_hasCell_11 l D aC b w x1 x2 hJ.1 ) cv_X8_31 rfl rfl rfl (jv_lt hJ (by decide)) (Nat.le_of_ble_eq_true rfl) (Nat.le_of_ble_eq_true rfl) ⟨(Nat.le_of_ble_eq_true rfl), (Nat.le_of_ble_eq_true rfl)⟩ (Nat.le_of_ble_eq_true rfl) dX8_put_3 (fun z_3 u_1 hp_2 => ?_)
  obtain ⟨hz_3, hp_2⟩ := hp_2
  subst hp_2
  refine z_if_eq (tgt := 23) (u := z_3.toInt) E dX8_put_6 (by decide) rfl (fun h_5 => ?_) (fun h_5 => ?_)
  ·
    exact r_void E dX8_put_23 hJ
  ·
    refine s_aload_n E dX8_put_9 rfl rfl ?_
    refine s_gR (r := 12) E fg_X8_24 rfl rfl (jv_lt hJ (by decide)) (jv_r hJ (by decide +kernel)) dX8_put_10 ?_
    refine s_iload_n E dX8_put_13 rfl rfl ?_
    refine s_aload_n E dX8_put_14 rfl rfl ?_
    refine s_gI E fg_X8_21 rfl rfl (jv_lt hJ (by decide)) dX8_put_15 ?_
    refine s_top (y := 4) (z_pt (by decide) (rg_11_2 hJ)) ?_
    refine z_imul (u := x1.toInt) (v := 4) E dX8_put_18 rfl (by decide) (by omega) (by omega) (fun z_6 hz_6 => ?_)
    refine s_iload_n E dX8_put_19 rfl rfl ?_
    refine z_iadd (u := z_6.toInt) (v := x2.toInt) E dX8_put_20 rfl rfl (by omega) (by omega) (fun z_7 hz_7 => ?_)
    refine s_iload_n E dX8_put_21 rfl rfl ?_
    refine s_iast E rfl (jv_lt hJ (by decide)) (z_in (u := z_7.toInt) rfl (by omega) (by omega)) dX8_put_22 ?_
    refine s_gen (P := fun v => Jv w v ∧ (v.2.2.1 11 3).toInt = (w.2.2.1 11 3).toInt) ⟨(jv_a_12 hJ (by have hb_ := z32 x3; omega) (by have hb_ := z32 x3; omega)), rfl⟩ (fun v_8 hj_9 => ?_)
    obtain ⟨hj_9, hk_10⟩ := hj_9
    exact r_void E dX8_put_23 hj_9
set_option maxRecDepth 20000 in
set_option maxHeartbeats 2000000 in
theorem Z_X8_add_11 (l : Launch) (D : va_G) (aC : Nat → ClassId) (b : Nat) (w : XW) (x1 : Int32) (x2 : Int32) (x3 : Int32) (x4 : Int32) (hI : Iv w)  : CnV l D aC b M_X8_add 2 45 0 0 [AR 11, AI x1, AI x2, AI x3, AI x4] w (fun u => Jv w u) := by
  refine cn_V (own := RX8) (nm := "add") (L0 := [some (AR 11), some (AI x1), some (AI x2), some (AI x3), some (AI x4)]) (by decide +kernel) rfl rfl (Nat.le_of_ble_eq_true rfl) rfl ?_
  intro p e s m args below meth c E hin
  have hJ : Jv w w := jv_rfl hI
  refine s_aload_n E dX8_add_0 rfl rfl ?_
  refine s_vI (As := []) (S := []) E (Z_X8_isFull_11 l D aC b w  hJ.1 ) cv_X8_35 rfl rfl rfl (jv_lt hJ (by decide)) (Nat.le_of_ble_eq_true rfl) (Nat.le_of_ble_eq_true rfl) ⟨(Nat.le_of_ble_eq_true rfl), (Nat.le_of_ble_eq_true rfl)⟩ (Nat.le_of_ble_eq_true rfl) dX8_add_1 (fun z_3 u_1 hp_2 => ?_)
  obtain ⟨hz_3, hp_2⟩ := hp_2
  subst hp_2
  refine z_if_eq (tgt := 8) (u := z_3.toInt) E dX8_add_4 (by decide) rfl (fun h_5 => ?_) (fun h_5 => ?_)
  ·
    refine s_aload_n E dX8_add_8 rfl rfl ?_
    refine s_dupR E dX8_add_9 ?_
    refine s_gI E fg_X8_28 rfl rfl (jv_lt hJ (by decide)) dX8_add_10 ?_
    refine z_nm (P := fun z => z.toInt = (w.2.2.1 11 3).toInt ∧ 0 ≤ z.toInt ∧ z.toInt ≤ 30) ⟨rfl, (rg_11_3 hJ)⟩ (fun z_6 hz_6 => ?_)
    refine s_iconst (v := 1) E dX8_add_13 (by decide) ?_
    refine z_iadd (u := z_6.toInt) (v := 1) E dX8_add_14 rfl (by decide) (by omega) (by omega) (fun z_7 hz_7 => ?_)
    refine s_pI E fp_X8_28 (Or.inl rfl) rfl (jv_lt hJ (by decide)) dX8_add_15 ?_
    refine s_gen (P := Jv w) (jv_f_11_3 hJ (by have hb_ := z32 z_7; omega) (by have hb_ := z32 z_7; omega)) (fun v_8 hj_9 => ?_)
    refine s_aload_n E dX8_add_18 rfl rfl ?_
    refine s_aload_n E dX8_add_19 rfl rfl ?_
    refine s_gI E fg_X8_28 rfl rfl (jv_lt hj_9 (by decide)) dX8_add_20 ?_
    refine z_nm (P := fun z => z.toInt = (v_8.2.2.1 11 3).toInt ∧ 0 ≤ z.toInt ∧ z.toInt ≤ 30) ⟨rfl, (rg_11_3 hj_9)⟩ (fun z_10 hz_10 => ?_)
    refine s_iconst (v := 1) E dX8_add_23 (by decide) ?_
    refine z_isub (u := z_10.toInt) (v := 1) E dX8_add_24 rfl (by decide) (by omega) (by omega) (fun z_11 hz_11 => ?_)
    refine s_iconst (v := 0) E dX8_add_25 (by decide) ?_
    refine s_iload_n E dX8_add_26 rfl rfl ?_
    refine s_vV (As := [AI z_11, AI 0, AI x1]) (S := []) E (Z_X8_put_11 l D aC b v_8 z_11 0 x1 hj_9.1 ) cv_X8_39 rfl rfl rfl (jv_lt hj_9 (by decide)) (Nat.le_of_ble_eq_true rfl) (Nat.le_of_ble_eq_true rfl) ⟨(Nat.le_of_ble_eq_true rfl), (Nat.le_of_ble_eq_true rfl)⟩ (Nat.le_of_ble_eq_true rfl) dX8_add_27 (fun u_12 hp_13 => ?_)
    have hj_14 := jv_trans hj_9 hp_13
    refine s_aload_n E dX8_add_30 rfl rfl ?_
    refine s_aload_n E dX8_add_31 rfl rfl ?_
    refine s_gI E fg_X8_28 rfl rfl (jv_lt hj_14 (by decide)) dX8_add_32 ?_
    refine z_nm (P := fun z => z.toInt = (u_12.2.2.1 11 3).toInt ∧ 0 ≤ z.toInt ∧ z.toInt ≤ 30) ⟨rfl, (rg_11_3 hj_14)⟩ (fun z_15 hz_15 => ?_)
    refine s_iconst (v := 1) E dX8_add_35 (by decide) ?_
    refine z_isub (u := z_15.toInt) (v := 1) E dX8_add_36 rfl (by decide) (by omega) (by omega) (fun z_16 hz_16 => ?_)
    refine s_iconst (v := 1) E dX8_add_37 (by decide) ?_
    refine s_iload_n E dX8_add_38 rfl rfl ?_
    refine s_vV (As := [AI z_16, AI 1, AI x2]) (S := []) E (Z_X8_put_11 l D aC b u_12 z_16 1 x2 hj_14.1 ) cv_X8_39 rfl rfl rfl (jv_lt hj_14 (by decide)) (Nat.le_of_ble_eq_true rfl) (Nat.le_of_ble_eq_true rfl) ⟨(Nat.le_of_ble_eq_true rfl), (Nat.le_of_ble_eq_true rfl)⟩ (Nat.le_of_ble_eq_true rfl) dX8_add_39 (fun u_17 hp_18 => ?_)
    have hj_19 := jv_trans hj_14 hp_18
    refine s_aload_n E dX8_add_42 rfl rfl ?_
    refine s_aload_n E dX8_add_43 rfl rfl ?_
    refine s_gI E fg_X8_28 rfl rfl (jv_lt hj_19 (by decide)) dX8_add_44 ?_
    refine z_nm (P := fun z => z.toInt = (u_17.2.2.1 11 3).toInt ∧ 0 ≤ z.toInt ∧ z.toInt ≤ 30) ⟨rfl, (rg_11_3 hj_19)⟩ (fun z_20 hz_20 => ?_)
    refine s_iconst (v := 1) E dX8_add_47 (by decide) ?_
    refine z_isub (u := z_20.toInt) (v := 1) E dX8_add_48 rfl (by decide) (by omega) (by omega) (fun z_21 hz_21 => ?_)
    refine s_iconst (v := 2) E dX8_add_49 (by decide) ?_
    refine s_iload_n E dX8_add_50 rfl rfl ?_
    refine s_vV (As := [AI z_21, AI 2, AI x3]) (S := []) E (Z_X8_put_11 l D aC b u_17 z_21 2 x3 hj_19.1 ) cv_X8_39 rfl rfl rfl (jv_lt hj_19 (by decide)) (Nat.le_of_ble_eq_true rfl) (Nat.le_of_ble_eq_true rfl) ⟨(Nat.le_of_ble_eq_true rfl), (Nat.le_of_ble_eq_true rfl)⟩ (Nat.le_of_ble_eq_true rfl) dX8_add_51 (fun u_22 hp_23 => ?_)
    have hj_24 := jv_trans hj_19 hp_23
    refine s_aload_n E dX8_add_54 rfl rfl ?_
    refine s_aload_n E dX8_add_55 rfl rfl ?_
    refine s_gI E fg_X8_28 rfl rfl (jv_lt hj_24 (by decide)) dX8_add_56 ?_
    refine z_nm (P := fun z => z.toInt = (u_22.2.2.1 11 3).toInt ∧ 0 ≤ z.toInt ∧ z.toInt ≤ 30) ⟨rfl, (rg_11_3 hj_24)⟩ (fun z_25 hz_25 => ?_)
    refine s_iconst (v := 1) E dX8_add_59 (by decide) ?_
    refine z_isub (u := z_25.toInt) (v := 1) E dX8_add_60 rfl (by decide) (by omega) (by omega) (fun z_26 hz_26 => ?_)
    refine s_iconst (v := 3) E dX8_add_61 (by decide) ?_
    refine s_iload E dX8_add_62 rfl ?_
    refine s_vV (As := [AI z_26, AI 3, AI x4]) (S := []) E (Z_X8_put_11 l D aC b u_22 z_26 3 x4 hj_24.1 ) cv_X8_39 rfl rfl rfl (jv_lt hj_24 (by decide)) (Nat.le_of_ble_eq_true rfl) (Nat.le_of_ble_eq_true rfl) ⟨(Nat.le_of_ble_eq_true rfl), (Nat.le_of_ble_eq_true rfl)⟩ (Nat.le_of_ble_eq_true rfl) dX8_add_64 (fun u_27 hp_28 => ?_)
    have hj_29 := jv_trans hj_24 hp_28
    exact r_void E dX8_add_67 hj_29
  ·
    exact r_void E dX8_add_7 hJ
set_option maxRecDepth 20000 in
set_option maxHeartbeats 2000000 in
theorem Z_X0_actBid_2 (l : Launch) (D : va_G) (aC : Nat → ClassId) (b : Nat) (w : XW) (x1 : Int32) (x2 : Int32) (x3 : Int32) (hI : Iv w)  : CnV l D aC b M_X0_actBid 3 69 0 0 [AR 2, AI x1, AI x2, AI x3] w (fun u => Jv w u) := by
  refine cn_V (own := RX0) (nm := "actBid") (L0 := [some (AR 2), some (AI x1), some (AI x2), some (AI x3)]) (by decide +kernel) rfl rfl (Nat.le_of_ble_eq_true rfl) rfl ?_
  intro p e s m args below meth c E hin
  have hJ : Jv w w := jv_rfl hI
  refine s_aload_n E dX0_actBid_0 rfl rfl ?_
  refine s_gR (r := 11) E fg_X0_29 rfl rfl (jv_lt hJ (by decide)) (jv_r hJ (by decide +kernel)) dX0_actBid_1 ?_
  refine s_iconst (v := 0) E dX0_actBid_4 (by decide) ?_
  refine s_iload_n E dX0_actBid_5 rfl rfl ?_
  refine s_iload_n E dX0_actBid_6 rfl rfl ?_
  refine s_iload_n E dX0_actBid_7 rfl rfl ?_
  refine s_vV (As := [AI 0, AI x1, AI x2, AI x3]) (S := []) E (Z_X8_add_11 l D aC b w 0 x1 x2 x3 hJ.1 ) cv_X0_74 rfl rfl rfl (jv_lt hJ (by decide)) (Nat.le_of_ble_eq_true rfl) (Nat.le_of_ble_eq_true rfl) ⟨(Nat.le_of_ble_eq_true rfl), (Nat.le_of_ble_eq_true rfl)⟩ (Nat.le_of_ble_eq_true rfl) dX0_actBid_8 (fun u_1 hp_2 => ?_)
  have hj_3 := jv_trans hJ hp_2
  exact r_void E dX0_actBid_11 hj_3
set_option maxRecDepth 20000 in
set_option maxHeartbeats 2000000 in
theorem Z_X2_openDoor_69_r2 (l : Launch) (D : va_G) (aC : Nat → ClassId) (b : Nat) (w : XW) (x1 : Int32) (x2 : Int32) (hI : Iv w)  : CnV l D aC b M_X2_openDoor 2 44 0 0 [AR 69, AR 2, AI x1, AI x2] w (fun u => Jv w u) := by
  refine cn_V (own := RX2) (nm := "openDoor") (L0 := [some (AR 69), some (AR 2), some (AI x1), some (AI x2), none, none, none]) (by decide +kernel) rfl rfl (Nat.le_of_ble_eq_true rfl) rfl ?_
  intro p e s m args below meth c E hin
  have hJ : Jv w w := jv_rfl hI
  refine s_aload_n E dX2_openDoor_0 rfl rfl ?_
  refine s_gR (r := 3) E fg_X2_68 rfl rfl (jv_lt hJ (by decide)) (jv_r hJ (by decide +kernel)) dX2_openDoor_1 ?_
  refine s_iload_n E dX2_openDoor_4 rfl rfl ?_
  refine s_iconst (v := 0) E dX2_openDoor_5 (by decide) ?_
  refine s_vI (As := [AI x1, AI 0]) (S := []) E (Z_X8_cell_3 l D aC b w x1 0 hJ.1 ) cv_X2_44 rfl rfl rfl (jv_lt hJ (by decide)) (Nat.le_of_ble_eq_true rfl) (Nat.le_of_ble_eq_true rfl) ⟨(Nat.le_of_ble_eq_true rfl), (Nat.le_of_ble_eq_true rfl)⟩ (Nat.le_of_ble_eq_true rfl) dX2_openDoor_6 (fun z_3 u_1 hp_2 => ?_)
  obtain ⟨hz_3, hp_2⟩ := hp_2
  subst hp_2
  refine s_istore (L2 := [some (AR 69), some (AR 2), some (AI x1), some (AI x2), some (AI z_3), none, none]) E dX2_openDoor_9 (by decide) rfl ?_
  refine s_aload_n E dX2_openDoor_11 rfl rfl ?_
  refine s_gR (r := 3) E fg_X2_68 rfl rfl (jv_lt hJ (by decide)) (jv_r hJ (by decide +kernel)) dX2_openDoor_12 ?_
  refine s_iload_n E dX2_openDoor_15 rfl rfl ?_
  refine s_iconst (v := 1) E dX2_openDoor_16 (by decide) ?_
  refine s_vI (As := [AI x1, AI 1]) (S := []) E (Z_X8_cell_3 l D aC b w x1 1 hJ.1 ) cv_X2_44 rfl rfl rfl (jv_lt hJ (by decide)) (Nat.le_of_ble_eq_true rfl) (Nat.le_of_ble_eq_true rfl) ⟨(Nat.le_of_ble_eq_true rfl), (Nat.le_of_ble_eq_true rfl)⟩ (Nat.le_of_ble_eq_true rfl) dX2_openDoor_17 (fun z_7 u_5 hp_6 => ?_)
  obtain ⟨hz_7, hp_6⟩ := hp_6
  subst hp_6
  refine s_istore (L2 := [some (AR 69), some (AR 2), some (AI x1), some (AI x2), some (AI z_3), some (AI z_7), none]) E dX2_openDoor_20 (by decide) rfl ?_
  refine s_aload_n E dX2_openDoor_22 rfl rfl ?_
  refine s_iload E dX2_openDoor_23 rfl ?_
  refine s_vI (As := [AI z_3]) (S := []) E (Z_X0_hasRoom_2 l D aC b w z_3 hJ.1 ) cv_X2_74 rfl rfl rfl (jv_lt hJ (by decide)) (Nat.le_of_ble_eq_true rfl) (Nat.le_of_ble_eq_true rfl) ⟨(Nat.le_of_ble_eq_true rfl), (Nat.le_of_ble_eq_true rfl)⟩ (Nat.le_of_ble_eq_true rfl) dX2_openDoor_25 (fun z_11 u_9 hp_10 => ?_)
  obtain ⟨hz_11, hp_10⟩ := hp_10
  subst hp_10
  refine z_if_eq (tgt := 40) (u := z_11.toInt) E dX2_openDoor_28 (by decide) rfl (fun h_13 => ?_) (fun h_13 => ?_)
  ·
    exact r_void E dX2_openDoor_40 hJ
  ·
    refine s_aload_n E dX2_openDoor_31 rfl rfl ?_
    refine s_iload E dX2_openDoor_32 rfl ?_
    refine s_vI (As := [AI z_7]) (S := []) E (Z_X0_hasRoom_2 l D aC b w z_7 hJ.1 ) cv_X2_74 rfl rfl rfl (jv_lt hJ (by decide)) (Nat.le_of_ble_eq_true rfl) (Nat.le_of_ble_eq_true rfl) ⟨(Nat.le_of_ble_eq_true rfl), (Nat.le_of_ble_eq_true rfl)⟩ (Nat.le_of_ble_eq_true rfl) dX2_openDoor_34 (fun z_16 u_14 hp_15 => ?_)
    obtain ⟨hz_16, hp_15⟩ := hp_15
    subst hp_15
    refine z_if_ne (tgt := 41) (u := z_16.toInt) E dX2_openDoor_37 (by decide) rfl (fun h_18 => ?_) (fun h_18 => ?_)
    ·
      refine s_iconst (v := 0) E dX2_openDoor_41 (by decide) ?_
      refine s_istore (L2 := [some (AR 69), some (AR 2), some (AI x1), some (AI x2), some (AI z_3), some (AI z_7), some (AI 0)]) E dX2_openDoor_42 (by decide) rfl ?_
      refine z_loop (St := Int32) (Pi := fun q44_6_18 v44 => (0 ≤ q44_6_18.toInt ∧ q44_6_18.toInt ≤ 6) ∧ (1 ≤ (v44.2.2.1 2 1).toInt ∧ (v44.2.2.1 2 1).toInt ≤ 8) ∧ Jv w v44) (Lf := fun q44_6_18 => [some (AR 69), some (AR 2), some (AI x1), some (AI x2), some (AI z_3), some (AI z_7), some (AI q44_6_18)]) (fun q44_6_18 _ => (7 - q44_6_18.toInt).toNat) 0 ⟨⟨by decide, by decide⟩, ⟨by omega, by omega⟩, hJ⟩ ?_
      rintro q44_6_18 v44 ⟨hq44_6, ha44_0, hj_19⟩ ih44
      refine s_loc (L2 := [some (AR 69), some (AR 2), some (AI x1), some (AI x2), some (AI z_3), some (AI z_7), some (AI q44_6_18)]) rfl ?_
      refine s_iload E dX2_openDoor_44 rfl ?_
      refine s_aload_n E dX2_openDoor_46 rfl rfl ?_
      refine s_gI E fg_X2_35 rfl rfl (jv_lt hj_19 (by decide)) dX2_openDoor_47 ?_
      refine z_nm (P := fun z => z.toInt = (v44.2.2.1 69 5).toInt ∧ 0 ≤ z.toInt ∧ z.toInt ≤ 6) ⟨rfl, (rg_69_5 hj_19)⟩ (fun z_20 hz_20 => ?_)
      refine z_icmp_ge (tgt := 113) (u := q44_6_18.toInt) (v := z_20.toInt) E dX2_openDoor_50 (by decide) rfl rfl (fun h_21 => ?_) (fun h_21 => ?_)
      ·
        exact r_void E dX2_openDoor_113 hj_19
      ·
        refine s_aload_n E dX2_openDoor_53 rfl rfl ?_
        refine s_gR (r := 5) E fg_X2_39 rfl rfl (jv_lt hj_19 (by decide)) (jv_r hj_19 (by decide +kernel)) dX2_openDoor_54 ?_
        refine s_iload E dX2_openDoor_57 rfl ?_
        refine s_iconst (v := 1) E dX2_openDoor_59 (by decide) ?_
        refine s_vI (As := [AI q44_6_18, AI 1]) (S := []) E (Z_X8_cell_5 l D aC b v44 q44_6_18 1 hj_19.1 ) cv_X2_44 rfl rfl rfl (jv_lt hj_19 (by decide)) (Nat.le_of_ble_eq_true rfl) (Nat.le_of_ble_eq_true rfl) ⟨(Nat.le_of_ble_eq_true rfl), (Nat.le_of_ble_eq_true rfl)⟩ (Nat.le_of_ble_eq_true rfl) dX2_openDoor_60 (fun z_24 u_22 hp_23 => ?_)
        obtain ⟨hz_24, hp_23⟩ := hp_23
        subst hp_23
        refine s_iload_n E dX2_openDoor_63 rfl rfl ?_
        refine z_icmp_gt (tgt := 107) (u := z_24.toInt) (v := x2.toInt) E dX2_openDoor_64 (by decide) rfl rfl (fun h_26 => ?_) (fun h_26 => ?_)
        ·
          refine z_iinc (u := q44_6_18.toInt) (L2 := fun z_27 => [some (AR 69), some (AR 2), some (AI x1), some (AI x2), some (AI z_3), some (AI z_7), some (AI z_27)]) E dX2_openDoor_107 rfl rfl (by decide) (fun _ => rfl) (by decide) (by omega) (by omega) (fun z_27 hz_27 => ?_)
          refine s_goto (tgt := 44) E dX2_openDoor_110 (by decide) ?_
          exact ih44 z_27 v44 ⟨⟨by have hb_ := z32 z_27; omega, by have hb_ := z32 z_27; omega⟩, ⟨by omega, by omega⟩, hj_19⟩ (by first | omega | (dsimp only; omega))
        ·
          refine s_aload_n E dX2_openDoor_67 rfl rfl ?_
          refine s_gR (r := 70) E fg_X2_9 rfl rfl (jv_lt hj_19 (by decide)) (jv_r hj_19 (by decide +kernel)) dX2_openDoor_68 ?_
          refine s_iload E dX2_openDoor_71 rfl ?_
          refine s_bipush (v := 8) E dX2_openDoor_73 (by decide) ?_
          refine z_imul (u := q44_6_18.toInt) (v := 8) E dX2_openDoor_75 rfl (by decide) (by omega) (by omega) (fun z_28 hz_28 => ?_)
          refine s_iload E dX2_openDoor_76 rfl ?_
          refine z_iadd (u := z_28.toInt) (v := z_3.toInt) E dX2_openDoor_78 rfl rfl (by omega) (by omega) (fun z_29 hz_29 => ?_)
          refine s_dup2 E dX2_openDoor_79 ?_
          refine s_iald E rfl (jv_lt hj_19 (by decide)) (z_in (u := z_29.toInt) rfl (by omega) (by omega)) dX2_openDoor_80 ?_
          refine z_any (fun z_30 => ?_)
          refine s_iconst (v := 1) E dX2_openDoor_81 (by decide) ?_
          refine s_iload E dX2_openDoor_82 rfl ?_
          refine z_shl1 7 (u := z_7.toInt) (B := 128) E dX2_openDoor_84 rfl (by omega) (by omega) (by decide) (by decide) (fun z_31 hz_31 => ?_)
          refine s_ior E dX2_openDoor_85 ?_
          refine z_any (fun z_32 => ?_)
          refine s_iast E rfl (jv_lt hj_19 (by decide)) (z_in (u := z_29.toInt) rfl (by omega) (by omega)) dX2_openDoor_86 ?_
          refine s_gen (P := fun v => Jv w v ∧ (v.2.2.1 2 1).toInt = (v44.2.2.1 2 1).toInt ∧ (v.2.2.1 69 5).toInt = (v44.2.2.1 69 5).toInt) ⟨(jv_a_70 hj_19 (by have hb_ := z32 z_32; omega) (by have hb_ := z32 z_32; omega)), rfl, rfl⟩ (fun v_33 hj_34 => ?_)
          obtain ⟨hj_34, hk_35⟩ := hj_34
          refine s_aload_n E dX2_openDoor_87 rfl rfl ?_
          refine s_gR (r := 70) E fg_X2_9 rfl rfl (jv_lt hj_34 (by decide)) (jv_r hj_34 (by decide +kernel)) dX2_openDoor_88 ?_
          refine s_iload E dX2_openDoor_91 rfl ?_
          refine s_bipush (v := 8) E dX2_openDoor_93 (by decide) ?_
          refine z_imul (u := q44_6_18.toInt) (v := 8) E dX2_openDoor_95 rfl (by decide) (by omega) (by omega) (fun z_36 hz_36 => ?_)
          refine s_iload E dX2_openDoor_96 rfl ?_
          refine z_iadd (u := z_36.toInt) (v := z_7.toInt) E dX2_openDoor_98 rfl rfl (by omega) (by omega) (fun z_37 hz_37 => ?_)
          refine s_dup2 E dX2_openDoor_99 ?_
          refine s_iald E rfl (jv_lt hj_34 (by decide)) (z_in (u := z_37.toInt) rfl (by omega) (by omega)) dX2_openDoor_100 ?_
          refine z_any (fun z_38 => ?_)
          refine s_iconst (v := 1) E dX2_openDoor_101 (by decide) ?_
          refine s_iload E dX2_openDoor_102 rfl ?_
          refine z_shl1 7 (u := z_3.toInt) (B := 128) E dX2_openDoor_104 rfl (by omega) (by omega) (by decide) (by decide) (fun z_39 hz_39 => ?_)
          refine s_ior E dX2_openDoor_105 ?_
          refine z_any (fun z_40 => ?_)
          refine s_iast E rfl (jv_lt hj_34 (by decide)) (z_in (u := z_37.toInt) rfl (by omega) (by omega)) dX2_openDoor_106 ?_
          refine s_gen (P := fun v => Jv w v ∧ (v.2.2.1 2 1).toInt = (v_33.2.2.1 2 1).toInt ∧ (v.2.2.1 69 5).toInt = (v_33.2.2.1 69 5).toInt) ⟨(jv_a_70 hj_34 (by have hb_ := z32 z_40; omega) (by have hb_ := z32 z_40; omega)), rfl, rfl⟩ (fun v_41 hj_42 => ?_)
          obtain ⟨hj_42, hk_43⟩ := hj_42
          refine z_iinc (u := q44_6_18.toInt) (L2 := fun z_44 => [some (AR 69), some (AR 2), some (AI x1), some (AI x2), some (AI z_3), some (AI z_7), some (AI z_44)]) E dX2_openDoor_107 rfl rfl (by decide) (fun _ => rfl) (by decide) (by omega) (by omega) (fun z_44 hz_44 => ?_)
          refine s_goto (tgt := 44) E dX2_openDoor_110 (by decide) ?_
          exact ih44 z_44 v_41 ⟨⟨by have hb_ := z32 z_44; omega, by have hb_ := z32 z_44; omega⟩, ⟨by omega, by omega⟩, hj_42⟩ (by first | omega | (dsimp only; omega))
    ·
      exact r_void E dX2_openDoor_40 hJ
set_option maxRecDepth 20000 in
set_option maxHeartbeats 2000000 in
theorem Z_X2_openDoors_69_r2 (l : Launch) (D : va_G) (aC : Nat → ClassId) (b : Nat) (w : XW) (x1 : Int32) (x2 : Int32) (hI : Iv w)  : CnV l D aC b M_X2_openDoors 3 70 0 0 [AR 69, AR 2, AI x1, AI x2] w (fun u => Jv w u) := by
  refine cn_V (own := RX2) (nm := "openDoors") (L0 := [some (AR 69), some (AR 2), some (AI x1), some (AI x2), none, none]) (by decide +kernel) rfl rfl (Nat.le_of_ble_eq_true rfl) rfl ?_
  intro p e s m args below meth c E hin
  have hJ : Jv w w := jv_rfl hI
  refine s_aload_n E dX2_openDoors_0 rfl rfl ?_
  refine s_aload_n E dX2_openDoors_1 rfl rfl ?_
  refine s_gR (r := 5) E fg_X2_39 rfl rfl (jv_lt hJ (by decide)) (jv_r hJ (by decide +kernel)) dX2_openDoors_2 ?_
  refine s_gI E fg_X2_57 rfl rfl (jv_lt hJ (by decide)) dX2_openDoors_5 ?_
  refine z_nm (P := fun z => z.toInt = (w.2.2.1 5 3).toInt ∧ 0 ≤ z.toInt ∧ z.toInt ≤ 6) ⟨rfl, (rg_5_3 hJ)⟩ (fun z_1 hz_1 => ?_)
  refine s_pI E fp_X2_35 (Or.inl rfl) rfl (jv_lt hJ (by decide)) dX2_openDoors_8 ?_
  refine s_gen (P := Jv w) (jv_f_69_5 hJ (by have hb_ := z32 z_1; omega) (by have hb_ := z32 z_1; omega)) (fun v_2 hj_3 => ?_)
  refine s_aload_n E dX2_openDoors_11 rfl rfl ?_
  refine s_aload_n E dX2_openDoors_12 rfl rfl ?_
  refine s_gI E fg_X2_60 rfl rfl (jv_lt hj_3 (by decide)) dX2_openDoors_13 ?_
  refine z_nm (P := fun z => z.toInt = (v_2.2.2.1 2 1).toInt ∧ 0 ≤ z.toInt ∧ z.toInt ≤ 8) ⟨rfl, (rg_2_1 hj_3)⟩ (fun z_4 hz_4 => ?_)
  refine s_pI E fp_X2_63 (Or.inl rfl) rfl (jv_lt hj_3 (by decide)) dX2_openDoors_16 ?_
  refine s_gen (P := Jv w) (jv_f_69_6 hj_3 (by have hb_ := z32 z_4; omega) (by have hb_ := z32 z_4; omega)) (fun v_5 hj_6 => ?_)
  refine s_aload_n E dX2_openDoors_19 rfl rfl ?_
  refine s_aload_n E dX2_openDoors_20 rfl rfl ?_
  refine s_gI E fg_X2_64 rfl rfl (jv_lt hj_6 (by decide)) dX2_openDoors_21 ?_
  refine z_nm (P := fun z => z.toInt = (v_5.2.2.1 2 2).toInt ∧ 0 ≤ z.toInt ∧ z.toInt ≤ 14) ⟨rfl, (rg_2_2 hj_6)⟩ (fun z_7 hz_7 => ?_)
  refine s_pI E fp_X2_67 (Or.inl rfl) rfl (jv_lt hj_6 (by decide)) dX2_openDoors_24 ?_
  refine s_gen (P := Jv w) (jv_f_69_7 hj_6 (by have hb_ := z32 z_7; omega) (by have hb_ := z32 z_7; omega)) (fun v_8 hj_9 => ?_)
  refine s_iconst (v := 0) E dX2_openDoors_27 (by decide) ?_
  refine s_istore (L2 := [some (AR 69), some (AR 2), some (AI x1), some (AI x2), some (AI 0), none]) E dX2_openDoors_28 (by decide) rfl ?_
  refine z_loop (St := Int32) (Pi := fun q30_4_9 v30 => (0 ≤ q30_4_9.toInt ∧ q30_4_9.toInt ≤ 6) ∧ Jv w v30) (Lf := fun q30_4_9 => [some (AR 69), some (AR 2), some (AI x1), some (AI x2), some (AI q30_4_9), none]) (fun q30_4_9 _ => (7 - q30_4_9.toInt).toNat) 0 ⟨⟨by decide, by decide⟩, hj_9⟩ ?_
  rintro q30_4_9 v30 ⟨hq30_4, hj_10⟩ ih30
  refine s_loc (L2 := [some (AR 69), some (AR 2), some (AI x1), some (AI x2), some (AI q30_4_9), none]) rfl ?_
  refine s_iload E dX2_openDoors_30 rfl ?_
  refine s_aload_n E dX2_openDoors_32 rfl rfl ?_
  refine s_gI E fg_X2_35 rfl rfl (jv_lt hj_10 (by decide)) dX2_openDoors_33 ?_
  refine z_nm (P := fun z => z.toInt = (v30.2.2.1 69 5).toInt ∧ 0 ≤ z.toInt ∧ z.toInt ≤ 6) ⟨rfl, (rg_69_5 hj_10)⟩ (fun z_11 hz_11 => ?_)
  refine z_icmp_ge (tgt := 80) (u := q30_4_9.toInt) (v := z_11.toInt) E dX2_openDoors_36 (by decide) rfl rfl (fun h_12 => ?_) (fun h_12 => ?_)
  ·
    refine s_iconst (v := 0) E dX2_openDoors_80 (by decide) ?_
    refine s_istore (L2 := [some (AR 69), some (AR 2), some (AI x1), some (AI x2), some (AI 0), none]) E dX2_openDoors_81 (by decide) rfl ?_
    refine z_loop (St := Int32) (Pi := fun q83_4_12 v83 => (0 ≤ q83_4_12.toInt ∧ q83_4_12.toInt ≤ 12) ∧ Jv w v83) (Lf := fun q83_4_12 => [some (AR 69), some (AR 2), some (AI x1), some (AI x2), some (AI q83_4_12), none]) (fun q83_4_12 _ => (13 - q83_4_12.toInt).toNat) 0 ⟨⟨by decide, by decide⟩, hj_10⟩ ?_
    rintro q83_4_12 v83 ⟨hq83_4, hj_13⟩ ih83
    refine s_loc (L2 := [some (AR 69), some (AR 2), some (AI x1), some (AI x2), some (AI q83_4_12), none]) rfl ?_
    refine s_iload E dX2_openDoors_83 rfl ?_
    refine s_aload_n E dX2_openDoors_85 rfl rfl ?_
    refine s_gR (r := 3) E fg_X2_68 rfl rfl (jv_lt hj_13 (by decide)) (jv_r hj_13 (by decide +kernel)) dX2_openDoors_86 ?_
    refine s_gI E fg_X2_57 rfl rfl (jv_lt hj_13 (by decide)) dX2_openDoors_89 ?_
    refine z_nm (P := fun z => z.toInt = (v83.2.2.1 3 3).toInt ∧ 0 ≤ z.toInt ∧ z.toInt ≤ 12) ⟨rfl, (rg_3_3 hj_13)⟩ (fun z_14 hz_14 => ?_)
    refine z_icmp_ge (tgt := 146) (u := q83_4_12.toInt) (v := z_14.toInt) E dX2_openDoors_92 (by decide) rfl rfl (fun h_15 => ?_) (fun h_15 => ?_)
    ·
      exact r_void E dX2_openDoors_146 hj_13
    ·
      refine s_iload E dX2_openDoors_95 rfl ?_
      refine s_iload_n E dX2_openDoors_97 rfl rfl ?_
      refine z_icmp_eq (tgt := 107) (u := q83_4_12.toInt) (v := x1.toInt) E dX2_openDoors_98 (by decide) rfl rfl (fun h_16 => ?_) (fun h_16 => ?_)
      ·
        refine s_iconst (v := 1) E dX2_openDoors_107 (by decide) ?_
        refine s_goto (tgt := 112) E dX2_openDoors_108 (by decide) ?_
        refine s_istore (L2 := [some (AR 69), some (AR 2), some (AI x1), some (AI x2), some (AI q83_4_12), some (AI 1)]) E dX2_openDoors_112 (by decide) rfl ?_
        refine s_aload_n E dX2_openDoors_114 rfl rfl ?_
        refine s_aload_n E dX2_openDoors_115 rfl rfl ?_
        refine s_iload E dX2_openDoors_116 rfl ?_
        refine s_iload E dX2_openDoors_118 rfl ?_
        refine z_if_eq (tgt := 127) (u := 1) E dX2_openDoors_120 (by decide) (by decide) (fun h_17 => absurd h_17 (by omega)) (fun h_17 => ?_)
        refine s_iload_n E dX2_openDoors_123 rfl rfl ?_
        refine s_goto (tgt := 137) E dX2_openDoors_124 (by decide) ?_
        refine s_vV (As := [AR 2, AI q83_4_12, AI x2]) (S := []) E (Z_X2_openDoor_69_r2 l D aC b v83 q83_4_12 x2 hj_13.1 ) cv_X2_71 rfl rfl rfl (jv_lt hj_13 (by decide)) (Nat.le_of_ble_eq_true rfl) (Nat.le_of_ble_eq_true rfl) ⟨(Nat.le_of_ble_eq_true rfl), (Nat.le_of_ble_eq_true rfl)⟩ (Nat.le_of_ble_eq_true rfl) dX2_openDoors_137 (fun u_18 hp_19 => ?_)
        have hj_20 := jv_trans hj_13 hp_19
        refine z_iinc (u := q83_4_12.toInt) (L2 := fun z_21 => [some (AR 69), some (AR 2), some (AI x1), some (AI x2), some (AI z_21), some (AI 1)]) E dX2_openDoors_140 rfl rfl (by decide) (fun _ => rfl) (by decide) (by omega) (by omega) (fun z_21 hz_21 => ?_)
        refine s_goto (tgt := 83) E dX2_openDoors_143 (by decide) ?_
        refine s_drop (i := 5) (L2 := [some (AR 69), some (AR 2), some (AI x1), some (AI x2), some (AI z_21), none]) rfl ?_
        exact ih83 z_21 u_18 ⟨⟨by have hb_ := z32 z_21; omega, by have hb_ := z32 z_21; omega⟩, hj_20⟩ (by first | omega | (dsimp only; omega))
      ·
        refine s_iload_n E dX2_openDoors_101 rfl rfl ?_
        refine s_bipush (v := (-2)) E dX2_openDoors_102 (by decide) ?_
        refine z_icmp_ne (tgt := 111) (u := x1.toInt) (v := (-2)) E dX2_openDoors_104 (by decide) rfl (by decide) (fun h_22 => ?_) (fun h_22 => ?_)
        ·
          refine s_iconst (v := 0) E dX2_openDoors_111 (by decide) ?_
          refine s_istore (L2 := [some (AR 69), some (AR 2), some (AI x1), some (AI x2), some (AI q83_4_12), some (AI 0)]) E dX2_openDoors_112 (by decide) rfl ?_
          refine s_aload_n E dX2_openDoors_114 rfl rfl ?_
          refine s_aload_n E dX2_openDoors_115 rfl rfl ?_
          refine s_iload E dX2_openDoors_116 rfl ?_
          refine s_iload E dX2_openDoors_118 rfl ?_
          refine z_if_eq (tgt := 127) (u := 0) E dX2_openDoors_120 (by decide) (by decide) (fun h_23 => ?_) (fun h_23 => absurd h_23 (by omega))
          refine s_aload_n E dX2_openDoors_127 rfl rfl ?_
          refine s_gR (r := 3) E fg_X2_68 rfl rfl (jv_lt hj_13 (by decide)) (jv_r hj_13 (by decide +kernel)) dX2_openDoors_128 ?_
          refine s_iload E dX2_openDoors_131 rfl ?_
          refine s_iconst (v := 2) E dX2_openDoors_133 (by decide) ?_
          refine s_vI (As := [AI q83_4_12, AI 2]) (S := [AI q83_4_12, AR 2, AR 69]) E (Z_X8_cell_3 l D aC b v83 q83_4_12 2 hj_13.1 ) cv_X2_44 rfl rfl rfl (jv_lt hj_13 (by decide)) (Nat.le_of_ble_eq_true rfl) (Nat.le_of_ble_eq_true rfl) ⟨(Nat.le_of_ble_eq_true rfl), (Nat.le_of_ble_eq_true rfl)⟩ (Nat.le_of_ble_eq_true rfl) dX2_openDoors_134 (fun z_26 u_24 hp_25 => ?_)
          obtain ⟨hz_26, hp_25⟩ := hp_25
          subst hp_25
          refine s_vV (As := [AR 2, AI q83_4_12, AI z_26]) (S := []) E (Z_X2_openDoor_69_r2 l D aC b v83 q83_4_12 z_26 hj_13.1 ) cv_X2_71 rfl rfl rfl (jv_lt hj_13 (by decide)) (Nat.le_of_ble_eq_true rfl) (Nat.le_of_ble_eq_true rfl) ⟨(Nat.le_of_ble_eq_true rfl), (Nat.le_of_ble_eq_true rfl)⟩ (Nat.le_of_ble_eq_true rfl) dX2_openDoors_137 (fun u_28 hp_29 => ?_)
          have hj_30 := jv_trans hj_13 hp_29
          refine z_iinc (u := q83_4_12.toInt) (L2 := fun z_31 => [some (AR 69), some (AR 2), some (AI x1), some (AI x2), some (AI z_31), some (AI 0)]) E dX2_openDoors_140 rfl rfl (by decide) (fun _ => rfl) (by decide) (by omega) (by omega) (fun z_31 hz_31 => ?_)
          refine s_goto (tgt := 83) E dX2_openDoors_143 (by decide) ?_
          refine s_drop (i := 5) (L2 := [some (AR 69), some (AR 2), some (AI x1), some (AI x2), some (AI z_31), none]) rfl ?_
          exact ih83 z_31 u_28 ⟨⟨by have hb_ := z32 z_31; omega, by have hb_ := z32 z_31; omega⟩, hj_30⟩ (by first | omega | (dsimp only; omega))
        ·
          refine s_iconst (v := 1) E dX2_openDoors_107 (by decide) ?_
          refine s_goto (tgt := 112) E dX2_openDoors_108 (by decide) ?_
          refine s_istore (L2 := [some (AR 69), some (AR 2), some (AI x1), some (AI x2), some (AI q83_4_12), some (AI 1)]) E dX2_openDoors_112 (by decide) rfl ?_
          refine s_aload_n E dX2_openDoors_114 rfl rfl ?_
          refine s_aload_n E dX2_openDoors_115 rfl rfl ?_
          refine s_iload E dX2_openDoors_116 rfl ?_
          refine s_iload E dX2_openDoors_118 rfl ?_
          refine z_if_eq (tgt := 127) (u := 1) E dX2_openDoors_120 (by decide) (by decide) (fun h_32 => absurd h_32 (by omega)) (fun h_32 => ?_)
          refine s_iload_n E dX2_openDoors_123 rfl rfl ?_
          refine s_goto (tgt := 137) E dX2_openDoors_124 (by decide) ?_
          refine s_vV (As := [AR 2, AI q83_4_12, AI x2]) (S := []) E (Z_X2_openDoor_69_r2 l D aC b v83 q83_4_12 x2 hj_13.1 ) cv_X2_71 rfl rfl rfl (jv_lt hj_13 (by decide)) (Nat.le_of_ble_eq_true rfl) (Nat.le_of_ble_eq_true rfl) ⟨(Nat.le_of_ble_eq_true rfl), (Nat.le_of_ble_eq_true rfl)⟩ (Nat.le_of_ble_eq_true rfl) dX2_openDoors_137 (fun u_33 hp_34 => ?_)
          have hj_35 := jv_trans hj_13 hp_34
          refine z_iinc (u := q83_4_12.toInt) (L2 := fun z_36 => [some (AR 69), some (AR 2), some (AI x1), some (AI x2), some (AI z_36), some (AI 1)]) E dX2_openDoors_140 rfl rfl (by decide) (fun _ => rfl) (by decide) (by omega) (by omega) (fun z_36 hz_36 => ?_)
          refine s_goto (tgt := 83) E dX2_openDoors_143 (by decide) ?_
          refine s_drop (i := 5) (L2 := [some (AR 69), some (AR 2), some (AI x1), some (AI x2), some (AI z_36), none]) rfl ?_
          exact ih83 z_36 u_33 ⟨⟨by have hb_ := z32 z_36; omega, by have hb_ := z32 z_36; omega⟩, hj_35⟩ (by first | omega | (dsimp only; omega))
  ·
    refine s_iconst (v := 0) E dX2_openDoors_39 (by decide) ?_
    refine s_istore (L2 := [some (AR 69), some (AR 2), some (AI x1), some (AI x2), some (AI q30_4_9), some (AI 0)]) E dX2_openDoors_40 (by decide) rfl ?_
    refine z_loop (St := Int32) (Pi := fun q42_5_36 v42 => (0 ≤ q42_5_36.toInt ∧ q42_5_36.toInt ≤ 8) ∧ (1 ≤ (v42.2.2.1 69 5).toInt ∧ (v42.2.2.1 69 5).toInt ≤ 6) ∧ Jv w v42) (Lf := fun q42_5_36 => [some (AR 69), some (AR 2), some (AI x1), some (AI x2), some (AI q30_4_9), some (AI q42_5_36)]) (fun q42_5_36 _ => (9 - q42_5_36.toInt).toNat) 0 ⟨⟨by decide, by decide⟩, ⟨by omega, by omega⟩, hj_10⟩ ?_
    rintro q42_5_36 v42 ⟨hq42_5, ha42_0, hj_37⟩ ih42
    refine s_loc (L2 := [some (AR 69), some (AR 2), some (AI x1), some (AI x2), some (AI q30_4_9), some (AI q42_5_36)]) rfl ?_
    refine s_iload E dX2_openDoors_42 rfl ?_
    refine s_aload_n E dX2_openDoors_44 rfl rfl ?_
    refine s_gI E fg_X2_63 rfl rfl (jv_lt hj_37 (by decide)) dX2_openDoors_45 ?_
    refine z_nm (P := fun z => z.toInt = (v42.2.2.1 69 6).toInt ∧ 0 ≤ z.toInt ∧ z.toInt ≤ 8) ⟨rfl, (rg_69_6 hj_37)⟩ (fun z_38 hz_38 => ?_)
    refine z_icmp_ge (tgt := 74) (u := q42_5_36.toInt) (v := z_38.toInt) E dX2_openDoors_48 (by decide) rfl rfl (fun h_39 => ?_) (fun h_39 => ?_)
    ·
      refine z_iinc (u := q30_4_9.toInt) (L2 := fun z_40 => [some (AR 69), some (AR 2), some (AI x1), some (AI x2), some (AI z_40), some (AI q42_5_36)]) E dX2_openDoors_74 rfl rfl (by decide) (fun _ => rfl) (by decide) (by omega) (by omega) (fun z_40 hz_40 => ?_)
      refine s_goto (tgt := 30) E dX2_openDoors_77 (by decide) ?_
      refine s_drop (i := 5) (L2 := [some (AR 69), some (AR 2), some (AI x1), some (AI x2), some (AI z_40), none]) rfl ?_
      exact ih30 z_40 v42 ⟨⟨by have hb_ := z32 z_40; omega, by have hb_ := z32 z_40; omega⟩, hj_37⟩ (by first | omega | (dsimp only; omega))
    ·
      refine s_aload_n E dX2_openDoors_51 rfl rfl ?_
      refine s_gR (r := 70) E fg_X2_9 rfl rfl (jv_lt hj_37 (by decide)) (jv_r hj_37 (by decide +kernel)) dX2_openDoors_52 ?_
      refine s_iload E dX2_openDoors_55 rfl ?_
      refine s_bipush (v := 8) E dX2_openDoors_57 (by decide) ?_
      refine z_imul (u := q30_4_9.toInt) (v := 8) E dX2_openDoors_59 rfl (by decide) (by omega) (by omega) (fun z_41 hz_41 => ?_)
      refine s_iload E dX2_openDoors_60 rfl ?_
      refine z_iadd (u := z_41.toInt) (v := q42_5_36.toInt) E dX2_openDoors_62 rfl rfl (by omega) (by omega) (fun z_42 hz_42 => ?_)
      refine s_iconst (v := 1) E dX2_openDoors_63 (by decide) ?_
      refine s_iload E dX2_openDoors_64 rfl ?_
      refine z_shl1 7 (u := q42_5_36.toInt) (B := 128) E dX2_openDoors_66 rfl (by omega) (by omega) (by decide) (by decide) (fun z_43 hz_43 => ?_)
      refine s_iast E rfl (jv_lt hj_37 (by decide)) (z_in (u := z_42.toInt) rfl (by omega) (by omega)) dX2_openDoors_67 ?_
      refine s_gen (P := fun v => Jv w v ∧ (v.2.2.1 69 5).toInt = (v42.2.2.1 69 5).toInt ∧ (v.2.2.1 69 6).toInt = (v42.2.2.1 69 6).toInt) ⟨(jv_a_70 hj_37 (by have hb_ := z32 z_43; omega) (by have hb_ := z32 z_43; omega)), rfl, rfl⟩ (fun v_44 hj_45 => ?_)
      obtain ⟨hj_45, hk_46⟩ := hj_45
      refine z_iinc (u := q42_5_36.toInt) (L2 := fun z_47 => [some (AR 69), some (AR 2), some (AI x1), some (AI x2), some (AI q30_4_9), some (AI z_47)]) E dX2_openDoors_68 rfl rfl (by decide) (fun _ => rfl) (by decide) (by omega) (by omega) (fun z_47 hz_47 => ?_)
      refine s_goto (tgt := 42) E dX2_openDoors_71 (by decide) ?_
      exact ih42 z_47 v_44 ⟨⟨by have hb_ := z32 z_47; omega, by have hb_ := z32 z_47; omega⟩, ⟨by omega, by omega⟩, hj_45⟩ (by first | omega | (dsimp only; omega))
set_option maxRecDepth 20000 in
set_option maxHeartbeats 2000000 in
theorem Z_J7_fill_53178_r71 (l : Launch) (D : va_G) (aC : Nat → ClassId) (b : Nat) (w : XW) (x1 : Int32) (hI : Iv w)  : CnV l D aC b M_J7_fill_53178 0 0 0 0 [AR 71, AI x1] w (fun u => Jv w u) := by
  refine cn_V (own := RJ7) (nm := "fill") (L0 := [some (AR 71), some (AI x1), none, none]) (by decide +kernel) rfl rfl (Nat.le_of_ble_eq_true rfl) rfl ?_
  intro p e s m args below meth c E hin
  have hJ : Jv w w := jv_rfl hI
  refine s_iconst (v := 0) E dJ7_fill_53178_0 (by decide) ?_
  refine s_istore_n (L2 := [some (AR 71), some (AI x1), some (AI 0), none]) E dJ7_fill_53178_1 rfl (by decide) rfl ?_
  refine s_aload_n E dJ7_fill_53178_2 rfl rfl ?_
  refine s_alen (v := 90) E rfl (by decide) (jv_lt hJ (by decide)) (by decide) dJ7_fill_53178_3 ?_
  refine s_istore_n (L2 := [some (AR 71), some (AI x1), some (AI 0), some (AI 90)]) E dJ7_fill_53178_4 rfl (by decide) rfl ?_
  refine z_loop (St := Int32) (Pi := fun q5_2_0 v5 => (0 ≤ q5_2_0.toInt ∧ q5_2_0.toInt ≤ 90) ∧ Jv w v5) (Lf := fun q5_2_0 => [some (AR 71), some (AI x1), some (AI q5_2_0), some (AI 90)]) (fun q5_2_0 _ => (91 - q5_2_0.toInt).toNat) 0 ⟨⟨by decide, by decide⟩, hJ⟩ ?_
  rintro q5_2_0 v5 ⟨hq5_2, hj_1⟩ ih5
  refine s_loc (L2 := [some (AR 71), some (AI x1), some (AI q5_2_0), some (AI 90)]) rfl ?_
  refine s_iload_n E dJ7_fill_53178_5 rfl rfl ?_
  refine s_iload_n E dJ7_fill_53178_6 rfl rfl ?_
  refine z_icmp_ge (tgt := 20) (u := q5_2_0.toInt) (v := 90) E dJ7_fill_53178_7 (by decide) rfl (by decide) (fun h_2 => ?_) (fun h_2 => ?_)
  ·
    exact r_void E dJ7_fill_53178_20 hj_1
  ·
    refine s_aload_n E dJ7_fill_53178_10 rfl rfl ?_
    refine s_iload_n E dJ7_fill_53178_11 rfl rfl ?_
    refine s_iload_n E dJ7_fill_53178_12 rfl rfl ?_
    refine s_iast E rfl (jv_lt hj_1 (by decide)) (z_in (u := q5_2_0.toInt) rfl (by omega) (by omega)) dJ7_fill_53178_13 ?_
    refine s_gen (P := Jv w) (jv_a_71 hj_1 (by have hb_ := z32 x1; omega) (by have hb_ := z32 x1; omega)) (fun v_3 hj_4 => ?_)
    refine z_iinc (u := q5_2_0.toInt) (L2 := fun z_5 => [some (AR 71), some (AI x1), some (AI z_5), some (AI 90)]) E dJ7_fill_53178_14 rfl rfl (by decide) (fun _ => rfl) (by decide) (by omega) (by omega) (fun z_5 hz_5 => ?_)
    refine s_goto (tgt := 5) E dJ7_fill_53178_17 (by decide) ?_
    exact ih5 z_5 v_3 ⟨⟨by have hb_ := z32 z_5; omega, by have hb_ := z32 z_5; omega⟩, hj_4⟩ (by first | omega | (dsimp only; omega))
set_option maxRecDepth 20000 in
set_option maxHeartbeats 2000000 in
theorem Z_J7_fill_53178_r72 (l : Launch) (D : va_G) (aC : Nat → ClassId) (b : Nat) (w : XW) (x1 : Int32) (hI : Iv w)  : CnV l D aC b M_J7_fill_53178 0 0 0 0 [AR 72, AI x1] w (fun u => Jv w u) := by
  refine cn_V (own := RJ7) (nm := "fill") (L0 := [some (AR 72), some (AI x1), none, none]) (by decide +kernel) rfl rfl (Nat.le_of_ble_eq_true rfl) rfl ?_
  intro p e s m args below meth c E hin
  have hJ : Jv w w := jv_rfl hI
  refine s_iconst (v := 0) E dJ7_fill_53178_0 (by decide) ?_
  refine s_istore_n (L2 := [some (AR 72), some (AI x1), some (AI 0), none]) E dJ7_fill_53178_1 rfl (by decide) rfl ?_
  refine s_aload_n E dJ7_fill_53178_2 rfl rfl ?_
  refine s_alen (v := 90) E rfl (by decide) (jv_lt hJ (by decide)) (by decide) dJ7_fill_53178_3 ?_
  refine s_istore_n (L2 := [some (AR 72), some (AI x1), some (AI 0), some (AI 90)]) E dJ7_fill_53178_4 rfl (by decide) rfl ?_
  refine z_loop (St := Int32) (Pi := fun q5_2_0 v5 => (0 ≤ q5_2_0.toInt ∧ q5_2_0.toInt ≤ 90) ∧ Jv w v5) (Lf := fun q5_2_0 => [some (AR 72), some (AI x1), some (AI q5_2_0), some (AI 90)]) (fun q5_2_0 _ => (91 - q5_2_0.toInt).toNat) 0 ⟨⟨by decide, by decide⟩, hJ⟩ ?_
  rintro q5_2_0 v5 ⟨hq5_2, hj_1⟩ ih5
  refine s_loc (L2 := [some (AR 72), some (AI x1), some (AI q5_2_0), some (AI 90)]) rfl ?_
  refine s_iload_n E dJ7_fill_53178_5 rfl rfl ?_
  refine s_iload_n E dJ7_fill_53178_6 rfl rfl ?_
  refine z_icmp_ge (tgt := 20) (u := q5_2_0.toInt) (v := 90) E dJ7_fill_53178_7 (by decide) rfl (by decide) (fun h_2 => ?_) (fun h_2 => ?_)
  ·
    exact r_void E dJ7_fill_53178_20 hj_1
  ·
    refine s_aload_n E dJ7_fill_53178_10 rfl rfl ?_
    refine s_iload_n E dJ7_fill_53178_11 rfl rfl ?_
    refine s_iload_n E dJ7_fill_53178_12 rfl rfl ?_
    refine s_iast E rfl (jv_lt hj_1 (by decide)) (z_in (u := q5_2_0.toInt) rfl (by omega) (by omega)) dJ7_fill_53178_13 ?_
    refine s_gen (P := Jv w) (jv_a_72 hj_1 (by have hb_ := z32 x1; omega) (by have hb_ := z32 x1; omega)) (fun v_3 hj_4 => ?_)
    refine z_iinc (u := q5_2_0.toInt) (L2 := fun z_5 => [some (AR 72), some (AI x1), some (AI z_5), some (AI 90)]) E dJ7_fill_53178_14 rfl rfl (by decide) (fun _ => rfl) (by decide) (by omega) (by omega) (fun z_5 hz_5 => ?_)
    refine s_goto (tgt := 5) E dJ7_fill_53178_17 (by decide) ?_
    exact ih5 z_5 v_3 ⟨⟨by have hb_ := z32 z_5; omega, by have hb_ := z32 z_5; omega⟩, hj_4⟩ (by first | omega | (dsimp only; omega))
set_option maxRecDepth 20000 in
set_option maxHeartbeats 2000000 in
theorem Z_X2_hearBid_69 (l : Launch) (D : va_G) (aC : Nat → ClassId) (b : Nat) (w : XW) (x1 : Int32) (x2 : Int32) (x3 : Int32) (hI : Iv w)  : CnV l D aC b M_X2_hearBid 0 0 0 0 [AR 69, AI x1, AI x2, AI x3] w (fun u => Jv w u) := by
  refine cn_V (own := RX2) (nm := "hearBid") (L0 := [some (AR 69), some (AI x1), some (AI x2), some (AI x3), none]) (by decide +kernel) rfl rfl (Nat.le_of_ble_eq_true rfl) rfl ?_
  intro p e s m args below meth c E hin
  have hJ : Jv w w := jv_rfl hI
  refine s_iload_n E dX2_hearBid_0 rfl rfl ?_
  refine z_if_lt (tgt := 16) (u := x1.toInt) E dX2_hearBid_1 (by decide) rfl (fun h_1 => ?_) (fun h_1 => ?_)
  ·
    exact r_void E dX2_hearBid_16 hJ
  ·
    refine s_iload_n E dX2_hearBid_4 rfl rfl ?_
    refine s_aload_n E dX2_hearBid_5 rfl rfl ?_
    refine s_gI E fg_X2_35 rfl rfl (jv_lt hJ (by decide)) dX2_hearBid_6 ?_
    refine z_nm (P := fun z => z.toInt = (w.2.2.1 69 5).toInt ∧ 0 ≤ z.toInt ∧ z.toInt ≤ 6) ⟨rfl, (rg_69_5 hJ)⟩ (fun z_2 hz_2 => ?_)
    refine z_icmp_ge (tgt := 16) (u := x1.toInt) (v := z_2.toInt) E dX2_hearBid_9 (by decide) rfl rfl (fun h_3 => ?_) (fun h_3 => ?_)
    ·
      exact r_void E dX2_hearBid_16 hJ
    ·
      refine s_iload_n E dX2_hearBid_12 rfl rfl ?_
      refine z_if_ge (tgt := 17) (u := x3.toInt) E dX2_hearBid_13 (by decide) rfl (fun h_4 => ?_) (fun h_4 => ?_)
      ·
        refine s_iload_n E dX2_hearBid_17 rfl rfl ?_
        refine s_istore (L2 := [some (AR 69), some (AI x1), some (AI x2), some (AI x3), some (AI x3)]) E dX2_hearBid_18 (by decide) rfl ?_
        refine z_loop (St := Int32) (Pi := fun q20_4_4 v20 => (0 ≤ q20_4_4.toInt ∧ q20_4_4.toInt ≤ 2147483647) ∧ (1 ≤ (v20.2.2.1 69 5).toInt ∧ (v20.2.2.1 69 5).toInt ≤ 6) ∧ Jv w v20) (Lf := fun q20_4_4 => [some (AR 69), some (AI x1), some (AI x2), some (AI x3), some (AI q20_4_4)]) (fun q20_4_4 _ => (2147483648 - q20_4_4.toInt).toNat) x3 ⟨⟨by have hb_ := z32 x3; omega, by have hb_ := z32 x3; omega⟩, ⟨by omega, by omega⟩, hJ⟩ ?_
        rintro q20_4_4 v20 ⟨hq20_4, ha20_0, hj_5⟩ ih20
        refine s_loc (L2 := [some (AR 69), some (AI x1), some (AI x2), some (AI x3), some (AI q20_4_4)]) rfl ?_
        refine s_iload E dX2_hearBid_20 rfl ?_
        refine s_aload_n E dX2_hearBid_22 rfl rfl ?_
        refine s_gI E fg_X2_67 rfl rfl (jv_lt hj_5 (by decide)) dX2_hearBid_23 ?_
        refine z_nm (P := fun z => z.toInt = (v20.2.2.1 69 7).toInt ∧ 0 ≤ z.toInt ∧ z.toInt ≤ 14) ⟨rfl, (rg_69_7 hj_5)⟩ (fun z_6 hz_6 => ?_)
        refine z_icmp_gt (tgt := 77) (u := q20_4_4.toInt) (v := z_6.toInt) E dX2_hearBid_26 (by decide) rfl rfl (fun h_7 => ?_) (fun h_7 => ?_)
        ·
          exact r_void E dX2_hearBid_77 hj_5
        ·
          refine s_aload_n E dX2_hearBid_29 rfl rfl ?_
          refine s_gR (r := 72) E fg_X2_18 rfl rfl (jv_lt hj_5 (by decide)) (jv_r hj_5 (by decide +kernel)) dX2_hearBid_30 ?_
          refine s_iload_n E dX2_hearBid_33 rfl rfl ?_
          refine s_bipush (v := 15) E dX2_hearBid_34 (by decide) ?_
          refine z_imul (u := x1.toInt) (v := 15) E dX2_hearBid_36 rfl (by decide) (by omega) (by omega) (fun z_8 hz_8 => ?_)
          refine s_iload E dX2_hearBid_37 rfl ?_
          refine z_iadd (u := z_8.toInt) (v := q20_4_4.toInt) E dX2_hearBid_39 rfl rfl (by omega) (by omega) (fun z_9 hz_9 => ?_)
          refine s_iald E rfl (jv_lt hj_5 (by decide)) (z_in (u := z_9.toInt) rfl (by omega) (by omega)) dX2_hearBid_40 ?_
          refine z_any (fun z_10 => ?_)
          refine s_iload_n E dX2_hearBid_41 rfl rfl ?_
          refine z_icmp_gt (tgt := 71) (u := z_10.toInt) (v := x3.toInt) E dX2_hearBid_42 (by decide) rfl rfl (fun h_11 => ?_) (fun h_11 => ?_)
          ·
            refine z_iinc (u := q20_4_4.toInt) (L2 := fun z_12 => [some (AR 69), some (AI x1), some (AI x2), some (AI x3), some (AI z_12)]) E dX2_hearBid_71 rfl rfl (by decide) (fun _ => rfl) (by decide) (by omega) (by omega) (fun z_12 hz_12 => ?_)
            refine s_goto (tgt := 20) E dX2_hearBid_74 (by decide) ?_
            exact ih20 z_12 v20 ⟨⟨by have hb_ := z32 z_12; omega, by have hb_ := z32 z_12; omega⟩, ⟨by omega, by omega⟩, hj_5⟩ (by first | omega | (dsimp only; omega))
          ·
            refine s_aload_n E dX2_hearBid_45 rfl rfl ?_
            refine s_gR (r := 72) E fg_X2_18 rfl rfl (jv_lt hj_5 (by decide)) (jv_r hj_5 (by decide +kernel)) dX2_hearBid_46 ?_
            refine s_iload_n E dX2_hearBid_49 rfl rfl ?_
            refine s_bipush (v := 15) E dX2_hearBid_50 (by decide) ?_
            refine z_imul (u := x1.toInt) (v := 15) E dX2_hearBid_52 rfl (by decide) (by omega) (by omega) (fun z_13 hz_13 => ?_)
            refine s_iload E dX2_hearBid_53 rfl ?_
            refine z_iadd (u := z_13.toInt) (v := q20_4_4.toInt) E dX2_hearBid_55 rfl rfl (by omega) (by omega) (fun z_14 hz_14 => ?_)
            refine s_iload_n E dX2_hearBid_56 rfl rfl ?_
            refine s_iast E rfl (jv_lt hj_5 (by decide)) (z_in (u := z_14.toInt) rfl (by omega) (by omega)) dX2_hearBid_57 ?_
            refine s_gen (P := fun v => Jv w v ∧ (v.2.2.1 69 5).toInt = (v20.2.2.1 69 5).toInt) ⟨(jv_a_72 hj_5 (by have hb_ := z32 x3; omega) (by have hb_ := z32 x3; omega)), rfl⟩ (fun v_15 hj_16 => ?_)
            obtain ⟨hj_16, hk_17⟩ := hj_16
            refine s_aload_n E dX2_hearBid_58 rfl rfl ?_
            refine s_gR (r := 71) E fg_X2_15 rfl rfl (jv_lt hj_16 (by decide)) (jv_r hj_16 (by decide +kernel)) dX2_hearBid_59 ?_
            refine s_iload_n E dX2_hearBid_62 rfl rfl ?_
            refine s_bipush (v := 15) E dX2_hearBid_63 (by decide) ?_
            refine z_imul (u := x1.toInt) (v := 15) E dX2_hearBid_65 rfl (by decide) (by omega) (by omega) (fun z_18 hz_18 => ?_)
            refine s_iload E dX2_hearBid_66 rfl ?_
            refine z_iadd (u := z_18.toInt) (v := q20_4_4.toInt) E dX2_hearBid_68 rfl rfl (by omega) (by omega) (fun z_19 hz_19 => ?_)
            refine s_iload_n E dX2_hearBid_69 rfl rfl ?_
            refine s_iast E rfl (jv_lt hj_16 (by decide)) (z_in (u := z_19.toInt) rfl (by omega) (by omega)) dX2_hearBid_70 ?_
            refine s_gen (P := fun v => Jv w v ∧ (v.2.2.1 69 5).toInt = (v_15.2.2.1 69 5).toInt) ⟨(jv_a_71 hj_16 (by have hb_ := z32 x2; omega) (by have hb_ := z32 x2; omega)), rfl⟩ (fun v_20 hj_21 => ?_)
            obtain ⟨hj_21, hk_22⟩ := hj_21
            refine z_iinc (u := q20_4_4.toInt) (L2 := fun z_23 => [some (AR 69), some (AI x1), some (AI x2), some (AI x3), some (AI z_23)]) E dX2_hearBid_71 rfl rfl (by decide) (fun _ => rfl) (by decide) (by omega) (by omega) (fun z_23 hz_23 => ?_)
            refine s_goto (tgt := 20) E dX2_hearBid_74 (by decide) ?_
            exact ih20 z_23 v_20 ⟨⟨by have hb_ := z32 z_23; omega, by have hb_ := z32 z_23; omega⟩, ⟨by omega, by omega⟩, hj_21⟩ (by first | omega | (dsimp only; omega))
      ·
        exact r_void E dX2_hearBid_16 hJ
set_option maxRecDepth 20000 in
set_option maxHeartbeats 2000000 in
theorem Z_X2_hearBids_69_r2 (l : Launch) (D : va_G) (aC : Nat → ClassId) (b : Nat) (w : XW)  (hI : Iv w)  : CnV l D aC b M_X2_hearBids 2 44 0 0 [AR 69, AR 2] w (fun u => Jv w u) := by
  refine cn_V (own := RX2) (nm := "hearBids") (L0 := [some (AR 69), some (AR 2), none]) (by decide +kernel) rfl rfl (Nat.le_of_ble_eq_true rfl) rfl ?_
  intro p e s m args below meth c E hin
  have hJ : Jv w w := jv_rfl hI
  refine s_aload_n E dX2_hearBids_0 rfl rfl ?_
  refine s_gR (r := 71) E fg_X2_15 rfl rfl (jv_lt hJ (by decide)) (jv_r hJ (by decide +kernel)) dX2_hearBids_1 ?_
  refine s_iconst (v := (-1)) E dX2_hearBids_4 (by decide) ?_
  refine s_sV (As := [AR 71, AI (-1)]) (S := []) E (Z_J7_fill_53178_r71 l D aC b w ((-1)) hJ.1 ) cs_X2_78 rfl rfl (Nat.le_of_ble_eq_true rfl) (Nat.le_of_ble_eq_true rfl) ⟨(Nat.le_of_ble_eq_true rfl), (Nat.le_of_ble_eq_true rfl)⟩ (Nat.le_of_ble_eq_true rfl) dX2_hearBids_5 (fun u_1 hp_2 => ?_)
  have hj_3 := jv_trans hJ hp_2
  refine s_aload_n E dX2_hearBids_8 rfl rfl ?_
  refine s_gR (r := 72) E fg_X2_18 rfl rfl (jv_lt hj_3 (by decide)) (jv_r hj_3 (by decide +kernel)) dX2_hearBids_9 ?_
  refine s_iconst (v := (-1)) E dX2_hearBids_12 (by decide) ?_
  refine s_sV (As := [AR 72, AI (-1)]) (S := []) E (Z_J7_fill_53178_r72 l D aC b u_1 ((-1)) hj_3.1 ) cs_X2_78 rfl rfl (Nat.le_of_ble_eq_true rfl) (Nat.le_of_ble_eq_true rfl) ⟨(Nat.le_of_ble_eq_true rfl), (Nat.le_of_ble_eq_true rfl)⟩ (Nat.le_of_ble_eq_true rfl) dX2_hearBids_13 (fun u_4 hp_5 => ?_)
  have hj_6 := jv_trans hj_3 hp_5
  refine s_iconst (v := 0) E dX2_hearBids_16 (by decide) ?_
  refine s_istore_n (L2 := [some (AR 69), some (AR 2), some (AI 0)]) E dX2_hearBids_17 rfl (by decide) rfl ?_
  refine z_loop (St := Int32) (Pi := fun q18_2_6 v18 => (0 ≤ q18_2_6.toInt ∧ q18_2_6.toInt ≤ 10) ∧ Jv w v18) (Lf := fun q18_2_6 => [some (AR 69), some (AR 2), some (AI q18_2_6)]) (fun q18_2_6 _ => (11 - q18_2_6.toInt).toNat) 0 ⟨⟨by decide, by decide⟩, hj_6⟩ ?_
  rintro q18_2_6 v18 ⟨hq18_2, hj_7⟩ ih18
  refine s_loc (L2 := [some (AR 69), some (AR 2), some (AI q18_2_6)]) rfl ?_
  refine s_iload_n E dX2_hearBids_18 rfl rfl ?_
  refine s_aload_n E dX2_hearBids_19 rfl rfl ?_
  refine s_gR (r := 9) E fg_X2_84 rfl rfl (jv_lt hj_7 (by decide)) (jv_r hj_7 (by decide +kernel)) dX2_hearBids_20 ?_
  refine s_gI E fg_X2_57 rfl rfl (jv_lt hj_7 (by decide)) dX2_hearBids_23 ?_
  refine z_nm (P := fun z => z.toInt = (v18.2.2.1 9 3).toInt ∧ 0 ≤ z.toInt ∧ z.toInt ≤ 10) ⟨rfl, (rg_9_3 hj_7)⟩ (fun z_8 hz_8 => ?_)
  refine z_icmp_ge (tgt := 66) (u := q18_2_6.toInt) (v := z_8.toInt) E dX2_hearBids_26 (by decide) rfl rfl (fun h_9 => ?_) (fun h_9 => ?_)
  ·
    refine s_iconst (v := 0) E dX2_hearBids_66 (by decide) ?_
    refine s_istore_n (L2 := [some (AR 69), some (AR 2), some (AI 0)]) E dX2_hearBids_67 rfl (by decide) rfl ?_
    refine z_loop (St := Int32) (Pi := fun q68_2_9 v68 => (0 ≤ q68_2_9.toInt ∧ q68_2_9.toInt ≤ 30) ∧ Jv w v68) (Lf := fun q68_2_9 => [some (AR 69), some (AR 2), some (AI q68_2_9)]) (fun q68_2_9 _ => (31 - q68_2_9.toInt).toNat) 0 ⟨⟨by decide, by decide⟩, hj_7⟩ ?_
    rintro q68_2_9 v68 ⟨hq68_2, hj_10⟩ ih68
    refine s_loc (L2 := [some (AR 69), some (AR 2), some (AI q68_2_9)]) rfl ?_
    refine s_iload_n E dX2_hearBids_68 rfl rfl ?_
    refine s_aload_n E dX2_hearBids_69 rfl rfl ?_
    refine s_gR (r := 11) E fg_X2_91 rfl rfl (jv_lt hj_10 (by decide)) (jv_r hj_10 (by decide +kernel)) dX2_hearBids_70 ?_
    refine s_gI E fg_X2_57 rfl rfl (jv_lt hj_10 (by decide)) dX2_hearBids_73 ?_
    refine z_nm (P := fun z => z.toInt = (v68.2.2.1 11 3).toInt ∧ 0 ≤ z.toInt ∧ z.toInt ≤ 30) ⟨rfl, (rg_11_3 hj_10)⟩ (fun z_11 hz_11 => ?_)
    refine z_icmp_ge (tgt := 128) (u := q68_2_9.toInt) (v := z_11.toInt) E dX2_hearBids_76 (by decide) rfl rfl (fun h_12 => ?_) (fun h_12 => ?_)
    ·
      exact r_void E dX2_hearBids_128 hj_10
    ·
      refine s_aload_n E dX2_hearBids_79 rfl rfl ?_
      refine s_gR (r := 11) E fg_X2_91 rfl rfl (jv_lt hj_10 (by decide)) (jv_r hj_10 (by decide +kernel)) dX2_hearBids_80 ?_
      refine s_iload_n E dX2_hearBids_83 rfl rfl ?_
      refine s_iconst (v := 0) E dX2_hearBids_84 (by decide) ?_
      refine s_vI (As := [AI q68_2_9, AI 0]) (S := []) E (Z_X8_cell_11 l D aC b v68 q68_2_9 0 hj_10.1 ) cv_X2_44 rfl rfl rfl (jv_lt hj_10 (by decide)) (Nat.le_of_ble_eq_true rfl) (Nat.le_of_ble_eq_true rfl) ⟨(Nat.le_of_ble_eq_true rfl), (Nat.le_of_ble_eq_true rfl)⟩ (Nat.le_of_ble_eq_true rfl) dX2_hearBids_85 (fun z_15 u_13 hp_14 => ?_)
      obtain ⟨hz_15, hp_14⟩ := hp_14
      subst hp_14
      refine z_if_ne (tgt := 122) (u := z_15.toInt) E dX2_hearBids_88 (by decide) rfl (fun h_17 => ?_) (fun h_17 => ?_)
      ·
        refine z_iinc (u := q68_2_9.toInt) (L2 := fun z_18 => [some (AR 69), some (AR 2), some (AI z_18)]) E dX2_hearBids_122 rfl rfl (by decide) (fun _ => rfl) (by decide) (by omega) (by omega) (fun z_18 hz_18 => ?_)
        refine s_goto (tgt := 68) E dX2_hearBids_125 (by decide) ?_
        exact ih68 z_18 v68 ⟨⟨by have hb_ := z32 z_18; omega, by have hb_ := z32 z_18; omega⟩, hj_10⟩ (by first | omega | (dsimp only; omega))
      ·
        refine s_aload_n E dX2_hearBids_91 rfl rfl ?_
        refine s_aload_n E dX2_hearBids_92 rfl rfl ?_
        refine s_gR (r := 11) E fg_X2_91 rfl rfl (jv_lt hj_10 (by decide)) (jv_r hj_10 (by decide +kernel)) dX2_hearBids_93 ?_
        refine s_iload_n E dX2_hearBids_96 rfl rfl ?_
        refine s_iconst (v := 1) E dX2_hearBids_97 (by decide) ?_
        refine s_vI (As := [AI q68_2_9, AI 1]) (S := [AR 69]) E (Z_X8_cell_11 l D aC b v68 q68_2_9 1 hj_10.1 ) cv_X2_44 rfl rfl rfl (jv_lt hj_10 (by decide)) (Nat.le_of_ble_eq_true rfl) (Nat.le_of_ble_eq_true rfl) ⟨(Nat.le_of_ble_eq_true rfl), (Nat.le_of_ble_eq_true rfl)⟩ (Nat.le_of_ble_eq_true rfl) dX2_hearBids_98 (fun z_21 u_19 hp_20 => ?_)
        obtain ⟨hz_21, hp_20⟩ := hp_20
        subst hp_20
        refine s_aload_n E dX2_hearBids_101 rfl rfl ?_
        refine s_gR (r := 11) E fg_X2_91 rfl rfl (jv_lt hj_10 (by decide)) (jv_r hj_10 (by decide +kernel)) dX2_hearBids_102 ?_
        refine s_iload_n E dX2_hearBids_105 rfl rfl ?_
        refine s_iconst (v := 2) E dX2_hearBids_106 (by decide) ?_
        refine s_vI (As := [AI q68_2_9, AI 2]) (S := [AI z_21, AR 69]) E (Z_X8_cell_11 l D aC b v68 q68_2_9 2 hj_10.1 ) cv_X2_44 rfl rfl rfl (jv_lt hj_10 (by decide)) (Nat.le_of_ble_eq_true rfl) (Nat.le_of_ble_eq_true rfl) ⟨(Nat.le_of_ble_eq_true rfl), (Nat.le_of_ble_eq_true rfl)⟩ (Nat.le_of_ble_eq_true rfl) dX2_hearBids_107 (fun z_25 u_23 hp_24 => ?_)
        obtain ⟨hz_25, hp_24⟩ := hp_24
        subst hp_24
        refine s_aload_n E dX2_hearBids_110 rfl rfl ?_
        refine s_gR (r := 11) E fg_X2_91 rfl rfl (jv_lt hj_10 (by decide)) (jv_r hj_10 (by decide +kernel)) dX2_hearBids_111 ?_
        refine s_iload_n E dX2_hearBids_114 rfl rfl ?_
        refine s_iconst (v := 3) E dX2_hearBids_115 (by decide) ?_
        refine s_vI (As := [AI q68_2_9, AI 3]) (S := [AI z_25, AI z_21, AR 69]) E (Z_X8_cell_11 l D aC b v68 q68_2_9 3 hj_10.1 ) cv_X2_44 rfl rfl rfl (jv_lt hj_10 (by decide)) (Nat.le_of_ble_eq_true rfl) (Nat.le_of_ble_eq_true rfl) ⟨(Nat.le_of_ble_eq_true rfl), (Nat.le_of_ble_eq_true rfl)⟩ (Nat.le_of_ble_eq_true rfl) dX2_hearBids_116 (fun z_29 u_27 hp_28 => ?_)
        obtain ⟨hz_29, hp_28⟩ := hp_28
        subst hp_28
        refine s_vV (As := [AI z_21, AI z_25, AI z_29]) (S := []) E (Z_X2_hearBid_69 l D aC b v68 z_21 z_25 z_29 hj_10.1 ) cv_X2_87 rfl rfl rfl (jv_lt hj_10 (by decide)) (Nat.le_of_ble_eq_true rfl) (Nat.le_of_ble_eq_true rfl) ⟨(Nat.le_of_ble_eq_true rfl), (Nat.le_of_ble_eq_true rfl)⟩ (Nat.le_of_ble_eq_true rfl) dX2_hearBids_119 (fun u_31 hp_32 => ?_)
        have hj_33 := jv_trans hj_10 hp_32
        refine z_iinc (u := q68_2_9.toInt) (L2 := fun z_34 => [some (AR 69), some (AR 2), some (AI z_34)]) E dX2_hearBids_122 rfl rfl (by decide) (fun _ => rfl) (by decide) (by omega) (by omega) (fun z_34 hz_34 => ?_)
        refine s_goto (tgt := 68) E dX2_hearBids_125 (by decide) ?_
        exact ih68 z_34 u_31 ⟨⟨by have hb_ := z32 z_34; omega, by have hb_ := z32 z_34; omega⟩, hj_33⟩ (by first | omega | (dsimp only; omega))
  ·
    refine s_aload_n E dX2_hearBids_29 rfl rfl ?_
    refine s_aload_n E dX2_hearBids_30 rfl rfl ?_
    refine s_gR (r := 9) E fg_X2_84 rfl rfl (jv_lt hj_7 (by decide)) (jv_r hj_7 (by decide +kernel)) dX2_hearBids_31 ?_
    refine s_iload_n E dX2_hearBids_34 rfl rfl ?_
    refine s_iconst (v := 0) E dX2_hearBids_35 (by decide) ?_
    refine s_vI (As := [AI q18_2_6, AI 0]) (S := [AR 69]) E (Z_X8_cell_9 l D aC b v18 q18_2_6 0 hj_7.1 ) cv_X2_44 rfl rfl rfl (jv_lt hj_7 (by decide)) (Nat.le_of_ble_eq_true rfl) (Nat.le_of_ble_eq_true rfl) ⟨(Nat.le_of_ble_eq_true rfl), (Nat.le_of_ble_eq_true rfl)⟩ (Nat.le_of_ble_eq_true rfl) dX2_hearBids_36 (fun z_37 u_35 hp_36 => ?_)
    obtain ⟨hz_37, hp_36⟩ := hp_36
    subst hp_36
    refine s_aload_n E dX2_hearBids_39 rfl rfl ?_
    refine s_gR (r := 9) E fg_X2_84 rfl rfl (jv_lt hj_7 (by decide)) (jv_r hj_7 (by decide +kernel)) dX2_hearBids_40 ?_
    refine s_iload_n E dX2_hearBids_43 rfl rfl ?_
    refine s_iconst (v := 1) E dX2_hearBids_44 (by decide) ?_
    refine s_vI (As := [AI q18_2_6, AI 1]) (S := [AI z_37, AR 69]) E (Z_X8_cell_9 l D aC b v18 q18_2_6 1 hj_7.1 ) cv_X2_44 rfl rfl rfl (jv_lt hj_7 (by decide)) (Nat.le_of_ble_eq_true rfl) (Nat.le_of_ble_eq_true rfl) ⟨(Nat.le_of_ble_eq_true rfl), (Nat.le_of_ble_eq_true rfl)⟩ (Nat.le_of_ble_eq_true rfl) dX2_hearBids_45 (fun z_41 u_39 hp_40 => ?_)
    obtain ⟨hz_41, hp_40⟩ := hp_40
    subst hp_40
    refine s_aload_n E dX2_hearBids_48 rfl rfl ?_
    refine s_gR (r := 9) E fg_X2_84 rfl rfl (jv_lt hj_7 (by decide)) (jv_r hj_7 (by decide +kernel)) dX2_hearBids_49 ?_
    refine s_iload_n E dX2_hearBids_52 rfl rfl ?_
    refine s_iconst (v := 2) E dX2_hearBids_53 (by decide) ?_
    refine s_vI (As := [AI q18_2_6, AI 2]) (S := [AI z_41, AI z_37, AR 69]) E (Z_X8_cell_9 l D aC b v18 q18_2_6 2 hj_7.1 ) cv_X2_44 rfl rfl rfl (jv_lt hj_7 (by decide)) (Nat.le_of_ble_eq_true rfl) (Nat.le_of_ble_eq_true rfl) ⟨(Nat.le_of_ble_eq_true rfl), (Nat.le_of_ble_eq_true rfl)⟩ (Nat.le_of_ble_eq_true rfl) dX2_hearBids_54 (fun z_45 u_43 hp_44 => ?_)
    obtain ⟨hz_45, hp_44⟩ := hp_44
    subst hp_44
    refine s_vV (As := [AI z_37, AI z_41, AI z_45]) (S := []) E (Z_X2_hearBid_69 l D aC b v18 z_37 z_41 z_45 hj_7.1 ) cv_X2_87 rfl rfl rfl (jv_lt hj_7 (by decide)) (Nat.le_of_ble_eq_true rfl) (Nat.le_of_ble_eq_true rfl) ⟨(Nat.le_of_ble_eq_true rfl), (Nat.le_of_ble_eq_true rfl)⟩ (Nat.le_of_ble_eq_true rfl) dX2_hearBids_57 (fun u_47 hp_48 => ?_)
    have hj_49 := jv_trans hj_7 hp_48
    refine z_iinc (u := q18_2_6.toInt) (L2 := fun z_50 => [some (AR 69), some (AR 2), some (AI z_50)]) E dX2_hearBids_60 rfl rfl (by decide) (fun _ => rfl) (by decide) (by omega) (by omega) (fun z_50 hz_50 => ?_)
    refine s_goto (tgt := 18) E dX2_hearBids_63 (by decide) ?_
    exact ih18 z_50 u_47 ⟨⟨by have hb_ := z32 z_50; omega, by have hb_ := z32 z_50; omega⟩, hj_49⟩ (by first | omega | (dsimp only; omega))
set_option maxRecDepth 20000 in
set_option maxHeartbeats 2000000 in
theorem Z_X2_gather_69 (l : Launch) (D : va_G) (aC : Nat → ClassId) (b : Nat) (w : XW)  (hI : Iv w)  : CnV l D aC b M_X2_gather 3 68 0 0 [AR 69] w (fun u => Jv w u) := by
  refine cn_V (own := RX2) (nm := "gather") (L0 := [some (AR 69), none, none]) (by decide +kernel) rfl rfl (Nat.le_of_ble_eq_true rfl) rfl ?_
  intro p e s m args below meth c E hin
  have hJ : Jv w w := jv_rfl hI
  refine s_iconst (v := 0) E dX2_gather_0 (by decide) ?_
  refine s_istore_n (L2 := [some (AR 69), some (AI 0), none]) E dX2_gather_1 rfl (by decide) rfl ?_
  refine z_loop (St := Int32) (Pi := fun q2_1_0 v2 => (0 ≤ q2_1_0.toInt ∧ q2_1_0.toInt ≤ 6) ∧ Jv w v2) (Lf := fun q2_1_0 => [some (AR 69), some (AI q2_1_0), none]) (fun q2_1_0 _ => (7 - q2_1_0.toInt).toNat) 0 ⟨⟨by decide, by decide⟩, hJ⟩ ?_
  rintro q2_1_0 v2 ⟨hq2_1, hj_1⟩ ih2
  refine s_loc (L2 := [some (AR 69), some (AI q2_1_0), none]) rfl ?_
  refine s_iload_n E dX2_gather_2 rfl rfl ?_
  refine s_aload_n E dX2_gather_3 rfl rfl ?_
  refine s_gI E fg_X2_35 rfl rfl (jv_lt hj_1 (by decide)) dX2_gather_4 ?_
  refine z_nm (P := fun z => z.toInt = (v2.2.2.1 69 5).toInt ∧ 0 ≤ z.toInt ∧ z.toInt ≤ 6) ⟨rfl, (rg_69_5 hj_1)⟩ (fun z_2 hz_2 => ?_)
  refine z_icmp_ge (tgt := 54) (u := q2_1_0.toInt) (v := z_2.toInt) E dX2_gather_7 (by decide) rfl rfl (fun h_3 => ?_) (fun h_3 => ?_)
  ·
    exact r_void E dX2_gather_54 hj_1
  ·
    refine s_iconst (v := 0) E dX2_gather_10 (by decide) ?_
    refine s_istore_n (L2 := [some (AR 69), some (AI q2_1_0), some (AI 0)]) E dX2_gather_11 rfl (by decide) rfl ?_
    refine z_loop (St := Int32) (Pi := fun q12_2_3 v12 => (0 ≤ q12_2_3.toInt ∧ q12_2_3.toInt ≤ 15) ∧ Jv w v12) (Lf := fun q12_2_3 => [some (AR 69), some (AI q2_1_0), some (AI q12_2_3)]) (fun q12_2_3 _ => (16 - q12_2_3.toInt).toNat) 0 ⟨⟨by decide, by decide⟩, hj_1⟩ ?_
    rintro q12_2_3 v12 ⟨hq12_2, hj_4⟩ ih12
    refine s_loc (L2 := [some (AR 69), some (AI q2_1_0), some (AI q12_2_3)]) rfl ?_
    refine s_iload_n E dX2_gather_12 rfl rfl ?_
    refine s_aload_n E dX2_gather_13 rfl rfl ?_
    refine s_gI E fg_X2_67 rfl rfl (jv_lt hj_4 (by decide)) dX2_gather_14 ?_
    refine z_nm (P := fun z => z.toInt = (v12.2.2.1 69 7).toInt ∧ 0 ≤ z.toInt ∧ z.toInt ≤ 14) ⟨rfl, (rg_69_7 hj_4)⟩ (fun z_5 hz_5 => ?_)
    refine z_icmp_gt (tgt := 48) (u := q12_2_3.toInt) (v := z_5.toInt) E dX2_gather_17 (by decide) rfl rfl (fun h_6 => ?_) (fun h_6 => ?_)
    ·
      refine z_iinc (u := q2_1_0.toInt) (L2 := fun z_7 => [some (AR 69), some (AI z_7), some (AI q12_2_3)]) E dX2_gather_48 rfl rfl (by decide) (fun _ => rfl) (by decide) (by omega) (by omega) (fun z_7 hz_7 => ?_)
      refine s_goto (tgt := 2) E dX2_gather_51 (by decide) ?_
      refine s_drop (i := 2) (L2 := [some (AR 69), some (AI z_7), none]) rfl ?_
      exact ih2 z_7 v12 ⟨⟨by have hb_ := z32 z_7; omega, by have hb_ := z32 z_7; omega⟩, hj_4⟩ (by first | omega | (dsimp only; omega))
    ·
      refine s_aload_n E dX2_gather_20 rfl rfl ?_
      refine s_gR (r := 74) E fg_X2_24 rfl rfl (jv_lt hj_4 (by decide)) (jv_r hj_4 (by decide +kernel)) dX2_gather_21 ?_
      refine s_iload_n E dX2_gather_24 rfl rfl ?_
      refine s_bipush (v := 15) E dX2_gather_25 (by decide) ?_
      refine z_imul (u := q2_1_0.toInt) (v := 15) E dX2_gather_27 rfl (by decide) (by omega) (by omega) (fun z_8 hz_8 => ?_)
      refine s_iload_n E dX2_gather_28 rfl rfl ?_
      refine z_iadd (u := z_8.toInt) (v := q12_2_3.toInt) E dX2_gather_29 rfl rfl (by omega) (by omega) (fun z_9 hz_9 => ?_)
      refine s_aload_n E dX2_gather_30 rfl rfl ?_
      refine s_aload_n E dX2_gather_31 rfl rfl ?_
      refine s_iload_n E dX2_gather_32 rfl rfl ?_
      refine s_iload_n E dX2_gather_33 rfl rfl ?_
      refine s_vI (As := [AI q2_1_0, AI q12_2_3]) (S := [AR 69, AI z_9, AR 74]) E (Z_X2_placeOf_69 l D aC b v12 q2_1_0 q12_2_3 hj_4.1 ) cv_X2_111 rfl rfl rfl (jv_lt hj_4 (by decide)) (Nat.le_of_ble_eq_true rfl) (Nat.le_of_ble_eq_true rfl) ⟨(Nat.le_of_ble_eq_true rfl), (Nat.le_of_ble_eq_true rfl)⟩ (Nat.le_of_ble_eq_true rfl) dX2_gather_34 (fun z_12 u_10 hp_11 => ?_)
      obtain ⟨hz_12, hp_11⟩ := hp_11
      subst hp_11
      refine s_iload_n E dX2_gather_37 rfl rfl ?_
      refine s_vI (As := [AI z_12, AI q12_2_3]) (S := [AI z_9, AR 74]) E (Z_X2_ladiesIn_69 l D aC b v12 z_12 q12_2_3 hj_4.1 ) cv_X2_114 rfl rfl rfl (jv_lt hj_4 (by decide)) (Nat.le_of_ble_eq_true rfl) (Nat.le_of_ble_eq_true rfl) ⟨(Nat.le_of_ble_eq_true rfl), (Nat.le_of_ble_eq_true rfl)⟩ (Nat.le_of_ble_eq_true rfl) dX2_gather_38 (fun z_16 u_14 hp_15 => ?_)
      obtain ⟨hz_16, hp_15⟩ := hp_15
      have hj_17 := jv_trans hj_4 hp_15
      refine s_iast E rfl (jv_lt hj_17 (by decide)) (z_in (u := z_9.toInt) rfl (by omega) (by omega)) dX2_gather_41 ?_
      refine s_gen (P := Jv w) (jv_a_74 hj_17 (by have hb_ := z32 z_16; omega) (by have hb_ := z32 z_16; omega)) (fun v_18 hj_19 => ?_)
      refine z_iinc (u := q12_2_3.toInt) (L2 := fun z_20 => [some (AR 69), some (AI q2_1_0), some (AI z_20)]) E dX2_gather_42 rfl rfl (by decide) (fun _ => rfl) (by decide) (by omega) (by omega) (fun z_20 hz_20 => ?_)
      refine s_goto (tgt := 12) E dX2_gather_45 (by decide) ?_
      exact ih12 z_20 v_18 ⟨⟨by have hb_ := z32 z_20; omega, by have hb_ := z32 z_20; omega⟩, hj_19⟩ (by first | omega | (dsimp only; omega))
set_option maxRecDepth 20000 in
set_option maxHeartbeats 2000000 in
theorem Z_X2_nextRoom_69 (l : Launch) (D : va_G) (aC : Nat → ClassId) (b : Nat) (w : XW) (x1 : Int32) (x2 : Int32) (x3 : Int32) (hI : Iv w)  : CnI l D aC b M_X2_nextRoom 2 46 0 0 [AR 69, AI x1, AI x2, AI x3] w (fun r u => ((-2147483648) ≤ r.toInt ∧ r.toInt ≤ 2147483647) ∧ Jv w u) := by
  refine cn_I (own := RX2) (nm := "nextRoom") (L0 := [some (AR 69), some (AI x1), some (AI x2), some (AI x3), none, none, none]) (by decide +kernel) rfl rfl (Nat.le_of_ble_eq_true rfl) rfl ?_
  intro p e s m args below meth c E hin
  have hJ : Jv w w := jv_rfl hI
  refine s_iload_n E dX2_nextRoom_0 rfl rfl ?_
  refine s_iconst (v := (-1)) E dX2_nextRoom_1 (by decide) ?_
  refine z_icmp_eq (tgt := 10) (u := x3.toInt) (v := (-1)) E dX2_nextRoom_2 (by decide) rfl (by decide) (fun h_1 => ?_) (fun h_1 => ?_)
  ·
    refine s_iload_n E dX2_nextRoom_10 rfl rfl ?_
    exact r_int E dX2_nextRoom_11 ⟨⟨by have hb_ := z32 x2; omega, by have hb_ := z32 x2; omega⟩, hJ⟩
  ·
    refine s_iload_n E dX2_nextRoom_5 rfl rfl ?_
    refine s_iload_n E dX2_nextRoom_6 rfl rfl ?_
    refine z_icmp_ne (tgt := 12) (u := x3.toInt) (v := x2.toInt) E dX2_nextRoom_7 (by decide) rfl rfl (fun h_2 => ?_) (fun h_2 => ?_)
    ·
      refine s_iconst (v := 1) E dX2_nextRoom_12 (by decide) ?_
      refine s_iload_n E dX2_nextRoom_13 rfl rfl ?_
      refine s_ishl E dX2_nextRoom_14 ?_
      refine z_any (fun z_3 => ?_)
      refine s_istore (L2 := [some (AR 69), some (AI x1), some (AI x2), some (AI x3), some (AI z_3), none, none]) E dX2_nextRoom_15 (by decide) rfl ?_
      refine s_iconst (v := 0) E dX2_nextRoom_17 (by decide) ?_
      refine s_istore (L2 := [some (AR 69), some (AI x1), some (AI x2), some (AI x3), some (AI z_3), some (AI 0), none]) E dX2_nextRoom_18 (by decide) rfl ?_
      refine z_loop (St := Int32 × Int32) (Pi := fun ⟨q20_4_3, q20_5_3⟩ v20 => (0 ≤ q20_5_3.toInt ∧ q20_5_3.toInt ≤ 8) ∧ Jv w v20) (Lf := fun ⟨q20_4_3, q20_5_3⟩ => [some (AR 69), some (AI x1), some (AI x2), some (AI x3), some (AI q20_4_3), some (AI q20_5_3), none]) (fun ⟨q20_4_3, q20_5_3⟩ _ => (9 - q20_5_3.toInt).toNat) ⟨z_3, 0⟩ ⟨⟨by decide, by decide⟩, hJ⟩ ?_
      rintro ⟨q20_4_3, q20_5_3⟩ v20 ⟨hq20_5, hj_4⟩ ih20
      refine s_loc (L2 := [some (AR 69), some (AI x1), some (AI x2), some (AI x3), some (AI q20_4_3), some (AI q20_5_3), none]) rfl ?_
      refine s_iload E dX2_nextRoom_20 rfl ?_
      refine s_aload_n E dX2_nextRoom_22 rfl rfl ?_
      refine s_gI E fg_X2_63 rfl rfl (jv_lt hj_4 (by decide)) dX2_nextRoom_23 ?_
      refine z_nm (P := fun z => z.toInt = (v20.2.2.1 69 6).toInt ∧ 0 ≤ z.toInt ∧ z.toInt ≤ 8) ⟨rfl, (rg_69_6 hj_4)⟩ (fun z_5 hz_5 => ?_)
      refine z_icmp_ge (tgt := 66) (u := q20_5_3.toInt) (v := z_5.toInt) E dX2_nextRoom_26 (by decide) rfl rfl (fun h_6 => ?_) (fun h_6 => ?_)
      ·
        refine s_iload_n E dX2_nextRoom_66 rfl rfl ?_
        exact r_int E dX2_nextRoom_67 ⟨⟨by have hb_ := z32 x2; omega, by have hb_ := z32 x2; omega⟩, hj_4⟩
      ·
        refine s_aload_n E dX2_nextRoom_29 rfl rfl ?_
        refine s_iload_n E dX2_nextRoom_30 rfl rfl ?_
        refine s_iload_n E dX2_nextRoom_31 rfl rfl ?_
        refine s_vI (As := [AI x1, AI x2]) (S := []) E (Z_X2_stepsFrom_69 l D aC b v20 x1 x2 hj_4.1 ) cv_X2_101 rfl rfl rfl (jv_lt hj_4 (by decide)) (Nat.le_of_ble_eq_true rfl) (Nat.le_of_ble_eq_true rfl) ⟨(Nat.le_of_ble_eq_true rfl), (Nat.le_of_ble_eq_true rfl)⟩ (Nat.le_of_ble_eq_true rfl) dX2_nextRoom_32 (fun z_9 u_7 hp_8 => ?_)
        obtain ⟨hz_9, hp_8⟩ := hp_8
        subst hp_8
        refine s_iload E dX2_nextRoom_35 rfl ?_
        refine s_iand E dX2_nextRoom_37 ?_
        refine z_any (fun z_11 => ?_)
        refine s_istore (L2 := [some (AR 69), some (AI x1), some (AI x2), some (AI x3), some (AI q20_4_3), some (AI q20_5_3), some (AI z_11)]) E dX2_nextRoom_38 (by decide) rfl ?_
        refine s_iload E dX2_nextRoom_40 rfl ?_
        refine z_if_eq (tgt := 51) (u := z_11.toInt) E dX2_nextRoom_42 (by decide) rfl (fun h_12 => ?_) (fun h_12 => ?_)
        ·
          refine s_aload_n E dX2_nextRoom_51 rfl rfl ?_
          refine s_iload_n E dX2_nextRoom_52 rfl rfl ?_
          refine s_iload E dX2_nextRoom_53 rfl ?_
          refine s_vI (As := [AI x1, AI q20_4_3]) (S := []) E (Z_X2_spread_69 l D aC b v20 x1 q20_4_3 hj_4.1 ) cv_X2_108 rfl rfl rfl (jv_lt hj_4 (by decide)) (Nat.le_of_ble_eq_true rfl) (Nat.le_of_ble_eq_true rfl) ⟨(Nat.le_of_ble_eq_true rfl), (Nat.le_of_ble_eq_true rfl)⟩ (Nat.le_of_ble_eq_true rfl) dX2_nextRoom_55 (fun z_15 u_13 hp_14 => ?_)
          obtain ⟨hz_15, hp_14⟩ := hp_14
          have hj_16 := jv_trans hj_4 hp_14
          refine s_istore (L2 := [some (AR 69), some (AI x1), some (AI x2), some (AI x3), some (AI z_15), some (AI q20_5_3), some (AI z_11)]) E dX2_nextRoom_58 (by decide) rfl ?_
          refine z_iinc (u := q20_5_3.toInt) (L2 := fun z_17 => [some (AR 69), some (AI x1), some (AI x2), some (AI x3), some (AI z_15), some (AI z_17), some (AI z_11)]) E dX2_nextRoom_60 rfl rfl (by decide) (fun _ => rfl) (by decide) (by omega) (by omega) (fun z_17 hz_17 => ?_)
          refine s_goto (tgt := 20) E dX2_nextRoom_63 (by decide) ?_
          refine s_drop (i := 6) (L2 := [some (AR 69), some (AI x1), some (AI x2), some (AI x3), some (AI z_15), some (AI z_17), none]) rfl ?_
          exact ih20 ⟨z_15, z_17⟩ u_13 ⟨⟨by have hb_ := z32 z_17; omega, by have hb_ := z32 z_17; omega⟩, hj_16⟩ (by first | omega | (dsimp only; omega))
        ·
          refine s_iload E dX2_nextRoom_45 rfl ?_
          refine s_sI (As := [AI z_11]) (S := []) E (Z_X9_lowest l D aC b v20 z_11 hj_4.1 ) cs_X2_104 rfl rfl (Nat.le_of_ble_eq_true rfl) (Nat.le_of_ble_eq_true rfl) ⟨(Nat.le_of_ble_eq_true rfl), (Nat.le_of_ble_eq_true rfl)⟩ (Nat.le_of_ble_eq_true rfl) dX2_nextRoom_47 (fun z_20 u_18 hp_19 => ?_)
          obtain ⟨hz_20, hp_19⟩ := hp_19
          have hj_21 := jv_trans hj_4 hp_19
          exact r_int E dX2_nextRoom_50 ⟨⟨by have hb_ := z32 z_20; omega, by have hb_ := z32 z_20; omega⟩, hj_21⟩
    ·
      refine s_iload_n E dX2_nextRoom_10 rfl rfl ?_
      exact r_int E dX2_nextRoom_11 ⟨⟨by have hb_ := z32 x2; omega, by have hb_ := z32 x2; omega⟩, hJ⟩
set_option maxRecDepth 20000 in
set_option maxHeartbeats 2000000 in
theorem Z_X2_goAsBidden_69 (l : Launch) (D : va_G) (aC : Nat → ClassId) (b : Nat) (w : XW) (x1 : Int32) (x2 : Int32) (hI : Iv w) (hx1 : 0 ≤ x1.toInt ∧ x1.toInt ≤ 5) : CnV l D aC b M_X2_goAsBidden 3 72 0 0 [AR 69, AI x1, AI x2] w (fun u => Jv w u) := by
  refine cn_V (own := RX2) (nm := "goAsBidden") (L0 := [some (AR 69), some (AI x1), some (AI x2), none, none]) (by decide +kernel) rfl rfl (Nat.le_of_ble_eq_true rfl) rfl ?_
  intro p e s m args below meth c E hin
  have hJ : Jv w w := jv_rfl hI
  refine s_iload_n E dX2_goAsBidden_0 rfl rfl ?_
  refine s_istore_n (L2 := [some (AR 69), some (AI x1), some (AI x2), some (AI x2), none]) E dX2_goAsBidden_1 rfl (by decide) rfl ?_
  refine s_aload_n E dX2_goAsBidden_2 rfl rfl ?_
  refine s_gR (r := 73) E fg_X2_21 rfl rfl (jv_lt hJ (by decide)) (jv_r hJ (by decide +kernel)) dX2_goAsBidden_3 ?_
  refine s_iload_n E dX2_goAsBidden_6 rfl rfl ?_
  refine s_bipush (v := 15) E dX2_goAsBidden_7 (by decide) ?_
  refine z_imul (u := x1.toInt) (v := 15) E dX2_goAsBidden_9 rfl (by decide) (by omega) (by omega) (fun z_1 hz_1 => ?_)
  refine s_iload_n E dX2_goAsBidden_10 rfl rfl ?_
  refine s_iast E rfl (jv_lt hJ (by decide)) (z_in (u := z_1.toInt) rfl (by omega) (by omega)) dX2_goAsBidden_11 ?_
  refine s_gen (P := Jv w) (jv_a_73 hJ (by have hb_ := z32 x2; omega) (by have hb_ := z32 x2; omega)) (fun v_2 hj_3 => ?_)
  refine s_iconst (v := 0) E dX2_goAsBidden_12 (by decide) ?_
  refine s_istore (L2 := [some (AR 69), some (AI x1), some (AI x2), some (AI x2), some (AI 0)]) E dX2_goAsBidden_13 (by decide) rfl ?_
  refine z_loop (St := Int32 × Int32) (Pi := fun ⟨q15_3_3, q15_4_3⟩ v15 => (0 ≤ q15_4_3.toInt ∧ q15_4_3.toInt ≤ 14) ∧ Jv w v15) (Lf := fun ⟨q15_3_3, q15_4_3⟩ => [some (AR 69), some (AI x1), some (AI x2), some (AI q15_3_3), some (AI q15_4_3)]) (fun ⟨q15_3_3, q15_4_3⟩ _ => (15 - q15_4_3.toInt).toNat) ⟨x2, 0⟩ ⟨⟨by decide, by decide⟩, hj_3⟩ ?_
  rintro ⟨q15_3_3, q15_4_3⟩ v15 ⟨hq15_4, hj_4⟩ ih15
  refine s_loc (L2 := [some (AR 69), some (AI x1), some (AI x2), some (AI q15_3_3), some (AI q15_4_3)]) rfl ?_
  refine s_iload E dX2_goAsBidden_15 rfl ?_
  refine s_aload_n E dX2_goAsBidden_17 rfl rfl ?_
  refine s_gI E fg_X2_67 rfl rfl (jv_lt hj_4 (by decide)) dX2_goAsBidden_18 ?_
  refine z_nm (P := fun z => z.toInt = (v15.2.2.1 69 7).toInt ∧ 0 ≤ z.toInt ∧ z.toInt ≤ 14) ⟨rfl, (rg_69_7 hj_4)⟩ (fun z_5 hz_5 => ?_)
  refine z_icmp_ge (tgt := 59) (u := q15_4_3.toInt) (v := z_5.toInt) E dX2_goAsBidden_21 (by decide) rfl rfl (fun h_6 => ?_) (fun h_6 => ?_)
  ·
    exact r_void E dX2_goAsBidden_59 hj_4
  ·
    refine s_aload_n E dX2_goAsBidden_24 rfl rfl ?_
    refine s_iload_n E dX2_goAsBidden_25 rfl rfl ?_
    refine s_iload_n E dX2_goAsBidden_26 rfl rfl ?_
    refine s_aload_n E dX2_goAsBidden_27 rfl rfl ?_
    refine s_iload_n E dX2_goAsBidden_28 rfl rfl ?_
    refine s_iload E dX2_goAsBidden_29 rfl ?_
    refine s_vI (As := [AI x1, AI q15_4_3]) (S := [AI q15_3_3, AI x1, AR 69]) E (Z_X2_goalOf_69 l D aC b v15 x1 q15_4_3 hj_4.1 ) cv_X2_94 rfl rfl rfl (jv_lt hj_4 (by decide)) (Nat.le_of_ble_eq_true rfl) (Nat.le_of_ble_eq_true rfl) ⟨(Nat.le_of_ble_eq_true rfl), (Nat.le_of_ble_eq_true rfl)⟩ (Nat.le_of_ble_eq_true rfl) dX2_goAsBidden_31 (fun z_9 u_7 hp_8 => ?_)
    obtain ⟨hz_9, hp_8⟩ := hp_8
    subst hp_8
    refine s_vI (As := [AI x1, AI q15_3_3, AI z_9]) (S := []) E (Z_X2_nextRoom_69 l D aC b v15 x1 q15_3_3 z_9 hj_4.1 ) cv_X2_97 rfl rfl rfl (jv_lt hj_4 (by decide)) (Nat.le_of_ble_eq_true rfl) (Nat.le_of_ble_eq_true rfl) ⟨(Nat.le_of_ble_eq_true rfl), (Nat.le_of_ble_eq_true rfl)⟩ (Nat.le_of_ble_eq_true rfl) dX2_goAsBidden_34 (fun z_13 u_11 hp_12 => ?_)
    obtain ⟨hz_13, hp_12⟩ := hp_12
    have hj_14 := jv_trans hj_4 hp_12
    refine s_istore_n (L2 := [some (AR 69), some (AI x1), some (AI x2), some (AI z_13), some (AI q15_4_3)]) E dX2_goAsBidden_37 rfl (by decide) rfl ?_
    refine s_aload_n E dX2_goAsBidden_38 rfl rfl ?_
    refine s_gR (r := 73) E fg_X2_21 rfl rfl (jv_lt hj_14 (by decide)) (jv_r hj_14 (by decide +kernel)) dX2_goAsBidden_39 ?_
    refine s_iload_n E dX2_goAsBidden_42 rfl rfl ?_
    refine s_bipush (v := 15) E dX2_goAsBidden_43 (by decide) ?_
    refine z_imul (u := x1.toInt) (v := 15) E dX2_goAsBidden_45 rfl (by decide) (by omega) (by omega) (fun z_15 hz_15 => ?_)
    refine s_iload E dX2_goAsBidden_46 rfl ?_
    refine z_iadd (u := z_15.toInt) (v := q15_4_3.toInt) E dX2_goAsBidden_48 rfl rfl (by omega) (by omega) (fun z_16 hz_16 => ?_)
    refine s_iconst (v := 1) E dX2_goAsBidden_49 (by decide) ?_
    refine z_iadd (u := z_16.toInt) (v := 1) E dX2_goAsBidden_50 rfl (by decide) (by omega) (by omega) (fun z_17 hz_17 => ?_)
    refine s_iload_n E dX2_goAsBidden_51 rfl rfl ?_
    refine s_iast E rfl (jv_lt hj_14 (by decide)) (z_in (u := z_17.toInt) rfl (by omega) (by omega)) dX2_goAsBidden_52 ?_
    refine s_gen (P := Jv w) (jv_a_73 hj_14 (by have hb_ := z32 z_13; omega) (by have hb_ := z32 z_13; omega)) (fun v_18 hj_19 => ?_)
    refine z_iinc (u := q15_4_3.toInt) (L2 := fun z_20 => [some (AR 69), some (AI x1), some (AI x2), some (AI z_13), some (AI z_20)]) E dX2_goAsBidden_53 rfl rfl (by decide) (fun _ => rfl) (by decide) (by omega) (by omega) (fun z_20 hz_20 => ?_)
    refine s_goto (tgt := 15) E dX2_goAsBidden_56 (by decide) ?_
    exact ih15 ⟨z_13, z_20⟩ v_18 ⟨⟨by have hb_ := z32 z_20; omega, by have hb_ := z32 z_20; omega⟩, hj_19⟩ (by first | omega | (dsimp only; omega))
set_option maxRecDepth 20000 in
set_option maxHeartbeats 2000000 in
theorem Z_X2_settle_69_r2 (l : Launch) (D : va_G) (aC : Nat → ClassId) (b : Nat) (w : XW) (x1 : Int32) (x2 : Int32) (hI : Iv w)  : CnV l D aC b M_X2_settle 4 96 0 0 [AR 69, AR 2, AI x1, AI x2] w (fun u => Jv w u) := by
  refine cn_V (own := RX2) (nm := "settle") (L0 := [some (AR 69), some (AR 2), some (AI x1), some (AI x2), none]) (by decide +kernel) rfl rfl (Nat.le_of_ble_eq_true rfl) rfl ?_
  intro p e s m args below meth c E hin
  have hJ : Jv w w := jv_rfl hI
  refine s_aload_n E dX2_settle_0 rfl rfl ?_
  refine s_aload_n E dX2_settle_1 rfl rfl ?_
  refine s_iload_n E dX2_settle_2 rfl rfl ?_
  refine s_iload_n E dX2_settle_3 rfl rfl ?_
  refine s_vV (As := [AR 2, AI x1, AI x2]) (S := []) E (Z_X2_openDoors_69_r2 l D aC b w x1 x2 hJ.1 ) cv_X2_27 rfl rfl rfl (jv_lt hJ (by decide)) (Nat.le_of_ble_eq_true rfl) (Nat.le_of_ble_eq_true rfl) ⟨(Nat.le_of_ble_eq_true rfl), (Nat.le_of_ble_eq_true rfl)⟩ (Nat.le_of_ble_eq_true rfl) dX2_settle_4 (fun u_1 hp_2 => ?_)
  have hj_3 := jv_trans hJ hp_2
  refine s_aload_n E dX2_settle_7 rfl rfl ?_
  refine s_aload_n E dX2_settle_8 rfl rfl ?_
  refine s_vV (As := [AR 2]) (S := []) E (Z_X2_hearBids_69_r2 l D aC b u_1  hj_3.1 ) cv_X2_31 rfl rfl rfl (jv_lt hj_3 (by decide)) (Nat.le_of_ble_eq_true rfl) (Nat.le_of_ble_eq_true rfl) ⟨(Nat.le_of_ble_eq_true rfl), (Nat.le_of_ble_eq_true rfl)⟩ (Nat.le_of_ble_eq_true rfl) dX2_settle_9 (fun u_4 hp_5 => ?_)
  have hj_6 := jv_trans hj_3 hp_5
  refine s_iconst (v := 0) E dX2_settle_12 (by decide) ?_
  refine s_istore (L2 := [some (AR 69), some (AR 2), some (AI x1), some (AI x2), some (AI 0)]) E dX2_settle_13 (by decide) rfl ?_
  refine z_loop (St := Int32) (Pi := fun q15_4_6 v15 => (0 ≤ q15_4_6.toInt ∧ q15_4_6.toInt ≤ 6) ∧ Jv w v15) (Lf := fun q15_4_6 => [some (AR 69), some (AR 2), some (AI x1), some (AI x2), some (AI q15_4_6)]) (fun q15_4_6 _ => (7 - q15_4_6.toInt).toNat) 0 ⟨⟨by decide, by decide⟩, hj_6⟩ ?_
  rintro q15_4_6 v15 ⟨hq15_4, hj_7⟩ ih15
  refine s_loc (L2 := [some (AR 69), some (AR 2), some (AI x1), some (AI x2), some (AI q15_4_6)]) rfl ?_
  refine s_iload E dX2_settle_15 rfl ?_
  refine s_aload_n E dX2_settle_17 rfl rfl ?_
  refine s_gI E fg_X2_35 rfl rfl (jv_lt hj_7 (by decide)) dX2_settle_18 ?_
  refine z_nm (P := fun z => z.toInt = (v15.2.2.1 69 5).toInt ∧ 0 ≤ z.toInt ∧ z.toInt ≤ 6) ⟨rfl, (rg_69_5 hj_7)⟩ (fun z_8 hz_8 => ?_)
  refine z_icmp_ge (tgt := 46) (u := q15_4_6.toInt) (v := z_8.toInt) E dX2_settle_21 (by decide) rfl rfl (fun h_9 => ?_) (fun h_9 => ?_)
  ·
    refine s_aload_n E dX2_settle_46 rfl rfl ?_
    refine s_vV (As := []) (S := []) E (Z_X2_gather_69 l D aC b v15  hj_7.1 ) cv_X2_54 rfl rfl rfl (jv_lt hj_7 (by decide)) (Nat.le_of_ble_eq_true rfl) (Nat.le_of_ble_eq_true rfl) ⟨(Nat.le_of_ble_eq_true rfl), (Nat.le_of_ble_eq_true rfl)⟩ (Nat.le_of_ble_eq_true rfl) dX2_settle_47 (fun u_10 hp_11 => ?_)
    have hj_12 := jv_trans hj_7 hp_11
    exact r_void E dX2_settle_50 hj_12
  ·
    refine s_aload_n E dX2_settle_24 rfl rfl ?_
    refine s_iload E dX2_settle_25 rfl ?_
    refine s_aload_n E dX2_settle_27 rfl rfl ?_
    refine s_gR (r := 5) E fg_X2_39 rfl rfl (jv_lt hj_7 (by decide)) (jv_r hj_7 (by decide +kernel)) dX2_settle_28 ?_
    refine s_iload E dX2_settle_31 rfl ?_
    refine s_iconst (v := 0) E dX2_settle_33 (by decide) ?_
    refine s_vI (As := [AI q15_4_6, AI 0]) (S := [AI q15_4_6, AR 69]) E (Z_X8_cell_5 l D aC b v15 q15_4_6 0 hj_7.1 ) cv_X2_44 rfl rfl rfl (jv_lt hj_7 (by decide)) (Nat.le_of_ble_eq_true rfl) (Nat.le_of_ble_eq_true rfl) ⟨(Nat.le_of_ble_eq_true rfl), (Nat.le_of_ble_eq_true rfl)⟩ (Nat.le_of_ble_eq_true rfl) dX2_settle_34 (fun z_15 u_13 hp_14 => ?_)
    obtain ⟨hz_15, hp_14⟩ := hp_14
    subst hp_14
    refine s_vV (As := [AI q15_4_6, AI z_15]) (S := []) E (Z_X2_goAsBidden_69 l D aC b v15 q15_4_6 z_15 hj_7.1 ⟨by have hb_ := z32 q15_4_6; omega, by have hb_ := z32 q15_4_6; omega⟩) cv_X2_50 rfl rfl rfl (jv_lt hj_7 (by decide)) (Nat.le_of_ble_eq_true rfl) (Nat.le_of_ble_eq_true rfl) ⟨(Nat.le_of_ble_eq_true rfl), (Nat.le_of_ble_eq_true rfl)⟩ (Nat.le_of_ble_eq_true rfl) dX2_settle_37 (fun u_17 hp_18 => ?_)
    have hj_19 := jv_trans hj_7 hp_18
    refine z_iinc (u := q15_4_6.toInt) (L2 := fun z_20 => [some (AR 69), some (AR 2), some (AI x1), some (AI x2), some (AI z_20)]) E dX2_settle_40 rfl rfl (by decide) (fun _ => rfl) (by decide) (by omega) (by omega) (fun z_20 hz_20 => ?_)
    refine s_goto (tgt := 15) E dX2_settle_43 (by decide) ?_
    exact ih15 z_20 u_17 ⟨⟨by have hb_ := z32 z_20; omega, by have hb_ := z32 z_20; omega⟩, hj_19⟩ (by first | omega | (dsimp only; omega))
set_option maxRecDepth 20000 in
set_option maxHeartbeats 2000000 in
theorem Z_X9_settle_0 (l : Launch) (D : va_G) (aC : Nat → ClassId) (b : Nat) (w : XW)  (hI : Iv w)  : CnV l D aC b M_X9_settle 5 120 0 0 [AR 0] w (fun u => Jv w u) := by
  refine cn_V (own := RX9) (nm := "settle") (L0 := [some (AR 0)]) (by decide +kernel) rfl rfl (Nat.le_of_ble_eq_true rfl) rfl ?_
  intro p e s m args below meth c E hin
  have hJ : Jv w w := jv_rfl hI
  refine s_aload_n E dX9_settle_0 rfl rfl ?_
  refine s_gR (r := 69) E fg_X9_54 rfl rfl (jv_lt hJ (by decide)) (jv_r hJ (by decide +kernel)) dX9_settle_1 ?_
  refine s_aload_n E dX9_settle_4 rfl rfl ?_
  refine s_gR (r := 2) E fg_X9_20 rfl rfl (jv_lt hJ (by decide)) (jv_r hJ (by decide +kernel)) dX9_settle_5 ?_
  refine s_iconst (v := (-1)) E dX9_settle_8 (by decide) ?_
  refine s_iconst (v := 0) E dX9_settle_9 (by decide) ?_
  refine s_vV (As := [AR 2, AI (-1), AI 0]) (S := []) E (Z_X2_settle_69_r2 l D aC b w ((-1)) 0 hJ.1 ) cv_X9_116 rfl rfl rfl (jv_lt hJ (by decide)) (Nat.le_of_ble_eq_true rfl) (Nat.le_of_ble_eq_true rfl) ⟨(Nat.le_of_ble_eq_true rfl), (Nat.le_of_ble_eq_true rfl)⟩ (Nat.le_of_ble_eq_true rfl) dX9_settle_10 (fun u_1 hp_2 => ?_)
  have hj_3 := jv_trans hJ hp_2
  exact r_void E dX9_settle_13 hj_3
set_option maxRecDepth 20000 in
set_option maxHeartbeats 2000000 in
theorem Z_X9_bid_0 (l : Launch) (D : va_G) (aC : Nat → ClassId) (b : Nat) (w : XW) (x1 : Int32) (x2 : Int32) (x3 : Int32) (hI : Iv w)  : CnI l D aC b M_X9_bid 6 140 0 0 [AR 0, AI x1, AI x2, AI x3] w (fun r u => ((-2147483648) ≤ r.toInt ∧ r.toInt ≤ 2147483647 ∧ (¬ r.toInt = 0 ∨ (0 ≤ x1.toInt ∧ x1.toInt ≤ 5)) ∧ (¬ r.toInt = 0 ∨ (0 ≤ x2.toInt ∧ x2.toInt ≤ 7)) ∧ (¬ r.toInt = 0 ∨ (0 ≤ x3.toInt ∧ x3.toInt ≤ 13)) ∧ (¬ r.toInt = 0 ∨ (1 ≤ (w.2.2.1 5 3).toInt ∧ (w.2.2.1 5 3).toInt ≤ 6)) ∧ (¬ r.toInt = 0 ∨ (1 ≤ (w.2.2.1 2 1).toInt ∧ (w.2.2.1 2 1).toInt ≤ 8)) ∧ (¬ r.toInt = 0 ∨ (0 ≤ (w.2.2.1 11 3).toInt ∧ (w.2.2.1 11 3).toInt ≤ 29))) ∧ Jv w u) := by
  refine cn_I (own := RX9) (nm := "bid") (L0 := [some (AR 0), some (AI x1), some (AI x2), some (AI x3)]) (by decide +kernel) rfl rfl (Nat.le_of_ble_eq_true rfl) rfl ?_
  intro p e s m args below meth c E hin
  have hJ : Jv w w := jv_rfl hI
  refine s_aload_n E dX9_bid_0 rfl rfl ?_
  refine s_gR (r := 2) E fg_X9_20 rfl rfl (jv_lt hJ (by decide)) (jv_r hJ (by decide +kernel)) dX9_bid_1 ?_
  refine s_iload_n E dX9_bid_4 rfl rfl ?_
  refine s_vI (As := [AI x1]) (S := []) E (Z_X0_hasLady_2 l D aC b w x1 hJ.1 ) cv_X9_139 rfl rfl rfl (jv_lt hJ (by decide)) (Nat.le_of_ble_eq_true rfl) (Nat.le_of_ble_eq_true rfl) ⟨(Nat.le_of_ble_eq_true rfl), (Nat.le_of_ble_eq_true rfl)⟩ (Nat.le_of_ble_eq_true rfl) dX9_bid_5 (fun z_3 u_1 hp_2 => ?_)
  obtain ⟨hz_3, hp_2⟩ := hp_2
  subst hp_2
  refine z_if_eq (tgt := 32) (u := z_3.toInt) E dX9_bid_8 (by decide) rfl (fun h_5 => ?_) (fun h_5 => ?_)
  ·
    refine s_bipush (v := (-2)) E dX9_bid_32 (by decide) ?_
    exact r_int E dX9_bid_34 ⟨⟨by decide, by decide, by first | (left; decide) | (right; have hb_ := z32 x1; omega), by first | (left; decide) | (right; have hb_ := z32 x2; omega), by first | (left; decide) | (right; have hb_ := z32 x3; omega), by first | (left; decide) | (right; have hb_ := z32 (w.2.2.1 5 3); omega), by first | (left; decide) | (right; have hb_ := z32 (w.2.2.1 2 1); omega), by first | (left; decide) | (right; have hb_ := z32 (w.2.2.1 11 3); omega)⟩, hJ⟩
  ·
    refine s_aload_n E dX9_bid_11 rfl rfl ?_
    refine s_gR (r := 2) E fg_X9_20 rfl rfl (jv_lt hJ (by decide)) (jv_r hJ (by decide +kernel)) dX9_bid_12 ?_
    refine s_iload_n E dX9_bid_15 rfl rfl ?_
    refine s_vI (As := [AI x2]) (S := []) E (Z_X0_hasRoom_2 l D aC b w x2 hJ.1 ) cv_X9_143 rfl rfl rfl (jv_lt hJ (by decide)) (Nat.le_of_ble_eq_true rfl) (Nat.le_of_ble_eq_true rfl) ⟨(Nat.le_of_ble_eq_true rfl), (Nat.le_of_ble_eq_true rfl)⟩ (Nat.le_of_ble_eq_true rfl) dX9_bid_16 (fun z_8 u_6 hp_7 => ?_)
    obtain ⟨hz_8, hp_7⟩ := hp_7
    subst hp_7
    refine z_if_eq (tgt := 32) (u := z_8.toInt) E dX9_bid_19 (by decide) rfl (fun h_10 => ?_) (fun h_10 => ?_)
    ·
      refine s_bipush (v := (-2)) E dX9_bid_32 (by decide) ?_
      exact r_int E dX9_bid_34 ⟨⟨by decide, by decide, by first | (left; decide) | (right; have hb_ := z32 x1; omega), by first | (left; decide) | (right; have hb_ := z32 x2; omega), by first | (left; decide) | (right; have hb_ := z32 x3; omega), by first | (left; decide) | (right; have hb_ := z32 (w.2.2.1 5 3); omega), by first | (left; decide) | (right; have hb_ := z32 (w.2.2.1 2 1); omega), by first | (left; decide) | (right; have hb_ := z32 (w.2.2.1 11 3); omega)⟩, hJ⟩
    ·
      refine s_iload_n E dX9_bid_22 rfl rfl ?_
      refine z_if_lt (tgt := 32) (u := x3.toInt) E dX9_bid_23 (by decide) rfl (fun h_11 => ?_) (fun h_11 => ?_)
      ·
        refine s_bipush (v := (-2)) E dX9_bid_32 (by decide) ?_
        exact r_int E dX9_bid_34 ⟨⟨by decide, by decide, by first | (left; decide) | (right; have hb_ := z32 x1; omega), by first | (left; decide) | (right; have hb_ := z32 x2; omega), by first | (left; decide) | (right; have hb_ := z32 x3; omega), by first | (left; decide) | (right; have hb_ := z32 (w.2.2.1 5 3); omega), by first | (left; decide) | (right; have hb_ := z32 (w.2.2.1 2 1); omega), by first | (left; decide) | (right; have hb_ := z32 (w.2.2.1 11 3); omega)⟩, hJ⟩
      ·
        refine s_iload_n E dX9_bid_26 rfl rfl ?_
        refine s_bipush (v := 13) E dX9_bid_27 (by decide) ?_
        refine z_icmp_le (tgt := 35) (u := x3.toInt) (v := 13) E dX9_bid_29 (by decide) rfl (by decide) (fun h_12 => ?_) (fun h_12 => ?_)
        ·
          refine s_aload_n E dX9_bid_35 rfl rfl ?_
          refine s_gR (r := 2) E fg_X9_20 rfl rfl (jv_lt hJ (by decide)) (jv_r hJ (by decide +kernel)) dX9_bid_36 ?_
          refine s_gR (r := 11) E fg_X9_400 rfl rfl (jv_lt hJ (by decide)) (jv_r hJ (by decide +kernel)) dX9_bid_39 ?_
          refine s_vI (As := []) (S := []) E (Z_X8_isFull_11 l D aC b w  hJ.1 ) cv_X9_403 rfl rfl rfl (jv_lt hJ (by decide)) (Nat.le_of_ble_eq_true rfl) (Nat.le_of_ble_eq_true rfl) ⟨(Nat.le_of_ble_eq_true rfl), (Nat.le_of_ble_eq_true rfl)⟩ (Nat.le_of_ble_eq_true rfl) dX9_bid_42 (fun z_15 u_13 hp_14 => ?_)
          obtain ⟨hz_15, hp_14⟩ := hp_14
          subst hp_14
          refine z_if_eq (tgt := 51) (u := z_15.toInt) E dX9_bid_45 (by decide) rfl (fun h_17 => ?_) (fun h_17 => ?_)
          ·
            refine s_aload_n E dX9_bid_51 rfl rfl ?_
            refine s_gR (r := 2) E fg_X9_20 rfl rfl (jv_lt hJ (by decide)) (jv_r hJ (by decide +kernel)) dX9_bid_52 ?_
            refine s_iload_n E dX9_bid_55 rfl rfl ?_
            refine s_iload_n E dX9_bid_56 rfl rfl ?_
            refine s_iload_n E dX9_bid_57 rfl rfl ?_
            refine s_vV (As := [AI x1, AI x2, AI x3]) (S := []) E (Z_X0_actBid_2 l D aC b w x1 x2 x3 hJ.1 ) cv_X9_406 rfl rfl rfl (jv_lt hJ (by decide)) (Nat.le_of_ble_eq_true rfl) (Nat.le_of_ble_eq_true rfl) ⟨(Nat.le_of_ble_eq_true rfl), (Nat.le_of_ble_eq_true rfl)⟩ (Nat.le_of_ble_eq_true rfl) dX9_bid_58 (fun u_18 hp_19 => ?_)
            have hj_20 := jv_trans hJ hp_19
            refine s_aload_n E dX9_bid_61 rfl rfl ?_
            refine s_vV (As := []) (S := []) E (Z_X9_settle_0 l D aC b u_18  hj_20.1 ) cv_X9_107 rfl rfl rfl (jv_lt hj_20 (by decide)) (Nat.le_of_ble_eq_true rfl) (Nat.le_of_ble_eq_true rfl) ⟨(Nat.le_of_ble_eq_true rfl), (Nat.le_of_ble_eq_true rfl)⟩ (Nat.le_of_ble_eq_true rfl) dX9_bid_62 (fun u_21 hp_22 => ?_)
            have hj_23 := jv_trans hj_20 hp_22
            refine s_aload_n E dX9_bid_65 rfl rfl ?_
            refine s_gR (r := 69) E fg_X9_54 rfl rfl (jv_lt hj_23 (by decide)) (jv_r hj_23 (by decide +kernel)) dX9_bid_66 ?_
            refine s_iload_n E dX9_bid_69 rfl rfl ?_
            refine s_aload_n E dX9_bid_70 rfl rfl ?_
            refine s_gR (r := 2) E fg_X9_20 rfl rfl (jv_lt hj_23 (by decide)) (jv_r hj_23 (by decide +kernel)) dX9_bid_71 ?_
            refine s_gI E fg_X9_169 rfl rfl (jv_lt hj_23 (by decide)) dX9_bid_74 ?_
            refine z_nm (P := fun z => z.toInt = (u_21.2.2.1 2 2).toInt ∧ 0 ≤ z.toInt ∧ z.toInt ≤ 14) ⟨rfl, (rg_2_2 hj_23)⟩ (fun z_24 hz_24 => ?_)
            refine s_vI (As := [AI x1, AI z_24]) (S := []) E (Z_X2_placeOf_69 l D aC b u_21 x1 z_24 hj_23.1 ) cv_X9_159 rfl rfl rfl (jv_lt hj_23 (by decide)) (Nat.le_of_ble_eq_true rfl) (Nat.le_of_ble_eq_true rfl) ⟨(Nat.le_of_ble_eq_true rfl), (Nat.le_of_ble_eq_true rfl)⟩ (Nat.le_of_ble_eq_true rfl) dX9_bid_77 (fun z_27 u_25 hp_26 => ?_)
            obtain ⟨hz_27, hp_26⟩ := hp_26
            subst hp_26
            exact r_int E dX9_bid_80 ⟨⟨by have hb_ := z32 z_27; omega, by have hb_ := z32 z_27; omega, by have hb_ := z32 z_27; have hc_ := z32 x1; omega, by have hb_ := z32 z_27; have hc_ := z32 x2; omega, by have hb_ := z32 z_27; have hc_ := z32 x3; omega, by have hb_ := z32 z_27; have hc_ := z32 (w.2.2.1 5 3); omega, by have hb_ := z32 z_27; have hc_ := z32 (w.2.2.1 2 1); omega, by have hb_ := z32 z_27; have hc_ := z32 (w.2.2.1 11 3); omega⟩, hj_23⟩
          ·
            refine s_bipush (v := (-5)) E dX9_bid_48 (by decide) ?_
            exact r_int E dX9_bid_50 ⟨⟨by decide, by decide, by first | (left; decide) | (right; have hb_ := z32 x1; omega), by first | (left; decide) | (right; have hb_ := z32 x2; omega), by first | (left; decide) | (right; have hb_ := z32 x3; omega), by first | (left; decide) | (right; have hb_ := z32 (w.2.2.1 5 3); omega), by first | (left; decide) | (right; have hb_ := z32 (w.2.2.1 2 1); omega), by first | (left; decide) | (right; have hb_ := z32 (w.2.2.1 11 3); omega)⟩, hJ⟩
        ·
          refine s_bipush (v := (-2)) E dX9_bid_32 (by decide) ?_
          exact r_int E dX9_bid_34 ⟨⟨by decide, by decide, by first | (left; decide) | (right; have hb_ := z32 x1; omega), by first | (left; decide) | (right; have hb_ := z32 x2; omega), by first | (left; decide) | (right; have hb_ := z32 x3; omega), by first | (left; decide) | (right; have hb_ := z32 (w.2.2.1 5 3); omega), by first | (left; decide) | (right; have hb_ := z32 (w.2.2.1 2 1); omega), by first | (left; decide) | (right; have hb_ := z32 (w.2.2.1 11 3); omega)⟩, hJ⟩
set_option maxRecDepth 20000 in
set_option maxHeartbeats 2000000 in
theorem Z_X8_has_7 (l : Launch) (D : va_G) (aC : Nat → ClassId) (b : Nat) (w : XW) (x1 : Int32) (hI : Iv w)  : CnI l D aC b M_X8_has 0 0 0 0 [AR 7, AI x1] w (fun r u => (0 ≤ r.toInt ∧ r.toInt ≤ 1 ∧ (r.toInt = 0 ∨ (0 ≤ x1.toInt ∧ x1.toInt ≤ 7)) ∧ (r.toInt = 0 ∨ (1 ≤ (w.2.2.1 7 3).toInt ∧ (w.2.2.1 7 3).toInt ≤ 8))) ∧ w = u) := by
  refine cn_I (own := RX8) (nm := "has") (L0 := [some (AR 7), some (AI x1)]) (by decide +kernel) rfl rfl (Nat.le_of_ble_eq_true rfl) rfl ?_
  intro p e s m args below meth c E hin
  have hJ : Jv w w := jv_rfl hI
  refine s_iload_n E dX8_has_0 rfl rfl ?_
  refine z_if_lt (tgt := 16) (u := x1.toInt) E dX8_has_1 (by decide) rfl (fun h_1 => ?_) (fun h_1 => ?_)
  ·
    refine s_iconst (v := 0) E dX8_has_16 (by decide) ?_
    exact r_bool E dX8_has_17 (Or.inl rfl) ⟨⟨by decide, by decide, by first | (left; decide) | (right; have hb_ := z32 x1; omega), by first | (left; decide) | (right; have hb_ := z32 (w.2.2.1 7 3); omega)⟩, rfl⟩
  ·
    refine s_iload_n E dX8_has_4 rfl rfl ?_
    refine s_aload_n E dX8_has_5 rfl rfl ?_
    refine s_gI E fg_X8_28 rfl rfl (jv_lt hJ (by decide)) dX8_has_6 ?_
    refine z_nm (P := fun z => z.toInt = (w.2.2.1 7 3).toInt ∧ 0 ≤ z.toInt ∧ z.toInt ≤ 8) ⟨rfl, (rg_7_3 hJ)⟩ (fun z_2 hz_2 => ?_)
    refine z_icmp_ge (tgt := 16) (u := x1.toInt) (v := z_2.toInt) E dX8_has_9 (by decide) rfl rfl (fun h_3 => ?_) (fun h_3 => ?_)
    ·
      refine s_iconst (v := 0) E dX8_has_16 (by decide) ?_
      exact r_bool E dX8_has_17 (Or.inl rfl) ⟨⟨by decide, by decide, by first | (left; decide) | (right; have hb_ := z32 x1; omega), by first | (left; decide) | (right; have hb_ := z32 (w.2.2.1 7 3); omega)⟩, rfl⟩
    ·
      refine s_iconst (v := 1) E dX8_has_12 (by decide) ?_
      refine s_goto (tgt := 17) E dX8_has_13 (by decide) ?_
      exact r_bool E dX8_has_17 (Or.inr rfl) ⟨⟨by decide, by decide, by first | (left; decide) | (right; have hb_ := z32 x1; omega), by first | (left; decide) | (right; have hb_ := z32 (w.2.2.1 7 3); omega)⟩, rfl⟩
set_option maxRecDepth 20000 in
set_option maxHeartbeats 2000000 in
theorem Z_X8_put_7 (l : Launch) (D : va_G) (aC : Nat → ClassId) (b : Nat) (w : XW) (x1 : Int32) (x2 : Int32) (x3 : Int32) (hI : Iv w)  : CnV l D aC b M_X8_put 1 22 0 0 [AR 7, AI x1, AI x2, AI x3] w (fun u => Jv w u) := by
  refine cn_V (own := RX8) (nm := "put") (L0 := [some (AR 7), some (AI x1), some (AI x2), some (AI x3)]) (by decide +kernel) rfl rfl (Nat.le_of_ble_eq_true rfl) rfl ?_
  intro p e s m args below meth c E hin
  have hJ : Jv w w := jv_rfl hI
  refine s_aload_n E dX8_put_0 rfl rfl ?_
  refine s_iload_n E dX8_put_1 rfl rfl ?_
  refine s_iload_n E dX8_put_2 rfl rfl ?_
  refine s_vI (As := [AI x1, AI x2]) (S := []) E (Z_X8_hasCell_7 l D aC b w x1 x2 hJ.1 ) cv_X8_31 rfl rfl rfl (jv_lt hJ (by decide)) (Nat.le_of_ble_eq_true rfl) (Nat.le_of_ble_eq_true rfl) ⟨(Nat.le_of_ble_eq_true rfl), (Nat.le_of_ble_eq_true rfl)⟩ (Nat.le_of_ble_eq_true rfl) dX8_put_3 (fun z_3 u_1 hp_2 => ?_)
  obtain ⟨hz_3, hp_2⟩ := hp_2
  subst hp_2
  refine z_if_eq (tgt := 23) (u := z_3.toInt) E dX8_put_6 (by decide) rfl (fun h_5 => ?_) (fun h_5 => ?_)
  ·
    exact r_void E dX8_put_23 hJ
  ·
    refine s_aload_n E dX8_put_9 rfl rfl ?_
    refine s_gR (r := 8) E fg_X8_24 rfl rfl (jv_lt hJ (by decide)) (jv_r hJ (by decide +kernel)) dX8_put_10 ?_
    refine s_iload_n E dX8_put_13 rfl rfl ?_
    refine s_aload_n E dX8_put_14 rfl rfl ?_
    refine s_gI E fg_X8_21 rfl rfl (jv_lt hJ (by decide)) dX8_put_15 ?_
    refine s_top (y := 2) (z_pt (by decide) (rg_7_2 hJ)) ?_
    refine z_imul (u := x1.toInt) (v := 2) E dX8_put_18 rfl (by decide) (by omega) (by omega) (fun z_6 hz_6 => ?_)
    refine s_iload_n E dX8_put_19 rfl rfl ?_
    refine z_iadd (u := z_6.toInt) (v := x2.toInt) E dX8_put_20 rfl rfl (by omega) (by omega) (fun z_7 hz_7 => ?_)
    refine s_iload_n E dX8_put_21 rfl rfl ?_
    refine s_iast E rfl (jv_lt hJ (by decide)) (z_in (u := z_7.toInt) rfl (by omega) (by omega)) dX8_put_22 ?_
    refine s_gen (P := fun v => Jv w v ∧ (v.2.2.1 7 3).toInt = (w.2.2.1 7 3).toInt) ⟨(jv_a_8 hJ (by have hb_ := z32 x3; omega) (by have hb_ := z32 x3; omega)), rfl⟩ (fun v_8 hj_9 => ?_)
    obtain ⟨hj_9, hk_10⟩ := hj_9
    exact r_void E dX8_put_23 hj_9
set_option maxRecDepth 20000 in
set_option maxHeartbeats 2000000 in
theorem Z_X0_actMove_2 (l : Launch) (D : va_G) (aC : Nat → ClassId) (b : Nat) (w : XW) (x1 : Int32) (x2 : Int32) (hI : Iv w)  : CnV l D aC b M_X0_actMove 3 69 0 0 [AR 2, AI x1, AI x2] w (fun u => Jv w u) := by
  refine cn_V (own := RX0) (nm := "actMove") (L0 := [some (AR 2), some (AI x1), some (AI x2)]) (by decide +kernel) rfl rfl (Nat.le_of_ble_eq_true rfl) rfl ?_
  intro p e s m args below meth c E hin
  have hJ : Jv w w := jv_rfl hI
  refine s_aload_n E dX0_actMove_0 rfl rfl ?_
  refine s_gR (r := 11) E fg_X0_29 rfl rfl (jv_lt hJ (by decide)) (jv_r hJ (by decide +kernel)) dX0_actMove_1 ?_
  refine s_iconst (v := 1) E dX0_actMove_4 (by decide) ?_
  refine s_iload_n E dX0_actMove_5 rfl rfl ?_
  refine s_iload_n E dX0_actMove_6 rfl rfl ?_
  refine s_aload_n E dX0_actMove_7 rfl rfl ?_
  refine s_gR (r := 7) E fg_X0_23 rfl rfl (jv_lt hJ (by decide)) (jv_r hJ (by decide +kernel)) dX0_actMove_8 ?_
  refine s_iload_n E dX0_actMove_11 rfl rfl ?_
  refine s_iconst (v := 0) E dX0_actMove_12 (by decide) ?_
  refine s_vI (As := [AI x1, AI 0]) (S := [AI x2, AI x1, AI 1, AR 11]) E (Z_X8_cell_7 l D aC b w x1 0 hJ.1 ) cv_X0_70 rfl rfl rfl (jv_lt hJ (by decide)) (Nat.le_of_ble_eq_true rfl) (Nat.le_of_ble_eq_true rfl) ⟨(Nat.le_of_ble_eq_true rfl), (Nat.le_of_ble_eq_true rfl)⟩ (Nat.le_of_ble_eq_true rfl) dX0_actMove_13 (fun z_3 u_1 hp_2 => ?_)
  obtain ⟨hz_3, hp_2⟩ := hp_2
  subst hp_2
  refine s_vV (As := [AI 1, AI x1, AI x2, AI z_3]) (S := []) E (Z_X8_add_11 l D aC b w 1 x1 x2 z_3 hJ.1 ) cv_X0_74 rfl rfl rfl (jv_lt hJ (by decide)) (Nat.le_of_ble_eq_true rfl) (Nat.le_of_ble_eq_true rfl) ⟨(Nat.le_of_ble_eq_true rfl), (Nat.le_of_ble_eq_true rfl)⟩ (Nat.le_of_ble_eq_true rfl) dX0_actMove_16 (fun u_5 hp_6 => ?_)
  have hj_7 := jv_trans hJ hp_6
  refine s_aload_n E dX0_actMove_19 rfl rfl ?_
  refine s_gR (r := 7) E fg_X0_23 rfl rfl (jv_lt hj_7 (by decide)) (jv_r hj_7 (by decide +kernel)) dX0_actMove_20 ?_
  refine s_iload_n E dX0_actMove_23 rfl rfl ?_
  refine s_iconst (v := 0) E dX0_actMove_24 (by decide) ?_
  refine s_iload_n E dX0_actMove_25 rfl rfl ?_
  refine s_vV (As := [AI x1, AI 0, AI x2]) (S := []) E (Z_X8_put_7 l D aC b u_5 x1 0 x2 hj_7.1 ) cv_X0_78 rfl rfl rfl (jv_lt hj_7 (by decide)) (Nat.le_of_ble_eq_true rfl) (Nat.le_of_ble_eq_true rfl) ⟨(Nat.le_of_ble_eq_true rfl), (Nat.le_of_ble_eq_true rfl)⟩ (Nat.le_of_ble_eq_true rfl) dX0_actMove_26 (fun u_8 hp_9 => ?_)
  have hj_10 := jv_trans hj_7 hp_9
  exact r_void E dX0_actMove_29 hj_10
set_option maxRecDepth 20000 in
set_option maxHeartbeats 2000000 in
theorem Z_X9_move_0 (l : Launch) (D : va_G) (aC : Nat → ClassId) (b : Nat) (w : XW) (x1 : Int32) (x2 : Int32) (hI : Iv w)  : CnI l D aC b M_X9_move 4 91 0 0 [AR 0, AI x1, AI x2] w (fun r u => ((-2147483648) ≤ r.toInt ∧ r.toInt ≤ 2147483647 ∧ (¬ r.toInt = 0 ∨ (0 ≤ x1.toInt ∧ x1.toInt ≤ 7)) ∧ (¬ r.toInt = 0 ∨ (0 ≤ x2.toInt ∧ x2.toInt ≤ 5)) ∧ (¬ r.toInt = 0 ∨ (1 ≤ (w.2.2.1 7 3).toInt ∧ (w.2.2.1 7 3).toInt ≤ 8)) ∧ (¬ r.toInt = 0 ∨ (1 ≤ (w.2.2.1 5 3).toInt ∧ (w.2.2.1 5 3).toInt ≤ 6)) ∧ (¬ r.toInt = 0 ∨ (0 ≤ (w.2.2.1 11 3).toInt ∧ (w.2.2.1 11 3).toInt ≤ 29))) ∧ Jv w u) := by
  refine cn_I (own := RX9) (nm := "move") (L0 := [some (AR 0), some (AI x1), some (AI x2), none]) (by decide +kernel) rfl rfl (Nat.le_of_ble_eq_true rfl) rfl ?_
  intro p e s m args below meth c E hin
  have hJ : Jv w w := jv_rfl hI
  refine s_aload_n E dX9_move_0 rfl rfl ?_
  refine s_gR (r := 2) E fg_X9_20 rfl rfl (jv_lt hJ (by decide)) (jv_r hJ (by decide +kernel)) dX9_move_1 ?_
  refine s_gR (r := 7) E fg_X9_136 rfl rfl (jv_lt hJ (by decide)) (jv_r hJ (by decide +kernel)) dX9_move_4 ?_
  refine s_iload_n E dX9_move_7 rfl rfl ?_
  refine s_vI (As := [AI x1]) (S := []) E (Z_X8_has_7 l D aC b w x1 hJ.1 ) cv_X9_257 rfl rfl rfl (jv_lt hJ (by decide)) (Nat.le_of_ble_eq_true rfl) (Nat.le_of_ble_eq_true rfl) ⟨(Nat.le_of_ble_eq_true rfl), (Nat.le_of_ble_eq_true rfl)⟩ (Nat.le_of_ble_eq_true rfl) dX9_move_8 (fun z_3 u_1 hp_2 => ?_)
  obtain ⟨hz_3, hp_2⟩ := hp_2
  subst hp_2
  refine z_if_eq (tgt := 25) (u := z_3.toInt) E dX9_move_11 (by decide) rfl (fun h_5 => ?_) (fun h_5 => ?_)
  ·
    refine s_bipush (v := (-2)) E dX9_move_25 (by decide) ?_
    exact r_int E dX9_move_27 ⟨⟨by decide, by decide, by first | (left; decide) | (right; have hb_ := z32 x1; omega), by first | (left; decide) | (right; have hb_ := z32 x2; omega), by first | (left; decide) | (right; have hb_ := z32 (w.2.2.1 7 3); omega), by first | (left; decide) | (right; have hb_ := z32 (w.2.2.1 5 3); omega), by first | (left; decide) | (right; have hb_ := z32 (w.2.2.1 11 3); omega)⟩, hJ⟩
  ·
    refine s_aload_n E dX9_move_14 rfl rfl ?_
    refine s_gR (r := 2) E fg_X9_20 rfl rfl (jv_lt hJ (by decide)) (jv_r hJ (by decide +kernel)) dX9_move_15 ?_
    refine s_iload_n E dX9_move_18 rfl rfl ?_
    refine s_vI (As := [AI x2]) (S := []) E (Z_X0_hasLady_2 l D aC b w x2 hJ.1 ) cv_X9_139 rfl rfl rfl (jv_lt hJ (by decide)) (Nat.le_of_ble_eq_true rfl) (Nat.le_of_ble_eq_true rfl) ⟨(Nat.le_of_ble_eq_true rfl), (Nat.le_of_ble_eq_true rfl)⟩ (Nat.le_of_ble_eq_true rfl) dX9_move_19 (fun z_8 u_6 hp_7 => ?_)
    obtain ⟨hz_8, hp_7⟩ := hp_7
    subst hp_7
    refine z_if_ne (tgt := 28) (u := z_8.toInt) E dX9_move_22 (by decide) rfl (fun h_10 => ?_) (fun h_10 => ?_)
    ·
      refine s_aload_n E dX9_move_28 rfl rfl ?_
      refine s_gR (r := 2) E fg_X9_20 rfl rfl (jv_lt hJ (by decide)) (jv_r hJ (by decide +kernel)) dX9_move_29 ?_
      refine s_gR (r := 11) E fg_X9_400 rfl rfl (jv_lt hJ (by decide)) (jv_r hJ (by decide +kernel)) dX9_move_32 ?_
      refine s_vI (As := []) (S := []) E (Z_X8_isFull_11 l D aC b w  hJ.1 ) cv_X9_403 rfl rfl rfl (jv_lt hJ (by decide)) (Nat.le_of_ble_eq_true rfl) (Nat.le_of_ble_eq_true rfl) ⟨(Nat.le_of_ble_eq_true rfl), (Nat.le_of_ble_eq_true rfl)⟩ (Nat.le_of_ble_eq_true rfl) dX9_move_35 (fun z_13 u_11 hp_12 => ?_)
      obtain ⟨hz_13, hp_12⟩ := hp_12
      subst hp_12
      refine z_if_eq (tgt := 44) (u := z_13.toInt) E dX9_move_38 (by decide) rfl (fun h_15 => ?_) (fun h_15 => ?_)
      ·
        refine s_aload_n E dX9_move_44 rfl rfl ?_
        refine s_gR (r := 2) E fg_X9_20 rfl rfl (jv_lt hJ (by decide)) (jv_r hJ (by decide +kernel)) dX9_move_45 ?_
        refine s_gR (r := 7) E fg_X9_136 rfl rfl (jv_lt hJ (by decide)) (jv_r hJ (by decide +kernel)) dX9_move_48 ?_
        refine s_iload_n E dX9_move_51 rfl rfl ?_
        refine s_iconst (v := 0) E dX9_move_52 (by decide) ?_
        refine s_vI (As := [AI x1, AI 0]) (S := []) E (Z_X8_cell_7 l D aC b w x1 0 hJ.1 ) cv_X9_129 rfl rfl rfl (jv_lt hJ (by decide)) (Nat.le_of_ble_eq_true rfl) (Nat.le_of_ble_eq_true rfl) ⟨(Nat.le_of_ble_eq_true rfl), (Nat.le_of_ble_eq_true rfl)⟩ (Nat.le_of_ble_eq_true rfl) dX9_move_53 (fun z_18 u_16 hp_17 => ?_)
        obtain ⟨hz_18, hp_17⟩ := hp_17
        subst hp_17
        refine s_istore_n (L2 := [some (AR 0), some (AI x1), some (AI x2), some (AI z_18)]) E dX9_move_56 rfl (by decide) rfl ?_
        refine s_aload_n E dX9_move_57 rfl rfl ?_
        refine s_gR (r := 2) E fg_X9_20 rfl rfl (jv_lt hJ (by decide)) (jv_r hJ (by decide +kernel)) dX9_move_58 ?_
        refine s_iload_n E dX9_move_61 rfl rfl ?_
        refine s_iload_n E dX9_move_62 rfl rfl ?_
        refine s_vV (As := [AI x1, AI x2]) (S := []) E (Z_X0_actMove_2 l D aC b w x1 x2 hJ.1 ) cv_X9_410 rfl rfl rfl (jv_lt hJ (by decide)) (Nat.le_of_ble_eq_true rfl) (Nat.le_of_ble_eq_true rfl) ⟨(Nat.le_of_ble_eq_true rfl), (Nat.le_of_ble_eq_true rfl)⟩ (Nat.le_of_ble_eq_true rfl) dX9_move_63 (fun u_20 hp_21 => ?_)
        have hj_22 := jv_trans hJ hp_21
        refine s_iload_n E dX9_move_66 rfl rfl ?_
        exact r_int E dX9_move_67 ⟨⟨by have hb_ := z32 z_18; omega, by have hb_ := z32 z_18; omega, by have hb_ := z32 z_18; have hc_ := z32 x1; omega, by have hb_ := z32 z_18; have hc_ := z32 x2; omega, by have hb_ := z32 z_18; have hc_ := z32 (w.2.2.1 7 3); omega, by have hb_ := z32 z_18; have hc_ := z32 (w.2.2.1 5 3); omega, by have hb_ := z32 z_18; have hc_ := z32 (w.2.2.1 11 3); omega⟩, hj_22⟩
      ·
        refine s_bipush (v := (-5)) E dX9_move_41 (by decide) ?_
        exact r_int E dX9_move_43 ⟨⟨by decide, by decide, by first | (left; decide) | (right; have hb_ := z32 x1; omega), by first | (left; decide) | (right; have hb_ := z32 x2; omega), by first | (left; decide) | (right; have hb_ := z32 (w.2.2.1 7 3); omega), by first | (left; decide) | (right; have hb_ := z32 (w.2.2.1 5 3); omega), by first | (left; decide) | (right; have hb_ := z32 (w.2.2.1 11 3); omega)⟩, hJ⟩
    ·
      refine s_bipush (v := (-2)) E dX9_move_25 (by decide) ?_
      exact r_int E dX9_move_27 ⟨⟨by decide, by decide, by first | (left; decide) | (right; have hb_ := z32 x1; omega), by first | (left; decide) | (right; have hb_ := z32 x2; omega), by first | (left; decide) | (right; have hb_ := z32 (w.2.2.1 7 3); omega), by first | (left; decide) | (right; have hb_ := z32 (w.2.2.1 5 3); omega), by first | (left; decide) | (right; have hb_ := z32 (w.2.2.1 11 3); omega)⟩, hJ⟩
set_option maxRecDepth 20000 in
set_option maxHeartbeats 2000000 in
theorem Z_X8_dropLast_11 (l : Launch) (D : va_G) (aC : Nat → ClassId) (b : Nat) (w : XW)  (hI : Iv w)  : CnV l D aC b M_X8_dropLast 1 21 0 0 [AR 11] w (fun u => Jv w u) := by
  refine cn_V (own := RX8) (nm := "dropLast") (L0 := [some (AR 11)]) (by decide +kernel) rfl rfl (Nat.le_of_ble_eq_true rfl) rfl ?_
  intro p e s m args below meth c E hin
  have hJ : Jv w w := jv_rfl hI
  refine s_aload_n E dX8_dropLast_0 rfl rfl ?_
  refine s_iconst (v := 0) E dX8_dropLast_1 (by decide) ?_
  refine s_aload_n E dX8_dropLast_2 rfl rfl ?_
  refine s_gI E fg_X8_28 rfl rfl (jv_lt hJ (by decide)) dX8_dropLast_3 ?_
  refine z_nm (P := fun z => z.toInt = (w.2.2.1 11 3).toInt ∧ 0 ≤ z.toInt ∧ z.toInt ≤ 30) ⟨rfl, (rg_11_3 hJ)⟩ (fun z_1 hz_1 => ?_)
  refine s_iconst (v := 1) E dX8_dropLast_6 (by decide) ?_
  refine z_isub (u := z_1.toInt) (v := 1) E dX8_dropLast_7 rfl (by decide) (by omega) (by omega) (fun z_2 hz_2 => ?_)
  refine z_max (u := 0) (v := z_2.toInt) E ⟨k_40, k_41, k_4, k_42⟩ (Nat.le_of_ble_eq_true rfl) (Nat.le_of_ble_eq_true rfl) (Nat.le_of_ble_eq_true rfl) (Nat.le_of_ble_eq_true rfl) dX8_dropLast_8 (by decide) rfl (fun z_3 hz_3 => ?_)
  refine s_pI E fp_X8_28 (Or.inl rfl) rfl (jv_lt hJ (by decide)) dX8_dropLast_11 ?_
  refine s_gen (P := Jv w) (jv_f_11_3 hJ (by have hb_ := z32 z_3; omega) (by have hb_ := z32 z_3; omega)) (fun v_4 hj_5 => ?_)
  exact r_void E dX8_dropLast_14 hj_5
set_option maxRecDepth 20000 in
set_option maxHeartbeats 2000000 in
theorem Z_X0_takeBack_2 (l : Launch) (D : va_G) (aC : Nat → ClassId) (b : Nat) (w : XW)  (hI : Iv w)  : CnV l D aC b M_X0_takeBack 2 45 0 0 [AR 2] w (fun u => Jv w u) := by
  refine cn_V (own := RX0) (nm := "takeBack") (L0 := [some (AR 2), none]) (by decide +kernel) rfl rfl (Nat.le_of_ble_eq_true rfl) rfl ?_
  intro p e s m args below meth c E hin
  have hJ : Jv w w := jv_rfl hI
  refine s_aload_n E dX0_takeBack_0 rfl rfl ?_
  refine s_gR (r := 11) E fg_X0_29 rfl rfl (jv_lt hJ (by decide)) (jv_r hJ (by decide +kernel)) dX0_takeBack_1 ?_
  refine s_gI E fg_X0_67 rfl rfl (jv_lt hJ (by decide)) dX0_takeBack_4 ?_
  refine z_nm (P := fun z => z.toInt = (w.2.2.1 11 3).toInt ∧ 0 ≤ z.toInt ∧ z.toInt ≤ 30) ⟨rfl, (rg_11_3 hJ)⟩ (fun z_1 hz_1 => ?_)
  refine s_iconst (v := 1) E dX0_takeBack_7 (by decide) ?_
  refine z_isub (u := z_1.toInt) (v := 1) E dX0_takeBack_8 rfl (by decide) (by omega) (by omega) (fun z_2 hz_2 => ?_)
  refine s_istore_n (L2 := [some (AR 2), some (AI z_2)]) E dX0_takeBack_9 rfl (by decide) rfl ?_
  refine s_aload_n E dX0_takeBack_10 rfl rfl ?_
  refine s_gR (r := 11) E fg_X0_29 rfl rfl (jv_lt hJ (by decide)) (jv_r hJ (by decide +kernel)) dX0_takeBack_11 ?_
  refine s_iload_n E dX0_takeBack_14 rfl rfl ?_
  refine s_iconst (v := 0) E dX0_takeBack_15 (by decide) ?_
  refine s_vI (As := [AI z_2, AI 0]) (S := []) E (Z_X8_cell_11 l D aC b w z_2 0 hJ.1 ) cv_X0_70 rfl rfl rfl (jv_lt hJ (by decide)) (Nat.le_of_ble_eq_true rfl) (Nat.le_of_ble_eq_true rfl) ⟨(Nat.le_of_ble_eq_true rfl), (Nat.le_of_ble_eq_true rfl)⟩ (Nat.le_of_ble_eq_true rfl) dX0_takeBack_16 (fun z_5 u_3 hp_4 => ?_)
  obtain ⟨hz_5, hp_4⟩ := hp_4
  subst hp_4
  refine s_iconst (v := 1) E dX0_takeBack_19 (by decide) ?_
  refine z_icmp_ne (tgt := 49) (u := z_5.toInt) (v := 1) E dX0_takeBack_20 (by decide) rfl (by decide) (fun h_7 => ?_) (fun h_7 => ?_)
  ·
    refine s_aload_n E dX0_takeBack_49 rfl rfl ?_
    refine s_gR (r := 11) E fg_X0_29 rfl rfl (jv_lt hJ (by decide)) (jv_r hJ (by decide +kernel)) dX0_takeBack_50 ?_
    refine s_vV (As := []) (S := []) E (Z_X8_dropLast_11 l D aC b w  hJ.1 ) cv_X0_82 rfl rfl rfl (jv_lt hJ (by decide)) (Nat.le_of_ble_eq_true rfl) (Nat.le_of_ble_eq_true rfl) ⟨(Nat.le_of_ble_eq_true rfl), (Nat.le_of_ble_eq_true rfl)⟩ (Nat.le_of_ble_eq_true rfl) dX0_takeBack_53 (fun u_8 hp_9 => ?_)
    have hj_10 := jv_trans hJ hp_9
    exact r_void E dX0_takeBack_56 hj_10
  ·
    refine s_aload_n E dX0_takeBack_23 rfl rfl ?_
    refine s_gR (r := 7) E fg_X0_23 rfl rfl (jv_lt hJ (by decide)) (jv_r hJ (by decide +kernel)) dX0_takeBack_24 ?_
    refine s_aload_n E dX0_takeBack_27 rfl rfl ?_
    refine s_gR (r := 11) E fg_X0_29 rfl rfl (jv_lt hJ (by decide)) (jv_r hJ (by decide +kernel)) dX0_takeBack_28 ?_
    refine s_iload_n E dX0_takeBack_31 rfl rfl ?_
    refine s_iconst (v := 1) E dX0_takeBack_32 (by decide) ?_
    refine s_vI (As := [AI z_2, AI 1]) (S := [AR 7]) E (Z_X8_cell_11 l D aC b w z_2 1 hJ.1 ) cv_X0_70 rfl rfl rfl (jv_lt hJ (by decide)) (Nat.le_of_ble_eq_true rfl) (Nat.le_of_ble_eq_true rfl) ⟨(Nat.le_of_ble_eq_true rfl), (Nat.le_of_ble_eq_true rfl)⟩ (Nat.le_of_ble_eq_true rfl) dX0_takeBack_33 (fun z_13 u_11 hp_12 => ?_)
    obtain ⟨hz_13, hp_12⟩ := hp_12
    subst hp_12
    refine s_iconst (v := 0) E dX0_takeBack_36 (by decide) ?_
    refine s_aload_n E dX0_takeBack_37 rfl rfl ?_
    refine s_gR (r := 11) E fg_X0_29 rfl rfl (jv_lt hJ (by decide)) (jv_r hJ (by decide +kernel)) dX0_takeBack_38 ?_
    refine s_iload_n E dX0_takeBack_41 rfl rfl ?_
    refine s_iconst (v := 3) E dX0_takeBack_42 (by decide) ?_
    refine s_vI (As := [AI z_2, AI 3]) (S := [AI 0, AI z_13, AR 7]) E (Z_X8_cell_11 l D aC b w z_2 3 hJ.1 ) cv_X0_70 rfl rfl rfl (jv_lt hJ (by decide)) (Nat.le_of_ble_eq_true rfl) (Nat.le_of_ble_eq_true rfl) ⟨(Nat.le_of_ble_eq_true rfl), (Nat.le_of_ble_eq_true rfl)⟩ (Nat.le_of_ble_eq_true rfl) dX0_takeBack_43 (fun z_17 u_15 hp_16 => ?_)
    obtain ⟨hz_17, hp_16⟩ := hp_16
    subst hp_16
    refine s_vV (As := [AI z_13, AI 0, AI z_17]) (S := []) E (Z_X8_put_7 l D aC b w z_13 0 z_17 hJ.1 ) cv_X0_78 rfl rfl rfl (jv_lt hJ (by decide)) (Nat.le_of_ble_eq_true rfl) (Nat.le_of_ble_eq_true rfl) ⟨(Nat.le_of_ble_eq_true rfl), (Nat.le_of_ble_eq_true rfl)⟩ (Nat.le_of_ble_eq_true rfl) dX0_takeBack_46 (fun u_19 hp_20 => ?_)
    have hj_21 := jv_trans hJ hp_20
    refine s_aload_n E dX0_takeBack_49 rfl rfl ?_
    refine s_gR (r := 11) E fg_X0_29 rfl rfl (jv_lt hj_21 (by decide)) (jv_r hj_21 (by decide +kernel)) dX0_takeBack_50 ?_
    refine s_vV (As := []) (S := []) E (Z_X8_dropLast_11 l D aC b u_19  hj_21.1 ) cv_X0_82 rfl rfl rfl (jv_lt hj_21 (by decide)) (Nat.le_of_ble_eq_true rfl) (Nat.le_of_ble_eq_true rfl) ⟨(Nat.le_of_ble_eq_true rfl), (Nat.le_of_ble_eq_true rfl)⟩ (Nat.le_of_ble_eq_true rfl) dX0_takeBack_53 (fun u_22 hp_23 => ?_)
    have hj_24 := jv_trans hj_21 hp_23
    exact r_void E dX0_takeBack_56 hj_24
set_option maxRecDepth 20000 in
set_option maxHeartbeats 2000000 in
theorem Z_X9_undo_0 (l : Launch) (D : va_G) (aC : Nat → ClassId) (b : Nat) (w : XW)  (hI : Iv w)  : CnI l D aC b M_X9_undo 6 140 0 0 [AR 0] w (fun r u => ((-5) ≤ r.toInt ∧ r.toInt ≤ 30 ∧ (¬ r.toInt = 0 ∨ (1 ≤ (w.2.2.1 2 0).toInt ∧ (w.2.2.1 2 0).toInt ≤ 2147483647)) ∧ (¬ r.toInt = 0 ∨ (1 ≤ (w.2.2.1 11 3).toInt ∧ (w.2.2.1 11 3).toInt ≤ 30))) ∧ Jv w u) := by
  refine cn_I (own := RX9) (nm := "undo") (L0 := [some (AR 0)]) (by decide +kernel) rfl rfl (Nat.le_of_ble_eq_true rfl) rfl ?_
  intro p e s m args below meth c E hin
  have hJ : Jv w w := jv_rfl hI
  refine s_aload_n E dX9_undo_0 rfl rfl ?_
  refine s_gR (r := 2) E fg_X9_20 rfl rfl (jv_lt hJ (by decide)) (jv_r hJ (by decide +kernel)) dX9_undo_1 ?_
  refine s_vI (As := []) (S := []) E (Z_X0_isTold_2 l D aC b w  hJ.1 ) cv_X9_184 rfl rfl rfl (jv_lt hJ (by decide)) (Nat.le_of_ble_eq_true rfl) (Nat.le_of_ble_eq_true rfl) ⟨(Nat.le_of_ble_eq_true rfl), (Nat.le_of_ble_eq_true rfl)⟩ (Nat.le_of_ble_eq_true rfl) dX9_undo_4 (fun z_3 u_1 hp_2 => ?_)
  obtain ⟨hz_3, hp_2⟩ := hp_2
  subst hp_2
  refine z_if_ne (tgt := 13) (u := z_3.toInt) E dX9_undo_7 (by decide) rfl (fun h_5 => ?_) (fun h_5 => ?_)
  ·
    refine s_aload_n E dX9_undo_13 rfl rfl ?_
    refine s_gR (r := 2) E fg_X9_20 rfl rfl (jv_lt hJ (by decide)) (jv_r hJ (by decide +kernel)) dX9_undo_14 ?_
    refine s_gR (r := 11) E fg_X9_400 rfl rfl (jv_lt hJ (by decide)) (jv_r hJ (by decide +kernel)) dX9_undo_17 ?_
    refine s_gI E fg_X9_200 rfl rfl (jv_lt hJ (by decide)) dX9_undo_20 ?_
    refine z_nm (P := fun z => z.toInt = (w.2.2.1 11 3).toInt ∧ 0 ≤ z.toInt ∧ z.toInt ≤ 30) ⟨rfl, (rg_11_3 hJ)⟩ (fun z_6 hz_6 => ?_)
    refine z_if_ne (tgt := 29) (u := z_6.toInt) E dX9_undo_23 (by decide) rfl (fun h_7 => ?_) (fun h_7 => ?_)
    ·
      refine s_aload_n E dX9_undo_29 rfl rfl ?_
      refine s_gR (r := 2) E fg_X9_20 rfl rfl (jv_lt hJ (by decide)) (jv_r hJ (by decide +kernel)) dX9_undo_30 ?_
      refine s_vV (As := []) (S := []) E (Z_X0_takeBack_2 l D aC b w  hJ.1 ) cv_X9_414 rfl rfl rfl (jv_lt hJ (by decide)) (Nat.le_of_ble_eq_true rfl) (Nat.le_of_ble_eq_true rfl) ⟨(Nat.le_of_ble_eq_true rfl), (Nat.le_of_ble_eq_true rfl)⟩ (Nat.le_of_ble_eq_true rfl) dX9_undo_33 (fun u_8 hp_9 => ?_)
      have hj_10 := jv_trans hJ hp_9
      refine s_aload_n E dX9_undo_36 rfl rfl ?_
      refine s_vV (As := []) (S := []) E (Z_X9_settle_0 l D aC b u_8  hj_10.1 ) cv_X9_107 rfl rfl rfl (jv_lt hj_10 (by decide)) (Nat.le_of_ble_eq_true rfl) (Nat.le_of_ble_eq_true rfl) ⟨(Nat.le_of_ble_eq_true rfl), (Nat.le_of_ble_eq_true rfl)⟩ (Nat.le_of_ble_eq_true rfl) dX9_undo_37 (fun u_11 hp_12 => ?_)
      have hj_13 := jv_trans hj_10 hp_12
      refine s_aload_n E dX9_undo_40 rfl rfl ?_
      refine s_gR (r := 2) E fg_X9_20 rfl rfl (jv_lt hj_13 (by decide)) (jv_r hj_13 (by decide +kernel)) dX9_undo_41 ?_
      refine s_gR (r := 11) E fg_X9_400 rfl rfl (jv_lt hj_13 (by decide)) (jv_r hj_13 (by decide +kernel)) dX9_undo_44 ?_
      refine s_gI E fg_X9_200 rfl rfl (jv_lt hj_13 (by decide)) dX9_undo_47 ?_
      refine z_nm (P := fun z => z.toInt = (u_11.2.2.1 11 3).toInt ∧ 0 ≤ z.toInt ∧ z.toInt ≤ 30) ⟨rfl, (rg_11_3 hj_13)⟩ (fun z_14 hz_14 => ?_)
      exact r_int E dX9_undo_50 ⟨⟨by have hb_ := z32 z_14; omega, by have hb_ := z32 z_14; omega, by have hb_ := z32 z_14; have hc_ := z32 (w.2.2.1 2 0); omega, by have hb_ := z32 z_14; have hc_ := z32 (w.2.2.1 11 3); omega⟩, hj_13⟩
    ·
      refine s_bipush (v := (-5)) E dX9_undo_26 (by decide) ?_
      exact r_int E dX9_undo_28 ⟨⟨by decide, by decide, by first | (left; decide) | (right; have hb_ := z32 (w.2.2.1 2 0); omega), by first | (left; decide) | (right; have hb_ := z32 (w.2.2.1 11 3); omega)⟩, hJ⟩
  ·
    refine s_bipush (v := (-2)) E dX9_undo_10 (by decide) ?_
    exact r_int E dX9_undo_12 ⟨⟨by decide, by decide, by first | (left; decide) | (right; have hb_ := z32 (w.2.2.1 2 0); omega), by first | (left; decide) | (right; have hb_ := z32 (w.2.2.1 11 3); omega)⟩, hJ⟩
