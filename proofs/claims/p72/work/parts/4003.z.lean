set_option maxRecDepth 20000 in
set_option maxHeartbeats 2000000 in
theorem Z_X10_number_95 (l : Launch) (D : va_G) (aC : Nat → ClassId) (b : Nat) (w : XW) (x1 : Int32) (x2 : Int32) (hI : Iv w) (hpi : (w.2.2.1 95 9).toInt ≤ (w.2.2.1 95 8).toInt ∧ ((w.2.2.1 95 10).toInt = 0 ∨ (w.2.2.1 95 9).toInt < (w.2.2.1 95 8).toInt)) : CnI l D aC b M_X10_number 2 46 0 0 [AR 95, AI x1, AI x2] w (fun r u => (0 ≤ r.toInt ∧ r.toInt ≤ 99999 ∧ (r.toInt = 0 ∨ (0 ≤ (w.2.2.1 95 12).toInt ∧ (w.2.2.1 95 12).toInt ≤ 0))) ∧ (((u.2.2.1 95 12).toInt = 0 → r.toInt = (w.2.2.1 95 11).toInt ∧ (w.2.2.1 95 10).toInt = 2) ∧ (r.toInt = 0 ∨ (x1.toInt ≤ r.toInt ∧ r.toInt ≤ x2.toInt)) ∧ ((u.2.2.1 95 12).toInt = 0 → x1.toInt ≤ r.toInt ∧ r.toInt ≤ x2.toInt) ∧ (u.2.2.1 95 7).toInt = (w.2.2.1 95 7).toInt ∧ ((u.2.2.1 95 12).toInt = 0 → (w.2.2.1 95 12).toInt = 0) ∧ (w.2.2.1 95 9).toInt ≤ (u.2.2.1 95 9).toInt ∧ (u.2.2.1 95 9).toInt ≤ (u.2.2.1 95 8).toInt ∧ ((u.2.2.1 95 10).toInt = 0 ∨ (u.2.2.1 95 9).toInt < (u.2.2.1 95 8).toInt)) ∧ ((u.2.2.1 101) = (w.2.2.1 101)) ∧ Jv w u) := by
  refine cn_I (own := RX10) (nm := "number") (L0 := [some (AR 95), some (AI x1), some (AI x2), none]) (by decide +kernel) rfl rfl (Nat.le_of_ble_eq_true rfl) rfl ?_
  intro p e s m args below meth c E hin
  have hJ : Jv w w := jv_rfl hI
  have hb_x1 := z32 x1
  have hb_x2 := z32 x2
  refine s_aload_n E dX10_number_0 rfl rfl ?_
  refine s_vI (As := []) (S := []) E (Z_X10_good_95 l D aC b w  hJ.1 ) cv_X10_130 rfl rfl rfl (jv_lt hJ (by decide)) (Nat.le_of_ble_eq_true rfl) (Nat.le_of_ble_eq_true rfl) ⟨(Nat.le_of_ble_eq_true rfl), (Nat.le_of_ble_eq_true rfl)⟩ (Nat.le_of_ble_eq_true rfl) dX10_number_1 (fun z_3 u_1 hp_2 => ?_)
  obtain ⟨hz_3, hxz_3, hp_2⟩ := hp_2
  subst hp_2
  refine z_if_eq (tgt := 20) (u := z_3.toInt) E dX10_number_4 (by decide) rfl (fun h_5 => ?_) (fun h_5 => ?_)
  ·
    refine s_aload_n E dX10_number_20 rfl rfl ?_
    refine s_vI (As := []) (S := []) E (Z_X10_good_95 l D aC b w  hJ.1 ) cv_X10_130 rfl rfl rfl (jv_lt hJ (by decide)) (Nat.le_of_ble_eq_true rfl) (Nat.le_of_ble_eq_true rfl) ⟨(Nat.le_of_ble_eq_true rfl), (Nat.le_of_ble_eq_true rfl)⟩ (Nat.le_of_ble_eq_true rfl) dX10_number_21 (fun z_8 u_6 hp_7 => ?_)
    obtain ⟨hz_8, hxz_8, hp_7⟩ := hp_7
    subst hp_7
    refine z_if_eq (tgt := 47) (u := z_8.toInt) E dX10_number_24 (by decide) rfl (fun h_10 => ?_) (fun h_10 => ?_)
    ·
      refine s_aload_n E dX10_number_47 rfl rfl ?_
      refine s_vI (As := []) (S := []) E (Z_X10_good_95 l D aC b w  hJ.1 ) cv_X10_130 rfl rfl rfl (jv_lt hJ (by decide)) (Nat.le_of_ble_eq_true rfl) (Nat.le_of_ble_eq_true rfl) ⟨(Nat.le_of_ble_eq_true rfl), (Nat.le_of_ble_eq_true rfl)⟩ (Nat.le_of_ble_eq_true rfl) dX10_number_48 (fun z_13 u_11 hp_12 => ?_)
      obtain ⟨hz_13, hxz_13, hp_12⟩ := hp_12
      subst hp_12
      refine z_if_ne (tgt := 56) (u := z_13.toInt) E dX10_number_51 (by decide) rfl (fun h_15 => ?_) (fun h_15 => ?_)
      ·
        refine s_aload_n E dX10_number_56 rfl rfl ?_
        refine s_gI E fg_X10_117 rfl rfl (jv_lt hJ (by decide)) dX10_number_57 ?_
        refine z_nm (P := fun z => z.toInt = (w.2.2.1 95 11).toInt ∧ 0 ≤ z.toInt ∧ z.toInt ≤ 99999) ⟨rfl, (rg_95_11 hJ)⟩ (fun z_16 hz_16 => ?_)
        refine s_istore_n (L2 := [some (AR 95), some (AI x1), some (AI x2), some (AI z_16)]) E dX10_number_60 rfl (by decide) rfl ?_
        refine s_aload_n E dX10_number_61 rfl rfl ?_
        refine s_vV (As := []) (S := []) E (Z_X10_advance_95 l D aC b w  hJ.1 ) cv_X10_147 rfl rfl rfl (jv_lt hJ (by decide)) (Nat.le_of_ble_eq_true rfl) (Nat.le_of_ble_eq_true rfl) ⟨(Nat.le_of_ble_eq_true rfl), (Nat.le_of_ble_eq_true rfl)⟩ (Nat.le_of_ble_eq_true rfl) dX10_number_62 (fun u_17 hp_18 => ?_)
        obtain ⟨hx_hp_18, hf_u_17_99, hf_u_17_101, hp_18⟩ := hp_18
        have hj_19 := jv_trans hJ hp_18
        refine s_iload_n E dX10_number_65 rfl rfl ?_
        exact r_int E dX10_number_66 ⟨⟨by have hb_ := z32 z_16; omega, by have hb_ := z32 z_16; omega, by first | (right; decide) | (have hb_ := z32 z_16; omega) | (have hb_ := z32 z_16; have hc_ := z32 (w.2.2.1 95 12); omega)⟩, (by omega), hf_u_17_101, hj_19⟩
      ·
        refine s_iconst (v := 0) E dX10_number_54 (by decide) ?_
        exact r_int E dX10_number_55 ⟨⟨by decide, by decide, by first | (left; decide) | (right; decide) | (right; have hb_ := z32 (w.2.2.1 95 12); omega)⟩, (by have hrc_ : (0 : Int32).toInt = 0 := (by decide); omega), rfl, hJ⟩
    ·
      refine s_aload_n E dX10_number_27 rfl rfl ?_
      refine s_gI E fg_X10_117 rfl rfl (jv_lt hJ (by decide)) dX10_number_28 ?_
      refine z_nm (P := fun z => z.toInt = (w.2.2.1 95 11).toInt ∧ 0 ≤ z.toInt ∧ z.toInt ≤ 99999) ⟨rfl, (rg_95_11 hJ)⟩ (fun z_20 hz_20 => ?_)
      refine z_i2l (u := z_20.toInt) E dX10_number_31 rfl (fun z_21 hz_21 => ?_)
      refine s_iload_n E dX10_number_32 rfl rfl ?_
      refine z_i2l (u := x1.toInt) E dX10_number_33 rfl (fun z_22 hz_22 => ?_)
      refine s_iload_n E dX10_number_34 rfl rfl ?_
      refine z_i2l (u := x2.toInt) E dX10_number_35 rfl (fun z_23 hz_23 => ?_)
      refine s_sI (As := [AL z_21, AL z_22, AL z_23]) (S := []) E (Z_X10_in l D aC b w z_21 z_22 z_23) cs_X10_82 rfl rfl (Nat.le_of_ble_eq_true rfl) (Nat.le_of_ble_eq_true rfl) ⟨(Nat.le_of_ble_eq_true rfl), (Nat.le_of_ble_eq_true rfl)⟩ (Nat.le_of_ble_eq_true rfl) dX10_number_36 (fun z_24 u_25 hp_26 => ?_)
      obtain ⟨hz_24, hp_26⟩ := hp_26
      subst hp_26
      refine z_if_ne (tgt := 47) (u := z_24.toInt) E dX10_number_39 (by decide) rfl (fun h_27 => ?_) (fun h_27 => ?_)
      ·
        refine s_aload_n E dX10_number_47 rfl rfl ?_
        refine s_vI (As := []) (S := []) E (Z_X10_good_95 l D aC b w  hJ.1 ) cv_X10_130 rfl rfl rfl (jv_lt hJ (by decide)) (Nat.le_of_ble_eq_true rfl) (Nat.le_of_ble_eq_true rfl) ⟨(Nat.le_of_ble_eq_true rfl), (Nat.le_of_ble_eq_true rfl)⟩ (Nat.le_of_ble_eq_true rfl) dX10_number_48 (fun z_30 u_28 hp_29 => ?_)
        obtain ⟨hz_30, hxz_30, hp_29⟩ := hp_29
        subst hp_29
        refine z_if_ne (tgt := 56) (u := z_30.toInt) E dX10_number_51 (by decide) rfl (fun h_32 => ?_) (fun h_32 => ?_)
        ·
          refine s_aload_n E dX10_number_56 rfl rfl ?_
          refine s_gI E fg_X10_117 rfl rfl (jv_lt hJ (by decide)) dX10_number_57 ?_
          refine z_nm (P := fun z => z.toInt = (w.2.2.1 95 11).toInt ∧ 0 ≤ z.toInt ∧ z.toInt ≤ 99999) ⟨rfl, (rg_95_11 hJ)⟩ (fun z_33 hz_33 => ?_)
          refine s_istore_n (L2 := [some (AR 95), some (AI x1), some (AI x2), some (AI z_33)]) E dX10_number_60 rfl (by decide) rfl ?_
          refine s_aload_n E dX10_number_61 rfl rfl ?_
          refine s_vV (As := []) (S := []) E (Z_X10_advance_95 l D aC b w  hJ.1 ) cv_X10_147 rfl rfl rfl (jv_lt hJ (by decide)) (Nat.le_of_ble_eq_true rfl) (Nat.le_of_ble_eq_true rfl) ⟨(Nat.le_of_ble_eq_true rfl), (Nat.le_of_ble_eq_true rfl)⟩ (Nat.le_of_ble_eq_true rfl) dX10_number_62 (fun u_34 hp_35 => ?_)
          obtain ⟨hx_hp_35, hf_u_34_99, hf_u_34_101, hp_35⟩ := hp_35
          have hj_36 := jv_trans hJ hp_35
          refine s_iload_n E dX10_number_65 rfl rfl ?_
          exact r_int E dX10_number_66 ⟨⟨by have hb_ := z32 z_33; omega, by have hb_ := z32 z_33; omega, by first | (right; decide) | (have hb_ := z32 z_33; omega) | (have hb_ := z32 z_33; have hc_ := z32 (w.2.2.1 95 12); omega)⟩, (by omega), hf_u_34_101, hj_36⟩
        ·
          refine s_iconst (v := 0) E dX10_number_54 (by decide) ?_
          exact r_int E dX10_number_55 ⟨⟨by decide, by decide, by first | (left; decide) | (right; decide) | (right; have hb_ := z32 (w.2.2.1 95 12); omega)⟩, (by have hrc_ : (0 : Int32).toInt = 0 := (by decide); omega), rfl, hJ⟩
      ·
        refine s_aload_n E dX10_number_42 rfl rfl ?_
        refine s_iconst (v := 2) E dX10_number_43 (by decide) ?_
        refine s_vV (As := [AI 2]) (S := []) E (Z_X10_errs_95 l D aC b w 2 hJ.1 (by decide)) cv_X10_153 rfl rfl rfl (jv_lt hJ (by decide)) (Nat.le_of_ble_eq_true rfl) (Nat.le_of_ble_eq_true rfl) ⟨(Nat.le_of_ble_eq_true rfl), (Nat.le_of_ble_eq_true rfl)⟩ (Nat.le_of_ble_eq_true rfl) dX10_number_44 (fun u_37 hp_38 => ?_)
        have hc_ : (2 : Int32).toInt = 2 := by decide
        obtain ⟨hx_hp_38, hf_u_37_101, hp_38⟩ := hp_38
        have hj_39 := jv_trans hJ hp_38
        refine s_aload_n E dX10_number_47 rfl rfl ?_
        refine s_vI (As := []) (S := []) E (Z_X10_good_95 l D aC b u_37  hj_39.1 ) cv_X10_130 rfl rfl rfl (jv_lt hj_39 (by decide)) (Nat.le_of_ble_eq_true rfl) (Nat.le_of_ble_eq_true rfl) ⟨(Nat.le_of_ble_eq_true rfl), (Nat.le_of_ble_eq_true rfl)⟩ (Nat.le_of_ble_eq_true rfl) dX10_number_48 (fun z_42 u_40 hp_41 => ?_)
        obtain ⟨hz_42, hxz_42, hp_41⟩ := hp_41
        subst hp_41
        refine z_if_ne (tgt := 56) (u := z_42.toInt) E dX10_number_51 (by decide) rfl (fun h_44 => ?_) (fun h_44 => ?_)
        ·
          refine s_aload_n E dX10_number_56 rfl rfl ?_
          refine s_gI E fg_X10_117 rfl rfl (jv_lt hj_39 (by decide)) dX10_number_57 ?_
          refine z_nm (P := fun z => z.toInt = (u_37.2.2.1 95 11).toInt ∧ 0 ≤ z.toInt ∧ z.toInt ≤ 99999) ⟨rfl, (rg_95_11 hj_39)⟩ (fun z_45 hz_45 => ?_)
          refine s_istore_n (L2 := [some (AR 95), some (AI x1), some (AI x2), some (AI z_45)]) E dX10_number_60 rfl (by decide) rfl ?_
          refine s_aload_n E dX10_number_61 rfl rfl ?_
          refine s_vV (As := []) (S := []) E (Z_X10_advance_95 l D aC b u_37  hj_39.1 ) cv_X10_147 rfl rfl rfl (jv_lt hj_39 (by decide)) (Nat.le_of_ble_eq_true rfl) (Nat.le_of_ble_eq_true rfl) ⟨(Nat.le_of_ble_eq_true rfl), (Nat.le_of_ble_eq_true rfl)⟩ (Nat.le_of_ble_eq_true rfl) dX10_number_62 (fun u_46 hp_47 => ?_)
          obtain ⟨hx_hp_47, hf_u_46_99, hf_u_46_101, hp_47⟩ := hp_47
          have hj_48 := jv_trans hj_39 hp_47
          refine s_iload_n E dX10_number_65 rfl rfl ?_
          exact r_int E dX10_number_66 ⟨⟨by have hb_ := z32 z_45; omega, by have hb_ := z32 z_45; omega, by first | (right; decide) | (have hb_ := z32 z_45; omega) | (have hb_ := z32 z_45; have hc_ := z32 (w.2.2.1 95 12); omega)⟩, (by omega), (hf_u_46_101.trans hf_u_37_101), hj_48⟩
        ·
          refine s_iconst (v := 0) E dX10_number_54 (by decide) ?_
          exact r_int E dX10_number_55 ⟨⟨by decide, by decide, by first | (left; decide) | (right; decide) | (right; have hb_ := z32 (w.2.2.1 95 12); omega)⟩, (by have hrc_ : (0 : Int32).toInt = 0 := (by decide); omega), hf_u_37_101, hj_39⟩
  ·
    refine s_aload_n E dX10_number_7 rfl rfl ?_
    refine s_gI E fg_X10_106 rfl rfl (jv_lt hJ (by decide)) dX10_number_8 ?_
    refine z_nm (P := fun z => z.toInt = (w.2.2.1 95 10).toInt ∧ 0 ≤ z.toInt ∧ z.toInt ≤ 4) ⟨rfl, (rg_95_10 hJ)⟩ (fun z_49 hz_49 => ?_)
    refine s_iconst (v := 2) E dX10_number_11 (by decide) ?_
    refine z_icmp_eq (tgt := 20) (u := z_49.toInt) (v := 2) E dX10_number_12 (by decide) rfl (by decide) (fun h_50 => ?_) (fun h_50 => ?_)
    ·
      refine s_aload_n E dX10_number_20 rfl rfl ?_
      refine s_vI (As := []) (S := []) E (Z_X10_good_95 l D aC b w  hJ.1 ) cv_X10_130 rfl rfl rfl (jv_lt hJ (by decide)) (Nat.le_of_ble_eq_true rfl) (Nat.le_of_ble_eq_true rfl) ⟨(Nat.le_of_ble_eq_true rfl), (Nat.le_of_ble_eq_true rfl)⟩ (Nat.le_of_ble_eq_true rfl) dX10_number_21 (fun z_53 u_51 hp_52 => ?_)
      obtain ⟨hz_53, hxz_53, hp_52⟩ := hp_52
      subst hp_52
      refine z_if_eq (tgt := 47) (u := z_53.toInt) E dX10_number_24 (by decide) rfl (fun h_55 => ?_) (fun h_55 => ?_)
      ·
        refine s_aload_n E dX10_number_47 rfl rfl ?_
        refine s_vI (As := []) (S := []) E (Z_X10_good_95 l D aC b w  hJ.1 ) cv_X10_130 rfl rfl rfl (jv_lt hJ (by decide)) (Nat.le_of_ble_eq_true rfl) (Nat.le_of_ble_eq_true rfl) ⟨(Nat.le_of_ble_eq_true rfl), (Nat.le_of_ble_eq_true rfl)⟩ (Nat.le_of_ble_eq_true rfl) dX10_number_48 (fun z_58 u_56 hp_57 => ?_)
        obtain ⟨hz_58, hxz_58, hp_57⟩ := hp_57
        subst hp_57
        refine z_if_ne (tgt := 56) (u := z_58.toInt) E dX10_number_51 (by decide) rfl (fun h_60 => ?_) (fun h_60 => ?_)
        ·
          refine s_aload_n E dX10_number_56 rfl rfl ?_
          refine s_gI E fg_X10_117 rfl rfl (jv_lt hJ (by decide)) dX10_number_57 ?_
          refine z_nm (P := fun z => z.toInt = (w.2.2.1 95 11).toInt ∧ 0 ≤ z.toInt ∧ z.toInt ≤ 99999) ⟨rfl, (rg_95_11 hJ)⟩ (fun z_61 hz_61 => ?_)
          refine s_istore_n (L2 := [some (AR 95), some (AI x1), some (AI x2), some (AI z_61)]) E dX10_number_60 rfl (by decide) rfl ?_
          refine s_aload_n E dX10_number_61 rfl rfl ?_
          refine s_vV (As := []) (S := []) E (Z_X10_advance_95 l D aC b w  hJ.1 ) cv_X10_147 rfl rfl rfl (jv_lt hJ (by decide)) (Nat.le_of_ble_eq_true rfl) (Nat.le_of_ble_eq_true rfl) ⟨(Nat.le_of_ble_eq_true rfl), (Nat.le_of_ble_eq_true rfl)⟩ (Nat.le_of_ble_eq_true rfl) dX10_number_62 (fun u_62 hp_63 => ?_)
          obtain ⟨hx_hp_63, hf_u_62_99, hf_u_62_101, hp_63⟩ := hp_63
          have hj_64 := jv_trans hJ hp_63
          refine s_iload_n E dX10_number_65 rfl rfl ?_
          exact r_int E dX10_number_66 ⟨⟨by have hb_ := z32 z_61; omega, by have hb_ := z32 z_61; omega, by first | (right; decide) | (have hb_ := z32 z_61; omega) | (have hb_ := z32 z_61; have hc_ := z32 (w.2.2.1 95 12); omega)⟩, (by omega), hf_u_62_101, hj_64⟩
        ·
          refine s_iconst (v := 0) E dX10_number_54 (by decide) ?_
          exact r_int E dX10_number_55 ⟨⟨by decide, by decide, by first | (left; decide) | (right; decide) | (right; have hb_ := z32 (w.2.2.1 95 12); omega)⟩, (by have hrc_ : (0 : Int32).toInt = 0 := (by decide); omega), rfl, hJ⟩
      ·
        refine s_aload_n E dX10_number_27 rfl rfl ?_
        refine s_gI E fg_X10_117 rfl rfl (jv_lt hJ (by decide)) dX10_number_28 ?_
        refine z_nm (P := fun z => z.toInt = (w.2.2.1 95 11).toInt ∧ 0 ≤ z.toInt ∧ z.toInt ≤ 99999) ⟨rfl, (rg_95_11 hJ)⟩ (fun z_65 hz_65 => ?_)
        refine z_i2l (u := z_65.toInt) E dX10_number_31 rfl (fun z_66 hz_66 => ?_)
        refine s_iload_n E dX10_number_32 rfl rfl ?_
        refine z_i2l (u := x1.toInt) E dX10_number_33 rfl (fun z_67 hz_67 => ?_)
        refine s_iload_n E dX10_number_34 rfl rfl ?_
        refine z_i2l (u := x2.toInt) E dX10_number_35 rfl (fun z_68 hz_68 => ?_)
        refine s_sI (As := [AL z_66, AL z_67, AL z_68]) (S := []) E (Z_X10_in l D aC b w z_66 z_67 z_68) cs_X10_82 rfl rfl (Nat.le_of_ble_eq_true rfl) (Nat.le_of_ble_eq_true rfl) ⟨(Nat.le_of_ble_eq_true rfl), (Nat.le_of_ble_eq_true rfl)⟩ (Nat.le_of_ble_eq_true rfl) dX10_number_36 (fun z_69 u_70 hp_71 => ?_)
        obtain ⟨hz_69, hp_71⟩ := hp_71
        subst hp_71
        refine z_if_ne (tgt := 47) (u := z_69.toInt) E dX10_number_39 (by decide) rfl (fun h_72 => ?_) (fun h_72 => ?_)
        ·
          refine s_aload_n E dX10_number_47 rfl rfl ?_
          refine s_vI (As := []) (S := []) E (Z_X10_good_95 l D aC b w  hJ.1 ) cv_X10_130 rfl rfl rfl (jv_lt hJ (by decide)) (Nat.le_of_ble_eq_true rfl) (Nat.le_of_ble_eq_true rfl) ⟨(Nat.le_of_ble_eq_true rfl), (Nat.le_of_ble_eq_true rfl)⟩ (Nat.le_of_ble_eq_true rfl) dX10_number_48 (fun z_75 u_73 hp_74 => ?_)
          obtain ⟨hz_75, hxz_75, hp_74⟩ := hp_74
          subst hp_74
          refine z_if_ne (tgt := 56) (u := z_75.toInt) E dX10_number_51 (by decide) rfl (fun h_77 => ?_) (fun h_77 => ?_)
          ·
            refine s_aload_n E dX10_number_56 rfl rfl ?_
            refine s_gI E fg_X10_117 rfl rfl (jv_lt hJ (by decide)) dX10_number_57 ?_
            refine z_nm (P := fun z => z.toInt = (w.2.2.1 95 11).toInt ∧ 0 ≤ z.toInt ∧ z.toInt ≤ 99999) ⟨rfl, (rg_95_11 hJ)⟩ (fun z_78 hz_78 => ?_)
            refine s_istore_n (L2 := [some (AR 95), some (AI x1), some (AI x2), some (AI z_78)]) E dX10_number_60 rfl (by decide) rfl ?_
            refine s_aload_n E dX10_number_61 rfl rfl ?_
            refine s_vV (As := []) (S := []) E (Z_X10_advance_95 l D aC b w  hJ.1 ) cv_X10_147 rfl rfl rfl (jv_lt hJ (by decide)) (Nat.le_of_ble_eq_true rfl) (Nat.le_of_ble_eq_true rfl) ⟨(Nat.le_of_ble_eq_true rfl), (Nat.le_of_ble_eq_true rfl)⟩ (Nat.le_of_ble_eq_true rfl) dX10_number_62 (fun u_79 hp_80 => ?_)
            obtain ⟨hx_hp_80, hf_u_79_99, hf_u_79_101, hp_80⟩ := hp_80
            have hj_81 := jv_trans hJ hp_80
            refine s_iload_n E dX10_number_65 rfl rfl ?_
            exact r_int E dX10_number_66 ⟨⟨by have hb_ := z32 z_78; omega, by have hb_ := z32 z_78; omega, by first | (right; decide) | (have hb_ := z32 z_78; omega) | (have hb_ := z32 z_78; have hc_ := z32 (w.2.2.1 95 12); omega)⟩, (by omega), hf_u_79_101, hj_81⟩
          ·
            refine s_iconst (v := 0) E dX10_number_54 (by decide) ?_
            exact r_int E dX10_number_55 ⟨⟨by decide, by decide, by first | (left; decide) | (right; decide) | (right; have hb_ := z32 (w.2.2.1 95 12); omega)⟩, (by have hrc_ : (0 : Int32).toInt = 0 := (by decide); omega), rfl, hJ⟩
        ·
          refine s_aload_n E dX10_number_42 rfl rfl ?_
          refine s_iconst (v := 2) E dX10_number_43 (by decide) ?_
          refine s_vV (As := [AI 2]) (S := []) E (Z_X10_errs_95 l D aC b w 2 hJ.1 (by decide)) cv_X10_153 rfl rfl rfl (jv_lt hJ (by decide)) (Nat.le_of_ble_eq_true rfl) (Nat.le_of_ble_eq_true rfl) ⟨(Nat.le_of_ble_eq_true rfl), (Nat.le_of_ble_eq_true rfl)⟩ (Nat.le_of_ble_eq_true rfl) dX10_number_44 (fun u_82 hp_83 => ?_)
          have hc_ : (2 : Int32).toInt = 2 := by decide
          obtain ⟨hx_hp_83, hf_u_82_101, hp_83⟩ := hp_83
          have hj_84 := jv_trans hJ hp_83
          refine s_aload_n E dX10_number_47 rfl rfl ?_
          refine s_vI (As := []) (S := []) E (Z_X10_good_95 l D aC b u_82  hj_84.1 ) cv_X10_130 rfl rfl rfl (jv_lt hj_84 (by decide)) (Nat.le_of_ble_eq_true rfl) (Nat.le_of_ble_eq_true rfl) ⟨(Nat.le_of_ble_eq_true rfl), (Nat.le_of_ble_eq_true rfl)⟩ (Nat.le_of_ble_eq_true rfl) dX10_number_48 (fun z_87 u_85 hp_86 => ?_)
          obtain ⟨hz_87, hxz_87, hp_86⟩ := hp_86
          subst hp_86
          refine z_if_ne (tgt := 56) (u := z_87.toInt) E dX10_number_51 (by decide) rfl (fun h_89 => ?_) (fun h_89 => ?_)
          ·
            refine s_aload_n E dX10_number_56 rfl rfl ?_
            refine s_gI E fg_X10_117 rfl rfl (jv_lt hj_84 (by decide)) dX10_number_57 ?_
            refine z_nm (P := fun z => z.toInt = (u_82.2.2.1 95 11).toInt ∧ 0 ≤ z.toInt ∧ z.toInt ≤ 99999) ⟨rfl, (rg_95_11 hj_84)⟩ (fun z_90 hz_90 => ?_)
            refine s_istore_n (L2 := [some (AR 95), some (AI x1), some (AI x2), some (AI z_90)]) E dX10_number_60 rfl (by decide) rfl ?_
            refine s_aload_n E dX10_number_61 rfl rfl ?_
            refine s_vV (As := []) (S := []) E (Z_X10_advance_95 l D aC b u_82  hj_84.1 ) cv_X10_147 rfl rfl rfl (jv_lt hj_84 (by decide)) (Nat.le_of_ble_eq_true rfl) (Nat.le_of_ble_eq_true rfl) ⟨(Nat.le_of_ble_eq_true rfl), (Nat.le_of_ble_eq_true rfl)⟩ (Nat.le_of_ble_eq_true rfl) dX10_number_62 (fun u_91 hp_92 => ?_)
            obtain ⟨hx_hp_92, hf_u_91_99, hf_u_91_101, hp_92⟩ := hp_92
            have hj_93 := jv_trans hj_84 hp_92
            refine s_iload_n E dX10_number_65 rfl rfl ?_
            exact r_int E dX10_number_66 ⟨⟨by have hb_ := z32 z_90; omega, by have hb_ := z32 z_90; omega, by first | (right; decide) | (have hb_ := z32 z_90; omega) | (have hb_ := z32 z_90; have hc_ := z32 (w.2.2.1 95 12); omega)⟩, (by omega), (hf_u_91_101.trans hf_u_82_101), hj_93⟩
          ·
            refine s_iconst (v := 0) E dX10_number_54 (by decide) ?_
            exact r_int E dX10_number_55 ⟨⟨by decide, by decide, by first | (left; decide) | (right; decide) | (right; have hb_ := z32 (w.2.2.1 95 12); omega)⟩, (by have hrc_ : (0 : Int32).toInt = 0 := (by decide); omega), hf_u_82_101, hj_84⟩
    ·
      refine s_aload_n E dX10_number_15 rfl rfl ?_
      refine s_iconst (v := 1) E dX10_number_16 (by decide) ?_
      refine s_vV (As := [AI 1]) (S := []) E (Z_X10_errs_95 l D aC b w 1 hJ.1 (by decide)) cv_X10_153 rfl rfl rfl (jv_lt hJ (by decide)) (Nat.le_of_ble_eq_true rfl) (Nat.le_of_ble_eq_true rfl) ⟨(Nat.le_of_ble_eq_true rfl), (Nat.le_of_ble_eq_true rfl)⟩ (Nat.le_of_ble_eq_true rfl) dX10_number_17 (fun u_94 hp_95 => ?_)
      have hc_ : (1 : Int32).toInt = 1 := by decide
      obtain ⟨hx_hp_95, hf_u_94_101, hp_95⟩ := hp_95
      have hj_96 := jv_trans hJ hp_95
      refine s_aload_n E dX10_number_20 rfl rfl ?_
      refine s_vI (As := []) (S := []) E (Z_X10_good_95 l D aC b u_94  hj_96.1 ) cv_X10_130 rfl rfl rfl (jv_lt hj_96 (by decide)) (Nat.le_of_ble_eq_true rfl) (Nat.le_of_ble_eq_true rfl) ⟨(Nat.le_of_ble_eq_true rfl), (Nat.le_of_ble_eq_true rfl)⟩ (Nat.le_of_ble_eq_true rfl) dX10_number_21 (fun z_99 u_97 hp_98 => ?_)
      obtain ⟨hz_99, hxz_99, hp_98⟩ := hp_98
      subst hp_98
      refine z_if_eq (tgt := 47) (u := z_99.toInt) E dX10_number_24 (by decide) rfl (fun h_101 => ?_) (fun h_101 => ?_)
      ·
        refine s_aload_n E dX10_number_47 rfl rfl ?_
        refine s_vI (As := []) (S := []) E (Z_X10_good_95 l D aC b u_94  hj_96.1 ) cv_X10_130 rfl rfl rfl (jv_lt hj_96 (by decide)) (Nat.le_of_ble_eq_true rfl) (Nat.le_of_ble_eq_true rfl) ⟨(Nat.le_of_ble_eq_true rfl), (Nat.le_of_ble_eq_true rfl)⟩ (Nat.le_of_ble_eq_true rfl) dX10_number_48 (fun z_104 u_102 hp_103 => ?_)
        obtain ⟨hz_104, hxz_104, hp_103⟩ := hp_103
        subst hp_103
        refine z_if_ne (tgt := 56) (u := z_104.toInt) E dX10_number_51 (by decide) rfl (fun h_106 => ?_) (fun h_106 => ?_)
        ·
          refine s_aload_n E dX10_number_56 rfl rfl ?_
          refine s_gI E fg_X10_117 rfl rfl (jv_lt hj_96 (by decide)) dX10_number_57 ?_
          refine z_nm (P := fun z => z.toInt = (u_94.2.2.1 95 11).toInt ∧ 0 ≤ z.toInt ∧ z.toInt ≤ 99999) ⟨rfl, (rg_95_11 hj_96)⟩ (fun z_107 hz_107 => ?_)
          refine s_istore_n (L2 := [some (AR 95), some (AI x1), some (AI x2), some (AI z_107)]) E dX10_number_60 rfl (by decide) rfl ?_
          refine s_aload_n E dX10_number_61 rfl rfl ?_
          refine s_vV (As := []) (S := []) E (Z_X10_advance_95 l D aC b u_94  hj_96.1 ) cv_X10_147 rfl rfl rfl (jv_lt hj_96 (by decide)) (Nat.le_of_ble_eq_true rfl) (Nat.le_of_ble_eq_true rfl) ⟨(Nat.le_of_ble_eq_true rfl), (Nat.le_of_ble_eq_true rfl)⟩ (Nat.le_of_ble_eq_true rfl) dX10_number_62 (fun u_108 hp_109 => ?_)
          obtain ⟨hx_hp_109, hf_u_108_99, hf_u_108_101, hp_109⟩ := hp_109
          have hj_110 := jv_trans hj_96 hp_109
          refine s_iload_n E dX10_number_65 rfl rfl ?_
          exact r_int E dX10_number_66 ⟨⟨by have hb_ := z32 z_107; omega, by have hb_ := z32 z_107; omega, by first | (right; decide) | (have hb_ := z32 z_107; omega) | (have hb_ := z32 z_107; have hc_ := z32 (w.2.2.1 95 12); omega)⟩, (by omega), (hf_u_108_101.trans hf_u_94_101), hj_110⟩
        ·
          refine s_iconst (v := 0) E dX10_number_54 (by decide) ?_
          exact r_int E dX10_number_55 ⟨⟨by decide, by decide, by first | (left; decide) | (right; decide) | (right; have hb_ := z32 (w.2.2.1 95 12); omega)⟩, (by have hrc_ : (0 : Int32).toInt = 0 := (by decide); omega), hf_u_94_101, hj_96⟩
      ·
        refine s_aload_n E dX10_number_27 rfl rfl ?_
        refine s_gI E fg_X10_117 rfl rfl (jv_lt hj_96 (by decide)) dX10_number_28 ?_
        refine z_nm (P := fun z => z.toInt = (u_94.2.2.1 95 11).toInt ∧ 0 ≤ z.toInt ∧ z.toInt ≤ 99999) ⟨rfl, (rg_95_11 hj_96)⟩ (fun z_111 hz_111 => ?_)
        refine z_i2l (u := z_111.toInt) E dX10_number_31 rfl (fun z_112 hz_112 => ?_)
        refine s_iload_n E dX10_number_32 rfl rfl ?_
        refine z_i2l (u := x1.toInt) E dX10_number_33 rfl (fun z_113 hz_113 => ?_)
        refine s_iload_n E dX10_number_34 rfl rfl ?_
        refine z_i2l (u := x2.toInt) E dX10_number_35 rfl (fun z_114 hz_114 => ?_)
        refine s_sI (As := [AL z_112, AL z_113, AL z_114]) (S := []) E (Z_X10_in l D aC b u_94 z_112 z_113 z_114) cs_X10_82 rfl rfl (Nat.le_of_ble_eq_true rfl) (Nat.le_of_ble_eq_true rfl) ⟨(Nat.le_of_ble_eq_true rfl), (Nat.le_of_ble_eq_true rfl)⟩ (Nat.le_of_ble_eq_true rfl) dX10_number_36 (fun z_115 u_116 hp_117 => ?_)
        obtain ⟨hz_115, hp_117⟩ := hp_117
        subst hp_117
        refine z_if_ne (tgt := 47) (u := z_115.toInt) E dX10_number_39 (by decide) rfl (fun h_118 => ?_) (fun h_118 => ?_)
        ·
          refine s_aload_n E dX10_number_47 rfl rfl ?_
          refine s_vI (As := []) (S := []) E (Z_X10_good_95 l D aC b u_94  hj_96.1 ) cv_X10_130 rfl rfl rfl (jv_lt hj_96 (by decide)) (Nat.le_of_ble_eq_true rfl) (Nat.le_of_ble_eq_true rfl) ⟨(Nat.le_of_ble_eq_true rfl), (Nat.le_of_ble_eq_true rfl)⟩ (Nat.le_of_ble_eq_true rfl) dX10_number_48 (fun z_121 u_119 hp_120 => ?_)
          obtain ⟨hz_121, hxz_121, hp_120⟩ := hp_120
          subst hp_120
          refine z_if_ne (tgt := 56) (u := z_121.toInt) E dX10_number_51 (by decide) rfl (fun h_123 => ?_) (fun h_123 => ?_)
          ·
            refine s_aload_n E dX10_number_56 rfl rfl ?_
            refine s_gI E fg_X10_117 rfl rfl (jv_lt hj_96 (by decide)) dX10_number_57 ?_
            refine z_nm (P := fun z => z.toInt = (u_94.2.2.1 95 11).toInt ∧ 0 ≤ z.toInt ∧ z.toInt ≤ 99999) ⟨rfl, (rg_95_11 hj_96)⟩ (fun z_124 hz_124 => ?_)
            refine s_istore_n (L2 := [some (AR 95), some (AI x1), some (AI x2), some (AI z_124)]) E dX10_number_60 rfl (by decide) rfl ?_
            refine s_aload_n E dX10_number_61 rfl rfl ?_
            refine s_vV (As := []) (S := []) E (Z_X10_advance_95 l D aC b u_94  hj_96.1 ) cv_X10_147 rfl rfl rfl (jv_lt hj_96 (by decide)) (Nat.le_of_ble_eq_true rfl) (Nat.le_of_ble_eq_true rfl) ⟨(Nat.le_of_ble_eq_true rfl), (Nat.le_of_ble_eq_true rfl)⟩ (Nat.le_of_ble_eq_true rfl) dX10_number_62 (fun u_125 hp_126 => ?_)
            obtain ⟨hx_hp_126, hf_u_125_99, hf_u_125_101, hp_126⟩ := hp_126
            have hj_127 := jv_trans hj_96 hp_126
            refine s_iload_n E dX10_number_65 rfl rfl ?_
            exact r_int E dX10_number_66 ⟨⟨by have hb_ := z32 z_124; omega, by have hb_ := z32 z_124; omega, by first | (right; decide) | (have hb_ := z32 z_124; omega) | (have hb_ := z32 z_124; have hc_ := z32 (w.2.2.1 95 12); omega)⟩, (by omega), (hf_u_125_101.trans hf_u_94_101), hj_127⟩
          ·
            refine s_iconst (v := 0) E dX10_number_54 (by decide) ?_
            exact r_int E dX10_number_55 ⟨⟨by decide, by decide, by first | (left; decide) | (right; decide) | (right; have hb_ := z32 (w.2.2.1 95 12); omega)⟩, (by have hrc_ : (0 : Int32).toInt = 0 := (by decide); omega), hf_u_94_101, hj_96⟩
        ·
          refine s_aload_n E dX10_number_42 rfl rfl ?_
          refine s_iconst (v := 2) E dX10_number_43 (by decide) ?_
          refine s_vV (As := [AI 2]) (S := []) E (Z_X10_errs_95 l D aC b u_94 2 hj_96.1 (by decide)) cv_X10_153 rfl rfl rfl (jv_lt hj_96 (by decide)) (Nat.le_of_ble_eq_true rfl) (Nat.le_of_ble_eq_true rfl) ⟨(Nat.le_of_ble_eq_true rfl), (Nat.le_of_ble_eq_true rfl)⟩ (Nat.le_of_ble_eq_true rfl) dX10_number_44 (fun u_128 hp_129 => ?_)
          have hc_ : (2 : Int32).toInt = 2 := by decide
          obtain ⟨hx_hp_129, hf_u_128_101, hp_129⟩ := hp_129
          have hj_130 := jv_trans hj_96 hp_129
          refine s_aload_n E dX10_number_47 rfl rfl ?_
          refine s_vI (As := []) (S := []) E (Z_X10_good_95 l D aC b u_128  hj_130.1 ) cv_X10_130 rfl rfl rfl (jv_lt hj_130 (by decide)) (Nat.le_of_ble_eq_true rfl) (Nat.le_of_ble_eq_true rfl) ⟨(Nat.le_of_ble_eq_true rfl), (Nat.le_of_ble_eq_true rfl)⟩ (Nat.le_of_ble_eq_true rfl) dX10_number_48 (fun z_133 u_131 hp_132 => ?_)
          obtain ⟨hz_133, hxz_133, hp_132⟩ := hp_132
          subst hp_132
          refine z_if_ne (tgt := 56) (u := z_133.toInt) E dX10_number_51 (by decide) rfl (fun h_135 => ?_) (fun h_135 => ?_)
          ·
            refine s_aload_n E dX10_number_56 rfl rfl ?_
            refine s_gI E fg_X10_117 rfl rfl (jv_lt hj_130 (by decide)) dX10_number_57 ?_
            refine z_nm (P := fun z => z.toInt = (u_128.2.2.1 95 11).toInt ∧ 0 ≤ z.toInt ∧ z.toInt ≤ 99999) ⟨rfl, (rg_95_11 hj_130)⟩ (fun z_136 hz_136 => ?_)
            refine s_istore_n (L2 := [some (AR 95), some (AI x1), some (AI x2), some (AI z_136)]) E dX10_number_60 rfl (by decide) rfl ?_
            refine s_aload_n E dX10_number_61 rfl rfl ?_
            refine s_vV (As := []) (S := []) E (Z_X10_advance_95 l D aC b u_128  hj_130.1 ) cv_X10_147 rfl rfl rfl (jv_lt hj_130 (by decide)) (Nat.le_of_ble_eq_true rfl) (Nat.le_of_ble_eq_true rfl) ⟨(Nat.le_of_ble_eq_true rfl), (Nat.le_of_ble_eq_true rfl)⟩ (Nat.le_of_ble_eq_true rfl) dX10_number_62 (fun u_137 hp_138 => ?_)
            obtain ⟨hx_hp_138, hf_u_137_99, hf_u_137_101, hp_138⟩ := hp_138
            have hj_139 := jv_trans hj_130 hp_138
            refine s_iload_n E dX10_number_65 rfl rfl ?_
            exact r_int E dX10_number_66 ⟨⟨by have hb_ := z32 z_136; omega, by have hb_ := z32 z_136; omega, by first | (right; decide) | (have hb_ := z32 z_136; omega) | (have hb_ := z32 z_136; have hc_ := z32 (w.2.2.1 95 12); omega)⟩, (by omega), (hf_u_137_101.trans (hf_u_128_101.trans hf_u_94_101)), hj_139⟩
          ·
            refine s_iconst (v := 0) E dX10_number_54 (by decide) ?_
            exact r_int E dX10_number_55 ⟨⟨by decide, by decide, by first | (left; decide) | (right; decide) | (right; have hb_ := z32 (w.2.2.1 95 12); omega)⟩, (by have hrc_ : (0 : Int32).toInt = 0 := (by decide); omega), (hf_u_128_101.trans hf_u_94_101), hj_130⟩
set_option maxRecDepth 20000 in
set_option maxHeartbeats 2000000 in
theorem Z_X10_needs_95 (l : Launch) (D : va_G) (aC : Nat → ClassId) (b : Nat) (w : XW)  (hI : Iv w) (si : Nat) (hsi : si < 30) (hpi : (w.2.2.1 95 9).toInt ≤ (w.2.2.1 95 8).toInt ∧ ((w.2.2.1 95 10).toInt = 0 ∨ (w.2.2.1 95 9).toInt < (w.2.2.1 95 8).toInt)) : CnV l D aC b M_X10_needs 6 245 0 0 [AR 95, AX (sA aC si)] w (fun u => ((u.2.2.1 95 7).toInt = (w.2.2.1 95 7).toInt ∧ ((u.2.2.1 95 12).toInt = 0 → (w.2.2.1 95 12).toInt = 0) ∧ (w.2.2.1 95 9).toInt ≤ (u.2.2.1 95 9).toInt ∧ (u.2.2.1 95 9).toInt ≤ (u.2.2.1 95 8).toInt ∧ ((u.2.2.1 95 10).toInt = 0 ∨ (u.2.2.1 95 9).toInt < (u.2.2.1 95 8).toInt)) ∧ ((u.2.2.1 101) = (w.2.2.1 101)) ∧ Jv w u) := by
  refine cn_V (own := RX10) (nm := "needs") (L0 := [some (AR 95), some (AX (sA aC si))]) (by decide +kernel) rfl rfl (Nat.le_of_ble_eq_true rfl) rfl ?_
  intro p e s m args below meth c E hin
  have hJ : Jv w w := jv_rfl hI
  refine s_aload_n E dX10_needs_0 rfl rfl ?_
  refine s_xload_n E dX10_needs_1 rfl rfl ?_
  refine s_vI (As := [AX (sA aC si)]) (S := []) E (Z_X10_takes_95 l D aC b w  hJ.1  si hsi (by omega)) cv_X10_150 rfl rfl rfl (jv_lt hJ (by decide)) (Nat.le_of_ble_eq_true rfl) (Nat.le_of_ble_eq_true rfl) ⟨(Nat.le_of_ble_eq_true rfl), (Nat.le_of_ble_eq_true rfl)⟩ (Nat.le_of_ble_eq_true rfl) dX10_needs_2 (fun z_3 u_1 hp_2 => ?_)
  obtain ⟨hz_3, hxz_3, hf_u_1_101, hp_2⟩ := hp_2
  have hj_4 := jv_trans hJ hp_2
  refine z_if_ne (tgt := 13) (u := z_3.toInt) E dX10_needs_5 (by decide) rfl (fun h_5 => ?_) (fun h_5 => ?_)
  ·
    exact r_void E dX10_needs_13 ⟨(by omega), hf_u_1_101, hj_4⟩
  ·
    refine s_aload_n E dX10_needs_8 rfl rfl ?_
    refine s_iconst (v := 1) E dX10_needs_9 (by decide) ?_
    refine s_vV (As := [AI 1]) (S := []) E (Z_X10_errs_95 l D aC b u_1 1 hj_4.1 (by decide)) cv_X10_153 rfl rfl rfl (jv_lt hj_4 (by decide)) (Nat.le_of_ble_eq_true rfl) (Nat.le_of_ble_eq_true rfl) ⟨(Nat.le_of_ble_eq_true rfl), (Nat.le_of_ble_eq_true rfl)⟩ (Nat.le_of_ble_eq_true rfl) dX10_needs_10 (fun u_6 hp_7 => ?_)
    have hc_ : (1 : Int32).toInt = 1 := by decide
    obtain ⟨hx_hp_7, hf_u_6_101, hp_7⟩ := hp_7
    have hj_8 := jv_trans hj_4 hp_7
    exact r_void E dX10_needs_13 ⟨(by omega), (hf_u_6_101.trans hf_u_1_101), hj_8⟩
set_option maxRecDepth 20000 in
set_option maxHeartbeats 2000000 in
theorem Z_X10_told_95 (l : Launch) (D : va_G) (aC : Nat → ClassId) (b : Nat) (w : XW) (x1 : Int32) (x2 : Int32) (hI : Iv w) (si : Nat) (hsi : si < 30) (hpi : (w.2.2.1 95 9).toInt ≤ (w.2.2.1 95 8).toInt ∧ ((w.2.2.1 95 10).toInt = 0 ∨ (w.2.2.1 95 9).toInt < (w.2.2.1 95 8).toInt)) : CnI l D aC b M_X10_told 7 266 0 0 [AR 95, AX (sA aC si), AI x1, AI x2] w (fun r u => (0 ≤ r.toInt ∧ r.toInt ≤ 99999) ∧ ((r.toInt = 0 ∨ (x1.toInt ≤ r.toInt ∧ r.toInt ≤ x2.toInt)) ∧ ((u.2.2.1 95 12).toInt = 0 → x1.toInt ≤ r.toInt ∧ r.toInt ≤ x2.toInt) ∧ (u.2.2.1 95 7).toInt = (w.2.2.1 95 7).toInt ∧ ((u.2.2.1 95 12).toInt = 0 → (w.2.2.1 95 12).toInt = 0) ∧ (w.2.2.1 95 9).toInt ≤ (u.2.2.1 95 9).toInt ∧ (u.2.2.1 95 9).toInt ≤ (u.2.2.1 95 8).toInt ∧ ((u.2.2.1 95 10).toInt = 0 ∨ (u.2.2.1 95 9).toInt < (u.2.2.1 95 8).toInt)) ∧ ((u.2.2.1 101) = (w.2.2.1 101)) ∧ Jv w u) := by
  refine cn_I (own := RX10) (nm := "told") (L0 := [some (AR 95), some (AX (sA aC si)), some (AI x1), some (AI x2)]) (by decide +kernel) rfl rfl (Nat.le_of_ble_eq_true rfl) rfl ?_
  intro p e s m args below meth c E hin
  have hJ : Jv w w := jv_rfl hI
  have hb_x1 := z32 x1
  have hb_x2 := z32 x2
  refine s_aload_n E dX10_told_0 rfl rfl ?_
  refine s_xload_n E dX10_told_1 rfl rfl ?_
  refine s_vV (As := [AX (sA aC si)]) (S := []) E (Z_X10_needs_95 l D aC b w  hJ.1  si hsi (by omega)) cv_X10_157 rfl rfl rfl (jv_lt hJ (by decide)) (Nat.le_of_ble_eq_true rfl) (Nat.le_of_ble_eq_true rfl) ⟨(Nat.le_of_ble_eq_true rfl), (Nat.le_of_ble_eq_true rfl)⟩ (Nat.le_of_ble_eq_true rfl) dX10_told_2 (fun u_1 hp_2 => ?_)
  obtain ⟨hx_hp_2, hf_u_1_101, hp_2⟩ := hp_2
  have hj_3 := jv_trans hJ hp_2
  refine s_aload_n E dX10_told_5 rfl rfl ?_
  refine s_iload_n E dX10_told_6 rfl rfl ?_
  refine s_iload_n E dX10_told_7 rfl rfl ?_
  refine s_vI (As := [AI x1, AI x2]) (S := []) E (Z_X10_number_95 l D aC b u_1 x1 x2 hj_3.1  (by omega)) cv_X10_161 rfl rfl rfl (jv_lt hj_3 (by decide)) (Nat.le_of_ble_eq_true rfl) (Nat.le_of_ble_eq_true rfl) ⟨(Nat.le_of_ble_eq_true rfl), (Nat.le_of_ble_eq_true rfl)⟩ (Nat.le_of_ble_eq_true rfl) dX10_told_8 (fun z_6 u_4 hp_5 => ?_)
  obtain ⟨hz_6, hxz_6, hf_u_4_101, hp_5⟩ := hp_5
  have hj_7 := jv_trans hj_3 hp_5
  exact r_int E dX10_told_11 ⟨⟨by have hb_ := z32 z_6; omega, by have hb_ := z32 z_6; omega⟩, (by omega), (hf_u_4_101.trans hf_u_1_101), hj_7⟩
set_option maxRecDepth 20000 in
set_option maxHeartbeats 2000000 in
theorem Z_X10_freshRoom_95 (l : Launch) (D : va_G) (aC : Nat → ClassId) (b : Nat) (w : XW)  (hI : Iv w) (si : Nat) (hsi : si < 30) (hpi : (w.2.2.1 95 9).toInt ≤ (w.2.2.1 95 8).toInt ∧ ((w.2.2.1 95 10).toInt = 0 ∨ (w.2.2.1 95 9).toInt < (w.2.2.1 95 8).toInt)) : CnI l D aC b M_X10_freshRoom 8 289 0 0 [AR 95, AX (sA aC si)] w (fun r u => (0 ≤ r.toInt ∧ r.toInt ≤ 99999 ∧ (¬ r.toInt = 0 ∨ (0 ≤ (w.2.2.1 101 0).toInt ∧ (w.2.2.1 101 0).toInt ≤ 8)) ∧ (r.toInt = 0 ∨ (0 ≤ (w.2.2.1 101 0).toInt ∧ (w.2.2.1 101 0).toInt ≤ 8))) ∧ ((0 ≤ r.toInt ∧ r.toInt ≤ 7) ∧ ((u.2.2.1 95 12).toInt = 0 → r.toInt < (w.2.2.1 101 0).toInt) ∧ (u.2.2.1 95 7).toInt = (w.2.2.1 95 7).toInt ∧ ((u.2.2.1 95 12).toInt = 0 → (w.2.2.1 95 12).toInt = 0) ∧ (w.2.2.1 95 9).toInt ≤ (u.2.2.1 95 9).toInt ∧ (u.2.2.1 95 9).toInt ≤ (u.2.2.1 95 8).toInt ∧ ((u.2.2.1 95 10).toInt = 0 ∨ (u.2.2.1 95 9).toInt < (u.2.2.1 95 8).toInt)) ∧ ((u.2.2.1 101) = (w.2.2.1 101)) ∧ Jv w u) := by
  refine cn_I (own := RX10) (nm := "freshRoom") (L0 := [some (AR 95), some (AX (sA aC si))]) (by decide +kernel) rfl rfl (Nat.le_of_ble_eq_true rfl) rfl ?_
  intro p e s m args below meth c E hin
  have hJ : Jv w w := jv_rfl hI
  refine s_aload_n E dX10_freshRoom_0 rfl rfl ?_
  refine s_xload_n E dX10_freshRoom_1 rfl rfl ?_
  refine s_iconst (v := 0) E dX10_freshRoom_2 (by decide) ?_
  refine s_aload_n E dX10_freshRoom_3 rfl rfl ?_
  refine s_gR (r := 101) E fg_X10_31 rfl rfl (jv_lt hJ (by decide)) (jv_r hJ (by decide +kernel)) dX10_freshRoom_4 ?_
  refine s_iconst (v := 0) E dX10_freshRoom_7 (by decide) ?_
  refine s_iald E rfl (jv_lt hJ (by decide)) (z_in (u := 0) (by decide) (by omega) (by omega)) dX10_freshRoom_8 ?_
  refine z_nm (P := fun z => z.toInt = (w.2.2.1 101 0).toInt ∧ 0 ≤ z.toInt ∧ z.toInt ≤ 8) ⟨rfl, (rw_101_0 hJ)⟩ (fun z_1 hz_1 => ?_)
  refine s_iconst (v := 1) E dX10_freshRoom_9 (by decide) ?_
  refine z_isub (u := z_1.toInt) (v := 1) E dX10_freshRoom_10 rfl (by decide) (by omega) (by omega) (fun z_2 hz_2 => ?_)
  refine s_vI (As := [AX (sA aC si), AI 0, AI z_2]) (S := []) E (Z_X10_told_95 l D aC b w 0 z_2 hJ.1  si hsi (by omega)) cv_X10_164 rfl rfl rfl (jv_lt hJ (by decide)) (Nat.le_of_ble_eq_true rfl) (Nat.le_of_ble_eq_true rfl) ⟨(Nat.le_of_ble_eq_true rfl), (Nat.le_of_ble_eq_true rfl)⟩ (Nat.le_of_ble_eq_true rfl) dX10_freshRoom_11 (fun z_5 u_3 hp_4 => ?_)
  obtain ⟨hz_5, hxz_5, hf_u_3_101, hp_4⟩ := hp_4
  have hc_ : (0 : Int32).toInt = 0 := by decide
  have hj_6 := jv_trans hJ hp_4
  exact r_int E dX10_freshRoom_14 ⟨⟨by have hb_ := z32 z_5; omega, by have hb_ := z32 z_5; omega, by first | (right; decide) | (have hb_ := z32 z_5; omega) | (have hb_ := z32 z_5; have hc_ := z32 (w.2.2.1 101 0); omega), by first | (right; decide) | (have hb_ := z32 z_5; omega) | (have hb_ := z32 z_5; have hc_ := z32 (w.2.2.1 101 0); omega)⟩, (by omega), hf_u_3_101, hj_6⟩
