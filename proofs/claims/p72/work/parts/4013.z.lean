set_option maxRecDepth 20000 in
set_option maxHeartbeats 2000000 in
theorem Z_X10_layPlaces_95 (l : Launch) (D : va_G) (aC : Nat → ClassId) (b : Nat) (w : XW)  (hI : Iv w)  : CnV l D aC b M_X10_layPlaces 2 50 0 0 [AR 95] w (fun u => Jv w u) := by
  refine cn_V (own := RX10) (nm := "layPlaces") (L0 := [some (AR 95), none, none]) (by decide +kernel) rfl rfl (Nat.le_of_ble_eq_true rfl) rfl ?_
  intro p e s m args below meth c E hin
  have hJ : Jv w w := jv_rfl hI
  refine s_aload_n E dX10_layPlaces_0 rfl rfl ?_
  refine s_vV (As := []) (S := []) E (Z_X10_layWays_95 l D aC b w  hJ.1 ) cv_X10_241 rfl rfl rfl (jv_lt hJ (by decide)) (Nat.le_of_ble_eq_true rfl) (Nat.le_of_ble_eq_true rfl) ⟨(Nat.le_of_ble_eq_true rfl), (Nat.le_of_ble_eq_true rfl)⟩ (Nat.le_of_ble_eq_true rfl) dX10_layPlaces_1 (fun u_1 hp_2 => ?_)
  obtain ⟨hx_hp_2, hp_2⟩ := hp_2
  have hj_3 := jv_trans hJ hp_2
  have hY_ := hx_hp_2
  refine s_iconst (v := 0) E dX10_layPlaces_4 (by decide) ?_
  refine s_istore_n (L2 := [some (AR 95), some (AI 0), none]) E dX10_layPlaces_5 rfl (by decide) rfl ?_
  refine z_loop (St := Int32) (Pi := fun q6_1_3 v6 => (0 ≤ q6_1_3.toInt ∧ q6_1_3.toInt ≤ 6) ∧ (y_Ls (v6.2.2.1 102) 10) ∧ Jv w v6) (Lf := fun q6_1_3 => [some (AR 95), some (AI q6_1_3), none]) (fun q6_1_3 _ => (7 - q6_1_3.toInt).toNat) 0 ⟨⟨by decide, by decide⟩, (hY_), hj_3⟩ ?_
  rintro q6_1_3 v6 ⟨hq6_1, hl6, hj_4⟩ ih6
  refine s_loc (L2 := [some (AR 95), some (AI q6_1_3), none]) rfl ?_
  refine s_iload_n E dX10_layPlaces_6 rfl rfl ?_
  refine s_aload_n E dX10_layPlaces_7 rfl rfl ?_
  refine s_vI (As := []) (S := [AI q6_1_3]) E (Z_X10_ladies_95 l D aC b v6  hj_4.1 ) cv_X10_244 rfl rfl rfl (jv_lt hj_4 (by decide)) (Nat.le_of_ble_eq_true rfl) (Nat.le_of_ble_eq_true rfl) ⟨(Nat.le_of_ble_eq_true rfl), (Nat.le_of_ble_eq_true rfl)⟩ (Nat.le_of_ble_eq_true rfl) dX10_layPlaces_8 (fun z_7 u_5 hp_6 => ?_)
  obtain ⟨hz_7, hxz_7, hp_6⟩ := hp_6
  subst hp_6
  refine z_icmp_ge (tgt := 104) (u := q6_1_3.toInt) (v := z_7.toInt) E dX10_layPlaces_11 (by decide) rfl rfl (fun h_9 => ?_) (fun h_9 => ?_)
  ·
    exact r_void E dX10_layPlaces_104 hj_4
  ·
    refine s_aload_n E dX10_layPlaces_14 rfl rfl ?_
    refine s_gR (r := 103) E fg_X10_37 rfl rfl (jv_lt hj_4 (by decide)) (jv_r hj_4 (by decide +kernel)) dX10_layPlaces_15 ?_
    refine s_iload_n E dX10_layPlaces_18 rfl rfl ?_
    refine s_aload_n E dX10_layPlaces_19 rfl rfl ?_
    refine s_gR (r := 96) E fg_X10_9 rfl rfl (jv_lt hj_4 (by decide)) (jv_r hj_4 (by decide +kernel)) dX10_layPlaces_20 ?_
    refine s_bipush (v := 46) E dX10_layPlaces_23 (by decide) ?_
    refine s_iconst (v := 2) E dX10_layPlaces_25 (by decide) ?_
    refine s_iload_n E dX10_layPlaces_26 rfl rfl ?_
    refine z_imul (u := 2) (v := q6_1_3.toInt) E dX10_layPlaces_27 (by decide) rfl (by omega) (by omega) (fun z_10 hz_10 => ?_)
    refine z_iadd (u := 46) (v := z_10.toInt) E dX10_layPlaces_28 (by decide) rfl (by omega) (by omega) (fun z_11 hz_11 => ?_)
    refine s_iald E rfl (jv_lt hj_4 (by decide)) (z_in (u := z_11.toInt) rfl (by omega) (by omega)) dX10_layPlaces_29 ?_
    refine z_nm (P := fun z => z.toInt = (v6.2.2.1 96 z_11.toNatClampNeg).toInt ∧ 0 ≤ z.toInt ∧ z.toInt ≤ 7) ⟨rfl, (rs_v hj_4 (by decide) 0 7 46 56 2 z_11 z_11.toInt (by decide +kernel) rfl (by omega) (by omega) (by omega))⟩ (fun z_12 hz_12 => ?_)
    refine s_iast E rfl (jv_lt hj_4 (by decide)) (z_in (u := q6_1_3.toInt) rfl (by omega) (by omega)) dX10_layPlaces_30 ?_
    have hj_14 : Jv w (upI v6 103 q6_1_3.toNatClampNeg z_12) := (jv_a_103 hj_4 (by have hb_ := z32 z_12; omega) (by have hb_ := z32 z_12; omega))
    refine s_iconst (v := 0) E dX10_layPlaces_31 (by decide) ?_
    refine s_istore_n (L2 := [some (AR 95), some (AI q6_1_3), some (AI 0)]) E dX10_layPlaces_32 rfl (by decide) rfl ?_
    refine z_loop (St := Int32) (Pi := fun q33_2_14 v33 => (0 ≤ q33_2_14.toInt ∧ q33_2_14.toInt ≤ 14) ∧ (y_Ls (v33.2.2.1 102) 10 ∧ q6_1_3.toInt < (v33.2.2.1 96 5).toInt) ∧ Jv w v33) (Lf := fun q33_2_14 => [some (AR 95), some (AI q6_1_3), some (AI q33_2_14)]) (fun q33_2_14 _ => (15 - q33_2_14.toInt).toNat) 0 ⟨⟨by decide, by decide⟩, (⟨y_keep hl6 (by decide), y_keep5 (by omega) (by decide)⟩), hj_14⟩ ?_
    rintro q33_2_14 v33 ⟨hq33_2, hl33, hj_15⟩ ih33
    refine s_loc (L2 := [some (AR 95), some (AI q6_1_3), some (AI q33_2_14)]) rfl ?_
    refine s_iload_n E dX10_layPlaces_33 rfl rfl ?_
    refine s_aload_n E dX10_layPlaces_34 rfl rfl ?_
    refine s_vI (As := []) (S := [AI q33_2_14]) E (Z_X10_dances_95 l D aC b v33  hj_15.1 ) cv_X10_247 rfl rfl rfl (jv_lt hj_15 (by decide)) (Nat.le_of_ble_eq_true rfl) (Nat.le_of_ble_eq_true rfl) ⟨(Nat.le_of_ble_eq_true rfl), (Nat.le_of_ble_eq_true rfl)⟩ (Nat.le_of_ble_eq_true rfl) dX10_layPlaces_35 (fun z_18 u_16 hp_17 => ?_)
    obtain ⟨hz_18, hxz_18, hp_17⟩ := hp_17
    subst hp_17
    refine z_icmp_ge (tgt := 98) (u := q33_2_14.toInt) (v := z_18.toInt) E dX10_layPlaces_38 (by decide) rfl rfl (fun h_20 => ?_) (fun h_20 => ?_)
    ·
      refine z_iinc (u := q6_1_3.toInt) (L2 := fun z_21 => [some (AR 95), some (AI z_21), some (AI q33_2_14)]) E dX10_layPlaces_98 rfl rfl (by decide) (fun _ => rfl) (by decide) (by omega) (by omega) (fun z_21 hz_21 => ?_)
      refine s_goto (tgt := 6) E dX10_layPlaces_101 (by decide) ?_
      refine s_drop (i := 2) (L2 := [some (AR 95), some (AI z_21), none]) rfl ?_
      exact ih6 z_21 v33 ⟨⟨by have hb_ := z32 z_21; omega, by have hb_ := z32 z_21; omega⟩, (hl33.1), hj_15⟩ (by first | omega | decide | (dsimp only; omega) | (dsimp only; decide))
    ·
      refine s_aload_n E dX10_layPlaces_41 rfl rfl ?_
      refine s_gR (r := 103) E fg_X10_37 rfl rfl (jv_lt hj_15 (by decide)) (jv_r hj_15 (by decide +kernel)) dX10_layPlaces_42 ?_
      refine s_bipush (v := 6) E dX10_layPlaces_45 (by decide) ?_
      refine s_iload_n E dX10_layPlaces_47 rfl rfl ?_
      refine s_iconst (v := 1) E dX10_layPlaces_48 (by decide) ?_
      refine z_iadd (u := q33_2_14.toInt) (v := 1) E dX10_layPlaces_49 rfl (by decide) (by omega) (by omega) (fun z_22 hz_22 => ?_)
      refine z_imul (u := 6) (v := z_22.toInt) E dX10_layPlaces_50 (by decide) rfl (by omega) (by omega) (fun z_23 hz_23 => ?_)
      refine s_iload_n E dX10_layPlaces_51 rfl rfl ?_
      refine z_iadd (u := z_23.toInt) (v := q6_1_3.toInt) E dX10_layPlaces_52 rfl rfl (by omega) (by omega) (fun z_24 hz_24 => ?_)
      refine s_aload_n E dX10_layPlaces_53 rfl rfl ?_
      refine s_gI E fg_X10_249 rfl rfl (jv_lt hj_15 (by decide)) dX10_layPlaces_54 ?_
      refine z_nm (P := fun z => z.toInt = (v33.2.2.1 95 22).toInt ∧ (-2147483648) ≤ z.toInt ∧ z.toInt ≤ 2147483647) ⟨rfl, z32 _⟩ (fun z_25 hz_25 => ?_)
      refine s_iload_n E dX10_layPlaces_57 rfl rfl ?_
      refine s_sI (As := [AI z_25, AI q6_1_3]) (S := [AI z_24, AR 103]) E (Z_X10_bit l D aC b v33 z_25 q6_1_3 hj_15.1 ) cs_X10_252 rfl rfl (Nat.le_of_ble_eq_true rfl) (Nat.le_of_ble_eq_true rfl) ⟨(Nat.le_of_ble_eq_true rfl), (Nat.le_of_ble_eq_true rfl)⟩ (Nat.le_of_ble_eq_true rfl) dX10_layPlaces_58 (fun z_28 u_26 hp_27 => ?_)
      obtain ⟨hz_28, hxz_28, hp_27⟩ := hp_27
      subst hp_27
      refine s_iconst (v := 1) E dX10_layPlaces_61 (by decide) ?_
      refine z_icmp_ne (tgt := 74) (u := z_28.toInt) (v := 1) E dX10_layPlaces_62 (by decide) rfl (by decide) (fun h_30 => ?_) (fun h_30 => ?_)
      ·
        refine s_aload_n E dX10_layPlaces_74 rfl rfl ?_
        refine s_iload_n E dX10_layPlaces_75 rfl rfl ?_
        refine s_aload_n E dX10_layPlaces_76 rfl rfl ?_
        refine s_iload_n E dX10_layPlaces_77 rfl rfl ?_
        refine s_iload_n E dX10_layPlaces_78 rfl rfl ?_
        refine s_vI (As := [AI q6_1_3, AI q33_2_14]) (S := [AI q6_1_3, AR 95, AI z_24, AR 103]) E (Z_X10_atOf_95 l D aC b v33 q6_1_3 q33_2_14 hj_15.1 ⟨by have hb_ := z32 q6_1_3; omega, by have hb_ := z32 q6_1_3; omega⟩ ⟨by have hb_ := z32 q33_2_14; omega, by have hb_ := z32 q33_2_14; omega⟩) cv_X10_255 rfl rfl rfl (jv_lt hj_15 (by decide)) (Nat.le_of_ble_eq_true rfl) (Nat.le_of_ble_eq_true rfl) ⟨(Nat.le_of_ble_eq_true rfl), (Nat.le_of_ble_eq_true rfl)⟩ (Nat.le_of_ble_eq_true rfl) dX10_layPlaces_79 (fun z_33 u_31 hp_32 => ?_)
        obtain ⟨hz_33, hxz_33, hp_32⟩ := hp_32
        subst hp_32
        refine s_aload_n E dX10_layPlaces_82 rfl rfl ?_
        refine s_iload_n E dX10_layPlaces_83 rfl rfl ?_
        refine s_iload_n E dX10_layPlaces_84 rfl rfl ?_
        refine s_vI (As := [AI q6_1_3, AI q33_2_14]) (S := [AI z_33, AI q6_1_3, AR 95, AI z_24, AR 103]) E (Z_X10_biddenOf_95 l D aC b v33 q6_1_3 q33_2_14 hj_15.1 ⟨by have hb_ := z32 q6_1_3; omega, by have hb_ := z32 q6_1_3; omega⟩ ⟨by have hb_ := z32 q33_2_14; omega, by have hb_ := z32 q33_2_14; omega⟩) cv_X10_258 rfl rfl rfl (jv_lt hj_15 (by decide)) (Nat.le_of_ble_eq_true rfl) (Nat.le_of_ble_eq_true rfl) ⟨(Nat.le_of_ble_eq_true rfl), (Nat.le_of_ble_eq_true rfl)⟩ (Nat.le_of_ble_eq_true rfl) dX10_layPlaces_85 (fun z_37 u_35 hp_36 => ?_)
        obtain ⟨hz_37, hp_36⟩ := hp_36
        subst hp_36
        refine s_vI (As := [AI q6_1_3, AI z_33, AI z_37]) (S := [AI z_24, AR 103]) E (Z_X10_nextRoom_95 l D aC b v33 q6_1_3 z_33 z_37 hj_15.1 ⟨by have hb_ := z32 q6_1_3; omega, by have hb_ := z32 q6_1_3; omega⟩ ⟨by have hb_ := z32 z_33; omega, by have hb_ := z32 z_33; omega⟩ ⟨by have hb_ := z32 z_37; omega, by have hb_ := z32 z_37; omega⟩ (by omega) hl33.1) cv_X10_261 rfl rfl rfl (jv_lt hj_15 (by decide)) (Nat.le_of_ble_eq_true rfl) (Nat.le_of_ble_eq_true rfl) ⟨(Nat.le_of_ble_eq_true rfl), (Nat.le_of_ble_eq_true rfl)⟩ (Nat.le_of_ble_eq_true rfl) dX10_layPlaces_88 (fun z_41 u_39 hp_40 => ?_)
        obtain ⟨hz_41, hp_40⟩ := hp_40
        subst hp_40
        refine s_iast E rfl (jv_lt hj_15 (by decide)) (z_in (u := z_24.toInt) rfl (by omega) (by omega)) dX10_layPlaces_91 ?_
        have hj_44 : Jv w (upI v33 103 z_24.toNatClampNeg z_41) := (jv_a_103 hj_15 (by have hb_ := z32 z_41; omega) (by have hb_ := z32 z_41; omega))
        refine z_iinc (u := q33_2_14.toInt) (L2 := fun z_45 => [some (AR 95), some (AI q6_1_3), some (AI z_45)]) E dX10_layPlaces_92 rfl rfl (by decide) (fun _ => rfl) (by decide) (by omega) (by omega) (fun z_45 hz_45 => ?_)
        refine s_goto (tgt := 33) E dX10_layPlaces_95 (by decide) ?_
        exact ih33 z_45 (upI v33 103 z_24.toNatClampNeg z_41) ⟨⟨by have hb_ := z32 z_45; omega, by have hb_ := z32 z_45; omega⟩, (⟨y_keep hl33.1 (by decide), y_keep5 hl33.2 (by decide)⟩), hj_44⟩ (by first | omega | decide | (dsimp only; omega) | (dsimp only; decide))
      ·
        refine s_aload_n E dX10_layPlaces_65 rfl rfl ?_
        refine s_gR (r := 103) E fg_X10_37 rfl rfl (jv_lt hj_15 (by decide)) (jv_r hj_15 (by decide +kernel)) dX10_layPlaces_66 ?_
        refine s_iload_n E dX10_layPlaces_69 rfl rfl ?_
        refine s_iald E rfl (jv_lt hj_15 (by decide)) (z_in (u := q6_1_3.toInt) rfl (by omega) (by omega)) dX10_layPlaces_70 ?_
        refine z_nm (P := fun z => z.toInt = (v33.2.2.1 103 q6_1_3.toNatClampNeg).toInt ∧ 0 ≤ z.toInt ∧ z.toInt ≤ 7) ⟨rfl, (ra_103 hj_15 _)⟩ (fun z_46 hz_46 => ?_)
        refine s_goto (tgt := 91) E dX10_layPlaces_71 (by decide) ?_
        refine s_iast E rfl (jv_lt hj_15 (by decide)) (z_in (u := z_24.toInt) rfl (by omega) (by omega)) dX10_layPlaces_91 ?_
        have hj_48 : Jv w (upI v33 103 z_24.toNatClampNeg z_46) := (jv_a_103 hj_15 (by have hb_ := z32 z_46; omega) (by have hb_ := z32 z_46; omega))
        refine z_iinc (u := q33_2_14.toInt) (L2 := fun z_49 => [some (AR 95), some (AI q6_1_3), some (AI z_49)]) E dX10_layPlaces_92 rfl rfl (by decide) (fun _ => rfl) (by decide) (by omega) (by omega) (fun z_49 hz_49 => ?_)
        refine s_goto (tgt := 33) E dX10_layPlaces_95 (by decide) ?_
        exact ih33 z_49 (upI v33 103 z_24.toNatClampNeg z_46) ⟨⟨by have hb_ := z32 z_49; omega, by have hb_ := z32 z_49; omega⟩, (⟨y_keep hl33.1 (by decide), y_keep5 hl33.2 (by decide)⟩), hj_48⟩ (by first | omega | decide | (dsimp only; omega) | (dsimp only; decide))
set_option maxRecDepth 20000 in
set_option maxHeartbeats 2000000 in
theorem Z_X10_asItIs_95 (l : Launch) (D : va_G) (aC : Nat → ClassId) (b : Nat) (w : XW)  (hI : Iv w)  : CnV l D aC b M_X10_asItIs 3 72 0 0 [AR 95] w (fun u => Jv w u) := by
  refine cn_V (own := RX10) (nm := "asItIs") (L0 := [some (AR 95)]) (by decide +kernel) rfl rfl (Nat.le_of_ble_eq_true rfl) rfl ?_
  intro p e s m args below meth c E hin
  have hJ : Jv w w := jv_rfl hI
  refine s_aload_n E dX10_asItIs_0 rfl rfl ?_
  refine s_iconst (v := (-1)) E dX10_asItIs_1 (by decide) ?_
  refine s_pI E fp_X10_227 (Or.inl rfl) rfl (jv_lt hJ (by decide)) dX10_asItIs_2 ?_
  refine s_gen (P := Jv w) (jv_f_95_16 hJ (by decide) (by decide)) (fun v_1 hj_2 => ?_)
  refine s_aload_n E dX10_asItIs_5 rfl rfl ?_
  refine s_iconst (v := 0) E dX10_asItIs_6 (by decide) ?_
  refine s_pI E fp_X10_230 (Or.inl rfl) rfl (jv_lt hj_2 (by decide)) dX10_asItIs_7 ?_
  refine s_gen (P := Jv w) (jv_f_95_17 hj_2 (by decide) (by decide)) (fun v_3 hj_4 => ?_)
  refine s_aload_n E dX10_asItIs_10 rfl rfl ?_
  refine s_iconst (v := 0) E dX10_asItIs_11 (by decide) ?_
  refine s_pI E fp_X10_264 (Or.inl rfl) rfl (jv_lt hj_4 (by decide)) dX10_asItIs_12 ?_
  refine s_gen (P := Jv w) (jv_f_95_21 hj_4 (by decide) (by decide)) (fun v_5 hj_6 => ?_)
  refine s_aload_n E dX10_asItIs_15 rfl rfl ?_
  refine s_iconst (v := 0) E dX10_asItIs_16 (by decide) ?_
  refine s_pI E fp_X10_249 (Or.inl rfl) rfl (jv_lt hj_6 (by decide)) dX10_asItIs_17 ?_
  refine s_gen (P := Jv w) (jv_f_95_22 hj_6 (by decide) (by decide)) (fun v_7 hj_8 => ?_)
  refine s_aload_n E dX10_asItIs_20 rfl rfl ?_
  refine s_aload_n E dX10_asItIs_21 rfl rfl ?_
  refine s_gR (r := 96) E fg_X10_9 rfl rfl (jv_lt hj_8 (by decide)) (jv_r hj_8 (by decide +kernel)) dX10_asItIs_22 ?_
  refine s_iconst (v := 2) E dX10_asItIs_25 (by decide) ?_
  refine s_iald E rfl (jv_lt hj_8 (by decide)) (z_in (u := 2) (by decide) (by omega) (by omega)) dX10_asItIs_26 ?_
  refine z_nm (P := fun z => z.toInt = (v_7.2.2.1 96 2).toInt ∧ 0 ≤ z.toInt ∧ z.toInt ≤ 3) ⟨rfl, (rw_96_2 hj_8)⟩ (fun z_9 hz_9 => ?_)
  refine s_pI E fp_X10_267 (Or.inl rfl) rfl (jv_lt hj_8 (by decide)) dX10_asItIs_27 ?_
  refine s_gen (P := Jv w) (jv_f_95_23 hj_8 (by have hb_ := z32 z_9; omega) (by have hb_ := z32 z_9; omega)) (fun v_10 hj_11 => ?_)
  refine s_aload_n E dX10_asItIs_30 rfl rfl ?_
  refine s_iconst (v := 0) E dX10_asItIs_31 (by decide) ?_
  refine s_pI E fp_X10_270 (Or.inl rfl) rfl (jv_lt hj_11 (by decide)) dX10_asItIs_32 ?_
  refine s_gen (P := Jv w) (jv_f_95_24 hj_11 (by decide) (by decide)) (fun v_12 hj_13 => ?_)
  refine s_aload_n E dX10_asItIs_35 rfl rfl ?_
  refine s_vV (As := []) (S := []) E (Z_X10_layMinisters_95 l D aC b v_12  hj_13.1 ) cv_X10_273 rfl rfl rfl (jv_lt hj_13 (by decide)) (Nat.le_of_ble_eq_true rfl) (Nat.le_of_ble_eq_true rfl) ⟨(Nat.le_of_ble_eq_true rfl), (Nat.le_of_ble_eq_true rfl)⟩ (Nat.le_of_ble_eq_true rfl) dX10_asItIs_36 (fun u_14 hp_15 => ?_)
  have hj_16 := jv_trans hj_13 hp_15
  refine s_aload_n E dX10_asItIs_39 rfl rfl ?_
  refine s_vV (As := []) (S := []) E (Z_X10_layPlaces_95 l D aC b u_14  hj_16.1 ) cv_X10_276 rfl rfl rfl (jv_lt hj_16 (by decide)) (Nat.le_of_ble_eq_true rfl) (Nat.le_of_ble_eq_true rfl) ⟨(Nat.le_of_ble_eq_true rfl), (Nat.le_of_ble_eq_true rfl)⟩ (Nat.le_of_ble_eq_true rfl) dX10_asItIs_40 (fun u_17 hp_18 => ?_)
  have hj_19 := jv_trans hj_16 hp_18
  exact r_void E dX10_asItIs_43 hj_19
set_option maxRecDepth 20000 in
set_option maxHeartbeats 2000000 in
theorem Z_X10_isMinister_95 (l : Launch) (D : va_G) (aC : Nat → ClassId) (b : Nat) (w : XW) (x1 : Int32) (hI : Iv w)  : CnI l D aC b M_X10_isMinister 1 25 0 0 [AR 95, AI x1] w (fun r u => (0 ≤ r.toInt ∧ r.toInt ≤ 1 ∧ (¬ r.toInt = 0 ∨ (0 ≤ (w.2.2.1 96 6).toInt ∧ (w.2.2.1 96 6).toInt ≤ 8)) ∧ (r.toInt = 0 ∨ (0 ≤ x1.toInt ∧ x1.toInt ≤ 7)) ∧ (r.toInt = 0 ∨ (0 ≤ (w.2.2.1 96 6).toInt ∧ (w.2.2.1 96 6).toInt ≤ 8))) ∧ w = u) := by
  refine cn_I (own := RX10) (nm := "isMinister") (L0 := [some (AR 95), some (AI x1)]) (by decide +kernel) rfl rfl (Nat.le_of_ble_eq_true rfl) rfl ?_
  intro p e s m args below meth c E hin
  have hJ : Jv w w := jv_rfl hI
  have hb_x1 := z32 x1
  refine s_iload_n E dX10_isMinister_0 rfl rfl ?_
  refine z_i2l (u := x1.toInt) E dX10_isMinister_1 rfl (fun z_1 hz_1 => ?_)
  refine s_lconst (v := 0) E dX10_isMinister_2 (by decide) ?_
  refine s_aload_n E dX10_isMinister_3 rfl rfl ?_
  refine s_gR (r := 96) E fg_X10_9 rfl rfl (jv_lt hJ (by decide)) (jv_r hJ (by decide +kernel)) dX10_isMinister_4 ?_
  refine s_bipush (v := 6) E dX10_isMinister_7 (by decide) ?_
  refine s_iald E rfl (jv_lt hJ (by decide)) (z_in (u := 6) (by decide) (by omega) (by omega)) dX10_isMinister_9 ?_
  refine z_nm (P := fun z => z.toInt = (w.2.2.1 96 6).toInt ∧ 0 ≤ z.toInt ∧ z.toInt ≤ 8) ⟨rfl, (rw_96_6 hJ)⟩ (fun z_2 hz_2 => ?_)
  refine s_iconst (v := 1) E dX10_isMinister_10 (by decide) ?_
  refine z_isub (u := z_2.toInt) (v := 1) E dX10_isMinister_11 rfl (by decide) (by omega) (by omega) (fun z_3 hz_3 => ?_)
  refine z_i2l (u := z_3.toInt) E dX10_isMinister_12 rfl (fun z_4 hz_4 => ?_)
  refine s_sI (As := [AL z_1, AL 0, AL z_4]) (S := []) E (Z_X10_in l D aC b w z_1 0 z_4) cs_X10_82 rfl rfl (Nat.le_of_ble_eq_true rfl) (Nat.le_of_ble_eq_true rfl) ⟨(Nat.le_of_ble_eq_true rfl), (Nat.le_of_ble_eq_true rfl)⟩ (Nat.le_of_ble_eq_true rfl) dX10_isMinister_13 (fun z_5 u_6 hp_7 => ?_)
  obtain ⟨hz_5, hp_7⟩ := hp_7
  subst hp_7
  have hcL_ : (0 : Int64).toInt = 0 := (by decide)
  exact r_bool E dX10_isMinister_16 (z_bool (by omega) (by omega)) ⟨⟨by have hb_ := z32 z_5; omega, by have hb_ := z32 z_5; omega, by first | (right; decide) | (have hb_ := z32 z_5; omega) | (have hb_ := z32 z_5; have hc_ := z32 (w.2.2.1 96 6); omega), by first | (right; decide) | (have hb_ := z32 z_5; omega) | (have hb_ := z32 z_5; have hc_ := z32 x1; omega), by first | (right; decide) | (have hb_ := z32 z_5; omega) | (have hb_ := z32 z_5; have hc_ := z32 (w.2.2.1 96 6); omega)⟩, rfl⟩
set_option maxRecDepth 20000 in
set_option maxHeartbeats 2000000 in
theorem Z_X10_minister_95 (l : Launch) (D : va_G) (aC : Nat → ClassId) (b : Nat) (w : XW) (x1 : Int32) (x2 : Int32) (hI : Iv w)  : CnI l D aC b M_X10_minister 4 92 0 0 [AR 95, AI x1, AI x2] w (fun r u => ((-2) ≤ r.toInt ∧ r.toInt ≤ 20 ∧ (¬ r.toInt = 0 ∨ (0 ≤ x1.toInt ∧ x1.toInt ≤ 7)) ∧ (¬ r.toInt = 0 ∨ (0 ≤ x2.toInt ∧ x2.toInt ≤ 1))) ∧ Jv w u) := by
  refine cn_I (own := RX10) (nm := "minister") (L0 := [some (AR 95), some (AI x1), some (AI x2)]) (by decide +kernel) rfl rfl (Nat.le_of_ble_eq_true rfl) rfl ?_
  intro p e s m args below meth c E hin
  have hJ : Jv w w := jv_rfl hI
  have hb_x1 := z32 x1
  have hb_x2 := z32 x2
  refine s_aload_n E dX10_minister_0 rfl rfl ?_
  refine s_vV (As := []) (S := []) E (Z_X10_asItIs_95 l D aC b w  hJ.1 ) cv_X10_279 rfl rfl rfl (jv_lt hJ (by decide)) (Nat.le_of_ble_eq_true rfl) (Nat.le_of_ble_eq_true rfl) ⟨(Nat.le_of_ble_eq_true rfl), (Nat.le_of_ble_eq_true rfl)⟩ (Nat.le_of_ble_eq_true rfl) dX10_minister_1 (fun u_1 hp_2 => ?_)
  have hj_3 := jv_trans hJ hp_2
  refine s_aload_n E dX10_minister_4 rfl rfl ?_
  refine s_iload_n E dX10_minister_5 rfl rfl ?_
  refine s_vI (As := [AI x1]) (S := []) E (Z_X10_isMinister_95 l D aC b u_1 x1 hj_3.1 ) cv_X10_285 rfl rfl rfl (jv_lt hj_3 (by decide)) (Nat.le_of_ble_eq_true rfl) (Nat.le_of_ble_eq_true rfl) ⟨(Nat.le_of_ble_eq_true rfl), (Nat.le_of_ble_eq_true rfl)⟩ (Nat.le_of_ble_eq_true rfl) dX10_minister_6 (fun z_6 u_4 hp_5 => ?_)
  obtain ⟨hz_6, hp_5⟩ := hp_5
  subst hp_5
  refine z_if_eq (tgt := 22) (u := z_6.toInt) E dX10_minister_9 (by decide) rfl (fun h_8 => ?_) (fun h_8 => ?_)
  ·
    refine s_bipush (v := (-2)) E dX10_minister_22 (by decide) ?_
    exact r_int E dX10_minister_24 ⟨⟨by decide, by decide, by first | (left; decide) | (right; decide) | (right; have hb_ := z32 x1; omega), by first | (left; decide) | (right; decide) | (right; have hb_ := z32 x2; omega)⟩, hj_3⟩
  ·
    refine s_iload_n E dX10_minister_12 rfl rfl ?_
    refine z_i2l (u := x2.toInt) E dX10_minister_13 rfl (fun z_9 hz_9 => ?_)
    refine s_lconst (v := 0) E dX10_minister_14 (by decide) ?_
    refine s_lconst (v := 1) E dX10_minister_15 (by decide) ?_
    refine s_sI (As := [AL z_9, AL 0, AL 1]) (S := []) E (Z_X10_in l D aC b u_1 z_9 0 1) cs_X10_82 rfl rfl (Nat.le_of_ble_eq_true rfl) (Nat.le_of_ble_eq_true rfl) ⟨(Nat.le_of_ble_eq_true rfl), (Nat.le_of_ble_eq_true rfl)⟩ (Nat.le_of_ble_eq_true rfl) dX10_minister_16 (fun z_10 u_11 hp_12 => ?_)
    obtain ⟨hz_10, hp_12⟩ := hp_12
    subst hp_12
    have hcL_ : (0 : Int64).toInt = 0 := (by decide)
    have hcL_ : (1 : Int64).toInt = 1 := (by decide)
    refine z_if_ne (tgt := 25) (u := z_10.toInt) E dX10_minister_19 (by decide) rfl (fun h_13 => ?_) (fun h_13 => ?_)
    ·
      refine s_iload_n E dX10_minister_25 rfl rfl ?_
      refine z_if_ne (tgt := 38) (u := x2.toInt) E dX10_minister_26 (by decide) rfl (fun h_14 => ?_) (fun h_14 => ?_)
      ·
        refine s_aload_n E dX10_minister_38 rfl rfl ?_
        refine s_gR (r := 96) E fg_X10_9 rfl rfl (jv_lt hj_3 (by decide)) (jv_r hj_3 (by decide +kernel)) dX10_minister_39 ?_
        refine s_bipush (v := 58) E dX10_minister_42 (by decide) ?_
        refine s_iconst (v := 2) E dX10_minister_44 (by decide) ?_
        refine s_iload_n E dX10_minister_45 rfl rfl ?_
        refine z_imul (u := 2) (v := x1.toInt) E dX10_minister_46 (by decide) rfl (by omega) (by omega) (fun z_15 hz_15 => ?_)
        refine z_iadd (u := 58) (v := z_15.toInt) E dX10_minister_47 (by decide) rfl (by omega) (by omega) (fun z_16 hz_16 => ?_)
        refine s_iconst (v := 1) E dX10_minister_48 (by decide) ?_
        refine z_iadd (u := z_16.toInt) (v := 1) E dX10_minister_49 rfl (by decide) (by omega) (by omega) (fun z_17 hz_17 => ?_)
        refine s_iald E rfl (jv_lt hj_3 (by decide)) (z_in (u := z_17.toInt) rfl (by omega) (by omega)) dX10_minister_50 ?_
        refine z_nm (P := fun z => z.toInt = (u_1.2.2.1 96 z_17.toNatClampNeg).toInt ∧ 0 ≤ z.toInt ∧ z.toInt ≤ 20) ⟨rfl, (rs_v hj_3 (by decide) 0 20 59 73 2 z_17 z_17.toInt (by decide +kernel) rfl (by omega) (by omega) (by omega))⟩ (fun z_18 hz_18 => ?_)
        exact r_int E dX10_minister_51 ⟨⟨by have hb_ := z32 z_18; omega, by have hb_ := z32 z_18; omega, by first | (right; decide) | (have hb_ := z32 z_18; omega) | (have hb_ := z32 z_18; have hc_ := z32 x1; omega), by first | (right; decide) | (have hb_ := z32 z_18; omega) | (have hb_ := z32 z_18; have hc_ := z32 x2; omega)⟩, hj_3⟩
      ·
        refine s_aload_n E dX10_minister_29 rfl rfl ?_
        refine s_gR (r := 104) E fg_X10_40 rfl rfl (jv_lt hj_3 (by decide)) (jv_r hj_3 (by decide +kernel)) dX10_minister_30 ?_
        refine s_iload_n E dX10_minister_33 rfl rfl ?_
        refine s_iald E rfl (jv_lt hj_3 (by decide)) (z_in (u := x1.toInt) rfl (by omega) (by omega)) dX10_minister_34 ?_
        refine z_nm (P := fun z => z.toInt = (u_1.2.2.1 104 x1.toNatClampNeg).toInt ∧ 0 ≤ z.toInt ∧ z.toInt ≤ 5) ⟨rfl, (ra_104 hj_3 _)⟩ (fun z_19 hz_19 => ?_)
        refine s_goto (tgt := 51) E dX10_minister_35 (by decide) ?_
        exact r_int E dX10_minister_51 ⟨⟨by have hb_ := z32 z_19; omega, by have hb_ := z32 z_19; omega, by first | (right; decide) | (have hb_ := z32 z_19; omega) | (have hb_ := z32 z_19; have hc_ := z32 x1; omega), by first | (right; decide) | (have hb_ := z32 z_19; omega) | (have hb_ := z32 z_19; have hc_ := z32 x2; omega)⟩, hj_3⟩
    ·
      refine s_bipush (v := (-2)) E dX10_minister_22 (by decide) ?_
      exact r_int E dX10_minister_24 ⟨⟨by decide, by decide, by first | (left; decide) | (right; decide) | (right; have hb_ := z32 x1; omega), by first | (left; decide) | (right; decide) | (right; have hb_ := z32 x2; omega)⟩, hj_3⟩
set_option maxRecDepth 20000 in
set_option maxHeartbeats 2000000 in
theorem Z_X10_asksLady_95 (l : Launch) (D : va_G) (aC : Nat → ClassId) (b : Nat) (w : XW) (x1 : Int32) (hI : Iv w)  : CnI l D aC b M_X10_asksLady 4 92 0 0 [AR 95, AI x1] w (fun r u => (0 ≤ r.toInt ∧ r.toInt ≤ 1 ∧ (r.toInt = 0 ∨ (0 ≤ x1.toInt ∧ x1.toInt ≤ 5))) ∧ (r.toInt = 0 ∨ x1.toInt < (u.2.2.1 96 5).toInt) ∧ Jv w u) := by
  refine cn_I (own := RX10) (nm := "asksLady") (L0 := [some (AR 95), some (AI x1)]) (by decide +kernel) rfl rfl (Nat.le_of_ble_eq_true rfl) rfl ?_
  intro p e s m args below meth c E hin
  have hJ : Jv w w := jv_rfl hI
  have hb_x1 := z32 x1
  refine s_aload_n E dX10_asksLady_0 rfl rfl ?_
  refine s_vV (As := []) (S := []) E (Z_X10_asItIs_95 l D aC b w  hJ.1 ) cv_X10_279 rfl rfl rfl (jv_lt hJ (by decide)) (Nat.le_of_ble_eq_true rfl) (Nat.le_of_ble_eq_true rfl) ⟨(Nat.le_of_ble_eq_true rfl), (Nat.le_of_ble_eq_true rfl)⟩ (Nat.le_of_ble_eq_true rfl) dX10_asksLady_1 (fun u_1 hp_2 => ?_)
  have hj_3 := jv_trans hJ hp_2
  refine s_aload_n E dX10_asksLady_4 rfl rfl ?_
  refine s_iload_n E dX10_asksLady_5 rfl rfl ?_
  refine z_i2l (u := x1.toInt) E dX10_asksLady_6 rfl (fun z_4 hz_4 => ?_)
  refine s_vI (As := [AL z_4]) (S := []) E (Z_X10_isLady_95 l D aC b u_1 z_4 hj_3.1 ) cv_X10_222 rfl rfl rfl (jv_lt hj_3 (by decide)) (Nat.le_of_ble_eq_true rfl) (Nat.le_of_ble_eq_true rfl) ⟨(Nat.le_of_ble_eq_true rfl), (Nat.le_of_ble_eq_true rfl)⟩ (Nat.le_of_ble_eq_true rfl) dX10_asksLady_7 (fun z_7 u_5 hp_6 => ?_)
  obtain ⟨hz_7, hxz_7, hp_6⟩ := hp_6
  subst hp_6
  exact r_bool E dX10_asksLady_10 (z_bool (by omega) (by omega)) ⟨⟨by have hb_ := z32 z_7; omega, by have hb_ := z32 z_7; omega, by first | (right; decide) | (have hb_ := z32 z_7; omega) | (have hb_ := z32 z_7; have hc_ := z32 x1; omega)⟩, (by omega), hj_3⟩
set_option maxRecDepth 20000 in
set_option maxHeartbeats 2000000 in
theorem Z_X10_isRoom_95 (l : Launch) (D : va_G) (aC : Nat → ClassId) (b : Nat) (w : XW) (x1 : Int32) (hI : Iv w)  : CnI l D aC b M_X10_isRoom 1 25 0 0 [AR 95, AI x1] w (fun r u => (0 ≤ r.toInt ∧ r.toInt ≤ 1 ∧ (¬ r.toInt = 0 ∨ (0 ≤ (w.2.2.1 96 0).toInt ∧ (w.2.2.1 96 0).toInt ≤ 8)) ∧ (r.toInt = 0 ∨ (0 ≤ x1.toInt ∧ x1.toInt ≤ 7)) ∧ (r.toInt = 0 ∨ (0 ≤ (w.2.2.1 96 0).toInt ∧ (w.2.2.1 96 0).toInt ≤ 8))) ∧ w = u) := by
  refine cn_I (own := RX10) (nm := "isRoom") (L0 := [some (AR 95), some (AI x1)]) (by decide +kernel) rfl rfl (Nat.le_of_ble_eq_true rfl) rfl ?_
  intro p e s m args below meth c E hin
  have hJ : Jv w w := jv_rfl hI
  have hb_x1 := z32 x1
  refine s_iload_n E dX10_isRoom_0 rfl rfl ?_
  refine z_i2l (u := x1.toInt) E dX10_isRoom_1 rfl (fun z_1 hz_1 => ?_)
  refine s_lconst (v := 0) E dX10_isRoom_2 (by decide) ?_
  refine s_aload_n E dX10_isRoom_3 rfl rfl ?_
  refine s_gR (r := 96) E fg_X10_9 rfl rfl (jv_lt hJ (by decide)) (jv_r hJ (by decide +kernel)) dX10_isRoom_4 ?_
  refine s_iconst (v := 0) E dX10_isRoom_7 (by decide) ?_
  refine s_iald E rfl (jv_lt hJ (by decide)) (z_in (u := 0) (by decide) (by omega) (by omega)) dX10_isRoom_8 ?_
  refine z_nm (P := fun z => z.toInt = (w.2.2.1 96 0).toInt ∧ 0 ≤ z.toInt ∧ z.toInt ≤ 8) ⟨rfl, (rw_96_0 hJ)⟩ (fun z_2 hz_2 => ?_)
  refine s_iconst (v := 1) E dX10_isRoom_9 (by decide) ?_
  refine z_isub (u := z_2.toInt) (v := 1) E dX10_isRoom_10 rfl (by decide) (by omega) (by omega) (fun z_3 hz_3 => ?_)
  refine z_i2l (u := z_3.toInt) E dX10_isRoom_11 rfl (fun z_4 hz_4 => ?_)
  refine s_sI (As := [AL z_1, AL 0, AL z_4]) (S := []) E (Z_X10_in l D aC b w z_1 0 z_4) cs_X10_82 rfl rfl (Nat.le_of_ble_eq_true rfl) (Nat.le_of_ble_eq_true rfl) ⟨(Nat.le_of_ble_eq_true rfl), (Nat.le_of_ble_eq_true rfl)⟩ (Nat.le_of_ble_eq_true rfl) dX10_isRoom_12 (fun z_5 u_6 hp_7 => ?_)
  obtain ⟨hz_5, hp_7⟩ := hp_7
  subst hp_7
  have hcL_ : (0 : Int64).toInt = 0 := (by decide)
  exact r_bool E dX10_isRoom_15 (z_bool (by omega) (by omega)) ⟨⟨by have hb_ := z32 z_5; omega, by have hb_ := z32 z_5; omega, by first | (right; decide) | (have hb_ := z32 z_5; omega) | (have hb_ := z32 z_5; have hc_ := z32 (w.2.2.1 96 0); omega), by first | (right; decide) | (have hb_ := z32 z_5; omega) | (have hb_ := z32 z_5; have hc_ := z32 x1; omega), by first | (right; decide) | (have hb_ := z32 z_5; omega) | (have hb_ := z32 z_5; have hc_ := z32 (w.2.2.1 96 0); omega)⟩, rfl⟩
set_option maxRecDepth 20000 in
set_option maxHeartbeats 2000000 in
theorem Z_X10_way_95 (l : Launch) (D : va_G) (aC : Nat → ClassId) (b : Nat) (w : XW) (x1 : Int32) (x2 : Int32) (x3 : Int32) (hI : Iv w)  : CnI l D aC b M_X10_way 5 113 0 0 [AR 95, AI x1, AI x2, AI x3] w (fun r u => ((-2) ≤ r.toInt ∧ r.toInt ≤ 999999999 ∧ (¬ r.toInt = 0 ∨ (0 ≤ x1.toInt ∧ x1.toInt ≤ 5)) ∧ (¬ r.toInt = 0 ∨ (0 ≤ x2.toInt ∧ x2.toInt ≤ 7)) ∧ (¬ r.toInt = 0 ∨ (0 ≤ x3.toInt ∧ x3.toInt ≤ 7))) ∧ Jv w u) := by
  refine cn_I (own := RX10) (nm := "way") (L0 := [some (AR 95), some (AI x1), some (AI x2), some (AI x3), none]) (by decide +kernel) rfl rfl (Nat.le_of_ble_eq_true rfl) rfl ?_
  intro p e s m args below meth c E hin
  have hJ : Jv w w := jv_rfl hI
  have hb_x1 := z32 x1
  have hb_x2 := z32 x2
  have hb_x3 := z32 x3
  refine s_aload_n E dX10_way_0 rfl rfl ?_
  refine s_iload_n E dX10_way_1 rfl rfl ?_
  refine s_vI (As := [AI x1]) (S := []) E (Z_X10_asksLady_95 l D aC b w x1 hJ.1 ) cv_X10_288 rfl rfl rfl (jv_lt hJ (by decide)) (Nat.le_of_ble_eq_true rfl) (Nat.le_of_ble_eq_true rfl) ⟨(Nat.le_of_ble_eq_true rfl), (Nat.le_of_ble_eq_true rfl)⟩ (Nat.le_of_ble_eq_true rfl) dX10_way_2 (fun z_3 u_1 hp_2 => ?_)
  obtain ⟨hz_3, hxz_3, hp_2⟩ := hp_2
  have hj_4 := jv_trans hJ hp_2
  refine z_if_eq (tgt := 24) (u := z_3.toInt) E dX10_way_5 (by decide) rfl (fun h_5 => ?_) (fun h_5 => ?_)
  ·
    refine s_bipush (v := (-2)) E dX10_way_24 (by decide) ?_
    exact r_int E dX10_way_26 ⟨⟨by decide, by decide, by first | (left; decide) | (right; decide) | (right; have hb_ := z32 x1; omega), by first | (left; decide) | (right; decide) | (right; have hb_ := z32 x2; omega), by first | (left; decide) | (right; decide) | (right; have hb_ := z32 x3; omega)⟩, hj_4⟩
  ·
    refine s_aload_n E dX10_way_8 rfl rfl ?_
    refine s_iload_n E dX10_way_9 rfl rfl ?_
    refine s_vI (As := [AI x2]) (S := []) E (Z_X10_isRoom_95 l D aC b u_1 x2 hj_4.1 ) cv_X10_291 rfl rfl rfl (jv_lt hj_4 (by decide)) (Nat.le_of_ble_eq_true rfl) (Nat.le_of_ble_eq_true rfl) ⟨(Nat.le_of_ble_eq_true rfl), (Nat.le_of_ble_eq_true rfl)⟩ (Nat.le_of_ble_eq_true rfl) dX10_way_10 (fun z_8 u_6 hp_7 => ?_)
    obtain ⟨hz_8, hp_7⟩ := hp_7
    subst hp_7
    refine z_if_eq (tgt := 24) (u := z_8.toInt) E dX10_way_13 (by decide) rfl (fun h_10 => ?_) (fun h_10 => ?_)
    ·
      refine s_bipush (v := (-2)) E dX10_way_24 (by decide) ?_
      exact r_int E dX10_way_26 ⟨⟨by decide, by decide, by first | (left; decide) | (right; decide) | (right; have hb_ := z32 x1; omega), by first | (left; decide) | (right; decide) | (right; have hb_ := z32 x2; omega), by first | (left; decide) | (right; decide) | (right; have hb_ := z32 x3; omega)⟩, hj_4⟩
    ·
      refine s_aload_n E dX10_way_16 rfl rfl ?_
      refine s_iload_n E dX10_way_17 rfl rfl ?_
      refine s_vI (As := [AI x3]) (S := []) E (Z_X10_isRoom_95 l D aC b u_1 x3 hj_4.1 ) cv_X10_291 rfl rfl rfl (jv_lt hj_4 (by decide)) (Nat.le_of_ble_eq_true rfl) (Nat.le_of_ble_eq_true rfl) ⟨(Nat.le_of_ble_eq_true rfl), (Nat.le_of_ble_eq_true rfl)⟩ (Nat.le_of_ble_eq_true rfl) dX10_way_18 (fun z_13 u_11 hp_12 => ?_)
      obtain ⟨hz_13, hp_12⟩ := hp_12
      subst hp_12
      refine z_if_ne (tgt := 27) (u := z_13.toInt) E dX10_way_21 (by decide) rfl (fun h_15 => ?_) (fun h_15 => ?_)
      ·
        refine s_aload_n E dX10_way_27 rfl rfl ?_
        refine s_aload_n E dX10_way_28 rfl rfl ?_
        refine s_iload_n E dX10_way_29 rfl rfl ?_
        refine s_vI (As := [AI x1]) (S := [AR 95]) E (Z_X10_wideOf_95 l D aC b u_1 x1 hj_4.1 ⟨by have hb_ := z32 x1; omega, by have hb_ := z32 x1; omega⟩) cv_X10_238 rfl rfl rfl (jv_lt hj_4 (by decide)) (Nat.le_of_ble_eq_true rfl) (Nat.le_of_ble_eq_true rfl) ⟨(Nat.le_of_ble_eq_true rfl), (Nat.le_of_ble_eq_true rfl)⟩ (Nat.le_of_ble_eq_true rfl) dX10_way_30 (fun z_18 u_16 hp_17 => ?_)
        obtain ⟨hz_18, hxz_18, hp_17⟩ := hp_17
        subst hp_17
        refine s_iload_n E dX10_way_33 rfl rfl ?_
        refine s_iload_n E dX10_way_34 rfl rfl ?_
        refine s_vI (As := [AI z_18, AI x2, AI x3]) (S := []) E (Z_X10_wayOf_95 l D aC b u_1 z_18 x2 x3 hj_4.1 ⟨by have hb_ := z32 z_18; omega, by have hb_ := z32 z_18; omega⟩ ⟨by have hb_ := z32 x2; omega, by have hb_ := z32 x2; omega⟩ ⟨by have hb_ := z32 x3; omega, by have hb_ := z32 x3; omega⟩) cv_X10_233 rfl rfl rfl (jv_lt hj_4 (by decide)) (Nat.le_of_ble_eq_true rfl) (Nat.le_of_ble_eq_true rfl) ⟨(Nat.le_of_ble_eq_true rfl), (Nat.le_of_ble_eq_true rfl)⟩ (Nat.le_of_ble_eq_true rfl) dX10_way_35 (fun z_22 u_20 hp_21 => ?_)
        obtain ⟨hz_22, hxz_22, hp_21⟩ := hp_21
        subst hp_21
        refine s_istore (L2 := [some (AR 95), some (AI x1), some (AI x2), some (AI x3), some (AI z_22)]) E dX10_way_38 (by decide) rfl ?_
        refine s_iload E dX10_way_40 rfl ?_
        refine s_ldc E k_1513 rfl dX10_way_42 ?_
        refine z_icmp_lt (tgt := 51) (u := z_22.toInt) (v := 1000000000) E dX10_way_44 (by decide) rfl (by decide) (fun h_24 => ?_) (fun h_24 => ?_)
        ·
          refine s_iload E dX10_way_51 rfl ?_
          exact r_int E dX10_way_53 ⟨⟨by have hb_ := z32 z_22; omega, by have hb_ := z32 z_22; omega, by first | (right; decide) | (have hb_ := z32 z_22; omega) | (have hb_ := z32 z_22; have hc_ := z32 x1; omega), by first | (right; decide) | (have hb_ := z32 z_22; omega) | (have hb_ := z32 z_22; have hc_ := z32 x2; omega), by first | (right; decide) | (have hb_ := z32 z_22; omega) | (have hb_ := z32 z_22; have hc_ := z32 x3; omega)⟩, hj_4⟩
        ·
          refine s_iconst (v := (-1)) E dX10_way_47 (by decide) ?_
          refine s_goto (tgt := 53) E dX10_way_48 (by decide) ?_
          exact r_int E dX10_way_53 ⟨⟨by decide, by decide, by first | (left; decide) | (right; decide) | (right; have hb_ := z32 x1; omega), by first | (left; decide) | (right; decide) | (right; have hb_ := z32 x2; omega), by first | (left; decide) | (right; decide) | (right; have hb_ := z32 x3; omega)⟩, hj_4⟩
      ·
        refine s_bipush (v := (-2)) E dX10_way_24 (by decide) ?_
        exact r_int E dX10_way_26 ⟨⟨by decide, by decide, by first | (left; decide) | (right; decide) | (right; have hb_ := z32 x1; omega), by first | (left; decide) | (right; decide) | (right; have hb_ := z32 x2; omega), by first | (left; decide) | (right; decide) | (right; have hb_ := z32 x3; omega)⟩, hj_4⟩
set_option maxRecDepth 20000 in
set_option maxHeartbeats 2000000 in
theorem Z_X10_reach_95 (l : Launch) (D : va_G) (aC : Nat → ClassId) (b : Nat) (w : XW) (x1 : Int32) (x2 : Int32) (hI : Iv w)  : CnI l D aC b M_X10_reach 5 113 0 0 [AR 95, AI x1, AI x2] w (fun r u => ((-2147483648) ≤ r.toInt ∧ r.toInt ≤ 2147483647 ∧ (¬ r.toInt = 0 ∨ (0 ≤ x1.toInt ∧ x1.toInt ≤ 5)) ∧ (¬ r.toInt = 0 ∨ (0 ≤ x2.toInt ∧ x2.toInt ≤ 7))) ∧ Jv w u) := by
  refine cn_I (own := RX10) (nm := "reach") (L0 := [some (AR 95), some (AI x1), some (AI x2), none, none]) (by decide +kernel) rfl rfl (Nat.le_of_ble_eq_true rfl) rfl ?_
  intro p e s m args below meth c E hin
  have hJ : Jv w w := jv_rfl hI
  have hb_x1 := z32 x1
  have hb_x2 := z32 x2
  refine s_aload_n E dX10_reach_0 rfl rfl ?_
  refine s_iload_n E dX10_reach_1 rfl rfl ?_
  refine s_vI (As := [AI x1]) (S := []) E (Z_X10_asksLady_95 l D aC b w x1 hJ.1 ) cv_X10_288 rfl rfl rfl (jv_lt hJ (by decide)) (Nat.le_of_ble_eq_true rfl) (Nat.le_of_ble_eq_true rfl) ⟨(Nat.le_of_ble_eq_true rfl), (Nat.le_of_ble_eq_true rfl)⟩ (Nat.le_of_ble_eq_true rfl) dX10_reach_2 (fun z_3 u_1 hp_2 => ?_)
  obtain ⟨hz_3, hxz_3, hp_2⟩ := hp_2
  have hj_4 := jv_trans hJ hp_2
  refine z_if_eq (tgt := 16) (u := z_3.toInt) E dX10_reach_5 (by decide) rfl (fun h_5 => ?_) (fun h_5 => ?_)
  ·
    refine s_bipush (v := (-2)) E dX10_reach_16 (by decide) ?_
    exact r_int E dX10_reach_18 ⟨⟨by decide, by decide, by first | (left; decide) | (right; decide) | (right; have hb_ := z32 x1; omega), by first | (left; decide) | (right; decide) | (right; have hb_ := z32 x2; omega)⟩, hj_4⟩
  ·
    refine s_aload_n E dX10_reach_8 rfl rfl ?_
    refine s_iload_n E dX10_reach_9 rfl rfl ?_
    refine s_vI (As := [AI x2]) (S := []) E (Z_X10_isRoom_95 l D aC b u_1 x2 hj_4.1 ) cv_X10_291 rfl rfl rfl (jv_lt hj_4 (by decide)) (Nat.le_of_ble_eq_true rfl) (Nat.le_of_ble_eq_true rfl) ⟨(Nat.le_of_ble_eq_true rfl), (Nat.le_of_ble_eq_true rfl)⟩ (Nat.le_of_ble_eq_true rfl) dX10_reach_10 (fun z_8 u_6 hp_7 => ?_)
    obtain ⟨hz_8, hp_7⟩ := hp_7
    subst hp_7
    refine z_if_ne (tgt := 19) (u := z_8.toInt) E dX10_reach_13 (by decide) rfl (fun h_10 => ?_) (fun h_10 => ?_)
    ·
      refine s_iconst (v := 0) E dX10_reach_19 (by decide) ?_
      refine s_istore_n (L2 := [some (AR 95), some (AI x1), some (AI x2), some (AI 0), none]) E dX10_reach_20 rfl (by decide) rfl ?_
      refine s_iconst (v := 0) E dX10_reach_21 (by decide) ?_
      refine s_istore (L2 := [some (AR 95), some (AI x1), some (AI x2), some (AI 0), some (AI 0)]) E dX10_reach_22 (by decide) rfl ?_
      refine z_loop (St := Int32 × Int32) (Pi := fun ⟨q24_3_10, q24_4_10⟩ v24 => (0 ≤ q24_4_10.toInt ∧ q24_4_10.toInt ≤ 8) ∧ u_1 = v24) (Lf := fun ⟨q24_3_10, q24_4_10⟩ => [some (AR 95), some (AI x1), some (AI x2), some (AI q24_3_10), some (AI q24_4_10)]) (fun ⟨q24_3_10, q24_4_10⟩ _ => (9 - q24_4_10.toInt).toNat) ⟨0, 0⟩ ⟨⟨by decide, by decide⟩, rfl⟩ ?_
      rintro ⟨q24_3_10, q24_4_10⟩ v24 ⟨hq24_4, hv_⟩ ih24
      subst hv_
      have hbq24_3 := z32 q24_3_10
      refine s_loc (L2 := [some (AR 95), some (AI x1), some (AI x2), some (AI q24_3_10), some (AI q24_4_10)]) rfl ?_
      refine s_iload E dX10_reach_24 rfl ?_
      refine s_aload_n E dX10_reach_26 rfl rfl ?_
      refine s_gR (r := 96) E fg_X10_9 rfl rfl (jv_lt hj_4 (by decide)) (jv_r hj_4 (by decide +kernel)) dX10_reach_27 ?_
      refine s_iconst (v := 0) E dX10_reach_30 (by decide) ?_
      refine s_iald E rfl (jv_lt hj_4 (by decide)) (z_in (u := 0) (by decide) (by omega) (by omega)) dX10_reach_31 ?_
      refine z_nm (P := fun z => z.toInt = (u_1.2.2.1 96 0).toInt ∧ 0 ≤ z.toInt ∧ z.toInt ≤ 8) ⟨rfl, (rw_96_0 hj_4)⟩ (fun z_12 hz_12 => ?_)
      refine z_icmp_ge (tgt := 69) (u := q24_4_10.toInt) (v := z_12.toInt) E dX10_reach_32 (by decide) rfl rfl (fun h_13 => ?_) (fun h_13 => ?_)
      ·
        refine s_iload_n E dX10_reach_69 rfl rfl ?_
        exact r_int E dX10_reach_70 ⟨⟨by have hb_ := z32 q24_3_10; omega, by have hb_ := z32 q24_3_10; omega, by first | (right; decide) | (have hb_ := z32 q24_3_10; omega) | (have hb_ := z32 q24_3_10; have hc_ := z32 x1; omega), by first | (right; decide) | (have hb_ := z32 q24_3_10; omega) | (have hb_ := z32 q24_3_10; have hc_ := z32 x2; omega)⟩, hj_4⟩
      ·
        refine s_iload_n E dX10_reach_35 rfl rfl ?_
        refine s_aload_n E dX10_reach_36 rfl rfl ?_
        refine s_aload_n E dX10_reach_37 rfl rfl ?_
        refine s_iload_n E dX10_reach_38 rfl rfl ?_
        refine s_vI (As := [AI x1]) (S := [AR 95, AI q24_3_10]) E (Z_X10_wideOf_95 l D aC b u_1 x1 hj_4.1 ⟨by have hb_ := z32 x1; omega, by have hb_ := z32 x1; omega⟩) cv_X10_238 rfl rfl rfl (jv_lt hj_4 (by decide)) (Nat.le_of_ble_eq_true rfl) (Nat.le_of_ble_eq_true rfl) ⟨(Nat.le_of_ble_eq_true rfl), (Nat.le_of_ble_eq_true rfl)⟩ (Nat.le_of_ble_eq_true rfl) dX10_reach_39 (fun z_16 u_14 hp_15 => ?_)
        obtain ⟨hz_16, hxz_16, hp_15⟩ := hp_15
        subst hp_15
        refine s_iload_n E dX10_reach_42 rfl rfl ?_
        refine s_iload E dX10_reach_43 rfl ?_
        refine s_vI (As := [AI z_16, AI x2, AI q24_4_10]) (S := [AI q24_3_10]) E (Z_X10_wayOf_95 l D aC b u_1 z_16 x2 q24_4_10 hj_4.1 ⟨by have hb_ := z32 z_16; omega, by have hb_ := z32 z_16; omega⟩ ⟨by have hb_ := z32 x2; omega, by have hb_ := z32 x2; omega⟩ ⟨by have hb_ := z32 q24_4_10; omega, by have hb_ := z32 q24_4_10; omega⟩) cv_X10_233 rfl rfl rfl (jv_lt hj_4 (by decide)) (Nat.le_of_ble_eq_true rfl) (Nat.le_of_ble_eq_true rfl) ⟨(Nat.le_of_ble_eq_true rfl), (Nat.le_of_ble_eq_true rfl)⟩ (Nat.le_of_ble_eq_true rfl) dX10_reach_45 (fun z_20 u_18 hp_19 => ?_)
        obtain ⟨hz_20, hxz_20, hp_19⟩ := hp_19
        subst hp_19
        refine s_ldc E k_1513 rfl dX10_reach_48 ?_
        refine z_icmp_ge (tgt := 60) (u := z_20.toInt) (v := 1000000000) E dX10_reach_50 (by decide) rfl (by decide) (fun h_22 => ?_) (fun h_22 => ?_)
        ·
          refine s_iconst (v := 0) E dX10_reach_60 (by decide) ?_
          refine s_ior E dX10_reach_61 ?_
          refine z_nm (P := fun z => (-2147483648) ≤ z.toInt ∧ z.toInt ≤ 2147483647) (z32 _) (fun z_23 hz_23 => ?_)
          refine s_istore_n (L2 := [some (AR 95), some (AI x1), some (AI x2), some (AI z_23), some (AI q24_4_10)]) E dX10_reach_62 rfl (by decide) rfl ?_
          refine z_iinc (u := q24_4_10.toInt) (L2 := fun z_24 => [some (AR 95), some (AI x1), some (AI x2), some (AI z_23), some (AI z_24)]) E dX10_reach_63 rfl rfl (by decide) (fun _ => rfl) (by decide) (by omega) (by omega) (fun z_24 hz_24 => ?_)
          refine s_goto (tgt := 24) E dX10_reach_66 (by decide) ?_
          exact ih24 ⟨z_23, z_24⟩ u_1 ⟨⟨by have hb_ := z32 z_24; omega, by have hb_ := z32 z_24; omega⟩, rfl⟩ (by first | omega | decide | (dsimp only; omega) | (dsimp only; decide))
        ·
          refine s_iconst (v := 1) E dX10_reach_53 (by decide) ?_
          refine s_iload E dX10_reach_54 rfl ?_
          refine z_shl1 7 (u := q24_4_10.toInt) (B := 128) E dX10_reach_56 rfl (by omega) (by omega) (by decide) (by decide) (fun z_25 hz_25 => ?_)
          refine s_goto (tgt := 61) E dX10_reach_57 (by decide) ?_
          refine s_ior E dX10_reach_61 ?_
          refine z_nm (P := fun z => (-2147483648) ≤ z.toInt ∧ z.toInt ≤ 2147483647) (z32 _) (fun z_26 hz_26 => ?_)
          refine s_istore_n (L2 := [some (AR 95), some (AI x1), some (AI x2), some (AI z_26), some (AI q24_4_10)]) E dX10_reach_62 rfl (by decide) rfl ?_
          refine z_iinc (u := q24_4_10.toInt) (L2 := fun z_27 => [some (AR 95), some (AI x1), some (AI x2), some (AI z_26), some (AI z_27)]) E dX10_reach_63 rfl rfl (by decide) (fun _ => rfl) (by decide) (by omega) (by omega) (fun z_27 hz_27 => ?_)
          refine s_goto (tgt := 24) E dX10_reach_66 (by decide) ?_
          exact ih24 ⟨z_26, z_27⟩ u_1 ⟨⟨by have hb_ := z32 z_27; omega, by have hb_ := z32 z_27; omega⟩, rfl⟩ (by first | omega | decide | (dsimp only; omega) | (dsimp only; decide))
    ·
      refine s_bipush (v := (-2)) E dX10_reach_16 (by decide) ?_
      exact r_int E dX10_reach_18 ⟨⟨by decide, by decide, by first | (left; decide) | (right; decide) | (right; have hb_ := z32 x1; omega), by first | (left; decide) | (right; decide) | (right; have hb_ := z32 x2; omega)⟩, hj_4⟩
set_option maxRecDepth 20000 in
set_option maxHeartbeats 2000000 in
theorem Z_X10_isBall_95 (l : Launch) (D : va_G) (aC : Nat → ClassId) (b : Nat) (w : XW)  (hI : Iv w)  : CnI l D aC b M_X10_isBall 0 0 0 0 [AR 95] w (fun r u => (0 ≤ r.toInt ∧ r.toInt ≤ 1 ∧ (¬ r.toInt = 0 ∨ (0 ≤ (w.2.2.1 96 9).toInt ∧ (w.2.2.1 96 9).toInt ≤ 0)) ∧ (r.toInt = 0 ∨ (1 ≤ (w.2.2.1 96 9).toInt ∧ (w.2.2.1 96 9).toInt ≤ 2147483647))) ∧ w = u) := by
  refine cn_I (own := RX10) (nm := "isBall") (L0 := [some (AR 95)]) (by decide +kernel) rfl rfl (Nat.le_of_ble_eq_true rfl) rfl ?_
  intro p e s m args below meth c E hin
  have hJ : Jv w w := jv_rfl hI
  refine s_aload_n E dX10_isBall_0 rfl rfl ?_
  refine s_gR (r := 96) E fg_X10_9 rfl rfl (jv_lt hJ (by decide)) (jv_r hJ (by decide +kernel)) dX10_isBall_1 ?_
  refine s_bipush (v := 9) E dX10_isBall_4 (by decide) ?_
  refine s_iald E rfl (jv_lt hJ (by decide)) (z_in (u := 9) (by decide) (by omega) (by omega)) dX10_isBall_6 ?_
  refine z_nm (P := fun z => z.toInt = (w.2.2.1 96 9).toInt ∧ 0 ≤ z.toInt ∧ z.toInt ≤ 2147483647) ⟨rfl, (rw_96_9 hJ)⟩ (fun z_1 hz_1 => ?_)
  refine z_if_le (tgt := 14) (u := z_1.toInt) E dX10_isBall_7 (by decide) rfl (fun h_2 => ?_) (fun h_2 => ?_)
  ·
    refine s_iconst (v := 0) E dX10_isBall_14 (by decide) ?_
    exact r_bool E dX10_isBall_15 (Or.inl rfl) ⟨⟨by decide, by decide, by first | (left; decide) | (right; decide) | (right; have hb_ := z32 (w.2.2.1 96 9); omega), by first | (left; decide) | (right; decide) | (right; have hb_ := z32 (w.2.2.1 96 9); omega)⟩, rfl⟩
  ·
    refine s_iconst (v := 1) E dX10_isBall_10 (by decide) ?_
    refine s_goto (tgt := 15) E dX10_isBall_11 (by decide) ?_
    exact r_bool E dX10_isBall_15 (Or.inr rfl) ⟨⟨by decide, by decide, by first | (left; decide) | (right; decide) | (right; have hb_ := z32 (w.2.2.1 96 9); omega), by first | (left; decide) | (right; decide) | (right; have hb_ := z32 (w.2.2.1 96 9); omega)⟩, rfl⟩
