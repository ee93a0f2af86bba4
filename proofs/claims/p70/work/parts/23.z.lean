set_option maxRecDepth 20000 in
set_option maxHeartbeats 2000000 in
theorem Z_X5_mayGive_81_r2 (l : Launch) (D : va_G) (aC : Nat → ClassId) (b : Nat) (w : XW) (x1 : Int32) (x2 : Int32) (x3 : Int32) (hI : Iv w) (hx2 : 0 ≤ x2.toInt ∧ x2.toInt ≤ 5) (hx3 : 0 ≤ x3.toInt ∧ x3.toInt ≤ 5) : CnI l D aC b M_X5_mayGive 2 44 0 0 [AR 81, AR 2, AI x1, AI x2, AI x3] w (fun r u => (0 ≤ r.toInt ∧ r.toInt ≤ 1) ∧ w = u) := by
  refine cn_I (own := RX5) (nm := "mayGive") (L0 := [some (AR 81), some (AR 2), some (AI x1), some (AI x2), some (AI x3)]) (by decide +kernel) rfl rfl (Nat.le_of_ble_eq_true rfl) rfl ?_
  intro p e s m args below meth c E hin
  have hJ : Jv w w := jv_rfl hI
  have hb_x1 := z32 x1
  refine s_iload_n E dX5_mayGive_0 rfl rfl ?_
  refine z_switch (lo := 0) (hi := 2) (u := x1.toInt) rfl (fun h_1 => ?_) (fun j hj h_1 => ?_)
  ·
    refine s_tableOut (tgt := 74) E dX5_mayGive_1 h_1 (by decide) ?_
    refine s_aload_n E dX5_mayGive_74 rfl rfl ?_
    refine s_gR (r := 83) E fg_X5_15 rfl rfl (jv_lt hJ (by decide)) (jv_r hJ (by decide +kernel)) dX5_mayGive_75 ?_
    refine s_iload E dX5_mayGive_78 rfl ?_
    refine s_iald E rfl (jv_lt hJ (by decide)) (z_in (u := x3.toInt) rfl (by omega) (by omega)) dX5_mayGive_80 ?_
    refine z_nm (P := fun z => (-2147483648) ≤ z.toInt ∧ z.toInt ≤ 2147483647) (z32 _) (fun z_2 hz_2 => ?_)
    refine s_aload_n E dX5_mayGive_81 rfl rfl ?_
    refine s_gR (r := 83) E fg_X5_15 rfl rfl (jv_lt hJ (by decide)) (jv_r hJ (by decide +kernel)) dX5_mayGive_82 ?_
    refine s_iload_n E dX5_mayGive_85 rfl rfl ?_
    refine s_iald E rfl (jv_lt hJ (by decide)) (z_in (u := x2.toInt) rfl (by omega) (by omega)) dX5_mayGive_86 ?_
    refine z_nm (P := fun z => (-2147483648) ≤ z.toInt ∧ z.toInt ≤ 2147483647) (z32 _) (fun z_3 hz_3 => ?_)
    refine z_icmp_ge (tgt := 94) (u := z_2.toInt) (v := z_3.toInt) E dX5_mayGive_87 (by decide) rfl rfl (fun h_4 => ?_) (fun h_4 => ?_)
    ·
      refine s_iconst (v := 0) E dX5_mayGive_94 (by decide) ?_
      exact r_bool E dX5_mayGive_95 (Or.inl rfl) ⟨(by decide), rfl⟩
    ·
      refine s_iconst (v := 1) E dX5_mayGive_90 (by decide) ?_
      refine s_goto (tgt := 95) E dX5_mayGive_91 (by decide) ?_
      exact r_bool E dX5_mayGive_95 (Or.inr rfl) ⟨(by decide), rfl⟩
  · match j, hj with
    | 0, _ =>
      refine s_tableIn (off := 27) (tgt := 28) E dX5_mayGive_1 (by omega) (by omega) (z_off (j := 0) (by omega) (by decide +kernel)) (by decide) ?_
      refine s_iconst (v := 1) E dX5_mayGive_28 (by decide) ?_
      exact r_bool E dX5_mayGive_29 (Or.inr rfl) ⟨(by decide), rfl⟩
    | 1, _ =>
      refine s_tableIn (off := 29) (tgt := 30) E dX5_mayGive_1 (by omega) (by omega) (z_off (j := 1) (by omega) (by decide +kernel)) (by decide) ?_
      refine s_aload_n E dX5_mayGive_30 rfl rfl ?_
      refine s_gR (r := 83) E fg_X5_15 rfl rfl (jv_lt hJ (by decide)) (jv_r hJ (by decide +kernel)) dX5_mayGive_31 ?_
      refine s_iload E dX5_mayGive_34 rfl ?_
      refine s_iald E rfl (jv_lt hJ (by decide)) (z_in (u := x3.toInt) rfl (by omega) (by omega)) dX5_mayGive_36 ?_
      refine z_nm (P := fun z => (-2147483648) ≤ z.toInt ∧ z.toInt ≤ 2147483647) (z32 _) (fun z_5 hz_5 => ?_)
      refine z_if_le (tgt := 44) (u := z_5.toInt) E dX5_mayGive_37 (by decide) rfl (fun h_6 => ?_) (fun h_6 => ?_)
      ·
        refine s_iconst (v := 0) E dX5_mayGive_44 (by decide) ?_
        exact r_bool E dX5_mayGive_45 (Or.inl rfl) ⟨(by decide), rfl⟩
      ·
        refine s_iconst (v := 1) E dX5_mayGive_40 (by decide) ?_
        refine s_goto (tgt := 45) E dX5_mayGive_41 (by decide) ?_
        exact r_bool E dX5_mayGive_45 (Or.inr rfl) ⟨(by decide), rfl⟩
    | 2, _ =>
      refine s_tableIn (off := 45) (tgt := 46) E dX5_mayGive_1 (by omega) (by omega) (z_off (j := 2) (by omega) (by decide +kernel)) (by decide) ?_
      refine s_aload_n E dX5_mayGive_46 rfl rfl ?_
      refine s_gR (r := 5) E fg_X5_21 rfl rfl (jv_lt hJ (by decide)) (jv_r hJ (by decide +kernel)) dX5_mayGive_47 ?_
      refine s_iload E dX5_mayGive_50 rfl ?_
      refine s_iconst (v := 1) E dX5_mayGive_52 (by decide) ?_
      refine s_vI (As := [AI x3, AI 1]) (S := []) E (Z_X8_cell_5 l D aC b w x3 1 hJ.1 ) cv_X5_46 rfl rfl rfl (jv_lt hJ (by decide)) (Nat.le_of_ble_eq_true rfl) (Nat.le_of_ble_eq_true rfl) ⟨(Nat.le_of_ble_eq_true rfl), (Nat.le_of_ble_eq_true rfl)⟩ (Nat.le_of_ble_eq_true rfl) dX5_mayGive_53 (fun z_9 u_7 hp_8 => ?_)
      obtain ⟨hz_9, hp_8⟩ := hp_8
      subst hp_8
      refine s_aload_n E dX5_mayGive_56 rfl rfl ?_
      refine s_gR (r := 5) E fg_X5_21 rfl rfl (jv_lt hJ (by decide)) (jv_r hJ (by decide +kernel)) dX5_mayGive_57 ?_
      refine s_iload_n E dX5_mayGive_60 rfl rfl ?_
      refine s_iconst (v := 1) E dX5_mayGive_61 (by decide) ?_
      refine s_vI (As := [AI x2, AI 1]) (S := [AI z_9]) E (Z_X8_cell_5 l D aC b w x2 1 hJ.1 ) cv_X5_46 rfl rfl rfl (jv_lt hJ (by decide)) (Nat.le_of_ble_eq_true rfl) (Nat.le_of_ble_eq_true rfl) ⟨(Nat.le_of_ble_eq_true rfl), (Nat.le_of_ble_eq_true rfl)⟩ (Nat.le_of_ble_eq_true rfl) dX5_mayGive_62 (fun z_13 u_11 hp_12 => ?_)
      obtain ⟨hz_13, hp_12⟩ := hp_12
      subst hp_12
      refine z_icmp_gt (tgt := 72) (u := z_9.toInt) (v := z_13.toInt) E dX5_mayGive_65 (by decide) rfl rfl (fun h_15 => ?_) (fun h_15 => ?_)
      ·
        refine s_iconst (v := 0) E dX5_mayGive_72 (by decide) ?_
        exact r_bool E dX5_mayGive_73 (Or.inl rfl) ⟨(by decide), rfl⟩
      ·
        refine s_iconst (v := 1) E dX5_mayGive_68 (by decide) ?_
        refine s_goto (tgt := 73) E dX5_mayGive_69 (by decide) ?_
        exact r_bool E dX5_mayGive_73 (Or.inr rfl) ⟨(by decide), rfl⟩
    | j + 3, hj => exact absurd hj (by omega)
set_option maxRecDepth 20000 in
set_option maxHeartbeats 2000000 in
theorem Z_X5_prepare_81_r2 (l : Launch) (D : va_G) (aC : Nat → ClassId) (b : Nat) (w : XW) (x1 : Int32) (x2 : Int32) (hI : Iv w)  : CnV l D aC b M_X5_prepare 3 68 0 0 [AR 81, AR 2, AI x1, AI x2] w (fun u => Jv w u) := by
  refine cn_V (own := RX5) (nm := "prepare") (L0 := [some (AR 81), some (AR 2), some (AI x1), some (AI x2), none, none]) (by decide +kernel) rfl rfl (Nat.le_of_ble_eq_true rfl) rfl ?_
  intro p e s m args below meth c E hin
  have hJ : Jv w w := jv_rfl hI
  have hb_x1 := z32 x1
  have hb_x2 := z32 x2
  refine s_aload_n E dX5_prepare_0 rfl rfl ?_
  refine s_aload_n E dX5_prepare_1 rfl rfl ?_
  refine s_gR (r := 5) E fg_X5_21 rfl rfl (jv_lt hJ (by decide)) (jv_r hJ (by decide +kernel)) dX5_prepare_2 ?_
  refine s_gI E fg_X5_27 rfl rfl (jv_lt hJ (by decide)) dX5_prepare_5 ?_
  refine z_nm (P := fun z => z.toInt = (w.2.2.1 5 3).toInt ∧ 0 ≤ z.toInt ∧ z.toInt ≤ 6) ⟨rfl, (rg_5_3 hJ)⟩ (fun z_1 hz_1 => ?_)
  refine s_pI E fp_X5_33 (Or.inl rfl) rfl (jv_lt hJ (by decide)) dX5_prepare_8 ?_
  refine s_gen (P := Jv w) (jv_f_81_3 hJ (by have hb_ := z32 z_1; omega) (by have hb_ := z32 z_1; omega)) (fun v_2 hj_3 => ?_)
  refine s_aload_n E dX5_prepare_11 rfl rfl ?_
  refine s_aload_n E dX5_prepare_12 rfl rfl ?_
  refine s_gI E fg_X5_35 rfl rfl (jv_lt hj_3 (by decide)) dX5_prepare_13 ?_
  refine z_nm (P := fun z => z.toInt = (v_2.2.2.1 2 2).toInt ∧ 0 ≤ z.toInt ∧ z.toInt ≤ 14) ⟨rfl, (rg_2_2 hj_3)⟩ (fun z_4 hz_4 => ?_)
  refine s_pI E fp_X5_38 (Or.inl rfl) rfl (jv_lt hj_3 (by decide)) dX5_prepare_16 ?_
  refine s_gen (P := Jv w) (jv_f_81_4 hj_3 (by have hb_ := z32 z_4; omega) (by have hb_ := z32 z_4; omega)) (fun v_5 hj_6 => ?_)
  refine s_iconst (v := 0) E dX5_prepare_19 (by decide) ?_
  refine s_istore (L2 := [some (AR 81), some (AR 2), some (AI x1), some (AI x2), some (AI 0), none]) E dX5_prepare_20 (by decide) rfl ?_
  refine z_loop (St := Int32) (Pi := fun q22_4_6 v22 => (0 ≤ q22_4_6.toInt ∧ q22_4_6.toInt ≤ 6) ∧ Jv w v22) (Lf := fun q22_4_6 => [some (AR 81), some (AR 2), some (AI x1), some (AI x2), some (AI q22_4_6), none]) (fun q22_4_6 _ => (7 - q22_4_6.toInt).toNat) 0 ⟨⟨by decide, by decide⟩, hj_6⟩ ?_
  rintro q22_4_6 v22 ⟨hq22_4, hj_7⟩ ih22
  refine s_loc (L2 := [some (AR 81), some (AR 2), some (AI x1), some (AI x2), some (AI q22_4_6), none]) rfl ?_
  refine s_iload E dX5_prepare_22 rfl ?_
  refine s_aload_n E dX5_prepare_24 rfl rfl ?_
  refine s_gI E fg_X5_33 rfl rfl (jv_lt hj_7 (by decide)) dX5_prepare_25 ?_
  refine z_nm (P := fun z => z.toInt = (v22.2.2.1 81 3).toInt ∧ 0 ≤ z.toInt ∧ z.toInt ≤ 6) ⟨rfl, (rg_81_3 hj_7)⟩ (fun z_8 hz_8 => ?_)
  refine z_icmp_ge (tgt := 50) (u := q22_4_6.toInt) (v := z_8.toInt) E dX5_prepare_28 (by decide) rfl rfl (fun h_9 => ?_) (fun h_9 => ?_)
  ·
    refine s_iconst (v := 0) E dX5_prepare_50 (by decide) ?_
    refine s_istore (L2 := [some (AR 81), some (AR 2), some (AI x1), some (AI x2), some (AI 0), none]) E dX5_prepare_51 (by decide) rfl ?_
    refine z_loop (St := Int32) (Pi := fun q53_4_9 v53 => (0 ≤ q53_4_9.toInt ∧ q53_4_9.toInt ≤ 6) ∧ Jv w v53) (Lf := fun q53_4_9 => [some (AR 81), some (AR 2), some (AI x1), some (AI x2), some (AI q53_4_9), none]) (fun q53_4_9 _ => (7 - q53_4_9.toInt).toNat) 0 ⟨⟨by decide, by decide⟩, hj_7⟩ ?_
    rintro q53_4_9 v53 ⟨hq53_4, hj_10⟩ ih53
    refine s_loc (L2 := [some (AR 81), some (AR 2), some (AI x1), some (AI x2), some (AI q53_4_9), none]) rfl ?_
    refine s_iload E dX5_prepare_53 rfl ?_
    refine s_aload_n E dX5_prepare_55 rfl rfl ?_
    refine s_gI E fg_X5_33 rfl rfl (jv_lt hj_10 (by decide)) dX5_prepare_56 ?_
    refine z_nm (P := fun z => z.toInt = (v53.2.2.1 81 3).toInt ∧ 0 ≤ z.toInt ∧ z.toInt ≤ 6) ⟨rfl, (rg_81_3 hj_10)⟩ (fun z_11 hz_11 => ?_)
    refine z_icmp_ge (tgt := 133) (u := q53_4_9.toInt) (v := z_11.toInt) E dX5_prepare_59 (by decide) rfl rfl (fun h_12 => ?_) (fun h_12 => ?_)
    ·
      exact r_void E dX5_prepare_133 hj_10
    ·
      refine s_aload_n E dX5_prepare_62 rfl rfl ?_
      refine s_gR (r := 82) E fg_X5_9 rfl rfl (jv_lt hj_10 (by decide)) (jv_r hj_10 (by decide +kernel)) dX5_prepare_63 ?_
      refine s_iload E dX5_prepare_66 rfl ?_
      refine s_iconst (v := 0) E dX5_prepare_68 (by decide) ?_
      refine s_iast E rfl (jv_lt hj_10 (by decide)) (z_in (u := q53_4_9.toInt) rfl (by omega) (by omega)) dX5_prepare_69 ?_
      refine s_gen (P := fun v => Jv w v ∧ (v.2.2.1 81 3).toInt = (v53.2.2.1 81 3).toInt) ⟨(jv_a_82 hj_10 (by decide) (by decide)), rfl⟩ (fun v_13 hj_14 => ?_)
      obtain ⟨hj_14, hk_15k0⟩ := hj_14
      refine s_iconst (v := 0) E dX5_prepare_70 (by decide) ?_
      refine s_istore (L2 := [some (AR 81), some (AR 2), some (AI x1), some (AI x2), some (AI q53_4_9), some (AI 0)]) E dX5_prepare_71 (by decide) rfl ?_
      refine z_loop (St := Int32) (Pi := fun q73_5_15 v73 => (0 ≤ q73_5_15.toInt ∧ q73_5_15.toInt ≤ 6) ∧ (1 ≤ (v73.2.2.1 81 3).toInt ∧ (v73.2.2.1 81 3).toInt ≤ 6) ∧ Jv w v73) (Lf := fun q73_5_15 => [some (AR 81), some (AR 2), some (AI x1), some (AI x2), some (AI q53_4_9), some (AI q73_5_15)]) (fun q73_5_15 _ => (7 - q73_5_15.toInt).toNat) 0 ⟨⟨by decide, by decide⟩, ⟨by omega, by omega⟩, hj_14⟩ ?_
      rintro q73_5_15 v73 ⟨hq73_5, ha73_0, hj_16⟩ ih73
      refine s_loc (L2 := [some (AR 81), some (AR 2), some (AI x1), some (AI x2), some (AI q53_4_9), some (AI q73_5_15)]) rfl ?_
      refine s_iload E dX5_prepare_73 rfl ?_
      refine s_aload_n E dX5_prepare_75 rfl rfl ?_
      refine s_gI E fg_X5_33 rfl rfl (jv_lt hj_16 (by decide)) dX5_prepare_76 ?_
      refine z_nm (P := fun z => z.toInt = (v73.2.2.1 81 3).toInt ∧ 0 ≤ z.toInt ∧ z.toInt ≤ 6) ⟨rfl, (rg_81_3 hj_16)⟩ (fun z_17 hz_17 => ?_)
      refine z_icmp_ge (tgt := 127) (u := q73_5_15.toInt) (v := z_17.toInt) E dX5_prepare_79 (by decide) rfl rfl (fun h_18 => ?_) (fun h_18 => ?_)
      ·
        refine z_iinc (u := q53_4_9.toInt) (L2 := fun z_19 => [some (AR 81), some (AR 2), some (AI x1), some (AI x2), some (AI z_19), some (AI q73_5_15)]) E dX5_prepare_127 rfl rfl (by decide) (fun _ => rfl) (by decide) (by omega) (by omega) (fun z_19 hz_19 => ?_)
        refine s_goto (tgt := 53) E dX5_prepare_130 (by decide) ?_
        refine s_drop (i := 5) (L2 := [some (AR 81), some (AR 2), some (AI x1), some (AI x2), some (AI z_19), none]) rfl ?_
        exact ih53 z_19 v73 ⟨⟨by have hb_ := z32 z_19; omega, by have hb_ := z32 z_19; omega⟩, hj_16⟩ (by first | omega | decide | (dsimp only; omega) | (dsimp only; decide))
      ·
        refine s_iload E dX5_prepare_82 rfl ?_
        refine s_iload_n E dX5_prepare_84 rfl rfl ?_
        refine z_icmp_eq (tgt := 121) (u := q53_4_9.toInt) (v := x2.toInt) E dX5_prepare_85 (by decide) rfl rfl (fun h_20 => ?_) (fun h_20 => ?_)
        ·
          refine z_iinc (u := q73_5_15.toInt) (L2 := fun z_21 => [some (AR 81), some (AR 2), some (AI x1), some (AI x2), some (AI q53_4_9), some (AI z_21)]) E dX5_prepare_121 rfl rfl (by decide) (fun _ => rfl) (by decide) (by omega) (by omega) (fun z_21 hz_21 => ?_)
          refine s_goto (tgt := 73) E dX5_prepare_124 (by decide) ?_
          exact ih73 z_21 v73 ⟨⟨by have hb_ := z32 z_21; omega, by have hb_ := z32 z_21; omega⟩, ⟨by omega, by omega⟩, hj_16⟩ (by first | omega | decide | (dsimp only; omega) | (dsimp only; decide))
        ·
          refine s_iload E dX5_prepare_88 rfl ?_
          refine s_iload_n E dX5_prepare_90 rfl rfl ?_
          refine z_icmp_eq (tgt := 121) (u := q73_5_15.toInt) (v := x2.toInt) E dX5_prepare_91 (by decide) rfl rfl (fun h_22 => ?_) (fun h_22 => ?_)
          ·
            refine z_iinc (u := q73_5_15.toInt) (L2 := fun z_23 => [some (AR 81), some (AR 2), some (AI x1), some (AI x2), some (AI q53_4_9), some (AI z_23)]) E dX5_prepare_121 rfl rfl (by decide) (fun _ => rfl) (by decide) (by omega) (by omega) (fun z_23 hz_23 => ?_)
            refine s_goto (tgt := 73) E dX5_prepare_124 (by decide) ?_
            exact ih73 z_23 v73 ⟨⟨by have hb_ := z32 z_23; omega, by have hb_ := z32 z_23; omega⟩, ⟨by omega, by omega⟩, hj_16⟩ (by first | omega | decide | (dsimp only; omega) | (dsimp only; decide))
          ·
            refine s_aload_n E dX5_prepare_94 rfl rfl ?_
            refine s_aload_n E dX5_prepare_95 rfl rfl ?_
            refine s_iload_n E dX5_prepare_96 rfl rfl ?_
            refine s_iload E dX5_prepare_97 rfl ?_
            refine s_iload E dX5_prepare_99 rfl ?_
            refine s_vI (As := [AR 2, AI x1, AI q53_4_9, AI q73_5_15]) (S := []) E (Z_X5_mayGive_81_r2 l D aC b v73 x1 q53_4_9 q73_5_15 hj_16.1 ⟨by have hb_ := z32 q53_4_9; omega, by have hb_ := z32 q53_4_9; omega⟩ ⟨by have hb_ := z32 q73_5_15; omega, by have hb_ := z32 q73_5_15; omega⟩) cv_X5_42 rfl rfl rfl (jv_lt hj_16 (by decide)) (Nat.le_of_ble_eq_true rfl) (Nat.le_of_ble_eq_true rfl) ⟨(Nat.le_of_ble_eq_true rfl), (Nat.le_of_ble_eq_true rfl)⟩ (Nat.le_of_ble_eq_true rfl) dX5_prepare_101 (fun z_26 u_24 hp_25 => ?_)
            obtain ⟨hz_26, hp_25⟩ := hp_25
            subst hp_25
            refine z_if_eq (tgt := 121) (u := z_26.toInt) E dX5_prepare_104 (by decide) rfl (fun h_28 => ?_) (fun h_28 => ?_)
            ·
              refine z_iinc (u := q73_5_15.toInt) (L2 := fun z_29 => [some (AR 81), some (AR 2), some (AI x1), some (AI x2), some (AI q53_4_9), some (AI z_29)]) E dX5_prepare_121 rfl rfl (by decide) (fun _ => rfl) (by decide) (by omega) (by omega) (fun z_29 hz_29 => ?_)
              refine s_goto (tgt := 73) E dX5_prepare_124 (by decide) ?_
              exact ih73 z_29 v73 ⟨⟨by have hb_ := z32 z_29; omega, by have hb_ := z32 z_29; omega⟩, ⟨by omega, by omega⟩, hj_16⟩ (by first | omega | decide | (dsimp only; omega) | (dsimp only; decide))
            ·
              refine s_aload_n E dX5_prepare_107 rfl rfl ?_
              refine s_gR (r := 82) E fg_X5_9 rfl rfl (jv_lt hj_16 (by decide)) (jv_r hj_16 (by decide +kernel)) dX5_prepare_108 ?_
              refine s_iload E dX5_prepare_111 rfl ?_
              refine s_dup2 E dX5_prepare_113 ?_
              refine s_iald E rfl (jv_lt hj_16 (by decide)) (z_in (u := q53_4_9.toInt) rfl (by omega) (by omega)) dX5_prepare_114 ?_
              refine z_nm (P := fun z => (-2147483648) ≤ z.toInt ∧ z.toInt ≤ 2147483647) (z32 _) (fun z_30 hz_30 => ?_)
              refine s_iconst (v := 1) E dX5_prepare_115 (by decide) ?_
              refine s_iload E dX5_prepare_116 rfl ?_
              refine z_shl1 5 (u := q73_5_15.toInt) (B := 32) E dX5_prepare_118 rfl (by omega) (by omega) (by decide) (by decide) (fun z_31 hz_31 => ?_)
              refine s_ior E dX5_prepare_119 ?_
              refine z_nm (P := fun z => (-2147483648) ≤ z.toInt ∧ z.toInt ≤ 2147483647) (z32 _) (fun z_32 hz_32 => ?_)
              refine s_iast E rfl (jv_lt hj_16 (by decide)) (z_in (u := q53_4_9.toInt) rfl (by omega) (by omega)) dX5_prepare_120 ?_
              refine s_gen (P := fun v => Jv w v ∧ (v.2.2.1 81 3).toInt = (v73.2.2.1 81 3).toInt) ⟨(jv_a_82 hj_16 (by have hb_ := z32 z_32; omega) (by have hb_ := z32 z_32; omega)), rfl⟩ (fun v_33 hj_34 => ?_)
              obtain ⟨hj_34, hk_35k0⟩ := hj_34
              refine z_iinc (u := q73_5_15.toInt) (L2 := fun z_36 => [some (AR 81), some (AR 2), some (AI x1), some (AI x2), some (AI q53_4_9), some (AI z_36)]) E dX5_prepare_121 rfl rfl (by decide) (fun _ => rfl) (by decide) (by omega) (by omega) (fun z_36 hz_36 => ?_)
              refine s_goto (tgt := 73) E dX5_prepare_124 (by decide) ?_
              exact ih73 z_36 v_33 ⟨⟨by have hb_ := z32 z_36; omega, by have hb_ := z32 z_36; omega⟩, ⟨by omega, by omega⟩, hj_34⟩ (by first | omega | decide | (dsimp only; omega) | (dsimp only; decide))
  ·
    refine s_aload_n E dX5_prepare_31 rfl rfl ?_
    refine s_gR (r := 83) E fg_X5_15 rfl rfl (jv_lt hj_7 (by decide)) (jv_r hj_7 (by decide +kernel)) dX5_prepare_32 ?_
    refine s_iload E dX5_prepare_35 rfl ?_
    refine s_aload_n E dX5_prepare_37 rfl rfl ?_
    refine s_iload E dX5_prepare_38 rfl ?_
    refine s_vI (As := [AI q22_4_6]) (S := [AI q22_4_6, AR 83]) E (Z_X0_seatsUnder_2 l D aC b v22 q22_4_6 hj_7.1 ) cv_X5_39 rfl rfl rfl (jv_lt hj_7 (by decide)) (Nat.le_of_ble_eq_true rfl) (Nat.le_of_ble_eq_true rfl) ⟨(Nat.le_of_ble_eq_true rfl), (Nat.le_of_ble_eq_true rfl)⟩ (Nat.le_of_ble_eq_true rfl) dX5_prepare_40 (fun z_39 u_37 hp_38 => ?_)
    obtain ⟨hz_39, hp_38⟩ := hp_38
    subst hp_38
    refine s_iast E rfl (jv_lt hj_7 (by decide)) (z_in (u := q22_4_6.toInt) rfl (by omega) (by omega)) dX5_prepare_43 ?_
    refine s_gen (P := fun v => Jv w v ∧ (v.2.2.1 81 3).toInt = (v22.2.2.1 81 3).toInt) ⟨(jv_a_83 hj_7 (by have hb_ := z32 z_39; omega) (by have hb_ := z32 z_39; omega)), rfl⟩ (fun v_41 hj_42 => ?_)
    obtain ⟨hj_42, hk_43k0⟩ := hj_42
    refine z_iinc (u := q22_4_6.toInt) (L2 := fun z_44 => [some (AR 81), some (AR 2), some (AI x1), some (AI x2), some (AI z_44), none]) E dX5_prepare_44 rfl rfl (by decide) (fun _ => rfl) (by decide) (by omega) (by omega) (fun z_44 hz_44 => ?_)
    refine s_goto (tgt := 22) E dX5_prepare_47 (by decide) ?_
    exact ih22 z_44 v_41 ⟨⟨by have hb_ := z32 z_44; omega, by have hb_ := z32 z_44; omega⟩, hj_42⟩ (by first | omega | decide | (dsimp only; omega) | (dsimp only; decide))
set_option maxRecDepth 20000 in
set_option maxHeartbeats 2000000 in
theorem Z_X9_passAsTold_0 (l : Launch) (D : va_G) (aC : Nat → ClassId) (b : Nat) (w : XW)  (hI : Iv w)  : CnV l D aC b M_X9_passAsTold 4 93 0 0 [AR 0] w (fun u => Jv w u) := by
  refine cn_V (own := RX9) (nm := "passAsTold") (L0 := [some (AR 0)]) (by decide +kernel) rfl rfl (Nat.le_of_ble_eq_true rfl) rfl ?_
  intro p e s m args below meth c E hin
  have hJ : Jv w w := jv_rfl hI
  refine s_aload_n E dX9_passAsTold_0 rfl rfl ?_
  refine s_gR (r := 81) E fg_X9_64 rfl rfl (jv_lt hJ (by decide)) (jv_r hJ (by decide +kernel)) dX9_passAsTold_1 ?_
  refine s_aload_n E dX9_passAsTold_4 rfl rfl ?_
  refine s_gR (r := 2) E fg_X9_20 rfl rfl (jv_lt hJ (by decide)) (jv_r hJ (by decide +kernel)) dX9_passAsTold_5 ?_
  refine s_aload_n E dX9_passAsTold_8 rfl rfl ?_
  refine s_gR (r := 2) E fg_X9_20 rfl rfl (jv_lt hJ (by decide)) (jv_r hJ (by decide +kernel)) dX9_passAsTold_9 ?_
  refine s_gI E fg_X9_214 rfl rfl (jv_lt hJ (by decide)) dX9_passAsTold_12 ?_
  refine z_nm (P := fun z => z.toInt = (w.2.2.1 2 3).toInt ∧ (-2147483648) ≤ z.toInt ∧ z.toInt ≤ 2147483647) ⟨rfl, z32 _⟩ (fun z_1 hz_1 => ?_)
  refine s_iconst (v := (-1)) E dX9_passAsTold_15 (by decide) ?_
  refine s_vV (As := [AR 2, AI z_1, AI (-1)]) (S := []) E (Z_X5_prepare_81_r2 l D aC b w z_1 ((-1)) hJ.1 ) cv_X9_217 rfl rfl rfl (jv_lt hJ (by decide)) (Nat.le_of_ble_eq_true rfl) (Nat.le_of_ble_eq_true rfl) ⟨(Nat.le_of_ble_eq_true rfl), (Nat.le_of_ble_eq_true rfl)⟩ (Nat.le_of_ble_eq_true rfl) dX9_passAsTold_16 (fun u_2 hp_3 => ?_)
  have hj_4 := jv_trans hJ hp_3
  exact r_void E dX9_passAsTold_19 hj_4
set_option maxRecDepth 20000 in
set_option maxHeartbeats 2000000 in
theorem Z_X5_passed_81_r69 (l : Launch) (D : va_G) (aC : Nat → ClassId) (b : Nat) (w : XW) (x1 : Int32) (x2 : Int32) (hI : Iv w)  : CnI l D aC b M_X5_passed 2 44 0 0 [AR 81, AR 69, AI x1, AI x2] w (fun r u => ((-2147483648) ≤ r.toInt ∧ r.toInt ≤ 2147483647) ∧ w = u) := by
  refine cn_I (own := RX5) (nm := "passed") (L0 := [some (AR 81), some (AR 69), some (AI x1), some (AI x2), none, none]) (by decide +kernel) rfl rfl (Nat.le_of_ble_eq_true rfl) rfl ?_
  intro p e s m args below meth c E hin
  have hJ : Jv w w := jv_rfl hI
  have hb_x1 := z32 x1
  have hb_x2 := z32 x2
  refine s_iload_n E dX5_passed_0 rfl rfl ?_
  refine s_istore (L2 := [some (AR 81), some (AR 69), some (AI x1), some (AI x2), some (AI x2), none]) E dX5_passed_1 (by decide) rfl ?_
  refine s_iconst (v := 0) E dX5_passed_3 (by decide) ?_
  refine s_istore (L2 := [some (AR 81), some (AR 69), some (AI x1), some (AI x2), some (AI x2), some (AI 0)]) E dX5_passed_4 (by decide) rfl ?_
  refine z_loop (St := Int32 × Int32) (Pi := fun ⟨q6_4_0, q6_5_0⟩ v6 => (0 ≤ q6_5_0.toInt ∧ q6_5_0.toInt ≤ 6) ∧ w = v6) (Lf := fun ⟨q6_4_0, q6_5_0⟩ => [some (AR 81), some (AR 69), some (AI x1), some (AI x2), some (AI q6_4_0), some (AI q6_5_0)]) (fun ⟨q6_4_0, q6_5_0⟩ _ => (7 - q6_5_0.toInt).toNat) ⟨x2, 0⟩ ⟨⟨by decide, by decide⟩, rfl⟩ ?_
  rintro ⟨q6_4_0, q6_5_0⟩ v6 ⟨hq6_5, hv_⟩ ih6
  subst hv_
  have hbq6_4 := z32 q6_4_0
  refine s_loc (L2 := [some (AR 81), some (AR 69), some (AI x1), some (AI x2), some (AI q6_4_0), some (AI q6_5_0)]) rfl ?_
  refine s_iload E dX5_passed_6 rfl ?_
  refine s_aload_n E dX5_passed_8 rfl rfl ?_
  refine s_gI E fg_X5_33 rfl rfl (jv_lt hJ (by decide)) dX5_passed_9 ?_
  refine z_nm (P := fun z => z.toInt = (w.2.2.1 81 3).toInt ∧ 0 ≤ z.toInt ∧ z.toInt ≤ 6) ⟨rfl, (rg_81_3 hJ)⟩ (fun z_2 hz_2 => ?_)
  refine z_icmp_ge (tgt := 50) (u := q6_5_0.toInt) (v := z_2.toInt) E dX5_passed_12 (by decide) rfl rfl (fun h_3 => ?_) (fun h_3 => ?_)
  ·
    refine s_iload E dX5_passed_50 rfl ?_
    exact r_int E dX5_passed_52 ⟨⟨by have hb_ := z32 q6_4_0; omega, by have hb_ := z32 q6_4_0; omega⟩, rfl⟩
  ·
    refine s_iload_n E dX5_passed_15 rfl rfl ?_
    refine s_iload E dX5_passed_16 rfl ?_
    refine s_sI (As := [AI x2, AI q6_5_0]) (S := []) E (Z_X9_hasBit l D aC b w x2 q6_5_0 hJ.1 ) cs_X5_50 rfl rfl (Nat.le_of_ble_eq_true rfl) (Nat.le_of_ble_eq_true rfl) ⟨(Nat.le_of_ble_eq_true rfl), (Nat.le_of_ble_eq_true rfl)⟩ (Nat.le_of_ble_eq_true rfl) dX5_passed_18 (fun z_6 u_4 hp_5 => ?_)
    obtain ⟨hz_6, hp_5⟩ := hp_5
    subst hp_5
    refine z_if_eq (tgt := 44) (u := z_6.toInt) E dX5_passed_21 (by decide) rfl (fun h_8 => ?_) (fun h_8 => ?_)
    ·
      refine z_iinc (u := q6_5_0.toInt) (L2 := fun z_9 => [some (AR 81), some (AR 69), some (AI x1), some (AI x2), some (AI q6_4_0), some (AI z_9)]) E dX5_passed_44 rfl rfl (by decide) (fun _ => rfl) (by decide) (by omega) (by omega) (fun z_9 hz_9 => ?_)
      refine s_goto (tgt := 6) E dX5_passed_47 (by decide) ?_
      exact ih6 ⟨q6_4_0, z_9⟩ w ⟨⟨by have hb_ := z32 z_9; omega, by have hb_ := z32 z_9; omega⟩, rfl⟩ (by first | omega | decide | (dsimp only; omega) | (dsimp only; decide))
    ·
      refine s_iload E dX5_passed_24 rfl ?_
      refine s_aload_n E dX5_passed_26 rfl rfl ?_
      refine s_gR (r := 82) E fg_X5_9 rfl rfl (jv_lt hJ (by decide)) (jv_r hJ (by decide +kernel)) dX5_passed_27 ?_
      refine s_iload E dX5_passed_30 rfl ?_
      refine s_iald E rfl (jv_lt hJ (by decide)) (z_in (u := q6_5_0.toInt) rfl (by omega) (by omega)) dX5_passed_32 ?_
      refine z_nm (P := fun z => (-2147483648) ≤ z.toInt ∧ z.toInt ≤ 2147483647) (z32 _) (fun z_10 hz_10 => ?_)
      refine s_aload_n E dX5_passed_33 rfl rfl ?_
      refine s_iload E dX5_passed_34 rfl ?_
      refine s_iload_n E dX5_passed_36 rfl rfl ?_
      refine s_vI (As := [AI q6_5_0, AI x1]) (S := [AI z_10, AI q6_4_0]) E (Z_X2_companyOf_69 l D aC b w q6_5_0 x1 hJ.1 ) cv_X5_54 rfl rfl rfl (jv_lt hJ (by decide)) (Nat.le_of_ble_eq_true rfl) (Nat.le_of_ble_eq_true rfl) ⟨(Nat.le_of_ble_eq_true rfl), (Nat.le_of_ble_eq_true rfl)⟩ (Nat.le_of_ble_eq_true rfl) dX5_passed_37 (fun z_13 u_11 hp_12 => ?_)
      obtain ⟨hz_13, hp_12⟩ := hp_12
      subst hp_12
      refine s_iand E dX5_passed_40 ?_
      refine z_nm (P := fun z => (-2147483648) ≤ z.toInt ∧ z.toInt ≤ 2147483647) (z32 _) (fun z_15 hz_15 => ?_)
      refine s_ior E dX5_passed_41 ?_
      refine z_nm (P := fun z => (-2147483648) ≤ z.toInt ∧ z.toInt ≤ 2147483647) (z32 _) (fun z_16 hz_16 => ?_)
      refine s_istore (L2 := [some (AR 81), some (AR 69), some (AI x1), some (AI x2), some (AI z_16), some (AI q6_5_0)]) E dX5_passed_42 (by decide) rfl ?_
      refine z_iinc (u := q6_5_0.toInt) (L2 := fun z_17 => [some (AR 81), some (AR 69), some (AI x1), some (AI x2), some (AI z_16), some (AI z_17)]) E dX5_passed_44 rfl rfl (by decide) (fun _ => rfl) (by decide) (by omega) (by omega) (fun z_17 hz_17 => ?_)
      refine s_goto (tgt := 6) E dX5_passed_47 (by decide) ?_
      exact ih6 ⟨z_16, z_17⟩ w ⟨⟨by have hb_ := z32 z_17; omega, by have hb_ := z32 z_17; omega⟩, rfl⟩ (by first | omega | decide | (dsimp only; omega) | (dsimp only; decide))
set_option maxRecDepth 20000 in
set_option maxHeartbeats 2000000 in
theorem Z_X5_follow_81_r69 (l : Launch) (D : va_G) (aC : Nat → ClassId) (b : Nat) (w : XW) (x1 : Int32) (x2 : Int32) (hI : Iv w)  : CnV l D aC b M_X5_follow 3 69 0 0 [AR 81, AR 69, AI x1, AI x2] w (fun u => Jv w u) := by
  refine cn_V (own := RX5) (nm := "follow") (L0 := [some (AR 81), some (AR 69), some (AI x1), some (AI x2), none, none]) (by decide +kernel) rfl rfl (Nat.le_of_ble_eq_true rfl) rfl ?_
  intro p e s m args below meth c E hin
  have hJ : Jv w w := jv_rfl hI
  have hb_x1 := z32 x1
  have hb_x2 := z32 x2
  refine s_aload_n E dX5_follow_0 rfl rfl ?_
  refine s_iload_n E dX5_follow_1 rfl rfl ?_
  refine s_pI E fp_X5_59 (Or.inl rfl) rfl (jv_lt hJ (by decide)) dX5_follow_2 ?_
  refine s_gen (P := Jv w) (jv_f_81_5 hJ (by have hb_ := z32 x1; omega) (by have hb_ := z32 x1; omega)) (fun v_1 hj_2 => ?_)
  refine s_iconst (v := 1) E dX5_follow_5 (by decide) ?_
  refine s_iload_n E dX5_follow_6 rfl rfl ?_
  refine s_ishl E dX5_follow_7 ?_
  refine z_nm (P := fun z => (-2147483648) ≤ z.toInt ∧ z.toInt ≤ 2147483647) (z32 _) (fun z_3 hz_3 => ?_)
  refine s_istore (L2 := [some (AR 81), some (AR 69), some (AI x1), some (AI x2), some (AI z_3), none]) E dX5_follow_8 (by decide) rfl ?_
  refine s_iconst (v := 0) E dX5_follow_10 (by decide) ?_
  refine s_istore (L2 := [some (AR 81), some (AR 69), some (AI x1), some (AI x2), some (AI z_3), some (AI 0)]) E dX5_follow_11 (by decide) rfl ?_
  refine z_loop (St := Int32 × Int32) (Pi := fun ⟨q13_4_3, q13_5_3⟩ v13 => (0 ≤ q13_5_3.toInt ∧ q13_5_3.toInt ≤ 15) ∧ Jv w v13) (Lf := fun ⟨q13_4_3, q13_5_3⟩ => [some (AR 81), some (AR 69), some (AI x1), some (AI x2), some (AI q13_4_3), some (AI q13_5_3)]) (fun ⟨q13_4_3, q13_5_3⟩ _ => (16 - q13_5_3.toInt).toNat) ⟨z_3, 0⟩ ⟨⟨by decide, by decide⟩, hj_2⟩ ?_
  rintro ⟨q13_4_3, q13_5_3⟩ v13 ⟨hq13_5, hj_4⟩ ih13
  have hbq13_4 := z32 q13_4_3
  refine s_loc (L2 := [some (AR 81), some (AR 69), some (AI x1), some (AI x2), some (AI q13_4_3), some (AI q13_5_3)]) rfl ?_
  refine s_iload E dX5_follow_13 rfl ?_
  refine s_aload_n E dX5_follow_15 rfl rfl ?_
  refine s_gI E fg_X5_38 rfl rfl (jv_lt hj_4 (by decide)) dX5_follow_16 ?_
  refine z_nm (P := fun z => z.toInt = (v13.2.2.1 81 4).toInt ∧ 0 ≤ z.toInt ∧ z.toInt ≤ 14) ⟨rfl, (rg_81_4 hj_4)⟩ (fun z_5 hz_5 => ?_)
  refine z_icmp_gt (tgt := 57) (u := q13_5_3.toInt) (v := z_5.toInt) E dX5_follow_19 (by decide) rfl rfl (fun h_6 => ?_) (fun h_6 => ?_)
  ·
    exact r_void E dX5_follow_57 hj_4
  ·
    refine s_iload_n E dX5_follow_22 rfl rfl ?_
    refine s_iload E dX5_follow_23 rfl ?_
    refine s_sI (As := [AI x2, AI q13_5_3]) (S := []) E (Z_X9_hasBit l D aC b v13 x2 q13_5_3 hj_4.1 ) cs_X5_50 rfl rfl (Nat.le_of_ble_eq_true rfl) (Nat.le_of_ble_eq_true rfl) ⟨(Nat.le_of_ble_eq_true rfl), (Nat.le_of_ble_eq_true rfl)⟩ (Nat.le_of_ble_eq_true rfl) dX5_follow_25 (fun z_9 u_7 hp_8 => ?_)
    obtain ⟨hz_9, hp_8⟩ := hp_8
    subst hp_8
    refine z_if_ne (tgt := 42) (u := z_9.toInt) E dX5_follow_28 (by decide) rfl (fun h_11 => ?_) (fun h_11 => ?_)
    ·
      refine s_aload_n E dX5_follow_42 rfl rfl ?_
      refine s_gR (r := 84) E fg_X5_18 rfl rfl (jv_lt hj_4 (by decide)) (jv_r hj_4 (by decide +kernel)) dX5_follow_43 ?_
      refine s_iload E dX5_follow_46 rfl ?_
      refine s_iload E dX5_follow_48 rfl ?_
      refine s_iast E rfl (jv_lt hj_4 (by decide)) (z_in (u := q13_5_3.toInt) rfl (by omega) (by omega)) dX5_follow_50 ?_
      refine s_gen (P := Jv w) (jv_a_84 hj_4 (by have hb_ := z32 q13_4_3; omega) (by have hb_ := z32 q13_4_3; omega)) (fun v_12 hj_13 => ?_)
      refine z_iinc (u := q13_5_3.toInt) (L2 := fun z_14 => [some (AR 81), some (AR 69), some (AI x1), some (AI x2), some (AI q13_4_3), some (AI z_14)]) E dX5_follow_51 rfl rfl (by decide) (fun _ => rfl) (by decide) (by omega) (by omega) (fun z_14 hz_14 => ?_)
      refine s_goto (tgt := 13) E dX5_follow_54 (by decide) ?_
      exact ih13 ⟨q13_4_3, z_14⟩ v_12 ⟨⟨by have hb_ := z32 z_14; omega, by have hb_ := z32 z_14; omega⟩, hj_13⟩ (by first | omega | decide | (dsimp only; omega) | (dsimp only; decide))
    ·
      refine s_aload_n E dX5_follow_31 rfl rfl ?_
      refine s_aload_n E dX5_follow_32 rfl rfl ?_
      refine s_iload E dX5_follow_33 rfl ?_
      refine s_iload E dX5_follow_35 rfl ?_
      refine s_vI (As := [AR 69, AI q13_5_3, AI q13_4_3]) (S := []) E (Z_X5_passed_81_r69 l D aC b v13 q13_5_3 q13_4_3 hj_4.1 ) cv_X5_62 rfl rfl rfl (jv_lt hj_4 (by decide)) (Nat.le_of_ble_eq_true rfl) (Nat.le_of_ble_eq_true rfl) ⟨(Nat.le_of_ble_eq_true rfl), (Nat.le_of_ble_eq_true rfl)⟩ (Nat.le_of_ble_eq_true rfl) dX5_follow_37 (fun z_17 u_15 hp_16 => ?_)
      obtain ⟨hz_17, hp_16⟩ := hp_16
      subst hp_16
      refine s_istore (L2 := [some (AR 81), some (AR 69), some (AI x1), some (AI x2), some (AI z_17), some (AI q13_5_3)]) E dX5_follow_40 (by decide) rfl ?_
      refine s_aload_n E dX5_follow_42 rfl rfl ?_
      refine s_gR (r := 84) E fg_X5_18 rfl rfl (jv_lt hj_4 (by decide)) (jv_r hj_4 (by decide +kernel)) dX5_follow_43 ?_
      refine s_iload E dX5_follow_46 rfl ?_
      refine s_iload E dX5_follow_48 rfl ?_
      refine s_iast E rfl (jv_lt hj_4 (by decide)) (z_in (u := q13_5_3.toInt) rfl (by omega) (by omega)) dX5_follow_50 ?_
      refine s_gen (P := Jv w) (jv_a_84 hj_4 (by have hb_ := z32 z_17; omega) (by have hb_ := z32 z_17; omega)) (fun v_19 hj_20 => ?_)
      refine z_iinc (u := q13_5_3.toInt) (L2 := fun z_21 => [some (AR 81), some (AR 69), some (AI x1), some (AI x2), some (AI z_17), some (AI z_21)]) E dX5_follow_51 rfl rfl (by decide) (fun _ => rfl) (by decide) (by omega) (by omega) (fun z_21 hz_21 => ?_)
      refine s_goto (tgt := 13) E dX5_follow_54 (by decide) ?_
      exact ih13 ⟨z_17, z_21⟩ v_19 ⟨⟨by have hb_ := z32 z_21; omega, by have hb_ := z32 z_21; omega⟩, hj_20⟩ (by first | omega | decide | (dsimp only; omega) | (dsimp only; decide))
set_option maxRecDepth 20000 in
set_option maxHeartbeats 2000000 in
theorem Z_X5_behind_81 (l : Launch) (D : va_G) (aC : Nat → ClassId) (b : Nat) (w : XW) (x1 : Int32) (hI : Iv w)  : CnI l D aC b M_X5_behind 0 0 0 0 [AR 81, AI x1] w (fun r u => ((-2147483648) ≤ r.toInt ∧ r.toInt ≤ 2147483647 ∧ (r.toInt = 0 ∨ (0 ≤ x1.toInt ∧ x1.toInt ≤ 14))) ∧ w = u) := by
  refine cn_I (own := RX5) (nm := "behind") (L0 := [some (AR 81), some (AI x1)]) (by decide +kernel) rfl rfl (Nat.le_of_ble_eq_true rfl) rfl ?_
  intro p e s m args below meth c E hin
  have hJ : Jv w w := jv_rfl hI
  have hb_x1 := z32 x1
  refine s_iload_n E dX5_behind_0 rfl rfl ?_
  refine z_if_lt (tgt := 21) (u := x1.toInt) E dX5_behind_1 (by decide) rfl (fun h_1 => ?_) (fun h_1 => ?_)
  ·
    refine s_iconst (v := 0) E dX5_behind_21 (by decide) ?_
    exact r_int E dX5_behind_22 ⟨⟨by decide, by decide, by first | (left; decide) | (right; decide) | (right; have hb_ := z32 x1; omega)⟩, rfl⟩
  ·
    refine s_iload_n E dX5_behind_4 rfl rfl ?_
    refine s_aload_n E dX5_behind_5 rfl rfl ?_
    refine s_gI E fg_X5_38 rfl rfl (jv_lt hJ (by decide)) dX5_behind_6 ?_
    refine z_nm (P := fun z => z.toInt = (w.2.2.1 81 4).toInt ∧ 0 ≤ z.toInt ∧ z.toInt ≤ 14) ⟨rfl, (rg_81_4 hJ)⟩ (fun z_2 hz_2 => ?_)
    refine z_icmp_gt (tgt := 21) (u := x1.toInt) (v := z_2.toInt) E dX5_behind_9 (by decide) rfl rfl (fun h_3 => ?_) (fun h_3 => ?_)
    ·
      refine s_iconst (v := 0) E dX5_behind_21 (by decide) ?_
      exact r_int E dX5_behind_22 ⟨⟨by decide, by decide, by first | (left; decide) | (right; decide) | (right; have hb_ := z32 x1; omega)⟩, rfl⟩
    ·
      refine s_aload_n E dX5_behind_12 rfl rfl ?_
      refine s_gR (r := 84) E fg_X5_18 rfl rfl (jv_lt hJ (by decide)) (jv_r hJ (by decide +kernel)) dX5_behind_13 ?_
      refine s_iload_n E dX5_behind_16 rfl rfl ?_
      refine s_iald E rfl (jv_lt hJ (by decide)) (z_in (u := x1.toInt) rfl (by omega) (by omega)) dX5_behind_17 ?_
      refine z_nm (P := fun z => (-2147483648) ≤ z.toInt ∧ z.toInt ≤ 2147483647) (z32 _) (fun z_4 hz_4 => ?_)
      refine s_goto (tgt := 22) E dX5_behind_18 (by decide) ?_
      exact r_int E dX5_behind_22 ⟨⟨by have hb_ := z32 z_4; omega, by have hb_ := z32 z_4; omega, by first | (right; decide) | (have hb_ := z32 z_4; omega) | (have hb_ := z32 z_4; have hc_ := z32 x1; omega)⟩, rfl⟩
set_option maxRecDepth 20000 in
set_option maxHeartbeats 2000000 in
theorem Z_X9_inTheEnd_0_r69 (l : Launch) (D : va_G) (aC : Nat → ClassId) (b : Nat) (w : XW) (x1 : Int32) (hI : Iv w)  : CnI l D aC b M_X9_inTheEnd 4 94 0 0 [AR 0, AR 69, AI x1] w (fun r u => ((-2147483648) ≤ r.toInt ∧ r.toInt ≤ 2147483647) ∧ Jv w u) := by
  refine cn_I (own := RX9) (nm := "inTheEnd") (L0 := [some (AR 0), some (AR 69), some (AI x1)]) (by decide +kernel) rfl rfl (Nat.le_of_ble_eq_true rfl) rfl ?_
  intro p e s m args below meth c E hin
  have hJ : Jv w w := jv_rfl hI
  have hb_x1 := z32 x1
  refine s_aload_n E dX9_inTheEnd_0 rfl rfl ?_
  refine s_gR (r := 81) E fg_X9_64 rfl rfl (jv_lt hJ (by decide)) (jv_r hJ (by decide +kernel)) dX9_inTheEnd_1 ?_
  refine s_aload_n E dX9_inTheEnd_4 rfl rfl ?_
  refine s_iload_n E dX9_inTheEnd_5 rfl rfl ?_
  refine s_iconst (v := 0) E dX9_inTheEnd_6 (by decide) ?_
  refine s_vV (As := [AR 69, AI x1, AI 0]) (S := []) E (Z_X5_follow_81_r69 l D aC b w x1 0 hJ.1 ) cv_X9_220 rfl rfl rfl (jv_lt hJ (by decide)) (Nat.le_of_ble_eq_true rfl) (Nat.le_of_ble_eq_true rfl) ⟨(Nat.le_of_ble_eq_true rfl), (Nat.le_of_ble_eq_true rfl)⟩ (Nat.le_of_ble_eq_true rfl) dX9_inTheEnd_7 (fun u_1 hp_2 => ?_)
  have hj_3 := jv_trans hJ hp_2
  refine s_aload_n E dX9_inTheEnd_10 rfl rfl ?_
  refine s_gR (r := 81) E fg_X9_64 rfl rfl (jv_lt hj_3 (by decide)) (jv_r hj_3 (by decide +kernel)) dX9_inTheEnd_11 ?_
  refine s_aload_n E dX9_inTheEnd_14 rfl rfl ?_
  refine s_gR (r := 2) E fg_X9_20 rfl rfl (jv_lt hj_3 (by decide)) (jv_r hj_3 (by decide +kernel)) dX9_inTheEnd_15 ?_
  refine s_gI E fg_X9_169 rfl rfl (jv_lt hj_3 (by decide)) dX9_inTheEnd_18 ?_
  refine z_nm (P := fun z => z.toInt = (u_1.2.2.1 2 2).toInt ∧ 0 ≤ z.toInt ∧ z.toInt ≤ 14) ⟨rfl, (rg_2_2 hj_3)⟩ (fun z_4 hz_4 => ?_)
  refine s_vI (As := [AI z_4]) (S := []) E (Z_X5_behind_81 l D aC b u_1 z_4 hj_3.1 ) cv_X9_224 rfl rfl rfl (jv_lt hj_3 (by decide)) (Nat.le_of_ble_eq_true rfl) (Nat.le_of_ble_eq_true rfl) ⟨(Nat.le_of_ble_eq_true rfl), (Nat.le_of_ble_eq_true rfl)⟩ (Nat.le_of_ble_eq_true rfl) dX9_inTheEnd_21 (fun z_7 u_5 hp_6 => ?_)
  obtain ⟨hz_7, hp_6⟩ := hp_6
  subst hp_6
  exact r_int E dX9_inTheEnd_24 ⟨⟨by have hb_ := z32 z_7; omega, by have hb_ := z32 z_7; omega⟩, hj_3⟩
set_option maxRecDepth 20000 in
set_option maxHeartbeats 2000000 in
theorem Z_X9_hears_0 (l : Launch) (D : va_G) (aC : Nat → ClassId) (b : Nat) (w : XW) (x1 : Int32) (hI : Iv w)  : CnI l D aC b M_X9_hears 5 116 0 0 [AR 0, AI x1] w (fun r u => ((-2147483648) ≤ r.toInt ∧ r.toInt ≤ 2147483647 ∧ (¬ r.toInt = 0 ∨ (0 ≤ x1.toInt ∧ x1.toInt ≤ 5)) ∧ (¬ r.toInt = 0 ∨ (1 ≤ (w.2.2.1 5 3).toInt ∧ (w.2.2.1 5 3).toInt ≤ 6))) ∧ Jv w u) := by
  refine cn_I (own := RX9) (nm := "hears") (L0 := [some (AR 0), some (AI x1), none, none]) (by decide +kernel) rfl rfl (Nat.le_of_ble_eq_true rfl) rfl ?_
  intro p e s m args below meth c E hin
  have hJ : Jv w w := jv_rfl hI
  have hb_x1 := z32 x1
  refine s_aload_n E dX9_hears_0 rfl rfl ?_
  refine s_gR (r := 2) E fg_X9_20 rfl rfl (jv_lt hJ (by decide)) (jv_r hJ (by decide +kernel)) dX9_hears_1 ?_
  refine s_iload_n E dX9_hears_4 rfl rfl ?_
  refine s_vI (As := [AI x1]) (S := []) E (Z_X0_hasLady_2 l D aC b w x1 hJ.1 ) cv_X9_139 rfl rfl rfl (jv_lt hJ (by decide)) (Nat.le_of_ble_eq_true rfl) (Nat.le_of_ble_eq_true rfl) ⟨(Nat.le_of_ble_eq_true rfl), (Nat.le_of_ble_eq_true rfl)⟩ (Nat.le_of_ble_eq_true rfl) dX9_hears_5 (fun z_3 u_1 hp_2 => ?_)
  obtain ⟨hz_3, hp_2⟩ := hp_2
  subst hp_2
  refine z_if_ne (tgt := 14) (u := z_3.toInt) E dX9_hears_8 (by decide) rfl (fun h_5 => ?_) (fun h_5 => ?_)
  ·
    refine s_aload_n E dX9_hears_14 rfl rfl ?_
    refine s_vV (As := []) (S := []) E (Z_X9_passAsTold_0 l D aC b w  hJ.1 ) cv_X9_227 rfl rfl rfl (jv_lt hJ (by decide)) (Nat.le_of_ble_eq_true rfl) (Nat.le_of_ble_eq_true rfl) ⟨(Nat.le_of_ble_eq_true rfl), (Nat.le_of_ble_eq_true rfl)⟩ (Nat.le_of_ble_eq_true rfl) dX9_hears_15 (fun u_6 hp_7 => ?_)
    have hj_8 := jv_trans hJ hp_7
    refine s_iconst (v := 0) E dX9_hears_18 (by decide) ?_
    refine s_istore_n (L2 := [some (AR 0), some (AI x1), some (AI 0), none]) E dX9_hears_19 rfl (by decide) rfl ?_
    refine s_iconst (v := 0) E dX9_hears_20 (by decide) ?_
    refine s_istore_n (L2 := [some (AR 0), some (AI x1), some (AI 0), some (AI 0)]) E dX9_hears_21 rfl (by decide) rfl ?_
    refine z_loop (St := Int32 × Int32) (Pi := fun ⟨q22_2_8, q22_3_8⟩ v22 => (0 ≤ q22_3_8.toInt ∧ q22_3_8.toInt ≤ 6) ∧ Jv w v22) (Lf := fun ⟨q22_2_8, q22_3_8⟩ => [some (AR 0), some (AI x1), some (AI q22_2_8), some (AI q22_3_8)]) (fun ⟨q22_2_8, q22_3_8⟩ _ => (7 - q22_3_8.toInt).toNat) ⟨0, 0⟩ ⟨⟨by decide, by decide⟩, hj_8⟩ ?_
    rintro ⟨q22_2_8, q22_3_8⟩ v22 ⟨hq22_3, hj_9⟩ ih22
    have hbq22_2 := z32 q22_2_8
    refine s_loc (L2 := [some (AR 0), some (AI x1), some (AI q22_2_8), some (AI q22_3_8)]) rfl ?_
    refine s_iload_n E dX9_hears_22 rfl rfl ?_
    refine s_aload_n E dX9_hears_23 rfl rfl ?_
    refine s_gR (r := 2) E fg_X9_20 rfl rfl (jv_lt hj_9 (by decide)) (jv_r hj_9 (by decide +kernel)) dX9_hears_24 ?_
    refine s_gR (r := 5) E fg_X9_133 rfl rfl (jv_lt hj_9 (by decide)) (jv_r hj_9 (by decide +kernel)) dX9_hears_27 ?_
    refine s_gI E fg_X9_200 rfl rfl (jv_lt hj_9 (by decide)) dX9_hears_30 ?_
    refine z_nm (P := fun z => z.toInt = (v22.2.2.1 5 3).toInt ∧ 0 ≤ z.toInt ∧ z.toInt ≤ 6) ⟨rfl, (rg_5_3 hj_9)⟩ (fun z_10 hz_10 => ?_)
    refine z_icmp_ge (tgt := 64) (u := q22_3_8.toInt) (v := z_10.toInt) E dX9_hears_33 (by decide) rfl rfl (fun h_11 => ?_) (fun h_11 => ?_)
    ·
      refine s_iload_n E dX9_hears_64 rfl rfl ?_
      exact r_int E dX9_hears_65 ⟨⟨by have hb_ := z32 q22_2_8; omega, by have hb_ := z32 q22_2_8; omega, by first | (right; decide) | (have hb_ := z32 q22_2_8; omega) | (have hb_ := z32 q22_2_8; have hc_ := z32 x1; omega), by first | (right; decide) | (have hb_ := z32 q22_2_8; omega) | (have hb_ := z32 q22_2_8; have hc_ := z32 (w.2.2.1 5 3); omega)⟩, hj_9⟩
    ·
      refine s_aload_n E dX9_hears_36 rfl rfl ?_
      refine s_aload_n E dX9_hears_37 rfl rfl ?_
      refine s_gR (r := 69) E fg_X9_54 rfl rfl (jv_lt hj_9 (by decide)) (jv_r hj_9 (by decide +kernel)) dX9_hears_38 ?_
      refine s_iload_n E dX9_hears_41 rfl rfl ?_
      refine s_vI (As := [AR 69, AI q22_3_8]) (S := []) E (Z_X9_inTheEnd_0_r69 l D aC b v22 q22_3_8 hj_9.1 ) cv_X9_230 rfl rfl rfl (jv_lt hj_9 (by decide)) (Nat.le_of_ble_eq_true rfl) (Nat.le_of_ble_eq_true rfl) ⟨(Nat.le_of_ble_eq_true rfl), (Nat.le_of_ble_eq_true rfl)⟩ (Nat.le_of_ble_eq_true rfl) dX9_hears_42 (fun z_14 u_12 hp_13 => ?_)
      obtain ⟨hz_14, hp_13⟩ := hp_13
      have hj_15 := jv_trans hj_9 hp_13
      refine s_iload_n E dX9_hears_45 rfl rfl ?_
      refine s_sI (As := [AI z_14, AI x1]) (S := []) E (Z_X9_hasBit l D aC b u_12 z_14 x1 hj_15.1 ) cs_X9_175 rfl rfl (Nat.le_of_ble_eq_true rfl) (Nat.le_of_ble_eq_true rfl) ⟨(Nat.le_of_ble_eq_true rfl), (Nat.le_of_ble_eq_true rfl)⟩ (Nat.le_of_ble_eq_true rfl) dX9_hears_46 (fun z_18 u_16 hp_17 => ?_)
      obtain ⟨hz_18, hp_17⟩ := hp_17
      subst hp_17
      refine z_if_eq (tgt := 58) (u := z_18.toInt) E dX9_hears_49 (by decide) rfl (fun h_20 => ?_) (fun h_20 => ?_)
      ·
        refine z_iinc (u := q22_3_8.toInt) (L2 := fun z_21 => [some (AR 0), some (AI x1), some (AI q22_2_8), some (AI z_21)]) E dX9_hears_58 rfl rfl (by decide) (fun _ => rfl) (by decide) (by omega) (by omega) (fun z_21 hz_21 => ?_)
        refine s_goto (tgt := 22) E dX9_hears_61 (by decide) ?_
        exact ih22 ⟨q22_2_8, z_21⟩ u_12 ⟨⟨by have hb_ := z32 z_21; omega, by have hb_ := z32 z_21; omega⟩, hj_15⟩ (by first | omega | decide | (dsimp only; omega) | (dsimp only; decide))
      ·
        refine s_iload_n E dX9_hears_52 rfl rfl ?_
        refine s_iconst (v := 1) E dX9_hears_53 (by decide) ?_
        refine s_iload_n E dX9_hears_54 rfl rfl ?_
        refine z_shl1 5 (u := q22_3_8.toInt) (B := 32) E dX9_hears_55 rfl (by omega) (by omega) (by decide) (by decide) (fun z_22 hz_22 => ?_)
        refine s_ior E dX9_hears_56 ?_
        refine z_nm (P := fun z => (-2147483648) ≤ z.toInt ∧ z.toInt ≤ 2147483647) (z32 _) (fun z_23 hz_23 => ?_)
        refine s_istore_n (L2 := [some (AR 0), some (AI x1), some (AI z_23), some (AI q22_3_8)]) E dX9_hears_57 rfl (by decide) rfl ?_
        refine z_iinc (u := q22_3_8.toInt) (L2 := fun z_24 => [some (AR 0), some (AI x1), some (AI z_23), some (AI z_24)]) E dX9_hears_58 rfl rfl (by decide) (fun _ => rfl) (by decide) (by omega) (by omega) (fun z_24 hz_24 => ?_)
        refine s_goto (tgt := 22) E dX9_hears_61 (by decide) ?_
        exact ih22 ⟨z_23, z_24⟩ u_12 ⟨⟨by have hb_ := z32 z_24; omega, by have hb_ := z32 z_24; omega⟩, hj_15⟩ (by first | omega | decide | (dsimp only; omega) | (dsimp only; decide))
  ·
    refine s_bipush (v := (-2)) E dX9_hears_11 (by decide) ?_
    exact r_int E dX9_hears_13 ⟨⟨by decide, by decide, by first | (left; decide) | (right; decide) | (right; have hb_ := z32 x1; omega), by first | (left; decide) | (right; decide) | (right; have hb_ := z32 (w.2.2.1 5 3); omega)⟩, hJ⟩
set_option maxRecDepth 20000 in
set_option maxHeartbeats 2000000 in
theorem Z_X5_gotAt_81 (l : Launch) (D : va_G) (aC : Nat → ClassId) (b : Nat) (w : XW) (x1 : Int32) (hI : Iv w)  : CnI l D aC b M_X5_gotAt 1 21 0 0 [AR 81, AI x1] w (fun r u => ((-1) ≤ r.toInt ∧ r.toInt ≤ 14 ∧ (¬ r.toInt = 0 ∨ (0 ≤ x1.toInt ∧ x1.toInt ≤ 31))) ∧ w = u) := by
  refine cn_I (own := RX5) (nm := "gotAt") (L0 := [some (AR 81), some (AI x1), none]) (by decide +kernel) rfl rfl (Nat.le_of_ble_eq_true rfl) rfl ?_
  intro p e s m args below meth c E hin
  have hJ : Jv w w := jv_rfl hI
  have hb_x1 := z32 x1
  refine s_iconst (v := 0) E dX5_gotAt_0 (by decide) ?_
  refine s_istore_n (L2 := [some (AR 81), some (AI x1), some (AI 0)]) E dX5_gotAt_1 rfl (by decide) rfl ?_
  refine z_loop (St := Int32) (Pi := fun q2_2_0 v2 => (0 ≤ q2_2_0.toInt ∧ q2_2_0.toInt ≤ 15) ∧ w = v2) (Lf := fun q2_2_0 => [some (AR 81), some (AI x1), some (AI q2_2_0)]) (fun q2_2_0 _ => (16 - q2_2_0.toInt).toNat) 0 ⟨⟨by decide, by decide⟩, rfl⟩ ?_
  rintro q2_2_0 v2 ⟨hq2_2, hv_⟩ ih2
  subst hv_
  refine s_loc (L2 := [some (AR 81), some (AI x1), some (AI q2_2_0)]) rfl ?_
  refine s_iload_n E dX5_gotAt_2 rfl rfl ?_
  refine s_aload_n E dX5_gotAt_3 rfl rfl ?_
  refine s_gI E fg_X5_38 rfl rfl (jv_lt hJ (by decide)) dX5_gotAt_4 ?_
  refine z_nm (P := fun z => z.toInt = (w.2.2.1 81 4).toInt ∧ 0 ≤ z.toInt ∧ z.toInt ≤ 14) ⟨rfl, (rg_81_4 hJ)⟩ (fun z_2 hz_2 => ?_)
  refine z_icmp_gt (tgt := 31) (u := q2_2_0.toInt) (v := z_2.toInt) E dX5_gotAt_7 (by decide) rfl rfl (fun h_3 => ?_) (fun h_3 => ?_)
  ·
    refine s_iconst (v := (-1)) E dX5_gotAt_31 (by decide) ?_
    exact r_int E dX5_gotAt_32 ⟨⟨by decide, by decide, by first | (left; decide) | (right; decide) | (right; have hb_ := z32 x1; omega)⟩, rfl⟩
  ·
    refine s_aload_n E dX5_gotAt_10 rfl rfl ?_
    refine s_gR (r := 84) E fg_X5_18 rfl rfl (jv_lt hJ (by decide)) (jv_r hJ (by decide +kernel)) dX5_gotAt_11 ?_
    refine s_iload_n E dX5_gotAt_14 rfl rfl ?_
    refine s_iald E rfl (jv_lt hJ (by decide)) (z_in (u := q2_2_0.toInt) rfl (by omega) (by omega)) dX5_gotAt_15 ?_
    refine z_nm (P := fun z => (-2147483648) ≤ z.toInt ∧ z.toInt ≤ 2147483647) (z32 _) (fun z_4 hz_4 => ?_)
    refine s_iload_n E dX5_gotAt_16 rfl rfl ?_
    refine s_sI (As := [AI z_4, AI x1]) (S := []) E (Z_X9_hasBit l D aC b w z_4 x1 hJ.1 ) cs_X5_50 rfl rfl (Nat.le_of_ble_eq_true rfl) (Nat.le_of_ble_eq_true rfl) ⟨(Nat.le_of_ble_eq_true rfl), (Nat.le_of_ble_eq_true rfl)⟩ (Nat.le_of_ble_eq_true rfl) dX5_gotAt_17 (fun z_7 u_5 hp_6 => ?_)
    obtain ⟨hz_7, hp_6⟩ := hp_6
    subst hp_6
    refine z_if_eq (tgt := 25) (u := z_7.toInt) E dX5_gotAt_20 (by decide) rfl (fun h_9 => ?_) (fun h_9 => ?_)
    ·
      refine z_iinc (u := q2_2_0.toInt) (L2 := fun z_10 => [some (AR 81), some (AI x1), some (AI z_10)]) E dX5_gotAt_25 rfl rfl (by decide) (fun _ => rfl) (by decide) (by omega) (by omega) (fun z_10 hz_10 => ?_)
      refine s_goto (tgt := 2) E dX5_gotAt_28 (by decide) ?_
      exact ih2 z_10 w ⟨⟨by have hb_ := z32 z_10; omega, by have hb_ := z32 z_10; omega⟩, rfl⟩ (by first | omega | decide | (dsimp only; omega) | (dsimp only; decide))
    ·
      refine s_iload_n E dX5_gotAt_23 rfl rfl ?_
      exact r_int E dX5_gotAt_24 ⟨⟨by have hb_ := z32 q2_2_0; omega, by have hb_ := z32 q2_2_0; omega, by first | (right; decide) | (have hb_ := z32 q2_2_0; omega) | (have hb_ := z32 q2_2_0; have hc_ := z32 x1; omega)⟩, rfl⟩
set_option maxRecDepth 20000 in
set_option maxHeartbeats 2000000 in
theorem Z_X5_ahead_81 (l : Launch) (D : va_G) (aC : Nat → ClassId) (b : Nat) (w : XW) (x1 : Int32) (hI : Iv w)  : CnI l D aC b M_X5_ahead 1 21 0 0 [AR 81, AI x1] w (fun r u => ((-2147483648) ≤ r.toInt ∧ r.toInt ≤ 2147483647) ∧ w = u) := by
  refine cn_I (own := RX5) (nm := "ahead") (L0 := [some (AR 81), some (AI x1)]) (by decide +kernel) rfl rfl (Nat.le_of_ble_eq_true rfl) rfl ?_
  intro p e s m args below meth c E hin
  have hJ : Jv w w := jv_rfl hI
  have hb_x1 := z32 x1
  refine s_iload_n E dX5_ahead_0 rfl rfl ?_
  refine z_if_ne (tgt := 13) (u := x1.toInt) E dX5_ahead_1 (by decide) rfl (fun h_1 => ?_) (fun h_1 => ?_)
  ·
    refine s_aload_n E dX5_ahead_13 rfl rfl ?_
    refine s_iload_n E dX5_ahead_14 rfl rfl ?_
    refine s_iconst (v := 1) E dX5_ahead_15 (by decide) ?_
    refine s_isub E dX5_ahead_16 ?_
    refine z_nm (P := fun z => (-2147483648) ≤ z.toInt ∧ z.toInt ≤ 2147483647) (z32 _) (fun z_2 hz_2 => ?_)
    refine s_vI (As := [AI z_2]) (S := []) E (Z_X5_behind_81 l D aC b w z_2 hJ.1 ) cv_X5_66 rfl rfl rfl (jv_lt hJ (by decide)) (Nat.le_of_ble_eq_true rfl) (Nat.le_of_ble_eq_true rfl) ⟨(Nat.le_of_ble_eq_true rfl), (Nat.le_of_ble_eq_true rfl)⟩ (Nat.le_of_ble_eq_true rfl) dX5_ahead_17 (fun z_5 u_3 hp_4 => ?_)
    obtain ⟨hz_5, hp_4⟩ := hp_4
    subst hp_4
    exact r_int E dX5_ahead_20 ⟨⟨by have hb_ := z32 z_5; omega, by have hb_ := z32 z_5; omega⟩, rfl⟩
  ·
    refine s_iconst (v := 1) E dX5_ahead_4 (by decide) ?_
    refine s_aload_n E dX5_ahead_5 rfl rfl ?_
    refine s_gI E fg_X5_59 rfl rfl (jv_lt hJ (by decide)) dX5_ahead_6 ?_
    refine z_nm (P := fun z => z.toInt = (w.2.2.1 81 5).toInt ∧ (-2147483648) ≤ z.toInt ∧ z.toInt ≤ 2147483647) ⟨rfl, z32 _⟩ (fun z_7 hz_7 => ?_)
    refine s_ishl E dX5_ahead_9 ?_
    refine z_nm (P := fun z => (-2147483648) ≤ z.toInt ∧ z.toInt ≤ 2147483647) (z32 _) (fun z_8 hz_8 => ?_)
    refine s_goto (tgt := 20) E dX5_ahead_10 (by decide) ?_
    exact r_int E dX5_ahead_20 ⟨⟨by have hb_ := z32 z_8; omega, by have hb_ := z32 z_8; omega⟩, rfl⟩
set_option maxRecDepth 20000 in
set_option maxHeartbeats 2000000 in
theorem Z_X5_giverOf_81_r69 (l : Launch) (D : va_G) (aC : Nat → ClassId) (b : Nat) (w : XW) (x1 : Int32) (hI : Iv w)  : CnI l D aC b M_X5_giverOf 2 44 0 0 [AR 81, AR 69, AI x1] w (fun r u => ((-1) ≤ r.toInt ∧ r.toInt ≤ 5 ∧ (¬ r.toInt = 0 ∨ (0 ≤ x1.toInt ∧ x1.toInt ≤ 31)) ∧ (¬ r.toInt = 0 ∨ (1 ≤ (w.2.2.1 81 3).toInt ∧ (w.2.2.1 81 3).toInt ≤ 6))) ∧ w = u) := by
  refine cn_I (own := RX5) (nm := "giverOf") (L0 := [some (AR 81), some (AR 69), some (AI x1), none, none]) (by decide +kernel) rfl rfl (Nat.le_of_ble_eq_true rfl) rfl ?_
  intro p e s m args below meth c E hin
  have hJ : Jv w w := jv_rfl hI
  have hb_x1 := z32 x1
  refine s_aload_n E dX5_giverOf_0 rfl rfl ?_
  refine s_iload_n E dX5_giverOf_1 rfl rfl ?_
  refine s_vI (As := [AI x1]) (S := []) E (Z_X5_gotAt_81 l D aC b w x1 hJ.1 ) cv_X5_69 rfl rfl rfl (jv_lt hJ (by decide)) (Nat.le_of_ble_eq_true rfl) (Nat.le_of_ble_eq_true rfl) ⟨(Nat.le_of_ble_eq_true rfl), (Nat.le_of_ble_eq_true rfl)⟩ (Nat.le_of_ble_eq_true rfl) dX5_giverOf_2 (fun z_3 u_1 hp_2 => ?_)
  obtain ⟨hz_3, hp_2⟩ := hp_2
  subst hp_2
  refine s_istore_n (L2 := [some (AR 81), some (AR 69), some (AI x1), some (AI z_3), none]) E dX5_giverOf_5 rfl (by decide) rfl ?_
  refine s_iload_n E dX5_giverOf_6 rfl rfl ?_
  refine s_aload_n E dX5_giverOf_7 rfl rfl ?_
  refine s_gI E fg_X5_59 rfl rfl (jv_lt hJ (by decide)) dX5_giverOf_8 ?_
  refine z_nm (P := fun z => z.toInt = (w.2.2.1 81 5).toInt ∧ (-2147483648) ≤ z.toInt ∧ z.toInt ≤ 2147483647) ⟨rfl, z32 _⟩ (fun z_5 hz_5 => ?_)
  refine z_icmp_eq (tgt := 19) (u := x1.toInt) (v := z_5.toInt) E dX5_giverOf_11 (by decide) rfl rfl (fun h_6 => ?_) (fun h_6 => ?_)
  ·
    refine s_iconst (v := (-1)) E dX5_giverOf_19 (by decide) ?_
    exact r_int E dX5_giverOf_20 ⟨⟨by decide, by decide, by first | (left; decide) | (right; decide) | (right; have hb_ := z32 x1; omega), by first | (left; decide) | (right; decide) | (right; have hb_ := z32 (w.2.2.1 81 3); omega)⟩, rfl⟩
  ·
    refine s_iload_n E dX5_giverOf_14 rfl rfl ?_
    refine s_iconst (v := (-1)) E dX5_giverOf_15 (by decide) ?_
    refine z_icmp_ne (tgt := 21) (u := z_3.toInt) (v := (-1)) E dX5_giverOf_16 (by decide) rfl (by decide) (fun h_7 => ?_) (fun h_7 => ?_)
    ·
      refine s_iconst (v := 0) E dX5_giverOf_21 (by decide) ?_
      refine s_istore (L2 := [some (AR 81), some (AR 69), some (AI x1), some (AI z_3), some (AI 0)]) E dX5_giverOf_22 (by decide) rfl ?_
      refine z_loop (St := Int32) (Pi := fun q24_4_7 v24 => (0 ≤ q24_4_7.toInt ∧ q24_4_7.toInt ≤ 6) ∧ w = v24) (Lf := fun q24_4_7 => [some (AR 81), some (AR 69), some (AI x1), some (AI z_3), some (AI q24_4_7)]) (fun q24_4_7 _ => (7 - q24_4_7.toInt).toNat) 0 ⟨⟨by decide, by decide⟩, rfl⟩ ?_
      rintro q24_4_7 v24 ⟨hq24_4, hv_⟩ ih24
      subst hv_
      refine s_loc (L2 := [some (AR 81), some (AR 69), some (AI x1), some (AI z_3), some (AI q24_4_7)]) rfl ?_
      refine s_iload E dX5_giverOf_24 rfl ?_
      refine s_aload_n E dX5_giverOf_26 rfl rfl ?_
      refine s_gI E fg_X5_33 rfl rfl (jv_lt hJ (by decide)) dX5_giverOf_27 ?_
      refine z_nm (P := fun z => z.toInt = (w.2.2.1 81 3).toInt ∧ 0 ≤ z.toInt ∧ z.toInt ≤ 6) ⟨rfl, (rg_81_3 hJ)⟩ (fun z_9 hz_9 => ?_)
      refine z_icmp_ge (tgt := 77) (u := q24_4_7.toInt) (v := z_9.toInt) E dX5_giverOf_30 (by decide) rfl rfl (fun h_10 => ?_) (fun h_10 => ?_)
      ·
        refine s_iconst (v := (-1)) E dX5_giverOf_77 (by decide) ?_
        exact r_int E dX5_giverOf_78 ⟨⟨by decide, by decide, by first | (left; decide) | (right; decide) | (right; have hb_ := z32 x1; omega), by first | (left; decide) | (right; decide) | (right; have hb_ := z32 (w.2.2.1 81 3); omega)⟩, rfl⟩
      ·
        refine s_aload_n E dX5_giverOf_33 rfl rfl ?_
        refine s_iload_n E dX5_giverOf_34 rfl rfl ?_
        refine s_vI (As := [AI z_3]) (S := []) E (Z_X5_ahead_81 l D aC b w z_3 hJ.1 ) cv_X5_72 rfl rfl rfl (jv_lt hJ (by decide)) (Nat.le_of_ble_eq_true rfl) (Nat.le_of_ble_eq_true rfl) ⟨(Nat.le_of_ble_eq_true rfl), (Nat.le_of_ble_eq_true rfl)⟩ (Nat.le_of_ble_eq_true rfl) dX5_giverOf_35 (fun z_13 u_11 hp_12 => ?_)
        obtain ⟨hz_13, hp_12⟩ := hp_12
        subst hp_12
        refine s_iload E dX5_giverOf_38 rfl ?_
        refine s_sI (As := [AI z_13, AI q24_4_7]) (S := []) E (Z_X9_hasBit l D aC b w z_13 q24_4_7 hJ.1 ) cs_X5_50 rfl rfl (Nat.le_of_ble_eq_true rfl) (Nat.le_of_ble_eq_true rfl) ⟨(Nat.le_of_ble_eq_true rfl), (Nat.le_of_ble_eq_true rfl)⟩ (Nat.le_of_ble_eq_true rfl) dX5_giverOf_40 (fun z_17 u_15 hp_16 => ?_)
        obtain ⟨hz_17, hp_16⟩ := hp_16
        subst hp_16
        refine z_if_eq (tgt := 71) (u := z_17.toInt) E dX5_giverOf_43 (by decide) rfl (fun h_19 => ?_) (fun h_19 => ?_)
        ·
          refine z_iinc (u := q24_4_7.toInt) (L2 := fun z_20 => [some (AR 81), some (AR 69), some (AI x1), some (AI z_3), some (AI z_20)]) E dX5_giverOf_71 rfl rfl (by decide) (fun _ => rfl) (by decide) (by omega) (by omega) (fun z_20 hz_20 => ?_)
          refine s_goto (tgt := 24) E dX5_giverOf_74 (by decide) ?_
          exact ih24 z_20 w ⟨⟨by have hb_ := z32 z_20; omega, by have hb_ := z32 z_20; omega⟩, rfl⟩ (by first | omega | decide | (dsimp only; omega) | (dsimp only; decide))
        ·
          refine s_aload_n E dX5_giverOf_46 rfl rfl ?_
          refine s_gR (r := 82) E fg_X5_9 rfl rfl (jv_lt hJ (by decide)) (jv_r hJ (by decide +kernel)) dX5_giverOf_47 ?_
          refine s_iload E dX5_giverOf_50 rfl ?_
          refine s_iald E rfl (jv_lt hJ (by decide)) (z_in (u := q24_4_7.toInt) rfl (by omega) (by omega)) dX5_giverOf_52 ?_
          refine z_nm (P := fun z => (-2147483648) ≤ z.toInt ∧ z.toInt ≤ 2147483647) (z32 _) (fun z_21 hz_21 => ?_)
          refine s_aload_n E dX5_giverOf_53 rfl rfl ?_
          refine s_iload E dX5_giverOf_54 rfl ?_
          refine s_iload_n E dX5_giverOf_56 rfl rfl ?_
          refine s_vI (As := [AI q24_4_7, AI z_3]) (S := [AI z_21]) E (Z_X2_companyOf_69 l D aC b w q24_4_7 z_3 hJ.1 ) cv_X5_54 rfl rfl rfl (jv_lt hJ (by decide)) (Nat.le_of_ble_eq_true rfl) (Nat.le_of_ble_eq_true rfl) ⟨(Nat.le_of_ble_eq_true rfl), (Nat.le_of_ble_eq_true rfl)⟩ (Nat.le_of_ble_eq_true rfl) dX5_giverOf_57 (fun z_24 u_22 hp_23 => ?_)
          obtain ⟨hz_24, hp_23⟩ := hp_23
          subst hp_23
          refine s_iand E dX5_giverOf_60 ?_
          refine z_nm (P := fun z => (-2147483648) ≤ z.toInt ∧ z.toInt ≤ 2147483647) (z32 _) (fun z_26 hz_26 => ?_)
          refine s_iload_n E dX5_giverOf_61 rfl rfl ?_
          refine s_sI (As := [AI z_26, AI x1]) (S := []) E (Z_X9_hasBit l D aC b w z_26 x1 hJ.1 ) cs_X5_50 rfl rfl (Nat.le_of_ble_eq_true rfl) (Nat.le_of_ble_eq_true rfl) ⟨(Nat.le_of_ble_eq_true rfl), (Nat.le_of_ble_eq_true rfl)⟩ (Nat.le_of_ble_eq_true rfl) dX5_giverOf_62 (fun z_29 u_27 hp_28 => ?_)
          obtain ⟨hz_29, hp_28⟩ := hp_28
          subst hp_28
          refine z_if_eq (tgt := 71) (u := z_29.toInt) E dX5_giverOf_65 (by decide) rfl (fun h_31 => ?_) (fun h_31 => ?_)
          ·
            refine z_iinc (u := q24_4_7.toInt) (L2 := fun z_32 => [some (AR 81), some (AR 69), some (AI x1), some (AI z_3), some (AI z_32)]) E dX5_giverOf_71 rfl rfl (by decide) (fun _ => rfl) (by decide) (by omega) (by omega) (fun z_32 hz_32 => ?_)
            refine s_goto (tgt := 24) E dX5_giverOf_74 (by decide) ?_
            exact ih24 z_32 w ⟨⟨by have hb_ := z32 z_32; omega, by have hb_ := z32 z_32; omega⟩, rfl⟩ (by first | omega | decide | (dsimp only; omega) | (dsimp only; decide))
          ·
            refine s_iload E dX5_giverOf_68 rfl ?_
            exact r_int E dX5_giverOf_70 ⟨⟨by have hb_ := z32 q24_4_7; omega, by have hb_ := z32 q24_4_7; omega, by first | (right; decide) | (have hb_ := z32 q24_4_7; omega) | (have hb_ := z32 q24_4_7; have hc_ := z32 x1; omega), by first | (right; decide) | (have hb_ := z32 q24_4_7; omega) | (have hb_ := z32 q24_4_7; have hc_ := z32 (w.2.2.1 81 3); omega)⟩, rfl⟩
    ·
      refine s_iconst (v := (-1)) E dX5_giverOf_19 (by decide) ?_
      exact r_int E dX5_giverOf_20 ⟨⟨by decide, by decide, by first | (left; decide) | (right; decide) | (right; have hb_ := z32 x1; omega), by first | (left; decide) | (right; decide) | (right; have hb_ := z32 (w.2.2.1 81 3); omega)⟩, rfl⟩
set_option maxRecDepth 20000 in
set_option maxHeartbeats 2000000 in
theorem Z_X9_hands_0 (l : Launch) (D : va_G) (aC : Nat → ClassId) (b : Nat) (w : XW) (x1 : Int32) (x2 : Int32) (hI : Iv w)  : CnI l D aC b M_X9_hands 5 116 0 0 [AR 0, AI x1, AI x2] w (fun r u => ((-2) ≤ r.toInt ∧ r.toInt ≤ 6 ∧ (¬ r.toInt = 0 ∨ (0 ≤ x1.toInt ∧ x1.toInt ≤ 5)) ∧ (¬ r.toInt = 0 ∨ (0 ≤ x2.toInt ∧ x2.toInt ≤ 5)) ∧ (¬ r.toInt = 0 ∨ (1 ≤ (w.2.2.1 5 3).toInt ∧ (w.2.2.1 5 3).toInt ≤ 6))) ∧ Jv w u) := by
  refine cn_I (own := RX9) (nm := "hands") (L0 := [some (AR 0), some (AI x1), some (AI x2), none, none]) (by decide +kernel) rfl rfl (Nat.le_of_ble_eq_true rfl) rfl ?_
  intro p e s m args below meth c E hin
  have hJ : Jv w w := jv_rfl hI
  have hb_x1 := z32 x1
  have hb_x2 := z32 x2
  refine s_aload_n E dX9_hands_0 rfl rfl ?_
  refine s_gR (r := 2) E fg_X9_20 rfl rfl (jv_lt hJ (by decide)) (jv_r hJ (by decide +kernel)) dX9_hands_1 ?_
  refine s_iload_n E dX9_hands_4 rfl rfl ?_
  refine s_vI (As := [AI x1]) (S := []) E (Z_X0_hasLady_2 l D aC b w x1 hJ.1 ) cv_X9_139 rfl rfl rfl (jv_lt hJ (by decide)) (Nat.le_of_ble_eq_true rfl) (Nat.le_of_ble_eq_true rfl) ⟨(Nat.le_of_ble_eq_true rfl), (Nat.le_of_ble_eq_true rfl)⟩ (Nat.le_of_ble_eq_true rfl) dX9_hands_5 (fun z_3 u_1 hp_2 => ?_)
  obtain ⟨hz_3, hp_2⟩ := hp_2
  subst hp_2
  refine z_if_eq (tgt := 22) (u := z_3.toInt) E dX9_hands_8 (by decide) rfl (fun h_5 => ?_) (fun h_5 => ?_)
  ·
    refine s_bipush (v := (-2)) E dX9_hands_22 (by decide) ?_
    exact r_int E dX9_hands_24 ⟨⟨by decide, by decide, by first | (left; decide) | (right; decide) | (right; have hb_ := z32 x1; omega), by first | (left; decide) | (right; decide) | (right; have hb_ := z32 x2; omega), by first | (left; decide) | (right; decide) | (right; have hb_ := z32 (w.2.2.1 5 3); omega)⟩, hJ⟩
  ·
    refine s_aload_n E dX9_hands_11 rfl rfl ?_
    refine s_gR (r := 2) E fg_X9_20 rfl rfl (jv_lt hJ (by decide)) (jv_r hJ (by decide +kernel)) dX9_hands_12 ?_
    refine s_iload_n E dX9_hands_15 rfl rfl ?_
    refine s_vI (As := [AI x2]) (S := []) E (Z_X0_hasLady_2 l D aC b w x2 hJ.1 ) cv_X9_139 rfl rfl rfl (jv_lt hJ (by decide)) (Nat.le_of_ble_eq_true rfl) (Nat.le_of_ble_eq_true rfl) ⟨(Nat.le_of_ble_eq_true rfl), (Nat.le_of_ble_eq_true rfl)⟩ (Nat.le_of_ble_eq_true rfl) dX9_hands_16 (fun z_8 u_6 hp_7 => ?_)
    obtain ⟨hz_8, hp_7⟩ := hp_7
    subst hp_7
    refine z_if_ne (tgt := 25) (u := z_8.toInt) E dX9_hands_19 (by decide) rfl (fun h_10 => ?_) (fun h_10 => ?_)
    ·
      refine s_aload_n E dX9_hands_25 rfl rfl ?_
      refine s_vV (As := []) (S := []) E (Z_X9_passAsTold_0 l D aC b w  hJ.1 ) cv_X9_227 rfl rfl rfl (jv_lt hJ (by decide)) (Nat.le_of_ble_eq_true rfl) (Nat.le_of_ble_eq_true rfl) ⟨(Nat.le_of_ble_eq_true rfl), (Nat.le_of_ble_eq_true rfl)⟩ (Nat.le_of_ble_eq_true rfl) dX9_hands_26 (fun u_11 hp_12 => ?_)
      have hj_13 := jv_trans hJ hp_12
      refine s_aload_n E dX9_hands_29 rfl rfl ?_
      refine s_aload_n E dX9_hands_30 rfl rfl ?_
      refine s_gR (r := 69) E fg_X9_54 rfl rfl (jv_lt hj_13 (by decide)) (jv_r hj_13 (by decide +kernel)) dX9_hands_31 ?_
      refine s_iload_n E dX9_hands_34 rfl rfl ?_
      refine s_vI (As := [AR 69, AI x1]) (S := []) E (Z_X9_inTheEnd_0_r69 l D aC b u_11 x1 hj_13.1 ) cv_X9_230 rfl rfl rfl (jv_lt hj_13 (by decide)) (Nat.le_of_ble_eq_true rfl) (Nat.le_of_ble_eq_true rfl) ⟨(Nat.le_of_ble_eq_true rfl), (Nat.le_of_ble_eq_true rfl)⟩ (Nat.le_of_ble_eq_true rfl) dX9_hands_35 (fun z_16 u_14 hp_15 => ?_)
      obtain ⟨hz_16, hp_15⟩ := hp_15
      have hj_17 := jv_trans hj_13 hp_15
      refine s_iload_n E dX9_hands_38 rfl rfl ?_
      refine s_sI (As := [AI z_16, AI x2]) (S := []) E (Z_X9_hasBit l D aC b u_14 z_16 x2 hj_17.1 ) cs_X9_175 rfl rfl (Nat.le_of_ble_eq_true rfl) (Nat.le_of_ble_eq_true rfl) ⟨(Nat.le_of_ble_eq_true rfl), (Nat.le_of_ble_eq_true rfl)⟩ (Nat.le_of_ble_eq_true rfl) dX9_hands_39 (fun z_20 u_18 hp_19 => ?_)
      obtain ⟨hz_20, hp_19⟩ := hp_19
      subst hp_19
      refine z_if_ne (tgt := 47) (u := z_20.toInt) E dX9_hands_42 (by decide) rfl (fun h_22 => ?_) (fun h_22 => ?_)
      ·
        refine s_iload_n E dX9_hands_47 rfl rfl ?_
        refine s_istore_n (L2 := [some (AR 0), some (AI x1), some (AI x2), some (AI x2), none]) E dX9_hands_48 rfl (by decide) rfl ?_
        refine s_iconst (v := 0) E dX9_hands_49 (by decide) ?_
        refine s_istore (L2 := [some (AR 0), some (AI x1), some (AI x2), some (AI x2), some (AI 0)]) E dX9_hands_50 (by decide) rfl ?_
        refine z_loop (St := Int32 × Int32) (Pi := fun ⟨q52_3_22, q52_4_22⟩ v52 => ((-1) ≤ q52_3_22.toInt ∧ q52_3_22.toInt ≤ 5) ∧ (0 ≤ q52_4_22.toInt ∧ q52_4_22.toInt ≤ 6) ∧ u_14 = v52) (Lf := fun ⟨q52_3_22, q52_4_22⟩ => [some (AR 0), some (AI x1), some (AI x2), some (AI q52_3_22), some (AI q52_4_22)]) (fun ⟨q52_3_22, q52_4_22⟩ _ => (7 - q52_4_22.toInt).toNat) ⟨x2, 0⟩ ⟨⟨by have hb_ := z32 x2; omega, by have hb_ := z32 x2; omega⟩, ⟨by decide, by decide⟩, rfl⟩ ?_
        rintro ⟨q52_3_22, q52_4_22⟩ v52 ⟨hq52_3, hq52_4, hv_⟩ ih52
        subst hv_
        refine s_loc (L2 := [some (AR 0), some (AI x1), some (AI x2), some (AI q52_3_22), some (AI q52_4_22)]) rfl ?_
        refine s_iload_n E dX9_hands_52 rfl rfl ?_
        refine s_iload_n E dX9_hands_53 rfl rfl ?_
        refine z_icmp_eq (tgt := 88) (u := q52_3_22.toInt) (v := x1.toInt) E dX9_hands_54 (by decide) rfl rfl (fun h_24 => ?_) (fun h_24 => ?_)
        ·
          refine s_iload E dX9_hands_88 rfl ?_
          exact r_int E dX9_hands_90 ⟨⟨by have hb_ := z32 q52_4_22; omega, by have hb_ := z32 q52_4_22; omega, by first | (right; decide) | (have hb_ := z32 q52_4_22; omega) | (have hb_ := z32 q52_4_22; have hc_ := z32 x1; omega), by first | (right; decide) | (have hb_ := z32 q52_4_22; omega) | (have hb_ := z32 q52_4_22; have hc_ := z32 x2; omega), by first | (right; decide) | (have hb_ := z32 q52_4_22; omega) | (have hb_ := z32 q52_4_22; have hc_ := z32 (w.2.2.1 5 3); omega)⟩, hj_17⟩
        ·
          refine s_iload_n E dX9_hands_57 rfl rfl ?_
          refine s_iconst (v := (-1)) E dX9_hands_58 (by decide) ?_
          refine z_icmp_eq (tgt := 88) (u := q52_3_22.toInt) (v := (-1)) E dX9_hands_59 (by decide) rfl (by decide) (fun h_25 => ?_) (fun h_25 => ?_)
          ·
            refine s_iload E dX9_hands_88 rfl ?_
            exact r_int E dX9_hands_90 ⟨⟨by have hb_ := z32 q52_4_22; omega, by have hb_ := z32 q52_4_22; omega, by first | (right; decide) | (have hb_ := z32 q52_4_22; omega) | (have hb_ := z32 q52_4_22; have hc_ := z32 x1; omega), by first | (right; decide) | (have hb_ := z32 q52_4_22; omega) | (have hb_ := z32 q52_4_22; have hc_ := z32 x2; omega), by first | (right; decide) | (have hb_ := z32 q52_4_22; omega) | (have hb_ := z32 q52_4_22; have hc_ := z32 (w.2.2.1 5 3); omega)⟩, hj_17⟩
          ·
            refine s_iload E dX9_hands_62 rfl ?_
            refine s_bipush (v := 6) E dX9_hands_64 (by decide) ?_
            refine z_icmp_ge (tgt := 88) (u := q52_4_22.toInt) (v := 6) E dX9_hands_66 (by decide) rfl (by decide) (fun h_26 => ?_) (fun h_26 => ?_)
            ·
              refine s_iload E dX9_hands_88 rfl ?_
              exact r_int E dX9_hands_90 ⟨⟨by have hb_ := z32 q52_4_22; omega, by have hb_ := z32 q52_4_22; omega, by first | (right; decide) | (have hb_ := z32 q52_4_22; omega) | (have hb_ := z32 q52_4_22; have hc_ := z32 x1; omega), by first | (right; decide) | (have hb_ := z32 q52_4_22; omega) | (have hb_ := z32 q52_4_22; have hc_ := z32 x2; omega), by first | (right; decide) | (have hb_ := z32 q52_4_22; omega) | (have hb_ := z32 q52_4_22; have hc_ := z32 (w.2.2.1 5 3); omega)⟩, hj_17⟩
            ·
              refine s_aload_n E dX9_hands_69 rfl rfl ?_
              refine s_gR (r := 81) E fg_X9_64 rfl rfl (jv_lt hj_17 (by decide)) (jv_r hj_17 (by decide +kernel)) dX9_hands_70 ?_
              refine s_aload_n E dX9_hands_73 rfl rfl ?_
              refine s_gR (r := 69) E fg_X9_54 rfl rfl (jv_lt hj_17 (by decide)) (jv_r hj_17 (by decide +kernel)) dX9_hands_74 ?_
              refine s_iload_n E dX9_hands_77 rfl rfl ?_
              refine s_vI (As := [AR 69, AI q52_3_22]) (S := []) E (Z_X5_giverOf_81_r69 l D aC b u_14 q52_3_22 hj_17.1 ) cv_X9_234 rfl rfl rfl (jv_lt hj_17 (by decide)) (Nat.le_of_ble_eq_true rfl) (Nat.le_of_ble_eq_true rfl) ⟨(Nat.le_of_ble_eq_true rfl), (Nat.le_of_ble_eq_true rfl)⟩ (Nat.le_of_ble_eq_true rfl) dX9_hands_78 (fun z_29 u_27 hp_28 => ?_)
              obtain ⟨hz_29, hp_28⟩ := hp_28
              subst hp_28
              refine s_istore_n (L2 := [some (AR 0), some (AI x1), some (AI x2), some (AI z_29), some (AI q52_4_22)]) E dX9_hands_81 rfl (by decide) rfl ?_
              refine z_iinc (u := q52_4_22.toInt) (L2 := fun z_31 => [some (AR 0), some (AI x1), some (AI x2), some (AI z_29), some (AI z_31)]) E dX9_hands_82 rfl rfl (by decide) (fun _ => rfl) (by decide) (by omega) (by omega) (fun z_31 hz_31 => ?_)
              refine s_goto (tgt := 52) E dX9_hands_85 (by decide) ?_
              exact ih52 ⟨z_29, z_31⟩ u_14 ⟨⟨by have hb_ := z32 z_29; omega, by have hb_ := z32 z_29; omega⟩, ⟨by have hb_ := z32 z_31; omega, by have hb_ := z32 z_31; omega⟩, rfl⟩ (by first | omega | decide | (dsimp only; omega) | (dsimp only; decide))
      ·
        refine s_iconst (v := (-1)) E dX9_hands_45 (by decide) ?_
        exact r_int E dX9_hands_46 ⟨⟨by decide, by decide, by first | (left; decide) | (right; decide) | (right; have hb_ := z32 x1; omega), by first | (left; decide) | (right; decide) | (right; have hb_ := z32 x2; omega), by first | (left; decide) | (right; decide) | (right; have hb_ := z32 (w.2.2.1 5 3); omega)⟩, hj_17⟩
    ·
      refine s_bipush (v := (-2)) E dX9_hands_22 (by decide) ?_
      exact r_int E dX9_hands_24 ⟨⟨by decide, by decide, by first | (left; decide) | (right; decide) | (right; have hb_ := z32 x1; omega), by first | (left; decide) | (right; decide) | (right; have hb_ := z32 x2; omega), by first | (left; decide) | (right; decide) | (right; have hb_ := z32 (w.2.2.1 5 3); omega)⟩, hJ⟩
set_option maxRecDepth 20000 in
set_option maxHeartbeats 2000000 in
theorem Z_X3_tally_89_r2 (l : Launch) (D : va_G) (aC : Nat → ClassId) (b : Nat) (w : XW)  (hI : Iv w)  : CnV l D aC b M_X3_tally 3 67 0 0 [AR 89, AR 2] w (fun u => Jv w u) := by
  refine cn_V (own := RX3) (nm := "tally") (L0 := [some (AR 89), some (AR 2), none]) (by decide +kernel) rfl rfl (Nat.le_of_ble_eq_true rfl) rfl ?_
  intro p e s m args below meth c E hin
  have hJ : Jv w w := jv_rfl hI
  refine s_aload_n E dX3_tally_0 rfl rfl ?_
  refine s_aload_n E dX3_tally_1 rfl rfl ?_
  refine s_gR (r := 5) E fg_X3_15 rfl rfl (jv_lt hJ (by decide)) (jv_r hJ (by decide +kernel)) dX3_tally_2 ?_
  refine s_gI E fg_X3_21 rfl rfl (jv_lt hJ (by decide)) dX3_tally_5 ?_
  refine z_nm (P := fun z => z.toInt = (w.2.2.1 5 3).toInt ∧ 0 ≤ z.toInt ∧ z.toInt ≤ 6) ⟨rfl, (rg_5_3 hJ)⟩ (fun z_1 hz_1 => ?_)
  refine s_pI E fp_X3_27 (Or.inl rfl) rfl (jv_lt hJ (by decide)) dX3_tally_8 ?_
  refine s_gen (P := Jv w) (jv_f_89_1 hJ (by have hb_ := z32 z_1; omega) (by have hb_ := z32 z_1; omega)) (fun v_2 hj_3 => ?_)
  refine s_aload_n E dX3_tally_11 rfl rfl ?_
  refine s_iconst (v := 0) E dX3_tally_12 (by decide) ?_
  refine s_pI E fp_X3_29 (Or.inl rfl) rfl (jv_lt hj_3 (by decide)) dX3_tally_13 ?_
  refine s_gen (P := Jv w) (jv_f_89_2 hj_3 (by decide) (by decide)) (fun v_4 hj_5 => ?_)
  refine s_iconst (v := 0) E dX3_tally_16 (by decide) ?_
  refine s_istore_n (L2 := [some (AR 89), some (AR 2), some (AI 0)]) E dX3_tally_17 rfl (by decide) rfl ?_
  refine z_loop (St := Int32) (Pi := fun q18_2_5 v18 => (0 ≤ q18_2_5.toInt ∧ q18_2_5.toInt ≤ 6) ∧ Jv w v18) (Lf := fun q18_2_5 => [some (AR 89), some (AR 2), some (AI q18_2_5)]) (fun q18_2_5 _ => (7 - q18_2_5.toInt).toNat) 0 ⟨⟨by decide, by decide⟩, hj_5⟩ ?_
  rintro q18_2_5 v18 ⟨hq18_2, hj_6⟩ ih18
  refine s_loc (L2 := [some (AR 89), some (AR 2), some (AI q18_2_5)]) rfl ?_
  refine s_iload_n E dX3_tally_18 rfl rfl ?_
  refine s_aload_n E dX3_tally_19 rfl rfl ?_
  refine s_gI E fg_X3_27 rfl rfl (jv_lt hj_6 (by decide)) dX3_tally_20 ?_
  refine z_nm (P := fun z => z.toInt = (v18.2.2.1 89 1).toInt ∧ 0 ≤ z.toInt ∧ z.toInt ≤ 6) ⟨rfl, (rg_89_1 hj_6)⟩ (fun z_7 hz_7 => ?_)
  refine z_icmp_ge (tgt := 58) (u := q18_2_5.toInt) (v := z_7.toInt) E dX3_tally_23 (by decide) rfl rfl (fun h_8 => ?_) (fun h_8 => ?_)
  ·
    exact r_void E dX3_tally_58 hj_6
  ·
    refine s_aload_n E dX3_tally_26 rfl rfl ?_
    refine s_gR (r := 90) E fg_X3_9 rfl rfl (jv_lt hj_6 (by decide)) (jv_r hj_6 (by decide +kernel)) dX3_tally_27 ?_
    refine s_iload_n E dX3_tally_30 rfl rfl ?_
    refine s_aload_n E dX3_tally_31 rfl rfl ?_
    refine s_iload_n E dX3_tally_32 rfl rfl ?_
    refine s_vI (As := [AI q18_2_5]) (S := [AI q18_2_5, AR 90]) E (Z_X0_seatsUnder_2 l D aC b v18 q18_2_5 hj_6.1 ) cv_X3_32 rfl rfl rfl (jv_lt hj_6 (by decide)) (Nat.le_of_ble_eq_true rfl) (Nat.le_of_ble_eq_true rfl) ⟨(Nat.le_of_ble_eq_true rfl), (Nat.le_of_ble_eq_true rfl)⟩ (Nat.le_of_ble_eq_true rfl) dX3_tally_33 (fun z_11 u_9 hp_10 => ?_)
    obtain ⟨hz_11, hp_10⟩ := hp_10
    subst hp_10
    refine s_iast E rfl (jv_lt hj_6 (by decide)) (z_in (u := q18_2_5.toInt) rfl (by omega) (by omega)) dX3_tally_36 ?_
    refine s_gen (P := fun v => Jv w v ∧ (v.2.2.1 89 1).toInt = (v18.2.2.1 89 1).toInt) ⟨(jv_a_90 hj_6 (by have hb_ := z32 z_11; omega) (by have hb_ := z32 z_11; omega)), rfl⟩ (fun v_13 hj_14 => ?_)
    obtain ⟨hj_14, hk_15k0⟩ := hj_14
    refine s_aload_n E dX3_tally_37 rfl rfl ?_
    refine s_dupR E dX3_tally_38 ?_
    refine s_gI E fg_X3_29 rfl rfl (jv_lt hj_14 (by decide)) dX3_tally_39 ?_
    refine z_nm (P := fun z => z.toInt = (v_13.2.2.1 89 2).toInt ∧ (-2147483648) ≤ z.toInt ∧ z.toInt ≤ 2147483647) ⟨rfl, z32 _⟩ (fun z_16 hz_16 => ?_)
    refine s_aload_n E dX3_tally_42 rfl rfl ?_
    refine s_gR (r := 90) E fg_X3_9 rfl rfl (jv_lt hj_14 (by decide)) (jv_r hj_14 (by decide +kernel)) dX3_tally_43 ?_
    refine s_iload_n E dX3_tally_46 rfl rfl ?_
    refine s_iald E rfl (jv_lt hj_14 (by decide)) (z_in (u := q18_2_5.toInt) rfl (by omega) (by omega)) dX3_tally_47 ?_
    refine z_nm (P := fun z => (-2147483648) ≤ z.toInt ∧ z.toInt ≤ 2147483647) (z32 _) (fun z_17 hz_17 => ?_)
    refine s_iadd E dX3_tally_48 ?_
    refine z_nm (P := fun z => (-2147483648) ≤ z.toInt ∧ z.toInt ≤ 2147483647) (z32 _) (fun z_18 hz_18 => ?_)
    refine s_pI E fp_X3_29 (Or.inl rfl) rfl (jv_lt hj_14 (by decide)) dX3_tally_49 ?_
    refine s_gen (P := fun v => Jv w v ∧ (v.2.2.1 89 1).toInt = (v_13.2.2.1 89 1).toInt) ⟨(jv_f_89_2 hj_14 (by have hb_ := z32 z_18; omega) (by have hb_ := z32 z_18; omega)), rfl⟩ (fun v_19 hj_20 => ?_)
    obtain ⟨hj_20, hk_21k0⟩ := hj_20
    refine z_iinc (u := q18_2_5.toInt) (L2 := fun z_22 => [some (AR 89), some (AR 2), some (AI z_22)]) E dX3_tally_52 rfl rfl (by decide) (fun _ => rfl) (by decide) (by omega) (by omega) (fun z_22 hz_22 => ?_)
    refine s_goto (tgt := 18) E dX3_tally_55 (by decide) ?_
    exact ih18 z_22 v_19 ⟨⟨by have hb_ := z32 z_22; omega, by have hb_ := z32 z_22; omega⟩, hj_20⟩ (by first | omega | decide | (dsimp only; omega) | (dsimp only; decide))
set_option maxRecDepth 20000 in
set_option maxHeartbeats 2000000 in
theorem Z_X3_seatsOf_89 (l : Launch) (D : va_G) (aC : Nat → ClassId) (b : Nat) (w : XW) (x1 : Int32) (hI : Iv w)  : CnI l D aC b M_X3_seatsOf 1 21 0 0 [AR 89, AI x1] w (fun r u => ((-2147483648) ≤ r.toInt ∧ r.toInt ≤ 2147483647) ∧ w = u) := by
  refine cn_I (own := RX3) (nm := "seatsOf") (L0 := [some (AR 89), some (AI x1), none, none]) (by decide +kernel) rfl rfl (Nat.le_of_ble_eq_true rfl) rfl ?_
  intro p e s m args below meth c E hin
  have hJ : Jv w w := jv_rfl hI
  have hb_x1 := z32 x1
  refine s_iconst (v := 0) E dX3_seatsOf_0 (by decide) ?_
  refine s_istore_n (L2 := [some (AR 89), some (AI x1), some (AI 0), none]) E dX3_seatsOf_1 rfl (by decide) rfl ?_
  refine s_iconst (v := 0) E dX3_seatsOf_2 (by decide) ?_
  refine s_istore_n (L2 := [some (AR 89), some (AI x1), some (AI 0), some (AI 0)]) E dX3_seatsOf_3 rfl (by decide) rfl ?_
  refine z_loop (St := Int32 × Int32) (Pi := fun ⟨q4_2_0, q4_3_0⟩ v4 => (0 ≤ q4_3_0.toInt ∧ q4_3_0.toInt ≤ 6) ∧ w = v4) (Lf := fun ⟨q4_2_0, q4_3_0⟩ => [some (AR 89), some (AI x1), some (AI q4_2_0), some (AI q4_3_0)]) (fun ⟨q4_2_0, q4_3_0⟩ _ => (7 - q4_3_0.toInt).toNat) ⟨0, 0⟩ ⟨⟨by decide, by decide⟩, rfl⟩ ?_
  rintro ⟨q4_2_0, q4_3_0⟩ v4 ⟨hq4_3, hv_⟩ ih4
  subst hv_
  have hbq4_2 := z32 q4_2_0
  refine s_loc (L2 := [some (AR 89), some (AI x1), some (AI q4_2_0), some (AI q4_3_0)]) rfl ?_
  refine s_iload_n E dX3_seatsOf_4 rfl rfl ?_
  refine s_aload_n E dX3_seatsOf_5 rfl rfl ?_
  refine s_gI E fg_X3_27 rfl rfl (jv_lt hJ (by decide)) dX3_seatsOf_6 ?_
  refine z_nm (P := fun z => z.toInt = (w.2.2.1 89 1).toInt ∧ 0 ≤ z.toInt ∧ z.toInt ≤ 6) ⟨rfl, (rg_89_1 hJ)⟩ (fun z_2 hz_2 => ?_)
  refine z_icmp_ge (tgt := 35) (u := q4_3_0.toInt) (v := z_2.toInt) E dX3_seatsOf_9 (by decide) rfl rfl (fun h_3 => ?_) (fun h_3 => ?_)
  ·
    refine s_iload_n E dX3_seatsOf_35 rfl rfl ?_
    exact r_int E dX3_seatsOf_36 ⟨⟨by have hb_ := z32 q4_2_0; omega, by have hb_ := z32 q4_2_0; omega⟩, rfl⟩
  ·
    refine s_iload_n E dX3_seatsOf_12 rfl rfl ?_
    refine s_iload_n E dX3_seatsOf_13 rfl rfl ?_
    refine s_sI (As := [AI x1, AI q4_3_0]) (S := []) E (Z_X9_hasBit l D aC b w x1 q4_3_0 hJ.1 ) cs_X3_35 rfl rfl (Nat.le_of_ble_eq_true rfl) (Nat.le_of_ble_eq_true rfl) ⟨(Nat.le_of_ble_eq_true rfl), (Nat.le_of_ble_eq_true rfl)⟩ (Nat.le_of_ble_eq_true rfl) dX3_seatsOf_14 (fun z_6 u_4 hp_5 => ?_)
    obtain ⟨hz_6, hp_5⟩ := hp_5
    subst hp_5
    refine z_if_eq (tgt := 29) (u := z_6.toInt) E dX3_seatsOf_17 (by decide) rfl (fun h_8 => ?_) (fun h_8 => ?_)
    ·
      refine z_iinc (u := q4_3_0.toInt) (L2 := fun z_9 => [some (AR 89), some (AI x1), some (AI q4_2_0), some (AI z_9)]) E dX3_seatsOf_29 rfl rfl (by decide) (fun _ => rfl) (by decide) (by omega) (by omega) (fun z_9 hz_9 => ?_)
      refine s_goto (tgt := 4) E dX3_seatsOf_32 (by decide) ?_
      exact ih4 ⟨q4_2_0, z_9⟩ w ⟨⟨by have hb_ := z32 z_9; omega, by have hb_ := z32 z_9; omega⟩, rfl⟩ (by first | omega | decide | (dsimp only; omega) | (dsimp only; decide))
    ·
      refine s_iload_n E dX3_seatsOf_20 rfl rfl ?_
      refine s_aload_n E dX3_seatsOf_21 rfl rfl ?_
      refine s_gR (r := 90) E fg_X3_9 rfl rfl (jv_lt hJ (by decide)) (jv_r hJ (by decide +kernel)) dX3_seatsOf_22 ?_
      refine s_iload_n E dX3_seatsOf_25 rfl rfl ?_
      refine s_iald E rfl (jv_lt hJ (by decide)) (z_in (u := q4_3_0.toInt) rfl (by omega) (by omega)) dX3_seatsOf_26 ?_
      refine z_nm (P := fun z => (-2147483648) ≤ z.toInt ∧ z.toInt ≤ 2147483647) (z32 _) (fun z_10 hz_10 => ?_)
      refine s_iadd E dX3_seatsOf_27 ?_
      refine z_nm (P := fun z => (-2147483648) ≤ z.toInt ∧ z.toInt ≤ 2147483647) (z32 _) (fun z_11 hz_11 => ?_)
      refine s_istore_n (L2 := [some (AR 89), some (AI x1), some (AI z_11), some (AI q4_3_0)]) E dX3_seatsOf_28 rfl (by decide) rfl ?_
      refine z_iinc (u := q4_3_0.toInt) (L2 := fun z_12 => [some (AR 89), some (AI x1), some (AI z_11), some (AI z_12)]) E dX3_seatsOf_29 rfl rfl (by decide) (fun _ => rfl) (by decide) (by omega) (by omega) (fun z_12 hz_12 => ?_)
      refine s_goto (tgt := 4) E dX3_seatsOf_32 (by decide) ?_
      exact ih4 ⟨z_11, z_12⟩ w ⟨⟨by have hb_ := z32 z_12; omega, by have hb_ := z32 z_12; omega⟩, rfl⟩ (by first | omega | decide | (dsimp only; omega) | (dsimp only; decide))
set_option maxRecDepth 20000 in
set_option maxHeartbeats 2000000 in
theorem Z_X3_isMoreThanHalf_89 (l : Launch) (D : va_G) (aC : Nat → ClassId) (b : Nat) (w : XW) (x1 : Int32) (hI : Iv w)  : CnI l D aC b M_X3_isMoreThanHalf 0 0 0 0 [AR 89, AI x1] w (fun r u => (0 ≤ r.toInt ∧ r.toInt ≤ 1) ∧ w = u) := by
  refine cn_I (own := RX3) (nm := "isMoreThanHalf") (L0 := [some (AR 89), some (AI x1)]) (by decide +kernel) rfl rfl (Nat.le_of_ble_eq_true rfl) rfl ?_
  intro p e s m args below meth c E hin
  have hJ : Jv w w := jv_rfl hI
  have hb_x1 := z32 x1
  refine s_iconst (v := 2) E dX3_isMoreThanHalf_0 (by decide) ?_
  refine s_iload_n E dX3_isMoreThanHalf_1 rfl rfl ?_
  refine s_imul E dX3_isMoreThanHalf_2 ?_
  refine z_nm (P := fun z => (-2147483648) ≤ z.toInt ∧ z.toInt ≤ 2147483647) (z32 _) (fun z_1 hz_1 => ?_)
  refine s_aload_n E dX3_isMoreThanHalf_3 rfl rfl ?_
  refine s_gI E fg_X3_29 rfl rfl (jv_lt hJ (by decide)) dX3_isMoreThanHalf_4 ?_
  refine z_nm (P := fun z => z.toInt = (w.2.2.1 89 2).toInt ∧ (-2147483648) ≤ z.toInt ∧ z.toInt ≤ 2147483647) ⟨rfl, z32 _⟩ (fun z_2 hz_2 => ?_)
  refine z_icmp_le (tgt := 14) (u := z_1.toInt) (v := z_2.toInt) E dX3_isMoreThanHalf_7 (by decide) rfl rfl (fun h_3 => ?_) (fun h_3 => ?_)
  ·
    refine s_iconst (v := 0) E dX3_isMoreThanHalf_14 (by decide) ?_
    exact r_bool E dX3_isMoreThanHalf_15 (Or.inl rfl) ⟨(by decide), rfl⟩
  ·
    refine s_iconst (v := 1) E dX3_isMoreThanHalf_10 (by decide) ?_
    refine s_goto (tgt := 15) E dX3_isMoreThanHalf_11 (by decide) ?_
    exact r_bool E dX3_isMoreThanHalf_15 (Or.inr rfl) ⟨(by decide), rfl⟩
set_option maxRecDepth 20000 in
set_option maxHeartbeats 2000000 in
theorem Z_X3_isMajority_89 (l : Launch) (D : va_G) (aC : Nat → ClassId) (b : Nat) (w : XW) (x1 : Int32) (hI : Iv w)  : CnI l D aC b M_X3_isMajority 2 44 0 0 [AR 89, AI x1] w (fun r u => (0 ≤ r.toInt ∧ r.toInt ≤ 1) ∧ w = u) := by
  refine cn_I (own := RX3) (nm := "isMajority") (L0 := [some (AR 89), some (AI x1)]) (by decide +kernel) rfl rfl (Nat.le_of_ble_eq_true rfl) rfl ?_
  intro p e s m args below meth c E hin
  have hJ : Jv w w := jv_rfl hI
  have hb_x1 := z32 x1
  refine s_aload_n E dX3_isMajority_0 rfl rfl ?_
  refine s_aload_n E dX3_isMajority_1 rfl rfl ?_
  refine s_iload_n E dX3_isMajority_2 rfl rfl ?_
  refine s_vI (As := [AI x1]) (S := [AR 89]) E (Z_X3_seatsOf_89 l D aC b w x1 hJ.1 ) cv_X3_39 rfl rfl rfl (jv_lt hJ (by decide)) (Nat.le_of_ble_eq_true rfl) (Nat.le_of_ble_eq_true rfl) ⟨(Nat.le_of_ble_eq_true rfl), (Nat.le_of_ble_eq_true rfl)⟩ (Nat.le_of_ble_eq_true rfl) dX3_isMajority_3 (fun z_3 u_1 hp_2 => ?_)
  obtain ⟨hz_3, hp_2⟩ := hp_2
  subst hp_2
  refine s_vI (As := [AI z_3]) (S := []) E (Z_X3_isMoreThanHalf_89 l D aC b w z_3 hJ.1 ) cv_X3_42 rfl rfl rfl (jv_lt hJ (by decide)) (Nat.le_of_ble_eq_true rfl) (Nat.le_of_ble_eq_true rfl) ⟨(Nat.le_of_ble_eq_true rfl), (Nat.le_of_ble_eq_true rfl)⟩ (Nat.le_of_ble_eq_true rfl) dX3_isMajority_6 (fun z_7 u_5 hp_6 => ?_)
  obtain ⟨hz_7, hp_6⟩ := hp_6
  subst hp_6
  exact r_bool E dX3_isMajority_9 (z_bool (by omega) (by omega)) ⟨⟨by have hb_ := z32 z_7; omega, by have hb_ := z32 z_7; omega⟩, rfl⟩
set_option maxRecDepth 20000 in
set_option maxHeartbeats 2000000 in
theorem Z_X3_powerOf_89 (l : Launch) (D : va_G) (aC : Nat → ClassId) (b : Nat) (w : XW) (x1 : Int32) (hI : Iv w)  : CnI l D aC b M_X3_powerOf 3 65 0 0 [AR 89, AI x1] w (fun r u => ((-2147483648) ≤ r.toInt ∧ r.toInt ≤ 2147483647) ∧ w = u) := by
  refine cn_I (own := RX3) (nm := "powerOf") (L0 := [some (AR 89), some (AI x1), none, none]) (by decide +kernel) rfl rfl (Nat.le_of_ble_eq_true rfl) rfl ?_
  intro p e s m args below meth c E hin
  have hJ : Jv w w := jv_rfl hI
  have hb_x1 := z32 x1
  refine s_iconst (v := 0) E dX3_powerOf_0 (by decide) ?_
  refine s_istore_n (L2 := [some (AR 89), some (AI x1), some (AI 0), none]) E dX3_powerOf_1 rfl (by decide) rfl ?_
  refine s_iconst (v := 0) E dX3_powerOf_2 (by decide) ?_
  refine s_istore_n (L2 := [some (AR 89), some (AI x1), some (AI 0), some (AI 0)]) E dX3_powerOf_3 rfl (by decide) rfl ?_
  refine z_loop (St := Int32 × Int32) (Pi := fun ⟨q4_2_0, q4_3_0⟩ v4 => (0 ≤ q4_3_0.toInt ∧ q4_3_0.toInt ≤ 64) ∧ w = v4) (Lf := fun ⟨q4_2_0, q4_3_0⟩ => [some (AR 89), some (AI x1), some (AI q4_2_0), some (AI q4_3_0)]) (fun ⟨q4_2_0, q4_3_0⟩ _ => (65 - q4_3_0.toInt).toNat) ⟨0, 0⟩ ⟨⟨by decide, by decide⟩, rfl⟩ ?_
  rintro ⟨q4_2_0, q4_3_0⟩ v4 ⟨hq4_3, hv_⟩ ih4
  subst hv_
  have hbq4_2 := z32 q4_2_0
  refine s_loc (L2 := [some (AR 89), some (AI x1), some (AI q4_2_0), some (AI q4_3_0)]) rfl ?_
  refine s_iload_n E dX3_powerOf_4 rfl rfl ?_
  refine s_iconst (v := 1) E dX3_powerOf_5 (by decide) ?_
  refine s_aload_n E dX3_powerOf_6 rfl rfl ?_
  refine s_gI E fg_X3_27 rfl rfl (jv_lt hJ (by decide)) dX3_powerOf_7 ?_
  refine z_nm (P := fun z => z.toInt = (w.2.2.1 89 1).toInt ∧ 0 ≤ z.toInt ∧ z.toInt ≤ 6) ⟨rfl, (rg_89_1 hJ)⟩ (fun z_2 hz_2 => ?_)
  refine z_shl1 6 (u := z_2.toInt) (B := 64) E dX3_powerOf_10 rfl (by omega) (by omega) (by decide) (by decide) (fun z_3 hz_3 => ?_)
  refine z_icmp_ge (tgt := 53) (u := q4_3_0.toInt) (v := z_3.toInt) E dX3_powerOf_11 (by decide) rfl rfl (fun h_4 => ?_) (fun h_4 => ?_)
  ·
    refine s_iload_n E dX3_powerOf_53 rfl rfl ?_
    exact r_int E dX3_powerOf_54 ⟨⟨by have hb_ := z32 q4_2_0; omega, by have hb_ := z32 q4_2_0; omega⟩, rfl⟩
  ·
    refine s_iload_n E dX3_powerOf_14 rfl rfl ?_
    refine s_iload_n E dX3_powerOf_15 rfl rfl ?_
    refine s_sI (As := [AI q4_3_0, AI x1]) (S := []) E (Z_X9_hasBit l D aC b w q4_3_0 x1 hJ.1 ) cs_X3_35 rfl rfl (Nat.le_of_ble_eq_true rfl) (Nat.le_of_ble_eq_true rfl) ⟨(Nat.le_of_ble_eq_true rfl), (Nat.le_of_ble_eq_true rfl)⟩ (Nat.le_of_ble_eq_true rfl) dX3_powerOf_16 (fun z_7 u_5 hp_6 => ?_)
    obtain ⟨hz_7, hp_6⟩ := hp_6
    subst hp_6
    refine z_if_eq (tgt := 47) (u := z_7.toInt) E dX3_powerOf_19 (by decide) rfl (fun h_9 => ?_) (fun h_9 => ?_)
    ·
      refine z_iinc (u := q4_3_0.toInt) (L2 := fun z_10 => [some (AR 89), some (AI x1), some (AI q4_2_0), some (AI z_10)]) E dX3_powerOf_47 rfl rfl (by decide) (fun _ => rfl) (by decide) (by omega) (by omega) (fun z_10 hz_10 => ?_)
      refine s_goto (tgt := 4) E dX3_powerOf_50 (by decide) ?_
      exact ih4 ⟨q4_2_0, z_10⟩ w ⟨⟨by have hb_ := z32 z_10; omega, by have hb_ := z32 z_10; omega⟩, rfl⟩ (by first | omega | decide | (dsimp only; omega) | (dsimp only; decide))
    ·
      refine s_aload_n E dX3_powerOf_22 rfl rfl ?_
      refine s_iload_n E dX3_powerOf_23 rfl rfl ?_
      refine s_vI (As := [AI q4_3_0]) (S := []) E (Z_X3_isMajority_89 l D aC b w q4_3_0 hJ.1 ) cv_X3_46 rfl rfl rfl (jv_lt hJ (by decide)) (Nat.le_of_ble_eq_true rfl) (Nat.le_of_ble_eq_true rfl) ⟨(Nat.le_of_ble_eq_true rfl), (Nat.le_of_ble_eq_true rfl)⟩ (Nat.le_of_ble_eq_true rfl) dX3_powerOf_24 (fun z_13 u_11 hp_12 => ?_)
      obtain ⟨hz_13, hp_12⟩ := hp_12
      subst hp_12
      refine z_if_eq (tgt := 47) (u := z_13.toInt) E dX3_powerOf_27 (by decide) rfl (fun h_15 => ?_) (fun h_15 => ?_)
      ·
        refine z_iinc (u := q4_3_0.toInt) (L2 := fun z_16 => [some (AR 89), some (AI x1), some (AI q4_2_0), some (AI z_16)]) E dX3_powerOf_47 rfl rfl (by decide) (fun _ => rfl) (by decide) (by omega) (by omega) (fun z_16 hz_16 => ?_)
        refine s_goto (tgt := 4) E dX3_powerOf_50 (by decide) ?_
        exact ih4 ⟨q4_2_0, z_16⟩ w ⟨⟨by have hb_ := z32 z_16; omega, by have hb_ := z32 z_16; omega⟩, rfl⟩ (by first | omega | decide | (dsimp only; omega) | (dsimp only; decide))
      ·
        refine s_aload_n E dX3_powerOf_30 rfl rfl ?_
        refine s_iload_n E dX3_powerOf_31 rfl rfl ?_
        refine s_iconst (v := 1) E dX3_powerOf_32 (by decide) ?_
        refine s_iload_n E dX3_powerOf_33 rfl rfl ?_
        refine s_ishl E dX3_powerOf_34 ?_
        refine z_nm (P := fun z => (-2147483648) ≤ z.toInt ∧ z.toInt ≤ 2147483647) (z32 _) (fun z_17 hz_17 => ?_)
        refine s_iconst (v := (-1)) E dX3_powerOf_35 (by decide) ?_
        refine s_ixor E dX3_powerOf_36 ?_
        refine z_nm (P := fun z => (-2147483648) ≤ z.toInt ∧ z.toInt ≤ 2147483647) (z32 _) (fun z_18 hz_18 => ?_)
        refine s_iand E dX3_powerOf_37 ?_
        refine z_nm (P := fun z => (-2147483648) ≤ z.toInt ∧ z.toInt ≤ 2147483647) (z32 _) (fun z_19 hz_19 => ?_)
        refine s_vI (As := [AI z_19]) (S := []) E (Z_X3_isMajority_89 l D aC b w z_19 hJ.1 ) cv_X3_46 rfl rfl rfl (jv_lt hJ (by decide)) (Nat.le_of_ble_eq_true rfl) (Nat.le_of_ble_eq_true rfl) ⟨(Nat.le_of_ble_eq_true rfl), (Nat.le_of_ble_eq_true rfl)⟩ (Nat.le_of_ble_eq_true rfl) dX3_powerOf_38 (fun z_22 u_20 hp_21 => ?_)
        obtain ⟨hz_22, hp_21⟩ := hp_21
        subst hp_21
        refine z_if_ne (tgt := 47) (u := z_22.toInt) E dX3_powerOf_41 (by decide) rfl (fun h_24 => ?_) (fun h_24 => ?_)
        ·
          refine z_iinc (u := q4_3_0.toInt) (L2 := fun z_25 => [some (AR 89), some (AI x1), some (AI q4_2_0), some (AI z_25)]) E dX3_powerOf_47 rfl rfl (by decide) (fun _ => rfl) (by decide) (by omega) (by omega) (fun z_25 hz_25 => ?_)
          refine s_goto (tgt := 4) E dX3_powerOf_50 (by decide) ?_
          exact ih4 ⟨q4_2_0, z_25⟩ w ⟨⟨by have hb_ := z32 z_25; omega, by have hb_ := z32 z_25; omega⟩, rfl⟩ (by first | omega | decide | (dsimp only; omega) | (dsimp only; decide))
        ·
          refine z_iincW (L2 := fun z_26 => [some (AR 89), some (AI x1), some (AI z_26), some (AI q4_3_0)]) E dX3_powerOf_44 rfl (by decide) (fun _ => rfl) (fun z_26 => ?_)
          refine z_iinc (u := q4_3_0.toInt) (L2 := fun z_27 => [some (AR 89), some (AI x1), some (AI z_26), some (AI z_27)]) E dX3_powerOf_47 rfl rfl (by decide) (fun _ => rfl) (by decide) (by omega) (by omega) (fun z_27 hz_27 => ?_)
          refine s_goto (tgt := 4) E dX3_powerOf_50 (by decide) ?_
          exact ih4 ⟨z_26, z_27⟩ w ⟨⟨by have hb_ := z32 z_27; omega, by have hb_ := z32 z_27; omega⟩, rfl⟩ (by first | omega | decide | (dsimp only; omega) | (dsimp only; decide))
set_option maxRecDepth 20000 in
set_option maxHeartbeats 2000000 in
theorem Z_X9_dummies_0 (l : Launch) (D : va_G) (aC : Nat → ClassId) (b : Nat) (w : XW)  (hI : Iv w)  : CnI l D aC b M_X9_dummies 4 89 0 0 [AR 0] w (fun r u => ((-2147483648) ≤ r.toInt ∧ r.toInt ≤ 2147483647 ∧ (¬ r.toInt = 0 ∨ (1 ≤ (w.2.2.1 2 0).toInt ∧ (w.2.2.1 2 0).toInt ≤ 2147483647))) ∧ Jv w u) := by
  refine cn_I (own := RX9) (nm := "dummies") (L0 := [some (AR 0), none, none]) (by decide +kernel) rfl rfl (Nat.le_of_ble_eq_true rfl) rfl ?_
  intro p e s m args below meth c E hin
  have hJ : Jv w w := jv_rfl hI
  refine s_aload_n E dX9_dummies_0 rfl rfl ?_
  refine s_gR (r := 2) E fg_X9_20 rfl rfl (jv_lt hJ (by decide)) (jv_r hJ (by decide +kernel)) dX9_dummies_1 ?_
  refine s_vI (As := []) (S := []) E (Z_X0_isTold_2 l D aC b w  hJ.1 ) cv_X9_184 rfl rfl rfl (jv_lt hJ (by decide)) (Nat.le_of_ble_eq_true rfl) (Nat.le_of_ble_eq_true rfl) ⟨(Nat.le_of_ble_eq_true rfl), (Nat.le_of_ble_eq_true rfl)⟩ (Nat.le_of_ble_eq_true rfl) dX9_dummies_4 (fun z_3 u_1 hp_2 => ?_)
  obtain ⟨hz_3, hp_2⟩ := hp_2
  subst hp_2
  refine z_if_ne (tgt := 13) (u := z_3.toInt) E dX9_dummies_7 (by decide) rfl (fun h_5 => ?_) (fun h_5 => ?_)
  ·
    refine s_aload_n E dX9_dummies_13 rfl rfl ?_
    refine s_gR (r := 89) E fg_X9_78 rfl rfl (jv_lt hJ (by decide)) (jv_r hJ (by decide +kernel)) dX9_dummies_14 ?_
    refine s_aload_n E dX9_dummies_17 rfl rfl ?_
    refine s_gR (r := 2) E fg_X9_20 rfl rfl (jv_lt hJ (by decide)) (jv_r hJ (by decide +kernel)) dX9_dummies_18 ?_
    refine s_vV (As := [AR 2]) (S := []) E (Z_X3_tally_89_r2 l D aC b w  hJ.1 ) cv_X9_311 rfl rfl rfl (jv_lt hJ (by decide)) (Nat.le_of_ble_eq_true rfl) (Nat.le_of_ble_eq_true rfl) ⟨(Nat.le_of_ble_eq_true rfl), (Nat.le_of_ble_eq_true rfl)⟩ (Nat.le_of_ble_eq_true rfl) dX9_dummies_21 (fun u_6 hp_7 => ?_)
    have hj_8 := jv_trans hJ hp_7
    refine s_iconst (v := 0) E dX9_dummies_24 (by decide) ?_
    refine s_istore_n (L2 := [some (AR 0), some (AI 0), none]) E dX9_dummies_25 rfl (by decide) rfl ?_
    refine s_iconst (v := 0) E dX9_dummies_26 (by decide) ?_
    refine s_istore_n (L2 := [some (AR 0), some (AI 0), some (AI 0)]) E dX9_dummies_27 rfl (by decide) rfl ?_
    refine z_loop (St := Int32 × Int32) (Pi := fun ⟨q28_1_8, q28_2_8⟩ v28 => (0 ≤ q28_2_8.toInt ∧ q28_2_8.toInt ≤ 6) ∧ u_6 = v28) (Lf := fun ⟨q28_1_8, q28_2_8⟩ => [some (AR 0), some (AI q28_1_8), some (AI q28_2_8)]) (fun ⟨q28_1_8, q28_2_8⟩ _ => (7 - q28_2_8.toInt).toNat) ⟨0, 0⟩ ⟨⟨by decide, by decide⟩, rfl⟩ ?_
    rintro ⟨q28_1_8, q28_2_8⟩ v28 ⟨hq28_2, hv_⟩ ih28
    subst hv_
    have hbq28_1 := z32 q28_1_8
    refine s_loc (L2 := [some (AR 0), some (AI q28_1_8), some (AI q28_2_8)]) rfl ?_
    refine s_iload_n E dX9_dummies_28 rfl rfl ?_
    refine s_aload_n E dX9_dummies_29 rfl rfl ?_
    refine s_gR (r := 2) E fg_X9_20 rfl rfl (jv_lt hj_8 (by decide)) (jv_r hj_8 (by decide +kernel)) dX9_dummies_30 ?_
    refine s_gR (r := 5) E fg_X9_133 rfl rfl (jv_lt hj_8 (by decide)) (jv_r hj_8 (by decide +kernel)) dX9_dummies_33 ?_
    refine s_gI E fg_X9_200 rfl rfl (jv_lt hj_8 (by decide)) dX9_dummies_36 ?_
    refine z_nm (P := fun z => z.toInt = (u_6.2.2.1 5 3).toInt ∧ 0 ≤ z.toInt ∧ z.toInt ≤ 6) ⟨rfl, (rg_5_3 hj_8)⟩ (fun z_10 hz_10 => ?_)
    refine z_icmp_ge (tgt := 65) (u := q28_2_8.toInt) (v := z_10.toInt) E dX9_dummies_39 (by decide) rfl rfl (fun h_11 => ?_) (fun h_11 => ?_)
    ·
      refine s_iload_n E dX9_dummies_65 rfl rfl ?_
      exact r_int E dX9_dummies_66 ⟨⟨by have hb_ := z32 q28_1_8; omega, by have hb_ := z32 q28_1_8; omega, by first | (right; decide) | (have hb_ := z32 q28_1_8; omega) | (have hb_ := z32 q28_1_8; have hc_ := z32 (w.2.2.1 2 0); omega)⟩, hj_8⟩
    ·
      refine s_aload_n E dX9_dummies_42 rfl rfl ?_
      refine s_gR (r := 89) E fg_X9_78 rfl rfl (jv_lt hj_8 (by decide)) (jv_r hj_8 (by decide +kernel)) dX9_dummies_43 ?_
      refine s_iload_n E dX9_dummies_46 rfl rfl ?_
      refine s_vI (As := [AI q28_2_8]) (S := []) E (Z_X3_powerOf_89 l D aC b u_6 q28_2_8 hj_8.1 ) cv_X9_317 rfl rfl rfl (jv_lt hj_8 (by decide)) (Nat.le_of_ble_eq_true rfl) (Nat.le_of_ble_eq_true rfl) ⟨(Nat.le_of_ble_eq_true rfl), (Nat.le_of_ble_eq_true rfl)⟩ (Nat.le_of_ble_eq_true rfl) dX9_dummies_47 (fun z_14 u_12 hp_13 => ?_)
      obtain ⟨hz_14, hp_13⟩ := hp_13
      subst hp_13
      refine z_if_ne (tgt := 59) (u := z_14.toInt) E dX9_dummies_50 (by decide) rfl (fun h_16 => ?_) (fun h_16 => ?_)
      ·
        refine z_iinc (u := q28_2_8.toInt) (L2 := fun z_17 => [some (AR 0), some (AI q28_1_8), some (AI z_17)]) E dX9_dummies_59 rfl rfl (by decide) (fun _ => rfl) (by decide) (by omega) (by omega) (fun z_17 hz_17 => ?_)
        refine s_goto (tgt := 28) E dX9_dummies_62 (by decide) ?_
        exact ih28 ⟨q28_1_8, z_17⟩ u_6 ⟨⟨by have hb_ := z32 z_17; omega, by have hb_ := z32 z_17; omega⟩, rfl⟩ (by first | omega | decide | (dsimp only; omega) | (dsimp only; decide))
      ·
        refine s_iload_n E dX9_dummies_53 rfl rfl ?_
        refine s_iconst (v := 1) E dX9_dummies_54 (by decide) ?_
        refine s_iload_n E dX9_dummies_55 rfl rfl ?_
        refine z_shl1 5 (u := q28_2_8.toInt) (B := 32) E dX9_dummies_56 rfl (by omega) (by omega) (by decide) (by decide) (fun z_18 hz_18 => ?_)
        refine s_ior E dX9_dummies_57 ?_
        refine z_nm (P := fun z => (-2147483648) ≤ z.toInt ∧ z.toInt ≤ 2147483647) (z32 _) (fun z_19 hz_19 => ?_)
        refine s_istore_n (L2 := [some (AR 0), some (AI z_19), some (AI q28_2_8)]) E dX9_dummies_58 rfl (by decide) rfl ?_
        refine z_iinc (u := q28_2_8.toInt) (L2 := fun z_20 => [some (AR 0), some (AI z_19), some (AI z_20)]) E dX9_dummies_59 rfl rfl (by decide) (fun _ => rfl) (by decide) (by omega) (by omega) (fun z_20 hz_20 => ?_)
        refine s_goto (tgt := 28) E dX9_dummies_62 (by decide) ?_
        exact ih28 ⟨z_19, z_20⟩ u_6 ⟨⟨by have hb_ := z32 z_20; omega, by have hb_ := z32 z_20; omega⟩, rfl⟩ (by first | omega | decide | (dsimp only; omega) | (dsimp only; decide))
  ·
    refine s_bipush (v := (-2)) E dX9_dummies_10 (by decide) ?_
    exact r_int E dX9_dummies_12 ⟨⟨by decide, by decide, by first | (left; decide) | (right; decide) | (right; have hb_ := z32 (w.2.2.1 2 0); omega)⟩, hJ⟩
set_option maxRecDepth 20000 in
set_option maxHeartbeats 2000000 in
theorem Z_X0_everybody_2 (l : Launch) (D : va_G) (aC : Nat → ClassId) (b : Nat) (w : XW)  (hI : Iv w)  : CnI l D aC b M_X0_everybody 0 0 0 0 [AR 2] w (fun r u => (0 ≤ r.toInt ∧ r.toInt ≤ 63) ∧ w = u) := by
  refine cn_I (own := RX0) (nm := "everybody") (L0 := [some (AR 2)]) (by decide +kernel) rfl rfl (Nat.le_of_ble_eq_true rfl) rfl ?_
  intro p e s m args below meth c E hin
  have hJ : Jv w w := jv_rfl hI
  refine s_iconst (v := 1) E dX0_everybody_0 (by decide) ?_
  refine s_aload_n E dX0_everybody_1 rfl rfl ?_
  refine s_gR (r := 5) E fg_X0_20 rfl rfl (jv_lt hJ (by decide)) (jv_r hJ (by decide +kernel)) dX0_everybody_2 ?_
  refine s_gI E fg_X0_67 rfl rfl (jv_lt hJ (by decide)) dX0_everybody_5 ?_
  refine z_nm (P := fun z => z.toInt = (w.2.2.1 5 3).toInt ∧ 0 ≤ z.toInt ∧ z.toInt ≤ 6) ⟨rfl, (rg_5_3 hJ)⟩ (fun z_1 hz_1 => ?_)
  refine z_shl1 6 (u := z_1.toInt) (B := 64) E dX0_everybody_8 rfl (by omega) (by omega) (by decide) (by decide) (fun z_2 hz_2 => ?_)
  refine s_iconst (v := 1) E dX0_everybody_9 (by decide) ?_
  refine z_isub (u := z_2.toInt) (v := 1) E dX0_everybody_10 rfl (by decide) (by omega) (by omega) (fun z_3 hz_3 => ?_)
  exact r_int E dX0_everybody_11 ⟨⟨by have hb_ := z32 z_3; omega, by have hb_ := z32 z_3; omega⟩, rfl⟩
set_option maxRecDepth 20000 in
set_option maxHeartbeats 2000000 in
theorem Z_X0_hasSet_2 (l : Launch) (D : va_G) (aC : Nat → ClassId) (b : Nat) (w : XW) (x1 : Int32) (hI : Iv w)  : CnI l D aC b M_X0_hasSet 1 20 0 0 [AR 2, AI x1] w (fun r u => (0 ≤ r.toInt ∧ r.toInt ≤ 1 ∧ (r.toInt = 0 ∨ (0 ≤ x1.toInt ∧ x1.toInt ≤ 63)) ∧ (r.toInt = 0 ∨ (1 ≤ (w.2.2.1 2 0).toInt ∧ (w.2.2.1 2 0).toInt ≤ 2147483647))) ∧ w = u) := by
  refine cn_I (own := RX0) (nm := "hasSet") (L0 := [some (AR 2), some (AI x1)]) (by decide +kernel) rfl rfl (Nat.le_of_ble_eq_true rfl) rfl ?_
  intro p e s m args below meth c E hin
  have hJ : Jv w w := jv_rfl hI
  have hb_x1 := z32 x1
  refine s_aload_n E dX0_hasSet_0 rfl rfl ?_
  refine s_vI (As := []) (S := []) E (Z_X0_isTold_2 l D aC b w  hJ.1 ) cv_X0_59 rfl rfl rfl (jv_lt hJ (by decide)) (Nat.le_of_ble_eq_true rfl) (Nat.le_of_ble_eq_true rfl) ⟨(Nat.le_of_ble_eq_true rfl), (Nat.le_of_ble_eq_true rfl)⟩ (Nat.le_of_ble_eq_true rfl) dX0_hasSet_1 (fun z_3 u_1 hp_2 => ?_)
  obtain ⟨hz_3, hp_2⟩ := hp_2
  subst hp_2
  refine z_if_eq (tgt := 23) (u := z_3.toInt) E dX0_hasSet_4 (by decide) rfl (fun h_5 => ?_) (fun h_5 => ?_)
  ·
    refine s_iconst (v := 0) E dX0_hasSet_23 (by decide) ?_
    exact r_bool E dX0_hasSet_24 (Or.inl rfl) ⟨⟨by decide, by decide, by first | (left; decide) | (right; decide) | (right; have hb_ := z32 x1; omega), by first | (left; decide) | (right; decide) | (right; have hb_ := z32 (w.2.2.1 2 0); omega)⟩, rfl⟩
  ·
    refine s_iload_n E dX0_hasSet_7 rfl rfl ?_
    refine z_if_lt (tgt := 23) (u := x1.toInt) E dX0_hasSet_8 (by decide) rfl (fun h_6 => ?_) (fun h_6 => ?_)
    ·
      refine s_iconst (v := 0) E dX0_hasSet_23 (by decide) ?_
      exact r_bool E dX0_hasSet_24 (Or.inl rfl) ⟨⟨by decide, by decide, by first | (left; decide) | (right; decide) | (right; have hb_ := z32 x1; omega), by first | (left; decide) | (right; decide) | (right; have hb_ := z32 (w.2.2.1 2 0); omega)⟩, rfl⟩
    ·
      refine s_iload_n E dX0_hasSet_11 rfl rfl ?_
      refine s_aload_n E dX0_hasSet_12 rfl rfl ?_
      refine s_vI (As := []) (S := [AI x1]) E (Z_X0_everybody_2 l D aC b w  hJ.1 ) cv_X0_63 rfl rfl rfl (jv_lt hJ (by decide)) (Nat.le_of_ble_eq_true rfl) (Nat.le_of_ble_eq_true rfl) ⟨(Nat.le_of_ble_eq_true rfl), (Nat.le_of_ble_eq_true rfl)⟩ (Nat.le_of_ble_eq_true rfl) dX0_hasSet_13 (fun z_9 u_7 hp_8 => ?_)
      obtain ⟨hz_9, hp_8⟩ := hp_8
      subst hp_8
      refine z_icmp_gt (tgt := 23) (u := x1.toInt) (v := z_9.toInt) E dX0_hasSet_16 (by decide) rfl rfl (fun h_11 => ?_) (fun h_11 => ?_)
      ·
        refine s_iconst (v := 0) E dX0_hasSet_23 (by decide) ?_
        exact r_bool E dX0_hasSet_24 (Or.inl rfl) ⟨⟨by decide, by decide, by first | (left; decide) | (right; decide) | (right; have hb_ := z32 x1; omega), by first | (left; decide) | (right; decide) | (right; have hb_ := z32 (w.2.2.1 2 0); omega)⟩, rfl⟩
      ·
        refine s_iconst (v := 1) E dX0_hasSet_19 (by decide) ?_
        refine s_goto (tgt := 24) E dX0_hasSet_20 (by decide) ?_
        exact r_bool E dX0_hasSet_24 (Or.inr rfl) ⟨⟨by decide, by decide, by first | (left; decide) | (right; decide) | (right; have hb_ := z32 x1; omega), by first | (left; decide) | (right; decide) | (right; have hb_ := z32 (w.2.2.1 2 0); omega)⟩, rfl⟩
set_option maxRecDepth 20000 in
set_option maxHeartbeats 2000000 in
theorem Z_X9_blocks_0 (l : Launch) (D : va_G) (aC : Nat → ClassId) (b : Nat) (w : XW) (x1 : Int32) (hI : Iv w)  : CnI l D aC b M_X9_blocks 4 89 0 0 [AR 0, AI x1] w (fun r u => ((-2) ≤ r.toInt ∧ r.toInt ≤ 1 ∧ (¬ r.toInt = 0 ∨ (0 ≤ x1.toInt ∧ x1.toInt ≤ 63)) ∧ (¬ r.toInt = 0 ∨ (1 ≤ (w.2.2.1 2 0).toInt ∧ (w.2.2.1 2 0).toInt ≤ 2147483647))) ∧ Jv w u) := by
  refine cn_I (own := RX9) (nm := "blocks") (L0 := [some (AR 0), some (AI x1)]) (by decide +kernel) rfl rfl (Nat.le_of_ble_eq_true rfl) rfl ?_
  intro p e s m args below meth c E hin
  have hJ : Jv w w := jv_rfl hI
  have hb_x1 := z32 x1
  refine s_aload_n E dX9_blocks_0 rfl rfl ?_
  refine s_gR (r := 2) E fg_X9_20 rfl rfl (jv_lt hJ (by decide)) (jv_r hJ (by decide +kernel)) dX9_blocks_1 ?_
  refine s_iload_n E dX9_blocks_4 rfl rfl ?_
  refine s_vI (As := [AI x1]) (S := []) E (Z_X0_hasSet_2 l D aC b w x1 hJ.1 ) cv_X9_308 rfl rfl rfl (jv_lt hJ (by decide)) (Nat.le_of_ble_eq_true rfl) (Nat.le_of_ble_eq_true rfl) ⟨(Nat.le_of_ble_eq_true rfl), (Nat.le_of_ble_eq_true rfl)⟩ (Nat.le_of_ble_eq_true rfl) dX9_blocks_5 (fun z_3 u_1 hp_2 => ?_)
  obtain ⟨hz_3, hp_2⟩ := hp_2
  subst hp_2
  refine z_if_ne (tgt := 14) (u := z_3.toInt) E dX9_blocks_8 (by decide) rfl (fun h_5 => ?_) (fun h_5 => ?_)
  ·
    refine s_aload_n E dX9_blocks_14 rfl rfl ?_
    refine s_gR (r := 89) E fg_X9_78 rfl rfl (jv_lt hJ (by decide)) (jv_r hJ (by decide +kernel)) dX9_blocks_15 ?_
    refine s_aload_n E dX9_blocks_18 rfl rfl ?_
    refine s_gR (r := 2) E fg_X9_20 rfl rfl (jv_lt hJ (by decide)) (jv_r hJ (by decide +kernel)) dX9_blocks_19 ?_
    refine s_vV (As := [AR 2]) (S := []) E (Z_X3_tally_89_r2 l D aC b w  hJ.1 ) cv_X9_311 rfl rfl rfl (jv_lt hJ (by decide)) (Nat.le_of_ble_eq_true rfl) (Nat.le_of_ble_eq_true rfl) ⟨(Nat.le_of_ble_eq_true rfl), (Nat.le_of_ble_eq_true rfl)⟩ (Nat.le_of_ble_eq_true rfl) dX9_blocks_22 (fun u_6 hp_7 => ?_)
    have hj_8 := jv_trans hJ hp_7
    refine s_aload_n E dX9_blocks_25 rfl rfl ?_
    refine s_gR (r := 89) E fg_X9_78 rfl rfl (jv_lt hj_8 (by decide)) (jv_r hj_8 (by decide +kernel)) dX9_blocks_26 ?_
    refine s_aload_n E dX9_blocks_29 rfl rfl ?_
    refine s_gR (r := 2) E fg_X9_20 rfl rfl (jv_lt hj_8 (by decide)) (jv_r hj_8 (by decide +kernel)) dX9_blocks_30 ?_
    refine s_vI (As := []) (S := [AR 89]) E (Z_X0_everybody_2 l D aC b u_6  hj_8.1 ) cv_X9_240 rfl rfl rfl (jv_lt hj_8 (by decide)) (Nat.le_of_ble_eq_true rfl) (Nat.le_of_ble_eq_true rfl) ⟨(Nat.le_of_ble_eq_true rfl), (Nat.le_of_ble_eq_true rfl)⟩ (Nat.le_of_ble_eq_true rfl) dX9_blocks_33 (fun z_11 u_9 hp_10 => ?_)
    obtain ⟨hz_11, hp_10⟩ := hp_10
    subst hp_10
    refine s_iload_n E dX9_blocks_36 rfl rfl ?_
    refine s_iconst (v := (-1)) E dX9_blocks_37 (by decide) ?_
    refine s_ixor E dX9_blocks_38 ?_
    refine z_nm (P := fun z => (-2147483648) ≤ z.toInt ∧ z.toInt ≤ 2147483647) (z32 _) (fun z_13 hz_13 => ?_)
    refine s_iand E dX9_blocks_39 ?_
    refine z_nm (P := fun z => (-2147483648) ≤ z.toInt ∧ z.toInt ≤ 2147483647) (z32 _) (fun z_14 hz_14 => ?_)
    refine s_vI (As := [AI z_14]) (S := []) E (Z_X3_isMajority_89 l D aC b u_6 z_14 hj_8.1 ) cv_X9_314 rfl rfl rfl (jv_lt hj_8 (by decide)) (Nat.le_of_ble_eq_true rfl) (Nat.le_of_ble_eq_true rfl) ⟨(Nat.le_of_ble_eq_true rfl), (Nat.le_of_ble_eq_true rfl)⟩ (Nat.le_of_ble_eq_true rfl) dX9_blocks_40 (fun z_17 u_15 hp_16 => ?_)
    obtain ⟨hz_17, hp_16⟩ := hp_16
    subst hp_16
    refine z_if_eq (tgt := 50) (u := z_17.toInt) E dX9_blocks_43 (by decide) rfl (fun h_19 => ?_) (fun h_19 => ?_)
    ·
      refine s_iconst (v := 1) E dX9_blocks_50 (by decide) ?_
      exact r_int E dX9_blocks_51 ⟨⟨by decide, by decide, by first | (left; decide) | (right; decide) | (right; have hb_ := z32 x1; omega), by first | (left; decide) | (right; decide) | (right; have hb_ := z32 (w.2.2.1 2 0); omega)⟩, hj_8⟩
    ·
      refine s_iconst (v := 0) E dX9_blocks_46 (by decide) ?_
      refine s_goto (tgt := 51) E dX9_blocks_47 (by decide) ?_
      exact r_int E dX9_blocks_51 ⟨⟨by decide, by decide, by first | (left; decide) | (right; decide) | (right; have hb_ := z32 x1; omega), by first | (left; decide) | (right; decide) | (right; have hb_ := z32 (w.2.2.1 2 0); omega)⟩, hj_8⟩
  ·
    refine s_bipush (v := (-2)) E dX9_blocks_11 (by decide) ?_
    exact r_int E dX9_blocks_13 ⟨⟨by decide, by decide, by first | (left; decide) | (right; decide) | (right; have hb_ := z32 x1; omega), by first | (left; decide) | (right; decide) | (right; have hb_ := z32 (w.2.2.1 2 0); omega)⟩, hJ⟩
set_option maxRecDepth 20000 in
set_option maxHeartbeats 2000000 in
theorem Z_X9_strongest_0 (l : Launch) (D : va_G) (aC : Nat → ClassId) (b : Nat) (w : XW)  (hI : Iv w)  : CnI l D aC b M_X9_strongest 4 89 0 0 [AR 0] w (fun r u => ((-2) ≤ r.toInt ∧ r.toInt ≤ 64 ∧ (¬ r.toInt = 0 ∨ (1 ≤ (w.2.2.1 2 0).toInt ∧ (w.2.2.1 2 0).toInt ≤ 2147483647))) ∧ Jv w u) := by
  refine cn_I (own := RX9) (nm := "strongest") (L0 := [some (AR 0), none, none, none, none]) (by decide +kernel) rfl rfl (Nat.le_of_ble_eq_true rfl) rfl ?_
  intro p e s m args below meth c E hin
  have hJ : Jv w w := jv_rfl hI
  refine s_aload_n E dX9_strongest_0 rfl rfl ?_
  refine s_gR (r := 2) E fg_X9_20 rfl rfl (jv_lt hJ (by decide)) (jv_r hJ (by decide +kernel)) dX9_strongest_1 ?_
  refine s_vI (As := []) (S := []) E (Z_X0_isTold_2 l D aC b w  hJ.1 ) cv_X9_184 rfl rfl rfl (jv_lt hJ (by decide)) (Nat.le_of_ble_eq_true rfl) (Nat.le_of_ble_eq_true rfl) ⟨(Nat.le_of_ble_eq_true rfl), (Nat.le_of_ble_eq_true rfl)⟩ (Nat.le_of_ble_eq_true rfl) dX9_strongest_4 (fun z_3 u_1 hp_2 => ?_)
  obtain ⟨hz_3, hp_2⟩ := hp_2
  subst hp_2
  refine z_if_ne (tgt := 13) (u := z_3.toInt) E dX9_strongest_7 (by decide) rfl (fun h_5 => ?_) (fun h_5 => ?_)
  ·
    refine s_aload_n E dX9_strongest_13 rfl rfl ?_
    refine s_gR (r := 89) E fg_X9_78 rfl rfl (jv_lt hJ (by decide)) (jv_r hJ (by decide +kernel)) dX9_strongest_14 ?_
    refine s_aload_n E dX9_strongest_17 rfl rfl ?_
    refine s_gR (r := 2) E fg_X9_20 rfl rfl (jv_lt hJ (by decide)) (jv_r hJ (by decide +kernel)) dX9_strongest_18 ?_
    refine s_vV (As := [AR 2]) (S := []) E (Z_X3_tally_89_r2 l D aC b w  hJ.1 ) cv_X9_311 rfl rfl rfl (jv_lt hJ (by decide)) (Nat.le_of_ble_eq_true rfl) (Nat.le_of_ble_eq_true rfl) ⟨(Nat.le_of_ble_eq_true rfl), (Nat.le_of_ble_eq_true rfl)⟩ (Nat.le_of_ble_eq_true rfl) dX9_strongest_21 (fun u_6 hp_7 => ?_)
    have hj_8 := jv_trans hJ hp_7
    refine s_iconst (v := (-1)) E dX9_strongest_24 (by decide) ?_
    refine s_istore_n (L2 := [some (AR 0), some (AI (-1)), none, none, none]) E dX9_strongest_25 rfl (by decide) rfl ?_
    refine s_iconst (v := 0) E dX9_strongest_26 (by decide) ?_
    refine s_istore_n (L2 := [some (AR 0), some (AI (-1)), some (AI 0), none, none]) E dX9_strongest_27 rfl (by decide) rfl ?_
    refine s_iconst (v := 0) E dX9_strongest_28 (by decide) ?_
    refine s_istore_n (L2 := [some (AR 0), some (AI (-1)), some (AI 0), some (AI 0), none]) E dX9_strongest_29 rfl (by decide) rfl ?_
    refine z_loop (St := Int32 × Int32 × Int32) (Pi := fun ⟨q30_1_8, q30_2_8, q30_3_8⟩ v30 => ((-1) ≤ q30_1_8.toInt ∧ q30_1_8.toInt ≤ 64) ∧ (0 ≤ q30_2_8.toInt ∧ q30_2_8.toInt ≤ 2147483647) ∧ (0 ≤ q30_3_8.toInt ∧ q30_3_8.toInt ≤ 6) ∧ u_6 = v30) (Lf := fun ⟨q30_1_8, q30_2_8, q30_3_8⟩ => [some (AR 0), some (AI q30_1_8), some (AI q30_2_8), some (AI q30_3_8), none]) (fun ⟨q30_1_8, q30_2_8, q30_3_8⟩ _ => (7 - q30_3_8.toInt).toNat) ⟨(-1), 0, 0⟩ ⟨⟨by decide, by decide⟩, ⟨by decide, by decide⟩, ⟨by decide, by decide⟩, rfl⟩ ?_
    rintro ⟨q30_1_8, q30_2_8, q30_3_8⟩ v30 ⟨hq30_1, hq30_2, hq30_3, hv_⟩ ih30
    subst hv_
    refine s_loc (L2 := [some (AR 0), some (AI q30_1_8), some (AI q30_2_8), some (AI q30_3_8), none]) rfl ?_
    refine s_iload_n E dX9_strongest_30 rfl rfl ?_
    refine s_aload_n E dX9_strongest_31 rfl rfl ?_
    refine s_gR (r := 2) E fg_X9_20 rfl rfl (jv_lt hj_8 (by decide)) (jv_r hj_8 (by decide +kernel)) dX9_strongest_32 ?_
    refine s_gR (r := 5) E fg_X9_133 rfl rfl (jv_lt hj_8 (by decide)) (jv_r hj_8 (by decide +kernel)) dX9_strongest_35 ?_
    refine s_gI E fg_X9_200 rfl rfl (jv_lt hj_8 (by decide)) dX9_strongest_38 ?_
    refine z_nm (P := fun z => z.toInt = (u_6.2.2.1 5 3).toInt ∧ 0 ≤ z.toInt ∧ z.toInt ≤ 6) ⟨rfl, (rg_5_3 hj_8)⟩ (fun z_10 hz_10 => ?_)
    refine z_icmp_ge (tgt := 71) (u := q30_3_8.toInt) (v := z_10.toInt) E dX9_strongest_41 (by decide) rfl rfl (fun h_11 => ?_) (fun h_11 => ?_)
    ·
      refine s_iload_n E dX9_strongest_71 rfl rfl ?_
      exact r_int E dX9_strongest_72 ⟨⟨by have hb_ := z32 q30_1_8; omega, by have hb_ := z32 q30_1_8; omega, by first | (right; decide) | (have hb_ := z32 q30_1_8; omega) | (have hb_ := z32 q30_1_8; have hc_ := z32 (w.2.2.1 2 0); omega)⟩, hj_8⟩
    ·
      refine s_aload_n E dX9_strongest_44 rfl rfl ?_
      refine s_gR (r := 89) E fg_X9_78 rfl rfl (jv_lt hj_8 (by decide)) (jv_r hj_8 (by decide +kernel)) dX9_strongest_45 ?_
      refine s_iload_n E dX9_strongest_48 rfl rfl ?_
      refine s_vI (As := [AI q30_3_8]) (S := []) E (Z_X3_powerOf_89 l D aC b u_6 q30_3_8 hj_8.1 ) cv_X9_317 rfl rfl rfl (jv_lt hj_8 (by decide)) (Nat.le_of_ble_eq_true rfl) (Nat.le_of_ble_eq_true rfl) ⟨(Nat.le_of_ble_eq_true rfl), (Nat.le_of_ble_eq_true rfl)⟩ (Nat.le_of_ble_eq_true rfl) dX9_strongest_49 (fun z_14 u_12 hp_13 => ?_)
      obtain ⟨hz_14, hp_13⟩ := hp_13
      subst hp_13
      refine s_istore (L2 := [some (AR 0), some (AI q30_1_8), some (AI q30_2_8), some (AI q30_3_8), some (AI z_14)]) E dX9_strongest_52 (by decide) rfl ?_
      refine s_iload E dX9_strongest_54 rfl ?_
      refine s_iload_n E dX9_strongest_56 rfl rfl ?_
      refine z_icmp_le (tgt := 65) (u := z_14.toInt) (v := q30_2_8.toInt) E dX9_strongest_57 (by decide) rfl rfl (fun h_16 => ?_) (fun h_16 => ?_)
      ·
        refine z_iinc (u := q30_3_8.toInt) (L2 := fun z_17 => [some (AR 0), some (AI q30_1_8), some (AI q30_2_8), some (AI z_17), some (AI z_14)]) E dX9_strongest_65 rfl rfl (by decide) (fun _ => rfl) (by decide) (by omega) (by omega) (fun z_17 hz_17 => ?_)
        refine s_goto (tgt := 30) E dX9_strongest_68 (by decide) ?_
        refine s_drop (i := 4) (L2 := [some (AR 0), some (AI q30_1_8), some (AI q30_2_8), some (AI z_17), none]) rfl ?_
        exact ih30 ⟨q30_1_8, q30_2_8, z_17⟩ u_6 ⟨⟨by have hb_ := z32 q30_1_8; omega, by have hb_ := z32 q30_1_8; omega⟩, ⟨by have hb_ := z32 q30_2_8; omega, by have hb_ := z32 q30_2_8; omega⟩, ⟨by have hb_ := z32 z_17; omega, by have hb_ := z32 z_17; omega⟩, rfl⟩ (by first | omega | decide | (dsimp only; omega) | (dsimp only; decide))
      ·
        refine s_iload E dX9_strongest_60 rfl ?_
        refine s_istore_n (L2 := [some (AR 0), some (AI q30_1_8), some (AI z_14), some (AI q30_3_8), some (AI z_14)]) E dX9_strongest_62 rfl (by decide) rfl ?_
        refine s_iload_n E dX9_strongest_63 rfl rfl ?_
        refine s_istore_n (L2 := [some (AR 0), some (AI q30_3_8), some (AI z_14), some (AI q30_3_8), some (AI z_14)]) E dX9_strongest_64 rfl (by decide) rfl ?_
        refine z_iinc (u := q30_3_8.toInt) (L2 := fun z_18 => [some (AR 0), some (AI q30_3_8), some (AI z_14), some (AI z_18), some (AI z_14)]) E dX9_strongest_65 rfl rfl (by decide) (fun _ => rfl) (by decide) (by omega) (by omega) (fun z_18 hz_18 => ?_)
        refine s_goto (tgt := 30) E dX9_strongest_68 (by decide) ?_
        refine s_drop (i := 4) (L2 := [some (AR 0), some (AI q30_3_8), some (AI z_14), some (AI z_18), none]) rfl ?_
        exact ih30 ⟨q30_3_8, z_14, z_18⟩ u_6 ⟨⟨by have hb_ := z32 q30_3_8; omega, by have hb_ := z32 q30_3_8; omega⟩, ⟨by have hb_ := z32 z_14; omega, by have hb_ := z32 z_14; omega⟩, ⟨by have hb_ := z32 z_18; omega, by have hb_ := z32 z_18; omega⟩, rfl⟩ (by first | omega | decide | (dsimp only; omega) | (dsimp only; decide))
  ·
    refine s_bipush (v := (-2)) E dX9_strongest_10 (by decide) ?_
    exact r_int E dX9_strongest_12 ⟨⟨by decide, by decide, by first | (left; decide) | (right; decide) | (right; have hb_ := z32 (w.2.2.1 2 0); omega)⟩, hJ⟩
set_option maxRecDepth 20000 in
set_option maxHeartbeats 2000000 in
theorem Z_X9_have_0 (l : Launch) (D : va_G) (aC : Nat → ClassId) (b : Nat) (w : XW) (x1 : Int32) (x2 : Int32) (hI : Iv w)  : CnI l D aC b M_X9_have 5 113 0 0 [AR 0, AI x1, AI x2] w (fun r u => ((-2147483648) ≤ r.toInt ∧ r.toInt ≤ 2147483647 ∧ (¬ r.toInt = 0 ∨ (0 ≤ x1.toInt ∧ x1.toInt ≤ 5)) ∧ (¬ r.toInt = 0 ∨ (0 ≤ x2.toInt ∧ x2.toInt ≤ 14)) ∧ (¬ r.toInt = 0 ∨ (1 ≤ (w.2.2.1 5 3).toInt ∧ (w.2.2.1 5 3).toInt ≤ 6)) ∧ (¬ r.toInt = 0 ∨ (1 ≤ (w.2.2.1 2 0).toInt ∧ (w.2.2.1 2 0).toInt ≤ 2147483647))) ∧ Jv w u) := by
  refine cn_I (own := RX9) (nm := "have") (L0 := [some (AR 0), some (AI x1), some (AI x2)]) (by decide +kernel) rfl rfl (Nat.le_of_ble_eq_true rfl) rfl ?_
  intro p e s m args below meth c E hin
  have hJ : Jv w w := jv_rfl hI
  have hb_x1 := z32 x1
  have hb_x2 := z32 x2
  refine s_aload_n E dX9_have_0 rfl rfl ?_
  refine s_gR (r := 2) E fg_X9_20 rfl rfl (jv_lt hJ (by decide)) (jv_r hJ (by decide +kernel)) dX9_have_1 ?_
  refine s_iload_n E dX9_have_4 rfl rfl ?_
  refine s_vI (As := [AI x1]) (S := []) E (Z_X0_hasLady_2 l D aC b w x1 hJ.1 ) cv_X9_139 rfl rfl rfl (jv_lt hJ (by decide)) (Nat.le_of_ble_eq_true rfl) (Nat.le_of_ble_eq_true rfl) ⟨(Nat.le_of_ble_eq_true rfl), (Nat.le_of_ble_eq_true rfl)⟩ (Nat.le_of_ble_eq_true rfl) dX9_have_5 (fun z_3 u_1 hp_2 => ?_)
  obtain ⟨hz_3, hp_2⟩ := hp_2
  subst hp_2
  refine z_if_eq (tgt := 22) (u := z_3.toInt) E dX9_have_8 (by decide) rfl (fun h_5 => ?_) (fun h_5 => ?_)
  ·
    refine s_bipush (v := (-2)) E dX9_have_22 (by decide) ?_
    exact r_int E dX9_have_24 ⟨⟨by decide, by decide, by first | (left; decide) | (right; decide) | (right; have hb_ := z32 x1; omega), by first | (left; decide) | (right; decide) | (right; have hb_ := z32 x2; omega), by first | (left; decide) | (right; decide) | (right; have hb_ := z32 (w.2.2.1 5 3); omega), by first | (left; decide) | (right; decide) | (right; have hb_ := z32 (w.2.2.1 2 0); omega)⟩, hJ⟩
  ·
    refine s_aload_n E dX9_have_11 rfl rfl ?_
    refine s_gR (r := 2) E fg_X9_20 rfl rfl (jv_lt hJ (by decide)) (jv_r hJ (by decide +kernel)) dX9_have_12 ?_
    refine s_iload_n E dX9_have_15 rfl rfl ?_
    refine s_vI (As := [AI x2]) (S := []) E (Z_X0_hasDance_2 l D aC b w x2 hJ.1 ) cv_X9_153 rfl rfl rfl (jv_lt hJ (by decide)) (Nat.le_of_ble_eq_true rfl) (Nat.le_of_ble_eq_true rfl) ⟨(Nat.le_of_ble_eq_true rfl), (Nat.le_of_ble_eq_true rfl)⟩ (Nat.le_of_ble_eq_true rfl) dX9_have_16 (fun z_8 u_6 hp_7 => ?_)
    obtain ⟨hz_8, hp_7⟩ := hp_7
    subst hp_7
    refine z_if_ne (tgt := 25) (u := z_8.toInt) E dX9_have_19 (by decide) rfl (fun h_10 => ?_) (fun h_10 => ?_)
    ·
      refine s_aload_n E dX9_have_25 rfl rfl ?_
      refine s_vV (As := []) (S := []) E (Z_X9_passAsTold_0 l D aC b w  hJ.1 ) cv_X9_227 rfl rfl rfl (jv_lt hJ (by decide)) (Nat.le_of_ble_eq_true rfl) (Nat.le_of_ble_eq_true rfl) ⟨(Nat.le_of_ble_eq_true rfl), (Nat.le_of_ble_eq_true rfl)⟩ (Nat.le_of_ble_eq_true rfl) dX9_have_26 (fun u_11 hp_12 => ?_)
      have hj_13 := jv_trans hJ hp_12
      refine s_aload_n E dX9_have_29 rfl rfl ?_
      refine s_gR (r := 81) E fg_X9_64 rfl rfl (jv_lt hj_13 (by decide)) (jv_r hj_13 (by decide +kernel)) dX9_have_30 ?_
      refine s_aload_n E dX9_have_33 rfl rfl ?_
      refine s_gR (r := 69) E fg_X9_54 rfl rfl (jv_lt hj_13 (by decide)) (jv_r hj_13 (by decide +kernel)) dX9_have_34 ?_
      refine s_iload_n E dX9_have_37 rfl rfl ?_
      refine s_iconst (v := 0) E dX9_have_38 (by decide) ?_
      refine s_vV (As := [AR 69, AI x1, AI 0]) (S := []) E (Z_X5_follow_81_r69 l D aC b u_11 x1 0 hj_13.1 ) cv_X9_220 rfl rfl rfl (jv_lt hj_13 (by decide)) (Nat.le_of_ble_eq_true rfl) (Nat.le_of_ble_eq_true rfl) ⟨(Nat.le_of_ble_eq_true rfl), (Nat.le_of_ble_eq_true rfl)⟩ (Nat.le_of_ble_eq_true rfl) dX9_have_39 (fun u_14 hp_15 => ?_)
      have hj_16 := jv_trans hj_13 hp_15
      refine s_aload_n E dX9_have_42 rfl rfl ?_
      refine s_gR (r := 81) E fg_X9_64 rfl rfl (jv_lt hj_16 (by decide)) (jv_r hj_16 (by decide +kernel)) dX9_have_43 ?_
      refine s_iload_n E dX9_have_46 rfl rfl ?_
      refine s_vI (As := [AI x2]) (S := []) E (Z_X5_behind_81 l D aC b u_14 x2 hj_16.1 ) cv_X9_224 rfl rfl rfl (jv_lt hj_16 (by decide)) (Nat.le_of_ble_eq_true rfl) (Nat.le_of_ble_eq_true rfl) ⟨(Nat.le_of_ble_eq_true rfl), (Nat.le_of_ble_eq_true rfl)⟩ (Nat.le_of_ble_eq_true rfl) dX9_have_47 (fun z_19 u_17 hp_18 => ?_)
      obtain ⟨hz_19, hp_18⟩ := hp_18
      subst hp_18
      exact r_int E dX9_have_50 ⟨⟨by have hb_ := z32 z_19; omega, by have hb_ := z32 z_19; omega, by first | (right; decide) | (have hb_ := z32 z_19; omega) | (have hb_ := z32 z_19; have hc_ := z32 x1; omega), by first | (right; decide) | (have hb_ := z32 z_19; omega) | (have hb_ := z32 z_19; have hc_ := z32 x2; omega), by first | (right; decide) | (have hb_ := z32 z_19; omega) | (have hb_ := z32 z_19; have hc_ := z32 (w.2.2.1 5 3); omega), by first | (right; decide) | (have hb_ := z32 z_19; omega) | (have hb_ := z32 z_19; have hc_ := z32 (w.2.2.1 2 0); omega)⟩, hj_16⟩
    ·
      refine s_bipush (v := (-2)) E dX9_have_22 (by decide) ?_
      exact r_int E dX9_have_24 ⟨⟨by decide, by decide, by first | (left; decide) | (right; decide) | (right; have hb_ := z32 x1; omega), by first | (left; decide) | (right; decide) | (right; have hb_ := z32 x2; omega), by first | (left; decide) | (right; decide) | (right; have hb_ := z32 (w.2.2.1 5 3); omega), by first | (left; decide) | (right; decide) | (right; have hb_ := z32 (w.2.2.1 2 0); omega)⟩, hJ⟩
set_option maxRecDepth 20000 in
set_option maxHeartbeats 2000000 in
theorem Z_X9_gets_0 (l : Launch) (D : va_G) (aC : Nat → ClassId) (b : Nat) (w : XW) (x1 : Int32) (x2 : Int32) (hI : Iv w)  : CnI l D aC b M_X9_gets 5 113 0 0 [AR 0, AI x1, AI x2] w (fun r u => ((-2) ≤ r.toInt ∧ r.toInt ≤ 14 ∧ (¬ r.toInt = 0 ∨ (0 ≤ x1.toInt ∧ x1.toInt ≤ 5)) ∧ (¬ r.toInt = 0 ∨ (0 ≤ x2.toInt ∧ x2.toInt ≤ 5)) ∧ (¬ r.toInt = 0 ∨ (1 ≤ (w.2.2.1 5 3).toInt ∧ (w.2.2.1 5 3).toInt ≤ 6))) ∧ Jv w u) := by
  refine cn_I (own := RX9) (nm := "gets") (L0 := [some (AR 0), some (AI x1), some (AI x2)]) (by decide +kernel) rfl rfl (Nat.le_of_ble_eq_true rfl) rfl ?_
  intro p e s m args below meth c E hin
  have hJ : Jv w w := jv_rfl hI
  have hb_x1 := z32 x1
  have hb_x2 := z32 x2
  refine s_aload_n E dX9_gets_0 rfl rfl ?_
  refine s_gR (r := 2) E fg_X9_20 rfl rfl (jv_lt hJ (by decide)) (jv_r hJ (by decide +kernel)) dX9_gets_1 ?_
  refine s_iload_n E dX9_gets_4 rfl rfl ?_
  refine s_vI (As := [AI x1]) (S := []) E (Z_X0_hasLady_2 l D aC b w x1 hJ.1 ) cv_X9_139 rfl rfl rfl (jv_lt hJ (by decide)) (Nat.le_of_ble_eq_true rfl) (Nat.le_of_ble_eq_true rfl) ⟨(Nat.le_of_ble_eq_true rfl), (Nat.le_of_ble_eq_true rfl)⟩ (Nat.le_of_ble_eq_true rfl) dX9_gets_5 (fun z_3 u_1 hp_2 => ?_)
  obtain ⟨hz_3, hp_2⟩ := hp_2
  subst hp_2
  refine z_if_eq (tgt := 22) (u := z_3.toInt) E dX9_gets_8 (by decide) rfl (fun h_5 => ?_) (fun h_5 => ?_)
  ·
    refine s_bipush (v := (-2)) E dX9_gets_22 (by decide) ?_
    exact r_int E dX9_gets_24 ⟨⟨by decide, by decide, by first | (left; decide) | (right; decide) | (right; have hb_ := z32 x1; omega), by first | (left; decide) | (right; decide) | (right; have hb_ := z32 x2; omega), by first | (left; decide) | (right; decide) | (right; have hb_ := z32 (w.2.2.1 5 3); omega)⟩, hJ⟩
  ·
    refine s_aload_n E dX9_gets_11 rfl rfl ?_
    refine s_gR (r := 2) E fg_X9_20 rfl rfl (jv_lt hJ (by decide)) (jv_r hJ (by decide +kernel)) dX9_gets_12 ?_
    refine s_iload_n E dX9_gets_15 rfl rfl ?_
    refine s_vI (As := [AI x2]) (S := []) E (Z_X0_hasLady_2 l D aC b w x2 hJ.1 ) cv_X9_139 rfl rfl rfl (jv_lt hJ (by decide)) (Nat.le_of_ble_eq_true rfl) (Nat.le_of_ble_eq_true rfl) ⟨(Nat.le_of_ble_eq_true rfl), (Nat.le_of_ble_eq_true rfl)⟩ (Nat.le_of_ble_eq_true rfl) dX9_gets_16 (fun z_8 u_6 hp_7 => ?_)
    obtain ⟨hz_8, hp_7⟩ := hp_7
    subst hp_7
    refine z_if_ne (tgt := 25) (u := z_8.toInt) E dX9_gets_19 (by decide) rfl (fun h_10 => ?_) (fun h_10 => ?_)
    ·
      refine s_aload_n E dX9_gets_25 rfl rfl ?_
      refine s_vV (As := []) (S := []) E (Z_X9_passAsTold_0 l D aC b w  hJ.1 ) cv_X9_227 rfl rfl rfl (jv_lt hJ (by decide)) (Nat.le_of_ble_eq_true rfl) (Nat.le_of_ble_eq_true rfl) ⟨(Nat.le_of_ble_eq_true rfl), (Nat.le_of_ble_eq_true rfl)⟩ (Nat.le_of_ble_eq_true rfl) dX9_gets_26 (fun u_11 hp_12 => ?_)
      have hj_13 := jv_trans hJ hp_12
      refine s_aload_n E dX9_gets_29 rfl rfl ?_
      refine s_gR (r := 81) E fg_X9_64 rfl rfl (jv_lt hj_13 (by decide)) (jv_r hj_13 (by decide +kernel)) dX9_gets_30 ?_
      refine s_aload_n E dX9_gets_33 rfl rfl ?_
      refine s_gR (r := 69) E fg_X9_54 rfl rfl (jv_lt hj_13 (by decide)) (jv_r hj_13 (by decide +kernel)) dX9_gets_34 ?_
      refine s_iload_n E dX9_gets_37 rfl rfl ?_
      refine s_iconst (v := 0) E dX9_gets_38 (by decide) ?_
      refine s_vV (As := [AR 69, AI x1, AI 0]) (S := []) E (Z_X5_follow_81_r69 l D aC b u_11 x1 0 hj_13.1 ) cv_X9_220 rfl rfl rfl (jv_lt hj_13 (by decide)) (Nat.le_of_ble_eq_true rfl) (Nat.le_of_ble_eq_true rfl) ⟨(Nat.le_of_ble_eq_true rfl), (Nat.le_of_ble_eq_true rfl)⟩ (Nat.le_of_ble_eq_true rfl) dX9_gets_39 (fun u_14 hp_15 => ?_)
      have hj_16 := jv_trans hj_13 hp_15
      refine s_aload_n E dX9_gets_42 rfl rfl ?_
      refine s_gR (r := 81) E fg_X9_64 rfl rfl (jv_lt hj_16 (by decide)) (jv_r hj_16 (by decide +kernel)) dX9_gets_43 ?_
      refine s_iload_n E dX9_gets_46 rfl rfl ?_
      refine s_vI (As := [AI x2]) (S := []) E (Z_X5_gotAt_81 l D aC b u_14 x2 hj_16.1 ) cv_X9_237 rfl rfl rfl (jv_lt hj_16 (by decide)) (Nat.le_of_ble_eq_true rfl) (Nat.le_of_ble_eq_true rfl) ⟨(Nat.le_of_ble_eq_true rfl), (Nat.le_of_ble_eq_true rfl)⟩ (Nat.le_of_ble_eq_true rfl) dX9_gets_47 (fun z_19 u_17 hp_18 => ?_)
      obtain ⟨hz_19, hp_18⟩ := hp_18
      subst hp_18
      exact r_int E dX9_gets_50 ⟨⟨by have hb_ := z32 z_19; omega, by have hb_ := z32 z_19; omega, by first | (right; decide) | (have hb_ := z32 z_19; omega) | (have hb_ := z32 z_19; have hc_ := z32 x1; omega), by first | (right; decide) | (have hb_ := z32 z_19; omega) | (have hb_ := z32 z_19; have hc_ := z32 x2; omega), by first | (right; decide) | (have hb_ := z32 z_19; omega) | (have hb_ := z32 z_19; have hc_ := z32 (w.2.2.1 5 3); omega)⟩, hj_16⟩
    ·
      refine s_bipush (v := (-2)) E dX9_gets_22 (by decide) ?_
      exact r_int E dX9_gets_24 ⟨⟨by decide, by decide, by first | (left; decide) | (right; decide) | (right; have hb_ := z32 x1; omega), by first | (left; decide) | (right; decide) | (right; have hb_ := z32 x2; omega), by first | (left; decide) | (right; decide) | (right; have hb_ := z32 (w.2.2.1 5 3); omega)⟩, hJ⟩
set_option maxRecDepth 20000 in
set_option maxHeartbeats 2000000 in
theorem Z_X9_from_0 (l : Launch) (D : va_G) (aC : Nat → ClassId) (b : Nat) (w : XW) (x1 : Int32) (x2 : Int32) (hI : Iv w)  : CnI l D aC b M_X9_from 5 113 0 0 [AR 0, AI x1, AI x2] w (fun r u => ((-2) ≤ r.toInt ∧ r.toInt ≤ 5 ∧ (¬ r.toInt = 0 ∨ (0 ≤ x1.toInt ∧ x1.toInt ≤ 5)) ∧ (¬ r.toInt = 0 ∨ (0 ≤ x2.toInt ∧ x2.toInt ≤ 5)) ∧ (¬ r.toInt = 0 ∨ (1 ≤ (w.2.2.1 5 3).toInt ∧ (w.2.2.1 5 3).toInt ≤ 6))) ∧ Jv w u) := by
  refine cn_I (own := RX9) (nm := "from") (L0 := [some (AR 0), some (AI x1), some (AI x2)]) (by decide +kernel) rfl rfl (Nat.le_of_ble_eq_true rfl) rfl ?_
  intro p e s m args below meth c E hin
  have hJ : Jv w w := jv_rfl hI
  have hb_x1 := z32 x1
  have hb_x2 := z32 x2
  refine s_aload_n E dX9_from_0 rfl rfl ?_
  refine s_gR (r := 2) E fg_X9_20 rfl rfl (jv_lt hJ (by decide)) (jv_r hJ (by decide +kernel)) dX9_from_1 ?_
  refine s_iload_n E dX9_from_4 rfl rfl ?_
  refine s_vI (As := [AI x1]) (S := []) E (Z_X0_hasLady_2 l D aC b w x1 hJ.1 ) cv_X9_139 rfl rfl rfl (jv_lt hJ (by decide)) (Nat.le_of_ble_eq_true rfl) (Nat.le_of_ble_eq_true rfl) ⟨(Nat.le_of_ble_eq_true rfl), (Nat.le_of_ble_eq_true rfl)⟩ (Nat.le_of_ble_eq_true rfl) dX9_from_5 (fun z_3 u_1 hp_2 => ?_)
  obtain ⟨hz_3, hp_2⟩ := hp_2
  subst hp_2
  refine z_if_eq (tgt := 22) (u := z_3.toInt) E dX9_from_8 (by decide) rfl (fun h_5 => ?_) (fun h_5 => ?_)
  ·
    refine s_bipush (v := (-2)) E dX9_from_22 (by decide) ?_
    exact r_int E dX9_from_24 ⟨⟨by decide, by decide, by first | (left; decide) | (right; decide) | (right; have hb_ := z32 x1; omega), by first | (left; decide) | (right; decide) | (right; have hb_ := z32 x2; omega), by first | (left; decide) | (right; decide) | (right; have hb_ := z32 (w.2.2.1 5 3); omega)⟩, hJ⟩
  ·
    refine s_aload_n E dX9_from_11 rfl rfl ?_
    refine s_gR (r := 2) E fg_X9_20 rfl rfl (jv_lt hJ (by decide)) (jv_r hJ (by decide +kernel)) dX9_from_12 ?_
    refine s_iload_n E dX9_from_15 rfl rfl ?_
    refine s_vI (As := [AI x2]) (S := []) E (Z_X0_hasLady_2 l D aC b w x2 hJ.1 ) cv_X9_139 rfl rfl rfl (jv_lt hJ (by decide)) (Nat.le_of_ble_eq_true rfl) (Nat.le_of_ble_eq_true rfl) ⟨(Nat.le_of_ble_eq_true rfl), (Nat.le_of_ble_eq_true rfl)⟩ (Nat.le_of_ble_eq_true rfl) dX9_from_16 (fun z_8 u_6 hp_7 => ?_)
    obtain ⟨hz_8, hp_7⟩ := hp_7
    subst hp_7
    refine z_if_ne (tgt := 25) (u := z_8.toInt) E dX9_from_19 (by decide) rfl (fun h_10 => ?_) (fun h_10 => ?_)
    ·
      refine s_aload_n E dX9_from_25 rfl rfl ?_
      refine s_vV (As := []) (S := []) E (Z_X9_passAsTold_0 l D aC b w  hJ.1 ) cv_X9_227 rfl rfl rfl (jv_lt hJ (by decide)) (Nat.le_of_ble_eq_true rfl) (Nat.le_of_ble_eq_true rfl) ⟨(Nat.le_of_ble_eq_true rfl), (Nat.le_of_ble_eq_true rfl)⟩ (Nat.le_of_ble_eq_true rfl) dX9_from_26 (fun u_11 hp_12 => ?_)
      have hj_13 := jv_trans hJ hp_12
      refine s_aload_n E dX9_from_29 rfl rfl ?_
      refine s_gR (r := 81) E fg_X9_64 rfl rfl (jv_lt hj_13 (by decide)) (jv_r hj_13 (by decide +kernel)) dX9_from_30 ?_
      refine s_aload_n E dX9_from_33 rfl rfl ?_
      refine s_gR (r := 69) E fg_X9_54 rfl rfl (jv_lt hj_13 (by decide)) (jv_r hj_13 (by decide +kernel)) dX9_from_34 ?_
      refine s_iload_n E dX9_from_37 rfl rfl ?_
      refine s_iconst (v := 0) E dX9_from_38 (by decide) ?_
      refine s_vV (As := [AR 69, AI x1, AI 0]) (S := []) E (Z_X5_follow_81_r69 l D aC b u_11 x1 0 hj_13.1 ) cv_X9_220 rfl rfl rfl (jv_lt hj_13 (by decide)) (Nat.le_of_ble_eq_true rfl) (Nat.le_of_ble_eq_true rfl) ⟨(Nat.le_of_ble_eq_true rfl), (Nat.le_of_ble_eq_true rfl)⟩ (Nat.le_of_ble_eq_true rfl) dX9_from_39 (fun u_14 hp_15 => ?_)
      have hj_16 := jv_trans hj_13 hp_15
      refine s_aload_n E dX9_from_42 rfl rfl ?_
      refine s_gR (r := 81) E fg_X9_64 rfl rfl (jv_lt hj_16 (by decide)) (jv_r hj_16 (by decide +kernel)) dX9_from_43 ?_
      refine s_aload_n E dX9_from_46 rfl rfl ?_
      refine s_gR (r := 69) E fg_X9_54 rfl rfl (jv_lt hj_16 (by decide)) (jv_r hj_16 (by decide +kernel)) dX9_from_47 ?_
      refine s_iload_n E dX9_from_50 rfl rfl ?_
      refine s_vI (As := [AR 69, AI x2]) (S := []) E (Z_X5_giverOf_81_r69 l D aC b u_14 x2 hj_16.1 ) cv_X9_234 rfl rfl rfl (jv_lt hj_16 (by decide)) (Nat.le_of_ble_eq_true rfl) (Nat.le_of_ble_eq_true rfl) ⟨(Nat.le_of_ble_eq_true rfl), (Nat.le_of_ble_eq_true rfl)⟩ (Nat.le_of_ble_eq_true rfl) dX9_from_51 (fun z_19 u_17 hp_18 => ?_)
      obtain ⟨hz_19, hp_18⟩ := hp_18
      subst hp_18
      exact r_int E dX9_from_54 ⟨⟨by have hb_ := z32 z_19; omega, by have hb_ := z32 z_19; omega, by first | (right; decide) | (have hb_ := z32 z_19; omega) | (have hb_ := z32 z_19; have hc_ := z32 x1; omega), by first | (right; decide) | (have hb_ := z32 z_19; omega) | (have hb_ := z32 z_19; have hc_ := z32 x2; omega), by first | (right; decide) | (have hb_ := z32 z_19; omega) | (have hb_ := z32 z_19; have hc_ := z32 (w.2.2.1 5 3); omega)⟩, hj_16⟩
    ·
      refine s_bipush (v := (-2)) E dX9_from_22 (by decide) ?_
      exact r_int E dX9_from_24 ⟨⟨by decide, by decide, by first | (left; decide) | (right; decide) | (right; have hb_ := z32 x1; omega), by first | (left; decide) | (right; decide) | (right; have hb_ := z32 x2; omega), by first | (left; decide) | (right; decide) | (right; have hb_ := z32 (w.2.2.1 5 3); omega)⟩, hJ⟩
set_option maxRecDepth 20000 in
set_option maxHeartbeats 2000000 in
theorem Z_X9_all_0 (l : Launch) (D : va_G) (aC : Nat → ClassId) (b : Nat) (w : XW) (x1 : Int32) (hI : Iv w)  : CnI l D aC b M_X9_all 5 113 0 0 [AR 0, AI x1] w (fun r u => ((-2) ≤ r.toInt ∧ r.toInt ≤ 14 ∧ (¬ r.toInt = 0 ∨ (0 ≤ x1.toInt ∧ x1.toInt ≤ 5)) ∧ (¬ r.toInt = 0 ∨ (1 ≤ (w.2.2.1 5 3).toInt ∧ (w.2.2.1 5 3).toInt ≤ 6))) ∧ Jv w u) := by
  refine cn_I (own := RX9) (nm := "all") (L0 := [some (AR 0), some (AI x1), none, none]) (by decide +kernel) rfl rfl (Nat.le_of_ble_eq_true rfl) rfl ?_
  intro p e s m args below meth c E hin
  have hJ : Jv w w := jv_rfl hI
  have hb_x1 := z32 x1
  refine s_aload_n E dX9_all_0 rfl rfl ?_
  refine s_gR (r := 2) E fg_X9_20 rfl rfl (jv_lt hJ (by decide)) (jv_r hJ (by decide +kernel)) dX9_all_1 ?_
  refine s_iload_n E dX9_all_4 rfl rfl ?_
  refine s_vI (As := [AI x1]) (S := []) E (Z_X0_hasLady_2 l D aC b w x1 hJ.1 ) cv_X9_139 rfl rfl rfl (jv_lt hJ (by decide)) (Nat.le_of_ble_eq_true rfl) (Nat.le_of_ble_eq_true rfl) ⟨(Nat.le_of_ble_eq_true rfl), (Nat.le_of_ble_eq_true rfl)⟩ (Nat.le_of_ble_eq_true rfl) dX9_all_5 (fun z_3 u_1 hp_2 => ?_)
  obtain ⟨hz_3, hp_2⟩ := hp_2
  subst hp_2
  refine z_if_ne (tgt := 14) (u := z_3.toInt) E dX9_all_8 (by decide) rfl (fun h_5 => ?_) (fun h_5 => ?_)
  ·
    refine s_aload_n E dX9_all_14 rfl rfl ?_
    refine s_vV (As := []) (S := []) E (Z_X9_passAsTold_0 l D aC b w  hJ.1 ) cv_X9_227 rfl rfl rfl (jv_lt hJ (by decide)) (Nat.le_of_ble_eq_true rfl) (Nat.le_of_ble_eq_true rfl) ⟨(Nat.le_of_ble_eq_true rfl), (Nat.le_of_ble_eq_true rfl)⟩ (Nat.le_of_ble_eq_true rfl) dX9_all_15 (fun u_6 hp_7 => ?_)
    have hj_8 := jv_trans hJ hp_7
    refine s_aload_n E dX9_all_18 rfl rfl ?_
    refine s_gR (r := 81) E fg_X9_64 rfl rfl (jv_lt hj_8 (by decide)) (jv_r hj_8 (by decide +kernel)) dX9_all_19 ?_
    refine s_aload_n E dX9_all_22 rfl rfl ?_
    refine s_gR (r := 69) E fg_X9_54 rfl rfl (jv_lt hj_8 (by decide)) (jv_r hj_8 (by decide +kernel)) dX9_all_23 ?_
    refine s_iload_n E dX9_all_26 rfl rfl ?_
    refine s_iconst (v := 0) E dX9_all_27 (by decide) ?_
    refine s_vV (As := [AR 69, AI x1, AI 0]) (S := []) E (Z_X5_follow_81_r69 l D aC b u_6 x1 0 hj_8.1 ) cv_X9_220 rfl rfl rfl (jv_lt hj_8 (by decide)) (Nat.le_of_ble_eq_true rfl) (Nat.le_of_ble_eq_true rfl) ⟨(Nat.le_of_ble_eq_true rfl), (Nat.le_of_ble_eq_true rfl)⟩ (Nat.le_of_ble_eq_true rfl) dX9_all_28 (fun u_9 hp_10 => ?_)
    have hj_11 := jv_trans hj_8 hp_10
    refine s_aload_n E dX9_all_31 rfl rfl ?_
    refine s_gR (r := 2) E fg_X9_20 rfl rfl (jv_lt hj_11 (by decide)) (jv_r hj_11 (by decide +kernel)) dX9_all_32 ?_
    refine s_vI (As := []) (S := []) E (Z_X0_everybody_2 l D aC b u_9  hj_11.1 ) cv_X9_240 rfl rfl rfl (jv_lt hj_11 (by decide)) (Nat.le_of_ble_eq_true rfl) (Nat.le_of_ble_eq_true rfl) ⟨(Nat.le_of_ble_eq_true rfl), (Nat.le_of_ble_eq_true rfl)⟩ (Nat.le_of_ble_eq_true rfl) dX9_all_35 (fun z_14 u_12 hp_13 => ?_)
    obtain ⟨hz_14, hp_13⟩ := hp_13
    subst hp_13
    refine s_istore_n (L2 := [some (AR 0), some (AI x1), some (AI z_14), none]) E dX9_all_38 rfl (by decide) rfl ?_
    refine s_iconst (v := 0) E dX9_all_39 (by decide) ?_
    refine s_istore_n (L2 := [some (AR 0), some (AI x1), some (AI z_14), some (AI 0)]) E dX9_all_40 rfl (by decide) rfl ?_
    refine z_loop (St := Int32) (Pi := fun q41_3_15 v41 => (0 ≤ q41_3_15.toInt ∧ q41_3_15.toInt ≤ 15) ∧ u_9 = v41) (Lf := fun q41_3_15 => [some (AR 0), some (AI x1), some (AI z_14), some (AI q41_3_15)]) (fun q41_3_15 _ => (16 - q41_3_15.toInt).toNat) 0 ⟨⟨by decide, by decide⟩, rfl⟩ ?_
    rintro q41_3_15 v41 ⟨hq41_3, hv_⟩ ih41
    subst hv_
    refine s_loc (L2 := [some (AR 0), some (AI x1), some (AI z_14), some (AI q41_3_15)]) rfl ?_
    refine s_iload_n E dX9_all_41 rfl rfl ?_
    refine s_aload_n E dX9_all_42 rfl rfl ?_
    refine s_gR (r := 2) E fg_X9_20 rfl rfl (jv_lt hj_11 (by decide)) (jv_r hj_11 (by decide +kernel)) dX9_all_43 ?_
    refine s_gI E fg_X9_169 rfl rfl (jv_lt hj_11 (by decide)) dX9_all_46 ?_
    refine z_nm (P := fun z => z.toInt = (u_9.2.2.1 2 2).toInt ∧ 0 ≤ z.toInt ∧ z.toInt ≤ 14) ⟨rfl, (rg_2_2 hj_11)⟩ (fun z_17 hz_17 => ?_)
    refine z_icmp_gt (tgt := 72) (u := q41_3_15.toInt) (v := z_17.toInt) E dX9_all_49 (by decide) rfl rfl (fun h_18 => ?_) (fun h_18 => ?_)
    ·
      refine s_iconst (v := (-1)) E dX9_all_72 (by decide) ?_
      exact r_int E dX9_all_73 ⟨⟨by decide, by decide, by first | (left; decide) | (right; decide) | (right; have hb_ := z32 x1; omega), by first | (left; decide) | (right; decide) | (right; have hb_ := z32 (w.2.2.1 5 3); omega)⟩, hj_11⟩
    ·
      refine s_aload_n E dX9_all_52 rfl rfl ?_
      refine s_gR (r := 81) E fg_X9_64 rfl rfl (jv_lt hj_11 (by decide)) (jv_r hj_11 (by decide +kernel)) dX9_all_53 ?_
      refine s_iload_n E dX9_all_56 rfl rfl ?_
      refine s_vI (As := [AI q41_3_15]) (S := []) E (Z_X5_behind_81 l D aC b u_9 q41_3_15 hj_11.1 ) cv_X9_224 rfl rfl rfl (jv_lt hj_11 (by decide)) (Nat.le_of_ble_eq_true rfl) (Nat.le_of_ble_eq_true rfl) ⟨(Nat.le_of_ble_eq_true rfl), (Nat.le_of_ble_eq_true rfl)⟩ (Nat.le_of_ble_eq_true rfl) dX9_all_57 (fun z_21 u_19 hp_20 => ?_)
      obtain ⟨hz_21, hp_20⟩ := hp_20
      subst hp_20
      refine s_iload_n E dX9_all_60 rfl rfl ?_
      refine z_icmp_ne (tgt := 66) (u := z_21.toInt) (v := z_14.toInt) E dX9_all_61 (by decide) rfl rfl (fun h_23 => ?_) (fun h_23 => ?_)
      ·
        refine z_iinc (u := q41_3_15.toInt) (L2 := fun z_24 => [some (AR 0), some (AI x1), some (AI z_14), some (AI z_24)]) E dX9_all_66 rfl rfl (by decide) (fun _ => rfl) (by decide) (by omega) (by omega) (fun z_24 hz_24 => ?_)
        refine s_goto (tgt := 41) E dX9_all_69 (by decide) ?_
        exact ih41 z_24 u_9 ⟨⟨by have hb_ := z32 z_24; omega, by have hb_ := z32 z_24; omega⟩, rfl⟩ (by first | omega | decide | (dsimp only; omega) | (dsimp only; decide))
      ·
        refine s_iload_n E dX9_all_64 rfl rfl ?_
        exact r_int E dX9_all_65 ⟨⟨by have hb_ := z32 q41_3_15; omega, by have hb_ := z32 q41_3_15; omega, by first | (right; decide) | (have hb_ := z32 q41_3_15; omega) | (have hb_ := z32 q41_3_15; have hc_ := z32 x1; omega), by first | (right; decide) | (have hb_ := z32 q41_3_15; omega) | (have hb_ := z32 q41_3_15; have hc_ := z32 (w.2.2.1 5 3); omega)⟩, hj_11⟩
  ·
    refine s_bipush (v := (-2)) E dX9_all_11 (by decide) ?_
    exact r_int E dX9_all_13 ⟨⟨by decide, by decide, by first | (left; decide) | (right; decide) | (right; have hb_ := z32 x1; omega), by first | (left; decide) | (right; decide) | (right; have hb_ := z32 (w.2.2.1 5 3); omega)⟩, hJ⟩
set_option maxRecDepth 20000 in
set_option maxHeartbeats 2000000 in
theorem Z_X9_best_0 (l : Launch) (D : va_G) (aC : Nat → ClassId) (b : Nat) (w : XW)  (hI : Iv w)  : CnI l D aC b M_X9_best 5 116 0 0 [AR 0] w (fun r u => ((-2) ≤ r.toInt ∧ r.toInt ≤ 64 ∧ (¬ r.toInt = 0 ∨ (1 ≤ (w.2.2.1 2 0).toInt ∧ (w.2.2.1 2 0).toInt ≤ 2147483647))) ∧ Jv w u) := by
  refine cn_I (own := RX9) (nm := "best") (L0 := [some (AR 0), none, none, none, none]) (by decide +kernel) rfl rfl (Nat.le_of_ble_eq_true rfl) rfl ?_
  intro p e s m args below meth c E hin
  have hJ : Jv w w := jv_rfl hI
  refine s_aload_n E dX9_best_0 rfl rfl ?_
  refine s_gR (r := 2) E fg_X9_20 rfl rfl (jv_lt hJ (by decide)) (jv_r hJ (by decide +kernel)) dX9_best_1 ?_
  refine s_vI (As := []) (S := []) E (Z_X0_isTold_2 l D aC b w  hJ.1 ) cv_X9_184 rfl rfl rfl (jv_lt hJ (by decide)) (Nat.le_of_ble_eq_true rfl) (Nat.le_of_ble_eq_true rfl) ⟨(Nat.le_of_ble_eq_true rfl), (Nat.le_of_ble_eq_true rfl)⟩ (Nat.le_of_ble_eq_true rfl) dX9_best_4 (fun z_3 u_1 hp_2 => ?_)
  obtain ⟨hz_3, hp_2⟩ := hp_2
  subst hp_2
  refine z_if_ne (tgt := 13) (u := z_3.toInt) E dX9_best_7 (by decide) rfl (fun h_5 => ?_) (fun h_5 => ?_)
  ·
    refine s_aload_n E dX9_best_13 rfl rfl ?_
    refine s_vV (As := []) (S := []) E (Z_X9_passAsTold_0 l D aC b w  hJ.1 ) cv_X9_227 rfl rfl rfl (jv_lt hJ (by decide)) (Nat.le_of_ble_eq_true rfl) (Nat.le_of_ble_eq_true rfl) ⟨(Nat.le_of_ble_eq_true rfl), (Nat.le_of_ble_eq_true rfl)⟩ (Nat.le_of_ble_eq_true rfl) dX9_best_14 (fun u_6 hp_7 => ?_)
    have hj_8 := jv_trans hJ hp_7
    refine s_iconst (v := (-1)) E dX9_best_17 (by decide) ?_
    refine s_istore_n (L2 := [some (AR 0), some (AI (-1)), none, none, none]) E dX9_best_18 rfl (by decide) rfl ?_
    refine s_iconst (v := 0) E dX9_best_19 (by decide) ?_
    refine s_istore_n (L2 := [some (AR 0), some (AI (-1)), some (AI 0), none, none]) E dX9_best_20 rfl (by decide) rfl ?_
    refine s_iconst (v := 0) E dX9_best_21 (by decide) ?_
    refine s_istore_n (L2 := [some (AR 0), some (AI (-1)), some (AI 0), some (AI 0), none]) E dX9_best_22 rfl (by decide) rfl ?_
    refine z_loop (St := Int32 × Int32 × Int32) (Pi := fun ⟨q23_1_8, q23_2_8, q23_3_8⟩ v23 => ((-1) ≤ q23_1_8.toInt ∧ q23_1_8.toInt ≤ 64) ∧ (0 ≤ q23_2_8.toInt ∧ q23_2_8.toInt ≤ 63) ∧ (0 ≤ q23_3_8.toInt ∧ q23_3_8.toInt ≤ 6) ∧ Jv w v23) (Lf := fun ⟨q23_1_8, q23_2_8, q23_3_8⟩ => [some (AR 0), some (AI q23_1_8), some (AI q23_2_8), some (AI q23_3_8), none]) (fun ⟨q23_1_8, q23_2_8, q23_3_8⟩ _ => (7 - q23_3_8.toInt).toNat) ⟨(-1), 0, 0⟩ ⟨⟨by decide, by decide⟩, ⟨by decide, by decide⟩, ⟨by decide, by decide⟩, hj_8⟩ ?_
    rintro ⟨q23_1_8, q23_2_8, q23_3_8⟩ v23 ⟨hq23_1, hq23_2, hq23_3, hj_9⟩ ih23
    refine s_loc (L2 := [some (AR 0), some (AI q23_1_8), some (AI q23_2_8), some (AI q23_3_8), none]) rfl ?_
    refine s_iload_n E dX9_best_23 rfl rfl ?_
    refine s_aload_n E dX9_best_24 rfl rfl ?_
    refine s_gR (r := 2) E fg_X9_20 rfl rfl (jv_lt hj_9 (by decide)) (jv_r hj_9 (by decide +kernel)) dX9_best_25 ?_
    refine s_gR (r := 5) E fg_X9_133 rfl rfl (jv_lt hj_9 (by decide)) (jv_r hj_9 (by decide +kernel)) dX9_best_28 ?_
    refine s_gI E fg_X9_200 rfl rfl (jv_lt hj_9 (by decide)) dX9_best_31 ?_
    refine z_nm (P := fun z => z.toInt = (v23.2.2.1 5 3).toInt ∧ 0 ≤ z.toInt ∧ z.toInt ≤ 6) ⟨rfl, (rg_5_3 hj_9)⟩ (fun z_10 hz_10 => ?_)
    refine z_icmp_ge (tgt := 68) (u := q23_3_8.toInt) (v := z_10.toInt) E dX9_best_34 (by decide) rfl rfl (fun h_11 => ?_) (fun h_11 => ?_)
    ·
      refine s_iload_n E dX9_best_68 rfl rfl ?_
      exact r_int E dX9_best_69 ⟨⟨by have hb_ := z32 q23_1_8; omega, by have hb_ := z32 q23_1_8; omega, by first | (right; decide) | (have hb_ := z32 q23_1_8; omega) | (have hb_ := z32 q23_1_8; have hc_ := z32 (w.2.2.1 2 0); omega)⟩, hj_9⟩
    ·
      refine s_aload_n E dX9_best_37 rfl rfl ?_
      refine s_aload_n E dX9_best_38 rfl rfl ?_
      refine s_gR (r := 69) E fg_X9_54 rfl rfl (jv_lt hj_9 (by decide)) (jv_r hj_9 (by decide +kernel)) dX9_best_39 ?_
      refine s_iload_n E dX9_best_42 rfl rfl ?_
      refine s_vI (As := [AR 69, AI q23_3_8]) (S := []) E (Z_X9_inTheEnd_0_r69 l D aC b v23 q23_3_8 hj_9.1 ) cv_X9_230 rfl rfl rfl (jv_lt hj_9 (by decide)) (Nat.le_of_ble_eq_true rfl) (Nat.le_of_ble_eq_true rfl) ⟨(Nat.le_of_ble_eq_true rfl), (Nat.le_of_ble_eq_true rfl)⟩ (Nat.le_of_ble_eq_true rfl) dX9_best_43 (fun z_14 u_12 hp_13 => ?_)
      obtain ⟨hz_14, hp_13⟩ := hp_13
      have hj_15 := jv_trans hj_9 hp_13
      refine s_sI (As := [AI z_14]) (S := []) E (Z_J6_bitCount_0f7a4 l D aC b u_12 z_14 hj_15.1 ) cs_X9_203 rfl rfl (Nat.le_of_ble_eq_true rfl) (Nat.le_of_ble_eq_true rfl) ⟨(Nat.le_of_ble_eq_true rfl), (Nat.le_of_ble_eq_true rfl)⟩ (Nat.le_of_ble_eq_true rfl) dX9_best_46 (fun z_18 u_16 hp_17 => ?_)
      obtain ⟨hz_18, hp_17⟩ := hp_17
      subst hp_17
      refine s_istore (L2 := [some (AR 0), some (AI q23_1_8), some (AI q23_2_8), some (AI q23_3_8), some (AI z_18)]) E dX9_best_49 (by decide) rfl ?_
      refine s_iload E dX9_best_51 rfl ?_
      refine s_iload_n E dX9_best_53 rfl rfl ?_
      refine z_icmp_le (tgt := 62) (u := z_18.toInt) (v := q23_2_8.toInt) E dX9_best_54 (by decide) rfl rfl (fun h_20 => ?_) (fun h_20 => ?_)
      ·
        refine z_iinc (u := q23_3_8.toInt) (L2 := fun z_21 => [some (AR 0), some (AI q23_1_8), some (AI q23_2_8), some (AI z_21), some (AI z_18)]) E dX9_best_62 rfl rfl (by decide) (fun _ => rfl) (by decide) (by omega) (by omega) (fun z_21 hz_21 => ?_)
        refine s_goto (tgt := 23) E dX9_best_65 (by decide) ?_
        refine s_drop (i := 4) (L2 := [some (AR 0), some (AI q23_1_8), some (AI q23_2_8), some (AI z_21), none]) rfl ?_
        exact ih23 ⟨q23_1_8, q23_2_8, z_21⟩ u_12 ⟨⟨by have hb_ := z32 q23_1_8; omega, by have hb_ := z32 q23_1_8; omega⟩, ⟨by have hb_ := z32 q23_2_8; omega, by have hb_ := z32 q23_2_8; omega⟩, ⟨by have hb_ := z32 z_21; omega, by have hb_ := z32 z_21; omega⟩, hj_15⟩ (by first | omega | decide | (dsimp only; omega) | (dsimp only; decide))
      ·
        refine s_iload E dX9_best_57 rfl ?_
        refine s_istore_n (L2 := [some (AR 0), some (AI q23_1_8), some (AI z_18), some (AI q23_3_8), some (AI z_18)]) E dX9_best_59 rfl (by decide) rfl ?_
        refine s_iload_n E dX9_best_60 rfl rfl ?_
        refine s_istore_n (L2 := [some (AR 0), some (AI q23_3_8), some (AI z_18), some (AI q23_3_8), some (AI z_18)]) E dX9_best_61 rfl (by decide) rfl ?_
        refine z_iinc (u := q23_3_8.toInt) (L2 := fun z_22 => [some (AR 0), some (AI q23_3_8), some (AI z_18), some (AI z_22), some (AI z_18)]) E dX9_best_62 rfl rfl (by decide) (fun _ => rfl) (by decide) (by omega) (by omega) (fun z_22 hz_22 => ?_)
        refine s_goto (tgt := 23) E dX9_best_65 (by decide) ?_
        refine s_drop (i := 4) (L2 := [some (AR 0), some (AI q23_3_8), some (AI z_18), some (AI z_22), none]) rfl ?_
        exact ih23 ⟨q23_3_8, z_18, z_22⟩ u_12 ⟨⟨by have hb_ := z32 q23_3_8; omega, by have hb_ := z32 q23_3_8; omega⟩, ⟨by have hb_ := z32 z_18; omega, by have hb_ := z32 z_18; omega⟩, ⟨by have hb_ := z32 z_22; omega, by have hb_ := z32 z_22; omega⟩, hj_15⟩ (by first | omega | decide | (dsimp only; omega) | (dsimp only; decide))
  ·
    refine s_bipush (v := (-2)) E dX9_best_10 (by decide) ?_
    exact r_int E dX9_best_12 ⟨⟨by decide, by decide, by first | (left; decide) | (right; decide) | (right; have hb_ := z32 (w.2.2.1 2 0); omega)⟩, hJ⟩
set_option maxRecDepth 20000 in
set_option maxHeartbeats 2000000 in
theorem Z_X9_lasts_0 (l : Launch) (D : va_G) (aC : Nat → ClassId) (b : Nat) (w : XW) (x1 : Int32) (hI : Iv w)  : CnI l D aC b M_X9_lasts 5 113 0 0 [AR 0, AI x1] w (fun r u => ((-2) ≤ r.toInt ∧ r.toInt ≤ 14 ∧ (¬ r.toInt = 0 ∨ (0 ≤ x1.toInt ∧ x1.toInt ≤ 5)) ∧ (¬ r.toInt = 0 ∨ (1 ≤ (w.2.2.1 5 3).toInt ∧ (w.2.2.1 5 3).toInt ≤ 6))) ∧ Jv w u) := by
  refine cn_I (own := RX9) (nm := "lasts") (L0 := [some (AR 0), some (AI x1), none, none]) (by decide +kernel) rfl rfl (Nat.le_of_ble_eq_true rfl) rfl ?_
  intro p e s m args below meth c E hin
  have hJ : Jv w w := jv_rfl hI
  have hb_x1 := z32 x1
  refine s_aload_n E dX9_lasts_0 rfl rfl ?_
  refine s_gR (r := 2) E fg_X9_20 rfl rfl (jv_lt hJ (by decide)) (jv_r hJ (by decide +kernel)) dX9_lasts_1 ?_
  refine s_iload_n E dX9_lasts_4 rfl rfl ?_
  refine s_vI (As := [AI x1]) (S := []) E (Z_X0_hasLady_2 l D aC b w x1 hJ.1 ) cv_X9_139 rfl rfl rfl (jv_lt hJ (by decide)) (Nat.le_of_ble_eq_true rfl) (Nat.le_of_ble_eq_true rfl) ⟨(Nat.le_of_ble_eq_true rfl), (Nat.le_of_ble_eq_true rfl)⟩ (Nat.le_of_ble_eq_true rfl) dX9_lasts_5 (fun z_3 u_1 hp_2 => ?_)
  obtain ⟨hz_3, hp_2⟩ := hp_2
  subst hp_2
  refine z_if_ne (tgt := 14) (u := z_3.toInt) E dX9_lasts_8 (by decide) rfl (fun h_5 => ?_) (fun h_5 => ?_)
  ·
    refine s_aload_n E dX9_lasts_14 rfl rfl ?_
    refine s_vV (As := []) (S := []) E (Z_X9_passAsTold_0 l D aC b w  hJ.1 ) cv_X9_227 rfl rfl rfl (jv_lt hJ (by decide)) (Nat.le_of_ble_eq_true rfl) (Nat.le_of_ble_eq_true rfl) ⟨(Nat.le_of_ble_eq_true rfl), (Nat.le_of_ble_eq_true rfl)⟩ (Nat.le_of_ble_eq_true rfl) dX9_lasts_15 (fun u_6 hp_7 => ?_)
    have hj_8 := jv_trans hJ hp_7
    refine s_aload_n E dX9_lasts_18 rfl rfl ?_
    refine s_gR (r := 81) E fg_X9_64 rfl rfl (jv_lt hj_8 (by decide)) (jv_r hj_8 (by decide +kernel)) dX9_lasts_19 ?_
    refine s_aload_n E dX9_lasts_22 rfl rfl ?_
    refine s_gR (r := 69) E fg_X9_54 rfl rfl (jv_lt hj_8 (by decide)) (jv_r hj_8 (by decide +kernel)) dX9_lasts_23 ?_
    refine s_iload_n E dX9_lasts_26 rfl rfl ?_
    refine s_iconst (v := 0) E dX9_lasts_27 (by decide) ?_
    refine s_vV (As := [AR 69, AI x1, AI 0]) (S := []) E (Z_X5_follow_81_r69 l D aC b u_6 x1 0 hj_8.1 ) cv_X9_220 rfl rfl rfl (jv_lt hj_8 (by decide)) (Nat.le_of_ble_eq_true rfl) (Nat.le_of_ble_eq_true rfl) ⟨(Nat.le_of_ble_eq_true rfl), (Nat.le_of_ble_eq_true rfl)⟩ (Nat.le_of_ble_eq_true rfl) dX9_lasts_28 (fun u_9 hp_10 => ?_)
    have hj_11 := jv_trans hj_8 hp_10
    refine s_iconst (v := (-1)) E dX9_lasts_31 (by decide) ?_
    refine s_istore_n (L2 := [some (AR 0), some (AI x1), some (AI (-1)), none]) E dX9_lasts_32 rfl (by decide) rfl ?_
    refine s_iconst (v := 0) E dX9_lasts_33 (by decide) ?_
    refine s_istore_n (L2 := [some (AR 0), some (AI x1), some (AI (-1)), some (AI 0)]) E dX9_lasts_34 rfl (by decide) rfl ?_
    refine z_loop (St := Int32 × Int32) (Pi := fun ⟨q35_2_11, q35_3_11⟩ v35 => ((-1) ≤ q35_2_11.toInt ∧ q35_2_11.toInt ≤ 14) ∧ (0 ≤ q35_3_11.toInt ∧ q35_3_11.toInt ≤ 6) ∧ u_9 = v35) (Lf := fun ⟨q35_2_11, q35_3_11⟩ => [some (AR 0), some (AI x1), some (AI q35_2_11), some (AI q35_3_11)]) (fun ⟨q35_2_11, q35_3_11⟩ _ => (7 - q35_3_11.toInt).toNat) ⟨(-1), 0⟩ ⟨⟨by decide, by decide⟩, ⟨by decide, by decide⟩, rfl⟩ ?_
    rintro ⟨q35_2_11, q35_3_11⟩ v35 ⟨hq35_2, hq35_3, hv_⟩ ih35
    subst hv_
    refine s_loc (L2 := [some (AR 0), some (AI x1), some (AI q35_2_11), some (AI q35_3_11)]) rfl ?_
    refine s_iload_n E dX9_lasts_35 rfl rfl ?_
    refine s_aload_n E dX9_lasts_36 rfl rfl ?_
    refine s_gR (r := 2) E fg_X9_20 rfl rfl (jv_lt hj_11 (by decide)) (jv_r hj_11 (by decide +kernel)) dX9_lasts_37 ?_
    refine s_gR (r := 5) E fg_X9_133 rfl rfl (jv_lt hj_11 (by decide)) (jv_r hj_11 (by decide +kernel)) dX9_lasts_40 ?_
    refine s_gI E fg_X9_200 rfl rfl (jv_lt hj_11 (by decide)) dX9_lasts_43 ?_
    refine z_nm (P := fun z => z.toInt = (u_9.2.2.1 5 3).toInt ∧ 0 ≤ z.toInt ∧ z.toInt ≤ 6) ⟨rfl, (rg_5_3 hj_11)⟩ (fun z_13 hz_13 => ?_)
    refine z_icmp_ge (tgt := 73) (u := q35_3_11.toInt) (v := z_13.toInt) E dX9_lasts_46 (by decide) rfl rfl (fun h_14 => ?_) (fun h_14 => ?_)
    ·
      refine s_iload_n E dX9_lasts_73 rfl rfl ?_
      exact r_int E dX9_lasts_74 ⟨⟨by have hb_ := z32 q35_2_11; omega, by have hb_ := z32 q35_2_11; omega, by first | (right; decide) | (have hb_ := z32 q35_2_11; omega) | (have hb_ := z32 q35_2_11; have hc_ := z32 x1; omega), by first | (right; decide) | (have hb_ := z32 q35_2_11; omega) | (have hb_ := z32 q35_2_11; have hc_ := z32 (w.2.2.1 5 3); omega)⟩, hj_11⟩
    ·
      refine s_iload_n E dX9_lasts_49 rfl rfl ?_
      refine s_iload_n E dX9_lasts_50 rfl rfl ?_
      refine z_icmp_eq (tgt := 67) (u := q35_3_11.toInt) (v := x1.toInt) E dX9_lasts_51 (by decide) rfl rfl (fun h_15 => ?_) (fun h_15 => ?_)
      ·
        refine z_iinc (u := q35_3_11.toInt) (L2 := fun z_16 => [some (AR 0), some (AI x1), some (AI q35_2_11), some (AI z_16)]) E dX9_lasts_67 rfl rfl (by decide) (fun _ => rfl) (by decide) (by omega) (by omega) (fun z_16 hz_16 => ?_)
        refine s_goto (tgt := 35) E dX9_lasts_70 (by decide) ?_
        exact ih35 ⟨q35_2_11, z_16⟩ u_9 ⟨⟨by have hb_ := z32 q35_2_11; omega, by have hb_ := z32 q35_2_11; omega⟩, ⟨by have hb_ := z32 z_16; omega, by have hb_ := z32 z_16; omega⟩, rfl⟩ (by first | omega | decide | (dsimp only; omega) | (dsimp only; decide))
      ·
        refine s_iload_n E dX9_lasts_54 rfl rfl ?_
        refine s_aload_n E dX9_lasts_55 rfl rfl ?_
        refine s_gR (r := 81) E fg_X9_64 rfl rfl (jv_lt hj_11 (by decide)) (jv_r hj_11 (by decide +kernel)) dX9_lasts_56 ?_
        refine s_iload_n E dX9_lasts_59 rfl rfl ?_
        refine s_vI (As := [AI q35_3_11]) (S := [AI q35_2_11]) E (Z_X5_gotAt_81 l D aC b u_9 q35_3_11 hj_11.1 ) cv_X9_237 rfl rfl rfl (jv_lt hj_11 (by decide)) (Nat.le_of_ble_eq_true rfl) (Nat.le_of_ble_eq_true rfl) ⟨(Nat.le_of_ble_eq_true rfl), (Nat.le_of_ble_eq_true rfl)⟩ (Nat.le_of_ble_eq_true rfl) dX9_lasts_60 (fun z_19 u_17 hp_18 => ?_)
        obtain ⟨hz_19, hp_18⟩ := hp_18
        subst hp_18
        refine z_max (u := q35_2_11.toInt) (v := z_19.toInt) E ⟨k_735, k_41, k_4, k_42⟩ (Nat.le_of_ble_eq_true rfl) (Nat.le_of_ble_eq_true rfl) (Nat.le_of_ble_eq_true rfl) (Nat.le_of_ble_eq_true rfl) dX9_lasts_63 rfl rfl (fun z_21 hz_21 => ?_)
        refine s_istore_n (L2 := [some (AR 0), some (AI x1), some (AI z_21), some (AI q35_3_11)]) E dX9_lasts_66 rfl (by decide) rfl ?_
        refine z_iinc (u := q35_3_11.toInt) (L2 := fun z_22 => [some (AR 0), some (AI x1), some (AI z_21), some (AI z_22)]) E dX9_lasts_67 rfl rfl (by decide) (fun _ => rfl) (by decide) (by omega) (by omega) (fun z_22 hz_22 => ?_)
        refine s_goto (tgt := 35) E dX9_lasts_70 (by decide) ?_
        exact ih35 ⟨z_21, z_22⟩ u_9 ⟨⟨by have hb_ := z32 z_21; omega, by have hb_ := z32 z_21; omega⟩, ⟨by have hb_ := z32 z_22; omega, by have hb_ := z32 z_22; omega⟩, rfl⟩ (by first | omega | decide | (dsimp only; omega) | (dsimp only; decide))
  ·
    refine s_bipush (v := (-2)) E dX9_lasts_11 (by decide) ?_
    exact r_int E dX9_lasts_13 ⟨⟨by decide, by decide, by first | (left; decide) | (right; decide) | (right; have hb_ := z32 x1; omega), by first | (left; decide) | (right; decide) | (right; have hb_ := z32 (w.2.2.1 5 3); omega)⟩, hJ⟩
set_option maxRecDepth 20000 in
set_option maxHeartbeats 2000000 in
theorem Z_X9_needed_0 (l : Launch) (D : va_G) (aC : Nat → ClassId) (b : Nat) (w : XW) (x1 : Int32) (hI : Iv w)  : CnI l D aC b M_X9_needed 5 116 0 0 [AR 0, AI x1] w (fun r u => ((-2147483648) ≤ r.toInt ∧ r.toInt ≤ 2147483647 ∧ (¬ r.toInt = 0 ∨ (0 ≤ x1.toInt ∧ x1.toInt ≤ 5)) ∧ (¬ r.toInt = 0 ∨ (1 ≤ (w.2.2.1 5 3).toInt ∧ (w.2.2.1 5 3).toInt ≤ 6))) ∧ Jv w u) := by
  refine cn_I (own := RX9) (nm := "needed") (L0 := [some (AR 0), some (AI x1), none, none, none, none]) (by decide +kernel) rfl rfl (Nat.le_of_ble_eq_true rfl) rfl ?_
  intro p e s m args below meth c E hin
  have hJ : Jv w w := jv_rfl hI
  have hb_x1 := z32 x1
  refine s_aload_n E dX9_needed_0 rfl rfl ?_
  refine s_gR (r := 2) E fg_X9_20 rfl rfl (jv_lt hJ (by decide)) (jv_r hJ (by decide +kernel)) dX9_needed_1 ?_
  refine s_iload_n E dX9_needed_4 rfl rfl ?_
  refine s_vI (As := [AI x1]) (S := []) E (Z_X0_hasLady_2 l D aC b w x1 hJ.1 ) cv_X9_139 rfl rfl rfl (jv_lt hJ (by decide)) (Nat.le_of_ble_eq_true rfl) (Nat.le_of_ble_eq_true rfl) ⟨(Nat.le_of_ble_eq_true rfl), (Nat.le_of_ble_eq_true rfl)⟩ (Nat.le_of_ble_eq_true rfl) dX9_needed_5 (fun z_3 u_1 hp_2 => ?_)
  obtain ⟨hz_3, hp_2⟩ := hp_2
  subst hp_2
  refine z_if_ne (tgt := 14) (u := z_3.toInt) E dX9_needed_8 (by decide) rfl (fun h_5 => ?_) (fun h_5 => ?_)
  ·
    refine s_aload_n E dX9_needed_14 rfl rfl ?_
    refine s_vV (As := []) (S := []) E (Z_X9_passAsTold_0 l D aC b w  hJ.1 ) cv_X9_227 rfl rfl rfl (jv_lt hJ (by decide)) (Nat.le_of_ble_eq_true rfl) (Nat.le_of_ble_eq_true rfl) ⟨(Nat.le_of_ble_eq_true rfl), (Nat.le_of_ble_eq_true rfl)⟩ (Nat.le_of_ble_eq_true rfl) dX9_needed_15 (fun u_6 hp_7 => ?_)
    have hj_8 := jv_trans hJ hp_7
    refine s_aload_n E dX9_needed_18 rfl rfl ?_
    refine s_aload_n E dX9_needed_19 rfl rfl ?_
    refine s_gR (r := 69) E fg_X9_54 rfl rfl (jv_lt hj_8 (by decide)) (jv_r hj_8 (by decide +kernel)) dX9_needed_20 ?_
    refine s_iload_n E dX9_needed_23 rfl rfl ?_
    refine s_vI (As := [AR 69, AI x1]) (S := []) E (Z_X9_inTheEnd_0_r69 l D aC b u_6 x1 hj_8.1 ) cv_X9_230 rfl rfl rfl (jv_lt hj_8 (by decide)) (Nat.le_of_ble_eq_true rfl) (Nat.le_of_ble_eq_true rfl) ⟨(Nat.le_of_ble_eq_true rfl), (Nat.le_of_ble_eq_true rfl)⟩ (Nat.le_of_ble_eq_true rfl) dX9_needed_24 (fun z_11 u_9 hp_10 => ?_)
    obtain ⟨hz_11, hp_10⟩ := hp_10
    have hj_12 := jv_trans hj_8 hp_10
    refine s_istore_n (L2 := [some (AR 0), some (AI x1), some (AI z_11), none, none, none]) E dX9_needed_27 rfl (by decide) rfl ?_
    refine s_iconst (v := 0) E dX9_needed_28 (by decide) ?_
    refine s_istore_n (L2 := [some (AR 0), some (AI x1), some (AI z_11), some (AI 0), none, none]) E dX9_needed_29 rfl (by decide) rfl ?_
    refine s_iconst (v := 0) E dX9_needed_30 (by decide) ?_
    refine s_istore (L2 := [some (AR 0), some (AI x1), some (AI z_11), some (AI 0), some (AI 0), none]) E dX9_needed_31 (by decide) rfl ?_
    refine z_loop (St := Int32 × Int32) (Pi := fun ⟨q33_3_12, q33_4_12⟩ v33 => (0 ≤ q33_4_12.toInt ∧ q33_4_12.toInt ≤ 6) ∧ Jv w v33) (Lf := fun ⟨q33_3_12, q33_4_12⟩ => [some (AR 0), some (AI x1), some (AI z_11), some (AI q33_3_12), some (AI q33_4_12), none]) (fun ⟨q33_3_12, q33_4_12⟩ _ => (7 - q33_4_12.toInt).toNat) ⟨0, 0⟩ ⟨⟨by decide, by decide⟩, hj_12⟩ ?_
    rintro ⟨q33_3_12, q33_4_12⟩ v33 ⟨hq33_4, hj_13⟩ ih33
    have hbq33_3 := z32 q33_3_12
    refine s_loc (L2 := [some (AR 0), some (AI x1), some (AI z_11), some (AI q33_3_12), some (AI q33_4_12), none]) rfl ?_
    refine s_iload E dX9_needed_33 rfl ?_
    refine s_aload_n E dX9_needed_35 rfl rfl ?_
    refine s_gR (r := 2) E fg_X9_20 rfl rfl (jv_lt hj_13 (by decide)) (jv_r hj_13 (by decide +kernel)) dX9_needed_36 ?_
    refine s_gR (r := 5) E fg_X9_133 rfl rfl (jv_lt hj_13 (by decide)) (jv_r hj_13 (by decide +kernel)) dX9_needed_39 ?_
    refine s_gI E fg_X9_200 rfl rfl (jv_lt hj_13 (by decide)) dX9_needed_42 ?_
    refine z_nm (P := fun z => z.toInt = (v33.2.2.1 5 3).toInt ∧ 0 ≤ z.toInt ∧ z.toInt ≤ 6) ⟨rfl, (rg_5_3 hj_13)⟩ (fun z_14 hz_14 => ?_)
    refine z_icmp_ge (tgt := 118) (u := q33_4_12.toInt) (v := z_14.toInt) E dX9_needed_45 (by decide) rfl rfl (fun h_15 => ?_) (fun h_15 => ?_)
    ·
      refine s_iload_n E dX9_needed_118 rfl rfl ?_
      exact r_int E dX9_needed_119 ⟨⟨by have hb_ := z32 q33_3_12; omega, by have hb_ := z32 q33_3_12; omega, by first | (right; decide) | (have hb_ := z32 q33_3_12; omega) | (have hb_ := z32 q33_3_12; have hc_ := z32 x1; omega), by first | (right; decide) | (have hb_ := z32 q33_3_12; omega) | (have hb_ := z32 q33_3_12; have hc_ := z32 (w.2.2.1 5 3); omega)⟩, hj_13⟩
    ·
      refine s_iload E dX9_needed_48 rfl ?_
      refine s_iload_n E dX9_needed_50 rfl rfl ?_
      refine z_icmp_eq (tgt := 112) (u := q33_4_12.toInt) (v := x1.toInt) E dX9_needed_51 (by decide) rfl rfl (fun h_16 => ?_) (fun h_16 => ?_)
      ·
        refine z_iinc (u := q33_4_12.toInt) (L2 := fun z_17 => [some (AR 0), some (AI x1), some (AI z_11), some (AI q33_3_12), some (AI z_17), none]) E dX9_needed_112 rfl rfl (by decide) (fun _ => rfl) (by decide) (by omega) (by omega) (fun z_17 hz_17 => ?_)
        refine s_goto (tgt := 33) E dX9_needed_115 (by decide) ?_
        exact ih33 ⟨q33_3_12, z_17⟩ v33 ⟨⟨by have hb_ := z32 z_17; omega, by have hb_ := z32 z_17; omega⟩, hj_13⟩ (by first | omega | decide | (dsimp only; omega) | (dsimp only; decide))
      ·
        refine s_aload_n E dX9_needed_54 rfl rfl ?_
        refine s_gR (r := 81) E fg_X9_64 rfl rfl (jv_lt hj_13 (by decide)) (jv_r hj_13 (by decide +kernel)) dX9_needed_55 ?_
        refine s_aload_n E dX9_needed_58 rfl rfl ?_
        refine s_gR (r := 2) E fg_X9_20 rfl rfl (jv_lt hj_13 (by decide)) (jv_r hj_13 (by decide +kernel)) dX9_needed_59 ?_
        refine s_aload_n E dX9_needed_62 rfl rfl ?_
        refine s_gR (r := 2) E fg_X9_20 rfl rfl (jv_lt hj_13 (by decide)) (jv_r hj_13 (by decide +kernel)) dX9_needed_63 ?_
        refine s_gI E fg_X9_214 rfl rfl (jv_lt hj_13 (by decide)) dX9_needed_66 ?_
        refine z_nm (P := fun z => z.toInt = (v33.2.2.1 2 3).toInt ∧ (-2147483648) ≤ z.toInt ∧ z.toInt ≤ 2147483647) ⟨rfl, z32 _⟩ (fun z_18 hz_18 => ?_)
        refine s_iload E dX9_needed_69 rfl ?_
        refine s_vV (As := [AR 2, AI z_18, AI q33_4_12]) (S := []) E (Z_X5_prepare_81_r2 l D aC b v33 z_18 q33_4_12 hj_13.1 ) cv_X9_217 rfl rfl rfl (jv_lt hj_13 (by decide)) (Nat.le_of_ble_eq_true rfl) (Nat.le_of_ble_eq_true rfl) ⟨(Nat.le_of_ble_eq_true rfl), (Nat.le_of_ble_eq_true rfl)⟩ (Nat.le_of_ble_eq_true rfl) dX9_needed_71 (fun u_19 hp_20 => ?_)
        have hj_21 := jv_trans hj_13 hp_20
        refine s_iload_n E dX9_needed_74 rfl rfl ?_
        refine s_aload_n E dX9_needed_75 rfl rfl ?_
        refine s_aload_n E dX9_needed_76 rfl rfl ?_
        refine s_gR (r := 69) E fg_X9_54 rfl rfl (jv_lt hj_21 (by decide)) (jv_r hj_21 (by decide +kernel)) dX9_needed_77 ?_
        refine s_iload_n E dX9_needed_80 rfl rfl ?_
        refine s_vI (As := [AR 69, AI x1]) (S := [AI z_11]) E (Z_X9_inTheEnd_0_r69 l D aC b u_19 x1 hj_21.1 ) cv_X9_230 rfl rfl rfl (jv_lt hj_21 (by decide)) (Nat.le_of_ble_eq_true rfl) (Nat.le_of_ble_eq_true rfl) ⟨(Nat.le_of_ble_eq_true rfl), (Nat.le_of_ble_eq_true rfl)⟩ (Nat.le_of_ble_eq_true rfl) dX9_needed_81 (fun z_24 u_22 hp_23 => ?_)
        obtain ⟨hz_24, hp_23⟩ := hp_23
        have hj_25 := jv_trans hj_21 hp_23
        refine s_iconst (v := (-1)) E dX9_needed_84 (by decide) ?_
        refine s_ixor E dX9_needed_85 ?_
        refine z_nm (P := fun z => (-2147483648) ≤ z.toInt ∧ z.toInt ≤ 2147483647) (z32 _) (fun z_26 hz_26 => ?_)
        refine s_iand E dX9_needed_86 ?_
        refine z_nm (P := fun z => (-2147483648) ≤ z.toInt ∧ z.toInt ≤ 2147483647) (z32 _) (fun z_27 hz_27 => ?_)
        refine s_iconst (v := 1) E dX9_needed_87 (by decide) ?_
        refine s_iload E dX9_needed_88 rfl ?_
        refine z_shl1 5 (u := q33_4_12.toInt) (B := 32) E dX9_needed_90 rfl (by omega) (by omega) (by decide) (by decide) (fun z_28 hz_28 => ?_)
        refine s_iconst (v := (-1)) E dX9_needed_91 (by decide) ?_
        refine s_ixor E dX9_needed_92 ?_
        refine z_nm (P := fun z => (-2147483648) ≤ z.toInt ∧ z.toInt ≤ 2147483647) (z32 _) (fun z_29 hz_29 => ?_)
        refine s_iand E dX9_needed_93 ?_
        refine z_nm (P := fun z => (-2147483648) ≤ z.toInt ∧ z.toInt ≤ 2147483647) (z32 _) (fun z_30 hz_30 => ?_)
        refine s_istore (L2 := [some (AR 0), some (AI x1), some (AI z_11), some (AI q33_3_12), some (AI q33_4_12), some (AI z_30)]) E dX9_needed_94 (by decide) rfl ?_
        refine s_iload_n E dX9_needed_96 rfl rfl ?_
        refine s_iload E dX9_needed_97 rfl ?_
        refine z_if_eq (tgt := 109) (u := z_30.toInt) E dX9_needed_99 (by decide) rfl (fun h_31 => ?_) (fun h_31 => ?_)
        ·
          refine s_iconst (v := 0) E dX9_needed_109 (by decide) ?_
          refine s_ior E dX9_needed_110 ?_
          refine z_nm (P := fun z => (-2147483648) ≤ z.toInt ∧ z.toInt ≤ 2147483647) (z32 _) (fun z_32 hz_32 => ?_)
          refine s_istore_n (L2 := [some (AR 0), some (AI x1), some (AI z_11), some (AI z_32), some (AI q33_4_12), some (AI z_30)]) E dX9_needed_111 rfl (by decide) rfl ?_
          refine z_iinc (u := q33_4_12.toInt) (L2 := fun z_33 => [some (AR 0), some (AI x1), some (AI z_11), some (AI z_32), some (AI z_33), some (AI z_30)]) E dX9_needed_112 rfl rfl (by decide) (fun _ => rfl) (by decide) (by omega) (by omega) (fun z_33 hz_33 => ?_)
          refine s_goto (tgt := 33) E dX9_needed_115 (by decide) ?_
          refine s_drop (i := 5) (L2 := [some (AR 0), some (AI x1), some (AI z_11), some (AI z_32), some (AI z_33), none]) rfl ?_
          exact ih33 ⟨z_32, z_33⟩ u_22 ⟨⟨by have hb_ := z32 z_33; omega, by have hb_ := z32 z_33; omega⟩, hj_25⟩ (by first | omega | decide | (dsimp only; omega) | (dsimp only; decide))
        ·
          refine s_iconst (v := 1) E dX9_needed_102 (by decide) ?_
          refine s_iload E dX9_needed_103 rfl ?_
          refine z_shl1 5 (u := q33_4_12.toInt) (B := 32) E dX9_needed_105 rfl (by omega) (by omega) (by decide) (by decide) (fun z_34 hz_34 => ?_)
          refine s_goto (tgt := 110) E dX9_needed_106 (by decide) ?_
          refine s_ior E dX9_needed_110 ?_
          refine z_nm (P := fun z => (-2147483648) ≤ z.toInt ∧ z.toInt ≤ 2147483647) (z32 _) (fun z_35 hz_35 => ?_)
          refine s_istore_n (L2 := [some (AR 0), some (AI x1), some (AI z_11), some (AI z_35), some (AI q33_4_12), some (AI z_30)]) E dX9_needed_111 rfl (by decide) rfl ?_
          refine z_iinc (u := q33_4_12.toInt) (L2 := fun z_36 => [some (AR 0), some (AI x1), some (AI z_11), some (AI z_35), some (AI z_36), some (AI z_30)]) E dX9_needed_112 rfl rfl (by decide) (fun _ => rfl) (by decide) (by omega) (by omega) (fun z_36 hz_36 => ?_)
          refine s_goto (tgt := 33) E dX9_needed_115 (by decide) ?_
          refine s_drop (i := 5) (L2 := [some (AR 0), some (AI x1), some (AI z_11), some (AI z_35), some (AI z_36), none]) rfl ?_
          exact ih33 ⟨z_35, z_36⟩ u_22 ⟨⟨by have hb_ := z32 z_36; omega, by have hb_ := z32 z_36; omega⟩, hj_25⟩ (by first | omega | decide | (dsimp only; omega) | (dsimp only; decide))
  ·
    refine s_bipush (v := (-2)) E dX9_needed_11 (by decide) ?_
    exact r_int E dX9_needed_13 ⟨⟨by decide, by decide, by first | (left; decide) | (right; decide) | (right; have hb_ := z32 x1; omega), by first | (left; decide) | (right; decide) | (right; have hb_ := z32 (w.2.2.1 5 3); omega)⟩, hJ⟩
set_option maxRecDepth 20000 in
set_option maxHeartbeats 2000000 in
theorem Z_X9_by_0 (l : Launch) (D : va_G) (aC : Nat → ClassId) (b : Nat) (w : XW) (x1 : Int32) (x2 : Int32) (hI : Iv w)  : CnI l D aC b M_X9_by 5 116 0 0 [AR 0, AI x1, AI x2] w (fun r u => ((-2147483648) ≤ r.toInt ∧ r.toInt ≤ 2147483647 ∧ (¬ r.toInt = 0 ∨ (0 ≤ x1.toInt ∧ x1.toInt ≤ 5)) ∧ (¬ r.toInt = 0 ∨ (0 ≤ x2.toInt ∧ x2.toInt ≤ 3)) ∧ (¬ r.toInt = 0 ∨ (1 ≤ (w.2.2.1 5 3).toInt ∧ (w.2.2.1 5 3).toInt ≤ 6))) ∧ Jv w u) := by
  refine cn_I (own := RX9) (nm := "by") (L0 := [some (AR 0), some (AI x1), some (AI x2)]) (by decide +kernel) rfl rfl (Nat.le_of_ble_eq_true rfl) rfl ?_
  intro p e s m args below meth c E hin
  have hJ : Jv w w := jv_rfl hI
  have hb_x1 := z32 x1
  have hb_x2 := z32 x2
  refine s_aload_n E dX9_by_0 rfl rfl ?_
  refine s_gR (r := 2) E fg_X9_20 rfl rfl (jv_lt hJ (by decide)) (jv_r hJ (by decide +kernel)) dX9_by_1 ?_
  refine s_iload_n E dX9_by_4 rfl rfl ?_
  refine s_vI (As := [AI x1]) (S := []) E (Z_X0_hasLady_2 l D aC b w x1 hJ.1 ) cv_X9_139 rfl rfl rfl (jv_lt hJ (by decide)) (Nat.le_of_ble_eq_true rfl) (Nat.le_of_ble_eq_true rfl) ⟨(Nat.le_of_ble_eq_true rfl), (Nat.le_of_ble_eq_true rfl)⟩ (Nat.le_of_ble_eq_true rfl) dX9_by_5 (fun z_3 u_1 hp_2 => ?_)
  obtain ⟨hz_3, hp_2⟩ := hp_2
  subst hp_2
  refine z_if_eq (tgt := 20) (u := z_3.toInt) E dX9_by_8 (by decide) rfl (fun h_5 => ?_) (fun h_5 => ?_)
  ·
    refine s_bipush (v := (-2)) E dX9_by_20 (by decide) ?_
    exact r_int E dX9_by_22 ⟨⟨by decide, by decide, by first | (left; decide) | (right; decide) | (right; have hb_ := z32 x1; omega), by first | (left; decide) | (right; decide) | (right; have hb_ := z32 x2; omega), by first | (left; decide) | (right; decide) | (right; have hb_ := z32 (w.2.2.1 5 3); omega)⟩, hJ⟩
  ·
    refine s_iload_n E dX9_by_11 rfl rfl ?_
    refine z_if_lt (tgt := 20) (u := x2.toInt) E dX9_by_12 (by decide) rfl (fun h_6 => ?_) (fun h_6 => ?_)
    ·
      refine s_bipush (v := (-2)) E dX9_by_20 (by decide) ?_
      exact r_int E dX9_by_22 ⟨⟨by decide, by decide, by first | (left; decide) | (right; decide) | (right; have hb_ := z32 x1; omega), by first | (left; decide) | (right; decide) | (right; have hb_ := z32 x2; omega), by first | (left; decide) | (right; decide) | (right; have hb_ := z32 (w.2.2.1 5 3); omega)⟩, hJ⟩
    ·
      refine s_iload_n E dX9_by_15 rfl rfl ?_
      refine s_iconst (v := 3) E dX9_by_16 (by decide) ?_
      refine z_icmp_le (tgt := 23) (u := x2.toInt) (v := 3) E dX9_by_17 (by decide) rfl (by decide) (fun h_7 => ?_) (fun h_7 => ?_)
      ·
        refine s_aload_n E dX9_by_23 rfl rfl ?_
        refine s_gR (r := 81) E fg_X9_64 rfl rfl (jv_lt hJ (by decide)) (jv_r hJ (by decide +kernel)) dX9_by_24 ?_
        refine s_aload_n E dX9_by_27 rfl rfl ?_
        refine s_gR (r := 2) E fg_X9_20 rfl rfl (jv_lt hJ (by decide)) (jv_r hJ (by decide +kernel)) dX9_by_28 ?_
        refine s_iload_n E dX9_by_31 rfl rfl ?_
        refine s_iconst (v := (-1)) E dX9_by_32 (by decide) ?_
        refine s_vV (As := [AR 2, AI x2, AI (-1)]) (S := []) E (Z_X5_prepare_81_r2 l D aC b w x2 ((-1)) hJ.1 ) cv_X9_217 rfl rfl rfl (jv_lt hJ (by decide)) (Nat.le_of_ble_eq_true rfl) (Nat.le_of_ble_eq_true rfl) ⟨(Nat.le_of_ble_eq_true rfl), (Nat.le_of_ble_eq_true rfl)⟩ (Nat.le_of_ble_eq_true rfl) dX9_by_33 (fun u_8 hp_9 => ?_)
        have hj_10 := jv_trans hJ hp_9
        refine s_aload_n E dX9_by_36 rfl rfl ?_
        refine s_aload_n E dX9_by_37 rfl rfl ?_
        refine s_gR (r := 69) E fg_X9_54 rfl rfl (jv_lt hj_10 (by decide)) (jv_r hj_10 (by decide +kernel)) dX9_by_38 ?_
        refine s_iload_n E dX9_by_41 rfl rfl ?_
        refine s_vI (As := [AR 69, AI x1]) (S := []) E (Z_X9_inTheEnd_0_r69 l D aC b u_8 x1 hj_10.1 ) cv_X9_230 rfl rfl rfl (jv_lt hj_10 (by decide)) (Nat.le_of_ble_eq_true rfl) (Nat.le_of_ble_eq_true rfl) ⟨(Nat.le_of_ble_eq_true rfl), (Nat.le_of_ble_eq_true rfl)⟩ (Nat.le_of_ble_eq_true rfl) dX9_by_42 (fun z_13 u_11 hp_12 => ?_)
        obtain ⟨hz_13, hp_12⟩ := hp_12
        have hj_14 := jv_trans hj_10 hp_12
        exact r_int E dX9_by_45 ⟨⟨by have hb_ := z32 z_13; omega, by have hb_ := z32 z_13; omega, by first | (right; decide) | (have hb_ := z32 z_13; omega) | (have hb_ := z32 z_13; have hc_ := z32 x1; omega), by first | (right; decide) | (have hb_ := z32 z_13; omega) | (have hb_ := z32 z_13; have hc_ := z32 x2; omega), by first | (right; decide) | (have hb_ := z32 z_13; omega) | (have hb_ := z32 z_13; have hc_ := z32 (w.2.2.1 5 3); omega)⟩, hj_14⟩
      ·
        refine s_bipush (v := (-2)) E dX9_by_20 (by decide) ?_
        exact r_int E dX9_by_22 ⟨⟨by decide, by decide, by first | (left; decide) | (right; decide) | (right; have hb_ := z32 x1; omega), by first | (left; decide) | (right; decide) | (right; have hb_ := z32 x2; omega), by first | (left; decide) | (right; decide) | (right; have hb_ := z32 (w.2.2.1 5 3); omega)⟩, hJ⟩
set_option maxRecDepth 20000 in
set_option maxHeartbeats 2000000 in
theorem Z_X1_roomsOf_r69 (l : Launch) (D : va_G) (aC : Nat → ClassId) (b : Nat) (w : XW) (x1 : Int32) (x2 : Int32) (hI : Iv w)  : CnI l D aC b M_X1_roomsOf 2 44 0 0 [AR 69, AI x1, AI x2] w (fun r u => ((-2147483648) ≤ r.toInt ∧ r.toInt ≤ 2147483647) ∧ w = u) := by
  refine cn_I (own := RX1) (nm := "roomsOf") (L0 := [some (AR 69), some (AI x1), some (AI x2), none, none]) (by decide +kernel) rfl rfl (Nat.le_of_ble_eq_true rfl) rfl ?_
  intro p e s m args below meth c E hin
  have hJ : Jv w w := jv_rfl hI
  have hb_x1 := z32 x1
  have hb_x2 := z32 x2
  refine s_iconst (v := 0) E dX1_roomsOf_0 (by decide) ?_
  refine s_istore_n (L2 := [some (AR 69), some (AI x1), some (AI x2), some (AI 0), none]) E dX1_roomsOf_1 rfl (by decide) rfl ?_
  refine s_iconst (v := 0) E dX1_roomsOf_2 (by decide) ?_
  refine s_istore (L2 := [some (AR 69), some (AI x1), some (AI x2), some (AI 0), some (AI 0)]) E dX1_roomsOf_3 (by decide) rfl ?_
  refine z_loop (St := Int32 × Int32) (Pi := fun ⟨q5_3_0, q5_4_0⟩ v5 => (0 ≤ q5_4_0.toInt ∧ q5_4_0.toInt ≤ 6) ∧ w = v5) (Lf := fun ⟨q5_3_0, q5_4_0⟩ => [some (AR 69), some (AI x1), some (AI x2), some (AI q5_3_0), some (AI q5_4_0)]) (fun ⟨q5_3_0, q5_4_0⟩ _ => (7 - q5_4_0.toInt).toNat) ⟨0, 0⟩ ⟨⟨by decide, by decide⟩, rfl⟩ ?_
  rintro ⟨q5_3_0, q5_4_0⟩ v5 ⟨hq5_4, hv_⟩ ih5
  subst hv_
  have hbq5_3 := z32 q5_3_0
  refine s_loc (L2 := [some (AR 69), some (AI x1), some (AI x2), some (AI q5_3_0), some (AI q5_4_0)]) rfl ?_
  refine s_iload E dX1_roomsOf_5 rfl ?_
  refine s_bipush (v := 6) E dX1_roomsOf_7 (by decide) ?_
  refine z_icmp_ge (tgt := 39) (u := q5_4_0.toInt) (v := 6) E dX1_roomsOf_9 (by decide) rfl (by decide) (fun h_2 => ?_) (fun h_2 => ?_)
  ·
    refine s_iload_n E dX1_roomsOf_39 rfl rfl ?_
    exact r_int E dX1_roomsOf_40 ⟨⟨by have hb_ := z32 q5_3_0; omega, by have hb_ := z32 q5_3_0; omega⟩, rfl⟩
  ·
    refine s_iload_n E dX1_roomsOf_12 rfl rfl ?_
    refine s_iload E dX1_roomsOf_13 rfl ?_
    refine s_sI (As := [AI x1, AI q5_4_0]) (S := []) E (Z_X9_hasBit l D aC b w x1 q5_4_0 hJ.1 ) cs_X1_51 rfl rfl (Nat.le_of_ble_eq_true rfl) (Nat.le_of_ble_eq_true rfl) ⟨(Nat.le_of_ble_eq_true rfl), (Nat.le_of_ble_eq_true rfl)⟩ (Nat.le_of_ble_eq_true rfl) dX1_roomsOf_15 (fun z_5 u_3 hp_4 => ?_)
    obtain ⟨hz_5, hp_4⟩ := hp_4
    subst hp_4
    refine z_if_eq (tgt := 33) (u := z_5.toInt) E dX1_roomsOf_18 (by decide) rfl (fun h_7 => ?_) (fun h_7 => ?_)
    ·
      refine z_iinc (u := q5_4_0.toInt) (L2 := fun z_8 => [some (AR 69), some (AI x1), some (AI x2), some (AI q5_3_0), some (AI z_8)]) E dX1_roomsOf_33 rfl rfl (by decide) (fun _ => rfl) (by decide) (by omega) (by omega) (fun z_8 hz_8 => ?_)
      refine s_goto (tgt := 5) E dX1_roomsOf_36 (by decide) ?_
      exact ih5 ⟨q5_3_0, z_8⟩ w ⟨⟨by have hb_ := z32 z_8; omega, by have hb_ := z32 z_8; omega⟩, rfl⟩ (by first | omega | decide | (dsimp only; omega) | (dsimp only; decide))
    ·
      refine s_iload_n E dX1_roomsOf_21 rfl rfl ?_
      refine s_iconst (v := 1) E dX1_roomsOf_22 (by decide) ?_
      refine s_aload_n E dX1_roomsOf_23 rfl rfl ?_
      refine s_iload E dX1_roomsOf_24 rfl ?_
      refine s_iload_n E dX1_roomsOf_26 rfl rfl ?_
      refine s_vI (As := [AI q5_4_0, AI x2]) (S := [AI 1, AI q5_3_0]) E (Z_X2_placeOf_69 l D aC b w q5_4_0 x2 hJ.1 ) cv_X1_45 rfl rfl rfl (jv_lt hJ (by decide)) (Nat.le_of_ble_eq_true rfl) (Nat.le_of_ble_eq_true rfl) ⟨(Nat.le_of_ble_eq_true rfl), (Nat.le_of_ble_eq_true rfl)⟩ (Nat.le_of_ble_eq_true rfl) dX1_roomsOf_27 (fun z_11 u_9 hp_10 => ?_)
      obtain ⟨hz_11, hp_10⟩ := hp_10
      subst hp_10
      refine s_ishl E dX1_roomsOf_30 ?_
      refine z_nm (P := fun z => (-2147483648) ≤ z.toInt ∧ z.toInt ≤ 2147483647) (z32 _) (fun z_13 hz_13 => ?_)
      refine s_ior E dX1_roomsOf_31 ?_
      refine z_nm (P := fun z => (-2147483648) ≤ z.toInt ∧ z.toInt ≤ 2147483647) (z32 _) (fun z_14 hz_14 => ?_)
      refine s_istore_n (L2 := [some (AR 69), some (AI x1), some (AI x2), some (AI z_14), some (AI q5_4_0)]) E dX1_roomsOf_32 rfl (by decide) rfl ?_
      refine z_iinc (u := q5_4_0.toInt) (L2 := fun z_15 => [some (AR 69), some (AI x1), some (AI x2), some (AI z_14), some (AI z_15)]) E dX1_roomsOf_33 rfl rfl (by decide) (fun _ => rfl) (by decide) (by omega) (by omega) (fun z_15 hz_15 => ?_)
      refine s_goto (tgt := 5) E dX1_roomsOf_36 (by decide) ?_
      exact ih5 ⟨z_14, z_15⟩ w ⟨⟨by have hb_ := z32 z_15; omega, by have hb_ := z32 z_15; omega⟩, rfl⟩ (by first | omega | decide | (dsimp only; omega) | (dsimp only; decide))
set_option maxRecDepth 20000 in
set_option maxHeartbeats 2000000 in
theorem Z_X1_prepare_85_r69_r81 (l : Launch) (D : va_G) (aC : Nat → ClassId) (b : Nat) (w : XW) (x1 : Int32) (x2 : Int32) (hI : Iv w)  : CnV l D aC b M_X1_prepare 3 68 0 0 [AR 85, AR 69, AR 81, AI x1, AI x2] w (fun u => Jv w u) := by
  refine cn_V (own := RX1) (nm := "prepare") (L0 := [some (AR 85), some (AR 69), some (AR 81), some (AI x1), some (AI x2), none]) (by decide +kernel) rfl rfl (Nat.le_of_ble_eq_true rfl) rfl ?_
  intro p e s m args below meth c E hin
  have hJ : Jv w w := jv_rfl hI
  have hb_x1 := z32 x1
  have hb_x2 := z32 x2
  refine s_aload_n E dX1_prepare_0 rfl rfl ?_
  refine s_iload_n E dX1_prepare_1 rfl rfl ?_
  refine s_pI E fp_X1_21 (Or.inl rfl) rfl (jv_lt hJ (by decide)) dX1_prepare_2 ?_
  refine s_gen (P := Jv w) (jv_f_85_3 hJ (by have hb_ := z32 x1; omega) (by have hb_ := z32 x1; omega)) (fun v_1 hj_2 => ?_)
  refine s_aload_n E dX1_prepare_5 rfl rfl ?_
  refine s_iload E dX1_prepare_6 rfl ?_
  refine s_pI E fp_X1_25 (Or.inl rfl) rfl (jv_lt hj_2 (by decide)) dX1_prepare_8 ?_
  refine s_gen (P := Jv w) (jv_f_85_4 hj_2 (by have hb_ := z32 x2; omega) (by have hb_ := z32 x2; omega)) (fun v_3 hj_4 => ?_)
  refine s_aload_n E dX1_prepare_11 rfl rfl ?_
  refine s_aload_n E dX1_prepare_12 rfl rfl ?_
  refine s_gI E fg_X1_28 rfl rfl (jv_lt hj_4 (by decide)) dX1_prepare_13 ?_
  refine z_nm (P := fun z => z.toInt = (v_3.2.2.1 81 4).toInt ∧ 0 ≤ z.toInt ∧ z.toInt ≤ 14) ⟨rfl, (rg_81_4 hj_4)⟩ (fun z_5 hz_5 => ?_)
  refine s_pI E fp_X1_33 (Or.inl rfl) rfl (jv_lt hj_4 (by decide)) dX1_prepare_16 ?_
  refine s_gen (P := Jv w) (jv_f_85_5 hj_4 (by have hb_ := z32 z_5; omega) (by have hb_ := z32 z_5; omega)) (fun v_6 hj_7 => ?_)
  refine s_iconst (v := 0) E dX1_prepare_19 (by decide) ?_
  refine s_istore (L2 := [some (AR 85), some (AR 69), some (AR 81), some (AI x1), some (AI x2), some (AI 0)]) E dX1_prepare_20 (by decide) rfl ?_
  refine z_loop (St := Int32) (Pi := fun q22_5_7 v22 => (0 ≤ q22_5_7.toInt ∧ q22_5_7.toInt ≤ 15) ∧ Jv w v22) (Lf := fun q22_5_7 => [some (AR 85), some (AR 69), some (AR 81), some (AI x1), some (AI x2), some (AI q22_5_7)]) (fun q22_5_7 _ => (16 - q22_5_7.toInt).toNat) 0 ⟨⟨by decide, by decide⟩, hj_7⟩ ?_
  rintro q22_5_7 v22 ⟨hq22_5, hj_8⟩ ih22
  refine s_loc (L2 := [some (AR 85), some (AR 69), some (AR 81), some (AI x1), some (AI x2), some (AI q22_5_7)]) rfl ?_
  refine s_iload E dX1_prepare_22 rfl ?_
  refine s_aload_n E dX1_prepare_24 rfl rfl ?_
  refine s_gI E fg_X1_33 rfl rfl (jv_lt hj_8 (by decide)) dX1_prepare_25 ?_
  refine z_nm (P := fun z => z.toInt = (v22.2.2.1 85 5).toInt ∧ 0 ≤ z.toInt ∧ z.toInt ≤ 14) ⟨rfl, (rg_85_5 hj_8)⟩ (fun z_9 hz_9 => ?_)
  refine z_icmp_gt (tgt := 65) (u := q22_5_7.toInt) (v := z_9.toInt) E dX1_prepare_28 (by decide) rfl rfl (fun h_10 => ?_) (fun h_10 => ?_)
  ·
    refine s_aload_n E dX1_prepare_65 rfl rfl ?_
    refine s_aload_n E dX1_prepare_66 rfl rfl ?_
    refine s_gI E fg_X1_42 rfl rfl (jv_lt hj_8 (by decide)) dX1_prepare_67 ?_
    refine z_nm (P := fun z => z.toInt = (v22.2.2.1 81 5).toInt ∧ (-2147483648) ≤ z.toInt ∧ z.toInt ≤ 2147483647) ⟨rfl, z32 _⟩ (fun z_11 hz_11 => ?_)
    refine s_aload_n E dX1_prepare_70 rfl rfl ?_
    refine s_gI E fg_X1_21 rfl rfl (jv_lt hj_8 (by decide)) dX1_prepare_71 ?_
    refine z_nm (P := fun z => z.toInt = (v22.2.2.1 85 3).toInt ∧ (-2147483648) ≤ z.toInt ∧ z.toInt ≤ 2147483647) ⟨rfl, z32 _⟩ (fun z_12 hz_12 => ?_)
    refine z_icmp_eq (tgt := 98) (u := z_11.toInt) (v := z_12.toInt) E dX1_prepare_74 (by decide) rfl rfl (fun h_13 => ?_) (fun h_13 => ?_)
    ·
      refine s_iconst (v := 1) E dX1_prepare_98 (by decide) ?_
      refine s_goto (tgt := 103) E dX1_prepare_99 (by decide) ?_
      refine s_pI E fp_X1_55 (Or.inr ⟨rfl, Or.inr rfl⟩) rfl (jv_lt hj_8 (by decide)) dX1_prepare_103 ?_
      refine s_gen (P := Jv w) (jv_f_85_6 hj_8 (by decide) (by decide)) (fun v_14 hj_15 => ?_)
      refine s_aload_n E dX1_prepare_106 rfl rfl ?_
      refine s_aload_n E dX1_prepare_107 rfl rfl ?_
      refine s_gI E fg_X1_42 rfl rfl (jv_lt hj_15 (by decide)) dX1_prepare_108 ?_
      refine z_nm (P := fun z => z.toInt = (v_14.2.2.1 81 5).toInt ∧ (-2147483648) ≤ z.toInt ∧ z.toInt ≤ 2147483647) ⟨rfl, z32 _⟩ (fun z_16 hz_16 => ?_)
      refine s_aload_n E dX1_prepare_111 rfl rfl ?_
      refine s_gI E fg_X1_21 rfl rfl (jv_lt hj_15 (by decide)) dX1_prepare_112 ?_
      refine z_nm (P := fun z => z.toInt = (v_14.2.2.1 85 3).toInt ∧ (-2147483648) ≤ z.toInt ∧ z.toInt ≤ 2147483647) ⟨rfl, z32 _⟩ (fun z_17 hz_17 => ?_)
      refine z_icmp_ne (tgt := 143) (u := z_16.toInt) (v := z_17.toInt) E dX1_prepare_115 (by decide) rfl rfl (fun h_18 => ?_) (fun h_18 => ?_)
      ·
        refine s_iconst (v := 0) E dX1_prepare_143 (by decide) ?_
        refine s_pI E fp_X1_59 (Or.inr ⟨rfl, Or.inl rfl⟩) rfl (jv_lt hj_15 (by decide)) dX1_prepare_144 ?_
        refine s_gen (P := Jv w) (jv_f_85_7 hj_15 (by decide) (by decide)) (fun v_19 hj_20 => ?_)
        exact r_void E dX1_prepare_147 hj_20
      ·
        refine s_aload_n E dX1_prepare_118 rfl rfl ?_
        refine s_aload_n E dX1_prepare_119 rfl rfl ?_
        refine s_gI E fg_X1_21 rfl rfl (jv_lt hj_15 (by decide)) dX1_prepare_120 ?_
        refine z_nm (P := fun z => z.toInt = (v_14.2.2.1 85 3).toInt ∧ (-2147483648) ≤ z.toInt ∧ z.toInt ≤ 2147483647) ⟨rfl, z32 _⟩ (fun z_21 hz_21 => ?_)
        refine s_iconst (v := 0) E dX1_prepare_123 (by decide) ?_
        refine s_vI (As := [AI z_21, AI 0]) (S := [AR 85]) E (Z_X2_placeOf_69 l D aC b v_14 z_21 0 hj_15.1 ) cv_X1_45 rfl rfl rfl (jv_lt hj_15 (by decide)) (Nat.le_of_ble_eq_true rfl) (Nat.le_of_ble_eq_true rfl) ⟨(Nat.le_of_ble_eq_true rfl), (Nat.le_of_ble_eq_true rfl)⟩ (Nat.le_of_ble_eq_true rfl) dX1_prepare_124 (fun z_24 u_22 hp_23 => ?_)
        obtain ⟨hz_24, hp_23⟩ := hp_23
        subst hp_23
        refine s_aload_n E dX1_prepare_127 rfl rfl ?_
        refine s_aload_n E dX1_prepare_128 rfl rfl ?_
        refine s_gI E fg_X1_25 rfl rfl (jv_lt hj_15 (by decide)) dX1_prepare_129 ?_
        refine z_nm (P := fun z => z.toInt = (v_14.2.2.1 85 4).toInt ∧ (-2147483648) ≤ z.toInt ∧ z.toInt ≤ 2147483647) ⟨rfl, z32 _⟩ (fun z_26 hz_26 => ?_)
        refine s_iconst (v := 0) E dX1_prepare_132 (by decide) ?_
        refine s_vI (As := [AI z_26, AI 0]) (S := [AI z_24, AR 85]) E (Z_X2_placeOf_69 l D aC b v_14 z_26 0 hj_15.1 ) cv_X1_45 rfl rfl rfl (jv_lt hj_15 (by decide)) (Nat.le_of_ble_eq_true rfl) (Nat.le_of_ble_eq_true rfl) ⟨(Nat.le_of_ble_eq_true rfl), (Nat.le_of_ble_eq_true rfl)⟩ (Nat.le_of_ble_eq_true rfl) dX1_prepare_133 (fun z_29 u_27 hp_28 => ?_)
        obtain ⟨hz_29, hp_28⟩ := hp_28
        subst hp_28
        refine z_icmp_ne (tgt := 143) (u := z_24.toInt) (v := z_29.toInt) E dX1_prepare_136 (by decide) rfl rfl (fun h_31 => ?_) (fun h_31 => ?_)
        ·
          refine s_iconst (v := 0) E dX1_prepare_143 (by decide) ?_
          refine s_pI E fp_X1_59 (Or.inr ⟨rfl, Or.inl rfl⟩) rfl (jv_lt hj_15 (by decide)) dX1_prepare_144 ?_
          refine s_gen (P := Jv w) (jv_f_85_7 hj_15 (by decide) (by decide)) (fun v_32 hj_33 => ?_)
          exact r_void E dX1_prepare_147 hj_33
        ·
          refine s_iconst (v := 1) E dX1_prepare_139 (by decide) ?_
          refine s_goto (tgt := 144) E dX1_prepare_140 (by decide) ?_
          refine s_pI E fp_X1_59 (Or.inr ⟨rfl, Or.inr rfl⟩) rfl (jv_lt hj_15 (by decide)) dX1_prepare_144 ?_
          refine s_gen (P := Jv w) (jv_f_85_7 hj_15 (by decide) (by decide)) (fun v_34 hj_35 => ?_)
          exact r_void E dX1_prepare_147 hj_35
    ·
      refine s_aload_n E dX1_prepare_77 rfl rfl ?_
      refine s_gR (r := 86) E fg_X1_9 rfl rfl (jv_lt hj_8 (by decide)) (jv_r hj_8 (by decide +kernel)) dX1_prepare_78 ?_
      refine s_iconst (v := 0) E dX1_prepare_81 (by decide) ?_
      refine s_iald E rfl (jv_lt hj_8 (by decide)) (z_in (u := 0) (by decide) (by omega) (by omega)) dX1_prepare_82 ?_
      refine z_nm (P := fun z => (-2147483648) ≤ z.toInt ∧ z.toInt ≤ 2147483647) (z32 _) (fun z_36 hz_36 => ?_)
      refine s_aload_n E dX1_prepare_83 rfl rfl ?_
      refine s_aload_n E dX1_prepare_84 rfl rfl ?_
      refine s_gI E fg_X1_21 rfl rfl (jv_lt hj_8 (by decide)) dX1_prepare_85 ?_
      refine z_nm (P := fun z => z.toInt = (v22.2.2.1 85 3).toInt ∧ (-2147483648) ≤ z.toInt ∧ z.toInt ≤ 2147483647) ⟨rfl, z32 _⟩ (fun z_37 hz_37 => ?_)
      refine s_iconst (v := 0) E dX1_prepare_88 (by decide) ?_
      refine s_vI (As := [AI z_37, AI 0]) (S := [AI z_36, AR 85]) E (Z_X2_placeOf_69 l D aC b v22 z_37 0 hj_8.1 ) cv_X1_45 rfl rfl rfl (jv_lt hj_8 (by decide)) (Nat.le_of_ble_eq_true rfl) (Nat.le_of_ble_eq_true rfl) ⟨(Nat.le_of_ble_eq_true rfl), (Nat.le_of_ble_eq_true rfl)⟩ (Nat.le_of_ble_eq_true rfl) dX1_prepare_89 (fun z_40 u_38 hp_39 => ?_)
      obtain ⟨hz_40, hp_39⟩ := hp_39
      subst hp_39
      refine s_sI (As := [AI z_36, AI z_40]) (S := [AR 85]) E (Z_X9_hasBit l D aC b v22 z_36 z_40 hj_8.1 ) cs_X1_51 rfl rfl (Nat.le_of_ble_eq_true rfl) (Nat.le_of_ble_eq_true rfl) ⟨(Nat.le_of_ble_eq_true rfl), (Nat.le_of_ble_eq_true rfl)⟩ (Nat.le_of_ble_eq_true rfl) dX1_prepare_92 (fun z_44 u_42 hp_43 => ?_)
      obtain ⟨hz_44, hp_43⟩ := hp_43
      subst hp_43
      refine z_if_eq (tgt := 102) (u := z_44.toInt) E dX1_prepare_95 (by decide) rfl (fun h_46 => ?_) (fun h_46 => ?_)
      ·
        refine s_iconst (v := 0) E dX1_prepare_102 (by decide) ?_
        refine s_pI E fp_X1_55 (Or.inr ⟨rfl, Or.inl rfl⟩) rfl (jv_lt hj_8 (by decide)) dX1_prepare_103 ?_
        refine s_gen (P := Jv w) (jv_f_85_6 hj_8 (by decide) (by decide)) (fun v_47 hj_48 => ?_)
        refine s_aload_n E dX1_prepare_106 rfl rfl ?_
        refine s_aload_n E dX1_prepare_107 rfl rfl ?_
        refine s_gI E fg_X1_42 rfl rfl (jv_lt hj_48 (by decide)) dX1_prepare_108 ?_
        refine z_nm (P := fun z => z.toInt = (v_47.2.2.1 81 5).toInt ∧ (-2147483648) ≤ z.toInt ∧ z.toInt ≤ 2147483647) ⟨rfl, z32 _⟩ (fun z_49 hz_49 => ?_)
        refine s_aload_n E dX1_prepare_111 rfl rfl ?_
        refine s_gI E fg_X1_21 rfl rfl (jv_lt hj_48 (by decide)) dX1_prepare_112 ?_
        refine z_nm (P := fun z => z.toInt = (v_47.2.2.1 85 3).toInt ∧ (-2147483648) ≤ z.toInt ∧ z.toInt ≤ 2147483647) ⟨rfl, z32 _⟩ (fun z_50 hz_50 => ?_)
        refine z_icmp_ne (tgt := 143) (u := z_49.toInt) (v := z_50.toInt) E dX1_prepare_115 (by decide) rfl rfl (fun h_51 => ?_) (fun h_51 => ?_)
        ·
          refine s_iconst (v := 0) E dX1_prepare_143 (by decide) ?_
          refine s_pI E fp_X1_59 (Or.inr ⟨rfl, Or.inl rfl⟩) rfl (jv_lt hj_48 (by decide)) dX1_prepare_144 ?_
          refine s_gen (P := Jv w) (jv_f_85_7 hj_48 (by decide) (by decide)) (fun v_52 hj_53 => ?_)
          exact r_void E dX1_prepare_147 hj_53
        ·
          refine s_aload_n E dX1_prepare_118 rfl rfl ?_
          refine s_aload_n E dX1_prepare_119 rfl rfl ?_
          refine s_gI E fg_X1_21 rfl rfl (jv_lt hj_48 (by decide)) dX1_prepare_120 ?_
          refine z_nm (P := fun z => z.toInt = (v_47.2.2.1 85 3).toInt ∧ (-2147483648) ≤ z.toInt ∧ z.toInt ≤ 2147483647) ⟨rfl, z32 _⟩ (fun z_54 hz_54 => ?_)
          refine s_iconst (v := 0) E dX1_prepare_123 (by decide) ?_
          refine s_vI (As := [AI z_54, AI 0]) (S := [AR 85]) E (Z_X2_placeOf_69 l D aC b v_47 z_54 0 hj_48.1 ) cv_X1_45 rfl rfl rfl (jv_lt hj_48 (by decide)) (Nat.le_of_ble_eq_true rfl) (Nat.le_of_ble_eq_true rfl) ⟨(Nat.le_of_ble_eq_true rfl), (Nat.le_of_ble_eq_true rfl)⟩ (Nat.le_of_ble_eq_true rfl) dX1_prepare_124 (fun z_57 u_55 hp_56 => ?_)
          obtain ⟨hz_57, hp_56⟩ := hp_56
          subst hp_56
          refine s_aload_n E dX1_prepare_127 rfl rfl ?_
          refine s_aload_n E dX1_prepare_128 rfl rfl ?_
          refine s_gI E fg_X1_25 rfl rfl (jv_lt hj_48 (by decide)) dX1_prepare_129 ?_
          refine z_nm (P := fun z => z.toInt = (v_47.2.2.1 85 4).toInt ∧ (-2147483648) ≤ z.toInt ∧ z.toInt ≤ 2147483647) ⟨rfl, z32 _⟩ (fun z_59 hz_59 => ?_)
          refine s_iconst (v := 0) E dX1_prepare_132 (by decide) ?_
          refine s_vI (As := [AI z_59, AI 0]) (S := [AI z_57, AR 85]) E (Z_X2_placeOf_69 l D aC b v_47 z_59 0 hj_48.1 ) cv_X1_45 rfl rfl rfl (jv_lt hj_48 (by decide)) (Nat.le_of_ble_eq_true rfl) (Nat.le_of_ble_eq_true rfl) ⟨(Nat.le_of_ble_eq_true rfl), (Nat.le_of_ble_eq_true rfl)⟩ (Nat.le_of_ble_eq_true rfl) dX1_prepare_133 (fun z_62 u_60 hp_61 => ?_)
          obtain ⟨hz_62, hp_61⟩ := hp_61
          subst hp_61
          refine z_icmp_ne (tgt := 143) (u := z_57.toInt) (v := z_62.toInt) E dX1_prepare_136 (by decide) rfl rfl (fun h_64 => ?_) (fun h_64 => ?_)
          ·
            refine s_iconst (v := 0) E dX1_prepare_143 (by decide) ?_
            refine s_pI E fp_X1_59 (Or.inr ⟨rfl, Or.inl rfl⟩) rfl (jv_lt hj_48 (by decide)) dX1_prepare_144 ?_
            refine s_gen (P := Jv w) (jv_f_85_7 hj_48 (by decide) (by decide)) (fun v_65 hj_66 => ?_)
            exact r_void E dX1_prepare_147 hj_66
          ·
            refine s_iconst (v := 1) E dX1_prepare_139 (by decide) ?_
            refine s_goto (tgt := 144) E dX1_prepare_140 (by decide) ?_
            refine s_pI E fp_X1_59 (Or.inr ⟨rfl, Or.inr rfl⟩) rfl (jv_lt hj_48 (by decide)) dX1_prepare_144 ?_
            refine s_gen (P := Jv w) (jv_f_85_7 hj_48 (by decide) (by decide)) (fun v_67 hj_68 => ?_)
            exact r_void E dX1_prepare_147 hj_68
      ·
        refine s_iconst (v := 1) E dX1_prepare_98 (by decide) ?_
        refine s_goto (tgt := 103) E dX1_prepare_99 (by decide) ?_
        refine s_pI E fp_X1_55 (Or.inr ⟨rfl, Or.inr rfl⟩) rfl (jv_lt hj_8 (by decide)) dX1_prepare_103 ?_
        refine s_gen (P := Jv w) (jv_f_85_6 hj_8 (by decide) (by decide)) (fun v_69 hj_70 => ?_)
        refine s_aload_n E dX1_prepare_106 rfl rfl ?_
        refine s_aload_n E dX1_prepare_107 rfl rfl ?_
        refine s_gI E fg_X1_42 rfl rfl (jv_lt hj_70 (by decide)) dX1_prepare_108 ?_
        refine z_nm (P := fun z => z.toInt = (v_69.2.2.1 81 5).toInt ∧ (-2147483648) ≤ z.toInt ∧ z.toInt ≤ 2147483647) ⟨rfl, z32 _⟩ (fun z_71 hz_71 => ?_)
        refine s_aload_n E dX1_prepare_111 rfl rfl ?_
        refine s_gI E fg_X1_21 rfl rfl (jv_lt hj_70 (by decide)) dX1_prepare_112 ?_
        refine z_nm (P := fun z => z.toInt = (v_69.2.2.1 85 3).toInt ∧ (-2147483648) ≤ z.toInt ∧ z.toInt ≤ 2147483647) ⟨rfl, z32 _⟩ (fun z_72 hz_72 => ?_)
        refine z_icmp_ne (tgt := 143) (u := z_71.toInt) (v := z_72.toInt) E dX1_prepare_115 (by decide) rfl rfl (fun h_73 => ?_) (fun h_73 => ?_)
        ·
          refine s_iconst (v := 0) E dX1_prepare_143 (by decide) ?_
          refine s_pI E fp_X1_59 (Or.inr ⟨rfl, Or.inl rfl⟩) rfl (jv_lt hj_70 (by decide)) dX1_prepare_144 ?_
          refine s_gen (P := Jv w) (jv_f_85_7 hj_70 (by decide) (by decide)) (fun v_74 hj_75 => ?_)
          exact r_void E dX1_prepare_147 hj_75
        ·
          refine s_aload_n E dX1_prepare_118 rfl rfl ?_
          refine s_aload_n E dX1_prepare_119 rfl rfl ?_
          refine s_gI E fg_X1_21 rfl rfl (jv_lt hj_70 (by decide)) dX1_prepare_120 ?_
          refine z_nm (P := fun z => z.toInt = (v_69.2.2.1 85 3).toInt ∧ (-2147483648) ≤ z.toInt ∧ z.toInt ≤ 2147483647) ⟨rfl, z32 _⟩ (fun z_76 hz_76 => ?_)
          refine s_iconst (v := 0) E dX1_prepare_123 (by decide) ?_
          refine s_vI (As := [AI z_76, AI 0]) (S := [AR 85]) E (Z_X2_placeOf_69 l D aC b v_69 z_76 0 hj_70.1 ) cv_X1_45 rfl rfl rfl (jv_lt hj_70 (by decide)) (Nat.le_of_ble_eq_true rfl) (Nat.le_of_ble_eq_true rfl) ⟨(Nat.le_of_ble_eq_true rfl), (Nat.le_of_ble_eq_true rfl)⟩ (Nat.le_of_ble_eq_true rfl) dX1_prepare_124 (fun z_79 u_77 hp_78 => ?_)
          obtain ⟨hz_79, hp_78⟩ := hp_78
          subst hp_78
          refine s_aload_n E dX1_prepare_127 rfl rfl ?_
          refine s_aload_n E dX1_prepare_128 rfl rfl ?_
          refine s_gI E fg_X1_25 rfl rfl (jv_lt hj_70 (by decide)) dX1_prepare_129 ?_
          refine z_nm (P := fun z => z.toInt = (v_69.2.2.1 85 4).toInt ∧ (-2147483648) ≤ z.toInt ∧ z.toInt ≤ 2147483647) ⟨rfl, z32 _⟩ (fun z_81 hz_81 => ?_)
          refine s_iconst (v := 0) E dX1_prepare_132 (by decide) ?_
          refine s_vI (As := [AI z_81, AI 0]) (S := [AI z_79, AR 85]) E (Z_X2_placeOf_69 l D aC b v_69 z_81 0 hj_70.1 ) cv_X1_45 rfl rfl rfl (jv_lt hj_70 (by decide)) (Nat.le_of_ble_eq_true rfl) (Nat.le_of_ble_eq_true rfl) ⟨(Nat.le_of_ble_eq_true rfl), (Nat.le_of_ble_eq_true rfl)⟩ (Nat.le_of_ble_eq_true rfl) dX1_prepare_133 (fun z_84 u_82 hp_83 => ?_)
          obtain ⟨hz_84, hp_83⟩ := hp_83
          subst hp_83
          refine z_icmp_ne (tgt := 143) (u := z_79.toInt) (v := z_84.toInt) E dX1_prepare_136 (by decide) rfl rfl (fun h_86 => ?_) (fun h_86 => ?_)
          ·
            refine s_iconst (v := 0) E dX1_prepare_143 (by decide) ?_
            refine s_pI E fp_X1_59 (Or.inr ⟨rfl, Or.inl rfl⟩) rfl (jv_lt hj_70 (by decide)) dX1_prepare_144 ?_
            refine s_gen (P := Jv w) (jv_f_85_7 hj_70 (by decide) (by decide)) (fun v_87 hj_88 => ?_)
            exact r_void E dX1_prepare_147 hj_88
          ·
            refine s_iconst (v := 1) E dX1_prepare_139 (by decide) ?_
            refine s_goto (tgt := 144) E dX1_prepare_140 (by decide) ?_
            refine s_pI E fp_X1_59 (Or.inr ⟨rfl, Or.inr rfl⟩) rfl (jv_lt hj_70 (by decide)) dX1_prepare_144 ?_
            refine s_gen (P := Jv w) (jv_f_85_7 hj_70 (by decide) (by decide)) (fun v_89 hj_90 => ?_)
            exact r_void E dX1_prepare_147 hj_90
  ·
    refine s_aload_n E dX1_prepare_31 rfl rfl ?_
    refine s_gR (r := 86) E fg_X1_9 rfl rfl (jv_lt hj_8 (by decide)) (jv_r hj_8 (by decide +kernel)) dX1_prepare_32 ?_
    refine s_iload E dX1_prepare_35 rfl ?_
    refine s_aload_n E dX1_prepare_37 rfl rfl ?_
    refine s_aload_n E dX1_prepare_38 rfl rfl ?_
    refine s_iload E dX1_prepare_39 rfl ?_
    refine s_vI (As := [AI q22_5_7]) (S := [AR 69, AI q22_5_7, AR 86]) E (Z_X5_ahead_81 l D aC b v22 q22_5_7 hj_8.1 ) cv_X1_34 rfl rfl rfl (jv_lt hj_8 (by decide)) (Nat.le_of_ble_eq_true rfl) (Nat.le_of_ble_eq_true rfl) ⟨(Nat.le_of_ble_eq_true rfl), (Nat.le_of_ble_eq_true rfl)⟩ (Nat.le_of_ble_eq_true rfl) dX1_prepare_41 (fun z_93 u_91 hp_92 => ?_)
    obtain ⟨hz_93, hp_92⟩ := hp_92
    subst hp_92
    refine s_iconst (v := 1) E dX1_prepare_44 (by decide) ?_
    refine s_aload_n E dX1_prepare_45 rfl rfl ?_
    refine s_gI E fg_X1_21 rfl rfl (jv_lt hj_8 (by decide)) dX1_prepare_46 ?_
    refine z_nm (P := fun z => z.toInt = (v22.2.2.1 85 3).toInt ∧ (-2147483648) ≤ z.toInt ∧ z.toInt ≤ 2147483647) ⟨rfl, z32 _⟩ (fun z_95 hz_95 => ?_)
    refine s_ishl E dX1_prepare_49 ?_
    refine z_nm (P := fun z => (-2147483648) ≤ z.toInt ∧ z.toInt ≤ 2147483647) (z32 _) (fun z_96 hz_96 => ?_)
    refine s_iconst (v := (-1)) E dX1_prepare_50 (by decide) ?_
    refine s_ixor E dX1_prepare_51 ?_
    refine z_nm (P := fun z => (-2147483648) ≤ z.toInt ∧ z.toInt ≤ 2147483647) (z32 _) (fun z_97 hz_97 => ?_)
    refine s_iand E dX1_prepare_52 ?_
    refine z_nm (P := fun z => (-2147483648) ≤ z.toInt ∧ z.toInt ≤ 2147483647) (z32 _) (fun z_98 hz_98 => ?_)
    refine s_iload E dX1_prepare_53 rfl ?_
    refine s_sI (As := [AR 69, AI z_98, AI q22_5_7]) (S := [AI q22_5_7, AR 86]) E (Z_X1_roomsOf_r69 l D aC b v22 z_98 q22_5_7 hj_8.1 ) cs_X1_38 rfl rfl (Nat.le_of_ble_eq_true rfl) (Nat.le_of_ble_eq_true rfl) ⟨(Nat.le_of_ble_eq_true rfl), (Nat.le_of_ble_eq_true rfl)⟩ (Nat.le_of_ble_eq_true rfl) dX1_prepare_55 (fun z_101 u_99 hp_100 => ?_)
    obtain ⟨hz_101, hp_100⟩ := hp_100
    subst hp_100
    refine s_iast E rfl (jv_lt hj_8 (by decide)) (z_in (u := q22_5_7.toInt) rfl (by omega) (by omega)) dX1_prepare_58 ?_
    refine s_gen (P := Jv w) (jv_a_86 hj_8 (by have hb_ := z32 z_101; omega) (by have hb_ := z32 z_101; omega)) (fun v_103 hj_104 => ?_)
    refine z_iinc (u := q22_5_7.toInt) (L2 := fun z_105 => [some (AR 85), some (AR 69), some (AR 81), some (AI x1), some (AI x2), some (AI z_105)]) E dX1_prepare_59 rfl rfl (by decide) (fun _ => rfl) (by decide) (by omega) (by omega) (fun z_105 hz_105 => ?_)
    refine s_goto (tgt := 22) E dX1_prepare_62 (by decide) ?_
    exact ih22 z_105 v_103 ⟨⟨by have hb_ := z32 z_105; omega, by have hb_ := z32 z_105; omega⟩, hj_104⟩ (by first | omega | decide | (dsimp only; omega) | (dsimp only; decide))
set_option maxRecDepth 20000 in
set_option maxHeartbeats 2000000 in
theorem Z_X1_goodWithout_85 (l : Launch) (D : va_G) (aC : Nat → ClassId) (b : Nat) (w : XW) (x1 : Int32) (x2 : Int32) (hI : Iv w) (hx1 : 0 ≤ x1.toInt ∧ x1.toInt ≤ 14) : CnI l D aC b M_X1_goodWithout 0 0 0 0 [AR 85, AI x1, AI x2] w (fun r u => ((-2147483648) ≤ r.toInt ∧ r.toInt ≤ 2147483647) ∧ w = u) := by
  refine cn_I (own := RX1) (nm := "goodWithout") (L0 := [some (AR 85), some (AI x1), some (AI x2), none]) (by decide +kernel) rfl rfl (Nat.le_of_ble_eq_true rfl) rfl ?_
  intro p e s m args below meth c E hin
  have hJ : Jv w w := jv_rfl hI
  have hb_x2 := z32 x2
  refine s_iload_n E dX1_goodWithout_0 rfl rfl ?_
  refine s_iload_n E dX1_goodWithout_1 rfl rfl ?_
  refine z_icmp_ne (tgt := 9) (u := x1.toInt) (v := x2.toInt) E dX1_goodWithout_2 (by decide) rfl rfl (fun h_1 => ?_) (fun h_1 => ?_)
  ·
    refine s_aload_n E dX1_goodWithout_9 rfl rfl ?_
    refine s_gR (r := 86) E fg_X1_9 rfl rfl (jv_lt hJ (by decide)) (jv_r hJ (by decide +kernel)) dX1_goodWithout_10 ?_
    refine s_iload_n E dX1_goodWithout_13 rfl rfl ?_
    refine s_iald E rfl (jv_lt hJ (by decide)) (z_in (u := x1.toInt) rfl (by omega) (by omega)) dX1_goodWithout_14 ?_
    refine z_nm (P := fun z => (-2147483648) ≤ z.toInt ∧ z.toInt ≤ 2147483647) (z32 _) (fun z_2 hz_2 => ?_)
    refine s_istore_n (L2 := [some (AR 85), some (AI x1), some (AI x2), some (AI z_2)]) E dX1_goodWithout_15 rfl (by decide) rfl ?_
    refine s_iload_n E dX1_goodWithout_16 rfl rfl ?_
    refine s_aload_n E dX1_goodWithout_17 rfl rfl ?_
    refine s_gR (r := 87) E fg_X1_15 rfl rfl (jv_lt hJ (by decide)) (jv_r hJ (by decide +kernel)) dX1_goodWithout_18 ?_
    refine s_iload_n E dX1_goodWithout_21 rfl rfl ?_
    refine s_iald E rfl (jv_lt hJ (by decide)) (z_in (u := x1.toInt) rfl (by omega) (by omega)) dX1_goodWithout_22 ?_
    refine z_nm (P := fun z => (-2147483648) ≤ z.toInt ∧ z.toInt ≤ 2147483647) (z32 _) (fun z_3 hz_3 => ?_)
    refine s_iand E dX1_goodWithout_23 ?_
    refine z_nm (P := fun z => (-2147483648) ≤ z.toInt ∧ z.toInt ≤ 2147483647) (z32 _) (fun z_4 hz_4 => ?_)
    refine s_iload_n E dX1_goodWithout_24 rfl rfl ?_
    refine s_iconst (v := (-1)) E dX1_goodWithout_25 (by decide) ?_
    refine s_ixor E dX1_goodWithout_26 ?_
    refine z_nm (P := fun z => (-2147483648) ≤ z.toInt ∧ z.toInt ≤ 2147483647) (z32 _) (fun z_5 hz_5 => ?_)
    refine s_aload_n E dX1_goodWithout_27 rfl rfl ?_
    refine s_gR (r := 88) E fg_X1_18 rfl rfl (jv_lt hJ (by decide)) (jv_r hJ (by decide +kernel)) dX1_goodWithout_28 ?_
    refine s_iload_n E dX1_goodWithout_31 rfl rfl ?_
    refine s_iald E rfl (jv_lt hJ (by decide)) (z_in (u := x1.toInt) rfl (by omega) (by omega)) dX1_goodWithout_32 ?_
    refine z_nm (P := fun z => (-2147483648) ≤ z.toInt ∧ z.toInt ≤ 2147483647) (z32 _) (fun z_6 hz_6 => ?_)
    refine s_iand E dX1_goodWithout_33 ?_
    refine z_nm (P := fun z => (-2147483648) ≤ z.toInt ∧ z.toInt ≤ 2147483647) (z32 _) (fun z_7 hz_7 => ?_)
    refine s_ior E dX1_goodWithout_34 ?_
    refine z_nm (P := fun z => (-2147483648) ≤ z.toInt ∧ z.toInt ≤ 2147483647) (z32 _) (fun z_8 hz_8 => ?_)
    exact r_int E dX1_goodWithout_35 ⟨⟨by have hb_ := z32 z_8; omega, by have hb_ := z32 z_8; omega⟩, rfl⟩
  ·
    refine s_iconst (v := 0) E dX1_goodWithout_5 (by decide) ?_
    refine s_goto (tgt := 15) E dX1_goodWithout_6 (by decide) ?_
    refine s_istore_n (L2 := [some (AR 85), some (AI x1), some (AI x2), some (AI 0)]) E dX1_goodWithout_15 rfl (by decide) rfl ?_
    refine s_iload_n E dX1_goodWithout_16 rfl rfl ?_
    refine s_aload_n E dX1_goodWithout_17 rfl rfl ?_
    refine s_gR (r := 87) E fg_X1_15 rfl rfl (jv_lt hJ (by decide)) (jv_r hJ (by decide +kernel)) dX1_goodWithout_18 ?_
    refine s_iload_n E dX1_goodWithout_21 rfl rfl ?_
    refine s_iald E rfl (jv_lt hJ (by decide)) (z_in (u := x1.toInt) rfl (by omega) (by omega)) dX1_goodWithout_22 ?_
    refine z_nm (P := fun z => (-2147483648) ≤ z.toInt ∧ z.toInt ≤ 2147483647) (z32 _) (fun z_9 hz_9 => ?_)
    refine s_iand E dX1_goodWithout_23 ?_
    refine z_nm (P := fun z => (-2147483648) ≤ z.toInt ∧ z.toInt ≤ 2147483647) (z32 _) (fun z_10 hz_10 => ?_)
    refine s_iload_n E dX1_goodWithout_24 rfl rfl ?_
    refine s_iconst (v := (-1)) E dX1_goodWithout_25 (by decide) ?_
    refine s_ixor E dX1_goodWithout_26 ?_
    refine z_nm (P := fun z => (-2147483648) ≤ z.toInt ∧ z.toInt ≤ 2147483647) (z32 _) (fun z_11 hz_11 => ?_)
    refine s_aload_n E dX1_goodWithout_27 rfl rfl ?_
    refine s_gR (r := 88) E fg_X1_18 rfl rfl (jv_lt hJ (by decide)) (jv_r hJ (by decide +kernel)) dX1_goodWithout_28 ?_
    refine s_iload_n E dX1_goodWithout_31 rfl rfl ?_
    refine s_iald E rfl (jv_lt hJ (by decide)) (z_in (u := x1.toInt) rfl (by omega) (by omega)) dX1_goodWithout_32 ?_
    refine z_nm (P := fun z => (-2147483648) ≤ z.toInt ∧ z.toInt ≤ 2147483647) (z32 _) (fun z_12 hz_12 => ?_)
    refine s_iand E dX1_goodWithout_33 ?_
    refine z_nm (P := fun z => (-2147483648) ≤ z.toInt ∧ z.toInt ≤ 2147483647) (z32 _) (fun z_13 hz_13 => ?_)
    refine s_ior E dX1_goodWithout_34 ?_
    refine z_nm (P := fun z => (-2147483648) ≤ z.toInt ∧ z.toInt ≤ 2147483647) (z32 _) (fun z_14 hz_14 => ?_)
    exact r_int E dX1_goodWithout_35 ⟨⟨by have hb_ := z32 z_14; omega, by have hb_ := z32 z_14; omega⟩, rfl⟩
set_option maxRecDepth 20000 in
set_option maxHeartbeats 2000000 in
theorem Z_X1_lookBack_85_r69 (l : Launch) (D : va_G) (aC : Nat → ClassId) (b : Nat) (w : XW) (x1 : Int32) (hI : Iv w) (hx1 : 0 ≤ x1.toInt ∧ x1.toInt ≤ 14) : CnV l D aC b M_X1_lookBack 2 46 0 0 [AR 85, AR 69, AI x1] w (fun u => Jv w u) := by
  refine cn_V (own := RX1) (nm := "lookBack") (L0 := [some (AR 85), some (AR 69), some (AI x1), none]) (by decide +kernel) rfl rfl (Nat.le_of_ble_eq_true rfl) rfl ?_
  intro p e s m args below meth c E hin
  have hJ : Jv w w := jv_rfl hI
  refine s_aload_n E dX1_lookBack_0 rfl rfl ?_
  refine s_gR (r := 87) E fg_X1_15 rfl rfl (jv_lt hJ (by decide)) (jv_r hJ (by decide +kernel)) dX1_lookBack_1 ?_
  refine s_iload_n E dX1_lookBack_4 rfl rfl ?_
  refine s_iconst (v := 1) E dX1_lookBack_5 (by decide) ?_
  refine s_aload_n E dX1_lookBack_6 rfl rfl ?_
  refine s_aload_n E dX1_lookBack_7 rfl rfl ?_
  refine s_gI E fg_X1_25 rfl rfl (jv_lt hJ (by decide)) dX1_lookBack_8 ?_
  refine z_nm (P := fun z => z.toInt = (w.2.2.1 85 4).toInt ∧ (-2147483648) ≤ z.toInt ∧ z.toInt ≤ 2147483647) ⟨rfl, z32 _⟩ (fun z_1 hz_1 => ?_)
  refine s_iload_n E dX1_lookBack_11 rfl rfl ?_
  refine s_vI (As := [AI z_1, AI x1]) (S := [AI 1, AI x1, AR 87]) E (Z_X2_placeOf_69 l D aC b w z_1 x1 hJ.1 ) cv_X1_45 rfl rfl rfl (jv_lt hJ (by decide)) (Nat.le_of_ble_eq_true rfl) (Nat.le_of_ble_eq_true rfl) ⟨(Nat.le_of_ble_eq_true rfl), (Nat.le_of_ble_eq_true rfl)⟩ (Nat.le_of_ble_eq_true rfl) dX1_lookBack_12 (fun z_4 u_2 hp_3 => ?_)
  obtain ⟨hz_4, hp_3⟩ := hp_3
  subst hp_3
  refine s_ishl E dX1_lookBack_15 ?_
  refine z_nm (P := fun z => (-2147483648) ≤ z.toInt ∧ z.toInt ≤ 2147483647) (z32 _) (fun z_6 hz_6 => ?_)
  refine s_iast E rfl (jv_lt hJ (by decide)) (z_in (u := x1.toInt) rfl (by omega) (by omega)) dX1_lookBack_16 ?_
  refine s_gen (P := Jv w) (jv_a_87 hJ (by have hb_ := z32 z_6; omega) (by have hb_ := z32 z_6; omega)) (fun v_7 hj_8 => ?_)
  refine s_aload_n E dX1_lookBack_17 rfl rfl ?_
  refine s_gR (r := 88) E fg_X1_18 rfl rfl (jv_lt hj_8 (by decide)) (jv_r hj_8 (by decide +kernel)) dX1_lookBack_18 ?_
  refine s_iload_n E dX1_lookBack_21 rfl rfl ?_
  refine s_iconst (v := 0) E dX1_lookBack_22 (by decide) ?_
  refine s_iast E rfl (jv_lt hj_8 (by decide)) (z_in (u := x1.toInt) rfl (by omega) (by omega)) dX1_lookBack_23 ?_
  refine s_gen (P := Jv w) (jv_a_88 hj_8 (by decide) (by decide)) (fun v_9 hj_10 => ?_)
  refine s_iload_n E dX1_lookBack_24 rfl rfl ?_
  refine s_iconst (v := 1) E dX1_lookBack_25 (by decide) ?_
  refine z_isub (u := x1.toInt) (v := 1) E dX1_lookBack_26 rfl (by decide) (by omega) (by omega) (fun z_11 hz_11 => ?_)
  refine s_istore_n (L2 := [some (AR 85), some (AR 69), some (AI x1), some (AI z_11)]) E dX1_lookBack_27 rfl (by decide) rfl ?_
  refine z_loop (St := Int32) (Pi := fun q28_3_11 v28 => ((-1) ≤ q28_3_11.toInt ∧ q28_3_11.toInt ≤ 13) ∧ Jv w v28) (Lf := fun q28_3_11 => [some (AR 85), some (AR 69), some (AI x1), some (AI q28_3_11)]) (fun q28_3_11 _ => (q28_3_11.toInt - (-1)).toNat) z_11 ⟨⟨by have hb_ := z32 z_11; omega, by have hb_ := z32 z_11; omega⟩, hj_10⟩ ?_
  rintro q28_3_11 v28 ⟨hq28_3, hj_12⟩ ih28
  refine s_loc (L2 := [some (AR 85), some (AR 69), some (AI x1), some (AI q28_3_11)]) rfl ?_
  refine s_iload_n E dX1_lookBack_28 rfl rfl ?_
  refine z_if_lt (tgt := 82) (u := q28_3_11.toInt) E dX1_lookBack_29 (by decide) rfl (fun h_13 => ?_) (fun h_13 => ?_)
  ·
    exact r_void E dX1_lookBack_82 hj_12
  ·
    refine s_aload_n E dX1_lookBack_32 rfl rfl ?_
    refine s_gR (r := 87) E fg_X1_15 rfl rfl (jv_lt hj_12 (by decide)) (jv_r hj_12 (by decide +kernel)) dX1_lookBack_33 ?_
    refine s_iload_n E dX1_lookBack_36 rfl rfl ?_
    refine s_aload_n E dX1_lookBack_37 rfl rfl ?_
    refine s_aload_n E dX1_lookBack_38 rfl rfl ?_
    refine s_gI E fg_X1_21 rfl rfl (jv_lt hj_12 (by decide)) dX1_lookBack_39 ?_
    refine z_nm (P := fun z => z.toInt = (v28.2.2.1 85 3).toInt ∧ (-2147483648) ≤ z.toInt ∧ z.toInt ≤ 2147483647) ⟨rfl, z32 _⟩ (fun z_14 hz_14 => ?_)
    refine s_aload_n E dX1_lookBack_42 rfl rfl ?_
    refine s_gR (r := 87) E fg_X1_15 rfl rfl (jv_lt hj_12 (by decide)) (jv_r hj_12 (by decide +kernel)) dX1_lookBack_43 ?_
    refine s_iload_n E dX1_lookBack_46 rfl rfl ?_
    refine s_iconst (v := 1) E dX1_lookBack_47 (by decide) ?_
    refine z_iadd (u := q28_3_11.toInt) (v := 1) E dX1_lookBack_48 rfl (by decide) (by omega) (by omega) (fun z_15 hz_15 => ?_)
    refine s_iald E rfl (jv_lt hj_12 (by decide)) (z_in (u := z_15.toInt) rfl (by omega) (by omega)) dX1_lookBack_49 ?_
    refine z_nm (P := fun z => (-2147483648) ≤ z.toInt ∧ z.toInt ≤ 2147483647) (z32 _) (fun z_16 hz_16 => ?_)
    refine s_vI (As := [AI z_14, AI z_16]) (S := [AI q28_3_11, AR 87]) E (Z_X2_spread_69 l D aC b v28 z_14 z_16 hj_12.1 ) cv_X1_66 rfl rfl rfl (jv_lt hj_12 (by decide)) (Nat.le_of_ble_eq_true rfl) (Nat.le_of_ble_eq_true rfl) ⟨(Nat.le_of_ble_eq_true rfl), (Nat.le_of_ble_eq_true rfl)⟩ (Nat.le_of_ble_eq_true rfl) dX1_lookBack_50 (fun z_19 u_17 hp_18 => ?_)
    obtain ⟨hz_19, hp_18⟩ := hp_18
    subst hp_18
    refine s_iast E rfl (jv_lt hj_12 (by decide)) (z_in (u := q28_3_11.toInt) rfl (by omega) (by omega)) dX1_lookBack_53 ?_
    refine s_gen (P := Jv w) (jv_a_87 hj_12 (by have hb_ := z32 z_19; omega) (by have hb_ := z32 z_19; omega)) (fun v_21 hj_22 => ?_)
    refine s_aload_n E dX1_lookBack_54 rfl rfl ?_
    refine s_gR (r := 88) E fg_X1_18 rfl rfl (jv_lt hj_22 (by decide)) (jv_r hj_22 (by decide +kernel)) dX1_lookBack_55 ?_
    refine s_iload_n E dX1_lookBack_58 rfl rfl ?_
    refine s_aload_n E dX1_lookBack_59 rfl rfl ?_
    refine s_aload_n E dX1_lookBack_60 rfl rfl ?_
    refine s_gI E fg_X1_21 rfl rfl (jv_lt hj_22 (by decide)) dX1_lookBack_61 ?_
    refine z_nm (P := fun z => z.toInt = (v_21.2.2.1 85 3).toInt ∧ (-2147483648) ≤ z.toInt ∧ z.toInt ≤ 2147483647) ⟨rfl, z32 _⟩ (fun z_23 hz_23 => ?_)
    refine s_aload_n E dX1_lookBack_64 rfl rfl ?_
    refine s_iload_n E dX1_lookBack_65 rfl rfl ?_
    refine s_iconst (v := 1) E dX1_lookBack_66 (by decide) ?_
    refine z_iadd (u := q28_3_11.toInt) (v := 1) E dX1_lookBack_67 rfl (by decide) (by omega) (by omega) (fun z_24 hz_24 => ?_)
    refine s_iload_n E dX1_lookBack_68 rfl rfl ?_
    refine s_vI (As := [AI z_24, AI x1]) (S := [AI z_23, AR 69, AI q28_3_11, AR 88]) E (Z_X1_goodWithout_85 l D aC b v_21 z_24 x1 hj_22.1 ⟨by have hb_ := z32 z_24; omega, by have hb_ := z32 z_24; omega⟩) cv_X1_69 rfl rfl rfl (jv_lt hj_22 (by decide)) (Nat.le_of_ble_eq_true rfl) (Nat.le_of_ble_eq_true rfl) ⟨(Nat.le_of_ble_eq_true rfl), (Nat.le_of_ble_eq_true rfl)⟩ (Nat.le_of_ble_eq_true rfl) dX1_lookBack_69 (fun z_27 u_25 hp_26 => ?_)
    obtain ⟨hz_27, hp_26⟩ := hp_26
    subst hp_26
    refine s_vI (As := [AI z_23, AI z_27]) (S := [AI q28_3_11, AR 88]) E (Z_X2_spread_69 l D aC b v_21 z_23 z_27 hj_22.1 ) cv_X1_66 rfl rfl rfl (jv_lt hj_22 (by decide)) (Nat.le_of_ble_eq_true rfl) (Nat.le_of_ble_eq_true rfl) ⟨(Nat.le_of_ble_eq_true rfl), (Nat.le_of_ble_eq_true rfl)⟩ (Nat.le_of_ble_eq_true rfl) dX1_lookBack_72 (fun z_31 u_29 hp_30 => ?_)
    obtain ⟨hz_31, hp_30⟩ := hp_30
    subst hp_30
    refine s_iast E rfl (jv_lt hj_22 (by decide)) (z_in (u := q28_3_11.toInt) rfl (by omega) (by omega)) dX1_lookBack_75 ?_
    refine s_gen (P := Jv w) (jv_a_88 hj_22 (by have hb_ := z32 z_31; omega) (by have hb_ := z32 z_31; omega)) (fun v_33 hj_34 => ?_)
    refine z_iinc (u := q28_3_11.toInt) (L2 := fun z_35 => [some (AR 85), some (AR 69), some (AI x1), some (AI z_35)]) E dX1_lookBack_76 rfl rfl (by decide) (fun _ => rfl) (by decide) (by omega) (by omega) (fun z_35 hz_35 => ?_)
    refine s_goto (tgt := 28) E dX1_lookBack_79 (by decide) ?_
    exact ih28 z_35 v_33 ⟨⟨by have hb_ := z32 z_35; omega, by have hb_ := z32 z_35; omega⟩, hj_34⟩ (by first | omega | decide | (dsimp only; omega) | (dsimp only; decide))
set_option maxRecDepth 20000 in
set_option maxHeartbeats 2000000 in
theorem Z_X1_soonest_85_r69 (l : Launch) (D : va_G) (aC : Nat → ClassId) (b : Nat) (w : XW)  (hI : Iv w)  : CnI l D aC b M_X1_soonest 3 69 0 0 [AR 85, AR 69] w (fun r u => ((-1) ≤ r.toInt ∧ r.toInt ≤ 14 ∧ (¬ r.toInt = 0 ∨ (1 ≤ (w.2.2.1 85 7).toInt ∧ (w.2.2.1 85 7).toInt ≤ 1)) ∧ (r.toInt = 0 ∨ (0 ≤ (w.2.2.1 85 7).toInt ∧ (w.2.2.1 85 7).toInt ≤ 0))) ∧ Jv w u) := by
  refine cn_I (own := RX1) (nm := "soonest") (L0 := [some (AR 85), some (AR 69), none, none]) (by decide +kernel) rfl rfl (Nat.le_of_ble_eq_true rfl) rfl ?_
  intro p e s m args below meth c E hin
  have hJ : Jv w w := jv_rfl hI
  refine s_aload_n E dX1_soonest_0 rfl rfl ?_
  refine s_gI E fg_X1_59 rfl rfl (jv_lt hJ (by decide)) dX1_soonest_1 ?_
  refine z_nm (P := fun z => z.toInt = (w.2.2.1 85 7).toInt ∧ 0 ≤ z.toInt ∧ z.toInt ≤ 1) ⟨rfl, (rg_85_7 hJ)⟩ (fun z_1 hz_1 => ?_)
  refine z_if_eq (tgt := 9) (u := z_1.toInt) E dX1_soonest_4 (by decide) rfl (fun h_2 => ?_) (fun h_2 => ?_)
  ·
    refine s_aload_n E dX1_soonest_9 rfl rfl ?_
    refine s_aload_n E dX1_soonest_10 rfl rfl ?_
    refine s_gI E fg_X1_21 rfl rfl (jv_lt hJ (by decide)) dX1_soonest_11 ?_
    refine z_nm (P := fun z => z.toInt = (w.2.2.1 85 3).toInt ∧ (-2147483648) ≤ z.toInt ∧ z.toInt ≤ 2147483647) ⟨rfl, z32 _⟩ (fun z_3 hz_3 => ?_)
    refine s_iconst (v := 0) E dX1_soonest_14 (by decide) ?_
    refine s_vI (As := [AI z_3, AI 0]) (S := []) E (Z_X2_placeOf_69 l D aC b w z_3 0 hJ.1 ) cv_X1_45 rfl rfl rfl (jv_lt hJ (by decide)) (Nat.le_of_ble_eq_true rfl) (Nat.le_of_ble_eq_true rfl) ⟨(Nat.le_of_ble_eq_true rfl), (Nat.le_of_ble_eq_true rfl)⟩ (Nat.le_of_ble_eq_true rfl) dX1_soonest_15 (fun z_6 u_4 hp_5 => ?_)
    obtain ⟨hz_6, hp_5⟩ := hp_5
    subst hp_5
    refine s_istore_n (L2 := [some (AR 85), some (AR 69), some (AI z_6), none]) E dX1_soonest_18 rfl (by decide) rfl ?_
    refine s_iconst (v := 1) E dX1_soonest_19 (by decide) ?_
    refine s_istore_n (L2 := [some (AR 85), some (AR 69), some (AI z_6), some (AI 1)]) E dX1_soonest_20 rfl (by decide) rfl ?_
    refine z_loop (St := Int32) (Pi := fun q21_3_7 v21 => (1 ≤ q21_3_7.toInt ∧ q21_3_7.toInt ≤ 15) ∧ Jv w v21) (Lf := fun q21_3_7 => [some (AR 85), some (AR 69), some (AI z_6), some (AI q21_3_7)]) (fun q21_3_7 _ => (16 - q21_3_7.toInt).toNat) 1 ⟨⟨by decide, by decide⟩, hJ⟩ ?_
    rintro q21_3_7 v21 ⟨hq21_3, hj_8⟩ ih21
    refine s_loc (L2 := [some (AR 85), some (AR 69), some (AI z_6), some (AI q21_3_7)]) rfl ?_
    refine s_iload_n E dX1_soonest_21 rfl rfl ?_
    refine s_aload_n E dX1_soonest_22 rfl rfl ?_
    refine s_gI E fg_X1_33 rfl rfl (jv_lt hj_8 (by decide)) dX1_soonest_23 ?_
    refine z_nm (P := fun z => z.toInt = (v21.2.2.1 85 5).toInt ∧ 0 ≤ z.toInt ∧ z.toInt ≤ 14) ⟨rfl, (rg_85_5 hj_8)⟩ (fun z_9 hz_9 => ?_)
    refine z_icmp_gt (tgt := 72) (u := q21_3_7.toInt) (v := z_9.toInt) E dX1_soonest_26 (by decide) rfl rfl (fun h_10 => ?_) (fun h_10 => ?_)
    ·
      refine s_iconst (v := (-1)) E dX1_soonest_72 (by decide) ?_
      exact r_int E dX1_soonest_73 ⟨⟨by decide, by decide, by first | (left; decide) | (right; decide) | (right; have hb_ := z32 (w.2.2.1 85 7); omega), by first | (left; decide) | (right; decide) | (right; have hb_ := z32 (w.2.2.1 85 7); omega)⟩, hj_8⟩
    ·
      refine s_aload_n E dX1_soonest_29 rfl rfl ?_
      refine s_aload_n E dX1_soonest_30 rfl rfl ?_
      refine s_iload_n E dX1_soonest_31 rfl rfl ?_
      refine s_vV (As := [AR 69, AI q21_3_7]) (S := []) E (Z_X1_lookBack_85_r69 l D aC b v21 q21_3_7 hj_8.1 ⟨by have hb_ := z32 q21_3_7; omega, by have hb_ := z32 q21_3_7; omega⟩) cv_X1_62 rfl rfl rfl (jv_lt hj_8 (by decide)) (Nat.le_of_ble_eq_true rfl) (Nat.le_of_ble_eq_true rfl) ⟨(Nat.le_of_ble_eq_true rfl), (Nat.le_of_ble_eq_true rfl)⟩ (Nat.le_of_ble_eq_true rfl) dX1_soonest_32 (fun u_11 hp_12 => ?_)
      have hj_13 := jv_trans hj_8 hp_12
      refine s_aload_n E dX1_soonest_35 rfl rfl ?_
      refine s_gI E fg_X1_55 rfl rfl (jv_lt hj_13 (by decide)) dX1_soonest_36 ?_
      refine z_nm (P := fun z => z.toInt = (u_11.2.2.1 85 6).toInt ∧ 0 ≤ z.toInt ∧ z.toInt ≤ 1) ⟨rfl, (rg_85_6 hj_13)⟩ (fun z_14 hz_14 => ?_)
      refine z_if_eq (tgt := 51) (u := z_14.toInt) E dX1_soonest_39 (by decide) rfl (fun h_15 => ?_) (fun h_15 => ?_)
      ·
        refine s_aload_n E dX1_soonest_51 rfl rfl ?_
        refine s_gR (r := 88) E fg_X1_18 rfl rfl (jv_lt hj_13 (by decide)) (jv_r hj_13 (by decide +kernel)) dX1_soonest_52 ?_
        refine s_iconst (v := 0) E dX1_soonest_55 (by decide) ?_
        refine s_iald E rfl (jv_lt hj_13 (by decide)) (z_in (u := 0) (by decide) (by omega) (by omega)) dX1_soonest_56 ?_
        refine z_nm (P := fun z => (-2147483648) ≤ z.toInt ∧ z.toInt ≤ 2147483647) (z32 _) (fun z_16 hz_16 => ?_)
        refine s_iload_n E dX1_soonest_57 rfl rfl ?_
        refine s_sI (As := [AI z_16, AI z_6]) (S := []) E (Z_X9_hasBit l D aC b u_11 z_16 z_6 hj_13.1 ) cs_X1_51 rfl rfl (Nat.le_of_ble_eq_true rfl) (Nat.le_of_ble_eq_true rfl) ⟨(Nat.le_of_ble_eq_true rfl), (Nat.le_of_ble_eq_true rfl)⟩ (Nat.le_of_ble_eq_true rfl) dX1_soonest_58 (fun z_19 u_17 hp_18 => ?_)
        obtain ⟨hz_19, hp_18⟩ := hp_18
        subst hp_18
        refine z_if_eq (tgt := 66) (u := z_19.toInt) E dX1_soonest_61 (by decide) rfl (fun h_21 => ?_) (fun h_21 => ?_)
        ·
          refine z_iinc (u := q21_3_7.toInt) (L2 := fun z_22 => [some (AR 85), some (AR 69), some (AI z_6), some (AI z_22)]) E dX1_soonest_66 rfl rfl (by decide) (fun _ => rfl) (by decide) (by omega) (by omega) (fun z_22 hz_22 => ?_)
          refine s_goto (tgt := 21) E dX1_soonest_69 (by decide) ?_
          exact ih21 z_22 u_11 ⟨⟨by have hb_ := z32 z_22; omega, by have hb_ := z32 z_22; omega⟩, hj_13⟩ (by first | omega | decide | (dsimp only; omega) | (dsimp only; decide))
        ·
          refine s_iload_n E dX1_soonest_64 rfl rfl ?_
          exact r_int E dX1_soonest_65 ⟨⟨by have hb_ := z32 q21_3_7; omega, by have hb_ := z32 q21_3_7; omega, by first | (right; decide) | (have hb_ := z32 q21_3_7; omega) | (have hb_ := z32 q21_3_7; have hc_ := z32 (w.2.2.1 85 7); omega), by first | (right; decide) | (have hb_ := z32 q21_3_7; omega) | (have hb_ := z32 q21_3_7; have hc_ := z32 (w.2.2.1 85 7); omega)⟩, hj_13⟩
      ·
        refine s_aload_n E dX1_soonest_42 rfl rfl ?_
        refine s_gR (r := 87) E fg_X1_15 rfl rfl (jv_lt hj_13 (by decide)) (jv_r hj_13 (by decide +kernel)) dX1_soonest_43 ?_
        refine s_iconst (v := 0) E dX1_soonest_46 (by decide) ?_
        refine s_iald E rfl (jv_lt hj_13 (by decide)) (z_in (u := 0) (by decide) (by omega) (by omega)) dX1_soonest_47 ?_
        refine z_nm (P := fun z => (-2147483648) ≤ z.toInt ∧ z.toInt ≤ 2147483647) (z32 _) (fun z_23 hz_23 => ?_)
        refine s_goto (tgt := 57) E dX1_soonest_48 (by decide) ?_
        refine s_iload_n E dX1_soonest_57 rfl rfl ?_
        refine s_sI (As := [AI z_23, AI z_6]) (S := []) E (Z_X9_hasBit l D aC b u_11 z_23 z_6 hj_13.1 ) cs_X1_51 rfl rfl (Nat.le_of_ble_eq_true rfl) (Nat.le_of_ble_eq_true rfl) ⟨(Nat.le_of_ble_eq_true rfl), (Nat.le_of_ble_eq_true rfl)⟩ (Nat.le_of_ble_eq_true rfl) dX1_soonest_58 (fun z_26 u_24 hp_25 => ?_)
        obtain ⟨hz_26, hp_25⟩ := hp_25
        subst hp_25
        refine z_if_eq (tgt := 66) (u := z_26.toInt) E dX1_soonest_61 (by decide) rfl (fun h_28 => ?_) (fun h_28 => ?_)
        ·
          refine z_iinc (u := q21_3_7.toInt) (L2 := fun z_29 => [some (AR 85), some (AR 69), some (AI z_6), some (AI z_29)]) E dX1_soonest_66 rfl rfl (by decide) (fun _ => rfl) (by decide) (by omega) (by omega) (fun z_29 hz_29 => ?_)
          refine s_goto (tgt := 21) E dX1_soonest_69 (by decide) ?_
          exact ih21 z_29 u_11 ⟨⟨by have hb_ := z32 z_29; omega, by have hb_ := z32 z_29; omega⟩, hj_13⟩ (by first | omega | decide | (dsimp only; omega) | (dsimp only; decide))
        ·
          refine s_iload_n E dX1_soonest_64 rfl rfl ?_
          exact r_int E dX1_soonest_65 ⟨⟨by have hb_ := z32 q21_3_7; omega, by have hb_ := z32 q21_3_7; omega, by first | (right; decide) | (have hb_ := z32 q21_3_7; omega) | (have hb_ := z32 q21_3_7; have hc_ := z32 (w.2.2.1 85 7); omega), by first | (right; decide) | (have hb_ := z32 q21_3_7; omega) | (have hb_ := z32 q21_3_7; have hc_ := z32 (w.2.2.1 85 7); omega)⟩, hj_13⟩
  ·
    refine s_iconst (v := 0) E dX1_soonest_7 (by decide) ?_
    exact r_int E dX1_soonest_8 ⟨⟨by decide, by decide, by first | (left; decide) | (right; decide) | (right; have hb_ := z32 (w.2.2.1 85 7); omega), by first | (left; decide) | (right; decide) | (right; have hb_ := z32 (w.2.2.1 85 7); omega)⟩, hJ⟩
set_option maxRecDepth 20000 in
set_option maxHeartbeats 2000000 in
theorem Z_X9_carry_0 (l : Launch) (D : va_G) (aC : Nat → ClassId) (b : Nat) (w : XW) (x1 : Int32) (x2 : Int32) (x3 : Int32) (hI : Iv w)  : CnI l D aC b M_X9_carry 4 94 0 0 [AR 0, AI x1, AI x2, AI x3] w (fun r u => ((-2) ≤ r.toInt ∧ r.toInt ≤ 14 ∧ (¬ r.toInt = 0 ∨ (0 ≤ x1.toInt ∧ x1.toInt ≤ 5)) ∧ (¬ r.toInt = 0 ∨ (0 ≤ x2.toInt ∧ x2.toInt ≤ 5)) ∧ (¬ r.toInt = 0 ∨ (0 ≤ x3.toInt ∧ x3.toInt ≤ 5)) ∧ (¬ r.toInt = 0 ∨ (1 ≤ (w.2.2.1 5 3).toInt ∧ (w.2.2.1 5 3).toInt ≤ 6))) ∧ Jv w u) := by
  refine cn_I (own := RX9) (nm := "carry") (L0 := [some (AR 0), some (AI x1), some (AI x2), some (AI x3)]) (by decide +kernel) rfl rfl (Nat.le_of_ble_eq_true rfl) rfl ?_
  intro p e s m args below meth c E hin
  have hJ : Jv w w := jv_rfl hI
  have hb_x1 := z32 x1
  have hb_x2 := z32 x2
  have hb_x3 := z32 x3
  refine s_aload_n E dX9_carry_0 rfl rfl ?_
  refine s_gR (r := 2) E fg_X9_20 rfl rfl (jv_lt hJ (by decide)) (jv_r hJ (by decide +kernel)) dX9_carry_1 ?_
  refine s_iload_n E dX9_carry_4 rfl rfl ?_
  refine s_vI (As := [AI x1]) (S := []) E (Z_X0_hasLady_2 l D aC b w x1 hJ.1 ) cv_X9_139 rfl rfl rfl (jv_lt hJ (by decide)) (Nat.le_of_ble_eq_true rfl) (Nat.le_of_ble_eq_true rfl) ⟨(Nat.le_of_ble_eq_true rfl), (Nat.le_of_ble_eq_true rfl)⟩ (Nat.le_of_ble_eq_true rfl) dX9_carry_5 (fun z_3 u_1 hp_2 => ?_)
  obtain ⟨hz_3, hp_2⟩ := hp_2
  subst hp_2
  refine z_if_eq (tgt := 38) (u := z_3.toInt) E dX9_carry_8 (by decide) rfl (fun h_5 => ?_) (fun h_5 => ?_)
  ·
    refine s_bipush (v := (-2)) E dX9_carry_38 (by decide) ?_
    exact r_int E dX9_carry_40 ⟨⟨by decide, by decide, by first | (left; decide) | (right; decide) | (right; have hb_ := z32 x1; omega), by first | (left; decide) | (right; decide) | (right; have hb_ := z32 x2; omega), by first | (left; decide) | (right; decide) | (right; have hb_ := z32 x3; omega), by first | (left; decide) | (right; decide) | (right; have hb_ := z32 (w.2.2.1 5 3); omega)⟩, hJ⟩
  ·
    refine s_aload_n E dX9_carry_11 rfl rfl ?_
    refine s_gR (r := 2) E fg_X9_20 rfl rfl (jv_lt hJ (by decide)) (jv_r hJ (by decide +kernel)) dX9_carry_12 ?_
    refine s_iload_n E dX9_carry_15 rfl rfl ?_
    refine s_vI (As := [AI x2]) (S := []) E (Z_X0_hasLady_2 l D aC b w x2 hJ.1 ) cv_X9_139 rfl rfl rfl (jv_lt hJ (by decide)) (Nat.le_of_ble_eq_true rfl) (Nat.le_of_ble_eq_true rfl) ⟨(Nat.le_of_ble_eq_true rfl), (Nat.le_of_ble_eq_true rfl)⟩ (Nat.le_of_ble_eq_true rfl) dX9_carry_16 (fun z_8 u_6 hp_7 => ?_)
    obtain ⟨hz_8, hp_7⟩ := hp_7
    subst hp_7
    refine z_if_eq (tgt := 38) (u := z_8.toInt) E dX9_carry_19 (by decide) rfl (fun h_10 => ?_) (fun h_10 => ?_)
    ·
      refine s_bipush (v := (-2)) E dX9_carry_38 (by decide) ?_
      exact r_int E dX9_carry_40 ⟨⟨by decide, by decide, by first | (left; decide) | (right; decide) | (right; have hb_ := z32 x1; omega), by first | (left; decide) | (right; decide) | (right; have hb_ := z32 x2; omega), by first | (left; decide) | (right; decide) | (right; have hb_ := z32 x3; omega), by first | (left; decide) | (right; decide) | (right; have hb_ := z32 (w.2.2.1 5 3); omega)⟩, hJ⟩
    ·
      refine s_aload_n E dX9_carry_22 rfl rfl ?_
      refine s_gR (r := 2) E fg_X9_20 rfl rfl (jv_lt hJ (by decide)) (jv_r hJ (by decide +kernel)) dX9_carry_23 ?_
      refine s_iload_n E dX9_carry_26 rfl rfl ?_
      refine s_vI (As := [AI x3]) (S := []) E (Z_X0_hasLady_2 l D aC b w x3 hJ.1 ) cv_X9_139 rfl rfl rfl (jv_lt hJ (by decide)) (Nat.le_of_ble_eq_true rfl) (Nat.le_of_ble_eq_true rfl) ⟨(Nat.le_of_ble_eq_true rfl), (Nat.le_of_ble_eq_true rfl)⟩ (Nat.le_of_ble_eq_true rfl) dX9_carry_27 (fun z_13 u_11 hp_12 => ?_)
      obtain ⟨hz_13, hp_12⟩ := hp_12
      subst hp_12
      refine z_if_eq (tgt := 38) (u := z_13.toInt) E dX9_carry_30 (by decide) rfl (fun h_15 => ?_) (fun h_15 => ?_)
      ·
        refine s_bipush (v := (-2)) E dX9_carry_38 (by decide) ?_
        exact r_int E dX9_carry_40 ⟨⟨by decide, by decide, by first | (left; decide) | (right; decide) | (right; have hb_ := z32 x1; omega), by first | (left; decide) | (right; decide) | (right; have hb_ := z32 x2; omega), by first | (left; decide) | (right; decide) | (right; have hb_ := z32 x3; omega), by first | (left; decide) | (right; decide) | (right; have hb_ := z32 (w.2.2.1 5 3); omega)⟩, hJ⟩
      ·
        refine s_iload_n E dX9_carry_33 rfl rfl ?_
        refine s_iload_n E dX9_carry_34 rfl rfl ?_
        refine z_icmp_ne (tgt := 41) (u := x2.toInt) (v := x3.toInt) E dX9_carry_35 (by decide) rfl rfl (fun h_16 => ?_) (fun h_16 => ?_)
        ·
          refine s_aload_n E dX9_carry_41 rfl rfl ?_
          refine s_gR (r := 81) E fg_X9_64 rfl rfl (jv_lt hJ (by decide)) (jv_r hJ (by decide +kernel)) dX9_carry_42 ?_
          refine s_aload_n E dX9_carry_45 rfl rfl ?_
          refine s_gR (r := 2) E fg_X9_20 rfl rfl (jv_lt hJ (by decide)) (jv_r hJ (by decide +kernel)) dX9_carry_46 ?_
          refine s_aload_n E dX9_carry_49 rfl rfl ?_
          refine s_gR (r := 2) E fg_X9_20 rfl rfl (jv_lt hJ (by decide)) (jv_r hJ (by decide +kernel)) dX9_carry_50 ?_
          refine s_gI E fg_X9_214 rfl rfl (jv_lt hJ (by decide)) dX9_carry_53 ?_
          refine z_nm (P := fun z => z.toInt = (w.2.2.1 2 3).toInt ∧ (-2147483648) ≤ z.toInt ∧ z.toInt ≤ 2147483647) ⟨rfl, z32 _⟩ (fun z_17 hz_17 => ?_)
          refine s_iload_n E dX9_carry_56 rfl rfl ?_
          refine s_vV (As := [AR 2, AI z_17, AI x2]) (S := []) E (Z_X5_prepare_81_r2 l D aC b w z_17 x2 hJ.1 ) cv_X9_217 rfl rfl rfl (jv_lt hJ (by decide)) (Nat.le_of_ble_eq_true rfl) (Nat.le_of_ble_eq_true rfl) ⟨(Nat.le_of_ble_eq_true rfl), (Nat.le_of_ble_eq_true rfl)⟩ (Nat.le_of_ble_eq_true rfl) dX9_carry_57 (fun u_18 hp_19 => ?_)
          have hj_20 := jv_trans hJ hp_19
          refine s_aload_n E dX9_carry_60 rfl rfl ?_
          refine s_gR (r := 81) E fg_X9_64 rfl rfl (jv_lt hj_20 (by decide)) (jv_r hj_20 (by decide +kernel)) dX9_carry_61 ?_
          refine s_aload_n E dX9_carry_64 rfl rfl ?_
          refine s_gR (r := 69) E fg_X9_54 rfl rfl (jv_lt hj_20 (by decide)) (jv_r hj_20 (by decide +kernel)) dX9_carry_65 ?_
          refine s_iload_n E dX9_carry_68 rfl rfl ?_
          refine s_iconst (v := 0) E dX9_carry_69 (by decide) ?_
          refine s_vV (As := [AR 69, AI x1, AI 0]) (S := []) E (Z_X5_follow_81_r69 l D aC b u_18 x1 0 hj_20.1 ) cv_X9_220 rfl rfl rfl (jv_lt hj_20 (by decide)) (Nat.le_of_ble_eq_true rfl) (Nat.le_of_ble_eq_true rfl) ⟨(Nat.le_of_ble_eq_true rfl), (Nat.le_of_ble_eq_true rfl)⟩ (Nat.le_of_ble_eq_true rfl) dX9_carry_70 (fun u_21 hp_22 => ?_)
          have hj_23 := jv_trans hj_20 hp_22
          refine s_aload_n E dX9_carry_73 rfl rfl ?_
          refine s_gR (r := 85) E fg_X9_71 rfl rfl (jv_lt hj_23 (by decide)) (jv_r hj_23 (by decide +kernel)) dX9_carry_74 ?_
          refine s_aload_n E dX9_carry_77 rfl rfl ?_
          refine s_gR (r := 69) E fg_X9_54 rfl rfl (jv_lt hj_23 (by decide)) (jv_r hj_23 (by decide +kernel)) dX9_carry_78 ?_
          refine s_aload_n E dX9_carry_81 rfl rfl ?_
          refine s_gR (r := 81) E fg_X9_64 rfl rfl (jv_lt hj_23 (by decide)) (jv_r hj_23 (by decide +kernel)) dX9_carry_82 ?_
          refine s_iload_n E dX9_carry_85 rfl rfl ?_
          refine s_iload_n E dX9_carry_86 rfl rfl ?_
          refine s_vV (As := [AR 69, AR 81, AI x2, AI x3]) (S := []) E (Z_X1_prepare_85_r69_r81 l D aC b u_21 x2 x3 hj_23.1 ) cv_X9_243 rfl rfl rfl (jv_lt hj_23 (by decide)) (Nat.le_of_ble_eq_true rfl) (Nat.le_of_ble_eq_true rfl) ⟨(Nat.le_of_ble_eq_true rfl), (Nat.le_of_ble_eq_true rfl)⟩ (Nat.le_of_ble_eq_true rfl) dX9_carry_87 (fun u_24 hp_25 => ?_)
          have hj_26 := jv_trans hj_23 hp_25
          refine s_aload_n E dX9_carry_90 rfl rfl ?_
          refine s_gR (r := 85) E fg_X9_71 rfl rfl (jv_lt hj_26 (by decide)) (jv_r hj_26 (by decide +kernel)) dX9_carry_91 ?_
          refine s_aload_n E dX9_carry_94 rfl rfl ?_
          refine s_gR (r := 69) E fg_X9_54 rfl rfl (jv_lt hj_26 (by decide)) (jv_r hj_26 (by decide +kernel)) dX9_carry_95 ?_
          refine s_vI (As := [AR 69]) (S := []) E (Z_X1_soonest_85_r69 l D aC b u_24  hj_26.1 ) cv_X9_246 rfl rfl rfl (jv_lt hj_26 (by decide)) (Nat.le_of_ble_eq_true rfl) (Nat.le_of_ble_eq_true rfl) ⟨(Nat.le_of_ble_eq_true rfl), (Nat.le_of_ble_eq_true rfl)⟩ (Nat.le_of_ble_eq_true rfl) dX9_carry_98 (fun z_29 u_27 hp_28 => ?_)
          obtain ⟨hz_29, hp_28⟩ := hp_28
          have hj_30 := jv_trans hj_26 hp_28
          exact r_int E dX9_carry_101 ⟨⟨by have hb_ := z32 z_29; omega, by have hb_ := z32 z_29; omega, by first | (right; decide) | (have hb_ := z32 z_29; omega) | (have hb_ := z32 z_29; have hc_ := z32 x1; omega), by first | (right; decide) | (have hb_ := z32 z_29; omega) | (have hb_ := z32 z_29; have hc_ := z32 x2; omega), by first | (right; decide) | (have hb_ := z32 z_29; omega) | (have hb_ := z32 z_29; have hc_ := z32 x3; omega), by first | (right; decide) | (have hb_ := z32 z_29; omega) | (have hb_ := z32 z_29; have hc_ := z32 (w.2.2.1 5 3); omega)⟩, hj_30⟩
        ·
          refine s_bipush (v := (-2)) E dX9_carry_38 (by decide) ?_
          exact r_int E dX9_carry_40 ⟨⟨by decide, by decide, by first | (left; decide) | (right; decide) | (right; have hb_ := z32 x1; omega), by first | (left; decide) | (right; decide) | (right; have hb_ := z32 x2; omega), by first | (left; decide) | (right; decide) | (right; have hb_ := z32 x3; omega), by first | (left; decide) | (right; decide) | (right; have hb_ := z32 (w.2.2.1 5 3); omega)⟩, hJ⟩
set_option maxRecDepth 20000 in
set_option maxHeartbeats 2000000 in
theorem Z_X1_roomAt_85_r69 (l : Launch) (D : va_G) (aC : Nat → ClassId) (b : Nat) (w : XW) (x1 : Int32) (x2 : Int32) (hI : Iv w) (hx1 : 0 ≤ x1.toInt ∧ x1.toInt ≤ 14) : CnI l D aC b M_X1_roomAt 2 44 0 0 [AR 85, AR 69, AI x1, AI x2] w (fun r u => ((-2147483648) ≤ r.toInt ∧ r.toInt ≤ 2147483647 ∧ (¬ r.toInt = 0 ∨ (0 ≤ (w.2.2.1 85 6).toInt ∧ (w.2.2.1 85 6).toInt ≤ 1)) ∧ (r.toInt = 0 ∨ (0 ≤ (w.2.2.1 85 6).toInt ∧ (w.2.2.1 85 6).toInt ≤ 1))) ∧ w = u) := by
  refine cn_I (own := RX1) (nm := "roomAt") (L0 := [some (AR 85), some (AR 69), some (AI x1), some (AI x2), none, none, none, none, none]) (by decide +kernel) rfl rfl (Nat.le_of_ble_eq_true rfl) rfl ?_
  intro p e s m args below meth c E hin
  have hJ : Jv w w := jv_rfl hI
  have hb_x2 := z32 x2
  refine s_aload_n E dX1_roomAt_0 rfl rfl ?_
  refine s_aload_n E dX1_roomAt_1 rfl rfl ?_
  refine s_gI E fg_X1_21 rfl rfl (jv_lt hJ (by decide)) dX1_roomAt_2 ?_
  refine z_nm (P := fun z => z.toInt = (w.2.2.1 85 3).toInt ∧ (-2147483648) ≤ z.toInt ∧ z.toInt ≤ 2147483647) ⟨rfl, z32 _⟩ (fun z_1 hz_1 => ?_)
  refine s_iconst (v := 0) E dX1_roomAt_5 (by decide) ?_
  refine s_vI (As := [AI z_1, AI 0]) (S := []) E (Z_X2_placeOf_69 l D aC b w z_1 0 hJ.1 ) cv_X1_45 rfl rfl rfl (jv_lt hJ (by decide)) (Nat.le_of_ble_eq_true rfl) (Nat.le_of_ble_eq_true rfl) ⟨(Nat.le_of_ble_eq_true rfl), (Nat.le_of_ble_eq_true rfl)⟩ (Nat.le_of_ble_eq_true rfl) dX1_roomAt_6 (fun z_4 u_2 hp_3 => ?_)
  obtain ⟨hz_4, hp_3⟩ := hp_3
  subst hp_3
  refine s_istore (L2 := [some (AR 85), some (AR 69), some (AI x1), some (AI x2), some (AI z_4), none, none, none, none]) E dX1_roomAt_9 (by decide) rfl ?_
  refine s_aload_n E dX1_roomAt_11 rfl rfl ?_
  refine s_gI E fg_X1_55 rfl rfl (jv_lt hJ (by decide)) dX1_roomAt_12 ?_
  refine z_nm (P := fun z => z.toInt = (w.2.2.1 85 6).toInt ∧ 0 ≤ z.toInt ∧ z.toInt ≤ 1) ⟨rfl, (rg_85_6 hJ)⟩ (fun z_6 hz_6 => ?_)
  refine s_istore (L2 := [some (AR 85), some (AR 69), some (AI x1), some (AI x2), some (AI z_4), some (AI z_6), none, none, none]) E dX1_roomAt_15 (by decide) rfl ?_
  refine s_iconst (v := 1) E dX1_roomAt_17 (by decide) ?_
  refine s_istore (L2 := [some (AR 85), some (AR 69), some (AI x1), some (AI x2), some (AI z_4), some (AI z_6), some (AI 1), none, none]) E dX1_roomAt_18 (by decide) rfl ?_
  refine z_loop (St := Int32 × Int32 × Int32) (Pi := fun ⟨q20_4_6, q20_5_6, q20_6_6⟩ v20 => (0 ≤ q20_5_6.toInt ∧ q20_5_6.toInt ≤ 1) ∧ (1 ≤ q20_6_6.toInt ∧ q20_6_6.toInt ≤ 15) ∧ w = v20) (Lf := fun ⟨q20_4_6, q20_5_6, q20_6_6⟩ => [some (AR 85), some (AR 69), some (AI x1), some (AI x2), some (AI q20_4_6), some (AI q20_5_6), some (AI q20_6_6), none, none]) (fun ⟨q20_4_6, q20_5_6, q20_6_6⟩ _ => (16 - q20_6_6.toInt).toNat) ⟨z_4, z_6, 1⟩ ⟨⟨by have hb_ := z32 z_6; omega, by have hb_ := z32 z_6; omega⟩, ⟨by decide, by decide⟩, rfl⟩ ?_
  rintro ⟨q20_4_6, q20_5_6, q20_6_6⟩ v20 ⟨hq20_5, hq20_6, hv_⟩ ih20
  subst hv_
  have hbq20_4 := z32 q20_4_6
  refine s_loc (L2 := [some (AR 85), some (AR 69), some (AI x1), some (AI x2), some (AI q20_4_6), some (AI q20_5_6), some (AI q20_6_6), none, none]) rfl ?_
  refine s_iload E dX1_roomAt_20 rfl ?_
  refine s_iload_n E dX1_roomAt_22 rfl rfl ?_
  refine z_icmp_gt (tgt := 122) (u := q20_6_6.toInt) (v := x2.toInt) E dX1_roomAt_23 (by decide) rfl rfl (fun h_8 => ?_) (fun h_8 => ?_)
  ·
    refine s_iload E dX1_roomAt_122 rfl ?_
    exact r_int E dX1_roomAt_124 ⟨⟨by have hb_ := z32 q20_4_6; omega, by have hb_ := z32 q20_4_6; omega, by first | (right; decide) | (have hb_ := z32 q20_4_6; omega) | (have hb_ := z32 q20_4_6; have hc_ := z32 (w.2.2.1 85 6); omega), by first | (right; decide) | (have hb_ := z32 q20_4_6; omega) | (have hb_ := z32 q20_4_6; have hc_ := z32 (w.2.2.1 85 6); omega)⟩, rfl⟩
  ·
    refine s_iload E dX1_roomAt_26 rfl ?_
    refine s_iload_n E dX1_roomAt_28 rfl rfl ?_
    refine z_icmp_gt (tgt := 122) (u := q20_6_6.toInt) (v := x1.toInt) E dX1_roomAt_29 (by decide) rfl rfl (fun h_9 => ?_) (fun h_9 => ?_)
    ·
      refine s_iload E dX1_roomAt_122 rfl ?_
      exact r_int E dX1_roomAt_124 ⟨⟨by have hb_ := z32 q20_4_6; omega, by have hb_ := z32 q20_4_6; omega, by first | (right; decide) | (have hb_ := z32 q20_4_6; omega) | (have hb_ := z32 q20_4_6; have hc_ := z32 (w.2.2.1 85 6); omega), by first | (right; decide) | (have hb_ := z32 q20_4_6; omega) | (have hb_ := z32 q20_4_6; have hc_ := z32 (w.2.2.1 85 6); omega)⟩, rfl⟩
    ·
      refine s_iload E dX1_roomAt_32 rfl ?_
      refine z_if_eq (tgt := 47) (u := q20_5_6.toInt) E dX1_roomAt_34 (by decide) rfl (fun h_10 => ?_) (fun h_10 => ?_)
      ·
        refine s_aload_n E dX1_roomAt_47 rfl rfl ?_
        refine s_iload E dX1_roomAt_48 rfl ?_
        refine s_iload_n E dX1_roomAt_50 rfl rfl ?_
        refine s_vI (As := [AI q20_6_6, AI x1]) (S := []) E (Z_X1_goodWithout_85 l D aC b w q20_6_6 x1 hJ.1 ⟨by have hb_ := z32 q20_6_6; omega, by have hb_ := z32 q20_6_6; omega⟩) cv_X1_69 rfl rfl rfl (jv_lt hJ (by decide)) (Nat.le_of_ble_eq_true rfl) (Nat.le_of_ble_eq_true rfl) ⟨(Nat.le_of_ble_eq_true rfl), (Nat.le_of_ble_eq_true rfl)⟩ (Nat.le_of_ble_eq_true rfl) dX1_roomAt_51 (fun z_13 u_11 hp_12 => ?_)
        obtain ⟨hz_13, hp_12⟩ := hp_12
        subst hp_12
        refine s_istore (L2 := [some (AR 85), some (AR 69), some (AI x1), some (AI x2), some (AI q20_4_6), some (AI q20_5_6), some (AI q20_6_6), some (AI z_13), none]) E dX1_roomAt_54 (by decide) rfl ?_
        refine s_aload_n E dX1_roomAt_56 rfl rfl ?_
        refine s_aload_n E dX1_roomAt_57 rfl rfl ?_
        refine s_gI E fg_X1_21 rfl rfl (jv_lt hJ (by decide)) dX1_roomAt_58 ?_
        refine z_nm (P := fun z => z.toInt = (w.2.2.1 85 3).toInt ∧ (-2147483648) ≤ z.toInt ∧ z.toInt ≤ 2147483647) ⟨rfl, z32 _⟩ (fun z_15 hz_15 => ?_)
        refine s_iload E dX1_roomAt_61 rfl ?_
        refine s_vI (As := [AI z_15, AI q20_4_6]) (S := []) E (Z_X2_stepsFrom_69 l D aC b w z_15 q20_4_6 hJ.1 ) cv_X1_72 rfl rfl rfl (jv_lt hJ (by decide)) (Nat.le_of_ble_eq_true rfl) (Nat.le_of_ble_eq_true rfl) ⟨(Nat.le_of_ble_eq_true rfl), (Nat.le_of_ble_eq_true rfl)⟩ (Nat.le_of_ble_eq_true rfl) dX1_roomAt_63 (fun z_18 u_16 hp_17 => ?_)
        obtain ⟨hz_18, hp_17⟩ := hp_17
        subst hp_17
        refine s_iload E dX1_roomAt_66 rfl ?_
        refine s_iand E dX1_roomAt_68 ?_
        refine z_nm (P := fun z => (-2147483648) ≤ z.toInt ∧ z.toInt ≤ 2147483647) (z32 _) (fun z_20 hz_20 => ?_)
        refine s_sI (As := [AI z_20]) (S := []) E (Z_X9_lowest l D aC b w z_20 hJ.1 ) cs_X1_75 rfl rfl (Nat.le_of_ble_eq_true rfl) (Nat.le_of_ble_eq_true rfl) ⟨(Nat.le_of_ble_eq_true rfl), (Nat.le_of_ble_eq_true rfl)⟩ (Nat.le_of_ble_eq_true rfl) dX1_roomAt_69 (fun z_23 u_21 hp_22 => ?_)
        obtain ⟨hz_23, hp_22⟩ := hp_22
        subst hp_22
        refine s_istore (L2 := [some (AR 85), some (AR 69), some (AI x1), some (AI x2), some (AI q20_4_6), some (AI q20_5_6), some (AI q20_6_6), some (AI z_13), some (AI z_23)]) E dX1_roomAt_72 (by decide) rfl ?_
        refine s_iload E dX1_roomAt_74 rfl ?_
        refine s_iconst (v := (-1)) E dX1_roomAt_76 (by decide) ?_
        refine z_icmp_ne (tgt := 85) (u := z_23.toInt) (v := (-1)) E dX1_roomAt_77 (by decide) rfl (by decide) (fun h_25 => ?_) (fun h_25 => ?_)
        ·
          refine s_iload E dX1_roomAt_85 rfl ?_
          refine s_istore (L2 := [some (AR 85), some (AR 69), some (AI x1), some (AI x2), some (AI z_23), some (AI q20_5_6), some (AI q20_6_6), some (AI z_13), some (AI z_23)]) E dX1_roomAt_87 (by decide) rfl ?_
          refine s_iload E dX1_roomAt_89 rfl ?_
          refine z_if_ne (tgt := 109) (u := q20_5_6.toInt) E dX1_roomAt_91 (by decide) rfl (fun h_26 => absurd h_26 (by omega)) (fun h_26 => ?_)
          refine s_aload_n E dX1_roomAt_94 rfl rfl ?_
          refine s_gR (r := 86) E fg_X1_9 rfl rfl (jv_lt hJ (by decide)) (jv_r hJ (by decide +kernel)) dX1_roomAt_95 ?_
          refine s_iload E dX1_roomAt_98 rfl ?_
          refine s_iald E rfl (jv_lt hJ (by decide)) (z_in (u := q20_6_6.toInt) rfl (by omega) (by omega)) dX1_roomAt_100 ?_
          refine z_nm (P := fun z => (-2147483648) ≤ z.toInt ∧ z.toInt ≤ 2147483647) (z32 _) (fun z_27 hz_27 => ?_)
          refine s_iload E dX1_roomAt_101 rfl ?_
          refine s_sI (As := [AI z_27, AI z_23]) (S := []) E (Z_X9_hasBit l D aC b w z_27 z_23 hJ.1 ) cs_X1_51 rfl rfl (Nat.le_of_ble_eq_true rfl) (Nat.le_of_ble_eq_true rfl) ⟨(Nat.le_of_ble_eq_true rfl), (Nat.le_of_ble_eq_true rfl)⟩ (Nat.le_of_ble_eq_true rfl) dX1_roomAt_103 (fun z_30 u_28 hp_29 => ?_)
          obtain ⟨hz_30, hp_29⟩ := hp_29
          subst hp_29
          refine z_if_eq (tgt := 113) (u := z_30.toInt) E dX1_roomAt_106 (by decide) rfl (fun h_32 => ?_) (fun h_32 => ?_)
          ·
            refine s_iconst (v := 0) E dX1_roomAt_113 (by decide) ?_
            refine s_istore (L2 := [some (AR 85), some (AR 69), some (AI x1), some (AI x2), some (AI z_23), some (AI 0), some (AI q20_6_6), some (AI z_13), some (AI z_23)]) E dX1_roomAt_114 (by decide) rfl ?_
            refine z_iinc (u := q20_6_6.toInt) (L2 := fun z_33 => [some (AR 85), some (AR 69), some (AI x1), some (AI x2), some (AI z_23), some (AI 0), some (AI z_33), some (AI z_13), some (AI z_23)]) E dX1_roomAt_116 rfl rfl (by decide) (fun _ => rfl) (by decide) (by omega) (by omega) (fun z_33 hz_33 => ?_)
            refine s_goto (tgt := 20) E dX1_roomAt_119 (by decide) ?_
            refine s_drop (i := 7) (L2 := [some (AR 85), some (AR 69), some (AI x1), some (AI x2), some (AI z_23), some (AI 0), some (AI z_33), none, some (AI z_23)]) rfl ?_
            refine s_drop (i := 8) (L2 := [some (AR 85), some (AR 69), some (AI x1), some (AI x2), some (AI z_23), some (AI 0), some (AI z_33), none, none]) rfl ?_
            exact ih20 ⟨z_23, 0, z_33⟩ w ⟨⟨by decide, by decide⟩, ⟨by have hb_ := z32 z_33; omega, by have hb_ := z32 z_33; omega⟩, rfl⟩ (by first | omega | decide | (dsimp only; omega) | (dsimp only; decide))
          ·
            refine s_iconst (v := 1) E dX1_roomAt_109 (by decide) ?_
            refine s_goto (tgt := 114) E dX1_roomAt_110 (by decide) ?_
            refine s_istore (L2 := [some (AR 85), some (AR 69), some (AI x1), some (AI x2), some (AI z_23), some (AI 1), some (AI q20_6_6), some (AI z_13), some (AI z_23)]) E dX1_roomAt_114 (by decide) rfl ?_
            refine z_iinc (u := q20_6_6.toInt) (L2 := fun z_34 => [some (AR 85), some (AR 69), some (AI x1), some (AI x2), some (AI z_23), some (AI 1), some (AI z_34), some (AI z_13), some (AI z_23)]) E dX1_roomAt_116 rfl rfl (by decide) (fun _ => rfl) (by decide) (by omega) (by omega) (fun z_34 hz_34 => ?_)
            refine s_goto (tgt := 20) E dX1_roomAt_119 (by decide) ?_
            refine s_drop (i := 7) (L2 := [some (AR 85), some (AR 69), some (AI x1), some (AI x2), some (AI z_23), some (AI 1), some (AI z_34), none, some (AI z_23)]) rfl ?_
            refine s_drop (i := 8) (L2 := [some (AR 85), some (AR 69), some (AI x1), some (AI x2), some (AI z_23), some (AI 1), some (AI z_34), none, none]) rfl ?_
            exact ih20 ⟨z_23, 1, z_34⟩ w ⟨⟨by decide, by decide⟩, ⟨by have hb_ := z32 z_34; omega, by have hb_ := z32 z_34; omega⟩, rfl⟩ (by first | omega | decide | (dsimp only; omega) | (dsimp only; decide))
        ·
          refine s_iload E dX1_roomAt_80 rfl ?_
          refine s_goto (tgt := 87) E dX1_roomAt_82 (by decide) ?_
          refine s_istore (L2 := [some (AR 85), some (AR 69), some (AI x1), some (AI x2), some (AI q20_4_6), some (AI q20_5_6), some (AI q20_6_6), some (AI z_13), some (AI z_23)]) E dX1_roomAt_87 (by decide) rfl ?_
          refine s_iload E dX1_roomAt_89 rfl ?_
          refine z_if_ne (tgt := 109) (u := q20_5_6.toInt) E dX1_roomAt_91 (by decide) rfl (fun h_35 => absurd h_35 (by omega)) (fun h_35 => ?_)
          refine s_aload_n E dX1_roomAt_94 rfl rfl ?_
          refine s_gR (r := 86) E fg_X1_9 rfl rfl (jv_lt hJ (by decide)) (jv_r hJ (by decide +kernel)) dX1_roomAt_95 ?_
          refine s_iload E dX1_roomAt_98 rfl ?_
          refine s_iald E rfl (jv_lt hJ (by decide)) (z_in (u := q20_6_6.toInt) rfl (by omega) (by omega)) dX1_roomAt_100 ?_
          refine z_nm (P := fun z => (-2147483648) ≤ z.toInt ∧ z.toInt ≤ 2147483647) (z32 _) (fun z_36 hz_36 => ?_)
          refine s_iload E dX1_roomAt_101 rfl ?_
          refine s_sI (As := [AI z_36, AI q20_4_6]) (S := []) E (Z_X9_hasBit l D aC b w z_36 q20_4_6 hJ.1 ) cs_X1_51 rfl rfl (Nat.le_of_ble_eq_true rfl) (Nat.le_of_ble_eq_true rfl) ⟨(Nat.le_of_ble_eq_true rfl), (Nat.le_of_ble_eq_true rfl)⟩ (Nat.le_of_ble_eq_true rfl) dX1_roomAt_103 (fun z_39 u_37 hp_38 => ?_)
          obtain ⟨hz_39, hp_38⟩ := hp_38
          subst hp_38
          refine z_if_eq (tgt := 113) (u := z_39.toInt) E dX1_roomAt_106 (by decide) rfl (fun h_41 => ?_) (fun h_41 => ?_)
          ·
            refine s_iconst (v := 0) E dX1_roomAt_113 (by decide) ?_
            refine s_istore (L2 := [some (AR 85), some (AR 69), some (AI x1), some (AI x2), some (AI q20_4_6), some (AI 0), some (AI q20_6_6), some (AI z_13), some (AI z_23)]) E dX1_roomAt_114 (by decide) rfl ?_
            refine z_iinc (u := q20_6_6.toInt) (L2 := fun z_42 => [some (AR 85), some (AR 69), some (AI x1), some (AI x2), some (AI q20_4_6), some (AI 0), some (AI z_42), some (AI z_13), some (AI z_23)]) E dX1_roomAt_116 rfl rfl (by decide) (fun _ => rfl) (by decide) (by omega) (by omega) (fun z_42 hz_42 => ?_)
            refine s_goto (tgt := 20) E dX1_roomAt_119 (by decide) ?_
            refine s_drop (i := 7) (L2 := [some (AR 85), some (AR 69), some (AI x1), some (AI x2), some (AI q20_4_6), some (AI 0), some (AI z_42), none, some (AI z_23)]) rfl ?_
            refine s_drop (i := 8) (L2 := [some (AR 85), some (AR 69), some (AI x1), some (AI x2), some (AI q20_4_6), some (AI 0), some (AI z_42), none, none]) rfl ?_
            exact ih20 ⟨q20_4_6, 0, z_42⟩ w ⟨⟨by decide, by decide⟩, ⟨by have hb_ := z32 z_42; omega, by have hb_ := z32 z_42; omega⟩, rfl⟩ (by first | omega | decide | (dsimp only; omega) | (dsimp only; decide))
          ·
            refine s_iconst (v := 1) E dX1_roomAt_109 (by decide) ?_
            refine s_goto (tgt := 114) E dX1_roomAt_110 (by decide) ?_
            refine s_istore (L2 := [some (AR 85), some (AR 69), some (AI x1), some (AI x2), some (AI q20_4_6), some (AI 1), some (AI q20_6_6), some (AI z_13), some (AI z_23)]) E dX1_roomAt_114 (by decide) rfl ?_
            refine z_iinc (u := q20_6_6.toInt) (L2 := fun z_43 => [some (AR 85), some (AR 69), some (AI x1), some (AI x2), some (AI q20_4_6), some (AI 1), some (AI z_43), some (AI z_13), some (AI z_23)]) E dX1_roomAt_116 rfl rfl (by decide) (fun _ => rfl) (by decide) (by omega) (by omega) (fun z_43 hz_43 => ?_)
            refine s_goto (tgt := 20) E dX1_roomAt_119 (by decide) ?_
            refine s_drop (i := 7) (L2 := [some (AR 85), some (AR 69), some (AI x1), some (AI x2), some (AI q20_4_6), some (AI 1), some (AI z_43), none, some (AI z_23)]) rfl ?_
            refine s_drop (i := 8) (L2 := [some (AR 85), some (AR 69), some (AI x1), some (AI x2), some (AI q20_4_6), some (AI 1), some (AI z_43), none, none]) rfl ?_
            exact ih20 ⟨q20_4_6, 1, z_43⟩ w ⟨⟨by decide, by decide⟩, ⟨by have hb_ := z32 z_43; omega, by have hb_ := z32 z_43; omega⟩, rfl⟩ (by first | omega | decide | (dsimp only; omega) | (dsimp only; decide))
      ·
        refine s_aload_n E dX1_roomAt_37 rfl rfl ?_
        refine s_gR (r := 87) E fg_X1_15 rfl rfl (jv_lt hJ (by decide)) (jv_r hJ (by decide +kernel)) dX1_roomAt_38 ?_
        refine s_iload E dX1_roomAt_41 rfl ?_
        refine s_iald E rfl (jv_lt hJ (by decide)) (z_in (u := q20_6_6.toInt) rfl (by omega) (by omega)) dX1_roomAt_43 ?_
        refine z_nm (P := fun z => (-2147483648) ≤ z.toInt ∧ z.toInt ≤ 2147483647) (z32 _) (fun z_44 hz_44 => ?_)
        refine s_goto (tgt := 54) E dX1_roomAt_44 (by decide) ?_
        refine s_istore (L2 := [some (AR 85), some (AR 69), some (AI x1), some (AI x2), some (AI q20_4_6), some (AI q20_5_6), some (AI q20_6_6), some (AI z_44), none]) E dX1_roomAt_54 (by decide) rfl ?_
        refine s_aload_n E dX1_roomAt_56 rfl rfl ?_
        refine s_aload_n E dX1_roomAt_57 rfl rfl ?_
        refine s_gI E fg_X1_21 rfl rfl (jv_lt hJ (by decide)) dX1_roomAt_58 ?_
        refine z_nm (P := fun z => z.toInt = (w.2.2.1 85 3).toInt ∧ (-2147483648) ≤ z.toInt ∧ z.toInt ≤ 2147483647) ⟨rfl, z32 _⟩ (fun z_45 hz_45 => ?_)
        refine s_iload E dX1_roomAt_61 rfl ?_
        refine s_vI (As := [AI z_45, AI q20_4_6]) (S := []) E (Z_X2_stepsFrom_69 l D aC b w z_45 q20_4_6 hJ.1 ) cv_X1_72 rfl rfl rfl (jv_lt hJ (by decide)) (Nat.le_of_ble_eq_true rfl) (Nat.le_of_ble_eq_true rfl) ⟨(Nat.le_of_ble_eq_true rfl), (Nat.le_of_ble_eq_true rfl)⟩ (Nat.le_of_ble_eq_true rfl) dX1_roomAt_63 (fun z_48 u_46 hp_47 => ?_)
        obtain ⟨hz_48, hp_47⟩ := hp_47
        subst hp_47
        refine s_iload E dX1_roomAt_66 rfl ?_
        refine s_iand E dX1_roomAt_68 ?_
        refine z_nm (P := fun z => (-2147483648) ≤ z.toInt ∧ z.toInt ≤ 2147483647) (z32 _) (fun z_50 hz_50 => ?_)
        refine s_sI (As := [AI z_50]) (S := []) E (Z_X9_lowest l D aC b w z_50 hJ.1 ) cs_X1_75 rfl rfl (Nat.le_of_ble_eq_true rfl) (Nat.le_of_ble_eq_true rfl) ⟨(Nat.le_of_ble_eq_true rfl), (Nat.le_of_ble_eq_true rfl)⟩ (Nat.le_of_ble_eq_true rfl) dX1_roomAt_69 (fun z_53 u_51 hp_52 => ?_)
        obtain ⟨hz_53, hp_52⟩ := hp_52
        subst hp_52
        refine s_istore (L2 := [some (AR 85), some (AR 69), some (AI x1), some (AI x2), some (AI q20_4_6), some (AI q20_5_6), some (AI q20_6_6), some (AI z_44), some (AI z_53)]) E dX1_roomAt_72 (by decide) rfl ?_
        refine s_iload E dX1_roomAt_74 rfl ?_
        refine s_iconst (v := (-1)) E dX1_roomAt_76 (by decide) ?_
        refine z_icmp_ne (tgt := 85) (u := z_53.toInt) (v := (-1)) E dX1_roomAt_77 (by decide) rfl (by decide) (fun h_55 => ?_) (fun h_55 => ?_)
        ·
          refine s_iload E dX1_roomAt_85 rfl ?_
          refine s_istore (L2 := [some (AR 85), some (AR 69), some (AI x1), some (AI x2), some (AI z_53), some (AI q20_5_6), some (AI q20_6_6), some (AI z_44), some (AI z_53)]) E dX1_roomAt_87 (by decide) rfl ?_
          refine s_iload E dX1_roomAt_89 rfl ?_
          refine z_if_ne (tgt := 109) (u := q20_5_6.toInt) E dX1_roomAt_91 (by decide) rfl (fun h_56 => ?_) (fun h_56 => absurd h_56 (by omega))
          refine s_iconst (v := 1) E dX1_roomAt_109 (by decide) ?_
          refine s_goto (tgt := 114) E dX1_roomAt_110 (by decide) ?_
          refine s_istore (L2 := [some (AR 85), some (AR 69), some (AI x1), some (AI x2), some (AI z_53), some (AI 1), some (AI q20_6_6), some (AI z_44), some (AI z_53)]) E dX1_roomAt_114 (by decide) rfl ?_
          refine z_iinc (u := q20_6_6.toInt) (L2 := fun z_57 => [some (AR 85), some (AR 69), some (AI x1), some (AI x2), some (AI z_53), some (AI 1), some (AI z_57), some (AI z_44), some (AI z_53)]) E dX1_roomAt_116 rfl rfl (by decide) (fun _ => rfl) (by decide) (by omega) (by omega) (fun z_57 hz_57 => ?_)
          refine s_goto (tgt := 20) E dX1_roomAt_119 (by decide) ?_
          refine s_drop (i := 7) (L2 := [some (AR 85), some (AR 69), some (AI x1), some (AI x2), some (AI z_53), some (AI 1), some (AI z_57), none, some (AI z_53)]) rfl ?_
          refine s_drop (i := 8) (L2 := [some (AR 85), some (AR 69), some (AI x1), some (AI x2), some (AI z_53), some (AI 1), some (AI z_57), none, none]) rfl ?_
          exact ih20 ⟨z_53, 1, z_57⟩ w ⟨⟨by decide, by decide⟩, ⟨by have hb_ := z32 z_57; omega, by have hb_ := z32 z_57; omega⟩, rfl⟩ (by first | omega | decide | (dsimp only; omega) | (dsimp only; decide))
        ·
          refine s_iload E dX1_roomAt_80 rfl ?_
          refine s_goto (tgt := 87) E dX1_roomAt_82 (by decide) ?_
          refine s_istore (L2 := [some (AR 85), some (AR 69), some (AI x1), some (AI x2), some (AI q20_4_6), some (AI q20_5_6), some (AI q20_6_6), some (AI z_44), some (AI z_53)]) E dX1_roomAt_87 (by decide) rfl ?_
          refine s_iload E dX1_roomAt_89 rfl ?_
          refine z_if_ne (tgt := 109) (u := q20_5_6.toInt) E dX1_roomAt_91 (by decide) rfl (fun h_58 => ?_) (fun h_58 => absurd h_58 (by omega))
          refine s_iconst (v := 1) E dX1_roomAt_109 (by decide) ?_
          refine s_goto (tgt := 114) E dX1_roomAt_110 (by decide) ?_
          refine s_istore (L2 := [some (AR 85), some (AR 69), some (AI x1), some (AI x2), some (AI q20_4_6), some (AI 1), some (AI q20_6_6), some (AI z_44), some (AI z_53)]) E dX1_roomAt_114 (by decide) rfl ?_
          refine z_iinc (u := q20_6_6.toInt) (L2 := fun z_59 => [some (AR 85), some (AR 69), some (AI x1), some (AI x2), some (AI q20_4_6), some (AI 1), some (AI z_59), some (AI z_44), some (AI z_53)]) E dX1_roomAt_116 rfl rfl (by decide) (fun _ => rfl) (by decide) (by omega) (by omega) (fun z_59 hz_59 => ?_)
          refine s_goto (tgt := 20) E dX1_roomAt_119 (by decide) ?_
          refine s_drop (i := 7) (L2 := [some (AR 85), some (AR 69), some (AI x1), some (AI x2), some (AI q20_4_6), some (AI 1), some (AI z_59), none, some (AI z_53)]) rfl ?_
          refine s_drop (i := 8) (L2 := [some (AR 85), some (AR 69), some (AI x1), some (AI x2), some (AI q20_4_6), some (AI 1), some (AI z_59), none, none]) rfl ?_
          exact ih20 ⟨q20_4_6, 1, z_59⟩ w ⟨⟨by decide, by decide⟩, ⟨by have hb_ := z32 z_59; omega, by have hb_ := z32 z_59; omega⟩, rfl⟩ (by first | omega | decide | (dsimp only; omega) | (dsimp only; decide))
set_option maxRecDepth 20000 in
set_option maxHeartbeats 2000000 in
theorem Z_X9_walk_0 (l : Launch) (D : va_G) (aC : Nat → ClassId) (b : Nat) (w : XW) (x1 : Int32) (x2 : Int32) (x3 : Int32) (x4 : Int32) (hI : Iv w)  : CnI l D aC b M_X9_walk 5 117 0 0 [AR 0, AI x1, AI x2, AI x3, AI x4] w (fun r u => ((-2147483648) ≤ r.toInt ∧ r.toInt ≤ 2147483647 ∧ (¬ r.toInt = 0 ∨ (0 ≤ x4.toInt ∧ x4.toInt ≤ 14)) ∧ (¬ r.toInt = 0 ∨ (1 ≤ (w.2.2.1 2 0).toInt ∧ (w.2.2.1 2 0).toInt ≤ 2147483647))) ∧ Jv w u) := by
  refine cn_I (own := RX9) (nm := "walk") (L0 := [some (AR 0), some (AI x1), some (AI x2), some (AI x3), some (AI x4), none]) (by decide +kernel) rfl rfl (Nat.le_of_ble_eq_true rfl) rfl ?_
  intro p e s m args below meth c E hin
  have hJ : Jv w w := jv_rfl hI
  have hb_x1 := z32 x1
  have hb_x2 := z32 x2
  have hb_x3 := z32 x3
  have hb_x4 := z32 x4
  refine s_aload_n E dX9_walk_0 rfl rfl ?_
  refine s_gR (r := 2) E fg_X9_20 rfl rfl (jv_lt hJ (by decide)) (jv_r hJ (by decide +kernel)) dX9_walk_1 ?_
  refine s_iload E dX9_walk_4 rfl ?_
  refine s_vI (As := [AI x4]) (S := []) E (Z_X0_hasDance_2 l D aC b w x4 hJ.1 ) cv_X9_153 rfl rfl rfl (jv_lt hJ (by decide)) (Nat.le_of_ble_eq_true rfl) (Nat.le_of_ble_eq_true rfl) ⟨(Nat.le_of_ble_eq_true rfl), (Nat.le_of_ble_eq_true rfl)⟩ (Nat.le_of_ble_eq_true rfl) dX9_walk_6 (fun z_3 u_1 hp_2 => ?_)
  obtain ⟨hz_3, hp_2⟩ := hp_2
  subst hp_2
  refine z_if_ne (tgt := 15) (u := z_3.toInt) E dX9_walk_9 (by decide) rfl (fun h_5 => ?_) (fun h_5 => ?_)
  ·
    refine s_aload_n E dX9_walk_15 rfl rfl ?_
    refine s_iload_n E dX9_walk_16 rfl rfl ?_
    refine s_iload_n E dX9_walk_17 rfl rfl ?_
    refine s_iload_n E dX9_walk_18 rfl rfl ?_
    refine s_vI (As := [AI x1, AI x2, AI x3]) (S := []) E (Z_X9_carry_0 l D aC b w x1 x2 x3 hJ.1 ) cv_X9_250 rfl rfl rfl (jv_lt hJ (by decide)) (Nat.le_of_ble_eq_true rfl) (Nat.le_of_ble_eq_true rfl) ⟨(Nat.le_of_ble_eq_true rfl), (Nat.le_of_ble_eq_true rfl)⟩ (Nat.le_of_ble_eq_true rfl) dX9_walk_19 (fun z_8 u_6 hp_7 => ?_)
    obtain ⟨hz_8, hp_7⟩ := hp_7
    have hj_9 := jv_trans hJ hp_7
    refine s_istore (L2 := [some (AR 0), some (AI x1), some (AI x2), some (AI x3), some (AI x4), some (AI z_8)]) E dX9_walk_22 (by decide) rfl ?_
    refine s_iload E dX9_walk_24 rfl ?_
    refine z_if_ge (tgt := 34) (u := z_8.toInt) E dX9_walk_26 (by decide) rfl (fun h_10 => ?_) (fun h_10 => ?_)
    ·
      refine s_aload_n E dX9_walk_34 rfl rfl ?_
      refine s_gR (r := 85) E fg_X9_71 rfl rfl (jv_lt hj_9 (by decide)) (jv_r hj_9 (by decide +kernel)) dX9_walk_35 ?_
      refine s_aload_n E dX9_walk_38 rfl rfl ?_
      refine s_gR (r := 69) E fg_X9_54 rfl rfl (jv_lt hj_9 (by decide)) (jv_r hj_9 (by decide +kernel)) dX9_walk_39 ?_
      refine s_iload E dX9_walk_42 rfl ?_
      refine s_iload E dX9_walk_44 rfl ?_
      refine s_vI (As := [AR 69, AI z_8, AI x4]) (S := []) E (Z_X1_roomAt_85_r69 l D aC b u_6 z_8 x4 hj_9.1 ⟨by have hb_ := z32 z_8; omega, by have hb_ := z32 z_8; omega⟩) cv_X9_253 rfl rfl rfl (jv_lt hj_9 (by decide)) (Nat.le_of_ble_eq_true rfl) (Nat.le_of_ble_eq_true rfl) ⟨(Nat.le_of_ble_eq_true rfl), (Nat.le_of_ble_eq_true rfl)⟩ (Nat.le_of_ble_eq_true rfl) dX9_walk_46 (fun z_13 u_11 hp_12 => ?_)
      obtain ⟨hz_13, hp_12⟩ := hp_12
      subst hp_12
      exact r_int E dX9_walk_49 ⟨⟨by have hb_ := z32 z_13; omega, by have hb_ := z32 z_13; omega, by first | (right; decide) | (have hb_ := z32 z_13; omega) | (have hb_ := z32 z_13; have hc_ := z32 x4; omega), by first | (right; decide) | (have hb_ := z32 z_13; omega) | (have hb_ := z32 z_13; have hc_ := z32 (w.2.2.1 2 0); omega)⟩, hj_9⟩
    ·
      refine s_iload E dX9_walk_29 rfl ?_
      refine s_goto (tgt := 49) E dX9_walk_31 (by decide) ?_
      exact r_int E dX9_walk_49 ⟨⟨by have hb_ := z32 z_8; omega, by have hb_ := z32 z_8; omega, by first | (right; decide) | (have hb_ := z32 z_8; omega) | (have hb_ := z32 z_8; have hc_ := z32 x4; omega), by first | (right; decide) | (have hb_ := z32 z_8; omega) | (have hb_ := z32 z_8; have hc_ := z32 (w.2.2.1 2 0); omega)⟩, hj_9⟩
  ·
    refine s_bipush (v := (-2)) E dX9_walk_12 (by decide) ?_
    exact r_int E dX9_walk_14 ⟨⟨by decide, by decide, by first | (left; decide) | (right; decide) | (right; have hb_ := z32 x4; omega), by first | (left; decide) | (right; decide) | (right; have hb_ := z32 (w.2.2.1 2 0); omega)⟩, hJ⟩
set_option maxRecDepth 20000 in
set_option maxHeartbeats 2000000 in
theorem Z_X8_has_3 (l : Launch) (D : va_G) (aC : Nat → ClassId) (b : Nat) (w : XW) (x1 : Int32) (hI : Iv w)  : CnI l D aC b M_X8_has 0 0 0 0 [AR 3, AI x1] w (fun r u => (0 ≤ r.toInt ∧ r.toInt ≤ 1 ∧ (r.toInt = 0 ∨ (0 ≤ x1.toInt ∧ x1.toInt ≤ 11)) ∧ (r.toInt = 0 ∨ (1 ≤ (w.2.2.1 3 3).toInt ∧ (w.2.2.1 3 3).toInt ≤ 12))) ∧ w = u) := by
  refine cn_I (own := RX8) (nm := "has") (L0 := [some (AR 3), some (AI x1)]) (by decide +kernel) rfl rfl (Nat.le_of_ble_eq_true rfl) rfl ?_
  intro p e s m args below meth c E hin
  have hJ : Jv w w := jv_rfl hI
  have hb_x1 := z32 x1
  refine s_iload_n E dX8_has_0 rfl rfl ?_
  refine z_if_lt (tgt := 16) (u := x1.toInt) E dX8_has_1 (by decide) rfl (fun h_1 => ?_) (fun h_1 => ?_)
  ·
    refine s_iconst (v := 0) E dX8_has_16 (by decide) ?_
    exact r_bool E dX8_has_17 (Or.inl rfl) ⟨⟨by decide, by decide, by first | (left; decide) | (right; decide) | (right; have hb_ := z32 x1; omega), by first | (left; decide) | (right; decide) | (right; have hb_ := z32 (w.2.2.1 3 3); omega)⟩, rfl⟩
  ·
    refine s_iload_n E dX8_has_4 rfl rfl ?_
    refine s_aload_n E dX8_has_5 rfl rfl ?_
    refine s_gI E fg_X8_28 rfl rfl (jv_lt hJ (by decide)) dX8_has_6 ?_
    refine z_nm (P := fun z => z.toInt = (w.2.2.1 3 3).toInt ∧ 0 ≤ z.toInt ∧ z.toInt ≤ 12) ⟨rfl, (rg_3_3 hJ)⟩ (fun z_2 hz_2 => ?_)
    refine z_icmp_ge (tgt := 16) (u := x1.toInt) (v := z_2.toInt) E dX8_has_9 (by decide) rfl rfl (fun h_3 => ?_) (fun h_3 => ?_)
    ·
      refine s_iconst (v := 0) E dX8_has_16 (by decide) ?_
      exact r_bool E dX8_has_17 (Or.inl rfl) ⟨⟨by decide, by decide, by first | (left; decide) | (right; decide) | (right; have hb_ := z32 x1; omega), by first | (left; decide) | (right; decide) | (right; have hb_ := z32 (w.2.2.1 3 3); omega)⟩, rfl⟩
    ·
      refine s_iconst (v := 1) E dX8_has_12 (by decide) ?_
      refine s_goto (tgt := 17) E dX8_has_13 (by decide) ?_
      exact r_bool E dX8_has_17 (Or.inr rfl) ⟨⟨by decide, by decide, by first | (left; decide) | (right; decide) | (right; have hb_ := z32 x1; omega), by first | (left; decide) | (right; decide) | (right; have hb_ := z32 (w.2.2.1 3 3); omega)⟩, rfl⟩
set_option maxRecDepth 20000 in
set_option maxHeartbeats 2000000 in
theorem Z_X2_openDoor_75_r2 (l : Launch) (D : va_G) (aC : Nat → ClassId) (b : Nat) (w : XW) (x1 : Int32) (x2 : Int32) (hI : Iv w)  : CnV l D aC b M_X2_openDoor 2 44 0 0 [AR 75, AR 2, AI x1, AI x2] w (fun u => Jv w u) := by
  refine cn_V (own := RX2) (nm := "openDoor") (L0 := [some (AR 75), some (AR 2), some (AI x1), some (AI x2), none, none, none]) (by decide +kernel) rfl rfl (Nat.le_of_ble_eq_true rfl) rfl ?_
  intro p e s m args below meth c E hin
  have hJ : Jv w w := jv_rfl hI
  have hb_x1 := z32 x1
  have hb_x2 := z32 x2
  refine s_aload_n E dX2_openDoor_0 rfl rfl ?_
  refine s_gR (r := 3) E fg_X2_68 rfl rfl (jv_lt hJ (by decide)) (jv_r hJ (by decide +kernel)) dX2_openDoor_1 ?_
  refine s_iload_n E dX2_openDoor_4 rfl rfl ?_
  refine s_iconst (v := 0) E dX2_openDoor_5 (by decide) ?_
  refine s_vI (As := [AI x1, AI 0]) (S := []) E (Z_X8_cell_3 l D aC b w x1 0 hJ.1 ) cv_X2_44 rfl rfl rfl (jv_lt hJ (by decide)) (Nat.le_of_ble_eq_true rfl) (Nat.le_of_ble_eq_true rfl) ⟨(Nat.le_of_ble_eq_true rfl), (Nat.le_of_ble_eq_true rfl)⟩ (Nat.le_of_ble_eq_true rfl) dX2_openDoor_6 (fun z_3 u_1 hp_2 => ?_)
  obtain ⟨hz_3, hp_2⟩ := hp_2
  subst hp_2
  refine s_istore (L2 := [some (AR 75), some (AR 2), some (AI x1), some (AI x2), some (AI z_3), none, none]) E dX2_openDoor_9 (by decide) rfl ?_
  refine s_aload_n E dX2_openDoor_11 rfl rfl ?_
  refine s_gR (r := 3) E fg_X2_68 rfl rfl (jv_lt hJ (by decide)) (jv_r hJ (by decide +kernel)) dX2_openDoor_12 ?_
  refine s_iload_n E dX2_openDoor_15 rfl rfl ?_
  refine s_iconst (v := 1) E dX2_openDoor_16 (by decide) ?_
  refine s_vI (As := [AI x1, AI 1]) (S := []) E (Z_X8_cell_3 l D aC b w x1 1 hJ.1 ) cv_X2_44 rfl rfl rfl (jv_lt hJ (by decide)) (Nat.le_of_ble_eq_true rfl) (Nat.le_of_ble_eq_true rfl) ⟨(Nat.le_of_ble_eq_true rfl), (Nat.le_of_ble_eq_true rfl)⟩ (Nat.le_of_ble_eq_true rfl) dX2_openDoor_17 (fun z_7 u_5 hp_6 => ?_)
  obtain ⟨hz_7, hp_6⟩ := hp_6
  subst hp_6
  refine s_istore (L2 := [some (AR 75), some (AR 2), some (AI x1), some (AI x2), some (AI z_3), some (AI z_7), none]) E dX2_openDoor_20 (by decide) rfl ?_
  refine s_aload_n E dX2_openDoor_22 rfl rfl ?_
  refine s_iload E dX2_openDoor_23 rfl ?_
  refine s_vI (As := [AI z_3]) (S := []) E (Z_X0_hasRoom_2 l D aC b w z_3 hJ.1 ) cv_X2_74 rfl rfl rfl (jv_lt hJ (by decide)) (Nat.le_of_ble_eq_true rfl) (Nat.le_of_ble_eq_true rfl) ⟨(Nat.le_of_ble_eq_true rfl), (Nat.le_of_ble_eq_true rfl)⟩ (Nat.le_of_ble_eq_true rfl) dX2_openDoor_25 (fun z_11 u_9 hp_10 => ?_)
  obtain ⟨hz_11, hp_10⟩ := hp_10
  subst hp_10
  refine z_if_eq (tgt := 40) (u := z_11.toInt) E dX2_openDoor_28 (by decide) rfl (fun h_13 => ?_) (fun h_13 => ?_)
  ·
    exact r_void E dX2_openDoor_40 hJ
  ·
    refine s_aload_n E dX2_openDoor_31 rfl rfl ?_
    refine s_iload E dX2_openDoor_32 rfl ?_
    refine s_vI (As := [AI z_7]) (S := []) E (Z_X0_hasRoom_2 l D aC b w z_7 hJ.1 ) cv_X2_74 rfl rfl rfl (jv_lt hJ (by decide)) (Nat.le_of_ble_eq_true rfl) (Nat.le_of_ble_eq_true rfl) ⟨(Nat.le_of_ble_eq_true rfl), (Nat.le_of_ble_eq_true rfl)⟩ (Nat.le_of_ble_eq_true rfl) dX2_openDoor_34 (fun z_16 u_14 hp_15 => ?_)
    obtain ⟨hz_16, hp_15⟩ := hp_15
    subst hp_15
    refine z_if_ne (tgt := 41) (u := z_16.toInt) E dX2_openDoor_37 (by decide) rfl (fun h_18 => ?_) (fun h_18 => ?_)
    ·
      refine s_iconst (v := 0) E dX2_openDoor_41 (by decide) ?_
      refine s_istore (L2 := [some (AR 75), some (AR 2), some (AI x1), some (AI x2), some (AI z_3), some (AI z_7), some (AI 0)]) E dX2_openDoor_42 (by decide) rfl ?_
      refine z_loop (St := Int32) (Pi := fun q44_6_18 v44 => (0 ≤ q44_6_18.toInt ∧ q44_6_18.toInt ≤ 6) ∧ (1 ≤ (v44.2.2.1 2 1).toInt ∧ (v44.2.2.1 2 1).toInt ≤ 8) ∧ Jv w v44) (Lf := fun q44_6_18 => [some (AR 75), some (AR 2), some (AI x1), some (AI x2), some (AI z_3), some (AI z_7), some (AI q44_6_18)]) (fun q44_6_18 _ => (7 - q44_6_18.toInt).toNat) 0 ⟨⟨by decide, by decide⟩, ⟨by omega, by omega⟩, hJ⟩ ?_
      rintro q44_6_18 v44 ⟨hq44_6, ha44_0, hj_19⟩ ih44
      refine s_loc (L2 := [some (AR 75), some (AR 2), some (AI x1), some (AI x2), some (AI z_3), some (AI z_7), some (AI q44_6_18)]) rfl ?_
      refine s_iload E dX2_openDoor_44 rfl ?_
      refine s_aload_n E dX2_openDoor_46 rfl rfl ?_
      refine s_gI E fg_X2_35 rfl rfl (jv_lt hj_19 (by decide)) dX2_openDoor_47 ?_
      refine z_nm (P := fun z => z.toInt = (v44.2.2.1 75 5).toInt ∧ 0 ≤ z.toInt ∧ z.toInt ≤ 6) ⟨rfl, (rg_75_5 hj_19)⟩ (fun z_20 hz_20 => ?_)
      refine z_icmp_ge (tgt := 113) (u := q44_6_18.toInt) (v := z_20.toInt) E dX2_openDoor_50 (by decide) rfl rfl (fun h_21 => ?_) (fun h_21 => ?_)
      ·
        exact r_void E dX2_openDoor_113 hj_19
      ·
        refine s_aload_n E dX2_openDoor_53 rfl rfl ?_
        refine s_gR (r := 5) E fg_X2_39 rfl rfl (jv_lt hj_19 (by decide)) (jv_r hj_19 (by decide +kernel)) dX2_openDoor_54 ?_
        refine s_iload E dX2_openDoor_57 rfl ?_
        refine s_iconst (v := 1) E dX2_openDoor_59 (by decide) ?_
        refine s_vI (As := [AI q44_6_18, AI 1]) (S := []) E (Z_X8_cell_5 l D aC b v44 q44_6_18 1 hj_19.1 ) cv_X2_44 rfl rfl rfl (jv_lt hj_19 (by decide)) (Nat.le_of_ble_eq_true rfl) (Nat.le_of_ble_eq_true rfl) ⟨(Nat.le_of_ble_eq_true rfl), (Nat.le_of_ble_eq_true rfl)⟩ (Nat.le_of_ble_eq_true rfl) dX2_openDoor_60 (fun z_24 u_22 hp_23 => ?_)
        obtain ⟨hz_24, hp_23⟩ := hp_23
        subst hp_23
        refine s_iload_n E dX2_openDoor_63 rfl rfl ?_
        refine z_icmp_gt (tgt := 107) (u := z_24.toInt) (v := x2.toInt) E dX2_openDoor_64 (by decide) rfl rfl (fun h_26 => ?_) (fun h_26 => ?_)
        ·
          refine z_iinc (u := q44_6_18.toInt) (L2 := fun z_27 => [some (AR 75), some (AR 2), some (AI x1), some (AI x2), some (AI z_3), some (AI z_7), some (AI z_27)]) E dX2_openDoor_107 rfl rfl (by decide) (fun _ => rfl) (by decide) (by omega) (by omega) (fun z_27 hz_27 => ?_)
          refine s_goto (tgt := 44) E dX2_openDoor_110 (by decide) ?_
          exact ih44 z_27 v44 ⟨⟨by have hb_ := z32 z_27; omega, by have hb_ := z32 z_27; omega⟩, ⟨by omega, by omega⟩, hj_19⟩ (by first | omega | decide | (dsimp only; omega) | (dsimp only; decide))
        ·
          refine s_aload_n E dX2_openDoor_67 rfl rfl ?_
          refine s_gR (r := 76) E fg_X2_9 rfl rfl (jv_lt hj_19 (by decide)) (jv_r hj_19 (by decide +kernel)) dX2_openDoor_68 ?_
          refine s_iload E dX2_openDoor_71 rfl ?_
          refine s_bipush (v := 8) E dX2_openDoor_73 (by decide) ?_
          refine z_imul (u := q44_6_18.toInt) (v := 8) E dX2_openDoor_75 rfl (by decide) (by omega) (by omega) (fun z_28 hz_28 => ?_)
          refine s_iload E dX2_openDoor_76 rfl ?_
          refine z_iadd (u := z_28.toInt) (v := z_3.toInt) E dX2_openDoor_78 rfl rfl (by omega) (by omega) (fun z_29 hz_29 => ?_)
          refine s_dup2 E dX2_openDoor_79 ?_
          refine s_iald E rfl (jv_lt hj_19 (by decide)) (z_in (u := z_29.toInt) rfl (by omega) (by omega)) dX2_openDoor_80 ?_
          refine z_nm (P := fun z => (-2147483648) ≤ z.toInt ∧ z.toInt ≤ 2147483647) (z32 _) (fun z_30 hz_30 => ?_)
          refine s_iconst (v := 1) E dX2_openDoor_81 (by decide) ?_
          refine s_iload E dX2_openDoor_82 rfl ?_
          refine z_shl1 7 (u := z_7.toInt) (B := 128) E dX2_openDoor_84 rfl (by omega) (by omega) (by decide) (by decide) (fun z_31 hz_31 => ?_)
          refine s_ior E dX2_openDoor_85 ?_
          refine z_nm (P := fun z => (-2147483648) ≤ z.toInt ∧ z.toInt ≤ 2147483647) (z32 _) (fun z_32 hz_32 => ?_)
          refine s_iast E rfl (jv_lt hj_19 (by decide)) (z_in (u := z_29.toInt) rfl (by omega) (by omega)) dX2_openDoor_86 ?_
          refine s_gen (P := fun v => Jv w v ∧ (v.2.2.1 2 1).toInt = (v44.2.2.1 2 1).toInt ∧ (v.2.2.1 75 5).toInt = (v44.2.2.1 75 5).toInt) ⟨(jv_a_76 hj_19 (by have hb_ := z32 z_32; omega) (by have hb_ := z32 z_32; omega)), rfl, rfl⟩ (fun v_33 hj_34 => ?_)
          obtain ⟨hj_34, hk_35k0, hk_35k1⟩ := hj_34
          refine s_aload_n E dX2_openDoor_87 rfl rfl ?_
          refine s_gR (r := 76) E fg_X2_9 rfl rfl (jv_lt hj_34 (by decide)) (jv_r hj_34 (by decide +kernel)) dX2_openDoor_88 ?_
          refine s_iload E dX2_openDoor_91 rfl ?_
          refine s_bipush (v := 8) E dX2_openDoor_93 (by decide) ?_
          refine z_imul (u := q44_6_18.toInt) (v := 8) E dX2_openDoor_95 rfl (by decide) (by omega) (by omega) (fun z_36 hz_36 => ?_)
          refine s_iload E dX2_openDoor_96 rfl ?_
          refine z_iadd (u := z_36.toInt) (v := z_7.toInt) E dX2_openDoor_98 rfl rfl (by omega) (by omega) (fun z_37 hz_37 => ?_)
          refine s_dup2 E dX2_openDoor_99 ?_
          refine s_iald E rfl (jv_lt hj_34 (by decide)) (z_in (u := z_37.toInt) rfl (by omega) (by omega)) dX2_openDoor_100 ?_
          refine z_nm (P := fun z => (-2147483648) ≤ z.toInt ∧ z.toInt ≤ 2147483647) (z32 _) (fun z_38 hz_38 => ?_)
          refine s_iconst (v := 1) E dX2_openDoor_101 (by decide) ?_
          refine s_iload E dX2_openDoor_102 rfl ?_
          refine z_shl1 7 (u := z_3.toInt) (B := 128) E dX2_openDoor_104 rfl (by omega) (by omega) (by decide) (by decide) (fun z_39 hz_39 => ?_)
          refine s_ior E dX2_openDoor_105 ?_
          refine z_nm (P := fun z => (-2147483648) ≤ z.toInt ∧ z.toInt ≤ 2147483647) (z32 _) (fun z_40 hz_40 => ?_)
          refine s_iast E rfl (jv_lt hj_34 (by decide)) (z_in (u := z_37.toInt) rfl (by omega) (by omega)) dX2_openDoor_106 ?_
          refine s_gen (P := fun v => Jv w v ∧ (v.2.2.1 2 1).toInt = (v_33.2.2.1 2 1).toInt ∧ (v.2.2.1 75 5).toInt = (v_33.2.2.1 75 5).toInt) ⟨(jv_a_76 hj_34 (by have hb_ := z32 z_40; omega) (by have hb_ := z32 z_40; omega)), rfl, rfl⟩ (fun v_41 hj_42 => ?_)
          obtain ⟨hj_42, hk_43k0, hk_43k1⟩ := hj_42
          refine z_iinc (u := q44_6_18.toInt) (L2 := fun z_44 => [some (AR 75), some (AR 2), some (AI x1), some (AI x2), some (AI z_3), some (AI z_7), some (AI z_44)]) E dX2_openDoor_107 rfl rfl (by decide) (fun _ => rfl) (by decide) (by omega) (by omega) (fun z_44 hz_44 => ?_)
          refine s_goto (tgt := 44) E dX2_openDoor_110 (by decide) ?_
          exact ih44 z_44 v_41 ⟨⟨by have hb_ := z32 z_44; omega, by have hb_ := z32 z_44; omega⟩, ⟨by omega, by omega⟩, hj_42⟩ (by first | omega | decide | (dsimp only; omega) | (dsimp only; decide))
    ·
      exact r_void E dX2_openDoor_40 hJ
