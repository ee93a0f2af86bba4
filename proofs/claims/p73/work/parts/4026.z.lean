set_option maxRecDepth 20000 in
set_option maxHeartbeats 2000000 in
theorem Z_X10_askOf_95 (l : Launch) (D : va_G) (aC : Nat → ClassId) (b : Nat) (w : XW) (x1 : Int32) (hI : Iv w)  : CnI l D aC b M_X10_askOf 1 22 0 0 [AR 95, AI x1] w (fun r u => ((-1) ≤ r.toInt ∧ r.toInt ≤ 64) ∧ Jv w u) := by
  refine cn_I (own := RX10) (nm := "askOf") (L0 := [some (AR 95), some (AI x1), none, none, none, none, none, none]) (by decide +kernel) rfl rfl (Nat.le_of_ble_eq_true rfl) rfl ?_
  intro p e s m args below meth c E hin
  have hJ : Jv w w := jv_rfl hI
  have hb_x1 := z32 x1
  refine s_aload_n E dX10_askOf_0 rfl rfl ?_
  refine s_iload_n E dX10_askOf_1 rfl rfl ?_
  refine s_sI (As := [AI x1]) (S := [AR 95]) E (Z_X10_bits l D aC b w x1 hJ.1 ) cs_X10_319 rfl rfl (Nat.le_of_ble_eq_true rfl) (Nat.le_of_ble_eq_true rfl) ⟨(Nat.le_of_ble_eq_true rfl), (Nat.le_of_ble_eq_true rfl)⟩ (Nat.le_of_ble_eq_true rfl) dX10_askOf_2 (fun z_3 u_1 hp_2 => ?_)
  obtain ⟨hz_3, hp_2⟩ := hp_2
  subst hp_2
  refine s_pI E fp_X10_384 (Or.inl rfl) rfl (jv_lt hJ (by decide)) dX10_askOf_5 ?_
  refine s_gen (P := Jv w) (jv_f_95_32 hJ (by have hb_ := z32 z_3; omega) (by have hb_ := z32 z_3; omega)) (fun v_5 hj_6 => ?_)
  refine s_iconst (v := (-1)) E dX10_askOf_8 (by decide) ?_
  refine s_istore_n (L2 := [some (AR 95), some (AI x1), some (AI (-1)), none, none, none, none, none]) E dX10_askOf_9 rfl (by decide) rfl ?_
  refine s_iconst (v := 0) E dX10_askOf_10 (by decide) ?_
  refine s_istore_n (L2 := [some (AR 95), some (AI x1), some (AI (-1)), some (AI 0), none, none, none, none]) E dX10_askOf_11 rfl (by decide) rfl ?_
  refine z_loop (St := Int32 × Int32) (Pi := fun ⟨q12_2_6, q12_3_6⟩ v12 => ((-1) ≤ q12_2_6.toInt ∧ q12_2_6.toInt ≤ 64) ∧ (0 ≤ q12_3_6.toInt ∧ q12_3_6.toInt ≤ 6) ∧ Jv w v12) (Lf := fun ⟨q12_2_6, q12_3_6⟩ => [some (AR 95), some (AI x1), some (AI q12_2_6), some (AI q12_3_6), none, none, none, none]) (fun ⟨q12_2_6, q12_3_6⟩ _ => (7 - q12_3_6.toInt).toNat) ⟨(-1), 0⟩ ⟨⟨by decide, by decide⟩, ⟨by decide, by decide⟩, hj_6⟩ ?_
  rintro ⟨q12_2_6, q12_3_6⟩ v12 ⟨hq12_2, hq12_3, hj_7⟩ ih12
  refine s_loc (L2 := [some (AR 95), some (AI x1), some (AI q12_2_6), some (AI q12_3_6), none, none, none, none]) rfl ?_
  refine s_iload_n E dX10_askOf_12 rfl rfl ?_
  refine s_aload_n E dX10_askOf_13 rfl rfl ?_
  refine s_vI (As := []) (S := [AI q12_3_6]) E (Z_X10_ladies_95 l D aC b v12  hj_7.1 ) cv_X10_244 rfl rfl rfl (jv_lt hj_7 (by decide)) (Nat.le_of_ble_eq_true rfl) (Nat.le_of_ble_eq_true rfl) ⟨(Nat.le_of_ble_eq_true rfl), (Nat.le_of_ble_eq_true rfl)⟩ (Nat.le_of_ble_eq_true rfl) dX10_askOf_14 (fun z_10 u_8 hp_9 => ?_)
  obtain ⟨hz_10, hxz_10, hp_9⟩ := hp_9
  subst hp_9
  refine z_icmp_ge (tgt := 134) (u := q12_3_6.toInt) (v := z_10.toInt) E dX10_askOf_17 (by decide) rfl rfl (fun h_12 => ?_) (fun h_12 => ?_)
  ·
    refine s_iload_n E dX10_askOf_134 rfl rfl ?_
    exact r_int E dX10_askOf_135 ⟨⟨by have hb_ := z32 q12_2_6; omega, by have hb_ := z32 q12_2_6; omega⟩, hj_7⟩
  ·
    refine s_iconst (v := 0) E dX10_askOf_20 (by decide) ?_
    refine s_istore (L2 := [some (AR 95), some (AI x1), some (AI q12_2_6), some (AI q12_3_6), some (AI 0), none, none, none]) E dX10_askOf_21 (by decide) rfl ?_
    refine s_iconst (v := (-1)) E dX10_askOf_23 (by decide) ?_
    refine s_istore (L2 := [some (AR 95), some (AI x1), some (AI q12_2_6), some (AI q12_3_6), some (AI 0), some (AI (-1)), none, none]) E dX10_askOf_24 (by decide) rfl ?_
    refine z_loop (St := Int32 × Int32) (Pi := fun ⟨q26_4_12, q26_5_12⟩ v26 => (0 ≤ q26_4_12.toInt ∧ q26_4_12.toInt ≤ 2147483647) ∧ ((-1) ≤ q26_5_12.toInt ∧ q26_5_12.toInt ≤ 15) ∧ v12 = v26) (Lf := fun ⟨q26_4_12, q26_5_12⟩ => [some (AR 95), some (AI x1), some (AI q12_2_6), some (AI q12_3_6), some (AI q26_4_12), some (AI q26_5_12), none, none]) (fun ⟨q26_4_12, q26_5_12⟩ _ => (16 - q26_5_12.toInt).toNat) ⟨0, (-1)⟩ ⟨⟨by decide, by decide⟩, ⟨by decide, by decide⟩, rfl⟩ ?_
    rintro ⟨q26_4_12, q26_5_12⟩ v26 ⟨hq26_4, hq26_5, hv_⟩ ih26
    subst hv_
    refine s_loc (L2 := [some (AR 95), some (AI x1), some (AI q12_2_6), some (AI q12_3_6), some (AI q26_4_12), some (AI q26_5_12), none, none]) rfl ?_
    refine s_iload E dX10_askOf_26 rfl ?_
    refine s_aload_n E dX10_askOf_28 rfl rfl ?_
    refine s_vI (As := []) (S := [AI q26_5_12]) E (Z_X10_dances_95 l D aC b v12  hj_7.1 ) cv_X10_247 rfl rfl rfl (jv_lt hj_7 (by decide)) (Nat.le_of_ble_eq_true rfl) (Nat.le_of_ble_eq_true rfl) ⟨(Nat.le_of_ble_eq_true rfl), (Nat.le_of_ble_eq_true rfl)⟩ (Nat.le_of_ble_eq_true rfl) dX10_askOf_29 (fun z_16 u_14 hp_15 => ?_)
    obtain ⟨hz_16, hxz_16, hp_15⟩ := hp_15
    subst hp_15
    refine z_icmp_gt (tgt := 108) (u := q26_5_12.toInt) (v := z_16.toInt) E dX10_askOf_32 (by decide) rfl rfl (fun h_18 => ?_) (fun h_18 => ?_)
    ·
      refine s_iload E dX10_askOf_108 rfl ?_
      refine s_aload_n E dX10_askOf_110 rfl rfl ?_
      refine s_gI E fg_X10_384 rfl rfl (jv_lt hj_7 (by decide)) dX10_askOf_111 ?_
      refine z_nm (P := fun z => z.toInt = (v12.2.2.1 95 32).toInt ∧ (-2147483648) ≤ z.toInt ∧ z.toInt ≤ 2147483647) ⟨rfl, z32 _⟩ (fun z_19 hz_19 => ?_)
      refine z_icmp_lt (tgt := 120) (u := q26_4_12.toInt) (v := z_19.toInt) E dX10_askOf_114 (by decide) rfl rfl (fun h_20 => ?_) (fun h_20 => ?_)
      ·
        refine s_aload_n E dX10_askOf_120 rfl rfl ?_
        refine s_iload E dX10_askOf_121 rfl ?_
        refine s_pI E fp_X10_384 (Or.inl rfl) rfl (jv_lt hj_7 (by decide)) dX10_askOf_123 ?_
        refine s_gen (P := Jv w) (jv_f_95_32 hj_7 (by have hb_ := z32 q26_4_12; omega) (by have hb_ := z32 q26_4_12; omega)) (fun v_21 hj_22 => ?_)
        refine s_iload_n E dX10_askOf_126 rfl rfl ?_
        refine s_istore_n (L2 := [some (AR 95), some (AI x1), some (AI q12_3_6), some (AI q12_3_6), some (AI q26_4_12), some (AI q26_5_12), none, none]) E dX10_askOf_127 rfl (by decide) rfl ?_
        refine z_iinc (u := q12_3_6.toInt) (L2 := fun z_23 => [some (AR 95), some (AI x1), some (AI q12_3_6), some (AI z_23), some (AI q26_4_12), some (AI q26_5_12), none, none]) E dX10_askOf_128 rfl rfl (by decide) (fun _ => rfl) (by decide) (by omega) (by omega) (fun z_23 hz_23 => ?_)
        refine s_goto (tgt := 12) E dX10_askOf_131 (by decide) ?_
        refine s_drop (i := 4) (L2 := [some (AR 95), some (AI x1), some (AI q12_3_6), some (AI z_23), none, some (AI q26_5_12), none, none]) rfl ?_
        refine s_drop (i := 5) (L2 := [some (AR 95), some (AI x1), some (AI q12_3_6), some (AI z_23), none, none, none, none]) rfl ?_
        exact ih12 ⟨q12_3_6, z_23⟩ v_21 ⟨⟨by have hb_ := z32 q12_3_6; omega, by have hb_ := z32 q12_3_6; omega⟩, ⟨by have hb_ := z32 z_23; omega, by have hb_ := z32 z_23; omega⟩, hj_22⟩ (by first | omega | decide | (dsimp only; omega) | (dsimp only; decide))
      ·
        refine s_goto (tgt := 128) E dX10_askOf_117 (by decide) ?_
        refine z_iinc (u := q12_3_6.toInt) (L2 := fun z_24 => [some (AR 95), some (AI x1), some (AI q12_2_6), some (AI z_24), some (AI q26_4_12), some (AI q26_5_12), none, none]) E dX10_askOf_128 rfl rfl (by decide) (fun _ => rfl) (by decide) (by omega) (by omega) (fun z_24 hz_24 => ?_)
        refine s_goto (tgt := 12) E dX10_askOf_131 (by decide) ?_
        refine s_drop (i := 4) (L2 := [some (AR 95), some (AI x1), some (AI q12_2_6), some (AI z_24), none, some (AI q26_5_12), none, none]) rfl ?_
        refine s_drop (i := 5) (L2 := [some (AR 95), some (AI x1), some (AI q12_2_6), some (AI z_24), none, none, none, none]) rfl ?_
        exact ih12 ⟨q12_2_6, z_24⟩ v12 ⟨⟨by have hb_ := z32 q12_2_6; omega, by have hb_ := z32 q12_2_6; omega⟩, ⟨by have hb_ := z32 z_24; omega, by have hb_ := z32 z_24; omega⟩, hj_7⟩ (by first | omega | decide | (dsimp only; omega) | (dsimp only; decide))
    ·
      refine s_iconst (v := 0) E dX10_askOf_35 (by decide) ?_
      refine s_istore (L2 := [some (AR 95), some (AI x1), some (AI q12_2_6), some (AI q12_3_6), some (AI q26_4_12), some (AI q26_5_12), some (AI 0), none]) E dX10_askOf_36 (by decide) rfl ?_
      refine s_iconst (v := 0) E dX10_askOf_38 (by decide) ?_
      refine s_istore (L2 := [some (AR 95), some (AI x1), some (AI q12_2_6), some (AI q12_3_6), some (AI q26_4_12), some (AI q26_5_12), some (AI 0), some (AI 0)]) E dX10_askOf_39 (by decide) rfl ?_
      refine z_loop (St := Int32 × Int32) (Pi := fun ⟨q41_6_24, q41_7_24⟩ v41 => (0 ≤ q41_7_24.toInt ∧ q41_7_24.toInt ≤ 6) ∧ v12 = v41) (Lf := fun ⟨q41_6_24, q41_7_24⟩ => [some (AR 95), some (AI x1), some (AI q12_2_6), some (AI q12_3_6), some (AI q26_4_12), some (AI q26_5_12), some (AI q41_6_24), some (AI q41_7_24)]) (fun ⟨q41_6_24, q41_7_24⟩ _ => (7 - q41_7_24.toInt).toNat) ⟨0, 0⟩ ⟨⟨by decide, by decide⟩, rfl⟩ ?_
      rintro ⟨q41_6_24, q41_7_24⟩ v41 ⟨hq41_7, hv_⟩ ih41
      subst hv_
      have hbq41_6 := z32 q41_6_24
      refine s_loc (L2 := [some (AR 95), some (AI x1), some (AI q12_2_6), some (AI q12_3_6), some (AI q26_4_12), some (AI q26_5_12), some (AI q41_6_24), some (AI q41_7_24)]) rfl ?_
      refine s_iload E dX10_askOf_41 rfl ?_
      refine s_aload_n E dX10_askOf_43 rfl rfl ?_
      refine s_vI (As := []) (S := [AI q41_7_24]) E (Z_X10_ladies_95 l D aC b v12  hj_7.1 ) cv_X10_244 rfl rfl rfl (jv_lt hj_7 (by decide)) (Nat.le_of_ble_eq_true rfl) (Nat.le_of_ble_eq_true rfl) ⟨(Nat.le_of_ble_eq_true rfl), (Nat.le_of_ble_eq_true rfl)⟩ (Nat.le_of_ble_eq_true rfl) dX10_askOf_44 (fun z_28 u_26 hp_27 => ?_)
      obtain ⟨hz_28, hxz_28, hp_27⟩ := hp_27
      subst hp_27
      refine z_icmp_ge (tgt := 93) (u := q41_7_24.toInt) (v := z_28.toInt) E dX10_askOf_47 (by decide) rfl rfl (fun h_30 => ?_) (fun h_30 => ?_)
      ·
        refine s_iload E dX10_askOf_93 rfl ?_
        refine s_iload E dX10_askOf_95 rfl ?_
        refine z_max (u := q26_4_12.toInt) (v := q41_6_24.toInt) E ⟨k_1728, k_41, k_4, k_42⟩ (Nat.le_of_ble_eq_true rfl) (Nat.le_of_ble_eq_true rfl) (Nat.le_of_ble_eq_true rfl) (Nat.le_of_ble_eq_true rfl) dX10_askOf_97 rfl rfl (fun z_31 hz_31 => ?_)
        refine s_istore (L2 := [some (AR 95), some (AI x1), some (AI q12_2_6), some (AI q12_3_6), some (AI z_31), some (AI q26_5_12), some (AI q41_6_24), some (AI q41_7_24)]) E dX10_askOf_100 (by decide) rfl ?_
        refine z_iinc (u := q26_5_12.toInt) (L2 := fun z_32 => [some (AR 95), some (AI x1), some (AI q12_2_6), some (AI q12_3_6), some (AI z_31), some (AI z_32), some (AI q41_6_24), some (AI q41_7_24)]) E dX10_askOf_102 rfl rfl (by decide) (fun _ => rfl) (by decide) (by omega) (by omega) (fun z_32 hz_32 => ?_)
        refine s_goto (tgt := 26) E dX10_askOf_105 (by decide) ?_
        refine s_drop (i := 6) (L2 := [some (AR 95), some (AI x1), some (AI q12_2_6), some (AI q12_3_6), some (AI z_31), some (AI z_32), none, some (AI q41_7_24)]) rfl ?_
        refine s_drop (i := 7) (L2 := [some (AR 95), some (AI x1), some (AI q12_2_6), some (AI q12_3_6), some (AI z_31), some (AI z_32), none, none]) rfl ?_
        exact ih26 ⟨z_31, z_32⟩ v12 ⟨⟨by have hb_ := z32 z_31; omega, by have hb_ := z32 z_31; omega⟩, ⟨by have hb_ := z32 z_32; omega, by have hb_ := z32 z_32; omega⟩, rfl⟩ (by first | omega | decide | (dsimp only; omega) | (dsimp only; decide))
      ·
        refine s_iload E dX10_askOf_50 rfl ?_
        refine s_iload_n E dX10_askOf_52 rfl rfl ?_
        refine s_iload E dX10_askOf_53 rfl ?_
        refine s_sI (As := [AI x1, AI q41_7_24]) (S := [AI q41_6_24]) E (Z_X10_bit l D aC b v12 x1 q41_7_24 hj_7.1 ) cs_X10_252 rfl rfl (Nat.le_of_ble_eq_true rfl) (Nat.le_of_ble_eq_true rfl) ⟨(Nat.le_of_ble_eq_true rfl), (Nat.le_of_ble_eq_true rfl)⟩ (Nat.le_of_ble_eq_true rfl) dX10_askOf_55 (fun z_35 u_33 hp_34 => ?_)
        obtain ⟨hz_35, hxz_35, hp_34⟩ := hp_34
        subst hp_34
        refine s_iconst (v := 1) E dX10_askOf_58 (by decide) ?_
        refine z_icmp_ne (tgt := 83) (u := z_35.toInt) (v := 1) E dX10_askOf_59 (by decide) rfl (by decide) (fun h_37 => ?_) (fun h_37 => ?_)
        ·
          refine s_iconst (v := 0) E dX10_askOf_83 (by decide) ?_
          refine z_iadd (u := q41_6_24.toInt) (v := 0) E dX10_askOf_84 rfl (by decide) (by omega) (by omega) (fun z_38 hz_38 => ?_)
          refine s_istore (L2 := [some (AR 95), some (AI x1), some (AI q12_2_6), some (AI q12_3_6), some (AI q26_4_12), some (AI q26_5_12), some (AI z_38), some (AI q41_7_24)]) E dX10_askOf_85 (by decide) rfl ?_
          refine z_iinc (u := q41_7_24.toInt) (L2 := fun z_39 => [some (AR 95), some (AI x1), some (AI q12_2_6), some (AI q12_3_6), some (AI q26_4_12), some (AI q26_5_12), some (AI z_38), some (AI z_39)]) E dX10_askOf_87 rfl rfl (by decide) (fun _ => rfl) (by decide) (by omega) (by omega) (fun z_39 hz_39 => ?_)
          refine s_goto (tgt := 41) E dX10_askOf_90 (by decide) ?_
          exact ih41 ⟨z_38, z_39⟩ v12 ⟨⟨by have hb_ := z32 z_39; omega, by have hb_ := z32 z_39; omega⟩, rfl⟩ (by first | omega | decide | (dsimp only; omega) | (dsimp only; decide))
        ·
          refine s_aload_n E dX10_askOf_62 rfl rfl ?_
          refine s_gR (r := 111) E fg_X10_61 rfl rfl (jv_lt hj_7 (by decide)) (jv_r hj_7 (by decide +kernel)) dX10_askOf_63 ?_
          refine s_bipush (v := 6) E dX10_askOf_66 (by decide) ?_
          refine s_iload E dX10_askOf_68 rfl ?_
          refine z_imul (u := 6) (v := q41_7_24.toInt) E dX10_askOf_70 (by decide) rfl (by omega) (by omega) (fun z_40 hz_40 => ?_)
          refine s_iload_n E dX10_askOf_71 rfl rfl ?_
          refine z_iadd (u := z_40.toInt) (v := q12_3_6.toInt) E dX10_askOf_72 rfl rfl (by omega) (by omega) (fun z_41 hz_41 => ?_)
          refine s_iald E rfl (jv_lt hj_7 (by decide)) (z_in (u := z_41.toInt) rfl (by omega) (by omega)) dX10_askOf_73 ?_
          refine z_nm (P := fun z => z.toInt = (v12.2.2.1 111 z_41.toNatClampNeg).toInt ∧ (-1) ≤ z.toInt ∧ z.toInt ≤ 14) ⟨rfl, (ra_111 hj_7 _)⟩ (fun z_42 hz_42 => ?_)
          refine s_iload E dX10_askOf_74 rfl ?_
          refine z_icmp_ne (tgt := 83) (u := z_42.toInt) (v := q26_5_12.toInt) E dX10_askOf_76 (by decide) rfl rfl (fun h_43 => ?_) (fun h_43 => ?_)
          ·
            refine s_iconst (v := 0) E dX10_askOf_83 (by decide) ?_
            refine z_iadd (u := q41_6_24.toInt) (v := 0) E dX10_askOf_84 rfl (by decide) (by omega) (by omega) (fun z_44 hz_44 => ?_)
            refine s_istore (L2 := [some (AR 95), some (AI x1), some (AI q12_2_6), some (AI q12_3_6), some (AI q26_4_12), some (AI q26_5_12), some (AI z_44), some (AI q41_7_24)]) E dX10_askOf_85 (by decide) rfl ?_
            refine z_iinc (u := q41_7_24.toInt) (L2 := fun z_45 => [some (AR 95), some (AI x1), some (AI q12_2_6), some (AI q12_3_6), some (AI q26_4_12), some (AI q26_5_12), some (AI z_44), some (AI z_45)]) E dX10_askOf_87 rfl rfl (by decide) (fun _ => rfl) (by decide) (by omega) (by omega) (fun z_45 hz_45 => ?_)
            refine s_goto (tgt := 41) E dX10_askOf_90 (by decide) ?_
            exact ih41 ⟨z_44, z_45⟩ v12 ⟨⟨by have hb_ := z32 z_45; omega, by have hb_ := z32 z_45; omega⟩, rfl⟩ (by first | omega | decide | (dsimp only; omega) | (dsimp only; decide))
          ·
            refine s_iconst (v := 1) E dX10_askOf_79 (by decide) ?_
            refine s_goto (tgt := 84) E dX10_askOf_80 (by decide) ?_
            refine s_iadd E dX10_askOf_84 ?_
            refine z_nm (P := fun z => (-2147483648) ≤ z.toInt ∧ z.toInt ≤ 2147483647) (z32 _) (fun z_46 hz_46 => ?_)
            refine s_istore (L2 := [some (AR 95), some (AI x1), some (AI q12_2_6), some (AI q12_3_6), some (AI q26_4_12), some (AI q26_5_12), some (AI z_46), some (AI q41_7_24)]) E dX10_askOf_85 (by decide) rfl ?_
            refine z_iinc (u := q41_7_24.toInt) (L2 := fun z_47 => [some (AR 95), some (AI x1), some (AI q12_2_6), some (AI q12_3_6), some (AI q26_4_12), some (AI q26_5_12), some (AI z_46), some (AI z_47)]) E dX10_askOf_87 rfl rfl (by decide) (fun _ => rfl) (by decide) (by omega) (by omega) (fun z_47 hz_47 => ?_)
            refine s_goto (tgt := 41) E dX10_askOf_90 (by decide) ?_
            exact ih41 ⟨z_46, z_47⟩ v12 ⟨⟨by have hb_ := z32 z_47; omega, by have hb_ := z32 z_47; omega⟩, rfl⟩ (by first | omega | decide | (dsimp only; omega) | (dsimp only; decide))
set_option maxRecDepth 20000 in
set_option maxHeartbeats 2000000 in
theorem Z_X10_ask_95 (l : Launch) (D : va_G) (aC : Nat → ClassId) (b : Nat) (w : XW) (x1 : Int32) (hI : Iv w)  : CnI l D aC b M_X10_ask 6 142 0 0 [AR 95, AI x1] w (fun r u => ((-2147483648) ≤ r.toInt ∧ r.toInt ≤ 64) ∧ Jv w u) := by
  refine cn_I (own := RX10) (nm := "ask") (L0 := [some (AR 95), some (AI x1), none]) (by decide +kernel) rfl rfl (Nat.le_of_ble_eq_true rfl) rfl ?_
  intro p e s m args below meth c E hin
  have hJ : Jv w w := jv_rfl hI
  have hb_x1 := z32 x1
  refine s_aload_n E dX10_ask_0 rfl rfl ?_
  refine s_iload_n E dX10_ask_1 rfl rfl ?_
  refine s_vI (As := [AI x1]) (S := []) E (Z_X10_layFirsts_95 l D aC b w x1 hJ.1 ) cv_X10_381 rfl rfl rfl (jv_lt hJ (by decide)) (Nat.le_of_ble_eq_true rfl) (Nat.le_of_ble_eq_true rfl) ⟨(Nat.le_of_ble_eq_true rfl), (Nat.le_of_ble_eq_true rfl)⟩ (Nat.le_of_ble_eq_true rfl) dX10_ask_2 (fun z_3 u_1 hp_2 => ?_)
  obtain ⟨hz_3, hp_2⟩ := hp_2
  have hj_4 := jv_trans hJ hp_2
  refine s_istore_n (L2 := [some (AR 95), some (AI x1), some (AI z_3)]) E dX10_ask_5 rfl (by decide) rfl ?_
  refine s_iload_n E dX10_ask_6 rfl rfl ?_
  refine z_if_ge (tgt := 14) (u := z_3.toInt) E dX10_ask_7 (by decide) rfl (fun h_5 => ?_) (fun h_5 => ?_)
  ·
    refine s_aload_n E dX10_ask_14 rfl rfl ?_
    refine s_iload_n E dX10_ask_15 rfl rfl ?_
    refine s_vI (As := [AI z_3]) (S := []) E (Z_X10_askOf_95 l D aC b u_1 z_3 hj_4.1 ) cv_X10_387 rfl rfl rfl (jv_lt hj_4 (by decide)) (Nat.le_of_ble_eq_true rfl) (Nat.le_of_ble_eq_true rfl) ⟨(Nat.le_of_ble_eq_true rfl), (Nat.le_of_ble_eq_true rfl)⟩ (Nat.le_of_ble_eq_true rfl) dX10_ask_16 (fun z_8 u_6 hp_7 => ?_)
    obtain ⟨hz_8, hp_7⟩ := hp_7
    have hj_9 := jv_trans hj_4 hp_7
    exact r_int E dX10_ask_19 ⟨⟨by have hb_ := z32 z_8; omega, by have hb_ := z32 z_8; omega⟩, hj_9⟩
  ·
    refine s_iload_n E dX10_ask_10 rfl rfl ?_
    refine s_goto (tgt := 19) E dX10_ask_11 (by decide) ?_
    exact r_int E dX10_ask_19 ⟨⟨by have hb_ := z32 z_3; omega, by have hb_ := z32 z_3; omega⟩, hj_4⟩
set_option maxRecDepth 20000 in
set_option maxHeartbeats 2000000 in
theorem Z_X10_leaves_95 (l : Launch) (D : va_G) (aC : Nat → ClassId) (b : Nat) (w : XW) (x1 : Int32) (hI : Iv w)  : CnI l D aC b M_X10_leaves 6 142 0 0 [AR 95, AI x1] w (fun r u => ((-2147483648) ≤ r.toInt ∧ r.toInt ≤ 2147483647) ∧ Jv w u) := by
  refine cn_I (own := RX10) (nm := "leaves") (L0 := [some (AR 95), some (AI x1), none]) (by decide +kernel) rfl rfl (Nat.le_of_ble_eq_true rfl) rfl ?_
  intro p e s m args below meth c E hin
  have hJ : Jv w w := jv_rfl hI
  have hb_x1 := z32 x1
  refine s_aload_n E dX10_leaves_0 rfl rfl ?_
  refine s_iload_n E dX10_leaves_1 rfl rfl ?_
  refine s_vI (As := [AI x1]) (S := []) E (Z_X10_layFirsts_95 l D aC b w x1 hJ.1 ) cv_X10_381 rfl rfl rfl (jv_lt hJ (by decide)) (Nat.le_of_ble_eq_true rfl) (Nat.le_of_ble_eq_true rfl) ⟨(Nat.le_of_ble_eq_true rfl), (Nat.le_of_ble_eq_true rfl)⟩ (Nat.le_of_ble_eq_true rfl) dX10_leaves_2 (fun z_3 u_1 hp_2 => ?_)
  obtain ⟨hz_3, hp_2⟩ := hp_2
  have hj_4 := jv_trans hJ hp_2
  refine s_istore_n (L2 := [some (AR 95), some (AI x1), some (AI z_3)]) E dX10_leaves_5 rfl (by decide) rfl ?_
  refine s_iload_n E dX10_leaves_6 rfl rfl ?_
  refine z_if_ge (tgt := 12) (u := z_3.toInt) E dX10_leaves_7 (by decide) rfl (fun h_5 => ?_) (fun h_5 => ?_)
  ·
    refine s_aload_n E dX10_leaves_12 rfl rfl ?_
    refine s_iload_n E dX10_leaves_13 rfl rfl ?_
    refine s_vI (As := [AI z_3]) (S := []) E (Z_X10_askOf_95 l D aC b u_1 z_3 hj_4.1 ) cv_X10_387 rfl rfl rfl (jv_lt hj_4 (by decide)) (Nat.le_of_ble_eq_true rfl) (Nat.le_of_ble_eq_true rfl) ⟨(Nat.le_of_ble_eq_true rfl), (Nat.le_of_ble_eq_true rfl)⟩ (Nat.le_of_ble_eq_true rfl) dX10_leaves_14 (fun z_8 u_6 hp_7 => ?_)
    obtain ⟨hz_8, hp_7⟩ := hp_7
    have hj_9 := jv_trans hj_4 hp_7
    refine s_popI E dX10_leaves_17 ?_
    refine s_aload_n E dX10_leaves_18 rfl rfl ?_
    refine s_gI E fg_X10_384 rfl rfl (jv_lt hj_9 (by decide)) dX10_leaves_19 ?_
    refine z_nm (P := fun z => z.toInt = (u_6.2.2.1 95 32).toInt ∧ (-2147483648) ≤ z.toInt ∧ z.toInt ≤ 2147483647) ⟨rfl, z32 _⟩ (fun z_10 hz_10 => ?_)
    exact r_int E dX10_leaves_22 ⟨⟨by have hb_ := z32 z_10; omega, by have hb_ := z32 z_10; omega⟩, hj_9⟩
  ·
    refine s_iload_n E dX10_leaves_10 rfl rfl ?_
    exact r_int E dX10_leaves_11 ⟨⟨by have hb_ := z32 z_3; omega, by have hb_ := z32 z_3; omega⟩, hj_4⟩
set_option maxRecDepth 20000 in
set_option maxHeartbeats 2000000 in
theorem Z_X10_seats_95 (l : Launch) (D : va_G) (aC : Nat → ClassId) (b : Nat) (w : XW) (x1 : Int32) (hI : Iv w)  : CnI l D aC b M_X10_seats 5 113 0 0 [AR 95, AI x1] w (fun r u => ((-2147483648) ≤ r.toInt ∧ r.toInt ≤ 2147483647 ∧ (¬ r.toInt = 0 ∨ (0 ≤ x1.toInt ∧ x1.toInt ≤ 5))) ∧ Jv w u) := by
  refine cn_I (own := RX10) (nm := "seats") (L0 := [some (AR 95), some (AI x1)]) (by decide +kernel) rfl rfl (Nat.le_of_ble_eq_true rfl) rfl ?_
  intro p e s m args below meth c E hin
  have hJ : Jv w w := jv_rfl hI
  have hb_x1 := z32 x1
  refine s_aload_n E dX10_seats_0 rfl rfl ?_
  refine s_iload_n E dX10_seats_1 rfl rfl ?_
  refine s_vI (As := [AI x1]) (S := []) E (Z_X10_asksLady_95 l D aC b w x1 hJ.1 ) cv_X10_288 rfl rfl rfl (jv_lt hJ (by decide)) (Nat.le_of_ble_eq_true rfl) (Nat.le_of_ble_eq_true rfl) ⟨(Nat.le_of_ble_eq_true rfl), (Nat.le_of_ble_eq_true rfl)⟩ (Nat.le_of_ble_eq_true rfl) dX10_seats_2 (fun z_3 u_1 hp_2 => ?_)
  obtain ⟨hz_3, hxz_3, hp_2⟩ := hp_2
  have hj_4 := jv_trans hJ hp_2
  refine z_if_eq (tgt := 17) (u := z_3.toInt) E dX10_seats_5 (by decide) rfl (fun h_5 => ?_) (fun h_5 => ?_)
  ·
    refine s_bipush (v := (-2)) E dX10_seats_17 (by decide) ?_
    exact r_int E dX10_seats_19 ⟨⟨by decide, by decide, by first | (left; decide) | (right; decide) | (right; have hb_ := z32 x1; omega)⟩, hj_4⟩
  ·
    refine s_aload_n E dX10_seats_8 rfl rfl ?_
    refine s_gR (r := 105) E fg_X10_43 rfl rfl (jv_lt hj_4 (by decide)) (jv_r hj_4 (by decide +kernel)) dX10_seats_9 ?_
    refine s_iload_n E dX10_seats_12 rfl rfl ?_
    refine s_iald E rfl (jv_lt hj_4 (by decide)) (z_in (u := x1.toInt) rfl (by omega) (by omega)) dX10_seats_13 ?_
    refine z_nm (P := fun z => (-2147483648) ≤ z.toInt ∧ z.toInt ≤ 2147483647) (z32 _) (fun z_6 hz_6 => ?_)
    refine s_goto (tgt := 19) E dX10_seats_14 (by decide) ?_
    exact r_int E dX10_seats_19 ⟨⟨by have hb_ := z32 z_6; omega, by have hb_ := z32 z_6; omega, by first | (right; decide) | (have hb_ := z32 z_6; omega) | (have hb_ := z32 z_6; have hc_ := z32 x1; omega)⟩, hj_4⟩
set_option maxRecDepth 20000 in
set_option maxHeartbeats 2000000 in
theorem Z_X10_under_95 (l : Launch) (D : va_G) (aC : Nat → ClassId) (b : Nat) (w : XW) (x1 : Int32) (hI : Iv w)  : CnI l D aC b M_X10_under 5 113 0 0 [AR 95, AI x1] w (fun r u => ((-2147483648) ≤ r.toInt ∧ r.toInt ≤ 2147483647 ∧ (¬ r.toInt = 0 ∨ (0 ≤ x1.toInt ∧ x1.toInt ≤ 5))) ∧ Jv w u) := by
  refine cn_I (own := RX10) (nm := "under") (L0 := [some (AR 95), some (AI x1), none, none]) (by decide +kernel) rfl rfl (Nat.le_of_ble_eq_true rfl) rfl ?_
  intro p e s m args below meth c E hin
  have hJ : Jv w w := jv_rfl hI
  have hb_x1 := z32 x1
  refine s_aload_n E dX10_under_0 rfl rfl ?_
  refine s_iload_n E dX10_under_1 rfl rfl ?_
  refine s_vI (As := [AI x1]) (S := []) E (Z_X10_asksLady_95 l D aC b w x1 hJ.1 ) cv_X10_288 rfl rfl rfl (jv_lt hJ (by decide)) (Nat.le_of_ble_eq_true rfl) (Nat.le_of_ble_eq_true rfl) ⟨(Nat.le_of_ble_eq_true rfl), (Nat.le_of_ble_eq_true rfl)⟩ (Nat.le_of_ble_eq_true rfl) dX10_under_2 (fun z_3 u_1 hp_2 => ?_)
  obtain ⟨hz_3, hxz_3, hp_2⟩ := hp_2
  have hj_4 := jv_trans hJ hp_2
  refine z_if_ne (tgt := 11) (u := z_3.toInt) E dX10_under_5 (by decide) rfl (fun h_5 => ?_) (fun h_5 => ?_)
  ·
    refine s_iconst (v := 0) E dX10_under_11 (by decide) ?_
    refine s_istore_n (L2 := [some (AR 95), some (AI x1), some (AI 0), none]) E dX10_under_12 rfl (by decide) rfl ?_
    refine s_iconst (v := 0) E dX10_under_13 (by decide) ?_
    refine s_istore_n (L2 := [some (AR 95), some (AI x1), some (AI 0), some (AI 0)]) E dX10_under_14 rfl (by decide) rfl ?_
    refine z_loop (St := Int32 × Int32) (Pi := fun ⟨q15_2_5, q15_3_5⟩ v15 => (0 ≤ q15_3_5.toInt ∧ q15_3_5.toInt ≤ 8) ∧ u_1 = v15) (Lf := fun ⟨q15_2_5, q15_3_5⟩ => [some (AR 95), some (AI x1), some (AI q15_2_5), some (AI q15_3_5)]) (fun ⟨q15_2_5, q15_3_5⟩ _ => (9 - q15_3_5.toInt).toNat) ⟨0, 0⟩ ⟨⟨by decide, by decide⟩, rfl⟩ ?_
    rintro ⟨q15_2_5, q15_3_5⟩ v15 ⟨hq15_3, hv_⟩ ih15
    subst hv_
    have hbq15_2 := z32 q15_2_5
    refine s_loc (L2 := [some (AR 95), some (AI x1), some (AI q15_2_5), some (AI q15_3_5)]) rfl ?_
    refine s_iload_n E dX10_under_15 rfl rfl ?_
    refine s_aload_n E dX10_under_16 rfl rfl ?_
    refine s_gR (r := 96) E fg_X10_9 rfl rfl (jv_lt hj_4 (by decide)) (jv_r hj_4 (by decide +kernel)) dX10_under_17 ?_
    refine s_bipush (v := 6) E dX10_under_20 (by decide) ?_
    refine s_iald E rfl (jv_lt hj_4 (by decide)) (z_in (u := 6) (by decide) (by omega) (by omega)) dX10_under_22 ?_
    refine z_nm (P := fun z => z.toInt = (u_1.2.2.1 96 6).toInt ∧ 0 ≤ z.toInt ∧ z.toInt ≤ 8) ⟨rfl, (rw_96_6 hj_4)⟩ (fun z_7 hz_7 => ?_)
    refine z_icmp_ge (tgt := 52) (u := q15_3_5.toInt) (v := z_7.toInt) E dX10_under_23 (by decide) rfl rfl (fun h_8 => ?_) (fun h_8 => ?_)
    ·
      refine s_iload_n E dX10_under_52 rfl rfl ?_
      exact r_int E dX10_under_53 ⟨⟨by have hb_ := z32 q15_2_5; omega, by have hb_ := z32 q15_2_5; omega, by first | (right; decide) | (have hb_ := z32 q15_2_5; omega) | (have hb_ := z32 q15_2_5; have hc_ := z32 x1; omega)⟩, hj_4⟩
    ·
      refine s_iload_n E dX10_under_26 rfl rfl ?_
      refine s_aload_n E dX10_under_27 rfl rfl ?_
      refine s_gR (r := 104) E fg_X10_40 rfl rfl (jv_lt hj_4 (by decide)) (jv_r hj_4 (by decide +kernel)) dX10_under_28 ?_
      refine s_iload_n E dX10_under_31 rfl rfl ?_
      refine s_iald E rfl (jv_lt hj_4 (by decide)) (z_in (u := q15_3_5.toInt) rfl (by omega) (by omega)) dX10_under_32 ?_
      refine z_nm (P := fun z => z.toInt = (u_1.2.2.1 104 q15_3_5.toNatClampNeg).toInt ∧ 0 ≤ z.toInt ∧ z.toInt ≤ 5) ⟨rfl, (ra_104 hj_4 _)⟩ (fun z_9 hz_9 => ?_)
      refine s_iload_n E dX10_under_33 rfl rfl ?_
      refine z_icmp_ne (tgt := 43) (u := z_9.toInt) (v := x1.toInt) E dX10_under_34 (by decide) rfl rfl (fun h_10 => ?_) (fun h_10 => ?_)
      ·
        refine s_iconst (v := 0) E dX10_under_43 (by decide) ?_
        refine s_ior E dX10_under_44 ?_
        refine z_nm (P := fun z => (-2147483648) ≤ z.toInt ∧ z.toInt ≤ 2147483647) (z32 _) (fun z_11 hz_11 => ?_)
        refine s_istore_n (L2 := [some (AR 95), some (AI x1), some (AI z_11), some (AI q15_3_5)]) E dX10_under_45 rfl (by decide) rfl ?_
        refine z_iinc (u := q15_3_5.toInt) (L2 := fun z_12 => [some (AR 95), some (AI x1), some (AI z_11), some (AI z_12)]) E dX10_under_46 rfl rfl (by decide) (fun _ => rfl) (by decide) (by omega) (by omega) (fun z_12 hz_12 => ?_)
        refine s_goto (tgt := 15) E dX10_under_49 (by decide) ?_
        exact ih15 ⟨z_11, z_12⟩ u_1 ⟨⟨by have hb_ := z32 z_12; omega, by have hb_ := z32 z_12; omega⟩, rfl⟩ (by first | omega | decide | (dsimp only; omega) | (dsimp only; decide))
      ·
        refine s_iconst (v := 1) E dX10_under_37 (by decide) ?_
        refine s_iload_n E dX10_under_38 rfl rfl ?_
        refine z_shl1 7 (u := q15_3_5.toInt) (B := 128) E dX10_under_39 rfl (by omega) (by omega) (by decide) (by decide) (fun z_13 hz_13 => ?_)
        refine s_goto (tgt := 44) E dX10_under_40 (by decide) ?_
        refine s_ior E dX10_under_44 ?_
        refine z_nm (P := fun z => (-2147483648) ≤ z.toInt ∧ z.toInt ≤ 2147483647) (z32 _) (fun z_14 hz_14 => ?_)
        refine s_istore_n (L2 := [some (AR 95), some (AI x1), some (AI z_14), some (AI q15_3_5)]) E dX10_under_45 rfl (by decide) rfl ?_
        refine z_iinc (u := q15_3_5.toInt) (L2 := fun z_15 => [some (AR 95), some (AI x1), some (AI z_14), some (AI z_15)]) E dX10_under_46 rfl rfl (by decide) (fun _ => rfl) (by decide) (by omega) (by omega) (fun z_15 hz_15 => ?_)
        refine s_goto (tgt := 15) E dX10_under_49 (by decide) ?_
        exact ih15 ⟨z_14, z_15⟩ u_1 ⟨⟨by have hb_ := z32 z_15; omega, by have hb_ := z32 z_15; omega⟩, rfl⟩ (by first | omega | decide | (dsimp only; omega) | (dsimp only; decide))
  ·
    refine s_bipush (v := (-2)) E dX10_under_8 (by decide) ?_
    exact r_int E dX10_under_10 ⟨⟨by decide, by decide, by first | (left; decide) | (right; decide) | (right; have hb_ := z32 x1; omega)⟩, hj_4⟩
set_option maxRecDepth 20000 in
set_option maxHeartbeats 2000000 in
theorem Z_X10_holds_95 (l : Launch) (D : va_G) (aC : Nat → ClassId) (b : Nat) (w : XW) (x1 : Int32) (hI : Iv w)  : CnI l D aC b M_X10_holds 4 92 0 0 [AR 95, AI x1] w (fun r u => ((-2) ≤ r.toInt ∧ r.toInt ≤ 1 ∧ (¬ r.toInt = 0 ∨ (0 ≤ x1.toInt ∧ x1.toInt ≤ 63))) ∧ Jv w u) := by
  refine cn_I (own := RX10) (nm := "holds") (L0 := [some (AR 95), some (AI x1)]) (by decide +kernel) rfl rfl (Nat.le_of_ble_eq_true rfl) rfl ?_
  intro p e s m args below meth c E hin
  have hJ : Jv w w := jv_rfl hI
  have hb_x1 := z32 x1
  refine s_aload_n E dX10_holds_0 rfl rfl ?_
  refine s_vV (As := []) (S := []) E (Z_X10_asItIs_95 l D aC b w  hJ.1 ) cv_X10_279 rfl rfl rfl (jv_lt hJ (by decide)) (Nat.le_of_ble_eq_true rfl) (Nat.le_of_ble_eq_true rfl) ⟨(Nat.le_of_ble_eq_true rfl), (Nat.le_of_ble_eq_true rfl)⟩ (Nat.le_of_ble_eq_true rfl) dX10_holds_1 (fun u_1 hp_2 => ?_)
  have hj_3 := jv_trans hJ hp_2
  refine s_aload_n E dX10_holds_4 rfl rfl ?_
  refine s_iload_n E dX10_holds_5 rfl rfl ?_
  refine s_vI (As := [AI x1]) (S := []) E (Z_X10_isSet_95 l D aC b u_1 x1 hj_3.1 ) cv_X10_399 rfl rfl rfl (jv_lt hj_3 (by decide)) (Nat.le_of_ble_eq_true rfl) (Nat.le_of_ble_eq_true rfl) ⟨(Nat.le_of_ble_eq_true rfl), (Nat.le_of_ble_eq_true rfl)⟩ (Nat.le_of_ble_eq_true rfl) dX10_holds_6 (fun z_6 u_4 hp_5 => ?_)
  obtain ⟨hz_6, hp_5⟩ := hp_5
  subst hp_5
  refine z_if_eq (tgt := 28) (u := z_6.toInt) E dX10_holds_9 (by decide) rfl (fun h_8 => ?_) (fun h_8 => ?_)
  ·
    refine s_bipush (v := (-2)) E dX10_holds_28 (by decide) ?_
    exact r_int E dX10_holds_30 ⟨⟨by decide, by decide, by first | (left; decide) | (right; decide) | (right; have hb_ := z32 x1; omega)⟩, hj_3⟩
  ·
    refine s_aload_n E dX10_holds_12 rfl rfl ?_
    refine s_iload_n E dX10_holds_13 rfl rfl ?_
    refine s_vI (As := [AI x1]) (S := []) E (Z_X10_doesHold_95 l D aC b u_1 x1 hj_3.1 ) cv_X10_396 rfl rfl rfl (jv_lt hj_3 (by decide)) (Nat.le_of_ble_eq_true rfl) (Nat.le_of_ble_eq_true rfl) ⟨(Nat.le_of_ble_eq_true rfl), (Nat.le_of_ble_eq_true rfl)⟩ (Nat.le_of_ble_eq_true rfl) dX10_holds_14 (fun z_11 u_9 hp_10 => ?_)
    obtain ⟨hz_11, hp_10⟩ := hp_10
    subst hp_10
    refine z_if_eq (tgt := 24) (u := z_11.toInt) E dX10_holds_17 (by decide) rfl (fun h_13 => ?_) (fun h_13 => ?_)
    ·
      refine s_iconst (v := 0) E dX10_holds_24 (by decide) ?_
      refine s_goto (tgt := 30) E dX10_holds_25 (by decide) ?_
      exact r_int E dX10_holds_30 ⟨⟨by decide, by decide, by first | (left; decide) | (right; decide) | (right; have hb_ := z32 x1; omega)⟩, hj_3⟩
    ·
      refine s_iconst (v := 1) E dX10_holds_20 (by decide) ?_
      refine s_goto (tgt := 30) E dX10_holds_21 (by decide) ?_
      exact r_int E dX10_holds_30 ⟨⟨by decide, by decide, by first | (left; decide) | (right; decide) | (right; have hb_ := z32 x1; omega)⟩, hj_3⟩
set_option maxRecDepth 20000 in
set_option maxHeartbeats 2000000 in
theorem Z_X10_power_95 (l : Launch) (D : va_G) (aC : Nat → ClassId) (b : Nat) (w : XW) (x1 : Int32) (hI : Iv w)  : CnI l D aC b M_X10_power 5 113 0 0 [AR 95, AI x1] w (fun r u => ((-2147483648) ≤ r.toInt ∧ r.toInt ≤ 2147483647 ∧ (¬ r.toInt = 0 ∨ (0 ≤ x1.toInt ∧ x1.toInt ≤ 5))) ∧ Jv w u) := by
  refine cn_I (own := RX10) (nm := "power") (L0 := [some (AR 95), some (AI x1)]) (by decide +kernel) rfl rfl (Nat.le_of_ble_eq_true rfl) rfl ?_
  intro p e s m args below meth c E hin
  have hJ : Jv w w := jv_rfl hI
  have hb_x1 := z32 x1
  refine s_aload_n E dX10_power_0 rfl rfl ?_
  refine s_iload_n E dX10_power_1 rfl rfl ?_
  refine s_vI (As := [AI x1]) (S := []) E (Z_X10_asksLady_95 l D aC b w x1 hJ.1 ) cv_X10_288 rfl rfl rfl (jv_lt hJ (by decide)) (Nat.le_of_ble_eq_true rfl) (Nat.le_of_ble_eq_true rfl) ⟨(Nat.le_of_ble_eq_true rfl), (Nat.le_of_ble_eq_true rfl)⟩ (Nat.le_of_ble_eq_true rfl) dX10_power_2 (fun z_3 u_1 hp_2 => ?_)
  obtain ⟨hz_3, hxz_3, hp_2⟩ := hp_2
  have hj_4 := jv_trans hJ hp_2
  refine z_if_eq (tgt := 16) (u := z_3.toInt) E dX10_power_5 (by decide) rfl (fun h_5 => ?_) (fun h_5 => ?_)
  ·
    refine s_bipush (v := (-2)) E dX10_power_16 (by decide) ?_
    exact r_int E dX10_power_18 ⟨⟨by decide, by decide, by first | (left; decide) | (right; decide) | (right; have hb_ := z32 x1; omega)⟩, hj_4⟩
  ·
    refine s_aload_n E dX10_power_8 rfl rfl ?_
    refine s_iload_n E dX10_power_9 rfl rfl ?_
    refine s_vI (As := [AI x1]) (S := []) E (Z_X10_powerOf_95 l D aC b u_1 x1 hj_4.1 ⟨by have hb_ := z32 x1; omega, by have hb_ := z32 x1; omega⟩) cv_X10_402 rfl rfl rfl (jv_lt hj_4 (by decide)) (Nat.le_of_ble_eq_true rfl) (Nat.le_of_ble_eq_true rfl) ⟨(Nat.le_of_ble_eq_true rfl), (Nat.le_of_ble_eq_true rfl)⟩ (Nat.le_of_ble_eq_true rfl) dX10_power_10 (fun z_8 u_6 hp_7 => ?_)
    obtain ⟨hz_8, hp_7⟩ := hp_7
    subst hp_7
    refine s_goto (tgt := 18) E dX10_power_13 (by decide) ?_
    exact r_int E dX10_power_18 ⟨⟨by have hb_ := z32 z_8; omega, by have hb_ := z32 z_8; omega, by first | (right; decide) | (have hb_ := z32 z_8; omega) | (have hb_ := z32 z_8; have hc_ := z32 x1; omega)⟩, hj_4⟩
set_option maxRecDepth 20000 in
set_option maxHeartbeats 2000000 in
theorem Z_X10_divisor (l : Launch) (D : va_G) (aC : Nat → ClassId) (b : Nat) (w : XW) (x1 : Int64) (x2 : Int64) (hI : Iv w) (hy_ : ¬ x2.toInt = 0) : CnL l D aC b M_X10_divisor 0 0 0 0 [AL x1, AL x2] w (fun r u => ((-9223372036854775808) ≤ r.toInt ∧ r.toInt ≤ 9223372036854775807) ∧ (¬ r.toInt = 0) ∧ w = u) := by
  refine cn_L (own := RX10) (nm := "divisor") (L0 := [some (AL x1), none, some (AL x2), none, none, none, none, none, none, none]) (by decide +kernel) rfl rfl (Nat.le_of_ble_eq_true rfl) rfl ?_
  intro p e s m args below meth c E hin
  have hJ : Jv w w := jv_rfl hI
  refine s_lload_n E dX10_divisor_0 rfl rfl ?_
  refine s_lstore (L2 := [some (AL x1), none, some (AL x2), none, some (AL x1), none, none, none, none, none]) E dX10_divisor_1 (by decide) rfl ?_
  refine s_lload_n E dX10_divisor_3 rfl rfl ?_
  refine s_lstore (L2 := [some (AL x1), none, some (AL x2), none, some (AL x1), none, some (AL x2), none, none, none]) E dX10_divisor_4 (by decide) rfl ?_
  refine z_loop (St := Int64 × Int64) (Pi := fun ⟨q6_4_0, q6_6_0⟩ v6 => (¬ (q6_4_0.toInt = 0 ∧ q6_6_0.toInt = 0)) ∧ w = v6) (Lf := fun ⟨q6_4_0, q6_6_0⟩ => [some (AL x1), none, some (AL x2), none, some (AL q6_4_0), none, some (AL q6_6_0), none, none, none]) (fun ⟨q6_4_0, q6_6_0⟩ _ => q6_6_0.toInt.natAbs) ⟨x1, x2⟩ ⟨(by omega), rfl⟩ ?_
  rintro ⟨q6_4_0, q6_6_0⟩ v6 ⟨hl6, hv_⟩ ih6
  subst hv_
  have hbq6_4 := z64 q6_4_0
  have hbq6_6 := z64 q6_6_0
  refine s_loc (L2 := [some (AL x1), none, some (AL x2), none, some (AL q6_4_0), none, some (AL q6_6_0), none, none, none]) rfl ?_
  refine s_lload E dX10_divisor_6 rfl ?_
  refine s_lconst (v := 0) E dX10_divisor_8 (by decide) ?_
  refine z_lcmp (u := q6_6_0.toInt) (v := 0) E dX10_divisor_9 rfl (by decide) (fun z_2 hz_2 => ?_)
  refine z_if_eq (tgt := 31) (u := z_2.toInt) E dX10_divisor_10 (by decide) rfl (fun h_3 => ?_) (fun h_3 => ?_)
  ·
    refine s_lload E dX10_divisor_31 rfl ?_
    exact r_long E dX10_divisor_33 ⟨⟨by have hb_ := z64 q6_4_0; omega, by have hb_ := z64 q6_4_0; omega⟩, (by omega), rfl⟩
  ·
    refine s_lload E dX10_divisor_13 rfl ?_
    refine s_lload E dX10_divisor_15 rfl ?_
    refine s_lrem E dX10_divisor_17 (z_neL (u := q6_6_0.toInt) rfl (by omega)) ?_
    refine z_nmL (P := fun z => z.toInt.natAbs < q6_6_0.toInt.natAbs) (y_lrem (by omega)) (fun z_4 hz_4 => ?_)
    refine s_lstore (L2 := [some (AL x1), none, some (AL x2), none, some (AL q6_4_0), none, some (AL q6_6_0), none, some (AL z_4), none]) E dX10_divisor_18 (by decide) rfl ?_
    refine s_lload E dX10_divisor_20 rfl ?_
    refine s_lstore (L2 := [some (AL x1), none, some (AL x2), none, some (AL q6_6_0), none, some (AL q6_6_0), none, some (AL z_4), none]) E dX10_divisor_22 (by decide) rfl ?_
    refine s_lload E dX10_divisor_24 rfl ?_
    refine s_lstore (L2 := [some (AL x1), none, some (AL x2), none, some (AL q6_6_0), none, some (AL z_4), none, some (AL z_4), none]) E dX10_divisor_26 (by decide) rfl ?_
    refine s_goto (tgt := 6) E dX10_divisor_28 (by decide) ?_
    refine s_drop (i := 8) (L2 := [some (AL x1), none, some (AL x2), none, some (AL q6_6_0), none, some (AL z_4), none, none, none]) rfl ?_
    exact ih6 ⟨q6_6_0, z_4⟩ w ⟨(by omega), rfl⟩ (by first | omega | decide | (dsimp only; omega) | (dsimp only; decide))
set_option maxRecDepth 20000 in
set_option maxHeartbeats 2000000 in
theorem Z_X10_lowest (l : Launch) (D : va_G) (aC : Nat → ClassId) (b : Nat) (w : XW) (x1 : Int64) (x2 : Int64) (x3 : Int32) (hI : Iv w) (hy_ : ¬ x2.toInt = 0) : CnL l D aC b M_X10_lowest 1 29 0 0 [AL x1, AL x2, AI x3] w (fun r u => ((-9223372036854775808) ≤ r.toInt ∧ r.toInt ≤ 9223372036854775807) ∧ w = u) := by
  refine cn_L (own := RX10) (nm := "lowest") (L0 := [some (AL x1), none, some (AL x2), none, some (AI x3)]) (by decide +kernel) rfl rfl (Nat.le_of_ble_eq_true rfl) rfl ?_
  intro p e s m args below meth c E hin
  have hJ : Jv w w := jv_rfl hI
  have hb_x3 := z32 x3
  refine s_iload E dX10_lowest_0 rfl ?_
  refine z_if_ne (tgt := 9) (u := x3.toInt) E dX10_lowest_2 (by decide) rfl (fun h_1 => ?_) (fun h_1 => ?_)
  ·
    refine s_lload_n E dX10_lowest_9 rfl rfl ?_
    refine s_lload_n E dX10_lowest_10 rfl rfl ?_
    refine s_lload_n E dX10_lowest_11 rfl rfl ?_
    refine s_sL (As := [AL x1, AL x2]) (S := [AL x2]) E (Z_X10_divisor l D aC b w x1 x2 hJ.1  (by omega)) cs_X10_405 rfl rfl (Nat.le_of_ble_eq_true rfl) (Nat.le_of_ble_eq_true rfl) ⟨(Nat.le_of_ble_eq_true rfl), (Nat.le_of_ble_eq_true rfl)⟩ (Nat.le_of_ble_eq_true rfl) dX10_lowest_12 (fun z_4 u_2 hp_3 => ?_)
    obtain ⟨hz_4, hxz_4, hp_3⟩ := hp_3
    subst hp_3
    refine s_ldiv E dX10_lowest_15 (z_neL (u := z_4.toInt) rfl (by omega)) ?_
    refine z_anyL (fun z_6 => ?_)
    exact r_long E dX10_lowest_16 ⟨⟨by have hb_ := z64 z_6; omega, by have hb_ := z64 z_6; omega⟩, rfl⟩
  ·
    refine s_lload_n E dX10_lowest_5 rfl rfl ?_
    refine s_goto (tgt := 10) E dX10_lowest_6 (by decide) ?_
    refine s_lload_n E dX10_lowest_10 rfl rfl ?_
    refine s_lload_n E dX10_lowest_11 rfl rfl ?_
    refine s_sL (As := [AL x1, AL x2]) (S := [AL x1]) E (Z_X10_divisor l D aC b w x1 x2 hJ.1  (by omega)) cs_X10_405 rfl rfl (Nat.le_of_ble_eq_true rfl) (Nat.le_of_ble_eq_true rfl) ⟨(Nat.le_of_ble_eq_true rfl), (Nat.le_of_ble_eq_true rfl)⟩ (Nat.le_of_ble_eq_true rfl) dX10_lowest_12 (fun z_9 u_7 hp_8 => ?_)
    obtain ⟨hz_9, hxz_9, hp_8⟩ := hp_8
    subst hp_8
    refine s_ldiv E dX10_lowest_15 (z_neL (u := z_9.toInt) rfl (by omega)) ?_
    refine z_anyL (fun z_11 => ?_)
    exact r_long E dX10_lowest_16 ⟨⟨by have hb_ := z64 z_11; omega, by have hb_ := z64 z_11; omega⟩, rfl⟩
set_option maxRecDepth 20000 in
set_option maxHeartbeats 2000000 in
theorem Z_X10_part_95 (l : Launch) (D : va_G) (aC : Nat → ClassId) (b : Nat) (w : XW) (x1 : Int32) (x2 : Int32) (hI : Iv w)  : CnI l D aC b M_X10_part 5 113 0 0 [AR 95, AI x1, AI x2] w (fun r u => ((-2147483648) ≤ r.toInt ∧ r.toInt ≤ 2147483647 ∧ (¬ r.toInt = 0 ∨ (0 ≤ x1.toInt ∧ x1.toInt ≤ 5)) ∧ (¬ r.toInt = 0 ∨ (0 ≤ x2.toInt ∧ x2.toInt ≤ 1))) ∧ Jv w u) := by
  refine cn_I (own := RX10) (nm := "part") (L0 := [some (AR 95), some (AI x1), some (AI x2), none]) (by decide +kernel) rfl rfl (Nat.le_of_ble_eq_true rfl) rfl ?_
  intro p e s m args below meth c E hin
  have hJ : Jv w w := jv_rfl hI
  have hb_x1 := z32 x1
  have hb_x2 := z32 x2
  refine s_aload_n E dX10_part_0 rfl rfl ?_
  refine s_iload_n E dX10_part_1 rfl rfl ?_
  refine s_vI (As := [AI x1]) (S := []) E (Z_X10_asksLady_95 l D aC b w x1 hJ.1 ) cv_X10_288 rfl rfl rfl (jv_lt hJ (by decide)) (Nat.le_of_ble_eq_true rfl) (Nat.le_of_ble_eq_true rfl) ⟨(Nat.le_of_ble_eq_true rfl), (Nat.le_of_ble_eq_true rfl)⟩ (Nat.le_of_ble_eq_true rfl) dX10_part_2 (fun z_3 u_1 hp_2 => ?_)
  obtain ⟨hz_3, hxz_3, hp_2⟩ := hp_2
  have hj_4 := jv_trans hJ hp_2
  refine z_if_eq (tgt := 18) (u := z_3.toInt) E dX10_part_5 (by decide) rfl (fun h_5 => ?_) (fun h_5 => ?_)
  ·
    refine s_bipush (v := (-2)) E dX10_part_18 (by decide) ?_
    exact r_int E dX10_part_20 ⟨⟨by decide, by decide, by first | (left; decide) | (right; decide) | (right; have hb_ := z32 x1; omega), by first | (left; decide) | (right; decide) | (right; have hb_ := z32 x2; omega)⟩, hj_4⟩
  ·
    refine s_iload_n E dX10_part_8 rfl rfl ?_
    refine z_i2l (u := x2.toInt) E dX10_part_9 rfl (fun z_6 hz_6 => ?_)
    refine s_lconst (v := 0) E dX10_part_10 (by decide) ?_
    refine s_lconst (v := 1) E dX10_part_11 (by decide) ?_
    refine s_sI (As := [AL z_6, AL 0, AL 1]) (S := []) E (Z_X10_in l D aC b u_1 z_6 0 1) cs_X10_82 rfl rfl (Nat.le_of_ble_eq_true rfl) (Nat.le_of_ble_eq_true rfl) ⟨(Nat.le_of_ble_eq_true rfl), (Nat.le_of_ble_eq_true rfl)⟩ (Nat.le_of_ble_eq_true rfl) dX10_part_12 (fun z_7 u_8 hp_9 => ?_)
    obtain ⟨hz_7, hp_9⟩ := hp_9
    subst hp_9
    have hcL_ : (0 : Int64).toInt = 0 := (by decide)
    have hcL_ : (1 : Int64).toInt = 1 := (by decide)
    refine z_if_ne (tgt := 21) (u := z_7.toInt) E dX10_part_15 (by decide) rfl (fun h_10 => ?_) (fun h_10 => ?_)
    ·
      refine s_aload_n E dX10_part_21 rfl rfl ?_
      refine s_aload_n E dX10_part_22 rfl rfl ?_
      refine s_vI (As := []) (S := [AR 95]) E (Z_X10_allLadies_95 l D aC b u_1  hj_4.1 ) cv_X10_393 rfl rfl rfl (jv_lt hj_4 (by decide)) (Nat.le_of_ble_eq_true rfl) (Nat.le_of_ble_eq_true rfl) ⟨(Nat.le_of_ble_eq_true rfl), (Nat.le_of_ble_eq_true rfl)⟩ (Nat.le_of_ble_eq_true rfl) dX10_part_23 (fun z_13 u_11 hp_12 => ?_)
      obtain ⟨hz_13, hp_12⟩ := hp_12
      subst hp_12
      refine s_vI (As := [AI z_13]) (S := []) E (Z_X10_seatsIn_95 l D aC b u_1 z_13 hj_4.1 ) cv_X10_390 rfl rfl rfl (jv_lt hj_4 (by decide)) (Nat.le_of_ble_eq_true rfl) (Nat.le_of_ble_eq_true rfl) ⟨(Nat.le_of_ble_eq_true rfl), (Nat.le_of_ble_eq_true rfl)⟩ (Nat.le_of_ble_eq_true rfl) dX10_part_26 (fun z_17 u_15 hp_16 => ?_)
      obtain ⟨hz_17, hp_16⟩ := hp_16
      subst hp_16
      refine s_istore_n (L2 := [some (AR 95), some (AI x1), some (AI x2), some (AI z_17)]) E dX10_part_29 rfl (by decide) rfl ?_
      refine s_iload_n E dX10_part_30 rfl rfl ?_
      refine z_if_ne (tgt := 38) (u := z_17.toInt) E dX10_part_31 (by decide) rfl (fun h_19 => ?_) (fun h_19 => ?_)
      ·
        refine s_aload_n E dX10_part_38 rfl rfl ?_
        refine s_gR (r := 105) E fg_X10_43 rfl rfl (jv_lt hj_4 (by decide)) (jv_r hj_4 (by decide +kernel)) dX10_part_39 ?_
        refine s_iload_n E dX10_part_42 rfl rfl ?_
        refine s_iald E rfl (jv_lt hj_4 (by decide)) (z_in (u := x1.toInt) rfl (by omega) (by omega)) dX10_part_43 ?_
        refine z_nm (P := fun z => (-2147483648) ≤ z.toInt ∧ z.toInt ≤ 2147483647) (z32 _) (fun z_20 hz_20 => ?_)
        refine z_i2l (u := z_20.toInt) E dX10_part_44 rfl (fun z_21 hz_21 => ?_)
        refine s_iload_n E dX10_part_45 rfl rfl ?_
        refine z_i2l (u := z_17.toInt) E dX10_part_46 rfl (fun z_22 hz_22 => ?_)
        refine s_iload_n E dX10_part_47 rfl rfl ?_
        refine s_sL (As := [AL z_21, AL z_22, AI x2]) (S := []) E (Z_X10_lowest l D aC b u_1 z_21 z_22 x2 hj_4.1  (by omega)) cs_X10_409 rfl rfl (Nat.le_of_ble_eq_true rfl) (Nat.le_of_ble_eq_true rfl) ⟨(Nat.le_of_ble_eq_true rfl), (Nat.le_of_ble_eq_true rfl)⟩ (Nat.le_of_ble_eq_true rfl) dX10_part_48 (fun z_25 u_23 hp_24 => ?_)
        obtain ⟨hz_25, hp_24⟩ := hp_24
        subst hp_24
        refine s_l2i E dX10_part_51 ?_
        refine z_nm (P := fun z => (-2147483648) ≤ z.toInt ∧ z.toInt ≤ 2147483647) (z32 _) (fun z_27 hz_27 => ?_)
        exact r_int E dX10_part_52 ⟨⟨by have hb_ := z32 z_27; omega, by have hb_ := z32 z_27; omega, by first | (right; decide) | (have hb_ := z32 z_27; omega) | (have hb_ := z32 z_27; have hc_ := z32 x1; omega), by first | (right; decide) | (have hb_ := z32 z_27; omega) | (have hb_ := z32 z_27; have hc_ := z32 x2; omega)⟩, hj_4⟩
      ·
        refine s_iconst (v := (-1)) E dX10_part_34 (by decide) ?_
        refine s_goto (tgt := 52) E dX10_part_35 (by decide) ?_
        exact r_int E dX10_part_52 ⟨⟨by decide, by decide, by first | (left; decide) | (right; decide) | (right; have hb_ := z32 x1; omega), by first | (left; decide) | (right; decide) | (right; have hb_ := z32 x2; omega)⟩, hj_4⟩
    ·
      refine s_bipush (v := (-2)) E dX10_part_18 (by decide) ?_
      exact r_int E dX10_part_20 ⟨⟨by decide, by decide, by first | (left; decide) | (right; decide) | (right; have hb_ := z32 x1; omega), by first | (left; decide) | (right; decide) | (right; have hb_ := z32 x2; omega)⟩, hj_4⟩
