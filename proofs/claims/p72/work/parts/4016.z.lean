set_option maxRecDepth 20000 in
set_option maxHeartbeats 2000000 in
theorem Z_X10_likes_95 (l : Launch) (D : va_G) (aC : Nat → ClassId) (b : Nat) (w : XW) (x1 : Int32) (hI : Iv w)  : CnI l D aC b M_X10_likes 5 113 0 0 [AR 95, AI x1] w (fun r u => ((-2) ≤ r.toInt ∧ r.toInt ≤ 64 ∧ (¬ r.toInt = 0 ∨ (0 ≤ x1.toInt ∧ x1.toInt ≤ 5))) ∧ Jv w u) := by
  refine cn_I (own := RX10) (nm := "likes") (L0 := [some (AR 95), some (AI x1), none, none, none, none, none]) (by decide +kernel) rfl rfl (Nat.le_of_ble_eq_true rfl) rfl ?_
  intro p e s m args below meth c E hin
  have hJ : Jv w w := jv_rfl hI
  have hb_x1 := z32 x1
  refine s_aload_n E dX10_likes_0 rfl rfl ?_
  refine s_iload_n E dX10_likes_1 rfl rfl ?_
  refine s_vI (As := [AI x1]) (S := []) E (Z_X10_asksLady_95 l D aC b w x1 hJ.1 ) cv_X10_288 rfl rfl rfl (jv_lt hJ (by decide)) (Nat.le_of_ble_eq_true rfl) (Nat.le_of_ble_eq_true rfl) ⟨(Nat.le_of_ble_eq_true rfl), (Nat.le_of_ble_eq_true rfl)⟩ (Nat.le_of_ble_eq_true rfl) dX10_likes_2 (fun z_3 u_1 hp_2 => ?_)
  obtain ⟨hz_3, hxz_3, hp_2⟩ := hp_2
  have hj_4 := jv_trans hJ hp_2
  refine z_if_ne (tgt := 11) (u := z_3.toInt) E dX10_likes_5 (by decide) rfl (fun h_5 => ?_) (fun h_5 => ?_)
  ·
    refine s_iconst (v := 0) E dX10_likes_11 (by decide) ?_
    refine s_istore_n (L2 := [some (AR 95), some (AI x1), some (AI 0), none, none, none, none]) E dX10_likes_12 rfl (by decide) rfl ?_
    refine s_iconst (v := 0) E dX10_likes_13 (by decide) ?_
    refine s_istore_n (L2 := [some (AR 95), some (AI x1), some (AI 0), some (AI 0), none, none, none]) E dX10_likes_14 rfl (by decide) rfl ?_
    refine s_iconst (v := 0) E dX10_likes_15 (by decide) ?_
    refine s_istore (L2 := [some (AR 95), some (AI x1), some (AI 0), some (AI 0), some (AI 0), none, none]) E dX10_likes_16 (by decide) rfl ?_
    refine z_loop (St := Int32 × Int32 × Int32) (Pi := fun ⟨q18_2_5, q18_3_5, q18_4_5⟩ v18 => (0 ≤ q18_2_5.toInt ∧ q18_2_5.toInt ≤ 64) ∧ (0 ≤ q18_3_5.toInt ∧ q18_3_5.toInt ≤ 2147483647) ∧ (0 ≤ q18_4_5.toInt ∧ q18_4_5.toInt ≤ 8) ∧ u_1 = v18) (Lf := fun ⟨q18_2_5, q18_3_5, q18_4_5⟩ => [some (AR 95), some (AI x1), some (AI q18_2_5), some (AI q18_3_5), some (AI q18_4_5), none, none]) (fun ⟨q18_2_5, q18_3_5, q18_4_5⟩ _ => (9 - q18_4_5.toInt).toNat) ⟨0, 0, 0⟩ ⟨⟨by decide, by decide⟩, ⟨by decide, by decide⟩, ⟨by decide, by decide⟩, rfl⟩ ?_
    rintro ⟨q18_2_5, q18_3_5, q18_4_5⟩ v18 ⟨hq18_2, hq18_3, hq18_4, hv_⟩ ih18
    subst hv_
    refine s_loc (L2 := [some (AR 95), some (AI x1), some (AI q18_2_5), some (AI q18_3_5), some (AI q18_4_5), none, none]) rfl ?_
    refine s_iload E dX10_likes_18 rfl ?_
    refine s_aload_n E dX10_likes_20 rfl rfl ?_
    refine s_gR (r := 96) E fg_X10_9 rfl rfl (jv_lt hj_4 (by decide)) (jv_r hj_4 (by decide +kernel)) dX10_likes_21 ?_
    refine s_iconst (v := 0) E dX10_likes_24 (by decide) ?_
    refine s_iald E rfl (jv_lt hj_4 (by decide)) (z_in (u := 0) (by decide) (by omega) (by omega)) dX10_likes_25 ?_
    refine z_nm (P := fun z => z.toInt = (u_1.2.2.1 96 0).toInt ∧ 0 ≤ z.toInt ∧ z.toInt ≤ 8) ⟨rfl, (rw_96_0 hj_4)⟩ (fun z_7 hz_7 => ?_)
    refine z_icmp_ge (tgt := 93) (u := q18_4_5.toInt) (v := z_7.toInt) E dX10_likes_26 (by decide) rfl rfl (fun h_8 => ?_) (fun h_8 => ?_)
    ·
      refine s_iload_n E dX10_likes_93 rfl rfl ?_
      exact r_int E dX10_likes_94 ⟨⟨by have hb_ := z32 q18_2_5; omega, by have hb_ := z32 q18_2_5; omega, by first | (right; decide) | (have hb_ := z32 q18_2_5; omega) | (have hb_ := z32 q18_2_5; have hc_ := z32 x1; omega)⟩, hj_4⟩
    ·
      refine s_iconst (v := 0) E dX10_likes_29 (by decide) ?_
      refine s_istore (L2 := [some (AR 95), some (AI x1), some (AI q18_2_5), some (AI q18_3_5), some (AI q18_4_5), some (AI 0), none]) E dX10_likes_30 (by decide) rfl ?_
      refine s_iconst (v := 0) E dX10_likes_32 (by decide) ?_
      refine s_istore (L2 := [some (AR 95), some (AI x1), some (AI q18_2_5), some (AI q18_3_5), some (AI q18_4_5), some (AI 0), some (AI 0)]) E dX10_likes_33 (by decide) rfl ?_
      refine z_loop (St := Int32 × Int32) (Pi := fun ⟨q35_5_8, q35_6_8⟩ v35 => (0 ≤ q35_6_8.toInt ∧ q35_6_8.toInt ≤ 15) ∧ u_1 = v35) (Lf := fun ⟨q35_5_8, q35_6_8⟩ => [some (AR 95), some (AI x1), some (AI q18_2_5), some (AI q18_3_5), some (AI q18_4_5), some (AI q35_5_8), some (AI q35_6_8)]) (fun ⟨q35_5_8, q35_6_8⟩ _ => (16 - q35_6_8.toInt).toNat) ⟨0, 0⟩ ⟨⟨by decide, by decide⟩, rfl⟩ ?_
      rintro ⟨q35_5_8, q35_6_8⟩ v35 ⟨hq35_6, hv_⟩ ih35
      subst hv_
      have hbq35_5 := z32 q35_5_8
      refine s_loc (L2 := [some (AR 95), some (AI x1), some (AI q18_2_5), some (AI q18_3_5), some (AI q18_4_5), some (AI q35_5_8), some (AI q35_6_8)]) rfl ?_
      refine s_iload E dX10_likes_35 rfl ?_
      refine s_aload_n E dX10_likes_37 rfl rfl ?_
      refine s_vI (As := []) (S := [AI q35_6_8]) E (Z_X10_dances_95 l D aC b u_1  hj_4.1 ) cv_X10_247 rfl rfl rfl (jv_lt hj_4 (by decide)) (Nat.le_of_ble_eq_true rfl) (Nat.le_of_ble_eq_true rfl) ⟨(Nat.le_of_ble_eq_true rfl), (Nat.le_of_ble_eq_true rfl)⟩ (Nat.le_of_ble_eq_true rfl) dX10_likes_38 (fun z_12 u_10 hp_11 => ?_)
      obtain ⟨hz_12, hxz_12, hp_11⟩ := hp_11
      subst hp_11
      refine z_icmp_gt (tgt := 72) (u := q35_6_8.toInt) (v := z_12.toInt) E dX10_likes_41 (by decide) rfl rfl (fun h_14 => ?_) (fun h_14 => ?_)
      ·
        refine s_iload E dX10_likes_72 rfl ?_
        refine s_iload_n E dX10_likes_74 rfl rfl ?_
        refine z_icmp_gt (tgt := 81) (u := q35_5_8.toInt) (v := q18_3_5.toInt) E dX10_likes_75 (by decide) rfl rfl (fun h_15 => ?_) (fun h_15 => ?_)
        ·
          refine s_iload E dX10_likes_81 rfl ?_
          refine s_istore_n (L2 := [some (AR 95), some (AI x1), some (AI q18_2_5), some (AI q35_5_8), some (AI q18_4_5), some (AI q35_5_8), some (AI q35_6_8)]) E dX10_likes_83 rfl (by decide) rfl ?_
          refine s_iload E dX10_likes_84 rfl ?_
          refine s_istore_n (L2 := [some (AR 95), some (AI x1), some (AI q18_4_5), some (AI q35_5_8), some (AI q18_4_5), some (AI q35_5_8), some (AI q35_6_8)]) E dX10_likes_86 rfl (by decide) rfl ?_
          refine z_iinc (u := q18_4_5.toInt) (L2 := fun z_16 => [some (AR 95), some (AI x1), some (AI q18_4_5), some (AI q35_5_8), some (AI z_16), some (AI q35_5_8), some (AI q35_6_8)]) E dX10_likes_87 rfl rfl (by decide) (fun _ => rfl) (by decide) (by omega) (by omega) (fun z_16 hz_16 => ?_)
          refine s_goto (tgt := 18) E dX10_likes_90 (by decide) ?_
          refine s_drop (i := 5) (L2 := [some (AR 95), some (AI x1), some (AI q18_4_5), some (AI q35_5_8), some (AI z_16), none, some (AI q35_6_8)]) rfl ?_
          refine s_drop (i := 6) (L2 := [some (AR 95), some (AI x1), some (AI q18_4_5), some (AI q35_5_8), some (AI z_16), none, none]) rfl ?_
          exact ih18 ⟨q18_4_5, q35_5_8, z_16⟩ u_1 ⟨⟨by have hb_ := z32 q18_4_5; omega, by have hb_ := z32 q18_4_5; omega⟩, ⟨by have hb_ := z32 q35_5_8; omega, by have hb_ := z32 q35_5_8; omega⟩, ⟨by have hb_ := z32 z_16; omega, by have hb_ := z32 z_16; omega⟩, rfl⟩ (by first | omega | decide | (dsimp only; omega) | (dsimp only; decide))
        ·
          refine s_goto (tgt := 87) E dX10_likes_78 (by decide) ?_
          refine z_iinc (u := q18_4_5.toInt) (L2 := fun z_17 => [some (AR 95), some (AI x1), some (AI q18_2_5), some (AI q18_3_5), some (AI z_17), some (AI q35_5_8), some (AI q35_6_8)]) E dX10_likes_87 rfl rfl (by decide) (fun _ => rfl) (by decide) (by omega) (by omega) (fun z_17 hz_17 => ?_)
          refine s_goto (tgt := 18) E dX10_likes_90 (by decide) ?_
          refine s_drop (i := 5) (L2 := [some (AR 95), some (AI x1), some (AI q18_2_5), some (AI q18_3_5), some (AI z_17), none, some (AI q35_6_8)]) rfl ?_
          refine s_drop (i := 6) (L2 := [some (AR 95), some (AI x1), some (AI q18_2_5), some (AI q18_3_5), some (AI z_17), none, none]) rfl ?_
          exact ih18 ⟨q18_2_5, q18_3_5, z_17⟩ u_1 ⟨⟨by have hb_ := z32 q18_2_5; omega, by have hb_ := z32 q18_2_5; omega⟩, ⟨by have hb_ := z32 q18_3_5; omega, by have hb_ := z32 q18_3_5; omega⟩, ⟨by have hb_ := z32 z_17; omega, by have hb_ := z32 z_17; omega⟩, rfl⟩ (by first | omega | decide | (dsimp only; omega) | (dsimp only; decide))
      ·
        refine s_iload E dX10_likes_44 rfl ?_
        refine s_aload_n E dX10_likes_46 rfl rfl ?_
        refine s_iload_n E dX10_likes_47 rfl rfl ?_
        refine s_iload E dX10_likes_48 rfl ?_
        refine s_vI (As := [AI x1, AI q35_6_8]) (S := [AI q35_5_8]) E (Z_X10_atOf_95 l D aC b u_1 x1 q35_6_8 hj_4.1 ⟨by have hb_ := z32 x1; omega, by have hb_ := z32 x1; omega⟩ ⟨by have hb_ := z32 q35_6_8; omega, by have hb_ := z32 q35_6_8; omega⟩) cv_X10_255 rfl rfl rfl (jv_lt hj_4 (by decide)) (Nat.le_of_ble_eq_true rfl) (Nat.le_of_ble_eq_true rfl) ⟨(Nat.le_of_ble_eq_true rfl), (Nat.le_of_ble_eq_true rfl)⟩ (Nat.le_of_ble_eq_true rfl) dX10_likes_50 (fun z_20 u_18 hp_19 => ?_)
        obtain ⟨hz_20, hxz_20, hp_19⟩ := hp_19
        subst hp_19
        refine s_iload E dX10_likes_53 rfl ?_
        refine z_icmp_ne (tgt := 62) (u := z_20.toInt) (v := q18_4_5.toInt) E dX10_likes_55 (by decide) rfl rfl (fun h_22 => ?_) (fun h_22 => ?_)
        ·
          refine s_iconst (v := 0) E dX10_likes_62 (by decide) ?_
          refine z_iadd (u := q35_5_8.toInt) (v := 0) E dX10_likes_63 rfl (by decide) (by omega) (by omega) (fun z_23 hz_23 => ?_)
          refine s_istore (L2 := [some (AR 95), some (AI x1), some (AI q18_2_5), some (AI q18_3_5), some (AI q18_4_5), some (AI z_23), some (AI q35_6_8)]) E dX10_likes_64 (by decide) rfl ?_
          refine z_iinc (u := q35_6_8.toInt) (L2 := fun z_24 => [some (AR 95), some (AI x1), some (AI q18_2_5), some (AI q18_3_5), some (AI q18_4_5), some (AI z_23), some (AI z_24)]) E dX10_likes_66 rfl rfl (by decide) (fun _ => rfl) (by decide) (by omega) (by omega) (fun z_24 hz_24 => ?_)
          refine s_goto (tgt := 35) E dX10_likes_69 (by decide) ?_
          exact ih35 ⟨z_23, z_24⟩ u_1 ⟨⟨by have hb_ := z32 z_24; omega, by have hb_ := z32 z_24; omega⟩, rfl⟩ (by first | omega | decide | (dsimp only; omega) | (dsimp only; decide))
        ·
          refine s_iconst (v := 1) E dX10_likes_58 (by decide) ?_
          refine s_goto (tgt := 63) E dX10_likes_59 (by decide) ?_
          refine s_iadd E dX10_likes_63 ?_
          refine z_nm (P := fun z => (-2147483648) ≤ z.toInt ∧ z.toInt ≤ 2147483647) (z32 _) (fun z_25 hz_25 => ?_)
          refine s_istore (L2 := [some (AR 95), some (AI x1), some (AI q18_2_5), some (AI q18_3_5), some (AI q18_4_5), some (AI z_25), some (AI q35_6_8)]) E dX10_likes_64 (by decide) rfl ?_
          refine z_iinc (u := q35_6_8.toInt) (L2 := fun z_26 => [some (AR 95), some (AI x1), some (AI q18_2_5), some (AI q18_3_5), some (AI q18_4_5), some (AI z_25), some (AI z_26)]) E dX10_likes_66 rfl rfl (by decide) (fun _ => rfl) (by decide) (by omega) (by omega) (fun z_26 hz_26 => ?_)
          refine s_goto (tgt := 35) E dX10_likes_69 (by decide) ?_
          exact ih35 ⟨z_25, z_26⟩ u_1 ⟨⟨by have hb_ := z32 z_26; omega, by have hb_ := z32 z_26; omega⟩, rfl⟩ (by first | omega | decide | (dsimp only; omega) | (dsimp only; decide))
  ·
    refine s_bipush (v := (-2)) E dX10_likes_8 (by decide) ?_
    exact r_int E dX10_likes_10 ⟨⟨by decide, by decide, by first | (left; decide) | (right; decide) | (right; have hb_ := z32 x1; omega)⟩, hj_4⟩
set_option maxRecDepth 20000 in
set_option maxHeartbeats 2000000 in
theorem Z_X10_apart_95 (l : Launch) (D : va_G) (aC : Nat → ClassId) (b : Nat) (w : XW) (x1 : Int32) (x2 : Int32) (x3 : Int32) (hI : Iv w)  : CnI l D aC b M_X10_apart 5 113 0 0 [AR 95, AI x1, AI x2, AI x3] w (fun r u => ((-2) ≤ r.toInt ∧ r.toInt ≤ 999999999 ∧ (¬ r.toInt = 0 ∨ (0 ≤ x1.toInt ∧ x1.toInt ≤ 5)) ∧ (¬ r.toInt = 0 ∨ (0 ≤ x2.toInt ∧ x2.toInt ≤ 5)) ∧ (¬ r.toInt = 0 ∨ (0 ≤ x3.toInt ∧ x3.toInt ≤ 14))) ∧ Jv w u) := by
  refine cn_I (own := RX10) (nm := "apart") (L0 := [some (AR 95), some (AI x1), some (AI x2), some (AI x3), none]) (by decide +kernel) rfl rfl (Nat.le_of_ble_eq_true rfl) rfl ?_
  intro p e s m args below meth c E hin
  have hJ : Jv w w := jv_rfl hI
  have hb_x1 := z32 x1
  have hb_x2 := z32 x2
  have hb_x3 := z32 x3
  refine s_aload_n E dX10_apart_0 rfl rfl ?_
  refine s_iload_n E dX10_apart_1 rfl rfl ?_
  refine s_vI (As := [AI x3]) (S := []) E (Z_X10_asksDance_95 l D aC b w x3 hJ.1 ) cv_X10_294 rfl rfl rfl (jv_lt hJ (by decide)) (Nat.le_of_ble_eq_true rfl) (Nat.le_of_ble_eq_true rfl) ⟨(Nat.le_of_ble_eq_true rfl), (Nat.le_of_ble_eq_true rfl)⟩ (Nat.le_of_ble_eq_true rfl) dX10_apart_2 (fun z_3 u_1 hp_2 => ?_)
  obtain ⟨hz_3, hp_2⟩ := hp_2
  have hj_4 := jv_trans hJ hp_2
  refine z_if_eq (tgt := 26) (u := z_3.toInt) E dX10_apart_5 (by decide) rfl (fun h_5 => ?_) (fun h_5 => ?_)
  ·
    refine s_bipush (v := (-2)) E dX10_apart_26 (by decide) ?_
    exact r_int E dX10_apart_28 ⟨⟨by decide, by decide, by first | (left; decide) | (right; decide) | (right; have hb_ := z32 x1; omega), by first | (left; decide) | (right; decide) | (right; have hb_ := z32 x2; omega), by first | (left; decide) | (right; decide) | (right; have hb_ := z32 x3; omega)⟩, hj_4⟩
  ·
    refine s_aload_n E dX10_apart_8 rfl rfl ?_
    refine s_iload_n E dX10_apart_9 rfl rfl ?_
    refine z_i2l (u := x1.toInt) E dX10_apart_10 rfl (fun z_6 hz_6 => ?_)
    refine s_vI (As := [AL z_6]) (S := []) E (Z_X10_isLady_95 l D aC b u_1 z_6 hj_4.1 ) cv_X10_222 rfl rfl rfl (jv_lt hj_4 (by decide)) (Nat.le_of_ble_eq_true rfl) (Nat.le_of_ble_eq_true rfl) ⟨(Nat.le_of_ble_eq_true rfl), (Nat.le_of_ble_eq_true rfl)⟩ (Nat.le_of_ble_eq_true rfl) dX10_apart_11 (fun z_9 u_7 hp_8 => ?_)
    obtain ⟨hz_9, hxz_9, hp_8⟩ := hp_8
    subst hp_8
    refine z_if_eq (tgt := 26) (u := z_9.toInt) E dX10_apart_14 (by decide) rfl (fun h_11 => ?_) (fun h_11 => ?_)
    ·
      refine s_bipush (v := (-2)) E dX10_apart_26 (by decide) ?_
      exact r_int E dX10_apart_28 ⟨⟨by decide, by decide, by first | (left; decide) | (right; decide) | (right; have hb_ := z32 x1; omega), by first | (left; decide) | (right; decide) | (right; have hb_ := z32 x2; omega), by first | (left; decide) | (right; decide) | (right; have hb_ := z32 x3; omega)⟩, hj_4⟩
    ·
      refine s_aload_n E dX10_apart_17 rfl rfl ?_
      refine s_iload_n E dX10_apart_18 rfl rfl ?_
      refine z_i2l (u := x2.toInt) E dX10_apart_19 rfl (fun z_12 hz_12 => ?_)
      refine s_vI (As := [AL z_12]) (S := []) E (Z_X10_isLady_95 l D aC b u_1 z_12 hj_4.1 ) cv_X10_222 rfl rfl rfl (jv_lt hj_4 (by decide)) (Nat.le_of_ble_eq_true rfl) (Nat.le_of_ble_eq_true rfl) ⟨(Nat.le_of_ble_eq_true rfl), (Nat.le_of_ble_eq_true rfl)⟩ (Nat.le_of_ble_eq_true rfl) dX10_apart_20 (fun z_15 u_13 hp_14 => ?_)
      obtain ⟨hz_15, hxz_15, hp_14⟩ := hp_14
      subst hp_14
      refine z_if_ne (tgt := 29) (u := z_15.toInt) E dX10_apart_23 (by decide) rfl (fun h_17 => ?_) (fun h_17 => ?_)
      ·
        refine s_aload_n E dX10_apart_29 rfl rfl ?_
        refine s_aload_n E dX10_apart_30 rfl rfl ?_
        refine s_iload_n E dX10_apart_31 rfl rfl ?_
        refine s_vI (As := [AI x1]) (S := [AR 95]) E (Z_X10_wideOf_95 l D aC b u_1 x1 hj_4.1 ⟨by have hb_ := z32 x1; omega, by have hb_ := z32 x1; omega⟩) cv_X10_238 rfl rfl rfl (jv_lt hj_4 (by decide)) (Nat.le_of_ble_eq_true rfl) (Nat.le_of_ble_eq_true rfl) ⟨(Nat.le_of_ble_eq_true rfl), (Nat.le_of_ble_eq_true rfl)⟩ (Nat.le_of_ble_eq_true rfl) dX10_apart_32 (fun z_20 u_18 hp_19 => ?_)
        obtain ⟨hz_20, hxz_20, hp_19⟩ := hp_19
        subst hp_19
        refine s_aload_n E dX10_apart_35 rfl rfl ?_
        refine s_iload_n E dX10_apart_36 rfl rfl ?_
        refine s_iload_n E dX10_apart_37 rfl rfl ?_
        refine s_vI (As := [AI x1, AI x3]) (S := [AI z_20, AR 95]) E (Z_X10_atOf_95 l D aC b u_1 x1 x3 hj_4.1 ⟨by have hb_ := z32 x1; omega, by have hb_ := z32 x1; omega⟩ ⟨by have hb_ := z32 x3; omega, by have hb_ := z32 x3; omega⟩) cv_X10_255 rfl rfl rfl (jv_lt hj_4 (by decide)) (Nat.le_of_ble_eq_true rfl) (Nat.le_of_ble_eq_true rfl) ⟨(Nat.le_of_ble_eq_true rfl), (Nat.le_of_ble_eq_true rfl)⟩ (Nat.le_of_ble_eq_true rfl) dX10_apart_38 (fun z_24 u_22 hp_23 => ?_)
        obtain ⟨hz_24, hxz_24, hp_23⟩ := hp_23
        subst hp_23
        refine s_aload_n E dX10_apart_41 rfl rfl ?_
        refine s_iload_n E dX10_apart_42 rfl rfl ?_
        refine s_iload_n E dX10_apart_43 rfl rfl ?_
        refine s_vI (As := [AI x2, AI x3]) (S := [AI z_24, AI z_20, AR 95]) E (Z_X10_atOf_95 l D aC b u_1 x2 x3 hj_4.1 ⟨by have hb_ := z32 x2; omega, by have hb_ := z32 x2; omega⟩ ⟨by have hb_ := z32 x3; omega, by have hb_ := z32 x3; omega⟩) cv_X10_255 rfl rfl rfl (jv_lt hj_4 (by decide)) (Nat.le_of_ble_eq_true rfl) (Nat.le_of_ble_eq_true rfl) ⟨(Nat.le_of_ble_eq_true rfl), (Nat.le_of_ble_eq_true rfl)⟩ (Nat.le_of_ble_eq_true rfl) dX10_apart_44 (fun z_28 u_26 hp_27 => ?_)
        obtain ⟨hz_28, hxz_28, hp_27⟩ := hp_27
        subst hp_27
        refine s_vI (As := [AI z_20, AI z_24, AI z_28]) (S := []) E (Z_X10_wayOf_95 l D aC b u_1 z_20 z_24 z_28 hj_4.1 ⟨by have hb_ := z32 z_20; omega, by have hb_ := z32 z_20; omega⟩ ⟨by have hb_ := z32 z_24; omega, by have hb_ := z32 z_24; omega⟩ ⟨by have hb_ := z32 z_28; omega, by have hb_ := z32 z_28; omega⟩) cv_X10_233 rfl rfl rfl (jv_lt hj_4 (by decide)) (Nat.le_of_ble_eq_true rfl) (Nat.le_of_ble_eq_true rfl) ⟨(Nat.le_of_ble_eq_true rfl), (Nat.le_of_ble_eq_true rfl)⟩ (Nat.le_of_ble_eq_true rfl) dX10_apart_47 (fun z_32 u_30 hp_31 => ?_)
        obtain ⟨hz_32, hxz_32, hp_31⟩ := hp_31
        subst hp_31
        refine s_istore (L2 := [some (AR 95), some (AI x1), some (AI x2), some (AI x3), some (AI z_32)]) E dX10_apart_50 (by decide) rfl ?_
        refine s_iload E dX10_apart_52 rfl ?_
        refine s_ldc E k_1513 rfl dX10_apart_54 ?_
        refine z_icmp_lt (tgt := 63) (u := z_32.toInt) (v := 1000000000) E dX10_apart_56 (by decide) rfl (by decide) (fun h_34 => ?_) (fun h_34 => ?_)
        ·
          refine s_iload E dX10_apart_63 rfl ?_
          exact r_int E dX10_apart_65 ⟨⟨by have hb_ := z32 z_32; omega, by have hb_ := z32 z_32; omega, by first | (right; decide) | (have hb_ := z32 z_32; omega) | (have hb_ := z32 z_32; have hc_ := z32 x1; omega), by first | (right; decide) | (have hb_ := z32 z_32; omega) | (have hb_ := z32 z_32; have hc_ := z32 x2; omega), by first | (right; decide) | (have hb_ := z32 z_32; omega) | (have hb_ := z32 z_32; have hc_ := z32 x3; omega)⟩, hj_4⟩
        ·
          refine s_iconst (v := (-1)) E dX10_apart_59 (by decide) ?_
          refine s_goto (tgt := 65) E dX10_apart_60 (by decide) ?_
          exact r_int E dX10_apart_65 ⟨⟨by decide, by decide, by first | (left; decide) | (right; decide) | (right; have hb_ := z32 x1; omega), by first | (left; decide) | (right; decide) | (right; have hb_ := z32 x2; omega), by first | (left; decide) | (right; decide) | (right; have hb_ := z32 x3; omega)⟩, hj_4⟩
      ·
        refine s_bipush (v := (-2)) E dX10_apart_26 (by decide) ?_
        exact r_int E dX10_apart_28 ⟨⟨by decide, by decide, by first | (left; decide) | (right; decide) | (right; have hb_ := z32 x1; omega), by first | (left; decide) | (right; decide) | (right; have hb_ := z32 x2; omega), by first | (left; decide) | (right; decide) | (right; have hb_ := z32 x3; omega)⟩, hj_4⟩
set_option maxRecDepth 20000 in
set_option maxHeartbeats 2000000 in
theorem Z_X10_alone_95 (l : Launch) (D : va_G) (aC : Nat → ClassId) (b : Nat) (w : XW) (x1 : Int32) (hI : Iv w)  : CnI l D aC b M_X10_alone 5 113 0 0 [AR 95, AI x1] w (fun r u => ((-2147483648) ≤ r.toInt ∧ r.toInt ≤ 2147483647 ∧ (¬ r.toInt = 0 ∨ (0 ≤ x1.toInt ∧ x1.toInt ≤ 14))) ∧ Jv w u) := by
  refine cn_I (own := RX10) (nm := "alone") (L0 := [some (AR 95), some (AI x1), none, none]) (by decide +kernel) rfl rfl (Nat.le_of_ble_eq_true rfl) rfl ?_
  intro p e s m args below meth c E hin
  have hJ : Jv w w := jv_rfl hI
  have hb_x1 := z32 x1
  refine s_aload_n E dX10_alone_0 rfl rfl ?_
  refine s_iload_n E dX10_alone_1 rfl rfl ?_
  refine s_vI (As := [AI x1]) (S := []) E (Z_X10_asksDance_95 l D aC b w x1 hJ.1 ) cv_X10_294 rfl rfl rfl (jv_lt hJ (by decide)) (Nat.le_of_ble_eq_true rfl) (Nat.le_of_ble_eq_true rfl) ⟨(Nat.le_of_ble_eq_true rfl), (Nat.le_of_ble_eq_true rfl)⟩ (Nat.le_of_ble_eq_true rfl) dX10_alone_2 (fun z_3 u_1 hp_2 => ?_)
  obtain ⟨hz_3, hp_2⟩ := hp_2
  have hj_4 := jv_trans hJ hp_2
  refine z_if_ne (tgt := 11) (u := z_3.toInt) E dX10_alone_5 (by decide) rfl (fun h_5 => ?_) (fun h_5 => ?_)
  ·
    refine s_iconst (v := 0) E dX10_alone_11 (by decide) ?_
    refine s_istore_n (L2 := [some (AR 95), some (AI x1), some (AI 0), none]) E dX10_alone_12 rfl (by decide) rfl ?_
    refine s_iconst (v := 0) E dX10_alone_13 (by decide) ?_
    refine s_istore_n (L2 := [some (AR 95), some (AI x1), some (AI 0), some (AI 0)]) E dX10_alone_14 rfl (by decide) rfl ?_
    refine z_loop (St := Int32 × Int32) (Pi := fun ⟨q15_2_5, q15_3_5⟩ v15 => (0 ≤ q15_3_5.toInt ∧ q15_3_5.toInt ≤ 6) ∧ u_1 = v15) (Lf := fun ⟨q15_2_5, q15_3_5⟩ => [some (AR 95), some (AI x1), some (AI q15_2_5), some (AI q15_3_5)]) (fun ⟨q15_2_5, q15_3_5⟩ _ => (7 - q15_3_5.toInt).toNat) ⟨0, 0⟩ ⟨⟨by decide, by decide⟩, rfl⟩ ?_
    rintro ⟨q15_2_5, q15_3_5⟩ v15 ⟨hq15_3, hv_⟩ ih15
    subst hv_
    have hbq15_2 := z32 q15_2_5
    refine s_loc (L2 := [some (AR 95), some (AI x1), some (AI q15_2_5), some (AI q15_3_5)]) rfl ?_
    refine s_iload_n E dX10_alone_15 rfl rfl ?_
    refine s_aload_n E dX10_alone_16 rfl rfl ?_
    refine s_vI (As := []) (S := [AI q15_3_5]) E (Z_X10_ladies_95 l D aC b u_1  hj_4.1 ) cv_X10_244 rfl rfl rfl (jv_lt hj_4 (by decide)) (Nat.le_of_ble_eq_true rfl) (Nat.le_of_ble_eq_true rfl) ⟨(Nat.le_of_ble_eq_true rfl), (Nat.le_of_ble_eq_true rfl)⟩ (Nat.le_of_ble_eq_true rfl) dX10_alone_17 (fun z_9 u_7 hp_8 => ?_)
    obtain ⟨hz_9, hxz_9, hp_8⟩ := hp_8
    subst hp_8
    refine z_icmp_ge (tgt := 57) (u := q15_3_5.toInt) (v := z_9.toInt) E dX10_alone_20 (by decide) rfl rfl (fun h_11 => ?_) (fun h_11 => ?_)
    ·
      refine s_iload_n E dX10_alone_57 rfl rfl ?_
      exact r_int E dX10_alone_58 ⟨⟨by have hb_ := z32 q15_2_5; omega, by have hb_ := z32 q15_2_5; omega, by first | (right; decide) | (have hb_ := z32 q15_2_5; omega) | (have hb_ := z32 q15_2_5; have hc_ := z32 x1; omega)⟩, hj_4⟩
    ·
      refine s_iload_n E dX10_alone_23 rfl rfl ?_
      refine s_aload_n E dX10_alone_24 rfl rfl ?_
      refine s_aload_n E dX10_alone_25 rfl rfl ?_
      refine s_iload_n E dX10_alone_26 rfl rfl ?_
      refine s_iload_n E dX10_alone_27 rfl rfl ?_
      refine s_vI (As := [AI q15_3_5, AI x1]) (S := [AR 95, AI q15_2_5]) E (Z_X10_atOf_95 l D aC b u_1 q15_3_5 x1 hj_4.1 ⟨by have hb_ := z32 q15_3_5; omega, by have hb_ := z32 q15_3_5; omega⟩ ⟨by have hb_ := z32 x1; omega, by have hb_ := z32 x1; omega⟩) cv_X10_255 rfl rfl rfl (jv_lt hj_4 (by decide)) (Nat.le_of_ble_eq_true rfl) (Nat.le_of_ble_eq_true rfl) ⟨(Nat.le_of_ble_eq_true rfl), (Nat.le_of_ble_eq_true rfl)⟩ (Nat.le_of_ble_eq_true rfl) dX10_alone_28 (fun z_14 u_12 hp_13 => ?_)
      obtain ⟨hz_14, hxz_14, hp_13⟩ := hp_13
      subst hp_13
      refine s_iload_n E dX10_alone_31 rfl rfl ?_
      refine s_vI (As := [AI z_14, AI x1]) (S := [AI q15_2_5]) E (Z_X10_withinOf_95 l D aC b u_1 z_14 x1 hj_4.1 ⟨by have hb_ := z32 x1; omega, by have hb_ := z32 x1; omega⟩) cv_X10_297 rfl rfl rfl (jv_lt hj_4 (by decide)) (Nat.le_of_ble_eq_true rfl) (Nat.le_of_ble_eq_true rfl) ⟨(Nat.le_of_ble_eq_true rfl), (Nat.le_of_ble_eq_true rfl)⟩ (Nat.le_of_ble_eq_true rfl) dX10_alone_32 (fun z_18 u_16 hp_17 => ?_)
      obtain ⟨hz_18, hxz_18, hp_17⟩ := hp_17
      subst hp_17
      refine s_sI (As := [AI z_18]) (S := [AI q15_2_5]) E (Z_X10_bits l D aC b u_1 z_18 hj_4.1 ) cs_X10_319 rfl rfl (Nat.le_of_ble_eq_true rfl) (Nat.le_of_ble_eq_true rfl) ⟨(Nat.le_of_ble_eq_true rfl), (Nat.le_of_ble_eq_true rfl)⟩ (Nat.le_of_ble_eq_true rfl) dX10_alone_35 (fun z_22 u_20 hp_21 => ?_)
      obtain ⟨hz_22, hp_21⟩ := hp_21
      subst hp_21
      refine s_iconst (v := 1) E dX10_alone_38 (by decide) ?_
      refine z_icmp_ne (tgt := 48) (u := z_22.toInt) (v := 1) E dX10_alone_39 (by decide) rfl (by decide) (fun h_24 => ?_) (fun h_24 => ?_)
      ·
        refine s_iconst (v := 0) E dX10_alone_48 (by decide) ?_
        refine s_ior E dX10_alone_49 ?_
        refine z_nm (P := fun z => (-2147483648) ≤ z.toInt ∧ z.toInt ≤ 2147483647) (z32 _) (fun z_25 hz_25 => ?_)
        refine s_istore_n (L2 := [some (AR 95), some (AI x1), some (AI z_25), some (AI q15_3_5)]) E dX10_alone_50 rfl (by decide) rfl ?_
        refine z_iinc (u := q15_3_5.toInt) (L2 := fun z_26 => [some (AR 95), some (AI x1), some (AI z_25), some (AI z_26)]) E dX10_alone_51 rfl rfl (by decide) (fun _ => rfl) (by decide) (by omega) (by omega) (fun z_26 hz_26 => ?_)
        refine s_goto (tgt := 15) E dX10_alone_54 (by decide) ?_
        exact ih15 ⟨z_25, z_26⟩ u_1 ⟨⟨by have hb_ := z32 z_26; omega, by have hb_ := z32 z_26; omega⟩, rfl⟩ (by first | omega | decide | (dsimp only; omega) | (dsimp only; decide))
      ·
        refine s_iconst (v := 1) E dX10_alone_42 (by decide) ?_
        refine s_iload_n E dX10_alone_43 rfl rfl ?_
        refine z_shl1 5 (u := q15_3_5.toInt) (B := 32) E dX10_alone_44 rfl (by omega) (by omega) (by decide) (by decide) (fun z_27 hz_27 => ?_)
        refine s_goto (tgt := 49) E dX10_alone_45 (by decide) ?_
        refine s_ior E dX10_alone_49 ?_
        refine z_nm (P := fun z => (-2147483648) ≤ z.toInt ∧ z.toInt ≤ 2147483647) (z32 _) (fun z_28 hz_28 => ?_)
        refine s_istore_n (L2 := [some (AR 95), some (AI x1), some (AI z_28), some (AI q15_3_5)]) E dX10_alone_50 rfl (by decide) rfl ?_
        refine z_iinc (u := q15_3_5.toInt) (L2 := fun z_29 => [some (AR 95), some (AI x1), some (AI z_28), some (AI z_29)]) E dX10_alone_51 rfl rfl (by decide) (fun _ => rfl) (by decide) (by omega) (by omega) (fun z_29 hz_29 => ?_)
        refine s_goto (tgt := 15) E dX10_alone_54 (by decide) ?_
        exact ih15 ⟨z_28, z_29⟩ u_1 ⟨⟨by have hb_ := z32 z_29; omega, by have hb_ := z32 z_29; omega⟩, rfl⟩ (by first | omega | decide | (dsimp only; omega) | (dsimp only; decide))
  ·
    refine s_bipush (v := (-2)) E dX10_alone_8 (by decide) ?_
    exact r_int E dX10_alone_10 ⟨⟨by decide, by decide, by first | (left; decide) | (right; decide) | (right; have hb_ := z32 x1; omega)⟩, hj_4⟩
set_option maxRecDepth 20000 in
set_option maxHeartbeats 2000000 in
theorem Z_X10_empty_95 (l : Launch) (D : va_G) (aC : Nat → ClassId) (b : Nat) (w : XW) (x1 : Int32) (hI : Iv w)  : CnI l D aC b M_X10_empty 5 113 0 0 [AR 95, AI x1] w (fun r u => ((-2147483648) ≤ r.toInt ∧ r.toInt ≤ 2147483647 ∧ (¬ r.toInt = 0 ∨ (0 ≤ x1.toInt ∧ x1.toInt ≤ 14))) ∧ Jv w u) := by
  refine cn_I (own := RX10) (nm := "empty") (L0 := [some (AR 95), some (AI x1), none, none]) (by decide +kernel) rfl rfl (Nat.le_of_ble_eq_true rfl) rfl ?_
  intro p e s m args below meth c E hin
  have hJ : Jv w w := jv_rfl hI
  have hb_x1 := z32 x1
  refine s_aload_n E dX10_empty_0 rfl rfl ?_
  refine s_iload_n E dX10_empty_1 rfl rfl ?_
  refine s_vI (As := [AI x1]) (S := []) E (Z_X10_asksDance_95 l D aC b w x1 hJ.1 ) cv_X10_294 rfl rfl rfl (jv_lt hJ (by decide)) (Nat.le_of_ble_eq_true rfl) (Nat.le_of_ble_eq_true rfl) ⟨(Nat.le_of_ble_eq_true rfl), (Nat.le_of_ble_eq_true rfl)⟩ (Nat.le_of_ble_eq_true rfl) dX10_empty_2 (fun z_3 u_1 hp_2 => ?_)
  obtain ⟨hz_3, hp_2⟩ := hp_2
  have hj_4 := jv_trans hJ hp_2
  refine z_if_ne (tgt := 11) (u := z_3.toInt) E dX10_empty_5 (by decide) rfl (fun h_5 => ?_) (fun h_5 => ?_)
  ·
    refine s_iconst (v := 0) E dX10_empty_11 (by decide) ?_
    refine s_istore_n (L2 := [some (AR 95), some (AI x1), some (AI 0), none]) E dX10_empty_12 rfl (by decide) rfl ?_
    refine s_iconst (v := 0) E dX10_empty_13 (by decide) ?_
    refine s_istore_n (L2 := [some (AR 95), some (AI x1), some (AI 0), some (AI 0)]) E dX10_empty_14 rfl (by decide) rfl ?_
    refine z_loop (St := Int32 × Int32) (Pi := fun ⟨q15_2_5, q15_3_5⟩ v15 => (0 ≤ q15_3_5.toInt ∧ q15_3_5.toInt ≤ 8) ∧ u_1 = v15) (Lf := fun ⟨q15_2_5, q15_3_5⟩ => [some (AR 95), some (AI x1), some (AI q15_2_5), some (AI q15_3_5)]) (fun ⟨q15_2_5, q15_3_5⟩ _ => (9 - q15_3_5.toInt).toNat) ⟨0, 0⟩ ⟨⟨by decide, by decide⟩, rfl⟩ ?_
    rintro ⟨q15_2_5, q15_3_5⟩ v15 ⟨hq15_3, hv_⟩ ih15
    subst hv_
    have hbq15_2 := z32 q15_2_5
    refine s_loc (L2 := [some (AR 95), some (AI x1), some (AI q15_2_5), some (AI q15_3_5)]) rfl ?_
    refine s_iload_n E dX10_empty_15 rfl rfl ?_
    refine s_aload_n E dX10_empty_16 rfl rfl ?_
    refine s_gR (r := 96) E fg_X10_9 rfl rfl (jv_lt hj_4 (by decide)) (jv_r hj_4 (by decide +kernel)) dX10_empty_17 ?_
    refine s_iconst (v := 0) E dX10_empty_20 (by decide) ?_
    refine s_iald E rfl (jv_lt hj_4 (by decide)) (z_in (u := 0) (by decide) (by omega) (by omega)) dX10_empty_21 ?_
    refine z_nm (P := fun z => z.toInt = (u_1.2.2.1 96 0).toInt ∧ 0 ≤ z.toInt ∧ z.toInt ≤ 8) ⟨rfl, (rw_96_0 hj_4)⟩ (fun z_7 hz_7 => ?_)
    refine z_icmp_ge (tgt := 50) (u := q15_3_5.toInt) (v := z_7.toInt) E dX10_empty_22 (by decide) rfl rfl (fun h_8 => ?_) (fun h_8 => ?_)
    ·
      refine s_iload_n E dX10_empty_50 rfl rfl ?_
      exact r_int E dX10_empty_51 ⟨⟨by have hb_ := z32 q15_2_5; omega, by have hb_ := z32 q15_2_5; omega, by first | (right; decide) | (have hb_ := z32 q15_2_5; omega) | (have hb_ := z32 q15_2_5; have hc_ := z32 x1; omega)⟩, hj_4⟩
    ·
      refine s_iload_n E dX10_empty_25 rfl rfl ?_
      refine s_aload_n E dX10_empty_26 rfl rfl ?_
      refine s_iload_n E dX10_empty_27 rfl rfl ?_
      refine s_iload_n E dX10_empty_28 rfl rfl ?_
      refine s_vI (As := [AI q15_3_5, AI x1]) (S := [AI q15_2_5]) E (Z_X10_withinOf_95 l D aC b u_1 q15_3_5 x1 hj_4.1 ⟨by have hb_ := z32 x1; omega, by have hb_ := z32 x1; omega⟩) cv_X10_297 rfl rfl rfl (jv_lt hj_4 (by decide)) (Nat.le_of_ble_eq_true rfl) (Nat.le_of_ble_eq_true rfl) ⟨(Nat.le_of_ble_eq_true rfl), (Nat.le_of_ble_eq_true rfl)⟩ (Nat.le_of_ble_eq_true rfl) dX10_empty_29 (fun z_11 u_9 hp_10 => ?_)
      obtain ⟨hz_11, hxz_11, hp_10⟩ := hp_10
      subst hp_10
      refine z_if_ne (tgt := 41) (u := z_11.toInt) E dX10_empty_32 (by decide) rfl (fun h_13 => ?_) (fun h_13 => ?_)
      ·
        refine s_iconst (v := 0) E dX10_empty_41 (by decide) ?_
        refine s_ior E dX10_empty_42 ?_
        refine z_nm (P := fun z => (-2147483648) ≤ z.toInt ∧ z.toInt ≤ 2147483647) (z32 _) (fun z_14 hz_14 => ?_)
        refine s_istore_n (L2 := [some (AR 95), some (AI x1), some (AI z_14), some (AI q15_3_5)]) E dX10_empty_43 rfl (by decide) rfl ?_
        refine z_iinc (u := q15_3_5.toInt) (L2 := fun z_15 => [some (AR 95), some (AI x1), some (AI z_14), some (AI z_15)]) E dX10_empty_44 rfl rfl (by decide) (fun _ => rfl) (by decide) (by omega) (by omega) (fun z_15 hz_15 => ?_)
        refine s_goto (tgt := 15) E dX10_empty_47 (by decide) ?_
        exact ih15 ⟨z_14, z_15⟩ u_1 ⟨⟨by have hb_ := z32 z_15; omega, by have hb_ := z32 z_15; omega⟩, rfl⟩ (by first | omega | decide | (dsimp only; omega) | (dsimp only; decide))
      ·
        refine s_iconst (v := 1) E dX10_empty_35 (by decide) ?_
        refine s_iload_n E dX10_empty_36 rfl rfl ?_
        refine z_shl1 7 (u := q15_3_5.toInt) (B := 128) E dX10_empty_37 rfl (by omega) (by omega) (by decide) (by decide) (fun z_16 hz_16 => ?_)
        refine s_goto (tgt := 42) E dX10_empty_38 (by decide) ?_
        refine s_ior E dX10_empty_42 ?_
        refine z_nm (P := fun z => (-2147483648) ≤ z.toInt ∧ z.toInt ≤ 2147483647) (z32 _) (fun z_17 hz_17 => ?_)
        refine s_istore_n (L2 := [some (AR 95), some (AI x1), some (AI z_17), some (AI q15_3_5)]) E dX10_empty_43 rfl (by decide) rfl ?_
        refine z_iinc (u := q15_3_5.toInt) (L2 := fun z_18 => [some (AR 95), some (AI x1), some (AI z_17), some (AI z_18)]) E dX10_empty_44 rfl rfl (by decide) (fun _ => rfl) (by decide) (by omega) (by omega) (fun z_18 hz_18 => ?_)
        refine s_goto (tgt := 15) E dX10_empty_47 (by decide) ?_
        exact ih15 ⟨z_17, z_18⟩ u_1 ⟨⟨by have hb_ := z32 z_18; omega, by have hb_ := z32 z_18; omega⟩, rfl⟩ (by first | omega | decide | (dsimp only; omega) | (dsimp only; decide))
  ·
    refine s_bipush (v := (-2)) E dX10_empty_8 (by decide) ?_
    exact r_int E dX10_empty_10 ⟨⟨by decide, by decide, by first | (left; decide) | (right; decide) | (right; have hb_ := z32 x1; omega)⟩, hj_4⟩
set_option maxRecDepth 20000 in
set_option maxHeartbeats 2000000 in
theorem Z_X10_late_95 (l : Launch) (D : va_G) (aC : Nat → ClassId) (b : Nat) (w : XW) (x1 : Int32) (hI : Iv w)  : CnI l D aC b M_X10_late 5 113 0 0 [AR 95, AI x1] w (fun r u => ((-2) ≤ r.toInt ∧ r.toInt ≤ 64 ∧ (¬ r.toInt = 0 ∨ (0 ≤ x1.toInt ∧ x1.toInt ≤ 5))) ∧ Jv w u) := by
  refine cn_I (own := RX10) (nm := "late") (L0 := [some (AR 95), some (AI x1), none, none]) (by decide +kernel) rfl rfl (Nat.le_of_ble_eq_true rfl) rfl ?_
  intro p e s m args below meth c E hin
  have hJ : Jv w w := jv_rfl hI
  have hb_x1 := z32 x1
  refine s_aload_n E dX10_late_0 rfl rfl ?_
  refine s_iload_n E dX10_late_1 rfl rfl ?_
  refine s_vI (As := [AI x1]) (S := []) E (Z_X10_asksLady_95 l D aC b w x1 hJ.1 ) cv_X10_288 rfl rfl rfl (jv_lt hJ (by decide)) (Nat.le_of_ble_eq_true rfl) (Nat.le_of_ble_eq_true rfl) ⟨(Nat.le_of_ble_eq_true rfl), (Nat.le_of_ble_eq_true rfl)⟩ (Nat.le_of_ble_eq_true rfl) dX10_late_2 (fun z_3 u_1 hp_2 => ?_)
  obtain ⟨hz_3, hxz_3, hp_2⟩ := hp_2
  have hj_4 := jv_trans hJ hp_2
  refine z_if_ne (tgt := 11) (u := z_3.toInt) E dX10_late_5 (by decide) rfl (fun h_5 => ?_) (fun h_5 => ?_)
  ·
    refine s_iconst (v := (-1)) E dX10_late_11 (by decide) ?_
    refine s_istore_n (L2 := [some (AR 95), some (AI x1), some (AI (-1)), none]) E dX10_late_12 rfl (by decide) rfl ?_
    refine s_iconst (v := 1) E dX10_late_13 (by decide) ?_
    refine s_istore_n (L2 := [some (AR 95), some (AI x1), some (AI (-1)), some (AI 1)]) E dX10_late_14 rfl (by decide) rfl ?_
    refine z_loop (St := Int32 × Int32) (Pi := fun ⟨q15_2_5, q15_3_5⟩ v15 => ((-1) ≤ q15_2_5.toInt ∧ q15_2_5.toInt ≤ 64) ∧ (1 ≤ q15_3_5.toInt ∧ q15_3_5.toInt ≤ 15) ∧ u_1 = v15) (Lf := fun ⟨q15_2_5, q15_3_5⟩ => [some (AR 95), some (AI x1), some (AI q15_2_5), some (AI q15_3_5)]) (fun ⟨q15_2_5, q15_3_5⟩ _ => (16 - q15_3_5.toInt).toNat) ⟨(-1), 1⟩ ⟨⟨by decide, by decide⟩, ⟨by decide, by decide⟩, rfl⟩ ?_
    rintro ⟨q15_2_5, q15_3_5⟩ v15 ⟨hq15_2, hq15_3, hv_⟩ ih15
    subst hv_
    refine s_loc (L2 := [some (AR 95), some (AI x1), some (AI q15_2_5), some (AI q15_3_5)]) rfl ?_
    refine s_iload_n E dX10_late_15 rfl rfl ?_
    refine s_aload_n E dX10_late_16 rfl rfl ?_
    refine s_vI (As := []) (S := [AI q15_3_5]) E (Z_X10_dances_95 l D aC b u_1  hj_4.1 ) cv_X10_247 rfl rfl rfl (jv_lt hj_4 (by decide)) (Nat.le_of_ble_eq_true rfl) (Nat.le_of_ble_eq_true rfl) ⟨(Nat.le_of_ble_eq_true rfl), (Nat.le_of_ble_eq_true rfl)⟩ (Nat.le_of_ble_eq_true rfl) dX10_late_17 (fun z_9 u_7 hp_8 => ?_)
    obtain ⟨hz_9, hxz_9, hp_8⟩ := hp_8
    subst hp_8
    refine z_icmp_gt (tgt := 52) (u := q15_3_5.toInt) (v := z_9.toInt) E dX10_late_20 (by decide) rfl rfl (fun h_11 => ?_) (fun h_11 => ?_)
    ·
      refine s_iload_n E dX10_late_52 rfl rfl ?_
      exact r_int E dX10_late_53 ⟨⟨by have hb_ := z32 q15_2_5; omega, by have hb_ := z32 q15_2_5; omega, by first | (right; decide) | (have hb_ := z32 q15_2_5; omega) | (have hb_ := z32 q15_2_5; have hc_ := z32 x1; omega)⟩, hj_4⟩
    ·
      refine s_aload_n E dX10_late_23 rfl rfl ?_
      refine s_iload_n E dX10_late_24 rfl rfl ?_
      refine s_iload_n E dX10_late_25 rfl rfl ?_
      refine s_vI (As := [AI x1, AI q15_3_5]) (S := []) E (Z_X10_atOf_95 l D aC b u_1 x1 q15_3_5 hj_4.1 ⟨by have hb_ := z32 x1; omega, by have hb_ := z32 x1; omega⟩ ⟨by have hb_ := z32 q15_3_5; omega, by have hb_ := z32 q15_3_5; omega⟩) cv_X10_255 rfl rfl rfl (jv_lt hj_4 (by decide)) (Nat.le_of_ble_eq_true rfl) (Nat.le_of_ble_eq_true rfl) ⟨(Nat.le_of_ble_eq_true rfl), (Nat.le_of_ble_eq_true rfl)⟩ (Nat.le_of_ble_eq_true rfl) dX10_late_26 (fun z_14 u_12 hp_13 => ?_)
      obtain ⟨hz_14, hxz_14, hp_13⟩ := hp_13
      subst hp_13
      refine s_aload_n E dX10_late_29 rfl rfl ?_
      refine s_iload_n E dX10_late_30 rfl rfl ?_
      refine s_iload_n E dX10_late_31 rfl rfl ?_
      refine s_iconst (v := 1) E dX10_late_32 (by decide) ?_
      refine z_isub (u := q15_3_5.toInt) (v := 1) E dX10_late_33 rfl (by decide) (by omega) (by omega) (fun z_16 hz_16 => ?_)
      refine s_vI (As := [AI x1, AI z_16]) (S := [AI z_14]) E (Z_X10_atOf_95 l D aC b u_1 x1 z_16 hj_4.1 ⟨by have hb_ := z32 x1; omega, by have hb_ := z32 x1; omega⟩ ⟨by have hb_ := z32 z_16; omega, by have hb_ := z32 z_16; omega⟩) cv_X10_255 rfl rfl rfl (jv_lt hj_4 (by decide)) (Nat.le_of_ble_eq_true rfl) (Nat.le_of_ble_eq_true rfl) ⟨(Nat.le_of_ble_eq_true rfl), (Nat.le_of_ble_eq_true rfl)⟩ (Nat.le_of_ble_eq_true rfl) dX10_late_34 (fun z_19 u_17 hp_18 => ?_)
      obtain ⟨hz_19, hxz_19, hp_18⟩ := hp_18
      subst hp_18
      refine z_icmp_eq (tgt := 44) (u := z_14.toInt) (v := z_19.toInt) E dX10_late_37 (by decide) rfl rfl (fun h_21 => ?_) (fun h_21 => ?_)
      ·
        refine s_iload_n E dX10_late_44 rfl rfl ?_
        refine s_istore_n (L2 := [some (AR 95), some (AI x1), some (AI q15_2_5), some (AI q15_3_5)]) E dX10_late_45 rfl (by decide) rfl ?_
        refine z_iinc (u := q15_3_5.toInt) (L2 := fun z_22 => [some (AR 95), some (AI x1), some (AI q15_2_5), some (AI z_22)]) E dX10_late_46 rfl rfl (by decide) (fun _ => rfl) (by decide) (by omega) (by omega) (fun z_22 hz_22 => ?_)
        refine s_goto (tgt := 15) E dX10_late_49 (by decide) ?_
        exact ih15 ⟨q15_2_5, z_22⟩ u_1 ⟨⟨by have hb_ := z32 q15_2_5; omega, by have hb_ := z32 q15_2_5; omega⟩, ⟨by have hb_ := z32 z_22; omega, by have hb_ := z32 z_22; omega⟩, rfl⟩ (by first | omega | decide | (dsimp only; omega) | (dsimp only; decide))
      ·
        refine s_iload_n E dX10_late_40 rfl rfl ?_
        refine s_goto (tgt := 45) E dX10_late_41 (by decide) ?_
        refine s_istore_n (L2 := [some (AR 95), some (AI x1), some (AI q15_3_5), some (AI q15_3_5)]) E dX10_late_45 rfl (by decide) rfl ?_
        refine z_iinc (u := q15_3_5.toInt) (L2 := fun z_23 => [some (AR 95), some (AI x1), some (AI q15_3_5), some (AI z_23)]) E dX10_late_46 rfl rfl (by decide) (fun _ => rfl) (by decide) (by omega) (by omega) (fun z_23 hz_23 => ?_)
        refine s_goto (tgt := 15) E dX10_late_49 (by decide) ?_
        exact ih15 ⟨q15_3_5, z_23⟩ u_1 ⟨⟨by have hb_ := z32 q15_3_5; omega, by have hb_ := z32 q15_3_5; omega⟩, ⟨by have hb_ := z32 z_23; omega, by have hb_ := z32 z_23; omega⟩, rfl⟩ (by first | omega | decide | (dsimp only; omega) | (dsimp only; decide))
  ·
    refine s_bipush (v := (-2)) E dX10_late_8 (by decide) ?_
    exact r_int E dX10_late_10 ⟨⟨by decide, by decide, by first | (left; decide) | (right; decide) | (right; have hb_ := z32 x1; omega)⟩, hj_4⟩
