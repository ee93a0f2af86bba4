set_option maxRecDepth 20000 in
set_option maxHeartbeats 2000000 in
theorem Z_X2_distance_75 (l : Launch) (D : va_G) (aC : Nat → ClassId) (b : Nat) (w : XW) (x1 : Int32) (x2 : Int32) (x3 : Int32) (hI : Iv w)  : CnI l D aC b M_X2_distance 2 46 0 0 [AR 75, AI x1, AI x2, AI x3] w (fun r u => ((-1) ≤ r.toInt ∧ r.toInt ≤ 7 ∧ (¬ r.toInt = 0 ∨ (0 ≤ x3.toInt ∧ x3.toInt ≤ 31))) ∧ Jv w u) := by
  refine cn_I (own := RX2) (nm := "distance") (L0 := [some (AR 75), some (AI x1), some (AI x2), some (AI x3), none, none]) (by decide +kernel) rfl rfl (Nat.le_of_ble_eq_true rfl) rfl ?_
  intro p e s m args below meth c E hin
  have hJ : Jv w w := jv_rfl hI
  refine s_iconst (v := 1) E dX2_distance_0 (by decide) ?_
  refine s_iload_n E dX2_distance_1 rfl rfl ?_
  refine s_ishl E dX2_distance_2 ?_
  refine z_any (fun z_1 => ?_)
  refine s_istore (L2 := [some (AR 75), some (AI x1), some (AI x2), some (AI x3), some (AI z_1), none]) E dX2_distance_3 (by decide) rfl ?_
  refine s_iconst (v := 0) E dX2_distance_5 (by decide) ?_
  refine s_istore (L2 := [some (AR 75), some (AI x1), some (AI x2), some (AI x3), some (AI z_1), some (AI 0)]) E dX2_distance_6 (by decide) rfl ?_
  refine z_loop (St := Int32 × Int32) (Pi := fun ⟨q8_4_1, q8_5_1⟩ v8 => (0 ≤ q8_5_1.toInt ∧ q8_5_1.toInt ≤ 8) ∧ Jv w v8) (Lf := fun ⟨q8_4_1, q8_5_1⟩ => [some (AR 75), some (AI x1), some (AI x2), some (AI x3), some (AI q8_4_1), some (AI q8_5_1)]) (fun ⟨q8_4_1, q8_5_1⟩ _ => (9 - q8_5_1.toInt).toNat) ⟨z_1, 0⟩ ⟨⟨by decide, by decide⟩, hJ⟩ ?_
  rintro ⟨q8_4_1, q8_5_1⟩ v8 ⟨hq8_5, hj_2⟩ ih8
  refine s_loc (L2 := [some (AR 75), some (AI x1), some (AI x2), some (AI x3), some (AI q8_4_1), some (AI q8_5_1)]) rfl ?_
  refine s_iload E dX2_distance_8 rfl ?_
  refine s_aload_n E dX2_distance_10 rfl rfl ?_
  refine s_gI E fg_X2_63 rfl rfl (jv_lt hj_2 (by decide)) dX2_distance_11 ?_
  refine z_nm (P := fun z => z.toInt = (v8.2.2.1 75 6).toInt ∧ 0 ≤ z.toInt ∧ z.toInt ≤ 8) ⟨rfl, (rg_75_6 hj_2)⟩ (fun z_3 hz_3 => ?_)
  refine z_icmp_ge (tgt := 44) (u := q8_5_1.toInt) (v := z_3.toInt) E dX2_distance_14 (by decide) rfl rfl (fun h_4 => ?_) (fun h_4 => ?_)
  ·
    refine s_iconst (v := (-1)) E dX2_distance_44 (by decide) ?_
    exact r_int E dX2_distance_45 ⟨⟨by decide, by decide, by first | (left; decide) | (right; have hb_ := z32 x3; omega)⟩, hj_2⟩
  ·
    refine s_iload E dX2_distance_17 rfl ?_
    refine s_iload_n E dX2_distance_19 rfl rfl ?_
    refine s_sI (As := [AI q8_4_1, AI x3]) (S := []) E (Z_X9_hasBit l D aC b v8 q8_4_1 x3 hj_2.1 ) cs_X2_123 rfl rfl (Nat.le_of_ble_eq_true rfl) (Nat.le_of_ble_eq_true rfl) ⟨(Nat.le_of_ble_eq_true rfl), (Nat.le_of_ble_eq_true rfl)⟩ (Nat.le_of_ble_eq_true rfl) dX2_distance_20 (fun z_7 u_5 hp_6 => ?_)
    obtain ⟨hz_7, hp_6⟩ := hp_6
    subst hp_6
    refine z_if_eq (tgt := 29) (u := z_7.toInt) E dX2_distance_23 (by decide) rfl (fun h_9 => ?_) (fun h_9 => ?_)
    ·
      refine s_aload_n E dX2_distance_29 rfl rfl ?_
      refine s_iload_n E dX2_distance_30 rfl rfl ?_
      refine s_iload E dX2_distance_31 rfl ?_
      refine s_vI (As := [AI x1, AI q8_4_1]) (S := []) E (Z_X2_spread_75 l D aC b v8 x1 q8_4_1 hj_2.1 ) cv_X2_108 rfl rfl rfl (jv_lt hj_2 (by decide)) (Nat.le_of_ble_eq_true rfl) (Nat.le_of_ble_eq_true rfl) ⟨(Nat.le_of_ble_eq_true rfl), (Nat.le_of_ble_eq_true rfl)⟩ (Nat.le_of_ble_eq_true rfl) dX2_distance_33 (fun z_12 u_10 hp_11 => ?_)
      obtain ⟨hz_12, hp_11⟩ := hp_11
      have hj_13 := jv_trans hj_2 hp_11
      refine s_istore (L2 := [some (AR 75), some (AI x1), some (AI x2), some (AI x3), some (AI z_12), some (AI q8_5_1)]) E dX2_distance_36 (by decide) rfl ?_
      refine z_iinc (u := q8_5_1.toInt) (L2 := fun z_14 => [some (AR 75), some (AI x1), some (AI x2), some (AI x3), some (AI z_12), some (AI z_14)]) E dX2_distance_38 rfl rfl (by decide) (fun _ => rfl) (by decide) (by omega) (by omega) (fun z_14 hz_14 => ?_)
      refine s_goto (tgt := 8) E dX2_distance_41 (by decide) ?_
      exact ih8 ⟨z_12, z_14⟩ u_10 ⟨⟨by have hb_ := z32 z_14; omega, by have hb_ := z32 z_14; omega⟩, hj_13⟩ (by first | omega | (dsimp only; omega))
    ·
      refine s_iload E dX2_distance_26 rfl ?_
      exact r_int E dX2_distance_28 ⟨⟨by have hb_ := z32 q8_5_1; omega, by have hb_ := z32 q8_5_1; omega, by have hb_ := z32 q8_5_1; have hc_ := z32 x3; omega⟩, hj_2⟩
set_option maxRecDepth 20000 in
set_option maxHeartbeats 2000000 in
theorem Z_X9_bars_0 (l : Launch) (D : va_G) (aC : Nat → ClassId) (b : Nat) (w : XW) (x1 : Int32) (x2 : Int32) (x3 : Int32) (hI : Iv w)  : CnI l D aC b M_X9_bars 4 95 0 0 [AR 0, AI x1, AI x2, AI x3] w (fun r u => ((-2) ≤ r.toInt ∧ r.toInt ≤ 9) ∧ Jv w u) := by
  refine cn_I (own := RX9) (nm := "bars") (L0 := [some (AR 0), some (AI x1), some (AI x2), some (AI x3), none]) (by decide +kernel) rfl rfl (Nat.le_of_ble_eq_true rfl) rfl ?_
  intro p e s m args below meth c E hin
  have hJ : Jv w w := jv_rfl hI
  refine s_aload_n E dX9_bars_0 rfl rfl ?_
  refine s_gR (r := 2) E fg_X9_20 rfl rfl (jv_lt hJ (by decide)) (jv_r hJ (by decide +kernel)) dX9_bars_1 ?_
  refine s_iload_n E dX9_bars_4 rfl rfl ?_
  refine s_vI (As := [AI x1]) (S := []) E (Z_X0_hasLady_2 l D aC b w x1 hJ.1 ) cv_X9_139 rfl rfl rfl (jv_lt hJ (by decide)) (Nat.le_of_ble_eq_true rfl) (Nat.le_of_ble_eq_true rfl) ⟨(Nat.le_of_ble_eq_true rfl), (Nat.le_of_ble_eq_true rfl)⟩ (Nat.le_of_ble_eq_true rfl) dX9_bars_5 (fun z_3 u_1 hp_2 => ?_)
  obtain ⟨hz_3, hp_2⟩ := hp_2
  subst hp_2
  refine z_if_eq (tgt := 33) (u := z_3.toInt) E dX9_bars_8 (by decide) rfl (fun h_5 => ?_) (fun h_5 => ?_)
  ·
    refine s_bipush (v := (-2)) E dX9_bars_33 (by decide) ?_
    exact r_int E dX9_bars_35 ⟨(by decide), hJ⟩
  ·
    refine s_aload_n E dX9_bars_11 rfl rfl ?_
    refine s_gR (r := 2) E fg_X9_20 rfl rfl (jv_lt hJ (by decide)) (jv_r hJ (by decide +kernel)) dX9_bars_12 ?_
    refine s_iload_n E dX9_bars_15 rfl rfl ?_
    refine s_vI (As := [AI x2]) (S := []) E (Z_X0_hasRoom_2 l D aC b w x2 hJ.1 ) cv_X9_143 rfl rfl rfl (jv_lt hJ (by decide)) (Nat.le_of_ble_eq_true rfl) (Nat.le_of_ble_eq_true rfl) ⟨(Nat.le_of_ble_eq_true rfl), (Nat.le_of_ble_eq_true rfl)⟩ (Nat.le_of_ble_eq_true rfl) dX9_bars_16 (fun z_8 u_6 hp_7 => ?_)
    obtain ⟨hz_8, hp_7⟩ := hp_7
    subst hp_7
    refine z_if_eq (tgt := 33) (u := z_8.toInt) E dX9_bars_19 (by decide) rfl (fun h_10 => ?_) (fun h_10 => ?_)
    ·
      refine s_bipush (v := (-2)) E dX9_bars_33 (by decide) ?_
      exact r_int E dX9_bars_35 ⟨(by decide), hJ⟩
    ·
      refine s_aload_n E dX9_bars_22 rfl rfl ?_
      refine s_gR (r := 2) E fg_X9_20 rfl rfl (jv_lt hJ (by decide)) (jv_r hJ (by decide +kernel)) dX9_bars_23 ?_
      refine s_iload_n E dX9_bars_26 rfl rfl ?_
      refine s_vI (As := [AI x3]) (S := []) E (Z_X0_hasRoom_2 l D aC b w x3 hJ.1 ) cv_X9_143 rfl rfl rfl (jv_lt hJ (by decide)) (Nat.le_of_ble_eq_true rfl) (Nat.le_of_ble_eq_true rfl) ⟨(Nat.le_of_ble_eq_true rfl), (Nat.le_of_ble_eq_true rfl)⟩ (Nat.le_of_ble_eq_true rfl) dX9_bars_27 (fun z_13 u_11 hp_12 => ?_)
      obtain ⟨hz_13, hp_12⟩ := hp_12
      subst hp_12
      refine z_if_ne (tgt := 36) (u := z_13.toInt) E dX9_bars_30 (by decide) rfl (fun h_15 => ?_) (fun h_15 => ?_)
      ·
        refine s_iconst (v := 1) E dX9_bars_36 (by decide) ?_
        refine s_istore (L2 := [some (AR 0), some (AI x1), some (AI x2), some (AI x3), some (AI 1)]) E dX9_bars_37 (by decide) rfl ?_
        refine z_loop (St := Int32) (Pi := fun q39_4_15 v39 => (1 ≤ q39_4_15.toInt ∧ q39_4_15.toInt ≤ 10) ∧ Jv w v39) (Lf := fun q39_4_15 => [some (AR 0), some (AI x1), some (AI x2), some (AI x3), some (AI q39_4_15)]) (fun q39_4_15 _ => (11 - q39_4_15.toInt).toNat) 1 ⟨⟨by decide, by decide⟩, hJ⟩ ?_
        rintro q39_4_15 v39 ⟨hq39_4, hj_16⟩ ih39
        refine s_loc (L2 := [some (AR 0), some (AI x1), some (AI x2), some (AI x3), some (AI q39_4_15)]) rfl ?_
        refine s_iload E dX9_bars_39 rfl ?_
        refine s_bipush (v := 9) E dX9_bars_41 (by decide) ?_
        refine z_icmp_gt (tgt := 84) (u := q39_4_15.toInt) (v := 9) E dX9_bars_43 (by decide) rfl (by decide) (fun h_17 => ?_) (fun h_17 => ?_)
        ·
          refine s_iconst (v := (-1)) E dX9_bars_84 (by decide) ?_
          exact r_int E dX9_bars_85 ⟨(by decide), hj_16⟩
        ·
          refine s_aload_n E dX9_bars_46 rfl rfl ?_
          refine s_gR (r := 75) E fg_X9_58 rfl rfl (jv_lt hj_16 (by decide)) (jv_r hj_16 (by decide +kernel)) dX9_bars_47 ?_
          refine s_aload_n E dX9_bars_50 rfl rfl ?_
          refine s_gR (r := 2) E fg_X9_20 rfl rfl (jv_lt hj_16 (by decide)) (jv_r hj_16 (by decide +kernel)) dX9_bars_51 ?_
          refine s_bipush (v := (-2)) E dX9_bars_54 (by decide) ?_
          refine s_iload E dX9_bars_56 rfl ?_
          refine s_vV (As := [AR 2, AI (-2), AI q39_4_15]) (S := []) E (Z_X2_openDoors_75_r2 l D aC b v39 ((-2)) q39_4_15 hj_16.1 ) cv_X9_260 rfl rfl rfl (jv_lt hj_16 (by decide)) (Nat.le_of_ble_eq_true rfl) (Nat.le_of_ble_eq_true rfl) ⟨(Nat.le_of_ble_eq_true rfl), (Nat.le_of_ble_eq_true rfl)⟩ (Nat.le_of_ble_eq_true rfl) dX9_bars_58 (fun u_18 hp_19 => ?_)
          have hj_20 := jv_trans hj_16 hp_19
          refine s_aload_n E dX9_bars_61 rfl rfl ?_
          refine s_gR (r := 75) E fg_X9_58 rfl rfl (jv_lt hj_20 (by decide)) (jv_r hj_20 (by decide +kernel)) dX9_bars_62 ?_
          refine s_iload_n E dX9_bars_65 rfl rfl ?_
          refine s_iload_n E dX9_bars_66 rfl rfl ?_
          refine s_iload_n E dX9_bars_67 rfl rfl ?_
          refine s_vI (As := [AI x1, AI x2, AI x3]) (S := []) E (Z_X2_distance_75 l D aC b u_18 x1 x2 x3 hj_20.1 ) cv_X9_146 rfl rfl rfl (jv_lt hj_20 (by decide)) (Nat.le_of_ble_eq_true rfl) (Nat.le_of_ble_eq_true rfl) ⟨(Nat.le_of_ble_eq_true rfl), (Nat.le_of_ble_eq_true rfl)⟩ (Nat.le_of_ble_eq_true rfl) dX9_bars_68 (fun z_23 u_21 hp_22 => ?_)
          obtain ⟨hz_23, hp_22⟩ := hp_22
          have hj_24 := jv_trans hj_20 hp_22
          refine s_iconst (v := (-1)) E dX9_bars_71 (by decide) ?_
          refine z_icmp_eq (tgt := 78) (u := z_23.toInt) (v := (-1)) E dX9_bars_72 (by decide) rfl (by decide) (fun h_25 => ?_) (fun h_25 => ?_)
          ·
            refine z_iinc (u := q39_4_15.toInt) (L2 := fun z_26 => [some (AR 0), some (AI x1), some (AI x2), some (AI x3), some (AI z_26)]) E dX9_bars_78 rfl rfl (by decide) (fun _ => rfl) (by decide) (by omega) (by omega) (fun z_26 hz_26 => ?_)
            refine s_goto (tgt := 39) E dX9_bars_81 (by decide) ?_
            exact ih39 z_26 u_21 ⟨⟨by have hb_ := z32 z_26; omega, by have hb_ := z32 z_26; omega⟩, hj_24⟩ (by first | omega | (dsimp only; omega))
          ·
            refine s_iload E dX9_bars_75 rfl ?_
            exact r_int E dX9_bars_77 ⟨⟨by have hb_ := z32 q39_4_15; omega, by have hb_ := z32 q39_4_15; omega⟩, hj_24⟩
      ·
        refine s_bipush (v := (-2)) E dX9_bars_33 (by decide) ?_
        exact r_int E dX9_bars_35 ⟨(by decide), hJ⟩
set_option maxRecDepth 20000 in
set_option maxHeartbeats 2000000 in
theorem Z_X9_isSlot (l : Launch) (D : va_G) (aC : Nat → ClassId) (b : Nat) (w : XW) (x1 : Int32) (hI : Iv w)  : CnI l D aC b M_X9_isSlot 0 0 0 0 [AI x1] w (fun r u => (0 ≤ r.toInt ∧ r.toInt ≤ 1 ∧ (r.toInt = 0 ∨ (0 ≤ x1.toInt ∧ x1.toInt ≤ 3))) ∧ w = u) := by
  refine cn_I (own := RX9) (nm := "isSlot") (L0 := [some (AI x1)]) (by decide +kernel) rfl rfl (Nat.le_of_ble_eq_true rfl) rfl ?_
  intro p e s m args below meth c E hin
  have hJ : Jv w w := jv_rfl hI
  refine s_iload_n E dX9_isSlot_0 rfl rfl ?_
  refine z_if_lt (tgt := 13) (u := x1.toInt) E dX9_isSlot_1 (by decide) rfl (fun h_1 => ?_) (fun h_1 => ?_)
  ·
    refine s_iconst (v := 0) E dX9_isSlot_13 (by decide) ?_
    exact r_bool E dX9_isSlot_14 (Or.inl rfl) ⟨⟨by decide, by decide, by first | (left; decide) | (right; have hb_ := z32 x1; omega)⟩, rfl⟩
  ·
    refine s_iload_n E dX9_isSlot_4 rfl rfl ?_
    refine s_iconst (v := 4) E dX9_isSlot_5 (by decide) ?_
    refine z_icmp_ge (tgt := 13) (u := x1.toInt) (v := 4) E dX9_isSlot_6 (by decide) rfl (by decide) (fun h_2 => ?_) (fun h_2 => ?_)
    ·
      refine s_iconst (v := 0) E dX9_isSlot_13 (by decide) ?_
      exact r_bool E dX9_isSlot_14 (Or.inl rfl) ⟨⟨by decide, by decide, by first | (left; decide) | (right; have hb_ := z32 x1; omega)⟩, rfl⟩
    ·
      refine s_iconst (v := 1) E dX9_isSlot_9 (by decide) ?_
      refine s_goto (tgt := 14) E dX9_isSlot_10 (by decide) ?_
      exact r_bool E dX9_isSlot_14 (Or.inr rfl) ⟨⟨by decide, by decide, by first | (left; decide) | (right; have hb_ := z32 x1; omega)⟩, rfl⟩
set_option maxRecDepth 20000 in
set_option maxHeartbeats 2000000 in
theorem Z_X7_isBare_61 (l : Launch) (D : va_G) (aC : Nat → ClassId) (b : Nat) (w : XW)  (hI : Iv w)  : CnI l D aC b M_X7_isBare 0 0 0 0 [AR 61] w (fun r u => (0 ≤ r.toInt ∧ r.toInt ≤ 1 ∧ (¬ r.toInt = 0 ∨ (0 ≤ (w.2.2.1 61 2).toInt ∧ (w.2.2.1 61 2).toInt ≤ 60)) ∧ (r.toInt = 0 ∨ ((-1) ≤ (w.2.2.1 61 2).toInt ∧ (w.2.2.1 61 2).toInt ≤ (-1)))) ∧ w = u) := by
  refine cn_I (own := RX7) (nm := "isBare") (L0 := [some (AR 61)]) (by decide +kernel) rfl rfl (Nat.le_of_ble_eq_true rfl) rfl ?_
  intro p e s m args below meth c E hin
  have hJ : Jv w w := jv_rfl hI
  refine s_aload_n E dX7_isBare_0 rfl rfl ?_
  refine s_gI E fg_X7_15 rfl rfl (jv_lt hJ (by decide)) dX7_isBare_1 ?_
  refine z_nm (P := fun z => z.toInt = (w.2.2.1 61 2).toInt ∧ (-1) ≤ z.toInt ∧ z.toInt ≤ 60) ⟨rfl, (rg_61_2 hJ)⟩ (fun z_1 hz_1 => ?_)
  refine z_if_ge (tgt := 11) (u := z_1.toInt) E dX7_isBare_4 (by decide) rfl (fun h_2 => ?_) (fun h_2 => ?_)
  ·
    refine s_iconst (v := 0) E dX7_isBare_11 (by decide) ?_
    exact r_bool E dX7_isBare_12 (Or.inl rfl) ⟨⟨by decide, by decide, by first | (left; decide) | (right; have hb_ := z32 (w.2.2.1 61 2); omega), by first | (left; decide) | (right; have hb_ := z32 (w.2.2.1 61 2); omega)⟩, rfl⟩
  ·
    refine s_iconst (v := 1) E dX7_isBare_7 (by decide) ?_
    refine s_goto (tgt := 12) E dX7_isBare_8 (by decide) ?_
    exact r_bool E dX7_isBare_12 (Or.inr rfl) ⟨⟨by decide, by decide, by first | (left; decide) | (right; have hb_ := z32 (w.2.2.1 61 2); omega), by first | (left; decide) | (right; have hb_ := z32 (w.2.2.1 61 2); omega)⟩, rfl⟩
set_option maxRecDepth 20000 in
set_option maxHeartbeats 2000000 in
theorem Z_X7_cell_61 (l : Launch) (D : va_G) (aC : Nat → ClassId) (b : Nat) (w : XW) (x1 : Int32) (hI : Iv w)  : CnL l D aC b M_X7_cell 0 0 0 0 [AR 61, AI x1] w (fun r u => ((-9223372036854775808) ≤ r.toInt ∧ r.toInt ≤ 9223372036854775807) ∧ w = u) := by
  refine cn_L (own := RX7) (nm := "cell") (L0 := [some (AR 61), some (AI x1)]) (by decide +kernel) rfl rfl (Nat.le_of_ble_eq_true rfl) rfl ?_
  intro p e s m args below meth c E hin
  have hJ : Jv w w := jv_rfl hI
  refine s_iload_n E dX7_cell_0 rfl rfl ?_
  refine z_if_lt (tgt := 21) (u := x1.toInt) E dX7_cell_1 (by decide) rfl (fun h_1 => ?_) (fun h_1 => ?_)
  ·
    refine s_ldc2 E k_938 rfl dX7_cell_21 ?_
    exact r_long E dX7_cell_24 ⟨(by decide), rfl⟩
  ·
    refine s_iload_n E dX7_cell_4 rfl rfl ?_
    refine s_aload_n E dX7_cell_5 rfl rfl ?_
    refine s_gI E fg_X7_15 rfl rfl (jv_lt hJ (by decide)) dX7_cell_6 ?_
    refine z_nm (P := fun z => z.toInt = (w.2.2.1 61 2).toInt ∧ (-1) ≤ z.toInt ∧ z.toInt ≤ 60) ⟨rfl, (rg_61_2 hJ)⟩ (fun z_2 hz_2 => ?_)
    refine z_icmp_ge (tgt := 21) (u := x1.toInt) (v := z_2.toInt) E dX7_cell_9 (by decide) rfl rfl (fun h_3 => ?_) (fun h_3 => ?_)
    ·
      refine s_ldc2 E k_938 rfl dX7_cell_21 ?_
      exact r_long E dX7_cell_24 ⟨(by decide), rfl⟩
    ·
      refine s_aload_n E dX7_cell_12 rfl rfl ?_
      refine s_gR (r := 62) E fg_X7_11 rfl rfl (jv_lt hJ (by decide)) (jv_r hJ (by decide +kernel)) dX7_cell_13 ?_
      refine s_iload_n E dX7_cell_16 rfl rfl ?_
      refine s_lald E rfl (jv_lt hJ (by decide)) (z_in (u := x1.toInt) rfl (by omega) (by omega)) dX7_cell_17 ?_
      refine z_anyL (fun z_4 => ?_)
      refine s_goto (tgt := 24) E dX7_cell_18 (by decide) ?_
      exact r_long E dX7_cell_24 ⟨⟨by have hb_ := z64 z_4; omega, by have hb_ := z64 z_4; omega⟩, rfl⟩
set_option maxRecDepth 20000 in
set_option maxHeartbeats 2000000 in
theorem Z_X9_isSighting_0 (l : Launch) (D : va_G) (aC : Nat → ClassId) (b : Nat) (w : XW) (x1 : Int64) (x2 : Int64) (x3 : Int64) (hI : Iv w)  : CnI l D aC b M_X9_isSighting 0 0 0 0 [AR 0, AL x1, AL x2, AL x3] w (fun r u => (0 ≤ r.toInt ∧ r.toInt ≤ 1 ∧ (r.toInt = 0 ∨ (0 ≤ x1.toInt ∧ x1.toInt ≤ 5)) ∧ (r.toInt = 0 ∨ (0 ≤ x2.toInt ∧ x2.toInt ≤ 14)) ∧ (r.toInt = 0 ∨ (0 ≤ x3.toInt ∧ x3.toInt ≤ 1)) ∧ (r.toInt = 0 ∨ (1 ≤ (w.2.2.1 5 3).toInt ∧ (w.2.2.1 5 3).toInt ≤ 6))) ∧ w = u) := by
  refine cn_I (own := RX9) (nm := "isSighting") (L0 := [some (AR 0), some (AL x1), none, some (AL x2), none, some (AL x3), none]) (by decide +kernel) rfl rfl (Nat.le_of_ble_eq_true rfl) rfl ?_
  intro p e s m args below meth c E hin
  have hJ : Jv w w := jv_rfl hI
  refine s_lload_n E dX9_isSighting_0 rfl rfl ?_
  refine s_lconst (v := 0) E dX9_isSighting_1 (by decide) ?_
  refine z_lcmp (u := x1.toInt) (v := 0) E dX9_isSighting_2 rfl (by decide) (fun z_1 hz_1 => ?_)
  refine z_if_lt (tgt := 59) (u := z_1.toInt) E dX9_isSighting_3 (by decide) rfl (fun h_2 => ?_) (fun h_2 => ?_)
  ·
    refine s_iconst (v := 0) E dX9_isSighting_59 (by decide) ?_
    exact r_bool E dX9_isSighting_60 (Or.inl rfl) ⟨⟨by decide, by decide, by first | (left; decide) | (right; have hb_ := z64 x1; omega), by first | (left; decide) | (right; have hb_ := z64 x2; omega), by first | (left; decide) | (right; have hb_ := z64 x3; omega), by first | (left; decide) | (right; have hb_ := z32 (w.2.2.1 5 3); omega)⟩, rfl⟩
  ·
    refine s_lload_n E dX9_isSighting_6 rfl rfl ?_
    refine s_aload_n E dX9_isSighting_7 rfl rfl ?_
    refine s_gR (r := 2) E fg_X9_20 rfl rfl (jv_lt hJ (by decide)) (jv_r hJ (by decide +kernel)) dX9_isSighting_8 ?_
    refine s_gR (r := 5) E fg_X9_133 rfl rfl (jv_lt hJ (by decide)) (jv_r hJ (by decide +kernel)) dX9_isSighting_11 ?_
    refine s_gI E fg_X9_200 rfl rfl (jv_lt hJ (by decide)) dX9_isSighting_14 ?_
    refine z_nm (P := fun z => z.toInt = (w.2.2.1 5 3).toInt ∧ 0 ≤ z.toInt ∧ z.toInt ≤ 6) ⟨rfl, (rg_5_3 hJ)⟩ (fun z_3 hz_3 => ?_)
    refine z_i2l (u := z_3.toInt) E dX9_isSighting_17 rfl (fun z_4 hz_4 => ?_)
    refine z_lcmp (u := x1.toInt) (v := z_4.toInt) E dX9_isSighting_18 rfl rfl (fun z_5 hz_5 => ?_)
    refine z_if_ge (tgt := 59) (u := z_5.toInt) E dX9_isSighting_19 (by decide) rfl (fun h_6 => ?_) (fun h_6 => ?_)
    ·
      refine s_iconst (v := 0) E dX9_isSighting_59 (by decide) ?_
      exact r_bool E dX9_isSighting_60 (Or.inl rfl) ⟨⟨by decide, by decide, by first | (left; decide) | (right; have hb_ := z64 x1; omega), by first | (left; decide) | (right; have hb_ := z64 x2; omega), by first | (left; decide) | (right; have hb_ := z64 x3; omega), by first | (left; decide) | (right; have hb_ := z32 (w.2.2.1 5 3); omega)⟩, rfl⟩
    ·
      refine s_lload_n E dX9_isSighting_22 rfl rfl ?_
      refine s_lconst (v := 0) E dX9_isSighting_23 (by decide) ?_
      refine z_lcmp (u := x2.toInt) (v := 0) E dX9_isSighting_24 rfl (by decide) (fun z_7 hz_7 => ?_)
      refine z_if_lt (tgt := 59) (u := z_7.toInt) E dX9_isSighting_25 (by decide) rfl (fun h_8 => ?_) (fun h_8 => ?_)
      ·
        refine s_iconst (v := 0) E dX9_isSighting_59 (by decide) ?_
        exact r_bool E dX9_isSighting_60 (Or.inl rfl) ⟨⟨by decide, by decide, by first | (left; decide) | (right; have hb_ := z64 x1; omega), by first | (left; decide) | (right; have hb_ := z64 x2; omega), by first | (left; decide) | (right; have hb_ := z64 x3; omega), by first | (left; decide) | (right; have hb_ := z32 (w.2.2.1 5 3); omega)⟩, rfl⟩
      ·
        refine s_lload_n E dX9_isSighting_28 rfl rfl ?_
        refine s_aload_n E dX9_isSighting_29 rfl rfl ?_
        refine s_gR (r := 2) E fg_X9_20 rfl rfl (jv_lt hJ (by decide)) (jv_r hJ (by decide +kernel)) dX9_isSighting_30 ?_
        refine s_gI E fg_X9_169 rfl rfl (jv_lt hJ (by decide)) dX9_isSighting_33 ?_
        refine z_nm (P := fun z => z.toInt = (w.2.2.1 2 2).toInt ∧ 0 ≤ z.toInt ∧ z.toInt ≤ 14) ⟨rfl, (rg_2_2 hJ)⟩ (fun z_9 hz_9 => ?_)
        refine z_i2l (u := z_9.toInt) E dX9_isSighting_36 rfl (fun z_10 hz_10 => ?_)
        refine z_lcmp (u := x2.toInt) (v := z_10.toInt) E dX9_isSighting_37 rfl rfl (fun z_11 hz_11 => ?_)
        refine z_if_gt (tgt := 59) (u := z_11.toInt) E dX9_isSighting_38 (by decide) rfl (fun h_12 => ?_) (fun h_12 => ?_)
        ·
          refine s_iconst (v := 0) E dX9_isSighting_59 (by decide) ?_
          exact r_bool E dX9_isSighting_60 (Or.inl rfl) ⟨⟨by decide, by decide, by first | (left; decide) | (right; have hb_ := z64 x1; omega), by first | (left; decide) | (right; have hb_ := z64 x2; omega), by first | (left; decide) | (right; have hb_ := z64 x3; omega), by first | (left; decide) | (right; have hb_ := z32 (w.2.2.1 5 3); omega)⟩, rfl⟩
        ·
          refine s_lload E dX9_isSighting_41 rfl ?_
          refine s_lconst (v := 0) E dX9_isSighting_43 (by decide) ?_
          refine z_lcmp (u := x3.toInt) (v := 0) E dX9_isSighting_44 rfl (by decide) (fun z_13 hz_13 => ?_)
          refine z_if_eq (tgt := 55) (u := z_13.toInt) E dX9_isSighting_45 (by decide) rfl (fun h_14 => ?_) (fun h_14 => ?_)
          ·
            refine s_iconst (v := 1) E dX9_isSighting_55 (by decide) ?_
            refine s_goto (tgt := 60) E dX9_isSighting_56 (by decide) ?_
            exact r_bool E dX9_isSighting_60 (Or.inr rfl) ⟨⟨by decide, by decide, by first | (left; decide) | (right; have hb_ := z64 x1; omega), by first | (left; decide) | (right; have hb_ := z64 x2; omega), by first | (left; decide) | (right; have hb_ := z64 x3; omega), by first | (left; decide) | (right; have hb_ := z32 (w.2.2.1 5 3); omega)⟩, rfl⟩
          ·
            refine s_lload E dX9_isSighting_48 rfl ?_
            refine s_lconst (v := 1) E dX9_isSighting_50 (by decide) ?_
            refine z_lcmp (u := x3.toInt) (v := 1) E dX9_isSighting_51 rfl (by decide) (fun z_15 hz_15 => ?_)
            refine z_if_ne (tgt := 59) (u := z_15.toInt) E dX9_isSighting_52 (by decide) rfl (fun h_16 => ?_) (fun h_16 => ?_)
            ·
              refine s_iconst (v := 0) E dX9_isSighting_59 (by decide) ?_
              exact r_bool E dX9_isSighting_60 (Or.inl rfl) ⟨⟨by decide, by decide, by first | (left; decide) | (right; have hb_ := z64 x1; omega), by first | (left; decide) | (right; have hb_ := z64 x2; omega), by first | (left; decide) | (right; have hb_ := z64 x3; omega), by first | (left; decide) | (right; have hb_ := z32 (w.2.2.1 5 3); omega)⟩, rfl⟩
            ·
              refine s_iconst (v := 1) E dX9_isSighting_55 (by decide) ?_
              refine s_goto (tgt := 60) E dX9_isSighting_56 (by decide) ?_
              exact r_bool E dX9_isSighting_60 (Or.inr rfl) ⟨⟨by decide, by decide, by first | (left; decide) | (right; have hb_ := z64 x1; omega), by first | (left; decide) | (right; have hb_ := z64 x2; omega), by first | (left; decide) | (right; have hb_ := z64 x3; omega), by first | (left; decide) | (right; have hb_ := z32 (w.2.2.1 5 3); omega)⟩, rfl⟩
set_option maxRecDepth 20000 in
set_option maxHeartbeats 2000000 in
theorem Z_X7_isBare_63 (l : Launch) (D : va_G) (aC : Nat → ClassId) (b : Nat) (w : XW)  (hI : Iv w)  : CnI l D aC b M_X7_isBare 0 0 0 0 [AR 63] w (fun r u => (0 ≤ r.toInt ∧ r.toInt ≤ 1 ∧ (¬ r.toInt = 0 ∨ (0 ≤ (w.2.2.1 63 2).toInt ∧ (w.2.2.1 63 2).toInt ≤ 60)) ∧ (r.toInt = 0 ∨ ((-1) ≤ (w.2.2.1 63 2).toInt ∧ (w.2.2.1 63 2).toInt ≤ (-1)))) ∧ w = u) := by
  refine cn_I (own := RX7) (nm := "isBare") (L0 := [some (AR 63)]) (by decide +kernel) rfl rfl (Nat.le_of_ble_eq_true rfl) rfl ?_
  intro p e s m args below meth c E hin
  have hJ : Jv w w := jv_rfl hI
  refine s_aload_n E dX7_isBare_0 rfl rfl ?_
  refine s_gI E fg_X7_15 rfl rfl (jv_lt hJ (by decide)) dX7_isBare_1 ?_
  refine z_nm (P := fun z => z.toInt = (w.2.2.1 63 2).toInt ∧ (-1) ≤ z.toInt ∧ z.toInt ≤ 60) ⟨rfl, (rg_63_2 hJ)⟩ (fun z_1 hz_1 => ?_)
  refine z_if_ge (tgt := 11) (u := z_1.toInt) E dX7_isBare_4 (by decide) rfl (fun h_2 => ?_) (fun h_2 => ?_)
  ·
    refine s_iconst (v := 0) E dX7_isBare_11 (by decide) ?_
    exact r_bool E dX7_isBare_12 (Or.inl rfl) ⟨⟨by decide, by decide, by first | (left; decide) | (right; have hb_ := z32 (w.2.2.1 63 2); omega), by first | (left; decide) | (right; have hb_ := z32 (w.2.2.1 63 2); omega)⟩, rfl⟩
  ·
    refine s_iconst (v := 1) E dX7_isBare_7 (by decide) ?_
    refine s_goto (tgt := 12) E dX7_isBare_8 (by decide) ?_
    exact r_bool E dX7_isBare_12 (Or.inr rfl) ⟨⟨by decide, by decide, by first | (left; decide) | (right; have hb_ := z32 (w.2.2.1 63 2); omega), by first | (left; decide) | (right; have hb_ := z32 (w.2.2.1 63 2); omega)⟩, rfl⟩
set_option maxRecDepth 20000 in
set_option maxHeartbeats 2000000 in
theorem Z_X7_cell_63 (l : Launch) (D : va_G) (aC : Nat → ClassId) (b : Nat) (w : XW) (x1 : Int32) (hI : Iv w)  : CnL l D aC b M_X7_cell 0 0 0 0 [AR 63, AI x1] w (fun r u => ((-9223372036854775808) ≤ r.toInt ∧ r.toInt ≤ 9223372036854775807) ∧ w = u) := by
  refine cn_L (own := RX7) (nm := "cell") (L0 := [some (AR 63), some (AI x1)]) (by decide +kernel) rfl rfl (Nat.le_of_ble_eq_true rfl) rfl ?_
  intro p e s m args below meth c E hin
  have hJ : Jv w w := jv_rfl hI
  refine s_iload_n E dX7_cell_0 rfl rfl ?_
  refine z_if_lt (tgt := 21) (u := x1.toInt) E dX7_cell_1 (by decide) rfl (fun h_1 => ?_) (fun h_1 => ?_)
  ·
    refine s_ldc2 E k_938 rfl dX7_cell_21 ?_
    exact r_long E dX7_cell_24 ⟨(by decide), rfl⟩
  ·
    refine s_iload_n E dX7_cell_4 rfl rfl ?_
    refine s_aload_n E dX7_cell_5 rfl rfl ?_
    refine s_gI E fg_X7_15 rfl rfl (jv_lt hJ (by decide)) dX7_cell_6 ?_
    refine z_nm (P := fun z => z.toInt = (w.2.2.1 63 2).toInt ∧ (-1) ≤ z.toInt ∧ z.toInt ≤ 60) ⟨rfl, (rg_63_2 hJ)⟩ (fun z_2 hz_2 => ?_)
    refine z_icmp_ge (tgt := 21) (u := x1.toInt) (v := z_2.toInt) E dX7_cell_9 (by decide) rfl rfl (fun h_3 => ?_) (fun h_3 => ?_)
    ·
      refine s_ldc2 E k_938 rfl dX7_cell_21 ?_
      exact r_long E dX7_cell_24 ⟨(by decide), rfl⟩
    ·
      refine s_aload_n E dX7_cell_12 rfl rfl ?_
      refine s_gR (r := 64) E fg_X7_11 rfl rfl (jv_lt hJ (by decide)) (jv_r hJ (by decide +kernel)) dX7_cell_13 ?_
      refine s_iload_n E dX7_cell_16 rfl rfl ?_
      refine s_lald E rfl (jv_lt hJ (by decide)) (z_in (u := x1.toInt) rfl (by omega) (by omega)) dX7_cell_17 ?_
      refine z_anyL (fun z_4 => ?_)
      refine s_goto (tgt := 24) E dX7_cell_18 (by decide) ?_
      exact r_long E dX7_cell_24 ⟨⟨by have hb_ := z64 z_4; omega, by have hb_ := z64 z_4; omega⟩, rfl⟩
set_option maxRecDepth 20000 in
set_option maxHeartbeats 2000000 in
theorem Z_X7_isBare_65 (l : Launch) (D : va_G) (aC : Nat → ClassId) (b : Nat) (w : XW)  (hI : Iv w)  : CnI l D aC b M_X7_isBare 0 0 0 0 [AR 65] w (fun r u => (0 ≤ r.toInt ∧ r.toInt ≤ 1 ∧ (¬ r.toInt = 0 ∨ (0 ≤ (w.2.2.1 65 2).toInt ∧ (w.2.2.1 65 2).toInt ≤ 60)) ∧ (r.toInt = 0 ∨ ((-1) ≤ (w.2.2.1 65 2).toInt ∧ (w.2.2.1 65 2).toInt ≤ (-1)))) ∧ w = u) := by
  refine cn_I (own := RX7) (nm := "isBare") (L0 := [some (AR 65)]) (by decide +kernel) rfl rfl (Nat.le_of_ble_eq_true rfl) rfl ?_
  intro p e s m args below meth c E hin
  have hJ : Jv w w := jv_rfl hI
  refine s_aload_n E dX7_isBare_0 rfl rfl ?_
  refine s_gI E fg_X7_15 rfl rfl (jv_lt hJ (by decide)) dX7_isBare_1 ?_
  refine z_nm (P := fun z => z.toInt = (w.2.2.1 65 2).toInt ∧ (-1) ≤ z.toInt ∧ z.toInt ≤ 60) ⟨rfl, (rg_65_2 hJ)⟩ (fun z_1 hz_1 => ?_)
  refine z_if_ge (tgt := 11) (u := z_1.toInt) E dX7_isBare_4 (by decide) rfl (fun h_2 => ?_) (fun h_2 => ?_)
  ·
    refine s_iconst (v := 0) E dX7_isBare_11 (by decide) ?_
    exact r_bool E dX7_isBare_12 (Or.inl rfl) ⟨⟨by decide, by decide, by first | (left; decide) | (right; have hb_ := z32 (w.2.2.1 65 2); omega), by first | (left; decide) | (right; have hb_ := z32 (w.2.2.1 65 2); omega)⟩, rfl⟩
  ·
    refine s_iconst (v := 1) E dX7_isBare_7 (by decide) ?_
    refine s_goto (tgt := 12) E dX7_isBare_8 (by decide) ?_
    exact r_bool E dX7_isBare_12 (Or.inr rfl) ⟨⟨by decide, by decide, by first | (left; decide) | (right; have hb_ := z32 (w.2.2.1 65 2); omega), by first | (left; decide) | (right; have hb_ := z32 (w.2.2.1 65 2); omega)⟩, rfl⟩
set_option maxRecDepth 20000 in
set_option maxHeartbeats 2000000 in
theorem Z_X7_cell_65 (l : Launch) (D : va_G) (aC : Nat → ClassId) (b : Nat) (w : XW) (x1 : Int32) (hI : Iv w)  : CnL l D aC b M_X7_cell 0 0 0 0 [AR 65, AI x1] w (fun r u => ((-9223372036854775808) ≤ r.toInt ∧ r.toInt ≤ 9223372036854775807) ∧ w = u) := by
  refine cn_L (own := RX7) (nm := "cell") (L0 := [some (AR 65), some (AI x1)]) (by decide +kernel) rfl rfl (Nat.le_of_ble_eq_true rfl) rfl ?_
  intro p e s m args below meth c E hin
  have hJ : Jv w w := jv_rfl hI
  refine s_iload_n E dX7_cell_0 rfl rfl ?_
  refine z_if_lt (tgt := 21) (u := x1.toInt) E dX7_cell_1 (by decide) rfl (fun h_1 => ?_) (fun h_1 => ?_)
  ·
    refine s_ldc2 E k_938 rfl dX7_cell_21 ?_
    exact r_long E dX7_cell_24 ⟨(by decide), rfl⟩
  ·
    refine s_iload_n E dX7_cell_4 rfl rfl ?_
    refine s_aload_n E dX7_cell_5 rfl rfl ?_
    refine s_gI E fg_X7_15 rfl rfl (jv_lt hJ (by decide)) dX7_cell_6 ?_
    refine z_nm (P := fun z => z.toInt = (w.2.2.1 65 2).toInt ∧ (-1) ≤ z.toInt ∧ z.toInt ≤ 60) ⟨rfl, (rg_65_2 hJ)⟩ (fun z_2 hz_2 => ?_)
    refine z_icmp_ge (tgt := 21) (u := x1.toInt) (v := z_2.toInt) E dX7_cell_9 (by decide) rfl rfl (fun h_3 => ?_) (fun h_3 => ?_)
    ·
      refine s_ldc2 E k_938 rfl dX7_cell_21 ?_
      exact r_long E dX7_cell_24 ⟨(by decide), rfl⟩
    ·
      refine s_aload_n E dX7_cell_12 rfl rfl ?_
      refine s_gR (r := 66) E fg_X7_11 rfl rfl (jv_lt hJ (by decide)) (jv_r hJ (by decide +kernel)) dX7_cell_13 ?_
      refine s_iload_n E dX7_cell_16 rfl rfl ?_
      refine s_lald E rfl (jv_lt hJ (by decide)) (z_in (u := x1.toInt) rfl (by omega) (by omega)) dX7_cell_17 ?_
      refine z_anyL (fun z_4 => ?_)
      refine s_goto (tgt := 24) E dX7_cell_18 (by decide) ?_
      exact r_long E dX7_cell_24 ⟨⟨by have hb_ := z64 z_4; omega, by have hb_ := z64 z_4; omega⟩, rfl⟩
set_option maxRecDepth 20000 in
set_option maxHeartbeats 2000000 in
theorem Z_X7_isBare_67 (l : Launch) (D : va_G) (aC : Nat → ClassId) (b : Nat) (w : XW)  (hI : Iv w)  : CnI l D aC b M_X7_isBare 0 0 0 0 [AR 67] w (fun r u => (0 ≤ r.toInt ∧ r.toInt ≤ 1 ∧ (¬ r.toInt = 0 ∨ (0 ≤ (w.2.2.1 67 2).toInt ∧ (w.2.2.1 67 2).toInt ≤ 60)) ∧ (r.toInt = 0 ∨ ((-1) ≤ (w.2.2.1 67 2).toInt ∧ (w.2.2.1 67 2).toInt ≤ (-1)))) ∧ w = u) := by
  refine cn_I (own := RX7) (nm := "isBare") (L0 := [some (AR 67)]) (by decide +kernel) rfl rfl (Nat.le_of_ble_eq_true rfl) rfl ?_
  intro p e s m args below meth c E hin
  have hJ : Jv w w := jv_rfl hI
  refine s_aload_n E dX7_isBare_0 rfl rfl ?_
  refine s_gI E fg_X7_15 rfl rfl (jv_lt hJ (by decide)) dX7_isBare_1 ?_
  refine z_nm (P := fun z => z.toInt = (w.2.2.1 67 2).toInt ∧ (-1) ≤ z.toInt ∧ z.toInt ≤ 60) ⟨rfl, (rg_67_2 hJ)⟩ (fun z_1 hz_1 => ?_)
  refine z_if_ge (tgt := 11) (u := z_1.toInt) E dX7_isBare_4 (by decide) rfl (fun h_2 => ?_) (fun h_2 => ?_)
  ·
    refine s_iconst (v := 0) E dX7_isBare_11 (by decide) ?_
    exact r_bool E dX7_isBare_12 (Or.inl rfl) ⟨⟨by decide, by decide, by first | (left; decide) | (right; have hb_ := z32 (w.2.2.1 67 2); omega), by first | (left; decide) | (right; have hb_ := z32 (w.2.2.1 67 2); omega)⟩, rfl⟩
  ·
    refine s_iconst (v := 1) E dX7_isBare_7 (by decide) ?_
    refine s_goto (tgt := 12) E dX7_isBare_8 (by decide) ?_
    exact r_bool E dX7_isBare_12 (Or.inr rfl) ⟨⟨by decide, by decide, by first | (left; decide) | (right; have hb_ := z32 (w.2.2.1 67 2); omega), by first | (left; decide) | (right; have hb_ := z32 (w.2.2.1 67 2); omega)⟩, rfl⟩
set_option maxRecDepth 20000 in
set_option maxHeartbeats 2000000 in
theorem Z_X7_cell_67 (l : Launch) (D : va_G) (aC : Nat → ClassId) (b : Nat) (w : XW) (x1 : Int32) (hI : Iv w)  : CnL l D aC b M_X7_cell 0 0 0 0 [AR 67, AI x1] w (fun r u => ((-9223372036854775808) ≤ r.toInt ∧ r.toInt ≤ 9223372036854775807) ∧ w = u) := by
  refine cn_L (own := RX7) (nm := "cell") (L0 := [some (AR 67), some (AI x1)]) (by decide +kernel) rfl rfl (Nat.le_of_ble_eq_true rfl) rfl ?_
  intro p e s m args below meth c E hin
  have hJ : Jv w w := jv_rfl hI
  refine s_iload_n E dX7_cell_0 rfl rfl ?_
  refine z_if_lt (tgt := 21) (u := x1.toInt) E dX7_cell_1 (by decide) rfl (fun h_1 => ?_) (fun h_1 => ?_)
  ·
    refine s_ldc2 E k_938 rfl dX7_cell_21 ?_
    exact r_long E dX7_cell_24 ⟨(by decide), rfl⟩
  ·
    refine s_iload_n E dX7_cell_4 rfl rfl ?_
    refine s_aload_n E dX7_cell_5 rfl rfl ?_
    refine s_gI E fg_X7_15 rfl rfl (jv_lt hJ (by decide)) dX7_cell_6 ?_
    refine z_nm (P := fun z => z.toInt = (w.2.2.1 67 2).toInt ∧ (-1) ≤ z.toInt ∧ z.toInt ≤ 60) ⟨rfl, (rg_67_2 hJ)⟩ (fun z_2 hz_2 => ?_)
    refine z_icmp_ge (tgt := 21) (u := x1.toInt) (v := z_2.toInt) E dX7_cell_9 (by decide) rfl rfl (fun h_3 => ?_) (fun h_3 => ?_)
    ·
      refine s_ldc2 E k_938 rfl dX7_cell_21 ?_
      exact r_long E dX7_cell_24 ⟨(by decide), rfl⟩
    ·
      refine s_aload_n E dX7_cell_12 rfl rfl ?_
      refine s_gR (r := 68) E fg_X7_11 rfl rfl (jv_lt hJ (by decide)) (jv_r hJ (by decide +kernel)) dX7_cell_13 ?_
      refine s_iload_n E dX7_cell_16 rfl rfl ?_
      refine s_lald E rfl (jv_lt hJ (by decide)) (z_in (u := x1.toInt) rfl (by omega) (by omega)) dX7_cell_17 ?_
      refine z_anyL (fun z_4 => ?_)
      refine s_goto (tgt := 24) E dX7_cell_18 (by decide) ?_
      exact r_long E dX7_cell_24 ⟨⟨by have hb_ := z64 z_4; omega, by have hb_ := z64 z_4; omega⟩, rfl⟩
set_option maxRecDepth 20000 in
set_option maxHeartbeats 2000000 in
theorem Z_X9_seenFault_0 (l : Launch) (D : va_G) (aC : Nat → ClassId) (b : Nat) (w : XW) (x1 : Int32) (hI : Iv w)  : CnI l D aC b M_X9_seenFault 1 26 0 0 [AR 0, AI x1] w (fun r u => ((-6) ≤ r.toInt ∧ r.toInt ≤ 0 ∧ (¬ r.toInt = 0 ∨ (0 ≤ x1.toInt ∧ x1.toInt ≤ 3)) ∧ (¬ r.toInt = 0 ∨ (1 ≤ (w.2.2.1 2 0).toInt ∧ (w.2.2.1 2 0).toInt ≤ 2147483647))) ∧ Jv w u) := by
  refine cn_I (own := RX9) (nm := "seenFault") (L0 := [some (AR 0), some (AI x1), none, none]) (by decide +kernel) rfl rfl (Nat.le_of_ble_eq_true rfl) rfl ?_
  intro p e s m args below meth c E hin
  have hJ : Jv w w := jv_rfl hI
  refine s_iload_n E dX9_seenFault_0 rfl rfl ?_
  refine s_sI (As := [AI x1]) (S := []) E (Z_X9_isSlot l D aC b w x1 hJ.1 ) cs_X9_276 rfl rfl (Nat.le_of_ble_eq_true rfl) (Nat.le_of_ble_eq_true rfl) ⟨(Nat.le_of_ble_eq_true rfl), (Nat.le_of_ble_eq_true rfl)⟩ (Nat.le_of_ble_eq_true rfl) dX9_seenFault_1 (fun z_3 u_1 hp_2 => ?_)
  obtain ⟨hz_3, hp_2⟩ := hp_2
  subst hp_2
  refine z_if_eq (tgt := 17) (u := z_3.toInt) E dX9_seenFault_4 (by decide) rfl (fun h_5 => ?_) (fun h_5 => ?_)
  ·
    refine s_bipush (v := (-2)) E dX9_seenFault_17 (by decide) ?_
    exact r_int E dX9_seenFault_19 ⟨⟨by decide, by decide, by first | (left; decide) | (right; have hb_ := z32 x1; omega), by first | (left; decide) | (right; have hb_ := z32 (w.2.2.1 2 0); omega)⟩, hJ⟩
  ·
    refine s_aload_n E dX9_seenFault_7 rfl rfl ?_
    refine s_gR (r := 2) E fg_X9_20 rfl rfl (jv_lt hJ (by decide)) (jv_r hJ (by decide +kernel)) dX9_seenFault_8 ?_
    refine s_vI (As := []) (S := []) E (Z_X0_isTold_2 l D aC b w  hJ.1 ) cv_X9_184 rfl rfl rfl (jv_lt hJ (by decide)) (Nat.le_of_ble_eq_true rfl) (Nat.le_of_ble_eq_true rfl) ⟨(Nat.le_of_ble_eq_true rfl), (Nat.le_of_ble_eq_true rfl)⟩ (Nat.le_of_ble_eq_true rfl) dX9_seenFault_11 (fun z_8 u_6 hp_7 => ?_)
    obtain ⟨hz_8, hp_7⟩ := hp_7
    subst hp_7
    refine z_if_ne (tgt := 20) (u := z_8.toInt) E dX9_seenFault_14 (by decide) rfl (fun h_10 => ?_) (fun h_10 => ?_)
    ·
      refine s_aload_n E dX9_seenFault_20 rfl rfl ?_
      refine s_gR (r := 60) E fg_X9_46 rfl rfl (jv_lt hJ (by decide)) (jv_r hJ (by decide +kernel)) dX9_seenFault_21 ?_
      refine s_iload_n E dX9_seenFault_24 rfl rfl ?_
      rcases (show x1 = 0 ∨ x1 = 1 ∨ x1 = 2 ∨ x1 = 3 from (z_cases4 (u := x1.toInt) rfl (by omega) (by omega))) with rfl | rfl | rfl | rfl
      ·
        refine s_aald105 (r := 61) E rfl (jv_lt hJ (by decide)) (vp_c (by decide)) (jv_r hJ (by decide +kernel)) dX9_seenFault_25 ?_
        refine s_astore_n (L2 := [some (AR 0), some (AI 0), some (AR 61), none]) E dX9_seenFault_26 rfl (by decide) rfl ?_
        refine s_aload_n E dX9_seenFault_27 rfl rfl ?_
        refine s_vI (As := []) (S := []) E (Z_X7_isBare_61 l D aC b w  hJ.1 ) cv_X9_279 rfl rfl rfl (jv_lt hJ (by decide)) (Nat.le_of_ble_eq_true rfl) (Nat.le_of_ble_eq_true rfl) ⟨(Nat.le_of_ble_eq_true rfl), (Nat.le_of_ble_eq_true rfl)⟩ (Nat.le_of_ble_eq_true rfl) dX9_seenFault_28 (fun z_13 u_11 hp_12 => ?_)
        obtain ⟨hz_13, hp_12⟩ := hp_12
        subst hp_12
        refine z_if_eq (tgt := 37) (u := z_13.toInt) E dX9_seenFault_31 (by decide) rfl (fun h_15 => ?_) (fun h_15 => ?_)
        ·
          refine s_aload_n E dX9_seenFault_37 rfl rfl ?_
          refine s_gI E fg_X9_282 rfl rfl (jv_lt hJ (by decide)) dX9_seenFault_38 ?_
          refine z_nm (P := fun z => z.toInt = (w.2.2.1 61 2).toInt ∧ (-1) ≤ z.toInt ∧ z.toInt ≤ 60) ⟨rfl, (rg_61_2 hJ)⟩ (fun z_16 hz_16 => ?_)
          refine s_iconst (v := 3) E dX9_seenFault_41 (by decide) ?_
          refine z_irem (u := z_16.toInt) (v := 3) E dX9_seenFault_42 rfl (by decide) (by omega) (by omega) (fun z_17 hz_17 => ?_)
          refine z_if_eq (tgt := 49) (u := z_17.toInt) E dX9_seenFault_43 (by decide) rfl (fun h_18 => ?_) (fun h_18 => ?_)
          ·
            refine s_iconst (v := 0) E dX9_seenFault_49 (by decide) ?_
            refine s_istore_n (L2 := [some (AR 0), some (AI 0), some (AR 61), some (AI 0)]) E dX9_seenFault_50 rfl (by decide) rfl ?_
            refine z_loop (St := Int32) (Pi := fun q51_3_18 v51 => (0 ≤ q51_3_18.toInt ∧ q51_3_18.toInt ≤ 60) ∧ (1 ≤ (v51.2.2.1 2 0).toInt ∧ (v51.2.2.1 2 0).toInt ≤ 2147483647) ∧ (0 ≤ (v51.2.2.1 61 2).toInt ∧ (v51.2.2.1 61 2).toInt ≤ 60) ∧ Jv w v51) (Lf := fun q51_3_18 => [some (AR 0), some (AI 0), some (AR 61), some (AI q51_3_18)]) (fun q51_3_18 _ => (61 - q51_3_18.toInt).toNat) 0 ⟨⟨by decide, by decide⟩, ⟨by omega, by omega⟩, ⟨by omega, by omega⟩, hJ⟩ ?_
            rintro q51_3_18 v51 ⟨hq51_3, ha51_0, ha51_1, hj_19⟩ ih51
            refine s_loc (L2 := [some (AR 0), some (AI 0), some (AR 61), some (AI q51_3_18)]) rfl ?_
            refine s_iload_n E dX9_seenFault_51 rfl rfl ?_
            refine s_iconst (v := 2) E dX9_seenFault_52 (by decide) ?_
            refine z_iadd (u := q51_3_18.toInt) (v := 2) E dX9_seenFault_53 rfl (by decide) (by omega) (by omega) (fun z_20 hz_20 => ?_)
            refine s_aload_n E dX9_seenFault_54 rfl rfl ?_
            refine s_gI E fg_X9_282 rfl rfl (jv_lt hj_19 (by decide)) dX9_seenFault_55 ?_
            refine z_nm (P := fun z => z.toInt = (v51.2.2.1 61 2).toInt ∧ (-1) ≤ z.toInt ∧ z.toInt ≤ 60) ⟨rfl, (rg_61_2 hj_19)⟩ (fun z_21 hz_21 => ?_)
            refine z_icmp_ge (tgt := 96) (u := z_20.toInt) (v := z_21.toInt) E dX9_seenFault_58 (by decide) rfl rfl (fun h_22 => ?_) (fun h_22 => ?_)
            ·
              refine s_iconst (v := 0) E dX9_seenFault_96 (by decide) ?_
              exact r_int E dX9_seenFault_97 ⟨⟨by decide, by decide, by first | (left; decide) | (right; have hb_ := z32 x1; omega), by first | (left; decide) | (right; have hb_ := z32 (w.2.2.1 2 0); omega)⟩, hj_19⟩
            ·
              refine s_aload_n E dX9_seenFault_61 rfl rfl ?_
              refine s_aload_n E dX9_seenFault_62 rfl rfl ?_
              refine s_iload_n E dX9_seenFault_63 rfl rfl ?_
              refine s_vL (As := [AI q51_3_18]) (S := [AR 0]) E (Z_X7_cell_61 l D aC b v51 q51_3_18 hj_19.1 ) cv_X9_285 rfl rfl rfl (jv_lt hj_19 (by decide)) (Nat.le_of_ble_eq_true rfl) (Nat.le_of_ble_eq_true rfl) ⟨(Nat.le_of_ble_eq_true rfl), (Nat.le_of_ble_eq_true rfl)⟩ (Nat.le_of_ble_eq_true rfl) dX9_seenFault_64 (fun z_25 u_23 hp_24 => ?_)
              obtain ⟨hz_25, hp_24⟩ := hp_24
              subst hp_24
              refine s_aload_n E dX9_seenFault_67 rfl rfl ?_
              refine s_iload_n E dX9_seenFault_68 rfl rfl ?_
              refine s_iconst (v := 1) E dX9_seenFault_69 (by decide) ?_
              refine z_iadd (u := q51_3_18.toInt) (v := 1) E dX9_seenFault_70 rfl (by decide) (by omega) (by omega) (fun z_27 hz_27 => ?_)
              refine s_vL (As := [AI z_27]) (S := [AL z_25, AR 0]) E (Z_X7_cell_61 l D aC b v51 z_27 hj_19.1 ) cv_X9_285 rfl rfl rfl (jv_lt hj_19 (by decide)) (Nat.le_of_ble_eq_true rfl) (Nat.le_of_ble_eq_true rfl) ⟨(Nat.le_of_ble_eq_true rfl), (Nat.le_of_ble_eq_true rfl)⟩ (Nat.le_of_ble_eq_true rfl) dX9_seenFault_71 (fun z_30 u_28 hp_29 => ?_)
              obtain ⟨hz_30, hp_29⟩ := hp_29
              subst hp_29
              refine s_aload_n E dX9_seenFault_74 rfl rfl ?_
              refine s_iload_n E dX9_seenFault_75 rfl rfl ?_
              refine s_iconst (v := 2) E dX9_seenFault_76 (by decide) ?_
              refine z_iadd (u := q51_3_18.toInt) (v := 2) E dX9_seenFault_77 rfl (by decide) (by omega) (by omega) (fun z_32 hz_32 => ?_)
              refine s_vL (As := [AI z_32]) (S := [AL z_30, AL z_25, AR 0]) E (Z_X7_cell_61 l D aC b v51 z_32 hj_19.1 ) cv_X9_285 rfl rfl rfl (jv_lt hj_19 (by decide)) (Nat.le_of_ble_eq_true rfl) (Nat.le_of_ble_eq_true rfl) ⟨(Nat.le_of_ble_eq_true rfl), (Nat.le_of_ble_eq_true rfl)⟩ (Nat.le_of_ble_eq_true rfl) dX9_seenFault_78 (fun z_35 u_33 hp_34 => ?_)
              obtain ⟨hz_35, hp_34⟩ := hp_34
              subst hp_34
              refine s_vI (As := [AL z_25, AL z_30, AL z_35]) (S := []) E (Z_X9_isSighting_0 l D aC b v51 z_25 z_30 z_35 hj_19.1 ) cv_X9_288 rfl rfl rfl (jv_lt hj_19 (by decide)) (Nat.le_of_ble_eq_true rfl) (Nat.le_of_ble_eq_true rfl) ⟨(Nat.le_of_ble_eq_true rfl), (Nat.le_of_ble_eq_true rfl)⟩ (Nat.le_of_ble_eq_true rfl) dX9_seenFault_81 (fun z_39 u_37 hp_38 => ?_)
              obtain ⟨hz_39, hp_38⟩ := hp_38
              subst hp_38
              refine z_if_ne (tgt := 90) (u := z_39.toInt) E dX9_seenFault_84 (by decide) rfl (fun h_41 => ?_) (fun h_41 => ?_)
              ·
                refine z_iinc (u := q51_3_18.toInt) (L2 := fun z_42 => [some (AR 0), some (AI 0), some (AR 61), some (AI z_42)]) E dX9_seenFault_90 rfl rfl (by decide) (fun _ => rfl) (by decide) (by omega) (by omega) (fun z_42 hz_42 => ?_)
                refine s_goto (tgt := 51) E dX9_seenFault_93 (by decide) ?_
                exact ih51 z_42 v51 ⟨⟨by have hb_ := z32 z_42; omega, by have hb_ := z32 z_42; omega⟩, ⟨by omega, by omega⟩, ⟨by omega, by omega⟩, hj_19⟩ (by first | decide | (dsimp only; omega))
              ·
                refine s_bipush (v := (-2)) E dX9_seenFault_87 (by decide) ?_
                exact r_int E dX9_seenFault_89 ⟨⟨by decide, by decide, by first | (left; decide) | (right; have hb_ := z32 x1; omega), by first | (left; decide) | (right; have hb_ := z32 (w.2.2.1 2 0); omega)⟩, hj_19⟩
          ·
            refine s_bipush (v := (-2)) E dX9_seenFault_46 (by decide) ?_
            exact r_int E dX9_seenFault_48 ⟨⟨by decide, by decide, by first | (left; decide) | (right; have hb_ := z32 x1; omega), by first | (left; decide) | (right; have hb_ := z32 (w.2.2.1 2 0); omega)⟩, hJ⟩
        ·
          refine s_bipush (v := (-6)) E dX9_seenFault_34 (by decide) ?_
          exact r_int E dX9_seenFault_36 ⟨⟨by decide, by decide, by first | (left; decide) | (right; have hb_ := z32 x1; omega), by first | (left; decide) | (right; have hb_ := z32 (w.2.2.1 2 0); omega)⟩, hJ⟩
      ·
        refine s_aald105 (r := 63) E rfl (jv_lt hJ (by decide)) (vp_c (by decide)) (jv_r hJ (by decide +kernel)) dX9_seenFault_25 ?_
        refine s_astore_n (L2 := [some (AR 0), some (AI 1), some (AR 63), none]) E dX9_seenFault_26 rfl (by decide) rfl ?_
        refine s_aload_n E dX9_seenFault_27 rfl rfl ?_
        refine s_vI (As := []) (S := []) E (Z_X7_isBare_63 l D aC b w  hJ.1 ) cv_X9_279 rfl rfl rfl (jv_lt hJ (by decide)) (Nat.le_of_ble_eq_true rfl) (Nat.le_of_ble_eq_true rfl) ⟨(Nat.le_of_ble_eq_true rfl), (Nat.le_of_ble_eq_true rfl)⟩ (Nat.le_of_ble_eq_true rfl) dX9_seenFault_28 (fun z_45 u_43 hp_44 => ?_)
        obtain ⟨hz_45, hp_44⟩ := hp_44
        subst hp_44
        refine z_if_eq (tgt := 37) (u := z_45.toInt) E dX9_seenFault_31 (by decide) rfl (fun h_47 => ?_) (fun h_47 => ?_)
        ·
          refine s_aload_n E dX9_seenFault_37 rfl rfl ?_
          refine s_gI E fg_X9_282 rfl rfl (jv_lt hJ (by decide)) dX9_seenFault_38 ?_
          refine z_nm (P := fun z => z.toInt = (w.2.2.1 63 2).toInt ∧ (-1) ≤ z.toInt ∧ z.toInt ≤ 60) ⟨rfl, (rg_63_2 hJ)⟩ (fun z_48 hz_48 => ?_)
          refine s_iconst (v := 3) E dX9_seenFault_41 (by decide) ?_
          refine z_irem (u := z_48.toInt) (v := 3) E dX9_seenFault_42 rfl (by decide) (by omega) (by omega) (fun z_49 hz_49 => ?_)
          refine z_if_eq (tgt := 49) (u := z_49.toInt) E dX9_seenFault_43 (by decide) rfl (fun h_50 => ?_) (fun h_50 => ?_)
          ·
            refine s_iconst (v := 0) E dX9_seenFault_49 (by decide) ?_
            refine s_istore_n (L2 := [some (AR 0), some (AI 1), some (AR 63), some (AI 0)]) E dX9_seenFault_50 rfl (by decide) rfl ?_
            refine z_loop (St := Int32) (Pi := fun q51_3_50 v51 => (0 ≤ q51_3_50.toInt ∧ q51_3_50.toInt ≤ 60) ∧ (1 ≤ (v51.2.2.1 2 0).toInt ∧ (v51.2.2.1 2 0).toInt ≤ 2147483647) ∧ (0 ≤ (v51.2.2.1 63 2).toInt ∧ (v51.2.2.1 63 2).toInt ≤ 60) ∧ Jv w v51) (Lf := fun q51_3_50 => [some (AR 0), some (AI 1), some (AR 63), some (AI q51_3_50)]) (fun q51_3_50 _ => (61 - q51_3_50.toInt).toNat) 0 ⟨⟨by decide, by decide⟩, ⟨by omega, by omega⟩, ⟨by omega, by omega⟩, hJ⟩ ?_
            rintro q51_3_50 v51 ⟨hq51_3, ha51_0, ha51_1, hj_51⟩ ih51
            refine s_loc (L2 := [some (AR 0), some (AI 1), some (AR 63), some (AI q51_3_50)]) rfl ?_
            refine s_iload_n E dX9_seenFault_51 rfl rfl ?_
            refine s_iconst (v := 2) E dX9_seenFault_52 (by decide) ?_
            refine z_iadd (u := q51_3_50.toInt) (v := 2) E dX9_seenFault_53 rfl (by decide) (by omega) (by omega) (fun z_52 hz_52 => ?_)
            refine s_aload_n E dX9_seenFault_54 rfl rfl ?_
            refine s_gI E fg_X9_282 rfl rfl (jv_lt hj_51 (by decide)) dX9_seenFault_55 ?_
            refine z_nm (P := fun z => z.toInt = (v51.2.2.1 63 2).toInt ∧ (-1) ≤ z.toInt ∧ z.toInt ≤ 60) ⟨rfl, (rg_63_2 hj_51)⟩ (fun z_53 hz_53 => ?_)
            refine z_icmp_ge (tgt := 96) (u := z_52.toInt) (v := z_53.toInt) E dX9_seenFault_58 (by decide) rfl rfl (fun h_54 => ?_) (fun h_54 => ?_)
            ·
              refine s_iconst (v := 0) E dX9_seenFault_96 (by decide) ?_
              exact r_int E dX9_seenFault_97 ⟨⟨by decide, by decide, by first | (left; decide) | (right; have hb_ := z32 x1; omega), by first | (left; decide) | (right; have hb_ := z32 (w.2.2.1 2 0); omega)⟩, hj_51⟩
            ·
              refine s_aload_n E dX9_seenFault_61 rfl rfl ?_
              refine s_aload_n E dX9_seenFault_62 rfl rfl ?_
              refine s_iload_n E dX9_seenFault_63 rfl rfl ?_
              refine s_vL (As := [AI q51_3_50]) (S := [AR 0]) E (Z_X7_cell_63 l D aC b v51 q51_3_50 hj_51.1 ) cv_X9_285 rfl rfl rfl (jv_lt hj_51 (by decide)) (Nat.le_of_ble_eq_true rfl) (Nat.le_of_ble_eq_true rfl) ⟨(Nat.le_of_ble_eq_true rfl), (Nat.le_of_ble_eq_true rfl)⟩ (Nat.le_of_ble_eq_true rfl) dX9_seenFault_64 (fun z_57 u_55 hp_56 => ?_)
              obtain ⟨hz_57, hp_56⟩ := hp_56
              subst hp_56
              refine s_aload_n E dX9_seenFault_67 rfl rfl ?_
              refine s_iload_n E dX9_seenFault_68 rfl rfl ?_
              refine s_iconst (v := 1) E dX9_seenFault_69 (by decide) ?_
              refine z_iadd (u := q51_3_50.toInt) (v := 1) E dX9_seenFault_70 rfl (by decide) (by omega) (by omega) (fun z_59 hz_59 => ?_)
              refine s_vL (As := [AI z_59]) (S := [AL z_57, AR 0]) E (Z_X7_cell_63 l D aC b v51 z_59 hj_51.1 ) cv_X9_285 rfl rfl rfl (jv_lt hj_51 (by decide)) (Nat.le_of_ble_eq_true rfl) (Nat.le_of_ble_eq_true rfl) ⟨(Nat.le_of_ble_eq_true rfl), (Nat.le_of_ble_eq_true rfl)⟩ (Nat.le_of_ble_eq_true rfl) dX9_seenFault_71 (fun z_62 u_60 hp_61 => ?_)
              obtain ⟨hz_62, hp_61⟩ := hp_61
              subst hp_61
              refine s_aload_n E dX9_seenFault_74 rfl rfl ?_
              refine s_iload_n E dX9_seenFault_75 rfl rfl ?_
              refine s_iconst (v := 2) E dX9_seenFault_76 (by decide) ?_
              refine z_iadd (u := q51_3_50.toInt) (v := 2) E dX9_seenFault_77 rfl (by decide) (by omega) (by omega) (fun z_64 hz_64 => ?_)
              refine s_vL (As := [AI z_64]) (S := [AL z_62, AL z_57, AR 0]) E (Z_X7_cell_63 l D aC b v51 z_64 hj_51.1 ) cv_X9_285 rfl rfl rfl (jv_lt hj_51 (by decide)) (Nat.le_of_ble_eq_true rfl) (Nat.le_of_ble_eq_true rfl) ⟨(Nat.le_of_ble_eq_true rfl), (Nat.le_of_ble_eq_true rfl)⟩ (Nat.le_of_ble_eq_true rfl) dX9_seenFault_78 (fun z_67 u_65 hp_66 => ?_)
              obtain ⟨hz_67, hp_66⟩ := hp_66
              subst hp_66
              refine s_vI (As := [AL z_57, AL z_62, AL z_67]) (S := []) E (Z_X9_isSighting_0 l D aC b v51 z_57 z_62 z_67 hj_51.1 ) cv_X9_288 rfl rfl rfl (jv_lt hj_51 (by decide)) (Nat.le_of_ble_eq_true rfl) (Nat.le_of_ble_eq_true rfl) ⟨(Nat.le_of_ble_eq_true rfl), (Nat.le_of_ble_eq_true rfl)⟩ (Nat.le_of_ble_eq_true rfl) dX9_seenFault_81 (fun z_71 u_69 hp_70 => ?_)
              obtain ⟨hz_71, hp_70⟩ := hp_70
              subst hp_70
              refine z_if_ne (tgt := 90) (u := z_71.toInt) E dX9_seenFault_84 (by decide) rfl (fun h_73 => ?_) (fun h_73 => ?_)
              ·
                refine z_iinc (u := q51_3_50.toInt) (L2 := fun z_74 => [some (AR 0), some (AI 1), some (AR 63), some (AI z_74)]) E dX9_seenFault_90 rfl rfl (by decide) (fun _ => rfl) (by decide) (by omega) (by omega) (fun z_74 hz_74 => ?_)
                refine s_goto (tgt := 51) E dX9_seenFault_93 (by decide) ?_
                exact ih51 z_74 v51 ⟨⟨by have hb_ := z32 z_74; omega, by have hb_ := z32 z_74; omega⟩, ⟨by omega, by omega⟩, ⟨by omega, by omega⟩, hj_51⟩ (by first | decide | (dsimp only; omega))
              ·
                refine s_bipush (v := (-2)) E dX9_seenFault_87 (by decide) ?_
                exact r_int E dX9_seenFault_89 ⟨⟨by decide, by decide, by first | (left; decide) | (right; have hb_ := z32 x1; omega), by first | (left; decide) | (right; have hb_ := z32 (w.2.2.1 2 0); omega)⟩, hj_51⟩
          ·
            refine s_bipush (v := (-2)) E dX9_seenFault_46 (by decide) ?_
            exact r_int E dX9_seenFault_48 ⟨⟨by decide, by decide, by first | (left; decide) | (right; have hb_ := z32 x1; omega), by first | (left; decide) | (right; have hb_ := z32 (w.2.2.1 2 0); omega)⟩, hJ⟩
        ·
          refine s_bipush (v := (-6)) E dX9_seenFault_34 (by decide) ?_
          exact r_int E dX9_seenFault_36 ⟨⟨by decide, by decide, by first | (left; decide) | (right; have hb_ := z32 x1; omega), by first | (left; decide) | (right; have hb_ := z32 (w.2.2.1 2 0); omega)⟩, hJ⟩
      ·
        refine s_aald105 (r := 65) E rfl (jv_lt hJ (by decide)) (vp_c (by decide)) (jv_r hJ (by decide +kernel)) dX9_seenFault_25 ?_
        refine s_astore_n (L2 := [some (AR 0), some (AI 2), some (AR 65), none]) E dX9_seenFault_26 rfl (by decide) rfl ?_
        refine s_aload_n E dX9_seenFault_27 rfl rfl ?_
        refine s_vI (As := []) (S := []) E (Z_X7_isBare_65 l D aC b w  hJ.1 ) cv_X9_279 rfl rfl rfl (jv_lt hJ (by decide)) (Nat.le_of_ble_eq_true rfl) (Nat.le_of_ble_eq_true rfl) ⟨(Nat.le_of_ble_eq_true rfl), (Nat.le_of_ble_eq_true rfl)⟩ (Nat.le_of_ble_eq_true rfl) dX9_seenFault_28 (fun z_77 u_75 hp_76 => ?_)
        obtain ⟨hz_77, hp_76⟩ := hp_76
        subst hp_76
        refine z_if_eq (tgt := 37) (u := z_77.toInt) E dX9_seenFault_31 (by decide) rfl (fun h_79 => ?_) (fun h_79 => ?_)
        ·
          refine s_aload_n E dX9_seenFault_37 rfl rfl ?_
          refine s_gI E fg_X9_282 rfl rfl (jv_lt hJ (by decide)) dX9_seenFault_38 ?_
          refine z_nm (P := fun z => z.toInt = (w.2.2.1 65 2).toInt ∧ (-1) ≤ z.toInt ∧ z.toInt ≤ 60) ⟨rfl, (rg_65_2 hJ)⟩ (fun z_80 hz_80 => ?_)
          refine s_iconst (v := 3) E dX9_seenFault_41 (by decide) ?_
          refine z_irem (u := z_80.toInt) (v := 3) E dX9_seenFault_42 rfl (by decide) (by omega) (by omega) (fun z_81 hz_81 => ?_)
          refine z_if_eq (tgt := 49) (u := z_81.toInt) E dX9_seenFault_43 (by decide) rfl (fun h_82 => ?_) (fun h_82 => ?_)
          ·
            refine s_iconst (v := 0) E dX9_seenFault_49 (by decide) ?_
            refine s_istore_n (L2 := [some (AR 0), some (AI 2), some (AR 65), some (AI 0)]) E dX9_seenFault_50 rfl (by decide) rfl ?_
            refine z_loop (St := Int32) (Pi := fun q51_3_82 v51 => (0 ≤ q51_3_82.toInt ∧ q51_3_82.toInt ≤ 60) ∧ (1 ≤ (v51.2.2.1 2 0).toInt ∧ (v51.2.2.1 2 0).toInt ≤ 2147483647) ∧ (0 ≤ (v51.2.2.1 65 2).toInt ∧ (v51.2.2.1 65 2).toInt ≤ 60) ∧ Jv w v51) (Lf := fun q51_3_82 => [some (AR 0), some (AI 2), some (AR 65), some (AI q51_3_82)]) (fun q51_3_82 _ => (61 - q51_3_82.toInt).toNat) 0 ⟨⟨by decide, by decide⟩, ⟨by omega, by omega⟩, ⟨by omega, by omega⟩, hJ⟩ ?_
            rintro q51_3_82 v51 ⟨hq51_3, ha51_0, ha51_1, hj_83⟩ ih51
            refine s_loc (L2 := [some (AR 0), some (AI 2), some (AR 65), some (AI q51_3_82)]) rfl ?_
            refine s_iload_n E dX9_seenFault_51 rfl rfl ?_
            refine s_iconst (v := 2) E dX9_seenFault_52 (by decide) ?_
            refine z_iadd (u := q51_3_82.toInt) (v := 2) E dX9_seenFault_53 rfl (by decide) (by omega) (by omega) (fun z_84 hz_84 => ?_)
            refine s_aload_n E dX9_seenFault_54 rfl rfl ?_
            refine s_gI E fg_X9_282 rfl rfl (jv_lt hj_83 (by decide)) dX9_seenFault_55 ?_
            refine z_nm (P := fun z => z.toInt = (v51.2.2.1 65 2).toInt ∧ (-1) ≤ z.toInt ∧ z.toInt ≤ 60) ⟨rfl, (rg_65_2 hj_83)⟩ (fun z_85 hz_85 => ?_)
            refine z_icmp_ge (tgt := 96) (u := z_84.toInt) (v := z_85.toInt) E dX9_seenFault_58 (by decide) rfl rfl (fun h_86 => ?_) (fun h_86 => ?_)
            ·
              refine s_iconst (v := 0) E dX9_seenFault_96 (by decide) ?_
              exact r_int E dX9_seenFault_97 ⟨⟨by decide, by decide, by first | (left; decide) | (right; have hb_ := z32 x1; omega), by first | (left; decide) | (right; have hb_ := z32 (w.2.2.1 2 0); omega)⟩, hj_83⟩
            ·
              refine s_aload_n E dX9_seenFault_61 rfl rfl ?_
              refine s_aload_n E dX9_seenFault_62 rfl rfl ?_
              refine s_iload_n E dX9_seenFault_63 rfl rfl ?_
              refine s_vL (As := [AI q51_3_82]) (S := [AR 0]) E (Z_X7_cell_65 l D aC b v51 q51_3_82 hj_83.1 ) cv_X9_285 rfl rfl rfl (jv_lt hj_83 (by decide)) (Nat.le_of_ble_eq_true rfl) (Nat.le_of_ble_eq_true rfl) ⟨(Nat.le_of_ble_eq_true rfl), (Nat.le_of_ble_eq_true rfl)⟩ (Nat.le_of_ble_eq_true rfl) dX9_seenFault_64 (fun z_89 u_87 hp_88 => ?_)
              obtain ⟨hz_89, hp_88⟩ := hp_88
              subst hp_88
              refine s_aload_n E dX9_seenFault_67 rfl rfl ?_
              refine s_iload_n E dX9_seenFault_68 rfl rfl ?_
              refine s_iconst (v := 1) E dX9_seenFault_69 (by decide) ?_
              refine z_iadd (u := q51_3_82.toInt) (v := 1) E dX9_seenFault_70 rfl (by decide) (by omega) (by omega) (fun z_91 hz_91 => ?_)
              refine s_vL (As := [AI z_91]) (S := [AL z_89, AR 0]) E (Z_X7_cell_65 l D aC b v51 z_91 hj_83.1 ) cv_X9_285 rfl rfl rfl (jv_lt hj_83 (by decide)) (Nat.le_of_ble_eq_true rfl) (Nat.le_of_ble_eq_true rfl) ⟨(Nat.le_of_ble_eq_true rfl), (Nat.le_of_ble_eq_true rfl)⟩ (Nat.le_of_ble_eq_true rfl) dX9_seenFault_71 (fun z_94 u_92 hp_93 => ?_)
              obtain ⟨hz_94, hp_93⟩ := hp_93
              subst hp_93
              refine s_aload_n E dX9_seenFault_74 rfl rfl ?_
              refine s_iload_n E dX9_seenFault_75 rfl rfl ?_
              refine s_iconst (v := 2) E dX9_seenFault_76 (by decide) ?_
              refine z_iadd (u := q51_3_82.toInt) (v := 2) E dX9_seenFault_77 rfl (by decide) (by omega) (by omega) (fun z_96 hz_96 => ?_)
              refine s_vL (As := [AI z_96]) (S := [AL z_94, AL z_89, AR 0]) E (Z_X7_cell_65 l D aC b v51 z_96 hj_83.1 ) cv_X9_285 rfl rfl rfl (jv_lt hj_83 (by decide)) (Nat.le_of_ble_eq_true rfl) (Nat.le_of_ble_eq_true rfl) ⟨(Nat.le_of_ble_eq_true rfl), (Nat.le_of_ble_eq_true rfl)⟩ (Nat.le_of_ble_eq_true rfl) dX9_seenFault_78 (fun z_99 u_97 hp_98 => ?_)
              obtain ⟨hz_99, hp_98⟩ := hp_98
              subst hp_98
              refine s_vI (As := [AL z_89, AL z_94, AL z_99]) (S := []) E (Z_X9_isSighting_0 l D aC b v51 z_89 z_94 z_99 hj_83.1 ) cv_X9_288 rfl rfl rfl (jv_lt hj_83 (by decide)) (Nat.le_of_ble_eq_true rfl) (Nat.le_of_ble_eq_true rfl) ⟨(Nat.le_of_ble_eq_true rfl), (Nat.le_of_ble_eq_true rfl)⟩ (Nat.le_of_ble_eq_true rfl) dX9_seenFault_81 (fun z_103 u_101 hp_102 => ?_)
              obtain ⟨hz_103, hp_102⟩ := hp_102
              subst hp_102
              refine z_if_ne (tgt := 90) (u := z_103.toInt) E dX9_seenFault_84 (by decide) rfl (fun h_105 => ?_) (fun h_105 => ?_)
              ·
                refine z_iinc (u := q51_3_82.toInt) (L2 := fun z_106 => [some (AR 0), some (AI 2), some (AR 65), some (AI z_106)]) E dX9_seenFault_90 rfl rfl (by decide) (fun _ => rfl) (by decide) (by omega) (by omega) (fun z_106 hz_106 => ?_)
                refine s_goto (tgt := 51) E dX9_seenFault_93 (by decide) ?_
                exact ih51 z_106 v51 ⟨⟨by have hb_ := z32 z_106; omega, by have hb_ := z32 z_106; omega⟩, ⟨by omega, by omega⟩, ⟨by omega, by omega⟩, hj_83⟩ (by first | decide | (dsimp only; omega))
              ·
                refine s_bipush (v := (-2)) E dX9_seenFault_87 (by decide) ?_
                exact r_int E dX9_seenFault_89 ⟨⟨by decide, by decide, by first | (left; decide) | (right; have hb_ := z32 x1; omega), by first | (left; decide) | (right; have hb_ := z32 (w.2.2.1 2 0); omega)⟩, hj_83⟩
          ·
            refine s_bipush (v := (-2)) E dX9_seenFault_46 (by decide) ?_
            exact r_int E dX9_seenFault_48 ⟨⟨by decide, by decide, by first | (left; decide) | (right; have hb_ := z32 x1; omega), by first | (left; decide) | (right; have hb_ := z32 (w.2.2.1 2 0); omega)⟩, hJ⟩
        ·
          refine s_bipush (v := (-6)) E dX9_seenFault_34 (by decide) ?_
          exact r_int E dX9_seenFault_36 ⟨⟨by decide, by decide, by first | (left; decide) | (right; have hb_ := z32 x1; omega), by first | (left; decide) | (right; have hb_ := z32 (w.2.2.1 2 0); omega)⟩, hJ⟩
      ·
        refine s_aald105 (r := 67) E rfl (jv_lt hJ (by decide)) (vp_c (by decide)) (jv_r hJ (by decide +kernel)) dX9_seenFault_25 ?_
        refine s_astore_n (L2 := [some (AR 0), some (AI 3), some (AR 67), none]) E dX9_seenFault_26 rfl (by decide) rfl ?_
        refine s_aload_n E dX9_seenFault_27 rfl rfl ?_
        refine s_vI (As := []) (S := []) E (Z_X7_isBare_67 l D aC b w  hJ.1 ) cv_X9_279 rfl rfl rfl (jv_lt hJ (by decide)) (Nat.le_of_ble_eq_true rfl) (Nat.le_of_ble_eq_true rfl) ⟨(Nat.le_of_ble_eq_true rfl), (Nat.le_of_ble_eq_true rfl)⟩ (Nat.le_of_ble_eq_true rfl) dX9_seenFault_28 (fun z_109 u_107 hp_108 => ?_)
        obtain ⟨hz_109, hp_108⟩ := hp_108
        subst hp_108
        refine z_if_eq (tgt := 37) (u := z_109.toInt) E dX9_seenFault_31 (by decide) rfl (fun h_111 => ?_) (fun h_111 => ?_)
        ·
          refine s_aload_n E dX9_seenFault_37 rfl rfl ?_
          refine s_gI E fg_X9_282 rfl rfl (jv_lt hJ (by decide)) dX9_seenFault_38 ?_
          refine z_nm (P := fun z => z.toInt = (w.2.2.1 67 2).toInt ∧ (-1) ≤ z.toInt ∧ z.toInt ≤ 60) ⟨rfl, (rg_67_2 hJ)⟩ (fun z_112 hz_112 => ?_)
          refine s_iconst (v := 3) E dX9_seenFault_41 (by decide) ?_
          refine z_irem (u := z_112.toInt) (v := 3) E dX9_seenFault_42 rfl (by decide) (by omega) (by omega) (fun z_113 hz_113 => ?_)
          refine z_if_eq (tgt := 49) (u := z_113.toInt) E dX9_seenFault_43 (by decide) rfl (fun h_114 => ?_) (fun h_114 => ?_)
          ·
            refine s_iconst (v := 0) E dX9_seenFault_49 (by decide) ?_
            refine s_istore_n (L2 := [some (AR 0), some (AI 3), some (AR 67), some (AI 0)]) E dX9_seenFault_50 rfl (by decide) rfl ?_
            refine z_loop (St := Int32) (Pi := fun q51_3_114 v51 => (0 ≤ q51_3_114.toInt ∧ q51_3_114.toInt ≤ 60) ∧ (1 ≤ (v51.2.2.1 2 0).toInt ∧ (v51.2.2.1 2 0).toInt ≤ 2147483647) ∧ (0 ≤ (v51.2.2.1 67 2).toInt ∧ (v51.2.2.1 67 2).toInt ≤ 60) ∧ Jv w v51) (Lf := fun q51_3_114 => [some (AR 0), some (AI 3), some (AR 67), some (AI q51_3_114)]) (fun q51_3_114 _ => (61 - q51_3_114.toInt).toNat) 0 ⟨⟨by decide, by decide⟩, ⟨by omega, by omega⟩, ⟨by omega, by omega⟩, hJ⟩ ?_
            rintro q51_3_114 v51 ⟨hq51_3, ha51_0, ha51_1, hj_115⟩ ih51
            refine s_loc (L2 := [some (AR 0), some (AI 3), some (AR 67), some (AI q51_3_114)]) rfl ?_
            refine s_iload_n E dX9_seenFault_51 rfl rfl ?_
            refine s_iconst (v := 2) E dX9_seenFault_52 (by decide) ?_
            refine z_iadd (u := q51_3_114.toInt) (v := 2) E dX9_seenFault_53 rfl (by decide) (by omega) (by omega) (fun z_116 hz_116 => ?_)
            refine s_aload_n E dX9_seenFault_54 rfl rfl ?_
            refine s_gI E fg_X9_282 rfl rfl (jv_lt hj_115 (by decide)) dX9_seenFault_55 ?_
            refine z_nm (P := fun z => z.toInt = (v51.2.2.1 67 2).toInt ∧ (-1) ≤ z.toInt ∧ z.toInt ≤ 60) ⟨rfl, (rg_67_2 hj_115)⟩ (fun z_117 hz_117 => ?_)
            refine z_icmp_ge (tgt := 96) (u := z_116.toInt) (v := z_117.toInt) E dX9_seenFault_58 (by decide) rfl rfl (fun h_118 => ?_) (fun h_118 => ?_)
            ·
              refine s_iconst (v := 0) E dX9_seenFault_96 (by decide) ?_
              exact r_int E dX9_seenFault_97 ⟨⟨by decide, by decide, by first | (left; decide) | (right; have hb_ := z32 x1; omega), by first | (left; decide) | (right; have hb_ := z32 (w.2.2.1 2 0); omega)⟩, hj_115⟩
            ·
              refine s_aload_n E dX9_seenFault_61 rfl rfl ?_
              refine s_aload_n E dX9_seenFault_62 rfl rfl ?_
              refine s_iload_n E dX9_seenFault_63 rfl rfl ?_
              refine s_vL (As := [AI q51_3_114]) (S := [AR 0]) E (Z_X7_cell_67 l D aC b v51 q51_3_114 hj_115.1 ) cv_X9_285 rfl rfl rfl (jv_lt hj_115 (by decide)) (Nat.le_of_ble_eq_true rfl) (Nat.le_of_ble_eq_true rfl) ⟨(Nat.le_of_ble_eq_true rfl), (Nat.le_of_ble_eq_true rfl)⟩ (Nat.le_of_ble_eq_true rfl) dX9_seenFault_64 (fun z_121 u_119 hp_120 => ?_)
              obtain ⟨hz_121, hp_120⟩ := hp_120
              subst hp_120
              refine s_aload_n E dX9_seenFault_67 rfl rfl ?_
              refine s_iload_n E dX9_seenFault_68 rfl rfl ?_
              refine s_iconst (v := 1) E dX9_seenFault_69 (by decide) ?_
              refine z_iadd (u := q51_3_114.toInt) (v := 1) E dX9_seenFault_70 rfl (by decide) (by omega) (by omega) (fun z_123 hz_123 => ?_)
              refine s_vL (As := [AI z_123]) (S := [AL z_121, AR 0]) E (Z_X7_cell_67 l D aC b v51 z_123 hj_115.1 ) cv_X9_285 rfl rfl rfl (jv_lt hj_115 (by decide)) (Nat.le_of_ble_eq_true rfl) (Nat.le_of_ble_eq_true rfl) ⟨(Nat.le_of_ble_eq_true rfl), (Nat.le_of_ble_eq_true rfl)⟩ (Nat.le_of_ble_eq_true rfl) dX9_seenFault_71 (fun z_126 u_124 hp_125 => ?_)
              obtain ⟨hz_126, hp_125⟩ := hp_125
              subst hp_125
              refine s_aload_n E dX9_seenFault_74 rfl rfl ?_
              refine s_iload_n E dX9_seenFault_75 rfl rfl ?_
              refine s_iconst (v := 2) E dX9_seenFault_76 (by decide) ?_
              refine z_iadd (u := q51_3_114.toInt) (v := 2) E dX9_seenFault_77 rfl (by decide) (by omega) (by omega) (fun z_128 hz_128 => ?_)
              refine s_vL (As := [AI z_128]) (S := [AL z_126, AL z_121, AR 0]) E (Z_X7_cell_67 l D aC b v51 z_128 hj_115.1 ) cv_X9_285 rfl rfl rfl (jv_lt hj_115 (by decide)) (Nat.le_of_ble_eq_true rfl) (Nat.le_of_ble_eq_true rfl) ⟨(Nat.le_of_ble_eq_true rfl), (Nat.le_of_ble_eq_true rfl)⟩ (Nat.le_of_ble_eq_true rfl) dX9_seenFault_78 (fun z_131 u_129 hp_130 => ?_)
              obtain ⟨hz_131, hp_130⟩ := hp_130
              subst hp_130
              refine s_vI (As := [AL z_121, AL z_126, AL z_131]) (S := []) E (Z_X9_isSighting_0 l D aC b v51 z_121 z_126 z_131 hj_115.1 ) cv_X9_288 rfl rfl rfl (jv_lt hj_115 (by decide)) (Nat.le_of_ble_eq_true rfl) (Nat.le_of_ble_eq_true rfl) ⟨(Nat.le_of_ble_eq_true rfl), (Nat.le_of_ble_eq_true rfl)⟩ (Nat.le_of_ble_eq_true rfl) dX9_seenFault_81 (fun z_135 u_133 hp_134 => ?_)
              obtain ⟨hz_135, hp_134⟩ := hp_134
              subst hp_134
              refine z_if_ne (tgt := 90) (u := z_135.toInt) E dX9_seenFault_84 (by decide) rfl (fun h_137 => ?_) (fun h_137 => ?_)
              ·
                refine z_iinc (u := q51_3_114.toInt) (L2 := fun z_138 => [some (AR 0), some (AI 3), some (AR 67), some (AI z_138)]) E dX9_seenFault_90 rfl rfl (by decide) (fun _ => rfl) (by decide) (by omega) (by omega) (fun z_138 hz_138 => ?_)
                refine s_goto (tgt := 51) E dX9_seenFault_93 (by decide) ?_
                exact ih51 z_138 v51 ⟨⟨by have hb_ := z32 z_138; omega, by have hb_ := z32 z_138; omega⟩, ⟨by omega, by omega⟩, ⟨by omega, by omega⟩, hj_115⟩ (by first | decide | (dsimp only; omega))
              ·
                refine s_bipush (v := (-2)) E dX9_seenFault_87 (by decide) ?_
                exact r_int E dX9_seenFault_89 ⟨⟨by decide, by decide, by first | (left; decide) | (right; have hb_ := z32 x1; omega), by first | (left; decide) | (right; have hb_ := z32 (w.2.2.1 2 0); omega)⟩, hj_115⟩
          ·
            refine s_bipush (v := (-2)) E dX9_seenFault_46 (by decide) ?_
            exact r_int E dX9_seenFault_48 ⟨⟨by decide, by decide, by first | (left; decide) | (right; have hb_ := z32 x1; omega), by first | (left; decide) | (right; have hb_ := z32 (w.2.2.1 2 0); omega)⟩, hJ⟩
        ·
          refine s_bipush (v := (-6)) E dX9_seenFault_34 (by decide) ?_
          exact r_int E dX9_seenFault_36 ⟨⟨by decide, by decide, by first | (left; decide) | (right; have hb_ := z32 x1; omega), by first | (left; decide) | (right; have hb_ := z32 (w.2.2.1 2 0); omega)⟩, hJ⟩
    ·
      refine s_bipush (v := (-2)) E dX9_seenFault_17 (by decide) ?_
      exact r_int E dX9_seenFault_19 ⟨⟨by decide, by decide, by first | (left; decide) | (right; have hb_ := z32 x1; omega), by first | (left; decide) | (right; have hb_ := z32 (w.2.2.1 2 0); omega)⟩, hJ⟩
set_option maxRecDepth 20000 in
set_option maxHeartbeats 2000000 in
theorem Z_X9_agrees_0_r61 (l : Launch) (D : va_G) (aC : Nat → ClassId) (b : Nat) (w : XW)  (hI : Iv w)  : CnI l D aC b M_X9_agrees 1 21 0 0 [AR 0, AR 61] w (fun r u => (0 ≤ r.toInt ∧ r.toInt ≤ 1) ∧ Jv w u) := by
  refine cn_I (own := RX9) (nm := "agrees") (L0 := [some (AR 0), some (AR 61), none, none]) (by decide +kernel) rfl rfl (Nat.le_of_ble_eq_true rfl) rfl ?_
  intro p e s m args below meth c E hin
  have hJ : Jv w w := jv_rfl hI
  refine s_iconst (v := 0) E dX9_agrees_0 (by decide) ?_
  refine s_istore_n (L2 := [some (AR 0), some (AR 61), some (AI 0), none]) E dX9_agrees_1 rfl (by decide) rfl ?_
  refine z_loop (St := Int32) (Pi := fun q2_2_0 v2 => (0 ≤ q2_2_0.toInt ∧ q2_2_0.toInt ≤ 60) ∧ Jv w v2) (Lf := fun q2_2_0 => [some (AR 0), some (AR 61), some (AI q2_2_0), none]) (fun q2_2_0 _ => (61 - q2_2_0.toInt).toNat) 0 ⟨⟨by decide, by decide⟩, hJ⟩ ?_
  rintro q2_2_0 v2 ⟨hq2_2, hj_1⟩ ih2
  refine s_loc (L2 := [some (AR 0), some (AR 61), some (AI q2_2_0), none]) rfl ?_
  refine s_iload_n E dX9_agrees_2 rfl rfl ?_
  refine s_iconst (v := 2) E dX9_agrees_3 (by decide) ?_
  refine z_iadd (u := q2_2_0.toInt) (v := 2) E dX9_agrees_4 rfl (by decide) (by omega) (by omega) (fun z_2 hz_2 => ?_)
  refine s_aload_n E dX9_agrees_5 rfl rfl ?_
  refine s_gI E fg_X9_282 rfl rfl (jv_lt hj_1 (by decide)) dX9_agrees_6 ?_
  refine z_nm (P := fun z => z.toInt = (v2.2.2.1 61 2).toInt ∧ (-1) ≤ z.toInt ∧ z.toInt ≤ 60) ⟨rfl, (rg_61_2 hj_1)⟩ (fun z_3 hz_3 => ?_)
  refine z_icmp_ge (tgt := 66) (u := z_2.toInt) (v := z_3.toInt) E dX9_agrees_9 (by decide) rfl rfl (fun h_4 => ?_) (fun h_4 => ?_)
  ·
    refine s_iconst (v := 1) E dX9_agrees_66 (by decide) ?_
    exact r_bool E dX9_agrees_67 (Or.inr rfl) ⟨(by decide), hj_1⟩
  ·
    refine s_aload_n E dX9_agrees_12 rfl rfl ?_
    refine s_gR (r := 81) E fg_X9_64 rfl rfl (jv_lt hj_1 (by decide)) (jv_r hj_1 (by decide +kernel)) dX9_agrees_13 ?_
    refine s_aload_n E dX9_agrees_16 rfl rfl ?_
    refine s_iload_n E dX9_agrees_17 rfl rfl ?_
    refine s_iconst (v := 1) E dX9_agrees_18 (by decide) ?_
    refine z_iadd (u := q2_2_0.toInt) (v := 1) E dX9_agrees_19 rfl (by decide) (by omega) (by omega) (fun z_5 hz_5 => ?_)
    refine s_vL (As := [AI z_5]) (S := [AR 81]) E (Z_X7_cell_61 l D aC b v2 z_5 hj_1.1 ) cv_X9_285 rfl rfl rfl (jv_lt hj_1 (by decide)) (Nat.le_of_ble_eq_true rfl) (Nat.le_of_ble_eq_true rfl) ⟨(Nat.le_of_ble_eq_true rfl), (Nat.le_of_ble_eq_true rfl)⟩ (Nat.le_of_ble_eq_true rfl) dX9_agrees_20 (fun z_8 u_6 hp_7 => ?_)
    obtain ⟨hz_8, hp_7⟩ := hp_7
    subst hp_7
    refine s_l2i E dX9_agrees_23 ?_
    refine z_any (fun z_10 => ?_)
    refine s_vI (As := [AI z_10]) (S := []) E (Z_X5_behind_81 l D aC b v2 z_10 hj_1.1 ) cv_X9_224 rfl rfl rfl (jv_lt hj_1 (by decide)) (Nat.le_of_ble_eq_true rfl) (Nat.le_of_ble_eq_true rfl) ⟨(Nat.le_of_ble_eq_true rfl), (Nat.le_of_ble_eq_true rfl)⟩ (Nat.le_of_ble_eq_true rfl) dX9_agrees_24 (fun z_13 u_11 hp_12 => ?_)
    obtain ⟨hz_13, hp_12⟩ := hp_12
    subst hp_12
    refine s_istore_n (L2 := [some (AR 0), some (AR 61), some (AI q2_2_0), some (AI z_13)]) E dX9_agrees_27 rfl (by decide) rfl ?_
    refine s_iload_n E dX9_agrees_28 rfl rfl ?_
    refine s_aload_n E dX9_agrees_29 rfl rfl ?_
    refine s_iload_n E dX9_agrees_30 rfl rfl ?_
    refine s_vL (As := [AI q2_2_0]) (S := [AI z_13]) E (Z_X7_cell_61 l D aC b v2 q2_2_0 hj_1.1 ) cv_X9_285 rfl rfl rfl (jv_lt hj_1 (by decide)) (Nat.le_of_ble_eq_true rfl) (Nat.le_of_ble_eq_true rfl) ⟨(Nat.le_of_ble_eq_true rfl), (Nat.le_of_ble_eq_true rfl)⟩ (Nat.le_of_ble_eq_true rfl) dX9_agrees_31 (fun z_17 u_15 hp_16 => ?_)
    obtain ⟨hz_17, hp_16⟩ := hp_16
    subst hp_16
    refine s_l2i E dX9_agrees_34 ?_
    refine z_any (fun z_19 => ?_)
    refine s_sI (As := [AI z_13, AI z_19]) (S := []) E (Z_X9_hasBit l D aC b v2 z_13 z_19 hj_1.1 ) cs_X9_175 rfl rfl (Nat.le_of_ble_eq_true rfl) (Nat.le_of_ble_eq_true rfl) ⟨(Nat.le_of_ble_eq_true rfl), (Nat.le_of_ble_eq_true rfl)⟩ (Nat.le_of_ble_eq_true rfl) dX9_agrees_35 (fun z_22 u_20 hp_21 => ?_)
    obtain ⟨hz_22, hp_21⟩ := hp_21
    subst hp_21
    refine s_aload_n E dX9_agrees_38 rfl rfl ?_
    refine s_iload_n E dX9_agrees_39 rfl rfl ?_
    refine s_iconst (v := 2) E dX9_agrees_40 (by decide) ?_
    refine z_iadd (u := q2_2_0.toInt) (v := 2) E dX9_agrees_41 rfl (by decide) (by omega) (by omega) (fun z_24 hz_24 => ?_)
    refine s_vL (As := [AI z_24]) (S := [AI z_22]) E (Z_X7_cell_61 l D aC b v2 z_24 hj_1.1 ) cv_X9_285 rfl rfl rfl (jv_lt hj_1 (by decide)) (Nat.le_of_ble_eq_true rfl) (Nat.le_of_ble_eq_true rfl) ⟨(Nat.le_of_ble_eq_true rfl), (Nat.le_of_ble_eq_true rfl)⟩ (Nat.le_of_ble_eq_true rfl) dX9_agrees_42 (fun z_27 u_25 hp_26 => ?_)
    obtain ⟨hz_27, hp_26⟩ := hp_26
    subst hp_26
    refine s_lconst (v := 1) E dX9_agrees_45 (by decide) ?_
    refine z_lcmp (u := z_27.toInt) (v := 1) E dX9_agrees_46 rfl (by decide) (fun z_29 hz_29 => ?_)
    refine z_if_ne (tgt := 54) (u := z_29.toInt) E dX9_agrees_47 (by decide) rfl (fun h_30 => ?_) (fun h_30 => ?_)
    ·
      refine s_iconst (v := 0) E dX9_agrees_54 (by decide) ?_
      refine z_icmp_eq (tgt := 60) (u := z_22.toInt) (v := 0) E dX9_agrees_55 (by decide) rfl (by decide) (fun h_31 => ?_) (fun h_31 => ?_)
      ·
        refine z_iinc (u := q2_2_0.toInt) (L2 := fun z_32 => [some (AR 0), some (AR 61), some (AI z_32), some (AI z_13)]) E dX9_agrees_60 rfl rfl (by decide) (fun _ => rfl) (by decide) (by omega) (by omega) (fun z_32 hz_32 => ?_)
        refine s_goto (tgt := 2) E dX9_agrees_63 (by decide) ?_
        refine s_drop (i := 3) (L2 := [some (AR 0), some (AR 61), some (AI z_32), none]) rfl ?_
        exact ih2 z_32 v2 ⟨⟨by have hb_ := z32 z_32; omega, by have hb_ := z32 z_32; omega⟩, hj_1⟩ (by first | omega | (dsimp only; omega))
      ·
        refine s_iconst (v := 0) E dX9_agrees_58 (by decide) ?_
        exact r_bool E dX9_agrees_59 (Or.inl rfl) ⟨(by decide), hj_1⟩
    ·
      refine s_iconst (v := 1) E dX9_agrees_50 (by decide) ?_
      refine s_goto (tgt := 55) E dX9_agrees_51 (by decide) ?_
      refine z_icmp_eq (tgt := 60) (u := z_22.toInt) (v := 1) E dX9_agrees_55 (by decide) rfl (by decide) (fun h_33 => ?_) (fun h_33 => ?_)
      ·
        refine z_iinc (u := q2_2_0.toInt) (L2 := fun z_34 => [some (AR 0), some (AR 61), some (AI z_34), some (AI z_13)]) E dX9_agrees_60 rfl rfl (by decide) (fun _ => rfl) (by decide) (by omega) (by omega) (fun z_34 hz_34 => ?_)
        refine s_goto (tgt := 2) E dX9_agrees_63 (by decide) ?_
        refine s_drop (i := 3) (L2 := [some (AR 0), some (AR 61), some (AI z_34), none]) rfl ?_
        exact ih2 z_34 v2 ⟨⟨by have hb_ := z32 z_34; omega, by have hb_ := z32 z_34; omega⟩, hj_1⟩ (by first | omega | (dsimp only; omega))
      ·
        refine s_iconst (v := 0) E dX9_agrees_58 (by decide) ?_
        exact r_bool E dX9_agrees_59 (Or.inl rfl) ⟨(by decide), hj_1⟩
set_option maxRecDepth 20000 in
set_option maxHeartbeats 2000000 in
theorem Z_X9_possibleFirsts_0_r61 (l : Launch) (D : va_G) (aC : Nat → ClassId) (b : Nat) (w : XW)  (hI : Iv w)  : CnI l D aC b M_X9_possibleFirsts 5 113 0 0 [AR 0, AR 61] w (fun r u => ((-2147483648) ≤ r.toInt ∧ r.toInt ≤ 2147483647) ∧ Jv w u) := by
  refine cn_I (own := RX9) (nm := "possibleFirsts") (L0 := [some (AR 0), some (AR 61), none, none]) (by decide +kernel) rfl rfl (Nat.le_of_ble_eq_true rfl) rfl ?_
  intro p e s m args below meth c E hin
  have hJ : Jv w w := jv_rfl hI
  refine s_aload_n E dX9_possibleFirsts_0 rfl rfl ?_
  refine s_vV (As := []) (S := []) E (Z_X9_passAsTold_0 l D aC b w  hJ.1 ) cv_X9_227 rfl rfl rfl (jv_lt hJ (by decide)) (Nat.le_of_ble_eq_true rfl) (Nat.le_of_ble_eq_true rfl) ⟨(Nat.le_of_ble_eq_true rfl), (Nat.le_of_ble_eq_true rfl)⟩ (Nat.le_of_ble_eq_true rfl) dX9_possibleFirsts_1 (fun u_1 hp_2 => ?_)
  have hj_3 := jv_trans hJ hp_2
  refine s_iconst (v := 0) E dX9_possibleFirsts_4 (by decide) ?_
  refine s_istore_n (L2 := [some (AR 0), some (AR 61), some (AI 0), none]) E dX9_possibleFirsts_5 rfl (by decide) rfl ?_
  refine s_iconst (v := 0) E dX9_possibleFirsts_6 (by decide) ?_
  refine s_istore_n (L2 := [some (AR 0), some (AR 61), some (AI 0), some (AI 0)]) E dX9_possibleFirsts_7 rfl (by decide) rfl ?_
  refine z_loop (St := Int32 × Int32) (Pi := fun ⟨q8_2_3, q8_3_3⟩ v8 => (0 ≤ q8_3_3.toInt ∧ q8_3_3.toInt ≤ 6) ∧ Jv w v8) (Lf := fun ⟨q8_2_3, q8_3_3⟩ => [some (AR 0), some (AR 61), some (AI q8_2_3), some (AI q8_3_3)]) (fun ⟨q8_2_3, q8_3_3⟩ _ => (7 - q8_3_3.toInt).toNat) ⟨0, 0⟩ ⟨⟨by decide, by decide⟩, hj_3⟩ ?_
  rintro ⟨q8_2_3, q8_3_3⟩ v8 ⟨hq8_3, hj_4⟩ ih8
  refine s_loc (L2 := [some (AR 0), some (AR 61), some (AI q8_2_3), some (AI q8_3_3)]) rfl ?_
  refine s_iload_n E dX9_possibleFirsts_8 rfl rfl ?_
  refine s_aload_n E dX9_possibleFirsts_9 rfl rfl ?_
  refine s_gR (r := 2) E fg_X9_20 rfl rfl (jv_lt hj_4 (by decide)) (jv_r hj_4 (by decide +kernel)) dX9_possibleFirsts_10 ?_
  refine s_gR (r := 5) E fg_X9_133 rfl rfl (jv_lt hj_4 (by decide)) (jv_r hj_4 (by decide +kernel)) dX9_possibleFirsts_13 ?_
  refine s_gI E fg_X9_200 rfl rfl (jv_lt hj_4 (by decide)) dX9_possibleFirsts_16 ?_
  refine z_nm (P := fun z => z.toInt = (v8.2.2.1 5 3).toInt ∧ 0 ≤ z.toInt ∧ z.toInt ≤ 6) ⟨rfl, (rg_5_3 hj_4)⟩ (fun z_5 hz_5 => ?_)
  refine z_icmp_ge (tgt := 55) (u := q8_3_3.toInt) (v := z_5.toInt) E dX9_possibleFirsts_19 (by decide) rfl rfl (fun h_6 => ?_) (fun h_6 => ?_)
  ·
    refine s_iload_n E dX9_possibleFirsts_55 rfl rfl ?_
    exact r_int E dX9_possibleFirsts_56 ⟨⟨by have hb_ := z32 q8_2_3; omega, by have hb_ := z32 q8_2_3; omega⟩, hj_4⟩
  ·
    refine s_aload_n E dX9_possibleFirsts_22 rfl rfl ?_
    refine s_gR (r := 81) E fg_X9_64 rfl rfl (jv_lt hj_4 (by decide)) (jv_r hj_4 (by decide +kernel)) dX9_possibleFirsts_23 ?_
    refine s_aload_n E dX9_possibleFirsts_26 rfl rfl ?_
    refine s_gR (r := 69) E fg_X9_54 rfl rfl (jv_lt hj_4 (by decide)) (jv_r hj_4 (by decide +kernel)) dX9_possibleFirsts_27 ?_
    refine s_iload_n E dX9_possibleFirsts_30 rfl rfl ?_
    refine s_iconst (v := 0) E dX9_possibleFirsts_31 (by decide) ?_
    refine s_vV (As := [AR 69, AI q8_3_3, AI 0]) (S := []) E (Z_X5_follow_81_r69 l D aC b v8 q8_3_3 0 hj_4.1 ) cv_X9_220 rfl rfl rfl (jv_lt hj_4 (by decide)) (Nat.le_of_ble_eq_true rfl) (Nat.le_of_ble_eq_true rfl) ⟨(Nat.le_of_ble_eq_true rfl), (Nat.le_of_ble_eq_true rfl)⟩ (Nat.le_of_ble_eq_true rfl) dX9_possibleFirsts_32 (fun u_7 hp_8 => ?_)
    have hj_9 := jv_trans hj_4 hp_8
    refine s_aload_n E dX9_possibleFirsts_35 rfl rfl ?_
    refine s_aload_n E dX9_possibleFirsts_36 rfl rfl ?_
    refine s_vI (As := [AR 61]) (S := []) E (Z_X9_agrees_0_r61 l D aC b u_7  hj_9.1 ) cv_X9_292 rfl rfl rfl (jv_lt hj_9 (by decide)) (Nat.le_of_ble_eq_true rfl) (Nat.le_of_ble_eq_true rfl) ⟨(Nat.le_of_ble_eq_true rfl), (Nat.le_of_ble_eq_true rfl)⟩ (Nat.le_of_ble_eq_true rfl) dX9_possibleFirsts_37 (fun z_12 u_10 hp_11 => ?_)
    obtain ⟨hz_12, hp_11⟩ := hp_11
    have hj_13 := jv_trans hj_9 hp_11
    refine z_if_eq (tgt := 49) (u := z_12.toInt) E dX9_possibleFirsts_40 (by decide) rfl (fun h_14 => ?_) (fun h_14 => ?_)
    ·
      refine z_iinc (u := q8_3_3.toInt) (L2 := fun z_15 => [some (AR 0), some (AR 61), some (AI q8_2_3), some (AI z_15)]) E dX9_possibleFirsts_49 rfl rfl (by decide) (fun _ => rfl) (by decide) (by omega) (by omega) (fun z_15 hz_15 => ?_)
      refine s_goto (tgt := 8) E dX9_possibleFirsts_52 (by decide) ?_
      exact ih8 ⟨q8_2_3, z_15⟩ u_10 ⟨⟨by have hb_ := z32 z_15; omega, by have hb_ := z32 z_15; omega⟩, hj_13⟩ (by first | omega | (dsimp only; omega))
    ·
      refine s_iload_n E dX9_possibleFirsts_43 rfl rfl ?_
      refine s_iconst (v := 1) E dX9_possibleFirsts_44 (by decide) ?_
      refine s_iload_n E dX9_possibleFirsts_45 rfl rfl ?_
      refine z_shl1 5 (u := q8_3_3.toInt) (B := 32) E dX9_possibleFirsts_46 rfl (by omega) (by omega) (by decide) (by decide) (fun z_16 hz_16 => ?_)
      refine s_ior E dX9_possibleFirsts_47 ?_
      refine z_any (fun z_17 => ?_)
      refine s_istore_n (L2 := [some (AR 0), some (AR 61), some (AI z_17), some (AI q8_3_3)]) E dX9_possibleFirsts_48 rfl (by decide) rfl ?_
      refine z_iinc (u := q8_3_3.toInt) (L2 := fun z_18 => [some (AR 0), some (AR 61), some (AI z_17), some (AI z_18)]) E dX9_possibleFirsts_49 rfl rfl (by decide) (fun _ => rfl) (by decide) (by omega) (by omega) (fun z_18 hz_18 => ?_)
      refine s_goto (tgt := 8) E dX9_possibleFirsts_52 (by decide) ?_
      exact ih8 ⟨z_17, z_18⟩ u_10 ⟨⟨by have hb_ := z32 z_18; omega, by have hb_ := z32 z_18; omega⟩, hj_13⟩ (by first | omega | (dsimp only; omega))
set_option maxRecDepth 20000 in
set_option maxHeartbeats 2000000 in
theorem Z_X9_agrees_0_r63 (l : Launch) (D : va_G) (aC : Nat → ClassId) (b : Nat) (w : XW)  (hI : Iv w)  : CnI l D aC b M_X9_agrees 1 21 0 0 [AR 0, AR 63] w (fun r u => (0 ≤ r.toInt ∧ r.toInt ≤ 1) ∧ Jv w u) := by
  refine cn_I (own := RX9) (nm := "agrees") (L0 := [some (AR 0), some (AR 63), none, none]) (by decide +kernel) rfl rfl (Nat.le_of_ble_eq_true rfl) rfl ?_
  intro p e s m args below meth c E hin
  have hJ : Jv w w := jv_rfl hI
  refine s_iconst (v := 0) E dX9_agrees_0 (by decide) ?_
  refine s_istore_n (L2 := [some (AR 0), some (AR 63), some (AI 0), none]) E dX9_agrees_1 rfl (by decide) rfl ?_
  refine z_loop (St := Int32) (Pi := fun q2_2_0 v2 => (0 ≤ q2_2_0.toInt ∧ q2_2_0.toInt ≤ 60) ∧ Jv w v2) (Lf := fun q2_2_0 => [some (AR 0), some (AR 63), some (AI q2_2_0), none]) (fun q2_2_0 _ => (61 - q2_2_0.toInt).toNat) 0 ⟨⟨by decide, by decide⟩, hJ⟩ ?_
  rintro q2_2_0 v2 ⟨hq2_2, hj_1⟩ ih2
  refine s_loc (L2 := [some (AR 0), some (AR 63), some (AI q2_2_0), none]) rfl ?_
  refine s_iload_n E dX9_agrees_2 rfl rfl ?_
  refine s_iconst (v := 2) E dX9_agrees_3 (by decide) ?_
  refine z_iadd (u := q2_2_0.toInt) (v := 2) E dX9_agrees_4 rfl (by decide) (by omega) (by omega) (fun z_2 hz_2 => ?_)
  refine s_aload_n E dX9_agrees_5 rfl rfl ?_
  refine s_gI E fg_X9_282 rfl rfl (jv_lt hj_1 (by decide)) dX9_agrees_6 ?_
  refine z_nm (P := fun z => z.toInt = (v2.2.2.1 63 2).toInt ∧ (-1) ≤ z.toInt ∧ z.toInt ≤ 60) ⟨rfl, (rg_63_2 hj_1)⟩ (fun z_3 hz_3 => ?_)
  refine z_icmp_ge (tgt := 66) (u := z_2.toInt) (v := z_3.toInt) E dX9_agrees_9 (by decide) rfl rfl (fun h_4 => ?_) (fun h_4 => ?_)
  ·
    refine s_iconst (v := 1) E dX9_agrees_66 (by decide) ?_
    exact r_bool E dX9_agrees_67 (Or.inr rfl) ⟨(by decide), hj_1⟩
  ·
    refine s_aload_n E dX9_agrees_12 rfl rfl ?_
    refine s_gR (r := 81) E fg_X9_64 rfl rfl (jv_lt hj_1 (by decide)) (jv_r hj_1 (by decide +kernel)) dX9_agrees_13 ?_
    refine s_aload_n E dX9_agrees_16 rfl rfl ?_
    refine s_iload_n E dX9_agrees_17 rfl rfl ?_
    refine s_iconst (v := 1) E dX9_agrees_18 (by decide) ?_
    refine z_iadd (u := q2_2_0.toInt) (v := 1) E dX9_agrees_19 rfl (by decide) (by omega) (by omega) (fun z_5 hz_5 => ?_)
    refine s_vL (As := [AI z_5]) (S := [AR 81]) E (Z_X7_cell_63 l D aC b v2 z_5 hj_1.1 ) cv_X9_285 rfl rfl rfl (jv_lt hj_1 (by decide)) (Nat.le_of_ble_eq_true rfl) (Nat.le_of_ble_eq_true rfl) ⟨(Nat.le_of_ble_eq_true rfl), (Nat.le_of_ble_eq_true rfl)⟩ (Nat.le_of_ble_eq_true rfl) dX9_agrees_20 (fun z_8 u_6 hp_7 => ?_)
    obtain ⟨hz_8, hp_7⟩ := hp_7
    subst hp_7
    refine s_l2i E dX9_agrees_23 ?_
    refine z_any (fun z_10 => ?_)
    refine s_vI (As := [AI z_10]) (S := []) E (Z_X5_behind_81 l D aC b v2 z_10 hj_1.1 ) cv_X9_224 rfl rfl rfl (jv_lt hj_1 (by decide)) (Nat.le_of_ble_eq_true rfl) (Nat.le_of_ble_eq_true rfl) ⟨(Nat.le_of_ble_eq_true rfl), (Nat.le_of_ble_eq_true rfl)⟩ (Nat.le_of_ble_eq_true rfl) dX9_agrees_24 (fun z_13 u_11 hp_12 => ?_)
    obtain ⟨hz_13, hp_12⟩ := hp_12
    subst hp_12
    refine s_istore_n (L2 := [some (AR 0), some (AR 63), some (AI q2_2_0), some (AI z_13)]) E dX9_agrees_27 rfl (by decide) rfl ?_
    refine s_iload_n E dX9_agrees_28 rfl rfl ?_
    refine s_aload_n E dX9_agrees_29 rfl rfl ?_
    refine s_iload_n E dX9_agrees_30 rfl rfl ?_
    refine s_vL (As := [AI q2_2_0]) (S := [AI z_13]) E (Z_X7_cell_63 l D aC b v2 q2_2_0 hj_1.1 ) cv_X9_285 rfl rfl rfl (jv_lt hj_1 (by decide)) (Nat.le_of_ble_eq_true rfl) (Nat.le_of_ble_eq_true rfl) ⟨(Nat.le_of_ble_eq_true rfl), (Nat.le_of_ble_eq_true rfl)⟩ (Nat.le_of_ble_eq_true rfl) dX9_agrees_31 (fun z_17 u_15 hp_16 => ?_)
    obtain ⟨hz_17, hp_16⟩ := hp_16
    subst hp_16
    refine s_l2i E dX9_agrees_34 ?_
    refine z_any (fun z_19 => ?_)
    refine s_sI (As := [AI z_13, AI z_19]) (S := []) E (Z_X9_hasBit l D aC b v2 z_13 z_19 hj_1.1 ) cs_X9_175 rfl rfl (Nat.le_of_ble_eq_true rfl) (Nat.le_of_ble_eq_true rfl) ⟨(Nat.le_of_ble_eq_true rfl), (Nat.le_of_ble_eq_true rfl)⟩ (Nat.le_of_ble_eq_true rfl) dX9_agrees_35 (fun z_22 u_20 hp_21 => ?_)
    obtain ⟨hz_22, hp_21⟩ := hp_21
    subst hp_21
    refine s_aload_n E dX9_agrees_38 rfl rfl ?_
    refine s_iload_n E dX9_agrees_39 rfl rfl ?_
    refine s_iconst (v := 2) E dX9_agrees_40 (by decide) ?_
    refine z_iadd (u := q2_2_0.toInt) (v := 2) E dX9_agrees_41 rfl (by decide) (by omega) (by omega) (fun z_24 hz_24 => ?_)
    refine s_vL (As := [AI z_24]) (S := [AI z_22]) E (Z_X7_cell_63 l D aC b v2 z_24 hj_1.1 ) cv_X9_285 rfl rfl rfl (jv_lt hj_1 (by decide)) (Nat.le_of_ble_eq_true rfl) (Nat.le_of_ble_eq_true rfl) ⟨(Nat.le_of_ble_eq_true rfl), (Nat.le_of_ble_eq_true rfl)⟩ (Nat.le_of_ble_eq_true rfl) dX9_agrees_42 (fun z_27 u_25 hp_26 => ?_)
    obtain ⟨hz_27, hp_26⟩ := hp_26
    subst hp_26
    refine s_lconst (v := 1) E dX9_agrees_45 (by decide) ?_
    refine z_lcmp (u := z_27.toInt) (v := 1) E dX9_agrees_46 rfl (by decide) (fun z_29 hz_29 => ?_)
    refine z_if_ne (tgt := 54) (u := z_29.toInt) E dX9_agrees_47 (by decide) rfl (fun h_30 => ?_) (fun h_30 => ?_)
    ·
      refine s_iconst (v := 0) E dX9_agrees_54 (by decide) ?_
      refine z_icmp_eq (tgt := 60) (u := z_22.toInt) (v := 0) E dX9_agrees_55 (by decide) rfl (by decide) (fun h_31 => ?_) (fun h_31 => ?_)
      ·
        refine z_iinc (u := q2_2_0.toInt) (L2 := fun z_32 => [some (AR 0), some (AR 63), some (AI z_32), some (AI z_13)]) E dX9_agrees_60 rfl rfl (by decide) (fun _ => rfl) (by decide) (by omega) (by omega) (fun z_32 hz_32 => ?_)
        refine s_goto (tgt := 2) E dX9_agrees_63 (by decide) ?_
        refine s_drop (i := 3) (L2 := [some (AR 0), some (AR 63), some (AI z_32), none]) rfl ?_
        exact ih2 z_32 v2 ⟨⟨by have hb_ := z32 z_32; omega, by have hb_ := z32 z_32; omega⟩, hj_1⟩ (by first | omega | (dsimp only; omega))
      ·
        refine s_iconst (v := 0) E dX9_agrees_58 (by decide) ?_
        exact r_bool E dX9_agrees_59 (Or.inl rfl) ⟨(by decide), hj_1⟩
    ·
      refine s_iconst (v := 1) E dX9_agrees_50 (by decide) ?_
      refine s_goto (tgt := 55) E dX9_agrees_51 (by decide) ?_
      refine z_icmp_eq (tgt := 60) (u := z_22.toInt) (v := 1) E dX9_agrees_55 (by decide) rfl (by decide) (fun h_33 => ?_) (fun h_33 => ?_)
      ·
        refine z_iinc (u := q2_2_0.toInt) (L2 := fun z_34 => [some (AR 0), some (AR 63), some (AI z_34), some (AI z_13)]) E dX9_agrees_60 rfl rfl (by decide) (fun _ => rfl) (by decide) (by omega) (by omega) (fun z_34 hz_34 => ?_)
        refine s_goto (tgt := 2) E dX9_agrees_63 (by decide) ?_
        refine s_drop (i := 3) (L2 := [some (AR 0), some (AR 63), some (AI z_34), none]) rfl ?_
        exact ih2 z_34 v2 ⟨⟨by have hb_ := z32 z_34; omega, by have hb_ := z32 z_34; omega⟩, hj_1⟩ (by first | omega | (dsimp only; omega))
      ·
        refine s_iconst (v := 0) E dX9_agrees_58 (by decide) ?_
        exact r_bool E dX9_agrees_59 (Or.inl rfl) ⟨(by decide), hj_1⟩
set_option maxRecDepth 20000 in
set_option maxHeartbeats 2000000 in
theorem Z_X9_possibleFirsts_0_r63 (l : Launch) (D : va_G) (aC : Nat → ClassId) (b : Nat) (w : XW)  (hI : Iv w)  : CnI l D aC b M_X9_possibleFirsts 5 113 0 0 [AR 0, AR 63] w (fun r u => ((-2147483648) ≤ r.toInt ∧ r.toInt ≤ 2147483647) ∧ Jv w u) := by
  refine cn_I (own := RX9) (nm := "possibleFirsts") (L0 := [some (AR 0), some (AR 63), none, none]) (by decide +kernel) rfl rfl (Nat.le_of_ble_eq_true rfl) rfl ?_
  intro p e s m args below meth c E hin
  have hJ : Jv w w := jv_rfl hI
  refine s_aload_n E dX9_possibleFirsts_0 rfl rfl ?_
  refine s_vV (As := []) (S := []) E (Z_X9_passAsTold_0 l D aC b w  hJ.1 ) cv_X9_227 rfl rfl rfl (jv_lt hJ (by decide)) (Nat.le_of_ble_eq_true rfl) (Nat.le_of_ble_eq_true rfl) ⟨(Nat.le_of_ble_eq_true rfl), (Nat.le_of_ble_eq_true rfl)⟩ (Nat.le_of_ble_eq_true rfl) dX9_possibleFirsts_1 (fun u_1 hp_2 => ?_)
  have hj_3 := jv_trans hJ hp_2
  refine s_iconst (v := 0) E dX9_possibleFirsts_4 (by decide) ?_
  refine s_istore_n (L2 := [some (AR 0), some (AR 63), some (AI 0), none]) E dX9_possibleFirsts_5 rfl (by decide) rfl ?_
  refine s_iconst (v := 0) E dX9_possibleFirsts_6 (by decide) ?_
  refine s_istore_n (L2 := [some (AR 0), some (AR 63), some (AI 0), some (AI 0)]) E dX9_possibleFirsts_7 rfl (by decide) rfl ?_
  refine z_loop (St := Int32 × Int32) (Pi := fun ⟨q8_2_3, q8_3_3⟩ v8 => (0 ≤ q8_3_3.toInt ∧ q8_3_3.toInt ≤ 6) ∧ Jv w v8) (Lf := fun ⟨q8_2_3, q8_3_3⟩ => [some (AR 0), some (AR 63), some (AI q8_2_3), some (AI q8_3_3)]) (fun ⟨q8_2_3, q8_3_3⟩ _ => (7 - q8_3_3.toInt).toNat) ⟨0, 0⟩ ⟨⟨by decide, by decide⟩, hj_3⟩ ?_
  rintro ⟨q8_2_3, q8_3_3⟩ v8 ⟨hq8_3, hj_4⟩ ih8
  refine s_loc (L2 := [some (AR 0), some (AR 63), some (AI q8_2_3), some (AI q8_3_3)]) rfl ?_
  refine s_iload_n E dX9_possibleFirsts_8 rfl rfl ?_
  refine s_aload_n E dX9_possibleFirsts_9 rfl rfl ?_
  refine s_gR (r := 2) E fg_X9_20 rfl rfl (jv_lt hj_4 (by decide)) (jv_r hj_4 (by decide +kernel)) dX9_possibleFirsts_10 ?_
  refine s_gR (r := 5) E fg_X9_133 rfl rfl (jv_lt hj_4 (by decide)) (jv_r hj_4 (by decide +kernel)) dX9_possibleFirsts_13 ?_
  refine s_gI E fg_X9_200 rfl rfl (jv_lt hj_4 (by decide)) dX9_possibleFirsts_16 ?_
  refine z_nm (P := fun z => z.toInt = (v8.2.2.1 5 3).toInt ∧ 0 ≤ z.toInt ∧ z.toInt ≤ 6) ⟨rfl, (rg_5_3 hj_4)⟩ (fun z_5 hz_5 => ?_)
  refine z_icmp_ge (tgt := 55) (u := q8_3_3.toInt) (v := z_5.toInt) E dX9_possibleFirsts_19 (by decide) rfl rfl (fun h_6 => ?_) (fun h_6 => ?_)
  ·
    refine s_iload_n E dX9_possibleFirsts_55 rfl rfl ?_
    exact r_int E dX9_possibleFirsts_56 ⟨⟨by have hb_ := z32 q8_2_3; omega, by have hb_ := z32 q8_2_3; omega⟩, hj_4⟩
  ·
    refine s_aload_n E dX9_possibleFirsts_22 rfl rfl ?_
    refine s_gR (r := 81) E fg_X9_64 rfl rfl (jv_lt hj_4 (by decide)) (jv_r hj_4 (by decide +kernel)) dX9_possibleFirsts_23 ?_
    refine s_aload_n E dX9_possibleFirsts_26 rfl rfl ?_
    refine s_gR (r := 69) E fg_X9_54 rfl rfl (jv_lt hj_4 (by decide)) (jv_r hj_4 (by decide +kernel)) dX9_possibleFirsts_27 ?_
    refine s_iload_n E dX9_possibleFirsts_30 rfl rfl ?_
    refine s_iconst (v := 0) E dX9_possibleFirsts_31 (by decide) ?_
    refine s_vV (As := [AR 69, AI q8_3_3, AI 0]) (S := []) E (Z_X5_follow_81_r69 l D aC b v8 q8_3_3 0 hj_4.1 ) cv_X9_220 rfl rfl rfl (jv_lt hj_4 (by decide)) (Nat.le_of_ble_eq_true rfl) (Nat.le_of_ble_eq_true rfl) ⟨(Nat.le_of_ble_eq_true rfl), (Nat.le_of_ble_eq_true rfl)⟩ (Nat.le_of_ble_eq_true rfl) dX9_possibleFirsts_32 (fun u_7 hp_8 => ?_)
    have hj_9 := jv_trans hj_4 hp_8
    refine s_aload_n E dX9_possibleFirsts_35 rfl rfl ?_
    refine s_aload_n E dX9_possibleFirsts_36 rfl rfl ?_
    refine s_vI (As := [AR 63]) (S := []) E (Z_X9_agrees_0_r63 l D aC b u_7  hj_9.1 ) cv_X9_292 rfl rfl rfl (jv_lt hj_9 (by decide)) (Nat.le_of_ble_eq_true rfl) (Nat.le_of_ble_eq_true rfl) ⟨(Nat.le_of_ble_eq_true rfl), (Nat.le_of_ble_eq_true rfl)⟩ (Nat.le_of_ble_eq_true rfl) dX9_possibleFirsts_37 (fun z_12 u_10 hp_11 => ?_)
    obtain ⟨hz_12, hp_11⟩ := hp_11
    have hj_13 := jv_trans hj_9 hp_11
    refine z_if_eq (tgt := 49) (u := z_12.toInt) E dX9_possibleFirsts_40 (by decide) rfl (fun h_14 => ?_) (fun h_14 => ?_)
    ·
      refine z_iinc (u := q8_3_3.toInt) (L2 := fun z_15 => [some (AR 0), some (AR 63), some (AI q8_2_3), some (AI z_15)]) E dX9_possibleFirsts_49 rfl rfl (by decide) (fun _ => rfl) (by decide) (by omega) (by omega) (fun z_15 hz_15 => ?_)
      refine s_goto (tgt := 8) E dX9_possibleFirsts_52 (by decide) ?_
      exact ih8 ⟨q8_2_3, z_15⟩ u_10 ⟨⟨by have hb_ := z32 z_15; omega, by have hb_ := z32 z_15; omega⟩, hj_13⟩ (by first | omega | (dsimp only; omega))
    ·
      refine s_iload_n E dX9_possibleFirsts_43 rfl rfl ?_
      refine s_iconst (v := 1) E dX9_possibleFirsts_44 (by decide) ?_
      refine s_iload_n E dX9_possibleFirsts_45 rfl rfl ?_
      refine z_shl1 5 (u := q8_3_3.toInt) (B := 32) E dX9_possibleFirsts_46 rfl (by omega) (by omega) (by decide) (by decide) (fun z_16 hz_16 => ?_)
      refine s_ior E dX9_possibleFirsts_47 ?_
      refine z_any (fun z_17 => ?_)
      refine s_istore_n (L2 := [some (AR 0), some (AR 63), some (AI z_17), some (AI q8_3_3)]) E dX9_possibleFirsts_48 rfl (by decide) rfl ?_
      refine z_iinc (u := q8_3_3.toInt) (L2 := fun z_18 => [some (AR 0), some (AR 63), some (AI z_17), some (AI z_18)]) E dX9_possibleFirsts_49 rfl rfl (by decide) (fun _ => rfl) (by decide) (by omega) (by omega) (fun z_18 hz_18 => ?_)
      refine s_goto (tgt := 8) E dX9_possibleFirsts_52 (by decide) ?_
      exact ih8 ⟨z_17, z_18⟩ u_10 ⟨⟨by have hb_ := z32 z_18; omega, by have hb_ := z32 z_18; omega⟩, hj_13⟩ (by first | omega | (dsimp only; omega))
set_option maxRecDepth 20000 in
set_option maxHeartbeats 2000000 in
theorem Z_X9_agrees_0_r65 (l : Launch) (D : va_G) (aC : Nat → ClassId) (b : Nat) (w : XW)  (hI : Iv w)  : CnI l D aC b M_X9_agrees 1 21 0 0 [AR 0, AR 65] w (fun r u => (0 ≤ r.toInt ∧ r.toInt ≤ 1) ∧ Jv w u) := by
  refine cn_I (own := RX9) (nm := "agrees") (L0 := [some (AR 0), some (AR 65), none, none]) (by decide +kernel) rfl rfl (Nat.le_of_ble_eq_true rfl) rfl ?_
  intro p e s m args below meth c E hin
  have hJ : Jv w w := jv_rfl hI
  refine s_iconst (v := 0) E dX9_agrees_0 (by decide) ?_
  refine s_istore_n (L2 := [some (AR 0), some (AR 65), some (AI 0), none]) E dX9_agrees_1 rfl (by decide) rfl ?_
  refine z_loop (St := Int32) (Pi := fun q2_2_0 v2 => (0 ≤ q2_2_0.toInt ∧ q2_2_0.toInt ≤ 60) ∧ Jv w v2) (Lf := fun q2_2_0 => [some (AR 0), some (AR 65), some (AI q2_2_0), none]) (fun q2_2_0 _ => (61 - q2_2_0.toInt).toNat) 0 ⟨⟨by decide, by decide⟩, hJ⟩ ?_
  rintro q2_2_0 v2 ⟨hq2_2, hj_1⟩ ih2
  refine s_loc (L2 := [some (AR 0), some (AR 65), some (AI q2_2_0), none]) rfl ?_
  refine s_iload_n E dX9_agrees_2 rfl rfl ?_
  refine s_iconst (v := 2) E dX9_agrees_3 (by decide) ?_
  refine z_iadd (u := q2_2_0.toInt) (v := 2) E dX9_agrees_4 rfl (by decide) (by omega) (by omega) (fun z_2 hz_2 => ?_)
  refine s_aload_n E dX9_agrees_5 rfl rfl ?_
  refine s_gI E fg_X9_282 rfl rfl (jv_lt hj_1 (by decide)) dX9_agrees_6 ?_
  refine z_nm (P := fun z => z.toInt = (v2.2.2.1 65 2).toInt ∧ (-1) ≤ z.toInt ∧ z.toInt ≤ 60) ⟨rfl, (rg_65_2 hj_1)⟩ (fun z_3 hz_3 => ?_)
  refine z_icmp_ge (tgt := 66) (u := z_2.toInt) (v := z_3.toInt) E dX9_agrees_9 (by decide) rfl rfl (fun h_4 => ?_) (fun h_4 => ?_)
  ·
    refine s_iconst (v := 1) E dX9_agrees_66 (by decide) ?_
    exact r_bool E dX9_agrees_67 (Or.inr rfl) ⟨(by decide), hj_1⟩
  ·
    refine s_aload_n E dX9_agrees_12 rfl rfl ?_
    refine s_gR (r := 81) E fg_X9_64 rfl rfl (jv_lt hj_1 (by decide)) (jv_r hj_1 (by decide +kernel)) dX9_agrees_13 ?_
    refine s_aload_n E dX9_agrees_16 rfl rfl ?_
    refine s_iload_n E dX9_agrees_17 rfl rfl ?_
    refine s_iconst (v := 1) E dX9_agrees_18 (by decide) ?_
    refine z_iadd (u := q2_2_0.toInt) (v := 1) E dX9_agrees_19 rfl (by decide) (by omega) (by omega) (fun z_5 hz_5 => ?_)
    refine s_vL (As := [AI z_5]) (S := [AR 81]) E (Z_X7_cell_65 l D aC b v2 z_5 hj_1.1 ) cv_X9_285 rfl rfl rfl (jv_lt hj_1 (by decide)) (Nat.le_of_ble_eq_true rfl) (Nat.le_of_ble_eq_true rfl) ⟨(Nat.le_of_ble_eq_true rfl), (Nat.le_of_ble_eq_true rfl)⟩ (Nat.le_of_ble_eq_true rfl) dX9_agrees_20 (fun z_8 u_6 hp_7 => ?_)
    obtain ⟨hz_8, hp_7⟩ := hp_7
    subst hp_7
    refine s_l2i E dX9_agrees_23 ?_
    refine z_any (fun z_10 => ?_)
    refine s_vI (As := [AI z_10]) (S := []) E (Z_X5_behind_81 l D aC b v2 z_10 hj_1.1 ) cv_X9_224 rfl rfl rfl (jv_lt hj_1 (by decide)) (Nat.le_of_ble_eq_true rfl) (Nat.le_of_ble_eq_true rfl) ⟨(Nat.le_of_ble_eq_true rfl), (Nat.le_of_ble_eq_true rfl)⟩ (Nat.le_of_ble_eq_true rfl) dX9_agrees_24 (fun z_13 u_11 hp_12 => ?_)
    obtain ⟨hz_13, hp_12⟩ := hp_12
    subst hp_12
    refine s_istore_n (L2 := [some (AR 0), some (AR 65), some (AI q2_2_0), some (AI z_13)]) E dX9_agrees_27 rfl (by decide) rfl ?_
    refine s_iload_n E dX9_agrees_28 rfl rfl ?_
    refine s_aload_n E dX9_agrees_29 rfl rfl ?_
    refine s_iload_n E dX9_agrees_30 rfl rfl ?_
    refine s_vL (As := [AI q2_2_0]) (S := [AI z_13]) E (Z_X7_cell_65 l D aC b v2 q2_2_0 hj_1.1 ) cv_X9_285 rfl rfl rfl (jv_lt hj_1 (by decide)) (Nat.le_of_ble_eq_true rfl) (Nat.le_of_ble_eq_true rfl) ⟨(Nat.le_of_ble_eq_true rfl), (Nat.le_of_ble_eq_true rfl)⟩ (Nat.le_of_ble_eq_true rfl) dX9_agrees_31 (fun z_17 u_15 hp_16 => ?_)
    obtain ⟨hz_17, hp_16⟩ := hp_16
    subst hp_16
    refine s_l2i E dX9_agrees_34 ?_
    refine z_any (fun z_19 => ?_)
    refine s_sI (As := [AI z_13, AI z_19]) (S := []) E (Z_X9_hasBit l D aC b v2 z_13 z_19 hj_1.1 ) cs_X9_175 rfl rfl (Nat.le_of_ble_eq_true rfl) (Nat.le_of_ble_eq_true rfl) ⟨(Nat.le_of_ble_eq_true rfl), (Nat.le_of_ble_eq_true rfl)⟩ (Nat.le_of_ble_eq_true rfl) dX9_agrees_35 (fun z_22 u_20 hp_21 => ?_)
    obtain ⟨hz_22, hp_21⟩ := hp_21
    subst hp_21
    refine s_aload_n E dX9_agrees_38 rfl rfl ?_
    refine s_iload_n E dX9_agrees_39 rfl rfl ?_
    refine s_iconst (v := 2) E dX9_agrees_40 (by decide) ?_
    refine z_iadd (u := q2_2_0.toInt) (v := 2) E dX9_agrees_41 rfl (by decide) (by omega) (by omega) (fun z_24 hz_24 => ?_)
    refine s_vL (As := [AI z_24]) (S := [AI z_22]) E (Z_X7_cell_65 l D aC b v2 z_24 hj_1.1 ) cv_X9_285 rfl rfl rfl (jv_lt hj_1 (by decide)) (Nat.le_of_ble_eq_true rfl) (Nat.le_of_ble_eq_true rfl) ⟨(Nat.le_of_ble_eq_true rfl), (Nat.le_of_ble_eq_true rfl)⟩ (Nat.le_of_ble_eq_true rfl) dX9_agrees_42 (fun z_27 u_25 hp_26 => ?_)
    obtain ⟨hz_27, hp_26⟩ := hp_26
    subst hp_26
    refine s_lconst (v := 1) E dX9_agrees_45 (by decide) ?_
    refine z_lcmp (u := z_27.toInt) (v := 1) E dX9_agrees_46 rfl (by decide) (fun z_29 hz_29 => ?_)
    refine z_if_ne (tgt := 54) (u := z_29.toInt) E dX9_agrees_47 (by decide) rfl (fun h_30 => ?_) (fun h_30 => ?_)
    ·
      refine s_iconst (v := 0) E dX9_agrees_54 (by decide) ?_
      refine z_icmp_eq (tgt := 60) (u := z_22.toInt) (v := 0) E dX9_agrees_55 (by decide) rfl (by decide) (fun h_31 => ?_) (fun h_31 => ?_)
      ·
        refine z_iinc (u := q2_2_0.toInt) (L2 := fun z_32 => [some (AR 0), some (AR 65), some (AI z_32), some (AI z_13)]) E dX9_agrees_60 rfl rfl (by decide) (fun _ => rfl) (by decide) (by omega) (by omega) (fun z_32 hz_32 => ?_)
        refine s_goto (tgt := 2) E dX9_agrees_63 (by decide) ?_
        refine s_drop (i := 3) (L2 := [some (AR 0), some (AR 65), some (AI z_32), none]) rfl ?_
        exact ih2 z_32 v2 ⟨⟨by have hb_ := z32 z_32; omega, by have hb_ := z32 z_32; omega⟩, hj_1⟩ (by first | omega | (dsimp only; omega))
      ·
        refine s_iconst (v := 0) E dX9_agrees_58 (by decide) ?_
        exact r_bool E dX9_agrees_59 (Or.inl rfl) ⟨(by decide), hj_1⟩
    ·
      refine s_iconst (v := 1) E dX9_agrees_50 (by decide) ?_
      refine s_goto (tgt := 55) E dX9_agrees_51 (by decide) ?_
      refine z_icmp_eq (tgt := 60) (u := z_22.toInt) (v := 1) E dX9_agrees_55 (by decide) rfl (by decide) (fun h_33 => ?_) (fun h_33 => ?_)
      ·
        refine z_iinc (u := q2_2_0.toInt) (L2 := fun z_34 => [some (AR 0), some (AR 65), some (AI z_34), some (AI z_13)]) E dX9_agrees_60 rfl rfl (by decide) (fun _ => rfl) (by decide) (by omega) (by omega) (fun z_34 hz_34 => ?_)
        refine s_goto (tgt := 2) E dX9_agrees_63 (by decide) ?_
        refine s_drop (i := 3) (L2 := [some (AR 0), some (AR 65), some (AI z_34), none]) rfl ?_
        exact ih2 z_34 v2 ⟨⟨by have hb_ := z32 z_34; omega, by have hb_ := z32 z_34; omega⟩, hj_1⟩ (by first | omega | (dsimp only; omega))
      ·
        refine s_iconst (v := 0) E dX9_agrees_58 (by decide) ?_
        exact r_bool E dX9_agrees_59 (Or.inl rfl) ⟨(by decide), hj_1⟩
set_option maxRecDepth 20000 in
set_option maxHeartbeats 2000000 in
theorem Z_X9_possibleFirsts_0_r65 (l : Launch) (D : va_G) (aC : Nat → ClassId) (b : Nat) (w : XW)  (hI : Iv w)  : CnI l D aC b M_X9_possibleFirsts 5 113 0 0 [AR 0, AR 65] w (fun r u => ((-2147483648) ≤ r.toInt ∧ r.toInt ≤ 2147483647) ∧ Jv w u) := by
  refine cn_I (own := RX9) (nm := "possibleFirsts") (L0 := [some (AR 0), some (AR 65), none, none]) (by decide +kernel) rfl rfl (Nat.le_of_ble_eq_true rfl) rfl ?_
  intro p e s m args below meth c E hin
  have hJ : Jv w w := jv_rfl hI
  refine s_aload_n E dX9_possibleFirsts_0 rfl rfl ?_
  refine s_vV (As := []) (S := []) E (Z_X9_passAsTold_0 l D aC b w  hJ.1 ) cv_X9_227 rfl rfl rfl (jv_lt hJ (by decide)) (Nat.le_of_ble_eq_true rfl) (Nat.le_of_ble_eq_true rfl) ⟨(Nat.le_of_ble_eq_true rfl), (Nat.le_of_ble_eq_true rfl)⟩ (Nat.le_of_ble_eq_true rfl) dX9_possibleFirsts_1 (fun u_1 hp_2 => ?_)
  have hj_3 := jv_trans hJ hp_2
  refine s_iconst (v := 0) E dX9_possibleFirsts_4 (by decide) ?_
  refine s_istore_n (L2 := [some (AR 0), some (AR 65), some (AI 0), none]) E dX9_possibleFirsts_5 rfl (by decide) rfl ?_
  refine s_iconst (v := 0) E dX9_possibleFirsts_6 (by decide) ?_
  refine s_istore_n (L2 := [some (AR 0), some (AR 65), some (AI 0), some (AI 0)]) E dX9_possibleFirsts_7 rfl (by decide) rfl ?_
  refine z_loop (St := Int32 × Int32) (Pi := fun ⟨q8_2_3, q8_3_3⟩ v8 => (0 ≤ q8_3_3.toInt ∧ q8_3_3.toInt ≤ 6) ∧ Jv w v8) (Lf := fun ⟨q8_2_3, q8_3_3⟩ => [some (AR 0), some (AR 65), some (AI q8_2_3), some (AI q8_3_3)]) (fun ⟨q8_2_3, q8_3_3⟩ _ => (7 - q8_3_3.toInt).toNat) ⟨0, 0⟩ ⟨⟨by decide, by decide⟩, hj_3⟩ ?_
  rintro ⟨q8_2_3, q8_3_3⟩ v8 ⟨hq8_3, hj_4⟩ ih8
  refine s_loc (L2 := [some (AR 0), some (AR 65), some (AI q8_2_3), some (AI q8_3_3)]) rfl ?_
  refine s_iload_n E dX9_possibleFirsts_8 rfl rfl ?_
  refine s_aload_n E dX9_possibleFirsts_9 rfl rfl ?_
  refine s_gR (r := 2) E fg_X9_20 rfl rfl (jv_lt hj_4 (by decide)) (jv_r hj_4 (by decide +kernel)) dX9_possibleFirsts_10 ?_
  refine s_gR (r := 5) E fg_X9_133 rfl rfl (jv_lt hj_4 (by decide)) (jv_r hj_4 (by decide +kernel)) dX9_possibleFirsts_13 ?_
  refine s_gI E fg_X9_200 rfl rfl (jv_lt hj_4 (by decide)) dX9_possibleFirsts_16 ?_
  refine z_nm (P := fun z => z.toInt = (v8.2.2.1 5 3).toInt ∧ 0 ≤ z.toInt ∧ z.toInt ≤ 6) ⟨rfl, (rg_5_3 hj_4)⟩ (fun z_5 hz_5 => ?_)
  refine z_icmp_ge (tgt := 55) (u := q8_3_3.toInt) (v := z_5.toInt) E dX9_possibleFirsts_19 (by decide) rfl rfl (fun h_6 => ?_) (fun h_6 => ?_)
  ·
    refine s_iload_n E dX9_possibleFirsts_55 rfl rfl ?_
    exact r_int E dX9_possibleFirsts_56 ⟨⟨by have hb_ := z32 q8_2_3; omega, by have hb_ := z32 q8_2_3; omega⟩, hj_4⟩
  ·
    refine s_aload_n E dX9_possibleFirsts_22 rfl rfl ?_
    refine s_gR (r := 81) E fg_X9_64 rfl rfl (jv_lt hj_4 (by decide)) (jv_r hj_4 (by decide +kernel)) dX9_possibleFirsts_23 ?_
    refine s_aload_n E dX9_possibleFirsts_26 rfl rfl ?_
    refine s_gR (r := 69) E fg_X9_54 rfl rfl (jv_lt hj_4 (by decide)) (jv_r hj_4 (by decide +kernel)) dX9_possibleFirsts_27 ?_
    refine s_iload_n E dX9_possibleFirsts_30 rfl rfl ?_
    refine s_iconst (v := 0) E dX9_possibleFirsts_31 (by decide) ?_
    refine s_vV (As := [AR 69, AI q8_3_3, AI 0]) (S := []) E (Z_X5_follow_81_r69 l D aC b v8 q8_3_3 0 hj_4.1 ) cv_X9_220 rfl rfl rfl (jv_lt hj_4 (by decide)) (Nat.le_of_ble_eq_true rfl) (Nat.le_of_ble_eq_true rfl) ⟨(Nat.le_of_ble_eq_true rfl), (Nat.le_of_ble_eq_true rfl)⟩ (Nat.le_of_ble_eq_true rfl) dX9_possibleFirsts_32 (fun u_7 hp_8 => ?_)
    have hj_9 := jv_trans hj_4 hp_8
    refine s_aload_n E dX9_possibleFirsts_35 rfl rfl ?_
    refine s_aload_n E dX9_possibleFirsts_36 rfl rfl ?_
    refine s_vI (As := [AR 65]) (S := []) E (Z_X9_agrees_0_r65 l D aC b u_7  hj_9.1 ) cv_X9_292 rfl rfl rfl (jv_lt hj_9 (by decide)) (Nat.le_of_ble_eq_true rfl) (Nat.le_of_ble_eq_true rfl) ⟨(Nat.le_of_ble_eq_true rfl), (Nat.le_of_ble_eq_true rfl)⟩ (Nat.le_of_ble_eq_true rfl) dX9_possibleFirsts_37 (fun z_12 u_10 hp_11 => ?_)
    obtain ⟨hz_12, hp_11⟩ := hp_11
    have hj_13 := jv_trans hj_9 hp_11
    refine z_if_eq (tgt := 49) (u := z_12.toInt) E dX9_possibleFirsts_40 (by decide) rfl (fun h_14 => ?_) (fun h_14 => ?_)
    ·
      refine z_iinc (u := q8_3_3.toInt) (L2 := fun z_15 => [some (AR 0), some (AR 65), some (AI q8_2_3), some (AI z_15)]) E dX9_possibleFirsts_49 rfl rfl (by decide) (fun _ => rfl) (by decide) (by omega) (by omega) (fun z_15 hz_15 => ?_)
      refine s_goto (tgt := 8) E dX9_possibleFirsts_52 (by decide) ?_
      exact ih8 ⟨q8_2_3, z_15⟩ u_10 ⟨⟨by have hb_ := z32 z_15; omega, by have hb_ := z32 z_15; omega⟩, hj_13⟩ (by first | omega | (dsimp only; omega))
    ·
      refine s_iload_n E dX9_possibleFirsts_43 rfl rfl ?_
      refine s_iconst (v := 1) E dX9_possibleFirsts_44 (by decide) ?_
      refine s_iload_n E dX9_possibleFirsts_45 rfl rfl ?_
      refine z_shl1 5 (u := q8_3_3.toInt) (B := 32) E dX9_possibleFirsts_46 rfl (by omega) (by omega) (by decide) (by decide) (fun z_16 hz_16 => ?_)
      refine s_ior E dX9_possibleFirsts_47 ?_
      refine z_any (fun z_17 => ?_)
      refine s_istore_n (L2 := [some (AR 0), some (AR 65), some (AI z_17), some (AI q8_3_3)]) E dX9_possibleFirsts_48 rfl (by decide) rfl ?_
      refine z_iinc (u := q8_3_3.toInt) (L2 := fun z_18 => [some (AR 0), some (AR 65), some (AI z_17), some (AI z_18)]) E dX9_possibleFirsts_49 rfl rfl (by decide) (fun _ => rfl) (by decide) (by omega) (by omega) (fun z_18 hz_18 => ?_)
      refine s_goto (tgt := 8) E dX9_possibleFirsts_52 (by decide) ?_
      exact ih8 ⟨z_17, z_18⟩ u_10 ⟨⟨by have hb_ := z32 z_18; omega, by have hb_ := z32 z_18; omega⟩, hj_13⟩ (by first | omega | (dsimp only; omega))
set_option maxRecDepth 20000 in
set_option maxHeartbeats 2000000 in
theorem Z_X9_agrees_0_r67 (l : Launch) (D : va_G) (aC : Nat → ClassId) (b : Nat) (w : XW)  (hI : Iv w)  : CnI l D aC b M_X9_agrees 1 21 0 0 [AR 0, AR 67] w (fun r u => (0 ≤ r.toInt ∧ r.toInt ≤ 1) ∧ Jv w u) := by
  refine cn_I (own := RX9) (nm := "agrees") (L0 := [some (AR 0), some (AR 67), none, none]) (by decide +kernel) rfl rfl (Nat.le_of_ble_eq_true rfl) rfl ?_
  intro p e s m args below meth c E hin
  have hJ : Jv w w := jv_rfl hI
  refine s_iconst (v := 0) E dX9_agrees_0 (by decide) ?_
  refine s_istore_n (L2 := [some (AR 0), some (AR 67), some (AI 0), none]) E dX9_agrees_1 rfl (by decide) rfl ?_
  refine z_loop (St := Int32) (Pi := fun q2_2_0 v2 => (0 ≤ q2_2_0.toInt ∧ q2_2_0.toInt ≤ 60) ∧ Jv w v2) (Lf := fun q2_2_0 => [some (AR 0), some (AR 67), some (AI q2_2_0), none]) (fun q2_2_0 _ => (61 - q2_2_0.toInt).toNat) 0 ⟨⟨by decide, by decide⟩, hJ⟩ ?_
  rintro q2_2_0 v2 ⟨hq2_2, hj_1⟩ ih2
  refine s_loc (L2 := [some (AR 0), some (AR 67), some (AI q2_2_0), none]) rfl ?_
  refine s_iload_n E dX9_agrees_2 rfl rfl ?_
  refine s_iconst (v := 2) E dX9_agrees_3 (by decide) ?_
  refine z_iadd (u := q2_2_0.toInt) (v := 2) E dX9_agrees_4 rfl (by decide) (by omega) (by omega) (fun z_2 hz_2 => ?_)
  refine s_aload_n E dX9_agrees_5 rfl rfl ?_
  refine s_gI E fg_X9_282 rfl rfl (jv_lt hj_1 (by decide)) dX9_agrees_6 ?_
  refine z_nm (P := fun z => z.toInt = (v2.2.2.1 67 2).toInt ∧ (-1) ≤ z.toInt ∧ z.toInt ≤ 60) ⟨rfl, (rg_67_2 hj_1)⟩ (fun z_3 hz_3 => ?_)
  refine z_icmp_ge (tgt := 66) (u := z_2.toInt) (v := z_3.toInt) E dX9_agrees_9 (by decide) rfl rfl (fun h_4 => ?_) (fun h_4 => ?_)
  ·
    refine s_iconst (v := 1) E dX9_agrees_66 (by decide) ?_
    exact r_bool E dX9_agrees_67 (Or.inr rfl) ⟨(by decide), hj_1⟩
  ·
    refine s_aload_n E dX9_agrees_12 rfl rfl ?_
    refine s_gR (r := 81) E fg_X9_64 rfl rfl (jv_lt hj_1 (by decide)) (jv_r hj_1 (by decide +kernel)) dX9_agrees_13 ?_
    refine s_aload_n E dX9_agrees_16 rfl rfl ?_
    refine s_iload_n E dX9_agrees_17 rfl rfl ?_
    refine s_iconst (v := 1) E dX9_agrees_18 (by decide) ?_
    refine z_iadd (u := q2_2_0.toInt) (v := 1) E dX9_agrees_19 rfl (by decide) (by omega) (by omega) (fun z_5 hz_5 => ?_)
    refine s_vL (As := [AI z_5]) (S := [AR 81]) E (Z_X7_cell_67 l D aC b v2 z_5 hj_1.1 ) cv_X9_285 rfl rfl rfl (jv_lt hj_1 (by decide)) (Nat.le_of_ble_eq_true rfl) (Nat.le_of_ble_eq_true rfl) ⟨(Nat.le_of_ble_eq_true rfl), (Nat.le_of_ble_eq_true rfl)⟩ (Nat.le_of_ble_eq_true rfl) dX9_agrees_20 (fun z_8 u_6 hp_7 => ?_)
    obtain ⟨hz_8, hp_7⟩ := hp_7
    subst hp_7
    refine s_l2i E dX9_agrees_23 ?_
    refine z_any (fun z_10 => ?_)
    refine s_vI (As := [AI z_10]) (S := []) E (Z_X5_behind_81 l D aC b v2 z_10 hj_1.1 ) cv_X9_224 rfl rfl rfl (jv_lt hj_1 (by decide)) (Nat.le_of_ble_eq_true rfl) (Nat.le_of_ble_eq_true rfl) ⟨(Nat.le_of_ble_eq_true rfl), (Nat.le_of_ble_eq_true rfl)⟩ (Nat.le_of_ble_eq_true rfl) dX9_agrees_24 (fun z_13 u_11 hp_12 => ?_)
    obtain ⟨hz_13, hp_12⟩ := hp_12
    subst hp_12
    refine s_istore_n (L2 := [some (AR 0), some (AR 67), some (AI q2_2_0), some (AI z_13)]) E dX9_agrees_27 rfl (by decide) rfl ?_
    refine s_iload_n E dX9_agrees_28 rfl rfl ?_
    refine s_aload_n E dX9_agrees_29 rfl rfl ?_
    refine s_iload_n E dX9_agrees_30 rfl rfl ?_
    refine s_vL (As := [AI q2_2_0]) (S := [AI z_13]) E (Z_X7_cell_67 l D aC b v2 q2_2_0 hj_1.1 ) cv_X9_285 rfl rfl rfl (jv_lt hj_1 (by decide)) (Nat.le_of_ble_eq_true rfl) (Nat.le_of_ble_eq_true rfl) ⟨(Nat.le_of_ble_eq_true rfl), (Nat.le_of_ble_eq_true rfl)⟩ (Nat.le_of_ble_eq_true rfl) dX9_agrees_31 (fun z_17 u_15 hp_16 => ?_)
    obtain ⟨hz_17, hp_16⟩ := hp_16
    subst hp_16
    refine s_l2i E dX9_agrees_34 ?_
    refine z_any (fun z_19 => ?_)
    refine s_sI (As := [AI z_13, AI z_19]) (S := []) E (Z_X9_hasBit l D aC b v2 z_13 z_19 hj_1.1 ) cs_X9_175 rfl rfl (Nat.le_of_ble_eq_true rfl) (Nat.le_of_ble_eq_true rfl) ⟨(Nat.le_of_ble_eq_true rfl), (Nat.le_of_ble_eq_true rfl)⟩ (Nat.le_of_ble_eq_true rfl) dX9_agrees_35 (fun z_22 u_20 hp_21 => ?_)
    obtain ⟨hz_22, hp_21⟩ := hp_21
    subst hp_21
    refine s_aload_n E dX9_agrees_38 rfl rfl ?_
    refine s_iload_n E dX9_agrees_39 rfl rfl ?_
    refine s_iconst (v := 2) E dX9_agrees_40 (by decide) ?_
    refine z_iadd (u := q2_2_0.toInt) (v := 2) E dX9_agrees_41 rfl (by decide) (by omega) (by omega) (fun z_24 hz_24 => ?_)
    refine s_vL (As := [AI z_24]) (S := [AI z_22]) E (Z_X7_cell_67 l D aC b v2 z_24 hj_1.1 ) cv_X9_285 rfl rfl rfl (jv_lt hj_1 (by decide)) (Nat.le_of_ble_eq_true rfl) (Nat.le_of_ble_eq_true rfl) ⟨(Nat.le_of_ble_eq_true rfl), (Nat.le_of_ble_eq_true rfl)⟩ (Nat.le_of_ble_eq_true rfl) dX9_agrees_42 (fun z_27 u_25 hp_26 => ?_)
    obtain ⟨hz_27, hp_26⟩ := hp_26
    subst hp_26
    refine s_lconst (v := 1) E dX9_agrees_45 (by decide) ?_
    refine z_lcmp (u := z_27.toInt) (v := 1) E dX9_agrees_46 rfl (by decide) (fun z_29 hz_29 => ?_)
    refine z_if_ne (tgt := 54) (u := z_29.toInt) E dX9_agrees_47 (by decide) rfl (fun h_30 => ?_) (fun h_30 => ?_)
    ·
      refine s_iconst (v := 0) E dX9_agrees_54 (by decide) ?_
      refine z_icmp_eq (tgt := 60) (u := z_22.toInt) (v := 0) E dX9_agrees_55 (by decide) rfl (by decide) (fun h_31 => ?_) (fun h_31 => ?_)
      ·
        refine z_iinc (u := q2_2_0.toInt) (L2 := fun z_32 => [some (AR 0), some (AR 67), some (AI z_32), some (AI z_13)]) E dX9_agrees_60 rfl rfl (by decide) (fun _ => rfl) (by decide) (by omega) (by omega) (fun z_32 hz_32 => ?_)
        refine s_goto (tgt := 2) E dX9_agrees_63 (by decide) ?_
        refine s_drop (i := 3) (L2 := [some (AR 0), some (AR 67), some (AI z_32), none]) rfl ?_
        exact ih2 z_32 v2 ⟨⟨by have hb_ := z32 z_32; omega, by have hb_ := z32 z_32; omega⟩, hj_1⟩ (by first | omega | (dsimp only; omega))
      ·
        refine s_iconst (v := 0) E dX9_agrees_58 (by decide) ?_
        exact r_bool E dX9_agrees_59 (Or.inl rfl) ⟨(by decide), hj_1⟩
    ·
      refine s_iconst (v := 1) E dX9_agrees_50 (by decide) ?_
      refine s_goto (tgt := 55) E dX9_agrees_51 (by decide) ?_
      refine z_icmp_eq (tgt := 60) (u := z_22.toInt) (v := 1) E dX9_agrees_55 (by decide) rfl (by decide) (fun h_33 => ?_) (fun h_33 => ?_)
      ·
        refine z_iinc (u := q2_2_0.toInt) (L2 := fun z_34 => [some (AR 0), some (AR 67), some (AI z_34), some (AI z_13)]) E dX9_agrees_60 rfl rfl (by decide) (fun _ => rfl) (by decide) (by omega) (by omega) (fun z_34 hz_34 => ?_)
        refine s_goto (tgt := 2) E dX9_agrees_63 (by decide) ?_
        refine s_drop (i := 3) (L2 := [some (AR 0), some (AR 67), some (AI z_34), none]) rfl ?_
        exact ih2 z_34 v2 ⟨⟨by have hb_ := z32 z_34; omega, by have hb_ := z32 z_34; omega⟩, hj_1⟩ (by first | omega | (dsimp only; omega))
      ·
        refine s_iconst (v := 0) E dX9_agrees_58 (by decide) ?_
        exact r_bool E dX9_agrees_59 (Or.inl rfl) ⟨(by decide), hj_1⟩
set_option maxRecDepth 20000 in
set_option maxHeartbeats 2000000 in
theorem Z_X9_possibleFirsts_0_r67 (l : Launch) (D : va_G) (aC : Nat → ClassId) (b : Nat) (w : XW)  (hI : Iv w)  : CnI l D aC b M_X9_possibleFirsts 5 113 0 0 [AR 0, AR 67] w (fun r u => ((-2147483648) ≤ r.toInt ∧ r.toInt ≤ 2147483647) ∧ Jv w u) := by
  refine cn_I (own := RX9) (nm := "possibleFirsts") (L0 := [some (AR 0), some (AR 67), none, none]) (by decide +kernel) rfl rfl (Nat.le_of_ble_eq_true rfl) rfl ?_
  intro p e s m args below meth c E hin
  have hJ : Jv w w := jv_rfl hI
  refine s_aload_n E dX9_possibleFirsts_0 rfl rfl ?_
  refine s_vV (As := []) (S := []) E (Z_X9_passAsTold_0 l D aC b w  hJ.1 ) cv_X9_227 rfl rfl rfl (jv_lt hJ (by decide)) (Nat.le_of_ble_eq_true rfl) (Nat.le_of_ble_eq_true rfl) ⟨(Nat.le_of_ble_eq_true rfl), (Nat.le_of_ble_eq_true rfl)⟩ (Nat.le_of_ble_eq_true rfl) dX9_possibleFirsts_1 (fun u_1 hp_2 => ?_)
  have hj_3 := jv_trans hJ hp_2
  refine s_iconst (v := 0) E dX9_possibleFirsts_4 (by decide) ?_
  refine s_istore_n (L2 := [some (AR 0), some (AR 67), some (AI 0), none]) E dX9_possibleFirsts_5 rfl (by decide) rfl ?_
  refine s_iconst (v := 0) E dX9_possibleFirsts_6 (by decide) ?_
  refine s_istore_n (L2 := [some (AR 0), some (AR 67), some (AI 0), some (AI 0)]) E dX9_possibleFirsts_7 rfl (by decide) rfl ?_
  refine z_loop (St := Int32 × Int32) (Pi := fun ⟨q8_2_3, q8_3_3⟩ v8 => (0 ≤ q8_3_3.toInt ∧ q8_3_3.toInt ≤ 6) ∧ Jv w v8) (Lf := fun ⟨q8_2_3, q8_3_3⟩ => [some (AR 0), some (AR 67), some (AI q8_2_3), some (AI q8_3_3)]) (fun ⟨q8_2_3, q8_3_3⟩ _ => (7 - q8_3_3.toInt).toNat) ⟨0, 0⟩ ⟨⟨by decide, by decide⟩, hj_3⟩ ?_
  rintro ⟨q8_2_3, q8_3_3⟩ v8 ⟨hq8_3, hj_4⟩ ih8
  refine s_loc (L2 := [some (AR 0), some (AR 67), some (AI q8_2_3), some (AI q8_3_3)]) rfl ?_
  refine s_iload_n E dX9_possibleFirsts_8 rfl rfl ?_
  refine s_aload_n E dX9_possibleFirsts_9 rfl rfl ?_
  refine s_gR (r := 2) E fg_X9_20 rfl rfl (jv_lt hj_4 (by decide)) (jv_r hj_4 (by decide +kernel)) dX9_possibleFirsts_10 ?_
  refine s_gR (r := 5) E fg_X9_133 rfl rfl (jv_lt hj_4 (by decide)) (jv_r hj_4 (by decide +kernel)) dX9_possibleFirsts_13 ?_
  refine s_gI E fg_X9_200 rfl rfl (jv_lt hj_4 (by decide)) dX9_possibleFirsts_16 ?_
  refine z_nm (P := fun z => z.toInt = (v8.2.2.1 5 3).toInt ∧ 0 ≤ z.toInt ∧ z.toInt ≤ 6) ⟨rfl, (rg_5_3 hj_4)⟩ (fun z_5 hz_5 => ?_)
  refine z_icmp_ge (tgt := 55) (u := q8_3_3.toInt) (v := z_5.toInt) E dX9_possibleFirsts_19 (by decide) rfl rfl (fun h_6 => ?_) (fun h_6 => ?_)
  ·
    refine s_iload_n E dX9_possibleFirsts_55 rfl rfl ?_
    exact r_int E dX9_possibleFirsts_56 ⟨⟨by have hb_ := z32 q8_2_3; omega, by have hb_ := z32 q8_2_3; omega⟩, hj_4⟩
  ·
    refine s_aload_n E dX9_possibleFirsts_22 rfl rfl ?_
    refine s_gR (r := 81) E fg_X9_64 rfl rfl (jv_lt hj_4 (by decide)) (jv_r hj_4 (by decide +kernel)) dX9_possibleFirsts_23 ?_
    refine s_aload_n E dX9_possibleFirsts_26 rfl rfl ?_
    refine s_gR (r := 69) E fg_X9_54 rfl rfl (jv_lt hj_4 (by decide)) (jv_r hj_4 (by decide +kernel)) dX9_possibleFirsts_27 ?_
    refine s_iload_n E dX9_possibleFirsts_30 rfl rfl ?_
    refine s_iconst (v := 0) E dX9_possibleFirsts_31 (by decide) ?_
    refine s_vV (As := [AR 69, AI q8_3_3, AI 0]) (S := []) E (Z_X5_follow_81_r69 l D aC b v8 q8_3_3 0 hj_4.1 ) cv_X9_220 rfl rfl rfl (jv_lt hj_4 (by decide)) (Nat.le_of_ble_eq_true rfl) (Nat.le_of_ble_eq_true rfl) ⟨(Nat.le_of_ble_eq_true rfl), (Nat.le_of_ble_eq_true rfl)⟩ (Nat.le_of_ble_eq_true rfl) dX9_possibleFirsts_32 (fun u_7 hp_8 => ?_)
    have hj_9 := jv_trans hj_4 hp_8
    refine s_aload_n E dX9_possibleFirsts_35 rfl rfl ?_
    refine s_aload_n E dX9_possibleFirsts_36 rfl rfl ?_
    refine s_vI (As := [AR 67]) (S := []) E (Z_X9_agrees_0_r67 l D aC b u_7  hj_9.1 ) cv_X9_292 rfl rfl rfl (jv_lt hj_9 (by decide)) (Nat.le_of_ble_eq_true rfl) (Nat.le_of_ble_eq_true rfl) ⟨(Nat.le_of_ble_eq_true rfl), (Nat.le_of_ble_eq_true rfl)⟩ (Nat.le_of_ble_eq_true rfl) dX9_possibleFirsts_37 (fun z_12 u_10 hp_11 => ?_)
    obtain ⟨hz_12, hp_11⟩ := hp_11
    have hj_13 := jv_trans hj_9 hp_11
    refine z_if_eq (tgt := 49) (u := z_12.toInt) E dX9_possibleFirsts_40 (by decide) rfl (fun h_14 => ?_) (fun h_14 => ?_)
    ·
      refine z_iinc (u := q8_3_3.toInt) (L2 := fun z_15 => [some (AR 0), some (AR 67), some (AI q8_2_3), some (AI z_15)]) E dX9_possibleFirsts_49 rfl rfl (by decide) (fun _ => rfl) (by decide) (by omega) (by omega) (fun z_15 hz_15 => ?_)
      refine s_goto (tgt := 8) E dX9_possibleFirsts_52 (by decide) ?_
      exact ih8 ⟨q8_2_3, z_15⟩ u_10 ⟨⟨by have hb_ := z32 z_15; omega, by have hb_ := z32 z_15; omega⟩, hj_13⟩ (by first | omega | (dsimp only; omega))
    ·
      refine s_iload_n E dX9_possibleFirsts_43 rfl rfl ?_
      refine s_iconst (v := 1) E dX9_possibleFirsts_44 (by decide) ?_
      refine s_iload_n E dX9_possibleFirsts_45 rfl rfl ?_
      refine z_shl1 5 (u := q8_3_3.toInt) (B := 32) E dX9_possibleFirsts_46 rfl (by omega) (by omega) (by decide) (by decide) (fun z_16 hz_16 => ?_)
      refine s_ior E dX9_possibleFirsts_47 ?_
      refine z_any (fun z_17 => ?_)
      refine s_istore_n (L2 := [some (AR 0), some (AR 67), some (AI z_17), some (AI q8_3_3)]) E dX9_possibleFirsts_48 rfl (by decide) rfl ?_
      refine z_iinc (u := q8_3_3.toInt) (L2 := fun z_18 => [some (AR 0), some (AR 67), some (AI z_17), some (AI z_18)]) E dX9_possibleFirsts_49 rfl rfl (by decide) (fun _ => rfl) (by decide) (by omega) (by omega) (fun z_18 hz_18 => ?_)
      refine s_goto (tgt := 8) E dX9_possibleFirsts_52 (by decide) ?_
      exact ih8 ⟨z_17, z_18⟩ u_10 ⟨⟨by have hb_ := z32 z_18; omega, by have hb_ := z32 z_18; omega⟩, hj_13⟩ (by first | omega | (dsimp only; omega))
set_option maxRecDepth 20000 in
set_option maxHeartbeats 2000000 in
theorem Z_X9_firsts_0 (l : Launch) (D : va_G) (aC : Nat → ClassId) (b : Nat) (w : XW) (x1 : Int32) (hI : Iv w)  : CnI l D aC b M_X9_firsts 6 136 0 0 [AR 0, AI x1] w (fun r u => ((-2147483648) ≤ r.toInt ∧ r.toInt ≤ 2147483647 ∧ (¬ r.toInt = 0 ∨ (0 ≤ x1.toInt ∧ x1.toInt ≤ 3)) ∧ (¬ r.toInt = 0 ∨ (1 ≤ (w.2.2.1 2 0).toInt ∧ (w.2.2.1 2 0).toInt ≤ 2147483647))) ∧ Jv w u) := by
  refine cn_I (own := RX9) (nm := "firsts") (L0 := [some (AR 0), some (AI x1), none]) (by decide +kernel) rfl rfl (Nat.le_of_ble_eq_true rfl) rfl ?_
  intro p e s m args below meth c E hin
  have hJ : Jv w w := jv_rfl hI
  refine s_aload_n E dX9_firsts_0 rfl rfl ?_
  refine s_iload_n E dX9_firsts_1 rfl rfl ?_
  refine s_vI (As := [AI x1]) (S := []) E (Z_X9_seenFault_0 l D aC b w x1 hJ.1 ) cv_X9_263 rfl rfl rfl (jv_lt hJ (by decide)) (Nat.le_of_ble_eq_true rfl) (Nat.le_of_ble_eq_true rfl) ⟨(Nat.le_of_ble_eq_true rfl), (Nat.le_of_ble_eq_true rfl)⟩ (Nat.le_of_ble_eq_true rfl) dX9_firsts_2 (fun z_3 u_1 hp_2 => ?_)
  obtain ⟨hz_3, hp_2⟩ := hp_2
  have hj_4 := jv_trans hJ hp_2
  refine s_istore_n (L2 := [some (AR 0), some (AI x1), some (AI z_3)]) E dX9_firsts_5 rfl (by decide) rfl ?_
  refine s_iload_n E dX9_firsts_6 rfl rfl ?_
  refine z_if_eq (tgt := 14) (u := z_3.toInt) E dX9_firsts_7 (by decide) rfl (fun h_5 => ?_) (fun h_5 => ?_)
  ·
    refine s_aload_n E dX9_firsts_14 rfl rfl ?_
    refine s_aload_n E dX9_firsts_15 rfl rfl ?_
    refine s_gR (r := 60) E fg_X9_46 rfl rfl (jv_lt hj_4 (by decide)) (jv_r hj_4 (by decide +kernel)) dX9_firsts_16 ?_
    refine s_iload_n E dX9_firsts_19 rfl rfl ?_
    rcases (show x1 = 0 ∨ x1 = 1 ∨ x1 = 2 ∨ x1 = 3 from (z_cases4 (u := x1.toInt) rfl (by omega) (by omega))) with rfl | rfl | rfl | rfl
    ·
      refine s_aald105 (r := 61) E rfl (jv_lt hj_4 (by decide)) (vp_c (by decide)) (jv_r hj_4 (by decide +kernel)) dX9_firsts_20 ?_
      refine s_vI (As := [AR 61]) (S := []) E (Z_X9_possibleFirsts_0_r61 l D aC b u_1  hj_4.1 ) cv_X9_266 rfl rfl rfl (jv_lt hj_4 (by decide)) (Nat.le_of_ble_eq_true rfl) (Nat.le_of_ble_eq_true rfl) ⟨(Nat.le_of_ble_eq_true rfl), (Nat.le_of_ble_eq_true rfl)⟩ (Nat.le_of_ble_eq_true rfl) dX9_firsts_21 (fun z_8 u_6 hp_7 => ?_)
      obtain ⟨hz_8, hp_7⟩ := hp_7
      have hj_9 := jv_trans hj_4 hp_7
      exact r_int E dX9_firsts_24 ⟨⟨by have hb_ := z32 z_8; omega, by have hb_ := z32 z_8; omega, by have hb_ := z32 z_8; have hc_ := z32 x1; omega, by have hb_ := z32 z_8; have hc_ := z32 (w.2.2.1 2 0); omega⟩, hj_9⟩
    ·
      refine s_aald105 (r := 63) E rfl (jv_lt hj_4 (by decide)) (vp_c (by decide)) (jv_r hj_4 (by decide +kernel)) dX9_firsts_20 ?_
      refine s_vI (As := [AR 63]) (S := []) E (Z_X9_possibleFirsts_0_r63 l D aC b u_1  hj_4.1 ) cv_X9_266 rfl rfl rfl (jv_lt hj_4 (by decide)) (Nat.le_of_ble_eq_true rfl) (Nat.le_of_ble_eq_true rfl) ⟨(Nat.le_of_ble_eq_true rfl), (Nat.le_of_ble_eq_true rfl)⟩ (Nat.le_of_ble_eq_true rfl) dX9_firsts_21 (fun z_12 u_10 hp_11 => ?_)
      obtain ⟨hz_12, hp_11⟩ := hp_11
      have hj_13 := jv_trans hj_4 hp_11
      exact r_int E dX9_firsts_24 ⟨⟨by have hb_ := z32 z_12; omega, by have hb_ := z32 z_12; omega, by have hb_ := z32 z_12; have hc_ := z32 x1; omega, by have hb_ := z32 z_12; have hc_ := z32 (w.2.2.1 2 0); omega⟩, hj_13⟩
    ·
      refine s_aald105 (r := 65) E rfl (jv_lt hj_4 (by decide)) (vp_c (by decide)) (jv_r hj_4 (by decide +kernel)) dX9_firsts_20 ?_
      refine s_vI (As := [AR 65]) (S := []) E (Z_X9_possibleFirsts_0_r65 l D aC b u_1  hj_4.1 ) cv_X9_266 rfl rfl rfl (jv_lt hj_4 (by decide)) (Nat.le_of_ble_eq_true rfl) (Nat.le_of_ble_eq_true rfl) ⟨(Nat.le_of_ble_eq_true rfl), (Nat.le_of_ble_eq_true rfl)⟩ (Nat.le_of_ble_eq_true rfl) dX9_firsts_21 (fun z_16 u_14 hp_15 => ?_)
      obtain ⟨hz_16, hp_15⟩ := hp_15
      have hj_17 := jv_trans hj_4 hp_15
      exact r_int E dX9_firsts_24 ⟨⟨by have hb_ := z32 z_16; omega, by have hb_ := z32 z_16; omega, by have hb_ := z32 z_16; have hc_ := z32 x1; omega, by have hb_ := z32 z_16; have hc_ := z32 (w.2.2.1 2 0); omega⟩, hj_17⟩
    ·
      refine s_aald105 (r := 67) E rfl (jv_lt hj_4 (by decide)) (vp_c (by decide)) (jv_r hj_4 (by decide +kernel)) dX9_firsts_20 ?_
      refine s_vI (As := [AR 67]) (S := []) E (Z_X9_possibleFirsts_0_r67 l D aC b u_1  hj_4.1 ) cv_X9_266 rfl rfl rfl (jv_lt hj_4 (by decide)) (Nat.le_of_ble_eq_true rfl) (Nat.le_of_ble_eq_true rfl) ⟨(Nat.le_of_ble_eq_true rfl), (Nat.le_of_ble_eq_true rfl)⟩ (Nat.le_of_ble_eq_true rfl) dX9_firsts_21 (fun z_20 u_18 hp_19 => ?_)
      obtain ⟨hz_20, hp_19⟩ := hp_19
      have hj_21 := jv_trans hj_4 hp_19
      exact r_int E dX9_firsts_24 ⟨⟨by have hb_ := z32 z_20; omega, by have hb_ := z32 z_20; omega, by have hb_ := z32 z_20; have hc_ := z32 x1; omega, by have hb_ := z32 z_20; have hc_ := z32 (w.2.2.1 2 0); omega⟩, hj_21⟩
  ·
    refine s_iload_n E dX9_firsts_10 rfl rfl ?_
    refine s_goto (tgt := 24) E dX9_firsts_11 (by decide) ?_
    exact r_int E dX9_firsts_24 ⟨⟨by have hb_ := z32 z_3; omega, by have hb_ := z32 z_3; omega, by have hb_ := z32 z_3; have hc_ := z32 x1; omega, by have hb_ := z32 z_3; have hc_ := z32 (w.2.2.1 2 0); omega⟩, hj_4⟩
set_option maxRecDepth 20000 in
set_option maxHeartbeats 2000000 in
theorem Z_J7_fill_53178_r94 (l : Launch) (D : va_G) (aC : Nat → ClassId) (b : Nat) (w : XW) (x1 : Int32) (hI : Iv w)  : CnV l D aC b M_J7_fill_53178 0 0 0 0 [AR 94, AI x1] w (fun u => Jv w u) := by
  refine cn_V (own := RJ7) (nm := "fill") (L0 := [some (AR 94), some (AI x1), none, none]) (by decide +kernel) rfl rfl (Nat.le_of_ble_eq_true rfl) rfl ?_
  intro p e s m args below meth c E hin
  have hJ : Jv w w := jv_rfl hI
  refine s_iconst (v := 0) E dJ7_fill_53178_0 (by decide) ?_
  refine s_istore_n (L2 := [some (AR 94), some (AI x1), some (AI 0), none]) E dJ7_fill_53178_1 rfl (by decide) rfl ?_
  refine s_aload_n E dJ7_fill_53178_2 rfl rfl ?_
  refine s_alen (v := 16) E rfl (by decide) (jv_lt hJ (by decide)) (by decide) dJ7_fill_53178_3 ?_
  refine s_istore_n (L2 := [some (AR 94), some (AI x1), some (AI 0), some (AI 16)]) E dJ7_fill_53178_4 rfl (by decide) rfl ?_
  refine z_loop (St := Int32) (Pi := fun q5_2_0 v5 => (0 ≤ q5_2_0.toInt ∧ q5_2_0.toInt ≤ 16) ∧ Jv w v5) (Lf := fun q5_2_0 => [some (AR 94), some (AI x1), some (AI q5_2_0), some (AI 16)]) (fun q5_2_0 _ => (17 - q5_2_0.toInt).toNat) 0 ⟨⟨by decide, by decide⟩, hJ⟩ ?_
  rintro q5_2_0 v5 ⟨hq5_2, hj_1⟩ ih5
  refine s_loc (L2 := [some (AR 94), some (AI x1), some (AI q5_2_0), some (AI 16)]) rfl ?_
  refine s_iload_n E dJ7_fill_53178_5 rfl rfl ?_
  refine s_iload_n E dJ7_fill_53178_6 rfl rfl ?_
  refine z_icmp_ge (tgt := 20) (u := q5_2_0.toInt) (v := 16) E dJ7_fill_53178_7 (by decide) rfl (by decide) (fun h_2 => ?_) (fun h_2 => ?_)
  ·
    exact r_void E dJ7_fill_53178_20 hj_1
  ·
    refine s_aload_n E dJ7_fill_53178_10 rfl rfl ?_
    refine s_iload_n E dJ7_fill_53178_11 rfl rfl ?_
    refine s_iload_n E dJ7_fill_53178_12 rfl rfl ?_
    refine s_iast E rfl (jv_lt hj_1 (by decide)) (z_in (u := q5_2_0.toInt) rfl (by omega) (by omega)) dJ7_fill_53178_13 ?_
    refine s_gen (P := Jv w) (jv_a_94 hj_1 (by have hb_ := z32 x1; omega) (by have hb_ := z32 x1; omega)) (fun v_3 hj_4 => ?_)
    refine z_iinc (u := q5_2_0.toInt) (L2 := fun z_5 => [some (AR 94), some (AI x1), some (AI z_5), some (AI 16)]) E dJ7_fill_53178_14 rfl rfl (by decide) (fun _ => rfl) (by decide) (by omega) (by omega) (fun z_5 hz_5 => ?_)
    refine s_goto (tgt := 5) E dJ7_fill_53178_17 (by decide) ?_
    exact ih5 z_5 v_3 ⟨⟨by have hb_ := z32 z_5; omega, by have hb_ := z32 z_5; omega⟩, hj_4⟩ (by first | omega | (dsimp only; omega))
set_option maxRecDepth 20000 in
set_option maxHeartbeats 2000000 in
theorem Z_X9_leftAtWorst_0 (l : Launch) (D : va_G) (aC : Nat → ClassId) (b : Nat) (w : XW) (x1 : Int32) (x2 : Int32) (hI : Iv w)  : CnI l D aC b M_X9_leftAtWorst 4 94 0 0 [AR 0, AI x1, AI x2] w (fun r u => (0 ≤ r.toInt ∧ r.toInt ≤ 2147483647) ∧ Jv w u) := by
  refine cn_I (own := RX9) (nm := "leftAtWorst") (L0 := [some (AR 0), some (AI x1), some (AI x2), none, none, none]) (by decide +kernel) rfl rfl (Nat.le_of_ble_eq_true rfl) rfl ?_
  intro p e s m args below meth c E hin
  have hJ : Jv w w := jv_rfl hI
  refine s_aload_n E dX9_leftAtWorst_0 rfl rfl ?_
  refine s_gR (r := 94) E fg_X9_89 rfl rfl (jv_lt hJ (by decide)) (jv_r hJ (by decide +kernel)) dX9_leftAtWorst_1 ?_
  refine s_iconst (v := 0) E dX9_leftAtWorst_4 (by decide) ?_
  refine s_sV (As := [AR 94, AI 0]) (S := []) E (Z_J7_fill_53178_r94 l D aC b w 0 hJ.1 ) cs_X9_296 rfl rfl (Nat.le_of_ble_eq_true rfl) (Nat.le_of_ble_eq_true rfl) ⟨(Nat.le_of_ble_eq_true rfl), (Nat.le_of_ble_eq_true rfl)⟩ (Nat.le_of_ble_eq_true rfl) dX9_leftAtWorst_5 (fun u_1 hp_2 => ?_)
  have hj_3 := jv_trans hJ hp_2
  refine s_iconst (v := 0) E dX9_leftAtWorst_8 (by decide) ?_
  refine s_istore_n (L2 := [some (AR 0), some (AI x1), some (AI x2), some (AI 0), none, none]) E dX9_leftAtWorst_9 rfl (by decide) rfl ?_
  refine s_iconst (v := 0) E dX9_leftAtWorst_10 (by decide) ?_
  refine s_istore (L2 := [some (AR 0), some (AI x1), some (AI x2), some (AI 0), some (AI 0), none]) E dX9_leftAtWorst_11 (by decide) rfl ?_
  refine z_loop (St := Int32 × Int32) (Pi := fun ⟨q13_3_3, q13_4_3⟩ v13 => (0 ≤ q13_3_3.toInt ∧ q13_3_3.toInt ≤ 2147483647) ∧ (0 ≤ q13_4_3.toInt ∧ q13_4_3.toInt ≤ 6) ∧ Jv w v13) (Lf := fun ⟨q13_3_3, q13_4_3⟩ => [some (AR 0), some (AI x1), some (AI x2), some (AI q13_3_3), some (AI q13_4_3), none]) (fun ⟨q13_3_3, q13_4_3⟩ _ => (7 - q13_4_3.toInt).toNat) ⟨0, 0⟩ ⟨⟨by decide, by decide⟩, ⟨by decide, by decide⟩, hj_3⟩ ?_
  rintro ⟨q13_3_3, q13_4_3⟩ v13 ⟨hq13_3, hq13_4, hj_4⟩ ih13
  refine s_loc (L2 := [some (AR 0), some (AI x1), some (AI x2), some (AI q13_3_3), some (AI q13_4_3), none]) rfl ?_
  refine s_iload E dX9_leftAtWorst_13 rfl ?_
  refine s_aload_n E dX9_leftAtWorst_15 rfl rfl ?_
  refine s_gR (r := 2) E fg_X9_20 rfl rfl (jv_lt hj_4 (by decide)) (jv_r hj_4 (by decide +kernel)) dX9_leftAtWorst_16 ?_
  refine s_gR (r := 5) E fg_X9_133 rfl rfl (jv_lt hj_4 (by decide)) (jv_r hj_4 (by decide +kernel)) dX9_leftAtWorst_19 ?_
  refine s_gI E fg_X9_200 rfl rfl (jv_lt hj_4 (by decide)) dX9_leftAtWorst_22 ?_
  refine z_nm (P := fun z => z.toInt = (v13.2.2.1 5 3).toInt ∧ 0 ≤ z.toInt ∧ z.toInt ≤ 6) ⟨rfl, (rg_5_3 hj_4)⟩ (fun z_5 hz_5 => ?_)
  refine z_icmp_ge (tgt := 92) (u := q13_4_3.toInt) (v := z_5.toInt) E dX9_leftAtWorst_25 (by decide) rfl rfl (fun h_6 => ?_) (fun h_6 => ?_)
  ·
    refine s_iload_n E dX9_leftAtWorst_92 rfl rfl ?_
    exact r_int E dX9_leftAtWorst_93 ⟨⟨by have hb_ := z32 q13_3_3; omega, by have hb_ := z32 q13_3_3; omega⟩, hj_4⟩
  ·
    refine s_iload_n E dX9_leftAtWorst_28 rfl rfl ?_
    refine s_iload E dX9_leftAtWorst_29 rfl ?_
    refine s_sI (As := [AI x1, AI q13_4_3]) (S := []) E (Z_X9_hasBit l D aC b v13 x1 q13_4_3 hj_4.1 ) cs_X9_175 rfl rfl (Nat.le_of_ble_eq_true rfl) (Nat.le_of_ble_eq_true rfl) ⟨(Nat.le_of_ble_eq_true rfl), (Nat.le_of_ble_eq_true rfl)⟩ (Nat.le_of_ble_eq_true rfl) dX9_leftAtWorst_31 (fun z_9 u_7 hp_8 => ?_)
    obtain ⟨hz_9, hp_8⟩ := hp_8
    subst hp_8
    refine z_if_eq (tgt := 86) (u := z_9.toInt) E dX9_leftAtWorst_34 (by decide) rfl (fun h_11 => ?_) (fun h_11 => ?_)
    ·
      refine z_iinc (u := q13_4_3.toInt) (L2 := fun z_12 => [some (AR 0), some (AI x1), some (AI x2), some (AI q13_3_3), some (AI z_12), none]) E dX9_leftAtWorst_86 rfl rfl (by decide) (fun _ => rfl) (by decide) (by omega) (by omega) (fun z_12 hz_12 => ?_)
      refine s_goto (tgt := 13) E dX9_leftAtWorst_89 (by decide) ?_
      exact ih13 ⟨q13_3_3, z_12⟩ v13 ⟨⟨by have hb_ := z32 q13_3_3; omega, by have hb_ := z32 q13_3_3; omega⟩, ⟨by have hb_ := z32 z_12; omega, by have hb_ := z32 z_12; omega⟩, hj_4⟩ (by first | omega | (dsimp only; omega))
    ·
      refine s_aload_n E dX9_leftAtWorst_37 rfl rfl ?_
      refine s_gR (r := 81) E fg_X9_64 rfl rfl (jv_lt hj_4 (by decide)) (jv_r hj_4 (by decide +kernel)) dX9_leftAtWorst_38 ?_
      refine s_aload_n E dX9_leftAtWorst_41 rfl rfl ?_
      refine s_gR (r := 69) E fg_X9_54 rfl rfl (jv_lt hj_4 (by decide)) (jv_r hj_4 (by decide +kernel)) dX9_leftAtWorst_42 ?_
      refine s_iload E dX9_leftAtWorst_45 rfl ?_
      refine s_iconst (v := 0) E dX9_leftAtWorst_47 (by decide) ?_
      refine s_vV (As := [AR 69, AI q13_4_3, AI 0]) (S := []) E (Z_X5_follow_81_r69 l D aC b v13 q13_4_3 0 hj_4.1 ) cv_X9_220 rfl rfl rfl (jv_lt hj_4 (by decide)) (Nat.le_of_ble_eq_true rfl) (Nat.le_of_ble_eq_true rfl) ⟨(Nat.le_of_ble_eq_true rfl), (Nat.le_of_ble_eq_true rfl)⟩ (Nat.le_of_ble_eq_true rfl) dX9_leftAtWorst_48 (fun u_13 hp_14 => ?_)
      have hj_15 := jv_trans hj_4 hp_14
      refine s_aload_n E dX9_leftAtWorst_51 rfl rfl ?_
      refine s_gR (r := 81) E fg_X9_64 rfl rfl (jv_lt hj_15 (by decide)) (jv_r hj_15 (by decide +kernel)) dX9_leftAtWorst_52 ?_
      refine s_iload_n E dX9_leftAtWorst_55 rfl rfl ?_
      refine s_vI (As := [AI x2]) (S := []) E (Z_X5_gotAt_81 l D aC b u_13 x2 hj_15.1 ) cv_X9_237 rfl rfl rfl (jv_lt hj_15 (by decide)) (Nat.le_of_ble_eq_true rfl) (Nat.le_of_ble_eq_true rfl) ⟨(Nat.le_of_ble_eq_true rfl), (Nat.le_of_ble_eq_true rfl)⟩ (Nat.le_of_ble_eq_true rfl) dX9_leftAtWorst_56 (fun z_18 u_16 hp_17 => ?_)
      obtain ⟨hz_18, hp_17⟩ := hp_17
      have hj_19 := jv_trans hj_15 hp_17
      refine s_iconst (v := 1) E dX9_leftAtWorst_59 (by decide) ?_
      refine z_iadd (u := z_18.toInt) (v := 1) E dX9_leftAtWorst_60 rfl (by decide) (by omega) (by omega) (fun z_20 hz_20 => ?_)
      refine s_istore (L2 := [some (AR 0), some (AI x1), some (AI x2), some (AI q13_3_3), some (AI q13_4_3), some (AI z_20)]) E dX9_leftAtWorst_61 (by decide) rfl ?_
      refine s_aload_n E dX9_leftAtWorst_63 rfl rfl ?_
      refine s_gR (r := 94) E fg_X9_89 rfl rfl (jv_lt hj_19 (by decide)) (jv_r hj_19 (by decide +kernel)) dX9_leftAtWorst_64 ?_
      refine s_iload E dX9_leftAtWorst_67 rfl ?_
      refine s_dup2 E dX9_leftAtWorst_69 ?_
      refine s_iald E rfl (jv_lt hj_19 (by decide)) (z_in (u := z_20.toInt) rfl (by omega) (by omega)) dX9_leftAtWorst_70 ?_
      refine z_any (fun z_21 => ?_)
      refine s_iconst (v := 1) E dX9_leftAtWorst_71 (by decide) ?_
      refine s_iadd E dX9_leftAtWorst_72 ?_
      refine z_any (fun z_22 => ?_)
      refine s_iast E rfl (jv_lt hj_19 (by decide)) (z_in (u := z_20.toInt) rfl (by omega) (by omega)) dX9_leftAtWorst_73 ?_
      refine s_gen (P := Jv w) (jv_a_94 hj_19 (by have hb_ := z32 z_22; omega) (by have hb_ := z32 z_22; omega)) (fun v_23 hj_24 => ?_)
      refine s_iload_n E dX9_leftAtWorst_74 rfl rfl ?_
      refine s_aload_n E dX9_leftAtWorst_75 rfl rfl ?_
      refine s_gR (r := 94) E fg_X9_89 rfl rfl (jv_lt hj_24 (by decide)) (jv_r hj_24 (by decide +kernel)) dX9_leftAtWorst_76 ?_
      refine s_iload E dX9_leftAtWorst_79 rfl ?_
      refine s_iald E rfl (jv_lt hj_24 (by decide)) (z_in (u := z_20.toInt) rfl (by omega) (by omega)) dX9_leftAtWorst_81 ?_
      refine z_any (fun z_25 => ?_)
      refine z_max (u := q13_3_3.toInt) (v := z_25.toInt) E ⟨k_735, k_41, k_4, k_42⟩ (Nat.le_of_ble_eq_true rfl) (Nat.le_of_ble_eq_true rfl) (Nat.le_of_ble_eq_true rfl) (Nat.le_of_ble_eq_true rfl) dX9_leftAtWorst_82 rfl rfl (fun z_26 hz_26 => ?_)
      refine s_istore_n (L2 := [some (AR 0), some (AI x1), some (AI x2), some (AI z_26), some (AI q13_4_3), some (AI z_20)]) E dX9_leftAtWorst_85 rfl (by decide) rfl ?_
      refine z_iinc (u := q13_4_3.toInt) (L2 := fun z_27 => [some (AR 0), some (AI x1), some (AI x2), some (AI z_26), some (AI z_27), some (AI z_20)]) E dX9_leftAtWorst_86 rfl rfl (by decide) (fun _ => rfl) (by decide) (by omega) (by omega) (fun z_27 hz_27 => ?_)
      refine s_goto (tgt := 13) E dX9_leftAtWorst_89 (by decide) ?_
      refine s_drop (i := 5) (L2 := [some (AR 0), some (AI x1), some (AI x2), some (AI z_26), some (AI z_27), none]) rfl ?_
      exact ih13 ⟨z_26, z_27⟩ v_23 ⟨⟨by have hb_ := z32 z_26; omega, by have hb_ := z32 z_26; omega⟩, ⟨by have hb_ := z32 z_27; omega, by have hb_ := z32 z_27; omega⟩, hj_24⟩ (by first | omega | (dsimp only; omega))
set_option maxRecDepth 20000 in
set_option maxHeartbeats 2000000 in
theorem Z_X9_bestAsked_0 (l : Launch) (D : va_G) (aC : Nat → ClassId) (b : Nat) (w : XW) (x1 : Int32) (hI : Iv w)  : CnI l D aC b M_X9_bestAsked 5 119 0 0 [AR 0, AI x1] w (fun r u => ((-1) ≤ r.toInt ∧ r.toInt ≤ 64) ∧ Jv w u) := by
  refine cn_I (own := RX9) (nm := "bestAsked") (L0 := [some (AR 0), some (AI x1), none, none, none, none]) (by decide +kernel) rfl rfl (Nat.le_of_ble_eq_true rfl) rfl ?_
  intro p e s m args below meth c E hin
  have hJ : Jv w w := jv_rfl hI
  refine s_iconst (v := (-1)) E dX9_bestAsked_0 (by decide) ?_
  refine s_istore_n (L2 := [some (AR 0), some (AI x1), some (AI (-1)), none, none, none]) E dX9_bestAsked_1 rfl (by decide) rfl ?_
  refine s_iload_n E dX9_bestAsked_2 rfl rfl ?_
  refine s_sI (As := [AI x1]) (S := []) E (Z_J6_bitCount_0f7a4 l D aC b w x1 hJ.1 ) cs_X9_203 rfl rfl (Nat.le_of_ble_eq_true rfl) (Nat.le_of_ble_eq_true rfl) ⟨(Nat.le_of_ble_eq_true rfl), (Nat.le_of_ble_eq_true rfl)⟩ (Nat.le_of_ble_eq_true rfl) dX9_bestAsked_3 (fun z_3 u_1 hp_2 => ?_)
  obtain ⟨hz_3, hp_2⟩ := hp_2
  subst hp_2
  refine s_istore_n (L2 := [some (AR 0), some (AI x1), some (AI (-1)), some (AI z_3), none, none]) E dX9_bestAsked_6 rfl (by decide) rfl ?_
  refine s_iconst (v := 0) E dX9_bestAsked_7 (by decide) ?_
  refine s_istore (L2 := [some (AR 0), some (AI x1), some (AI (-1)), some (AI z_3), some (AI 0), none]) E dX9_bestAsked_8 (by decide) rfl ?_
  refine z_loop (St := Int32 × Int32 × Int32) (Pi := fun ⟨q10_2_4, q10_3_4, q10_4_4⟩ v10 => ((-1) ≤ q10_2_4.toInt ∧ q10_2_4.toInt ≤ 64) ∧ (0 ≤ q10_3_4.toInt ∧ q10_3_4.toInt ≤ 63) ∧ (0 ≤ q10_4_4.toInt ∧ q10_4_4.toInt ≤ 6) ∧ Jv w v10) (Lf := fun ⟨q10_2_4, q10_3_4, q10_4_4⟩ => [some (AR 0), some (AI x1), some (AI q10_2_4), some (AI q10_3_4), some (AI q10_4_4), none]) (fun ⟨q10_2_4, q10_3_4, q10_4_4⟩ _ => (7 - q10_4_4.toInt).toNat) ⟨(-1), z_3, 0⟩ ⟨⟨by decide, by decide⟩, ⟨by have hb_ := z32 z_3; omega, by have hb_ := z32 z_3; omega⟩, ⟨by decide, by decide⟩, hJ⟩ ?_
  rintro ⟨q10_2_4, q10_3_4, q10_4_4⟩ v10 ⟨hq10_2, hq10_3, hq10_4, hj_5⟩ ih10
  refine s_loc (L2 := [some (AR 0), some (AI x1), some (AI q10_2_4), some (AI q10_3_4), some (AI q10_4_4), none]) rfl ?_
  refine s_iload E dX9_bestAsked_10 rfl ?_
  refine s_aload_n E dX9_bestAsked_12 rfl rfl ?_
  refine s_gR (r := 2) E fg_X9_20 rfl rfl (jv_lt hj_5 (by decide)) (jv_r hj_5 (by decide +kernel)) dX9_bestAsked_13 ?_
  refine s_gR (r := 5) E fg_X9_133 rfl rfl (jv_lt hj_5 (by decide)) (jv_r hj_5 (by decide +kernel)) dX9_bestAsked_16 ?_
  refine s_gI E fg_X9_200 rfl rfl (jv_lt hj_5 (by decide)) dX9_bestAsked_19 ?_
  refine z_nm (P := fun z => z.toInt = (v10.2.2.1 5 3).toInt ∧ 0 ≤ z.toInt ∧ z.toInt ≤ 6) ⟨rfl, (rg_5_3 hj_5)⟩ (fun z_6 hz_6 => ?_)
  refine z_icmp_ge (tgt := 52) (u := q10_4_4.toInt) (v := z_6.toInt) E dX9_bestAsked_22 (by decide) rfl rfl (fun h_7 => ?_) (fun h_7 => ?_)
  ·
    refine s_iload_n E dX9_bestAsked_52 rfl rfl ?_
    exact r_int E dX9_bestAsked_53 ⟨⟨by have hb_ := z32 q10_2_4; omega, by have hb_ := z32 q10_2_4; omega⟩, hj_5⟩
  ·
    refine s_aload_n E dX9_bestAsked_25 rfl rfl ?_
    refine s_iload_n E dX9_bestAsked_26 rfl rfl ?_
    refine s_iload E dX9_bestAsked_27 rfl ?_
    refine s_vI (As := [AI x1, AI q10_4_4]) (S := []) E (Z_X9_leftAtWorst_0 l D aC b v10 x1 q10_4_4 hj_5.1 ) cv_X9_273 rfl rfl rfl (jv_lt hj_5 (by decide)) (Nat.le_of_ble_eq_true rfl) (Nat.le_of_ble_eq_true rfl) ⟨(Nat.le_of_ble_eq_true rfl), (Nat.le_of_ble_eq_true rfl)⟩ (Nat.le_of_ble_eq_true rfl) dX9_bestAsked_29 (fun z_10 u_8 hp_9 => ?_)
    obtain ⟨hz_10, hp_9⟩ := hp_9
    have hj_11 := jv_trans hj_5 hp_9
    refine s_istore (L2 := [some (AR 0), some (AI x1), some (AI q10_2_4), some (AI q10_3_4), some (AI q10_4_4), some (AI z_10)]) E dX9_bestAsked_32 (by decide) rfl ?_
    refine s_iload E dX9_bestAsked_34 rfl ?_
    refine s_iload_n E dX9_bestAsked_36 rfl rfl ?_
    refine z_icmp_ge (tgt := 46) (u := z_10.toInt) (v := q10_3_4.toInt) E dX9_bestAsked_37 (by decide) rfl rfl (fun h_12 => ?_) (fun h_12 => ?_)
    ·
      refine z_iinc (u := q10_4_4.toInt) (L2 := fun z_13 => [some (AR 0), some (AI x1), some (AI q10_2_4), some (AI q10_3_4), some (AI z_13), some (AI z_10)]) E dX9_bestAsked_46 rfl rfl (by decide) (fun _ => rfl) (by decide) (by omega) (by omega) (fun z_13 hz_13 => ?_)
      refine s_goto (tgt := 10) E dX9_bestAsked_49 (by decide) ?_
      refine s_drop (i := 5) (L2 := [some (AR 0), some (AI x1), some (AI q10_2_4), some (AI q10_3_4), some (AI z_13), none]) rfl ?_
      exact ih10 ⟨q10_2_4, q10_3_4, z_13⟩ u_8 ⟨⟨by have hb_ := z32 q10_2_4; omega, by have hb_ := z32 q10_2_4; omega⟩, ⟨by have hb_ := z32 q10_3_4; omega, by have hb_ := z32 q10_3_4; omega⟩, ⟨by have hb_ := z32 z_13; omega, by have hb_ := z32 z_13; omega⟩, hj_11⟩ (by first | omega | (dsimp only; omega))
    ·
      refine s_iload E dX9_bestAsked_40 rfl ?_
      refine s_istore_n (L2 := [some (AR 0), some (AI x1), some (AI q10_2_4), some (AI z_10), some (AI q10_4_4), some (AI z_10)]) E dX9_bestAsked_42 rfl (by decide) rfl ?_
      refine s_iload E dX9_bestAsked_43 rfl ?_
      refine s_istore_n (L2 := [some (AR 0), some (AI x1), some (AI q10_4_4), some (AI z_10), some (AI q10_4_4), some (AI z_10)]) E dX9_bestAsked_45 rfl (by decide) rfl ?_
      refine z_iinc (u := q10_4_4.toInt) (L2 := fun z_14 => [some (AR 0), some (AI x1), some (AI q10_4_4), some (AI z_10), some (AI z_14), some (AI z_10)]) E dX9_bestAsked_46 rfl rfl (by decide) (fun _ => rfl) (by decide) (by omega) (by omega) (fun z_14 hz_14 => ?_)
      refine s_goto (tgt := 10) E dX9_bestAsked_49 (by decide) ?_
      refine s_drop (i := 5) (L2 := [some (AR 0), some (AI x1), some (AI q10_4_4), some (AI z_10), some (AI z_14), none]) rfl ?_
      exact ih10 ⟨q10_4_4, z_10, z_14⟩ u_8 ⟨⟨by have hb_ := z32 q10_4_4; omega, by have hb_ := z32 q10_4_4; omega⟩, ⟨by have hb_ := z32 z_10; omega, by have hb_ := z32 z_10; omega⟩, ⟨by have hb_ := z32 z_14; omega, by have hb_ := z32 z_14; omega⟩, hj_11⟩ (by first | omega | (dsimp only; omega))
set_option maxRecDepth 20000 in
set_option maxHeartbeats 2000000 in
theorem Z_X9_ask_0 (l : Launch) (D : va_G) (aC : Nat → ClassId) (b : Nat) (w : XW) (x1 : Int32) (hI : Iv w)  : CnI l D aC b M_X9_ask 6 144 0 0 [AR 0, AI x1] w (fun r u => ((-6) ≤ r.toInt ∧ r.toInt ≤ 64 ∧ (¬ r.toInt = 0 ∨ (0 ≤ x1.toInt ∧ x1.toInt ≤ 3)) ∧ (¬ r.toInt = 0 ∨ (1 ≤ (w.2.2.1 2 0).toInt ∧ (w.2.2.1 2 0).toInt ≤ 2147483647))) ∧ Jv w u) := by
  refine cn_I (own := RX9) (nm := "ask") (L0 := [some (AR 0), some (AI x1), none]) (by decide +kernel) rfl rfl (Nat.le_of_ble_eq_true rfl) rfl ?_
  intro p e s m args below meth c E hin
  have hJ : Jv w w := jv_rfl hI
  refine s_aload_n E dX9_ask_0 rfl rfl ?_
  refine s_iload_n E dX9_ask_1 rfl rfl ?_
  refine s_vI (As := [AI x1]) (S := []) E (Z_X9_seenFault_0 l D aC b w x1 hJ.1 ) cv_X9_263 rfl rfl rfl (jv_lt hJ (by decide)) (Nat.le_of_ble_eq_true rfl) (Nat.le_of_ble_eq_true rfl) ⟨(Nat.le_of_ble_eq_true rfl), (Nat.le_of_ble_eq_true rfl)⟩ (Nat.le_of_ble_eq_true rfl) dX9_ask_2 (fun z_3 u_1 hp_2 => ?_)
  obtain ⟨hz_3, hp_2⟩ := hp_2
  have hj_4 := jv_trans hJ hp_2
  refine s_istore_n (L2 := [some (AR 0), some (AI x1), some (AI z_3)]) E dX9_ask_5 rfl (by decide) rfl ?_
  refine s_iload_n E dX9_ask_6 rfl rfl ?_
  refine z_if_eq (tgt := 14) (u := z_3.toInt) E dX9_ask_7 (by decide) rfl (fun h_5 => ?_) (fun h_5 => ?_)
  ·
    refine s_aload_n E dX9_ask_14 rfl rfl ?_
    refine s_aload_n E dX9_ask_15 rfl rfl ?_
    refine s_aload_n E dX9_ask_16 rfl rfl ?_
    refine s_gR (r := 60) E fg_X9_46 rfl rfl (jv_lt hj_4 (by decide)) (jv_r hj_4 (by decide +kernel)) dX9_ask_17 ?_
    refine s_iload_n E dX9_ask_20 rfl rfl ?_
    rcases (show x1 = 0 ∨ x1 = 1 ∨ x1 = 2 ∨ x1 = 3 from (z_cases4 (u := x1.toInt) rfl (by omega) (by omega))) with rfl | rfl | rfl | rfl
    ·
      refine s_aald105 (r := 61) E rfl (jv_lt hj_4 (by decide)) (vp_c (by decide)) (jv_r hj_4 (by decide +kernel)) dX9_ask_21 ?_
      refine s_vI (As := [AR 61]) (S := [AR 0]) E (Z_X9_possibleFirsts_0_r61 l D aC b u_1  hj_4.1 ) cv_X9_266 rfl rfl rfl (jv_lt hj_4 (by decide)) (Nat.le_of_ble_eq_true rfl) (Nat.le_of_ble_eq_true rfl) ⟨(Nat.le_of_ble_eq_true rfl), (Nat.le_of_ble_eq_true rfl)⟩ (Nat.le_of_ble_eq_true rfl) dX9_ask_22 (fun z_8 u_6 hp_7 => ?_)
      obtain ⟨hz_8, hp_7⟩ := hp_7
      have hj_9 := jv_trans hj_4 hp_7
      refine s_vI (As := [AI z_8]) (S := []) E (Z_X9_bestAsked_0 l D aC b u_6 z_8 hj_9.1 ) cv_X9_270 rfl rfl rfl (jv_lt hj_9 (by decide)) (Nat.le_of_ble_eq_true rfl) (Nat.le_of_ble_eq_true rfl) ⟨(Nat.le_of_ble_eq_true rfl), (Nat.le_of_ble_eq_true rfl)⟩ (Nat.le_of_ble_eq_true rfl) dX9_ask_25 (fun z_12 u_10 hp_11 => ?_)
      obtain ⟨hz_12, hp_11⟩ := hp_11
      have hj_13 := jv_trans hj_9 hp_11
      exact r_int E dX9_ask_28 ⟨⟨by have hb_ := z32 z_12; omega, by have hb_ := z32 z_12; omega, by have hb_ := z32 z_12; have hc_ := z32 x1; omega, by have hb_ := z32 z_12; have hc_ := z32 (w.2.2.1 2 0); omega⟩, hj_13⟩
    ·
      refine s_aald105 (r := 63) E rfl (jv_lt hj_4 (by decide)) (vp_c (by decide)) (jv_r hj_4 (by decide +kernel)) dX9_ask_21 ?_
      refine s_vI (As := [AR 63]) (S := [AR 0]) E (Z_X9_possibleFirsts_0_r63 l D aC b u_1  hj_4.1 ) cv_X9_266 rfl rfl rfl (jv_lt hj_4 (by decide)) (Nat.le_of_ble_eq_true rfl) (Nat.le_of_ble_eq_true rfl) ⟨(Nat.le_of_ble_eq_true rfl), (Nat.le_of_ble_eq_true rfl)⟩ (Nat.le_of_ble_eq_true rfl) dX9_ask_22 (fun z_16 u_14 hp_15 => ?_)
      obtain ⟨hz_16, hp_15⟩ := hp_15
      have hj_17 := jv_trans hj_4 hp_15
      refine s_vI (As := [AI z_16]) (S := []) E (Z_X9_bestAsked_0 l D aC b u_14 z_16 hj_17.1 ) cv_X9_270 rfl rfl rfl (jv_lt hj_17 (by decide)) (Nat.le_of_ble_eq_true rfl) (Nat.le_of_ble_eq_true rfl) ⟨(Nat.le_of_ble_eq_true rfl), (Nat.le_of_ble_eq_true rfl)⟩ (Nat.le_of_ble_eq_true rfl) dX9_ask_25 (fun z_20 u_18 hp_19 => ?_)
      obtain ⟨hz_20, hp_19⟩ := hp_19
      have hj_21 := jv_trans hj_17 hp_19
      exact r_int E dX9_ask_28 ⟨⟨by have hb_ := z32 z_20; omega, by have hb_ := z32 z_20; omega, by have hb_ := z32 z_20; have hc_ := z32 x1; omega, by have hb_ := z32 z_20; have hc_ := z32 (w.2.2.1 2 0); omega⟩, hj_21⟩
    ·
      refine s_aald105 (r := 65) E rfl (jv_lt hj_4 (by decide)) (vp_c (by decide)) (jv_r hj_4 (by decide +kernel)) dX9_ask_21 ?_
      refine s_vI (As := [AR 65]) (S := [AR 0]) E (Z_X9_possibleFirsts_0_r65 l D aC b u_1  hj_4.1 ) cv_X9_266 rfl rfl rfl (jv_lt hj_4 (by decide)) (Nat.le_of_ble_eq_true rfl) (Nat.le_of_ble_eq_true rfl) ⟨(Nat.le_of_ble_eq_true rfl), (Nat.le_of_ble_eq_true rfl)⟩ (Nat.le_of_ble_eq_true rfl) dX9_ask_22 (fun z_24 u_22 hp_23 => ?_)
      obtain ⟨hz_24, hp_23⟩ := hp_23
      have hj_25 := jv_trans hj_4 hp_23
      refine s_vI (As := [AI z_24]) (S := []) E (Z_X9_bestAsked_0 l D aC b u_22 z_24 hj_25.1 ) cv_X9_270 rfl rfl rfl (jv_lt hj_25 (by decide)) (Nat.le_of_ble_eq_true rfl) (Nat.le_of_ble_eq_true rfl) ⟨(Nat.le_of_ble_eq_true rfl), (Nat.le_of_ble_eq_true rfl)⟩ (Nat.le_of_ble_eq_true rfl) dX9_ask_25 (fun z_28 u_26 hp_27 => ?_)
      obtain ⟨hz_28, hp_27⟩ := hp_27
      have hj_29 := jv_trans hj_25 hp_27
      exact r_int E dX9_ask_28 ⟨⟨by have hb_ := z32 z_28; omega, by have hb_ := z32 z_28; omega, by have hb_ := z32 z_28; have hc_ := z32 x1; omega, by have hb_ := z32 z_28; have hc_ := z32 (w.2.2.1 2 0); omega⟩, hj_29⟩
    ·
      refine s_aald105 (r := 67) E rfl (jv_lt hj_4 (by decide)) (vp_c (by decide)) (jv_r hj_4 (by decide +kernel)) dX9_ask_21 ?_
      refine s_vI (As := [AR 67]) (S := [AR 0]) E (Z_X9_possibleFirsts_0_r67 l D aC b u_1  hj_4.1 ) cv_X9_266 rfl rfl rfl (jv_lt hj_4 (by decide)) (Nat.le_of_ble_eq_true rfl) (Nat.le_of_ble_eq_true rfl) ⟨(Nat.le_of_ble_eq_true rfl), (Nat.le_of_ble_eq_true rfl)⟩ (Nat.le_of_ble_eq_true rfl) dX9_ask_22 (fun z_32 u_30 hp_31 => ?_)
      obtain ⟨hz_32, hp_31⟩ := hp_31
      have hj_33 := jv_trans hj_4 hp_31
      refine s_vI (As := [AI z_32]) (S := []) E (Z_X9_bestAsked_0 l D aC b u_30 z_32 hj_33.1 ) cv_X9_270 rfl rfl rfl (jv_lt hj_33 (by decide)) (Nat.le_of_ble_eq_true rfl) (Nat.le_of_ble_eq_true rfl) ⟨(Nat.le_of_ble_eq_true rfl), (Nat.le_of_ble_eq_true rfl)⟩ (Nat.le_of_ble_eq_true rfl) dX9_ask_25 (fun z_36 u_34 hp_35 => ?_)
      obtain ⟨hz_36, hp_35⟩ := hp_35
      have hj_37 := jv_trans hj_33 hp_35
      exact r_int E dX9_ask_28 ⟨⟨by have hb_ := z32 z_36; omega, by have hb_ := z32 z_36; omega, by have hb_ := z32 z_36; have hc_ := z32 x1; omega, by have hb_ := z32 z_36; have hc_ := z32 (w.2.2.1 2 0); omega⟩, hj_37⟩
  ·
    refine s_iload_n E dX9_ask_10 rfl rfl ?_
    refine s_goto (tgt := 28) E dX9_ask_11 (by decide) ?_
    exact r_int E dX9_ask_28 ⟨⟨by have hb_ := z32 z_3; omega, by have hb_ := z32 z_3; omega, by have hb_ := z32 z_3; have hc_ := z32 x1; omega, by have hb_ := z32 z_3; have hc_ := z32 (w.2.2.1 2 0); omega⟩, hj_4⟩
set_option maxRecDepth 20000 in
set_option maxHeartbeats 2000000 in
theorem Z_X9_leaves_0 (l : Launch) (D : va_G) (aC : Nat → ClassId) (b : Nat) (w : XW) (x1 : Int32) (hI : Iv w)  : CnI l D aC b M_X9_leaves 6 144 0 0 [AR 0, AI x1] w (fun r u => ((-6) ≤ r.toInt ∧ r.toInt ≤ 2147483647 ∧ (¬ r.toInt = 0 ∨ (0 ≤ x1.toInt ∧ x1.toInt ≤ 3)) ∧ (¬ r.toInt = 0 ∨ (1 ≤ (w.2.2.1 2 0).toInt ∧ (w.2.2.1 2 0).toInt ≤ 2147483647))) ∧ Jv w u) := by
  refine cn_I (own := RX9) (nm := "leaves") (L0 := [some (AR 0), some (AI x1), none, none, none]) (by decide +kernel) rfl rfl (Nat.le_of_ble_eq_true rfl) rfl ?_
  intro p e s m args below meth c E hin
  have hJ : Jv w w := jv_rfl hI
  refine s_aload_n E dX9_leaves_0 rfl rfl ?_
  refine s_iload_n E dX9_leaves_1 rfl rfl ?_
  refine s_vI (As := [AI x1]) (S := []) E (Z_X9_seenFault_0 l D aC b w x1 hJ.1 ) cv_X9_263 rfl rfl rfl (jv_lt hJ (by decide)) (Nat.le_of_ble_eq_true rfl) (Nat.le_of_ble_eq_true rfl) ⟨(Nat.le_of_ble_eq_true rfl), (Nat.le_of_ble_eq_true rfl)⟩ (Nat.le_of_ble_eq_true rfl) dX9_leaves_2 (fun z_3 u_1 hp_2 => ?_)
  obtain ⟨hz_3, hp_2⟩ := hp_2
  have hj_4 := jv_trans hJ hp_2
  refine s_istore_n (L2 := [some (AR 0), some (AI x1), some (AI z_3), none, none]) E dX9_leaves_5 rfl (by decide) rfl ?_
  refine s_iload_n E dX9_leaves_6 rfl rfl ?_
  refine z_if_eq (tgt := 12) (u := z_3.toInt) E dX9_leaves_7 (by decide) rfl (fun h_5 => ?_) (fun h_5 => ?_)
  ·
    refine s_aload_n E dX9_leaves_12 rfl rfl ?_
    refine s_aload_n E dX9_leaves_13 rfl rfl ?_
    refine s_gR (r := 60) E fg_X9_46 rfl rfl (jv_lt hj_4 (by decide)) (jv_r hj_4 (by decide +kernel)) dX9_leaves_14 ?_
    refine s_iload_n E dX9_leaves_17 rfl rfl ?_
    rcases (show x1 = 0 ∨ x1 = 1 ∨ x1 = 2 ∨ x1 = 3 from (z_cases4 (u := x1.toInt) rfl (by omega) (by omega))) with rfl | rfl | rfl | rfl
    ·
      refine s_aald105 (r := 61) E rfl (jv_lt hj_4 (by decide)) (vp_c (by decide)) (jv_r hj_4 (by decide +kernel)) dX9_leaves_18 ?_
      refine s_vI (As := [AR 61]) (S := []) E (Z_X9_possibleFirsts_0_r61 l D aC b u_1  hj_4.1 ) cv_X9_266 rfl rfl rfl (jv_lt hj_4 (by decide)) (Nat.le_of_ble_eq_true rfl) (Nat.le_of_ble_eq_true rfl) ⟨(Nat.le_of_ble_eq_true rfl), (Nat.le_of_ble_eq_true rfl)⟩ (Nat.le_of_ble_eq_true rfl) dX9_leaves_19 (fun z_8 u_6 hp_7 => ?_)
      obtain ⟨hz_8, hp_7⟩ := hp_7
      have hj_9 := jv_trans hj_4 hp_7
      refine s_istore_n (L2 := [some (AR 0), some (AI 0), some (AI z_3), some (AI z_8), none]) E dX9_leaves_22 rfl (by decide) rfl ?_
      refine s_aload_n E dX9_leaves_23 rfl rfl ?_
      refine s_iload_n E dX9_leaves_24 rfl rfl ?_
      refine s_vI (As := [AI z_8]) (S := []) E (Z_X9_bestAsked_0 l D aC b u_6 z_8 hj_9.1 ) cv_X9_270 rfl rfl rfl (jv_lt hj_9 (by decide)) (Nat.le_of_ble_eq_true rfl) (Nat.le_of_ble_eq_true rfl) ⟨(Nat.le_of_ble_eq_true rfl), (Nat.le_of_ble_eq_true rfl)⟩ (Nat.le_of_ble_eq_true rfl) dX9_leaves_25 (fun z_12 u_10 hp_11 => ?_)
      obtain ⟨hz_12, hp_11⟩ := hp_11
      have hj_13 := jv_trans hj_9 hp_11
      refine s_istore (L2 := [some (AR 0), some (AI 0), some (AI z_3), some (AI z_8), some (AI z_12)]) E dX9_leaves_28 (by decide) rfl ?_
      refine s_iload E dX9_leaves_30 rfl ?_
      refine s_iconst (v := (-1)) E dX9_leaves_32 (by decide) ?_
      refine z_icmp_ne (tgt := 43) (u := z_12.toInt) (v := (-1)) E dX9_leaves_33 (by decide) rfl (by decide) (fun h_14 => ?_) (fun h_14 => ?_)
      ·
        refine s_aload_n E dX9_leaves_43 rfl rfl ?_
        refine s_iload_n E dX9_leaves_44 rfl rfl ?_
        refine s_iload E dX9_leaves_45 rfl ?_
        refine s_vI (As := [AI z_8, AI z_12]) (S := []) E (Z_X9_leftAtWorst_0 l D aC b u_10 z_8 z_12 hj_13.1 ) cv_X9_273 rfl rfl rfl (jv_lt hj_13 (by decide)) (Nat.le_of_ble_eq_true rfl) (Nat.le_of_ble_eq_true rfl) ⟨(Nat.le_of_ble_eq_true rfl), (Nat.le_of_ble_eq_true rfl)⟩ (Nat.le_of_ble_eq_true rfl) dX9_leaves_47 (fun z_17 u_15 hp_16 => ?_)
        obtain ⟨hz_17, hp_16⟩ := hp_16
        have hj_18 := jv_trans hj_13 hp_16
        exact r_int E dX9_leaves_50 ⟨⟨by have hb_ := z32 z_17; omega, by have hb_ := z32 z_17; omega, by have hb_ := z32 z_17; have hc_ := z32 x1; omega, by have hb_ := z32 z_17; have hc_ := z32 (w.2.2.1 2 0); omega⟩, hj_18⟩
      ·
        refine s_iload_n E dX9_leaves_36 rfl rfl ?_
        refine s_sI (As := [AI z_8]) (S := []) E (Z_J6_bitCount_0f7a4 l D aC b u_10 z_8 hj_13.1 ) cs_X9_203 rfl rfl (Nat.le_of_ble_eq_true rfl) (Nat.le_of_ble_eq_true rfl) ⟨(Nat.le_of_ble_eq_true rfl), (Nat.le_of_ble_eq_true rfl)⟩ (Nat.le_of_ble_eq_true rfl) dX9_leaves_37 (fun z_21 u_19 hp_20 => ?_)
        obtain ⟨hz_21, hp_20⟩ := hp_20
        subst hp_20
        refine s_goto (tgt := 50) E dX9_leaves_40 (by decide) ?_
        exact r_int E dX9_leaves_50 ⟨⟨by have hb_ := z32 z_21; omega, by have hb_ := z32 z_21; omega, by have hb_ := z32 z_21; have hc_ := z32 x1; omega, by have hb_ := z32 z_21; have hc_ := z32 (w.2.2.1 2 0); omega⟩, hj_13⟩
    ·
      refine s_aald105 (r := 63) E rfl (jv_lt hj_4 (by decide)) (vp_c (by decide)) (jv_r hj_4 (by decide +kernel)) dX9_leaves_18 ?_
      refine s_vI (As := [AR 63]) (S := []) E (Z_X9_possibleFirsts_0_r63 l D aC b u_1  hj_4.1 ) cv_X9_266 rfl rfl rfl (jv_lt hj_4 (by decide)) (Nat.le_of_ble_eq_true rfl) (Nat.le_of_ble_eq_true rfl) ⟨(Nat.le_of_ble_eq_true rfl), (Nat.le_of_ble_eq_true rfl)⟩ (Nat.le_of_ble_eq_true rfl) dX9_leaves_19 (fun z_25 u_23 hp_24 => ?_)
      obtain ⟨hz_25, hp_24⟩ := hp_24
      have hj_26 := jv_trans hj_4 hp_24
      refine s_istore_n (L2 := [some (AR 0), some (AI 1), some (AI z_3), some (AI z_25), none]) E dX9_leaves_22 rfl (by decide) rfl ?_
      refine s_aload_n E dX9_leaves_23 rfl rfl ?_
      refine s_iload_n E dX9_leaves_24 rfl rfl ?_
      refine s_vI (As := [AI z_25]) (S := []) E (Z_X9_bestAsked_0 l D aC b u_23 z_25 hj_26.1 ) cv_X9_270 rfl rfl rfl (jv_lt hj_26 (by decide)) (Nat.le_of_ble_eq_true rfl) (Nat.le_of_ble_eq_true rfl) ⟨(Nat.le_of_ble_eq_true rfl), (Nat.le_of_ble_eq_true rfl)⟩ (Nat.le_of_ble_eq_true rfl) dX9_leaves_25 (fun z_29 u_27 hp_28 => ?_)
      obtain ⟨hz_29, hp_28⟩ := hp_28
      have hj_30 := jv_trans hj_26 hp_28
      refine s_istore (L2 := [some (AR 0), some (AI 1), some (AI z_3), some (AI z_25), some (AI z_29)]) E dX9_leaves_28 (by decide) rfl ?_
      refine s_iload E dX9_leaves_30 rfl ?_
      refine s_iconst (v := (-1)) E dX9_leaves_32 (by decide) ?_
      refine z_icmp_ne (tgt := 43) (u := z_29.toInt) (v := (-1)) E dX9_leaves_33 (by decide) rfl (by decide) (fun h_31 => ?_) (fun h_31 => ?_)
      ·
        refine s_aload_n E dX9_leaves_43 rfl rfl ?_
        refine s_iload_n E dX9_leaves_44 rfl rfl ?_
        refine s_iload E dX9_leaves_45 rfl ?_
        refine s_vI (As := [AI z_25, AI z_29]) (S := []) E (Z_X9_leftAtWorst_0 l D aC b u_27 z_25 z_29 hj_30.1 ) cv_X9_273 rfl rfl rfl (jv_lt hj_30 (by decide)) (Nat.le_of_ble_eq_true rfl) (Nat.le_of_ble_eq_true rfl) ⟨(Nat.le_of_ble_eq_true rfl), (Nat.le_of_ble_eq_true rfl)⟩ (Nat.le_of_ble_eq_true rfl) dX9_leaves_47 (fun z_34 u_32 hp_33 => ?_)
        obtain ⟨hz_34, hp_33⟩ := hp_33
        have hj_35 := jv_trans hj_30 hp_33
        exact r_int E dX9_leaves_50 ⟨⟨by have hb_ := z32 z_34; omega, by have hb_ := z32 z_34; omega, by have hb_ := z32 z_34; have hc_ := z32 x1; omega, by have hb_ := z32 z_34; have hc_ := z32 (w.2.2.1 2 0); omega⟩, hj_35⟩
      ·
        refine s_iload_n E dX9_leaves_36 rfl rfl ?_
        refine s_sI (As := [AI z_25]) (S := []) E (Z_J6_bitCount_0f7a4 l D aC b u_27 z_25 hj_30.1 ) cs_X9_203 rfl rfl (Nat.le_of_ble_eq_true rfl) (Nat.le_of_ble_eq_true rfl) ⟨(Nat.le_of_ble_eq_true rfl), (Nat.le_of_ble_eq_true rfl)⟩ (Nat.le_of_ble_eq_true rfl) dX9_leaves_37 (fun z_38 u_36 hp_37 => ?_)
        obtain ⟨hz_38, hp_37⟩ := hp_37
        subst hp_37
        refine s_goto (tgt := 50) E dX9_leaves_40 (by decide) ?_
        exact r_int E dX9_leaves_50 ⟨⟨by have hb_ := z32 z_38; omega, by have hb_ := z32 z_38; omega, by have hb_ := z32 z_38; have hc_ := z32 x1; omega, by have hb_ := z32 z_38; have hc_ := z32 (w.2.2.1 2 0); omega⟩, hj_30⟩
    ·
      refine s_aald105 (r := 65) E rfl (jv_lt hj_4 (by decide)) (vp_c (by decide)) (jv_r hj_4 (by decide +kernel)) dX9_leaves_18 ?_
      refine s_vI (As := [AR 65]) (S := []) E (Z_X9_possibleFirsts_0_r65 l D aC b u_1  hj_4.1 ) cv_X9_266 rfl rfl rfl (jv_lt hj_4 (by decide)) (Nat.le_of_ble_eq_true rfl) (Nat.le_of_ble_eq_true rfl) ⟨(Nat.le_of_ble_eq_true rfl), (Nat.le_of_ble_eq_true rfl)⟩ (Nat.le_of_ble_eq_true rfl) dX9_leaves_19 (fun z_42 u_40 hp_41 => ?_)
      obtain ⟨hz_42, hp_41⟩ := hp_41
      have hj_43 := jv_trans hj_4 hp_41
      refine s_istore_n (L2 := [some (AR 0), some (AI 2), some (AI z_3), some (AI z_42), none]) E dX9_leaves_22 rfl (by decide) rfl ?_
      refine s_aload_n E dX9_leaves_23 rfl rfl ?_
      refine s_iload_n E dX9_leaves_24 rfl rfl ?_
      refine s_vI (As := [AI z_42]) (S := []) E (Z_X9_bestAsked_0 l D aC b u_40 z_42 hj_43.1 ) cv_X9_270 rfl rfl rfl (jv_lt hj_43 (by decide)) (Nat.le_of_ble_eq_true rfl) (Nat.le_of_ble_eq_true rfl) ⟨(Nat.le_of_ble_eq_true rfl), (Nat.le_of_ble_eq_true rfl)⟩ (Nat.le_of_ble_eq_true rfl) dX9_leaves_25 (fun z_46 u_44 hp_45 => ?_)
      obtain ⟨hz_46, hp_45⟩ := hp_45
      have hj_47 := jv_trans hj_43 hp_45
      refine s_istore (L2 := [some (AR 0), some (AI 2), some (AI z_3), some (AI z_42), some (AI z_46)]) E dX9_leaves_28 (by decide) rfl ?_
      refine s_iload E dX9_leaves_30 rfl ?_
      refine s_iconst (v := (-1)) E dX9_leaves_32 (by decide) ?_
      refine z_icmp_ne (tgt := 43) (u := z_46.toInt) (v := (-1)) E dX9_leaves_33 (by decide) rfl (by decide) (fun h_48 => ?_) (fun h_48 => ?_)
      ·
        refine s_aload_n E dX9_leaves_43 rfl rfl ?_
        refine s_iload_n E dX9_leaves_44 rfl rfl ?_
        refine s_iload E dX9_leaves_45 rfl ?_
        refine s_vI (As := [AI z_42, AI z_46]) (S := []) E (Z_X9_leftAtWorst_0 l D aC b u_44 z_42 z_46 hj_47.1 ) cv_X9_273 rfl rfl rfl (jv_lt hj_47 (by decide)) (Nat.le_of_ble_eq_true rfl) (Nat.le_of_ble_eq_true rfl) ⟨(Nat.le_of_ble_eq_true rfl), (Nat.le_of_ble_eq_true rfl)⟩ (Nat.le_of_ble_eq_true rfl) dX9_leaves_47 (fun z_51 u_49 hp_50 => ?_)
        obtain ⟨hz_51, hp_50⟩ := hp_50
        have hj_52 := jv_trans hj_47 hp_50
        exact r_int E dX9_leaves_50 ⟨⟨by have hb_ := z32 z_51; omega, by have hb_ := z32 z_51; omega, by have hb_ := z32 z_51; have hc_ := z32 x1; omega, by have hb_ := z32 z_51; have hc_ := z32 (w.2.2.1 2 0); omega⟩, hj_52⟩
      ·
        refine s_iload_n E dX9_leaves_36 rfl rfl ?_
        refine s_sI (As := [AI z_42]) (S := []) E (Z_J6_bitCount_0f7a4 l D aC b u_44 z_42 hj_47.1 ) cs_X9_203 rfl rfl (Nat.le_of_ble_eq_true rfl) (Nat.le_of_ble_eq_true rfl) ⟨(Nat.le_of_ble_eq_true rfl), (Nat.le_of_ble_eq_true rfl)⟩ (Nat.le_of_ble_eq_true rfl) dX9_leaves_37 (fun z_55 u_53 hp_54 => ?_)
        obtain ⟨hz_55, hp_54⟩ := hp_54
        subst hp_54
        refine s_goto (tgt := 50) E dX9_leaves_40 (by decide) ?_
        exact r_int E dX9_leaves_50 ⟨⟨by have hb_ := z32 z_55; omega, by have hb_ := z32 z_55; omega, by have hb_ := z32 z_55; have hc_ := z32 x1; omega, by have hb_ := z32 z_55; have hc_ := z32 (w.2.2.1 2 0); omega⟩, hj_47⟩
    ·
      refine s_aald105 (r := 67) E rfl (jv_lt hj_4 (by decide)) (vp_c (by decide)) (jv_r hj_4 (by decide +kernel)) dX9_leaves_18 ?_
      refine s_vI (As := [AR 67]) (S := []) E (Z_X9_possibleFirsts_0_r67 l D aC b u_1  hj_4.1 ) cv_X9_266 rfl rfl rfl (jv_lt hj_4 (by decide)) (Nat.le_of_ble_eq_true rfl) (Nat.le_of_ble_eq_true rfl) ⟨(Nat.le_of_ble_eq_true rfl), (Nat.le_of_ble_eq_true rfl)⟩ (Nat.le_of_ble_eq_true rfl) dX9_leaves_19 (fun z_59 u_57 hp_58 => ?_)
      obtain ⟨hz_59, hp_58⟩ := hp_58
      have hj_60 := jv_trans hj_4 hp_58
      refine s_istore_n (L2 := [some (AR 0), some (AI 3), some (AI z_3), some (AI z_59), none]) E dX9_leaves_22 rfl (by decide) rfl ?_
      refine s_aload_n E dX9_leaves_23 rfl rfl ?_
      refine s_iload_n E dX9_leaves_24 rfl rfl ?_
      refine s_vI (As := [AI z_59]) (S := []) E (Z_X9_bestAsked_0 l D aC b u_57 z_59 hj_60.1 ) cv_X9_270 rfl rfl rfl (jv_lt hj_60 (by decide)) (Nat.le_of_ble_eq_true rfl) (Nat.le_of_ble_eq_true rfl) ⟨(Nat.le_of_ble_eq_true rfl), (Nat.le_of_ble_eq_true rfl)⟩ (Nat.le_of_ble_eq_true rfl) dX9_leaves_25 (fun z_63 u_61 hp_62 => ?_)
      obtain ⟨hz_63, hp_62⟩ := hp_62
      have hj_64 := jv_trans hj_60 hp_62
      refine s_istore (L2 := [some (AR 0), some (AI 3), some (AI z_3), some (AI z_59), some (AI z_63)]) E dX9_leaves_28 (by decide) rfl ?_
      refine s_iload E dX9_leaves_30 rfl ?_
      refine s_iconst (v := (-1)) E dX9_leaves_32 (by decide) ?_
      refine z_icmp_ne (tgt := 43) (u := z_63.toInt) (v := (-1)) E dX9_leaves_33 (by decide) rfl (by decide) (fun h_65 => ?_) (fun h_65 => ?_)
      ·
        refine s_aload_n E dX9_leaves_43 rfl rfl ?_
        refine s_iload_n E dX9_leaves_44 rfl rfl ?_
        refine s_iload E dX9_leaves_45 rfl ?_
        refine s_vI (As := [AI z_59, AI z_63]) (S := []) E (Z_X9_leftAtWorst_0 l D aC b u_61 z_59 z_63 hj_64.1 ) cv_X9_273 rfl rfl rfl (jv_lt hj_64 (by decide)) (Nat.le_of_ble_eq_true rfl) (Nat.le_of_ble_eq_true rfl) ⟨(Nat.le_of_ble_eq_true rfl), (Nat.le_of_ble_eq_true rfl)⟩ (Nat.le_of_ble_eq_true rfl) dX9_leaves_47 (fun z_68 u_66 hp_67 => ?_)
        obtain ⟨hz_68, hp_67⟩ := hp_67
        have hj_69 := jv_trans hj_64 hp_67
        exact r_int E dX9_leaves_50 ⟨⟨by have hb_ := z32 z_68; omega, by have hb_ := z32 z_68; omega, by have hb_ := z32 z_68; have hc_ := z32 x1; omega, by have hb_ := z32 z_68; have hc_ := z32 (w.2.2.1 2 0); omega⟩, hj_69⟩
      ·
        refine s_iload_n E dX9_leaves_36 rfl rfl ?_
        refine s_sI (As := [AI z_59]) (S := []) E (Z_J6_bitCount_0f7a4 l D aC b u_61 z_59 hj_64.1 ) cs_X9_203 rfl rfl (Nat.le_of_ble_eq_true rfl) (Nat.le_of_ble_eq_true rfl) ⟨(Nat.le_of_ble_eq_true rfl), (Nat.le_of_ble_eq_true rfl)⟩ (Nat.le_of_ble_eq_true rfl) dX9_leaves_37 (fun z_72 u_70 hp_71 => ?_)
        obtain ⟨hz_72, hp_71⟩ := hp_71
        subst hp_71
        refine s_goto (tgt := 50) E dX9_leaves_40 (by decide) ?_
        exact r_int E dX9_leaves_50 ⟨⟨by have hb_ := z32 z_72; omega, by have hb_ := z32 z_72; omega, by have hb_ := z32 z_72; have hc_ := z32 x1; omega, by have hb_ := z32 z_72; have hc_ := z32 (w.2.2.1 2 0); omega⟩, hj_64⟩
  ·
    refine s_iload_n E dX9_leaves_10 rfl rfl ?_
    exact r_int E dX9_leaves_11 ⟨⟨by have hb_ := z32 z_3; omega, by have hb_ := z32 z_3; omega, by have hb_ := z32 z_3; have hc_ := z32 x1; omega, by have hb_ := z32 z_3; have hc_ := z32 (w.2.2.1 2 0); omega⟩, hj_4⟩
set_option maxRecDepth 20000 in
set_option maxHeartbeats 2000000 in
theorem Z_X9_seats_0 (l : Launch) (D : va_G) (aC : Nat → ClassId) (b : Nat) (w : XW) (x1 : Int32) (hI : Iv w)  : CnI l D aC b M_X9_seats 3 67 0 0 [AR 0, AI x1] w (fun r u => ((-2147483648) ≤ r.toInt ∧ r.toInt ≤ 2147483647 ∧ (¬ r.toInt = 0 ∨ (0 ≤ x1.toInt ∧ x1.toInt ≤ 5)) ∧ (¬ r.toInt = 0 ∨ (1 ≤ (w.2.2.1 5 3).toInt ∧ (w.2.2.1 5 3).toInt ≤ 6))) ∧ Jv w u) := by
  refine cn_I (own := RX9) (nm := "seats") (L0 := [some (AR 0), some (AI x1)]) (by decide +kernel) rfl rfl (Nat.le_of_ble_eq_true rfl) rfl ?_
  intro p e s m args below meth c E hin
  have hJ : Jv w w := jv_rfl hI
  refine s_aload_n E dX9_seats_0 rfl rfl ?_
  refine s_gR (r := 2) E fg_X9_20 rfl rfl (jv_lt hJ (by decide)) (jv_r hJ (by decide +kernel)) dX9_seats_1 ?_
  refine s_iload_n E dX9_seats_4 rfl rfl ?_
  refine s_vI (As := [AI x1]) (S := []) E (Z_X0_hasLady_2 l D aC b w x1 hJ.1 ) cv_X9_139 rfl rfl rfl (jv_lt hJ (by decide)) (Nat.le_of_ble_eq_true rfl) (Nat.le_of_ble_eq_true rfl) ⟨(Nat.le_of_ble_eq_true rfl), (Nat.le_of_ble_eq_true rfl)⟩ (Nat.le_of_ble_eq_true rfl) dX9_seats_5 (fun z_3 u_1 hp_2 => ?_)
  obtain ⟨hz_3, hp_2⟩ := hp_2
  subst hp_2
  refine z_if_eq (tgt := 22) (u := z_3.toInt) E dX9_seats_8 (by decide) rfl (fun h_5 => ?_) (fun h_5 => ?_)
  ·
    refine s_bipush (v := (-2)) E dX9_seats_22 (by decide) ?_
    exact r_int E dX9_seats_24 ⟨⟨by decide, by decide, by first | (left; decide) | (right; have hb_ := z32 x1; omega), by first | (left; decide) | (right; have hb_ := z32 (w.2.2.1 5 3); omega)⟩, hJ⟩
  ·
    refine s_aload_n E dX9_seats_11 rfl rfl ?_
    refine s_gR (r := 2) E fg_X9_20 rfl rfl (jv_lt hJ (by decide)) (jv_r hJ (by decide +kernel)) dX9_seats_12 ?_
    refine s_iload_n E dX9_seats_15 rfl rfl ?_
    refine s_vI (As := [AI x1]) (S := []) E (Z_X0_seatsUnder_2 l D aC b w x1 hJ.1 ) cv_X9_302 rfl rfl rfl (jv_lt hJ (by decide)) (Nat.le_of_ble_eq_true rfl) (Nat.le_of_ble_eq_true rfl) ⟨(Nat.le_of_ble_eq_true rfl), (Nat.le_of_ble_eq_true rfl)⟩ (Nat.le_of_ble_eq_true rfl) dX9_seats_16 (fun z_8 u_6 hp_7 => ?_)
    obtain ⟨hz_8, hp_7⟩ := hp_7
    have hj_9 := jv_trans hJ hp_7
    refine s_goto (tgt := 24) E dX9_seats_19 (by decide) ?_
    exact r_int E dX9_seats_24 ⟨⟨by have hb_ := z32 z_8; omega, by have hb_ := z32 z_8; omega, by have hb_ := z32 z_8; have hc_ := z32 x1; omega, by have hb_ := z32 z_8; have hc_ := z32 (w.2.2.1 5 3); omega⟩, hj_9⟩
set_option maxRecDepth 20000 in
set_option maxHeartbeats 2000000 in
theorem Z_X0_ministersUnder_2 (l : Launch) (D : va_G) (aC : Nat → ClassId) (b : Nat) (w : XW) (x1 : Int32) (hI : Iv w)  : CnI l D aC b M_X0_ministersUnder 2 44 0 0 [AR 2, AI x1] w (fun r u => ((-2147483648) ≤ r.toInt ∧ r.toInt ≤ 2147483647) ∧ Jv w u) := by
  refine cn_I (own := RX0) (nm := "ministersUnder") (L0 := [some (AR 2), some (AI x1), none, none]) (by decide +kernel) rfl rfl (Nat.le_of_ble_eq_true rfl) rfl ?_
  intro p e s m args below meth c E hin
  have hJ : Jv w w := jv_rfl hI
  refine s_iconst (v := 0) E dX0_ministersUnder_0 (by decide) ?_
  refine s_istore_n (L2 := [some (AR 2), some (AI x1), some (AI 0), none]) E dX0_ministersUnder_1 rfl (by decide) rfl ?_
  refine s_iconst (v := 0) E dX0_ministersUnder_2 (by decide) ?_
  refine s_istore_n (L2 := [some (AR 2), some (AI x1), some (AI 0), some (AI 0)]) E dX0_ministersUnder_3 rfl (by decide) rfl ?_
  refine z_loop (St := Int32 × Int32) (Pi := fun ⟨q4_2_0, q4_3_0⟩ v4 => (0 ≤ q4_3_0.toInt ∧ q4_3_0.toInt ≤ 8) ∧ Jv w v4) (Lf := fun ⟨q4_2_0, q4_3_0⟩ => [some (AR 2), some (AI x1), some (AI q4_2_0), some (AI q4_3_0)]) (fun ⟨q4_2_0, q4_3_0⟩ _ => (9 - q4_3_0.toInt).toNat) ⟨0, 0⟩ ⟨⟨by decide, by decide⟩, hJ⟩ ?_
  rintro ⟨q4_2_0, q4_3_0⟩ v4 ⟨hq4_3, hj_1⟩ ih4
  refine s_loc (L2 := [some (AR 2), some (AI x1), some (AI q4_2_0), some (AI q4_3_0)]) rfl ?_
  refine s_iload_n E dX0_ministersUnder_4 rfl rfl ?_
  refine s_aload_n E dX0_ministersUnder_5 rfl rfl ?_
  refine s_gR (r := 7) E fg_X0_23 rfl rfl (jv_lt hj_1 (by decide)) (jv_r hj_1 (by decide +kernel)) dX0_ministersUnder_6 ?_
  refine s_gI E fg_X0_67 rfl rfl (jv_lt hj_1 (by decide)) dX0_ministersUnder_9 ?_
  refine z_nm (P := fun z => z.toInt = (v4.2.2.1 7 3).toInt ∧ 0 ≤ z.toInt ∧ z.toInt ≤ 8) ⟨rfl, (rg_7_3 hj_1)⟩ (fun z_2 hz_2 => ?_)
  refine z_icmp_ge (tgt := 40) (u := q4_3_0.toInt) (v := z_2.toInt) E dX0_ministersUnder_12 (by decide) rfl rfl (fun h_3 => ?_) (fun h_3 => ?_)
  ·
    refine s_iload_n E dX0_ministersUnder_40 rfl rfl ?_
    exact r_int E dX0_ministersUnder_41 ⟨⟨by have hb_ := z32 q4_2_0; omega, by have hb_ := z32 q4_2_0; omega⟩, hj_1⟩
  ·
    refine s_aload_n E dX0_ministersUnder_15 rfl rfl ?_
    refine s_gR (r := 7) E fg_X0_23 rfl rfl (jv_lt hj_1 (by decide)) (jv_r hj_1 (by decide +kernel)) dX0_ministersUnder_16 ?_
    refine s_iload_n E dX0_ministersUnder_19 rfl rfl ?_
    refine s_iconst (v := 0) E dX0_ministersUnder_20 (by decide) ?_
    refine s_vI (As := [AI q4_3_0, AI 0]) (S := []) E (Z_X8_cell_7 l D aC b v4 q4_3_0 0 hj_1.1 ) cv_X0_70 rfl rfl rfl (jv_lt hj_1 (by decide)) (Nat.le_of_ble_eq_true rfl) (Nat.le_of_ble_eq_true rfl) ⟨(Nat.le_of_ble_eq_true rfl), (Nat.le_of_ble_eq_true rfl)⟩ (Nat.le_of_ble_eq_true rfl) dX0_ministersUnder_21 (fun z_6 u_4 hp_5 => ?_)
    obtain ⟨hz_6, hp_5⟩ := hp_5
    subst hp_5
    refine s_iload_n E dX0_ministersUnder_24 rfl rfl ?_
    refine z_icmp_ne (tgt := 34) (u := z_6.toInt) (v := x1.toInt) E dX0_ministersUnder_25 (by decide) rfl rfl (fun h_8 => ?_) (fun h_8 => ?_)
    ·
      refine z_iinc (u := q4_3_0.toInt) (L2 := fun z_9 => [some (AR 2), some (AI x1), some (AI q4_2_0), some (AI z_9)]) E dX0_ministersUnder_34 rfl rfl (by decide) (fun _ => rfl) (by decide) (by omega) (by omega) (fun z_9 hz_9 => ?_)
      refine s_goto (tgt := 4) E dX0_ministersUnder_37 (by decide) ?_
      exact ih4 ⟨q4_2_0, z_9⟩ v4 ⟨⟨by have hb_ := z32 z_9; omega, by have hb_ := z32 z_9; omega⟩, hj_1⟩ (by first | omega | (dsimp only; omega))
    ·
      refine s_iload_n E dX0_ministersUnder_28 rfl rfl ?_
      refine s_iconst (v := 1) E dX0_ministersUnder_29 (by decide) ?_
      refine s_iload_n E dX0_ministersUnder_30 rfl rfl ?_
      refine z_shl1 7 (u := q4_3_0.toInt) (B := 128) E dX0_ministersUnder_31 rfl (by omega) (by omega) (by decide) (by decide) (fun z_10 hz_10 => ?_)
      refine s_ior E dX0_ministersUnder_32 ?_
      refine z_any (fun z_11 => ?_)
      refine s_istore_n (L2 := [some (AR 2), some (AI x1), some (AI z_11), some (AI q4_3_0)]) E dX0_ministersUnder_33 rfl (by decide) rfl ?_
      refine z_iinc (u := q4_3_0.toInt) (L2 := fun z_12 => [some (AR 2), some (AI x1), some (AI z_11), some (AI z_12)]) E dX0_ministersUnder_34 rfl rfl (by decide) (fun _ => rfl) (by decide) (by omega) (by omega) (fun z_12 hz_12 => ?_)
      refine s_goto (tgt := 4) E dX0_ministersUnder_37 (by decide) ?_
      exact ih4 ⟨z_11, z_12⟩ v4 ⟨⟨by have hb_ := z32 z_12; omega, by have hb_ := z32 z_12; omega⟩, hj_1⟩ (by first | omega | (dsimp only; omega))
set_option maxRecDepth 20000 in
set_option maxHeartbeats 2000000 in
theorem Z_X9_under_0 (l : Launch) (D : va_G) (aC : Nat → ClassId) (b : Nat) (w : XW) (x1 : Int32) (hI : Iv w)  : CnI l D aC b M_X9_under 3 67 0 0 [AR 0, AI x1] w (fun r u => ((-2147483648) ≤ r.toInt ∧ r.toInt ≤ 2147483647 ∧ (¬ r.toInt = 0 ∨ (0 ≤ x1.toInt ∧ x1.toInt ≤ 5)) ∧ (¬ r.toInt = 0 ∨ (1 ≤ (w.2.2.1 5 3).toInt ∧ (w.2.2.1 5 3).toInt ≤ 6))) ∧ Jv w u) := by
  refine cn_I (own := RX9) (nm := "under") (L0 := [some (AR 0), some (AI x1)]) (by decide +kernel) rfl rfl (Nat.le_of_ble_eq_true rfl) rfl ?_
  intro p e s m args below meth c E hin
  have hJ : Jv w w := jv_rfl hI
  refine s_aload_n E dX9_under_0 rfl rfl ?_
  refine s_gR (r := 2) E fg_X9_20 rfl rfl (jv_lt hJ (by decide)) (jv_r hJ (by decide +kernel)) dX9_under_1 ?_
  refine s_iload_n E dX9_under_4 rfl rfl ?_
  refine s_vI (As := [AI x1]) (S := []) E (Z_X0_hasLady_2 l D aC b w x1 hJ.1 ) cv_X9_139 rfl rfl rfl (jv_lt hJ (by decide)) (Nat.le_of_ble_eq_true rfl) (Nat.le_of_ble_eq_true rfl) ⟨(Nat.le_of_ble_eq_true rfl), (Nat.le_of_ble_eq_true rfl)⟩ (Nat.le_of_ble_eq_true rfl) dX9_under_5 (fun z_3 u_1 hp_2 => ?_)
  obtain ⟨hz_3, hp_2⟩ := hp_2
  subst hp_2
  refine z_if_eq (tgt := 22) (u := z_3.toInt) E dX9_under_8 (by decide) rfl (fun h_5 => ?_) (fun h_5 => ?_)
  ·
    refine s_bipush (v := (-2)) E dX9_under_22 (by decide) ?_
    exact r_int E dX9_under_24 ⟨⟨by decide, by decide, by first | (left; decide) | (right; have hb_ := z32 x1; omega), by first | (left; decide) | (right; have hb_ := z32 (w.2.2.1 5 3); omega)⟩, hJ⟩
  ·
    refine s_aload_n E dX9_under_11 rfl rfl ?_
    refine s_gR (r := 2) E fg_X9_20 rfl rfl (jv_lt hJ (by decide)) (jv_r hJ (by decide +kernel)) dX9_under_12 ?_
    refine s_iload_n E dX9_under_15 rfl rfl ?_
    refine s_vI (As := [AI x1]) (S := []) E (Z_X0_ministersUnder_2 l D aC b w x1 hJ.1 ) cv_X9_305 rfl rfl rfl (jv_lt hJ (by decide)) (Nat.le_of_ble_eq_true rfl) (Nat.le_of_ble_eq_true rfl) ⟨(Nat.le_of_ble_eq_true rfl), (Nat.le_of_ble_eq_true rfl)⟩ (Nat.le_of_ble_eq_true rfl) dX9_under_16 (fun z_8 u_6 hp_7 => ?_)
    obtain ⟨hz_8, hp_7⟩ := hp_7
    have hj_9 := jv_trans hJ hp_7
    refine s_goto (tgt := 24) E dX9_under_19 (by decide) ?_
    exact r_int E dX9_under_24 ⟨⟨by have hb_ := z32 z_8; omega, by have hb_ := z32 z_8; omega, by have hb_ := z32 z_8; have hc_ := z32 x1; omega, by have hb_ := z32 z_8; have hc_ := z32 (w.2.2.1 5 3); omega⟩, hj_9⟩
set_option maxRecDepth 20000 in
set_option maxHeartbeats 2000000 in
theorem Z_X9_holds_0 (l : Launch) (D : va_G) (aC : Nat → ClassId) (b : Nat) (w : XW) (x1 : Int32) (hI : Iv w)  : CnI l D aC b M_X9_holds 4 89 0 0 [AR 0, AI x1] w (fun r u => ((-2) ≤ r.toInt ∧ r.toInt ≤ 1 ∧ (¬ r.toInt = 0 ∨ (0 ≤ x1.toInt ∧ x1.toInt ≤ 63)) ∧ (¬ r.toInt = 0 ∨ (1 ≤ (w.2.2.1 2 0).toInt ∧ (w.2.2.1 2 0).toInt ≤ 2147483647))) ∧ Jv w u) := by
  refine cn_I (own := RX9) (nm := "holds") (L0 := [some (AR 0), some (AI x1)]) (by decide +kernel) rfl rfl (Nat.le_of_ble_eq_true rfl) rfl ?_
  intro p e s m args below meth c E hin
  have hJ : Jv w w := jv_rfl hI
  refine s_aload_n E dX9_holds_0 rfl rfl ?_
  refine s_gR (r := 2) E fg_X9_20 rfl rfl (jv_lt hJ (by decide)) (jv_r hJ (by decide +kernel)) dX9_holds_1 ?_
  refine s_iload_n E dX9_holds_4 rfl rfl ?_
  refine s_vI (As := [AI x1]) (S := []) E (Z_X0_hasSet_2 l D aC b w x1 hJ.1 ) cv_X9_308 rfl rfl rfl (jv_lt hJ (by decide)) (Nat.le_of_ble_eq_true rfl) (Nat.le_of_ble_eq_true rfl) ⟨(Nat.le_of_ble_eq_true rfl), (Nat.le_of_ble_eq_true rfl)⟩ (Nat.le_of_ble_eq_true rfl) dX9_holds_5 (fun z_3 u_1 hp_2 => ?_)
  obtain ⟨hz_3, hp_2⟩ := hp_2
  subst hp_2
  refine z_if_ne (tgt := 14) (u := z_3.toInt) E dX9_holds_8 (by decide) rfl (fun h_5 => ?_) (fun h_5 => ?_)
  ·
    refine s_aload_n E dX9_holds_14 rfl rfl ?_
    refine s_gR (r := 89) E fg_X9_78 rfl rfl (jv_lt hJ (by decide)) (jv_r hJ (by decide +kernel)) dX9_holds_15 ?_
    refine s_aload_n E dX9_holds_18 rfl rfl ?_
    refine s_gR (r := 2) E fg_X9_20 rfl rfl (jv_lt hJ (by decide)) (jv_r hJ (by decide +kernel)) dX9_holds_19 ?_
    refine s_vV (As := [AR 2]) (S := []) E (Z_X3_tally_89_r2 l D aC b w  hJ.1 ) cv_X9_311 rfl rfl rfl (jv_lt hJ (by decide)) (Nat.le_of_ble_eq_true rfl) (Nat.le_of_ble_eq_true rfl) ⟨(Nat.le_of_ble_eq_true rfl), (Nat.le_of_ble_eq_true rfl)⟩ (Nat.le_of_ble_eq_true rfl) dX9_holds_22 (fun u_6 hp_7 => ?_)
    have hj_8 := jv_trans hJ hp_7
    refine s_aload_n E dX9_holds_25 rfl rfl ?_
    refine s_gR (r := 89) E fg_X9_78 rfl rfl (jv_lt hj_8 (by decide)) (jv_r hj_8 (by decide +kernel)) dX9_holds_26 ?_
    refine s_iload_n E dX9_holds_29 rfl rfl ?_
    refine s_vI (As := [AI x1]) (S := []) E (Z_X3_isMajority_89 l D aC b u_6 x1 hj_8.1 ) cv_X9_314 rfl rfl rfl (jv_lt hj_8 (by decide)) (Nat.le_of_ble_eq_true rfl) (Nat.le_of_ble_eq_true rfl) ⟨(Nat.le_of_ble_eq_true rfl), (Nat.le_of_ble_eq_true rfl)⟩ (Nat.le_of_ble_eq_true rfl) dX9_holds_30 (fun z_11 u_9 hp_10 => ?_)
    obtain ⟨hz_11, hp_10⟩ := hp_10
    have hj_12 := jv_trans hj_8 hp_10
    refine z_if_eq (tgt := 40) (u := z_11.toInt) E dX9_holds_33 (by decide) rfl (fun h_13 => ?_) (fun h_13 => ?_)
    ·
      refine s_iconst (v := 0) E dX9_holds_40 (by decide) ?_
      exact r_int E dX9_holds_41 ⟨⟨by decide, by decide, by first | (left; decide) | (right; have hb_ := z32 x1; omega), by first | (left; decide) | (right; have hb_ := z32 (w.2.2.1 2 0); omega)⟩, hj_12⟩
    ·
      refine s_iconst (v := 1) E dX9_holds_36 (by decide) ?_
      refine s_goto (tgt := 41) E dX9_holds_37 (by decide) ?_
      exact r_int E dX9_holds_41 ⟨⟨by decide, by decide, by first | (left; decide) | (right; have hb_ := z32 x1; omega), by first | (left; decide) | (right; have hb_ := z32 (w.2.2.1 2 0); omega)⟩, hj_12⟩
  ·
    refine s_bipush (v := (-2)) E dX9_holds_11 (by decide) ?_
    exact r_int E dX9_holds_13 ⟨⟨by decide, by decide, by first | (left; decide) | (right; have hb_ := z32 x1; omega), by first | (left; decide) | (right; have hb_ := z32 (w.2.2.1 2 0); omega)⟩, hJ⟩
set_option maxRecDepth 20000 in
set_option maxHeartbeats 2000000 in
theorem Z_X9_power_0 (l : Launch) (D : va_G) (aC : Nat → ClassId) (b : Nat) (w : XW) (x1 : Int32) (hI : Iv w)  : CnI l D aC b M_X9_power 4 89 0 0 [AR 0, AI x1] w (fun r u => ((-2147483648) ≤ r.toInt ∧ r.toInt ≤ 2147483647 ∧ (¬ r.toInt = 0 ∨ (0 ≤ x1.toInt ∧ x1.toInt ≤ 5)) ∧ (¬ r.toInt = 0 ∨ (1 ≤ (w.2.2.1 5 3).toInt ∧ (w.2.2.1 5 3).toInt ≤ 6))) ∧ Jv w u) := by
  refine cn_I (own := RX9) (nm := "power") (L0 := [some (AR 0), some (AI x1)]) (by decide +kernel) rfl rfl (Nat.le_of_ble_eq_true rfl) rfl ?_
  intro p e s m args below meth c E hin
  have hJ : Jv w w := jv_rfl hI
  refine s_aload_n E dX9_power_0 rfl rfl ?_
  refine s_gR (r := 2) E fg_X9_20 rfl rfl (jv_lt hJ (by decide)) (jv_r hJ (by decide +kernel)) dX9_power_1 ?_
  refine s_iload_n E dX9_power_4 rfl rfl ?_
  refine s_vI (As := [AI x1]) (S := []) E (Z_X0_hasLady_2 l D aC b w x1 hJ.1 ) cv_X9_139 rfl rfl rfl (jv_lt hJ (by decide)) (Nat.le_of_ble_eq_true rfl) (Nat.le_of_ble_eq_true rfl) ⟨(Nat.le_of_ble_eq_true rfl), (Nat.le_of_ble_eq_true rfl)⟩ (Nat.le_of_ble_eq_true rfl) dX9_power_5 (fun z_3 u_1 hp_2 => ?_)
  obtain ⟨hz_3, hp_2⟩ := hp_2
  subst hp_2
  refine z_if_ne (tgt := 14) (u := z_3.toInt) E dX9_power_8 (by decide) rfl (fun h_5 => ?_) (fun h_5 => ?_)
  ·
    refine s_aload_n E dX9_power_14 rfl rfl ?_
    refine s_gR (r := 89) E fg_X9_78 rfl rfl (jv_lt hJ (by decide)) (jv_r hJ (by decide +kernel)) dX9_power_15 ?_
    refine s_aload_n E dX9_power_18 rfl rfl ?_
    refine s_gR (r := 2) E fg_X9_20 rfl rfl (jv_lt hJ (by decide)) (jv_r hJ (by decide +kernel)) dX9_power_19 ?_
    refine s_vV (As := [AR 2]) (S := []) E (Z_X3_tally_89_r2 l D aC b w  hJ.1 ) cv_X9_311 rfl rfl rfl (jv_lt hJ (by decide)) (Nat.le_of_ble_eq_true rfl) (Nat.le_of_ble_eq_true rfl) ⟨(Nat.le_of_ble_eq_true rfl), (Nat.le_of_ble_eq_true rfl)⟩ (Nat.le_of_ble_eq_true rfl) dX9_power_22 (fun u_6 hp_7 => ?_)
    have hj_8 := jv_trans hJ hp_7
    refine s_aload_n E dX9_power_25 rfl rfl ?_
    refine s_gR (r := 89) E fg_X9_78 rfl rfl (jv_lt hj_8 (by decide)) (jv_r hj_8 (by decide +kernel)) dX9_power_26 ?_
    refine s_iload_n E dX9_power_29 rfl rfl ?_
    refine s_vI (As := [AI x1]) (S := []) E (Z_X3_powerOf_89 l D aC b u_6 x1 hj_8.1 ) cv_X9_317 rfl rfl rfl (jv_lt hj_8 (by decide)) (Nat.le_of_ble_eq_true rfl) (Nat.le_of_ble_eq_true rfl) ⟨(Nat.le_of_ble_eq_true rfl), (Nat.le_of_ble_eq_true rfl)⟩ (Nat.le_of_ble_eq_true rfl) dX9_power_30 (fun z_11 u_9 hp_10 => ?_)
    obtain ⟨hz_11, hp_10⟩ := hp_10
    have hj_12 := jv_trans hj_8 hp_10
    exact r_int E dX9_power_33 ⟨⟨by have hb_ := z32 z_11; omega, by have hb_ := z32 z_11; omega, by have hb_ := z32 z_11; have hc_ := z32 x1; omega, by have hb_ := z32 z_11; have hc_ := z32 (w.2.2.1 5 3); omega⟩, hj_12⟩
  ·
    refine s_bipush (v := (-2)) E dX9_power_11 (by decide) ?_
    exact r_int E dX9_power_13 ⟨⟨by decide, by decide, by first | (left; decide) | (right; have hb_ := z32 x1; omega), by first | (left; decide) | (right; have hb_ := z32 (w.2.2.1 5 3); omega)⟩, hJ⟩
set_option maxRecDepth 20000 in
set_option maxHeartbeats 2000000 in
theorem Z_X9_isPart (l : Launch) (D : va_G) (aC : Nat → ClassId) (b : Nat) (w : XW) (x1 : Int32) (hI : Iv w)  : CnI l D aC b M_X9_isPart 0 0 0 0 [AI x1] w (fun r u => (0 ≤ r.toInt ∧ r.toInt ≤ 1 ∧ (r.toInt = 0 ∨ (0 ≤ x1.toInt ∧ x1.toInt ≤ 1))) ∧ w = u) := by
  refine cn_I (own := RX9) (nm := "isPart") (L0 := [some (AI x1)]) (by decide +kernel) rfl rfl (Nat.le_of_ble_eq_true rfl) rfl ?_
  intro p e s m args below meth c E hin
  have hJ : Jv w w := jv_rfl hI
  refine s_iload_n E dX9_isPart_0 rfl rfl ?_
  refine z_if_eq (tgt := 9) (u := x1.toInt) E dX9_isPart_1 (by decide) rfl (fun h_1 => ?_) (fun h_1 => ?_)
  ·
    refine s_iconst (v := 1) E dX9_isPart_9 (by decide) ?_
    refine s_goto (tgt := 14) E dX9_isPart_10 (by decide) ?_
    exact r_bool E dX9_isPart_14 (Or.inr rfl) ⟨⟨by decide, by decide, by first | (left; decide) | (right; have hb_ := z32 x1; omega)⟩, rfl⟩
  ·
    refine s_iload_n E dX9_isPart_4 rfl rfl ?_
    refine s_iconst (v := 1) E dX9_isPart_5 (by decide) ?_
    refine z_icmp_ne (tgt := 13) (u := x1.toInt) (v := 1) E dX9_isPart_6 (by decide) rfl (by decide) (fun h_2 => ?_) (fun h_2 => ?_)
    ·
      refine s_iconst (v := 0) E dX9_isPart_13 (by decide) ?_
      exact r_bool E dX9_isPart_14 (Or.inl rfl) ⟨⟨by decide, by decide, by first | (left; decide) | (right; have hb_ := z32 x1; omega)⟩, rfl⟩
    ·
      refine s_iconst (v := 1) E dX9_isPart_9 (by decide) ?_
      refine s_goto (tgt := 14) E dX9_isPart_10 (by decide) ?_
      exact r_bool E dX9_isPart_14 (Or.inr rfl) ⟨⟨by decide, by decide, by first | (left; decide) | (right; have hb_ := z32 x1; omega)⟩, rfl⟩
set_option maxRecDepth 20000 in
set_option maxHeartbeats 2000000 in
theorem Z_X9_lowestTerms (l : Launch) (D : va_G) (aC : Nat → ClassId) (b : Nat) (w : XW) (x1 : Int64) (x2 : Int64) (x3 : Int32) (hI : Iv w)  : CnL l D aC b M_X9_lowestTerms 0 0 0 0 [AL x1, AL x2, AI x3] w (fun r u => ((-9223372036854775808) ≤ r.toInt ∧ r.toInt ≤ 9223372036854775807) ∧ Jv w u) := by
  refine cn_L (own := RX9) (nm := "lowestTerms") (L0 := [some (AL x1), none, some (AL x2), none, some (AI x3), none, none, none, none, none, none, none]) (by decide +kernel) rfl rfl (Nat.le_of_ble_eq_true rfl) rfl ?_
  intro p e s m args below meth c E hin
  have hJ : Jv w w := jv_rfl hI
  refine s_lload_n E dX9_lowestTerms_0 rfl rfl ?_
  refine s_lstore (L2 := [some (AL x1), none, some (AL x2), none, some (AI x3), some (AL x1), none, none, none, none, none, none]) E dX9_lowestTerms_1 (by decide) rfl ?_
  refine s_lload_n E dX9_lowestTerms_3 rfl rfl ?_
  refine s_lstore (L2 := [some (AL x1), none, some (AL x2), none, some (AI x3), some (AL x1), none, some (AL x2), none, none, none, none]) E dX9_lowestTerms_4 (by decide) rfl ?_
  refine s_iconst (v := 0) E dX9_lowestTerms_6 (by decide) ?_
  refine s_istore (L2 := [some (AL x1), none, some (AL x2), none, some (AI x3), some (AL x1), none, some (AL x2), none, some (AI 0), none, none]) E dX9_lowestTerms_7 (by decide) rfl ?_
  refine z_loop (St := Int64 × Int64 × Int32) (Pi := fun ⟨q9_5_0, q9_7_0, q9_9_0⟩ v9 => (0 ≤ q9_9_0.toInt ∧ q9_9_0.toInt ≤ 200) ∧ Jv w v9) (Lf := fun ⟨q9_5_0, q9_7_0, q9_9_0⟩ => [some (AL x1), none, some (AL x2), none, some (AI x3), some (AL q9_5_0), none, some (AL q9_7_0), none, some (AI q9_9_0), none, none]) (fun ⟨q9_5_0, q9_7_0, q9_9_0⟩ _ => (201 - q9_9_0.toInt).toNat) ⟨x1, x2, 0⟩ ⟨⟨by decide, by decide⟩, hJ⟩ ?_
  rintro ⟨q9_5_0, q9_7_0, q9_9_0⟩ v9 ⟨hq9_9, hj_1⟩ ih9
  refine s_loc (L2 := [some (AL x1), none, some (AL x2), none, some (AI x3), some (AL q9_5_0), none, some (AL q9_7_0), none, some (AI q9_9_0), none, none]) rfl ?_
  refine s_iload E dX9_lowestTerms_9 rfl ?_
  refine s_sipush (v := 200) E dX9_lowestTerms_11 (by decide) ?_
  refine z_icmp_ge (tgt := 45) (u := q9_9_0.toInt) (v := 200) E dX9_lowestTerms_14 (by decide) rfl (by decide) (fun h_2 => ?_) (fun h_2 => ?_)
  ·
    refine s_iload E dX9_lowestTerms_45 rfl ?_
    refine z_if_ne (tgt := 54) (u := x3.toInt) E dX9_lowestTerms_47 (by decide) rfl (fun h_3 => ?_) (fun h_3 => ?_)
    ·
      refine s_lload_n E dX9_lowestTerms_54 rfl rfl ?_
      refine s_lstore (L2 := [some (AL x1), none, some (AL x2), none, some (AI x3), some (AL q9_5_0), none, some (AL q9_7_0), none, some (AL x2), none, none]) E dX9_lowestTerms_55 (by decide) rfl ?_
      refine s_lload E dX9_lowestTerms_57 rfl ?_
      refine s_lconst (v := 0) E dX9_lowestTerms_59 (by decide) ?_
      refine z_lcmp (u := q9_5_0.toInt) (v := 0) E dX9_lowestTerms_60 rfl (by decide) (fun z_4 hz_4 => ?_)
      refine z_if_ne (tgt := 69) (u := z_4.toInt) E dX9_lowestTerms_61 (by decide) rfl (fun h_5 => ?_) (fun h_5 => ?_)
      ·
        refine s_lload E dX9_lowestTerms_69 rfl ?_
        refine s_lload E dX9_lowestTerms_71 rfl ?_
        refine s_ldiv E dX9_lowestTerms_73 (z_neL (u := q9_5_0.toInt) rfl (by omega)) ?_
        refine z_anyL (fun z_6 => ?_)
        exact r_long E dX9_lowestTerms_74 ⟨⟨by have hb_ := z64 z_6; omega, by have hb_ := z64 z_6; omega⟩, hj_1⟩
      ·
        refine s_lload E dX9_lowestTerms_64 rfl ?_
        refine s_goto (tgt := 74) E dX9_lowestTerms_66 (by decide) ?_
        exact r_long E dX9_lowestTerms_74 ⟨⟨by have hb_ := z64 x2; omega, by have hb_ := z64 x2; omega⟩, hj_1⟩
    ·
      refine s_lload_n E dX9_lowestTerms_50 rfl rfl ?_
      refine s_goto (tgt := 55) E dX9_lowestTerms_51 (by decide) ?_
      refine s_lstore (L2 := [some (AL x1), none, some (AL x2), none, some (AI x3), some (AL q9_5_0), none, some (AL q9_7_0), none, some (AL x1), none, none]) E dX9_lowestTerms_55 (by decide) rfl ?_
      refine s_lload E dX9_lowestTerms_57 rfl ?_
      refine s_lconst (v := 0) E dX9_lowestTerms_59 (by decide) ?_
      refine z_lcmp (u := q9_5_0.toInt) (v := 0) E dX9_lowestTerms_60 rfl (by decide) (fun z_7 hz_7 => ?_)
      refine z_if_ne (tgt := 69) (u := z_7.toInt) E dX9_lowestTerms_61 (by decide) rfl (fun h_8 => ?_) (fun h_8 => ?_)
      ·
        refine s_lload E dX9_lowestTerms_69 rfl ?_
        refine s_lload E dX9_lowestTerms_71 rfl ?_
        refine s_ldiv E dX9_lowestTerms_73 (z_neL (u := q9_5_0.toInt) rfl (by omega)) ?_
        refine z_anyL (fun z_9 => ?_)
        exact r_long E dX9_lowestTerms_74 ⟨⟨by have hb_ := z64 z_9; omega, by have hb_ := z64 z_9; omega⟩, hj_1⟩
      ·
        refine s_lload E dX9_lowestTerms_64 rfl ?_
        refine s_goto (tgt := 74) E dX9_lowestTerms_66 (by decide) ?_
        exact r_long E dX9_lowestTerms_74 ⟨⟨by have hb_ := z64 x1; omega, by have hb_ := z64 x1; omega⟩, hj_1⟩
  ·
    refine s_lload E dX9_lowestTerms_17 rfl ?_
    refine s_lconst (v := 0) E dX9_lowestTerms_19 (by decide) ?_
    refine z_lcmp (u := q9_7_0.toInt) (v := 0) E dX9_lowestTerms_20 rfl (by decide) (fun z_10 hz_10 => ?_)
    refine z_if_eq (tgt := 45) (u := z_10.toInt) E dX9_lowestTerms_21 (by decide) rfl (fun h_11 => ?_) (fun h_11 => ?_)
    ·
      refine s_iload E dX9_lowestTerms_45 rfl ?_
      refine z_if_ne (tgt := 54) (u := x3.toInt) E dX9_lowestTerms_47 (by decide) rfl (fun h_12 => ?_) (fun h_12 => ?_)
      ·
        refine s_lload_n E dX9_lowestTerms_54 rfl rfl ?_
        refine s_lstore (L2 := [some (AL x1), none, some (AL x2), none, some (AI x3), some (AL q9_5_0), none, some (AL q9_7_0), none, some (AL x2), none, none]) E dX9_lowestTerms_55 (by decide) rfl ?_
        refine s_lload E dX9_lowestTerms_57 rfl ?_
        refine s_lconst (v := 0) E dX9_lowestTerms_59 (by decide) ?_
        refine z_lcmp (u := q9_5_0.toInt) (v := 0) E dX9_lowestTerms_60 rfl (by decide) (fun z_13 hz_13 => ?_)
        refine z_if_ne (tgt := 69) (u := z_13.toInt) E dX9_lowestTerms_61 (by decide) rfl (fun h_14 => ?_) (fun h_14 => ?_)
        ·
          refine s_lload E dX9_lowestTerms_69 rfl ?_
          refine s_lload E dX9_lowestTerms_71 rfl ?_
          refine s_ldiv E dX9_lowestTerms_73 (z_neL (u := q9_5_0.toInt) rfl (by omega)) ?_
          refine z_anyL (fun z_15 => ?_)
          exact r_long E dX9_lowestTerms_74 ⟨⟨by have hb_ := z64 z_15; omega, by have hb_ := z64 z_15; omega⟩, hj_1⟩
        ·
          refine s_lload E dX9_lowestTerms_64 rfl ?_
          refine s_goto (tgt := 74) E dX9_lowestTerms_66 (by decide) ?_
          exact r_long E dX9_lowestTerms_74 ⟨⟨by have hb_ := z64 x2; omega, by have hb_ := z64 x2; omega⟩, hj_1⟩
      ·
        refine s_lload_n E dX9_lowestTerms_50 rfl rfl ?_
        refine s_goto (tgt := 55) E dX9_lowestTerms_51 (by decide) ?_
        refine s_lstore (L2 := [some (AL x1), none, some (AL x2), none, some (AI x3), some (AL q9_5_0), none, some (AL q9_7_0), none, some (AL x1), none, none]) E dX9_lowestTerms_55 (by decide) rfl ?_
        refine s_lload E dX9_lowestTerms_57 rfl ?_
        refine s_lconst (v := 0) E dX9_lowestTerms_59 (by decide) ?_
        refine z_lcmp (u := q9_5_0.toInt) (v := 0) E dX9_lowestTerms_60 rfl (by decide) (fun z_16 hz_16 => ?_)
        refine z_if_ne (tgt := 69) (u := z_16.toInt) E dX9_lowestTerms_61 (by decide) rfl (fun h_17 => ?_) (fun h_17 => ?_)
        ·
          refine s_lload E dX9_lowestTerms_69 rfl ?_
          refine s_lload E dX9_lowestTerms_71 rfl ?_
          refine s_ldiv E dX9_lowestTerms_73 (z_neL (u := q9_5_0.toInt) rfl (by omega)) ?_
          refine z_anyL (fun z_18 => ?_)
          exact r_long E dX9_lowestTerms_74 ⟨⟨by have hb_ := z64 z_18; omega, by have hb_ := z64 z_18; omega⟩, hj_1⟩
        ·
          refine s_lload E dX9_lowestTerms_64 rfl ?_
          refine s_goto (tgt := 74) E dX9_lowestTerms_66 (by decide) ?_
          exact r_long E dX9_lowestTerms_74 ⟨⟨by have hb_ := z64 x1; omega, by have hb_ := z64 x1; omega⟩, hj_1⟩
    ·
      refine s_lload E dX9_lowestTerms_24 rfl ?_
      refine s_lload E dX9_lowestTerms_26 rfl ?_
      refine s_lrem E dX9_lowestTerms_28 (z_neL (u := q9_7_0.toInt) rfl (by omega)) ?_
      refine z_anyL (fun z_19 => ?_)
      refine s_lstore (L2 := [some (AL x1), none, some (AL x2), none, some (AI x3), some (AL q9_5_0), none, some (AL q9_7_0), none, some (AI q9_9_0), some (AL z_19), none]) E dX9_lowestTerms_29 (by decide) rfl ?_
      refine s_lload E dX9_lowestTerms_31 rfl ?_
      refine s_lstore (L2 := [some (AL x1), none, some (AL x2), none, some (AI x3), some (AL q9_7_0), none, some (AL q9_7_0), none, some (AI q9_9_0), some (AL z_19), none]) E dX9_lowestTerms_33 (by decide) rfl ?_
      refine s_lload E dX9_lowestTerms_35 rfl ?_
      refine s_lstore (L2 := [some (AL x1), none, some (AL x2), none, some (AI x3), some (AL q9_7_0), none, some (AL z_19), none, some (AI q9_9_0), some (AL z_19), none]) E dX9_lowestTerms_37 (by decide) rfl ?_
      refine z_iinc (u := q9_9_0.toInt) (L2 := fun z_20 => [some (AL x1), none, some (AL x2), none, some (AI x3), some (AL q9_7_0), none, some (AL z_19), none, some (AI z_20), some (AL z_19), none]) E dX9_lowestTerms_39 rfl rfl (by decide) (fun _ => rfl) (by decide) (by omega) (by omega) (fun z_20 hz_20 => ?_)
      refine s_goto (tgt := 9) E dX9_lowestTerms_42 (by decide) ?_
      refine s_drop (i := 10) (L2 := [some (AL x1), none, some (AL x2), none, some (AI x3), some (AL q9_7_0), none, some (AL z_19), none, some (AI z_20), none, none]) rfl ?_
      exact ih9 ⟨q9_7_0, z_19, z_20⟩ v9 ⟨⟨by have hb_ := z32 z_20; omega, by have hb_ := z32 z_20; omega⟩, hj_1⟩ (by first | omega | (dsimp only; omega))
set_option maxRecDepth 20000 in
set_option maxHeartbeats 2000000 in
theorem Z_X9_part_0 (l : Launch) (D : va_G) (aC : Nat → ClassId) (b : Nat) (w : XW) (x1 : Int32) (x2 : Int32) (hI : Iv w)  : CnI l D aC b M_X9_part 4 89 0 0 [AR 0, AI x1, AI x2] w (fun r u => ((-2147483648) ≤ r.toInt ∧ r.toInt ≤ 2147483647 ∧ (¬ r.toInt = 0 ∨ (0 ≤ x1.toInt ∧ x1.toInt ≤ 5)) ∧ (¬ r.toInt = 0 ∨ (0 ≤ x2.toInt ∧ x2.toInt ≤ 1)) ∧ (¬ r.toInt = 0 ∨ (1 ≤ (w.2.2.1 5 3).toInt ∧ (w.2.2.1 5 3).toInt ≤ 6)) ∧ (¬ r.toInt = 0 ∨ (1 ≤ (w.2.2.1 7 3).toInt ∧ (w.2.2.1 7 3).toInt ≤ 8))) ∧ Jv w u) := by
  refine cn_I (own := RX9) (nm := "part") (L0 := [some (AR 0), some (AI x1), some (AI x2)]) (by decide +kernel) rfl rfl (Nat.le_of_ble_eq_true rfl) rfl ?_
  intro p e s m args below meth c E hin
  have hJ : Jv w w := jv_rfl hI
  refine s_aload_n E dX9_part_0 rfl rfl ?_
  refine s_gR (r := 2) E fg_X9_20 rfl rfl (jv_lt hJ (by decide)) (jv_r hJ (by decide +kernel)) dX9_part_1 ?_
  refine s_iload_n E dX9_part_4 rfl rfl ?_
  refine s_vI (As := [AI x1]) (S := []) E (Z_X0_hasLady_2 l D aC b w x1 hJ.1 ) cv_X9_139 rfl rfl rfl (jv_lt hJ (by decide)) (Nat.le_of_ble_eq_true rfl) (Nat.le_of_ble_eq_true rfl) ⟨(Nat.le_of_ble_eq_true rfl), (Nat.le_of_ble_eq_true rfl)⟩ (Nat.le_of_ble_eq_true rfl) dX9_part_5 (fun z_3 u_1 hp_2 => ?_)
  obtain ⟨hz_3, hp_2⟩ := hp_2
  subst hp_2
  refine z_if_eq (tgt := 18) (u := z_3.toInt) E dX9_part_8 (by decide) rfl (fun h_5 => ?_) (fun h_5 => ?_)
  ·
    refine s_bipush (v := (-2)) E dX9_part_18 (by decide) ?_
    exact r_int E dX9_part_20 ⟨⟨by decide, by decide, by first | (left; decide) | (right; have hb_ := z32 x1; omega), by first | (left; decide) | (right; have hb_ := z32 x2; omega), by first | (left; decide) | (right; have hb_ := z32 (w.2.2.1 5 3); omega), by first | (left; decide) | (right; have hb_ := z32 (w.2.2.1 7 3); omega)⟩, hJ⟩
  ·
    refine s_iload_n E dX9_part_11 rfl rfl ?_
    refine s_sI (As := [AI x2]) (S := []) E (Z_X9_isPart l D aC b w x2 hJ.1 ) cs_X9_320 rfl rfl (Nat.le_of_ble_eq_true rfl) (Nat.le_of_ble_eq_true rfl) ⟨(Nat.le_of_ble_eq_true rfl), (Nat.le_of_ble_eq_true rfl)⟩ (Nat.le_of_ble_eq_true rfl) dX9_part_12 (fun z_8 u_6 hp_7 => ?_)
    obtain ⟨hz_8, hp_7⟩ := hp_7
    subst hp_7
    refine z_if_ne (tgt := 21) (u := z_8.toInt) E dX9_part_15 (by decide) rfl (fun h_10 => ?_) (fun h_10 => ?_)
    ·
      refine s_aload_n E dX9_part_21 rfl rfl ?_
      refine s_gR (r := 2) E fg_X9_20 rfl rfl (jv_lt hJ (by decide)) (jv_r hJ (by decide +kernel)) dX9_part_22 ?_
      refine s_gR (r := 7) E fg_X9_136 rfl rfl (jv_lt hJ (by decide)) (jv_r hJ (by decide +kernel)) dX9_part_25 ?_
      refine s_gI E fg_X9_200 rfl rfl (jv_lt hJ (by decide)) dX9_part_28 ?_
      refine z_nm (P := fun z => z.toInt = (w.2.2.1 7 3).toInt ∧ 0 ≤ z.toInt ∧ z.toInt ≤ 8) ⟨rfl, (rg_7_3 hJ)⟩ (fun z_11 hz_11 => ?_)
      refine z_if_ne (tgt := 36) (u := z_11.toInt) E dX9_part_31 (by decide) rfl (fun h_12 => ?_) (fun h_12 => ?_)
      ·
        refine s_aload_n E dX9_part_36 rfl rfl ?_
        refine s_gR (r := 89) E fg_X9_78 rfl rfl (jv_lt hJ (by decide)) (jv_r hJ (by decide +kernel)) dX9_part_37 ?_
        refine s_aload_n E dX9_part_40 rfl rfl ?_
        refine s_gR (r := 2) E fg_X9_20 rfl rfl (jv_lt hJ (by decide)) (jv_r hJ (by decide +kernel)) dX9_part_41 ?_
        refine s_vV (As := [AR 2]) (S := []) E (Z_X3_tally_89_r2 l D aC b w  hJ.1 ) cv_X9_311 rfl rfl rfl (jv_lt hJ (by decide)) (Nat.le_of_ble_eq_true rfl) (Nat.le_of_ble_eq_true rfl) ⟨(Nat.le_of_ble_eq_true rfl), (Nat.le_of_ble_eq_true rfl)⟩ (Nat.le_of_ble_eq_true rfl) dX9_part_44 (fun u_13 hp_14 => ?_)
        have hj_15 := jv_trans hJ hp_14
        refine s_aload_n E dX9_part_47 rfl rfl ?_
        refine s_gR (r := 89) E fg_X9_78 rfl rfl (jv_lt hj_15 (by decide)) (jv_r hj_15 (by decide +kernel)) dX9_part_48 ?_
        refine s_iconst (v := 1) E dX9_part_51 (by decide) ?_
        refine s_iload_n E dX9_part_52 rfl rfl ?_
        refine z_shl1 5 (u := x1.toInt) (B := 32) E dX9_part_53 rfl (by omega) (by omega) (by decide) (by decide) (fun z_16 hz_16 => ?_)
        refine s_vI (As := [AI z_16]) (S := []) E (Z_X3_seatsOf_89 l D aC b u_13 z_16 hj_15.1 ) cv_X9_323 rfl rfl rfl (jv_lt hj_15 (by decide)) (Nat.le_of_ble_eq_true rfl) (Nat.le_of_ble_eq_true rfl) ⟨(Nat.le_of_ble_eq_true rfl), (Nat.le_of_ble_eq_true rfl)⟩ (Nat.le_of_ble_eq_true rfl) dX9_part_54 (fun z_19 u_17 hp_18 => ?_)
        obtain ⟨hz_19, hp_18⟩ := hp_18
        have hj_20 := jv_trans hj_15 hp_18
        refine z_i2l (u := z_19.toInt) E dX9_part_57 rfl (fun z_21 hz_21 => ?_)
        refine s_aload_n E dX9_part_58 rfl rfl ?_
        refine s_gR (r := 89) E fg_X9_78 rfl rfl (jv_lt hj_20 (by decide)) (jv_r hj_20 (by decide +kernel)) dX9_part_59 ?_
        refine s_gI E fg_X9_326 rfl rfl (jv_lt hj_20 (by decide)) dX9_part_62 ?_
        refine z_nm (P := fun z => z.toInt = (u_17.2.2.1 89 2).toInt) rfl (fun z_22 hz_22 => ?_)
        refine z_i2l (u := z_22.toInt) E dX9_part_65 rfl (fun z_23 hz_23 => ?_)
        refine s_iload_n E dX9_part_66 rfl rfl ?_
        refine s_sL (As := [AL z_21, AL z_23, AI x2]) (S := []) E (Z_X9_lowestTerms l D aC b u_17 z_21 z_23 x2 hj_20.1 ) cs_X9_329 rfl rfl (Nat.le_of_ble_eq_true rfl) (Nat.le_of_ble_eq_true rfl) ⟨(Nat.le_of_ble_eq_true rfl), (Nat.le_of_ble_eq_true rfl)⟩ (Nat.le_of_ble_eq_true rfl) dX9_part_67 (fun z_26 u_24 hp_25 => ?_)
        obtain ⟨hz_26, hp_25⟩ := hp_25
        have hj_27 := jv_trans hj_20 hp_25
        refine s_l2i E dX9_part_70 ?_
        refine z_any (fun z_28 => ?_)
        exact r_int E dX9_part_71 ⟨⟨by have hb_ := z32 z_28; omega, by have hb_ := z32 z_28; omega, by have hb_ := z32 z_28; have hc_ := z32 x1; omega, by have hb_ := z32 z_28; have hc_ := z32 x2; omega, by have hb_ := z32 z_28; have hc_ := z32 (w.2.2.1 5 3); omega, by have hb_ := z32 z_28; have hc_ := z32 (w.2.2.1 7 3); omega⟩, hj_27⟩
      ·
        refine s_iconst (v := (-1)) E dX9_part_34 (by decide) ?_
        exact r_int E dX9_part_35 ⟨⟨by decide, by decide, by first | (left; decide) | (right; have hb_ := z32 x1; omega), by first | (left; decide) | (right; have hb_ := z32 x2; omega), by first | (left; decide) | (right; have hb_ := z32 (w.2.2.1 5 3); omega), by first | (left; decide) | (right; have hb_ := z32 (w.2.2.1 7 3); omega)⟩, hJ⟩
    ·
      refine s_bipush (v := (-2)) E dX9_part_18 (by decide) ?_
      exact r_int E dX9_part_20 ⟨⟨by decide, by decide, by first | (left; decide) | (right; have hb_ := z32 x1; omega), by first | (left; decide) | (right; have hb_ := z32 x2; omega), by first | (left; decide) | (right; have hb_ := z32 (w.2.2.1 5 3); omega), by first | (left; decide) | (right; have hb_ := z32 (w.2.2.1 7 3); omega)⟩, hJ⟩
set_option maxRecDepth 20000 in
set_option maxHeartbeats 2000000 in
theorem Z_X9_cabinet_0 (l : Launch) (D : va_G) (aC : Nat → ClassId) (b : Nat) (w : XW)  (hI : Iv w)  : CnI l D aC b M_X9_cabinet 4 89 0 0 [AR 0] w (fun r u => ((-2) ≤ r.toInt ∧ r.toInt ≤ 64 ∧ (¬ r.toInt = 0 ∨ (1 ≤ (w.2.2.1 2 0).toInt ∧ (w.2.2.1 2 0).toInt ≤ 2147483647))) ∧ Jv w u) := by
  refine cn_I (own := RX9) (nm := "cabinet") (L0 := [some (AR 0), none, none, none]) (by decide +kernel) rfl rfl (Nat.le_of_ble_eq_true rfl) rfl ?_
  intro p e s m args below meth c E hin
  have hJ : Jv w w := jv_rfl hI
  refine s_aload_n E dX9_cabinet_0 rfl rfl ?_
  refine s_gR (r := 2) E fg_X9_20 rfl rfl (jv_lt hJ (by decide)) (jv_r hJ (by decide +kernel)) dX9_cabinet_1 ?_
  refine s_vI (As := []) (S := []) E (Z_X0_isTold_2 l D aC b w  hJ.1 ) cv_X9_184 rfl rfl rfl (jv_lt hJ (by decide)) (Nat.le_of_ble_eq_true rfl) (Nat.le_of_ble_eq_true rfl) ⟨(Nat.le_of_ble_eq_true rfl), (Nat.le_of_ble_eq_true rfl)⟩ (Nat.le_of_ble_eq_true rfl) dX9_cabinet_4 (fun z_3 u_1 hp_2 => ?_)
  obtain ⟨hz_3, hp_2⟩ := hp_2
  subst hp_2
  refine z_if_ne (tgt := 13) (u := z_3.toInt) E dX9_cabinet_7 (by decide) rfl (fun h_5 => ?_) (fun h_5 => ?_)
  ·
    refine s_aload_n E dX9_cabinet_13 rfl rfl ?_
    refine s_gR (r := 89) E fg_X9_78 rfl rfl (jv_lt hJ (by decide)) (jv_r hJ (by decide +kernel)) dX9_cabinet_14 ?_
    refine s_aload_n E dX9_cabinet_17 rfl rfl ?_
    refine s_gR (r := 2) E fg_X9_20 rfl rfl (jv_lt hJ (by decide)) (jv_r hJ (by decide +kernel)) dX9_cabinet_18 ?_
    refine s_vV (As := [AR 2]) (S := []) E (Z_X3_tally_89_r2 l D aC b w  hJ.1 ) cv_X9_311 rfl rfl rfl (jv_lt hJ (by decide)) (Nat.le_of_ble_eq_true rfl) (Nat.le_of_ble_eq_true rfl) ⟨(Nat.le_of_ble_eq_true rfl), (Nat.le_of_ble_eq_true rfl)⟩ (Nat.le_of_ble_eq_true rfl) dX9_cabinet_21 (fun u_6 hp_7 => ?_)
    have hj_8 := jv_trans hJ hp_7
    refine s_iconst (v := (-1)) E dX9_cabinet_24 (by decide) ?_
    refine s_istore_n (L2 := [some (AR 0), some (AI (-1)), none, none]) E dX9_cabinet_25 rfl (by decide) rfl ?_
    refine s_bipush (v := 7) E dX9_cabinet_26 (by decide) ?_
    refine s_istore_n (L2 := [some (AR 0), some (AI (-1)), some (AI 7), none]) E dX9_cabinet_28 rfl (by decide) rfl ?_
    refine s_iconst (v := 0) E dX9_cabinet_29 (by decide) ?_
    refine s_istore_n (L2 := [some (AR 0), some (AI (-1)), some (AI 7), some (AI 0)]) E dX9_cabinet_30 rfl (by decide) rfl ?_
    refine z_loop (St := Int32 × Int32 × Int32) (Pi := fun ⟨q31_1_8, q31_2_8, q31_3_8⟩ v31 => ((-1) ≤ q31_1_8.toInt ∧ q31_1_8.toInt ≤ 64) ∧ (0 ≤ q31_2_8.toInt ∧ q31_2_8.toInt ≤ 63) ∧ (0 ≤ q31_3_8.toInt ∧ q31_3_8.toInt ≤ 64) ∧ Jv w v31) (Lf := fun ⟨q31_1_8, q31_2_8, q31_3_8⟩ => [some (AR 0), some (AI q31_1_8), some (AI q31_2_8), some (AI q31_3_8)]) (fun ⟨q31_1_8, q31_2_8, q31_3_8⟩ _ => (65 - q31_3_8.toInt).toNat) ⟨(-1), 7, 0⟩ ⟨⟨by decide, by decide⟩, ⟨by decide, by decide⟩, ⟨by decide, by decide⟩, hj_8⟩ ?_
    rintro ⟨q31_1_8, q31_2_8, q31_3_8⟩ v31 ⟨hq31_1, hq31_2, hq31_3, hj_9⟩ ih31
    refine s_loc (L2 := [some (AR 0), some (AI q31_1_8), some (AI q31_2_8), some (AI q31_3_8)]) rfl ?_
    refine s_iload_n E dX9_cabinet_31 rfl rfl ?_
    refine s_aload_n E dX9_cabinet_32 rfl rfl ?_
    refine s_gR (r := 2) E fg_X9_20 rfl rfl (jv_lt hj_9 (by decide)) (jv_r hj_9 (by decide +kernel)) dX9_cabinet_33 ?_
    refine s_vI (As := []) (S := [AI q31_3_8]) E (Z_X0_everybody_2 l D aC b v31  hj_9.1 ) cv_X9_240 rfl rfl rfl (jv_lt hj_9 (by decide)) (Nat.le_of_ble_eq_true rfl) (Nat.le_of_ble_eq_true rfl) ⟨(Nat.le_of_ble_eq_true rfl), (Nat.le_of_ble_eq_true rfl)⟩ (Nat.le_of_ble_eq_true rfl) dX9_cabinet_36 (fun z_12 u_10 hp_11 => ?_)
    obtain ⟨hz_12, hp_11⟩ := hp_11
    subst hp_11
    refine z_icmp_gt (tgt := 74) (u := q31_3_8.toInt) (v := z_12.toInt) E dX9_cabinet_39 (by decide) rfl rfl (fun h_14 => ?_) (fun h_14 => ?_)
    ·
      refine s_iload_n E dX9_cabinet_74 rfl rfl ?_
      exact r_int E dX9_cabinet_75 ⟨⟨by have hb_ := z32 q31_1_8; omega, by have hb_ := z32 q31_1_8; omega, by have hb_ := z32 q31_1_8; have hc_ := z32 (w.2.2.1 2 0); omega⟩, hj_9⟩
    ·
      refine s_aload_n E dX9_cabinet_42 rfl rfl ?_
      refine s_gR (r := 89) E fg_X9_78 rfl rfl (jv_lt hj_9 (by decide)) (jv_r hj_9 (by decide +kernel)) dX9_cabinet_43 ?_
      refine s_iload_n E dX9_cabinet_46 rfl rfl ?_
      refine s_vI (As := [AI q31_3_8]) (S := []) E (Z_X3_isMajority_89 l D aC b v31 q31_3_8 hj_9.1 ) cv_X9_314 rfl rfl rfl (jv_lt hj_9 (by decide)) (Nat.le_of_ble_eq_true rfl) (Nat.le_of_ble_eq_true rfl) ⟨(Nat.le_of_ble_eq_true rfl), (Nat.le_of_ble_eq_true rfl)⟩ (Nat.le_of_ble_eq_true rfl) dX9_cabinet_47 (fun z_17 u_15 hp_16 => ?_)
      obtain ⟨hz_17, hp_16⟩ := hp_16
      have hj_18 := jv_trans hj_9 hp_16
      refine z_if_eq (tgt := 68) (u := z_17.toInt) E dX9_cabinet_50 (by decide) rfl (fun h_19 => ?_) (fun h_19 => ?_)
      ·
        refine z_iinc (u := q31_3_8.toInt) (L2 := fun z_20 => [some (AR 0), some (AI q31_1_8), some (AI q31_2_8), some (AI z_20)]) E dX9_cabinet_68 rfl rfl (by decide) (fun _ => rfl) (by decide) (by omega) (by omega) (fun z_20 hz_20 => ?_)
        refine s_goto (tgt := 31) E dX9_cabinet_71 (by decide) ?_
        exact ih31 ⟨q31_1_8, q31_2_8, z_20⟩ u_15 ⟨⟨by have hb_ := z32 q31_1_8; omega, by have hb_ := z32 q31_1_8; omega⟩, ⟨by have hb_ := z32 q31_2_8; omega, by have hb_ := z32 q31_2_8; omega⟩, ⟨by have hb_ := z32 z_20; omega, by have hb_ := z32 z_20; omega⟩, hj_18⟩ (by first | omega | (dsimp only; omega))
      ·
        refine s_iload_n E dX9_cabinet_53 rfl rfl ?_
        refine s_sI (As := [AI q31_3_8]) (S := []) E (Z_J6_bitCount_0f7a4 l D aC b u_15 q31_3_8 hj_18.1 ) cs_X9_203 rfl rfl (Nat.le_of_ble_eq_true rfl) (Nat.le_of_ble_eq_true rfl) ⟨(Nat.le_of_ble_eq_true rfl), (Nat.le_of_ble_eq_true rfl)⟩ (Nat.le_of_ble_eq_true rfl) dX9_cabinet_54 (fun z_23 u_21 hp_22 => ?_)
        obtain ⟨hz_23, hp_22⟩ := hp_22
        subst hp_22
        refine s_iload_n E dX9_cabinet_57 rfl rfl ?_
        refine z_icmp_ge (tgt := 68) (u := z_23.toInt) (v := q31_2_8.toInt) E dX9_cabinet_58 (by decide) rfl rfl (fun h_25 => ?_) (fun h_25 => ?_)
        ·
          refine z_iinc (u := q31_3_8.toInt) (L2 := fun z_26 => [some (AR 0), some (AI q31_1_8), some (AI q31_2_8), some (AI z_26)]) E dX9_cabinet_68 rfl rfl (by decide) (fun _ => rfl) (by decide) (by omega) (by omega) (fun z_26 hz_26 => ?_)
          refine s_goto (tgt := 31) E dX9_cabinet_71 (by decide) ?_
          exact ih31 ⟨q31_1_8, q31_2_8, z_26⟩ u_15 ⟨⟨by have hb_ := z32 q31_1_8; omega, by have hb_ := z32 q31_1_8; omega⟩, ⟨by have hb_ := z32 q31_2_8; omega, by have hb_ := z32 q31_2_8; omega⟩, ⟨by have hb_ := z32 z_26; omega, by have hb_ := z32 z_26; omega⟩, hj_18⟩ (by first | omega | (dsimp only; omega))
        ·
          refine s_iload_n E dX9_cabinet_61 rfl rfl ?_
          refine s_sI (As := [AI q31_3_8]) (S := []) E (Z_J6_bitCount_0f7a4 l D aC b u_15 q31_3_8 hj_18.1 ) cs_X9_203 rfl rfl (Nat.le_of_ble_eq_true rfl) (Nat.le_of_ble_eq_true rfl) ⟨(Nat.le_of_ble_eq_true rfl), (Nat.le_of_ble_eq_true rfl)⟩ (Nat.le_of_ble_eq_true rfl) dX9_cabinet_62 (fun z_29 u_27 hp_28 => ?_)
          obtain ⟨hz_29, hp_28⟩ := hp_28
          subst hp_28
          refine s_istore_n (L2 := [some (AR 0), some (AI q31_1_8), some (AI z_29), some (AI q31_3_8)]) E dX9_cabinet_65 rfl (by decide) rfl ?_
          refine s_iload_n E dX9_cabinet_66 rfl rfl ?_
          refine s_istore_n (L2 := [some (AR 0), some (AI q31_3_8), some (AI z_29), some (AI q31_3_8)]) E dX9_cabinet_67 rfl (by decide) rfl ?_
          refine z_iinc (u := q31_3_8.toInt) (L2 := fun z_31 => [some (AR 0), some (AI q31_3_8), some (AI z_29), some (AI z_31)]) E dX9_cabinet_68 rfl rfl (by decide) (fun _ => rfl) (by decide) (by omega) (by omega) (fun z_31 hz_31 => ?_)
          refine s_goto (tgt := 31) E dX9_cabinet_71 (by decide) ?_
          exact ih31 ⟨q31_3_8, z_29, z_31⟩ u_15 ⟨⟨by have hb_ := z32 q31_3_8; omega, by have hb_ := z32 q31_3_8; omega⟩, ⟨by have hb_ := z32 z_29; omega, by have hb_ := z32 z_29; omega⟩, ⟨by have hb_ := z32 z_31; omega, by have hb_ := z32 z_31; omega⟩, hj_18⟩ (by first | omega | (dsimp only; omega))
  ·
    refine s_bipush (v := (-2)) E dX9_cabinet_10 (by decide) ?_
    exact r_int E dX9_cabinet_12 ⟨⟨by decide, by decide, by first | (left; decide) | (right; have hb_ := z32 (w.2.2.1 2 0); omega)⟩, hJ⟩
set_option maxRecDepth 20000 in
set_option maxHeartbeats 2000000 in
theorem Z_X3_isLeastMajority_89 (l : Launch) (D : va_G) (aC : Nat → ClassId) (b : Nat) (w : XW) (x1 : Int32) (hI : Iv w)  : CnI l D aC b M_X3_isLeastMajority 3 65 0 0 [AR 89, AI x1] w (fun r u => (0 ≤ r.toInt ∧ r.toInt ≤ 1) ∧ Jv w u) := by
  refine cn_I (own := RX3) (nm := "isLeastMajority") (L0 := [some (AR 89), some (AI x1), none]) (by decide +kernel) rfl rfl (Nat.le_of_ble_eq_true rfl) rfl ?_
  intro p e s m args below meth c E hin
  have hJ : Jv w w := jv_rfl hI
  refine s_aload_n E dX3_isLeastMajority_0 rfl rfl ?_
  refine s_iload_n E dX3_isLeastMajority_1 rfl rfl ?_
  refine s_vI (As := [AI x1]) (S := []) E (Z_X3_isMajority_89 l D aC b w x1 hJ.1 ) cv_X3_46 rfl rfl rfl (jv_lt hJ (by decide)) (Nat.le_of_ble_eq_true rfl) (Nat.le_of_ble_eq_true rfl) ⟨(Nat.le_of_ble_eq_true rfl), (Nat.le_of_ble_eq_true rfl)⟩ (Nat.le_of_ble_eq_true rfl) dX3_isLeastMajority_2 (fun z_3 u_1 hp_2 => ?_)
  obtain ⟨hz_3, hp_2⟩ := hp_2
  have hj_4 := jv_trans hJ hp_2
  refine z_if_ne (tgt := 10) (u := z_3.toInt) E dX3_isLeastMajority_5 (by decide) rfl (fun h_5 => ?_) (fun h_5 => ?_)
  ·
    refine s_iconst (v := 0) E dX3_isLeastMajority_10 (by decide) ?_
    refine s_istore_n (L2 := [some (AR 89), some (AI x1), some (AI 0)]) E dX3_isLeastMajority_11 rfl (by decide) rfl ?_
    refine z_loop (St := Int32) (Pi := fun q12_2_5 v12 => (0 ≤ q12_2_5.toInt ∧ q12_2_5.toInt ≤ 6) ∧ Jv w v12) (Lf := fun q12_2_5 => [some (AR 89), some (AI x1), some (AI q12_2_5)]) (fun q12_2_5 _ => (7 - q12_2_5.toInt).toNat) 0 ⟨⟨by decide, by decide⟩, hj_4⟩ ?_
    rintro q12_2_5 v12 ⟨hq12_2, hj_6⟩ ih12
    refine s_loc (L2 := [some (AR 89), some (AI x1), some (AI q12_2_5)]) rfl ?_
    refine s_iload_n E dX3_isLeastMajority_12 rfl rfl ?_
    refine s_aload_n E dX3_isLeastMajority_13 rfl rfl ?_
    refine s_gI E fg_X3_27 rfl rfl (jv_lt hj_6 (by decide)) dX3_isLeastMajority_14 ?_
    refine z_nm (P := fun z => z.toInt = (v12.2.2.1 89 1).toInt ∧ 0 ≤ z.toInt ∧ z.toInt ≤ 6) ⟨rfl, (rg_89_1 hj_6)⟩ (fun z_7 hz_7 => ?_)
    refine z_icmp_ge (tgt := 50) (u := q12_2_5.toInt) (v := z_7.toInt) E dX3_isLeastMajority_17 (by decide) rfl rfl (fun h_8 => ?_) (fun h_8 => ?_)
    ·
      refine s_iconst (v := 1) E dX3_isLeastMajority_50 (by decide) ?_
      exact r_bool E dX3_isLeastMajority_51 (Or.inr rfl) ⟨(by decide), hj_6⟩
    ·
      refine s_iload_n E dX3_isLeastMajority_20 rfl rfl ?_
      refine s_iload_n E dX3_isLeastMajority_21 rfl rfl ?_
      refine s_sI (As := [AI x1, AI q12_2_5]) (S := []) E (Z_X9_hasBit l D aC b v12 x1 q12_2_5 hj_6.1 ) cs_X3_35 rfl rfl (Nat.le_of_ble_eq_true rfl) (Nat.le_of_ble_eq_true rfl) ⟨(Nat.le_of_ble_eq_true rfl), (Nat.le_of_ble_eq_true rfl)⟩ (Nat.le_of_ble_eq_true rfl) dX3_isLeastMajority_22 (fun z_11 u_9 hp_10 => ?_)
      obtain ⟨hz_11, hp_10⟩ := hp_10
      subst hp_10
      refine z_if_eq (tgt := 44) (u := z_11.toInt) E dX3_isLeastMajority_25 (by decide) rfl (fun h_13 => ?_) (fun h_13 => ?_)
      ·
        refine z_iinc (u := q12_2_5.toInt) (L2 := fun z_14 => [some (AR 89), some (AI x1), some (AI z_14)]) E dX3_isLeastMajority_44 rfl rfl (by decide) (fun _ => rfl) (by decide) (by omega) (by omega) (fun z_14 hz_14 => ?_)
        refine s_goto (tgt := 12) E dX3_isLeastMajority_47 (by decide) ?_
        exact ih12 z_14 v12 ⟨⟨by have hb_ := z32 z_14; omega, by have hb_ := z32 z_14; omega⟩, hj_6⟩ (by first | omega | (dsimp only; omega))
      ·
        refine s_aload_n E dX3_isLeastMajority_28 rfl rfl ?_
        refine s_iload_n E dX3_isLeastMajority_29 rfl rfl ?_
        refine s_iconst (v := 1) E dX3_isLeastMajority_30 (by decide) ?_
        refine s_iload_n E dX3_isLeastMajority_31 rfl rfl ?_
        refine z_shl1 5 (u := q12_2_5.toInt) (B := 32) E dX3_isLeastMajority_32 rfl (by omega) (by omega) (by decide) (by decide) (fun z_15 hz_15 => ?_)
        refine s_iconst (v := (-1)) E dX3_isLeastMajority_33 (by decide) ?_
        refine s_ixor E dX3_isLeastMajority_34 ?_
        refine z_any (fun z_16 => ?_)
        refine s_iand E dX3_isLeastMajority_35 ?_
        refine z_any (fun z_17 => ?_)
        refine s_vI (As := [AI z_17]) (S := []) E (Z_X3_isMajority_89 l D aC b v12 z_17 hj_6.1 ) cv_X3_46 rfl rfl rfl (jv_lt hj_6 (by decide)) (Nat.le_of_ble_eq_true rfl) (Nat.le_of_ble_eq_true rfl) ⟨(Nat.le_of_ble_eq_true rfl), (Nat.le_of_ble_eq_true rfl)⟩ (Nat.le_of_ble_eq_true rfl) dX3_isLeastMajority_36 (fun z_20 u_18 hp_19 => ?_)
        obtain ⟨hz_20, hp_19⟩ := hp_19
        have hj_21 := jv_trans hj_6 hp_19
        refine z_if_eq (tgt := 44) (u := z_20.toInt) E dX3_isLeastMajority_39 (by decide) rfl (fun h_22 => ?_) (fun h_22 => ?_)
        ·
          refine z_iinc (u := q12_2_5.toInt) (L2 := fun z_23 => [some (AR 89), some (AI x1), some (AI z_23)]) E dX3_isLeastMajority_44 rfl rfl (by decide) (fun _ => rfl) (by decide) (by omega) (by omega) (fun z_23 hz_23 => ?_)
          refine s_goto (tgt := 12) E dX3_isLeastMajority_47 (by decide) ?_
          exact ih12 z_23 u_18 ⟨⟨by have hb_ := z32 z_23; omega, by have hb_ := z32 z_23; omega⟩, hj_21⟩ (by first | omega | (dsimp only; omega))
        ·
          refine s_iconst (v := 0) E dX3_isLeastMajority_42 (by decide) ?_
          exact r_bool E dX3_isLeastMajority_43 (Or.inl rfl) ⟨(by decide), hj_21⟩
  ·
    refine s_iconst (v := 0) E dX3_isLeastMajority_8 (by decide) ?_
    exact r_bool E dX3_isLeastMajority_9 (Or.inl rfl) ⟨(by decide), hj_4⟩
set_option maxRecDepth 20000 in
set_option maxHeartbeats 2000000 in
theorem Z_X9_cabinets_0 (l : Launch) (D : va_G) (aC : Nat → ClassId) (b : Nat) (w : XW)  (hI : Iv w)  : CnI l D aC b M_X9_cabinets 4 89 0 0 [AR 0] w (fun r u => ((-2147483648) ≤ r.toInt ∧ r.toInt ≤ 2147483647 ∧ (¬ r.toInt = 0 ∨ (1 ≤ (w.2.2.1 2 0).toInt ∧ (w.2.2.1 2 0).toInt ≤ 2147483647))) ∧ Jv w u) := by
  refine cn_I (own := RX9) (nm := "cabinets") (L0 := [some (AR 0), none, none]) (by decide +kernel) rfl rfl (Nat.le_of_ble_eq_true rfl) rfl ?_
  intro p e s m args below meth c E hin
  have hJ : Jv w w := jv_rfl hI
  refine s_aload_n E dX9_cabinets_0 rfl rfl ?_
  refine s_gR (r := 2) E fg_X9_20 rfl rfl (jv_lt hJ (by decide)) (jv_r hJ (by decide +kernel)) dX9_cabinets_1 ?_
  refine s_vI (As := []) (S := []) E (Z_X0_isTold_2 l D aC b w  hJ.1 ) cv_X9_184 rfl rfl rfl (jv_lt hJ (by decide)) (Nat.le_of_ble_eq_true rfl) (Nat.le_of_ble_eq_true rfl) ⟨(Nat.le_of_ble_eq_true rfl), (Nat.le_of_ble_eq_true rfl)⟩ (Nat.le_of_ble_eq_true rfl) dX9_cabinets_4 (fun z_3 u_1 hp_2 => ?_)
  obtain ⟨hz_3, hp_2⟩ := hp_2
  subst hp_2
  refine z_if_ne (tgt := 13) (u := z_3.toInt) E dX9_cabinets_7 (by decide) rfl (fun h_5 => ?_) (fun h_5 => ?_)
  ·
    refine s_aload_n E dX9_cabinets_13 rfl rfl ?_
    refine s_gR (r := 89) E fg_X9_78 rfl rfl (jv_lt hJ (by decide)) (jv_r hJ (by decide +kernel)) dX9_cabinets_14 ?_
    refine s_aload_n E dX9_cabinets_17 rfl rfl ?_
    refine s_gR (r := 2) E fg_X9_20 rfl rfl (jv_lt hJ (by decide)) (jv_r hJ (by decide +kernel)) dX9_cabinets_18 ?_
    refine s_vV (As := [AR 2]) (S := []) E (Z_X3_tally_89_r2 l D aC b w  hJ.1 ) cv_X9_311 rfl rfl rfl (jv_lt hJ (by decide)) (Nat.le_of_ble_eq_true rfl) (Nat.le_of_ble_eq_true rfl) ⟨(Nat.le_of_ble_eq_true rfl), (Nat.le_of_ble_eq_true rfl)⟩ (Nat.le_of_ble_eq_true rfl) dX9_cabinets_21 (fun u_6 hp_7 => ?_)
    have hj_8 := jv_trans hJ hp_7
    refine s_iconst (v := 0) E dX9_cabinets_24 (by decide) ?_
    refine s_istore_n (L2 := [some (AR 0), some (AI 0), none]) E dX9_cabinets_25 rfl (by decide) rfl ?_
    refine s_iconst (v := 0) E dX9_cabinets_26 (by decide) ?_
    refine s_istore_n (L2 := [some (AR 0), some (AI 0), some (AI 0)]) E dX9_cabinets_27 rfl (by decide) rfl ?_
    refine z_loop (St := Int32 × Int32) (Pi := fun ⟨q28_1_8, q28_2_8⟩ v28 => (0 ≤ q28_2_8.toInt ∧ q28_2_8.toInt ≤ 64) ∧ Jv w v28) (Lf := fun ⟨q28_1_8, q28_2_8⟩ => [some (AR 0), some (AI q28_1_8), some (AI q28_2_8)]) (fun ⟨q28_1_8, q28_2_8⟩ _ => (65 - q28_2_8.toInt).toNat) ⟨0, 0⟩ ⟨⟨by decide, by decide⟩, hj_8⟩ ?_
    rintro ⟨q28_1_8, q28_2_8⟩ v28 ⟨hq28_2, hj_9⟩ ih28
    refine s_loc (L2 := [some (AR 0), some (AI q28_1_8), some (AI q28_2_8)]) rfl ?_
    refine s_iload_n E dX9_cabinets_28 rfl rfl ?_
    refine s_aload_n E dX9_cabinets_29 rfl rfl ?_
    refine s_gR (r := 2) E fg_X9_20 rfl rfl (jv_lt hj_9 (by decide)) (jv_r hj_9 (by decide +kernel)) dX9_cabinets_30 ?_
    refine s_vI (As := []) (S := [AI q28_2_8]) E (Z_X0_everybody_2 l D aC b v28  hj_9.1 ) cv_X9_240 rfl rfl rfl (jv_lt hj_9 (by decide)) (Nat.le_of_ble_eq_true rfl) (Nat.le_of_ble_eq_true rfl) ⟨(Nat.le_of_ble_eq_true rfl), (Nat.le_of_ble_eq_true rfl)⟩ (Nat.le_of_ble_eq_true rfl) dX9_cabinets_33 (fun z_12 u_10 hp_11 => ?_)
    obtain ⟨hz_12, hp_11⟩ := hp_11
    subst hp_11
    refine z_icmp_gt (tgt := 59) (u := q28_2_8.toInt) (v := z_12.toInt) E dX9_cabinets_36 (by decide) rfl rfl (fun h_14 => ?_) (fun h_14 => ?_)
    ·
      refine s_iload_n E dX9_cabinets_59 rfl rfl ?_
      exact r_int E dX9_cabinets_60 ⟨⟨by have hb_ := z32 q28_1_8; omega, by have hb_ := z32 q28_1_8; omega, by have hb_ := z32 q28_1_8; have hc_ := z32 (w.2.2.1 2 0); omega⟩, hj_9⟩
    ·
      refine s_aload_n E dX9_cabinets_39 rfl rfl ?_
      refine s_gR (r := 89) E fg_X9_78 rfl rfl (jv_lt hj_9 (by decide)) (jv_r hj_9 (by decide +kernel)) dX9_cabinets_40 ?_
      refine s_iload_n E dX9_cabinets_43 rfl rfl ?_
      refine s_vI (As := [AI q28_2_8]) (S := []) E (Z_X3_isLeastMajority_89 l D aC b v28 q28_2_8 hj_9.1 ) cv_X9_333 rfl rfl rfl (jv_lt hj_9 (by decide)) (Nat.le_of_ble_eq_true rfl) (Nat.le_of_ble_eq_true rfl) ⟨(Nat.le_of_ble_eq_true rfl), (Nat.le_of_ble_eq_true rfl)⟩ (Nat.le_of_ble_eq_true rfl) dX9_cabinets_44 (fun z_17 u_15 hp_16 => ?_)
      obtain ⟨hz_17, hp_16⟩ := hp_16
      have hj_18 := jv_trans hj_9 hp_16
      refine z_if_eq (tgt := 53) (u := z_17.toInt) E dX9_cabinets_47 (by decide) rfl (fun h_19 => ?_) (fun h_19 => ?_)
      ·
        refine z_iinc (u := q28_2_8.toInt) (L2 := fun z_20 => [some (AR 0), some (AI q28_1_8), some (AI z_20)]) E dX9_cabinets_53 rfl rfl (by decide) (fun _ => rfl) (by decide) (by omega) (by omega) (fun z_20 hz_20 => ?_)
        refine s_goto (tgt := 28) E dX9_cabinets_56 (by decide) ?_
        exact ih28 ⟨q28_1_8, z_20⟩ u_15 ⟨⟨by have hb_ := z32 z_20; omega, by have hb_ := z32 z_20; omega⟩, hj_18⟩ (by first | omega | (dsimp only; omega))
      ·
        refine z_iincW (L2 := fun z_21 => [some (AR 0), some (AI z_21), some (AI q28_2_8)]) E dX9_cabinets_50 rfl (by decide) (fun _ => rfl) (fun z_21 => ?_)
        refine z_iinc (u := q28_2_8.toInt) (L2 := fun z_22 => [some (AR 0), some (AI z_21), some (AI z_22)]) E dX9_cabinets_53 rfl rfl (by decide) (fun _ => rfl) (by decide) (by omega) (by omega) (fun z_22 hz_22 => ?_)
        refine s_goto (tgt := 28) E dX9_cabinets_56 (by decide) ?_
        exact ih28 ⟨z_21, z_22⟩ u_15 ⟨⟨by have hb_ := z32 z_22; omega, by have hb_ := z32 z_22; omega⟩, hj_18⟩ (by first | omega | (dsimp only; omega))
  ·
    refine s_bipush (v := (-2)) E dX9_cabinets_10 (by decide) ?_
    exact r_int E dX9_cabinets_12 ⟨⟨by decide, by decide, by first | (left; decide) | (right; have hb_ := z32 (w.2.2.1 2 0); omega)⟩, hJ⟩
set_option maxRecDepth 20000 in
set_option maxHeartbeats 2000000 in
theorem Z_X9_makesOneHold_0 (l : Launch) (D : va_G) (aC : Nat → ClassId) (b : Nat) (w : XW) (x1 : Int32) (hI : Iv w)  : CnI l D aC b M_X9_makesOneHold 2 44 0 0 [AR 0, AI x1] w (fun r u => (0 ≤ r.toInt ∧ r.toInt ≤ 1) ∧ Jv w u) := by
  refine cn_I (own := RX9) (nm := "makesOneHold") (L0 := [some (AR 0), some (AI x1), none, none]) (by decide +kernel) rfl rfl (Nat.le_of_ble_eq_true rfl) rfl ?_
  intro p e s m args below meth c E hin
  have hJ : Jv w w := jv_rfl hI
  refine s_aload_n E dX9_makesOneHold_0 rfl rfl ?_
  refine s_gR (r := 2) E fg_X9_20 rfl rfl (jv_lt hJ (by decide)) (jv_r hJ (by decide +kernel)) dX9_makesOneHold_1 ?_
  refine s_gR (r := 7) E fg_X9_136 rfl rfl (jv_lt hJ (by decide)) (jv_r hJ (by decide +kernel)) dX9_makesOneHold_4 ?_
  refine s_iload_n E dX9_makesOneHold_7 rfl rfl ?_
  refine s_iconst (v := 1) E dX9_makesOneHold_8 (by decide) ?_
  refine s_vI (As := [AI x1, AI 1]) (S := []) E (Z_X8_cell_7 l D aC b w x1 1 hJ.1 ) cv_X9_129 rfl rfl rfl (jv_lt hJ (by decide)) (Nat.le_of_ble_eq_true rfl) (Nat.le_of_ble_eq_true rfl) ⟨(Nat.le_of_ble_eq_true rfl), (Nat.le_of_ble_eq_true rfl)⟩ (Nat.le_of_ble_eq_true rfl) dX9_makesOneHold_9 (fun z_3 u_1 hp_2 => ?_)
  obtain ⟨hz_3, hp_2⟩ := hp_2
  subst hp_2
  refine s_istore_n (L2 := [some (AR 0), some (AI x1), some (AI z_3), none]) E dX9_makesOneHold_12 rfl (by decide) rfl ?_
  refine s_iconst (v := 0) E dX9_makesOneHold_13 (by decide) ?_
  refine s_istore_n (L2 := [some (AR 0), some (AI x1), some (AI z_3), some (AI 0)]) E dX9_makesOneHold_14 rfl (by decide) rfl ?_
  refine z_loop (St := Int32) (Pi := fun q15_3_4 v15 => (0 ≤ q15_3_4.toInt ∧ q15_3_4.toInt ≤ 6) ∧ Jv w v15) (Lf := fun q15_3_4 => [some (AR 0), some (AI x1), some (AI z_3), some (AI q15_3_4)]) (fun q15_3_4 _ => (7 - q15_3_4.toInt).toNat) 0 ⟨⟨by decide, by decide⟩, hJ⟩ ?_
  rintro q15_3_4 v15 ⟨hq15_3, hj_5⟩ ih15
  refine s_loc (L2 := [some (AR 0), some (AI x1), some (AI z_3), some (AI q15_3_4)]) rfl ?_
  refine s_iload_n E dX9_makesOneHold_15 rfl rfl ?_
  refine s_aload_n E dX9_makesOneHold_16 rfl rfl ?_
  refine s_gR (r := 2) E fg_X9_20 rfl rfl (jv_lt hj_5 (by decide)) (jv_r hj_5 (by decide +kernel)) dX9_makesOneHold_17 ?_
  refine s_gR (r := 5) E fg_X9_133 rfl rfl (jv_lt hj_5 (by decide)) (jv_r hj_5 (by decide +kernel)) dX9_makesOneHold_20 ?_
  refine s_gI E fg_X9_200 rfl rfl (jv_lt hj_5 (by decide)) dX9_makesOneHold_23 ?_
  refine z_nm (P := fun z => z.toInt = (v15.2.2.1 5 3).toInt ∧ 0 ≤ z.toInt ∧ z.toInt ≤ 6) ⟨rfl, (rg_5_3 hj_5)⟩ (fun z_6 hz_6 => ?_)
  refine z_icmp_ge (tgt := 75) (u := q15_3_4.toInt) (v := z_6.toInt) E dX9_makesOneHold_26 (by decide) rfl rfl (fun h_7 => ?_) (fun h_7 => ?_)
  ·
    refine s_iconst (v := 0) E dX9_makesOneHold_75 (by decide) ?_
    exact r_bool E dX9_makesOneHold_76 (Or.inl rfl) ⟨(by decide), hj_5⟩
  ·
    refine s_iload_n E dX9_makesOneHold_29 rfl rfl ?_
    refine s_aload_n E dX9_makesOneHold_30 rfl rfl ?_
    refine s_gR (r := 2) E fg_X9_20 rfl rfl (jv_lt hj_5 (by decide)) (jv_r hj_5 (by decide +kernel)) dX9_makesOneHold_31 ?_
    refine s_gR (r := 7) E fg_X9_136 rfl rfl (jv_lt hj_5 (by decide)) (jv_r hj_5 (by decide +kernel)) dX9_makesOneHold_34 ?_
    refine s_iload_n E dX9_makesOneHold_37 rfl rfl ?_
    refine s_iconst (v := 0) E dX9_makesOneHold_38 (by decide) ?_
    refine s_vI (As := [AI x1, AI 0]) (S := [AI q15_3_4]) E (Z_X8_cell_7 l D aC b v15 x1 0 hj_5.1 ) cv_X9_129 rfl rfl rfl (jv_lt hj_5 (by decide)) (Nat.le_of_ble_eq_true rfl) (Nat.le_of_ble_eq_true rfl) ⟨(Nat.le_of_ble_eq_true rfl), (Nat.le_of_ble_eq_true rfl)⟩ (Nat.le_of_ble_eq_true rfl) dX9_makesOneHold_39 (fun z_10 u_8 hp_9 => ?_)
    obtain ⟨hz_10, hp_9⟩ := hp_9
    subst hp_9
    refine z_icmp_eq (tgt := 69) (u := q15_3_4.toInt) (v := z_10.toInt) E dX9_makesOneHold_42 (by decide) rfl rfl (fun h_12 => ?_) (fun h_12 => ?_)
    ·
      refine z_iinc (u := q15_3_4.toInt) (L2 := fun z_13 => [some (AR 0), some (AI x1), some (AI z_3), some (AI z_13)]) E dX9_makesOneHold_69 rfl rfl (by decide) (fun _ => rfl) (by decide) (by omega) (by omega) (fun z_13 hz_13 => ?_)
      refine s_goto (tgt := 15) E dX9_makesOneHold_72 (by decide) ?_
      exact ih15 z_13 v15 ⟨⟨by have hb_ := z32 z_13; omega, by have hb_ := z32 z_13; omega⟩, hj_5⟩ (by first | omega | (dsimp only; omega))
    ·
      refine s_aload_n E dX9_makesOneHold_45 rfl rfl ?_
      refine s_gR (r := 89) E fg_X9_78 rfl rfl (jv_lt hj_5 (by decide)) (jv_r hj_5 (by decide +kernel)) dX9_makesOneHold_46 ?_
      refine s_aload_n E dX9_makesOneHold_49 rfl rfl ?_
      refine s_gR (r := 89) E fg_X9_78 rfl rfl (jv_lt hj_5 (by decide)) (jv_r hj_5 (by decide +kernel)) dX9_makesOneHold_50 ?_
      refine s_iconst (v := 1) E dX9_makesOneHold_53 (by decide) ?_
      refine s_iload_n E dX9_makesOneHold_54 rfl rfl ?_
      refine z_shl1 5 (u := q15_3_4.toInt) (B := 32) E dX9_makesOneHold_55 rfl (by omega) (by omega) (by decide) (by decide) (fun z_14 hz_14 => ?_)
      refine s_vI (As := [AI z_14]) (S := [AR 89]) E (Z_X3_seatsOf_89 l D aC b v15 z_14 hj_5.1 ) cv_X9_323 rfl rfl rfl (jv_lt hj_5 (by decide)) (Nat.le_of_ble_eq_true rfl) (Nat.le_of_ble_eq_true rfl) ⟨(Nat.le_of_ble_eq_true rfl), (Nat.le_of_ble_eq_true rfl)⟩ (Nat.le_of_ble_eq_true rfl) dX9_makesOneHold_56 (fun z_17 u_15 hp_16 => ?_)
      obtain ⟨hz_17, hp_16⟩ := hp_16
      have hj_18 := jv_trans hj_5 hp_16
      refine s_iload_n E dX9_makesOneHold_59 rfl rfl ?_
      refine s_iadd E dX9_makesOneHold_60 ?_
      refine z_any (fun z_19 => ?_)
      refine s_vI (As := [AI z_19]) (S := []) E (Z_X3_isMoreThanHalf_89 l D aC b u_15 z_19 hj_18.1 ) cv_X9_339 rfl rfl rfl (jv_lt hj_18 (by decide)) (Nat.le_of_ble_eq_true rfl) (Nat.le_of_ble_eq_true rfl) ⟨(Nat.le_of_ble_eq_true rfl), (Nat.le_of_ble_eq_true rfl)⟩ (Nat.le_of_ble_eq_true rfl) dX9_makesOneHold_61 (fun z_22 u_20 hp_21 => ?_)
      obtain ⟨hz_22, hp_21⟩ := hp_21
      subst hp_21
      refine z_if_eq (tgt := 69) (u := z_22.toInt) E dX9_makesOneHold_64 (by decide) rfl (fun h_24 => ?_) (fun h_24 => ?_)
      ·
        refine z_iinc (u := q15_3_4.toInt) (L2 := fun z_25 => [some (AR 0), some (AI x1), some (AI z_3), some (AI z_25)]) E dX9_makesOneHold_69 rfl rfl (by decide) (fun _ => rfl) (by decide) (by omega) (by omega) (fun z_25 hz_25 => ?_)
        refine s_goto (tgt := 15) E dX9_makesOneHold_72 (by decide) ?_
        exact ih15 z_25 u_15 ⟨⟨by have hb_ := z32 z_25; omega, by have hb_ := z32 z_25; omega⟩, hj_18⟩ (by first | omega | (dsimp only; omega))
      ·
        refine s_iconst (v := 1) E dX9_makesOneHold_67 (by decide) ?_
        exact r_bool E dX9_makesOneHold_68 (Or.inr rfl) ⟨(by decide), hj_18⟩
set_option maxRecDepth 20000 in
set_option maxHeartbeats 2000000 in
theorem Z_X9_kingmaker_0 (l : Launch) (D : va_G) (aC : Nat → ClassId) (b : Nat) (w : XW)  (hI : Iv w)  : CnI l D aC b M_X9_kingmaker 4 89 0 0 [AR 0] w (fun r u => ((-2) ≤ r.toInt ∧ r.toInt ≤ 7 ∧ (¬ r.toInt = 0 ∨ (1 ≤ (w.2.2.1 2 0).toInt ∧ (w.2.2.1 2 0).toInt ≤ 2147483647))) ∧ Jv w u) := by
  refine cn_I (own := RX9) (nm := "kingmaker") (L0 := [some (AR 0), none]) (by decide +kernel) rfl rfl (Nat.le_of_ble_eq_true rfl) rfl ?_
  intro p e s m args below meth c E hin
  have hJ : Jv w w := jv_rfl hI
  refine s_aload_n E dX9_kingmaker_0 rfl rfl ?_
  refine s_gR (r := 2) E fg_X9_20 rfl rfl (jv_lt hJ (by decide)) (jv_r hJ (by decide +kernel)) dX9_kingmaker_1 ?_
  refine s_vI (As := []) (S := []) E (Z_X0_isTold_2 l D aC b w  hJ.1 ) cv_X9_184 rfl rfl rfl (jv_lt hJ (by decide)) (Nat.le_of_ble_eq_true rfl) (Nat.le_of_ble_eq_true rfl) ⟨(Nat.le_of_ble_eq_true rfl), (Nat.le_of_ble_eq_true rfl)⟩ (Nat.le_of_ble_eq_true rfl) dX9_kingmaker_4 (fun z_3 u_1 hp_2 => ?_)
  obtain ⟨hz_3, hp_2⟩ := hp_2
  subst hp_2
  refine z_if_ne (tgt := 13) (u := z_3.toInt) E dX9_kingmaker_7 (by decide) rfl (fun h_5 => ?_) (fun h_5 => ?_)
  ·
    refine s_aload_n E dX9_kingmaker_13 rfl rfl ?_
    refine s_gR (r := 89) E fg_X9_78 rfl rfl (jv_lt hJ (by decide)) (jv_r hJ (by decide +kernel)) dX9_kingmaker_14 ?_
    refine s_aload_n E dX9_kingmaker_17 rfl rfl ?_
    refine s_gR (r := 2) E fg_X9_20 rfl rfl (jv_lt hJ (by decide)) (jv_r hJ (by decide +kernel)) dX9_kingmaker_18 ?_
    refine s_vV (As := [AR 2]) (S := []) E (Z_X3_tally_89_r2 l D aC b w  hJ.1 ) cv_X9_311 rfl rfl rfl (jv_lt hJ (by decide)) (Nat.le_of_ble_eq_true rfl) (Nat.le_of_ble_eq_true rfl) ⟨(Nat.le_of_ble_eq_true rfl), (Nat.le_of_ble_eq_true rfl)⟩ (Nat.le_of_ble_eq_true rfl) dX9_kingmaker_21 (fun u_6 hp_7 => ?_)
    have hj_8 := jv_trans hJ hp_7
    refine s_iconst (v := 0) E dX9_kingmaker_24 (by decide) ?_
    refine s_istore_n (L2 := [some (AR 0), some (AI 0)]) E dX9_kingmaker_25 rfl (by decide) rfl ?_
    refine z_loop (St := Int32) (Pi := fun q26_1_8 v26 => (0 ≤ q26_1_8.toInt ∧ q26_1_8.toInt ≤ 8) ∧ Jv w v26) (Lf := fun q26_1_8 => [some (AR 0), some (AI q26_1_8)]) (fun q26_1_8 _ => (9 - q26_1_8.toInt).toNat) 0 ⟨⟨by decide, by decide⟩, hj_8⟩ ?_
    rintro q26_1_8 v26 ⟨hq26_1, hj_9⟩ ih26
    refine s_loc (L2 := [some (AR 0), some (AI q26_1_8)]) rfl ?_
    refine s_iload_n E dX9_kingmaker_26 rfl rfl ?_
    refine s_aload_n E dX9_kingmaker_27 rfl rfl ?_
    refine s_gR (r := 2) E fg_X9_20 rfl rfl (jv_lt hj_9 (by decide)) (jv_r hj_9 (by decide +kernel)) dX9_kingmaker_28 ?_
    refine s_gR (r := 7) E fg_X9_136 rfl rfl (jv_lt hj_9 (by decide)) (jv_r hj_9 (by decide +kernel)) dX9_kingmaker_31 ?_
    refine s_gI E fg_X9_200 rfl rfl (jv_lt hj_9 (by decide)) dX9_kingmaker_34 ?_
    refine z_nm (P := fun z => z.toInt = (v26.2.2.1 7 3).toInt ∧ 0 ≤ z.toInt ∧ z.toInt ≤ 8) ⟨rfl, (rg_7_3 hj_9)⟩ (fun z_10 hz_10 => ?_)
    refine z_icmp_ge (tgt := 56) (u := q26_1_8.toInt) (v := z_10.toInt) E dX9_kingmaker_37 (by decide) rfl rfl (fun h_11 => ?_) (fun h_11 => ?_)
    ·
      refine s_iconst (v := (-1)) E dX9_kingmaker_56 (by decide) ?_
      exact r_int E dX9_kingmaker_57 ⟨⟨by decide, by decide, by first | (left; decide) | (right; have hb_ := z32 (w.2.2.1 2 0); omega)⟩, hj_9⟩
    ·
      refine s_aload_n E dX9_kingmaker_40 rfl rfl ?_
      refine s_iload_n E dX9_kingmaker_41 rfl rfl ?_
      refine s_vI (As := [AI q26_1_8]) (S := []) E (Z_X9_makesOneHold_0 l D aC b v26 q26_1_8 hj_9.1 ) cv_X9_336 rfl rfl rfl (jv_lt hj_9 (by decide)) (Nat.le_of_ble_eq_true rfl) (Nat.le_of_ble_eq_true rfl) ⟨(Nat.le_of_ble_eq_true rfl), (Nat.le_of_ble_eq_true rfl)⟩ (Nat.le_of_ble_eq_true rfl) dX9_kingmaker_42 (fun z_14 u_12 hp_13 => ?_)
      obtain ⟨hz_14, hp_13⟩ := hp_13
      have hj_15 := jv_trans hj_9 hp_13
      refine z_if_eq (tgt := 50) (u := z_14.toInt) E dX9_kingmaker_45 (by decide) rfl (fun h_16 => ?_) (fun h_16 => ?_)
      ·
        refine z_iinc (u := q26_1_8.toInt) (L2 := fun z_17 => [some (AR 0), some (AI z_17)]) E dX9_kingmaker_50 rfl rfl (by decide) (fun _ => rfl) (by decide) (by omega) (by omega) (fun z_17 hz_17 => ?_)
        refine s_goto (tgt := 26) E dX9_kingmaker_53 (by decide) ?_
        exact ih26 z_17 u_12 ⟨⟨by have hb_ := z32 z_17; omega, by have hb_ := z32 z_17; omega⟩, hj_15⟩ (by first | omega | (dsimp only; omega))
      ·
        refine s_iload_n E dX9_kingmaker_48 rfl rfl ?_
        exact r_int E dX9_kingmaker_49 ⟨⟨by have hb_ := z32 q26_1_8; omega, by have hb_ := z32 q26_1_8; omega, by have hb_ := z32 q26_1_8; have hc_ := z32 (w.2.2.1 2 0); omega⟩, hj_15⟩
  ·
    refine s_bipush (v := (-2)) E dX9_kingmaker_10 (by decide) ?_
    exact r_int E dX9_kingmaker_12 ⟨⟨by decide, by decide, by first | (left; decide) | (right; have hb_ := z32 (w.2.2.1 2 0); omega)⟩, hJ⟩
