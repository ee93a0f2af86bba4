set_option maxRecDepth 20000 in
set_option maxHeartbeats 2000000 in
theorem Z_X8_add_11 (l : Launch) (D : va_G) (aC : Nat → ClassId) (b : Nat) (w : XW) (x1 : Int32) (x2 : Int32) (x3 : Int32) (x4 : Int32) (hI : Iv w)  : CnV l D aC b M_X8_add 2 45 0 0 [AR 11, AI x1, AI x2, AI x3, AI x4] w (fun u => Jv w u) := by
  refine cn_V (own := RX8) (nm := "add") (L0 := [some (AR 11), some (AI x1), some (AI x2), some (AI x3), some (AI x4)]) (by decide +kernel) rfl rfl (Nat.le_of_ble_eq_true rfl) rfl ?_
  intro p e s m args below meth c E hin
  have hJ : Jv w w := jv_rfl hI
  have hb_x1 := z32 x1
  have hb_x2 := z32 x2
  have hb_x3 := z32 x3
  have hb_x4 := z32 x4
  refine s_aload_n E dX8_add_0 rfl rfl ?_
  refine s_vI (As := []) (S := []) E (Z_X8_isFull_11 l D aC b w  hJ.1 ) cv_X8_35 rfl rfl rfl (jv_lt hJ (by decide)) (Nat.le_of_ble_eq_true rfl) (Nat.le_of_ble_eq_true rfl) ⟨(Nat.le_of_ble_eq_true rfl), (Nat.le_of_ble_eq_true rfl)⟩ (Nat.le_of_ble_eq_true rfl) dX8_add_1 (fun z_3 u_1 hp_2 => ?_)
  obtain ⟨hz_3, hp_2⟩ := hp_2
  subst hp_2
  refine z_if_eq (tgt := 8) (u := z_3.toInt) E dX8_add_4 (by decide) rfl (fun h_5 => ?_) (fun h_5 => ?_)
  ·
    refine s_aload_n E dX8_add_8 rfl rfl ?_
    refine s_dupR E dX8_add_9 ?_
    refine s_gI E fg_X8_28 rfl rfl (jv_lt hJ (by decide)) dX8_add_10 ?_
    refine z_nm (P := fun z => z.toInt = (w.2.2.1 11 3).toInt ∧ 0 ≤ z.toInt ∧ z.toInt ≤ 30) ⟨rfl, (rg_11_3 hJ)⟩ (fun z_6 hz_6 => ?_)
    refine s_iconst (v := 1) E dX8_add_13 (by decide) ?_
    refine z_iadd (u := z_6.toInt) (v := 1) E dX8_add_14 rfl (by decide) (by omega) (by omega) (fun z_7 hz_7 => ?_)
    refine s_pI E fp_X8_28 (Or.inl rfl) rfl (jv_lt hJ (by decide)) dX8_add_15 ?_
    refine s_gen (P := Jv w) (jv_f_11_3 hJ (by have hb_ := z32 z_7; omega) (by have hb_ := z32 z_7; omega)) (fun v_8 hj_9 => ?_)
    refine s_aload_n E dX8_add_18 rfl rfl ?_
    refine s_aload_n E dX8_add_19 rfl rfl ?_
    refine s_gI E fg_X8_28 rfl rfl (jv_lt hj_9 (by decide)) dX8_add_20 ?_
    refine z_nm (P := fun z => z.toInt = (v_8.2.2.1 11 3).toInt ∧ 0 ≤ z.toInt ∧ z.toInt ≤ 30) ⟨rfl, (rg_11_3 hj_9)⟩ (fun z_10 hz_10 => ?_)
    refine s_iconst (v := 1) E dX8_add_23 (by decide) ?_
    refine z_isub (u := z_10.toInt) (v := 1) E dX8_add_24 rfl (by decide) (by omega) (by omega) (fun z_11 hz_11 => ?_)
    refine s_iconst (v := 0) E dX8_add_25 (by decide) ?_
    refine s_iload_n E dX8_add_26 rfl rfl ?_
    refine s_vV (As := [AI z_11, AI 0, AI x1]) (S := []) E (Z_X8_put_11 l D aC b v_8 z_11 0 x1 hj_9.1 ) cv_X8_39 rfl rfl rfl (jv_lt hj_9 (by decide)) (Nat.le_of_ble_eq_true rfl) (Nat.le_of_ble_eq_true rfl) ⟨(Nat.le_of_ble_eq_true rfl), (Nat.le_of_ble_eq_true rfl)⟩ (Nat.le_of_ble_eq_true rfl) dX8_add_27 (fun u_12 hp_13 => ?_)
    have hj_14 := jv_trans hj_9 hp_13
    refine s_aload_n E dX8_add_30 rfl rfl ?_
    refine s_aload_n E dX8_add_31 rfl rfl ?_
    refine s_gI E fg_X8_28 rfl rfl (jv_lt hj_14 (by decide)) dX8_add_32 ?_
    refine z_nm (P := fun z => z.toInt = (u_12.2.2.1 11 3).toInt ∧ 0 ≤ z.toInt ∧ z.toInt ≤ 30) ⟨rfl, (rg_11_3 hj_14)⟩ (fun z_15 hz_15 => ?_)
    refine s_iconst (v := 1) E dX8_add_35 (by decide) ?_
    refine z_isub (u := z_15.toInt) (v := 1) E dX8_add_36 rfl (by decide) (by omega) (by omega) (fun z_16 hz_16 => ?_)
    refine s_iconst (v := 1) E dX8_add_37 (by decide) ?_
    refine s_iload_n E dX8_add_38 rfl rfl ?_
    refine s_vV (As := [AI z_16, AI 1, AI x2]) (S := []) E (Z_X8_put_11 l D aC b u_12 z_16 1 x2 hj_14.1 ) cv_X8_39 rfl rfl rfl (jv_lt hj_14 (by decide)) (Nat.le_of_ble_eq_true rfl) (Nat.le_of_ble_eq_true rfl) ⟨(Nat.le_of_ble_eq_true rfl), (Nat.le_of_ble_eq_true rfl)⟩ (Nat.le_of_ble_eq_true rfl) dX8_add_39 (fun u_17 hp_18 => ?_)
    have hj_19 := jv_trans hj_14 hp_18
    refine s_aload_n E dX8_add_42 rfl rfl ?_
    refine s_aload_n E dX8_add_43 rfl rfl ?_
    refine s_gI E fg_X8_28 rfl rfl (jv_lt hj_19 (by decide)) dX8_add_44 ?_
    refine z_nm (P := fun z => z.toInt = (u_17.2.2.1 11 3).toInt ∧ 0 ≤ z.toInt ∧ z.toInt ≤ 30) ⟨rfl, (rg_11_3 hj_19)⟩ (fun z_20 hz_20 => ?_)
    refine s_iconst (v := 1) E dX8_add_47 (by decide) ?_
    refine z_isub (u := z_20.toInt) (v := 1) E dX8_add_48 rfl (by decide) (by omega) (by omega) (fun z_21 hz_21 => ?_)
    refine s_iconst (v := 2) E dX8_add_49 (by decide) ?_
    refine s_iload_n E dX8_add_50 rfl rfl ?_
    refine s_vV (As := [AI z_21, AI 2, AI x3]) (S := []) E (Z_X8_put_11 l D aC b u_17 z_21 2 x3 hj_19.1 ) cv_X8_39 rfl rfl rfl (jv_lt hj_19 (by decide)) (Nat.le_of_ble_eq_true rfl) (Nat.le_of_ble_eq_true rfl) ⟨(Nat.le_of_ble_eq_true rfl), (Nat.le_of_ble_eq_true rfl)⟩ (Nat.le_of_ble_eq_true rfl) dX8_add_51 (fun u_22 hp_23 => ?_)
    have hj_24 := jv_trans hj_19 hp_23
    refine s_aload_n E dX8_add_54 rfl rfl ?_
    refine s_aload_n E dX8_add_55 rfl rfl ?_
    refine s_gI E fg_X8_28 rfl rfl (jv_lt hj_24 (by decide)) dX8_add_56 ?_
    refine z_nm (P := fun z => z.toInt = (u_22.2.2.1 11 3).toInt ∧ 0 ≤ z.toInt ∧ z.toInt ≤ 30) ⟨rfl, (rg_11_3 hj_24)⟩ (fun z_25 hz_25 => ?_)
    refine s_iconst (v := 1) E dX8_add_59 (by decide) ?_
    refine z_isub (u := z_25.toInt) (v := 1) E dX8_add_60 rfl (by decide) (by omega) (by omega) (fun z_26 hz_26 => ?_)
    refine s_iconst (v := 3) E dX8_add_61 (by decide) ?_
    refine s_iload E dX8_add_62 rfl ?_
    refine s_vV (As := [AI z_26, AI 3, AI x4]) (S := []) E (Z_X8_put_11 l D aC b u_22 z_26 3 x4 hj_24.1 ) cv_X8_39 rfl rfl rfl (jv_lt hj_24 (by decide)) (Nat.le_of_ble_eq_true rfl) (Nat.le_of_ble_eq_true rfl) ⟨(Nat.le_of_ble_eq_true rfl), (Nat.le_of_ble_eq_true rfl)⟩ (Nat.le_of_ble_eq_true rfl) dX8_add_64 (fun u_27 hp_28 => ?_)
    have hj_29 := jv_trans hj_24 hp_28
    exact r_void E dX8_add_67 hj_29
  ·
    exact r_void E dX8_add_7 hJ
set_option maxRecDepth 20000 in
set_option maxHeartbeats 2000000 in
theorem Z_X0_actBid_2 (l : Launch) (D : va_G) (aC : Nat → ClassId) (b : Nat) (w : XW) (x1 : Int32) (x2 : Int32) (x3 : Int32) (hI : Iv w)  : CnV l D aC b M_X0_actBid 3 69 0 0 [AR 2, AI x1, AI x2, AI x3] w (fun u => Jv w u) := by
  refine cn_V (own := RX0) (nm := "actBid") (L0 := [some (AR 2), some (AI x1), some (AI x2), some (AI x3)]) (by decide +kernel) rfl rfl (Nat.le_of_ble_eq_true rfl) rfl ?_
  intro p e s m args below meth c E hin
  have hJ : Jv w w := jv_rfl hI
  have hb_x1 := z32 x1
  have hb_x2 := z32 x2
  have hb_x3 := z32 x3
  refine s_aload_n E dX0_actBid_0 rfl rfl ?_
  refine s_gR (r := 11) E fg_X0_29 rfl rfl (jv_lt hJ (by decide)) (jv_r hJ (by decide +kernel)) dX0_actBid_1 ?_
  refine s_iconst (v := 0) E dX0_actBid_4 (by decide) ?_
  refine s_iload_n E dX0_actBid_5 rfl rfl ?_
  refine s_iload_n E dX0_actBid_6 rfl rfl ?_
  refine s_iload_n E dX0_actBid_7 rfl rfl ?_
  refine s_vV (As := [AI 0, AI x1, AI x2, AI x3]) (S := []) E (Z_X8_add_11 l D aC b w 0 x1 x2 x3 hJ.1 ) cv_X0_74 rfl rfl rfl (jv_lt hJ (by decide)) (Nat.le_of_ble_eq_true rfl) (Nat.le_of_ble_eq_true rfl) ⟨(Nat.le_of_ble_eq_true rfl), (Nat.le_of_ble_eq_true rfl)⟩ (Nat.le_of_ble_eq_true rfl) dX0_actBid_8 (fun u_1 hp_2 => ?_)
  have hj_3 := jv_trans hJ hp_2
  exact r_void E dX0_actBid_11 hj_3
set_option maxRecDepth 20000 in
set_option maxHeartbeats 2000000 in
theorem Z_X9_bid_0 (l : Launch) (D : va_G) (aC : Nat → ClassId) (b : Nat) (w : XW) (x1 : Int32) (x2 : Int32) (x3 : Int32) (hI : Iv w)  : CnI l D aC b M_X9_bid 6 140 0 0 [AR 0, AI x1, AI x2, AI x3] w (fun r u => ((-2147483648) ≤ r.toInt ∧ r.toInt ≤ 2147483647 ∧ (¬ r.toInt = 0 ∨ (0 ≤ x1.toInt ∧ x1.toInt ≤ 5)) ∧ (¬ r.toInt = 0 ∨ (0 ≤ x2.toInt ∧ x2.toInt ≤ 7)) ∧ (¬ r.toInt = 0 ∨ (0 ≤ x3.toInt ∧ x3.toInt ≤ 13)) ∧ (¬ r.toInt = 0 ∨ (1 ≤ (w.2.2.1 5 3).toInt ∧ (w.2.2.1 5 3).toInt ≤ 6)) ∧ (¬ r.toInt = 0 ∨ (1 ≤ (w.2.2.1 2 1).toInt ∧ (w.2.2.1 2 1).toInt ≤ 8)) ∧ (¬ r.toInt = 0 ∨ (0 ≤ (w.2.2.1 11 3).toInt ∧ (w.2.2.1 11 3).toInt ≤ 29))) ∧ Jv w u) := by
  refine cn_I (own := RX9) (nm := "bid") (L0 := [some (AR 0), some (AI x1), some (AI x2), some (AI x3)]) (by decide +kernel) rfl rfl (Nat.le_of_ble_eq_true rfl) rfl ?_
  intro p e s m args below meth c E hin
  have hJ : Jv w w := jv_rfl hI
  have hb_x1 := z32 x1
  have hb_x2 := z32 x2
  have hb_x3 := z32 x3
  refine s_aload_n E dX9_bid_0 rfl rfl ?_
  refine s_gR (r := 2) E fg_X9_20 rfl rfl (jv_lt hJ (by decide)) (jv_r hJ (by decide +kernel)) dX9_bid_1 ?_
  refine s_iload_n E dX9_bid_4 rfl rfl ?_
  refine s_vI (As := [AI x1]) (S := []) E (Z_X0_hasLady_2 l D aC b w x1 hJ.1 ) cv_X9_139 rfl rfl rfl (jv_lt hJ (by decide)) (Nat.le_of_ble_eq_true rfl) (Nat.le_of_ble_eq_true rfl) ⟨(Nat.le_of_ble_eq_true rfl), (Nat.le_of_ble_eq_true rfl)⟩ (Nat.le_of_ble_eq_true rfl) dX9_bid_5 (fun z_3 u_1 hp_2 => ?_)
  obtain ⟨hz_3, hp_2⟩ := hp_2
  subst hp_2
  refine z_if_eq (tgt := 32) (u := z_3.toInt) E dX9_bid_8 (by decide) rfl (fun h_5 => ?_) (fun h_5 => ?_)
  ·
    refine s_bipush (v := (-2)) E dX9_bid_32 (by decide) ?_
    exact r_int E dX9_bid_34 ⟨⟨by decide, by decide, by first | (left; decide) | (right; decide) | (right; have hb_ := z32 x1; omega), by first | (left; decide) | (right; decide) | (right; have hb_ := z32 x2; omega), by first | (left; decide) | (right; decide) | (right; have hb_ := z32 x3; omega), by first | (left; decide) | (right; decide) | (right; have hb_ := z32 (w.2.2.1 5 3); omega), by first | (left; decide) | (right; decide) | (right; have hb_ := z32 (w.2.2.1 2 1); omega), by first | (left; decide) | (right; decide) | (right; have hb_ := z32 (w.2.2.1 11 3); omega)⟩, hJ⟩
  ·
    refine s_aload_n E dX9_bid_11 rfl rfl ?_
    refine s_gR (r := 2) E fg_X9_20 rfl rfl (jv_lt hJ (by decide)) (jv_r hJ (by decide +kernel)) dX9_bid_12 ?_
    refine s_iload_n E dX9_bid_15 rfl rfl ?_
    refine s_vI (As := [AI x2]) (S := []) E (Z_X0_hasRoom_2 l D aC b w x2 hJ.1 ) cv_X9_143 rfl rfl rfl (jv_lt hJ (by decide)) (Nat.le_of_ble_eq_true rfl) (Nat.le_of_ble_eq_true rfl) ⟨(Nat.le_of_ble_eq_true rfl), (Nat.le_of_ble_eq_true rfl)⟩ (Nat.le_of_ble_eq_true rfl) dX9_bid_16 (fun z_8 u_6 hp_7 => ?_)
    obtain ⟨hz_8, hp_7⟩ := hp_7
    subst hp_7
    refine z_if_eq (tgt := 32) (u := z_8.toInt) E dX9_bid_19 (by decide) rfl (fun h_10 => ?_) (fun h_10 => ?_)
    ·
      refine s_bipush (v := (-2)) E dX9_bid_32 (by decide) ?_
      exact r_int E dX9_bid_34 ⟨⟨by decide, by decide, by first | (left; decide) | (right; decide) | (right; have hb_ := z32 x1; omega), by first | (left; decide) | (right; decide) | (right; have hb_ := z32 x2; omega), by first | (left; decide) | (right; decide) | (right; have hb_ := z32 x3; omega), by first | (left; decide) | (right; decide) | (right; have hb_ := z32 (w.2.2.1 5 3); omega), by first | (left; decide) | (right; decide) | (right; have hb_ := z32 (w.2.2.1 2 1); omega), by first | (left; decide) | (right; decide) | (right; have hb_ := z32 (w.2.2.1 11 3); omega)⟩, hJ⟩
    ·
      refine s_iload_n E dX9_bid_22 rfl rfl ?_
      refine z_if_lt (tgt := 32) (u := x3.toInt) E dX9_bid_23 (by decide) rfl (fun h_11 => ?_) (fun h_11 => ?_)
      ·
        refine s_bipush (v := (-2)) E dX9_bid_32 (by decide) ?_
        exact r_int E dX9_bid_34 ⟨⟨by decide, by decide, by first | (left; decide) | (right; decide) | (right; have hb_ := z32 x1; omega), by first | (left; decide) | (right; decide) | (right; have hb_ := z32 x2; omega), by first | (left; decide) | (right; decide) | (right; have hb_ := z32 x3; omega), by first | (left; decide) | (right; decide) | (right; have hb_ := z32 (w.2.2.1 5 3); omega), by first | (left; decide) | (right; decide) | (right; have hb_ := z32 (w.2.2.1 2 1); omega), by first | (left; decide) | (right; decide) | (right; have hb_ := z32 (w.2.2.1 11 3); omega)⟩, hJ⟩
      ·
        refine s_iload_n E dX9_bid_26 rfl rfl ?_
        refine s_bipush (v := 13) E dX9_bid_27 (by decide) ?_
        refine z_icmp_le (tgt := 35) (u := x3.toInt) (v := 13) E dX9_bid_29 (by decide) rfl (by decide) (fun h_12 => ?_) (fun h_12 => ?_)
        ·
          refine s_aload_n E dX9_bid_35 rfl rfl ?_
          refine s_gR (r := 2) E fg_X9_20 rfl rfl (jv_lt hJ (by decide)) (jv_r hJ (by decide +kernel)) dX9_bid_36 ?_
          refine s_gR (r := 11) E fg_X9_400 rfl rfl (jv_lt hJ (by decide)) (jv_r hJ (by decide +kernel)) dX9_bid_39 ?_
          refine s_vI (As := []) (S := []) E (Z_X8_isFull_11 l D aC b w  hJ.1 ) cv_X9_403 rfl rfl rfl (jv_lt hJ (by decide)) (Nat.le_of_ble_eq_true rfl) (Nat.le_of_ble_eq_true rfl) ⟨(Nat.le_of_ble_eq_true rfl), (Nat.le_of_ble_eq_true rfl)⟩ (Nat.le_of_ble_eq_true rfl) dX9_bid_42 (fun z_15 u_13 hp_14 => ?_)
          obtain ⟨hz_15, hp_14⟩ := hp_14
          subst hp_14
          refine z_if_eq (tgt := 51) (u := z_15.toInt) E dX9_bid_45 (by decide) rfl (fun h_17 => ?_) (fun h_17 => ?_)
          ·
            refine s_aload_n E dX9_bid_51 rfl rfl ?_
            refine s_gR (r := 2) E fg_X9_20 rfl rfl (jv_lt hJ (by decide)) (jv_r hJ (by decide +kernel)) dX9_bid_52 ?_
            refine s_iload_n E dX9_bid_55 rfl rfl ?_
            refine s_iload_n E dX9_bid_56 rfl rfl ?_
            refine s_iload_n E dX9_bid_57 rfl rfl ?_
            refine s_vV (As := [AI x1, AI x2, AI x3]) (S := []) E (Z_X0_actBid_2 l D aC b w x1 x2 x3 hJ.1 ) cv_X9_406 rfl rfl rfl (jv_lt hJ (by decide)) (Nat.le_of_ble_eq_true rfl) (Nat.le_of_ble_eq_true rfl) ⟨(Nat.le_of_ble_eq_true rfl), (Nat.le_of_ble_eq_true rfl)⟩ (Nat.le_of_ble_eq_true rfl) dX9_bid_58 (fun u_18 hp_19 => ?_)
            have hj_20 := jv_trans hJ hp_19
            refine s_aload_n E dX9_bid_61 rfl rfl ?_
            refine s_vV (As := []) (S := []) E (Z_X9_settle_0 l D aC b u_18  hj_20.1 ) cv_X9_107 rfl rfl rfl (jv_lt hj_20 (by decide)) (Nat.le_of_ble_eq_true rfl) (Nat.le_of_ble_eq_true rfl) ⟨(Nat.le_of_ble_eq_true rfl), (Nat.le_of_ble_eq_true rfl)⟩ (Nat.le_of_ble_eq_true rfl) dX9_bid_62 (fun u_21 hp_22 => ?_)
            have hj_23 := jv_trans hj_20 hp_22
            refine s_aload_n E dX9_bid_65 rfl rfl ?_
            refine s_gR (r := 69) E fg_X9_54 rfl rfl (jv_lt hj_23 (by decide)) (jv_r hj_23 (by decide +kernel)) dX9_bid_66 ?_
            refine s_iload_n E dX9_bid_69 rfl rfl ?_
            refine s_aload_n E dX9_bid_70 rfl rfl ?_
            refine s_gR (r := 2) E fg_X9_20 rfl rfl (jv_lt hj_23 (by decide)) (jv_r hj_23 (by decide +kernel)) dX9_bid_71 ?_
            refine s_gI E fg_X9_169 rfl rfl (jv_lt hj_23 (by decide)) dX9_bid_74 ?_
            refine z_nm (P := fun z => z.toInt = (u_21.2.2.1 2 2).toInt ∧ 0 ≤ z.toInt ∧ z.toInt ≤ 14) ⟨rfl, (rg_2_2 hj_23)⟩ (fun z_24 hz_24 => ?_)
            refine s_vI (As := [AI x1, AI z_24]) (S := []) E (Z_X2_placeOf_69 l D aC b u_21 x1 z_24 hj_23.1 ) cv_X9_159 rfl rfl rfl (jv_lt hj_23 (by decide)) (Nat.le_of_ble_eq_true rfl) (Nat.le_of_ble_eq_true rfl) ⟨(Nat.le_of_ble_eq_true rfl), (Nat.le_of_ble_eq_true rfl)⟩ (Nat.le_of_ble_eq_true rfl) dX9_bid_77 (fun z_27 u_25 hp_26 => ?_)
            obtain ⟨hz_27, hp_26⟩ := hp_26
            subst hp_26
            exact r_int E dX9_bid_80 ⟨⟨by have hb_ := z32 z_27; omega, by have hb_ := z32 z_27; omega, by first | (right; decide) | (have hb_ := z32 z_27; omega) | (have hb_ := z32 z_27; have hc_ := z32 x1; omega), by first | (right; decide) | (have hb_ := z32 z_27; omega) | (have hb_ := z32 z_27; have hc_ := z32 x2; omega), by first | (right; decide) | (have hb_ := z32 z_27; omega) | (have hb_ := z32 z_27; have hc_ := z32 x3; omega), by first | (right; decide) | (have hb_ := z32 z_27; omega) | (have hb_ := z32 z_27; have hc_ := z32 (w.2.2.1 5 3); omega), by first | (right; decide) | (have hb_ := z32 z_27; omega) | (have hb_ := z32 z_27; have hc_ := z32 (w.2.2.1 2 1); omega), by first | (right; decide) | (have hb_ := z32 z_27; omega) | (have hb_ := z32 z_27; have hc_ := z32 (w.2.2.1 11 3); omega)⟩, hj_23⟩
          ·
            refine s_bipush (v := (-5)) E dX9_bid_48 (by decide) ?_
            exact r_int E dX9_bid_50 ⟨⟨by decide, by decide, by first | (left; decide) | (right; decide) | (right; have hb_ := z32 x1; omega), by first | (left; decide) | (right; decide) | (right; have hb_ := z32 x2; omega), by first | (left; decide) | (right; decide) | (right; have hb_ := z32 x3; omega), by first | (left; decide) | (right; decide) | (right; have hb_ := z32 (w.2.2.1 5 3); omega), by first | (left; decide) | (right; decide) | (right; have hb_ := z32 (w.2.2.1 2 1); omega), by first | (left; decide) | (right; decide) | (right; have hb_ := z32 (w.2.2.1 11 3); omega)⟩, hJ⟩
        ·
          refine s_bipush (v := (-2)) E dX9_bid_32 (by decide) ?_
          exact r_int E dX9_bid_34 ⟨⟨by decide, by decide, by first | (left; decide) | (right; decide) | (right; have hb_ := z32 x1; omega), by first | (left; decide) | (right; decide) | (right; have hb_ := z32 x2; omega), by first | (left; decide) | (right; decide) | (right; have hb_ := z32 x3; omega), by first | (left; decide) | (right; decide) | (right; have hb_ := z32 (w.2.2.1 5 3); omega), by first | (left; decide) | (right; decide) | (right; have hb_ := z32 (w.2.2.1 2 1); omega), by first | (left; decide) | (right; decide) | (right; have hb_ := z32 (w.2.2.1 11 3); omega)⟩, hJ⟩
set_option maxRecDepth 20000 in
set_option maxHeartbeats 2000000 in
theorem Z_X8_has_7 (l : Launch) (D : va_G) (aC : Nat → ClassId) (b : Nat) (w : XW) (x1 : Int32) (hI : Iv w)  : CnI l D aC b M_X8_has 0 0 0 0 [AR 7, AI x1] w (fun r u => (0 ≤ r.toInt ∧ r.toInt ≤ 1 ∧ (r.toInt = 0 ∨ (0 ≤ x1.toInt ∧ x1.toInt ≤ 7)) ∧ (r.toInt = 0 ∨ (1 ≤ (w.2.2.1 7 3).toInt ∧ (w.2.2.1 7 3).toInt ≤ 8))) ∧ w = u) := by
  refine cn_I (own := RX8) (nm := "has") (L0 := [some (AR 7), some (AI x1)]) (by decide +kernel) rfl rfl (Nat.le_of_ble_eq_true rfl) rfl ?_
  intro p e s m args below meth c E hin
  have hJ : Jv w w := jv_rfl hI
  have hb_x1 := z32 x1
  refine s_iload_n E dX8_has_0 rfl rfl ?_
  refine z_if_lt (tgt := 16) (u := x1.toInt) E dX8_has_1 (by decide) rfl (fun h_1 => ?_) (fun h_1 => ?_)
  ·
    refine s_iconst (v := 0) E dX8_has_16 (by decide) ?_
    exact r_bool E dX8_has_17 (Or.inl rfl) ⟨⟨by decide, by decide, by first | (left; decide) | (right; decide) | (right; have hb_ := z32 x1; omega), by first | (left; decide) | (right; decide) | (right; have hb_ := z32 (w.2.2.1 7 3); omega)⟩, rfl⟩
  ·
    refine s_iload_n E dX8_has_4 rfl rfl ?_
    refine s_aload_n E dX8_has_5 rfl rfl ?_
    refine s_gI E fg_X8_28 rfl rfl (jv_lt hJ (by decide)) dX8_has_6 ?_
    refine z_nm (P := fun z => z.toInt = (w.2.2.1 7 3).toInt ∧ 0 ≤ z.toInt ∧ z.toInt ≤ 8) ⟨rfl, (rg_7_3 hJ)⟩ (fun z_2 hz_2 => ?_)
    refine z_icmp_ge (tgt := 16) (u := x1.toInt) (v := z_2.toInt) E dX8_has_9 (by decide) rfl rfl (fun h_3 => ?_) (fun h_3 => ?_)
    ·
      refine s_iconst (v := 0) E dX8_has_16 (by decide) ?_
      exact r_bool E dX8_has_17 (Or.inl rfl) ⟨⟨by decide, by decide, by first | (left; decide) | (right; decide) | (right; have hb_ := z32 x1; omega), by first | (left; decide) | (right; decide) | (right; have hb_ := z32 (w.2.2.1 7 3); omega)⟩, rfl⟩
    ·
      refine s_iconst (v := 1) E dX8_has_12 (by decide) ?_
      refine s_goto (tgt := 17) E dX8_has_13 (by decide) ?_
      exact r_bool E dX8_has_17 (Or.inr rfl) ⟨⟨by decide, by decide, by first | (left; decide) | (right; decide) | (right; have hb_ := z32 x1; omega), by first | (left; decide) | (right; decide) | (right; have hb_ := z32 (w.2.2.1 7 3); omega)⟩, rfl⟩
set_option maxRecDepth 20000 in
set_option maxHeartbeats 2000000 in
theorem Z_X8_put_7 (l : Launch) (D : va_G) (aC : Nat → ClassId) (b : Nat) (w : XW) (x1 : Int32) (x2 : Int32) (x3 : Int32) (hI : Iv w)  : CnV l D aC b M_X8_put 1 22 0 0 [AR 7, AI x1, AI x2, AI x3] w (fun u => Jv w u) := by
  refine cn_V (own := RX8) (nm := "put") (L0 := [some (AR 7), some (AI x1), some (AI x2), some (AI x3)]) (by decide +kernel) rfl rfl (Nat.le_of_ble_eq_true rfl) rfl ?_
  intro p e s m args below meth c E hin
  have hJ : Jv w w := jv_rfl hI
  have hb_x1 := z32 x1
  have hb_x2 := z32 x2
  have hb_x3 := z32 x3
  refine s_aload_n E dX8_put_0 rfl rfl ?_
  refine s_iload_n E dX8_put_1 rfl rfl ?_
  refine s_iload_n E dX8_put_2 rfl rfl ?_
  refine s_vI (As := [AI x1, AI x2]) (S := []) E (Z_X8_hasCell_7 l D aC b w x1 x2 hJ.1 ) cv_X8_31 rfl rfl rfl (jv_lt hJ (by decide)) (Nat.le_of_ble_eq_true rfl) (Nat.le_of_ble_eq_true rfl) ⟨(Nat.le_of_ble_eq_true rfl), (Nat.le_of_ble_eq_true rfl)⟩ (Nat.le_of_ble_eq_true rfl) dX8_put_3 (fun z_3 u_1 hp_2 => ?_)
  obtain ⟨hz_3, hp_2⟩ := hp_2
  subst hp_2
  refine z_if_eq (tgt := 23) (u := z_3.toInt) E dX8_put_6 (by decide) rfl (fun h_5 => ?_) (fun h_5 => ?_)
  ·
    exact r_void E dX8_put_23 hJ
  ·
    refine s_aload_n E dX8_put_9 rfl rfl ?_
    refine s_gR (r := 8) E fg_X8_24 rfl rfl (jv_lt hJ (by decide)) (jv_r hJ (by decide +kernel)) dX8_put_10 ?_
    refine s_iload_n E dX8_put_13 rfl rfl ?_
    refine s_aload_n E dX8_put_14 rfl rfl ?_
    refine s_gI E fg_X8_21 rfl rfl (jv_lt hJ (by decide)) dX8_put_15 ?_
    refine s_top (y := 2) (z_pt (by decide) (rg_7_2 hJ)) ?_
    refine z_imul (u := x1.toInt) (v := 2) E dX8_put_18 rfl (by decide) (by omega) (by omega) (fun z_6 hz_6 => ?_)
    refine s_iload_n E dX8_put_19 rfl rfl ?_
    refine z_iadd (u := z_6.toInt) (v := x2.toInt) E dX8_put_20 rfl rfl (by omega) (by omega) (fun z_7 hz_7 => ?_)
    refine s_iload_n E dX8_put_21 rfl rfl ?_
    refine s_iast E rfl (jv_lt hJ (by decide)) (z_in (u := z_7.toInt) rfl (by omega) (by omega)) dX8_put_22 ?_
    refine s_gen (P := fun v => Jv w v ∧ (v.2.2.1 7 3).toInt = (w.2.2.1 7 3).toInt) ⟨(jv_a_8 hJ (by have hb_ := z32 x3; omega) (by have hb_ := z32 x3; omega)), rfl⟩ (fun v_8 hj_9 => ?_)
    obtain ⟨hj_9, hk_10k0⟩ := hj_9
    exact r_void E dX8_put_23 hj_9
set_option maxRecDepth 20000 in
set_option maxHeartbeats 2000000 in
theorem Z_X0_actMove_2 (l : Launch) (D : va_G) (aC : Nat → ClassId) (b : Nat) (w : XW) (x1 : Int32) (x2 : Int32) (hI : Iv w)  : CnV l D aC b M_X0_actMove 3 69 0 0 [AR 2, AI x1, AI x2] w (fun u => Jv w u) := by
  refine cn_V (own := RX0) (nm := "actMove") (L0 := [some (AR 2), some (AI x1), some (AI x2)]) (by decide +kernel) rfl rfl (Nat.le_of_ble_eq_true rfl) rfl ?_
  intro p e s m args below meth c E hin
  have hJ : Jv w w := jv_rfl hI
  have hb_x1 := z32 x1
  have hb_x2 := z32 x2
  refine s_aload_n E dX0_actMove_0 rfl rfl ?_
  refine s_gR (r := 11) E fg_X0_29 rfl rfl (jv_lt hJ (by decide)) (jv_r hJ (by decide +kernel)) dX0_actMove_1 ?_
  refine s_iconst (v := 1) E dX0_actMove_4 (by decide) ?_
  refine s_iload_n E dX0_actMove_5 rfl rfl ?_
  refine s_iload_n E dX0_actMove_6 rfl rfl ?_
  refine s_aload_n E dX0_actMove_7 rfl rfl ?_
  refine s_gR (r := 7) E fg_X0_23 rfl rfl (jv_lt hJ (by decide)) (jv_r hJ (by decide +kernel)) dX0_actMove_8 ?_
  refine s_iload_n E dX0_actMove_11 rfl rfl ?_
  refine s_iconst (v := 0) E dX0_actMove_12 (by decide) ?_
  refine s_vI (As := [AI x1, AI 0]) (S := [AI x2, AI x1, AI 1, AR 11]) E (Z_X8_cell_7 l D aC b w x1 0 hJ.1 ) cv_X0_70 rfl rfl rfl (jv_lt hJ (by decide)) (Nat.le_of_ble_eq_true rfl) (Nat.le_of_ble_eq_true rfl) ⟨(Nat.le_of_ble_eq_true rfl), (Nat.le_of_ble_eq_true rfl)⟩ (Nat.le_of_ble_eq_true rfl) dX0_actMove_13 (fun z_3 u_1 hp_2 => ?_)
  obtain ⟨hz_3, hp_2⟩ := hp_2
  subst hp_2
  refine s_vV (As := [AI 1, AI x1, AI x2, AI z_3]) (S := []) E (Z_X8_add_11 l D aC b w 1 x1 x2 z_3 hJ.1 ) cv_X0_74 rfl rfl rfl (jv_lt hJ (by decide)) (Nat.le_of_ble_eq_true rfl) (Nat.le_of_ble_eq_true rfl) ⟨(Nat.le_of_ble_eq_true rfl), (Nat.le_of_ble_eq_true rfl)⟩ (Nat.le_of_ble_eq_true rfl) dX0_actMove_16 (fun u_5 hp_6 => ?_)
  have hj_7 := jv_trans hJ hp_6
  refine s_aload_n E dX0_actMove_19 rfl rfl ?_
  refine s_gR (r := 7) E fg_X0_23 rfl rfl (jv_lt hj_7 (by decide)) (jv_r hj_7 (by decide +kernel)) dX0_actMove_20 ?_
  refine s_iload_n E dX0_actMove_23 rfl rfl ?_
  refine s_iconst (v := 0) E dX0_actMove_24 (by decide) ?_
  refine s_iload_n E dX0_actMove_25 rfl rfl ?_
  refine s_vV (As := [AI x1, AI 0, AI x2]) (S := []) E (Z_X8_put_7 l D aC b u_5 x1 0 x2 hj_7.1 ) cv_X0_78 rfl rfl rfl (jv_lt hj_7 (by decide)) (Nat.le_of_ble_eq_true rfl) (Nat.le_of_ble_eq_true rfl) ⟨(Nat.le_of_ble_eq_true rfl), (Nat.le_of_ble_eq_true rfl)⟩ (Nat.le_of_ble_eq_true rfl) dX0_actMove_26 (fun u_8 hp_9 => ?_)
  have hj_10 := jv_trans hj_7 hp_9
  exact r_void E dX0_actMove_29 hj_10
set_option maxRecDepth 20000 in
set_option maxHeartbeats 2000000 in
theorem Z_X9_move_0 (l : Launch) (D : va_G) (aC : Nat → ClassId) (b : Nat) (w : XW) (x1 : Int32) (x2 : Int32) (hI : Iv w)  : CnI l D aC b M_X9_move 4 91 0 0 [AR 0, AI x1, AI x2] w (fun r u => ((-2147483648) ≤ r.toInt ∧ r.toInt ≤ 2147483647 ∧ (¬ r.toInt = 0 ∨ (0 ≤ x1.toInt ∧ x1.toInt ≤ 7)) ∧ (¬ r.toInt = 0 ∨ (0 ≤ x2.toInt ∧ x2.toInt ≤ 5)) ∧ (¬ r.toInt = 0 ∨ (1 ≤ (w.2.2.1 7 3).toInt ∧ (w.2.2.1 7 3).toInt ≤ 8)) ∧ (¬ r.toInt = 0 ∨ (1 ≤ (w.2.2.1 5 3).toInt ∧ (w.2.2.1 5 3).toInt ≤ 6)) ∧ (¬ r.toInt = 0 ∨ (0 ≤ (w.2.2.1 11 3).toInt ∧ (w.2.2.1 11 3).toInt ≤ 29))) ∧ Jv w u) := by
  refine cn_I (own := RX9) (nm := "move") (L0 := [some (AR 0), some (AI x1), some (AI x2), none]) (by decide +kernel) rfl rfl (Nat.le_of_ble_eq_true rfl) rfl ?_
  intro p e s m args below meth c E hin
  have hJ : Jv w w := jv_rfl hI
  have hb_x1 := z32 x1
  have hb_x2 := z32 x2
  refine s_aload_n E dX9_move_0 rfl rfl ?_
  refine s_gR (r := 2) E fg_X9_20 rfl rfl (jv_lt hJ (by decide)) (jv_r hJ (by decide +kernel)) dX9_move_1 ?_
  refine s_gR (r := 7) E fg_X9_136 rfl rfl (jv_lt hJ (by decide)) (jv_r hJ (by decide +kernel)) dX9_move_4 ?_
  refine s_iload_n E dX9_move_7 rfl rfl ?_
  refine s_vI (As := [AI x1]) (S := []) E (Z_X8_has_7 l D aC b w x1 hJ.1 ) cv_X9_257 rfl rfl rfl (jv_lt hJ (by decide)) (Nat.le_of_ble_eq_true rfl) (Nat.le_of_ble_eq_true rfl) ⟨(Nat.le_of_ble_eq_true rfl), (Nat.le_of_ble_eq_true rfl)⟩ (Nat.le_of_ble_eq_true rfl) dX9_move_8 (fun z_3 u_1 hp_2 => ?_)
  obtain ⟨hz_3, hp_2⟩ := hp_2
  subst hp_2
  refine z_if_eq (tgt := 25) (u := z_3.toInt) E dX9_move_11 (by decide) rfl (fun h_5 => ?_) (fun h_5 => ?_)
  ·
    refine s_bipush (v := (-2)) E dX9_move_25 (by decide) ?_
    exact r_int E dX9_move_27 ⟨⟨by decide, by decide, by first | (left; decide) | (right; decide) | (right; have hb_ := z32 x1; omega), by first | (left; decide) | (right; decide) | (right; have hb_ := z32 x2; omega), by first | (left; decide) | (right; decide) | (right; have hb_ := z32 (w.2.2.1 7 3); omega), by first | (left; decide) | (right; decide) | (right; have hb_ := z32 (w.2.2.1 5 3); omega), by first | (left; decide) | (right; decide) | (right; have hb_ := z32 (w.2.2.1 11 3); omega)⟩, hJ⟩
  ·
    refine s_aload_n E dX9_move_14 rfl rfl ?_
    refine s_gR (r := 2) E fg_X9_20 rfl rfl (jv_lt hJ (by decide)) (jv_r hJ (by decide +kernel)) dX9_move_15 ?_
    refine s_iload_n E dX9_move_18 rfl rfl ?_
    refine s_vI (As := [AI x2]) (S := []) E (Z_X0_hasLady_2 l D aC b w x2 hJ.1 ) cv_X9_139 rfl rfl rfl (jv_lt hJ (by decide)) (Nat.le_of_ble_eq_true rfl) (Nat.le_of_ble_eq_true rfl) ⟨(Nat.le_of_ble_eq_true rfl), (Nat.le_of_ble_eq_true rfl)⟩ (Nat.le_of_ble_eq_true rfl) dX9_move_19 (fun z_8 u_6 hp_7 => ?_)
    obtain ⟨hz_8, hp_7⟩ := hp_7
    subst hp_7
    refine z_if_ne (tgt := 28) (u := z_8.toInt) E dX9_move_22 (by decide) rfl (fun h_10 => ?_) (fun h_10 => ?_)
    ·
      refine s_aload_n E dX9_move_28 rfl rfl ?_
      refine s_gR (r := 2) E fg_X9_20 rfl rfl (jv_lt hJ (by decide)) (jv_r hJ (by decide +kernel)) dX9_move_29 ?_
      refine s_gR (r := 11) E fg_X9_400 rfl rfl (jv_lt hJ (by decide)) (jv_r hJ (by decide +kernel)) dX9_move_32 ?_
      refine s_vI (As := []) (S := []) E (Z_X8_isFull_11 l D aC b w  hJ.1 ) cv_X9_403 rfl rfl rfl (jv_lt hJ (by decide)) (Nat.le_of_ble_eq_true rfl) (Nat.le_of_ble_eq_true rfl) ⟨(Nat.le_of_ble_eq_true rfl), (Nat.le_of_ble_eq_true rfl)⟩ (Nat.le_of_ble_eq_true rfl) dX9_move_35 (fun z_13 u_11 hp_12 => ?_)
      obtain ⟨hz_13, hp_12⟩ := hp_12
      subst hp_12
      refine z_if_eq (tgt := 44) (u := z_13.toInt) E dX9_move_38 (by decide) rfl (fun h_15 => ?_) (fun h_15 => ?_)
      ·
        refine s_aload_n E dX9_move_44 rfl rfl ?_
        refine s_gR (r := 2) E fg_X9_20 rfl rfl (jv_lt hJ (by decide)) (jv_r hJ (by decide +kernel)) dX9_move_45 ?_
        refine s_gR (r := 7) E fg_X9_136 rfl rfl (jv_lt hJ (by decide)) (jv_r hJ (by decide +kernel)) dX9_move_48 ?_
        refine s_iload_n E dX9_move_51 rfl rfl ?_
        refine s_iconst (v := 0) E dX9_move_52 (by decide) ?_
        refine s_vI (As := [AI x1, AI 0]) (S := []) E (Z_X8_cell_7 l D aC b w x1 0 hJ.1 ) cv_X9_129 rfl rfl rfl (jv_lt hJ (by decide)) (Nat.le_of_ble_eq_true rfl) (Nat.le_of_ble_eq_true rfl) ⟨(Nat.le_of_ble_eq_true rfl), (Nat.le_of_ble_eq_true rfl)⟩ (Nat.le_of_ble_eq_true rfl) dX9_move_53 (fun z_18 u_16 hp_17 => ?_)
        obtain ⟨hz_18, hp_17⟩ := hp_17
        subst hp_17
        refine s_istore_n (L2 := [some (AR 0), some (AI x1), some (AI x2), some (AI z_18)]) E dX9_move_56 rfl (by decide) rfl ?_
        refine s_aload_n E dX9_move_57 rfl rfl ?_
        refine s_gR (r := 2) E fg_X9_20 rfl rfl (jv_lt hJ (by decide)) (jv_r hJ (by decide +kernel)) dX9_move_58 ?_
        refine s_iload_n E dX9_move_61 rfl rfl ?_
        refine s_iload_n E dX9_move_62 rfl rfl ?_
        refine s_vV (As := [AI x1, AI x2]) (S := []) E (Z_X0_actMove_2 l D aC b w x1 x2 hJ.1 ) cv_X9_410 rfl rfl rfl (jv_lt hJ (by decide)) (Nat.le_of_ble_eq_true rfl) (Nat.le_of_ble_eq_true rfl) ⟨(Nat.le_of_ble_eq_true rfl), (Nat.le_of_ble_eq_true rfl)⟩ (Nat.le_of_ble_eq_true rfl) dX9_move_63 (fun u_20 hp_21 => ?_)
        have hj_22 := jv_trans hJ hp_21
        refine s_iload_n E dX9_move_66 rfl rfl ?_
        exact r_int E dX9_move_67 ⟨⟨by have hb_ := z32 z_18; omega, by have hb_ := z32 z_18; omega, by first | (right; decide) | (have hb_ := z32 z_18; omega) | (have hb_ := z32 z_18; have hc_ := z32 x1; omega), by first | (right; decide) | (have hb_ := z32 z_18; omega) | (have hb_ := z32 z_18; have hc_ := z32 x2; omega), by first | (right; decide) | (have hb_ := z32 z_18; omega) | (have hb_ := z32 z_18; have hc_ := z32 (w.2.2.1 7 3); omega), by first | (right; decide) | (have hb_ := z32 z_18; omega) | (have hb_ := z32 z_18; have hc_ := z32 (w.2.2.1 5 3); omega), by first | (right; decide) | (have hb_ := z32 z_18; omega) | (have hb_ := z32 z_18; have hc_ := z32 (w.2.2.1 11 3); omega)⟩, hj_22⟩
      ·
        refine s_bipush (v := (-5)) E dX9_move_41 (by decide) ?_
        exact r_int E dX9_move_43 ⟨⟨by decide, by decide, by first | (left; decide) | (right; decide) | (right; have hb_ := z32 x1; omega), by first | (left; decide) | (right; decide) | (right; have hb_ := z32 x2; omega), by first | (left; decide) | (right; decide) | (right; have hb_ := z32 (w.2.2.1 7 3); omega), by first | (left; decide) | (right; decide) | (right; have hb_ := z32 (w.2.2.1 5 3); omega), by first | (left; decide) | (right; decide) | (right; have hb_ := z32 (w.2.2.1 11 3); omega)⟩, hJ⟩
    ·
      refine s_bipush (v := (-2)) E dX9_move_25 (by decide) ?_
      exact r_int E dX9_move_27 ⟨⟨by decide, by decide, by first | (left; decide) | (right; decide) | (right; have hb_ := z32 x1; omega), by first | (left; decide) | (right; decide) | (right; have hb_ := z32 x2; omega), by first | (left; decide) | (right; decide) | (right; have hb_ := z32 (w.2.2.1 7 3); omega), by first | (left; decide) | (right; decide) | (right; have hb_ := z32 (w.2.2.1 5 3); omega), by first | (left; decide) | (right; decide) | (right; have hb_ := z32 (w.2.2.1 11 3); omega)⟩, hJ⟩
set_option maxRecDepth 20000 in
set_option maxHeartbeats 2000000 in
theorem Z_X8_dropLast_11 (l : Launch) (D : va_G) (aC : Nat → ClassId) (b : Nat) (w : XW)  (hI : Iv w)  : CnV l D aC b M_X8_dropLast 1 21 0 0 [AR 11] w (fun u => Jv w u) := by
  refine cn_V (own := RX8) (nm := "dropLast") (L0 := [some (AR 11)]) (by decide +kernel) rfl rfl (Nat.le_of_ble_eq_true rfl) rfl ?_
  intro p e s m args below meth c E hin
  have hJ : Jv w w := jv_rfl hI
  refine s_aload_n E dX8_dropLast_0 rfl rfl ?_
  refine s_iconst (v := 0) E dX8_dropLast_1 (by decide) ?_
  refine s_aload_n E dX8_dropLast_2 rfl rfl ?_
  refine s_gI E fg_X8_28 rfl rfl (jv_lt hJ (by decide)) dX8_dropLast_3 ?_
  refine z_nm (P := fun z => z.toInt = (w.2.2.1 11 3).toInt ∧ 0 ≤ z.toInt ∧ z.toInt ≤ 30) ⟨rfl, (rg_11_3 hJ)⟩ (fun z_1 hz_1 => ?_)
  refine s_iconst (v := 1) E dX8_dropLast_6 (by decide) ?_
  refine z_isub (u := z_1.toInt) (v := 1) E dX8_dropLast_7 rfl (by decide) (by omega) (by omega) (fun z_2 hz_2 => ?_)
  refine z_max (u := 0) (v := z_2.toInt) E ⟨k_40, k_41, k_4, k_42⟩ (Nat.le_of_ble_eq_true rfl) (Nat.le_of_ble_eq_true rfl) (Nat.le_of_ble_eq_true rfl) (Nat.le_of_ble_eq_true rfl) dX8_dropLast_8 (by decide) rfl (fun z_3 hz_3 => ?_)
  refine s_pI E fp_X8_28 (Or.inl rfl) rfl (jv_lt hJ (by decide)) dX8_dropLast_11 ?_
  refine s_gen (P := Jv w) (jv_f_11_3 hJ (by have hb_ := z32 z_3; omega) (by have hb_ := z32 z_3; omega)) (fun v_4 hj_5 => ?_)
  exact r_void E dX8_dropLast_14 hj_5
set_option maxRecDepth 20000 in
set_option maxHeartbeats 2000000 in
theorem Z_X0_takeBack_2 (l : Launch) (D : va_G) (aC : Nat → ClassId) (b : Nat) (w : XW)  (hI : Iv w)  : CnV l D aC b M_X0_takeBack 2 45 0 0 [AR 2] w (fun u => Jv w u) := by
  refine cn_V (own := RX0) (nm := "takeBack") (L0 := [some (AR 2), none]) (by decide +kernel) rfl rfl (Nat.le_of_ble_eq_true rfl) rfl ?_
  intro p e s m args below meth c E hin
  have hJ : Jv w w := jv_rfl hI
  refine s_aload_n E dX0_takeBack_0 rfl rfl ?_
  refine s_gR (r := 11) E fg_X0_29 rfl rfl (jv_lt hJ (by decide)) (jv_r hJ (by decide +kernel)) dX0_takeBack_1 ?_
  refine s_gI E fg_X0_67 rfl rfl (jv_lt hJ (by decide)) dX0_takeBack_4 ?_
  refine z_nm (P := fun z => z.toInt = (w.2.2.1 11 3).toInt ∧ 0 ≤ z.toInt ∧ z.toInt ≤ 30) ⟨rfl, (rg_11_3 hJ)⟩ (fun z_1 hz_1 => ?_)
  refine s_iconst (v := 1) E dX0_takeBack_7 (by decide) ?_
  refine z_isub (u := z_1.toInt) (v := 1) E dX0_takeBack_8 rfl (by decide) (by omega) (by omega) (fun z_2 hz_2 => ?_)
  refine s_istore_n (L2 := [some (AR 2), some (AI z_2)]) E dX0_takeBack_9 rfl (by decide) rfl ?_
  refine s_aload_n E dX0_takeBack_10 rfl rfl ?_
  refine s_gR (r := 11) E fg_X0_29 rfl rfl (jv_lt hJ (by decide)) (jv_r hJ (by decide +kernel)) dX0_takeBack_11 ?_
  refine s_iload_n E dX0_takeBack_14 rfl rfl ?_
  refine s_iconst (v := 0) E dX0_takeBack_15 (by decide) ?_
  refine s_vI (As := [AI z_2, AI 0]) (S := []) E (Z_X8_cell_11 l D aC b w z_2 0 hJ.1 ) cv_X0_70 rfl rfl rfl (jv_lt hJ (by decide)) (Nat.le_of_ble_eq_true rfl) (Nat.le_of_ble_eq_true rfl) ⟨(Nat.le_of_ble_eq_true rfl), (Nat.le_of_ble_eq_true rfl)⟩ (Nat.le_of_ble_eq_true rfl) dX0_takeBack_16 (fun z_5 u_3 hp_4 => ?_)
  obtain ⟨hz_5, hp_4⟩ := hp_4
  subst hp_4
  refine s_iconst (v := 1) E dX0_takeBack_19 (by decide) ?_
  refine z_icmp_ne (tgt := 49) (u := z_5.toInt) (v := 1) E dX0_takeBack_20 (by decide) rfl (by decide) (fun h_7 => ?_) (fun h_7 => ?_)
  ·
    refine s_aload_n E dX0_takeBack_49 rfl rfl ?_
    refine s_gR (r := 11) E fg_X0_29 rfl rfl (jv_lt hJ (by decide)) (jv_r hJ (by decide +kernel)) dX0_takeBack_50 ?_
    refine s_vV (As := []) (S := []) E (Z_X8_dropLast_11 l D aC b w  hJ.1 ) cv_X0_82 rfl rfl rfl (jv_lt hJ (by decide)) (Nat.le_of_ble_eq_true rfl) (Nat.le_of_ble_eq_true rfl) ⟨(Nat.le_of_ble_eq_true rfl), (Nat.le_of_ble_eq_true rfl)⟩ (Nat.le_of_ble_eq_true rfl) dX0_takeBack_53 (fun u_8 hp_9 => ?_)
    have hj_10 := jv_trans hJ hp_9
    exact r_void E dX0_takeBack_56 hj_10
  ·
    refine s_aload_n E dX0_takeBack_23 rfl rfl ?_
    refine s_gR (r := 7) E fg_X0_23 rfl rfl (jv_lt hJ (by decide)) (jv_r hJ (by decide +kernel)) dX0_takeBack_24 ?_
    refine s_aload_n E dX0_takeBack_27 rfl rfl ?_
    refine s_gR (r := 11) E fg_X0_29 rfl rfl (jv_lt hJ (by decide)) (jv_r hJ (by decide +kernel)) dX0_takeBack_28 ?_
    refine s_iload_n E dX0_takeBack_31 rfl rfl ?_
    refine s_iconst (v := 1) E dX0_takeBack_32 (by decide) ?_
    refine s_vI (As := [AI z_2, AI 1]) (S := [AR 7]) E (Z_X8_cell_11 l D aC b w z_2 1 hJ.1 ) cv_X0_70 rfl rfl rfl (jv_lt hJ (by decide)) (Nat.le_of_ble_eq_true rfl) (Nat.le_of_ble_eq_true rfl) ⟨(Nat.le_of_ble_eq_true rfl), (Nat.le_of_ble_eq_true rfl)⟩ (Nat.le_of_ble_eq_true rfl) dX0_takeBack_33 (fun z_13 u_11 hp_12 => ?_)
    obtain ⟨hz_13, hp_12⟩ := hp_12
    subst hp_12
    refine s_iconst (v := 0) E dX0_takeBack_36 (by decide) ?_
    refine s_aload_n E dX0_takeBack_37 rfl rfl ?_
    refine s_gR (r := 11) E fg_X0_29 rfl rfl (jv_lt hJ (by decide)) (jv_r hJ (by decide +kernel)) dX0_takeBack_38 ?_
    refine s_iload_n E dX0_takeBack_41 rfl rfl ?_
    refine s_iconst (v := 3) E dX0_takeBack_42 (by decide) ?_
    refine s_vI (As := [AI z_2, AI 3]) (S := [AI 0, AI z_13, AR 7]) E (Z_X8_cell_11 l D aC b w z_2 3 hJ.1 ) cv_X0_70 rfl rfl rfl (jv_lt hJ (by decide)) (Nat.le_of_ble_eq_true rfl) (Nat.le_of_ble_eq_true rfl) ⟨(Nat.le_of_ble_eq_true rfl), (Nat.le_of_ble_eq_true rfl)⟩ (Nat.le_of_ble_eq_true rfl) dX0_takeBack_43 (fun z_17 u_15 hp_16 => ?_)
    obtain ⟨hz_17, hp_16⟩ := hp_16
    subst hp_16
    refine s_vV (As := [AI z_13, AI 0, AI z_17]) (S := []) E (Z_X8_put_7 l D aC b w z_13 0 z_17 hJ.1 ) cv_X0_78 rfl rfl rfl (jv_lt hJ (by decide)) (Nat.le_of_ble_eq_true rfl) (Nat.le_of_ble_eq_true rfl) ⟨(Nat.le_of_ble_eq_true rfl), (Nat.le_of_ble_eq_true rfl)⟩ (Nat.le_of_ble_eq_true rfl) dX0_takeBack_46 (fun u_19 hp_20 => ?_)
    have hj_21 := jv_trans hJ hp_20
    refine s_aload_n E dX0_takeBack_49 rfl rfl ?_
    refine s_gR (r := 11) E fg_X0_29 rfl rfl (jv_lt hj_21 (by decide)) (jv_r hj_21 (by decide +kernel)) dX0_takeBack_50 ?_
    refine s_vV (As := []) (S := []) E (Z_X8_dropLast_11 l D aC b u_19  hj_21.1 ) cv_X0_82 rfl rfl rfl (jv_lt hj_21 (by decide)) (Nat.le_of_ble_eq_true rfl) (Nat.le_of_ble_eq_true rfl) ⟨(Nat.le_of_ble_eq_true rfl), (Nat.le_of_ble_eq_true rfl)⟩ (Nat.le_of_ble_eq_true rfl) dX0_takeBack_53 (fun u_22 hp_23 => ?_)
    have hj_24 := jv_trans hj_21 hp_23
    exact r_void E dX0_takeBack_56 hj_24
set_option maxRecDepth 20000 in
set_option maxHeartbeats 2000000 in
theorem Z_X9_undo_0 (l : Launch) (D : va_G) (aC : Nat → ClassId) (b : Nat) (w : XW)  (hI : Iv w)  : CnI l D aC b M_X9_undo 6 140 0 0 [AR 0] w (fun r u => ((-5) ≤ r.toInt ∧ r.toInt ≤ 30 ∧ (¬ r.toInt = 0 ∨ (1 ≤ (w.2.2.1 2 0).toInt ∧ (w.2.2.1 2 0).toInt ≤ 2147483647)) ∧ (¬ r.toInt = 0 ∨ (1 ≤ (w.2.2.1 11 3).toInt ∧ (w.2.2.1 11 3).toInt ≤ 30))) ∧ Jv w u) := by
  refine cn_I (own := RX9) (nm := "undo") (L0 := [some (AR 0)]) (by decide +kernel) rfl rfl (Nat.le_of_ble_eq_true rfl) rfl ?_
  intro p e s m args below meth c E hin
  have hJ : Jv w w := jv_rfl hI
  refine s_aload_n E dX9_undo_0 rfl rfl ?_
  refine s_gR (r := 2) E fg_X9_20 rfl rfl (jv_lt hJ (by decide)) (jv_r hJ (by decide +kernel)) dX9_undo_1 ?_
  refine s_vI (As := []) (S := []) E (Z_X0_isTold_2 l D aC b w  hJ.1 ) cv_X9_184 rfl rfl rfl (jv_lt hJ (by decide)) (Nat.le_of_ble_eq_true rfl) (Nat.le_of_ble_eq_true rfl) ⟨(Nat.le_of_ble_eq_true rfl), (Nat.le_of_ble_eq_true rfl)⟩ (Nat.le_of_ble_eq_true rfl) dX9_undo_4 (fun z_3 u_1 hp_2 => ?_)
  obtain ⟨hz_3, hp_2⟩ := hp_2
  subst hp_2
  refine z_if_ne (tgt := 13) (u := z_3.toInt) E dX9_undo_7 (by decide) rfl (fun h_5 => ?_) (fun h_5 => ?_)
  ·
    refine s_aload_n E dX9_undo_13 rfl rfl ?_
    refine s_gR (r := 2) E fg_X9_20 rfl rfl (jv_lt hJ (by decide)) (jv_r hJ (by decide +kernel)) dX9_undo_14 ?_
    refine s_gR (r := 11) E fg_X9_400 rfl rfl (jv_lt hJ (by decide)) (jv_r hJ (by decide +kernel)) dX9_undo_17 ?_
    refine s_gI E fg_X9_200 rfl rfl (jv_lt hJ (by decide)) dX9_undo_20 ?_
    refine z_nm (P := fun z => z.toInt = (w.2.2.1 11 3).toInt ∧ 0 ≤ z.toInt ∧ z.toInt ≤ 30) ⟨rfl, (rg_11_3 hJ)⟩ (fun z_6 hz_6 => ?_)
    refine z_if_ne (tgt := 29) (u := z_6.toInt) E dX9_undo_23 (by decide) rfl (fun h_7 => ?_) (fun h_7 => ?_)
    ·
      refine s_aload_n E dX9_undo_29 rfl rfl ?_
      refine s_gR (r := 2) E fg_X9_20 rfl rfl (jv_lt hJ (by decide)) (jv_r hJ (by decide +kernel)) dX9_undo_30 ?_
      refine s_vV (As := []) (S := []) E (Z_X0_takeBack_2 l D aC b w  hJ.1 ) cv_X9_414 rfl rfl rfl (jv_lt hJ (by decide)) (Nat.le_of_ble_eq_true rfl) (Nat.le_of_ble_eq_true rfl) ⟨(Nat.le_of_ble_eq_true rfl), (Nat.le_of_ble_eq_true rfl)⟩ (Nat.le_of_ble_eq_true rfl) dX9_undo_33 (fun u_8 hp_9 => ?_)
      have hj_10 := jv_trans hJ hp_9
      refine s_aload_n E dX9_undo_36 rfl rfl ?_
      refine s_vV (As := []) (S := []) E (Z_X9_settle_0 l D aC b u_8  hj_10.1 ) cv_X9_107 rfl rfl rfl (jv_lt hj_10 (by decide)) (Nat.le_of_ble_eq_true rfl) (Nat.le_of_ble_eq_true rfl) ⟨(Nat.le_of_ble_eq_true rfl), (Nat.le_of_ble_eq_true rfl)⟩ (Nat.le_of_ble_eq_true rfl) dX9_undo_37 (fun u_11 hp_12 => ?_)
      have hj_13 := jv_trans hj_10 hp_12
      refine s_aload_n E dX9_undo_40 rfl rfl ?_
      refine s_gR (r := 2) E fg_X9_20 rfl rfl (jv_lt hj_13 (by decide)) (jv_r hj_13 (by decide +kernel)) dX9_undo_41 ?_
      refine s_gR (r := 11) E fg_X9_400 rfl rfl (jv_lt hj_13 (by decide)) (jv_r hj_13 (by decide +kernel)) dX9_undo_44 ?_
      refine s_gI E fg_X9_200 rfl rfl (jv_lt hj_13 (by decide)) dX9_undo_47 ?_
      refine z_nm (P := fun z => z.toInt = (u_11.2.2.1 11 3).toInt ∧ 0 ≤ z.toInt ∧ z.toInt ≤ 30) ⟨rfl, (rg_11_3 hj_13)⟩ (fun z_14 hz_14 => ?_)
      exact r_int E dX9_undo_50 ⟨⟨by have hb_ := z32 z_14; omega, by have hb_ := z32 z_14; omega, by first | (right; decide) | (have hb_ := z32 z_14; omega) | (have hb_ := z32 z_14; have hc_ := z32 (w.2.2.1 2 0); omega), by first | (right; decide) | (have hb_ := z32 z_14; omega) | (have hb_ := z32 z_14; have hc_ := z32 (w.2.2.1 11 3); omega)⟩, hj_13⟩
    ·
      refine s_bipush (v := (-5)) E dX9_undo_26 (by decide) ?_
      exact r_int E dX9_undo_28 ⟨⟨by decide, by decide, by first | (left; decide) | (right; decide) | (right; have hb_ := z32 (w.2.2.1 2 0); omega), by first | (left; decide) | (right; decide) | (right; have hb_ := z32 (w.2.2.1 11 3); omega)⟩, hJ⟩
  ·
    refine s_bipush (v := (-2)) E dX9_undo_10 (by decide) ?_
    exact r_int E dX9_undo_12 ⟨⟨by decide, by decide, by first | (left; decide) | (right; decide) | (right; have hb_ := z32 (w.2.2.1 2 0); omega), by first | (left; decide) | (right; decide) | (right; have hb_ := z32 (w.2.2.1 11 3); omega)⟩, hJ⟩
set_option maxRecDepth 20000 in
set_option maxHeartbeats 2000000 in
theorem Z_X9_anew_0 (l : Launch) (D : va_G) (aC : Nat → ClassId) (b : Nat) (w : XW)  (hI : Iv w)  : CnI l D aC b M_X9_anew 6 140 0 0 [AR 0] w (fun r u => ((-2) ≤ r.toInt ∧ r.toInt ≤ 30 ∧ (¬ r.toInt = 0 ∨ (1 ≤ (w.2.2.1 2 0).toInt ∧ (w.2.2.1 2 0).toInt ≤ 2147483647))) ∧ Jv w u) := by
  refine cn_I (own := RX9) (nm := "anew") (L0 := [some (AR 0), none, none]) (by decide +kernel) rfl rfl (Nat.le_of_ble_eq_true rfl) rfl ?_
  intro p e s m args below meth c E hin
  have hJ : Jv w w := jv_rfl hI
  refine s_aload_n E dX9_anew_0 rfl rfl ?_
  refine s_gR (r := 2) E fg_X9_20 rfl rfl (jv_lt hJ (by decide)) (jv_r hJ (by decide +kernel)) dX9_anew_1 ?_
  refine s_vI (As := []) (S := []) E (Z_X0_isTold_2 l D aC b w  hJ.1 ) cv_X9_184 rfl rfl rfl (jv_lt hJ (by decide)) (Nat.le_of_ble_eq_true rfl) (Nat.le_of_ble_eq_true rfl) ⟨(Nat.le_of_ble_eq_true rfl), (Nat.le_of_ble_eq_true rfl)⟩ (Nat.le_of_ble_eq_true rfl) dX9_anew_4 (fun z_3 u_1 hp_2 => ?_)
  obtain ⟨hz_3, hp_2⟩ := hp_2
  subst hp_2
  refine z_if_ne (tgt := 13) (u := z_3.toInt) E dX9_anew_7 (by decide) rfl (fun h_5 => ?_) (fun h_5 => ?_)
  ·
    refine s_aload_n E dX9_anew_13 rfl rfl ?_
    refine s_gR (r := 2) E fg_X9_20 rfl rfl (jv_lt hJ (by decide)) (jv_r hJ (by decide +kernel)) dX9_anew_14 ?_
    refine s_gR (r := 11) E fg_X9_400 rfl rfl (jv_lt hJ (by decide)) (jv_r hJ (by decide +kernel)) dX9_anew_17 ?_
    refine s_gI E fg_X9_200 rfl rfl (jv_lt hJ (by decide)) dX9_anew_20 ?_
    refine z_nm (P := fun z => z.toInt = (w.2.2.1 11 3).toInt ∧ 0 ≤ z.toInt ∧ z.toInt ≤ 30) ⟨rfl, (rg_11_3 hJ)⟩ (fun z_6 hz_6 => ?_)
    refine s_istore_n (L2 := [some (AR 0), some (AI z_6), none]) E dX9_anew_23 rfl (by decide) rfl ?_
    refine s_iconst (v := 0) E dX9_anew_24 (by decide) ?_
    refine s_istore_n (L2 := [some (AR 0), some (AI z_6), some (AI 0)]) E dX9_anew_25 rfl (by decide) rfl ?_
    refine z_loop (St := Int32) (Pi := fun q26_2_6 v26 => (0 ≤ q26_2_6.toInt ∧ q26_2_6.toInt ≤ 30) ∧ Jv w v26) (Lf := fun q26_2_6 => [some (AR 0), some (AI z_6), some (AI q26_2_6)]) (fun q26_2_6 _ => (31 - q26_2_6.toInt).toNat) 0 ⟨⟨by decide, by decide⟩, hJ⟩ ?_
    rintro q26_2_6 v26 ⟨hq26_2, hj_7⟩ ih26
    refine s_loc (L2 := [some (AR 0), some (AI z_6), some (AI q26_2_6)]) rfl ?_
    refine s_iload_n E dX9_anew_26 rfl rfl ?_
    refine s_iload_n E dX9_anew_27 rfl rfl ?_
    refine z_icmp_ge (tgt := 44) (u := q26_2_6.toInt) (v := z_6.toInt) E dX9_anew_28 (by decide) rfl rfl (fun h_8 => ?_) (fun h_8 => ?_)
    ·
      refine s_aload_n E dX9_anew_44 rfl rfl ?_
      refine s_vV (As := []) (S := []) E (Z_X9_settle_0 l D aC b v26  hj_7.1 ) cv_X9_107 rfl rfl rfl (jv_lt hj_7 (by decide)) (Nat.le_of_ble_eq_true rfl) (Nat.le_of_ble_eq_true rfl) ⟨(Nat.le_of_ble_eq_true rfl), (Nat.le_of_ble_eq_true rfl)⟩ (Nat.le_of_ble_eq_true rfl) dX9_anew_45 (fun u_9 hp_10 => ?_)
      have hj_11 := jv_trans hj_7 hp_10
      refine s_iload_n E dX9_anew_48 rfl rfl ?_
      exact r_int E dX9_anew_49 ⟨⟨by have hb_ := z32 z_6; omega, by have hb_ := z32 z_6; omega, by first | (right; decide) | (have hb_ := z32 z_6; omega) | (have hb_ := z32 z_6; have hc_ := z32 (w.2.2.1 2 0); omega)⟩, hj_11⟩
    ·
      refine s_aload_n E dX9_anew_31 rfl rfl ?_
      refine s_gR (r := 2) E fg_X9_20 rfl rfl (jv_lt hj_7 (by decide)) (jv_r hj_7 (by decide +kernel)) dX9_anew_32 ?_
      refine s_vV (As := []) (S := []) E (Z_X0_takeBack_2 l D aC b v26  hj_7.1 ) cv_X9_414 rfl rfl rfl (jv_lt hj_7 (by decide)) (Nat.le_of_ble_eq_true rfl) (Nat.le_of_ble_eq_true rfl) ⟨(Nat.le_of_ble_eq_true rfl), (Nat.le_of_ble_eq_true rfl)⟩ (Nat.le_of_ble_eq_true rfl) dX9_anew_35 (fun u_12 hp_13 => ?_)
      have hj_14 := jv_trans hj_7 hp_13
      refine z_iinc (u := q26_2_6.toInt) (L2 := fun z_15 => [some (AR 0), some (AI z_6), some (AI z_15)]) E dX9_anew_38 rfl rfl (by decide) (fun _ => rfl) (by decide) (by omega) (by omega) (fun z_15 hz_15 => ?_)
      refine s_goto (tgt := 26) E dX9_anew_41 (by decide) ?_
      exact ih26 z_15 u_12 ⟨⟨by have hb_ := z32 z_15; omega, by have hb_ := z32 z_15; omega⟩, hj_14⟩ (by first | omega | decide | (dsimp only; omega) | (dsimp only; decide))
  ·
    refine s_bipush (v := (-2)) E dX9_anew_10 (by decide) ?_
    exact r_int E dX9_anew_12 ⟨⟨by decide, by decide, by first | (left; decide) | (right; decide) | (right; have hb_ := z32 (w.2.2.1 2 0); omega)⟩, hJ⟩
set_option maxRecDepth 20000 in
set_option maxHeartbeats 2000000 in
theorem Z_X9_isSeed (l : Launch) (D : va_G) (aC : Nat → ClassId) (b : Nat) (w : XW) (x1 : Int32) (hI : Iv w)  : CnI l D aC b M_X9_isSeed 0 0 0 0 [AI x1] w (fun r u => (0 ≤ r.toInt ∧ r.toInt ≤ 1 ∧ (r.toInt = 0 ∨ (0 ≤ x1.toInt ∧ x1.toInt ≤ 2000000000))) ∧ w = u) := by
  refine cn_I (own := RX9) (nm := "isSeed") (L0 := [some (AI x1)]) (by decide +kernel) rfl rfl (Nat.le_of_ble_eq_true rfl) rfl ?_
  intro p e s m args below meth c E hin
  have hJ : Jv w w := jv_rfl hI
  have hb_x1 := z32 x1
  refine s_iload_n E dX9_isSeed_0 rfl rfl ?_
  refine z_if_lt (tgt := 15) (u := x1.toInt) E dX9_isSeed_1 (by decide) rfl (fun h_1 => ?_) (fun h_1 => ?_)
  ·
    refine s_iconst (v := 0) E dX9_isSeed_15 (by decide) ?_
    exact r_bool E dX9_isSeed_16 (Or.inl rfl) ⟨⟨by decide, by decide, by first | (left; decide) | (right; decide) | (right; have hb_ := z32 x1; omega)⟩, rfl⟩
  ·
    refine s_iload_n E dX9_isSeed_4 rfl rfl ?_
    refine s_ldcw E k_1130 rfl dX9_isSeed_5 ?_
    refine z_icmp_gt (tgt := 15) (u := x1.toInt) (v := 2000000000) E dX9_isSeed_8 (by decide) rfl (by decide) (fun h_2 => ?_) (fun h_2 => ?_)
    ·
      refine s_iconst (v := 0) E dX9_isSeed_15 (by decide) ?_
      exact r_bool E dX9_isSeed_16 (Or.inl rfl) ⟨⟨by decide, by decide, by first | (left; decide) | (right; decide) | (right; have hb_ := z32 x1; omega)⟩, rfl⟩
    ·
      refine s_iconst (v := 1) E dX9_isSeed_11 (by decide) ?_
      refine s_goto (tgt := 16) E dX9_isSeed_12 (by decide) ?_
      exact r_bool E dX9_isSeed_16 (Or.inr rfl) ⟨⟨by decide, by decide, by first | (left; decide) | (right; decide) | (right; have hb_ := z32 x1; omega)⟩, rfl⟩
set_option maxRecDepth 20000 in
set_option maxHeartbeats 2000000 in
theorem Z_X9_loudDances_0 (l : Launch) (D : va_G) (aC : Nat → ClassId) (b : Nat) (w : XW) (x1 : Int32) (hI : Iv w)  : CnI l D aC b M_X9_loudDances 0 0 0 0 [AR 0, AI x1] w (fun r u => ((-2147483648) ≤ r.toInt ∧ r.toInt ≤ 2147483647) ∧ w = u) := by
  refine cn_I (own := RX9) (nm := "loudDances") (L0 := [some (AR 0), some (AI x1), none, none, none, none]) (by decide +kernel) rfl rfl (Nat.le_of_ble_eq_true rfl) rfl ?_
  intro p e s m args below meth c E hin
  have hJ : Jv w w := jv_rfl hI
  have hb_x1 := z32 x1
  refine s_iload_n E dX9_loudDances_0 rfl rfl ?_
  refine z_i2l (u := x1.toInt) E dX9_loudDances_1 rfl (fun z_1 hz_1 => ?_)
  refine s_lstore_n (L2 := [some (AR 0), some (AI x1), some (AL z_1), none, none, none]) E dX9_loudDances_2 rfl (by decide) rfl ?_
  refine s_iconst (v := 0) E dX9_loudDances_3 (by decide) ?_
  refine s_istore (L2 := [some (AR 0), some (AI x1), some (AL z_1), none, some (AI 0), none]) E dX9_loudDances_4 (by decide) rfl ?_
  refine s_iconst (v := 0) E dX9_loudDances_6 (by decide) ?_
  refine s_istore (L2 := [some (AR 0), some (AI x1), some (AL z_1), none, some (AI 0), some (AI 0)]) E dX9_loudDances_7 (by decide) rfl ?_
  refine z_loop (St := Int64 × Int32 × Int32) (Pi := fun ⟨q9_2_1, q9_4_1, q9_5_1⟩ v9 => (0 ≤ q9_5_1.toInt ∧ q9_5_1.toInt ≤ 15) ∧ w = v9) (Lf := fun ⟨q9_2_1, q9_4_1, q9_5_1⟩ => [some (AR 0), some (AI x1), some (AL q9_2_1), none, some (AI q9_4_1), some (AI q9_5_1)]) (fun ⟨q9_2_1, q9_4_1, q9_5_1⟩ _ => (16 - q9_5_1.toInt).toNat) ⟨z_1, 0, 0⟩ ⟨⟨by decide, by decide⟩, rfl⟩ ?_
  rintro ⟨q9_2_1, q9_4_1, q9_5_1⟩ v9 ⟨hq9_5, hv_⟩ ih9
  subst hv_
  have hbq9_2 := z64 q9_2_1
  have hbq9_4 := z32 q9_4_1
  refine s_loc (L2 := [some (AR 0), some (AI x1), some (AL q9_2_1), none, some (AI q9_4_1), some (AI q9_5_1)]) rfl ?_
  refine s_iload E dX9_loudDances_9 rfl ?_
  refine s_aload_n E dX9_loudDances_11 rfl rfl ?_
  refine s_gR (r := 2) E fg_X9_20 rfl rfl (jv_lt hJ (by decide)) (jv_r hJ (by decide +kernel)) dX9_loudDances_12 ?_
  refine s_gI E fg_X9_169 rfl rfl (jv_lt hJ (by decide)) dX9_loudDances_15 ?_
  refine z_nm (P := fun z => z.toInt = (w.2.2.1 2 2).toInt ∧ 0 ≤ z.toInt ∧ z.toInt ≤ 14) ⟨rfl, (rg_2_2 hJ)⟩ (fun z_3 hz_3 => ?_)
  refine z_icmp_gt (tgt := 71) (u := q9_5_1.toInt) (v := z_3.toInt) E dX9_loudDances_18 (by decide) rfl rfl (fun h_4 => ?_) (fun h_4 => ?_)
  ·
    refine s_iload E dX9_loudDances_71 rfl ?_
    exact r_int E dX9_loudDances_73 ⟨⟨by have hb_ := z32 q9_4_1; omega, by have hb_ := z32 q9_4_1; omega⟩, rfl⟩
  ·
    refine s_ldc2 E k_1135 rfl dX9_loudDances_21 ?_
    refine s_lload_n E dX9_loudDances_24 rfl rfl ?_
    refine s_lmul E dX9_loudDances_25 ?_
    refine z_anyL (fun z_5 => ?_)
    refine s_ldc2 E k_1136 rfl dX9_loudDances_26 ?_
    refine s_ladd E dX9_loudDances_29 ?_
    refine z_anyL (fun z_6 => ?_)
    refine s_ldc2 E k_1137 rfl dX9_loudDances_30 ?_
    refine s_lrem E dX9_loudDances_33 (z_neL (u := 2147483648) (by decide) (by omega)) ?_
    refine z_anyL (fun z_7 => ?_)
    refine s_lstore_n (L2 := [some (AR 0), some (AI x1), some (AL z_7), none, some (AI q9_4_1), some (AI q9_5_1)]) E dX9_loudDances_34 rfl (by decide) rfl ?_
    refine s_lload_n E dX9_loudDances_35 rfl rfl ?_
    refine s_ldc2 E k_1138 rfl dX9_loudDances_36 ?_
    refine s_ldiv E dX9_loudDances_39 (z_neL (u := 65536) (by decide) (by omega)) ?_
    refine z_anyL (fun z_8 => ?_)
    refine s_ldc2 E k_1139 rfl dX9_loudDances_40 ?_
    refine s_lrem E dX9_loudDances_43 (z_neL (u := 10) (by decide) (by omega)) ?_
    refine z_anyL (fun z_9 => ?_)
    refine s_aload_n E dX9_loudDances_44 rfl rfl ?_
    refine s_gR (r := 2) E fg_X9_20 rfl rfl (jv_lt hJ (by decide)) (jv_r hJ (by decide +kernel)) dX9_loudDances_45 ?_
    refine s_gI E fg_X9_364 rfl rfl (jv_lt hJ (by decide)) dX9_loudDances_48 ?_
    refine z_nm (P := fun z => z.toInt = (w.2.2.1 2 4).toInt ∧ (-2147483648) ≤ z.toInt ∧ z.toInt ≤ 2147483647) ⟨rfl, z32 _⟩ (fun z_10 hz_10 => ?_)
    refine z_i2l (u := z_10.toInt) E dX9_loudDances_51 rfl (fun z_11 hz_11 => ?_)
    refine z_lcmp (u := z_9.toInt) (v := z_11.toInt) E dX9_loudDances_52 rfl rfl (fun z_12 hz_12 => ?_)
    refine z_if_ge (tgt := 65) (u := z_12.toInt) E dX9_loudDances_53 (by decide) rfl (fun h_13 => ?_) (fun h_13 => ?_)
    ·
      refine z_iinc (u := q9_5_1.toInt) (L2 := fun z_14 => [some (AR 0), some (AI x1), some (AL z_7), none, some (AI q9_4_1), some (AI z_14)]) E dX9_loudDances_65 rfl rfl (by decide) (fun _ => rfl) (by decide) (by omega) (by omega) (fun z_14 hz_14 => ?_)
      refine s_goto (tgt := 9) E dX9_loudDances_68 (by decide) ?_
      exact ih9 ⟨z_7, q9_4_1, z_14⟩ w ⟨⟨by have hb_ := z32 z_14; omega, by have hb_ := z32 z_14; omega⟩, rfl⟩ (by first | omega | decide | (dsimp only; omega) | (dsimp only; decide))
    ·
      refine s_iload E dX9_loudDances_56 rfl ?_
      refine s_iconst (v := 1) E dX9_loudDances_58 (by decide) ?_
      refine s_iload E dX9_loudDances_59 rfl ?_
      refine z_shl1 14 (u := q9_5_1.toInt) (B := 16384) E dX9_loudDances_61 rfl (by omega) (by omega) (by decide) (by decide) (fun z_15 hz_15 => ?_)
      refine s_ior E dX9_loudDances_62 ?_
      refine z_nm (P := fun z => (-2147483648) ≤ z.toInt ∧ z.toInt ≤ 2147483647) (z32 _) (fun z_16 hz_16 => ?_)
      refine s_istore (L2 := [some (AR 0), some (AI x1), some (AL z_7), none, some (AI z_16), some (AI q9_5_1)]) E dX9_loudDances_63 (by decide) rfl ?_
      refine z_iinc (u := q9_5_1.toInt) (L2 := fun z_17 => [some (AR 0), some (AI x1), some (AL z_7), none, some (AI z_16), some (AI z_17)]) E dX9_loudDances_65 rfl rfl (by decide) (fun _ => rfl) (by decide) (by omega) (by omega) (fun z_17 hz_17 => ?_)
      refine s_goto (tgt := 9) E dX9_loudDances_68 (by decide) ?_
      exact ih9 ⟨z_7, z_16, z_17⟩ w ⟨⟨by have hb_ := z32 z_17; omega, by have hb_ := z32 z_17; omega⟩, rfl⟩ (by first | omega | decide | (dsimp only; omega) | (dsimp only; decide))
set_option maxRecDepth 20000 in
set_option maxHeartbeats 2000000 in
theorem Z_X9_drawnHolders_0 (l : Launch) (D : va_G) (aC : Nat → ClassId) (b : Nat) (w : XW) (x1 : Int32) (x2 : Int32) (hI : Iv w)  : CnI l D aC b M_X9_drawnHolders 4 94 0 0 [AR 0, AI x1, AI x2] w (fun r u => ((-2147483648) ≤ r.toInt ∧ r.toInt ≤ 2147483647) ∧ Jv w u) := by
  refine cn_I (own := RX9) (nm := "drawnHolders") (L0 := [some (AR 0), some (AI x1), some (AI x2)]) (by decide +kernel) rfl rfl (Nat.le_of_ble_eq_true rfl) rfl ?_
  intro p e s m args below meth c E hin
  have hJ : Jv w w := jv_rfl hI
  have hb_x1 := z32 x1
  have hb_x2 := z32 x2
  refine s_aload_n E dX9_drawnHolders_0 rfl rfl ?_
  refine s_gR (r := 81) E fg_X9_64 rfl rfl (jv_lt hJ (by decide)) (jv_r hJ (by decide +kernel)) dX9_drawnHolders_1 ?_
  refine s_aload_n E dX9_drawnHolders_4 rfl rfl ?_
  refine s_gR (r := 69) E fg_X9_54 rfl rfl (jv_lt hJ (by decide)) (jv_r hJ (by decide +kernel)) dX9_drawnHolders_5 ?_
  refine s_iload_n E dX9_drawnHolders_8 rfl rfl ?_
  refine s_iload_n E dX9_drawnHolders_9 rfl rfl ?_
  refine s_vV (As := [AR 69, AI x2, AI x1]) (S := []) E (Z_X5_follow_81_r69 l D aC b w x2 x1 hJ.1 ) cv_X9_220 rfl rfl rfl (jv_lt hJ (by decide)) (Nat.le_of_ble_eq_true rfl) (Nat.le_of_ble_eq_true rfl) ⟨(Nat.le_of_ble_eq_true rfl), (Nat.le_of_ble_eq_true rfl)⟩ (Nat.le_of_ble_eq_true rfl) dX9_drawnHolders_10 (fun u_1 hp_2 => ?_)
  have hj_3 := jv_trans hJ hp_2
  refine s_aload_n E dX9_drawnHolders_13 rfl rfl ?_
  refine s_gR (r := 81) E fg_X9_64 rfl rfl (jv_lt hj_3 (by decide)) (jv_r hj_3 (by decide +kernel)) dX9_drawnHolders_14 ?_
  refine s_aload_n E dX9_drawnHolders_17 rfl rfl ?_
  refine s_gR (r := 2) E fg_X9_20 rfl rfl (jv_lt hj_3 (by decide)) (jv_r hj_3 (by decide +kernel)) dX9_drawnHolders_18 ?_
  refine s_gI E fg_X9_169 rfl rfl (jv_lt hj_3 (by decide)) dX9_drawnHolders_21 ?_
  refine z_nm (P := fun z => z.toInt = (u_1.2.2.1 2 2).toInt ∧ 0 ≤ z.toInt ∧ z.toInt ≤ 14) ⟨rfl, (rg_2_2 hj_3)⟩ (fun z_4 hz_4 => ?_)
  refine s_vI (As := [AI z_4]) (S := []) E (Z_X5_behind_81 l D aC b u_1 z_4 hj_3.1 ) cv_X9_224 rfl rfl rfl (jv_lt hj_3 (by decide)) (Nat.le_of_ble_eq_true rfl) (Nat.le_of_ble_eq_true rfl) ⟨(Nat.le_of_ble_eq_true rfl), (Nat.le_of_ble_eq_true rfl)⟩ (Nat.le_of_ble_eq_true rfl) dX9_drawnHolders_24 (fun z_7 u_5 hp_6 => ?_)
  obtain ⟨hz_7, hp_6⟩ := hp_6
  subst hp_6
  exact r_int E dX9_drawnHolders_27 ⟨⟨by have hb_ := z32 z_7; omega, by have hb_ := z32 z_7; omega⟩, hj_3⟩
set_option maxRecDepth 20000 in
set_option maxHeartbeats 2000000 in
theorem Z_X9_drawn_0 (l : Launch) (D : va_G) (aC : Nat → ClassId) (b : Nat) (w : XW) (x1 : Int32) (x2 : Int32) (x3 : Int32) (hI : Iv w)  : CnI l D aC b M_X9_drawn 5 116 0 0 [AR 0, AI x1, AI x2, AI x3] w (fun r u => ((-2147483648) ≤ r.toInt ∧ r.toInt ≤ 2147483647 ∧ (¬ r.toInt = 0 ∨ (0 ≤ x1.toInt ∧ x1.toInt ≤ 2000000000)) ∧ (¬ r.toInt = 0 ∨ (0 ≤ x2.toInt ∧ x2.toInt ≤ 5)) ∧ (¬ r.toInt = 0 ∨ (0 ≤ x3.toInt ∧ x3.toInt ≤ 1)) ∧ (¬ r.toInt = 0 ∨ (1 ≤ (w.2.2.1 5 3).toInt ∧ (w.2.2.1 5 3).toInt ≤ 6))) ∧ Jv w u) := by
  refine cn_I (own := RX9) (nm := "drawn") (L0 := [some (AR 0), some (AI x1), some (AI x2), some (AI x3), none]) (by decide +kernel) rfl rfl (Nat.le_of_ble_eq_true rfl) rfl ?_
  intro p e s m args below meth c E hin
  have hJ : Jv w w := jv_rfl hI
  have hb_x1 := z32 x1
  have hb_x2 := z32 x2
  have hb_x3 := z32 x3
  refine s_iload_n E dX9_drawn_0 rfl rfl ?_
  refine s_sI (As := [AI x1]) (S := []) E (Z_X9_isSeed l D aC b w x1 hJ.1 ) cs_X9_381 rfl rfl (Nat.le_of_ble_eq_true rfl) (Nat.le_of_ble_eq_true rfl) ⟨(Nat.le_of_ble_eq_true rfl), (Nat.le_of_ble_eq_true rfl)⟩ (Nat.le_of_ble_eq_true rfl) dX9_drawn_1 (fun z_3 u_1 hp_2 => ?_)
  obtain ⟨hz_3, hp_2⟩ := hp_2
  subst hp_2
  refine z_if_eq (tgt := 25) (u := z_3.toInt) E dX9_drawn_4 (by decide) rfl (fun h_5 => ?_) (fun h_5 => ?_)
  ·
    refine s_bipush (v := (-2)) E dX9_drawn_25 (by decide) ?_
    exact r_int E dX9_drawn_27 ⟨⟨by decide, by decide, by first | (left; decide) | (right; decide) | (right; have hb_ := z32 x1; omega), by first | (left; decide) | (right; decide) | (right; have hb_ := z32 x2; omega), by first | (left; decide) | (right; decide) | (right; have hb_ := z32 x3; omega), by first | (left; decide) | (right; decide) | (right; have hb_ := z32 (w.2.2.1 5 3); omega)⟩, hJ⟩
  ·
    refine s_aload_n E dX9_drawn_7 rfl rfl ?_
    refine s_gR (r := 2) E fg_X9_20 rfl rfl (jv_lt hJ (by decide)) (jv_r hJ (by decide +kernel)) dX9_drawn_8 ?_
    refine s_iload_n E dX9_drawn_11 rfl rfl ?_
    refine s_vI (As := [AI x2]) (S := []) E (Z_X0_hasLady_2 l D aC b w x2 hJ.1 ) cv_X9_139 rfl rfl rfl (jv_lt hJ (by decide)) (Nat.le_of_ble_eq_true rfl) (Nat.le_of_ble_eq_true rfl) ⟨(Nat.le_of_ble_eq_true rfl), (Nat.le_of_ble_eq_true rfl)⟩ (Nat.le_of_ble_eq_true rfl) dX9_drawn_12 (fun z_8 u_6 hp_7 => ?_)
    obtain ⟨hz_8, hp_7⟩ := hp_7
    subst hp_7
    refine z_if_eq (tgt := 25) (u := z_8.toInt) E dX9_drawn_15 (by decide) rfl (fun h_10 => ?_) (fun h_10 => ?_)
    ·
      refine s_bipush (v := (-2)) E dX9_drawn_25 (by decide) ?_
      exact r_int E dX9_drawn_27 ⟨⟨by decide, by decide, by first | (left; decide) | (right; decide) | (right; have hb_ := z32 x1; omega), by first | (left; decide) | (right; decide) | (right; have hb_ := z32 x2; omega), by first | (left; decide) | (right; decide) | (right; have hb_ := z32 x3; omega), by first | (left; decide) | (right; decide) | (right; have hb_ := z32 (w.2.2.1 5 3); omega)⟩, hJ⟩
    ·
      refine s_iload_n E dX9_drawn_18 rfl rfl ?_
      refine s_sI (As := [AI x3]) (S := []) E (Z_X9_isPart l D aC b w x3 hJ.1 ) cs_X9_320 rfl rfl (Nat.le_of_ble_eq_true rfl) (Nat.le_of_ble_eq_true rfl) ⟨(Nat.le_of_ble_eq_true rfl), (Nat.le_of_ble_eq_true rfl)⟩ (Nat.le_of_ble_eq_true rfl) dX9_drawn_19 (fun z_13 u_11 hp_12 => ?_)
      obtain ⟨hz_13, hp_12⟩ := hp_12
      subst hp_12
      refine z_if_ne (tgt := 28) (u := z_13.toInt) E dX9_drawn_22 (by decide) rfl (fun h_15 => ?_) (fun h_15 => ?_)
      ·
        refine s_aload_n E dX9_drawn_28 rfl rfl ?_
        refine s_vV (As := []) (S := []) E (Z_X9_passAsTold_0 l D aC b w  hJ.1 ) cv_X9_227 rfl rfl rfl (jv_lt hJ (by decide)) (Nat.le_of_ble_eq_true rfl) (Nat.le_of_ble_eq_true rfl) ⟨(Nat.le_of_ble_eq_true rfl), (Nat.le_of_ble_eq_true rfl)⟩ (Nat.le_of_ble_eq_true rfl) dX9_drawn_29 (fun u_16 hp_17 => ?_)
        have hj_18 := jv_trans hJ hp_17
        refine s_aload_n E dX9_drawn_32 rfl rfl ?_
        refine s_iload_n E dX9_drawn_33 rfl rfl ?_
        refine s_vI (As := [AI x1]) (S := []) E (Z_X9_loudDances_0 l D aC b u_16 x1 hj_18.1 ) cv_X9_384 rfl rfl rfl (jv_lt hj_18 (by decide)) (Nat.le_of_ble_eq_true rfl) (Nat.le_of_ble_eq_true rfl) ⟨(Nat.le_of_ble_eq_true rfl), (Nat.le_of_ble_eq_true rfl)⟩ (Nat.le_of_ble_eq_true rfl) dX9_drawn_34 (fun z_21 u_19 hp_20 => ?_)
        obtain ⟨hz_21, hp_20⟩ := hp_20
        subst hp_20
        refine s_istore (L2 := [some (AR 0), some (AI x1), some (AI x2), some (AI x3), some (AI z_21)]) E dX9_drawn_37 (by decide) rfl ?_
        refine s_iload_n E dX9_drawn_39 rfl rfl ?_
        refine z_if_ne (tgt := 48) (u := x3.toInt) E dX9_drawn_40 (by decide) rfl (fun h_23 => ?_) (fun h_23 => ?_)
        ·
          refine s_aload_n E dX9_drawn_48 rfl rfl ?_
          refine s_iload E dX9_drawn_49 rfl ?_
          refine s_iload_n E dX9_drawn_51 rfl rfl ?_
          refine s_vI (As := [AI z_21, AI x2]) (S := []) E (Z_X9_drawnHolders_0 l D aC b u_16 z_21 x2 hj_18.1 ) cv_X9_387 rfl rfl rfl (jv_lt hj_18 (by decide)) (Nat.le_of_ble_eq_true rfl) (Nat.le_of_ble_eq_true rfl) ⟨(Nat.le_of_ble_eq_true rfl), (Nat.le_of_ble_eq_true rfl)⟩ (Nat.le_of_ble_eq_true rfl) dX9_drawn_52 (fun z_26 u_24 hp_25 => ?_)
          obtain ⟨hz_26, hp_25⟩ := hp_25
          have hj_27 := jv_trans hj_18 hp_25
          exact r_int E dX9_drawn_55 ⟨⟨by have hb_ := z32 z_26; omega, by have hb_ := z32 z_26; omega, by first | (right; decide) | (have hb_ := z32 z_26; omega) | (have hb_ := z32 z_26; have hc_ := z32 x1; omega), by first | (right; decide) | (have hb_ := z32 z_26; omega) | (have hb_ := z32 z_26; have hc_ := z32 x2; omega), by first | (right; decide) | (have hb_ := z32 z_26; omega) | (have hb_ := z32 z_26; have hc_ := z32 x3; omega), by first | (right; decide) | (have hb_ := z32 z_26; omega) | (have hb_ := z32 z_26; have hc_ := z32 (w.2.2.1 5 3); omega)⟩, hj_27⟩
        ·
          refine s_iload E dX9_drawn_43 rfl ?_
          refine s_goto (tgt := 55) E dX9_drawn_45 (by decide) ?_
          exact r_int E dX9_drawn_55 ⟨⟨by have hb_ := z32 z_21; omega, by have hb_ := z32 z_21; omega, by first | (right; decide) | (have hb_ := z32 z_21; omega) | (have hb_ := z32 z_21; have hc_ := z32 x1; omega), by first | (right; decide) | (have hb_ := z32 z_21; omega) | (have hb_ := z32 z_21; have hc_ := z32 x2; omega), by first | (right; decide) | (have hb_ := z32 z_21; omega) | (have hb_ := z32 z_21; have hc_ := z32 x3; omega), by first | (right; decide) | (have hb_ := z32 z_21; omega) | (have hb_ := z32 z_21; have hc_ := z32 (w.2.2.1 5 3); omega)⟩, hj_18⟩
      ·
        refine s_bipush (v := (-2)) E dX9_drawn_25 (by decide) ?_
        exact r_int E dX9_drawn_27 ⟨⟨by decide, by decide, by first | (left; decide) | (right; decide) | (right; have hb_ := z32 x1; omega), by first | (left; decide) | (right; decide) | (right; have hb_ := z32 x2; omega), by first | (left; decide) | (right; decide) | (right; have hb_ := z32 x3; omega), by first | (left; decide) | (right; decide) | (right; have hb_ := z32 (w.2.2.1 5 3); omega)⟩, hJ⟩
set_option maxRecDepth 20000 in
set_option maxHeartbeats 2000000 in
theorem Z_X9_luck_0 (l : Launch) (D : va_G) (aC : Nat → ClassId) (b : Nat) (w : XW) (x1 : Int32) (x2 : Int32) (x3 : Int32) (x4 : Int32) (hI : Iv w)  : CnI l D aC b M_X9_luck 5 116 0 0 [AR 0, AI x1, AI x2, AI x3, AI x4] w (fun r u => ((-2147483648) ≤ r.toInt ∧ r.toInt ≤ 2147483647 ∧ (¬ r.toInt = 0 ∨ (0 ≤ x1.toInt ∧ x1.toInt ≤ 2000000000)) ∧ (¬ r.toInt = 0 ∨ (1 ≤ x2.toInt ∧ x2.toInt ≤ 20)) ∧ (¬ r.toInt = 0 ∨ (0 ≤ x3.toInt ∧ x3.toInt ≤ 5)) ∧ (¬ r.toInt = 0 ∨ (0 ≤ x4.toInt ∧ x4.toInt ≤ 5)) ∧ (¬ r.toInt = 0 ∨ (1 ≤ (w.2.2.1 5 3).toInt ∧ (w.2.2.1 5 3).toInt ≤ 6))) ∧ Jv w u) := by
  refine cn_I (own := RX9) (nm := "luck") (L0 := [some (AR 0), some (AI x1), some (AI x2), some (AI x3), some (AI x4), none, none]) (by decide +kernel) rfl rfl (Nat.le_of_ble_eq_true rfl) rfl ?_
  intro p e s m args below meth c E hin
  have hJ : Jv w w := jv_rfl hI
  have hb_x1 := z32 x1
  have hb_x2 := z32 x2
  have hb_x3 := z32 x3
  have hb_x4 := z32 x4
  refine s_iload_n E dX9_luck_0 rfl rfl ?_
  refine s_sI (As := [AI x1]) (S := []) E (Z_X9_isSeed l D aC b w x1 hJ.1 ) cs_X9_381 rfl rfl (Nat.le_of_ble_eq_true rfl) (Nat.le_of_ble_eq_true rfl) ⟨(Nat.le_of_ble_eq_true rfl), (Nat.le_of_ble_eq_true rfl)⟩ (Nat.le_of_ble_eq_true rfl) dX9_luck_1 (fun z_3 u_1 hp_2 => ?_)
  obtain ⟨hz_3, hp_2⟩ := hp_2
  subst hp_2
  refine z_if_eq (tgt := 41) (u := z_3.toInt) E dX9_luck_4 (by decide) rfl (fun h_5 => ?_) (fun h_5 => ?_)
  ·
    refine s_bipush (v := (-2)) E dX9_luck_41 (by decide) ?_
    exact r_int E dX9_luck_43 ⟨⟨by decide, by decide, by first | (left; decide) | (right; decide) | (right; have hb_ := z32 x1; omega), by first | (left; decide) | (right; decide) | (right; have hb_ := z32 x2; omega), by first | (left; decide) | (right; decide) | (right; have hb_ := z32 x3; omega), by first | (left; decide) | (right; decide) | (right; have hb_ := z32 x4; omega), by first | (left; decide) | (right; decide) | (right; have hb_ := z32 (w.2.2.1 5 3); omega)⟩, hJ⟩
  ·
    refine s_iload_n E dX9_luck_7 rfl rfl ?_
    refine s_iconst (v := 1) E dX9_luck_8 (by decide) ?_
    refine z_icmp_lt (tgt := 41) (u := x2.toInt) (v := 1) E dX9_luck_9 (by decide) rfl (by decide) (fun h_6 => ?_) (fun h_6 => ?_)
    ·
      refine s_bipush (v := (-2)) E dX9_luck_41 (by decide) ?_
      exact r_int E dX9_luck_43 ⟨⟨by decide, by decide, by first | (left; decide) | (right; decide) | (right; have hb_ := z32 x1; omega), by first | (left; decide) | (right; decide) | (right; have hb_ := z32 x2; omega), by first | (left; decide) | (right; decide) | (right; have hb_ := z32 x3; omega), by first | (left; decide) | (right; decide) | (right; have hb_ := z32 x4; omega), by first | (left; decide) | (right; decide) | (right; have hb_ := z32 (w.2.2.1 5 3); omega)⟩, hJ⟩
    ·
      refine s_iload_n E dX9_luck_12 rfl rfl ?_
      refine s_bipush (v := 20) E dX9_luck_13 (by decide) ?_
      refine z_icmp_gt (tgt := 41) (u := x2.toInt) (v := 20) E dX9_luck_15 (by decide) rfl (by decide) (fun h_7 => ?_) (fun h_7 => ?_)
      ·
        refine s_bipush (v := (-2)) E dX9_luck_41 (by decide) ?_
        exact r_int E dX9_luck_43 ⟨⟨by decide, by decide, by first | (left; decide) | (right; decide) | (right; have hb_ := z32 x1; omega), by first | (left; decide) | (right; decide) | (right; have hb_ := z32 x2; omega), by first | (left; decide) | (right; decide) | (right; have hb_ := z32 x3; omega), by first | (left; decide) | (right; decide) | (right; have hb_ := z32 x4; omega), by first | (left; decide) | (right; decide) | (right; have hb_ := z32 (w.2.2.1 5 3); omega)⟩, hJ⟩
      ·
        refine s_aload_n E dX9_luck_18 rfl rfl ?_
        refine s_gR (r := 2) E fg_X9_20 rfl rfl (jv_lt hJ (by decide)) (jv_r hJ (by decide +kernel)) dX9_luck_19 ?_
        refine s_iload_n E dX9_luck_22 rfl rfl ?_
        refine s_vI (As := [AI x3]) (S := []) E (Z_X0_hasLady_2 l D aC b w x3 hJ.1 ) cv_X9_139 rfl rfl rfl (jv_lt hJ (by decide)) (Nat.le_of_ble_eq_true rfl) (Nat.le_of_ble_eq_true rfl) ⟨(Nat.le_of_ble_eq_true rfl), (Nat.le_of_ble_eq_true rfl)⟩ (Nat.le_of_ble_eq_true rfl) dX9_luck_23 (fun z_10 u_8 hp_9 => ?_)
        obtain ⟨hz_10, hp_9⟩ := hp_9
        subst hp_9
        refine z_if_eq (tgt := 41) (u := z_10.toInt) E dX9_luck_26 (by decide) rfl (fun h_12 => ?_) (fun h_12 => ?_)
        ·
          refine s_bipush (v := (-2)) E dX9_luck_41 (by decide) ?_
          exact r_int E dX9_luck_43 ⟨⟨by decide, by decide, by first | (left; decide) | (right; decide) | (right; have hb_ := z32 x1; omega), by first | (left; decide) | (right; decide) | (right; have hb_ := z32 x2; omega), by first | (left; decide) | (right; decide) | (right; have hb_ := z32 x3; omega), by first | (left; decide) | (right; decide) | (right; have hb_ := z32 x4; omega), by first | (left; decide) | (right; decide) | (right; have hb_ := z32 (w.2.2.1 5 3); omega)⟩, hJ⟩
        ·
          refine s_aload_n E dX9_luck_29 rfl rfl ?_
          refine s_gR (r := 2) E fg_X9_20 rfl rfl (jv_lt hJ (by decide)) (jv_r hJ (by decide +kernel)) dX9_luck_30 ?_
          refine s_iload E dX9_luck_33 rfl ?_
          refine s_vI (As := [AI x4]) (S := []) E (Z_X0_hasLady_2 l D aC b w x4 hJ.1 ) cv_X9_139 rfl rfl rfl (jv_lt hJ (by decide)) (Nat.le_of_ble_eq_true rfl) (Nat.le_of_ble_eq_true rfl) ⟨(Nat.le_of_ble_eq_true rfl), (Nat.le_of_ble_eq_true rfl)⟩ (Nat.le_of_ble_eq_true rfl) dX9_luck_35 (fun z_15 u_13 hp_14 => ?_)
          obtain ⟨hz_15, hp_14⟩ := hp_14
          subst hp_14
          refine z_if_ne (tgt := 44) (u := z_15.toInt) E dX9_luck_38 (by decide) rfl (fun h_17 => ?_) (fun h_17 => ?_)
          ·
            refine s_aload_n E dX9_luck_44 rfl rfl ?_
            refine s_vV (As := []) (S := []) E (Z_X9_passAsTold_0 l D aC b w  hJ.1 ) cv_X9_227 rfl rfl rfl (jv_lt hJ (by decide)) (Nat.le_of_ble_eq_true rfl) (Nat.le_of_ble_eq_true rfl) ⟨(Nat.le_of_ble_eq_true rfl), (Nat.le_of_ble_eq_true rfl)⟩ (Nat.le_of_ble_eq_true rfl) dX9_luck_45 (fun u_18 hp_19 => ?_)
            have hj_20 := jv_trans hJ hp_19
            refine s_iconst (v := 0) E dX9_luck_48 (by decide) ?_
            refine s_istore (L2 := [some (AR 0), some (AI x1), some (AI x2), some (AI x3), some (AI x4), some (AI 0), none]) E dX9_luck_49 (by decide) rfl ?_
            refine s_iconst (v := 0) E dX9_luck_51 (by decide) ?_
            refine s_istore (L2 := [some (AR 0), some (AI x1), some (AI x2), some (AI x3), some (AI x4), some (AI 0), some (AI 0)]) E dX9_luck_52 (by decide) rfl ?_
            refine z_loop (St := Int32 × Int32) (Pi := fun ⟨q54_5_20, q54_6_20⟩ v54 => (0 ≤ q54_6_20.toInt ∧ q54_6_20.toInt ≤ 20) ∧ Jv w v54) (Lf := fun ⟨q54_5_20, q54_6_20⟩ => [some (AR 0), some (AI x1), some (AI x2), some (AI x3), some (AI x4), some (AI q54_5_20), some (AI q54_6_20)]) (fun ⟨q54_5_20, q54_6_20⟩ _ => (21 - q54_6_20.toInt).toNat) ⟨0, 0⟩ ⟨⟨by decide, by decide⟩, hj_20⟩ ?_
            rintro ⟨q54_5_20, q54_6_20⟩ v54 ⟨hq54_6, hj_21⟩ ih54
            have hbq54_5 := z32 q54_5_20
            refine s_loc (L2 := [some (AR 0), some (AI x1), some (AI x2), some (AI x3), some (AI x4), some (AI q54_5_20), some (AI q54_6_20)]) rfl ?_
            refine s_iload E dX9_luck_54 rfl ?_
            refine s_iload_n E dX9_luck_56 rfl rfl ?_
            refine z_icmp_ge (tgt := 90) (u := q54_6_20.toInt) (v := x2.toInt) E dX9_luck_57 (by decide) rfl rfl (fun h_22 => ?_) (fun h_22 => ?_)
            ·
              refine s_iload E dX9_luck_90 rfl ?_
              exact r_int E dX9_luck_92 ⟨⟨by have hb_ := z32 q54_5_20; omega, by have hb_ := z32 q54_5_20; omega, by first | (right; decide) | (have hb_ := z32 q54_5_20; omega) | (have hb_ := z32 q54_5_20; have hc_ := z32 x1; omega), by first | (right; decide) | (have hb_ := z32 q54_5_20; omega) | (have hb_ := z32 q54_5_20; have hc_ := z32 x2; omega), by first | (right; decide) | (have hb_ := z32 q54_5_20; omega) | (have hb_ := z32 q54_5_20; have hc_ := z32 x3; omega), by first | (right; decide) | (have hb_ := z32 q54_5_20; omega) | (have hb_ := z32 q54_5_20; have hc_ := z32 x4; omega), by first | (right; decide) | (have hb_ := z32 q54_5_20; omega) | (have hb_ := z32 q54_5_20; have hc_ := z32 (w.2.2.1 5 3); omega)⟩, hj_21⟩
            ·
              refine s_aload_n E dX9_luck_60 rfl rfl ?_
              refine s_aload_n E dX9_luck_61 rfl rfl ?_
              refine s_iload_n E dX9_luck_62 rfl rfl ?_
              refine s_iload E dX9_luck_63 rfl ?_
              refine z_iadd (u := x1.toInt) (v := q54_6_20.toInt) E dX9_luck_65 rfl rfl (by omega) (by omega) (fun z_23 hz_23 => ?_)
              refine s_vI (As := [AI z_23]) (S := [AR 0]) E (Z_X9_loudDances_0 l D aC b v54 z_23 hj_21.1 ) cv_X9_384 rfl rfl rfl (jv_lt hj_21 (by decide)) (Nat.le_of_ble_eq_true rfl) (Nat.le_of_ble_eq_true rfl) ⟨(Nat.le_of_ble_eq_true rfl), (Nat.le_of_ble_eq_true rfl)⟩ (Nat.le_of_ble_eq_true rfl) dX9_luck_66 (fun z_26 u_24 hp_25 => ?_)
              obtain ⟨hz_26, hp_25⟩ := hp_25
              subst hp_25
              refine s_iload_n E dX9_luck_69 rfl rfl ?_
              refine s_vI (As := [AI z_26, AI x3]) (S := []) E (Z_X9_drawnHolders_0 l D aC b v54 z_26 x3 hj_21.1 ) cv_X9_387 rfl rfl rfl (jv_lt hj_21 (by decide)) (Nat.le_of_ble_eq_true rfl) (Nat.le_of_ble_eq_true rfl) ⟨(Nat.le_of_ble_eq_true rfl), (Nat.le_of_ble_eq_true rfl)⟩ (Nat.le_of_ble_eq_true rfl) dX9_luck_70 (fun z_30 u_28 hp_29 => ?_)
              obtain ⟨hz_30, hp_29⟩ := hp_29
              have hj_31 := jv_trans hj_21 hp_29
              refine s_iload E dX9_luck_73 rfl ?_
              refine s_sI (As := [AI z_30, AI x4]) (S := []) E (Z_X9_hasBit l D aC b u_28 z_30 x4 hj_31.1 ) cs_X9_175 rfl rfl (Nat.le_of_ble_eq_true rfl) (Nat.le_of_ble_eq_true rfl) ⟨(Nat.le_of_ble_eq_true rfl), (Nat.le_of_ble_eq_true rfl)⟩ (Nat.le_of_ble_eq_true rfl) dX9_luck_75 (fun z_34 u_32 hp_33 => ?_)
              obtain ⟨hz_34, hp_33⟩ := hp_33
              subst hp_33
              refine z_if_eq (tgt := 84) (u := z_34.toInt) E dX9_luck_78 (by decide) rfl (fun h_36 => ?_) (fun h_36 => ?_)
              ·
                refine z_iinc (u := q54_6_20.toInt) (L2 := fun z_37 => [some (AR 0), some (AI x1), some (AI x2), some (AI x3), some (AI x4), some (AI q54_5_20), some (AI z_37)]) E dX9_luck_84 rfl rfl (by decide) (fun _ => rfl) (by decide) (by omega) (by omega) (fun z_37 hz_37 => ?_)
                refine s_goto (tgt := 54) E dX9_luck_87 (by decide) ?_
                exact ih54 ⟨q54_5_20, z_37⟩ u_28 ⟨⟨by have hb_ := z32 z_37; omega, by have hb_ := z32 z_37; omega⟩, hj_31⟩ (by first | omega | decide | (dsimp only; omega) | (dsimp only; decide))
              ·
                refine z_iincW (L2 := fun z_38 => [some (AR 0), some (AI x1), some (AI x2), some (AI x3), some (AI x4), some (AI z_38), some (AI q54_6_20)]) E dX9_luck_81 rfl (by decide) (fun _ => rfl) (fun z_38 => ?_)
                refine z_iinc (u := q54_6_20.toInt) (L2 := fun z_39 => [some (AR 0), some (AI x1), some (AI x2), some (AI x3), some (AI x4), some (AI z_38), some (AI z_39)]) E dX9_luck_84 rfl rfl (by decide) (fun _ => rfl) (by decide) (by omega) (by omega) (fun z_39 hz_39 => ?_)
                refine s_goto (tgt := 54) E dX9_luck_87 (by decide) ?_
                exact ih54 ⟨z_38, z_39⟩ u_28 ⟨⟨by have hb_ := z32 z_39; omega, by have hb_ := z32 z_39; omega⟩, hj_31⟩ (by first | omega | decide | (dsimp only; omega) | (dsimp only; decide))
          ·
            refine s_bipush (v := (-2)) E dX9_luck_41 (by decide) ?_
            exact r_int E dX9_luck_43 ⟨⟨by decide, by decide, by first | (left; decide) | (right; decide) | (right; have hb_ := z32 x1; omega), by first | (left; decide) | (right; decide) | (right; have hb_ := z32 x2; omega), by first | (left; decide) | (right; decide) | (right; have hb_ := z32 x3; omega), by first | (left; decide) | (right; decide) | (right; have hb_ := z32 x4; omega), by first | (left; decide) | (right; decide) | (right; have hb_ := z32 (w.2.2.1 5 3); omega)⟩, hJ⟩
set_option maxRecDepth 20000 in
set_option maxHeartbeats 2000000 in
theorem Z_X8_put_3 (l : Launch) (D : va_G) (aC : Nat → ClassId) (b : Nat) (w : XW) (x1 : Int32) (x2 : Int32) (x3 : Int32) (hI : Iv w)  : CnV l D aC b M_X8_put 1 22 0 0 [AR 3, AI x1, AI x2, AI x3] w (fun u => Jv w u) := by
  refine cn_V (own := RX8) (nm := "put") (L0 := [some (AR 3), some (AI x1), some (AI x2), some (AI x3)]) (by decide +kernel) rfl rfl (Nat.le_of_ble_eq_true rfl) rfl ?_
  intro p e s m args below meth c E hin
  have hJ : Jv w w := jv_rfl hI
  have hb_x1 := z32 x1
  have hb_x2 := z32 x2
  have hb_x3 := z32 x3
  refine s_aload_n E dX8_put_0 rfl rfl ?_
  refine s_iload_n E dX8_put_1 rfl rfl ?_
  refine s_iload_n E dX8_put_2 rfl rfl ?_
  refine s_vI (As := [AI x1, AI x2]) (S := []) E (Z_X8_hasCell_3 l D aC b w x1 x2 hJ.1 ) cv_X8_31 rfl rfl rfl (jv_lt hJ (by decide)) (Nat.le_of_ble_eq_true rfl) (Nat.le_of_ble_eq_true rfl) ⟨(Nat.le_of_ble_eq_true rfl), (Nat.le_of_ble_eq_true rfl)⟩ (Nat.le_of_ble_eq_true rfl) dX8_put_3 (fun z_3 u_1 hp_2 => ?_)
  obtain ⟨hz_3, hp_2⟩ := hp_2
  subst hp_2
  refine z_if_eq (tgt := 23) (u := z_3.toInt) E dX8_put_6 (by decide) rfl (fun h_5 => ?_) (fun h_5 => ?_)
  ·
    exact r_void E dX8_put_23 hJ
  ·
    refine s_aload_n E dX8_put_9 rfl rfl ?_
    refine s_gR (r := 4) E fg_X8_24 rfl rfl (jv_lt hJ (by decide)) (jv_r hJ (by decide +kernel)) dX8_put_10 ?_
    refine s_iload_n E dX8_put_13 rfl rfl ?_
    refine s_aload_n E dX8_put_14 rfl rfl ?_
    refine s_gI E fg_X8_21 rfl rfl (jv_lt hJ (by decide)) dX8_put_15 ?_
    refine s_top (y := 3) (z_pt (by decide) (rg_3_2 hJ)) ?_
    refine z_imul (u := x1.toInt) (v := 3) E dX8_put_18 rfl (by decide) (by omega) (by omega) (fun z_6 hz_6 => ?_)
    refine s_iload_n E dX8_put_19 rfl rfl ?_
    refine z_iadd (u := z_6.toInt) (v := x2.toInt) E dX8_put_20 rfl rfl (by omega) (by omega) (fun z_7 hz_7 => ?_)
    refine s_iload_n E dX8_put_21 rfl rfl ?_
    refine s_iast E rfl (jv_lt hJ (by decide)) (z_in (u := z_7.toInt) rfl (by omega) (by omega)) dX8_put_22 ?_
    refine s_gen (P := fun v => Jv w v ∧ (v.2.2.1 3 3).toInt = (w.2.2.1 3 3).toInt) ⟨(jv_a_4 hJ (by have hb_ := z32 x3; omega) (by have hb_ := z32 x3; omega)), rfl⟩ (fun v_8 hj_9 => ?_)
    obtain ⟨hj_9, hk_10k0⟩ := hj_9
    exact r_void E dX8_put_23 hj_9
set_option maxRecDepth 20000 in
set_option maxHeartbeats 2000000 in
theorem Z_X9_hang_0 (l : Launch) (D : va_G) (aC : Nat → ClassId) (b : Nat) (w : XW) (x1 : Int32) (x2 : Int32) (hI : Iv w)  : CnI l D aC b M_X9_hang 6 140 0 0 [AR 0, AI x1, AI x2] w (fun r u => ((-2147483648) ≤ r.toInt ∧ r.toInt ≤ 2147483647 ∧ (¬ r.toInt = 0 ∨ (0 ≤ x1.toInt ∧ x1.toInt ≤ 11)) ∧ (¬ r.toInt = 0 ∨ (1 ≤ x2.toInt ∧ x2.toInt ≤ 9)) ∧ (¬ r.toInt = 0 ∨ (1 ≤ (w.2.2.1 3 3).toInt ∧ (w.2.2.1 3 3).toInt ≤ 12)) ∧ (¬ r.toInt = 0 ∨ (0 ≤ (w.2.2.1 11 3).toInt ∧ (w.2.2.1 11 3).toInt ≤ 0))) ∧ Jv w u) := by
  refine cn_I (own := RX9) (nm := "hang") (L0 := [some (AR 0), some (AI x1), some (AI x2), none]) (by decide +kernel) rfl rfl (Nat.le_of_ble_eq_true rfl) rfl ?_
  intro p e s m args below meth c E hin
  have hJ : Jv w w := jv_rfl hI
  have hb_x1 := z32 x1
  have hb_x2 := z32 x2
  refine s_aload_n E dX9_hang_0 rfl rfl ?_
  refine s_gR (r := 2) E fg_X9_20 rfl rfl (jv_lt hJ (by decide)) (jv_r hJ (by decide +kernel)) dX9_hang_1 ?_
  refine s_gR (r := 3) E fg_X9_119 rfl rfl (jv_lt hJ (by decide)) (jv_r hJ (by decide +kernel)) dX9_hang_4 ?_
  refine s_iload_n E dX9_hang_7 rfl rfl ?_
  refine s_vI (As := [AI x1]) (S := []) E (Z_X8_has_3 l D aC b w x1 hJ.1 ) cv_X9_257 rfl rfl rfl (jv_lt hJ (by decide)) (Nat.le_of_ble_eq_true rfl) (Nat.le_of_ble_eq_true rfl) ⟨(Nat.le_of_ble_eq_true rfl), (Nat.le_of_ble_eq_true rfl)⟩ (Nat.le_of_ble_eq_true rfl) dX9_hang_8 (fun z_3 u_1 hp_2 => ?_)
  obtain ⟨hz_3, hp_2⟩ := hp_2
  subst hp_2
  refine z_if_eq (tgt := 25) (u := z_3.toInt) E dX9_hang_11 (by decide) rfl (fun h_5 => ?_) (fun h_5 => ?_)
  ·
    refine s_bipush (v := (-2)) E dX9_hang_25 (by decide) ?_
    exact r_int E dX9_hang_27 ⟨⟨by decide, by decide, by first | (left; decide) | (right; decide) | (right; have hb_ := z32 x1; omega), by first | (left; decide) | (right; decide) | (right; have hb_ := z32 x2; omega), by first | (left; decide) | (right; decide) | (right; have hb_ := z32 (w.2.2.1 3 3); omega), by first | (left; decide) | (right; decide) | (right; have hb_ := z32 (w.2.2.1 11 3); omega)⟩, hJ⟩
  ·
    refine s_iload_n E dX9_hang_14 rfl rfl ?_
    refine s_iconst (v := 1) E dX9_hang_15 (by decide) ?_
    refine z_icmp_lt (tgt := 25) (u := x2.toInt) (v := 1) E dX9_hang_16 (by decide) rfl (by decide) (fun h_6 => ?_) (fun h_6 => ?_)
    ·
      refine s_bipush (v := (-2)) E dX9_hang_25 (by decide) ?_
      exact r_int E dX9_hang_27 ⟨⟨by decide, by decide, by first | (left; decide) | (right; decide) | (right; have hb_ := z32 x1; omega), by first | (left; decide) | (right; decide) | (right; have hb_ := z32 x2; omega), by first | (left; decide) | (right; decide) | (right; have hb_ := z32 (w.2.2.1 3 3); omega), by first | (left; decide) | (right; decide) | (right; have hb_ := z32 (w.2.2.1 11 3); omega)⟩, hJ⟩
    ·
      refine s_iload_n E dX9_hang_19 rfl rfl ?_
      refine s_bipush (v := 9) E dX9_hang_20 (by decide) ?_
      refine z_icmp_le (tgt := 28) (u := x2.toInt) (v := 9) E dX9_hang_22 (by decide) rfl (by decide) (fun h_7 => ?_) (fun h_7 => ?_)
      ·
        refine s_aload_n E dX9_hang_28 rfl rfl ?_
        refine s_gR (r := 2) E fg_X9_20 rfl rfl (jv_lt hJ (by decide)) (jv_r hJ (by decide +kernel)) dX9_hang_29 ?_
        refine s_gR (r := 11) E fg_X9_400 rfl rfl (jv_lt hJ (by decide)) (jv_r hJ (by decide +kernel)) dX9_hang_32 ?_
        refine s_gI E fg_X9_200 rfl rfl (jv_lt hJ (by decide)) dX9_hang_35 ?_
        refine z_nm (P := fun z => z.toInt = (w.2.2.1 11 3).toInt ∧ 0 ≤ z.toInt ∧ z.toInt ≤ 30) ⟨rfl, (rg_11_3 hJ)⟩ (fun z_8 hz_8 => ?_)
        refine z_if_le (tgt := 44) (u := z_8.toInt) E dX9_hang_38 (by decide) rfl (fun h_9 => ?_) (fun h_9 => ?_)
        ·
          refine s_aload_n E dX9_hang_44 rfl rfl ?_
          refine s_gR (r := 2) E fg_X9_20 rfl rfl (jv_lt hJ (by decide)) (jv_r hJ (by decide +kernel)) dX9_hang_45 ?_
          refine s_gR (r := 3) E fg_X9_119 rfl rfl (jv_lt hJ (by decide)) (jv_r hJ (by decide +kernel)) dX9_hang_48 ?_
          refine s_iload_n E dX9_hang_51 rfl rfl ?_
          refine s_iconst (v := 2) E dX9_hang_52 (by decide) ?_
          refine s_vI (As := [AI x1, AI 2]) (S := []) E (Z_X8_cell_3 l D aC b w x1 2 hJ.1 ) cv_X9_129 rfl rfl rfl (jv_lt hJ (by decide)) (Nat.le_of_ble_eq_true rfl) (Nat.le_of_ble_eq_true rfl) ⟨(Nat.le_of_ble_eq_true rfl), (Nat.le_of_ble_eq_true rfl)⟩ (Nat.le_of_ble_eq_true rfl) dX9_hang_53 (fun z_12 u_10 hp_11 => ?_)
          obtain ⟨hz_12, hp_11⟩ := hp_11
          subst hp_11
          refine s_istore_n (L2 := [some (AR 0), some (AI x1), some (AI x2), some (AI z_12)]) E dX9_hang_56 rfl (by decide) rfl ?_
          refine s_aload_n E dX9_hang_57 rfl rfl ?_
          refine s_gR (r := 2) E fg_X9_20 rfl rfl (jv_lt hJ (by decide)) (jv_r hJ (by decide +kernel)) dX9_hang_58 ?_
          refine s_gR (r := 3) E fg_X9_119 rfl rfl (jv_lt hJ (by decide)) (jv_r hJ (by decide +kernel)) dX9_hang_61 ?_
          refine s_iload_n E dX9_hang_64 rfl rfl ?_
          refine s_iconst (v := 2) E dX9_hang_65 (by decide) ?_
          refine s_iload_n E dX9_hang_66 rfl rfl ?_
          refine s_vV (As := [AI x1, AI 2, AI x2]) (S := []) E (Z_X8_put_3 l D aC b w x1 2 x2 hJ.1 ) cv_X9_417 rfl rfl rfl (jv_lt hJ (by decide)) (Nat.le_of_ble_eq_true rfl) (Nat.le_of_ble_eq_true rfl) ⟨(Nat.le_of_ble_eq_true rfl), (Nat.le_of_ble_eq_true rfl)⟩ (Nat.le_of_ble_eq_true rfl) dX9_hang_67 (fun u_14 hp_15 => ?_)
          have hj_16 := jv_trans hJ hp_15
          refine s_aload_n E dX9_hang_70 rfl rfl ?_
          refine s_vV (As := []) (S := []) E (Z_X9_settle_0 l D aC b u_14  hj_16.1 ) cv_X9_107 rfl rfl rfl (jv_lt hj_16 (by decide)) (Nat.le_of_ble_eq_true rfl) (Nat.le_of_ble_eq_true rfl) ⟨(Nat.le_of_ble_eq_true rfl), (Nat.le_of_ble_eq_true rfl)⟩ (Nat.le_of_ble_eq_true rfl) dX9_hang_71 (fun u_17 hp_18 => ?_)
          have hj_19 := jv_trans hj_16 hp_18
          refine s_iload_n E dX9_hang_74 rfl rfl ?_
          exact r_int E dX9_hang_75 ⟨⟨by have hb_ := z32 z_12; omega, by have hb_ := z32 z_12; omega, by first | (right; decide) | (have hb_ := z32 z_12; omega) | (have hb_ := z32 z_12; have hc_ := z32 x1; omega), by first | (right; decide) | (have hb_ := z32 z_12; omega) | (have hb_ := z32 z_12; have hc_ := z32 x2; omega), by first | (right; decide) | (have hb_ := z32 z_12; omega) | (have hb_ := z32 z_12; have hc_ := z32 (w.2.2.1 3 3); omega), by first | (right; decide) | (have hb_ := z32 z_12; omega) | (have hb_ := z32 z_12; have hc_ := z32 (w.2.2.1 11 3); omega)⟩, hj_19⟩
        ·
          refine s_bipush (v := (-5)) E dX9_hang_41 (by decide) ?_
          exact r_int E dX9_hang_43 ⟨⟨by decide, by decide, by first | (left; decide) | (right; decide) | (right; have hb_ := z32 x1; omega), by first | (left; decide) | (right; decide) | (right; have hb_ := z32 x2; omega), by first | (left; decide) | (right; decide) | (right; have hb_ := z32 (w.2.2.1 3 3); omega), by first | (left; decide) | (right; decide) | (right; have hb_ := z32 (w.2.2.1 11 3); omega)⟩, hJ⟩
      ·
        refine s_bipush (v := (-2)) E dX9_hang_25 (by decide) ?_
        exact r_int E dX9_hang_27 ⟨⟨by decide, by decide, by first | (left; decide) | (right; decide) | (right; have hb_ := z32 x1; omega), by first | (left; decide) | (right; decide) | (right; have hb_ := z32 x2; omega), by first | (left; decide) | (right; decide) | (right; have hb_ := z32 (w.2.2.1 3 3); omega), by first | (left; decide) | (right; decide) | (right; have hb_ := z32 (w.2.2.1 11 3); omega)⟩, hJ⟩
set_option maxRecDepth 20000 in
set_option maxHeartbeats 2000000 in
theorem Z_X9_slotsWithRow_0 (l : Launch) (D : va_G) (aC : Nat → ClassId) (b : Nat) (w : XW)  (hI : Iv w)  : CnI l D aC b M_X9_slotsWithRow 1 20 0 0 [AR 0] w (fun r u => ((-2147483648) ≤ r.toInt ∧ r.toInt ≤ 2147483647) ∧ w = u) := by
  refine cn_I (own := RX9) (nm := "slotsWithRow") (L0 := [some (AR 0), none, none]) (by decide +kernel) rfl rfl (Nat.le_of_ble_eq_true rfl) rfl ?_
  intro p e s m args below meth c E hin
  have hJ : Jv w w := jv_rfl hI
  refine s_iconst (v := 0) E dX9_slotsWithRow_0 (by decide) ?_
  refine s_istore_n (L2 := [some (AR 0), some (AI 0), none]) E dX9_slotsWithRow_1 rfl (by decide) rfl ?_
  refine s_iconst (v := 0) E dX9_slotsWithRow_2 (by decide) ?_
  refine s_istore_n (L2 := [some (AR 0), some (AI 0), some (AI 0)]) E dX9_slotsWithRow_3 rfl (by decide) rfl ?_
  refine z_loop (St := Int32 × Int32) (Pi := fun ⟨q4_1_0, q4_2_0⟩ v4 => (0 ≤ q4_2_0.toInt ∧ q4_2_0.toInt ≤ 4) ∧ w = v4) (Lf := fun ⟨q4_1_0, q4_2_0⟩ => [some (AR 0), some (AI q4_1_0), some (AI q4_2_0)]) (fun ⟨q4_1_0, q4_2_0⟩ _ => (5 - q4_2_0.toInt).toNat) ⟨0, 0⟩ ⟨⟨by decide, by decide⟩, rfl⟩ ?_
  rintro ⟨q4_1_0, q4_2_0⟩ v4 ⟨hq4_2, hv_⟩ ih4
  subst hv_
  have hbq4_1 := z32 q4_1_0
  refine s_loc (L2 := [some (AR 0), some (AI q4_1_0), some (AI q4_2_0)]) rfl ?_
  refine s_iload_n E dX9_slotsWithRow_4 rfl rfl ?_
  refine s_iconst (v := 4) E dX9_slotsWithRow_5 (by decide) ?_
  refine z_icmp_ge (tgt := 30) (u := q4_2_0.toInt) (v := 4) E dX9_slotsWithRow_6 (by decide) rfl (by decide) (fun h_2 => ?_) (fun h_2 => ?_)
  ·
    refine s_iload_n E dX9_slotsWithRow_30 rfl rfl ?_
    exact r_int E dX9_slotsWithRow_31 ⟨⟨by have hb_ := z32 q4_1_0; omega, by have hb_ := z32 q4_1_0; omega⟩, rfl⟩
  ·
    refine s_aload_n E dX9_slotsWithRow_9 rfl rfl ?_
    refine s_gR (r := 60) E fg_X9_46 rfl rfl (jv_lt hJ (by decide)) (jv_r hJ (by decide +kernel)) dX9_slotsWithRow_10 ?_
    refine s_iload_n E dX9_slotsWithRow_13 rfl rfl ?_
    rcases (show q4_2_0 = 0 ∨ q4_2_0 = 1 ∨ q4_2_0 = 2 ∨ q4_2_0 = 3 from (z_cases4 (u := q4_2_0.toInt) rfl (by omega) (by omega))) with rfl | rfl | rfl | rfl
    ·
      refine s_aald105 (r := 61) E rfl (jv_lt hJ (by decide)) (vp_c (by decide)) (jv_r hJ (by decide +kernel)) dX9_slotsWithRow_14 ?_
      refine s_vI (As := []) (S := []) E (Z_X7_isBare_61 l D aC b w  hJ.1 ) cv_X9_279 rfl rfl rfl (jv_lt hJ (by decide)) (Nat.le_of_ble_eq_true rfl) (Nat.le_of_ble_eq_true rfl) ⟨(Nat.le_of_ble_eq_true rfl), (Nat.le_of_ble_eq_true rfl)⟩ (Nat.le_of_ble_eq_true rfl) dX9_slotsWithRow_15 (fun z_5 u_3 hp_4 => ?_)
      obtain ⟨hz_5, hxz_5, hp_4⟩ := hp_4
      subst hp_4
      refine z_if_ne (tgt := 24) (u := z_5.toInt) E dX9_slotsWithRow_18 (by decide) rfl (fun h_7 => ?_) (fun h_7 => ?_)
      ·
        refine s_iinc (v := 1) (L2 := [some (AR 0), some (AI q4_1_0), some (AI 1)]) E dX9_slotsWithRow_24 rfl (by decide) (by decide) rfl ?_
        refine s_goto (tgt := 4) E dX9_slotsWithRow_27 (by decide) ?_
        exact ih4 ⟨q4_1_0, 1⟩ w ⟨⟨by decide, by decide⟩, rfl⟩ (by first | omega | decide | (dsimp only; omega) | (dsimp only; decide))
      ·
        refine z_iincW (L2 := fun z_8 => [some (AR 0), some (AI z_8), some (AI 0)]) E dX9_slotsWithRow_21 rfl (by decide) (fun _ => rfl) (fun z_8 => ?_)
        refine s_iinc (v := 1) (L2 := [some (AR 0), some (AI z_8), some (AI 1)]) E dX9_slotsWithRow_24 rfl (by decide) (by decide) rfl ?_
        refine s_goto (tgt := 4) E dX9_slotsWithRow_27 (by decide) ?_
        exact ih4 ⟨z_8, 1⟩ w ⟨⟨by decide, by decide⟩, rfl⟩ (by first | omega | decide | (dsimp only; omega) | (dsimp only; decide))
    ·
      refine s_aald105 (r := 63) E rfl (jv_lt hJ (by decide)) (vp_c (by decide)) (jv_r hJ (by decide +kernel)) dX9_slotsWithRow_14 ?_
      refine s_vI (As := []) (S := []) E (Z_X7_isBare_63 l D aC b w  hJ.1 ) cv_X9_279 rfl rfl rfl (jv_lt hJ (by decide)) (Nat.le_of_ble_eq_true rfl) (Nat.le_of_ble_eq_true rfl) ⟨(Nat.le_of_ble_eq_true rfl), (Nat.le_of_ble_eq_true rfl)⟩ (Nat.le_of_ble_eq_true rfl) dX9_slotsWithRow_15 (fun z_11 u_9 hp_10 => ?_)
      obtain ⟨hz_11, hxz_11, hp_10⟩ := hp_10
      subst hp_10
      refine z_if_ne (tgt := 24) (u := z_11.toInt) E dX9_slotsWithRow_18 (by decide) rfl (fun h_13 => ?_) (fun h_13 => ?_)
      ·
        refine s_iinc (v := 2) (L2 := [some (AR 0), some (AI q4_1_0), some (AI 2)]) E dX9_slotsWithRow_24 rfl (by decide) (by decide) rfl ?_
        refine s_goto (tgt := 4) E dX9_slotsWithRow_27 (by decide) ?_
        exact ih4 ⟨q4_1_0, 2⟩ w ⟨⟨by decide, by decide⟩, rfl⟩ (by first | omega | decide | (dsimp only; omega) | (dsimp only; decide))
      ·
        refine z_iincW (L2 := fun z_14 => [some (AR 0), some (AI z_14), some (AI 1)]) E dX9_slotsWithRow_21 rfl (by decide) (fun _ => rfl) (fun z_14 => ?_)
        refine s_iinc (v := 2) (L2 := [some (AR 0), some (AI z_14), some (AI 2)]) E dX9_slotsWithRow_24 rfl (by decide) (by decide) rfl ?_
        refine s_goto (tgt := 4) E dX9_slotsWithRow_27 (by decide) ?_
        exact ih4 ⟨z_14, 2⟩ w ⟨⟨by decide, by decide⟩, rfl⟩ (by first | omega | decide | (dsimp only; omega) | (dsimp only; decide))
    ·
      refine s_aald105 (r := 65) E rfl (jv_lt hJ (by decide)) (vp_c (by decide)) (jv_r hJ (by decide +kernel)) dX9_slotsWithRow_14 ?_
      refine s_vI (As := []) (S := []) E (Z_X7_isBare_65 l D aC b w  hJ.1 ) cv_X9_279 rfl rfl rfl (jv_lt hJ (by decide)) (Nat.le_of_ble_eq_true rfl) (Nat.le_of_ble_eq_true rfl) ⟨(Nat.le_of_ble_eq_true rfl), (Nat.le_of_ble_eq_true rfl)⟩ (Nat.le_of_ble_eq_true rfl) dX9_slotsWithRow_15 (fun z_17 u_15 hp_16 => ?_)
      obtain ⟨hz_17, hxz_17, hp_16⟩ := hp_16
      subst hp_16
      refine z_if_ne (tgt := 24) (u := z_17.toInt) E dX9_slotsWithRow_18 (by decide) rfl (fun h_19 => ?_) (fun h_19 => ?_)
      ·
        refine s_iinc (v := 3) (L2 := [some (AR 0), some (AI q4_1_0), some (AI 3)]) E dX9_slotsWithRow_24 rfl (by decide) (by decide) rfl ?_
        refine s_goto (tgt := 4) E dX9_slotsWithRow_27 (by decide) ?_
        exact ih4 ⟨q4_1_0, 3⟩ w ⟨⟨by decide, by decide⟩, rfl⟩ (by first | omega | decide | (dsimp only; omega) | (dsimp only; decide))
      ·
        refine z_iincW (L2 := fun z_20 => [some (AR 0), some (AI z_20), some (AI 2)]) E dX9_slotsWithRow_21 rfl (by decide) (fun _ => rfl) (fun z_20 => ?_)
        refine s_iinc (v := 3) (L2 := [some (AR 0), some (AI z_20), some (AI 3)]) E dX9_slotsWithRow_24 rfl (by decide) (by decide) rfl ?_
        refine s_goto (tgt := 4) E dX9_slotsWithRow_27 (by decide) ?_
        exact ih4 ⟨z_20, 3⟩ w ⟨⟨by decide, by decide⟩, rfl⟩ (by first | omega | decide | (dsimp only; omega) | (dsimp only; decide))
    ·
      refine s_aald105 (r := 67) E rfl (jv_lt hJ (by decide)) (vp_c (by decide)) (jv_r hJ (by decide +kernel)) dX9_slotsWithRow_14 ?_
      refine s_vI (As := []) (S := []) E (Z_X7_isBare_67 l D aC b w  hJ.1 ) cv_X9_279 rfl rfl rfl (jv_lt hJ (by decide)) (Nat.le_of_ble_eq_true rfl) (Nat.le_of_ble_eq_true rfl) ⟨(Nat.le_of_ble_eq_true rfl), (Nat.le_of_ble_eq_true rfl)⟩ (Nat.le_of_ble_eq_true rfl) dX9_slotsWithRow_15 (fun z_23 u_21 hp_22 => ?_)
      obtain ⟨hz_23, hxz_23, hp_22⟩ := hp_22
      subst hp_22
      refine z_if_ne (tgt := 24) (u := z_23.toInt) E dX9_slotsWithRow_18 (by decide) rfl (fun h_25 => ?_) (fun h_25 => ?_)
      ·
        refine s_iinc (v := 4) (L2 := [some (AR 0), some (AI q4_1_0), some (AI 4)]) E dX9_slotsWithRow_24 rfl (by decide) (by decide) rfl ?_
        refine s_goto (tgt := 4) E dX9_slotsWithRow_27 (by decide) ?_
        exact ih4 ⟨q4_1_0, 4⟩ w ⟨⟨by decide, by decide⟩, rfl⟩ (by first | omega | decide | (dsimp only; omega) | (dsimp only; decide))
      ·
        refine z_iincW (L2 := fun z_26 => [some (AR 0), some (AI z_26), some (AI 3)]) E dX9_slotsWithRow_21 rfl (by decide) (fun _ => rfl) (fun z_26 => ?_)
        refine s_iinc (v := 4) (L2 := [some (AR 0), some (AI z_26), some (AI 4)]) E dX9_slotsWithRow_24 rfl (by decide) (by decide) rfl ?_
        refine s_goto (tgt := 4) E dX9_slotsWithRow_27 (by decide) ?_
        exact ih4 ⟨z_26, 4⟩ w ⟨⟨by decide, by decide⟩, rfl⟩ (by first | omega | decide | (dsimp only; omega) | (dsimp only; decide))
set_option maxRecDepth 20000 in
set_option maxHeartbeats 2000000 in
theorem Z_X9_count_0 (l : Launch) (D : va_G) (aC : Nat → ClassId) (b : Nat) (w : XW) (x1 : Int32) (hI : Iv w)  : CnI l D aC b M_X9_count 2 42 0 0 [AR 0, AI x1] w (fun r u => ((-2147483648) ≤ r.toInt ∧ r.toInt ≤ 2147483647 ∧ (¬ r.toInt = 0 ∨ (0 ≤ x1.toInt ∧ x1.toInt ≤ 11))) ∧ w = u) := by
  refine cn_I (own := RX9) (nm := "count") (L0 := [some (AR 0), some (AI x1)]) (by decide +kernel) rfl rfl (Nat.le_of_ble_eq_true rfl) rfl ?_
  intro p e s m args below meth c E hin
  have hJ : Jv w w := jv_rfl hI
  have hb_x1 := z32 x1
  refine s_iload_n E dX9_count_0 rfl rfl ?_
  refine z_switch (lo := 0) (hi := 11) (u := x1.toInt) rfl (fun h_1 => ?_) (fun j hj h_1 => ?_)
  ·
    refine s_tableOut (tgt := 169) E dX9_count_1 h_1 (by decide) ?_
    refine s_iconst (v := (-1)) E dX9_count_169 (by decide) ?_
    exact r_int E dX9_count_170 ⟨⟨by decide, by decide, by first | (left; decide) | (right; decide) | (right; have hb_ := z32 x1; omega)⟩, rfl⟩
  · match j, hj with
    | 0, _ =>
      refine s_tableIn (off := 63) (tgt := 64) E dX9_count_1 (by omega) (by omega) (z_off (j := 0) (by omega) (by decide +kernel)) (by decide) ?_
      refine s_aload_n E dX9_count_64 rfl rfl ?_
      refine s_gR (r := 2) E fg_X9_20 rfl rfl (jv_lt hJ (by decide)) (jv_r hJ (by decide +kernel)) dX9_count_65 ?_
      refine s_gI E fg_X9_208 rfl rfl (jv_lt hJ (by decide)) dX9_count_68 ?_
      refine z_nm (P := fun z => z.toInt = (w.2.2.1 2 1).toInt ∧ 0 ≤ z.toInt ∧ z.toInt ≤ 8) ⟨rfl, (rg_2_1 hJ)⟩ (fun z_2 hz_2 => ?_)
      exact r_int E dX9_count_71 ⟨⟨by have hb_ := z32 z_2; omega, by have hb_ := z32 z_2; omega, by first | (right; decide) | (have hb_ := z32 z_2; omega) | (have hb_ := z32 z_2; have hc_ := z32 x1; omega)⟩, rfl⟩
    | 1, _ =>
      refine s_tableIn (off := 71) (tgt := 72) E dX9_count_1 (by omega) (by omega) (z_off (j := 1) (by omega) (by decide +kernel)) (by decide) ?_
      refine s_aload_n E dX9_count_72 rfl rfl ?_
      refine s_gR (r := 2) E fg_X9_20 rfl rfl (jv_lt hJ (by decide)) (jv_r hJ (by decide +kernel)) dX9_count_73 ?_
      refine s_gI E fg_X9_169 rfl rfl (jv_lt hJ (by decide)) dX9_count_76 ?_
      refine z_nm (P := fun z => z.toInt = (w.2.2.1 2 2).toInt ∧ 0 ≤ z.toInt ∧ z.toInt ≤ 14) ⟨rfl, (rg_2_2 hJ)⟩ (fun z_3 hz_3 => ?_)
      exact r_int E dX9_count_79 ⟨⟨by have hb_ := z32 z_3; omega, by have hb_ := z32 z_3; omega, by first | (right; decide) | (have hb_ := z32 z_3; omega) | (have hb_ := z32 z_3; have hc_ := z32 x1; omega)⟩, rfl⟩
    | 2, _ =>
      refine s_tableIn (off := 79) (tgt := 80) E dX9_count_1 (by omega) (by omega) (z_off (j := 2) (by omega) (by decide +kernel)) (by decide) ?_
      refine s_aload_n E dX9_count_80 rfl rfl ?_
      refine s_gR (r := 2) E fg_X9_20 rfl rfl (jv_lt hJ (by decide)) (jv_r hJ (by decide +kernel)) dX9_count_81 ?_
      refine s_gI E fg_X9_214 rfl rfl (jv_lt hJ (by decide)) dX9_count_84 ?_
      refine z_nm (P := fun z => z.toInt = (w.2.2.1 2 3).toInt ∧ (-2147483648) ≤ z.toInt ∧ z.toInt ≤ 2147483647) ⟨rfl, z32 _⟩ (fun z_4 hz_4 => ?_)
      exact r_int E dX9_count_87 ⟨⟨by have hb_ := z32 z_4; omega, by have hb_ := z32 z_4; omega, by first | (right; decide) | (have hb_ := z32 z_4; omega) | (have hb_ := z32 z_4; have hc_ := z32 x1; omega)⟩, rfl⟩
    | 3, _ =>
      refine s_tableIn (off := 87) (tgt := 88) E dX9_count_1 (by omega) (by omega) (z_off (j := 3) (by omega) (by decide +kernel)) (by decide) ?_
      refine s_aload_n E dX9_count_88 rfl rfl ?_
      refine s_gR (r := 2) E fg_X9_20 rfl rfl (jv_lt hJ (by decide)) (jv_r hJ (by decide +kernel)) dX9_count_89 ?_
      refine s_gI E fg_X9_364 rfl rfl (jv_lt hJ (by decide)) dX9_count_92 ?_
      refine z_nm (P := fun z => z.toInt = (w.2.2.1 2 4).toInt ∧ (-2147483648) ≤ z.toInt ∧ z.toInt ≤ 2147483647) ⟨rfl, z32 _⟩ (fun z_5 hz_5 => ?_)
      exact r_int E dX9_count_95 ⟨⟨by have hb_ := z32 z_5; omega, by have hb_ := z32 z_5; omega, by first | (right; decide) | (have hb_ := z32 z_5; omega) | (have hb_ := z32 z_5; have hc_ := z32 x1; omega)⟩, rfl⟩
    | 4, _ =>
      refine s_tableIn (off := 95) (tgt := 96) E dX9_count_1 (by omega) (by omega) (z_off (j := 4) (by omega) (by decide +kernel)) (by decide) ?_
      refine s_aload_n E dX9_count_96 rfl rfl ?_
      refine s_gR (r := 2) E fg_X9_20 rfl rfl (jv_lt hJ (by decide)) (jv_r hJ (by decide +kernel)) dX9_count_97 ?_
      refine s_gR (r := 3) E fg_X9_119 rfl rfl (jv_lt hJ (by decide)) (jv_r hJ (by decide +kernel)) dX9_count_100 ?_
      refine s_gI E fg_X9_200 rfl rfl (jv_lt hJ (by decide)) dX9_count_103 ?_
      refine z_nm (P := fun z => z.toInt = (w.2.2.1 3 3).toInt ∧ 0 ≤ z.toInt ∧ z.toInt ≤ 12) ⟨rfl, (rg_3_3 hJ)⟩ (fun z_6 hz_6 => ?_)
      exact r_int E dX9_count_106 ⟨⟨by have hb_ := z32 z_6; omega, by have hb_ := z32 z_6; omega, by first | (right; decide) | (have hb_ := z32 z_6; omega) | (have hb_ := z32 z_6; have hc_ := z32 x1; omega)⟩, rfl⟩
    | 5, _ =>
      refine s_tableIn (off := 106) (tgt := 107) E dX9_count_1 (by omega) (by omega) (z_off (j := 5) (by omega) (by decide +kernel)) (by decide) ?_
      refine s_aload_n E dX9_count_107 rfl rfl ?_
      refine s_gR (r := 2) E fg_X9_20 rfl rfl (jv_lt hJ (by decide)) (jv_r hJ (by decide +kernel)) dX9_count_108 ?_
      refine s_gR (r := 5) E fg_X9_133 rfl rfl (jv_lt hJ (by decide)) (jv_r hJ (by decide +kernel)) dX9_count_111 ?_
      refine s_gI E fg_X9_200 rfl rfl (jv_lt hJ (by decide)) dX9_count_114 ?_
      refine z_nm (P := fun z => z.toInt = (w.2.2.1 5 3).toInt ∧ 0 ≤ z.toInt ∧ z.toInt ≤ 6) ⟨rfl, (rg_5_3 hJ)⟩ (fun z_7 hz_7 => ?_)
      exact r_int E dX9_count_117 ⟨⟨by have hb_ := z32 z_7; omega, by have hb_ := z32 z_7; omega, by first | (right; decide) | (have hb_ := z32 z_7; omega) | (have hb_ := z32 z_7; have hc_ := z32 x1; omega)⟩, rfl⟩
    | 6, _ =>
      refine s_tableIn (off := 117) (tgt := 118) E dX9_count_1 (by omega) (by omega) (z_off (j := 6) (by omega) (by decide +kernel)) (by decide) ?_
      refine s_aload_n E dX9_count_118 rfl rfl ?_
      refine s_gR (r := 2) E fg_X9_20 rfl rfl (jv_lt hJ (by decide)) (jv_r hJ (by decide +kernel)) dX9_count_119 ?_
      refine s_gR (r := 7) E fg_X9_136 rfl rfl (jv_lt hJ (by decide)) (jv_r hJ (by decide +kernel)) dX9_count_122 ?_
      refine s_gI E fg_X9_200 rfl rfl (jv_lt hJ (by decide)) dX9_count_125 ?_
      refine z_nm (P := fun z => z.toInt = (w.2.2.1 7 3).toInt ∧ 0 ≤ z.toInt ∧ z.toInt ≤ 8) ⟨rfl, (rg_7_3 hJ)⟩ (fun z_8 hz_8 => ?_)
      exact r_int E dX9_count_128 ⟨⟨by have hb_ := z32 z_8; omega, by have hb_ := z32 z_8; omega, by first | (right; decide) | (have hb_ := z32 z_8; omega) | (have hb_ := z32 z_8; have hc_ := z32 x1; omega)⟩, rfl⟩
    | 7, _ =>
      refine s_tableIn (off := 128) (tgt := 129) E dX9_count_1 (by omega) (by omega) (z_off (j := 7) (by omega) (by decide +kernel)) (by decide) ?_
      refine s_aload_n E dX9_count_129 rfl rfl ?_
      refine s_gR (r := 2) E fg_X9_20 rfl rfl (jv_lt hJ (by decide)) (jv_r hJ (by decide +kernel)) dX9_count_130 ?_
      refine s_gR (r := 9) E fg_X9_420 rfl rfl (jv_lt hJ (by decide)) (jv_r hJ (by decide +kernel)) dX9_count_133 ?_
      refine s_gI E fg_X9_200 rfl rfl (jv_lt hJ (by decide)) dX9_count_136 ?_
      refine z_nm (P := fun z => z.toInt = (w.2.2.1 9 3).toInt ∧ 0 ≤ z.toInt ∧ z.toInt ≤ 10) ⟨rfl, (rg_9_3 hJ)⟩ (fun z_9 hz_9 => ?_)
      exact r_int E dX9_count_139 ⟨⟨by have hb_ := z32 z_9; omega, by have hb_ := z32 z_9; omega, by first | (right; decide) | (have hb_ := z32 z_9; omega) | (have hb_ := z32 z_9; have hc_ := z32 x1; omega)⟩, rfl⟩
    | 8, _ =>
      refine s_tableIn (off := 139) (tgt := 140) E dX9_count_1 (by omega) (by omega) (z_off (j := 8) (by omega) (by decide +kernel)) (by decide) ?_
      refine s_aload_n E dX9_count_140 rfl rfl ?_
      refine s_gR (r := 2) E fg_X9_20 rfl rfl (jv_lt hJ (by decide)) (jv_r hJ (by decide +kernel)) dX9_count_141 ?_
      refine s_gR (r := 11) E fg_X9_400 rfl rfl (jv_lt hJ (by decide)) (jv_r hJ (by decide +kernel)) dX9_count_144 ?_
      refine s_gI E fg_X9_200 rfl rfl (jv_lt hJ (by decide)) dX9_count_147 ?_
      refine z_nm (P := fun z => z.toInt = (w.2.2.1 11 3).toInt ∧ 0 ≤ z.toInt ∧ z.toInt ≤ 30) ⟨rfl, (rg_11_3 hJ)⟩ (fun z_10 hz_10 => ?_)
      exact r_int E dX9_count_150 ⟨⟨by have hb_ := z32 z_10; omega, by have hb_ := z32 z_10; omega, by first | (right; decide) | (have hb_ := z32 z_10; omega) | (have hb_ := z32 z_10; have hc_ := z32 x1; omega)⟩, rfl⟩
    | 9, _ =>
      refine s_tableIn (off := 150) (tgt := 151) E dX9_count_1 (by omega) (by omega) (z_off (j := 9) (by omega) (by decide +kernel)) (by decide) ?_
      refine s_aload_n E dX9_count_151 rfl rfl ?_
      refine s_gR (r := 2) E fg_X9_20 rfl rfl (jv_lt hJ (by decide)) (jv_r hJ (by decide +kernel)) dX9_count_152 ?_
      refine s_gI E fg_X9_110 rfl rfl (jv_lt hJ (by decide)) dX9_count_155 ?_
      refine z_nm (P := fun z => z.toInt = (w.2.2.1 2 0).toInt ∧ (-2147483648) ≤ z.toInt ∧ z.toInt ≤ 2147483647) ⟨rfl, z32 _⟩ (fun z_11 hz_11 => ?_)
      exact r_int E dX9_count_158 ⟨⟨by have hb_ := z32 z_11; omega, by have hb_ := z32 z_11; omega, by first | (right; decide) | (have hb_ := z32 z_11; omega) | (have hb_ := z32 z_11; have hc_ := z32 x1; omega)⟩, rfl⟩
    | 10, _ =>
      refine s_tableIn (off := 158) (tgt := 159) E dX9_count_1 (by omega) (by omega) (z_off (j := 10) (by omega) (by decide +kernel)) (by decide) ?_
      refine s_aload_n E dX9_count_159 rfl rfl ?_
      refine s_gI E fg_X9_13 rfl rfl (jv_lt hJ (by decide)) dX9_count_160 ?_
      refine z_nm (P := fun z => z.toInt = (w.2.2.1 0 1).toInt ∧ 0 ≤ z.toInt ∧ z.toInt ≤ 1000) ⟨rfl, (rg_0_1 hJ)⟩ (fun z_12 hz_12 => ?_)
      exact r_int E dX9_count_163 ⟨⟨by have hb_ := z32 z_12; omega, by have hb_ := z32 z_12; omega, by first | (right; decide) | (have hb_ := z32 z_12; omega) | (have hb_ := z32 z_12; have hc_ := z32 x1; omega)⟩, rfl⟩
    | 11, _ =>
      refine s_tableIn (off := 163) (tgt := 164) E dX9_count_1 (by omega) (by omega) (z_off (j := 11) (by omega) (by decide +kernel)) (by decide) ?_
      refine s_aload_n E dX9_count_164 rfl rfl ?_
      refine s_vI (As := []) (S := []) E (Z_X9_slotsWithRow_0 l D aC b w  hJ.1 ) cv_X9_423 rfl rfl rfl (jv_lt hJ (by decide)) (Nat.le_of_ble_eq_true rfl) (Nat.le_of_ble_eq_true rfl) ⟨(Nat.le_of_ble_eq_true rfl), (Nat.le_of_ble_eq_true rfl)⟩ (Nat.le_of_ble_eq_true rfl) dX9_count_165 (fun z_15 u_13 hp_14 => ?_)
      obtain ⟨hz_15, hp_14⟩ := hp_14
      subst hp_14
      exact r_int E dX9_count_168 ⟨⟨by have hb_ := z32 z_15; omega, by have hb_ := z32 z_15; omega, by first | (right; decide) | (have hb_ := z32 z_15; omega) | (have hb_ := z32 z_15; have hc_ := z32 x1; omega)⟩, rfl⟩
    | j + 12, hj => exact absurd hj (by omega)
