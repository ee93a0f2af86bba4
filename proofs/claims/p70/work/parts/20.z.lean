set_option maxRecDepth 20000 in
set_option maxHeartbeats 2000000 in
theorem Z_X9_appendFour_0 (l : Launch) (D : va_G) (aC : Nat → ClassId) (b : Nat) (w : XW) (x1 : Int32) (hI : Iv w)  : CnV l D aC b M_X9_appendFour 0 0 0 0 [AR 0, AI x1] w (fun u => Jv w u) := by
  refine cn_V (own := RX9) (nm := "appendFour") (L0 := [some (AR 0), some (AI x1), none]) (by decide +kernel) rfl rfl (Nat.le_of_ble_eq_true rfl) rfl ?_
  intro p e s m args below meth c E hin
  have hJ : Jv w w := jv_rfl hI
  have hb_x1 := z32 x1
  refine s_bipush (v := 24) E dX9_appendFour_0 (by decide) ?_
  refine s_istore_n (L2 := [some (AR 0), some (AI x1), some (AI 24)]) E dX9_appendFour_2 rfl (by decide) rfl ?_
  refine z_loop (St := Int32) (Pi := fun q3_2_0 v3 => ((-8) ≤ q3_2_0.toInt ∧ q3_2_0.toInt ≤ 24) ∧ Jv w v3) (Lf := fun q3_2_0 => [some (AR 0), some (AI x1), some (AI q3_2_0)]) (fun q3_2_0 _ => (q3_2_0.toInt - (-8)).toNat) 24 ⟨⟨by decide, by decide⟩, hJ⟩ ?_
  rintro q3_2_0 v3 ⟨hq3_2, hj_1⟩ ih3
  refine s_loc (L2 := [some (AR 0), some (AI x1), some (AI q3_2_0)]) rfl ?_
  refine s_iload_n E dX9_appendFour_3 rfl rfl ?_
  refine z_if_lt (tgt := 55) (u := q3_2_0.toInt) E dX9_appendFour_4 (by decide) rfl (fun h_2 => ?_) (fun h_2 => ?_)
  ·
    exact r_void E dX9_appendFour_55 hj_1
  ·
    refine s_aload_n E dX9_appendFour_7 rfl rfl ?_
    refine s_gI E fg_X9_13 rfl rfl (jv_lt hj_1 (by decide)) dX9_appendFour_8 ?_
    refine z_nm (P := fun z => z.toInt = (v3.2.2.1 0 1).toInt ∧ 0 ≤ z.toInt ∧ z.toInt ≤ 1000) ⟨rfl, (rg_0_1 hj_1)⟩ (fun z_3 hz_3 => ?_)
    refine z_if_lt (tgt := 49) (u := z_3.toInt) E dX9_appendFour_11 (by decide) rfl (fun h_4 => absurd h_4 (by omega)) (fun h_4 => ?_)
    refine s_aload_n E dX9_appendFour_14 rfl rfl ?_
    refine s_gI E fg_X9_13 rfl rfl (jv_lt hj_1 (by decide)) dX9_appendFour_15 ?_
    refine z_nm (P := fun z => z.toInt = (v3.2.2.1 0 1).toInt ∧ 0 ≤ z.toInt ∧ z.toInt ≤ 1000) ⟨rfl, (rg_0_1 hj_1)⟩ (fun z_5 hz_5 => ?_)
    refine s_aload_n E dX9_appendFour_18 rfl rfl ?_
    refine s_gR (r := 1) E fg_X9_9 rfl rfl (jv_lt hj_1 (by decide)) (jv_r hj_1 (by decide +kernel)) dX9_appendFour_19 ?_
    refine s_alen (v := 1000) E rfl (by decide) (jv_lt hj_1 (by decide)) (by decide) dX9_appendFour_22 ?_
    refine z_icmp_ge (tgt := 49) (u := z_5.toInt) (v := 1000) E dX9_appendFour_23 (by decide) rfl (by decide) (fun h_6 => ?_) (fun h_6 => ?_)
    ·
      refine z_iinc (u := q3_2_0.toInt) (L2 := fun z_7 => [some (AR 0), some (AI x1), some (AI z_7)]) E dX9_appendFour_49 rfl rfl (by decide) (fun _ => rfl) (by decide) (by omega) (by omega) (fun z_7 hz_7 => ?_)
      refine s_goto (tgt := 3) E dX9_appendFour_52 (by decide) ?_
      exact ih3 z_7 v3 ⟨⟨by have hb_ := z32 z_7; omega, by have hb_ := z32 z_7; omega⟩, hj_1⟩ (by first | omega | decide | (dsimp only; omega) | (dsimp only; decide))
    ·
      refine s_aload_n E dX9_appendFour_26 rfl rfl ?_
      refine s_gR (r := 1) E fg_X9_9 rfl rfl (jv_lt hj_1 (by decide)) (jv_r hj_1 (by decide +kernel)) dX9_appendFour_27 ?_
      refine s_aload_n E dX9_appendFour_30 rfl rfl ?_
      refine s_gI E fg_X9_13 rfl rfl (jv_lt hj_1 (by decide)) dX9_appendFour_31 ?_
      refine z_nm (P := fun z => z.toInt = (v3.2.2.1 0 1).toInt ∧ 0 ≤ z.toInt ∧ z.toInt ≤ 1000) ⟨rfl, (rg_0_1 hj_1)⟩ (fun z_8 hz_8 => ?_)
      refine s_iload_n E dX9_appendFour_34 rfl rfl ?_
      refine s_iload_n E dX9_appendFour_35 rfl rfl ?_
      refine s_iushr E dX9_appendFour_36 ?_
      refine z_nm (P := fun z => (-2147483648) ≤ z.toInt ∧ z.toInt ≤ 2147483647) (z32 _) (fun z_9 hz_9 => ?_)
      refine s_i2b E dX9_appendFour_37 ?_
      refine z_nm (P := fun z => (-2147483648) ≤ z.toInt ∧ z.toInt ≤ 2147483647) (z32 _) (fun z_10 hz_10 => ?_)
      refine s_bast E rfl (jv_lt hj_1 (by decide)) (z_in (u := z_8.toInt) rfl (by omega) (by omega)) dX9_appendFour_38 ?_
      refine s_gen (P := fun v => Jv w v ∧ (v.2.2.1 0 1).toInt = (v3.2.2.1 0 1).toInt) ⟨(jv_b_1 hj_1), rfl⟩ (fun v_11 hj_12 => ?_)
      obtain ⟨hj_12, hk_13k0⟩ := hj_12
      refine s_aload_n E dX9_appendFour_39 rfl rfl ?_
      refine s_dupR E dX9_appendFour_40 ?_
      refine s_gI E fg_X9_13 rfl rfl (jv_lt hj_12 (by decide)) dX9_appendFour_41 ?_
      refine z_nm (P := fun z => z.toInt = (v_11.2.2.1 0 1).toInt ∧ 0 ≤ z.toInt ∧ z.toInt ≤ 1000) ⟨rfl, (rg_0_1 hj_12)⟩ (fun z_14 hz_14 => ?_)
      refine s_iconst (v := 1) E dX9_appendFour_44 (by decide) ?_
      refine z_iadd (u := z_14.toInt) (v := 1) E dX9_appendFour_45 rfl (by decide) (by omega) (by omega) (fun z_15 hz_15 => ?_)
      refine s_pI E fp_X9_13 (Or.inl rfl) rfl (jv_lt hj_12 (by decide)) dX9_appendFour_46 ?_
      refine s_gen (P := Jv w) (jv_f_0_1 hj_12 (by have hb_ := z32 z_15; omega) (by have hb_ := z32 z_15; omega)) (fun v_16 hj_17 => ?_)
      refine z_iinc (u := q3_2_0.toInt) (L2 := fun z_18 => [some (AR 0), some (AI x1), some (AI z_18)]) E dX9_appendFour_49 rfl rfl (by decide) (fun _ => rfl) (by decide) (by omega) (by omega) (fun z_18 hz_18 => ?_)
      refine s_goto (tgt := 3) E dX9_appendFour_52 (by decide) ?_
      exact ih3 z_18 v_16 ⟨⟨by have hb_ := z32 z_18; omega, by have hb_ := z32 z_18; omega⟩, hj_17⟩ (by first | omega | decide | (dsimp only; omega) | (dsimp only; decide))
set_option maxRecDepth 20000 in
set_option maxHeartbeats 2000000 in
theorem Z_X9_feed_0 (l : Launch) (D : va_G) (aC : Nat → ClassId) (b : Nat) (w : XW) (x1 : Int32) (x2 : Int32) (x3 : Int32) (x4 : Int32) (x5 : Int32) (hI : Iv w)  : CnI l D aC b M_X9_feed 1 22 0 0 [AR 0, AI x1, AI x2, AI x3, AI x4, AI x5] w (fun r u => ((-1) ≤ r.toInt ∧ r.toInt ≤ 1000 ∧ (¬ r.toInt = 0 ∨ (0 ≤ (w.2.2.1 0 1).toInt ∧ (w.2.2.1 0 1).toInt ≤ 980))) ∧ Jv w u) := by
  refine cn_I (own := RX9) (nm := "feed") (L0 := [some (AR 0), some (AI x1), some (AI x2), some (AI x3), some (AI x4), some (AI x5)]) (by decide +kernel) rfl rfl (Nat.le_of_ble_eq_true rfl) rfl ?_
  intro p e s m args below meth c E hin
  have hJ : Jv w w := jv_rfl hI
  have hb_x1 := z32 x1
  have hb_x2 := z32 x2
  have hb_x3 := z32 x3
  have hb_x4 := z32 x4
  have hb_x5 := z32 x5
  refine s_aload_n E dX9_feed_0 rfl rfl ?_
  refine s_gI E fg_X9_13 rfl rfl (jv_lt hJ (by decide)) dX9_feed_1 ?_
  refine z_nm (P := fun z => z.toInt = (w.2.2.1 0 1).toInt ∧ 0 ≤ z.toInt ∧ z.toInt ≤ 1000) ⟨rfl, (rg_0_1 hJ)⟩ (fun z_1 hz_1 => ?_)
  refine s_sipush (v := 980) E dX9_feed_4 (by decide) ?_
  refine z_icmp_le (tgt := 12) (u := z_1.toInt) (v := 980) E dX9_feed_7 (by decide) rfl (by decide) (fun h_2 => ?_) (fun h_2 => ?_)
  ·
    refine s_aload_n E dX9_feed_12 rfl rfl ?_
    refine s_iload_n E dX9_feed_13 rfl rfl ?_
    refine s_vV (As := [AI x1]) (S := []) E (Z_X9_appendFour_0 l D aC b w x1 hJ.1 ) cv_X9_93 rfl rfl rfl (jv_lt hJ (by decide)) (Nat.le_of_ble_eq_true rfl) (Nat.le_of_ble_eq_true rfl) ⟨(Nat.le_of_ble_eq_true rfl), (Nat.le_of_ble_eq_true rfl)⟩ (Nat.le_of_ble_eq_true rfl) dX9_feed_14 (fun u_3 hp_4 => ?_)
    have hj_5 := jv_trans hJ hp_4
    refine s_aload_n E dX9_feed_17 rfl rfl ?_
    refine s_iload_n E dX9_feed_18 rfl rfl ?_
    refine s_vV (As := [AI x2]) (S := []) E (Z_X9_appendFour_0 l D aC b u_3 x2 hj_5.1 ) cv_X9_93 rfl rfl rfl (jv_lt hj_5 (by decide)) (Nat.le_of_ble_eq_true rfl) (Nat.le_of_ble_eq_true rfl) ⟨(Nat.le_of_ble_eq_true rfl), (Nat.le_of_ble_eq_true rfl)⟩ (Nat.le_of_ble_eq_true rfl) dX9_feed_19 (fun u_6 hp_7 => ?_)
    have hj_8 := jv_trans hj_5 hp_7
    refine s_aload_n E dX9_feed_22 rfl rfl ?_
    refine s_iload_n E dX9_feed_23 rfl rfl ?_
    refine s_vV (As := [AI x3]) (S := []) E (Z_X9_appendFour_0 l D aC b u_6 x3 hj_8.1 ) cv_X9_93 rfl rfl rfl (jv_lt hj_8 (by decide)) (Nat.le_of_ble_eq_true rfl) (Nat.le_of_ble_eq_true rfl) ⟨(Nat.le_of_ble_eq_true rfl), (Nat.le_of_ble_eq_true rfl)⟩ (Nat.le_of_ble_eq_true rfl) dX9_feed_24 (fun u_9 hp_10 => ?_)
    have hj_11 := jv_trans hj_8 hp_10
    refine s_aload_n E dX9_feed_27 rfl rfl ?_
    refine s_iload E dX9_feed_28 rfl ?_
    refine s_vV (As := [AI x4]) (S := []) E (Z_X9_appendFour_0 l D aC b u_9 x4 hj_11.1 ) cv_X9_93 rfl rfl rfl (jv_lt hj_11 (by decide)) (Nat.le_of_ble_eq_true rfl) (Nat.le_of_ble_eq_true rfl) ⟨(Nat.le_of_ble_eq_true rfl), (Nat.le_of_ble_eq_true rfl)⟩ (Nat.le_of_ble_eq_true rfl) dX9_feed_30 (fun u_12 hp_13 => ?_)
    have hj_14 := jv_trans hj_11 hp_13
    refine s_aload_n E dX9_feed_33 rfl rfl ?_
    refine s_iload E dX9_feed_34 rfl ?_
    refine s_vV (As := [AI x5]) (S := []) E (Z_X9_appendFour_0 l D aC b u_12 x5 hj_14.1 ) cv_X9_93 rfl rfl rfl (jv_lt hj_14 (by decide)) (Nat.le_of_ble_eq_true rfl) (Nat.le_of_ble_eq_true rfl) ⟨(Nat.le_of_ble_eq_true rfl), (Nat.le_of_ble_eq_true rfl)⟩ (Nat.le_of_ble_eq_true rfl) dX9_feed_36 (fun u_15 hp_16 => ?_)
    have hj_17 := jv_trans hj_14 hp_16
    refine s_aload_n E dX9_feed_39 rfl rfl ?_
    refine s_gI E fg_X9_13 rfl rfl (jv_lt hj_17 (by decide)) dX9_feed_40 ?_
    refine z_nm (P := fun z => z.toInt = (u_15.2.2.1 0 1).toInt ∧ 0 ≤ z.toInt ∧ z.toInt ≤ 1000) ⟨rfl, (rg_0_1 hj_17)⟩ (fun z_18 hz_18 => ?_)
    exact r_int E dX9_feed_43 ⟨⟨by have hb_ := z32 z_18; omega, by have hb_ := z32 z_18; omega, by first | (right; decide) | (have hb_ := z32 z_18; omega) | (have hb_ := z32 z_18; have hc_ := z32 (w.2.2.1 0 1); omega)⟩, hj_17⟩
  ·
    refine s_iconst (v := (-1)) E dX9_feed_10 (by decide) ?_
    exact r_int E dX9_feed_11 ⟨⟨by decide, by decide, by first | (left; decide) | (right; decide) | (right; have hb_ := z32 (w.2.2.1 0 1); omega)⟩, hJ⟩
set_option maxRecDepth 20000 in
set_option maxHeartbeats 2000000 in
theorem Z_X9_end_0 (l : Launch) (D : va_G) (aC : Nat → ClassId) (b : Nat) (w : XW) (x1 : Int32) (hI : Iv w)  : CnI l D aC b M_X9_end 0 0 0 0 [AR 0, AI x1] w (fun r u => ((-1) ≤ r.toInt ∧ r.toInt ≤ 1000 ∧ (¬ r.toInt = 0 ∨ (0 ≤ x1.toInt ∧ x1.toInt ≤ 1000))) ∧ Jv w u) := by
  refine cn_I (own := RX9) (nm := "end") (L0 := [some (AR 0), some (AI x1)]) (by decide +kernel) rfl rfl (Nat.le_of_ble_eq_true rfl) rfl ?_
  intro p e s m args below meth c E hin
  have hJ : Jv w w := jv_rfl hI
  have hb_x1 := z32 x1
  refine s_iload_n E dX9_end_0 rfl rfl ?_
  refine z_if_lt (tgt := 12) (u := x1.toInt) E dX9_end_1 (by decide) rfl (fun h_1 => ?_) (fun h_1 => ?_)
  ·
    refine s_iconst (v := (-1)) E dX9_end_12 (by decide) ?_
    exact r_int E dX9_end_13 ⟨⟨by decide, by decide, by first | (left; decide) | (right; decide) | (right; have hb_ := z32 x1; omega)⟩, hJ⟩
  ·
    refine s_iload_n E dX9_end_4 rfl rfl ?_
    refine s_aload_n E dX9_end_5 rfl rfl ?_
    refine s_gI E fg_X9_13 rfl rfl (jv_lt hJ (by decide)) dX9_end_6 ?_
    refine z_nm (P := fun z => z.toInt = (w.2.2.1 0 1).toInt ∧ 0 ≤ z.toInt ∧ z.toInt ≤ 1000) ⟨rfl, (rg_0_1 hJ)⟩ (fun z_2 hz_2 => ?_)
    refine z_icmp_le (tgt := 14) (u := x1.toInt) (v := z_2.toInt) E dX9_end_9 (by decide) rfl rfl (fun h_3 => ?_) (fun h_3 => ?_)
    ·
      refine s_aload_n E dX9_end_14 rfl rfl ?_
      refine s_iload_n E dX9_end_15 rfl rfl ?_
      refine s_pI E fp_X9_13 (Or.inl rfl) rfl (jv_lt hJ (by decide)) dX9_end_16 ?_
      refine s_gen (P := Jv w) (jv_f_0_1 hJ (by have hb_ := z32 x1; omega) (by have hb_ := z32 x1; omega)) (fun v_4 hj_5 => ?_)
      refine s_iload_n E dX9_end_19 rfl rfl ?_
      exact r_int E dX9_end_20 ⟨⟨by have hb_ := z32 x1; omega, by have hb_ := z32 x1; omega, by first | (right; decide) | (have hb_ := z32 x1; omega) | (have hb_ := z32 x1; have hc_ := z32 x1; omega)⟩, hj_5⟩
    ·
      refine s_iconst (v := (-1)) E dX9_end_12 (by decide) ?_
      exact r_int E dX9_end_13 ⟨⟨by decide, by decide, by first | (left; decide) | (right; decide) | (right; have hb_ := z32 x1; omega)⟩, hJ⟩
set_option maxRecDepth 20000 in
set_option maxHeartbeats 2000000 in
theorem Z_X8_clear_14 (l : Launch) (D : va_G) (aC : Nat → ClassId) (b : Nat) (w : XW)  (hI : Iv w)  : CnV l D aC b M_X8_clear 0 0 0 0 [AR 14] w (fun u => ((u.2.2.1 13 1).toInt = (w.2.2.1 13 1).toInt ∧ (u.2.2.1 13 2).toInt = (w.2.2.1 13 2).toInt) ∧ Jv w u) := by
  refine cn_V (own := RX8) (nm := "clear") (L0 := [some (AR 14)]) (by decide +kernel) rfl rfl (Nat.le_of_ble_eq_true rfl) rfl ?_
  intro p e s m args below meth c E hin
  have hJ : Jv w w := jv_rfl hI
  refine s_aload_n E dX8_clear_0 rfl rfl ?_
  refine s_iconst (v := 0) E dX8_clear_1 (by decide) ?_
  refine s_pI E fp_X8_28 (Or.inl rfl) rfl (jv_lt hJ (by decide)) dX8_clear_2 ?_
  refine s_gen (P := fun v => Jv w v ∧ (v.2.2.1 13 1).toInt = (w.2.2.1 13 1).toInt ∧ (v.2.2.1 13 2).toInt = (w.2.2.1 13 2).toInt) ⟨(jv_f_14_3 hJ (by decide) (by decide)), rfl, rfl⟩ (fun v_1 hj_2 => ?_)
  obtain ⟨hj_2, hk_3k0, hk_3k1⟩ := hj_2
  exact r_void E dX8_clear_5 ⟨(by omega), hj_2⟩
set_option maxRecDepth 20000 in
set_option maxHeartbeats 2000000 in
theorem Z_X8_clear_16 (l : Launch) (D : va_G) (aC : Nat → ClassId) (b : Nat) (w : XW)  (hI : Iv w)  : CnV l D aC b M_X8_clear 0 0 0 0 [AR 16] w (fun u => ((u.2.2.1 13 1).toInt = (w.2.2.1 13 1).toInt ∧ (u.2.2.1 13 2).toInt = (w.2.2.1 13 2).toInt) ∧ Jv w u) := by
  refine cn_V (own := RX8) (nm := "clear") (L0 := [some (AR 16)]) (by decide +kernel) rfl rfl (Nat.le_of_ble_eq_true rfl) rfl ?_
  intro p e s m args below meth c E hin
  have hJ : Jv w w := jv_rfl hI
  refine s_aload_n E dX8_clear_0 rfl rfl ?_
  refine s_iconst (v := 0) E dX8_clear_1 (by decide) ?_
  refine s_pI E fp_X8_28 (Or.inl rfl) rfl (jv_lt hJ (by decide)) dX8_clear_2 ?_
  refine s_gen (P := fun v => Jv w v ∧ (v.2.2.1 13 1).toInt = (w.2.2.1 13 1).toInt ∧ (v.2.2.1 13 2).toInt = (w.2.2.1 13 2).toInt) ⟨(jv_f_16_3 hJ (by decide) (by decide)), rfl, rfl⟩ (fun v_1 hj_2 => ?_)
  obtain ⟨hj_2, hk_3k0, hk_3k1⟩ := hj_2
  exact r_void E dX8_clear_5 ⟨(by omega), hj_2⟩
set_option maxRecDepth 20000 in
set_option maxHeartbeats 2000000 in
theorem Z_X8_clear_18 (l : Launch) (D : va_G) (aC : Nat → ClassId) (b : Nat) (w : XW)  (hI : Iv w)  : CnV l D aC b M_X8_clear 0 0 0 0 [AR 18] w (fun u => ((u.2.2.1 13 1).toInt = (w.2.2.1 13 1).toInt ∧ (u.2.2.1 13 2).toInt = (w.2.2.1 13 2).toInt) ∧ Jv w u) := by
  refine cn_V (own := RX8) (nm := "clear") (L0 := [some (AR 18)]) (by decide +kernel) rfl rfl (Nat.le_of_ble_eq_true rfl) rfl ?_
  intro p e s m args below meth c E hin
  have hJ : Jv w w := jv_rfl hI
  refine s_aload_n E dX8_clear_0 rfl rfl ?_
  refine s_iconst (v := 0) E dX8_clear_1 (by decide) ?_
  refine s_pI E fp_X8_28 (Or.inl rfl) rfl (jv_lt hJ (by decide)) dX8_clear_2 ?_
  refine s_gen (P := fun v => Jv w v ∧ (v.2.2.1 13 1).toInt = (w.2.2.1 13 1).toInt ∧ (v.2.2.1 13 2).toInt = (w.2.2.1 13 2).toInt) ⟨(jv_f_18_3 hJ (by decide) (by decide)), rfl, rfl⟩ (fun v_1 hj_2 => ?_)
  obtain ⟨hj_2, hk_3k0, hk_3k1⟩ := hj_2
  exact r_void E dX8_clear_5 ⟨(by omega), hj_2⟩
set_option maxRecDepth 20000 in
set_option maxHeartbeats 2000000 in
theorem Z_X8_clear_20 (l : Launch) (D : va_G) (aC : Nat → ClassId) (b : Nat) (w : XW)  (hI : Iv w)  : CnV l D aC b M_X8_clear 0 0 0 0 [AR 20] w (fun u => ((u.2.2.1 13 1).toInt = (w.2.2.1 13 1).toInt ∧ (u.2.2.1 13 2).toInt = (w.2.2.1 13 2).toInt) ∧ Jv w u) := by
  refine cn_V (own := RX8) (nm := "clear") (L0 := [some (AR 20)]) (by decide +kernel) rfl rfl (Nat.le_of_ble_eq_true rfl) rfl ?_
  intro p e s m args below meth c E hin
  have hJ : Jv w w := jv_rfl hI
  refine s_aload_n E dX8_clear_0 rfl rfl ?_
  refine s_iconst (v := 0) E dX8_clear_1 (by decide) ?_
  refine s_pI E fp_X8_28 (Or.inl rfl) rfl (jv_lt hJ (by decide)) dX8_clear_2 ?_
  refine s_gen (P := fun v => Jv w v ∧ (v.2.2.1 13 1).toInt = (w.2.2.1 13 1).toInt ∧ (v.2.2.1 13 2).toInt = (w.2.2.1 13 2).toInt) ⟨(jv_f_20_3 hJ (by decide) (by decide)), rfl, rfl⟩ (fun v_1 hj_2 => ?_)
  obtain ⟨hj_2, hk_3k0, hk_3k1⟩ := hj_2
  exact r_void E dX8_clear_5 ⟨(by omega), hj_2⟩
set_option maxRecDepth 20000 in
set_option maxHeartbeats 2000000 in
theorem Z_X8_clear_22 (l : Launch) (D : va_G) (aC : Nat → ClassId) (b : Nat) (w : XW)  (hI : Iv w)  : CnV l D aC b M_X8_clear 0 0 0 0 [AR 22] w (fun u => ((u.2.2.1 13 1).toInt = (w.2.2.1 13 1).toInt ∧ (u.2.2.1 13 2).toInt = (w.2.2.1 13 2).toInt) ∧ Jv w u) := by
  refine cn_V (own := RX8) (nm := "clear") (L0 := [some (AR 22)]) (by decide +kernel) rfl rfl (Nat.le_of_ble_eq_true rfl) rfl ?_
  intro p e s m args below meth c E hin
  have hJ : Jv w w := jv_rfl hI
  refine s_aload_n E dX8_clear_0 rfl rfl ?_
  refine s_iconst (v := 0) E dX8_clear_1 (by decide) ?_
  refine s_pI E fp_X8_28 (Or.inl rfl) rfl (jv_lt hJ (by decide)) dX8_clear_2 ?_
  refine s_gen (P := fun v => Jv w v ∧ (v.2.2.1 13 1).toInt = (w.2.2.1 13 1).toInt ∧ (v.2.2.1 13 2).toInt = (w.2.2.1 13 2).toInt) ⟨(jv_f_22_3 hJ (by decide) (by decide)), rfl, rfl⟩ (fun v_1 hj_2 => ?_)
  obtain ⟨hj_2, hk_3k0, hk_3k1⟩ := hj_2
  exact r_void E dX8_clear_5 ⟨(by omega), hj_2⟩
set_option maxRecDepth 20000 in
set_option maxHeartbeats 2000000 in
theorem Z_X0_clear_13 (l : Launch) (D : va_G) (aC : Nat → ClassId) (b : Nat) (w : XW)  (hI : Iv w)  : CnV l D aC b M_X0_clear 1 20 0 0 [AR 13] w (fun u => ((u.2.2.1 13 1).toInt = 0 ∧ (u.2.2.1 13 2).toInt = 0) ∧ Jv w u) := by
  refine cn_V (own := RX0) (nm := "clear") (L0 := [some (AR 13)]) (by decide +kernel) rfl rfl (Nat.le_of_ble_eq_true rfl) rfl ?_
  intro p e s m args below meth c E hin
  have hJ : Jv w w := jv_rfl hI
  refine s_aload_n E dX0_clear_0 rfl rfl ?_
  refine s_iconst (v := 0) E dX0_clear_1 (by decide) ?_
  refine s_pI E fp_X0_32 (Or.inl rfl) rfl (jv_lt hJ (by decide)) dX0_clear_2 ?_
  refine s_gen (P := fun v => Jv w v ∧ (v.2.2.1 13 1).toInt = (w.2.2.1 13 1).toInt ∧ (v.2.2.1 13 2).toInt = (w.2.2.1 13 2).toInt) ⟨(jv_f_13_0 hJ (by decide) (by decide)), rfl, rfl⟩ (fun v_1 hj_2 => ?_)
  obtain ⟨hj_2, hk_3k0, hk_3k1⟩ := hj_2
  refine s_aload_n E dX0_clear_5 rfl rfl ?_
  refine s_iconst (v := 0) E dX0_clear_6 (by decide) ?_
  refine s_pI E fp_X0_36 (Or.inl rfl) rfl (jv_lt hj_2 (by decide)) dX0_clear_7 ?_
  refine s_gen (P := fun v => Jv w v ∧ (v.2.2.1 13 1).toInt = 0 ∧ (v.2.2.1 13 2).toInt = (v_1.2.2.1 13 2).toInt) ⟨(jv_f_13_1 hj_2 (fun h0_ => by first | omega | decide)), rfl, rfl⟩ (fun v_4 hj_5 => ?_)
  obtain ⟨hj_5, hk_6k0, hk_6k1⟩ := hj_5
  refine s_aload_n E dX0_clear_10 rfl rfl ?_
  refine s_iconst (v := 0) E dX0_clear_11 (by decide) ?_
  refine s_pI E fp_X0_39 (Or.inl rfl) rfl (jv_lt hj_5 (by decide)) dX0_clear_12 ?_
  refine s_gen (P := fun v => Jv w v ∧ (v.2.2.1 13 1).toInt = (v_4.2.2.1 13 1).toInt ∧ (v.2.2.1 13 2).toInt = 0) ⟨(jv_f_13_2 hj_5 (fun h0_ => by first | omega | decide)), rfl, rfl⟩ (fun v_7 hj_8 => ?_)
  obtain ⟨hj_8, hk_9k0, hk_9k1⟩ := hj_8
  refine s_aload_n E dX0_clear_15 rfl rfl ?_
  refine s_iconst (v := 0) E dX0_clear_16 (by decide) ?_
  refine s_pI E fp_X0_42 (Or.inl rfl) rfl (jv_lt hj_8 (by decide)) dX0_clear_17 ?_
  refine s_gen (P := fun v => Jv w v ∧ (v.2.2.1 13 1).toInt = (v_7.2.2.1 13 1).toInt ∧ (v.2.2.1 13 2).toInt = (v_7.2.2.1 13 2).toInt) ⟨(jv_f_13_3 hj_8 (by decide) (by decide)), rfl, rfl⟩ (fun v_10 hj_11 => ?_)
  obtain ⟨hj_11, hk_12k0, hk_12k1⟩ := hj_11
  refine s_aload_n E dX0_clear_20 rfl rfl ?_
  refine s_iconst (v := 0) E dX0_clear_21 (by decide) ?_
  refine s_pI E fp_X0_45 (Or.inl rfl) rfl (jv_lt hj_11 (by decide)) dX0_clear_22 ?_
  refine s_gen (P := fun v => Jv w v ∧ (v.2.2.1 13 1).toInt = (v_10.2.2.1 13 1).toInt ∧ (v.2.2.1 13 2).toInt = (v_10.2.2.1 13 2).toInt) ⟨(jv_f_13_4 hj_11 (by decide) (by decide)), rfl, rfl⟩ (fun v_13 hj_14 => ?_)
  obtain ⟨hj_14, hk_15k0, hk_15k1⟩ := hj_14
  refine s_aload_n E dX0_clear_25 rfl rfl ?_
  refine s_gR (r := 14) E fg_X0_14 rfl rfl (jv_lt hj_14 (by decide)) (jv_r hj_14 (by decide +kernel)) dX0_clear_26 ?_
  refine s_vV (As := []) (S := []) E (Z_X8_clear_14 l D aC b v_13  hj_14.1 ) cv_X0_48 rfl rfl rfl (jv_lt hj_14 (by decide)) (Nat.le_of_ble_eq_true rfl) (Nat.le_of_ble_eq_true rfl) ⟨(Nat.le_of_ble_eq_true rfl), (Nat.le_of_ble_eq_true rfl)⟩ (Nat.le_of_ble_eq_true rfl) dX0_clear_29 (fun u_16 hp_17 => ?_)
  obtain ⟨hx_hp_17, hp_17⟩ := hp_17
  have hj_18 := jv_trans hj_14 hp_17
  refine s_aload_n E dX0_clear_32 rfl rfl ?_
  refine s_gR (r := 16) E fg_X0_20 rfl rfl (jv_lt hj_18 (by decide)) (jv_r hj_18 (by decide +kernel)) dX0_clear_33 ?_
  refine s_vV (As := []) (S := []) E (Z_X8_clear_16 l D aC b u_16  hj_18.1 ) cv_X0_48 rfl rfl rfl (jv_lt hj_18 (by decide)) (Nat.le_of_ble_eq_true rfl) (Nat.le_of_ble_eq_true rfl) ⟨(Nat.le_of_ble_eq_true rfl), (Nat.le_of_ble_eq_true rfl)⟩ (Nat.le_of_ble_eq_true rfl) dX0_clear_36 (fun u_19 hp_20 => ?_)
  obtain ⟨hx_hp_20, hp_20⟩ := hp_20
  have hj_21 := jv_trans hj_18 hp_20
  refine s_aload_n E dX0_clear_39 rfl rfl ?_
  refine s_gR (r := 18) E fg_X0_23 rfl rfl (jv_lt hj_21 (by decide)) (jv_r hj_21 (by decide +kernel)) dX0_clear_40 ?_
  refine s_vV (As := []) (S := []) E (Z_X8_clear_18 l D aC b u_19  hj_21.1 ) cv_X0_48 rfl rfl rfl (jv_lt hj_21 (by decide)) (Nat.le_of_ble_eq_true rfl) (Nat.le_of_ble_eq_true rfl) ⟨(Nat.le_of_ble_eq_true rfl), (Nat.le_of_ble_eq_true rfl)⟩ (Nat.le_of_ble_eq_true rfl) dX0_clear_43 (fun u_22 hp_23 => ?_)
  obtain ⟨hx_hp_23, hp_23⟩ := hp_23
  have hj_24 := jv_trans hj_21 hp_23
  refine s_aload_n E dX0_clear_46 rfl rfl ?_
  refine s_gR (r := 20) E fg_X0_26 rfl rfl (jv_lt hj_24 (by decide)) (jv_r hj_24 (by decide +kernel)) dX0_clear_47 ?_
  refine s_vV (As := []) (S := []) E (Z_X8_clear_20 l D aC b u_22  hj_24.1 ) cv_X0_48 rfl rfl rfl (jv_lt hj_24 (by decide)) (Nat.le_of_ble_eq_true rfl) (Nat.le_of_ble_eq_true rfl) ⟨(Nat.le_of_ble_eq_true rfl), (Nat.le_of_ble_eq_true rfl)⟩ (Nat.le_of_ble_eq_true rfl) dX0_clear_50 (fun u_25 hp_26 => ?_)
  obtain ⟨hx_hp_26, hp_26⟩ := hp_26
  have hj_27 := jv_trans hj_24 hp_26
  refine s_aload_n E dX0_clear_53 rfl rfl ?_
  refine s_gR (r := 22) E fg_X0_29 rfl rfl (jv_lt hj_27 (by decide)) (jv_r hj_27 (by decide +kernel)) dX0_clear_54 ?_
  refine s_vV (As := []) (S := []) E (Z_X8_clear_22 l D aC b u_25  hj_27.1 ) cv_X0_48 rfl rfl rfl (jv_lt hj_27 (by decide)) (Nat.le_of_ble_eq_true rfl) (Nat.le_of_ble_eq_true rfl) ⟨(Nat.le_of_ble_eq_true rfl), (Nat.le_of_ble_eq_true rfl)⟩ (Nat.le_of_ble_eq_true rfl) dX0_clear_57 (fun u_28 hp_29 => ?_)
  obtain ⟨hx_hp_29, hp_29⟩ := hp_29
  have hj_30 := jv_trans hj_27 hp_29
  exact r_void E dX0_clear_60 ⟨(by omega), hj_30⟩
set_option maxRecDepth 20000 in
set_option maxHeartbeats 2000000 in
theorem Z_X6_byteAt_24 (l : Launch) (D : va_G) (aC : Nat → ClassId) (b : Nat) (w : XW) (x1 : Int32) (hI : Iv w)  : CnI l D aC b M_X6_byteAt 0 0 0 0 [AR 24, AI x1] w (fun r u => ((-1) ≤ r.toInt ∧ r.toInt ≤ 255 ∧ (¬ r.toInt = 0 ∨ (0 ≤ x1.toInt ∧ x1.toInt ≤ 999)) ∧ (¬ r.toInt = 0 ∨ (1 ≤ (w.2.2.1 24 2).toInt ∧ (w.2.2.1 24 2).toInt ≤ 1000))) ∧ w = u) := by
  refine cn_I (own := RX6) (nm := "byteAt") (L0 := [some (AR 24), some (AI x1)]) (by decide +kernel) rfl rfl (Nat.le_of_ble_eq_true rfl) rfl ?_
  intro p e s m args below meth c E hin
  have hJ : Jv w w := jv_rfl hI
  have hb_x1 := z32 x1
  refine s_iload_n E dX6_byteAt_0 rfl rfl ?_
  refine z_if_lt (tgt := 34) (u := x1.toInt) E dX6_byteAt_1 (by decide) rfl (fun h_1 => ?_) (fun h_1 => ?_)
  ·
    refine s_iconst (v := (-1)) E dX6_byteAt_34 (by decide) ?_
    exact r_int E dX6_byteAt_35 ⟨⟨by decide, by decide, by first | (left; decide) | (right; decide) | (right; have hb_ := z32 x1; omega), by first | (left; decide) | (right; decide) | (right; have hb_ := z32 (w.2.2.1 24 2); omega)⟩, rfl⟩
  ·
    refine s_iload_n E dX6_byteAt_4 rfl rfl ?_
    refine s_aload_n E dX6_byteAt_5 rfl rfl ?_
    refine s_gI E fg_X6_32 rfl rfl (jv_lt hJ (by decide)) dX6_byteAt_6 ?_
    refine z_nm (P := fun z => z.toInt = (w.2.2.1 24 2).toInt ∧ 0 ≤ z.toInt ∧ z.toInt ≤ 1000) ⟨rfl, (rg_24_2 hJ)⟩ (fun z_2 hz_2 => ?_)
    refine z_icmp_ge (tgt := 34) (u := x1.toInt) (v := z_2.toInt) E dX6_byteAt_9 (by decide) rfl rfl (fun h_3 => ?_) (fun h_3 => ?_)
    ·
      refine s_iconst (v := (-1)) E dX6_byteAt_34 (by decide) ?_
      exact r_int E dX6_byteAt_35 ⟨⟨by decide, by decide, by first | (left; decide) | (right; decide) | (right; have hb_ := z32 x1; omega), by first | (left; decide) | (right; decide) | (right; have hb_ := z32 (w.2.2.1 24 2); omega)⟩, rfl⟩
    ·
      refine s_iload_n E dX6_byteAt_12 rfl rfl ?_
      refine s_aload_n E dX6_byteAt_13 rfl rfl ?_
      refine s_gR (r := 1) E fg_X6_9 rfl rfl (jv_lt hJ (by decide)) (jv_r hJ (by decide +kernel)) dX6_byteAt_14 ?_
      refine s_alen (v := 1000) E rfl (by decide) (jv_lt hJ (by decide)) (by decide) dX6_byteAt_17 ?_
      refine z_icmp_ge (tgt := 34) (u := x1.toInt) (v := 1000) E dX6_byteAt_18 (by decide) rfl (by decide) (fun h_4 => absurd h_4 (by omega)) (fun h_4 => ?_)
      refine s_aload_n E dX6_byteAt_21 rfl rfl ?_
      refine s_gR (r := 1) E fg_X6_9 rfl rfl (jv_lt hJ (by decide)) (jv_r hJ (by decide +kernel)) dX6_byteAt_22 ?_
      refine s_iload_n E dX6_byteAt_25 rfl rfl ?_
      refine s_bald E rfl (jv_lt hJ (by decide)) (z_in (u := x1.toInt) rfl (by omega) (by omega)) dX6_byteAt_26 ?_
      refine z_nm (P := fun z => (-128) ≤ z.toInt ∧ z.toInt ≤ 127) (ra_1 hJ _) (fun z_5 hz_5 => ?_)
      refine s_sipush (v := 255) E dX6_byteAt_27 (by decide) ?_
      refine z_mask (v := 255) E dX6_byteAt_30 (by decide) (by decide) (fun z_6 hz_6 => ?_)
      refine s_goto (tgt := 35) E dX6_byteAt_31 (by decide) ?_
      exact r_int E dX6_byteAt_35 ⟨⟨by have hb_ := z32 z_6; omega, by have hb_ := z32 z_6; omega, by first | (right; decide) | (have hb_ := z32 z_6; omega) | (have hb_ := z32 z_6; have hc_ := z32 x1; omega), by first | (right; decide) | (have hb_ := z32 z_6; omega) | (have hb_ := z32 z_6; have hc_ := z32 (w.2.2.1 24 2); omega)⟩, rfl⟩
set_option maxRecDepth 20000 in
set_option maxHeartbeats 2000000 in
theorem Z_X6_kindOf (l : Launch) (D : va_G) (aC : Nat → ClassId) (b : Nat) (w : XW) (x1 : Int32) (hI : Iv w)  : CnI l D aC b M_X6_kindOf 0 0 0 0 [AI x1] w (fun r u => (0 ≤ r.toInt ∧ r.toInt ≤ 4 ∧ (¬ r.toInt = 0 ∨ ((-1) ≤ x1.toInt ∧ x1.toInt ≤ (-1)))) ∧ w = u) := by
  refine cn_I (own := RX6) (nm := "kindOf") (L0 := [some (AI x1)]) (by decide +kernel) rfl rfl (Nat.le_of_ble_eq_true rfl) rfl ?_
  intro p e s m args below meth c E hin
  have hJ : Jv w w := jv_rfl hI
  have hb_x1 := z32 x1
  refine s_iload_n E dX6_kindOf_0 rfl rfl ?_
  refine s_iconst (v := (-1)) E dX6_kindOf_1 (by decide) ?_
  refine z_icmp_ne (tgt := 7) (u := x1.toInt) (v := (-1)) E dX6_kindOf_2 (by decide) rfl (by decide) (fun h_1 => ?_) (fun h_1 => ?_)
  ·
    refine s_iload_n E dX6_kindOf_7 rfl rfl ?_
    refine s_bipush (v := 97) E dX6_kindOf_8 (by decide) ?_
    refine z_icmp_lt (tgt := 21) (u := x1.toInt) (v := 97) E dX6_kindOf_10 (by decide) rfl (by decide) (fun h_2 => ?_) (fun h_2 => ?_)
    ·
      refine s_iload_n E dX6_kindOf_21 rfl rfl ?_
      refine s_bipush (v := 48) E dX6_kindOf_22 (by decide) ?_
      refine z_icmp_lt (tgt := 35) (u := x1.toInt) (v := 48) E dX6_kindOf_24 (by decide) rfl (by decide) (fun h_3 => ?_) (fun h_3 => ?_)
      ·
        refine s_iload_n E dX6_kindOf_35 rfl rfl ?_
        refine s_bipush (v := 59) E dX6_kindOf_36 (by decide) ?_
        refine z_icmp_ne (tgt := 45) (u := x1.toInt) (v := 59) E dX6_kindOf_38 (by decide) rfl (by decide) (fun h_4 => ?_) (fun h_4 => absurd h_4 (by omega))
        refine s_iconst (v := 4) E dX6_kindOf_45 (by decide) ?_
        exact r_int E dX6_kindOf_46 ⟨⟨by decide, by decide, by first | (left; decide) | (right; decide) | (right; have hb_ := z32 x1; omega)⟩, rfl⟩
      ·
        refine s_iload_n E dX6_kindOf_27 rfl rfl ?_
        refine s_bipush (v := 57) E dX6_kindOf_28 (by decide) ?_
        refine z_icmp_gt (tgt := 35) (u := x1.toInt) (v := 57) E dX6_kindOf_30 (by decide) rfl (by decide) (fun h_5 => ?_) (fun h_5 => ?_)
        ·
          refine s_iload_n E dX6_kindOf_35 rfl rfl ?_
          refine s_bipush (v := 59) E dX6_kindOf_36 (by decide) ?_
          refine z_icmp_ne (tgt := 45) (u := x1.toInt) (v := 59) E dX6_kindOf_38 (by decide) rfl (by decide) (fun h_6 => ?_) (fun h_6 => ?_)
          ·
            refine s_iconst (v := 4) E dX6_kindOf_45 (by decide) ?_
            exact r_int E dX6_kindOf_46 ⟨⟨by decide, by decide, by first | (left; decide) | (right; decide) | (right; have hb_ := z32 x1; omega)⟩, rfl⟩
          ·
            refine s_iconst (v := 3) E dX6_kindOf_41 (by decide) ?_
            refine s_goto (tgt := 46) E dX6_kindOf_42 (by decide) ?_
            exact r_int E dX6_kindOf_46 ⟨⟨by decide, by decide, by first | (left; decide) | (right; decide) | (right; have hb_ := z32 x1; omega)⟩, rfl⟩
        ·
          refine s_iconst (v := 2) E dX6_kindOf_33 (by decide) ?_
          exact r_int E dX6_kindOf_34 ⟨⟨by decide, by decide, by first | (left; decide) | (right; decide) | (right; have hb_ := z32 x1; omega)⟩, rfl⟩
    ·
      refine s_iload_n E dX6_kindOf_13 rfl rfl ?_
      refine s_bipush (v := 122) E dX6_kindOf_14 (by decide) ?_
      refine z_icmp_gt (tgt := 21) (u := x1.toInt) (v := 122) E dX6_kindOf_16 (by decide) rfl (by decide) (fun h_7 => ?_) (fun h_7 => ?_)
      ·
        refine s_iload_n E dX6_kindOf_21 rfl rfl ?_
        refine s_bipush (v := 48) E dX6_kindOf_22 (by decide) ?_
        refine z_icmp_lt (tgt := 35) (u := x1.toInt) (v := 48) E dX6_kindOf_24 (by decide) rfl (by decide) (fun h_8 => absurd h_8 (by omega)) (fun h_8 => ?_)
        refine s_iload_n E dX6_kindOf_27 rfl rfl ?_
        refine s_bipush (v := 57) E dX6_kindOf_28 (by decide) ?_
        refine z_icmp_gt (tgt := 35) (u := x1.toInt) (v := 57) E dX6_kindOf_30 (by decide) rfl (by decide) (fun h_9 => ?_) (fun h_9 => absurd h_9 (by omega))
        refine s_iload_n E dX6_kindOf_35 rfl rfl ?_
        refine s_bipush (v := 59) E dX6_kindOf_36 (by decide) ?_
        refine z_icmp_ne (tgt := 45) (u := x1.toInt) (v := 59) E dX6_kindOf_38 (by decide) rfl (by decide) (fun h_10 => ?_) (fun h_10 => absurd h_10 (by omega))
        refine s_iconst (v := 4) E dX6_kindOf_45 (by decide) ?_
        exact r_int E dX6_kindOf_46 ⟨⟨by decide, by decide, by first | (left; decide) | (right; decide) | (right; have hb_ := z32 x1; omega)⟩, rfl⟩
      ·
        refine s_iconst (v := 1) E dX6_kindOf_19 (by decide) ?_
        exact r_int E dX6_kindOf_20 ⟨⟨by decide, by decide, by first | (left; decide) | (right; decide) | (right; have hb_ := z32 x1; omega)⟩, rfl⟩
  ·
    refine s_iconst (v := 0) E dX6_kindOf_5 (by decide) ?_
    exact r_int E dX6_kindOf_6 ⟨⟨by decide, by decide, by first | (left; decide) | (right; decide) | (right; have hb_ := z32 x1; omega)⟩, rfl⟩
set_option maxRecDepth 20000 in
set_option maxHeartbeats 2000000 in
theorem Z_X6_isBlank (l : Launch) (D : va_G) (aC : Nat → ClassId) (b : Nat) (w : XW) (x1 : Int32) (hI : Iv w)  : CnI l D aC b M_X6_isBlank 0 0 0 0 [AI x1] w (fun r u => (0 ≤ r.toInt ∧ r.toInt ≤ 1 ∧ (r.toInt = 0 ∨ (10 ≤ x1.toInt ∧ x1.toInt ≤ 32))) ∧ w = u) := by
  refine cn_I (own := RX6) (nm := "isBlank") (L0 := [some (AI x1)]) (by decide +kernel) rfl rfl (Nat.le_of_ble_eq_true rfl) rfl ?_
  intro p e s m args below meth c E hin
  have hJ : Jv w w := jv_rfl hI
  have hb_x1 := z32 x1
  refine s_iload_n E dX6_isBlank_0 rfl rfl ?_
  refine s_bipush (v := 32) E dX6_isBlank_1 (by decide) ?_
  refine z_icmp_eq (tgt := 12) (u := x1.toInt) (v := 32) E dX6_isBlank_3 (by decide) rfl (by decide) (fun h_1 => ?_) (fun h_1 => ?_)
  ·
    refine s_iconst (v := 1) E dX6_isBlank_12 (by decide) ?_
    refine s_goto (tgt := 17) E dX6_isBlank_13 (by decide) ?_
    exact r_bool E dX6_isBlank_17 (Or.inr rfl) ⟨⟨by decide, by decide, by first | (left; decide) | (right; decide) | (right; have hb_ := z32 x1; omega)⟩, rfl⟩
  ·
    refine s_iload_n E dX6_isBlank_6 rfl rfl ?_
    refine s_bipush (v := 10) E dX6_isBlank_7 (by decide) ?_
    refine z_icmp_ne (tgt := 16) (u := x1.toInt) (v := 10) E dX6_isBlank_9 (by decide) rfl (by decide) (fun h_2 => ?_) (fun h_2 => ?_)
    ·
      refine s_iconst (v := 0) E dX6_isBlank_16 (by decide) ?_
      exact r_bool E dX6_isBlank_17 (Or.inl rfl) ⟨⟨by decide, by decide, by first | (left; decide) | (right; decide) | (right; have hb_ := z32 x1; omega)⟩, rfl⟩
    ·
      refine s_iconst (v := 1) E dX6_isBlank_12 (by decide) ?_
      refine s_goto (tgt := 17) E dX6_isBlank_13 (by decide) ?_
      exact r_bool E dX6_isBlank_17 (Or.inr rfl) ⟨⟨by decide, by decide, by first | (left; decide) | (right; decide) | (right; have hb_ := z32 x1; omega)⟩, rfl⟩
set_option maxRecDepth 20000 in
set_option maxHeartbeats 2000000 in
theorem Z_X6_nextToken_24 (l : Launch) (D : va_G) (aC : Nat → ClassId) (b : Nat) (w : XW)  (hI : Iv w)  : CnV l D aC b M_X6_nextToken 1 21 0 0 [AR 24] w (fun u => ((u.2.2.1 24 6).toInt = (w.2.2.1 24 6).toInt) ∧ Jv w u) := by
  refine cn_V (own := RX6) (nm := "nextToken") (L0 := [some (AR 24), none]) (by decide +kernel) rfl rfl (Nat.le_of_ble_eq_true rfl) rfl ?_
  intro p e s m args below meth c E hin
  have hJ : Jv w w := jv_rfl hI
  refine s_aload_n E dX6_nextToken_0 rfl rfl ?_
  refine s_gI E fg_X6_43 rfl rfl (jv_lt hJ (by decide)) dX6_nextToken_1 ?_
  refine z_nm (P := fun z => z.toInt = (w.2.2.1 24 5).toInt ∧ (-2147483648) ≤ z.toInt ∧ z.toInt ≤ 2147483647) ⟨rfl, z32 _⟩ (fun z_1 hz_1 => ?_)
  refine s_istore_n (L2 := [some (AR 24), some (AI z_1)]) E dX6_nextToken_4 rfl (by decide) rfl ?_
  refine z_loop (St := Int32) (Pi := fun q5_1_1 v5 => w = v5) (Lf := fun q5_1_1 => [some (AR 24), some (AI q5_1_1)]) (fun q5_1_1 _ => (2147483648 - q5_1_1.toInt).toNat) z_1 (rfl) ?_
  rintro q5_1_1 v5 hv_ ih5
  subst hv_
  have hbq5_1 := z32 q5_1_1
  refine s_loc (L2 := [some (AR 24), some (AI q5_1_1)]) rfl ?_
  refine s_iload_n E dX6_nextToken_5 rfl rfl ?_
  refine s_aload_n E dX6_nextToken_6 rfl rfl ?_
  refine s_gI E fg_X6_32 rfl rfl (jv_lt hJ (by decide)) dX6_nextToken_7 ?_
  refine z_nm (P := fun z => z.toInt = (w.2.2.1 24 2).toInt ∧ 0 ≤ z.toInt ∧ z.toInt ≤ 1000) ⟨rfl, (rg_24_2 hJ)⟩ (fun z_3 hz_3 => ?_)
  refine z_icmp_ge (tgt := 30) (u := q5_1_1.toInt) (v := z_3.toInt) E dX6_nextToken_10 (by decide) rfl rfl (fun h_4 => ?_) (fun h_4 => ?_)
  ·
    refine s_aload_n E dX6_nextToken_30 rfl rfl ?_
    refine s_iload_n E dX6_nextToken_31 rfl rfl ?_
    refine s_pI E fp_X6_162 (Or.inl rfl) rfl (jv_lt hJ (by decide)) dX6_nextToken_32 ?_
    refine s_gen (P := fun v => Jv w v ∧ (v.2.2.1 24 6).toInt = (w.2.2.1 24 6).toInt) ⟨(jv_f_24_4 hJ (by have hb_ := z32 q5_1_1; omega) (by have hb_ := z32 q5_1_1; omega)), rfl⟩ (fun v_5 hj_6 => ?_)
    obtain ⟨hj_6, hk_7k0⟩ := hj_6
    refine s_aload_n E dX6_nextToken_35 rfl rfl ?_
    refine s_aload_n E dX6_nextToken_36 rfl rfl ?_
    refine s_iload_n E dX6_nextToken_37 rfl rfl ?_
    refine s_vI (As := [AI q5_1_1]) (S := [AR 24]) E (Z_X6_byteAt_24 l D aC b v_5 q5_1_1 hj_6.1 ) cv_X6_169 rfl rfl rfl (jv_lt hj_6 (by decide)) (Nat.le_of_ble_eq_true rfl) (Nat.le_of_ble_eq_true rfl) ⟨(Nat.le_of_ble_eq_true rfl), (Nat.le_of_ble_eq_true rfl)⟩ (Nat.le_of_ble_eq_true rfl) dX6_nextToken_38 (fun z_10 u_8 hp_9 => ?_)
    obtain ⟨hz_10, hp_9⟩ := hp_9
    subst hp_9
    refine s_sI (As := [AI z_10]) (S := [AR 24]) E (Z_X6_kindOf l D aC b v_5 z_10 hj_6.1 ) cs_X6_181 rfl rfl (Nat.le_of_ble_eq_true rfl) (Nat.le_of_ble_eq_true rfl) ⟨(Nat.le_of_ble_eq_true rfl), (Nat.le_of_ble_eq_true rfl)⟩ (Nat.le_of_ble_eq_true rfl) dX6_nextToken_41 (fun z_14 u_12 hp_13 => ?_)
    obtain ⟨hz_14, hp_13⟩ := hp_13
    subst hp_13
    refine s_pI E fp_X6_49 (Or.inl rfl) rfl (jv_lt hj_6 (by decide)) dX6_nextToken_44 ?_
    refine s_gen (P := fun v => Jv w v ∧ (v.2.2.1 24 6).toInt = (v_5.2.2.1 24 6).toInt) ⟨(jv_f_24_3 hj_6 (by have hb_ := z32 z_14; omega) (by have hb_ := z32 z_14; omega)), rfl⟩ (fun v_16 hj_17 => ?_)
    obtain ⟨hj_17, hk_18k0⟩ := hj_17
    refine s_aload_n E dX6_nextToken_47 rfl rfl ?_
    refine s_gI E fg_X6_49 rfl rfl (jv_lt hj_17 (by decide)) dX6_nextToken_48 ?_
    refine z_nm (P := fun z => z.toInt = (v_16.2.2.1 24 3).toInt ∧ 0 ≤ z.toInt ∧ z.toInt ≤ 4) ⟨rfl, (rg_24_3 hj_17)⟩ (fun z_19 hz_19 => ?_)
    refine z_if_ne (tgt := 60) (u := z_19.toInt) E dX6_nextToken_51 (by decide) rfl (fun h_20 => ?_) (fun h_20 => ?_)
    ·
      refine z_iincW (L2 := fun z_21 => [some (AR 24), some (AI z_21)]) E dX6_nextToken_60 rfl (by decide) (fun _ => rfl) (fun z_21 => ?_)
      refine z_loop (St := Int32) (Pi := fun q63_1_21 v63 => v_16 = v63) (Lf := fun q63_1_21 => [some (AR 24), some (AI q63_1_21)]) (fun q63_1_21 _ => (2147483648 - q63_1_21.toInt).toNat) z_21 (rfl) ?_
      rintro q63_1_21 v63 hv_ ih63
      subst hv_
      have hbq63_1 := z32 q63_1_21
      refine s_loc (L2 := [some (AR 24), some (AI q63_1_21)]) rfl ?_
      refine s_iload_n E dX6_nextToken_63 rfl rfl ?_
      refine s_aload_n E dX6_nextToken_64 rfl rfl ?_
      refine s_gI E fg_X6_32 rfl rfl (jv_lt hj_17 (by decide)) dX6_nextToken_65 ?_
      refine z_nm (P := fun z => z.toInt = (v_16.2.2.1 24 2).toInt ∧ 0 ≤ z.toInt ∧ z.toInt ≤ 1000) ⟨rfl, (rg_24_2 hj_17)⟩ (fun z_23 hz_23 => ?_)
      refine z_icmp_ge (tgt := 108) (u := q63_1_21.toInt) (v := z_23.toInt) E dX6_nextToken_68 (by decide) rfl rfl (fun h_24 => ?_) (fun h_24 => ?_)
      ·
        refine s_aload_n E dX6_nextToken_108 rfl rfl ?_
        refine s_iload_n E dX6_nextToken_109 rfl rfl ?_
        refine s_pI E fp_X6_43 (Or.inl rfl) rfl (jv_lt hj_17 (by decide)) dX6_nextToken_110 ?_
        refine s_gen (P := fun v => Jv w v ∧ (v.2.2.1 24 6).toInt = (v_16.2.2.1 24 6).toInt ∧ (v.2.2.1 24 3).toInt = (v_16.2.2.1 24 3).toInt) ⟨(jv_f_24_5 hj_17 (by have hb_ := z32 q63_1_21; omega) (by have hb_ := z32 q63_1_21; omega)), rfl, rfl⟩ (fun v_25 hj_26 => ?_)
        obtain ⟨hj_26, hk_27k0, hk_27k1⟩ := hj_26
        exact r_void E dX6_nextToken_113 ⟨(by omega), hj_26⟩
      ·
        refine s_aload_n E dX6_nextToken_71 rfl rfl ?_
        refine s_gI E fg_X6_49 rfl rfl (jv_lt hj_17 (by decide)) dX6_nextToken_72 ?_
        refine z_nm (P := fun z => z.toInt = (v_16.2.2.1 24 3).toInt ∧ 0 ≤ z.toInt ∧ z.toInt ≤ 4) ⟨rfl, (rg_24_3 hj_17)⟩ (fun z_28 hz_28 => ?_)
        refine s_iconst (v := 1) E dX6_nextToken_75 (by decide) ?_
        refine z_icmp_eq (tgt := 87) (u := z_28.toInt) (v := 1) E dX6_nextToken_76 (by decide) rfl (by decide) (fun h_29 => ?_) (fun h_29 => ?_)
        ·
          refine s_aload_n E dX6_nextToken_87 rfl rfl ?_
          refine s_iload_n E dX6_nextToken_88 rfl rfl ?_
          refine s_vI (As := [AI q63_1_21]) (S := []) E (Z_X6_byteAt_24 l D aC b v_16 q63_1_21 hj_17.1 ) cv_X6_169 rfl rfl rfl (jv_lt hj_17 (by decide)) (Nat.le_of_ble_eq_true rfl) (Nat.le_of_ble_eq_true rfl) ⟨(Nat.le_of_ble_eq_true rfl), (Nat.le_of_ble_eq_true rfl)⟩ (Nat.le_of_ble_eq_true rfl) dX6_nextToken_89 (fun z_32 u_30 hp_31 => ?_)
          obtain ⟨hz_32, hp_31⟩ := hp_31
          subst hp_31
          refine s_sI (As := [AI z_32]) (S := []) E (Z_X6_kindOf l D aC b v_16 z_32 hj_17.1 ) cs_X6_181 rfl rfl (Nat.le_of_ble_eq_true rfl) (Nat.le_of_ble_eq_true rfl) ⟨(Nat.le_of_ble_eq_true rfl), (Nat.le_of_ble_eq_true rfl)⟩ (Nat.le_of_ble_eq_true rfl) dX6_nextToken_92 (fun z_36 u_34 hp_35 => ?_)
          obtain ⟨hz_36, hp_35⟩ := hp_35
          subst hp_35
          refine s_aload_n E dX6_nextToken_95 rfl rfl ?_
          refine s_gI E fg_X6_49 rfl rfl (jv_lt hj_17 (by decide)) dX6_nextToken_96 ?_
          refine z_nm (P := fun z => z.toInt = (v_16.2.2.1 24 3).toInt ∧ 0 ≤ z.toInt ∧ z.toInt ≤ 4) ⟨rfl, (rg_24_3 hj_17)⟩ (fun z_38 hz_38 => ?_)
          refine z_icmp_ne (tgt := 108) (u := z_36.toInt) (v := z_38.toInt) E dX6_nextToken_99 (by decide) rfl rfl (fun h_39 => ?_) (fun h_39 => ?_)
          ·
            refine s_aload_n E dX6_nextToken_108 rfl rfl ?_
            refine s_iload_n E dX6_nextToken_109 rfl rfl ?_
            refine s_pI E fp_X6_43 (Or.inl rfl) rfl (jv_lt hj_17 (by decide)) dX6_nextToken_110 ?_
            refine s_gen (P := fun v => Jv w v ∧ (v.2.2.1 24 6).toInt = (v_16.2.2.1 24 6).toInt ∧ (v.2.2.1 24 3).toInt = (v_16.2.2.1 24 3).toInt) ⟨(jv_f_24_5 hj_17 (by have hb_ := z32 q63_1_21; omega) (by have hb_ := z32 q63_1_21; omega)), rfl, rfl⟩ (fun v_40 hj_41 => ?_)
            obtain ⟨hj_41, hk_42k0, hk_42k1⟩ := hj_41
            exact r_void E dX6_nextToken_113 ⟨(by omega), hj_41⟩
          ·
            refine z_iinc (u := q63_1_21.toInt) (L2 := fun z_43 => [some (AR 24), some (AI z_43)]) E dX6_nextToken_102 rfl rfl (by decide) (fun _ => rfl) (by decide) (by omega) (by omega) (fun z_43 hz_43 => ?_)
            refine s_goto (tgt := 63) E dX6_nextToken_105 (by decide) ?_
            exact ih63 z_43 v_16 (rfl) (by first | omega | decide | (dsimp only; omega) | (dsimp only; decide))
        ·
          refine s_aload_n E dX6_nextToken_79 rfl rfl ?_
          refine s_gI E fg_X6_49 rfl rfl (jv_lt hj_17 (by decide)) dX6_nextToken_80 ?_
          refine z_nm (P := fun z => z.toInt = (v_16.2.2.1 24 3).toInt ∧ 0 ≤ z.toInt ∧ z.toInt ≤ 4) ⟨rfl, (rg_24_3 hj_17)⟩ (fun z_44 hz_44 => ?_)
          refine s_iconst (v := 2) E dX6_nextToken_83 (by decide) ?_
          refine z_icmp_ne (tgt := 108) (u := z_44.toInt) (v := 2) E dX6_nextToken_84 (by decide) rfl (by decide) (fun h_45 => ?_) (fun h_45 => ?_)
          ·
            refine s_aload_n E dX6_nextToken_108 rfl rfl ?_
            refine s_iload_n E dX6_nextToken_109 rfl rfl ?_
            refine s_pI E fp_X6_43 (Or.inl rfl) rfl (jv_lt hj_17 (by decide)) dX6_nextToken_110 ?_
            refine s_gen (P := fun v => Jv w v ∧ (v.2.2.1 24 6).toInt = (v_16.2.2.1 24 6).toInt ∧ (v.2.2.1 24 3).toInt = (v_16.2.2.1 24 3).toInt) ⟨(jv_f_24_5 hj_17 (by have hb_ := z32 q63_1_21; omega) (by have hb_ := z32 q63_1_21; omega)), rfl, rfl⟩ (fun v_46 hj_47 => ?_)
            obtain ⟨hj_47, hk_48k0, hk_48k1⟩ := hj_47
            exact r_void E dX6_nextToken_113 ⟨(by omega), hj_47⟩
          ·
            refine s_aload_n E dX6_nextToken_87 rfl rfl ?_
            refine s_iload_n E dX6_nextToken_88 rfl rfl ?_
            refine s_vI (As := [AI q63_1_21]) (S := []) E (Z_X6_byteAt_24 l D aC b v_16 q63_1_21 hj_17.1 ) cv_X6_169 rfl rfl rfl (jv_lt hj_17 (by decide)) (Nat.le_of_ble_eq_true rfl) (Nat.le_of_ble_eq_true rfl) ⟨(Nat.le_of_ble_eq_true rfl), (Nat.le_of_ble_eq_true rfl)⟩ (Nat.le_of_ble_eq_true rfl) dX6_nextToken_89 (fun z_51 u_49 hp_50 => ?_)
            obtain ⟨hz_51, hp_50⟩ := hp_50
            subst hp_50
            refine s_sI (As := [AI z_51]) (S := []) E (Z_X6_kindOf l D aC b v_16 z_51 hj_17.1 ) cs_X6_181 rfl rfl (Nat.le_of_ble_eq_true rfl) (Nat.le_of_ble_eq_true rfl) ⟨(Nat.le_of_ble_eq_true rfl), (Nat.le_of_ble_eq_true rfl)⟩ (Nat.le_of_ble_eq_true rfl) dX6_nextToken_92 (fun z_55 u_53 hp_54 => ?_)
            obtain ⟨hz_55, hp_54⟩ := hp_54
            subst hp_54
            refine s_aload_n E dX6_nextToken_95 rfl rfl ?_
            refine s_gI E fg_X6_49 rfl rfl (jv_lt hj_17 (by decide)) dX6_nextToken_96 ?_
            refine z_nm (P := fun z => z.toInt = (v_16.2.2.1 24 3).toInt ∧ 0 ≤ z.toInt ∧ z.toInt ≤ 4) ⟨rfl, (rg_24_3 hj_17)⟩ (fun z_57 hz_57 => ?_)
            refine z_icmp_ne (tgt := 108) (u := z_55.toInt) (v := z_57.toInt) E dX6_nextToken_99 (by decide) rfl rfl (fun h_58 => ?_) (fun h_58 => ?_)
            ·
              refine s_aload_n E dX6_nextToken_108 rfl rfl ?_
              refine s_iload_n E dX6_nextToken_109 rfl rfl ?_
              refine s_pI E fp_X6_43 (Or.inl rfl) rfl (jv_lt hj_17 (by decide)) dX6_nextToken_110 ?_
              refine s_gen (P := fun v => Jv w v ∧ (v.2.2.1 24 6).toInt = (v_16.2.2.1 24 6).toInt ∧ (v.2.2.1 24 3).toInt = (v_16.2.2.1 24 3).toInt) ⟨(jv_f_24_5 hj_17 (by have hb_ := z32 q63_1_21; omega) (by have hb_ := z32 q63_1_21; omega)), rfl, rfl⟩ (fun v_59 hj_60 => ?_)
              obtain ⟨hj_60, hk_61k0, hk_61k1⟩ := hj_60
              exact r_void E dX6_nextToken_113 ⟨(by omega), hj_60⟩
            ·
              refine z_iinc (u := q63_1_21.toInt) (L2 := fun z_62 => [some (AR 24), some (AI z_62)]) E dX6_nextToken_102 rfl rfl (by decide) (fun _ => rfl) (by decide) (by omega) (by omega) (fun z_62 hz_62 => ?_)
              refine s_goto (tgt := 63) E dX6_nextToken_105 (by decide) ?_
              exact ih63 z_62 v_16 (rfl) (by first | omega | decide | (dsimp only; omega) | (dsimp only; decide))
    ·
      refine s_aload_n E dX6_nextToken_54 rfl rfl ?_
      refine s_iload_n E dX6_nextToken_55 rfl rfl ?_
      refine s_pI E fp_X6_43 (Or.inl rfl) rfl (jv_lt hj_17 (by decide)) dX6_nextToken_56 ?_
      refine s_gen (P := fun v => Jv w v ∧ (v.2.2.1 24 6).toInt = (v_16.2.2.1 24 6).toInt ∧ (v.2.2.1 24 3).toInt = (v_16.2.2.1 24 3).toInt) ⟨(jv_f_24_5 hj_17 (by have hb_ := z32 q5_1_1; omega) (by have hb_ := z32 q5_1_1; omega)), rfl, rfl⟩ (fun v_63 hj_64 => ?_)
      obtain ⟨hj_64, hk_65k0, hk_65k1⟩ := hj_64
      exact r_void E dX6_nextToken_59 ⟨(by omega), hj_64⟩
  ·
    refine s_aload_n E dX6_nextToken_13 rfl rfl ?_
    refine s_iload_n E dX6_nextToken_14 rfl rfl ?_
    refine s_vI (As := [AI q5_1_1]) (S := []) E (Z_X6_byteAt_24 l D aC b w q5_1_1 hJ.1 ) cv_X6_169 rfl rfl rfl (jv_lt hJ (by decide)) (Nat.le_of_ble_eq_true rfl) (Nat.le_of_ble_eq_true rfl) ⟨(Nat.le_of_ble_eq_true rfl), (Nat.le_of_ble_eq_true rfl)⟩ (Nat.le_of_ble_eq_true rfl) dX6_nextToken_15 (fun z_68 u_66 hp_67 => ?_)
    obtain ⟨hz_68, hp_67⟩ := hp_67
    subst hp_67
    refine s_sI (As := [AI z_68]) (S := []) E (Z_X6_isBlank l D aC b w z_68 hJ.1 ) cs_X6_177 rfl rfl (Nat.le_of_ble_eq_true rfl) (Nat.le_of_ble_eq_true rfl) ⟨(Nat.le_of_ble_eq_true rfl), (Nat.le_of_ble_eq_true rfl)⟩ (Nat.le_of_ble_eq_true rfl) dX6_nextToken_18 (fun z_72 u_70 hp_71 => ?_)
    obtain ⟨hz_72, hp_71⟩ := hp_71
    subst hp_71
    refine z_if_eq (tgt := 30) (u := z_72.toInt) E dX6_nextToken_21 (by decide) rfl (fun h_74 => ?_) (fun h_74 => ?_)
    ·
      refine s_aload_n E dX6_nextToken_30 rfl rfl ?_
      refine s_iload_n E dX6_nextToken_31 rfl rfl ?_
      refine s_pI E fp_X6_162 (Or.inl rfl) rfl (jv_lt hJ (by decide)) dX6_nextToken_32 ?_
      refine s_gen (P := fun v => Jv w v ∧ (v.2.2.1 24 6).toInt = (w.2.2.1 24 6).toInt) ⟨(jv_f_24_4 hJ (by have hb_ := z32 q5_1_1; omega) (by have hb_ := z32 q5_1_1; omega)), rfl⟩ (fun v_75 hj_76 => ?_)
      obtain ⟨hj_76, hk_77k0⟩ := hj_76
      refine s_aload_n E dX6_nextToken_35 rfl rfl ?_
      refine s_aload_n E dX6_nextToken_36 rfl rfl ?_
      refine s_iload_n E dX6_nextToken_37 rfl rfl ?_
      refine s_vI (As := [AI q5_1_1]) (S := [AR 24]) E (Z_X6_byteAt_24 l D aC b v_75 q5_1_1 hj_76.1 ) cv_X6_169 rfl rfl rfl (jv_lt hj_76 (by decide)) (Nat.le_of_ble_eq_true rfl) (Nat.le_of_ble_eq_true rfl) ⟨(Nat.le_of_ble_eq_true rfl), (Nat.le_of_ble_eq_true rfl)⟩ (Nat.le_of_ble_eq_true rfl) dX6_nextToken_38 (fun z_80 u_78 hp_79 => ?_)
      obtain ⟨hz_80, hp_79⟩ := hp_79
      subst hp_79
      refine s_sI (As := [AI z_80]) (S := [AR 24]) E (Z_X6_kindOf l D aC b v_75 z_80 hj_76.1 ) cs_X6_181 rfl rfl (Nat.le_of_ble_eq_true rfl) (Nat.le_of_ble_eq_true rfl) ⟨(Nat.le_of_ble_eq_true rfl), (Nat.le_of_ble_eq_true rfl)⟩ (Nat.le_of_ble_eq_true rfl) dX6_nextToken_41 (fun z_84 u_82 hp_83 => ?_)
      obtain ⟨hz_84, hp_83⟩ := hp_83
      subst hp_83
      refine s_pI E fp_X6_49 (Or.inl rfl) rfl (jv_lt hj_76 (by decide)) dX6_nextToken_44 ?_
      refine s_gen (P := fun v => Jv w v ∧ (v.2.2.1 24 6).toInt = (v_75.2.2.1 24 6).toInt) ⟨(jv_f_24_3 hj_76 (by have hb_ := z32 z_84; omega) (by have hb_ := z32 z_84; omega)), rfl⟩ (fun v_86 hj_87 => ?_)
      obtain ⟨hj_87, hk_88k0⟩ := hj_87
      refine s_aload_n E dX6_nextToken_47 rfl rfl ?_
      refine s_gI E fg_X6_49 rfl rfl (jv_lt hj_87 (by decide)) dX6_nextToken_48 ?_
      refine z_nm (P := fun z => z.toInt = (v_86.2.2.1 24 3).toInt ∧ 0 ≤ z.toInt ∧ z.toInt ≤ 4) ⟨rfl, (rg_24_3 hj_87)⟩ (fun z_89 hz_89 => ?_)
      refine z_if_ne (tgt := 60) (u := z_89.toInt) E dX6_nextToken_51 (by decide) rfl (fun h_90 => ?_) (fun h_90 => ?_)
      ·
        refine z_iinc (u := q5_1_1.toInt) (L2 := fun z_91 => [some (AR 24), some (AI z_91)]) E dX6_nextToken_60 rfl rfl (by decide) (fun _ => rfl) (by decide) (by omega) (by omega) (fun z_91 hz_91 => ?_)
        refine z_loop (St := Int32) (Pi := fun q63_1_91 v63 => ((-2147483647) ≤ q63_1_91.toInt ∧ q63_1_91.toInt ≤ 1000) ∧ v_86 = v63) (Lf := fun q63_1_91 => [some (AR 24), some (AI q63_1_91)]) (fun q63_1_91 _ => (1001 - q63_1_91.toInt).toNat) z_91 ⟨⟨by have hb_ := z32 z_91; omega, by have hb_ := z32 z_91; omega⟩, rfl⟩ ?_
        rintro q63_1_91 v63 ⟨hq63_1, hv_⟩ ih63
        subst hv_
        refine s_loc (L2 := [some (AR 24), some (AI q63_1_91)]) rfl ?_
        refine s_iload_n E dX6_nextToken_63 rfl rfl ?_
        refine s_aload_n E dX6_nextToken_64 rfl rfl ?_
        refine s_gI E fg_X6_32 rfl rfl (jv_lt hj_87 (by decide)) dX6_nextToken_65 ?_
        refine z_nm (P := fun z => z.toInt = (v_86.2.2.1 24 2).toInt ∧ 0 ≤ z.toInt ∧ z.toInt ≤ 1000) ⟨rfl, (rg_24_2 hj_87)⟩ (fun z_93 hz_93 => ?_)
        refine z_icmp_ge (tgt := 108) (u := q63_1_91.toInt) (v := z_93.toInt) E dX6_nextToken_68 (by decide) rfl rfl (fun h_94 => ?_) (fun h_94 => ?_)
        ·
          refine s_aload_n E dX6_nextToken_108 rfl rfl ?_
          refine s_iload_n E dX6_nextToken_109 rfl rfl ?_
          refine s_pI E fp_X6_43 (Or.inl rfl) rfl (jv_lt hj_87 (by decide)) dX6_nextToken_110 ?_
          refine s_gen (P := fun v => Jv w v ∧ (v.2.2.1 24 6).toInt = (v_86.2.2.1 24 6).toInt ∧ (v.2.2.1 24 3).toInt = (v_86.2.2.1 24 3).toInt) ⟨(jv_f_24_5 hj_87 (by have hb_ := z32 q63_1_91; omega) (by have hb_ := z32 q63_1_91; omega)), rfl, rfl⟩ (fun v_95 hj_96 => ?_)
          obtain ⟨hj_96, hk_97k0, hk_97k1⟩ := hj_96
          exact r_void E dX6_nextToken_113 ⟨(by omega), hj_96⟩
        ·
          refine s_aload_n E dX6_nextToken_71 rfl rfl ?_
          refine s_gI E fg_X6_49 rfl rfl (jv_lt hj_87 (by decide)) dX6_nextToken_72 ?_
          refine z_nm (P := fun z => z.toInt = (v_86.2.2.1 24 3).toInt ∧ 0 ≤ z.toInt ∧ z.toInt ≤ 4) ⟨rfl, (rg_24_3 hj_87)⟩ (fun z_98 hz_98 => ?_)
          refine s_iconst (v := 1) E dX6_nextToken_75 (by decide) ?_
          refine z_icmp_eq (tgt := 87) (u := z_98.toInt) (v := 1) E dX6_nextToken_76 (by decide) rfl (by decide) (fun h_99 => ?_) (fun h_99 => ?_)
          ·
            refine s_aload_n E dX6_nextToken_87 rfl rfl ?_
            refine s_iload_n E dX6_nextToken_88 rfl rfl ?_
            refine s_vI (As := [AI q63_1_91]) (S := []) E (Z_X6_byteAt_24 l D aC b v_86 q63_1_91 hj_87.1 ) cv_X6_169 rfl rfl rfl (jv_lt hj_87 (by decide)) (Nat.le_of_ble_eq_true rfl) (Nat.le_of_ble_eq_true rfl) ⟨(Nat.le_of_ble_eq_true rfl), (Nat.le_of_ble_eq_true rfl)⟩ (Nat.le_of_ble_eq_true rfl) dX6_nextToken_89 (fun z_102 u_100 hp_101 => ?_)
            obtain ⟨hz_102, hp_101⟩ := hp_101
            subst hp_101
            refine s_sI (As := [AI z_102]) (S := []) E (Z_X6_kindOf l D aC b v_86 z_102 hj_87.1 ) cs_X6_181 rfl rfl (Nat.le_of_ble_eq_true rfl) (Nat.le_of_ble_eq_true rfl) ⟨(Nat.le_of_ble_eq_true rfl), (Nat.le_of_ble_eq_true rfl)⟩ (Nat.le_of_ble_eq_true rfl) dX6_nextToken_92 (fun z_106 u_104 hp_105 => ?_)
            obtain ⟨hz_106, hp_105⟩ := hp_105
            subst hp_105
            refine s_aload_n E dX6_nextToken_95 rfl rfl ?_
            refine s_gI E fg_X6_49 rfl rfl (jv_lt hj_87 (by decide)) dX6_nextToken_96 ?_
            refine z_nm (P := fun z => z.toInt = (v_86.2.2.1 24 3).toInt ∧ 0 ≤ z.toInt ∧ z.toInt ≤ 4) ⟨rfl, (rg_24_3 hj_87)⟩ (fun z_108 hz_108 => ?_)
            refine z_icmp_ne (tgt := 108) (u := z_106.toInt) (v := z_108.toInt) E dX6_nextToken_99 (by decide) rfl rfl (fun h_109 => ?_) (fun h_109 => ?_)
            ·
              refine s_aload_n E dX6_nextToken_108 rfl rfl ?_
              refine s_iload_n E dX6_nextToken_109 rfl rfl ?_
              refine s_pI E fp_X6_43 (Or.inl rfl) rfl (jv_lt hj_87 (by decide)) dX6_nextToken_110 ?_
              refine s_gen (P := fun v => Jv w v ∧ (v.2.2.1 24 6).toInt = (v_86.2.2.1 24 6).toInt ∧ (v.2.2.1 24 3).toInt = (v_86.2.2.1 24 3).toInt) ⟨(jv_f_24_5 hj_87 (by have hb_ := z32 q63_1_91; omega) (by have hb_ := z32 q63_1_91; omega)), rfl, rfl⟩ (fun v_110 hj_111 => ?_)
              obtain ⟨hj_111, hk_112k0, hk_112k1⟩ := hj_111
              exact r_void E dX6_nextToken_113 ⟨(by omega), hj_111⟩
            ·
              refine z_iinc (u := q63_1_91.toInt) (L2 := fun z_113 => [some (AR 24), some (AI z_113)]) E dX6_nextToken_102 rfl rfl (by decide) (fun _ => rfl) (by decide) (by omega) (by omega) (fun z_113 hz_113 => ?_)
              refine s_goto (tgt := 63) E dX6_nextToken_105 (by decide) ?_
              exact ih63 z_113 v_86 ⟨⟨by have hb_ := z32 z_113; omega, by have hb_ := z32 z_113; omega⟩, rfl⟩ (by first | omega | decide | (dsimp only; omega) | (dsimp only; decide))
          ·
            refine s_aload_n E dX6_nextToken_79 rfl rfl ?_
            refine s_gI E fg_X6_49 rfl rfl (jv_lt hj_87 (by decide)) dX6_nextToken_80 ?_
            refine z_nm (P := fun z => z.toInt = (v_86.2.2.1 24 3).toInt ∧ 0 ≤ z.toInt ∧ z.toInt ≤ 4) ⟨rfl, (rg_24_3 hj_87)⟩ (fun z_114 hz_114 => ?_)
            refine s_iconst (v := 2) E dX6_nextToken_83 (by decide) ?_
            refine z_icmp_ne (tgt := 108) (u := z_114.toInt) (v := 2) E dX6_nextToken_84 (by decide) rfl (by decide) (fun h_115 => ?_) (fun h_115 => ?_)
            ·
              refine s_aload_n E dX6_nextToken_108 rfl rfl ?_
              refine s_iload_n E dX6_nextToken_109 rfl rfl ?_
              refine s_pI E fp_X6_43 (Or.inl rfl) rfl (jv_lt hj_87 (by decide)) dX6_nextToken_110 ?_
              refine s_gen (P := fun v => Jv w v ∧ (v.2.2.1 24 6).toInt = (v_86.2.2.1 24 6).toInt ∧ (v.2.2.1 24 3).toInt = (v_86.2.2.1 24 3).toInt) ⟨(jv_f_24_5 hj_87 (by have hb_ := z32 q63_1_91; omega) (by have hb_ := z32 q63_1_91; omega)), rfl, rfl⟩ (fun v_116 hj_117 => ?_)
              obtain ⟨hj_117, hk_118k0, hk_118k1⟩ := hj_117
              exact r_void E dX6_nextToken_113 ⟨(by omega), hj_117⟩
            ·
              refine s_aload_n E dX6_nextToken_87 rfl rfl ?_
              refine s_iload_n E dX6_nextToken_88 rfl rfl ?_
              refine s_vI (As := [AI q63_1_91]) (S := []) E (Z_X6_byteAt_24 l D aC b v_86 q63_1_91 hj_87.1 ) cv_X6_169 rfl rfl rfl (jv_lt hj_87 (by decide)) (Nat.le_of_ble_eq_true rfl) (Nat.le_of_ble_eq_true rfl) ⟨(Nat.le_of_ble_eq_true rfl), (Nat.le_of_ble_eq_true rfl)⟩ (Nat.le_of_ble_eq_true rfl) dX6_nextToken_89 (fun z_121 u_119 hp_120 => ?_)
              obtain ⟨hz_121, hp_120⟩ := hp_120
              subst hp_120
              refine s_sI (As := [AI z_121]) (S := []) E (Z_X6_kindOf l D aC b v_86 z_121 hj_87.1 ) cs_X6_181 rfl rfl (Nat.le_of_ble_eq_true rfl) (Nat.le_of_ble_eq_true rfl) ⟨(Nat.le_of_ble_eq_true rfl), (Nat.le_of_ble_eq_true rfl)⟩ (Nat.le_of_ble_eq_true rfl) dX6_nextToken_92 (fun z_125 u_123 hp_124 => ?_)
              obtain ⟨hz_125, hp_124⟩ := hp_124
              subst hp_124
              refine s_aload_n E dX6_nextToken_95 rfl rfl ?_
              refine s_gI E fg_X6_49 rfl rfl (jv_lt hj_87 (by decide)) dX6_nextToken_96 ?_
              refine z_nm (P := fun z => z.toInt = (v_86.2.2.1 24 3).toInt ∧ 0 ≤ z.toInt ∧ z.toInt ≤ 4) ⟨rfl, (rg_24_3 hj_87)⟩ (fun z_127 hz_127 => ?_)
              refine z_icmp_ne (tgt := 108) (u := z_125.toInt) (v := z_127.toInt) E dX6_nextToken_99 (by decide) rfl rfl (fun h_128 => ?_) (fun h_128 => ?_)
              ·
                refine s_aload_n E dX6_nextToken_108 rfl rfl ?_
                refine s_iload_n E dX6_nextToken_109 rfl rfl ?_
                refine s_pI E fp_X6_43 (Or.inl rfl) rfl (jv_lt hj_87 (by decide)) dX6_nextToken_110 ?_
                refine s_gen (P := fun v => Jv w v ∧ (v.2.2.1 24 6).toInt = (v_86.2.2.1 24 6).toInt ∧ (v.2.2.1 24 3).toInt = (v_86.2.2.1 24 3).toInt) ⟨(jv_f_24_5 hj_87 (by have hb_ := z32 q63_1_91; omega) (by have hb_ := z32 q63_1_91; omega)), rfl, rfl⟩ (fun v_129 hj_130 => ?_)
                obtain ⟨hj_130, hk_131k0, hk_131k1⟩ := hj_130
                exact r_void E dX6_nextToken_113 ⟨(by omega), hj_130⟩
              ·
                refine z_iinc (u := q63_1_91.toInt) (L2 := fun z_132 => [some (AR 24), some (AI z_132)]) E dX6_nextToken_102 rfl rfl (by decide) (fun _ => rfl) (by decide) (by omega) (by omega) (fun z_132 hz_132 => ?_)
                refine s_goto (tgt := 63) E dX6_nextToken_105 (by decide) ?_
                exact ih63 z_132 v_86 ⟨⟨by have hb_ := z32 z_132; omega, by have hb_ := z32 z_132; omega⟩, rfl⟩ (by first | omega | decide | (dsimp only; omega) | (dsimp only; decide))
      ·
        refine s_aload_n E dX6_nextToken_54 rfl rfl ?_
        refine s_iload_n E dX6_nextToken_55 rfl rfl ?_
        refine s_pI E fp_X6_43 (Or.inl rfl) rfl (jv_lt hj_87 (by decide)) dX6_nextToken_56 ?_
        refine s_gen (P := fun v => Jv w v ∧ (v.2.2.1 24 6).toInt = (v_86.2.2.1 24 6).toInt ∧ (v.2.2.1 24 3).toInt = (v_86.2.2.1 24 3).toInt) ⟨(jv_f_24_5 hj_87 (by have hb_ := z32 q5_1_1; omega) (by have hb_ := z32 q5_1_1; omega)), rfl, rfl⟩ (fun v_133 hj_134 => ?_)
        obtain ⟨hj_134, hk_135k0, hk_135k1⟩ := hj_134
        exact r_void E dX6_nextToken_59 ⟨(by omega), hj_134⟩
    ·
      refine z_iinc (u := q5_1_1.toInt) (L2 := fun z_136 => [some (AR 24), some (AI z_136)]) E dX6_nextToken_24 rfl rfl (by decide) (fun _ => rfl) (by decide) (by omega) (by omega) (fun z_136 hz_136 => ?_)
      refine s_goto (tgt := 5) E dX6_nextToken_27 (by decide) ?_
      exact ih5 z_136 w (rfl) (by first | omega | decide | (dsimp only; omega) | (dsimp only; decide))
set_option maxRecDepth 20000 in
set_option maxHeartbeats 2000000 in
theorem Z_X6_isWord_24 (l : Launch) (D : va_G) (aC : Nat → ClassId) (b : Nat) (w : XW)  (hI : Iv w) (si : Nat) (hsi : si < 30) : CnI l D aC b M_X6_isWord 4 200 0 0 [AR 24, AX (sA aC si)] w (fun r u => (0 ≤ r.toInt ∧ r.toInt ≤ 1 ∧ (r.toInt = 0 ∨ (1 ≤ (w.2.2.1 24 3).toInt ∧ (w.2.2.1 24 3).toInt ≤ 1))) ∧ w = u) := by
  refine cn_I (own := RX6) (nm := "isWord") (L0 := [some (AR 24), some (AX (sA aC si)), none]) (by decide +kernel) rfl rfl (Nat.le_of_ble_eq_true rfl) rfl ?_
  intro p e s m args below meth c E hin
  have hJ : Jv w w := jv_rfl hI
  refine s_aload_n E dX6_isWord_0 rfl rfl ?_
  refine s_gI E fg_X6_49 rfl rfl (jv_lt hJ (by decide)) dX6_isWord_1 ?_
  refine z_nm (P := fun z => z.toInt = (w.2.2.1 24 3).toInt ∧ 0 ≤ z.toInt ∧ z.toInt ≤ 4) ⟨rfl, (rg_24_3 hJ)⟩ (fun z_1 hz_1 => ?_)
  refine s_iconst (v := 1) E dX6_isWord_4 (by decide) ?_
  refine z_icmp_ne (tgt := 24) (u := z_1.toInt) (v := 1) E dX6_isWord_5 (by decide) rfl (by decide) (fun h_2 => ?_) (fun h_2 => ?_)
  ·
    refine s_iconst (v := 0) E dX6_isWord_24 (by decide) ?_
    exact r_bool E dX6_isWord_25 (Or.inl rfl) ⟨⟨by decide, by decide, by first | (left; decide) | (right; decide) | (right; have hb_ := z32 (w.2.2.1 24 3); omega)⟩, rfl⟩
  ·
    refine s_aload_n E dX6_isWord_8 rfl rfl ?_
    refine s_gI E fg_X6_43 rfl rfl (jv_lt hJ (by decide)) dX6_isWord_9 ?_
    refine z_nm (P := fun z => z.toInt = (w.2.2.1 24 5).toInt ∧ (-2147483648) ≤ z.toInt ∧ z.toInt ≤ 2147483647) ⟨rfl, z32 _⟩ (fun z_3 hz_3 => ?_)
    refine s_aload_n E dX6_isWord_12 rfl rfl ?_
    refine s_gI E fg_X6_162 rfl rfl (jv_lt hJ (by decide)) dX6_isWord_13 ?_
    refine z_nm (P := fun z => z.toInt = (w.2.2.1 24 4).toInt ∧ (-2147483648) ≤ z.toInt ∧ z.toInt ≤ 2147483647) ⟨rfl, z32 _⟩ (fun z_4 hz_4 => ?_)
    refine s_isub E dX6_isWord_16 ?_
    refine z_nm (P := fun z => (-2147483648) ≤ z.toInt ∧ z.toInt ≤ 2147483647) (z32 _) (fun z_5 hz_5 => ?_)
    refine s_xload_n E dX6_isWord_17 rfl rfl ?_
    refine s_xI (As := []) (S := [AI z_5]) E hsi rfl (Z_lengthN l D aC b w si hsi) cx_X6_165 rfl rfl (Nat.le_of_ble_eq_true rfl) (Nat.le_of_ble_eq_true rfl) ⟨(Nat.le_of_ble_eq_true rfl), (Nat.le_of_ble_eq_true rfl)⟩ (Nat.le_of_ble_eq_true rfl) dX6_isWord_18 (fun z_8 u_6 hp_7 => ?_)
    obtain ⟨hz_8, hp_7⟩ := hp_7
    subst hp_7
    refine z_icmp_eq (tgt := 26) (u := z_5.toInt) (v := z_8.toInt) E dX6_isWord_21 (by decide) rfl rfl (fun h_9 => ?_) (fun h_9 => ?_)
    ·
      refine s_iconst (v := 0) E dX6_isWord_26 (by decide) ?_
      refine s_istore_n (L2 := [some (AR 24), some (AX (sA aC si)), some (AI 0)]) E dX6_isWord_27 rfl (by decide) rfl ?_
      refine z_loop (St := Int32) (Pi := fun q28_2_9 v28 => (0 ≤ q28_2_9.toInt ∧ q28_2_9.toInt ≤ 8) ∧ w = v28) (Lf := fun q28_2_9 => [some (AR 24), some (AX (sA aC si)), some (AI q28_2_9)]) (fun q28_2_9 _ => (9 - q28_2_9.toInt).toNat) 0 ⟨⟨by decide, by decide⟩, rfl⟩ ?_
      rintro q28_2_9 v28 ⟨hq28_2, hv_⟩ ih28
      subst hv_
      refine s_loc (L2 := [some (AR 24), some (AX (sA aC si)), some (AI q28_2_9)]) rfl ?_
      refine s_iload_n E dX6_isWord_28 rfl rfl ?_
      refine s_xload_n E dX6_isWord_29 rfl rfl ?_
      refine s_xI (As := []) (S := [AI q28_2_9]) E hsi rfl (Z_lengthN l D aC b w si hsi) cx_X6_165 rfl rfl (Nat.le_of_ble_eq_true rfl) (Nat.le_of_ble_eq_true rfl) ⟨(Nat.le_of_ble_eq_true rfl), (Nat.le_of_ble_eq_true rfl)⟩ (Nat.le_of_ble_eq_true rfl) dX6_isWord_30 (fun z_13 u_11 hp_12 => ?_)
      obtain ⟨hz_13, hp_12⟩ := hp_12
      subst hp_12
      refine z_icmp_ge (tgt := 62) (u := q28_2_9.toInt) (v := z_13.toInt) E dX6_isWord_33 (by decide) rfl rfl (fun h_14 => ?_) (fun h_14 => ?_)
      ·
        refine s_iconst (v := 1) E dX6_isWord_62 (by decide) ?_
        exact r_bool E dX6_isWord_63 (Or.inr rfl) ⟨⟨by decide, by decide, by first | (left; decide) | (right; decide) | (right; have hb_ := z32 (w.2.2.1 24 3); omega)⟩, rfl⟩
      ·
        refine s_aload_n E dX6_isWord_36 rfl rfl ?_
        refine s_aload_n E dX6_isWord_37 rfl rfl ?_
        refine s_gI E fg_X6_162 rfl rfl (jv_lt hJ (by decide)) dX6_isWord_38 ?_
        refine z_nm (P := fun z => z.toInt = (w.2.2.1 24 4).toInt ∧ (-2147483648) ≤ z.toInt ∧ z.toInt ≤ 2147483647) ⟨rfl, z32 _⟩ (fun z_15 hz_15 => ?_)
        refine s_iload_n E dX6_isWord_41 rfl rfl ?_
        refine s_iadd E dX6_isWord_42 ?_
        refine z_nm (P := fun z => (-2147483648) ≤ z.toInt ∧ z.toInt ≤ 2147483647) (z32 _) (fun z_16 hz_16 => ?_)
        refine s_vI (As := [AI z_16]) (S := []) E (Z_X6_byteAt_24 l D aC b w z_16 hJ.1 ) cv_X6_169 rfl rfl rfl (jv_lt hJ (by decide)) (Nat.le_of_ble_eq_true rfl) (Nat.le_of_ble_eq_true rfl) ⟨(Nat.le_of_ble_eq_true rfl), (Nat.le_of_ble_eq_true rfl)⟩ (Nat.le_of_ble_eq_true rfl) dX6_isWord_43 (fun z_19 u_17 hp_18 => ?_)
        obtain ⟨hz_19, hp_18⟩ := hp_18
        subst hp_18
        refine s_xload_n E dX6_isWord_46 rfl rfl ?_
        refine s_iload_n E dX6_isWord_47 rfl rfl ?_
        refine s_xI (As := [AI q28_2_9]) (S := [AI z_19]) E hsi rfl (Z_charAt l D aC b w si q28_2_9 hsi (by omega) (by omega)) cx_X6_173 rfl rfl (Nat.le_of_ble_eq_true rfl) (Nat.le_of_ble_eq_true rfl) ⟨(Nat.le_of_ble_eq_true rfl), (Nat.le_of_ble_eq_true rfl)⟩ (Nat.le_of_ble_eq_true rfl) dX6_isWord_48 (fun z_23 u_21 hp_22 => ?_)
        obtain ⟨hz_23, hp_22⟩ := hp_22
        subst hp_22
        refine z_icmp_eq (tgt := 56) (u := z_19.toInt) (v := z_23.toInt) E dX6_isWord_51 (by decide) rfl rfl (fun h_24 => ?_) (fun h_24 => ?_)
        ·
          refine z_iinc (u := q28_2_9.toInt) (L2 := fun z_25 => [some (AR 24), some (AX (sA aC si)), some (AI z_25)]) E dX6_isWord_56 rfl rfl (by decide) (fun _ => rfl) (by decide) (by omega) (by omega) (fun z_25 hz_25 => ?_)
          refine s_goto (tgt := 28) E dX6_isWord_59 (by decide) ?_
          exact ih28 z_25 w ⟨⟨by have hb_ := z32 z_25; omega, by have hb_ := z32 z_25; omega⟩, rfl⟩ (by first | omega | decide | (dsimp only; omega) | (dsimp only; decide))
        ·
          refine s_iconst (v := 0) E dX6_isWord_54 (by decide) ?_
          exact r_bool E dX6_isWord_55 (Or.inl rfl) ⟨⟨by decide, by decide, by first | (left; decide) | (right; decide) | (right; have hb_ := z32 (w.2.2.1 24 3); omega)⟩, rfl⟩
    ·
      refine s_iconst (v := 0) E dX6_isWord_24 (by decide) ?_
      exact r_bool E dX6_isWord_25 (Or.inl rfl) ⟨⟨by decide, by decide, by first | (left; decide) | (right; decide) | (right; have hb_ := z32 (w.2.2.1 24 3); omega)⟩, rfl⟩
set_option maxRecDepth 20000 in
set_option maxHeartbeats 2000000 in
theorem Z_X6_fail_24 (l : Launch) (D : va_G) (aC : Nat → ClassId) (b : Nat) (w : XW) (x1 : Int32) (hI : Iv w) (hx1 : 1 ≤ x1.toInt ∧ x1.toInt ≤ 3) : CnV l D aC b M_X6_fail 0 0 0 0 [AR 24, AI x1] w (fun u => (¬ (u.2.2.1 24 6).toInt = 0) ∧ Jv w u) := by
  refine cn_V (own := RX6) (nm := "fail") (L0 := [some (AR 24), some (AI x1)]) (by decide +kernel) rfl rfl (Nat.le_of_ble_eq_true rfl) rfl ?_
  intro p e s m args below meth c E hin
  have hJ : Jv w w := jv_rfl hI
  refine s_aload_n E dX6_fail_0 rfl rfl ?_
  refine s_gI E fg_X6_40 rfl rfl (jv_lt hJ (by decide)) dX6_fail_1 ?_
  refine z_nm (P := fun z => z.toInt = (w.2.2.1 24 6).toInt ∧ 0 ≤ z.toInt ∧ z.toInt ≤ 3) ⟨rfl, (rg_24_6 hJ)⟩ (fun z_1 hz_1 => ?_)
  refine z_if_ne (tgt := 20) (u := z_1.toInt) E dX6_fail_4 (by decide) rfl (fun h_2 => ?_) (fun h_2 => ?_)
  ·
    exact r_void E dX6_fail_20 ⟨(by omega), hJ⟩
  ·
    refine s_aload_n E dX6_fail_7 rfl rfl ?_
    refine s_iload_n E dX6_fail_8 rfl rfl ?_
    refine s_pI E fp_X6_40 (Or.inl rfl) rfl (jv_lt hJ (by decide)) dX6_fail_9 ?_
    refine s_gen (P := fun v => Jv w v ∧ (v.2.2.1 24 6).toInt = x1.toInt) ⟨(jv_f_24_6 hJ (by have hb_ := z32 x1; omega) (by have hb_ := z32 x1; omega) (fun h0_ => by omega)), rfl⟩ (fun v_3 hj_4 => ?_)
    obtain ⟨hj_4, hk_5k0⟩ := hj_4
    refine s_aload_n E dX6_fail_12 rfl rfl ?_
    refine s_aload_n E dX6_fail_13 rfl rfl ?_
    refine s_gI E fg_X6_162 rfl rfl (jv_lt hj_4 (by decide)) dX6_fail_14 ?_
    refine z_nm (P := fun z => z.toInt = (v_3.2.2.1 24 4).toInt ∧ (-2147483648) ≤ z.toInt ∧ z.toInt ≤ 2147483647) ⟨rfl, z32 _⟩ (fun z_6 hz_6 => ?_)
    refine s_pI E fp_X6_19 (Or.inl rfl) rfl (jv_lt hj_4 (by decide)) dX6_fail_17 ?_
    refine s_gen (P := fun v => Jv w v ∧ (v.2.2.1 24 6).toInt = (v_3.2.2.1 24 6).toInt) ⟨(jv_f_24_7 hj_4 (by have hb_ := z32 z_6; omega) (by have hb_ := z32 z_6; omega)), rfl⟩ (fun v_7 hj_8 => ?_)
    obtain ⟨hj_8, hk_9k0⟩ := hj_8
    exact r_void E dX6_fail_20 ⟨(by omega), hj_8⟩
set_option maxRecDepth 20000 in
set_option maxHeartbeats 2000000 in
theorem Z_X8_isFull_20 (l : Launch) (D : va_G) (aC : Nat → ClassId) (b : Nat) (w : XW)  (hI : Iv w)  : CnI l D aC b M_X8_isFull 0 0 0 0 [AR 20] w (fun r u => (0 ≤ r.toInt ∧ r.toInt ≤ 1 ∧ (¬ r.toInt = 0 ∨ (0 ≤ (w.2.2.1 20 3).toInt ∧ (w.2.2.1 20 3).toInt ≤ 9)) ∧ (r.toInt = 0 ∨ (10 ≤ (w.2.2.1 20 3).toInt ∧ (w.2.2.1 20 3).toInt ≤ 10))) ∧ w = u) := by
  refine cn_I (own := RX8) (nm := "isFull") (L0 := [some (AR 20)]) (by decide +kernel) rfl rfl (Nat.le_of_ble_eq_true rfl) rfl ?_
  intro p e s m args below meth c E hin
  have hJ : Jv w w := jv_rfl hI
  refine s_aload_n E dX8_isFull_0 rfl rfl ?_
  refine s_gI E fg_X8_28 rfl rfl (jv_lt hJ (by decide)) dX8_isFull_1 ?_
  refine z_nm (P := fun z => z.toInt = (w.2.2.1 20 3).toInt ∧ 0 ≤ z.toInt ∧ z.toInt ≤ 10) ⟨rfl, (rg_20_3 hJ)⟩ (fun z_1 hz_1 => ?_)
  refine s_aload_n E dX8_isFull_4 rfl rfl ?_
  refine s_gI E fg_X8_15 rfl rfl (jv_lt hJ (by decide)) dX8_isFull_5 ?_
  refine s_top (y := 10) (z_pt (by decide) (rg_20_1 hJ)) ?_
  refine z_icmp_lt (tgt := 15) (u := z_1.toInt) (v := 10) E dX8_isFull_8 (by decide) rfl (by decide) (fun h_2 => ?_) (fun h_2 => ?_)
  ·
    refine s_iconst (v := 0) E dX8_isFull_15 (by decide) ?_
    exact r_bool E dX8_isFull_16 (Or.inl rfl) ⟨⟨by decide, by decide, by first | (left; decide) | (right; decide) | (right; have hb_ := z32 (w.2.2.1 20 3); omega), by first | (left; decide) | (right; decide) | (right; have hb_ := z32 (w.2.2.1 20 3); omega)⟩, rfl⟩
  ·
    refine s_iconst (v := 1) E dX8_isFull_11 (by decide) ?_
    refine s_goto (tgt := 16) E dX8_isFull_12 (by decide) ?_
    exact r_bool E dX8_isFull_16 (Or.inr rfl) ⟨⟨by decide, by decide, by first | (left; decide) | (right; decide) | (right; have hb_ := z32 (w.2.2.1 20 3); omega), by first | (left; decide) | (right; decide) | (right; have hb_ := z32 (w.2.2.1 20 3); omega)⟩, rfl⟩
set_option maxRecDepth 20000 in
set_option maxHeartbeats 2000000 in
theorem Z_X6_startRow_24_r20 (l : Launch) (D : va_G) (aC : Nat → ClassId) (b : Nat) (w : XW)  (hI : Iv w)  : CnV l D aC b M_X6_startRow 2 42 0 0 [AR 24, AR 20] w (fun u => Jv w u) := by
  refine cn_V (own := RX6) (nm := "startRow") (L0 := [some (AR 24), some (AR 20)]) (by decide +kernel) rfl rfl (Nat.le_of_ble_eq_true rfl) rfl ?_
  intro p e s m args below meth c E hin
  have hJ : Jv w w := jv_rfl hI
  refine s_aload_n E dX6_startRow_0 rfl rfl ?_
  refine s_vI (As := []) (S := []) E (Z_X8_isFull_20 l D aC b w  hJ.1 ) cv_X6_158 rfl rfl rfl (jv_lt hJ (by decide)) (Nat.le_of_ble_eq_true rfl) (Nat.le_of_ble_eq_true rfl) ⟨(Nat.le_of_ble_eq_true rfl), (Nat.le_of_ble_eq_true rfl)⟩ (Nat.le_of_ble_eq_true rfl) dX6_startRow_1 (fun z_3 u_1 hp_2 => ?_)
  obtain ⟨hz_3, hp_2⟩ := hp_2
  subst hp_2
  refine z_if_eq (tgt := 12) (u := z_3.toInt) E dX6_startRow_4 (by decide) rfl (fun h_5 => ?_) (fun h_5 => ?_)
  ·
    refine s_aload_n E dX6_startRow_12 rfl rfl ?_
    refine s_vV (As := []) (S := []) E (Z_X6_nextToken_24 l D aC b w  hJ.1 ) cv_X6_46 rfl rfl rfl (jv_lt hJ (by decide)) (Nat.le_of_ble_eq_true rfl) (Nat.le_of_ble_eq_true rfl) ⟨(Nat.le_of_ble_eq_true rfl), (Nat.le_of_ble_eq_true rfl)⟩ (Nat.le_of_ble_eq_true rfl) dX6_startRow_13 (fun u_6 hp_7 => ?_)
    obtain ⟨hx_hp_7, hp_7⟩ := hp_7
    have hj_8 := jv_trans hJ hp_7
    exact r_void E dX6_startRow_16 hj_8
  ·
    refine s_aload_n E dX6_startRow_7 rfl rfl ?_
    refine s_iconst (v := 3) E dX6_startRow_8 (by decide) ?_
    refine s_vV (As := [AI 3]) (S := []) E (Z_X6_fail_24 l D aC b w 3 hJ.1 (by decide)) cv_X6_85 rfl rfl rfl (jv_lt hJ (by decide)) (Nat.le_of_ble_eq_true rfl) (Nat.le_of_ble_eq_true rfl) ⟨(Nat.le_of_ble_eq_true rfl), (Nat.le_of_ble_eq_true rfl)⟩ (Nat.le_of_ble_eq_true rfl) dX6_startRow_9 (fun u_9 hp_10 => ?_)
    have hc_ : (3 : Int32).toInt = 3 := by decide
    obtain ⟨hx_hp_10, hp_10⟩ := hp_10
    have hj_11 := jv_trans hJ hp_10
    refine s_aload_n E dX6_startRow_12 rfl rfl ?_
    refine s_vV (As := []) (S := []) E (Z_X6_nextToken_24 l D aC b u_9  hj_11.1 ) cv_X6_46 rfl rfl rfl (jv_lt hj_11 (by decide)) (Nat.le_of_ble_eq_true rfl) (Nat.le_of_ble_eq_true rfl) ⟨(Nat.le_of_ble_eq_true rfl), (Nat.le_of_ble_eq_true rfl)⟩ (Nat.le_of_ble_eq_true rfl) dX6_startRow_13 (fun u_12 hp_13 => ?_)
    obtain ⟨hx_hp_13, hp_13⟩ := hp_13
    have hj_14 := jv_trans hj_11 hp_13
    exact r_void E dX6_startRow_16 hj_14
set_option maxRecDepth 20000 in
set_option maxHeartbeats 2000000 in
theorem Z_X6_digits_24 (l : Launch) (D : va_G) (aC : Nat → ClassId) (b : Nat) (w : XW)  (hI : Iv w)  : CnI l D aC b M_X6_digits 1 21 0 0 [AR 24] w (fun r u => ((-2147483648) ≤ r.toInt ∧ r.toInt ≤ 1000000) ∧ w = u) := by
  refine cn_I (own := RX6) (nm := "digits") (L0 := [some (AR 24), none, none]) (by decide +kernel) rfl rfl (Nat.le_of_ble_eq_true rfl) rfl ?_
  intro p e s m args below meth c E hin
  have hJ : Jv w w := jv_rfl hI
  refine s_iconst (v := 0) E dX6_digits_0 (by decide) ?_
  refine s_istore_n (L2 := [some (AR 24), some (AI 0), none]) E dX6_digits_1 rfl (by decide) rfl ?_
  refine s_aload_n E dX6_digits_2 rfl rfl ?_
  refine s_gI E fg_X6_162 rfl rfl (jv_lt hJ (by decide)) dX6_digits_3 ?_
  refine z_nm (P := fun z => z.toInt = (w.2.2.1 24 4).toInt ∧ (-2147483648) ≤ z.toInt ∧ z.toInt ≤ 2147483647) ⟨rfl, z32 _⟩ (fun z_1 hz_1 => ?_)
  refine s_istore_n (L2 := [some (AR 24), some (AI 0), some (AI z_1)]) E dX6_digits_6 rfl (by decide) rfl ?_
  refine z_loop (St := Int32 × Int32) (Pi := fun ⟨q7_1_1, q7_2_1⟩ v7 => ((-2147483648) ≤ q7_1_1.toInt ∧ q7_1_1.toInt ≤ 1000000) ∧ w = v7) (Lf := fun ⟨q7_1_1, q7_2_1⟩ => [some (AR 24), some (AI q7_1_1), some (AI q7_2_1)]) (fun ⟨q7_1_1, q7_2_1⟩ _ => (2147483648 - q7_2_1.toInt).toNat) ⟨0, z_1⟩ ⟨⟨by decide, by decide⟩, rfl⟩ ?_
  rintro ⟨q7_1_1, q7_2_1⟩ v7 ⟨hq7_1, hv_⟩ ih7
  subst hv_
  have hbq7_2 := z32 q7_2_1
  refine s_loc (L2 := [some (AR 24), some (AI q7_1_1), some (AI q7_2_1)]) rfl ?_
  refine s_iload_n E dX6_digits_7 rfl rfl ?_
  refine s_aload_n E dX6_digits_8 rfl rfl ?_
  refine s_gI E fg_X6_43 rfl rfl (jv_lt hJ (by decide)) dX6_digits_9 ?_
  refine z_nm (P := fun z => z.toInt = (w.2.2.1 24 5).toInt ∧ (-2147483648) ≤ z.toInt ∧ z.toInt ≤ 2147483647) ⟨rfl, z32 _⟩ (fun z_3 hz_3 => ?_)
  refine z_icmp_ge (tgt := 40) (u := q7_2_1.toInt) (v := z_3.toInt) E dX6_digits_12 (by decide) rfl rfl (fun h_4 => ?_) (fun h_4 => ?_)
  ·
    refine s_iload_n E dX6_digits_40 rfl rfl ?_
    exact r_int E dX6_digits_41 ⟨⟨by have hb_ := z32 q7_1_1; omega, by have hb_ := z32 q7_1_1; omega⟩, rfl⟩
  ·
    refine s_ldc E k_472 rfl dX6_digits_15 ?_
    refine s_iload_n E dX6_digits_17 rfl rfl ?_
    refine s_bipush (v := 10) E dX6_digits_18 (by decide) ?_
    refine s_imul E dX6_digits_20 ?_
    refine z_nm (P := fun z => (-2147483648) ≤ z.toInt ∧ z.toInt ≤ 2147483647) (z32 _) (fun z_5 hz_5 => ?_)
    refine s_aload_n E dX6_digits_21 rfl rfl ?_
    refine s_iload_n E dX6_digits_22 rfl rfl ?_
    refine s_vI (As := [AI q7_2_1]) (S := [AI z_5, AI 1000000]) E (Z_X6_byteAt_24 l D aC b w q7_2_1 hJ.1 ) cv_X6_169 rfl rfl rfl (jv_lt hJ (by decide)) (Nat.le_of_ble_eq_true rfl) (Nat.le_of_ble_eq_true rfl) ⟨(Nat.le_of_ble_eq_true rfl), (Nat.le_of_ble_eq_true rfl)⟩ (Nat.le_of_ble_eq_true rfl) dX6_digits_23 (fun z_8 u_6 hp_7 => ?_)
    obtain ⟨hz_8, hp_7⟩ := hp_7
    subst hp_7
    refine s_iadd E dX6_digits_26 ?_
    refine z_nm (P := fun z => (-2147483648) ≤ z.toInt ∧ z.toInt ≤ 2147483647) (z32 _) (fun z_10 hz_10 => ?_)
    refine s_bipush (v := 48) E dX6_digits_27 (by decide) ?_
    refine s_isub E dX6_digits_29 ?_
    refine z_nm (P := fun z => (-2147483648) ≤ z.toInt ∧ z.toInt ≤ 2147483647) (z32 _) (fun z_11 hz_11 => ?_)
    refine z_min (u := 1000000) (v := z_11.toInt) E ⟨k_368, k_369, k_4, k_370⟩ (Nat.le_of_ble_eq_true rfl) (Nat.le_of_ble_eq_true rfl) (Nat.le_of_ble_eq_true rfl) (Nat.le_of_ble_eq_true rfl) dX6_digits_30 (by decide) rfl (fun z_12 hz_12 => ?_)
    refine s_istore_n (L2 := [some (AR 24), some (AI z_12), some (AI q7_2_1)]) E dX6_digits_33 rfl (by decide) rfl ?_
    refine z_iinc (u := q7_2_1.toInt) (L2 := fun z_13 => [some (AR 24), some (AI z_12), some (AI z_13)]) E dX6_digits_34 rfl rfl (by decide) (fun _ => rfl) (by decide) (by omega) (by omega) (fun z_13 hz_13 => ?_)
    refine s_goto (tgt := 7) E dX6_digits_37 (by decide) ?_
    exact ih7 ⟨z_12, z_13⟩ w ⟨⟨by have hb_ := z32 z_12; omega, by have hb_ := z32 z_12; omega⟩, rfl⟩ (by first | omega | decide | (dsimp only; omega) | (dsimp only; decide))
set_option maxRecDepth 20000 in
set_option maxHeartbeats 2000000 in
theorem Z_X6_takeNumber_24 (l : Launch) (D : va_G) (aC : Nat → ClassId) (b : Nat) (w : XW) (x1 : Int32) (x2 : Int32) (hI : Iv w)  : CnI l D aC b M_X6_takeNumber 2 43 0 0 [AR 24, AI x1, AI x2] w (fun r u => ((-2147483648) ≤ r.toInt ∧ r.toInt ≤ 1000000) ∧ ((u.2.2.1 24 6).toInt = 0 → x1.toInt ≤ r.toInt ∧ r.toInt ≤ x2.toInt) ∧ Jv w u) := by
  refine cn_I (own := RX6) (nm := "takeNumber") (L0 := [some (AR 24), some (AI x1), some (AI x2), none]) (by decide +kernel) rfl rfl (Nat.le_of_ble_eq_true rfl) rfl ?_
  intro p e s m args below meth c E hin
  have hJ : Jv w w := jv_rfl hI
  have hb_x1 := z32 x1
  have hb_x2 := z32 x2
  refine s_aload_n E dX6_takeNumber_0 rfl rfl ?_
  refine s_vI (As := []) (S := []) E (Z_X6_digits_24 l D aC b w  hJ.1 ) cv_X6_126 rfl rfl rfl (jv_lt hJ (by decide)) (Nat.le_of_ble_eq_true rfl) (Nat.le_of_ble_eq_true rfl) ⟨(Nat.le_of_ble_eq_true rfl), (Nat.le_of_ble_eq_true rfl)⟩ (Nat.le_of_ble_eq_true rfl) dX6_takeNumber_1 (fun z_3 u_1 hp_2 => ?_)
  obtain ⟨hz_3, hp_2⟩ := hp_2
  subst hp_2
  refine s_istore_n (L2 := [some (AR 24), some (AI x1), some (AI x2), some (AI z_3)]) E dX6_takeNumber_4 rfl (by decide) rfl ?_
  refine s_aload_n E dX6_takeNumber_5 rfl rfl ?_
  refine s_gI E fg_X6_49 rfl rfl (jv_lt hJ (by decide)) dX6_takeNumber_6 ?_
  refine z_nm (P := fun z => z.toInt = (w.2.2.1 24 3).toInt ∧ 0 ≤ z.toInt ∧ z.toInt ≤ 4) ⟨rfl, (rg_24_3 hJ)⟩ (fun z_5 hz_5 => ?_)
  refine s_iconst (v := 2) E dX6_takeNumber_9 (by decide) ?_
  refine z_icmp_eq (tgt := 21) (u := z_5.toInt) (v := 2) E dX6_takeNumber_10 (by decide) rfl (by decide) (fun h_6 => ?_) (fun h_6 => ?_)
  ·
    refine s_iload_n E dX6_takeNumber_21 rfl rfl ?_
    refine s_iload_n E dX6_takeNumber_22 rfl rfl ?_
    refine z_icmp_lt (tgt := 31) (u := z_3.toInt) (v := x1.toInt) E dX6_takeNumber_23 (by decide) rfl rfl (fun h_7 => ?_) (fun h_7 => ?_)
    ·
      refine s_aload_n E dX6_takeNumber_31 rfl rfl ?_
      refine s_iconst (v := 2) E dX6_takeNumber_32 (by decide) ?_
      refine s_vV (As := [AI 2]) (S := []) E (Z_X6_fail_24 l D aC b w 2 hJ.1 (by decide)) cv_X6_85 rfl rfl rfl (jv_lt hJ (by decide)) (Nat.le_of_ble_eq_true rfl) (Nat.le_of_ble_eq_true rfl) ⟨(Nat.le_of_ble_eq_true rfl), (Nat.le_of_ble_eq_true rfl)⟩ (Nat.le_of_ble_eq_true rfl) dX6_takeNumber_33 (fun u_8 hp_9 => ?_)
      have hc_ : (2 : Int32).toInt = 2 := by decide
      obtain ⟨hx_hp_9, hp_9⟩ := hp_9
      have hj_10 := jv_trans hJ hp_9
      refine s_aload_n E dX6_takeNumber_36 rfl rfl ?_
      refine s_vV (As := []) (S := []) E (Z_X6_nextToken_24 l D aC b u_8  hj_10.1 ) cv_X6_46 rfl rfl rfl (jv_lt hj_10 (by decide)) (Nat.le_of_ble_eq_true rfl) (Nat.le_of_ble_eq_true rfl) ⟨(Nat.le_of_ble_eq_true rfl), (Nat.le_of_ble_eq_true rfl)⟩ (Nat.le_of_ble_eq_true rfl) dX6_takeNumber_37 (fun u_11 hp_12 => ?_)
      obtain ⟨hx_hp_12, hp_12⟩ := hp_12
      have hj_13 := jv_trans hj_10 hp_12
      refine s_iload_n E dX6_takeNumber_40 rfl rfl ?_
      exact r_int E dX6_takeNumber_41 ⟨⟨by have hb_ := z32 z_3; omega, by have hb_ := z32 z_3; omega⟩, (by omega), hj_13⟩
    ·
      refine s_iload_n E dX6_takeNumber_26 rfl rfl ?_
      refine s_iload_n E dX6_takeNumber_27 rfl rfl ?_
      refine z_icmp_le (tgt := 36) (u := z_3.toInt) (v := x2.toInt) E dX6_takeNumber_28 (by decide) rfl rfl (fun h_14 => ?_) (fun h_14 => ?_)
      ·
        refine s_aload_n E dX6_takeNumber_36 rfl rfl ?_
        refine s_vV (As := []) (S := []) E (Z_X6_nextToken_24 l D aC b w  hJ.1 ) cv_X6_46 rfl rfl rfl (jv_lt hJ (by decide)) (Nat.le_of_ble_eq_true rfl) (Nat.le_of_ble_eq_true rfl) ⟨(Nat.le_of_ble_eq_true rfl), (Nat.le_of_ble_eq_true rfl)⟩ (Nat.le_of_ble_eq_true rfl) dX6_takeNumber_37 (fun u_15 hp_16 => ?_)
        obtain ⟨hx_hp_16, hp_16⟩ := hp_16
        have hj_17 := jv_trans hJ hp_16
        refine s_iload_n E dX6_takeNumber_40 rfl rfl ?_
        exact r_int E dX6_takeNumber_41 ⟨⟨by have hb_ := z32 z_3; omega, by have hb_ := z32 z_3; omega⟩, (by omega), hj_17⟩
      ·
        refine s_aload_n E dX6_takeNumber_31 rfl rfl ?_
        refine s_iconst (v := 2) E dX6_takeNumber_32 (by decide) ?_
        refine s_vV (As := [AI 2]) (S := []) E (Z_X6_fail_24 l D aC b w 2 hJ.1 (by decide)) cv_X6_85 rfl rfl rfl (jv_lt hJ (by decide)) (Nat.le_of_ble_eq_true rfl) (Nat.le_of_ble_eq_true rfl) ⟨(Nat.le_of_ble_eq_true rfl), (Nat.le_of_ble_eq_true rfl)⟩ (Nat.le_of_ble_eq_true rfl) dX6_takeNumber_33 (fun u_18 hp_19 => ?_)
        have hc_ : (2 : Int32).toInt = 2 := by decide
        obtain ⟨hx_hp_19, hp_19⟩ := hp_19
        have hj_20 := jv_trans hJ hp_19
        refine s_aload_n E dX6_takeNumber_36 rfl rfl ?_
        refine s_vV (As := []) (S := []) E (Z_X6_nextToken_24 l D aC b u_18  hj_20.1 ) cv_X6_46 rfl rfl rfl (jv_lt hj_20 (by decide)) (Nat.le_of_ble_eq_true rfl) (Nat.le_of_ble_eq_true rfl) ⟨(Nat.le_of_ble_eq_true rfl), (Nat.le_of_ble_eq_true rfl)⟩ (Nat.le_of_ble_eq_true rfl) dX6_takeNumber_37 (fun u_21 hp_22 => ?_)
        obtain ⟨hx_hp_22, hp_22⟩ := hp_22
        have hj_23 := jv_trans hj_20 hp_22
        refine s_iload_n E dX6_takeNumber_40 rfl rfl ?_
        exact r_int E dX6_takeNumber_41 ⟨⟨by have hb_ := z32 z_3; omega, by have hb_ := z32 z_3; omega⟩, (by omega), hj_23⟩
  ·
    refine s_aload_n E dX6_takeNumber_13 rfl rfl ?_
    refine s_iconst (v := 1) E dX6_takeNumber_14 (by decide) ?_
    refine s_vV (As := [AI 1]) (S := []) E (Z_X6_fail_24 l D aC b w 1 hJ.1 (by decide)) cv_X6_85 rfl rfl rfl (jv_lt hJ (by decide)) (Nat.le_of_ble_eq_true rfl) (Nat.le_of_ble_eq_true rfl) ⟨(Nat.le_of_ble_eq_true rfl), (Nat.le_of_ble_eq_true rfl)⟩ (Nat.le_of_ble_eq_true rfl) dX6_takeNumber_15 (fun u_24 hp_25 => ?_)
    have hc_ : (1 : Int32).toInt = 1 := by decide
    obtain ⟨hx_hp_25, hp_25⟩ := hp_25
    have hj_26 := jv_trans hJ hp_25
    refine s_goto (tgt := 36) E dX6_takeNumber_18 (by decide) ?_
    refine s_aload_n E dX6_takeNumber_36 rfl rfl ?_
    refine s_vV (As := []) (S := []) E (Z_X6_nextToken_24 l D aC b u_24  hj_26.1 ) cv_X6_46 rfl rfl rfl (jv_lt hj_26 (by decide)) (Nat.le_of_ble_eq_true rfl) (Nat.le_of_ble_eq_true rfl) ⟨(Nat.le_of_ble_eq_true rfl), (Nat.le_of_ble_eq_true rfl)⟩ (Nat.le_of_ble_eq_true rfl) dX6_takeNumber_37 (fun u_27 hp_28 => ?_)
    obtain ⟨hx_hp_28, hp_28⟩ := hp_28
    have hj_29 := jv_trans hj_26 hp_28
    refine s_iload_n E dX6_takeNumber_40 rfl rfl ?_
    exact r_int E dX6_takeNumber_41 ⟨⟨by have hb_ := z32 z_3; omega, by have hb_ := z32 z_3; omega⟩, (by omega), hj_29⟩
set_option maxRecDepth 20000 in
set_option maxHeartbeats 2000000 in
theorem Z_X6_takeWord_24 (l : Launch) (D : va_G) (aC : Nat → ClassId) (b : Nat) (w : XW)  (hI : Iv w) (si : Nat) (hsi : si < 30) : CnV l D aC b M_X6_takeWord 5 222 0 0 [AR 24, AX (sA aC si)] w (fun u => Jv w u) := by
  refine cn_V (own := RX6) (nm := "takeWord") (L0 := [some (AR 24), some (AX (sA aC si))]) (by decide +kernel) rfl rfl (Nat.le_of_ble_eq_true rfl) rfl ?_
  intro p e s m args below meth c E hin
  have hJ : Jv w w := jv_rfl hI
  refine s_aload_n E dX6_takeWord_0 rfl rfl ?_
  refine s_xload_n E dX6_takeWord_1 rfl rfl ?_
  refine s_vI (As := [AX (sA aC si)]) (S := []) E (Z_X6_isWord_24 l D aC b w  hJ.1  si hsi) cv_X6_63 rfl rfl rfl (jv_lt hJ (by decide)) (Nat.le_of_ble_eq_true rfl) (Nat.le_of_ble_eq_true rfl) ⟨(Nat.le_of_ble_eq_true rfl), (Nat.le_of_ble_eq_true rfl)⟩ (Nat.le_of_ble_eq_true rfl) dX6_takeWord_2 (fun z_3 u_1 hp_2 => ?_)
  obtain ⟨hz_3, hp_2⟩ := hp_2
  subst hp_2
  refine z_if_ne (tgt := 13) (u := z_3.toInt) E dX6_takeWord_5 (by decide) rfl (fun h_5 => ?_) (fun h_5 => ?_)
  ·
    refine s_aload_n E dX6_takeWord_13 rfl rfl ?_
    refine s_vV (As := []) (S := []) E (Z_X6_nextToken_24 l D aC b w  hJ.1 ) cv_X6_46 rfl rfl rfl (jv_lt hJ (by decide)) (Nat.le_of_ble_eq_true rfl) (Nat.le_of_ble_eq_true rfl) ⟨(Nat.le_of_ble_eq_true rfl), (Nat.le_of_ble_eq_true rfl)⟩ (Nat.le_of_ble_eq_true rfl) dX6_takeWord_14 (fun u_6 hp_7 => ?_)
    obtain ⟨hx_hp_7, hp_7⟩ := hp_7
    have hj_8 := jv_trans hJ hp_7
    exact r_void E dX6_takeWord_17 hj_8
  ·
    refine s_aload_n E dX6_takeWord_8 rfl rfl ?_
    refine s_iconst (v := 1) E dX6_takeWord_9 (by decide) ?_
    refine s_vV (As := [AI 1]) (S := []) E (Z_X6_fail_24 l D aC b w 1 hJ.1 (by decide)) cv_X6_85 rfl rfl rfl (jv_lt hJ (by decide)) (Nat.le_of_ble_eq_true rfl) (Nat.le_of_ble_eq_true rfl) ⟨(Nat.le_of_ble_eq_true rfl), (Nat.le_of_ble_eq_true rfl)⟩ (Nat.le_of_ble_eq_true rfl) dX6_takeWord_10 (fun u_9 hp_10 => ?_)
    have hc_ : (1 : Int32).toInt = 1 := by decide
    obtain ⟨hx_hp_10, hp_10⟩ := hp_10
    have hj_11 := jv_trans hJ hp_10
    refine s_aload_n E dX6_takeWord_13 rfl rfl ?_
    refine s_vV (As := []) (S := []) E (Z_X6_nextToken_24 l D aC b u_9  hj_11.1 ) cv_X6_46 rfl rfl rfl (jv_lt hj_11 (by decide)) (Nat.le_of_ble_eq_true rfl) (Nat.le_of_ble_eq_true rfl) ⟨(Nat.le_of_ble_eq_true rfl), (Nat.le_of_ble_eq_true rfl)⟩ (Nat.le_of_ble_eq_true rfl) dX6_takeWord_14 (fun u_12 hp_13 => ?_)
    obtain ⟨hx_hp_13, hp_13⟩ := hp_13
    have hj_14 := jv_trans hj_11 hp_13
    exact r_void E dX6_takeWord_17 hj_14
set_option maxRecDepth 20000 in
set_option maxHeartbeats 2000000 in
theorem Z_X6_takeSign_24 (l : Launch) (D : va_G) (aC : Nat → ClassId) (b : Nat) (w : XW)  (hI : Iv w)  : CnV l D aC b M_X6_takeSign 2 42 0 0 [AR 24] w (fun u => Jv w u) := by
  refine cn_V (own := RX6) (nm := "takeSign") (L0 := [some (AR 24)]) (by decide +kernel) rfl rfl (Nat.le_of_ble_eq_true rfl) rfl ?_
  intro p e s m args below meth c E hin
  have hJ : Jv w w := jv_rfl hI
  refine s_aload_n E dX6_takeSign_0 rfl rfl ?_
  refine s_gI E fg_X6_49 rfl rfl (jv_lt hJ (by decide)) dX6_takeSign_1 ?_
  refine z_nm (P := fun z => z.toInt = (w.2.2.1 24 3).toInt ∧ 0 ≤ z.toInt ∧ z.toInt ≤ 4) ⟨rfl, (rg_24_3 hJ)⟩ (fun z_1 hz_1 => ?_)
  refine s_iconst (v := 3) E dX6_takeSign_4 (by decide) ?_
  refine z_icmp_eq (tgt := 13) (u := z_1.toInt) (v := 3) E dX6_takeSign_5 (by decide) rfl (by decide) (fun h_2 => ?_) (fun h_2 => ?_)
  ·
    refine s_aload_n E dX6_takeSign_13 rfl rfl ?_
    refine s_vV (As := []) (S := []) E (Z_X6_nextToken_24 l D aC b w  hJ.1 ) cv_X6_46 rfl rfl rfl (jv_lt hJ (by decide)) (Nat.le_of_ble_eq_true rfl) (Nat.le_of_ble_eq_true rfl) ⟨(Nat.le_of_ble_eq_true rfl), (Nat.le_of_ble_eq_true rfl)⟩ (Nat.le_of_ble_eq_true rfl) dX6_takeSign_14 (fun u_3 hp_4 => ?_)
    obtain ⟨hx_hp_4, hp_4⟩ := hp_4
    have hj_5 := jv_trans hJ hp_4
    exact r_void E dX6_takeSign_17 hj_5
  ·
    refine s_aload_n E dX6_takeSign_8 rfl rfl ?_
    refine s_iconst (v := 1) E dX6_takeSign_9 (by decide) ?_
    refine s_vV (As := [AI 1]) (S := []) E (Z_X6_fail_24 l D aC b w 1 hJ.1 (by decide)) cv_X6_85 rfl rfl rfl (jv_lt hJ (by decide)) (Nat.le_of_ble_eq_true rfl) (Nat.le_of_ble_eq_true rfl) ⟨(Nat.le_of_ble_eq_true rfl), (Nat.le_of_ble_eq_true rfl)⟩ (Nat.le_of_ble_eq_true rfl) dX6_takeSign_10 (fun u_6 hp_7 => ?_)
    have hc_ : (1 : Int32).toInt = 1 := by decide
    obtain ⟨hx_hp_7, hp_7⟩ := hp_7
    have hj_8 := jv_trans hJ hp_7
    refine s_aload_n E dX6_takeSign_13 rfl rfl ?_
    refine s_vV (As := []) (S := []) E (Z_X6_nextToken_24 l D aC b u_6  hj_8.1 ) cv_X6_46 rfl rfl rfl (jv_lt hj_8 (by decide)) (Nat.le_of_ble_eq_true rfl) (Nat.le_of_ble_eq_true rfl) ⟨(Nat.le_of_ble_eq_true rfl), (Nat.le_of_ble_eq_true rfl)⟩ (Nat.le_of_ble_eq_true rfl) dX6_takeSign_14 (fun u_9 hp_10 => ?_)
    obtain ⟨hx_hp_10, hp_10⟩ := hp_10
    have hj_11 := jv_trans hj_8 hp_10
    exact r_void E dX6_takeSign_17 hj_11
set_option maxRecDepth 20000 in
set_option maxHeartbeats 2000000 in
theorem Z_X8_hasCell_20 (l : Launch) (D : va_G) (aC : Nat → ClassId) (b : Nat) (w : XW) (x1 : Int32) (x2 : Int32) (hI : Iv w)  : CnI l D aC b M_X8_hasCell 0 0 0 0 [AR 20, AI x1, AI x2] w (fun r u => (0 ≤ r.toInt ∧ r.toInt ≤ 1 ∧ (r.toInt = 0 ∨ (0 ≤ x1.toInt ∧ x1.toInt ≤ 9)) ∧ (r.toInt = 0 ∨ (0 ≤ x2.toInt ∧ x2.toInt ≤ 2)) ∧ (r.toInt = 0 ∨ (1 ≤ (w.2.2.1 20 3).toInt ∧ (w.2.2.1 20 3).toInt ≤ 10))) ∧ w = u) := by
  refine cn_I (own := RX8) (nm := "hasCell") (L0 := [some (AR 20), some (AI x1), some (AI x2)]) (by decide +kernel) rfl rfl (Nat.le_of_ble_eq_true rfl) rfl ?_
  intro p e s m args below meth c E hin
  have hJ : Jv w w := jv_rfl hI
  have hb_x1 := z32 x1
  have hb_x2 := z32 x2
  refine s_iload_n E dX8_hasCell_0 rfl rfl ?_
  refine z_if_lt (tgt := 28) (u := x1.toInt) E dX8_hasCell_1 (by decide) rfl (fun h_1 => ?_) (fun h_1 => ?_)
  ·
    refine s_iconst (v := 0) E dX8_hasCell_28 (by decide) ?_
    exact r_bool E dX8_hasCell_29 (Or.inl rfl) ⟨⟨by decide, by decide, by first | (left; decide) | (right; decide) | (right; have hb_ := z32 x1; omega), by first | (left; decide) | (right; decide) | (right; have hb_ := z32 x2; omega), by first | (left; decide) | (right; decide) | (right; have hb_ := z32 (w.2.2.1 20 3); omega)⟩, rfl⟩
  ·
    refine s_iload_n E dX8_hasCell_4 rfl rfl ?_
    refine s_aload_n E dX8_hasCell_5 rfl rfl ?_
    refine s_gI E fg_X8_28 rfl rfl (jv_lt hJ (by decide)) dX8_hasCell_6 ?_
    refine z_nm (P := fun z => z.toInt = (w.2.2.1 20 3).toInt ∧ 0 ≤ z.toInt ∧ z.toInt ≤ 10) ⟨rfl, (rg_20_3 hJ)⟩ (fun z_2 hz_2 => ?_)
    refine z_icmp_ge (tgt := 28) (u := x1.toInt) (v := z_2.toInt) E dX8_hasCell_9 (by decide) rfl rfl (fun h_3 => ?_) (fun h_3 => ?_)
    ·
      refine s_iconst (v := 0) E dX8_hasCell_28 (by decide) ?_
      exact r_bool E dX8_hasCell_29 (Or.inl rfl) ⟨⟨by decide, by decide, by first | (left; decide) | (right; decide) | (right; have hb_ := z32 x1; omega), by first | (left; decide) | (right; decide) | (right; have hb_ := z32 x2; omega), by first | (left; decide) | (right; decide) | (right; have hb_ := z32 (w.2.2.1 20 3); omega)⟩, rfl⟩
    ·
      refine s_iload_n E dX8_hasCell_12 rfl rfl ?_
      refine z_if_lt (tgt := 28) (u := x2.toInt) E dX8_hasCell_13 (by decide) rfl (fun h_4 => ?_) (fun h_4 => ?_)
      ·
        refine s_iconst (v := 0) E dX8_hasCell_28 (by decide) ?_
        exact r_bool E dX8_hasCell_29 (Or.inl rfl) ⟨⟨by decide, by decide, by first | (left; decide) | (right; decide) | (right; have hb_ := z32 x1; omega), by first | (left; decide) | (right; decide) | (right; have hb_ := z32 x2; omega), by first | (left; decide) | (right; decide) | (right; have hb_ := z32 (w.2.2.1 20 3); omega)⟩, rfl⟩
      ·
        refine s_iload_n E dX8_hasCell_16 rfl rfl ?_
        refine s_aload_n E dX8_hasCell_17 rfl rfl ?_
        refine s_gI E fg_X8_21 rfl rfl (jv_lt hJ (by decide)) dX8_hasCell_18 ?_
        refine s_top (y := 3) (z_pt (by decide) (rg_20_2 hJ)) ?_
        refine z_icmp_ge (tgt := 28) (u := x2.toInt) (v := 3) E dX8_hasCell_21 (by decide) rfl (by decide) (fun h_5 => ?_) (fun h_5 => ?_)
        ·
          refine s_iconst (v := 0) E dX8_hasCell_28 (by decide) ?_
          exact r_bool E dX8_hasCell_29 (Or.inl rfl) ⟨⟨by decide, by decide, by first | (left; decide) | (right; decide) | (right; have hb_ := z32 x1; omega), by first | (left; decide) | (right; decide) | (right; have hb_ := z32 x2; omega), by first | (left; decide) | (right; decide) | (right; have hb_ := z32 (w.2.2.1 20 3); omega)⟩, rfl⟩
        ·
          refine s_iconst (v := 1) E dX8_hasCell_24 (by decide) ?_
          refine s_goto (tgt := 29) E dX8_hasCell_25 (by decide) ?_
          exact r_bool E dX8_hasCell_29 (Or.inr rfl) ⟨⟨by decide, by decide, by first | (left; decide) | (right; decide) | (right; have hb_ := z32 x1; omega), by first | (left; decide) | (right; decide) | (right; have hb_ := z32 x2; omega), by first | (left; decide) | (right; decide) | (right; have hb_ := z32 (w.2.2.1 20 3); omega)⟩, rfl⟩
set_option maxRecDepth 20000 in
set_option maxHeartbeats 2000000 in
theorem Z_X8_put_20 (l : Launch) (D : va_G) (aC : Nat → ClassId) (b : Nat) (w : XW) (x1 : Int32) (x2 : Int32) (x3 : Int32) (hI : Iv w)  : CnV l D aC b M_X8_put 1 22 0 0 [AR 20, AI x1, AI x2, AI x3] w (fun u => Jv w u) := by
  refine cn_V (own := RX8) (nm := "put") (L0 := [some (AR 20), some (AI x1), some (AI x2), some (AI x3)]) (by decide +kernel) rfl rfl (Nat.le_of_ble_eq_true rfl) rfl ?_
  intro p e s m args below meth c E hin
  have hJ : Jv w w := jv_rfl hI
  have hb_x1 := z32 x1
  have hb_x2 := z32 x2
  have hb_x3 := z32 x3
  refine s_aload_n E dX8_put_0 rfl rfl ?_
  refine s_iload_n E dX8_put_1 rfl rfl ?_
  refine s_iload_n E dX8_put_2 rfl rfl ?_
  refine s_vI (As := [AI x1, AI x2]) (S := []) E (Z_X8_hasCell_20 l D aC b w x1 x2 hJ.1 ) cv_X8_31 rfl rfl rfl (jv_lt hJ (by decide)) (Nat.le_of_ble_eq_true rfl) (Nat.le_of_ble_eq_true rfl) ⟨(Nat.le_of_ble_eq_true rfl), (Nat.le_of_ble_eq_true rfl)⟩ (Nat.le_of_ble_eq_true rfl) dX8_put_3 (fun z_3 u_1 hp_2 => ?_)
  obtain ⟨hz_3, hp_2⟩ := hp_2
  subst hp_2
  refine z_if_eq (tgt := 23) (u := z_3.toInt) E dX8_put_6 (by decide) rfl (fun h_5 => ?_) (fun h_5 => ?_)
  ·
    exact r_void E dX8_put_23 hJ
  ·
    refine s_aload_n E dX8_put_9 rfl rfl ?_
    refine s_gR (r := 21) E fg_X8_24 rfl rfl (jv_lt hJ (by decide)) (jv_r hJ (by decide +kernel)) dX8_put_10 ?_
    refine s_iload_n E dX8_put_13 rfl rfl ?_
    refine s_aload_n E dX8_put_14 rfl rfl ?_
    refine s_gI E fg_X8_21 rfl rfl (jv_lt hJ (by decide)) dX8_put_15 ?_
    refine s_top (y := 3) (z_pt (by decide) (rg_20_2 hJ)) ?_
    refine z_imul (u := x1.toInt) (v := 3) E dX8_put_18 rfl (by decide) (by omega) (by omega) (fun z_6 hz_6 => ?_)
    refine s_iload_n E dX8_put_19 rfl rfl ?_
    refine z_iadd (u := z_6.toInt) (v := x2.toInt) E dX8_put_20 rfl rfl (by omega) (by omega) (fun z_7 hz_7 => ?_)
    refine s_iload_n E dX8_put_21 rfl rfl ?_
    refine s_iast E rfl (jv_lt hJ (by decide)) (z_in (u := z_7.toInt) rfl (by omega) (by omega)) dX8_put_22 ?_
    refine s_gen (P := fun v => Jv w v ∧ (v.2.2.1 20 3).toInt = (w.2.2.1 20 3).toInt) ⟨(jv_a_21 hJ (by have hb_ := z32 x3; omega) (by have hb_ := z32 x3; omega)), rfl⟩ (fun v_8 hj_9 => ?_)
    obtain ⟨hj_9, hk_10k0⟩ := hj_9
    exact r_void E dX8_put_23 hj_9
set_option maxRecDepth 20000 in
set_option maxHeartbeats 2000000 in
theorem Z_X8_add_20 (l : Launch) (D : va_G) (aC : Nat → ClassId) (b : Nat) (w : XW) (x1 : Int32) (x2 : Int32) (x3 : Int32) (x4 : Int32) (hI : Iv w)  : CnV l D aC b M_X8_add 2 45 0 0 [AR 20, AI x1, AI x2, AI x3, AI x4] w (fun u => Jv w u) := by
  refine cn_V (own := RX8) (nm := "add") (L0 := [some (AR 20), some (AI x1), some (AI x2), some (AI x3), some (AI x4)]) (by decide +kernel) rfl rfl (Nat.le_of_ble_eq_true rfl) rfl ?_
  intro p e s m args below meth c E hin
  have hJ : Jv w w := jv_rfl hI
  have hb_x1 := z32 x1
  have hb_x2 := z32 x2
  have hb_x3 := z32 x3
  have hb_x4 := z32 x4
  refine s_aload_n E dX8_add_0 rfl rfl ?_
  refine s_vI (As := []) (S := []) E (Z_X8_isFull_20 l D aC b w  hJ.1 ) cv_X8_35 rfl rfl rfl (jv_lt hJ (by decide)) (Nat.le_of_ble_eq_true rfl) (Nat.le_of_ble_eq_true rfl) ⟨(Nat.le_of_ble_eq_true rfl), (Nat.le_of_ble_eq_true rfl)⟩ (Nat.le_of_ble_eq_true rfl) dX8_add_1 (fun z_3 u_1 hp_2 => ?_)
  obtain ⟨hz_3, hp_2⟩ := hp_2
  subst hp_2
  refine z_if_eq (tgt := 8) (u := z_3.toInt) E dX8_add_4 (by decide) rfl (fun h_5 => ?_) (fun h_5 => ?_)
  ·
    refine s_aload_n E dX8_add_8 rfl rfl ?_
    refine s_dupR E dX8_add_9 ?_
    refine s_gI E fg_X8_28 rfl rfl (jv_lt hJ (by decide)) dX8_add_10 ?_
    refine z_nm (P := fun z => z.toInt = (w.2.2.1 20 3).toInt ∧ 0 ≤ z.toInt ∧ z.toInt ≤ 10) ⟨rfl, (rg_20_3 hJ)⟩ (fun z_6 hz_6 => ?_)
    refine s_iconst (v := 1) E dX8_add_13 (by decide) ?_
    refine z_iadd (u := z_6.toInt) (v := 1) E dX8_add_14 rfl (by decide) (by omega) (by omega) (fun z_7 hz_7 => ?_)
    refine s_pI E fp_X8_28 (Or.inl rfl) rfl (jv_lt hJ (by decide)) dX8_add_15 ?_
    refine s_gen (P := Jv w) (jv_f_20_3 hJ (by have hb_ := z32 z_7; omega) (by have hb_ := z32 z_7; omega)) (fun v_8 hj_9 => ?_)
    refine s_aload_n E dX8_add_18 rfl rfl ?_
    refine s_aload_n E dX8_add_19 rfl rfl ?_
    refine s_gI E fg_X8_28 rfl rfl (jv_lt hj_9 (by decide)) dX8_add_20 ?_
    refine z_nm (P := fun z => z.toInt = (v_8.2.2.1 20 3).toInt ∧ 0 ≤ z.toInt ∧ z.toInt ≤ 10) ⟨rfl, (rg_20_3 hj_9)⟩ (fun z_10 hz_10 => ?_)
    refine s_iconst (v := 1) E dX8_add_23 (by decide) ?_
    refine z_isub (u := z_10.toInt) (v := 1) E dX8_add_24 rfl (by decide) (by omega) (by omega) (fun z_11 hz_11 => ?_)
    refine s_iconst (v := 0) E dX8_add_25 (by decide) ?_
    refine s_iload_n E dX8_add_26 rfl rfl ?_
    refine s_vV (As := [AI z_11, AI 0, AI x1]) (S := []) E (Z_X8_put_20 l D aC b v_8 z_11 0 x1 hj_9.1 ) cv_X8_39 rfl rfl rfl (jv_lt hj_9 (by decide)) (Nat.le_of_ble_eq_true rfl) (Nat.le_of_ble_eq_true rfl) ⟨(Nat.le_of_ble_eq_true rfl), (Nat.le_of_ble_eq_true rfl)⟩ (Nat.le_of_ble_eq_true rfl) dX8_add_27 (fun u_12 hp_13 => ?_)
    have hj_14 := jv_trans hj_9 hp_13
    refine s_aload_n E dX8_add_30 rfl rfl ?_
    refine s_aload_n E dX8_add_31 rfl rfl ?_
    refine s_gI E fg_X8_28 rfl rfl (jv_lt hj_14 (by decide)) dX8_add_32 ?_
    refine z_nm (P := fun z => z.toInt = (u_12.2.2.1 20 3).toInt ∧ 0 ≤ z.toInt ∧ z.toInt ≤ 10) ⟨rfl, (rg_20_3 hj_14)⟩ (fun z_15 hz_15 => ?_)
    refine s_iconst (v := 1) E dX8_add_35 (by decide) ?_
    refine z_isub (u := z_15.toInt) (v := 1) E dX8_add_36 rfl (by decide) (by omega) (by omega) (fun z_16 hz_16 => ?_)
    refine s_iconst (v := 1) E dX8_add_37 (by decide) ?_
    refine s_iload_n E dX8_add_38 rfl rfl ?_
    refine s_vV (As := [AI z_16, AI 1, AI x2]) (S := []) E (Z_X8_put_20 l D aC b u_12 z_16 1 x2 hj_14.1 ) cv_X8_39 rfl rfl rfl (jv_lt hj_14 (by decide)) (Nat.le_of_ble_eq_true rfl) (Nat.le_of_ble_eq_true rfl) ⟨(Nat.le_of_ble_eq_true rfl), (Nat.le_of_ble_eq_true rfl)⟩ (Nat.le_of_ble_eq_true rfl) dX8_add_39 (fun u_17 hp_18 => ?_)
    have hj_19 := jv_trans hj_14 hp_18
    refine s_aload_n E dX8_add_42 rfl rfl ?_
    refine s_aload_n E dX8_add_43 rfl rfl ?_
    refine s_gI E fg_X8_28 rfl rfl (jv_lt hj_19 (by decide)) dX8_add_44 ?_
    refine z_nm (P := fun z => z.toInt = (u_17.2.2.1 20 3).toInt ∧ 0 ≤ z.toInt ∧ z.toInt ≤ 10) ⟨rfl, (rg_20_3 hj_19)⟩ (fun z_20 hz_20 => ?_)
    refine s_iconst (v := 1) E dX8_add_47 (by decide) ?_
    refine z_isub (u := z_20.toInt) (v := 1) E dX8_add_48 rfl (by decide) (by omega) (by omega) (fun z_21 hz_21 => ?_)
    refine s_iconst (v := 2) E dX8_add_49 (by decide) ?_
    refine s_iload_n E dX8_add_50 rfl rfl ?_
    refine s_vV (As := [AI z_21, AI 2, AI x3]) (S := []) E (Z_X8_put_20 l D aC b u_17 z_21 2 x3 hj_19.1 ) cv_X8_39 rfl rfl rfl (jv_lt hj_19 (by decide)) (Nat.le_of_ble_eq_true rfl) (Nat.le_of_ble_eq_true rfl) ⟨(Nat.le_of_ble_eq_true rfl), (Nat.le_of_ble_eq_true rfl)⟩ (Nat.le_of_ble_eq_true rfl) dX8_add_51 (fun u_22 hp_23 => ?_)
    have hj_24 := jv_trans hj_19 hp_23
    refine s_aload_n E dX8_add_54 rfl rfl ?_
    refine s_aload_n E dX8_add_55 rfl rfl ?_
    refine s_gI E fg_X8_28 rfl rfl (jv_lt hj_24 (by decide)) dX8_add_56 ?_
    refine z_nm (P := fun z => z.toInt = (u_22.2.2.1 20 3).toInt ∧ 0 ≤ z.toInt ∧ z.toInt ≤ 10) ⟨rfl, (rg_20_3 hj_24)⟩ (fun z_25 hz_25 => ?_)
    refine s_iconst (v := 1) E dX8_add_59 (by decide) ?_
    refine z_isub (u := z_25.toInt) (v := 1) E dX8_add_60 rfl (by decide) (by omega) (by omega) (fun z_26 hz_26 => ?_)
    refine s_iconst (v := 3) E dX8_add_61 (by decide) ?_
    refine s_iload E dX8_add_62 rfl ?_
    refine s_vV (As := [AI z_26, AI 3, AI x4]) (S := []) E (Z_X8_put_20 l D aC b u_22 z_26 3 x4 hj_24.1 ) cv_X8_39 rfl rfl rfl (jv_lt hj_24 (by decide)) (Nat.le_of_ble_eq_true rfl) (Nat.le_of_ble_eq_true rfl) ⟨(Nat.le_of_ble_eq_true rfl), (Nat.le_of_ble_eq_true rfl)⟩ (Nat.le_of_ble_eq_true rfl) dX8_add_64 (fun u_27 hp_28 => ?_)
    have hj_29 := jv_trans hj_24 hp_28
    exact r_void E dX8_add_67 hj_29
  ·
    exact r_void E dX8_add_7 hJ
set_option maxRecDepth 20000 in
set_option maxHeartbeats 2000000 in
theorem Z_X6_readBid_24 (l : Launch) (D : va_G) (aC : Nat → ClassId) (b : Nat) (w : XW)  (hI : Iv w)  : CnV l D aC b M_X6_readBid 6 243 0 0 [AR 24] w (fun u => Jv w u) := by
  refine cn_V (own := RX6) (nm := "readBid") (L0 := [some (AR 24), none, none, none]) (by decide +kernel) rfl rfl (Nat.le_of_ble_eq_true rfl) rfl ?_
  intro p e s m args below meth c E hin
  have hJ : Jv w w := jv_rfl hI
  refine s_aload_n E dX6_readBid_0 rfl rfl ?_
  refine s_aload_n E dX6_readBid_1 rfl rfl ?_
  refine s_gR (r := 13) E fg_X6_15 rfl rfl (jv_lt hJ (by decide)) (jv_r hJ (by decide +kernel)) dX6_readBid_2 ?_
  refine s_gR (r := 20) E fg_X6_153 rfl rfl (jv_lt hJ (by decide)) (jv_r hJ (by decide +kernel)) dX6_readBid_5 ?_
  refine s_vV (As := [AR 20]) (S := []) E (Z_X6_startRow_24_r20 l D aC b w  hJ.1 ) cv_X6_120 rfl rfl rfl (jv_lt hJ (by decide)) (Nat.le_of_ble_eq_true rfl) (Nat.le_of_ble_eq_true rfl) ⟨(Nat.le_of_ble_eq_true rfl), (Nat.le_of_ble_eq_true rfl)⟩ (Nat.le_of_ble_eq_true rfl) dX6_readBid_8 (fun u_1 hp_2 => ?_)
  have hj_3 := jv_trans hJ hp_2
  refine s_aload_n E dX6_readBid_11 rfl rfl ?_
  refine s_iconst (v := 0) E dX6_readBid_12 (by decide) ?_
  refine s_aload_n E dX6_readBid_13 rfl rfl ?_
  refine s_gR (r := 13) E fg_X6_15 rfl rfl (jv_lt hj_3 (by decide)) (jv_r hj_3 (by decide +kernel)) dX6_readBid_14 ?_
  refine s_gR (r := 16) E fg_X6_138 rfl rfl (jv_lt hj_3 (by decide)) (jv_r hj_3 (by decide +kernel)) dX6_readBid_17 ?_
  refine s_gI E fg_X6_148 rfl rfl (jv_lt hj_3 (by decide)) dX6_readBid_20 ?_
  refine z_nm (P := fun z => z.toInt = (u_1.2.2.1 16 3).toInt ∧ 0 ≤ z.toInt ∧ z.toInt ≤ 6) ⟨rfl, (rg_16_3 hj_3)⟩ (fun z_4 hz_4 => ?_)
  refine s_iconst (v := 1) E dX6_readBid_23 (by decide) ?_
  refine z_isub (u := z_4.toInt) (v := 1) E dX6_readBid_24 rfl (by decide) (by omega) (by omega) (fun z_5 hz_5 => ?_)
  refine s_vI (As := [AI 0, AI z_5]) (S := []) E (Z_X6_takeNumber_24 l D aC b u_1 0 z_5 hj_3.1 ) cv_X6_96 rfl rfl rfl (jv_lt hj_3 (by decide)) (Nat.le_of_ble_eq_true rfl) (Nat.le_of_ble_eq_true rfl) ⟨(Nat.le_of_ble_eq_true rfl), (Nat.le_of_ble_eq_true rfl)⟩ (Nat.le_of_ble_eq_true rfl) dX6_readBid_25 (fun z_8 u_6 hp_7 => ?_)
  obtain ⟨hz_8, hxz_8, hp_7⟩ := hp_7
  have hc_ : (0 : Int32).toInt = 0 := by decide
  have hj_9 := jv_trans hj_3 hp_7
  refine s_istore_n (L2 := [some (AR 24), some (AI z_8), none, none]) E dX6_readBid_28 rfl (by decide) rfl ?_
  refine s_aload_n E dX6_readBid_29 rfl rfl ?_
  refine s_ldcS (i := 6) E (by decide) rfl dX6_readBid_30 ?_
  refine s_vV (As := [AX (sA aC 6)]) (S := []) E (Z_X6_takeWord_24 l D aC b u_6  hj_9.1  6 (by decide)) cv_X6_90 rfl rfl rfl (jv_lt hj_9 (by decide)) (Nat.le_of_ble_eq_true rfl) (Nat.le_of_ble_eq_true rfl) ⟨(Nat.le_of_ble_eq_true rfl), (Nat.le_of_ble_eq_true rfl)⟩ (Nat.le_of_ble_eq_true rfl) dX6_readBid_32 (fun u_10 hp_11 => ?_)
  have hj_12 := jv_trans hj_9 hp_11
  refine s_aload_n E dX6_readBid_35 rfl rfl ?_
  refine s_iconst (v := 0) E dX6_readBid_36 (by decide) ?_
  refine s_aload_n E dX6_readBid_37 rfl rfl ?_
  refine s_gR (r := 13) E fg_X6_15 rfl rfl (jv_lt hj_12 (by decide)) (jv_r hj_12 (by decide +kernel)) dX6_readBid_38 ?_
  refine s_gI E fg_X6_99 rfl rfl (jv_lt hj_12 (by decide)) dX6_readBid_41 ?_
  refine z_nm (P := fun z => z.toInt = (u_10.2.2.1 13 1).toInt ∧ (-2147483648) ≤ z.toInt ∧ z.toInt ≤ 2147483647) ⟨rfl, z32 _⟩ (fun z_13 hz_13 => ?_)
  refine s_iconst (v := 1) E dX6_readBid_44 (by decide) ?_
  refine s_isub E dX6_readBid_45 ?_
  refine z_nm (P := fun z => (-2147483648) ≤ z.toInt ∧ z.toInt ≤ 2147483647) (z32 _) (fun z_14 hz_14 => ?_)
  refine s_vI (As := [AI 0, AI z_14]) (S := []) E (Z_X6_takeNumber_24 l D aC b u_10 0 z_14 hj_12.1 ) cv_X6_96 rfl rfl rfl (jv_lt hj_12 (by decide)) (Nat.le_of_ble_eq_true rfl) (Nat.le_of_ble_eq_true rfl) ⟨(Nat.le_of_ble_eq_true rfl), (Nat.le_of_ble_eq_true rfl)⟩ (Nat.le_of_ble_eq_true rfl) dX6_readBid_46 (fun z_17 u_15 hp_16 => ?_)
  obtain ⟨hz_17, hxz_17, hp_16⟩ := hp_16
  have hc_ : (0 : Int32).toInt = 0 := by decide
  have hj_18 := jv_trans hj_12 hp_16
  refine s_istore_n (L2 := [some (AR 24), some (AI z_8), some (AI z_17), none]) E dX6_readBid_49 rfl (by decide) rfl ?_
  refine s_aload_n E dX6_readBid_50 rfl rfl ?_
  refine s_ldcS (i := 14) E (by decide) rfl dX6_readBid_51 ?_
  refine s_vV (As := [AX (sA aC 14)]) (S := []) E (Z_X6_takeWord_24 l D aC b u_15  hj_18.1  14 (by decide)) cv_X6_90 rfl rfl rfl (jv_lt hj_18 (by decide)) (Nat.le_of_ble_eq_true rfl) (Nat.le_of_ble_eq_true rfl) ⟨(Nat.le_of_ble_eq_true rfl), (Nat.le_of_ble_eq_true rfl)⟩ (Nat.le_of_ble_eq_true rfl) dX6_readBid_53 (fun u_19 hp_20 => ?_)
  have hj_21 := jv_trans hj_18 hp_20
  refine s_aload_n E dX6_readBid_56 rfl rfl ?_
  refine s_iconst (v := 0) E dX6_readBid_57 (by decide) ?_
  refine s_bipush (v := 13) E dX6_readBid_58 (by decide) ?_
  refine s_vI (As := [AI 0, AI 13]) (S := []) E (Z_X6_takeNumber_24 l D aC b u_19 0 13 hj_21.1 ) cv_X6_96 rfl rfl rfl (jv_lt hj_21 (by decide)) (Nat.le_of_ble_eq_true rfl) (Nat.le_of_ble_eq_true rfl) ⟨(Nat.le_of_ble_eq_true rfl), (Nat.le_of_ble_eq_true rfl)⟩ (Nat.le_of_ble_eq_true rfl) dX6_readBid_60 (fun z_24 u_22 hp_23 => ?_)
  obtain ⟨hz_24, hxz_24, hp_23⟩ := hp_23
  have hc_ : (0 : Int32).toInt = 0 := by decide
  have hc_ : (13 : Int32).toInt = 13 := by decide
  have hj_25 := jv_trans hj_21 hp_23
  refine s_istore_n (L2 := [some (AR 24), some (AI z_8), some (AI z_17), some (AI z_24)]) E dX6_readBid_63 rfl (by decide) rfl ?_
  refine s_aload_n E dX6_readBid_64 rfl rfl ?_
  refine s_vV (As := []) (S := []) E (Z_X6_takeSign_24 l D aC b u_22  hj_25.1 ) cv_X6_113 rfl rfl rfl (jv_lt hj_25 (by decide)) (Nat.le_of_ble_eq_true rfl) (Nat.le_of_ble_eq_true rfl) ⟨(Nat.le_of_ble_eq_true rfl), (Nat.le_of_ble_eq_true rfl)⟩ (Nat.le_of_ble_eq_true rfl) dX6_readBid_65 (fun u_26 hp_27 => ?_)
  have hj_28 := jv_trans hj_25 hp_27
  refine s_aload_n E dX6_readBid_68 rfl rfl ?_
  refine s_gI E fg_X6_40 rfl rfl (jv_lt hj_28 (by decide)) dX6_readBid_69 ?_
  refine z_nm (P := fun z => z.toInt = (u_26.2.2.1 24 6).toInt ∧ 0 ≤ z.toInt ∧ z.toInt ≤ 3) ⟨rfl, (rg_24_6 hj_28)⟩ (fun z_29 hz_29 => ?_)
  refine z_if_ne (tgt := 89) (u := z_29.toInt) E dX6_readBid_72 (by decide) rfl (fun h_30 => ?_) (fun h_30 => ?_)
  ·
    exact r_void E dX6_readBid_89 hj_28
  ·
    refine s_aload_n E dX6_readBid_75 rfl rfl ?_
    refine s_gR (r := 13) E fg_X6_15 rfl rfl (jv_lt hj_28 (by decide)) (jv_r hj_28 (by decide +kernel)) dX6_readBid_76 ?_
    refine s_gR (r := 20) E fg_X6_153 rfl rfl (jv_lt hj_28 (by decide)) (jv_r hj_28 (by decide +kernel)) dX6_readBid_79 ?_
    refine s_iload_n E dX6_readBid_82 rfl rfl ?_
    refine s_iload_n E dX6_readBid_83 rfl rfl ?_
    refine s_iload_n E dX6_readBid_84 rfl rfl ?_
    refine s_iconst (v := 0) E dX6_readBid_85 (by decide) ?_
    refine s_vV (As := [AI z_8, AI z_17, AI z_24, AI 0]) (S := []) E (Z_X8_add_20 l D aC b u_26 z_8 z_17 z_24 0 hj_28.1 ) cv_X6_132 rfl rfl rfl (jv_lt hj_28 (by decide)) (Nat.le_of_ble_eq_true rfl) (Nat.le_of_ble_eq_true rfl) ⟨(Nat.le_of_ble_eq_true rfl), (Nat.le_of_ble_eq_true rfl)⟩ (Nat.le_of_ble_eq_true rfl) dX6_readBid_86 (fun u_31 hp_32 => ?_)
    have hj_33 := jv_trans hj_28 hp_32
    exact r_void E dX6_readBid_89 hj_33
set_option maxRecDepth 20000 in
set_option maxHeartbeats 2000000 in
theorem Z_X8_isFull_18 (l : Launch) (D : va_G) (aC : Nat → ClassId) (b : Nat) (w : XW)  (hI : Iv w)  : CnI l D aC b M_X8_isFull 0 0 0 0 [AR 18] w (fun r u => (0 ≤ r.toInt ∧ r.toInt ≤ 1 ∧ (¬ r.toInt = 0 ∨ (0 ≤ (w.2.2.1 18 3).toInt ∧ (w.2.2.1 18 3).toInt ≤ 7)) ∧ (r.toInt = 0 ∨ (8 ≤ (w.2.2.1 18 3).toInt ∧ (w.2.2.1 18 3).toInt ≤ 8))) ∧ w = u) := by
  refine cn_I (own := RX8) (nm := "isFull") (L0 := [some (AR 18)]) (by decide +kernel) rfl rfl (Nat.le_of_ble_eq_true rfl) rfl ?_
  intro p e s m args below meth c E hin
  have hJ : Jv w w := jv_rfl hI
  refine s_aload_n E dX8_isFull_0 rfl rfl ?_
  refine s_gI E fg_X8_28 rfl rfl (jv_lt hJ (by decide)) dX8_isFull_1 ?_
  refine z_nm (P := fun z => z.toInt = (w.2.2.1 18 3).toInt ∧ 0 ≤ z.toInt ∧ z.toInt ≤ 8) ⟨rfl, (rg_18_3 hJ)⟩ (fun z_1 hz_1 => ?_)
  refine s_aload_n E dX8_isFull_4 rfl rfl ?_
  refine s_gI E fg_X8_15 rfl rfl (jv_lt hJ (by decide)) dX8_isFull_5 ?_
  refine s_top (y := 8) (z_pt (by decide) (rg_18_1 hJ)) ?_
  refine z_icmp_lt (tgt := 15) (u := z_1.toInt) (v := 8) E dX8_isFull_8 (by decide) rfl (by decide) (fun h_2 => ?_) (fun h_2 => ?_)
  ·
    refine s_iconst (v := 0) E dX8_isFull_15 (by decide) ?_
    exact r_bool E dX8_isFull_16 (Or.inl rfl) ⟨⟨by decide, by decide, by first | (left; decide) | (right; decide) | (right; have hb_ := z32 (w.2.2.1 18 3); omega), by first | (left; decide) | (right; decide) | (right; have hb_ := z32 (w.2.2.1 18 3); omega)⟩, rfl⟩
  ·
    refine s_iconst (v := 1) E dX8_isFull_11 (by decide) ?_
    refine s_goto (tgt := 16) E dX8_isFull_12 (by decide) ?_
    exact r_bool E dX8_isFull_16 (Or.inr rfl) ⟨⟨by decide, by decide, by first | (left; decide) | (right; decide) | (right; have hb_ := z32 (w.2.2.1 18 3); omega), by first | (left; decide) | (right; decide) | (right; have hb_ := z32 (w.2.2.1 18 3); omega)⟩, rfl⟩
set_option maxRecDepth 20000 in
set_option maxHeartbeats 2000000 in
theorem Z_X6_startRow_24_r18 (l : Launch) (D : va_G) (aC : Nat → ClassId) (b : Nat) (w : XW)  (hI : Iv w)  : CnV l D aC b M_X6_startRow 2 42 0 0 [AR 24, AR 18] w (fun u => Jv w u) := by
  refine cn_V (own := RX6) (nm := "startRow") (L0 := [some (AR 24), some (AR 18)]) (by decide +kernel) rfl rfl (Nat.le_of_ble_eq_true rfl) rfl ?_
  intro p e s m args below meth c E hin
  have hJ : Jv w w := jv_rfl hI
  refine s_aload_n E dX6_startRow_0 rfl rfl ?_
  refine s_vI (As := []) (S := []) E (Z_X8_isFull_18 l D aC b w  hJ.1 ) cv_X6_158 rfl rfl rfl (jv_lt hJ (by decide)) (Nat.le_of_ble_eq_true rfl) (Nat.le_of_ble_eq_true rfl) ⟨(Nat.le_of_ble_eq_true rfl), (Nat.le_of_ble_eq_true rfl)⟩ (Nat.le_of_ble_eq_true rfl) dX6_startRow_1 (fun z_3 u_1 hp_2 => ?_)
  obtain ⟨hz_3, hp_2⟩ := hp_2
  subst hp_2
  refine z_if_eq (tgt := 12) (u := z_3.toInt) E dX6_startRow_4 (by decide) rfl (fun h_5 => ?_) (fun h_5 => ?_)
  ·
    refine s_aload_n E dX6_startRow_12 rfl rfl ?_
    refine s_vV (As := []) (S := []) E (Z_X6_nextToken_24 l D aC b w  hJ.1 ) cv_X6_46 rfl rfl rfl (jv_lt hJ (by decide)) (Nat.le_of_ble_eq_true rfl) (Nat.le_of_ble_eq_true rfl) ⟨(Nat.le_of_ble_eq_true rfl), (Nat.le_of_ble_eq_true rfl)⟩ (Nat.le_of_ble_eq_true rfl) dX6_startRow_13 (fun u_6 hp_7 => ?_)
    obtain ⟨hx_hp_7, hp_7⟩ := hp_7
    have hj_8 := jv_trans hJ hp_7
    exact r_void E dX6_startRow_16 hj_8
  ·
    refine s_aload_n E dX6_startRow_7 rfl rfl ?_
    refine s_iconst (v := 3) E dX6_startRow_8 (by decide) ?_
    refine s_vV (As := [AI 3]) (S := []) E (Z_X6_fail_24 l D aC b w 3 hJ.1 (by decide)) cv_X6_85 rfl rfl rfl (jv_lt hJ (by decide)) (Nat.le_of_ble_eq_true rfl) (Nat.le_of_ble_eq_true rfl) ⟨(Nat.le_of_ble_eq_true rfl), (Nat.le_of_ble_eq_true rfl)⟩ (Nat.le_of_ble_eq_true rfl) dX6_startRow_9 (fun u_9 hp_10 => ?_)
    have hc_ : (3 : Int32).toInt = 3 := by decide
    obtain ⟨hx_hp_10, hp_10⟩ := hp_10
    have hj_11 := jv_trans hJ hp_10
    refine s_aload_n E dX6_startRow_12 rfl rfl ?_
    refine s_vV (As := []) (S := []) E (Z_X6_nextToken_24 l D aC b u_9  hj_11.1 ) cv_X6_46 rfl rfl rfl (jv_lt hj_11 (by decide)) (Nat.le_of_ble_eq_true rfl) (Nat.le_of_ble_eq_true rfl) ⟨(Nat.le_of_ble_eq_true rfl), (Nat.le_of_ble_eq_true rfl)⟩ (Nat.le_of_ble_eq_true rfl) dX6_startRow_13 (fun u_12 hp_13 => ?_)
    obtain ⟨hx_hp_13, hp_13⟩ := hp_13
    have hj_14 := jv_trans hj_11 hp_13
    exact r_void E dX6_startRow_16 hj_14
set_option maxRecDepth 20000 in
set_option maxHeartbeats 2000000 in
theorem Z_X8_hasCell_18 (l : Launch) (D : va_G) (aC : Nat → ClassId) (b : Nat) (w : XW) (x1 : Int32) (x2 : Int32) (hI : Iv w)  : CnI l D aC b M_X8_hasCell 0 0 0 0 [AR 18, AI x1, AI x2] w (fun r u => (0 ≤ r.toInt ∧ r.toInt ≤ 1 ∧ (r.toInt = 0 ∨ (0 ≤ x1.toInt ∧ x1.toInt ≤ 7)) ∧ (r.toInt = 0 ∨ (0 ≤ x2.toInt ∧ x2.toInt ≤ 1)) ∧ (r.toInt = 0 ∨ (1 ≤ (w.2.2.1 18 3).toInt ∧ (w.2.2.1 18 3).toInt ≤ 8))) ∧ w = u) := by
  refine cn_I (own := RX8) (nm := "hasCell") (L0 := [some (AR 18), some (AI x1), some (AI x2)]) (by decide +kernel) rfl rfl (Nat.le_of_ble_eq_true rfl) rfl ?_
  intro p e s m args below meth c E hin
  have hJ : Jv w w := jv_rfl hI
  have hb_x1 := z32 x1
  have hb_x2 := z32 x2
  refine s_iload_n E dX8_hasCell_0 rfl rfl ?_
  refine z_if_lt (tgt := 28) (u := x1.toInt) E dX8_hasCell_1 (by decide) rfl (fun h_1 => ?_) (fun h_1 => ?_)
  ·
    refine s_iconst (v := 0) E dX8_hasCell_28 (by decide) ?_
    exact r_bool E dX8_hasCell_29 (Or.inl rfl) ⟨⟨by decide, by decide, by first | (left; decide) | (right; decide) | (right; have hb_ := z32 x1; omega), by first | (left; decide) | (right; decide) | (right; have hb_ := z32 x2; omega), by first | (left; decide) | (right; decide) | (right; have hb_ := z32 (w.2.2.1 18 3); omega)⟩, rfl⟩
  ·
    refine s_iload_n E dX8_hasCell_4 rfl rfl ?_
    refine s_aload_n E dX8_hasCell_5 rfl rfl ?_
    refine s_gI E fg_X8_28 rfl rfl (jv_lt hJ (by decide)) dX8_hasCell_6 ?_
    refine z_nm (P := fun z => z.toInt = (w.2.2.1 18 3).toInt ∧ 0 ≤ z.toInt ∧ z.toInt ≤ 8) ⟨rfl, (rg_18_3 hJ)⟩ (fun z_2 hz_2 => ?_)
    refine z_icmp_ge (tgt := 28) (u := x1.toInt) (v := z_2.toInt) E dX8_hasCell_9 (by decide) rfl rfl (fun h_3 => ?_) (fun h_3 => ?_)
    ·
      refine s_iconst (v := 0) E dX8_hasCell_28 (by decide) ?_
      exact r_bool E dX8_hasCell_29 (Or.inl rfl) ⟨⟨by decide, by decide, by first | (left; decide) | (right; decide) | (right; have hb_ := z32 x1; omega), by first | (left; decide) | (right; decide) | (right; have hb_ := z32 x2; omega), by first | (left; decide) | (right; decide) | (right; have hb_ := z32 (w.2.2.1 18 3); omega)⟩, rfl⟩
    ·
      refine s_iload_n E dX8_hasCell_12 rfl rfl ?_
      refine z_if_lt (tgt := 28) (u := x2.toInt) E dX8_hasCell_13 (by decide) rfl (fun h_4 => ?_) (fun h_4 => ?_)
      ·
        refine s_iconst (v := 0) E dX8_hasCell_28 (by decide) ?_
        exact r_bool E dX8_hasCell_29 (Or.inl rfl) ⟨⟨by decide, by decide, by first | (left; decide) | (right; decide) | (right; have hb_ := z32 x1; omega), by first | (left; decide) | (right; decide) | (right; have hb_ := z32 x2; omega), by first | (left; decide) | (right; decide) | (right; have hb_ := z32 (w.2.2.1 18 3); omega)⟩, rfl⟩
      ·
        refine s_iload_n E dX8_hasCell_16 rfl rfl ?_
        refine s_aload_n E dX8_hasCell_17 rfl rfl ?_
        refine s_gI E fg_X8_21 rfl rfl (jv_lt hJ (by decide)) dX8_hasCell_18 ?_
        refine s_top (y := 2) (z_pt (by decide) (rg_18_2 hJ)) ?_
        refine z_icmp_ge (tgt := 28) (u := x2.toInt) (v := 2) E dX8_hasCell_21 (by decide) rfl (by decide) (fun h_5 => ?_) (fun h_5 => ?_)
        ·
          refine s_iconst (v := 0) E dX8_hasCell_28 (by decide) ?_
          exact r_bool E dX8_hasCell_29 (Or.inl rfl) ⟨⟨by decide, by decide, by first | (left; decide) | (right; decide) | (right; have hb_ := z32 x1; omega), by first | (left; decide) | (right; decide) | (right; have hb_ := z32 x2; omega), by first | (left; decide) | (right; decide) | (right; have hb_ := z32 (w.2.2.1 18 3); omega)⟩, rfl⟩
        ·
          refine s_iconst (v := 1) E dX8_hasCell_24 (by decide) ?_
          refine s_goto (tgt := 29) E dX8_hasCell_25 (by decide) ?_
          exact r_bool E dX8_hasCell_29 (Or.inr rfl) ⟨⟨by decide, by decide, by first | (left; decide) | (right; decide) | (right; have hb_ := z32 x1; omega), by first | (left; decide) | (right; decide) | (right; have hb_ := z32 x2; omega), by first | (left; decide) | (right; decide) | (right; have hb_ := z32 (w.2.2.1 18 3); omega)⟩, rfl⟩
set_option maxRecDepth 20000 in
set_option maxHeartbeats 2000000 in
theorem Z_X8_put_18 (l : Launch) (D : va_G) (aC : Nat → ClassId) (b : Nat) (w : XW) (x1 : Int32) (x2 : Int32) (x3 : Int32) (hI : Iv w)  : CnV l D aC b M_X8_put 1 22 0 0 [AR 18, AI x1, AI x2, AI x3] w (fun u => Jv w u) := by
  refine cn_V (own := RX8) (nm := "put") (L0 := [some (AR 18), some (AI x1), some (AI x2), some (AI x3)]) (by decide +kernel) rfl rfl (Nat.le_of_ble_eq_true rfl) rfl ?_
  intro p e s m args below meth c E hin
  have hJ : Jv w w := jv_rfl hI
  have hb_x1 := z32 x1
  have hb_x2 := z32 x2
  have hb_x3 := z32 x3
  refine s_aload_n E dX8_put_0 rfl rfl ?_
  refine s_iload_n E dX8_put_1 rfl rfl ?_
  refine s_iload_n E dX8_put_2 rfl rfl ?_
  refine s_vI (As := [AI x1, AI x2]) (S := []) E (Z_X8_hasCell_18 l D aC b w x1 x2 hJ.1 ) cv_X8_31 rfl rfl rfl (jv_lt hJ (by decide)) (Nat.le_of_ble_eq_true rfl) (Nat.le_of_ble_eq_true rfl) ⟨(Nat.le_of_ble_eq_true rfl), (Nat.le_of_ble_eq_true rfl)⟩ (Nat.le_of_ble_eq_true rfl) dX8_put_3 (fun z_3 u_1 hp_2 => ?_)
  obtain ⟨hz_3, hp_2⟩ := hp_2
  subst hp_2
  refine z_if_eq (tgt := 23) (u := z_3.toInt) E dX8_put_6 (by decide) rfl (fun h_5 => ?_) (fun h_5 => ?_)
  ·
    exact r_void E dX8_put_23 hJ
  ·
    refine s_aload_n E dX8_put_9 rfl rfl ?_
    refine s_gR (r := 19) E fg_X8_24 rfl rfl (jv_lt hJ (by decide)) (jv_r hJ (by decide +kernel)) dX8_put_10 ?_
    refine s_iload_n E dX8_put_13 rfl rfl ?_
    refine s_aload_n E dX8_put_14 rfl rfl ?_
    refine s_gI E fg_X8_21 rfl rfl (jv_lt hJ (by decide)) dX8_put_15 ?_
    refine s_top (y := 2) (z_pt (by decide) (rg_18_2 hJ)) ?_
    refine z_imul (u := x1.toInt) (v := 2) E dX8_put_18 rfl (by decide) (by omega) (by omega) (fun z_6 hz_6 => ?_)
    refine s_iload_n E dX8_put_19 rfl rfl ?_
    refine z_iadd (u := z_6.toInt) (v := x2.toInt) E dX8_put_20 rfl rfl (by omega) (by omega) (fun z_7 hz_7 => ?_)
    refine s_iload_n E dX8_put_21 rfl rfl ?_
    refine s_iast E rfl (jv_lt hJ (by decide)) (z_in (u := z_7.toInt) rfl (by omega) (by omega)) dX8_put_22 ?_
    refine s_gen (P := fun v => Jv w v ∧ (v.2.2.1 18 3).toInt = (w.2.2.1 18 3).toInt) ⟨(jv_a_19 hJ (by have hb_ := z32 x3; omega) (by have hb_ := z32 x3; omega)), rfl⟩ (fun v_8 hj_9 => ?_)
    obtain ⟨hj_9, hk_10k0⟩ := hj_9
    exact r_void E dX8_put_23 hj_9
set_option maxRecDepth 20000 in
set_option maxHeartbeats 2000000 in
theorem Z_X8_add_18 (l : Launch) (D : va_G) (aC : Nat → ClassId) (b : Nat) (w : XW) (x1 : Int32) (x2 : Int32) (x3 : Int32) (x4 : Int32) (hI : Iv w)  : CnV l D aC b M_X8_add 2 45 0 0 [AR 18, AI x1, AI x2, AI x3, AI x4] w (fun u => Jv w u) := by
  refine cn_V (own := RX8) (nm := "add") (L0 := [some (AR 18), some (AI x1), some (AI x2), some (AI x3), some (AI x4)]) (by decide +kernel) rfl rfl (Nat.le_of_ble_eq_true rfl) rfl ?_
  intro p e s m args below meth c E hin
  have hJ : Jv w w := jv_rfl hI
  have hb_x1 := z32 x1
  have hb_x2 := z32 x2
  have hb_x3 := z32 x3
  have hb_x4 := z32 x4
  refine s_aload_n E dX8_add_0 rfl rfl ?_
  refine s_vI (As := []) (S := []) E (Z_X8_isFull_18 l D aC b w  hJ.1 ) cv_X8_35 rfl rfl rfl (jv_lt hJ (by decide)) (Nat.le_of_ble_eq_true rfl) (Nat.le_of_ble_eq_true rfl) ⟨(Nat.le_of_ble_eq_true rfl), (Nat.le_of_ble_eq_true rfl)⟩ (Nat.le_of_ble_eq_true rfl) dX8_add_1 (fun z_3 u_1 hp_2 => ?_)
  obtain ⟨hz_3, hp_2⟩ := hp_2
  subst hp_2
  refine z_if_eq (tgt := 8) (u := z_3.toInt) E dX8_add_4 (by decide) rfl (fun h_5 => ?_) (fun h_5 => ?_)
  ·
    refine s_aload_n E dX8_add_8 rfl rfl ?_
    refine s_dupR E dX8_add_9 ?_
    refine s_gI E fg_X8_28 rfl rfl (jv_lt hJ (by decide)) dX8_add_10 ?_
    refine z_nm (P := fun z => z.toInt = (w.2.2.1 18 3).toInt ∧ 0 ≤ z.toInt ∧ z.toInt ≤ 8) ⟨rfl, (rg_18_3 hJ)⟩ (fun z_6 hz_6 => ?_)
    refine s_iconst (v := 1) E dX8_add_13 (by decide) ?_
    refine z_iadd (u := z_6.toInt) (v := 1) E dX8_add_14 rfl (by decide) (by omega) (by omega) (fun z_7 hz_7 => ?_)
    refine s_pI E fp_X8_28 (Or.inl rfl) rfl (jv_lt hJ (by decide)) dX8_add_15 ?_
    refine s_gen (P := Jv w) (jv_f_18_3 hJ (by have hb_ := z32 z_7; omega) (by have hb_ := z32 z_7; omega)) (fun v_8 hj_9 => ?_)
    refine s_aload_n E dX8_add_18 rfl rfl ?_
    refine s_aload_n E dX8_add_19 rfl rfl ?_
    refine s_gI E fg_X8_28 rfl rfl (jv_lt hj_9 (by decide)) dX8_add_20 ?_
    refine z_nm (P := fun z => z.toInt = (v_8.2.2.1 18 3).toInt ∧ 0 ≤ z.toInt ∧ z.toInt ≤ 8) ⟨rfl, (rg_18_3 hj_9)⟩ (fun z_10 hz_10 => ?_)
    refine s_iconst (v := 1) E dX8_add_23 (by decide) ?_
    refine z_isub (u := z_10.toInt) (v := 1) E dX8_add_24 rfl (by decide) (by omega) (by omega) (fun z_11 hz_11 => ?_)
    refine s_iconst (v := 0) E dX8_add_25 (by decide) ?_
    refine s_iload_n E dX8_add_26 rfl rfl ?_
    refine s_vV (As := [AI z_11, AI 0, AI x1]) (S := []) E (Z_X8_put_18 l D aC b v_8 z_11 0 x1 hj_9.1 ) cv_X8_39 rfl rfl rfl (jv_lt hj_9 (by decide)) (Nat.le_of_ble_eq_true rfl) (Nat.le_of_ble_eq_true rfl) ⟨(Nat.le_of_ble_eq_true rfl), (Nat.le_of_ble_eq_true rfl)⟩ (Nat.le_of_ble_eq_true rfl) dX8_add_27 (fun u_12 hp_13 => ?_)
    have hj_14 := jv_trans hj_9 hp_13
    refine s_aload_n E dX8_add_30 rfl rfl ?_
    refine s_aload_n E dX8_add_31 rfl rfl ?_
    refine s_gI E fg_X8_28 rfl rfl (jv_lt hj_14 (by decide)) dX8_add_32 ?_
    refine z_nm (P := fun z => z.toInt = (u_12.2.2.1 18 3).toInt ∧ 0 ≤ z.toInt ∧ z.toInt ≤ 8) ⟨rfl, (rg_18_3 hj_14)⟩ (fun z_15 hz_15 => ?_)
    refine s_iconst (v := 1) E dX8_add_35 (by decide) ?_
    refine z_isub (u := z_15.toInt) (v := 1) E dX8_add_36 rfl (by decide) (by omega) (by omega) (fun z_16 hz_16 => ?_)
    refine s_iconst (v := 1) E dX8_add_37 (by decide) ?_
    refine s_iload_n E dX8_add_38 rfl rfl ?_
    refine s_vV (As := [AI z_16, AI 1, AI x2]) (S := []) E (Z_X8_put_18 l D aC b u_12 z_16 1 x2 hj_14.1 ) cv_X8_39 rfl rfl rfl (jv_lt hj_14 (by decide)) (Nat.le_of_ble_eq_true rfl) (Nat.le_of_ble_eq_true rfl) ⟨(Nat.le_of_ble_eq_true rfl), (Nat.le_of_ble_eq_true rfl)⟩ (Nat.le_of_ble_eq_true rfl) dX8_add_39 (fun u_17 hp_18 => ?_)
    have hj_19 := jv_trans hj_14 hp_18
    refine s_aload_n E dX8_add_42 rfl rfl ?_
    refine s_aload_n E dX8_add_43 rfl rfl ?_
    refine s_gI E fg_X8_28 rfl rfl (jv_lt hj_19 (by decide)) dX8_add_44 ?_
    refine z_nm (P := fun z => z.toInt = (u_17.2.2.1 18 3).toInt ∧ 0 ≤ z.toInt ∧ z.toInt ≤ 8) ⟨rfl, (rg_18_3 hj_19)⟩ (fun z_20 hz_20 => ?_)
    refine s_iconst (v := 1) E dX8_add_47 (by decide) ?_
    refine z_isub (u := z_20.toInt) (v := 1) E dX8_add_48 rfl (by decide) (by omega) (by omega) (fun z_21 hz_21 => ?_)
    refine s_iconst (v := 2) E dX8_add_49 (by decide) ?_
    refine s_iload_n E dX8_add_50 rfl rfl ?_
    refine s_vV (As := [AI z_21, AI 2, AI x3]) (S := []) E (Z_X8_put_18 l D aC b u_17 z_21 2 x3 hj_19.1 ) cv_X8_39 rfl rfl rfl (jv_lt hj_19 (by decide)) (Nat.le_of_ble_eq_true rfl) (Nat.le_of_ble_eq_true rfl) ⟨(Nat.le_of_ble_eq_true rfl), (Nat.le_of_ble_eq_true rfl)⟩ (Nat.le_of_ble_eq_true rfl) dX8_add_51 (fun u_22 hp_23 => ?_)
    have hj_24 := jv_trans hj_19 hp_23
    refine s_aload_n E dX8_add_54 rfl rfl ?_
    refine s_aload_n E dX8_add_55 rfl rfl ?_
    refine s_gI E fg_X8_28 rfl rfl (jv_lt hj_24 (by decide)) dX8_add_56 ?_
    refine z_nm (P := fun z => z.toInt = (u_22.2.2.1 18 3).toInt ∧ 0 ≤ z.toInt ∧ z.toInt ≤ 8) ⟨rfl, (rg_18_3 hj_24)⟩ (fun z_25 hz_25 => ?_)
    refine s_iconst (v := 1) E dX8_add_59 (by decide) ?_
    refine z_isub (u := z_25.toInt) (v := 1) E dX8_add_60 rfl (by decide) (by omega) (by omega) (fun z_26 hz_26 => ?_)
    refine s_iconst (v := 3) E dX8_add_61 (by decide) ?_
    refine s_iload E dX8_add_62 rfl ?_
    refine s_vV (As := [AI z_26, AI 3, AI x4]) (S := []) E (Z_X8_put_18 l D aC b u_22 z_26 3 x4 hj_24.1 ) cv_X8_39 rfl rfl rfl (jv_lt hj_24 (by decide)) (Nat.le_of_ble_eq_true rfl) (Nat.le_of_ble_eq_true rfl) ⟨(Nat.le_of_ble_eq_true rfl), (Nat.le_of_ble_eq_true rfl)⟩ (Nat.le_of_ble_eq_true rfl) dX8_add_64 (fun u_27 hp_28 => ?_)
    have hj_29 := jv_trans hj_24 hp_28
    exact r_void E dX8_add_67 hj_29
  ·
    exact r_void E dX8_add_7 hJ
set_option maxRecDepth 20000 in
set_option maxHeartbeats 2000000 in
theorem Z_X6_readMinister_24 (l : Launch) (D : va_G) (aC : Nat → ClassId) (b : Nat) (w : XW)  (hI : Iv w)  : CnV l D aC b M_X6_readMinister 6 243 0 0 [AR 24] w (fun u => Jv w u) := by
  refine cn_V (own := RX6) (nm := "readMinister") (L0 := [some (AR 24), none, none]) (by decide +kernel) rfl rfl (Nat.le_of_ble_eq_true rfl) rfl ?_
  intro p e s m args below meth c E hin
  have hJ : Jv w w := jv_rfl hI
  refine s_aload_n E dX6_readMinister_0 rfl rfl ?_
  refine s_aload_n E dX6_readMinister_1 rfl rfl ?_
  refine s_gR (r := 13) E fg_X6_15 rfl rfl (jv_lt hJ (by decide)) (jv_r hJ (by decide +kernel)) dX6_readMinister_2 ?_
  refine s_gR (r := 18) E fg_X6_143 rfl rfl (jv_lt hJ (by decide)) (jv_r hJ (by decide +kernel)) dX6_readMinister_5 ?_
  refine s_vV (As := [AR 18]) (S := []) E (Z_X6_startRow_24_r18 l D aC b w  hJ.1 ) cv_X6_120 rfl rfl rfl (jv_lt hJ (by decide)) (Nat.le_of_ble_eq_true rfl) (Nat.le_of_ble_eq_true rfl) ⟨(Nat.le_of_ble_eq_true rfl), (Nat.le_of_ble_eq_true rfl)⟩ (Nat.le_of_ble_eq_true rfl) dX6_readMinister_8 (fun u_1 hp_2 => ?_)
  have hj_3 := jv_trans hJ hp_2
  refine s_aload_n E dX6_readMinister_11 rfl rfl ?_
  refine s_ldcS (i := 11) E (by decide) rfl dX6_readMinister_12 ?_
  refine s_vV (As := [AX (sA aC 11)]) (S := []) E (Z_X6_takeWord_24 l D aC b u_1  hj_3.1  11 (by decide)) cv_X6_90 rfl rfl rfl (jv_lt hj_3 (by decide)) (Nat.le_of_ble_eq_true rfl) (Nat.le_of_ble_eq_true rfl) ⟨(Nat.le_of_ble_eq_true rfl), (Nat.le_of_ble_eq_true rfl)⟩ (Nat.le_of_ble_eq_true rfl) dX6_readMinister_14 (fun u_4 hp_5 => ?_)
  have hj_6 := jv_trans hj_3 hp_5
  refine s_aload_n E dX6_readMinister_17 rfl rfl ?_
  refine s_iconst (v := 0) E dX6_readMinister_18 (by decide) ?_
  refine s_aload_n E dX6_readMinister_19 rfl rfl ?_
  refine s_gR (r := 13) E fg_X6_15 rfl rfl (jv_lt hj_6 (by decide)) (jv_r hj_6 (by decide +kernel)) dX6_readMinister_20 ?_
  refine s_gR (r := 16) E fg_X6_138 rfl rfl (jv_lt hj_6 (by decide)) (jv_r hj_6 (by decide +kernel)) dX6_readMinister_23 ?_
  refine s_gI E fg_X6_148 rfl rfl (jv_lt hj_6 (by decide)) dX6_readMinister_26 ?_
  refine z_nm (P := fun z => z.toInt = (u_4.2.2.1 16 3).toInt ∧ 0 ≤ z.toInt ∧ z.toInt ≤ 6) ⟨rfl, (rg_16_3 hj_6)⟩ (fun z_7 hz_7 => ?_)
  refine s_iconst (v := 1) E dX6_readMinister_29 (by decide) ?_
  refine z_isub (u := z_7.toInt) (v := 1) E dX6_readMinister_30 rfl (by decide) (by omega) (by omega) (fun z_8 hz_8 => ?_)
  refine s_vI (As := [AI 0, AI z_8]) (S := []) E (Z_X6_takeNumber_24 l D aC b u_4 0 z_8 hj_6.1 ) cv_X6_96 rfl rfl rfl (jv_lt hj_6 (by decide)) (Nat.le_of_ble_eq_true rfl) (Nat.le_of_ble_eq_true rfl) ⟨(Nat.le_of_ble_eq_true rfl), (Nat.le_of_ble_eq_true rfl)⟩ (Nat.le_of_ble_eq_true rfl) dX6_readMinister_31 (fun z_11 u_9 hp_10 => ?_)
  obtain ⟨hz_11, hxz_11, hp_10⟩ := hp_10
  have hc_ : (0 : Int32).toInt = 0 := by decide
  have hj_12 := jv_trans hj_6 hp_10
  refine s_istore_n (L2 := [some (AR 24), some (AI z_11), none]) E dX6_readMinister_34 rfl (by decide) rfl ?_
  refine s_aload_n E dX6_readMinister_35 rfl rfl ?_
  refine s_ldcS (i := 12) E (by decide) rfl dX6_readMinister_36 ?_
  refine s_vV (As := [AX (sA aC 12)]) (S := []) E (Z_X6_takeWord_24 l D aC b u_9  hj_12.1  12 (by decide)) cv_X6_90 rfl rfl rfl (jv_lt hj_12 (by decide)) (Nat.le_of_ble_eq_true rfl) (Nat.le_of_ble_eq_true rfl) ⟨(Nat.le_of_ble_eq_true rfl), (Nat.le_of_ble_eq_true rfl)⟩ (Nat.le_of_ble_eq_true rfl) dX6_readMinister_38 (fun u_13 hp_14 => ?_)
  have hj_15 := jv_trans hj_12 hp_14
  refine s_aload_n E dX6_readMinister_41 rfl rfl ?_
  refine s_iconst (v := 1) E dX6_readMinister_42 (by decide) ?_
  refine s_bipush (v := 20) E dX6_readMinister_43 (by decide) ?_
  refine s_vI (As := [AI 1, AI 20]) (S := []) E (Z_X6_takeNumber_24 l D aC b u_13 1 20 hj_15.1 ) cv_X6_96 rfl rfl rfl (jv_lt hj_15 (by decide)) (Nat.le_of_ble_eq_true rfl) (Nat.le_of_ble_eq_true rfl) ⟨(Nat.le_of_ble_eq_true rfl), (Nat.le_of_ble_eq_true rfl)⟩ (Nat.le_of_ble_eq_true rfl) dX6_readMinister_45 (fun z_18 u_16 hp_17 => ?_)
  obtain ⟨hz_18, hxz_18, hp_17⟩ := hp_17
  have hc_ : (1 : Int32).toInt = 1 := by decide
  have hc_ : (20 : Int32).toInt = 20 := by decide
  have hj_19 := jv_trans hj_15 hp_17
  refine s_istore_n (L2 := [some (AR 24), some (AI z_11), some (AI z_18)]) E dX6_readMinister_48 rfl (by decide) rfl ?_
  refine s_aload_n E dX6_readMinister_49 rfl rfl ?_
  refine s_vV (As := []) (S := []) E (Z_X6_takeSign_24 l D aC b u_16  hj_19.1 ) cv_X6_113 rfl rfl rfl (jv_lt hj_19 (by decide)) (Nat.le_of_ble_eq_true rfl) (Nat.le_of_ble_eq_true rfl) ⟨(Nat.le_of_ble_eq_true rfl), (Nat.le_of_ble_eq_true rfl)⟩ (Nat.le_of_ble_eq_true rfl) dX6_readMinister_50 (fun u_20 hp_21 => ?_)
  have hj_22 := jv_trans hj_19 hp_21
  refine s_aload_n E dX6_readMinister_53 rfl rfl ?_
  refine s_gI E fg_X6_40 rfl rfl (jv_lt hj_22 (by decide)) dX6_readMinister_54 ?_
  refine z_nm (P := fun z => z.toInt = (u_20.2.2.1 24 6).toInt ∧ 0 ≤ z.toInt ∧ z.toInt ≤ 3) ⟨rfl, (rg_24_6 hj_22)⟩ (fun z_23 hz_23 => ?_)
  refine z_if_ne (tgt := 74) (u := z_23.toInt) E dX6_readMinister_57 (by decide) rfl (fun h_24 => ?_) (fun h_24 => ?_)
  ·
    exact r_void E dX6_readMinister_74 hj_22
  ·
    refine s_aload_n E dX6_readMinister_60 rfl rfl ?_
    refine s_gR (r := 13) E fg_X6_15 rfl rfl (jv_lt hj_22 (by decide)) (jv_r hj_22 (by decide +kernel)) dX6_readMinister_61 ?_
    refine s_gR (r := 18) E fg_X6_143 rfl rfl (jv_lt hj_22 (by decide)) (jv_r hj_22 (by decide +kernel)) dX6_readMinister_64 ?_
    refine s_iload_n E dX6_readMinister_67 rfl rfl ?_
    refine s_iload_n E dX6_readMinister_68 rfl rfl ?_
    refine s_iconst (v := 0) E dX6_readMinister_69 (by decide) ?_
    refine s_iconst (v := 0) E dX6_readMinister_70 (by decide) ?_
    refine s_vV (As := [AI z_11, AI z_18, AI 0, AI 0]) (S := []) E (Z_X8_add_18 l D aC b u_20 z_11 z_18 0 0 hj_22.1 ) cv_X6_132 rfl rfl rfl (jv_lt hj_22 (by decide)) (Nat.le_of_ble_eq_true rfl) (Nat.le_of_ble_eq_true rfl) ⟨(Nat.le_of_ble_eq_true rfl), (Nat.le_of_ble_eq_true rfl)⟩ (Nat.le_of_ble_eq_true rfl) dX6_readMinister_71 (fun u_25 hp_26 => ?_)
    have hj_27 := jv_trans hj_22 hp_26
    exact r_void E dX6_readMinister_74 hj_27
set_option maxRecDepth 20000 in
set_option maxHeartbeats 2000000 in
theorem Z_X8_isFull_16 (l : Launch) (D : va_G) (aC : Nat → ClassId) (b : Nat) (w : XW)  (hI : Iv w)  : CnI l D aC b M_X8_isFull 0 0 0 0 [AR 16] w (fun r u => (0 ≤ r.toInt ∧ r.toInt ≤ 1 ∧ (¬ r.toInt = 0 ∨ (0 ≤ (w.2.2.1 16 3).toInt ∧ (w.2.2.1 16 3).toInt ≤ 5)) ∧ (r.toInt = 0 ∨ (6 ≤ (w.2.2.1 16 3).toInt ∧ (w.2.2.1 16 3).toInt ≤ 6))) ∧ w = u) := by
  refine cn_I (own := RX8) (nm := "isFull") (L0 := [some (AR 16)]) (by decide +kernel) rfl rfl (Nat.le_of_ble_eq_true rfl) rfl ?_
  intro p e s m args below meth c E hin
  have hJ : Jv w w := jv_rfl hI
  refine s_aload_n E dX8_isFull_0 rfl rfl ?_
  refine s_gI E fg_X8_28 rfl rfl (jv_lt hJ (by decide)) dX8_isFull_1 ?_
  refine z_nm (P := fun z => z.toInt = (w.2.2.1 16 3).toInt ∧ 0 ≤ z.toInt ∧ z.toInt ≤ 6) ⟨rfl, (rg_16_3 hJ)⟩ (fun z_1 hz_1 => ?_)
  refine s_aload_n E dX8_isFull_4 rfl rfl ?_
  refine s_gI E fg_X8_15 rfl rfl (jv_lt hJ (by decide)) dX8_isFull_5 ?_
  refine s_top (y := 6) (z_pt (by decide) (rg_16_1 hJ)) ?_
  refine z_icmp_lt (tgt := 15) (u := z_1.toInt) (v := 6) E dX8_isFull_8 (by decide) rfl (by decide) (fun h_2 => ?_) (fun h_2 => ?_)
  ·
    refine s_iconst (v := 0) E dX8_isFull_15 (by decide) ?_
    exact r_bool E dX8_isFull_16 (Or.inl rfl) ⟨⟨by decide, by decide, by first | (left; decide) | (right; decide) | (right; have hb_ := z32 (w.2.2.1 16 3); omega), by first | (left; decide) | (right; decide) | (right; have hb_ := z32 (w.2.2.1 16 3); omega)⟩, rfl⟩
  ·
    refine s_iconst (v := 1) E dX8_isFull_11 (by decide) ?_
    refine s_goto (tgt := 16) E dX8_isFull_12 (by decide) ?_
    exact r_bool E dX8_isFull_16 (Or.inr rfl) ⟨⟨by decide, by decide, by first | (left; decide) | (right; decide) | (right; have hb_ := z32 (w.2.2.1 16 3); omega), by first | (left; decide) | (right; decide) | (right; have hb_ := z32 (w.2.2.1 16 3); omega)⟩, rfl⟩
set_option maxRecDepth 20000 in
set_option maxHeartbeats 2000000 in
theorem Z_X6_startRow_24_r16 (l : Launch) (D : va_G) (aC : Nat → ClassId) (b : Nat) (w : XW)  (hI : Iv w)  : CnV l D aC b M_X6_startRow 2 42 0 0 [AR 24, AR 16] w (fun u => Jv w u) := by
  refine cn_V (own := RX6) (nm := "startRow") (L0 := [some (AR 24), some (AR 16)]) (by decide +kernel) rfl rfl (Nat.le_of_ble_eq_true rfl) rfl ?_
  intro p e s m args below meth c E hin
  have hJ : Jv w w := jv_rfl hI
  refine s_aload_n E dX6_startRow_0 rfl rfl ?_
  refine s_vI (As := []) (S := []) E (Z_X8_isFull_16 l D aC b w  hJ.1 ) cv_X6_158 rfl rfl rfl (jv_lt hJ (by decide)) (Nat.le_of_ble_eq_true rfl) (Nat.le_of_ble_eq_true rfl) ⟨(Nat.le_of_ble_eq_true rfl), (Nat.le_of_ble_eq_true rfl)⟩ (Nat.le_of_ble_eq_true rfl) dX6_startRow_1 (fun z_3 u_1 hp_2 => ?_)
  obtain ⟨hz_3, hp_2⟩ := hp_2
  subst hp_2
  refine z_if_eq (tgt := 12) (u := z_3.toInt) E dX6_startRow_4 (by decide) rfl (fun h_5 => ?_) (fun h_5 => ?_)
  ·
    refine s_aload_n E dX6_startRow_12 rfl rfl ?_
    refine s_vV (As := []) (S := []) E (Z_X6_nextToken_24 l D aC b w  hJ.1 ) cv_X6_46 rfl rfl rfl (jv_lt hJ (by decide)) (Nat.le_of_ble_eq_true rfl) (Nat.le_of_ble_eq_true rfl) ⟨(Nat.le_of_ble_eq_true rfl), (Nat.le_of_ble_eq_true rfl)⟩ (Nat.le_of_ble_eq_true rfl) dX6_startRow_13 (fun u_6 hp_7 => ?_)
    obtain ⟨hx_hp_7, hp_7⟩ := hp_7
    have hj_8 := jv_trans hJ hp_7
    exact r_void E dX6_startRow_16 hj_8
  ·
    refine s_aload_n E dX6_startRow_7 rfl rfl ?_
    refine s_iconst (v := 3) E dX6_startRow_8 (by decide) ?_
    refine s_vV (As := [AI 3]) (S := []) E (Z_X6_fail_24 l D aC b w 3 hJ.1 (by decide)) cv_X6_85 rfl rfl rfl (jv_lt hJ (by decide)) (Nat.le_of_ble_eq_true rfl) (Nat.le_of_ble_eq_true rfl) ⟨(Nat.le_of_ble_eq_true rfl), (Nat.le_of_ble_eq_true rfl)⟩ (Nat.le_of_ble_eq_true rfl) dX6_startRow_9 (fun u_9 hp_10 => ?_)
    have hc_ : (3 : Int32).toInt = 3 := by decide
    obtain ⟨hx_hp_10, hp_10⟩ := hp_10
    have hj_11 := jv_trans hJ hp_10
    refine s_aload_n E dX6_startRow_12 rfl rfl ?_
    refine s_vV (As := []) (S := []) E (Z_X6_nextToken_24 l D aC b u_9  hj_11.1 ) cv_X6_46 rfl rfl rfl (jv_lt hj_11 (by decide)) (Nat.le_of_ble_eq_true rfl) (Nat.le_of_ble_eq_true rfl) ⟨(Nat.le_of_ble_eq_true rfl), (Nat.le_of_ble_eq_true rfl)⟩ (Nat.le_of_ble_eq_true rfl) dX6_startRow_13 (fun u_12 hp_13 => ?_)
    obtain ⟨hx_hp_13, hp_13⟩ := hp_13
    have hj_14 := jv_trans hj_11 hp_13
    exact r_void E dX6_startRow_16 hj_14
set_option maxRecDepth 20000 in
set_option maxHeartbeats 2000000 in
theorem Z_X8_hasCell_16 (l : Launch) (D : va_G) (aC : Nat → ClassId) (b : Nat) (w : XW) (x1 : Int32) (x2 : Int32) (hI : Iv w)  : CnI l D aC b M_X8_hasCell 0 0 0 0 [AR 16, AI x1, AI x2] w (fun r u => (0 ≤ r.toInt ∧ r.toInt ≤ 1 ∧ (r.toInt = 0 ∨ (0 ≤ x1.toInt ∧ x1.toInt ≤ 5)) ∧ (r.toInt = 0 ∨ (0 ≤ x2.toInt ∧ x2.toInt ≤ 1)) ∧ (r.toInt = 0 ∨ (1 ≤ (w.2.2.1 16 3).toInt ∧ (w.2.2.1 16 3).toInt ≤ 6))) ∧ w = u) := by
  refine cn_I (own := RX8) (nm := "hasCell") (L0 := [some (AR 16), some (AI x1), some (AI x2)]) (by decide +kernel) rfl rfl (Nat.le_of_ble_eq_true rfl) rfl ?_
  intro p e s m args below meth c E hin
  have hJ : Jv w w := jv_rfl hI
  have hb_x1 := z32 x1
  have hb_x2 := z32 x2
  refine s_iload_n E dX8_hasCell_0 rfl rfl ?_
  refine z_if_lt (tgt := 28) (u := x1.toInt) E dX8_hasCell_1 (by decide) rfl (fun h_1 => ?_) (fun h_1 => ?_)
  ·
    refine s_iconst (v := 0) E dX8_hasCell_28 (by decide) ?_
    exact r_bool E dX8_hasCell_29 (Or.inl rfl) ⟨⟨by decide, by decide, by first | (left; decide) | (right; decide) | (right; have hb_ := z32 x1; omega), by first | (left; decide) | (right; decide) | (right; have hb_ := z32 x2; omega), by first | (left; decide) | (right; decide) | (right; have hb_ := z32 (w.2.2.1 16 3); omega)⟩, rfl⟩
  ·
    refine s_iload_n E dX8_hasCell_4 rfl rfl ?_
    refine s_aload_n E dX8_hasCell_5 rfl rfl ?_
    refine s_gI E fg_X8_28 rfl rfl (jv_lt hJ (by decide)) dX8_hasCell_6 ?_
    refine z_nm (P := fun z => z.toInt = (w.2.2.1 16 3).toInt ∧ 0 ≤ z.toInt ∧ z.toInt ≤ 6) ⟨rfl, (rg_16_3 hJ)⟩ (fun z_2 hz_2 => ?_)
    refine z_icmp_ge (tgt := 28) (u := x1.toInt) (v := z_2.toInt) E dX8_hasCell_9 (by decide) rfl rfl (fun h_3 => ?_) (fun h_3 => ?_)
    ·
      refine s_iconst (v := 0) E dX8_hasCell_28 (by decide) ?_
      exact r_bool E dX8_hasCell_29 (Or.inl rfl) ⟨⟨by decide, by decide, by first | (left; decide) | (right; decide) | (right; have hb_ := z32 x1; omega), by first | (left; decide) | (right; decide) | (right; have hb_ := z32 x2; omega), by first | (left; decide) | (right; decide) | (right; have hb_ := z32 (w.2.2.1 16 3); omega)⟩, rfl⟩
    ·
      refine s_iload_n E dX8_hasCell_12 rfl rfl ?_
      refine z_if_lt (tgt := 28) (u := x2.toInt) E dX8_hasCell_13 (by decide) rfl (fun h_4 => ?_) (fun h_4 => ?_)
      ·
        refine s_iconst (v := 0) E dX8_hasCell_28 (by decide) ?_
        exact r_bool E dX8_hasCell_29 (Or.inl rfl) ⟨⟨by decide, by decide, by first | (left; decide) | (right; decide) | (right; have hb_ := z32 x1; omega), by first | (left; decide) | (right; decide) | (right; have hb_ := z32 x2; omega), by first | (left; decide) | (right; decide) | (right; have hb_ := z32 (w.2.2.1 16 3); omega)⟩, rfl⟩
      ·
        refine s_iload_n E dX8_hasCell_16 rfl rfl ?_
        refine s_aload_n E dX8_hasCell_17 rfl rfl ?_
        refine s_gI E fg_X8_21 rfl rfl (jv_lt hJ (by decide)) dX8_hasCell_18 ?_
        refine s_top (y := 2) (z_pt (by decide) (rg_16_2 hJ)) ?_
        refine z_icmp_ge (tgt := 28) (u := x2.toInt) (v := 2) E dX8_hasCell_21 (by decide) rfl (by decide) (fun h_5 => ?_) (fun h_5 => ?_)
        ·
          refine s_iconst (v := 0) E dX8_hasCell_28 (by decide) ?_
          exact r_bool E dX8_hasCell_29 (Or.inl rfl) ⟨⟨by decide, by decide, by first | (left; decide) | (right; decide) | (right; have hb_ := z32 x1; omega), by first | (left; decide) | (right; decide) | (right; have hb_ := z32 x2; omega), by first | (left; decide) | (right; decide) | (right; have hb_ := z32 (w.2.2.1 16 3); omega)⟩, rfl⟩
        ·
          refine s_iconst (v := 1) E dX8_hasCell_24 (by decide) ?_
          refine s_goto (tgt := 29) E dX8_hasCell_25 (by decide) ?_
          exact r_bool E dX8_hasCell_29 (Or.inr rfl) ⟨⟨by decide, by decide, by first | (left; decide) | (right; decide) | (right; have hb_ := z32 x1; omega), by first | (left; decide) | (right; decide) | (right; have hb_ := z32 x2; omega), by first | (left; decide) | (right; decide) | (right; have hb_ := z32 (w.2.2.1 16 3); omega)⟩, rfl⟩
set_option maxRecDepth 20000 in
set_option maxHeartbeats 2000000 in
theorem Z_X8_put_16 (l : Launch) (D : va_G) (aC : Nat → ClassId) (b : Nat) (w : XW) (x1 : Int32) (x2 : Int32) (x3 : Int32) (hI : Iv w)  : CnV l D aC b M_X8_put 1 22 0 0 [AR 16, AI x1, AI x2, AI x3] w (fun u => Jv w u) := by
  refine cn_V (own := RX8) (nm := "put") (L0 := [some (AR 16), some (AI x1), some (AI x2), some (AI x3)]) (by decide +kernel) rfl rfl (Nat.le_of_ble_eq_true rfl) rfl ?_
  intro p e s m args below meth c E hin
  have hJ : Jv w w := jv_rfl hI
  have hb_x1 := z32 x1
  have hb_x2 := z32 x2
  have hb_x3 := z32 x3
  refine s_aload_n E dX8_put_0 rfl rfl ?_
  refine s_iload_n E dX8_put_1 rfl rfl ?_
  refine s_iload_n E dX8_put_2 rfl rfl ?_
  refine s_vI (As := [AI x1, AI x2]) (S := []) E (Z_X8_hasCell_16 l D aC b w x1 x2 hJ.1 ) cv_X8_31 rfl rfl rfl (jv_lt hJ (by decide)) (Nat.le_of_ble_eq_true rfl) (Nat.le_of_ble_eq_true rfl) ⟨(Nat.le_of_ble_eq_true rfl), (Nat.le_of_ble_eq_true rfl)⟩ (Nat.le_of_ble_eq_true rfl) dX8_put_3 (fun z_3 u_1 hp_2 => ?_)
  obtain ⟨hz_3, hp_2⟩ := hp_2
  subst hp_2
  refine z_if_eq (tgt := 23) (u := z_3.toInt) E dX8_put_6 (by decide) rfl (fun h_5 => ?_) (fun h_5 => ?_)
  ·
    exact r_void E dX8_put_23 hJ
  ·
    refine s_aload_n E dX8_put_9 rfl rfl ?_
    refine s_gR (r := 17) E fg_X8_24 rfl rfl (jv_lt hJ (by decide)) (jv_r hJ (by decide +kernel)) dX8_put_10 ?_
    refine s_iload_n E dX8_put_13 rfl rfl ?_
    refine s_aload_n E dX8_put_14 rfl rfl ?_
    refine s_gI E fg_X8_21 rfl rfl (jv_lt hJ (by decide)) dX8_put_15 ?_
    refine s_top (y := 2) (z_pt (by decide) (rg_16_2 hJ)) ?_
    refine z_imul (u := x1.toInt) (v := 2) E dX8_put_18 rfl (by decide) (by omega) (by omega) (fun z_6 hz_6 => ?_)
    refine s_iload_n E dX8_put_19 rfl rfl ?_
    refine z_iadd (u := z_6.toInt) (v := x2.toInt) E dX8_put_20 rfl rfl (by omega) (by omega) (fun z_7 hz_7 => ?_)
    refine s_iload_n E dX8_put_21 rfl rfl ?_
    refine s_iast E rfl (jv_lt hJ (by decide)) (z_in (u := z_7.toInt) rfl (by omega) (by omega)) dX8_put_22 ?_
    refine s_gen (P := fun v => Jv w v ∧ (v.2.2.1 16 3).toInt = (w.2.2.1 16 3).toInt) ⟨(jv_a_17 hJ (by have hb_ := z32 x3; omega) (by have hb_ := z32 x3; omega)), rfl⟩ (fun v_8 hj_9 => ?_)
    obtain ⟨hj_9, hk_10k0⟩ := hj_9
    exact r_void E dX8_put_23 hj_9
set_option maxRecDepth 20000 in
set_option maxHeartbeats 2000000 in
theorem Z_X8_add_16 (l : Launch) (D : va_G) (aC : Nat → ClassId) (b : Nat) (w : XW) (x1 : Int32) (x2 : Int32) (x3 : Int32) (x4 : Int32) (hI : Iv w)  : CnV l D aC b M_X8_add 2 45 0 0 [AR 16, AI x1, AI x2, AI x3, AI x4] w (fun u => Jv w u) := by
  refine cn_V (own := RX8) (nm := "add") (L0 := [some (AR 16), some (AI x1), some (AI x2), some (AI x3), some (AI x4)]) (by decide +kernel) rfl rfl (Nat.le_of_ble_eq_true rfl) rfl ?_
  intro p e s m args below meth c E hin
  have hJ : Jv w w := jv_rfl hI
  have hb_x1 := z32 x1
  have hb_x2 := z32 x2
  have hb_x3 := z32 x3
  have hb_x4 := z32 x4
  refine s_aload_n E dX8_add_0 rfl rfl ?_
  refine s_vI (As := []) (S := []) E (Z_X8_isFull_16 l D aC b w  hJ.1 ) cv_X8_35 rfl rfl rfl (jv_lt hJ (by decide)) (Nat.le_of_ble_eq_true rfl) (Nat.le_of_ble_eq_true rfl) ⟨(Nat.le_of_ble_eq_true rfl), (Nat.le_of_ble_eq_true rfl)⟩ (Nat.le_of_ble_eq_true rfl) dX8_add_1 (fun z_3 u_1 hp_2 => ?_)
  obtain ⟨hz_3, hp_2⟩ := hp_2
  subst hp_2
  refine z_if_eq (tgt := 8) (u := z_3.toInt) E dX8_add_4 (by decide) rfl (fun h_5 => ?_) (fun h_5 => ?_)
  ·
    refine s_aload_n E dX8_add_8 rfl rfl ?_
    refine s_dupR E dX8_add_9 ?_
    refine s_gI E fg_X8_28 rfl rfl (jv_lt hJ (by decide)) dX8_add_10 ?_
    refine z_nm (P := fun z => z.toInt = (w.2.2.1 16 3).toInt ∧ 0 ≤ z.toInt ∧ z.toInt ≤ 6) ⟨rfl, (rg_16_3 hJ)⟩ (fun z_6 hz_6 => ?_)
    refine s_iconst (v := 1) E dX8_add_13 (by decide) ?_
    refine z_iadd (u := z_6.toInt) (v := 1) E dX8_add_14 rfl (by decide) (by omega) (by omega) (fun z_7 hz_7 => ?_)
    refine s_pI E fp_X8_28 (Or.inl rfl) rfl (jv_lt hJ (by decide)) dX8_add_15 ?_
    refine s_gen (P := Jv w) (jv_f_16_3 hJ (by have hb_ := z32 z_7; omega) (by have hb_ := z32 z_7; omega)) (fun v_8 hj_9 => ?_)
    refine s_aload_n E dX8_add_18 rfl rfl ?_
    refine s_aload_n E dX8_add_19 rfl rfl ?_
    refine s_gI E fg_X8_28 rfl rfl (jv_lt hj_9 (by decide)) dX8_add_20 ?_
    refine z_nm (P := fun z => z.toInt = (v_8.2.2.1 16 3).toInt ∧ 0 ≤ z.toInt ∧ z.toInt ≤ 6) ⟨rfl, (rg_16_3 hj_9)⟩ (fun z_10 hz_10 => ?_)
    refine s_iconst (v := 1) E dX8_add_23 (by decide) ?_
    refine z_isub (u := z_10.toInt) (v := 1) E dX8_add_24 rfl (by decide) (by omega) (by omega) (fun z_11 hz_11 => ?_)
    refine s_iconst (v := 0) E dX8_add_25 (by decide) ?_
    refine s_iload_n E dX8_add_26 rfl rfl ?_
    refine s_vV (As := [AI z_11, AI 0, AI x1]) (S := []) E (Z_X8_put_16 l D aC b v_8 z_11 0 x1 hj_9.1 ) cv_X8_39 rfl rfl rfl (jv_lt hj_9 (by decide)) (Nat.le_of_ble_eq_true rfl) (Nat.le_of_ble_eq_true rfl) ⟨(Nat.le_of_ble_eq_true rfl), (Nat.le_of_ble_eq_true rfl)⟩ (Nat.le_of_ble_eq_true rfl) dX8_add_27 (fun u_12 hp_13 => ?_)
    have hj_14 := jv_trans hj_9 hp_13
    refine s_aload_n E dX8_add_30 rfl rfl ?_
    refine s_aload_n E dX8_add_31 rfl rfl ?_
    refine s_gI E fg_X8_28 rfl rfl (jv_lt hj_14 (by decide)) dX8_add_32 ?_
    refine z_nm (P := fun z => z.toInt = (u_12.2.2.1 16 3).toInt ∧ 0 ≤ z.toInt ∧ z.toInt ≤ 6) ⟨rfl, (rg_16_3 hj_14)⟩ (fun z_15 hz_15 => ?_)
    refine s_iconst (v := 1) E dX8_add_35 (by decide) ?_
    refine z_isub (u := z_15.toInt) (v := 1) E dX8_add_36 rfl (by decide) (by omega) (by omega) (fun z_16 hz_16 => ?_)
    refine s_iconst (v := 1) E dX8_add_37 (by decide) ?_
    refine s_iload_n E dX8_add_38 rfl rfl ?_
    refine s_vV (As := [AI z_16, AI 1, AI x2]) (S := []) E (Z_X8_put_16 l D aC b u_12 z_16 1 x2 hj_14.1 ) cv_X8_39 rfl rfl rfl (jv_lt hj_14 (by decide)) (Nat.le_of_ble_eq_true rfl) (Nat.le_of_ble_eq_true rfl) ⟨(Nat.le_of_ble_eq_true rfl), (Nat.le_of_ble_eq_true rfl)⟩ (Nat.le_of_ble_eq_true rfl) dX8_add_39 (fun u_17 hp_18 => ?_)
    have hj_19 := jv_trans hj_14 hp_18
    refine s_aload_n E dX8_add_42 rfl rfl ?_
    refine s_aload_n E dX8_add_43 rfl rfl ?_
    refine s_gI E fg_X8_28 rfl rfl (jv_lt hj_19 (by decide)) dX8_add_44 ?_
    refine z_nm (P := fun z => z.toInt = (u_17.2.2.1 16 3).toInt ∧ 0 ≤ z.toInt ∧ z.toInt ≤ 6) ⟨rfl, (rg_16_3 hj_19)⟩ (fun z_20 hz_20 => ?_)
    refine s_iconst (v := 1) E dX8_add_47 (by decide) ?_
    refine z_isub (u := z_20.toInt) (v := 1) E dX8_add_48 rfl (by decide) (by omega) (by omega) (fun z_21 hz_21 => ?_)
    refine s_iconst (v := 2) E dX8_add_49 (by decide) ?_
    refine s_iload_n E dX8_add_50 rfl rfl ?_
    refine s_vV (As := [AI z_21, AI 2, AI x3]) (S := []) E (Z_X8_put_16 l D aC b u_17 z_21 2 x3 hj_19.1 ) cv_X8_39 rfl rfl rfl (jv_lt hj_19 (by decide)) (Nat.le_of_ble_eq_true rfl) (Nat.le_of_ble_eq_true rfl) ⟨(Nat.le_of_ble_eq_true rfl), (Nat.le_of_ble_eq_true rfl)⟩ (Nat.le_of_ble_eq_true rfl) dX8_add_51 (fun u_22 hp_23 => ?_)
    have hj_24 := jv_trans hj_19 hp_23
    refine s_aload_n E dX8_add_54 rfl rfl ?_
    refine s_aload_n E dX8_add_55 rfl rfl ?_
    refine s_gI E fg_X8_28 rfl rfl (jv_lt hj_24 (by decide)) dX8_add_56 ?_
    refine z_nm (P := fun z => z.toInt = (u_22.2.2.1 16 3).toInt ∧ 0 ≤ z.toInt ∧ z.toInt ≤ 6) ⟨rfl, (rg_16_3 hj_24)⟩ (fun z_25 hz_25 => ?_)
    refine s_iconst (v := 1) E dX8_add_59 (by decide) ?_
    refine z_isub (u := z_25.toInt) (v := 1) E dX8_add_60 rfl (by decide) (by omega) (by omega) (fun z_26 hz_26 => ?_)
    refine s_iconst (v := 3) E dX8_add_61 (by decide) ?_
    refine s_iload E dX8_add_62 rfl ?_
    refine s_vV (As := [AI z_26, AI 3, AI x4]) (S := []) E (Z_X8_put_16 l D aC b u_22 z_26 3 x4 hj_24.1 ) cv_X8_39 rfl rfl rfl (jv_lt hj_24 (by decide)) (Nat.le_of_ble_eq_true rfl) (Nat.le_of_ble_eq_true rfl) ⟨(Nat.le_of_ble_eq_true rfl), (Nat.le_of_ble_eq_true rfl)⟩ (Nat.le_of_ble_eq_true rfl) dX8_add_64 (fun u_27 hp_28 => ?_)
    have hj_29 := jv_trans hj_24 hp_28
    exact r_void E dX8_add_67 hj_29
  ·
    exact r_void E dX8_add_7 hJ
set_option maxRecDepth 20000 in
set_option maxHeartbeats 2000000 in
theorem Z_X6_readLady_24 (l : Launch) (D : va_G) (aC : Nat → ClassId) (b : Nat) (w : XW)  (hI : Iv w)  : CnV l D aC b M_X6_readLady 6 243 0 0 [AR 24] w (fun u => Jv w u) := by
  refine cn_V (own := RX6) (nm := "readLady") (L0 := [some (AR 24), none, none]) (by decide +kernel) rfl rfl (Nat.le_of_ble_eq_true rfl) rfl ?_
  intro p e s m args below meth c E hin
  have hJ : Jv w w := jv_rfl hI
  refine s_aload_n E dX6_readLady_0 rfl rfl ?_
  refine s_aload_n E dX6_readLady_1 rfl rfl ?_
  refine s_gR (r := 13) E fg_X6_15 rfl rfl (jv_lt hJ (by decide)) (jv_r hJ (by decide +kernel)) dX6_readLady_2 ?_
  refine s_gR (r := 16) E fg_X6_138 rfl rfl (jv_lt hJ (by decide)) (jv_r hJ (by decide +kernel)) dX6_readLady_5 ?_
  refine s_vV (As := [AR 16]) (S := []) E (Z_X6_startRow_24_r16 l D aC b w  hJ.1 ) cv_X6_120 rfl rfl rfl (jv_lt hJ (by decide)) (Nat.le_of_ble_eq_true rfl) (Nat.le_of_ble_eq_true rfl) ⟨(Nat.le_of_ble_eq_true rfl), (Nat.le_of_ble_eq_true rfl)⟩ (Nat.le_of_ble_eq_true rfl) dX6_readLady_8 (fun u_1 hp_2 => ?_)
  have hj_3 := jv_trans hJ hp_2
  refine s_aload_n E dX6_readLady_11 rfl rfl ?_
  refine s_ldcS (i := 9) E (by decide) rfl dX6_readLady_12 ?_
  refine s_vV (As := [AX (sA aC 9)]) (S := []) E (Z_X6_takeWord_24 l D aC b u_1  hj_3.1  9 (by decide)) cv_X6_90 rfl rfl rfl (jv_lt hj_3 (by decide)) (Nat.le_of_ble_eq_true rfl) (Nat.le_of_ble_eq_true rfl) ⟨(Nat.le_of_ble_eq_true rfl), (Nat.le_of_ble_eq_true rfl)⟩ (Nat.le_of_ble_eq_true rfl) dX6_readLady_14 (fun u_4 hp_5 => ?_)
  have hj_6 := jv_trans hj_3 hp_5
  refine s_aload_n E dX6_readLady_17 rfl rfl ?_
  refine s_iconst (v := 0) E dX6_readLady_18 (by decide) ?_
  refine s_aload_n E dX6_readLady_19 rfl rfl ?_
  refine s_gR (r := 13) E fg_X6_15 rfl rfl (jv_lt hj_6 (by decide)) (jv_r hj_6 (by decide +kernel)) dX6_readLady_20 ?_
  refine s_gI E fg_X6_99 rfl rfl (jv_lt hj_6 (by decide)) dX6_readLady_23 ?_
  refine z_nm (P := fun z => z.toInt = (u_4.2.2.1 13 1).toInt ∧ (-2147483648) ≤ z.toInt ∧ z.toInt ≤ 2147483647) ⟨rfl, z32 _⟩ (fun z_7 hz_7 => ?_)
  refine s_iconst (v := 1) E dX6_readLady_26 (by decide) ?_
  refine s_isub E dX6_readLady_27 ?_
  refine z_nm (P := fun z => (-2147483648) ≤ z.toInt ∧ z.toInt ≤ 2147483647) (z32 _) (fun z_8 hz_8 => ?_)
  refine s_vI (As := [AI 0, AI z_8]) (S := []) E (Z_X6_takeNumber_24 l D aC b u_4 0 z_8 hj_6.1 ) cv_X6_96 rfl rfl rfl (jv_lt hj_6 (by decide)) (Nat.le_of_ble_eq_true rfl) (Nat.le_of_ble_eq_true rfl) ⟨(Nat.le_of_ble_eq_true rfl), (Nat.le_of_ble_eq_true rfl)⟩ (Nat.le_of_ble_eq_true rfl) dX6_readLady_28 (fun z_11 u_9 hp_10 => ?_)
  obtain ⟨hz_11, hxz_11, hp_10⟩ := hp_10
  have hc_ : (0 : Int32).toInt = 0 := by decide
  have hj_12 := jv_trans hj_6 hp_10
  refine s_istore_n (L2 := [some (AR 24), some (AI z_11), none]) E dX6_readLady_31 rfl (by decide) rfl ?_
  refine s_aload_n E dX6_readLady_32 rfl rfl ?_
  refine s_ldcS (i := 7) E (by decide) rfl dX6_readLady_33 ?_
  refine s_vV (As := [AX (sA aC 7)]) (S := []) E (Z_X6_takeWord_24 l D aC b u_9  hj_12.1  7 (by decide)) cv_X6_90 rfl rfl rfl (jv_lt hj_12 (by decide)) (Nat.le_of_ble_eq_true rfl) (Nat.le_of_ble_eq_true rfl) ⟨(Nat.le_of_ble_eq_true rfl), (Nat.le_of_ble_eq_true rfl)⟩ (Nat.le_of_ble_eq_true rfl) dX6_readLady_35 (fun u_13 hp_14 => ?_)
  have hj_15 := jv_trans hj_12 hp_14
  refine s_aload_n E dX6_readLady_38 rfl rfl ?_
  refine s_iconst (v := 1) E dX6_readLady_39 (by decide) ?_
  refine s_bipush (v := 9) E dX6_readLady_40 (by decide) ?_
  refine s_vI (As := [AI 1, AI 9]) (S := []) E (Z_X6_takeNumber_24 l D aC b u_13 1 9 hj_15.1 ) cv_X6_96 rfl rfl rfl (jv_lt hj_15 (by decide)) (Nat.le_of_ble_eq_true rfl) (Nat.le_of_ble_eq_true rfl) ⟨(Nat.le_of_ble_eq_true rfl), (Nat.le_of_ble_eq_true rfl)⟩ (Nat.le_of_ble_eq_true rfl) dX6_readLady_42 (fun z_18 u_16 hp_17 => ?_)
  obtain ⟨hz_18, hxz_18, hp_17⟩ := hp_17
  have hc_ : (1 : Int32).toInt = 1 := by decide
  have hc_ : (9 : Int32).toInt = 9 := by decide
  have hj_19 := jv_trans hj_15 hp_17
  refine s_istore_n (L2 := [some (AR 24), some (AI z_11), some (AI z_18)]) E dX6_readLady_45 rfl (by decide) rfl ?_
  refine s_aload_n E dX6_readLady_46 rfl rfl ?_
  refine s_vV (As := []) (S := []) E (Z_X6_takeSign_24 l D aC b u_16  hj_19.1 ) cv_X6_113 rfl rfl rfl (jv_lt hj_19 (by decide)) (Nat.le_of_ble_eq_true rfl) (Nat.le_of_ble_eq_true rfl) ⟨(Nat.le_of_ble_eq_true rfl), (Nat.le_of_ble_eq_true rfl)⟩ (Nat.le_of_ble_eq_true rfl) dX6_readLady_47 (fun u_20 hp_21 => ?_)
  have hj_22 := jv_trans hj_19 hp_21
  refine s_aload_n E dX6_readLady_50 rfl rfl ?_
  refine s_gI E fg_X6_40 rfl rfl (jv_lt hj_22 (by decide)) dX6_readLady_51 ?_
  refine z_nm (P := fun z => z.toInt = (u_20.2.2.1 24 6).toInt ∧ 0 ≤ z.toInt ∧ z.toInt ≤ 3) ⟨rfl, (rg_24_6 hj_22)⟩ (fun z_23 hz_23 => ?_)
  refine z_if_ne (tgt := 71) (u := z_23.toInt) E dX6_readLady_54 (by decide) rfl (fun h_24 => ?_) (fun h_24 => ?_)
  ·
    exact r_void E dX6_readLady_71 hj_22
  ·
    refine s_aload_n E dX6_readLady_57 rfl rfl ?_
    refine s_gR (r := 13) E fg_X6_15 rfl rfl (jv_lt hj_22 (by decide)) (jv_r hj_22 (by decide +kernel)) dX6_readLady_58 ?_
    refine s_gR (r := 16) E fg_X6_138 rfl rfl (jv_lt hj_22 (by decide)) (jv_r hj_22 (by decide +kernel)) dX6_readLady_61 ?_
    refine s_iload_n E dX6_readLady_64 rfl rfl ?_
    refine s_iload_n E dX6_readLady_65 rfl rfl ?_
    refine s_iconst (v := 0) E dX6_readLady_66 (by decide) ?_
    refine s_iconst (v := 0) E dX6_readLady_67 (by decide) ?_
    refine s_vV (As := [AI z_11, AI z_18, AI 0, AI 0]) (S := []) E (Z_X8_add_16 l D aC b u_20 z_11 z_18 0 0 hj_22.1 ) cv_X6_132 rfl rfl rfl (jv_lt hj_22 (by decide)) (Nat.le_of_ble_eq_true rfl) (Nat.le_of_ble_eq_true rfl) ⟨(Nat.le_of_ble_eq_true rfl), (Nat.le_of_ble_eq_true rfl)⟩ (Nat.le_of_ble_eq_true rfl) dX6_readLady_68 (fun u_25 hp_26 => ?_)
    have hj_27 := jv_trans hj_22 hp_26
    exact r_void E dX6_readLady_71 hj_27
set_option maxRecDepth 20000 in
set_option maxHeartbeats 2000000 in
theorem Z_X8_isFull_14 (l : Launch) (D : va_G) (aC : Nat → ClassId) (b : Nat) (w : XW)  (hI : Iv w)  : CnI l D aC b M_X8_isFull 0 0 0 0 [AR 14] w (fun r u => (0 ≤ r.toInt ∧ r.toInt ≤ 1 ∧ (¬ r.toInt = 0 ∨ (0 ≤ (w.2.2.1 14 3).toInt ∧ (w.2.2.1 14 3).toInt ≤ 11)) ∧ (r.toInt = 0 ∨ (12 ≤ (w.2.2.1 14 3).toInt ∧ (w.2.2.1 14 3).toInt ≤ 12))) ∧ w = u) := by
  refine cn_I (own := RX8) (nm := "isFull") (L0 := [some (AR 14)]) (by decide +kernel) rfl rfl (Nat.le_of_ble_eq_true rfl) rfl ?_
  intro p e s m args below meth c E hin
  have hJ : Jv w w := jv_rfl hI
  refine s_aload_n E dX8_isFull_0 rfl rfl ?_
  refine s_gI E fg_X8_28 rfl rfl (jv_lt hJ (by decide)) dX8_isFull_1 ?_
  refine z_nm (P := fun z => z.toInt = (w.2.2.1 14 3).toInt ∧ 0 ≤ z.toInt ∧ z.toInt ≤ 12) ⟨rfl, (rg_14_3 hJ)⟩ (fun z_1 hz_1 => ?_)
  refine s_aload_n E dX8_isFull_4 rfl rfl ?_
  refine s_gI E fg_X8_15 rfl rfl (jv_lt hJ (by decide)) dX8_isFull_5 ?_
  refine s_top (y := 12) (z_pt (by decide) (rg_14_1 hJ)) ?_
  refine z_icmp_lt (tgt := 15) (u := z_1.toInt) (v := 12) E dX8_isFull_8 (by decide) rfl (by decide) (fun h_2 => ?_) (fun h_2 => ?_)
  ·
    refine s_iconst (v := 0) E dX8_isFull_15 (by decide) ?_
    exact r_bool E dX8_isFull_16 (Or.inl rfl) ⟨⟨by decide, by decide, by first | (left; decide) | (right; decide) | (right; have hb_ := z32 (w.2.2.1 14 3); omega), by first | (left; decide) | (right; decide) | (right; have hb_ := z32 (w.2.2.1 14 3); omega)⟩, rfl⟩
  ·
    refine s_iconst (v := 1) E dX8_isFull_11 (by decide) ?_
    refine s_goto (tgt := 16) E dX8_isFull_12 (by decide) ?_
    exact r_bool E dX8_isFull_16 (Or.inr rfl) ⟨⟨by decide, by decide, by first | (left; decide) | (right; decide) | (right; have hb_ := z32 (w.2.2.1 14 3); omega), by first | (left; decide) | (right; decide) | (right; have hb_ := z32 (w.2.2.1 14 3); omega)⟩, rfl⟩
set_option maxRecDepth 20000 in
set_option maxHeartbeats 2000000 in
theorem Z_X6_startRow_24_r14 (l : Launch) (D : va_G) (aC : Nat → ClassId) (b : Nat) (w : XW)  (hI : Iv w)  : CnV l D aC b M_X6_startRow 2 42 0 0 [AR 24, AR 14] w (fun u => Jv w u) := by
  refine cn_V (own := RX6) (nm := "startRow") (L0 := [some (AR 24), some (AR 14)]) (by decide +kernel) rfl rfl (Nat.le_of_ble_eq_true rfl) rfl ?_
  intro p e s m args below meth c E hin
  have hJ : Jv w w := jv_rfl hI
  refine s_aload_n E dX6_startRow_0 rfl rfl ?_
  refine s_vI (As := []) (S := []) E (Z_X8_isFull_14 l D aC b w  hJ.1 ) cv_X6_158 rfl rfl rfl (jv_lt hJ (by decide)) (Nat.le_of_ble_eq_true rfl) (Nat.le_of_ble_eq_true rfl) ⟨(Nat.le_of_ble_eq_true rfl), (Nat.le_of_ble_eq_true rfl)⟩ (Nat.le_of_ble_eq_true rfl) dX6_startRow_1 (fun z_3 u_1 hp_2 => ?_)
  obtain ⟨hz_3, hp_2⟩ := hp_2
  subst hp_2
  refine z_if_eq (tgt := 12) (u := z_3.toInt) E dX6_startRow_4 (by decide) rfl (fun h_5 => ?_) (fun h_5 => ?_)
  ·
    refine s_aload_n E dX6_startRow_12 rfl rfl ?_
    refine s_vV (As := []) (S := []) E (Z_X6_nextToken_24 l D aC b w  hJ.1 ) cv_X6_46 rfl rfl rfl (jv_lt hJ (by decide)) (Nat.le_of_ble_eq_true rfl) (Nat.le_of_ble_eq_true rfl) ⟨(Nat.le_of_ble_eq_true rfl), (Nat.le_of_ble_eq_true rfl)⟩ (Nat.le_of_ble_eq_true rfl) dX6_startRow_13 (fun u_6 hp_7 => ?_)
    obtain ⟨hx_hp_7, hp_7⟩ := hp_7
    have hj_8 := jv_trans hJ hp_7
    exact r_void E dX6_startRow_16 hj_8
  ·
    refine s_aload_n E dX6_startRow_7 rfl rfl ?_
    refine s_iconst (v := 3) E dX6_startRow_8 (by decide) ?_
    refine s_vV (As := [AI 3]) (S := []) E (Z_X6_fail_24 l D aC b w 3 hJ.1 (by decide)) cv_X6_85 rfl rfl rfl (jv_lt hJ (by decide)) (Nat.le_of_ble_eq_true rfl) (Nat.le_of_ble_eq_true rfl) ⟨(Nat.le_of_ble_eq_true rfl), (Nat.le_of_ble_eq_true rfl)⟩ (Nat.le_of_ble_eq_true rfl) dX6_startRow_9 (fun u_9 hp_10 => ?_)
    have hc_ : (3 : Int32).toInt = 3 := by decide
    obtain ⟨hx_hp_10, hp_10⟩ := hp_10
    have hj_11 := jv_trans hJ hp_10
    refine s_aload_n E dX6_startRow_12 rfl rfl ?_
    refine s_vV (As := []) (S := []) E (Z_X6_nextToken_24 l D aC b u_9  hj_11.1 ) cv_X6_46 rfl rfl rfl (jv_lt hj_11 (by decide)) (Nat.le_of_ble_eq_true rfl) (Nat.le_of_ble_eq_true rfl) ⟨(Nat.le_of_ble_eq_true rfl), (Nat.le_of_ble_eq_true rfl)⟩ (Nat.le_of_ble_eq_true rfl) dX6_startRow_13 (fun u_12 hp_13 => ?_)
    obtain ⟨hx_hp_13, hp_13⟩ := hp_13
    have hj_14 := jv_trans hj_11 hp_13
    exact r_void E dX6_startRow_16 hj_14
set_option maxRecDepth 20000 in
set_option maxHeartbeats 2000000 in
theorem Z_X8_hasCell_14 (l : Launch) (D : va_G) (aC : Nat → ClassId) (b : Nat) (w : XW) (x1 : Int32) (x2 : Int32) (hI : Iv w)  : CnI l D aC b M_X8_hasCell 0 0 0 0 [AR 14, AI x1, AI x2] w (fun r u => (0 ≤ r.toInt ∧ r.toInt ≤ 1 ∧ (r.toInt = 0 ∨ (0 ≤ x1.toInt ∧ x1.toInt ≤ 11)) ∧ (r.toInt = 0 ∨ (0 ≤ x2.toInt ∧ x2.toInt ≤ 2)) ∧ (r.toInt = 0 ∨ (1 ≤ (w.2.2.1 14 3).toInt ∧ (w.2.2.1 14 3).toInt ≤ 12))) ∧ w = u) := by
  refine cn_I (own := RX8) (nm := "hasCell") (L0 := [some (AR 14), some (AI x1), some (AI x2)]) (by decide +kernel) rfl rfl (Nat.le_of_ble_eq_true rfl) rfl ?_
  intro p e s m args below meth c E hin
  have hJ : Jv w w := jv_rfl hI
  have hb_x1 := z32 x1
  have hb_x2 := z32 x2
  refine s_iload_n E dX8_hasCell_0 rfl rfl ?_
  refine z_if_lt (tgt := 28) (u := x1.toInt) E dX8_hasCell_1 (by decide) rfl (fun h_1 => ?_) (fun h_1 => ?_)
  ·
    refine s_iconst (v := 0) E dX8_hasCell_28 (by decide) ?_
    exact r_bool E dX8_hasCell_29 (Or.inl rfl) ⟨⟨by decide, by decide, by first | (left; decide) | (right; decide) | (right; have hb_ := z32 x1; omega), by first | (left; decide) | (right; decide) | (right; have hb_ := z32 x2; omega), by first | (left; decide) | (right; decide) | (right; have hb_ := z32 (w.2.2.1 14 3); omega)⟩, rfl⟩
  ·
    refine s_iload_n E dX8_hasCell_4 rfl rfl ?_
    refine s_aload_n E dX8_hasCell_5 rfl rfl ?_
    refine s_gI E fg_X8_28 rfl rfl (jv_lt hJ (by decide)) dX8_hasCell_6 ?_
    refine z_nm (P := fun z => z.toInt = (w.2.2.1 14 3).toInt ∧ 0 ≤ z.toInt ∧ z.toInt ≤ 12) ⟨rfl, (rg_14_3 hJ)⟩ (fun z_2 hz_2 => ?_)
    refine z_icmp_ge (tgt := 28) (u := x1.toInt) (v := z_2.toInt) E dX8_hasCell_9 (by decide) rfl rfl (fun h_3 => ?_) (fun h_3 => ?_)
    ·
      refine s_iconst (v := 0) E dX8_hasCell_28 (by decide) ?_
      exact r_bool E dX8_hasCell_29 (Or.inl rfl) ⟨⟨by decide, by decide, by first | (left; decide) | (right; decide) | (right; have hb_ := z32 x1; omega), by first | (left; decide) | (right; decide) | (right; have hb_ := z32 x2; omega), by first | (left; decide) | (right; decide) | (right; have hb_ := z32 (w.2.2.1 14 3); omega)⟩, rfl⟩
    ·
      refine s_iload_n E dX8_hasCell_12 rfl rfl ?_
      refine z_if_lt (tgt := 28) (u := x2.toInt) E dX8_hasCell_13 (by decide) rfl (fun h_4 => ?_) (fun h_4 => ?_)
      ·
        refine s_iconst (v := 0) E dX8_hasCell_28 (by decide) ?_
        exact r_bool E dX8_hasCell_29 (Or.inl rfl) ⟨⟨by decide, by decide, by first | (left; decide) | (right; decide) | (right; have hb_ := z32 x1; omega), by first | (left; decide) | (right; decide) | (right; have hb_ := z32 x2; omega), by first | (left; decide) | (right; decide) | (right; have hb_ := z32 (w.2.2.1 14 3); omega)⟩, rfl⟩
      ·
        refine s_iload_n E dX8_hasCell_16 rfl rfl ?_
        refine s_aload_n E dX8_hasCell_17 rfl rfl ?_
        refine s_gI E fg_X8_21 rfl rfl (jv_lt hJ (by decide)) dX8_hasCell_18 ?_
        refine s_top (y := 3) (z_pt (by decide) (rg_14_2 hJ)) ?_
        refine z_icmp_ge (tgt := 28) (u := x2.toInt) (v := 3) E dX8_hasCell_21 (by decide) rfl (by decide) (fun h_5 => ?_) (fun h_5 => ?_)
        ·
          refine s_iconst (v := 0) E dX8_hasCell_28 (by decide) ?_
          exact r_bool E dX8_hasCell_29 (Or.inl rfl) ⟨⟨by decide, by decide, by first | (left; decide) | (right; decide) | (right; have hb_ := z32 x1; omega), by first | (left; decide) | (right; decide) | (right; have hb_ := z32 x2; omega), by first | (left; decide) | (right; decide) | (right; have hb_ := z32 (w.2.2.1 14 3); omega)⟩, rfl⟩
        ·
          refine s_iconst (v := 1) E dX8_hasCell_24 (by decide) ?_
          refine s_goto (tgt := 29) E dX8_hasCell_25 (by decide) ?_
          exact r_bool E dX8_hasCell_29 (Or.inr rfl) ⟨⟨by decide, by decide, by first | (left; decide) | (right; decide) | (right; have hb_ := z32 x1; omega), by first | (left; decide) | (right; decide) | (right; have hb_ := z32 x2; omega), by first | (left; decide) | (right; decide) | (right; have hb_ := z32 (w.2.2.1 14 3); omega)⟩, rfl⟩
