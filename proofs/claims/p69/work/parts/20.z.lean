set_option maxRecDepth 20000 in
set_option maxHeartbeats 2000000 in
theorem Z_X9_appendFour_0 (l : Launch) (D : va_G) (aC : Nat → ClassId) (b : Nat) (w : XW) (x1 : Int32) (hI : Iv w)  : CnV l D aC b M_X9_appendFour 0 0 0 0 [AR 0, AI x1] w (fun u => Jv w u) := by
  refine cn_V (own := RX9) (nm := "appendFour") (L0 := [some (AR 0), some (AI x1), none]) (by decide +kernel) rfl rfl (Nat.le_of_ble_eq_true rfl) rfl ?_
  intro p e s m args below meth c E hin
  have hJ : Jv w w := jv_rfl hI
  refine s_bipush (v := 24) E dX9_appendFour_0 (by decide) ?_
  refine s_istore_n (L2 := [some (AR 0), some (AI x1), some (AI 24)]) E dX9_appendFour_2 rfl (by decide) rfl ?_
  refine z_loop (St := Int32) (Pi := fun q3_2_0 v3 => ((-8) ≤ q3_2_0.toInt ∧ q3_2_0.toInt ≤ 24) ∧ Jv w v3) (Lf := fun q3_2_0 => [some (AR 0), some (AI x1), some (AI q3_2_0)]) (fun q3_2_0 _ => (q3_2_0.toInt - (-8)).toNat) 24 ⟨⟨by decide, by decide⟩, hJ⟩ ?_
  rintro q3_2_0 v3 ⟨hq3_2, hj_1⟩ ih3
  refine s_loc (L2 := [some (AR 0), some (AI x1), some (AI q3_2_0)]) rfl ?_
  refine s_iload_n E dX9_appendFour_3 rfl rfl ?_
  refine z_if_lt (tgt := 55) (u := q3_2_0.toInt) E dX9_appendFour_4 (by decide) rfl (fun h_2 => ?_) (fun h_2 => ?_)
  ·
    exact r_void E dX9_appendFour_55 hj_1
  ·
    refine s_aload_n E dX9_appendFour_7 rfl rfl ?_
    refine s_gI E fg_X9_13 rfl rfl (jv_lt hj_1 (by decide)) dX9_appendFour_8 ?_
    refine z_nm (P := fun z => z.toInt = (v3.2.2.1 0 1).toInt ∧ 0 ≤ z.toInt ∧ z.toInt ≤ 1000) ⟨rfl, (rg_0_1 hj_1)⟩ (fun z_3 hz_3 => ?_)
    refine z_if_lt (tgt := 49) (u := z_3.toInt) E dX9_appendFour_11 (by decide) rfl (fun h_4 => absurd h_4 (by omega)) (fun h_4 => ?_)
    refine s_aload_n E dX9_appendFour_14 rfl rfl ?_
    refine s_gI E fg_X9_13 rfl rfl (jv_lt hj_1 (by decide)) dX9_appendFour_15 ?_
    refine z_nm (P := fun z => z.toInt = (v3.2.2.1 0 1).toInt ∧ 0 ≤ z.toInt ∧ z.toInt ≤ 1000) ⟨rfl, (rg_0_1 hj_1)⟩ (fun z_5 hz_5 => ?_)
    refine s_aload_n E dX9_appendFour_18 rfl rfl ?_
    refine s_gR (r := 1) E fg_X9_9 rfl rfl (jv_lt hj_1 (by decide)) (jv_r hj_1 (by decide +kernel)) dX9_appendFour_19 ?_
    refine s_alen (v := 1000) E rfl (by decide) (jv_lt hj_1 (by decide)) (by decide) dX9_appendFour_22 ?_
    refine z_icmp_ge (tgt := 49) (u := z_5.toInt) (v := 1000) E dX9_appendFour_23 (by decide) rfl (by decide) (fun h_6 => ?_) (fun h_6 => ?_)
    ·
      refine z_iinc (u := q3_2_0.toInt) (L2 := fun z_7 => [some (AR 0), some (AI x1), some (AI z_7)]) E dX9_appendFour_49 rfl rfl (by decide) (fun _ => rfl) (by decide) (by omega) (by omega) (fun z_7 hz_7 => ?_)
      refine s_goto (tgt := 3) E dX9_appendFour_52 (by decide) ?_
      exact ih3 z_7 v3 ⟨⟨by have hb_ := z32 z_7; omega, by have hb_ := z32 z_7; omega⟩, hj_1⟩ (by first | omega | (dsimp only; omega))
    ·
      refine s_aload_n E dX9_appendFour_26 rfl rfl ?_
      refine s_gR (r := 1) E fg_X9_9 rfl rfl (jv_lt hj_1 (by decide)) (jv_r hj_1 (by decide +kernel)) dX9_appendFour_27 ?_
      refine s_aload_n E dX9_appendFour_30 rfl rfl ?_
      refine s_gI E fg_X9_13 rfl rfl (jv_lt hj_1 (by decide)) dX9_appendFour_31 ?_
      refine z_nm (P := fun z => z.toInt = (v3.2.2.1 0 1).toInt ∧ 0 ≤ z.toInt ∧ z.toInt ≤ 1000) ⟨rfl, (rg_0_1 hj_1)⟩ (fun z_8 hz_8 => ?_)
      refine s_iload_n E dX9_appendFour_34 rfl rfl ?_
      refine s_iload_n E dX9_appendFour_35 rfl rfl ?_
      refine s_iushr E dX9_appendFour_36 ?_
      refine z_any (fun z_9 => ?_)
      refine s_i2b E dX9_appendFour_37 ?_
      refine z_any (fun z_10 => ?_)
      refine s_bast E rfl (jv_lt hj_1 (by decide)) (z_in (u := z_8.toInt) rfl (by omega) (by omega)) dX9_appendFour_38 ?_
      refine s_gen (P := fun v => Jv w v ∧ (v.2.2.1 0 1).toInt = (v3.2.2.1 0 1).toInt) ⟨(jv_b_1 hj_1), rfl⟩ (fun v_11 hj_12 => ?_)
      obtain ⟨hj_12, hk_13⟩ := hj_12
      refine s_aload_n E dX9_appendFour_39 rfl rfl ?_
      refine s_dupR E dX9_appendFour_40 ?_
      refine s_gI E fg_X9_13 rfl rfl (jv_lt hj_12 (by decide)) dX9_appendFour_41 ?_
      refine z_nm (P := fun z => z.toInt = (v_11.2.2.1 0 1).toInt ∧ 0 ≤ z.toInt ∧ z.toInt ≤ 1000) ⟨rfl, (rg_0_1 hj_12)⟩ (fun z_14 hz_14 => ?_)
      refine s_iconst (v := 1) E dX9_appendFour_44 (by decide) ?_
      refine z_iadd (u := z_14.toInt) (v := 1) E dX9_appendFour_45 rfl (by decide) (by omega) (by omega) (fun z_15 hz_15 => ?_)
      refine s_pI E fp_X9_13 (Or.inl rfl) rfl (jv_lt hj_12 (by decide)) dX9_appendFour_46 ?_
      refine s_gen (P := Jv w) (jv_f_0_1 hj_12 (by have hb_ := z32 z_15; omega) (by have hb_ := z32 z_15; omega)) (fun v_16 hj_17 => ?_)
      refine z_iinc (u := q3_2_0.toInt) (L2 := fun z_18 => [some (AR 0), some (AI x1), some (AI z_18)]) E dX9_appendFour_49 rfl rfl (by decide) (fun _ => rfl) (by decide) (by omega) (by omega) (fun z_18 hz_18 => ?_)
      refine s_goto (tgt := 3) E dX9_appendFour_52 (by decide) ?_
      exact ih3 z_18 v_16 ⟨⟨by have hb_ := z32 z_18; omega, by have hb_ := z32 z_18; omega⟩, hj_17⟩ (by first | omega | (dsimp only; omega))
set_option maxRecDepth 20000 in
set_option maxHeartbeats 2000000 in
theorem Z_X9_feed_0 (l : Launch) (D : va_G) (aC : Nat → ClassId) (b : Nat) (w : XW) (x1 : Int32) (x2 : Int32) (x3 : Int32) (x4 : Int32) (x5 : Int32) (hI : Iv w)  : CnI l D aC b M_X9_feed 1 22 0 0 [AR 0, AI x1, AI x2, AI x3, AI x4, AI x5] w (fun r u => ((-1) ≤ r.toInt ∧ r.toInt ≤ 1000 ∧ (¬ r.toInt = 0 ∨ (0 ≤ (w.2.2.1 0 1).toInt ∧ (w.2.2.1 0 1).toInt ≤ 980))) ∧ Jv w u) := by
  refine cn_I (own := RX9) (nm := "feed") (L0 := [some (AR 0), some (AI x1), some (AI x2), some (AI x3), some (AI x4), some (AI x5)]) (by decide +kernel) rfl rfl (Nat.le_of_ble_eq_true rfl) rfl ?_
  intro p e s m args below meth c E hin
  have hJ : Jv w w := jv_rfl hI
  refine s_aload_n E dX9_feed_0 rfl rfl ?_
  refine s_gI E fg_X9_13 rfl rfl (jv_lt hJ (by decide)) dX9_feed_1 ?_
  refine z_nm (P := fun z => z.toInt = (w.2.2.1 0 1).toInt ∧ 0 ≤ z.toInt ∧ z.toInt ≤ 1000) ⟨rfl, (rg_0_1 hJ)⟩ (fun z_1 hz_1 => ?_)
  refine s_sipush (v := 980) E dX9_feed_4 (by decide) ?_
  refine z_icmp_le (tgt := 12) (u := z_1.toInt) (v := 980) E dX9_feed_7 (by decide) rfl (by decide) (fun h_2 => ?_) (fun h_2 => ?_)
  ·
    refine s_aload_n E dX9_feed_12 rfl rfl ?_
    refine s_iload_n E dX9_feed_13 rfl rfl ?_
    refine s_vV (As := [AI x1]) (S := []) E (Z_X9_appendFour_0 l D aC b w x1 hJ.1 ) cv_X9_93 rfl rfl rfl (jv_lt hJ (by decide)) (Nat.le_of_ble_eq_true rfl) (Nat.le_of_ble_eq_true rfl) ⟨(Nat.le_of_ble_eq_true rfl), (Nat.le_of_ble_eq_true rfl)⟩ (Nat.le_of_ble_eq_true rfl) dX9_feed_14 (fun u_3 hp_4 => ?_)
    have hj_5 := jv_trans hJ hp_4
    refine s_aload_n E dX9_feed_17 rfl rfl ?_
    refine s_iload_n E dX9_feed_18 rfl rfl ?_
    refine s_vV (As := [AI x2]) (S := []) E (Z_X9_appendFour_0 l D aC b u_3 x2 hj_5.1 ) cv_X9_93 rfl rfl rfl (jv_lt hj_5 (by decide)) (Nat.le_of_ble_eq_true rfl) (Nat.le_of_ble_eq_true rfl) ⟨(Nat.le_of_ble_eq_true rfl), (Nat.le_of_ble_eq_true rfl)⟩ (Nat.le_of_ble_eq_true rfl) dX9_feed_19 (fun u_6 hp_7 => ?_)
    have hj_8 := jv_trans hj_5 hp_7
    refine s_aload_n E dX9_feed_22 rfl rfl ?_
    refine s_iload_n E dX9_feed_23 rfl rfl ?_
    refine s_vV (As := [AI x3]) (S := []) E (Z_X9_appendFour_0 l D aC b u_6 x3 hj_8.1 ) cv_X9_93 rfl rfl rfl (jv_lt hj_8 (by decide)) (Nat.le_of_ble_eq_true rfl) (Nat.le_of_ble_eq_true rfl) ⟨(Nat.le_of_ble_eq_true rfl), (Nat.le_of_ble_eq_true rfl)⟩ (Nat.le_of_ble_eq_true rfl) dX9_feed_24 (fun u_9 hp_10 => ?_)
    have hj_11 := jv_trans hj_8 hp_10
    refine s_aload_n E dX9_feed_27 rfl rfl ?_
    refine s_iload E dX9_feed_28 rfl ?_
    refine s_vV (As := [AI x4]) (S := []) E (Z_X9_appendFour_0 l D aC b u_9 x4 hj_11.1 ) cv_X9_93 rfl rfl rfl (jv_lt hj_11 (by decide)) (Nat.le_of_ble_eq_true rfl) (Nat.le_of_ble_eq_true rfl) ⟨(Nat.le_of_ble_eq_true rfl), (Nat.le_of_ble_eq_true rfl)⟩ (Nat.le_of_ble_eq_true rfl) dX9_feed_30 (fun u_12 hp_13 => ?_)
    have hj_14 := jv_trans hj_11 hp_13
    refine s_aload_n E dX9_feed_33 rfl rfl ?_
    refine s_iload E dX9_feed_34 rfl ?_
    refine s_vV (As := [AI x5]) (S := []) E (Z_X9_appendFour_0 l D aC b u_12 x5 hj_14.1 ) cv_X9_93 rfl rfl rfl (jv_lt hj_14 (by decide)) (Nat.le_of_ble_eq_true rfl) (Nat.le_of_ble_eq_true rfl) ⟨(Nat.le_of_ble_eq_true rfl), (Nat.le_of_ble_eq_true rfl)⟩ (Nat.le_of_ble_eq_true rfl) dX9_feed_36 (fun u_15 hp_16 => ?_)
    have hj_17 := jv_trans hj_14 hp_16
    refine s_aload_n E dX9_feed_39 rfl rfl ?_
    refine s_gI E fg_X9_13 rfl rfl (jv_lt hj_17 (by decide)) dX9_feed_40 ?_
    refine z_nm (P := fun z => z.toInt = (u_15.2.2.1 0 1).toInt ∧ 0 ≤ z.toInt ∧ z.toInt ≤ 1000) ⟨rfl, (rg_0_1 hj_17)⟩ (fun z_18 hz_18 => ?_)
    exact r_int E dX9_feed_43 ⟨⟨by have hb_ := z32 z_18; omega, by have hb_ := z32 z_18; omega, by have hb_ := z32 z_18; have hc_ := z32 (w.2.2.1 0 1); omega⟩, hj_17⟩
  ·
    refine s_iconst (v := (-1)) E dX9_feed_10 (by decide) ?_
    exact r_int E dX9_feed_11 ⟨⟨by decide, by decide, by first | (left; decide) | (right; have hb_ := z32 (w.2.2.1 0 1); omega)⟩, hJ⟩
set_option maxRecDepth 20000 in
set_option maxHeartbeats 2000000 in
theorem Z_X9_end_0 (l : Launch) (D : va_G) (aC : Nat → ClassId) (b : Nat) (w : XW) (x1 : Int32) (hI : Iv w)  : CnI l D aC b M_X9_end 0 0 0 0 [AR 0, AI x1] w (fun r u => ((-1) ≤ r.toInt ∧ r.toInt ≤ 1000 ∧ (¬ r.toInt = 0 ∨ (0 ≤ x1.toInt ∧ x1.toInt ≤ 1000))) ∧ Jv w u) := by
  refine cn_I (own := RX9) (nm := "end") (L0 := [some (AR 0), some (AI x1)]) (by decide +kernel) rfl rfl (Nat.le_of_ble_eq_true rfl) rfl ?_
  intro p e s m args below meth c E hin
  have hJ : Jv w w := jv_rfl hI
  refine s_iload_n E dX9_end_0 rfl rfl ?_
  refine z_if_lt (tgt := 12) (u := x1.toInt) E dX9_end_1 (by decide) rfl (fun h_1 => ?_) (fun h_1 => ?_)
  ·
    refine s_iconst (v := (-1)) E dX9_end_12 (by decide) ?_
    exact r_int E dX9_end_13 ⟨⟨by decide, by decide, by first | (left; decide) | (right; have hb_ := z32 x1; omega)⟩, hJ⟩
  ·
    refine s_iload_n E dX9_end_4 rfl rfl ?_
    refine s_aload_n E dX9_end_5 rfl rfl ?_
    refine s_gI E fg_X9_13 rfl rfl (jv_lt hJ (by decide)) dX9_end_6 ?_
    refine z_nm (P := fun z => z.toInt = (w.2.2.1 0 1).toInt ∧ 0 ≤ z.toInt ∧ z.toInt ≤ 1000) ⟨rfl, (rg_0_1 hJ)⟩ (fun z_2 hz_2 => ?_)
    refine z_icmp_le (tgt := 14) (u := x1.toInt) (v := z_2.toInt) E dX9_end_9 (by decide) rfl rfl (fun h_3 => ?_) (fun h_3 => ?_)
    ·
      refine s_aload_n E dX9_end_14 rfl rfl ?_
      refine s_iload_n E dX9_end_15 rfl rfl ?_
      refine s_pI E fp_X9_13 (Or.inl rfl) rfl (jv_lt hJ (by decide)) dX9_end_16 ?_
      refine s_gen (P := Jv w) (jv_f_0_1 hJ (by have hb_ := z32 x1; omega) (by have hb_ := z32 x1; omega)) (fun v_4 hj_5 => ?_)
      refine s_iload_n E dX9_end_19 rfl rfl ?_
      exact r_int E dX9_end_20 ⟨⟨by have hb_ := z32 x1; omega, by have hb_ := z32 x1; omega, by have hb_ := z32 x1; have hc_ := z32 x1; omega⟩, hj_5⟩
    ·
      refine s_iconst (v := (-1)) E dX9_end_12 (by decide) ?_
      exact r_int E dX9_end_13 ⟨⟨by decide, by decide, by first | (left; decide) | (right; have hb_ := z32 x1; omega)⟩, hJ⟩
set_option maxRecDepth 20000 in
set_option maxHeartbeats 2000000 in
theorem Z_X9_fault_0 (l : Launch) (D : va_G) (aC : Nat → ClassId) (b : Nat) (w : XW) (x1 : Int32) (hI : Iv w)  : CnI l D aC b M_X9_fault 0 0 0 0 [AR 0, AI x1] w (fun r u => ((-2147483648) ≤ r.toInt ∧ r.toInt ≤ 2147483647 ∧ (¬ r.toInt = 0 ∨ (0 ≤ x1.toInt ∧ x1.toInt ≤ 1))) ∧ w = u) := by
  refine cn_I (own := RX9) (nm := "fault") (L0 := [some (AR 0), some (AI x1)]) (by decide +kernel) rfl rfl (Nat.le_of_ble_eq_true rfl) rfl ?_
  intro p e s m args below meth c E hin
  have hJ : Jv w w := jv_rfl hI
  refine s_iload_n E dX9_fault_0 rfl rfl ?_
  refine z_if_ne (tgt := 12) (u := x1.toInt) E dX9_fault_1 (by decide) rfl (fun h_1 => ?_) (fun h_1 => ?_)
  ·
    refine s_iload_n E dX9_fault_12 rfl rfl ?_
    refine s_iconst (v := 1) E dX9_fault_13 (by decide) ?_
    refine z_icmp_ne (tgt := 27) (u := x1.toInt) (v := 1) E dX9_fault_14 (by decide) rfl (by decide) (fun h_2 => ?_) (fun h_2 => ?_)
    ·
      refine s_iconst (v := (-1)) E dX9_fault_27 (by decide) ?_
      exact r_int E dX9_fault_28 ⟨⟨by decide, by decide, by first | (left; decide) | (right; have hb_ := z32 x1; omega)⟩, rfl⟩
    ·
      refine s_aload_n E dX9_fault_17 rfl rfl ?_
      refine s_gR (r := 24) E fg_X9_32 rfl rfl (jv_lt hJ (by decide)) (jv_r hJ (by decide +kernel)) dX9_fault_18 ?_
      refine s_gI E fg_X9_113 rfl rfl (jv_lt hJ (by decide)) dX9_fault_21 ?_
      refine z_nm (P := fun z => z.toInt = (w.2.2.1 24 7).toInt) rfl (fun z_3 hz_3 => ?_)
      refine s_goto (tgt := 28) E dX9_fault_24 (by decide) ?_
      exact r_int E dX9_fault_28 ⟨⟨by have hb_ := z32 z_3; omega, by have hb_ := z32 z_3; omega, by have hb_ := z32 z_3; have hc_ := z32 x1; omega⟩, rfl⟩
  ·
    refine s_aload_n E dX9_fault_4 rfl rfl ?_
    refine s_gR (r := 24) E fg_X9_32 rfl rfl (jv_lt hJ (by decide)) (jv_r hJ (by decide +kernel)) dX9_fault_5 ?_
    refine s_gI E fg_X9_100 rfl rfl (jv_lt hJ (by decide)) dX9_fault_8 ?_
    refine z_nm (P := fun z => z.toInt = (w.2.2.1 24 6).toInt ∧ 0 ≤ z.toInt ∧ z.toInt ≤ 3) ⟨rfl, (rg_24_6 hJ)⟩ (fun z_4 hz_4 => ?_)
    exact r_int E dX9_fault_11 ⟨⟨by have hb_ := z32 z_4; omega, by have hb_ := z32 z_4; omega, by have hb_ := z32 z_4; have hc_ := z32 x1; omega⟩, rfl⟩
set_option maxRecDepth 20000 in
set_option maxHeartbeats 2000000 in
theorem Z_X8_hasCell_3 (l : Launch) (D : va_G) (aC : Nat → ClassId) (b : Nat) (w : XW) (x1 : Int32) (x2 : Int32) (hI : Iv w)  : CnI l D aC b M_X8_hasCell 0 0 0 0 [AR 3, AI x1, AI x2] w (fun r u => (0 ≤ r.toInt ∧ r.toInt ≤ 1 ∧ (r.toInt = 0 ∨ (0 ≤ x1.toInt ∧ x1.toInt ≤ 11)) ∧ (r.toInt = 0 ∨ (0 ≤ x2.toInt ∧ x2.toInt ≤ 2)) ∧ (r.toInt = 0 ∨ (1 ≤ (w.2.2.1 3 3).toInt ∧ (w.2.2.1 3 3).toInt ≤ 12))) ∧ w = u) := by
  refine cn_I (own := RX8) (nm := "hasCell") (L0 := [some (AR 3), some (AI x1), some (AI x2)]) (by decide +kernel) rfl rfl (Nat.le_of_ble_eq_true rfl) rfl ?_
  intro p e s m args below meth c E hin
  have hJ : Jv w w := jv_rfl hI
  refine s_iload_n E dX8_hasCell_0 rfl rfl ?_
  refine z_if_lt (tgt := 28) (u := x1.toInt) E dX8_hasCell_1 (by decide) rfl (fun h_1 => ?_) (fun h_1 => ?_)
  ·
    refine s_iconst (v := 0) E dX8_hasCell_28 (by decide) ?_
    exact r_bool E dX8_hasCell_29 (Or.inl rfl) ⟨⟨by decide, by decide, by first | (left; decide) | (right; have hb_ := z32 x1; omega), by first | (left; decide) | (right; have hb_ := z32 x2; omega), by first | (left; decide) | (right; have hb_ := z32 (w.2.2.1 3 3); omega)⟩, rfl⟩
  ·
    refine s_iload_n E dX8_hasCell_4 rfl rfl ?_
    refine s_aload_n E dX8_hasCell_5 rfl rfl ?_
    refine s_gI E fg_X8_28 rfl rfl (jv_lt hJ (by decide)) dX8_hasCell_6 ?_
    refine z_nm (P := fun z => z.toInt = (w.2.2.1 3 3).toInt ∧ 0 ≤ z.toInt ∧ z.toInt ≤ 12) ⟨rfl, (rg_3_3 hJ)⟩ (fun z_2 hz_2 => ?_)
    refine z_icmp_ge (tgt := 28) (u := x1.toInt) (v := z_2.toInt) E dX8_hasCell_9 (by decide) rfl rfl (fun h_3 => ?_) (fun h_3 => ?_)
    ·
      refine s_iconst (v := 0) E dX8_hasCell_28 (by decide) ?_
      exact r_bool E dX8_hasCell_29 (Or.inl rfl) ⟨⟨by decide, by decide, by first | (left; decide) | (right; have hb_ := z32 x1; omega), by first | (left; decide) | (right; have hb_ := z32 x2; omega), by first | (left; decide) | (right; have hb_ := z32 (w.2.2.1 3 3); omega)⟩, rfl⟩
    ·
      refine s_iload_n E dX8_hasCell_12 rfl rfl ?_
      refine z_if_lt (tgt := 28) (u := x2.toInt) E dX8_hasCell_13 (by decide) rfl (fun h_4 => ?_) (fun h_4 => ?_)
      ·
        refine s_iconst (v := 0) E dX8_hasCell_28 (by decide) ?_
        exact r_bool E dX8_hasCell_29 (Or.inl rfl) ⟨⟨by decide, by decide, by first | (left; decide) | (right; have hb_ := z32 x1; omega), by first | (left; decide) | (right; have hb_ := z32 x2; omega), by first | (left; decide) | (right; have hb_ := z32 (w.2.2.1 3 3); omega)⟩, rfl⟩
      ·
        refine s_iload_n E dX8_hasCell_16 rfl rfl ?_
        refine s_aload_n E dX8_hasCell_17 rfl rfl ?_
        refine s_gI E fg_X8_21 rfl rfl (jv_lt hJ (by decide)) dX8_hasCell_18 ?_
        refine s_top (y := 3) (z_pt (by decide) (rg_3_2 hJ)) ?_
        refine z_icmp_ge (tgt := 28) (u := x2.toInt) (v := 3) E dX8_hasCell_21 (by decide) rfl (by decide) (fun h_5 => ?_) (fun h_5 => ?_)
        ·
          refine s_iconst (v := 0) E dX8_hasCell_28 (by decide) ?_
          exact r_bool E dX8_hasCell_29 (Or.inl rfl) ⟨⟨by decide, by decide, by first | (left; decide) | (right; have hb_ := z32 x1; omega), by first | (left; decide) | (right; have hb_ := z32 x2; omega), by first | (left; decide) | (right; have hb_ := z32 (w.2.2.1 3 3); omega)⟩, rfl⟩
        ·
          refine s_iconst (v := 1) E dX8_hasCell_24 (by decide) ?_
          refine s_goto (tgt := 29) E dX8_hasCell_25 (by decide) ?_
          exact r_bool E dX8_hasCell_29 (Or.inr rfl) ⟨⟨by decide, by decide, by first | (left; decide) | (right; have hb_ := z32 x1; omega), by first | (left; decide) | (right; have hb_ := z32 x2; omega), by first | (left; decide) | (right; have hb_ := z32 (w.2.2.1 3 3); omega)⟩, rfl⟩
set_option maxRecDepth 20000 in
set_option maxHeartbeats 2000000 in
theorem Z_X8_cell_3 (l : Launch) (D : va_G) (aC : Nat → ClassId) (b : Nat) (w : XW) (x1 : Int32) (x2 : Int32) (hI : Iv w)  : CnI l D aC b M_X8_cell 1 22 0 0 [AR 3, AI x1, AI x2] w (fun r u => ((-2147483648) ≤ r.toInt ∧ r.toInt ≤ 2147483647 ∧ (¬ r.toInt = 0 ∨ (0 ≤ x1.toInt ∧ x1.toInt ≤ 11)) ∧ (¬ r.toInt = 0 ∨ (0 ≤ x2.toInt ∧ x2.toInt ≤ 2)) ∧ (¬ r.toInt = 0 ∨ (1 ≤ (w.2.2.1 3 3).toInt ∧ (w.2.2.1 3 3).toInt ≤ 12))) ∧ w = u) := by
  refine cn_I (own := RX8) (nm := "cell") (L0 := [some (AR 3), some (AI x1), some (AI x2)]) (by decide +kernel) rfl rfl (Nat.le_of_ble_eq_true rfl) rfl ?_
  intro p e s m args below meth c E hin
  have hJ : Jv w w := jv_rfl hI
  refine s_aload_n E dX8_cell_0 rfl rfl ?_
  refine s_iload_n E dX8_cell_1 rfl rfl ?_
  refine s_iload_n E dX8_cell_2 rfl rfl ?_
  refine s_vI (As := [AI x1, AI x2]) (S := []) E (Z_X8_hasCell_3 l D aC b w x1 x2 hJ.1 ) cv_X8_31 rfl rfl rfl (jv_lt hJ (by decide)) (Nat.le_of_ble_eq_true rfl) (Nat.le_of_ble_eq_true rfl) ⟨(Nat.le_of_ble_eq_true rfl), (Nat.le_of_ble_eq_true rfl)⟩ (Nat.le_of_ble_eq_true rfl) dX8_cell_3 (fun z_3 u_1 hp_2 => ?_)
  obtain ⟨hz_3, hp_2⟩ := hp_2
  subst hp_2
  refine z_if_eq (tgt := 25) (u := z_3.toInt) E dX8_cell_6 (by decide) rfl (fun h_5 => ?_) (fun h_5 => ?_)
  ·
    refine s_iconst (v := (-1)) E dX8_cell_25 (by decide) ?_
    exact r_int E dX8_cell_26 ⟨⟨by decide, by decide, by first | (left; decide) | (right; have hb_ := z32 x1; omega), by first | (left; decide) | (right; have hb_ := z32 x2; omega), by first | (left; decide) | (right; have hb_ := z32 (w.2.2.1 3 3); omega)⟩, rfl⟩
  ·
    refine s_aload_n E dX8_cell_9 rfl rfl ?_
    refine s_gR (r := 4) E fg_X8_24 rfl rfl (jv_lt hJ (by decide)) (jv_r hJ (by decide +kernel)) dX8_cell_10 ?_
    refine s_iload_n E dX8_cell_13 rfl rfl ?_
    refine s_aload_n E dX8_cell_14 rfl rfl ?_
    refine s_gI E fg_X8_21 rfl rfl (jv_lt hJ (by decide)) dX8_cell_15 ?_
    refine s_top (y := 3) (z_pt (by decide) (rg_3_2 hJ)) ?_
    refine z_imul (u := x1.toInt) (v := 3) E dX8_cell_18 rfl (by decide) (by omega) (by omega) (fun z_6 hz_6 => ?_)
    refine s_iload_n E dX8_cell_19 rfl rfl ?_
    refine z_iadd (u := z_6.toInt) (v := x2.toInt) E dX8_cell_20 rfl rfl (by omega) (by omega) (fun z_7 hz_7 => ?_)
    refine s_iald E rfl (jv_lt hJ (by decide)) (z_in (u := z_7.toInt) rfl (by omega) (by omega)) dX8_cell_21 ?_
    refine z_any (fun z_8 => ?_)
    refine s_goto (tgt := 26) E dX8_cell_22 (by decide) ?_
    exact r_int E dX8_cell_26 ⟨⟨by have hb_ := z32 z_8; omega, by have hb_ := z32 z_8; omega, by have hb_ := z32 z_8; have hc_ := z32 x1; omega, by have hb_ := z32 z_8; have hc_ := z32 x2; omega, by have hb_ := z32 z_8; have hc_ := z32 (w.2.2.1 3 3); omega⟩, rfl⟩
set_option maxRecDepth 20000 in
set_option maxHeartbeats 2000000 in
theorem Z_X9_door_0 (l : Launch) (D : va_G) (aC : Nat → ClassId) (b : Nat) (w : XW) (x1 : Int32) (x2 : Int32) (hI : Iv w)  : CnI l D aC b M_X9_door 2 44 0 0 [AR 0, AI x1, AI x2] w (fun r u => ((-2147483648) ≤ r.toInt ∧ r.toInt ≤ 2147483647 ∧ (¬ r.toInt = 0 ∨ (0 ≤ x1.toInt ∧ x1.toInt ≤ 11)) ∧ (¬ r.toInt = 0 ∨ (0 ≤ x2.toInt ∧ x2.toInt ≤ 2)) ∧ (¬ r.toInt = 0 ∨ (1 ≤ (w.2.2.1 3 3).toInt ∧ (w.2.2.1 3 3).toInt ≤ 12))) ∧ w = u) := by
  refine cn_I (own := RX9) (nm := "door") (L0 := [some (AR 0), some (AI x1), some (AI x2)]) (by decide +kernel) rfl rfl (Nat.le_of_ble_eq_true rfl) rfl ?_
  intro p e s m args below meth c E hin
  have hJ : Jv w w := jv_rfl hI
  refine s_aload_n E dX9_door_0 rfl rfl ?_
  refine s_gR (r := 2) E fg_X9_20 rfl rfl (jv_lt hJ (by decide)) (jv_r hJ (by decide +kernel)) dX9_door_1 ?_
  refine s_gR (r := 3) E fg_X9_119 rfl rfl (jv_lt hJ (by decide)) (jv_r hJ (by decide +kernel)) dX9_door_4 ?_
  refine s_iload_n E dX9_door_7 rfl rfl ?_
  refine s_iload_n E dX9_door_8 rfl rfl ?_
  refine s_vI (As := [AI x1, AI x2]) (S := []) E (Z_X8_hasCell_3 l D aC b w x1 x2 hJ.1 ) cv_X9_123 rfl rfl rfl (jv_lt hJ (by decide)) (Nat.le_of_ble_eq_true rfl) (Nat.le_of_ble_eq_true rfl) ⟨(Nat.le_of_ble_eq_true rfl), (Nat.le_of_ble_eq_true rfl)⟩ (Nat.le_of_ble_eq_true rfl) dX9_door_9 (fun z_3 u_1 hp_2 => ?_)
  obtain ⟨hz_3, hp_2⟩ := hp_2
  subst hp_2
  refine z_if_eq (tgt := 30) (u := z_3.toInt) E dX9_door_12 (by decide) rfl (fun h_5 => ?_) (fun h_5 => ?_)
  ·
    refine s_bipush (v := (-2)) E dX9_door_30 (by decide) ?_
    exact r_int E dX9_door_32 ⟨⟨by decide, by decide, by first | (left; decide) | (right; have hb_ := z32 x1; omega), by first | (left; decide) | (right; have hb_ := z32 x2; omega), by first | (left; decide) | (right; have hb_ := z32 (w.2.2.1 3 3); omega)⟩, rfl⟩
  ·
    refine s_aload_n E dX9_door_15 rfl rfl ?_
    refine s_gR (r := 2) E fg_X9_20 rfl rfl (jv_lt hJ (by decide)) (jv_r hJ (by decide +kernel)) dX9_door_16 ?_
    refine s_gR (r := 3) E fg_X9_119 rfl rfl (jv_lt hJ (by decide)) (jv_r hJ (by decide +kernel)) dX9_door_19 ?_
    refine s_iload_n E dX9_door_22 rfl rfl ?_
    refine s_iload_n E dX9_door_23 rfl rfl ?_
    refine s_vI (As := [AI x1, AI x2]) (S := []) E (Z_X8_cell_3 l D aC b w x1 x2 hJ.1 ) cv_X9_129 rfl rfl rfl (jv_lt hJ (by decide)) (Nat.le_of_ble_eq_true rfl) (Nat.le_of_ble_eq_true rfl) ⟨(Nat.le_of_ble_eq_true rfl), (Nat.le_of_ble_eq_true rfl)⟩ (Nat.le_of_ble_eq_true rfl) dX9_door_24 (fun z_8 u_6 hp_7 => ?_)
    obtain ⟨hz_8, hp_7⟩ := hp_7
    subst hp_7
    refine s_goto (tgt := 32) E dX9_door_27 (by decide) ?_
    exact r_int E dX9_door_32 ⟨⟨by have hb_ := z32 z_8; omega, by have hb_ := z32 z_8; omega, by have hb_ := z32 z_8; have hc_ := z32 x1; omega, by have hb_ := z32 z_8; have hc_ := z32 x2; omega, by have hb_ := z32 z_8; have hc_ := z32 (w.2.2.1 3 3); omega⟩, rfl⟩
set_option maxRecDepth 20000 in
set_option maxHeartbeats 2000000 in
theorem Z_X8_hasCell_5 (l : Launch) (D : va_G) (aC : Nat → ClassId) (b : Nat) (w : XW) (x1 : Int32) (x2 : Int32) (hI : Iv w)  : CnI l D aC b M_X8_hasCell 0 0 0 0 [AR 5, AI x1, AI x2] w (fun r u => (0 ≤ r.toInt ∧ r.toInt ≤ 1 ∧ (r.toInt = 0 ∨ (0 ≤ x1.toInt ∧ x1.toInt ≤ 5)) ∧ (r.toInt = 0 ∨ (0 ≤ x2.toInt ∧ x2.toInt ≤ 1)) ∧ (r.toInt = 0 ∨ (1 ≤ (w.2.2.1 5 3).toInt ∧ (w.2.2.1 5 3).toInt ≤ 6))) ∧ w = u) := by
  refine cn_I (own := RX8) (nm := "hasCell") (L0 := [some (AR 5), some (AI x1), some (AI x2)]) (by decide +kernel) rfl rfl (Nat.le_of_ble_eq_true rfl) rfl ?_
  intro p e s m args below meth c E hin
  have hJ : Jv w w := jv_rfl hI
  refine s_iload_n E dX8_hasCell_0 rfl rfl ?_
  refine z_if_lt (tgt := 28) (u := x1.toInt) E dX8_hasCell_1 (by decide) rfl (fun h_1 => ?_) (fun h_1 => ?_)
  ·
    refine s_iconst (v := 0) E dX8_hasCell_28 (by decide) ?_
    exact r_bool E dX8_hasCell_29 (Or.inl rfl) ⟨⟨by decide, by decide, by first | (left; decide) | (right; have hb_ := z32 x1; omega), by first | (left; decide) | (right; have hb_ := z32 x2; omega), by first | (left; decide) | (right; have hb_ := z32 (w.2.2.1 5 3); omega)⟩, rfl⟩
  ·
    refine s_iload_n E dX8_hasCell_4 rfl rfl ?_
    refine s_aload_n E dX8_hasCell_5 rfl rfl ?_
    refine s_gI E fg_X8_28 rfl rfl (jv_lt hJ (by decide)) dX8_hasCell_6 ?_
    refine z_nm (P := fun z => z.toInt = (w.2.2.1 5 3).toInt ∧ 0 ≤ z.toInt ∧ z.toInt ≤ 6) ⟨rfl, (rg_5_3 hJ)⟩ (fun z_2 hz_2 => ?_)
    refine z_icmp_ge (tgt := 28) (u := x1.toInt) (v := z_2.toInt) E dX8_hasCell_9 (by decide) rfl rfl (fun h_3 => ?_) (fun h_3 => ?_)
    ·
      refine s_iconst (v := 0) E dX8_hasCell_28 (by decide) ?_
      exact r_bool E dX8_hasCell_29 (Or.inl rfl) ⟨⟨by decide, by decide, by first | (left; decide) | (right; have hb_ := z32 x1; omega), by first | (left; decide) | (right; have hb_ := z32 x2; omega), by first | (left; decide) | (right; have hb_ := z32 (w.2.2.1 5 3); omega)⟩, rfl⟩
    ·
      refine s_iload_n E dX8_hasCell_12 rfl rfl ?_
      refine z_if_lt (tgt := 28) (u := x2.toInt) E dX8_hasCell_13 (by decide) rfl (fun h_4 => ?_) (fun h_4 => ?_)
      ·
        refine s_iconst (v := 0) E dX8_hasCell_28 (by decide) ?_
        exact r_bool E dX8_hasCell_29 (Or.inl rfl) ⟨⟨by decide, by decide, by first | (left; decide) | (right; have hb_ := z32 x1; omega), by first | (left; decide) | (right; have hb_ := z32 x2; omega), by first | (left; decide) | (right; have hb_ := z32 (w.2.2.1 5 3); omega)⟩, rfl⟩
      ·
        refine s_iload_n E dX8_hasCell_16 rfl rfl ?_
        refine s_aload_n E dX8_hasCell_17 rfl rfl ?_
        refine s_gI E fg_X8_21 rfl rfl (jv_lt hJ (by decide)) dX8_hasCell_18 ?_
        refine s_top (y := 2) (z_pt (by decide) (rg_5_2 hJ)) ?_
        refine z_icmp_ge (tgt := 28) (u := x2.toInt) (v := 2) E dX8_hasCell_21 (by decide) rfl (by decide) (fun h_5 => ?_) (fun h_5 => ?_)
        ·
          refine s_iconst (v := 0) E dX8_hasCell_28 (by decide) ?_
          exact r_bool E dX8_hasCell_29 (Or.inl rfl) ⟨⟨by decide, by decide, by first | (left; decide) | (right; have hb_ := z32 x1; omega), by first | (left; decide) | (right; have hb_ := z32 x2; omega), by first | (left; decide) | (right; have hb_ := z32 (w.2.2.1 5 3); omega)⟩, rfl⟩
        ·
          refine s_iconst (v := 1) E dX8_hasCell_24 (by decide) ?_
          refine s_goto (tgt := 29) E dX8_hasCell_25 (by decide) ?_
          exact r_bool E dX8_hasCell_29 (Or.inr rfl) ⟨⟨by decide, by decide, by first | (left; decide) | (right; have hb_ := z32 x1; omega), by first | (left; decide) | (right; have hb_ := z32 x2; omega), by first | (left; decide) | (right; have hb_ := z32 (w.2.2.1 5 3); omega)⟩, rfl⟩
set_option maxRecDepth 20000 in
set_option maxHeartbeats 2000000 in
theorem Z_X8_cell_5 (l : Launch) (D : va_G) (aC : Nat → ClassId) (b : Nat) (w : XW) (x1 : Int32) (x2 : Int32) (hI : Iv w)  : CnI l D aC b M_X8_cell 1 22 0 0 [AR 5, AI x1, AI x2] w (fun r u => ((-2147483648) ≤ r.toInt ∧ r.toInt ≤ 2147483647 ∧ (¬ r.toInt = 0 ∨ (0 ≤ x1.toInt ∧ x1.toInt ≤ 5)) ∧ (¬ r.toInt = 0 ∨ (0 ≤ x2.toInt ∧ x2.toInt ≤ 1)) ∧ (¬ r.toInt = 0 ∨ (1 ≤ (w.2.2.1 5 3).toInt ∧ (w.2.2.1 5 3).toInt ≤ 6))) ∧ w = u) := by
  refine cn_I (own := RX8) (nm := "cell") (L0 := [some (AR 5), some (AI x1), some (AI x2)]) (by decide +kernel) rfl rfl (Nat.le_of_ble_eq_true rfl) rfl ?_
  intro p e s m args below meth c E hin
  have hJ : Jv w w := jv_rfl hI
  refine s_aload_n E dX8_cell_0 rfl rfl ?_
  refine s_iload_n E dX8_cell_1 rfl rfl ?_
  refine s_iload_n E dX8_cell_2 rfl rfl ?_
  refine s_vI (As := [AI x1, AI x2]) (S := []) E (Z_X8_hasCell_5 l D aC b w x1 x2 hJ.1 ) cv_X8_31 rfl rfl rfl (jv_lt hJ (by decide)) (Nat.le_of_ble_eq_true rfl) (Nat.le_of_ble_eq_true rfl) ⟨(Nat.le_of_ble_eq_true rfl), (Nat.le_of_ble_eq_true rfl)⟩ (Nat.le_of_ble_eq_true rfl) dX8_cell_3 (fun z_3 u_1 hp_2 => ?_)
  obtain ⟨hz_3, hp_2⟩ := hp_2
  subst hp_2
  refine z_if_eq (tgt := 25) (u := z_3.toInt) E dX8_cell_6 (by decide) rfl (fun h_5 => ?_) (fun h_5 => ?_)
  ·
    refine s_iconst (v := (-1)) E dX8_cell_25 (by decide) ?_
    exact r_int E dX8_cell_26 ⟨⟨by decide, by decide, by first | (left; decide) | (right; have hb_ := z32 x1; omega), by first | (left; decide) | (right; have hb_ := z32 x2; omega), by first | (left; decide) | (right; have hb_ := z32 (w.2.2.1 5 3); omega)⟩, rfl⟩
  ·
    refine s_aload_n E dX8_cell_9 rfl rfl ?_
    refine s_gR (r := 6) E fg_X8_24 rfl rfl (jv_lt hJ (by decide)) (jv_r hJ (by decide +kernel)) dX8_cell_10 ?_
    refine s_iload_n E dX8_cell_13 rfl rfl ?_
    refine s_aload_n E dX8_cell_14 rfl rfl ?_
    refine s_gI E fg_X8_21 rfl rfl (jv_lt hJ (by decide)) dX8_cell_15 ?_
    refine s_top (y := 2) (z_pt (by decide) (rg_5_2 hJ)) ?_
    refine z_imul (u := x1.toInt) (v := 2) E dX8_cell_18 rfl (by decide) (by omega) (by omega) (fun z_6 hz_6 => ?_)
    refine s_iload_n E dX8_cell_19 rfl rfl ?_
    refine z_iadd (u := z_6.toInt) (v := x2.toInt) E dX8_cell_20 rfl rfl (by omega) (by omega) (fun z_7 hz_7 => ?_)
    refine s_iald E rfl (jv_lt hJ (by decide)) (z_in (u := z_7.toInt) rfl (by omega) (by omega)) dX8_cell_21 ?_
    refine z_any (fun z_8 => ?_)
    refine s_goto (tgt := 26) E dX8_cell_22 (by decide) ?_
    exact r_int E dX8_cell_26 ⟨⟨by have hb_ := z32 z_8; omega, by have hb_ := z32 z_8; omega, by have hb_ := z32 z_8; have hc_ := z32 x1; omega, by have hb_ := z32 z_8; have hc_ := z32 x2; omega, by have hb_ := z32 z_8; have hc_ := z32 (w.2.2.1 5 3); omega⟩, rfl⟩
set_option maxRecDepth 20000 in
set_option maxHeartbeats 2000000 in
theorem Z_X9_lady_0 (l : Launch) (D : va_G) (aC : Nat → ClassId) (b : Nat) (w : XW) (x1 : Int32) (x2 : Int32) (hI : Iv w)  : CnI l D aC b M_X9_lady 2 44 0 0 [AR 0, AI x1, AI x2] w (fun r u => ((-2147483648) ≤ r.toInt ∧ r.toInt ≤ 2147483647 ∧ (¬ r.toInt = 0 ∨ (0 ≤ x1.toInt ∧ x1.toInt ≤ 5)) ∧ (¬ r.toInt = 0 ∨ (0 ≤ x2.toInt ∧ x2.toInt ≤ 1)) ∧ (¬ r.toInt = 0 ∨ (1 ≤ (w.2.2.1 5 3).toInt ∧ (w.2.2.1 5 3).toInt ≤ 6))) ∧ w = u) := by
  refine cn_I (own := RX9) (nm := "lady") (L0 := [some (AR 0), some (AI x1), some (AI x2)]) (by decide +kernel) rfl rfl (Nat.le_of_ble_eq_true rfl) rfl ?_
  intro p e s m args below meth c E hin
  have hJ : Jv w w := jv_rfl hI
  refine s_aload_n E dX9_lady_0 rfl rfl ?_
  refine s_gR (r := 2) E fg_X9_20 rfl rfl (jv_lt hJ (by decide)) (jv_r hJ (by decide +kernel)) dX9_lady_1 ?_
  refine s_gR (r := 5) E fg_X9_133 rfl rfl (jv_lt hJ (by decide)) (jv_r hJ (by decide +kernel)) dX9_lady_4 ?_
  refine s_iload_n E dX9_lady_7 rfl rfl ?_
  refine s_iload_n E dX9_lady_8 rfl rfl ?_
  refine s_vI (As := [AI x1, AI x2]) (S := []) E (Z_X8_hasCell_5 l D aC b w x1 x2 hJ.1 ) cv_X9_123 rfl rfl rfl (jv_lt hJ (by decide)) (Nat.le_of_ble_eq_true rfl) (Nat.le_of_ble_eq_true rfl) ⟨(Nat.le_of_ble_eq_true rfl), (Nat.le_of_ble_eq_true rfl)⟩ (Nat.le_of_ble_eq_true rfl) dX9_lady_9 (fun z_3 u_1 hp_2 => ?_)
  obtain ⟨hz_3, hp_2⟩ := hp_2
  subst hp_2
  refine z_if_eq (tgt := 30) (u := z_3.toInt) E dX9_lady_12 (by decide) rfl (fun h_5 => ?_) (fun h_5 => ?_)
  ·
    refine s_bipush (v := (-2)) E dX9_lady_30 (by decide) ?_
    exact r_int E dX9_lady_32 ⟨⟨by decide, by decide, by first | (left; decide) | (right; have hb_ := z32 x1; omega), by first | (left; decide) | (right; have hb_ := z32 x2; omega), by first | (left; decide) | (right; have hb_ := z32 (w.2.2.1 5 3); omega)⟩, rfl⟩
  ·
    refine s_aload_n E dX9_lady_15 rfl rfl ?_
    refine s_gR (r := 2) E fg_X9_20 rfl rfl (jv_lt hJ (by decide)) (jv_r hJ (by decide +kernel)) dX9_lady_16 ?_
    refine s_gR (r := 5) E fg_X9_133 rfl rfl (jv_lt hJ (by decide)) (jv_r hJ (by decide +kernel)) dX9_lady_19 ?_
    refine s_iload_n E dX9_lady_22 rfl rfl ?_
    refine s_iload_n E dX9_lady_23 rfl rfl ?_
    refine s_vI (As := [AI x1, AI x2]) (S := []) E (Z_X8_cell_5 l D aC b w x1 x2 hJ.1 ) cv_X9_129 rfl rfl rfl (jv_lt hJ (by decide)) (Nat.le_of_ble_eq_true rfl) (Nat.le_of_ble_eq_true rfl) ⟨(Nat.le_of_ble_eq_true rfl), (Nat.le_of_ble_eq_true rfl)⟩ (Nat.le_of_ble_eq_true rfl) dX9_lady_24 (fun z_8 u_6 hp_7 => ?_)
    obtain ⟨hz_8, hp_7⟩ := hp_7
    subst hp_7
    refine s_goto (tgt := 32) E dX9_lady_27 (by decide) ?_
    exact r_int E dX9_lady_32 ⟨⟨by have hb_ := z32 z_8; omega, by have hb_ := z32 z_8; omega, by have hb_ := z32 z_8; have hc_ := z32 x1; omega, by have hb_ := z32 z_8; have hc_ := z32 x2; omega, by have hb_ := z32 z_8; have hc_ := z32 (w.2.2.1 5 3); omega⟩, rfl⟩
set_option maxRecDepth 20000 in
set_option maxHeartbeats 2000000 in
theorem Z_X8_hasCell_7 (l : Launch) (D : va_G) (aC : Nat → ClassId) (b : Nat) (w : XW) (x1 : Int32) (x2 : Int32) (hI : Iv w)  : CnI l D aC b M_X8_hasCell 0 0 0 0 [AR 7, AI x1, AI x2] w (fun r u => (0 ≤ r.toInt ∧ r.toInt ≤ 1 ∧ (r.toInt = 0 ∨ (0 ≤ x1.toInt ∧ x1.toInt ≤ 7)) ∧ (r.toInt = 0 ∨ (0 ≤ x2.toInt ∧ x2.toInt ≤ 1)) ∧ (r.toInt = 0 ∨ (1 ≤ (w.2.2.1 7 3).toInt ∧ (w.2.2.1 7 3).toInt ≤ 8))) ∧ w = u) := by
  refine cn_I (own := RX8) (nm := "hasCell") (L0 := [some (AR 7), some (AI x1), some (AI x2)]) (by decide +kernel) rfl rfl (Nat.le_of_ble_eq_true rfl) rfl ?_
  intro p e s m args below meth c E hin
  have hJ : Jv w w := jv_rfl hI
  refine s_iload_n E dX8_hasCell_0 rfl rfl ?_
  refine z_if_lt (tgt := 28) (u := x1.toInt) E dX8_hasCell_1 (by decide) rfl (fun h_1 => ?_) (fun h_1 => ?_)
  ·
    refine s_iconst (v := 0) E dX8_hasCell_28 (by decide) ?_
    exact r_bool E dX8_hasCell_29 (Or.inl rfl) ⟨⟨by decide, by decide, by first | (left; decide) | (right; have hb_ := z32 x1; omega), by first | (left; decide) | (right; have hb_ := z32 x2; omega), by first | (left; decide) | (right; have hb_ := z32 (w.2.2.1 7 3); omega)⟩, rfl⟩
  ·
    refine s_iload_n E dX8_hasCell_4 rfl rfl ?_
    refine s_aload_n E dX8_hasCell_5 rfl rfl ?_
    refine s_gI E fg_X8_28 rfl rfl (jv_lt hJ (by decide)) dX8_hasCell_6 ?_
    refine z_nm (P := fun z => z.toInt = (w.2.2.1 7 3).toInt ∧ 0 ≤ z.toInt ∧ z.toInt ≤ 8) ⟨rfl, (rg_7_3 hJ)⟩ (fun z_2 hz_2 => ?_)
    refine z_icmp_ge (tgt := 28) (u := x1.toInt) (v := z_2.toInt) E dX8_hasCell_9 (by decide) rfl rfl (fun h_3 => ?_) (fun h_3 => ?_)
    ·
      refine s_iconst (v := 0) E dX8_hasCell_28 (by decide) ?_
      exact r_bool E dX8_hasCell_29 (Or.inl rfl) ⟨⟨by decide, by decide, by first | (left; decide) | (right; have hb_ := z32 x1; omega), by first | (left; decide) | (right; have hb_ := z32 x2; omega), by first | (left; decide) | (right; have hb_ := z32 (w.2.2.1 7 3); omega)⟩, rfl⟩
    ·
      refine s_iload_n E dX8_hasCell_12 rfl rfl ?_
      refine z_if_lt (tgt := 28) (u := x2.toInt) E dX8_hasCell_13 (by decide) rfl (fun h_4 => ?_) (fun h_4 => ?_)
      ·
        refine s_iconst (v := 0) E dX8_hasCell_28 (by decide) ?_
        exact r_bool E dX8_hasCell_29 (Or.inl rfl) ⟨⟨by decide, by decide, by first | (left; decide) | (right; have hb_ := z32 x1; omega), by first | (left; decide) | (right; have hb_ := z32 x2; omega), by first | (left; decide) | (right; have hb_ := z32 (w.2.2.1 7 3); omega)⟩, rfl⟩
      ·
        refine s_iload_n E dX8_hasCell_16 rfl rfl ?_
        refine s_aload_n E dX8_hasCell_17 rfl rfl ?_
        refine s_gI E fg_X8_21 rfl rfl (jv_lt hJ (by decide)) dX8_hasCell_18 ?_
        refine s_top (y := 2) (z_pt (by decide) (rg_7_2 hJ)) ?_
        refine z_icmp_ge (tgt := 28) (u := x2.toInt) (v := 2) E dX8_hasCell_21 (by decide) rfl (by decide) (fun h_5 => ?_) (fun h_5 => ?_)
        ·
          refine s_iconst (v := 0) E dX8_hasCell_28 (by decide) ?_
          exact r_bool E dX8_hasCell_29 (Or.inl rfl) ⟨⟨by decide, by decide, by first | (left; decide) | (right; have hb_ := z32 x1; omega), by first | (left; decide) | (right; have hb_ := z32 x2; omega), by first | (left; decide) | (right; have hb_ := z32 (w.2.2.1 7 3); omega)⟩, rfl⟩
        ·
          refine s_iconst (v := 1) E dX8_hasCell_24 (by decide) ?_
          refine s_goto (tgt := 29) E dX8_hasCell_25 (by decide) ?_
          exact r_bool E dX8_hasCell_29 (Or.inr rfl) ⟨⟨by decide, by decide, by first | (left; decide) | (right; have hb_ := z32 x1; omega), by first | (left; decide) | (right; have hb_ := z32 x2; omega), by first | (left; decide) | (right; have hb_ := z32 (w.2.2.1 7 3); omega)⟩, rfl⟩
set_option maxRecDepth 20000 in
set_option maxHeartbeats 2000000 in
theorem Z_X8_cell_7 (l : Launch) (D : va_G) (aC : Nat → ClassId) (b : Nat) (w : XW) (x1 : Int32) (x2 : Int32) (hI : Iv w)  : CnI l D aC b M_X8_cell 1 22 0 0 [AR 7, AI x1, AI x2] w (fun r u => ((-2147483648) ≤ r.toInt ∧ r.toInt ≤ 2147483647 ∧ (¬ r.toInt = 0 ∨ (0 ≤ x1.toInt ∧ x1.toInt ≤ 7)) ∧ (¬ r.toInt = 0 ∨ (0 ≤ x2.toInt ∧ x2.toInt ≤ 1)) ∧ (¬ r.toInt = 0 ∨ (1 ≤ (w.2.2.1 7 3).toInt ∧ (w.2.2.1 7 3).toInt ≤ 8))) ∧ w = u) := by
  refine cn_I (own := RX8) (nm := "cell") (L0 := [some (AR 7), some (AI x1), some (AI x2)]) (by decide +kernel) rfl rfl (Nat.le_of_ble_eq_true rfl) rfl ?_
  intro p e s m args below meth c E hin
  have hJ : Jv w w := jv_rfl hI
  refine s_aload_n E dX8_cell_0 rfl rfl ?_
  refine s_iload_n E dX8_cell_1 rfl rfl ?_
  refine s_iload_n E dX8_cell_2 rfl rfl ?_
  refine s_vI (As := [AI x1, AI x2]) (S := []) E (Z_X8_hasCell_7 l D aC b w x1 x2 hJ.1 ) cv_X8_31 rfl rfl rfl (jv_lt hJ (by decide)) (Nat.le_of_ble_eq_true rfl) (Nat.le_of_ble_eq_true rfl) ⟨(Nat.le_of_ble_eq_true rfl), (Nat.le_of_ble_eq_true rfl)⟩ (Nat.le_of_ble_eq_true rfl) dX8_cell_3 (fun z_3 u_1 hp_2 => ?_)
  obtain ⟨hz_3, hp_2⟩ := hp_2
  subst hp_2
  refine z_if_eq (tgt := 25) (u := z_3.toInt) E dX8_cell_6 (by decide) rfl (fun h_5 => ?_) (fun h_5 => ?_)
  ·
    refine s_iconst (v := (-1)) E dX8_cell_25 (by decide) ?_
    exact r_int E dX8_cell_26 ⟨⟨by decide, by decide, by first | (left; decide) | (right; have hb_ := z32 x1; omega), by first | (left; decide) | (right; have hb_ := z32 x2; omega), by first | (left; decide) | (right; have hb_ := z32 (w.2.2.1 7 3); omega)⟩, rfl⟩
  ·
    refine s_aload_n E dX8_cell_9 rfl rfl ?_
    refine s_gR (r := 8) E fg_X8_24 rfl rfl (jv_lt hJ (by decide)) (jv_r hJ (by decide +kernel)) dX8_cell_10 ?_
    refine s_iload_n E dX8_cell_13 rfl rfl ?_
    refine s_aload_n E dX8_cell_14 rfl rfl ?_
    refine s_gI E fg_X8_21 rfl rfl (jv_lt hJ (by decide)) dX8_cell_15 ?_
    refine s_top (y := 2) (z_pt (by decide) (rg_7_2 hJ)) ?_
    refine z_imul (u := x1.toInt) (v := 2) E dX8_cell_18 rfl (by decide) (by omega) (by omega) (fun z_6 hz_6 => ?_)
    refine s_iload_n E dX8_cell_19 rfl rfl ?_
    refine z_iadd (u := z_6.toInt) (v := x2.toInt) E dX8_cell_20 rfl rfl (by omega) (by omega) (fun z_7 hz_7 => ?_)
    refine s_iald E rfl (jv_lt hJ (by decide)) (z_in (u := z_7.toInt) rfl (by omega) (by omega)) dX8_cell_21 ?_
    refine z_any (fun z_8 => ?_)
    refine s_goto (tgt := 26) E dX8_cell_22 (by decide) ?_
    exact r_int E dX8_cell_26 ⟨⟨by have hb_ := z32 z_8; omega, by have hb_ := z32 z_8; omega, by have hb_ := z32 z_8; have hc_ := z32 x1; omega, by have hb_ := z32 z_8; have hc_ := z32 x2; omega, by have hb_ := z32 z_8; have hc_ := z32 (w.2.2.1 7 3); omega⟩, rfl⟩
set_option maxRecDepth 20000 in
set_option maxHeartbeats 2000000 in
theorem Z_X9_minister_0 (l : Launch) (D : va_G) (aC : Nat → ClassId) (b : Nat) (w : XW) (x1 : Int32) (x2 : Int32) (hI : Iv w)  : CnI l D aC b M_X9_minister 2 44 0 0 [AR 0, AI x1, AI x2] w (fun r u => ((-2147483648) ≤ r.toInt ∧ r.toInt ≤ 2147483647 ∧ (¬ r.toInt = 0 ∨ (0 ≤ x1.toInt ∧ x1.toInt ≤ 7)) ∧ (¬ r.toInt = 0 ∨ (0 ≤ x2.toInt ∧ x2.toInt ≤ 1)) ∧ (¬ r.toInt = 0 ∨ (1 ≤ (w.2.2.1 7 3).toInt ∧ (w.2.2.1 7 3).toInt ≤ 8))) ∧ w = u) := by
  refine cn_I (own := RX9) (nm := "minister") (L0 := [some (AR 0), some (AI x1), some (AI x2)]) (by decide +kernel) rfl rfl (Nat.le_of_ble_eq_true rfl) rfl ?_
  intro p e s m args below meth c E hin
  have hJ : Jv w w := jv_rfl hI
  refine s_aload_n E dX9_minister_0 rfl rfl ?_
  refine s_gR (r := 2) E fg_X9_20 rfl rfl (jv_lt hJ (by decide)) (jv_r hJ (by decide +kernel)) dX9_minister_1 ?_
  refine s_gR (r := 7) E fg_X9_136 rfl rfl (jv_lt hJ (by decide)) (jv_r hJ (by decide +kernel)) dX9_minister_4 ?_
  refine s_iload_n E dX9_minister_7 rfl rfl ?_
  refine s_iload_n E dX9_minister_8 rfl rfl ?_
  refine s_vI (As := [AI x1, AI x2]) (S := []) E (Z_X8_hasCell_7 l D aC b w x1 x2 hJ.1 ) cv_X9_123 rfl rfl rfl (jv_lt hJ (by decide)) (Nat.le_of_ble_eq_true rfl) (Nat.le_of_ble_eq_true rfl) ⟨(Nat.le_of_ble_eq_true rfl), (Nat.le_of_ble_eq_true rfl)⟩ (Nat.le_of_ble_eq_true rfl) dX9_minister_9 (fun z_3 u_1 hp_2 => ?_)
  obtain ⟨hz_3, hp_2⟩ := hp_2
  subst hp_2
  refine z_if_eq (tgt := 30) (u := z_3.toInt) E dX9_minister_12 (by decide) rfl (fun h_5 => ?_) (fun h_5 => ?_)
  ·
    refine s_bipush (v := (-2)) E dX9_minister_30 (by decide) ?_
    exact r_int E dX9_minister_32 ⟨⟨by decide, by decide, by first | (left; decide) | (right; have hb_ := z32 x1; omega), by first | (left; decide) | (right; have hb_ := z32 x2; omega), by first | (left; decide) | (right; have hb_ := z32 (w.2.2.1 7 3); omega)⟩, rfl⟩
  ·
    refine s_aload_n E dX9_minister_15 rfl rfl ?_
    refine s_gR (r := 2) E fg_X9_20 rfl rfl (jv_lt hJ (by decide)) (jv_r hJ (by decide +kernel)) dX9_minister_16 ?_
    refine s_gR (r := 7) E fg_X9_136 rfl rfl (jv_lt hJ (by decide)) (jv_r hJ (by decide +kernel)) dX9_minister_19 ?_
    refine s_iload_n E dX9_minister_22 rfl rfl ?_
    refine s_iload_n E dX9_minister_23 rfl rfl ?_
    refine s_vI (As := [AI x1, AI x2]) (S := []) E (Z_X8_cell_7 l D aC b w x1 x2 hJ.1 ) cv_X9_129 rfl rfl rfl (jv_lt hJ (by decide)) (Nat.le_of_ble_eq_true rfl) (Nat.le_of_ble_eq_true rfl) ⟨(Nat.le_of_ble_eq_true rfl), (Nat.le_of_ble_eq_true rfl)⟩ (Nat.le_of_ble_eq_true rfl) dX9_minister_24 (fun z_8 u_6 hp_7 => ?_)
    obtain ⟨hz_8, hp_7⟩ := hp_7
    subst hp_7
    refine s_goto (tgt := 32) E dX9_minister_27 (by decide) ?_
    exact r_int E dX9_minister_32 ⟨⟨by have hb_ := z32 z_8; omega, by have hb_ := z32 z_8; omega, by have hb_ := z32 z_8; have hc_ := z32 x1; omega, by have hb_ := z32 z_8; have hc_ := z32 x2; omega, by have hb_ := z32 z_8; have hc_ := z32 (w.2.2.1 7 3); omega⟩, rfl⟩
set_option maxRecDepth 20000 in
set_option maxHeartbeats 2000000 in
theorem Z_X8_has_5 (l : Launch) (D : va_G) (aC : Nat → ClassId) (b : Nat) (w : XW) (x1 : Int32) (hI : Iv w)  : CnI l D aC b M_X8_has 0 0 0 0 [AR 5, AI x1] w (fun r u => (0 ≤ r.toInt ∧ r.toInt ≤ 1 ∧ (r.toInt = 0 ∨ (0 ≤ x1.toInt ∧ x1.toInt ≤ 5)) ∧ (r.toInt = 0 ∨ (1 ≤ (w.2.2.1 5 3).toInt ∧ (w.2.2.1 5 3).toInt ≤ 6))) ∧ w = u) := by
  refine cn_I (own := RX8) (nm := "has") (L0 := [some (AR 5), some (AI x1)]) (by decide +kernel) rfl rfl (Nat.le_of_ble_eq_true rfl) rfl ?_
  intro p e s m args below meth c E hin
  have hJ : Jv w w := jv_rfl hI
  refine s_iload_n E dX8_has_0 rfl rfl ?_
  refine z_if_lt (tgt := 16) (u := x1.toInt) E dX8_has_1 (by decide) rfl (fun h_1 => ?_) (fun h_1 => ?_)
  ·
    refine s_iconst (v := 0) E dX8_has_16 (by decide) ?_
    exact r_bool E dX8_has_17 (Or.inl rfl) ⟨⟨by decide, by decide, by first | (left; decide) | (right; have hb_ := z32 x1; omega), by first | (left; decide) | (right; have hb_ := z32 (w.2.2.1 5 3); omega)⟩, rfl⟩
  ·
    refine s_iload_n E dX8_has_4 rfl rfl ?_
    refine s_aload_n E dX8_has_5 rfl rfl ?_
    refine s_gI E fg_X8_28 rfl rfl (jv_lt hJ (by decide)) dX8_has_6 ?_
    refine z_nm (P := fun z => z.toInt = (w.2.2.1 5 3).toInt ∧ 0 ≤ z.toInt ∧ z.toInt ≤ 6) ⟨rfl, (rg_5_3 hJ)⟩ (fun z_2 hz_2 => ?_)
    refine z_icmp_ge (tgt := 16) (u := x1.toInt) (v := z_2.toInt) E dX8_has_9 (by decide) rfl rfl (fun h_3 => ?_) (fun h_3 => ?_)
    ·
      refine s_iconst (v := 0) E dX8_has_16 (by decide) ?_
      exact r_bool E dX8_has_17 (Or.inl rfl) ⟨⟨by decide, by decide, by first | (left; decide) | (right; have hb_ := z32 x1; omega), by first | (left; decide) | (right; have hb_ := z32 (w.2.2.1 5 3); omega)⟩, rfl⟩
    ·
      refine s_iconst (v := 1) E dX8_has_12 (by decide) ?_
      refine s_goto (tgt := 17) E dX8_has_13 (by decide) ?_
      exact r_bool E dX8_has_17 (Or.inr rfl) ⟨⟨by decide, by decide, by first | (left; decide) | (right; have hb_ := z32 x1; omega), by first | (left; decide) | (right; have hb_ := z32 (w.2.2.1 5 3); omega)⟩, rfl⟩
set_option maxRecDepth 20000 in
set_option maxHeartbeats 2000000 in
theorem Z_X0_hasLady_2 (l : Launch) (D : va_G) (aC : Nat → ClassId) (b : Nat) (w : XW) (x1 : Int32) (hI : Iv w)  : CnI l D aC b M_X0_hasLady 1 21 0 0 [AR 2, AI x1] w (fun r u => (0 ≤ r.toInt ∧ r.toInt ≤ 1 ∧ (r.toInt = 0 ∨ (0 ≤ x1.toInt ∧ x1.toInt ≤ 5)) ∧ (r.toInt = 0 ∨ (1 ≤ (w.2.2.1 5 3).toInt ∧ (w.2.2.1 5 3).toInt ≤ 6))) ∧ w = u) := by
  refine cn_I (own := RX0) (nm := "hasLady") (L0 := [some (AR 2), some (AI x1)]) (by decide +kernel) rfl rfl (Nat.le_of_ble_eq_true rfl) rfl ?_
  intro p e s m args below meth c E hin
  have hJ : Jv w w := jv_rfl hI
  refine s_aload_n E dX0_hasLady_0 rfl rfl ?_
  refine s_gR (r := 5) E fg_X0_20 rfl rfl (jv_lt hJ (by decide)) (jv_r hJ (by decide +kernel)) dX0_hasLady_1 ?_
  refine s_iload_n E dX0_hasLady_4 rfl rfl ?_
  refine s_vI (As := [AI x1]) (S := []) E (Z_X8_has_5 l D aC b w x1 hJ.1 ) cv_X0_55 rfl rfl rfl (jv_lt hJ (by decide)) (Nat.le_of_ble_eq_true rfl) (Nat.le_of_ble_eq_true rfl) ⟨(Nat.le_of_ble_eq_true rfl), (Nat.le_of_ble_eq_true rfl)⟩ (Nat.le_of_ble_eq_true rfl) dX0_hasLady_5 (fun z_3 u_1 hp_2 => ?_)
  obtain ⟨hz_3, hp_2⟩ := hp_2
  subst hp_2
  exact r_bool E dX0_hasLady_8 (z_bool (by omega) (by omega)) ⟨⟨by have hb_ := z32 z_3; omega, by have hb_ := z32 z_3; omega, by have hb_ := z32 z_3; have hc_ := z32 x1; omega, by have hb_ := z32 z_3; have hc_ := z32 (w.2.2.1 5 3); omega⟩, rfl⟩
set_option maxRecDepth 20000 in
set_option maxHeartbeats 2000000 in
theorem Z_X0_hasRoom_2 (l : Launch) (D : va_G) (aC : Nat → ClassId) (b : Nat) (w : XW) (x1 : Int32) (hI : Iv w)  : CnI l D aC b M_X0_hasRoom 0 0 0 0 [AR 2, AI x1] w (fun r u => (0 ≤ r.toInt ∧ r.toInt ≤ 1 ∧ (r.toInt = 0 ∨ (0 ≤ x1.toInt ∧ x1.toInt ≤ 7)) ∧ (r.toInt = 0 ∨ (1 ≤ (w.2.2.1 2 1).toInt ∧ (w.2.2.1 2 1).toInt ≤ 8))) ∧ w = u) := by
  refine cn_I (own := RX0) (nm := "hasRoom") (L0 := [some (AR 2), some (AI x1)]) (by decide +kernel) rfl rfl (Nat.le_of_ble_eq_true rfl) rfl ?_
  intro p e s m args below meth c E hin
  have hJ : Jv w w := jv_rfl hI
  refine s_iload_n E dX0_hasRoom_0 rfl rfl ?_
  refine z_if_lt (tgt := 16) (u := x1.toInt) E dX0_hasRoom_1 (by decide) rfl (fun h_1 => ?_) (fun h_1 => ?_)
  ·
    refine s_iconst (v := 0) E dX0_hasRoom_16 (by decide) ?_
    exact r_bool E dX0_hasRoom_17 (Or.inl rfl) ⟨⟨by decide, by decide, by first | (left; decide) | (right; have hb_ := z32 x1; omega), by first | (left; decide) | (right; have hb_ := z32 (w.2.2.1 2 1); omega)⟩, rfl⟩
  ·
    refine s_iload_n E dX0_hasRoom_4 rfl rfl ?_
    refine s_aload_n E dX0_hasRoom_5 rfl rfl ?_
    refine s_gI E fg_X0_36 rfl rfl (jv_lt hJ (by decide)) dX0_hasRoom_6 ?_
    refine z_nm (P := fun z => z.toInt = (w.2.2.1 2 1).toInt ∧ 0 ≤ z.toInt ∧ z.toInt ≤ 8) ⟨rfl, (rg_2_1 hJ)⟩ (fun z_2 hz_2 => ?_)
    refine z_icmp_ge (tgt := 16) (u := x1.toInt) (v := z_2.toInt) E dX0_hasRoom_9 (by decide) rfl rfl (fun h_3 => ?_) (fun h_3 => ?_)
    ·
      refine s_iconst (v := 0) E dX0_hasRoom_16 (by decide) ?_
      exact r_bool E dX0_hasRoom_17 (Or.inl rfl) ⟨⟨by decide, by decide, by first | (left; decide) | (right; have hb_ := z32 x1; omega), by first | (left; decide) | (right; have hb_ := z32 (w.2.2.1 2 1); omega)⟩, rfl⟩
    ·
      refine s_iconst (v := 1) E dX0_hasRoom_12 (by decide) ?_
      refine s_goto (tgt := 17) E dX0_hasRoom_13 (by decide) ?_
      exact r_bool E dX0_hasRoom_17 (Or.inr rfl) ⟨⟨by decide, by decide, by first | (left; decide) | (right; have hb_ := z32 x1; omega), by first | (left; decide) | (right; have hb_ := z32 (w.2.2.1 2 1); omega)⟩, rfl⟩
set_option maxRecDepth 20000 in
set_option maxHeartbeats 2000000 in
theorem Z_X9_hasBit (l : Launch) (D : va_G) (aC : Nat → ClassId) (b : Nat) (w : XW) (x1 : Int32) (x2 : Int32) (hI : Iv w)  : CnI l D aC b M_X9_hasBit 0 0 0 0 [AI x1, AI x2] w (fun r u => (0 ≤ r.toInt ∧ r.toInt ≤ 1 ∧ (r.toInt = 0 ∨ (0 ≤ x2.toInt ∧ x2.toInt ≤ 31))) ∧ w = u) := by
  refine cn_I (own := RX9) (nm := "hasBit") (L0 := [some (AI x1), some (AI x2)]) (by decide +kernel) rfl rfl (Nat.le_of_ble_eq_true rfl) rfl ?_
  intro p e s m args below meth c E hin
  have hJ : Jv w w := jv_rfl hI
  refine s_iload_n E dX9_hasBit_0 rfl rfl ?_
  refine z_if_lt (tgt := 22) (u := x2.toInt) E dX9_hasBit_1 (by decide) rfl (fun h_1 => ?_) (fun h_1 => ?_)
  ·
    refine s_iconst (v := 0) E dX9_hasBit_22 (by decide) ?_
    exact r_bool E dX9_hasBit_23 (Or.inl rfl) ⟨⟨by decide, by decide, by first | (left; decide) | (right; have hb_ := z32 x2; omega)⟩, rfl⟩
  ·
    refine s_iload_n E dX9_hasBit_4 rfl rfl ?_
    refine s_bipush (v := 32) E dX9_hasBit_5 (by decide) ?_
    refine z_icmp_ge (tgt := 22) (u := x2.toInt) (v := 32) E dX9_hasBit_7 (by decide) rfl (by decide) (fun h_2 => ?_) (fun h_2 => ?_)
    ·
      refine s_iconst (v := 0) E dX9_hasBit_22 (by decide) ?_
      exact r_bool E dX9_hasBit_23 (Or.inl rfl) ⟨⟨by decide, by decide, by first | (left; decide) | (right; have hb_ := z32 x2; omega)⟩, rfl⟩
    ·
      refine s_iload_n E dX9_hasBit_10 rfl rfl ?_
      refine s_iload_n E dX9_hasBit_11 rfl rfl ?_
      refine s_iushr E dX9_hasBit_12 ?_
      refine z_any (fun z_3 => ?_)
      refine s_iconst (v := 1) E dX9_hasBit_13 (by decide) ?_
      refine z_mask (v := 1) E dX9_hasBit_14 (by decide) (by decide) (fun z_4 hz_4 => ?_)
      refine z_if_eq (tgt := 22) (u := z_4.toInt) E dX9_hasBit_15 (by decide) rfl (fun h_5 => ?_) (fun h_5 => ?_)
      ·
        refine s_iconst (v := 0) E dX9_hasBit_22 (by decide) ?_
        exact r_bool E dX9_hasBit_23 (Or.inl rfl) ⟨⟨by decide, by decide, by first | (left; decide) | (right; have hb_ := z32 x2; omega)⟩, rfl⟩
      ·
        refine s_iconst (v := 1) E dX9_hasBit_18 (by decide) ?_
        refine s_goto (tgt := 23) E dX9_hasBit_19 (by decide) ?_
        exact r_bool E dX9_hasBit_23 (Or.inr rfl) ⟨⟨by decide, by decide, by first | (left; decide) | (right; have hb_ := z32 x2; omega)⟩, rfl⟩
set_option maxRecDepth 20000 in
set_option maxHeartbeats 2000000 in
theorem Z_X2_stepsFrom_69 (l : Launch) (D : va_G) (aC : Nat → ClassId) (b : Nat) (w : XW) (x1 : Int32) (x2 : Int32) (hI : Iv w)  : CnI l D aC b M_X2_stepsFrom 0 0 0 0 [AR 69, AI x1, AI x2] w (fun r u => ((-2147483648) ≤ r.toInt ∧ r.toInt ≤ 2147483647 ∧ (r.toInt = 0 ∨ (0 ≤ x1.toInt ∧ x1.toInt ≤ 5)) ∧ (r.toInt = 0 ∨ (0 ≤ x2.toInt ∧ x2.toInt ≤ 7)) ∧ (r.toInt = 0 ∨ (1 ≤ (w.2.2.1 69 5).toInt ∧ (w.2.2.1 69 5).toInt ≤ 6)) ∧ (r.toInt = 0 ∨ (1 ≤ (w.2.2.1 69 6).toInt ∧ (w.2.2.1 69 6).toInt ≤ 8))) ∧ w = u) := by
  refine cn_I (own := RX2) (nm := "stepsFrom") (L0 := [some (AR 69), some (AI x1), some (AI x2)]) (by decide +kernel) rfl rfl (Nat.le_of_ble_eq_true rfl) rfl ?_
  intro p e s m args below meth c E hin
  have hJ : Jv w w := jv_rfl hI
  refine s_iload_n E dX2_stepsFrom_0 rfl rfl ?_
  refine z_if_lt (tgt := 24) (u := x1.toInt) E dX2_stepsFrom_1 (by decide) rfl (fun h_1 => ?_) (fun h_1 => ?_)
  ·
    refine s_iconst (v := 0) E dX2_stepsFrom_24 (by decide) ?_
    exact r_int E dX2_stepsFrom_25 ⟨⟨by decide, by decide, by first | (left; decide) | (right; have hb_ := z32 x1; omega), by first | (left; decide) | (right; have hb_ := z32 x2; omega), by first | (left; decide) | (right; have hb_ := z32 (w.2.2.1 69 5); omega), by first | (left; decide) | (right; have hb_ := z32 (w.2.2.1 69 6); omega)⟩, rfl⟩
  ·
    refine s_iload_n E dX2_stepsFrom_4 rfl rfl ?_
    refine s_aload_n E dX2_stepsFrom_5 rfl rfl ?_
    refine s_gI E fg_X2_35 rfl rfl (jv_lt hJ (by decide)) dX2_stepsFrom_6 ?_
    refine z_nm (P := fun z => z.toInt = (w.2.2.1 69 5).toInt ∧ 0 ≤ z.toInt ∧ z.toInt ≤ 6) ⟨rfl, (rg_69_5 hJ)⟩ (fun z_2 hz_2 => ?_)
    refine z_icmp_ge (tgt := 24) (u := x1.toInt) (v := z_2.toInt) E dX2_stepsFrom_9 (by decide) rfl rfl (fun h_3 => ?_) (fun h_3 => ?_)
    ·
      refine s_iconst (v := 0) E dX2_stepsFrom_24 (by decide) ?_
      exact r_int E dX2_stepsFrom_25 ⟨⟨by decide, by decide, by first | (left; decide) | (right; have hb_ := z32 x1; omega), by first | (left; decide) | (right; have hb_ := z32 x2; omega), by first | (left; decide) | (right; have hb_ := z32 (w.2.2.1 69 5); omega), by first | (left; decide) | (right; have hb_ := z32 (w.2.2.1 69 6); omega)⟩, rfl⟩
    ·
      refine s_iload_n E dX2_stepsFrom_12 rfl rfl ?_
      refine z_if_lt (tgt := 24) (u := x2.toInt) E dX2_stepsFrom_13 (by decide) rfl (fun h_4 => ?_) (fun h_4 => ?_)
      ·
        refine s_iconst (v := 0) E dX2_stepsFrom_24 (by decide) ?_
        exact r_int E dX2_stepsFrom_25 ⟨⟨by decide, by decide, by first | (left; decide) | (right; have hb_ := z32 x1; omega), by first | (left; decide) | (right; have hb_ := z32 x2; omega), by first | (left; decide) | (right; have hb_ := z32 (w.2.2.1 69 5); omega), by first | (left; decide) | (right; have hb_ := z32 (w.2.2.1 69 6); omega)⟩, rfl⟩
      ·
        refine s_iload_n E dX2_stepsFrom_16 rfl rfl ?_
        refine s_aload_n E dX2_stepsFrom_17 rfl rfl ?_
        refine s_gI E fg_X2_63 rfl rfl (jv_lt hJ (by decide)) dX2_stepsFrom_18 ?_
        refine z_nm (P := fun z => z.toInt = (w.2.2.1 69 6).toInt ∧ 0 ≤ z.toInt ∧ z.toInt ≤ 8) ⟨rfl, (rg_69_6 hJ)⟩ (fun z_5 hz_5 => ?_)
        refine z_icmp_lt (tgt := 26) (u := x2.toInt) (v := z_5.toInt) E dX2_stepsFrom_21 (by decide) rfl rfl (fun h_6 => ?_) (fun h_6 => ?_)
        ·
          refine s_aload_n E dX2_stepsFrom_26 rfl rfl ?_
          refine s_gR (r := 70) E fg_X2_9 rfl rfl (jv_lt hJ (by decide)) (jv_r hJ (by decide +kernel)) dX2_stepsFrom_27 ?_
          refine s_iload_n E dX2_stepsFrom_30 rfl rfl ?_
          refine s_bipush (v := 8) E dX2_stepsFrom_31 (by decide) ?_
          refine z_imul (u := x1.toInt) (v := 8) E dX2_stepsFrom_33 rfl (by decide) (by omega) (by omega) (fun z_7 hz_7 => ?_)
          refine s_iload_n E dX2_stepsFrom_34 rfl rfl ?_
          refine z_iadd (u := z_7.toInt) (v := x2.toInt) E dX2_stepsFrom_35 rfl rfl (by omega) (by omega) (fun z_8 hz_8 => ?_)
          refine s_iald E rfl (jv_lt hJ (by decide)) (z_in (u := z_8.toInt) rfl (by omega) (by omega)) dX2_stepsFrom_36 ?_
          refine z_any (fun z_9 => ?_)
          exact r_int E dX2_stepsFrom_37 ⟨⟨by have hb_ := z32 z_9; omega, by have hb_ := z32 z_9; omega, by have hb_ := z32 z_9; have hc_ := z32 x1; omega, by have hb_ := z32 z_9; have hc_ := z32 x2; omega, by have hb_ := z32 z_9; have hc_ := z32 (w.2.2.1 69 5); omega, by have hb_ := z32 z_9; have hc_ := z32 (w.2.2.1 69 6); omega⟩, rfl⟩
        ·
          refine s_iconst (v := 0) E dX2_stepsFrom_24 (by decide) ?_
          exact r_int E dX2_stepsFrom_25 ⟨⟨by decide, by decide, by first | (left; decide) | (right; have hb_ := z32 x1; omega), by first | (left; decide) | (right; have hb_ := z32 x2; omega), by first | (left; decide) | (right; have hb_ := z32 (w.2.2.1 69 5); omega), by first | (left; decide) | (right; have hb_ := z32 (w.2.2.1 69 6); omega)⟩, rfl⟩
set_option maxRecDepth 20000 in
set_option maxHeartbeats 2000000 in
theorem Z_X2_spread_69 (l : Launch) (D : va_G) (aC : Nat → ClassId) (b : Nat) (w : XW) (x1 : Int32) (x2 : Int32) (hI : Iv w)  : CnI l D aC b M_X2_spread 1 22 0 0 [AR 69, AI x1, AI x2] w (fun r u => ((-2147483648) ≤ r.toInt ∧ r.toInt ≤ 2147483647) ∧ Jv w u) := by
  refine cn_I (own := RX2) (nm := "spread") (L0 := [some (AR 69), some (AI x1), some (AI x2), none, none]) (by decide +kernel) rfl rfl (Nat.le_of_ble_eq_true rfl) rfl ?_
  intro p e s m args below meth c E hin
  have hJ : Jv w w := jv_rfl hI
  refine s_iconst (v := 0) E dX2_spread_0 (by decide) ?_
  refine s_istore_n (L2 := [some (AR 69), some (AI x1), some (AI x2), some (AI 0), none]) E dX2_spread_1 rfl (by decide) rfl ?_
  refine s_iconst (v := 0) E dX2_spread_2 (by decide) ?_
  refine s_istore (L2 := [some (AR 69), some (AI x1), some (AI x2), some (AI 0), some (AI 0)]) E dX2_spread_3 (by decide) rfl ?_
  refine z_loop (St := Int32 × Int32) (Pi := fun ⟨q5_3_0, q5_4_0⟩ v5 => (0 ≤ q5_4_0.toInt ∧ q5_4_0.toInt ≤ 8) ∧ Jv w v5) (Lf := fun ⟨q5_3_0, q5_4_0⟩ => [some (AR 69), some (AI x1), some (AI x2), some (AI q5_3_0), some (AI q5_4_0)]) (fun ⟨q5_3_0, q5_4_0⟩ _ => (9 - q5_4_0.toInt).toNat) ⟨0, 0⟩ ⟨⟨by decide, by decide⟩, hJ⟩ ?_
  rintro ⟨q5_3_0, q5_4_0⟩ v5 ⟨hq5_4, hj_1⟩ ih5
  refine s_loc (L2 := [some (AR 69), some (AI x1), some (AI x2), some (AI q5_3_0), some (AI q5_4_0)]) rfl ?_
  refine s_iload E dX2_spread_5 rfl ?_
  refine s_aload_n E dX2_spread_7 rfl rfl ?_
  refine s_gI E fg_X2_63 rfl rfl (jv_lt hj_1 (by decide)) dX2_spread_8 ?_
  refine z_nm (P := fun z => z.toInt = (v5.2.2.1 69 6).toInt ∧ 0 ≤ z.toInt ∧ z.toInt ≤ 8) ⟨rfl, (rg_69_6 hj_1)⟩ (fun z_2 hz_2 => ?_)
  refine z_icmp_ge (tgt := 39) (u := q5_4_0.toInt) (v := z_2.toInt) E dX2_spread_11 (by decide) rfl rfl (fun h_3 => ?_) (fun h_3 => ?_)
  ·
    refine s_iload_n E dX2_spread_39 rfl rfl ?_
    exact r_int E dX2_spread_40 ⟨⟨by have hb_ := z32 q5_3_0; omega, by have hb_ := z32 q5_3_0; omega⟩, hj_1⟩
  ·
    refine s_iload_n E dX2_spread_14 rfl rfl ?_
    refine s_iload E dX2_spread_15 rfl ?_
    refine s_sI (As := [AI x2, AI q5_4_0]) (S := []) E (Z_X9_hasBit l D aC b v5 x2 q5_4_0 hj_1.1 ) cs_X2_123 rfl rfl (Nat.le_of_ble_eq_true rfl) (Nat.le_of_ble_eq_true rfl) ⟨(Nat.le_of_ble_eq_true rfl), (Nat.le_of_ble_eq_true rfl)⟩ (Nat.le_of_ble_eq_true rfl) dX2_spread_17 (fun z_6 u_4 hp_5 => ?_)
    obtain ⟨hz_6, hp_5⟩ := hp_5
    subst hp_5
    refine z_if_eq (tgt := 33) (u := z_6.toInt) E dX2_spread_20 (by decide) rfl (fun h_8 => ?_) (fun h_8 => ?_)
    ·
      refine z_iinc (u := q5_4_0.toInt) (L2 := fun z_9 => [some (AR 69), some (AI x1), some (AI x2), some (AI q5_3_0), some (AI z_9)]) E dX2_spread_33 rfl rfl (by decide) (fun _ => rfl) (by decide) (by omega) (by omega) (fun z_9 hz_9 => ?_)
      refine s_goto (tgt := 5) E dX2_spread_36 (by decide) ?_
      exact ih5 ⟨q5_3_0, z_9⟩ v5 ⟨⟨by have hb_ := z32 z_9; omega, by have hb_ := z32 z_9; omega⟩, hj_1⟩ (by first | omega | (dsimp only; omega))
    ·
      refine s_iload_n E dX2_spread_23 rfl rfl ?_
      refine s_aload_n E dX2_spread_24 rfl rfl ?_
      refine s_iload_n E dX2_spread_25 rfl rfl ?_
      refine s_iload E dX2_spread_26 rfl ?_
      refine s_vI (As := [AI x1, AI q5_4_0]) (S := [AI q5_3_0]) E (Z_X2_stepsFrom_69 l D aC b v5 x1 q5_4_0 hj_1.1 ) cv_X2_101 rfl rfl rfl (jv_lt hj_1 (by decide)) (Nat.le_of_ble_eq_true rfl) (Nat.le_of_ble_eq_true rfl) ⟨(Nat.le_of_ble_eq_true rfl), (Nat.le_of_ble_eq_true rfl)⟩ (Nat.le_of_ble_eq_true rfl) dX2_spread_28 (fun z_12 u_10 hp_11 => ?_)
      obtain ⟨hz_12, hp_11⟩ := hp_11
      subst hp_11
      refine s_ior E dX2_spread_31 ?_
      refine z_any (fun z_14 => ?_)
      refine s_istore_n (L2 := [some (AR 69), some (AI x1), some (AI x2), some (AI z_14), some (AI q5_4_0)]) E dX2_spread_32 rfl (by decide) rfl ?_
      refine z_iinc (u := q5_4_0.toInt) (L2 := fun z_15 => [some (AR 69), some (AI x1), some (AI x2), some (AI z_14), some (AI z_15)]) E dX2_spread_33 rfl rfl (by decide) (fun _ => rfl) (by decide) (by omega) (by omega) (fun z_15 hz_15 => ?_)
      refine s_goto (tgt := 5) E dX2_spread_36 (by decide) ?_
      exact ih5 ⟨z_14, z_15⟩ v5 ⟨⟨by have hb_ := z32 z_15; omega, by have hb_ := z32 z_15; omega⟩, hj_1⟩ (by first | omega | (dsimp only; omega))
set_option maxRecDepth 20000 in
set_option maxHeartbeats 2000000 in
theorem Z_X2_distance_69 (l : Launch) (D : va_G) (aC : Nat → ClassId) (b : Nat) (w : XW) (x1 : Int32) (x2 : Int32) (x3 : Int32) (hI : Iv w)  : CnI l D aC b M_X2_distance 2 46 0 0 [AR 69, AI x1, AI x2, AI x3] w (fun r u => ((-1) ≤ r.toInt ∧ r.toInt ≤ 7 ∧ (¬ r.toInt = 0 ∨ (0 ≤ x3.toInt ∧ x3.toInt ≤ 31))) ∧ Jv w u) := by
  refine cn_I (own := RX2) (nm := "distance") (L0 := [some (AR 69), some (AI x1), some (AI x2), some (AI x3), none, none]) (by decide +kernel) rfl rfl (Nat.le_of_ble_eq_true rfl) rfl ?_
  intro p e s m args below meth c E hin
  have hJ : Jv w w := jv_rfl hI
  refine s_iconst (v := 1) E dX2_distance_0 (by decide) ?_
  refine s_iload_n E dX2_distance_1 rfl rfl ?_
  refine s_ishl E dX2_distance_2 ?_
  refine z_any (fun z_1 => ?_)
  refine s_istore (L2 := [some (AR 69), some (AI x1), some (AI x2), some (AI x3), some (AI z_1), none]) E dX2_distance_3 (by decide) rfl ?_
  refine s_iconst (v := 0) E dX2_distance_5 (by decide) ?_
  refine s_istore (L2 := [some (AR 69), some (AI x1), some (AI x2), some (AI x3), some (AI z_1), some (AI 0)]) E dX2_distance_6 (by decide) rfl ?_
  refine z_loop (St := Int32 × Int32) (Pi := fun ⟨q8_4_1, q8_5_1⟩ v8 => (0 ≤ q8_5_1.toInt ∧ q8_5_1.toInt ≤ 8) ∧ Jv w v8) (Lf := fun ⟨q8_4_1, q8_5_1⟩ => [some (AR 69), some (AI x1), some (AI x2), some (AI x3), some (AI q8_4_1), some (AI q8_5_1)]) (fun ⟨q8_4_1, q8_5_1⟩ _ => (9 - q8_5_1.toInt).toNat) ⟨z_1, 0⟩ ⟨⟨by decide, by decide⟩, hJ⟩ ?_
  rintro ⟨q8_4_1, q8_5_1⟩ v8 ⟨hq8_5, hj_2⟩ ih8
  refine s_loc (L2 := [some (AR 69), some (AI x1), some (AI x2), some (AI x3), some (AI q8_4_1), some (AI q8_5_1)]) rfl ?_
  refine s_iload E dX2_distance_8 rfl ?_
  refine s_aload_n E dX2_distance_10 rfl rfl ?_
  refine s_gI E fg_X2_63 rfl rfl (jv_lt hj_2 (by decide)) dX2_distance_11 ?_
  refine z_nm (P := fun z => z.toInt = (v8.2.2.1 69 6).toInt ∧ 0 ≤ z.toInt ∧ z.toInt ≤ 8) ⟨rfl, (rg_69_6 hj_2)⟩ (fun z_3 hz_3 => ?_)
  refine z_icmp_ge (tgt := 44) (u := q8_5_1.toInt) (v := z_3.toInt) E dX2_distance_14 (by decide) rfl rfl (fun h_4 => ?_) (fun h_4 => ?_)
  ·
    refine s_iconst (v := (-1)) E dX2_distance_44 (by decide) ?_
    exact r_int E dX2_distance_45 ⟨⟨by decide, by decide, by first | (left; decide) | (right; have hb_ := z32 x3; omega)⟩, hj_2⟩
  ·
    refine s_iload E dX2_distance_17 rfl ?_
    refine s_iload_n E dX2_distance_19 rfl rfl ?_
    refine s_sI (As := [AI q8_4_1, AI x3]) (S := []) E (Z_X9_hasBit l D aC b v8 q8_4_1 x3 hj_2.1 ) cs_X2_123 rfl rfl (Nat.le_of_ble_eq_true rfl) (Nat.le_of_ble_eq_true rfl) ⟨(Nat.le_of_ble_eq_true rfl), (Nat.le_of_ble_eq_true rfl)⟩ (Nat.le_of_ble_eq_true rfl) dX2_distance_20 (fun z_7 u_5 hp_6 => ?_)
    obtain ⟨hz_7, hp_6⟩ := hp_6
    subst hp_6
    refine z_if_eq (tgt := 29) (u := z_7.toInt) E dX2_distance_23 (by decide) rfl (fun h_9 => ?_) (fun h_9 => ?_)
    ·
      refine s_aload_n E dX2_distance_29 rfl rfl ?_
      refine s_iload_n E dX2_distance_30 rfl rfl ?_
      refine s_iload E dX2_distance_31 rfl ?_
      refine s_vI (As := [AI x1, AI q8_4_1]) (S := []) E (Z_X2_spread_69 l D aC b v8 x1 q8_4_1 hj_2.1 ) cv_X2_108 rfl rfl rfl (jv_lt hj_2 (by decide)) (Nat.le_of_ble_eq_true rfl) (Nat.le_of_ble_eq_true rfl) ⟨(Nat.le_of_ble_eq_true rfl), (Nat.le_of_ble_eq_true rfl)⟩ (Nat.le_of_ble_eq_true rfl) dX2_distance_33 (fun z_12 u_10 hp_11 => ?_)
      obtain ⟨hz_12, hp_11⟩ := hp_11
      have hj_13 := jv_trans hj_2 hp_11
      refine s_istore (L2 := [some (AR 69), some (AI x1), some (AI x2), some (AI x3), some (AI z_12), some (AI q8_5_1)]) E dX2_distance_36 (by decide) rfl ?_
      refine z_iinc (u := q8_5_1.toInt) (L2 := fun z_14 => [some (AR 69), some (AI x1), some (AI x2), some (AI x3), some (AI z_12), some (AI z_14)]) E dX2_distance_38 rfl rfl (by decide) (fun _ => rfl) (by decide) (by omega) (by omega) (fun z_14 hz_14 => ?_)
      refine s_goto (tgt := 8) E dX2_distance_41 (by decide) ?_
      exact ih8 ⟨z_12, z_14⟩ u_10 ⟨⟨by have hb_ := z32 z_14; omega, by have hb_ := z32 z_14; omega⟩, hj_13⟩ (by first | omega | (dsimp only; omega))
    ·
      refine s_iload E dX2_distance_26 rfl ?_
      exact r_int E dX2_distance_28 ⟨⟨by have hb_ := z32 q8_5_1; omega, by have hb_ := z32 q8_5_1; omega, by have hb_ := z32 q8_5_1; have hc_ := z32 x3; omega⟩, hj_2⟩
set_option maxRecDepth 20000 in
set_option maxHeartbeats 2000000 in
theorem Z_X9_way_0 (l : Launch) (D : va_G) (aC : Nat → ClassId) (b : Nat) (w : XW) (x1 : Int32) (x2 : Int32) (x3 : Int32) (hI : Iv w)  : CnI l D aC b M_X9_way 3 71 0 0 [AR 0, AI x1, AI x2, AI x3] w (fun r u => ((-2) ≤ r.toInt ∧ r.toInt ≤ 7 ∧ (¬ r.toInt = 0 ∨ (0 ≤ x1.toInt ∧ x1.toInt ≤ 5)) ∧ (¬ r.toInt = 0 ∨ (0 ≤ x2.toInt ∧ x2.toInt ≤ 7)) ∧ (¬ r.toInt = 0 ∨ (0 ≤ x3.toInt ∧ x3.toInt ≤ 7)) ∧ (¬ r.toInt = 0 ∨ (1 ≤ (w.2.2.1 5 3).toInt ∧ (w.2.2.1 5 3).toInt ≤ 6)) ∧ (¬ r.toInt = 0 ∨ (1 ≤ (w.2.2.1 2 1).toInt ∧ (w.2.2.1 2 1).toInt ≤ 8))) ∧ Jv w u) := by
  refine cn_I (own := RX9) (nm := "way") (L0 := [some (AR 0), some (AI x1), some (AI x2), some (AI x3)]) (by decide +kernel) rfl rfl (Nat.le_of_ble_eq_true rfl) rfl ?_
  intro p e s m args below meth c E hin
  have hJ : Jv w w := jv_rfl hI
  refine s_aload_n E dX9_way_0 rfl rfl ?_
  refine s_gR (r := 2) E fg_X9_20 rfl rfl (jv_lt hJ (by decide)) (jv_r hJ (by decide +kernel)) dX9_way_1 ?_
  refine s_iload_n E dX9_way_4 rfl rfl ?_
  refine s_vI (As := [AI x1]) (S := []) E (Z_X0_hasLady_2 l D aC b w x1 hJ.1 ) cv_X9_139 rfl rfl rfl (jv_lt hJ (by decide)) (Nat.le_of_ble_eq_true rfl) (Nat.le_of_ble_eq_true rfl) ⟨(Nat.le_of_ble_eq_true rfl), (Nat.le_of_ble_eq_true rfl)⟩ (Nat.le_of_ble_eq_true rfl) dX9_way_5 (fun z_3 u_1 hp_2 => ?_)
  obtain ⟨hz_3, hp_2⟩ := hp_2
  subst hp_2
  refine z_if_eq (tgt := 33) (u := z_3.toInt) E dX9_way_8 (by decide) rfl (fun h_5 => ?_) (fun h_5 => ?_)
  ·
    refine s_bipush (v := (-2)) E dX9_way_33 (by decide) ?_
    exact r_int E dX9_way_35 ⟨⟨by decide, by decide, by first | (left; decide) | (right; have hb_ := z32 x1; omega), by first | (left; decide) | (right; have hb_ := z32 x2; omega), by first | (left; decide) | (right; have hb_ := z32 x3; omega), by first | (left; decide) | (right; have hb_ := z32 (w.2.2.1 5 3); omega), by first | (left; decide) | (right; have hb_ := z32 (w.2.2.1 2 1); omega)⟩, hJ⟩
  ·
    refine s_aload_n E dX9_way_11 rfl rfl ?_
    refine s_gR (r := 2) E fg_X9_20 rfl rfl (jv_lt hJ (by decide)) (jv_r hJ (by decide +kernel)) dX9_way_12 ?_
    refine s_iload_n E dX9_way_15 rfl rfl ?_
    refine s_vI (As := [AI x2]) (S := []) E (Z_X0_hasRoom_2 l D aC b w x2 hJ.1 ) cv_X9_143 rfl rfl rfl (jv_lt hJ (by decide)) (Nat.le_of_ble_eq_true rfl) (Nat.le_of_ble_eq_true rfl) ⟨(Nat.le_of_ble_eq_true rfl), (Nat.le_of_ble_eq_true rfl)⟩ (Nat.le_of_ble_eq_true rfl) dX9_way_16 (fun z_8 u_6 hp_7 => ?_)
    obtain ⟨hz_8, hp_7⟩ := hp_7
    subst hp_7
    refine z_if_eq (tgt := 33) (u := z_8.toInt) E dX9_way_19 (by decide) rfl (fun h_10 => ?_) (fun h_10 => ?_)
    ·
      refine s_bipush (v := (-2)) E dX9_way_33 (by decide) ?_
      exact r_int E dX9_way_35 ⟨⟨by decide, by decide, by first | (left; decide) | (right; have hb_ := z32 x1; omega), by first | (left; decide) | (right; have hb_ := z32 x2; omega), by first | (left; decide) | (right; have hb_ := z32 x3; omega), by first | (left; decide) | (right; have hb_ := z32 (w.2.2.1 5 3); omega), by first | (left; decide) | (right; have hb_ := z32 (w.2.2.1 2 1); omega)⟩, hJ⟩
    ·
      refine s_aload_n E dX9_way_22 rfl rfl ?_
      refine s_gR (r := 2) E fg_X9_20 rfl rfl (jv_lt hJ (by decide)) (jv_r hJ (by decide +kernel)) dX9_way_23 ?_
      refine s_iload_n E dX9_way_26 rfl rfl ?_
      refine s_vI (As := [AI x3]) (S := []) E (Z_X0_hasRoom_2 l D aC b w x3 hJ.1 ) cv_X9_143 rfl rfl rfl (jv_lt hJ (by decide)) (Nat.le_of_ble_eq_true rfl) (Nat.le_of_ble_eq_true rfl) ⟨(Nat.le_of_ble_eq_true rfl), (Nat.le_of_ble_eq_true rfl)⟩ (Nat.le_of_ble_eq_true rfl) dX9_way_27 (fun z_13 u_11 hp_12 => ?_)
      obtain ⟨hz_13, hp_12⟩ := hp_12
      subst hp_12
      refine z_if_ne (tgt := 36) (u := z_13.toInt) E dX9_way_30 (by decide) rfl (fun h_15 => ?_) (fun h_15 => ?_)
      ·
        refine s_aload_n E dX9_way_36 rfl rfl ?_
        refine s_gR (r := 69) E fg_X9_54 rfl rfl (jv_lt hJ (by decide)) (jv_r hJ (by decide +kernel)) dX9_way_37 ?_
        refine s_iload_n E dX9_way_40 rfl rfl ?_
        refine s_iload_n E dX9_way_41 rfl rfl ?_
        refine s_iload_n E dX9_way_42 rfl rfl ?_
        refine s_vI (As := [AI x1, AI x2, AI x3]) (S := []) E (Z_X2_distance_69 l D aC b w x1 x2 x3 hJ.1 ) cv_X9_146 rfl rfl rfl (jv_lt hJ (by decide)) (Nat.le_of_ble_eq_true rfl) (Nat.le_of_ble_eq_true rfl) ⟨(Nat.le_of_ble_eq_true rfl), (Nat.le_of_ble_eq_true rfl)⟩ (Nat.le_of_ble_eq_true rfl) dX9_way_43 (fun z_18 u_16 hp_17 => ?_)
        obtain ⟨hz_18, hp_17⟩ := hp_17
        have hj_19 := jv_trans hJ hp_17
        exact r_int E dX9_way_46 ⟨⟨by have hb_ := z32 z_18; omega, by have hb_ := z32 z_18; omega, by have hb_ := z32 z_18; have hc_ := z32 x1; omega, by have hb_ := z32 z_18; have hc_ := z32 x2; omega, by have hb_ := z32 z_18; have hc_ := z32 x3; omega, by have hb_ := z32 z_18; have hc_ := z32 (w.2.2.1 5 3); omega, by have hb_ := z32 z_18; have hc_ := z32 (w.2.2.1 2 1); omega⟩, hj_19⟩
      ·
        refine s_bipush (v := (-2)) E dX9_way_33 (by decide) ?_
        exact r_int E dX9_way_35 ⟨⟨by decide, by decide, by first | (left; decide) | (right; have hb_ := z32 x1; omega), by first | (left; decide) | (right; have hb_ := z32 x2; omega), by first | (left; decide) | (right; have hb_ := z32 x3; omega), by first | (left; decide) | (right; have hb_ := z32 (w.2.2.1 5 3); omega), by first | (left; decide) | (right; have hb_ := z32 (w.2.2.1 2 1); omega)⟩, hJ⟩
set_option maxRecDepth 20000 in
set_option maxHeartbeats 2000000 in
theorem Z_X2_reachable_69 (l : Launch) (D : va_G) (aC : Nat → ClassId) (b : Nat) (w : XW) (x1 : Int32) (x2 : Int32) (hI : Iv w)  : CnI l D aC b M_X2_reachable 2 46 0 0 [AR 69, AI x1, AI x2] w (fun r u => ((-2147483648) ≤ r.toInt ∧ r.toInt ≤ 2147483647) ∧ Jv w u) := by
  refine cn_I (own := RX2) (nm := "reachable") (L0 := [some (AR 69), some (AI x1), some (AI x2), none, none]) (by decide +kernel) rfl rfl (Nat.le_of_ble_eq_true rfl) rfl ?_
  intro p e s m args below meth c E hin
  have hJ : Jv w w := jv_rfl hI
  refine s_iconst (v := 1) E dX2_reachable_0 (by decide) ?_
  refine s_iload_n E dX2_reachable_1 rfl rfl ?_
  refine s_ishl E dX2_reachable_2 ?_
  refine z_any (fun z_1 => ?_)
  refine s_istore_n (L2 := [some (AR 69), some (AI x1), some (AI x2), some (AI z_1), none]) E dX2_reachable_3 rfl (by decide) rfl ?_
  refine s_iconst (v := 1) E dX2_reachable_4 (by decide) ?_
  refine s_istore (L2 := [some (AR 69), some (AI x1), some (AI x2), some (AI z_1), some (AI 1)]) E dX2_reachable_5 (by decide) rfl ?_
  refine z_loop (St := Int32 × Int32) (Pi := fun ⟨q7_3_1, q7_4_1⟩ v7 => (1 ≤ q7_4_1.toInt ∧ q7_4_1.toInt ≤ 8) ∧ Jv w v7) (Lf := fun ⟨q7_3_1, q7_4_1⟩ => [some (AR 69), some (AI x1), some (AI x2), some (AI q7_3_1), some (AI q7_4_1)]) (fun ⟨q7_3_1, q7_4_1⟩ _ => (9 - q7_4_1.toInt).toNat) ⟨z_1, 1⟩ ⟨⟨by decide, by decide⟩, hJ⟩ ?_
  rintro ⟨q7_3_1, q7_4_1⟩ v7 ⟨hq7_4, hj_2⟩ ih7
  refine s_loc (L2 := [some (AR 69), some (AI x1), some (AI x2), some (AI q7_3_1), some (AI q7_4_1)]) rfl ?_
  refine s_iload E dX2_reachable_7 rfl ?_
  refine s_aload_n E dX2_reachable_9 rfl rfl ?_
  refine s_gI E fg_X2_63 rfl rfl (jv_lt hj_2 (by decide)) dX2_reachable_10 ?_
  refine z_nm (P := fun z => z.toInt = (v7.2.2.1 69 6).toInt ∧ 0 ≤ z.toInt ∧ z.toInt ≤ 8) ⟨rfl, (rg_69_6 hj_2)⟩ (fun z_3 hz_3 => ?_)
  refine z_icmp_ge (tgt := 29) (u := q7_4_1.toInt) (v := z_3.toInt) E dX2_reachable_13 (by decide) rfl rfl (fun h_4 => ?_) (fun h_4 => ?_)
  ·
    refine s_iload_n E dX2_reachable_29 rfl rfl ?_
    exact r_int E dX2_reachable_30 ⟨⟨by have hb_ := z32 q7_3_1; omega, by have hb_ := z32 q7_3_1; omega⟩, hj_2⟩
  ·
    refine s_aload_n E dX2_reachable_16 rfl rfl ?_
    refine s_iload_n E dX2_reachable_17 rfl rfl ?_
    refine s_iload_n E dX2_reachable_18 rfl rfl ?_
    refine s_vI (As := [AI x1, AI q7_3_1]) (S := []) E (Z_X2_spread_69 l D aC b v7 x1 q7_3_1 hj_2.1 ) cv_X2_108 rfl rfl rfl (jv_lt hj_2 (by decide)) (Nat.le_of_ble_eq_true rfl) (Nat.le_of_ble_eq_true rfl) ⟨(Nat.le_of_ble_eq_true rfl), (Nat.le_of_ble_eq_true rfl)⟩ (Nat.le_of_ble_eq_true rfl) dX2_reachable_19 (fun z_7 u_5 hp_6 => ?_)
    obtain ⟨hz_7, hp_6⟩ := hp_6
    have hj_8 := jv_trans hj_2 hp_6
    refine s_istore_n (L2 := [some (AR 69), some (AI x1), some (AI x2), some (AI z_7), some (AI q7_4_1)]) E dX2_reachable_22 rfl (by decide) rfl ?_
    refine z_iinc (u := q7_4_1.toInt) (L2 := fun z_9 => [some (AR 69), some (AI x1), some (AI x2), some (AI z_7), some (AI z_9)]) E dX2_reachable_23 rfl rfl (by decide) (fun _ => rfl) (by decide) (by omega) (by omega) (fun z_9 hz_9 => ?_)
    refine s_goto (tgt := 7) E dX2_reachable_26 (by decide) ?_
    exact ih7 ⟨z_7, z_9⟩ u_5 ⟨⟨by have hb_ := z32 z_9; omega, by have hb_ := z32 z_9; omega⟩, hj_8⟩ (by first | omega | (dsimp only; omega))
set_option maxRecDepth 20000 in
set_option maxHeartbeats 2000000 in
theorem Z_X9_reach_0 (l : Launch) (D : va_G) (aC : Nat → ClassId) (b : Nat) (w : XW) (x1 : Int32) (x2 : Int32) (hI : Iv w)  : CnI l D aC b M_X9_reach 3 70 0 0 [AR 0, AI x1, AI x2] w (fun r u => ((-2147483648) ≤ r.toInt ∧ r.toInt ≤ 2147483647 ∧ (¬ r.toInt = 0 ∨ (0 ≤ x1.toInt ∧ x1.toInt ≤ 5)) ∧ (¬ r.toInt = 0 ∨ (0 ≤ x2.toInt ∧ x2.toInt ≤ 7)) ∧ (¬ r.toInt = 0 ∨ (1 ≤ (w.2.2.1 5 3).toInt ∧ (w.2.2.1 5 3).toInt ≤ 6)) ∧ (¬ r.toInt = 0 ∨ (1 ≤ (w.2.2.1 2 1).toInt ∧ (w.2.2.1 2 1).toInt ≤ 8))) ∧ Jv w u) := by
  refine cn_I (own := RX9) (nm := "reach") (L0 := [some (AR 0), some (AI x1), some (AI x2)]) (by decide +kernel) rfl rfl (Nat.le_of_ble_eq_true rfl) rfl ?_
  intro p e s m args below meth c E hin
  have hJ : Jv w w := jv_rfl hI
  refine s_aload_n E dX9_reach_0 rfl rfl ?_
  refine s_gR (r := 2) E fg_X9_20 rfl rfl (jv_lt hJ (by decide)) (jv_r hJ (by decide +kernel)) dX9_reach_1 ?_
  refine s_iload_n E dX9_reach_4 rfl rfl ?_
  refine s_vI (As := [AI x1]) (S := []) E (Z_X0_hasLady_2 l D aC b w x1 hJ.1 ) cv_X9_139 rfl rfl rfl (jv_lt hJ (by decide)) (Nat.le_of_ble_eq_true rfl) (Nat.le_of_ble_eq_true rfl) ⟨(Nat.le_of_ble_eq_true rfl), (Nat.le_of_ble_eq_true rfl)⟩ (Nat.le_of_ble_eq_true rfl) dX9_reach_5 (fun z_3 u_1 hp_2 => ?_)
  obtain ⟨hz_3, hp_2⟩ := hp_2
  subst hp_2
  refine z_if_eq (tgt := 22) (u := z_3.toInt) E dX9_reach_8 (by decide) rfl (fun h_5 => ?_) (fun h_5 => ?_)
  ·
    refine s_bipush (v := (-2)) E dX9_reach_22 (by decide) ?_
    exact r_int E dX9_reach_24 ⟨⟨by decide, by decide, by first | (left; decide) | (right; have hb_ := z32 x1; omega), by first | (left; decide) | (right; have hb_ := z32 x2; omega), by first | (left; decide) | (right; have hb_ := z32 (w.2.2.1 5 3); omega), by first | (left; decide) | (right; have hb_ := z32 (w.2.2.1 2 1); omega)⟩, hJ⟩
  ·
    refine s_aload_n E dX9_reach_11 rfl rfl ?_
    refine s_gR (r := 2) E fg_X9_20 rfl rfl (jv_lt hJ (by decide)) (jv_r hJ (by decide +kernel)) dX9_reach_12 ?_
    refine s_iload_n E dX9_reach_15 rfl rfl ?_
    refine s_vI (As := [AI x2]) (S := []) E (Z_X0_hasRoom_2 l D aC b w x2 hJ.1 ) cv_X9_143 rfl rfl rfl (jv_lt hJ (by decide)) (Nat.le_of_ble_eq_true rfl) (Nat.le_of_ble_eq_true rfl) ⟨(Nat.le_of_ble_eq_true rfl), (Nat.le_of_ble_eq_true rfl)⟩ (Nat.le_of_ble_eq_true rfl) dX9_reach_16 (fun z_8 u_6 hp_7 => ?_)
    obtain ⟨hz_8, hp_7⟩ := hp_7
    subst hp_7
    refine z_if_ne (tgt := 25) (u := z_8.toInt) E dX9_reach_19 (by decide) rfl (fun h_10 => ?_) (fun h_10 => ?_)
    ·
      refine s_aload_n E dX9_reach_25 rfl rfl ?_
      refine s_gR (r := 69) E fg_X9_54 rfl rfl (jv_lt hJ (by decide)) (jv_r hJ (by decide +kernel)) dX9_reach_26 ?_
      refine s_iload_n E dX9_reach_29 rfl rfl ?_
      refine s_iload_n E dX9_reach_30 rfl rfl ?_
      refine s_vI (As := [AI x1, AI x2]) (S := []) E (Z_X2_reachable_69 l D aC b w x1 x2 hJ.1 ) cv_X9_150 rfl rfl rfl (jv_lt hJ (by decide)) (Nat.le_of_ble_eq_true rfl) (Nat.le_of_ble_eq_true rfl) ⟨(Nat.le_of_ble_eq_true rfl), (Nat.le_of_ble_eq_true rfl)⟩ (Nat.le_of_ble_eq_true rfl) dX9_reach_31 (fun z_13 u_11 hp_12 => ?_)
      obtain ⟨hz_13, hp_12⟩ := hp_12
      have hj_14 := jv_trans hJ hp_12
      exact r_int E dX9_reach_34 ⟨⟨by have hb_ := z32 z_13; omega, by have hb_ := z32 z_13; omega, by have hb_ := z32 z_13; have hc_ := z32 x1; omega, by have hb_ := z32 z_13; have hc_ := z32 x2; omega, by have hb_ := z32 z_13; have hc_ := z32 (w.2.2.1 5 3); omega, by have hb_ := z32 z_13; have hc_ := z32 (w.2.2.1 2 1); omega⟩, hj_14⟩
    ·
      refine s_bipush (v := (-2)) E dX9_reach_22 (by decide) ?_
      exact r_int E dX9_reach_24 ⟨⟨by decide, by decide, by first | (left; decide) | (right; have hb_ := z32 x1; omega), by first | (left; decide) | (right; have hb_ := z32 x2; omega), by first | (left; decide) | (right; have hb_ := z32 (w.2.2.1 5 3); omega), by first | (left; decide) | (right; have hb_ := z32 (w.2.2.1 2 1); omega)⟩, hJ⟩
set_option maxRecDepth 20000 in
set_option maxHeartbeats 2000000 in
theorem Z_X0_isTold_2 (l : Launch) (D : va_G) (aC : Nat → ClassId) (b : Nat) (w : XW)  (hI : Iv w)  : CnI l D aC b M_X0_isTold 0 0 0 0 [AR 2] w (fun r u => (0 ≤ r.toInt ∧ r.toInt ≤ 1 ∧ (¬ r.toInt = 0 ∨ ((-2147483648) ≤ (w.2.2.1 2 0).toInt ∧ (w.2.2.1 2 0).toInt ≤ 0)) ∧ (r.toInt = 0 ∨ (1 ≤ (w.2.2.1 2 0).toInt ∧ (w.2.2.1 2 0).toInt ≤ 2147483647))) ∧ w = u) := by
  refine cn_I (own := RX0) (nm := "isTold") (L0 := [some (AR 2)]) (by decide +kernel) rfl rfl (Nat.le_of_ble_eq_true rfl) rfl ?_
  intro p e s m args below meth c E hin
  have hJ : Jv w w := jv_rfl hI
  refine s_aload_n E dX0_isTold_0 rfl rfl ?_
  refine s_gI E fg_X0_32 rfl rfl (jv_lt hJ (by decide)) dX0_isTold_1 ?_
  refine z_nm (P := fun z => z.toInt = (w.2.2.1 2 0).toInt) rfl (fun z_1 hz_1 => ?_)
  refine z_if_le (tgt := 11) (u := z_1.toInt) E dX0_isTold_4 (by decide) rfl (fun h_2 => ?_) (fun h_2 => ?_)
  ·
    refine s_iconst (v := 0) E dX0_isTold_11 (by decide) ?_
    exact r_bool E dX0_isTold_12 (Or.inl rfl) ⟨⟨by decide, by decide, by first | (left; decide) | (right; have hb_ := z32 (w.2.2.1 2 0); omega), by first | (left; decide) | (right; have hb_ := z32 (w.2.2.1 2 0); omega)⟩, rfl⟩
  ·
    refine s_iconst (v := 1) E dX0_isTold_7 (by decide) ?_
    refine s_goto (tgt := 12) E dX0_isTold_8 (by decide) ?_
    exact r_bool E dX0_isTold_12 (Or.inr rfl) ⟨⟨by decide, by decide, by first | (left; decide) | (right; have hb_ := z32 (w.2.2.1 2 0); omega), by first | (left; decide) | (right; have hb_ := z32 (w.2.2.1 2 0); omega)⟩, rfl⟩
set_option maxRecDepth 20000 in
set_option maxHeartbeats 2000000 in
theorem Z_X0_hasDance_2 (l : Launch) (D : va_G) (aC : Nat → ClassId) (b : Nat) (w : XW) (x1 : Int32) (hI : Iv w)  : CnI l D aC b M_X0_hasDance 1 20 0 0 [AR 2, AI x1] w (fun r u => (0 ≤ r.toInt ∧ r.toInt ≤ 1 ∧ (r.toInt = 0 ∨ (0 ≤ x1.toInt ∧ x1.toInt ≤ 14)) ∧ (r.toInt = 0 ∨ (1 ≤ (w.2.2.1 2 0).toInt ∧ (w.2.2.1 2 0).toInt ≤ 2147483647))) ∧ w = u) := by
  refine cn_I (own := RX0) (nm := "hasDance") (L0 := [some (AR 2), some (AI x1)]) (by decide +kernel) rfl rfl (Nat.le_of_ble_eq_true rfl) rfl ?_
  intro p e s m args below meth c E hin
  have hJ : Jv w w := jv_rfl hI
  refine s_aload_n E dX0_hasDance_0 rfl rfl ?_
  refine s_vI (As := []) (S := []) E (Z_X0_isTold_2 l D aC b w  hJ.1 ) cv_X0_59 rfl rfl rfl (jv_lt hJ (by decide)) (Nat.le_of_ble_eq_true rfl) (Nat.le_of_ble_eq_true rfl) ⟨(Nat.le_of_ble_eq_true rfl), (Nat.le_of_ble_eq_true rfl)⟩ (Nat.le_of_ble_eq_true rfl) dX0_hasDance_1 (fun z_3 u_1 hp_2 => ?_)
  obtain ⟨hz_3, hp_2⟩ := hp_2
  subst hp_2
  refine z_if_eq (tgt := 23) (u := z_3.toInt) E dX0_hasDance_4 (by decide) rfl (fun h_5 => ?_) (fun h_5 => ?_)
  ·
    refine s_iconst (v := 0) E dX0_hasDance_23 (by decide) ?_
    exact r_bool E dX0_hasDance_24 (Or.inl rfl) ⟨⟨by decide, by decide, by first | (left; decide) | (right; have hb_ := z32 x1; omega), by first | (left; decide) | (right; have hb_ := z32 (w.2.2.1 2 0); omega)⟩, rfl⟩
  ·
    refine s_iload_n E dX0_hasDance_7 rfl rfl ?_
    refine z_if_lt (tgt := 23) (u := x1.toInt) E dX0_hasDance_8 (by decide) rfl (fun h_6 => ?_) (fun h_6 => ?_)
    ·
      refine s_iconst (v := 0) E dX0_hasDance_23 (by decide) ?_
      exact r_bool E dX0_hasDance_24 (Or.inl rfl) ⟨⟨by decide, by decide, by first | (left; decide) | (right; have hb_ := z32 x1; omega), by first | (left; decide) | (right; have hb_ := z32 (w.2.2.1 2 0); omega)⟩, rfl⟩
    ·
      refine s_iload_n E dX0_hasDance_11 rfl rfl ?_
      refine s_aload_n E dX0_hasDance_12 rfl rfl ?_
      refine s_gI E fg_X0_39 rfl rfl (jv_lt hJ (by decide)) dX0_hasDance_13 ?_
      refine z_nm (P := fun z => z.toInt = (w.2.2.1 2 2).toInt ∧ 0 ≤ z.toInt ∧ z.toInt ≤ 14) ⟨rfl, (rg_2_2 hJ)⟩ (fun z_7 hz_7 => ?_)
      refine z_icmp_gt (tgt := 23) (u := x1.toInt) (v := z_7.toInt) E dX0_hasDance_16 (by decide) rfl rfl (fun h_8 => ?_) (fun h_8 => ?_)
      ·
        refine s_iconst (v := 0) E dX0_hasDance_23 (by decide) ?_
        exact r_bool E dX0_hasDance_24 (Or.inl rfl) ⟨⟨by decide, by decide, by first | (left; decide) | (right; have hb_ := z32 x1; omega), by first | (left; decide) | (right; have hb_ := z32 (w.2.2.1 2 0); omega)⟩, rfl⟩
      ·
        refine s_iconst (v := 1) E dX0_hasDance_19 (by decide) ?_
        refine s_goto (tgt := 24) E dX0_hasDance_20 (by decide) ?_
        exact r_bool E dX0_hasDance_24 (Or.inr rfl) ⟨⟨by decide, by decide, by first | (left; decide) | (right; have hb_ := z32 x1; omega), by first | (left; decide) | (right; have hb_ := z32 (w.2.2.1 2 0); omega)⟩, rfl⟩
set_option maxRecDepth 20000 in
set_option maxHeartbeats 2000000 in
theorem Z_X2_isHere_69 (l : Launch) (D : va_G) (aC : Nat → ClassId) (b : Nat) (w : XW) (x1 : Int32) (x2 : Int32) (hI : Iv w)  : CnI l D aC b M_X2_isHere 0 0 0 0 [AR 69, AI x1, AI x2] w (fun r u => (0 ≤ r.toInt ∧ r.toInt ≤ 1 ∧ (r.toInt = 0 ∨ (0 ≤ x1.toInt ∧ x1.toInt ≤ 5)) ∧ (r.toInt = 0 ∨ (0 ≤ x2.toInt ∧ x2.toInt ≤ 14)) ∧ (r.toInt = 0 ∨ (1 ≤ (w.2.2.1 69 5).toInt ∧ (w.2.2.1 69 5).toInt ≤ 6))) ∧ w = u) := by
  refine cn_I (own := RX2) (nm := "isHere") (L0 := [some (AR 69), some (AI x1), some (AI x2)]) (by decide +kernel) rfl rfl (Nat.le_of_ble_eq_true rfl) rfl ?_
  intro p e s m args below meth c E hin
  have hJ : Jv w w := jv_rfl hI
  refine s_iload_n E dX2_isHere_0 rfl rfl ?_
  refine z_if_lt (tgt := 28) (u := x1.toInt) E dX2_isHere_1 (by decide) rfl (fun h_1 => ?_) (fun h_1 => ?_)
  ·
    refine s_iconst (v := 0) E dX2_isHere_28 (by decide) ?_
    exact r_bool E dX2_isHere_29 (Or.inl rfl) ⟨⟨by decide, by decide, by first | (left; decide) | (right; have hb_ := z32 x1; omega), by first | (left; decide) | (right; have hb_ := z32 x2; omega), by first | (left; decide) | (right; have hb_ := z32 (w.2.2.1 69 5); omega)⟩, rfl⟩
  ·
    refine s_iload_n E dX2_isHere_4 rfl rfl ?_
    refine s_aload_n E dX2_isHere_5 rfl rfl ?_
    refine s_gI E fg_X2_35 rfl rfl (jv_lt hJ (by decide)) dX2_isHere_6 ?_
    refine z_nm (P := fun z => z.toInt = (w.2.2.1 69 5).toInt ∧ 0 ≤ z.toInt ∧ z.toInt ≤ 6) ⟨rfl, (rg_69_5 hJ)⟩ (fun z_2 hz_2 => ?_)
    refine z_icmp_ge (tgt := 28) (u := x1.toInt) (v := z_2.toInt) E dX2_isHere_9 (by decide) rfl rfl (fun h_3 => ?_) (fun h_3 => ?_)
    ·
      refine s_iconst (v := 0) E dX2_isHere_28 (by decide) ?_
      exact r_bool E dX2_isHere_29 (Or.inl rfl) ⟨⟨by decide, by decide, by first | (left; decide) | (right; have hb_ := z32 x1; omega), by first | (left; decide) | (right; have hb_ := z32 x2; omega), by first | (left; decide) | (right; have hb_ := z32 (w.2.2.1 69 5); omega)⟩, rfl⟩
    ·
      refine s_iload_n E dX2_isHere_12 rfl rfl ?_
      refine z_if_lt (tgt := 28) (u := x2.toInt) E dX2_isHere_13 (by decide) rfl (fun h_4 => ?_) (fun h_4 => ?_)
      ·
        refine s_iconst (v := 0) E dX2_isHere_28 (by decide) ?_
        exact r_bool E dX2_isHere_29 (Or.inl rfl) ⟨⟨by decide, by decide, by first | (left; decide) | (right; have hb_ := z32 x1; omega), by first | (left; decide) | (right; have hb_ := z32 x2; omega), by first | (left; decide) | (right; have hb_ := z32 (w.2.2.1 69 5); omega)⟩, rfl⟩
      ·
        refine s_iload_n E dX2_isHere_16 rfl rfl ?_
        refine s_aload_n E dX2_isHere_17 rfl rfl ?_
        refine s_gI E fg_X2_67 rfl rfl (jv_lt hJ (by decide)) dX2_isHere_18 ?_
        refine z_nm (P := fun z => z.toInt = (w.2.2.1 69 7).toInt ∧ 0 ≤ z.toInt ∧ z.toInt ≤ 14) ⟨rfl, (rg_69_7 hJ)⟩ (fun z_5 hz_5 => ?_)
        refine z_icmp_gt (tgt := 28) (u := x2.toInt) (v := z_5.toInt) E dX2_isHere_21 (by decide) rfl rfl (fun h_6 => ?_) (fun h_6 => ?_)
        ·
          refine s_iconst (v := 0) E dX2_isHere_28 (by decide) ?_
          exact r_bool E dX2_isHere_29 (Or.inl rfl) ⟨⟨by decide, by decide, by first | (left; decide) | (right; have hb_ := z32 x1; omega), by first | (left; decide) | (right; have hb_ := z32 x2; omega), by first | (left; decide) | (right; have hb_ := z32 (w.2.2.1 69 5); omega)⟩, rfl⟩
        ·
          refine s_iconst (v := 1) E dX2_isHere_24 (by decide) ?_
          refine s_goto (tgt := 29) E dX2_isHere_25 (by decide) ?_
          exact r_bool E dX2_isHere_29 (Or.inr rfl) ⟨⟨by decide, by decide, by first | (left; decide) | (right; have hb_ := z32 x1; omega), by first | (left; decide) | (right; have hb_ := z32 x2; omega), by first | (left; decide) | (right; have hb_ := z32 (w.2.2.1 69 5); omega)⟩, rfl⟩
set_option maxRecDepth 20000 in
set_option maxHeartbeats 2000000 in
theorem Z_X2_goalOf_69 (l : Launch) (D : va_G) (aC : Nat → ClassId) (b : Nat) (w : XW) (x1 : Int32) (x2 : Int32) (hI : Iv w)  : CnI l D aC b M_X2_goalOf 1 22 0 0 [AR 69, AI x1, AI x2] w (fun r u => ((-2147483648) ≤ r.toInt ∧ r.toInt ≤ 2147483647 ∧ (¬ r.toInt = 0 ∨ (0 ≤ x1.toInt ∧ x1.toInt ≤ 5)) ∧ (¬ r.toInt = 0 ∨ (0 ≤ x2.toInt ∧ x2.toInt ≤ 14)) ∧ (¬ r.toInt = 0 ∨ (1 ≤ (w.2.2.1 69 5).toInt ∧ (w.2.2.1 69 5).toInt ≤ 6))) ∧ w = u) := by
  refine cn_I (own := RX2) (nm := "goalOf") (L0 := [some (AR 69), some (AI x1), some (AI x2)]) (by decide +kernel) rfl rfl (Nat.le_of_ble_eq_true rfl) rfl ?_
  intro p e s m args below meth c E hin
  have hJ : Jv w w := jv_rfl hI
  refine s_aload_n E dX2_goalOf_0 rfl rfl ?_
  refine s_iload_n E dX2_goalOf_1 rfl rfl ?_
  refine s_iload_n E dX2_goalOf_2 rfl rfl ?_
  refine s_vI (As := [AI x1, AI x2]) (S := []) E (Z_X2_isHere_69 l D aC b w x1 x2 hJ.1 ) cv_X2_127 rfl rfl rfl (jv_lt hJ (by decide)) (Nat.le_of_ble_eq_true rfl) (Nat.le_of_ble_eq_true rfl) ⟨(Nat.le_of_ble_eq_true rfl), (Nat.le_of_ble_eq_true rfl)⟩ (Nat.le_of_ble_eq_true rfl) dX2_goalOf_3 (fun z_3 u_1 hp_2 => ?_)
  obtain ⟨hz_3, hp_2⟩ := hp_2
  subst hp_2
  refine z_if_eq (tgt := 23) (u := z_3.toInt) E dX2_goalOf_6 (by decide) rfl (fun h_5 => ?_) (fun h_5 => ?_)
  ·
    refine s_iconst (v := (-1)) E dX2_goalOf_23 (by decide) ?_
    exact r_int E dX2_goalOf_24 ⟨⟨by decide, by decide, by first | (left; decide) | (right; have hb_ := z32 x1; omega), by first | (left; decide) | (right; have hb_ := z32 x2; omega), by first | (left; decide) | (right; have hb_ := z32 (w.2.2.1 69 5); omega)⟩, rfl⟩
  ·
    refine s_aload_n E dX2_goalOf_9 rfl rfl ?_
    refine s_gR (r := 71) E fg_X2_15 rfl rfl (jv_lt hJ (by decide)) (jv_r hJ (by decide +kernel)) dX2_goalOf_10 ?_
    refine s_iload_n E dX2_goalOf_13 rfl rfl ?_
    refine s_bipush (v := 15) E dX2_goalOf_14 (by decide) ?_
    refine z_imul (u := x1.toInt) (v := 15) E dX2_goalOf_16 rfl (by decide) (by omega) (by omega) (fun z_6 hz_6 => ?_)
    refine s_iload_n E dX2_goalOf_17 rfl rfl ?_
    refine z_iadd (u := z_6.toInt) (v := x2.toInt) E dX2_goalOf_18 rfl rfl (by omega) (by omega) (fun z_7 hz_7 => ?_)
    refine s_iald E rfl (jv_lt hJ (by decide)) (z_in (u := z_7.toInt) rfl (by omega) (by omega)) dX2_goalOf_19 ?_
    refine z_any (fun z_8 => ?_)
    refine s_goto (tgt := 24) E dX2_goalOf_20 (by decide) ?_
    exact r_int E dX2_goalOf_24 ⟨⟨by have hb_ := z32 z_8; omega, by have hb_ := z32 z_8; omega, by have hb_ := z32 z_8; have hc_ := z32 x1; omega, by have hb_ := z32 z_8; have hc_ := z32 x2; omega, by have hb_ := z32 z_8; have hc_ := z32 (w.2.2.1 69 5); omega⟩, rfl⟩
set_option maxRecDepth 20000 in
set_option maxHeartbeats 2000000 in
theorem Z_X9_bidden_0 (l : Launch) (D : va_G) (aC : Nat → ClassId) (b : Nat) (w : XW) (x1 : Int32) (x2 : Int32) (hI : Iv w)  : CnI l D aC b M_X9_bidden 2 44 0 0 [AR 0, AI x1, AI x2] w (fun r u => ((-2147483648) ≤ r.toInt ∧ r.toInt ≤ 2147483647 ∧ (¬ r.toInt = 0 ∨ (0 ≤ x1.toInt ∧ x1.toInt ≤ 5)) ∧ (¬ r.toInt = 0 ∨ (0 ≤ x2.toInt ∧ x2.toInt ≤ 14)) ∧ (¬ r.toInt = 0 ∨ (1 ≤ (w.2.2.1 5 3).toInt ∧ (w.2.2.1 5 3).toInt ≤ 6)) ∧ (¬ r.toInt = 0 ∨ (1 ≤ (w.2.2.1 2 0).toInt ∧ (w.2.2.1 2 0).toInt ≤ 2147483647)) ∧ (¬ r.toInt = 0 ∨ (1 ≤ (w.2.2.1 69 5).toInt ∧ (w.2.2.1 69 5).toInt ≤ 6))) ∧ w = u) := by
  refine cn_I (own := RX9) (nm := "bidden") (L0 := [some (AR 0), some (AI x1), some (AI x2)]) (by decide +kernel) rfl rfl (Nat.le_of_ble_eq_true rfl) rfl ?_
  intro p e s m args below meth c E hin
  have hJ : Jv w w := jv_rfl hI
  refine s_aload_n E dX9_bidden_0 rfl rfl ?_
  refine s_gR (r := 2) E fg_X9_20 rfl rfl (jv_lt hJ (by decide)) (jv_r hJ (by decide +kernel)) dX9_bidden_1 ?_
  refine s_iload_n E dX9_bidden_4 rfl rfl ?_
  refine s_vI (As := [AI x1]) (S := []) E (Z_X0_hasLady_2 l D aC b w x1 hJ.1 ) cv_X9_139 rfl rfl rfl (jv_lt hJ (by decide)) (Nat.le_of_ble_eq_true rfl) (Nat.le_of_ble_eq_true rfl) ⟨(Nat.le_of_ble_eq_true rfl), (Nat.le_of_ble_eq_true rfl)⟩ (Nat.le_of_ble_eq_true rfl) dX9_bidden_5 (fun z_3 u_1 hp_2 => ?_)
  obtain ⟨hz_3, hp_2⟩ := hp_2
  subst hp_2
  refine z_if_eq (tgt := 22) (u := z_3.toInt) E dX9_bidden_8 (by decide) rfl (fun h_5 => ?_) (fun h_5 => ?_)
  ·
    refine s_bipush (v := (-2)) E dX9_bidden_22 (by decide) ?_
    exact r_int E dX9_bidden_24 ⟨⟨by decide, by decide, by first | (left; decide) | (right; have hb_ := z32 x1; omega), by first | (left; decide) | (right; have hb_ := z32 x2; omega), by first | (left; decide) | (right; have hb_ := z32 (w.2.2.1 5 3); omega), by first | (left; decide) | (right; have hb_ := z32 (w.2.2.1 2 0); omega), by first | (left; decide) | (right; have hb_ := z32 (w.2.2.1 69 5); omega)⟩, rfl⟩
  ·
    refine s_aload_n E dX9_bidden_11 rfl rfl ?_
    refine s_gR (r := 2) E fg_X9_20 rfl rfl (jv_lt hJ (by decide)) (jv_r hJ (by decide +kernel)) dX9_bidden_12 ?_
    refine s_iload_n E dX9_bidden_15 rfl rfl ?_
    refine s_vI (As := [AI x2]) (S := []) E (Z_X0_hasDance_2 l D aC b w x2 hJ.1 ) cv_X9_153 rfl rfl rfl (jv_lt hJ (by decide)) (Nat.le_of_ble_eq_true rfl) (Nat.le_of_ble_eq_true rfl) ⟨(Nat.le_of_ble_eq_true rfl), (Nat.le_of_ble_eq_true rfl)⟩ (Nat.le_of_ble_eq_true rfl) dX9_bidden_16 (fun z_8 u_6 hp_7 => ?_)
    obtain ⟨hz_8, hp_7⟩ := hp_7
    subst hp_7
    refine z_if_ne (tgt := 25) (u := z_8.toInt) E dX9_bidden_19 (by decide) rfl (fun h_10 => ?_) (fun h_10 => ?_)
    ·
      refine s_aload_n E dX9_bidden_25 rfl rfl ?_
      refine s_gR (r := 69) E fg_X9_54 rfl rfl (jv_lt hJ (by decide)) (jv_r hJ (by decide +kernel)) dX9_bidden_26 ?_
      refine s_iload_n E dX9_bidden_29 rfl rfl ?_
      refine s_iload_n E dX9_bidden_30 rfl rfl ?_
      refine s_vI (As := [AI x1, AI x2]) (S := []) E (Z_X2_goalOf_69 l D aC b w x1 x2 hJ.1 ) cv_X9_156 rfl rfl rfl (jv_lt hJ (by decide)) (Nat.le_of_ble_eq_true rfl) (Nat.le_of_ble_eq_true rfl) ⟨(Nat.le_of_ble_eq_true rfl), (Nat.le_of_ble_eq_true rfl)⟩ (Nat.le_of_ble_eq_true rfl) dX9_bidden_31 (fun z_13 u_11 hp_12 => ?_)
      obtain ⟨hz_13, hp_12⟩ := hp_12
      subst hp_12
      exact r_int E dX9_bidden_34 ⟨⟨by have hb_ := z32 z_13; omega, by have hb_ := z32 z_13; omega, by have hb_ := z32 z_13; have hc_ := z32 x1; omega, by have hb_ := z32 z_13; have hc_ := z32 x2; omega, by have hb_ := z32 z_13; have hc_ := z32 (w.2.2.1 5 3); omega, by have hb_ := z32 z_13; have hc_ := z32 (w.2.2.1 2 0); omega, by have hb_ := z32 z_13; have hc_ := z32 (w.2.2.1 69 5); omega⟩, rfl⟩
    ·
      refine s_bipush (v := (-2)) E dX9_bidden_22 (by decide) ?_
      exact r_int E dX9_bidden_24 ⟨⟨by decide, by decide, by first | (left; decide) | (right; have hb_ := z32 x1; omega), by first | (left; decide) | (right; have hb_ := z32 x2; omega), by first | (left; decide) | (right; have hb_ := z32 (w.2.2.1 5 3); omega), by first | (left; decide) | (right; have hb_ := z32 (w.2.2.1 2 0); omega), by first | (left; decide) | (right; have hb_ := z32 (w.2.2.1 69 5); omega)⟩, rfl⟩
set_option maxRecDepth 20000 in
set_option maxHeartbeats 2000000 in
theorem Z_X2_placeOf_69 (l : Launch) (D : va_G) (aC : Nat → ClassId) (b : Nat) (w : XW) (x1 : Int32) (x2 : Int32) (hI : Iv w)  : CnI l D aC b M_X2_placeOf 1 22 0 0 [AR 69, AI x1, AI x2] w (fun r u => ((-2147483648) ≤ r.toInt ∧ r.toInt ≤ 2147483647 ∧ (¬ r.toInt = 0 ∨ (0 ≤ x1.toInt ∧ x1.toInt ≤ 5)) ∧ (¬ r.toInt = 0 ∨ (0 ≤ x2.toInt ∧ x2.toInt ≤ 14)) ∧ (¬ r.toInt = 0 ∨ (1 ≤ (w.2.2.1 69 5).toInt ∧ (w.2.2.1 69 5).toInt ≤ 6))) ∧ w = u) := by
  refine cn_I (own := RX2) (nm := "placeOf") (L0 := [some (AR 69), some (AI x1), some (AI x2)]) (by decide +kernel) rfl rfl (Nat.le_of_ble_eq_true rfl) rfl ?_
  intro p e s m args below meth c E hin
  have hJ : Jv w w := jv_rfl hI
  refine s_aload_n E dX2_placeOf_0 rfl rfl ?_
  refine s_iload_n E dX2_placeOf_1 rfl rfl ?_
  refine s_iload_n E dX2_placeOf_2 rfl rfl ?_
  refine s_vI (As := [AI x1, AI x2]) (S := []) E (Z_X2_isHere_69 l D aC b w x1 x2 hJ.1 ) cv_X2_127 rfl rfl rfl (jv_lt hJ (by decide)) (Nat.le_of_ble_eq_true rfl) (Nat.le_of_ble_eq_true rfl) ⟨(Nat.le_of_ble_eq_true rfl), (Nat.le_of_ble_eq_true rfl)⟩ (Nat.le_of_ble_eq_true rfl) dX2_placeOf_3 (fun z_3 u_1 hp_2 => ?_)
  obtain ⟨hz_3, hp_2⟩ := hp_2
  subst hp_2
  refine z_if_eq (tgt := 23) (u := z_3.toInt) E dX2_placeOf_6 (by decide) rfl (fun h_5 => ?_) (fun h_5 => ?_)
  ·
    refine s_iconst (v := (-1)) E dX2_placeOf_23 (by decide) ?_
    exact r_int E dX2_placeOf_24 ⟨⟨by decide, by decide, by first | (left; decide) | (right; have hb_ := z32 x1; omega), by first | (left; decide) | (right; have hb_ := z32 x2; omega), by first | (left; decide) | (right; have hb_ := z32 (w.2.2.1 69 5); omega)⟩, rfl⟩
  ·
    refine s_aload_n E dX2_placeOf_9 rfl rfl ?_
    refine s_gR (r := 73) E fg_X2_21 rfl rfl (jv_lt hJ (by decide)) (jv_r hJ (by decide +kernel)) dX2_placeOf_10 ?_
    refine s_iload_n E dX2_placeOf_13 rfl rfl ?_
    refine s_bipush (v := 15) E dX2_placeOf_14 (by decide) ?_
    refine z_imul (u := x1.toInt) (v := 15) E dX2_placeOf_16 rfl (by decide) (by omega) (by omega) (fun z_6 hz_6 => ?_)
    refine s_iload_n E dX2_placeOf_17 rfl rfl ?_
    refine z_iadd (u := z_6.toInt) (v := x2.toInt) E dX2_placeOf_18 rfl rfl (by omega) (by omega) (fun z_7 hz_7 => ?_)
    refine s_iald E rfl (jv_lt hJ (by decide)) (z_in (u := z_7.toInt) rfl (by omega) (by omega)) dX2_placeOf_19 ?_
    refine z_any (fun z_8 => ?_)
    refine s_goto (tgt := 24) E dX2_placeOf_20 (by decide) ?_
    exact r_int E dX2_placeOf_24 ⟨⟨by have hb_ := z32 z_8; omega, by have hb_ := z32 z_8; omega, by have hb_ := z32 z_8; have hc_ := z32 x1; omega, by have hb_ := z32 z_8; have hc_ := z32 x2; omega, by have hb_ := z32 z_8; have hc_ := z32 (w.2.2.1 69 5); omega⟩, rfl⟩
set_option maxRecDepth 20000 in
set_option maxHeartbeats 2000000 in
theorem Z_X9_at_0 (l : Launch) (D : va_G) (aC : Nat → ClassId) (b : Nat) (w : XW) (x1 : Int32) (x2 : Int32) (hI : Iv w)  : CnI l D aC b M_X9_at 2 44 0 0 [AR 0, AI x1, AI x2] w (fun r u => ((-2147483648) ≤ r.toInt ∧ r.toInt ≤ 2147483647 ∧ (¬ r.toInt = 0 ∨ (0 ≤ x1.toInt ∧ x1.toInt ≤ 5)) ∧ (¬ r.toInt = 0 ∨ (0 ≤ x2.toInt ∧ x2.toInt ≤ 14)) ∧ (¬ r.toInt = 0 ∨ (1 ≤ (w.2.2.1 5 3).toInt ∧ (w.2.2.1 5 3).toInt ≤ 6)) ∧ (¬ r.toInt = 0 ∨ (1 ≤ (w.2.2.1 2 0).toInt ∧ (w.2.2.1 2 0).toInt ≤ 2147483647)) ∧ (¬ r.toInt = 0 ∨ (1 ≤ (w.2.2.1 69 5).toInt ∧ (w.2.2.1 69 5).toInt ≤ 6))) ∧ w = u) := by
  refine cn_I (own := RX9) (nm := "at") (L0 := [some (AR 0), some (AI x1), some (AI x2)]) (by decide +kernel) rfl rfl (Nat.le_of_ble_eq_true rfl) rfl ?_
  intro p e s m args below meth c E hin
  have hJ : Jv w w := jv_rfl hI
  refine s_aload_n E dX9_at_0 rfl rfl ?_
  refine s_gR (r := 2) E fg_X9_20 rfl rfl (jv_lt hJ (by decide)) (jv_r hJ (by decide +kernel)) dX9_at_1 ?_
  refine s_iload_n E dX9_at_4 rfl rfl ?_
  refine s_vI (As := [AI x1]) (S := []) E (Z_X0_hasLady_2 l D aC b w x1 hJ.1 ) cv_X9_139 rfl rfl rfl (jv_lt hJ (by decide)) (Nat.le_of_ble_eq_true rfl) (Nat.le_of_ble_eq_true rfl) ⟨(Nat.le_of_ble_eq_true rfl), (Nat.le_of_ble_eq_true rfl)⟩ (Nat.le_of_ble_eq_true rfl) dX9_at_5 (fun z_3 u_1 hp_2 => ?_)
  obtain ⟨hz_3, hp_2⟩ := hp_2
  subst hp_2
  refine z_if_eq (tgt := 22) (u := z_3.toInt) E dX9_at_8 (by decide) rfl (fun h_5 => ?_) (fun h_5 => ?_)
  ·
    refine s_bipush (v := (-2)) E dX9_at_22 (by decide) ?_
    exact r_int E dX9_at_24 ⟨⟨by decide, by decide, by first | (left; decide) | (right; have hb_ := z32 x1; omega), by first | (left; decide) | (right; have hb_ := z32 x2; omega), by first | (left; decide) | (right; have hb_ := z32 (w.2.2.1 5 3); omega), by first | (left; decide) | (right; have hb_ := z32 (w.2.2.1 2 0); omega), by first | (left; decide) | (right; have hb_ := z32 (w.2.2.1 69 5); omega)⟩, rfl⟩
  ·
    refine s_aload_n E dX9_at_11 rfl rfl ?_
    refine s_gR (r := 2) E fg_X9_20 rfl rfl (jv_lt hJ (by decide)) (jv_r hJ (by decide +kernel)) dX9_at_12 ?_
    refine s_iload_n E dX9_at_15 rfl rfl ?_
    refine s_vI (As := [AI x2]) (S := []) E (Z_X0_hasDance_2 l D aC b w x2 hJ.1 ) cv_X9_153 rfl rfl rfl (jv_lt hJ (by decide)) (Nat.le_of_ble_eq_true rfl) (Nat.le_of_ble_eq_true rfl) ⟨(Nat.le_of_ble_eq_true rfl), (Nat.le_of_ble_eq_true rfl)⟩ (Nat.le_of_ble_eq_true rfl) dX9_at_16 (fun z_8 u_6 hp_7 => ?_)
    obtain ⟨hz_8, hp_7⟩ := hp_7
    subst hp_7
    refine z_if_ne (tgt := 25) (u := z_8.toInt) E dX9_at_19 (by decide) rfl (fun h_10 => ?_) (fun h_10 => ?_)
    ·
      refine s_aload_n E dX9_at_25 rfl rfl ?_
      refine s_gR (r := 69) E fg_X9_54 rfl rfl (jv_lt hJ (by decide)) (jv_r hJ (by decide +kernel)) dX9_at_26 ?_
      refine s_iload_n E dX9_at_29 rfl rfl ?_
      refine s_iload_n E dX9_at_30 rfl rfl ?_
      refine s_vI (As := [AI x1, AI x2]) (S := []) E (Z_X2_placeOf_69 l D aC b w x1 x2 hJ.1 ) cv_X9_159 rfl rfl rfl (jv_lt hJ (by decide)) (Nat.le_of_ble_eq_true rfl) (Nat.le_of_ble_eq_true rfl) ⟨(Nat.le_of_ble_eq_true rfl), (Nat.le_of_ble_eq_true rfl)⟩ (Nat.le_of_ble_eq_true rfl) dX9_at_31 (fun z_13 u_11 hp_12 => ?_)
      obtain ⟨hz_13, hp_12⟩ := hp_12
      subst hp_12
      exact r_int E dX9_at_34 ⟨⟨by have hb_ := z32 z_13; omega, by have hb_ := z32 z_13; omega, by have hb_ := z32 z_13; have hc_ := z32 x1; omega, by have hb_ := z32 z_13; have hc_ := z32 x2; omega, by have hb_ := z32 z_13; have hc_ := z32 (w.2.2.1 5 3); omega, by have hb_ := z32 z_13; have hc_ := z32 (w.2.2.1 2 0); omega, by have hb_ := z32 z_13; have hc_ := z32 (w.2.2.1 69 5); omega⟩, rfl⟩
    ·
      refine s_bipush (v := (-2)) E dX9_at_22 (by decide) ?_
      exact r_int E dX9_at_24 ⟨⟨by decide, by decide, by first | (left; decide) | (right; have hb_ := z32 x1; omega), by first | (left; decide) | (right; have hb_ := z32 x2; omega), by first | (left; decide) | (right; have hb_ := z32 (w.2.2.1 5 3); omega), by first | (left; decide) | (right; have hb_ := z32 (w.2.2.1 2 0); omega), by first | (left; decide) | (right; have hb_ := z32 (w.2.2.1 69 5); omega)⟩, rfl⟩
set_option maxRecDepth 20000 in
set_option maxHeartbeats 2000000 in
theorem Z_X2_ladiesIn_69 (l : Launch) (D : va_G) (aC : Nat → ClassId) (b : Nat) (w : XW) (x1 : Int32) (x2 : Int32) (hI : Iv w)  : CnI l D aC b M_X2_ladiesIn 2 44 0 0 [AR 69, AI x1, AI x2] w (fun r u => ((-2147483648) ≤ r.toInt ∧ r.toInt ≤ 2147483647) ∧ Jv w u) := by
  refine cn_I (own := RX2) (nm := "ladiesIn") (L0 := [some (AR 69), some (AI x1), some (AI x2), none, none]) (by decide +kernel) rfl rfl (Nat.le_of_ble_eq_true rfl) rfl ?_
  intro p e s m args below meth c E hin
  have hJ : Jv w w := jv_rfl hI
  refine s_iconst (v := 0) E dX2_ladiesIn_0 (by decide) ?_
  refine s_istore_n (L2 := [some (AR 69), some (AI x1), some (AI x2), some (AI 0), none]) E dX2_ladiesIn_1 rfl (by decide) rfl ?_
  refine s_iconst (v := 0) E dX2_ladiesIn_2 (by decide) ?_
  refine s_istore (L2 := [some (AR 69), some (AI x1), some (AI x2), some (AI 0), some (AI 0)]) E dX2_ladiesIn_3 (by decide) rfl ?_
  refine z_loop (St := Int32 × Int32) (Pi := fun ⟨q5_3_0, q5_4_0⟩ v5 => (0 ≤ q5_4_0.toInt ∧ q5_4_0.toInt ≤ 6) ∧ Jv w v5) (Lf := fun ⟨q5_3_0, q5_4_0⟩ => [some (AR 69), some (AI x1), some (AI x2), some (AI q5_3_0), some (AI q5_4_0)]) (fun ⟨q5_3_0, q5_4_0⟩ _ => (7 - q5_4_0.toInt).toNat) ⟨0, 0⟩ ⟨⟨by decide, by decide⟩, hJ⟩ ?_
  rintro ⟨q5_3_0, q5_4_0⟩ v5 ⟨hq5_4, hj_1⟩ ih5
  refine s_loc (L2 := [some (AR 69), some (AI x1), some (AI x2), some (AI q5_3_0), some (AI q5_4_0)]) rfl ?_
  refine s_iload E dX2_ladiesIn_5 rfl ?_
  refine s_aload_n E dX2_ladiesIn_7 rfl rfl ?_
  refine s_gI E fg_X2_35 rfl rfl (jv_lt hj_1 (by decide)) dX2_ladiesIn_8 ?_
  refine z_nm (P := fun z => z.toInt = (v5.2.2.1 69 5).toInt ∧ 0 ≤ z.toInt ∧ z.toInt ≤ 6) ⟨rfl, (rg_69_5 hj_1)⟩ (fun z_2 hz_2 => ?_)
  refine z_icmp_ge (tgt := 38) (u := q5_4_0.toInt) (v := z_2.toInt) E dX2_ladiesIn_11 (by decide) rfl rfl (fun h_3 => ?_) (fun h_3 => ?_)
  ·
    refine s_iload_n E dX2_ladiesIn_38 rfl rfl ?_
    exact r_int E dX2_ladiesIn_39 ⟨⟨by have hb_ := z32 q5_3_0; omega, by have hb_ := z32 q5_3_0; omega⟩, hj_1⟩
  ·
    refine s_aload_n E dX2_ladiesIn_14 rfl rfl ?_
    refine s_iload E dX2_ladiesIn_15 rfl ?_
    refine s_iload_n E dX2_ladiesIn_17 rfl rfl ?_
    refine s_vI (As := [AI q5_4_0, AI x2]) (S := []) E (Z_X2_placeOf_69 l D aC b v5 q5_4_0 x2 hj_1.1 ) cv_X2_111 rfl rfl rfl (jv_lt hj_1 (by decide)) (Nat.le_of_ble_eq_true rfl) (Nat.le_of_ble_eq_true rfl) ⟨(Nat.le_of_ble_eq_true rfl), (Nat.le_of_ble_eq_true rfl)⟩ (Nat.le_of_ble_eq_true rfl) dX2_ladiesIn_18 (fun z_6 u_4 hp_5 => ?_)
    obtain ⟨hz_6, hp_5⟩ := hp_5
    subst hp_5
    refine s_iload_n E dX2_ladiesIn_21 rfl rfl ?_
    refine z_icmp_ne (tgt := 32) (u := z_6.toInt) (v := x1.toInt) E dX2_ladiesIn_22 (by decide) rfl rfl (fun h_8 => ?_) (fun h_8 => ?_)
    ·
      refine z_iinc (u := q5_4_0.toInt) (L2 := fun z_9 => [some (AR 69), some (AI x1), some (AI x2), some (AI q5_3_0), some (AI z_9)]) E dX2_ladiesIn_32 rfl rfl (by decide) (fun _ => rfl) (by decide) (by omega) (by omega) (fun z_9 hz_9 => ?_)
      refine s_goto (tgt := 5) E dX2_ladiesIn_35 (by decide) ?_
      exact ih5 ⟨q5_3_0, z_9⟩ v5 ⟨⟨by have hb_ := z32 z_9; omega, by have hb_ := z32 z_9; omega⟩, hj_1⟩ (by first | omega | (dsimp only; omega))
    ·
      refine s_iload_n E dX2_ladiesIn_25 rfl rfl ?_
      refine s_iconst (v := 1) E dX2_ladiesIn_26 (by decide) ?_
      refine s_iload E dX2_ladiesIn_27 rfl ?_
      refine z_shl1 5 (u := q5_4_0.toInt) (B := 32) E dX2_ladiesIn_29 rfl (by omega) (by omega) (by decide) (by decide) (fun z_10 hz_10 => ?_)
      refine s_ior E dX2_ladiesIn_30 ?_
      refine z_any (fun z_11 => ?_)
      refine s_istore_n (L2 := [some (AR 69), some (AI x1), some (AI x2), some (AI z_11), some (AI q5_4_0)]) E dX2_ladiesIn_31 rfl (by decide) rfl ?_
      refine z_iinc (u := q5_4_0.toInt) (L2 := fun z_12 => [some (AR 69), some (AI x1), some (AI x2), some (AI z_11), some (AI z_12)]) E dX2_ladiesIn_32 rfl rfl (by decide) (fun _ => rfl) (by decide) (by omega) (by omega) (fun z_12 hz_12 => ?_)
      refine s_goto (tgt := 5) E dX2_ladiesIn_35 (by decide) ?_
      exact ih5 ⟨z_11, z_12⟩ v5 ⟨⟨by have hb_ := z32 z_12; omega, by have hb_ := z32 z_12; omega⟩, hj_1⟩ (by first | omega | (dsimp only; omega))
set_option maxRecDepth 20000 in
set_option maxHeartbeats 2000000 in
theorem Z_X9_within_0 (l : Launch) (D : va_G) (aC : Nat → ClassId) (b : Nat) (w : XW) (x1 : Int32) (x2 : Int32) (hI : Iv w)  : CnI l D aC b M_X9_within 3 68 0 0 [AR 0, AI x1, AI x2] w (fun r u => ((-2147483648) ≤ r.toInt ∧ r.toInt ≤ 2147483647 ∧ (¬ r.toInt = 0 ∨ (0 ≤ x1.toInt ∧ x1.toInt ≤ 7)) ∧ (¬ r.toInt = 0 ∨ (0 ≤ x2.toInt ∧ x2.toInt ≤ 14)) ∧ (¬ r.toInt = 0 ∨ (1 ≤ (w.2.2.1 2 1).toInt ∧ (w.2.2.1 2 1).toInt ≤ 8)) ∧ (¬ r.toInt = 0 ∨ (1 ≤ (w.2.2.1 2 0).toInt ∧ (w.2.2.1 2 0).toInt ≤ 2147483647))) ∧ Jv w u) := by
  refine cn_I (own := RX9) (nm := "within") (L0 := [some (AR 0), some (AI x1), some (AI x2)]) (by decide +kernel) rfl rfl (Nat.le_of_ble_eq_true rfl) rfl ?_
  intro p e s m args below meth c E hin
  have hJ : Jv w w := jv_rfl hI
  refine s_aload_n E dX9_within_0 rfl rfl ?_
  refine s_gR (r := 2) E fg_X9_20 rfl rfl (jv_lt hJ (by decide)) (jv_r hJ (by decide +kernel)) dX9_within_1 ?_
  refine s_iload_n E dX9_within_4 rfl rfl ?_
  refine s_vI (As := [AI x1]) (S := []) E (Z_X0_hasRoom_2 l D aC b w x1 hJ.1 ) cv_X9_143 rfl rfl rfl (jv_lt hJ (by decide)) (Nat.le_of_ble_eq_true rfl) (Nat.le_of_ble_eq_true rfl) ⟨(Nat.le_of_ble_eq_true rfl), (Nat.le_of_ble_eq_true rfl)⟩ (Nat.le_of_ble_eq_true rfl) dX9_within_5 (fun z_3 u_1 hp_2 => ?_)
  obtain ⟨hz_3, hp_2⟩ := hp_2
  subst hp_2
  refine z_if_eq (tgt := 22) (u := z_3.toInt) E dX9_within_8 (by decide) rfl (fun h_5 => ?_) (fun h_5 => ?_)
  ·
    refine s_bipush (v := (-2)) E dX9_within_22 (by decide) ?_
    exact r_int E dX9_within_24 ⟨⟨by decide, by decide, by first | (left; decide) | (right; have hb_ := z32 x1; omega), by first | (left; decide) | (right; have hb_ := z32 x2; omega), by first | (left; decide) | (right; have hb_ := z32 (w.2.2.1 2 1); omega), by first | (left; decide) | (right; have hb_ := z32 (w.2.2.1 2 0); omega)⟩, hJ⟩
  ·
    refine s_aload_n E dX9_within_11 rfl rfl ?_
    refine s_gR (r := 2) E fg_X9_20 rfl rfl (jv_lt hJ (by decide)) (jv_r hJ (by decide +kernel)) dX9_within_12 ?_
    refine s_iload_n E dX9_within_15 rfl rfl ?_
    refine s_vI (As := [AI x2]) (S := []) E (Z_X0_hasDance_2 l D aC b w x2 hJ.1 ) cv_X9_153 rfl rfl rfl (jv_lt hJ (by decide)) (Nat.le_of_ble_eq_true rfl) (Nat.le_of_ble_eq_true rfl) ⟨(Nat.le_of_ble_eq_true rfl), (Nat.le_of_ble_eq_true rfl)⟩ (Nat.le_of_ble_eq_true rfl) dX9_within_16 (fun z_8 u_6 hp_7 => ?_)
    obtain ⟨hz_8, hp_7⟩ := hp_7
    subst hp_7
    refine z_if_ne (tgt := 25) (u := z_8.toInt) E dX9_within_19 (by decide) rfl (fun h_10 => ?_) (fun h_10 => ?_)
    ·
      refine s_aload_n E dX9_within_25 rfl rfl ?_
      refine s_gR (r := 69) E fg_X9_54 rfl rfl (jv_lt hJ (by decide)) (jv_r hJ (by decide +kernel)) dX9_within_26 ?_
      refine s_iload_n E dX9_within_29 rfl rfl ?_
      refine s_iload_n E dX9_within_30 rfl rfl ?_
      refine s_vI (As := [AI x1, AI x2]) (S := []) E (Z_X2_ladiesIn_69 l D aC b w x1 x2 hJ.1 ) cv_X9_162 rfl rfl rfl (jv_lt hJ (by decide)) (Nat.le_of_ble_eq_true rfl) (Nat.le_of_ble_eq_true rfl) ⟨(Nat.le_of_ble_eq_true rfl), (Nat.le_of_ble_eq_true rfl)⟩ (Nat.le_of_ble_eq_true rfl) dX9_within_31 (fun z_13 u_11 hp_12 => ?_)
      obtain ⟨hz_13, hp_12⟩ := hp_12
      have hj_14 := jv_trans hJ hp_12
      exact r_int E dX9_within_34 ⟨⟨by have hb_ := z32 z_13; omega, by have hb_ := z32 z_13; omega, by have hb_ := z32 z_13; have hc_ := z32 x1; omega, by have hb_ := z32 z_13; have hc_ := z32 x2; omega, by have hb_ := z32 z_13; have hc_ := z32 (w.2.2.1 2 1); omega, by have hb_ := z32 z_13; have hc_ := z32 (w.2.2.1 2 0); omega⟩, hj_14⟩
    ·
      refine s_bipush (v := (-2)) E dX9_within_22 (by decide) ?_
      exact r_int E dX9_within_24 ⟨⟨by decide, by decide, by first | (left; decide) | (right; have hb_ := z32 x1; omega), by first | (left; decide) | (right; have hb_ := z32 x2; omega), by first | (left; decide) | (right; have hb_ := z32 (w.2.2.1 2 1); omega), by first | (left; decide) | (right; have hb_ := z32 (w.2.2.1 2 0); omega)⟩, hJ⟩
set_option maxRecDepth 20000 in
set_option maxHeartbeats 2000000 in
theorem Z_X2_stepsOf_69 (l : Launch) (D : va_G) (aC : Nat → ClassId) (b : Nat) (w : XW) (x1 : Int32) (hI : Iv w)  : CnI l D aC b M_X2_stepsOf 2 44 0 0 [AR 69, AI x1] w (fun r u => ((-2147483648) ≤ r.toInt ∧ r.toInt ≤ 2147483647) ∧ Jv w u) := by
  refine cn_I (own := RX2) (nm := "stepsOf") (L0 := [some (AR 69), some (AI x1), none, none]) (by decide +kernel) rfl rfl (Nat.le_of_ble_eq_true rfl) rfl ?_
  intro p e s m args below meth c E hin
  have hJ : Jv w w := jv_rfl hI
  refine s_iconst (v := 0) E dX2_stepsOf_0 (by decide) ?_
  refine s_istore_n (L2 := [some (AR 69), some (AI x1), some (AI 0), none]) E dX2_stepsOf_1 rfl (by decide) rfl ?_
  refine s_iconst (v := 1) E dX2_stepsOf_2 (by decide) ?_
  refine s_istore_n (L2 := [some (AR 69), some (AI x1), some (AI 0), some (AI 1)]) E dX2_stepsOf_3 rfl (by decide) rfl ?_
  refine z_loop (St := Int32 × Int32) (Pi := fun ⟨q4_2_0, q4_3_0⟩ v4 => (1 ≤ q4_3_0.toInt ∧ q4_3_0.toInt ≤ 15) ∧ Jv w v4) (Lf := fun ⟨q4_2_0, q4_3_0⟩ => [some (AR 69), some (AI x1), some (AI q4_2_0), some (AI q4_3_0)]) (fun ⟨q4_2_0, q4_3_0⟩ _ => (16 - q4_3_0.toInt).toNat) ⟨0, 1⟩ ⟨⟨by decide, by decide⟩, hJ⟩ ?_
  rintro ⟨q4_2_0, q4_3_0⟩ v4 ⟨hq4_3, hj_1⟩ ih4
  refine s_loc (L2 := [some (AR 69), some (AI x1), some (AI q4_2_0), some (AI q4_3_0)]) rfl ?_
  refine s_iload_n E dX2_stepsOf_4 rfl rfl ?_
  refine s_aload_n E dX2_stepsOf_5 rfl rfl ?_
  refine s_gI E fg_X2_67 rfl rfl (jv_lt hj_1 (by decide)) dX2_stepsOf_6 ?_
  refine z_nm (P := fun z => z.toInt = (v4.2.2.1 69 7).toInt ∧ 0 ≤ z.toInt ∧ z.toInt ≤ 14) ⟨rfl, (rg_69_7 hj_1)⟩ (fun z_2 hz_2 => ?_)
  refine z_icmp_gt (tgt := 38) (u := q4_3_0.toInt) (v := z_2.toInt) E dX2_stepsOf_9 (by decide) rfl rfl (fun h_3 => ?_) (fun h_3 => ?_)
  ·
    refine s_iload_n E dX2_stepsOf_38 rfl rfl ?_
    exact r_int E dX2_stepsOf_39 ⟨⟨by have hb_ := z32 q4_2_0; omega, by have hb_ := z32 q4_2_0; omega⟩, hj_1⟩
  ·
    refine s_aload_n E dX2_stepsOf_12 rfl rfl ?_
    refine s_iload_n E dX2_stepsOf_13 rfl rfl ?_
    refine s_iload_n E dX2_stepsOf_14 rfl rfl ?_
    refine s_vI (As := [AI x1, AI q4_3_0]) (S := []) E (Z_X2_placeOf_69 l D aC b v4 x1 q4_3_0 hj_1.1 ) cv_X2_111 rfl rfl rfl (jv_lt hj_1 (by decide)) (Nat.le_of_ble_eq_true rfl) (Nat.le_of_ble_eq_true rfl) ⟨(Nat.le_of_ble_eq_true rfl), (Nat.le_of_ble_eq_true rfl)⟩ (Nat.le_of_ble_eq_true rfl) dX2_stepsOf_15 (fun z_6 u_4 hp_5 => ?_)
    obtain ⟨hz_6, hp_5⟩ := hp_5
    subst hp_5
    refine s_aload_n E dX2_stepsOf_18 rfl rfl ?_
    refine s_iload_n E dX2_stepsOf_19 rfl rfl ?_
    refine s_iload_n E dX2_stepsOf_20 rfl rfl ?_
    refine s_iconst (v := 1) E dX2_stepsOf_21 (by decide) ?_
    refine z_isub (u := q4_3_0.toInt) (v := 1) E dX2_stepsOf_22 rfl (by decide) (by omega) (by omega) (fun z_8 hz_8 => ?_)
    refine s_vI (As := [AI x1, AI z_8]) (S := [AI z_6]) E (Z_X2_placeOf_69 l D aC b v4 x1 z_8 hj_1.1 ) cv_X2_111 rfl rfl rfl (jv_lt hj_1 (by decide)) (Nat.le_of_ble_eq_true rfl) (Nat.le_of_ble_eq_true rfl) ⟨(Nat.le_of_ble_eq_true rfl), (Nat.le_of_ble_eq_true rfl)⟩ (Nat.le_of_ble_eq_true rfl) dX2_stepsOf_23 (fun z_11 u_9 hp_10 => ?_)
    obtain ⟨hz_11, hp_10⟩ := hp_10
    subst hp_10
    refine z_icmp_eq (tgt := 32) (u := z_6.toInt) (v := z_11.toInt) E dX2_stepsOf_26 (by decide) rfl rfl (fun h_13 => ?_) (fun h_13 => ?_)
    ·
      refine z_iinc (u := q4_3_0.toInt) (L2 := fun z_14 => [some (AR 69), some (AI x1), some (AI q4_2_0), some (AI z_14)]) E dX2_stepsOf_32 rfl rfl (by decide) (fun _ => rfl) (by decide) (by omega) (by omega) (fun z_14 hz_14 => ?_)
      refine s_goto (tgt := 4) E dX2_stepsOf_35 (by decide) ?_
      exact ih4 ⟨q4_2_0, z_14⟩ v4 ⟨⟨by have hb_ := z32 z_14; omega, by have hb_ := z32 z_14; omega⟩, hj_1⟩ (by first | omega | (dsimp only; omega))
    ·
      refine z_iincW (L2 := fun z_15 => [some (AR 69), some (AI x1), some (AI z_15), some (AI q4_3_0)]) E dX2_stepsOf_29 rfl (by decide) (fun _ => rfl) (fun z_15 => ?_)
      refine z_iinc (u := q4_3_0.toInt) (L2 := fun z_16 => [some (AR 69), some (AI x1), some (AI z_15), some (AI z_16)]) E dX2_stepsOf_32 rfl rfl (by decide) (fun _ => rfl) (by decide) (by omega) (by omega) (fun z_16 hz_16 => ?_)
      refine s_goto (tgt := 4) E dX2_stepsOf_35 (by decide) ?_
      exact ih4 ⟨z_15, z_16⟩ v4 ⟨⟨by have hb_ := z32 z_16; omega, by have hb_ := z32 z_16; omega⟩, hj_1⟩ (by first | omega | (dsimp only; omega))
set_option maxRecDepth 20000 in
set_option maxHeartbeats 2000000 in
theorem Z_X9_steps_0 (l : Launch) (D : va_G) (aC : Nat → ClassId) (b : Nat) (w : XW) (x1 : Int32) (hI : Iv w)  : CnI l D aC b M_X9_steps 3 67 0 0 [AR 0, AI x1] w (fun r u => ((-2147483648) ≤ r.toInt ∧ r.toInt ≤ 2147483647 ∧ (¬ r.toInt = 0 ∨ (0 ≤ x1.toInt ∧ x1.toInt ≤ 5)) ∧ (¬ r.toInt = 0 ∨ (1 ≤ (w.2.2.1 5 3).toInt ∧ (w.2.2.1 5 3).toInt ≤ 6))) ∧ Jv w u) := by
  refine cn_I (own := RX9) (nm := "steps") (L0 := [some (AR 0), some (AI x1)]) (by decide +kernel) rfl rfl (Nat.le_of_ble_eq_true rfl) rfl ?_
  intro p e s m args below meth c E hin
  have hJ : Jv w w := jv_rfl hI
  refine s_aload_n E dX9_steps_0 rfl rfl ?_
  refine s_gR (r := 2) E fg_X9_20 rfl rfl (jv_lt hJ (by decide)) (jv_r hJ (by decide +kernel)) dX9_steps_1 ?_
  refine s_iload_n E dX9_steps_4 rfl rfl ?_
  refine s_vI (As := [AI x1]) (S := []) E (Z_X0_hasLady_2 l D aC b w x1 hJ.1 ) cv_X9_139 rfl rfl rfl (jv_lt hJ (by decide)) (Nat.le_of_ble_eq_true rfl) (Nat.le_of_ble_eq_true rfl) ⟨(Nat.le_of_ble_eq_true rfl), (Nat.le_of_ble_eq_true rfl)⟩ (Nat.le_of_ble_eq_true rfl) dX9_steps_5 (fun z_3 u_1 hp_2 => ?_)
  obtain ⟨hz_3, hp_2⟩ := hp_2
  subst hp_2
  refine z_if_eq (tgt := 22) (u := z_3.toInt) E dX9_steps_8 (by decide) rfl (fun h_5 => ?_) (fun h_5 => ?_)
  ·
    refine s_bipush (v := (-2)) E dX9_steps_22 (by decide) ?_
    exact r_int E dX9_steps_24 ⟨⟨by decide, by decide, by first | (left; decide) | (right; have hb_ := z32 x1; omega), by first | (left; decide) | (right; have hb_ := z32 (w.2.2.1 5 3); omega)⟩, hJ⟩
  ·
    refine s_aload_n E dX9_steps_11 rfl rfl ?_
    refine s_gR (r := 69) E fg_X9_54 rfl rfl (jv_lt hJ (by decide)) (jv_r hJ (by decide +kernel)) dX9_steps_12 ?_
    refine s_iload_n E dX9_steps_15 rfl rfl ?_
    refine s_vI (As := [AI x1]) (S := []) E (Z_X2_stepsOf_69 l D aC b w x1 hJ.1 ) cv_X9_165 rfl rfl rfl (jv_lt hJ (by decide)) (Nat.le_of_ble_eq_true rfl) (Nat.le_of_ble_eq_true rfl) ⟨(Nat.le_of_ble_eq_true rfl), (Nat.le_of_ble_eq_true rfl)⟩ (Nat.le_of_ble_eq_true rfl) dX9_steps_16 (fun z_8 u_6 hp_7 => ?_)
    obtain ⟨hz_8, hp_7⟩ := hp_7
    have hj_9 := jv_trans hJ hp_7
    refine s_goto (tgt := 24) E dX9_steps_19 (by decide) ?_
    exact r_int E dX9_steps_24 ⟨⟨by have hb_ := z32 z_8; omega, by have hb_ := z32 z_8; omega, by have hb_ := z32 z_8; have hc_ := z32 x1; omega, by have hb_ := z32 z_8; have hc_ := z32 (w.2.2.1 5 3); omega⟩, hj_9⟩
set_option maxRecDepth 20000 in
set_option maxHeartbeats 2000000 in
theorem Z_X9_sees_0 (l : Launch) (D : va_G) (aC : Nat → ClassId) (b : Nat) (w : XW) (x1 : Int32) (hI : Iv w)  : CnI l D aC b M_X9_sees 2 44 0 0 [AR 0, AI x1] w (fun r u => ((-2147483648) ≤ r.toInt ∧ r.toInt ≤ 2147483647 ∧ (¬ r.toInt = 0 ∨ (0 ≤ x1.toInt ∧ x1.toInt ≤ 5)) ∧ (¬ r.toInt = 0 ∨ (1 ≤ (w.2.2.1 5 3).toInt ∧ (w.2.2.1 5 3).toInt ≤ 6))) ∧ Jv w u) := by
  refine cn_I (own := RX9) (nm := "sees") (L0 := [some (AR 0), some (AI x1), none, none]) (by decide +kernel) rfl rfl (Nat.le_of_ble_eq_true rfl) rfl ?_
  intro p e s m args below meth c E hin
  have hJ : Jv w w := jv_rfl hI
  refine s_aload_n E dX9_sees_0 rfl rfl ?_
  refine s_gR (r := 2) E fg_X9_20 rfl rfl (jv_lt hJ (by decide)) (jv_r hJ (by decide +kernel)) dX9_sees_1 ?_
  refine s_iload_n E dX9_sees_4 rfl rfl ?_
  refine s_vI (As := [AI x1]) (S := []) E (Z_X0_hasLady_2 l D aC b w x1 hJ.1 ) cv_X9_139 rfl rfl rfl (jv_lt hJ (by decide)) (Nat.le_of_ble_eq_true rfl) (Nat.le_of_ble_eq_true rfl) ⟨(Nat.le_of_ble_eq_true rfl), (Nat.le_of_ble_eq_true rfl)⟩ (Nat.le_of_ble_eq_true rfl) dX9_sees_5 (fun z_3 u_1 hp_2 => ?_)
  obtain ⟨hz_3, hp_2⟩ := hp_2
  subst hp_2
  refine z_if_ne (tgt := 14) (u := z_3.toInt) E dX9_sees_8 (by decide) rfl (fun h_5 => ?_) (fun h_5 => ?_)
  ·
    refine s_iconst (v := 0) E dX9_sees_14 (by decide) ?_
    refine s_istore_n (L2 := [some (AR 0), some (AI x1), some (AI 0), none]) E dX9_sees_15 rfl (by decide) rfl ?_
    refine s_iconst (v := 0) E dX9_sees_16 (by decide) ?_
    refine s_istore_n (L2 := [some (AR 0), some (AI x1), some (AI 0), some (AI 0)]) E dX9_sees_17 rfl (by decide) rfl ?_
    refine z_loop (St := Int32 × Int32) (Pi := fun ⟨q18_2_5, q18_3_5⟩ v18 => (0 ≤ q18_3_5.toInt ∧ q18_3_5.toInt ≤ 15) ∧ (1 ≤ (v18.2.2.1 5 3).toInt ∧ (v18.2.2.1 5 3).toInt ≤ 6) ∧ Jv w v18) (Lf := fun ⟨q18_2_5, q18_3_5⟩ => [some (AR 0), some (AI x1), some (AI q18_2_5), some (AI q18_3_5)]) (fun ⟨q18_2_5, q18_3_5⟩ _ => (16 - q18_3_5.toInt).toNat) ⟨0, 0⟩ ⟨⟨by decide, by decide⟩, ⟨by omega, by omega⟩, hJ⟩ ?_
    rintro ⟨q18_2_5, q18_3_5⟩ v18 ⟨hq18_3, ha18_0, hj_6⟩ ih18
    refine s_loc (L2 := [some (AR 0), some (AI x1), some (AI q18_2_5), some (AI q18_3_5)]) rfl ?_
    refine s_iload_n E dX9_sees_18 rfl rfl ?_
    refine s_aload_n E dX9_sees_19 rfl rfl ?_
    refine s_gR (r := 2) E fg_X9_20 rfl rfl (jv_lt hj_6 (by decide)) (jv_r hj_6 (by decide +kernel)) dX9_sees_20 ?_
    refine s_gI E fg_X9_169 rfl rfl (jv_lt hj_6 (by decide)) dX9_sees_23 ?_
    refine z_nm (P := fun z => z.toInt = (v18.2.2.1 2 2).toInt ∧ 0 ≤ z.toInt ∧ z.toInt ≤ 14) ⟨rfl, (rg_2_2 hj_6)⟩ (fun z_7 hz_7 => ?_)
    refine z_icmp_gt (tgt := 49) (u := q18_3_5.toInt) (v := z_7.toInt) E dX9_sees_26 (by decide) rfl rfl (fun h_8 => ?_) (fun h_8 => ?_)
    ·
      refine s_iload_n E dX9_sees_49 rfl rfl ?_
      exact r_int E dX9_sees_50 ⟨⟨by have hb_ := z32 q18_2_5; omega, by have hb_ := z32 q18_2_5; omega, by have hb_ := z32 q18_2_5; have hc_ := z32 x1; omega, by have hb_ := z32 q18_2_5; have hc_ := z32 (w.2.2.1 5 3); omega⟩, hj_6⟩
    ·
      refine s_iload_n E dX9_sees_29 rfl rfl ?_
      refine s_iconst (v := 1) E dX9_sees_30 (by decide) ?_
      refine s_aload_n E dX9_sees_31 rfl rfl ?_
      refine s_gR (r := 69) E fg_X9_54 rfl rfl (jv_lt hj_6 (by decide)) (jv_r hj_6 (by decide +kernel)) dX9_sees_32 ?_
      refine s_iload_n E dX9_sees_35 rfl rfl ?_
      refine s_iload_n E dX9_sees_36 rfl rfl ?_
      refine s_vI (As := [AI x1, AI q18_3_5]) (S := [AI 1, AI q18_2_5]) E (Z_X2_placeOf_69 l D aC b v18 x1 q18_3_5 hj_6.1 ) cv_X9_159 rfl rfl rfl (jv_lt hj_6 (by decide)) (Nat.le_of_ble_eq_true rfl) (Nat.le_of_ble_eq_true rfl) ⟨(Nat.le_of_ble_eq_true rfl), (Nat.le_of_ble_eq_true rfl)⟩ (Nat.le_of_ble_eq_true rfl) dX9_sees_37 (fun z_11 u_9 hp_10 => ?_)
      obtain ⟨hz_11, hp_10⟩ := hp_10
      subst hp_10
      refine s_ishl E dX9_sees_40 ?_
      refine z_any (fun z_13 => ?_)
      refine s_ior E dX9_sees_41 ?_
      refine z_any (fun z_14 => ?_)
      refine s_istore_n (L2 := [some (AR 0), some (AI x1), some (AI z_14), some (AI q18_3_5)]) E dX9_sees_42 rfl (by decide) rfl ?_
      refine z_iinc (u := q18_3_5.toInt) (L2 := fun z_15 => [some (AR 0), some (AI x1), some (AI z_14), some (AI z_15)]) E dX9_sees_43 rfl rfl (by decide) (fun _ => rfl) (by decide) (by omega) (by omega) (fun z_15 hz_15 => ?_)
      refine s_goto (tgt := 18) E dX9_sees_46 (by decide) ?_
      exact ih18 ⟨z_14, z_15⟩ v18 ⟨⟨by have hb_ := z32 z_15; omega, by have hb_ := z32 z_15; omega⟩, ⟨by omega, by omega⟩, hj_6⟩ (by first | omega | (dsimp only; omega))
  ·
    refine s_bipush (v := (-2)) E dX9_sees_11 (by decide) ?_
    exact r_int E dX9_sees_13 ⟨⟨by decide, by decide, by first | (left; decide) | (right; have hb_ := z32 x1; omega), by first | (left; decide) | (right; have hb_ := z32 (w.2.2.1 5 3); omega)⟩, hJ⟩
set_option maxRecDepth 20000 in
set_option maxHeartbeats 2000000 in
theorem Z_X2_companyOf_69 (l : Launch) (D : va_G) (aC : Nat → ClassId) (b : Nat) (w : XW) (x1 : Int32) (x2 : Int32) (hI : Iv w)  : CnI l D aC b M_X2_companyOf 1 22 0 0 [AR 69, AI x1, AI x2] w (fun r u => ((-2147483648) ≤ r.toInt ∧ r.toInt ≤ 2147483647 ∧ (r.toInt = 0 ∨ (0 ≤ x1.toInt ∧ x1.toInt ≤ 5)) ∧ (r.toInt = 0 ∨ (0 ≤ x2.toInt ∧ x2.toInt ≤ 14)) ∧ (r.toInt = 0 ∨ (1 ≤ (w.2.2.1 69 5).toInt ∧ (w.2.2.1 69 5).toInt ≤ 6))) ∧ w = u) := by
  refine cn_I (own := RX2) (nm := "companyOf") (L0 := [some (AR 69), some (AI x1), some (AI x2)]) (by decide +kernel) rfl rfl (Nat.le_of_ble_eq_true rfl) rfl ?_
  intro p e s m args below meth c E hin
  have hJ : Jv w w := jv_rfl hI
  refine s_aload_n E dX2_companyOf_0 rfl rfl ?_
  refine s_iload_n E dX2_companyOf_1 rfl rfl ?_
  refine s_iload_n E dX2_companyOf_2 rfl rfl ?_
  refine s_vI (As := [AI x1, AI x2]) (S := []) E (Z_X2_isHere_69 l D aC b w x1 x2 hJ.1 ) cv_X2_127 rfl rfl rfl (jv_lt hJ (by decide)) (Nat.le_of_ble_eq_true rfl) (Nat.le_of_ble_eq_true rfl) ⟨(Nat.le_of_ble_eq_true rfl), (Nat.le_of_ble_eq_true rfl)⟩ (Nat.le_of_ble_eq_true rfl) dX2_companyOf_3 (fun z_3 u_1 hp_2 => ?_)
  obtain ⟨hz_3, hp_2⟩ := hp_2
  subst hp_2
  refine z_if_eq (tgt := 23) (u := z_3.toInt) E dX2_companyOf_6 (by decide) rfl (fun h_5 => ?_) (fun h_5 => ?_)
  ·
    refine s_iconst (v := 0) E dX2_companyOf_23 (by decide) ?_
    exact r_int E dX2_companyOf_24 ⟨⟨by decide, by decide, by first | (left; decide) | (right; have hb_ := z32 x1; omega), by first | (left; decide) | (right; have hb_ := z32 x2; omega), by first | (left; decide) | (right; have hb_ := z32 (w.2.2.1 69 5); omega)⟩, rfl⟩
  ·
    refine s_aload_n E dX2_companyOf_9 rfl rfl ?_
    refine s_gR (r := 74) E fg_X2_24 rfl rfl (jv_lt hJ (by decide)) (jv_r hJ (by decide +kernel)) dX2_companyOf_10 ?_
    refine s_iload_n E dX2_companyOf_13 rfl rfl ?_
    refine s_bipush (v := 15) E dX2_companyOf_14 (by decide) ?_
    refine z_imul (u := x1.toInt) (v := 15) E dX2_companyOf_16 rfl (by decide) (by omega) (by omega) (fun z_6 hz_6 => ?_)
    refine s_iload_n E dX2_companyOf_17 rfl rfl ?_
    refine z_iadd (u := z_6.toInt) (v := x2.toInt) E dX2_companyOf_18 rfl rfl (by omega) (by omega) (fun z_7 hz_7 => ?_)
    refine s_iald E rfl (jv_lt hJ (by decide)) (z_in (u := z_7.toInt) rfl (by omega) (by omega)) dX2_companyOf_19 ?_
    refine z_any (fun z_8 => ?_)
    refine s_goto (tgt := 24) E dX2_companyOf_20 (by decide) ?_
    exact r_int E dX2_companyOf_24 ⟨⟨by have hb_ := z32 z_8; omega, by have hb_ := z32 z_8; omega, by have hb_ := z32 z_8; have hc_ := z32 x1; omega, by have hb_ := z32 z_8; have hc_ := z32 x2; omega, by have hb_ := z32 z_8; have hc_ := z32 (w.2.2.1 69 5); omega⟩, rfl⟩
set_option maxRecDepth 20000 in
set_option maxHeartbeats 2000000 in
theorem Z_X9_meets_0 (l : Launch) (D : va_G) (aC : Nat → ClassId) (b : Nat) (w : XW) (x1 : Int32) (x2 : Int32) (hI : Iv w)  : CnI l D aC b M_X9_meets 2 44 0 0 [AR 0, AI x1, AI x2] w (fun r u => ((-2) ≤ r.toInt ∧ r.toInt ≤ 14 ∧ (¬ r.toInt = 0 ∨ (0 ≤ x1.toInt ∧ x1.toInt ≤ 5)) ∧ (¬ r.toInt = 0 ∨ (0 ≤ x2.toInt ∧ x2.toInt ≤ 5)) ∧ (¬ r.toInt = 0 ∨ (1 ≤ (w.2.2.1 5 3).toInt ∧ (w.2.2.1 5 3).toInt ≤ 6))) ∧ Jv w u) := by
  refine cn_I (own := RX9) (nm := "meets") (L0 := [some (AR 0), some (AI x1), some (AI x2), none]) (by decide +kernel) rfl rfl (Nat.le_of_ble_eq_true rfl) rfl ?_
  intro p e s m args below meth c E hin
  have hJ : Jv w w := jv_rfl hI
  refine s_aload_n E dX9_meets_0 rfl rfl ?_
  refine s_gR (r := 2) E fg_X9_20 rfl rfl (jv_lt hJ (by decide)) (jv_r hJ (by decide +kernel)) dX9_meets_1 ?_
  refine s_iload_n E dX9_meets_4 rfl rfl ?_
  refine s_vI (As := [AI x1]) (S := []) E (Z_X0_hasLady_2 l D aC b w x1 hJ.1 ) cv_X9_139 rfl rfl rfl (jv_lt hJ (by decide)) (Nat.le_of_ble_eq_true rfl) (Nat.le_of_ble_eq_true rfl) ⟨(Nat.le_of_ble_eq_true rfl), (Nat.le_of_ble_eq_true rfl)⟩ (Nat.le_of_ble_eq_true rfl) dX9_meets_5 (fun z_3 u_1 hp_2 => ?_)
  obtain ⟨hz_3, hp_2⟩ := hp_2
  subst hp_2
  refine z_if_eq (tgt := 22) (u := z_3.toInt) E dX9_meets_8 (by decide) rfl (fun h_5 => ?_) (fun h_5 => ?_)
  ·
    refine s_bipush (v := (-2)) E dX9_meets_22 (by decide) ?_
    exact r_int E dX9_meets_24 ⟨⟨by decide, by decide, by first | (left; decide) | (right; have hb_ := z32 x1; omega), by first | (left; decide) | (right; have hb_ := z32 x2; omega), by first | (left; decide) | (right; have hb_ := z32 (w.2.2.1 5 3); omega)⟩, hJ⟩
  ·
    refine s_aload_n E dX9_meets_11 rfl rfl ?_
    refine s_gR (r := 2) E fg_X9_20 rfl rfl (jv_lt hJ (by decide)) (jv_r hJ (by decide +kernel)) dX9_meets_12 ?_
    refine s_iload_n E dX9_meets_15 rfl rfl ?_
    refine s_vI (As := [AI x2]) (S := []) E (Z_X0_hasLady_2 l D aC b w x2 hJ.1 ) cv_X9_139 rfl rfl rfl (jv_lt hJ (by decide)) (Nat.le_of_ble_eq_true rfl) (Nat.le_of_ble_eq_true rfl) ⟨(Nat.le_of_ble_eq_true rfl), (Nat.le_of_ble_eq_true rfl)⟩ (Nat.le_of_ble_eq_true rfl) dX9_meets_16 (fun z_8 u_6 hp_7 => ?_)
    obtain ⟨hz_8, hp_7⟩ := hp_7
    subst hp_7
    refine z_if_ne (tgt := 25) (u := z_8.toInt) E dX9_meets_19 (by decide) rfl (fun h_10 => ?_) (fun h_10 => ?_)
    ·
      refine s_iconst (v := 0) E dX9_meets_25 (by decide) ?_
      refine s_istore_n (L2 := [some (AR 0), some (AI x1), some (AI x2), some (AI 0)]) E dX9_meets_26 rfl (by decide) rfl ?_
      refine z_loop (St := Int32) (Pi := fun q27_3_10 v27 => (0 ≤ q27_3_10.toInt ∧ q27_3_10.toInt ≤ 15) ∧ (1 ≤ (v27.2.2.1 5 3).toInt ∧ (v27.2.2.1 5 3).toInt ≤ 6) ∧ Jv w v27) (Lf := fun q27_3_10 => [some (AR 0), some (AI x1), some (AI x2), some (AI q27_3_10)]) (fun q27_3_10 _ => (16 - q27_3_10.toInt).toNat) 0 ⟨⟨by decide, by decide⟩, ⟨by omega, by omega⟩, hJ⟩ ?_
      rintro q27_3_10 v27 ⟨hq27_3, ha27_0, hj_11⟩ ih27
      refine s_loc (L2 := [some (AR 0), some (AI x1), some (AI x2), some (AI q27_3_10)]) rfl ?_
      refine s_iload_n E dX9_meets_27 rfl rfl ?_
      refine s_aload_n E dX9_meets_28 rfl rfl ?_
      refine s_gR (r := 2) E fg_X9_20 rfl rfl (jv_lt hj_11 (by decide)) (jv_r hj_11 (by decide +kernel)) dX9_meets_29 ?_
      refine s_gI E fg_X9_169 rfl rfl (jv_lt hj_11 (by decide)) dX9_meets_32 ?_
      refine z_nm (P := fun z => z.toInt = (v27.2.2.1 2 2).toInt ∧ 0 ≤ z.toInt ∧ z.toInt ≤ 14) ⟨rfl, (rg_2_2 hj_11)⟩ (fun z_12 hz_12 => ?_)
      refine z_icmp_gt (tgt := 62) (u := q27_3_10.toInt) (v := z_12.toInt) E dX9_meets_35 (by decide) rfl rfl (fun h_13 => ?_) (fun h_13 => ?_)
      ·
        refine s_iconst (v := (-1)) E dX9_meets_62 (by decide) ?_
        exact r_int E dX9_meets_63 ⟨⟨by decide, by decide, by first | (left; decide) | (right; have hb_ := z32 x1; omega), by first | (left; decide) | (right; have hb_ := z32 x2; omega), by first | (left; decide) | (right; have hb_ := z32 (w.2.2.1 5 3); omega)⟩, hj_11⟩
      ·
        refine s_aload_n E dX9_meets_38 rfl rfl ?_
        refine s_gR (r := 69) E fg_X9_54 rfl rfl (jv_lt hj_11 (by decide)) (jv_r hj_11 (by decide +kernel)) dX9_meets_39 ?_
        refine s_iload_n E dX9_meets_42 rfl rfl ?_
        refine s_iload_n E dX9_meets_43 rfl rfl ?_
        refine s_vI (As := [AI x1, AI q27_3_10]) (S := []) E (Z_X2_companyOf_69 l D aC b v27 x1 q27_3_10 hj_11.1 ) cv_X9_172 rfl rfl rfl (jv_lt hj_11 (by decide)) (Nat.le_of_ble_eq_true rfl) (Nat.le_of_ble_eq_true rfl) ⟨(Nat.le_of_ble_eq_true rfl), (Nat.le_of_ble_eq_true rfl)⟩ (Nat.le_of_ble_eq_true rfl) dX9_meets_44 (fun z_16 u_14 hp_15 => ?_)
        obtain ⟨hz_16, hp_15⟩ := hp_15
        subst hp_15
        refine s_iload_n E dX9_meets_47 rfl rfl ?_
        refine s_sI (As := [AI z_16, AI x2]) (S := []) E (Z_X9_hasBit l D aC b v27 z_16 x2 hj_11.1 ) cs_X9_175 rfl rfl (Nat.le_of_ble_eq_true rfl) (Nat.le_of_ble_eq_true rfl) ⟨(Nat.le_of_ble_eq_true rfl), (Nat.le_of_ble_eq_true rfl)⟩ (Nat.le_of_ble_eq_true rfl) dX9_meets_48 (fun z_20 u_18 hp_19 => ?_)
        obtain ⟨hz_20, hp_19⟩ := hp_19
        subst hp_19
        refine z_if_eq (tgt := 56) (u := z_20.toInt) E dX9_meets_51 (by decide) rfl (fun h_22 => ?_) (fun h_22 => ?_)
        ·
          refine z_iinc (u := q27_3_10.toInt) (L2 := fun z_23 => [some (AR 0), some (AI x1), some (AI x2), some (AI z_23)]) E dX9_meets_56 rfl rfl (by decide) (fun _ => rfl) (by decide) (by omega) (by omega) (fun z_23 hz_23 => ?_)
          refine s_goto (tgt := 27) E dX9_meets_59 (by decide) ?_
          exact ih27 z_23 v27 ⟨⟨by have hb_ := z32 z_23; omega, by have hb_ := z32 z_23; omega⟩, ⟨by omega, by omega⟩, hj_11⟩ (by first | omega | (dsimp only; omega))
        ·
          refine s_iload_n E dX9_meets_54 rfl rfl ?_
          exact r_int E dX9_meets_55 ⟨⟨by have hb_ := z32 q27_3_10; omega, by have hb_ := z32 q27_3_10; omega, by have hb_ := z32 q27_3_10; have hc_ := z32 x1; omega, by have hb_ := z32 q27_3_10; have hc_ := z32 x2; omega, by have hb_ := z32 q27_3_10; have hc_ := z32 (w.2.2.1 5 3); omega⟩, hj_11⟩
    ·
      refine s_bipush (v := (-2)) E dX9_meets_22 (by decide) ?_
      exact r_int E dX9_meets_24 ⟨⟨by decide, by decide, by first | (left; decide) | (right; have hb_ := z32 x1; omega), by first | (left; decide) | (right; have hb_ := z32 x2; omega), by first | (left; decide) | (right; have hb_ := z32 (w.2.2.1 5 3); omega)⟩, hJ⟩
set_option maxRecDepth 20000 in
set_option maxHeartbeats 2000000 in
theorem Z_X2_meetingsOf_69 (l : Launch) (D : va_G) (aC : Nat → ClassId) (b : Nat) (w : XW) (x1 : Int32) (x2 : Int32) (hI : Iv w)  : CnI l D aC b M_X2_meetingsOf 2 44 0 0 [AR 69, AI x1, AI x2] w (fun r u => ((-2147483648) ≤ r.toInt ∧ r.toInt ≤ 2147483647) ∧ Jv w u) := by
  refine cn_I (own := RX2) (nm := "meetingsOf") (L0 := [some (AR 69), some (AI x1), some (AI x2), none, none]) (by decide +kernel) rfl rfl (Nat.le_of_ble_eq_true rfl) rfl ?_
  intro p e s m args below meth c E hin
  have hJ : Jv w w := jv_rfl hI
  refine s_iconst (v := 0) E dX2_meetingsOf_0 (by decide) ?_
  refine s_istore_n (L2 := [some (AR 69), some (AI x1), some (AI x2), some (AI 0), none]) E dX2_meetingsOf_1 rfl (by decide) rfl ?_
  refine s_iconst (v := 0) E dX2_meetingsOf_2 (by decide) ?_
  refine s_istore (L2 := [some (AR 69), some (AI x1), some (AI x2), some (AI 0), some (AI 0)]) E dX2_meetingsOf_3 (by decide) rfl ?_
  refine z_loop (St := Int32 × Int32) (Pi := fun ⟨q5_3_0, q5_4_0⟩ v5 => (0 ≤ q5_4_0.toInt ∧ q5_4_0.toInt ≤ 15) ∧ Jv w v5) (Lf := fun ⟨q5_3_0, q5_4_0⟩ => [some (AR 69), some (AI x1), some (AI x2), some (AI q5_3_0), some (AI q5_4_0)]) (fun ⟨q5_3_0, q5_4_0⟩ _ => (16 - q5_4_0.toInt).toNat) ⟨0, 0⟩ ⟨⟨by decide, by decide⟩, hJ⟩ ?_
  rintro ⟨q5_3_0, q5_4_0⟩ v5 ⟨hq5_4, hj_1⟩ ih5
  refine s_loc (L2 := [some (AR 69), some (AI x1), some (AI x2), some (AI q5_3_0), some (AI q5_4_0)]) rfl ?_
  refine s_iload E dX2_meetingsOf_5 rfl ?_
  refine s_aload_n E dX2_meetingsOf_7 rfl rfl ?_
  refine s_gI E fg_X2_67 rfl rfl (jv_lt hj_1 (by decide)) dX2_meetingsOf_8 ?_
  refine z_nm (P := fun z => z.toInt = (v5.2.2.1 69 7).toInt ∧ 0 ≤ z.toInt ∧ z.toInt ≤ 14) ⟨rfl, (rg_69_7 hj_1)⟩ (fun z_2 hz_2 => ?_)
  refine z_icmp_gt (tgt := 37) (u := q5_4_0.toInt) (v := z_2.toInt) E dX2_meetingsOf_11 (by decide) rfl rfl (fun h_3 => ?_) (fun h_3 => ?_)
  ·
    refine s_iload_n E dX2_meetingsOf_37 rfl rfl ?_
    exact r_int E dX2_meetingsOf_38 ⟨⟨by have hb_ := z32 q5_3_0; omega, by have hb_ := z32 q5_3_0; omega⟩, hj_1⟩
  ·
    refine s_aload_n E dX2_meetingsOf_14 rfl rfl ?_
    refine s_iload_n E dX2_meetingsOf_15 rfl rfl ?_
    refine s_iload E dX2_meetingsOf_16 rfl ?_
    refine s_vI (As := [AI x1, AI q5_4_0]) (S := []) E (Z_X2_companyOf_69 l D aC b v5 x1 q5_4_0 hj_1.1 ) cv_X2_130 rfl rfl rfl (jv_lt hj_1 (by decide)) (Nat.le_of_ble_eq_true rfl) (Nat.le_of_ble_eq_true rfl) ⟨(Nat.le_of_ble_eq_true rfl), (Nat.le_of_ble_eq_true rfl)⟩ (Nat.le_of_ble_eq_true rfl) dX2_meetingsOf_18 (fun z_6 u_4 hp_5 => ?_)
    obtain ⟨hz_6, hp_5⟩ := hp_5
    subst hp_5
    refine s_iload_n E dX2_meetingsOf_21 rfl rfl ?_
    refine s_sI (As := [AI z_6, AI x2]) (S := []) E (Z_X9_hasBit l D aC b v5 z_6 x2 hj_1.1 ) cs_X2_123 rfl rfl (Nat.le_of_ble_eq_true rfl) (Nat.le_of_ble_eq_true rfl) ⟨(Nat.le_of_ble_eq_true rfl), (Nat.le_of_ble_eq_true rfl)⟩ (Nat.le_of_ble_eq_true rfl) dX2_meetingsOf_22 (fun z_10 u_8 hp_9 => ?_)
    obtain ⟨hz_10, hp_9⟩ := hp_9
    subst hp_9
    refine z_if_eq (tgt := 31) (u := z_10.toInt) E dX2_meetingsOf_25 (by decide) rfl (fun h_12 => ?_) (fun h_12 => ?_)
    ·
      refine z_iinc (u := q5_4_0.toInt) (L2 := fun z_13 => [some (AR 69), some (AI x1), some (AI x2), some (AI q5_3_0), some (AI z_13)]) E dX2_meetingsOf_31 rfl rfl (by decide) (fun _ => rfl) (by decide) (by omega) (by omega) (fun z_13 hz_13 => ?_)
      refine s_goto (tgt := 5) E dX2_meetingsOf_34 (by decide) ?_
      exact ih5 ⟨q5_3_0, z_13⟩ v5 ⟨⟨by have hb_ := z32 z_13; omega, by have hb_ := z32 z_13; omega⟩, hj_1⟩ (by first | omega | (dsimp only; omega))
    ·
      refine z_iincW (L2 := fun z_14 => [some (AR 69), some (AI x1), some (AI x2), some (AI z_14), some (AI q5_4_0)]) E dX2_meetingsOf_28 rfl (by decide) (fun _ => rfl) (fun z_14 => ?_)
      refine z_iinc (u := q5_4_0.toInt) (L2 := fun z_15 => [some (AR 69), some (AI x1), some (AI x2), some (AI z_14), some (AI z_15)]) E dX2_meetingsOf_31 rfl rfl (by decide) (fun _ => rfl) (by decide) (by omega) (by omega) (fun z_15 hz_15 => ?_)
      refine s_goto (tgt := 5) E dX2_meetingsOf_34 (by decide) ?_
      exact ih5 ⟨z_14, z_15⟩ v5 ⟨⟨by have hb_ := z32 z_15; omega, by have hb_ := z32 z_15; omega⟩, hj_1⟩ (by first | omega | (dsimp only; omega))
set_option maxRecDepth 20000 in
set_option maxHeartbeats 2000000 in
theorem Z_X9_often_0 (l : Launch) (D : va_G) (aC : Nat → ClassId) (b : Nat) (w : XW) (x1 : Int32) (x2 : Int32) (hI : Iv w)  : CnI l D aC b M_X9_often 3 68 0 0 [AR 0, AI x1, AI x2] w (fun r u => ((-2147483648) ≤ r.toInt ∧ r.toInt ≤ 2147483647 ∧ (¬ r.toInt = 0 ∨ (0 ≤ x1.toInt ∧ x1.toInt ≤ 5)) ∧ (¬ r.toInt = 0 ∨ (0 ≤ x2.toInt ∧ x2.toInt ≤ 5)) ∧ (¬ r.toInt = 0 ∨ (1 ≤ (w.2.2.1 5 3).toInt ∧ (w.2.2.1 5 3).toInt ≤ 6))) ∧ Jv w u) := by
  refine cn_I (own := RX9) (nm := "often") (L0 := [some (AR 0), some (AI x1), some (AI x2)]) (by decide +kernel) rfl rfl (Nat.le_of_ble_eq_true rfl) rfl ?_
  intro p e s m args below meth c E hin
  have hJ : Jv w w := jv_rfl hI
  refine s_aload_n E dX9_often_0 rfl rfl ?_
  refine s_gR (r := 2) E fg_X9_20 rfl rfl (jv_lt hJ (by decide)) (jv_r hJ (by decide +kernel)) dX9_often_1 ?_
  refine s_iload_n E dX9_often_4 rfl rfl ?_
  refine s_vI (As := [AI x1]) (S := []) E (Z_X0_hasLady_2 l D aC b w x1 hJ.1 ) cv_X9_139 rfl rfl rfl (jv_lt hJ (by decide)) (Nat.le_of_ble_eq_true rfl) (Nat.le_of_ble_eq_true rfl) ⟨(Nat.le_of_ble_eq_true rfl), (Nat.le_of_ble_eq_true rfl)⟩ (Nat.le_of_ble_eq_true rfl) dX9_often_5 (fun z_3 u_1 hp_2 => ?_)
  obtain ⟨hz_3, hp_2⟩ := hp_2
  subst hp_2
  refine z_if_eq (tgt := 22) (u := z_3.toInt) E dX9_often_8 (by decide) rfl (fun h_5 => ?_) (fun h_5 => ?_)
  ·
    refine s_bipush (v := (-2)) E dX9_often_22 (by decide) ?_
    exact r_int E dX9_often_24 ⟨⟨by decide, by decide, by first | (left; decide) | (right; have hb_ := z32 x1; omega), by first | (left; decide) | (right; have hb_ := z32 x2; omega), by first | (left; decide) | (right; have hb_ := z32 (w.2.2.1 5 3); omega)⟩, hJ⟩
  ·
    refine s_aload_n E dX9_often_11 rfl rfl ?_
    refine s_gR (r := 2) E fg_X9_20 rfl rfl (jv_lt hJ (by decide)) (jv_r hJ (by decide +kernel)) dX9_often_12 ?_
    refine s_iload_n E dX9_often_15 rfl rfl ?_
    refine s_vI (As := [AI x2]) (S := []) E (Z_X0_hasLady_2 l D aC b w x2 hJ.1 ) cv_X9_139 rfl rfl rfl (jv_lt hJ (by decide)) (Nat.le_of_ble_eq_true rfl) (Nat.le_of_ble_eq_true rfl) ⟨(Nat.le_of_ble_eq_true rfl), (Nat.le_of_ble_eq_true rfl)⟩ (Nat.le_of_ble_eq_true rfl) dX9_often_16 (fun z_8 u_6 hp_7 => ?_)
    obtain ⟨hz_8, hp_7⟩ := hp_7
    subst hp_7
    refine z_if_ne (tgt := 25) (u := z_8.toInt) E dX9_often_19 (by decide) rfl (fun h_10 => ?_) (fun h_10 => ?_)
    ·
      refine s_aload_n E dX9_often_25 rfl rfl ?_
      refine s_gR (r := 69) E fg_X9_54 rfl rfl (jv_lt hJ (by decide)) (jv_r hJ (by decide +kernel)) dX9_often_26 ?_
      refine s_iload_n E dX9_often_29 rfl rfl ?_
      refine s_iload_n E dX9_often_30 rfl rfl ?_
      refine s_vI (As := [AI x1, AI x2]) (S := []) E (Z_X2_meetingsOf_69 l D aC b w x1 x2 hJ.1 ) cv_X9_178 rfl rfl rfl (jv_lt hJ (by decide)) (Nat.le_of_ble_eq_true rfl) (Nat.le_of_ble_eq_true rfl) ⟨(Nat.le_of_ble_eq_true rfl), (Nat.le_of_ble_eq_true rfl)⟩ (Nat.le_of_ble_eq_true rfl) dX9_often_31 (fun z_13 u_11 hp_12 => ?_)
      obtain ⟨hz_13, hp_12⟩ := hp_12
      have hj_14 := jv_trans hJ hp_12
      exact r_int E dX9_often_34 ⟨⟨by have hb_ := z32 z_13; omega, by have hb_ := z32 z_13; omega, by have hb_ := z32 z_13; have hc_ := z32 x1; omega, by have hb_ := z32 z_13; have hc_ := z32 x2; omega, by have hb_ := z32 z_13; have hc_ := z32 (w.2.2.1 5 3); omega⟩, hj_14⟩
    ·
      refine s_bipush (v := (-2)) E dX9_often_22 (by decide) ?_
      exact r_int E dX9_often_24 ⟨⟨by decide, by decide, by first | (left; decide) | (right; have hb_ := z32 x1; omega), by first | (left; decide) | (right; have hb_ := z32 x2; omega), by first | (left; decide) | (right; have hb_ := z32 (w.2.2.1 5 3); omega)⟩, hJ⟩
set_option maxRecDepth 20000 in
set_option maxHeartbeats 2000000 in
theorem Z_X2_friendsOf_69 (l : Launch) (D : va_G) (aC : Nat → ClassId) (b : Nat) (w : XW) (x1 : Int32) (hI : Iv w)  : CnI l D aC b M_X2_friendsOf 2 44 0 0 [AR 69, AI x1] w (fun r u => ((-2147483648) ≤ r.toInt ∧ r.toInt ≤ 2147483647) ∧ Jv w u) := by
  refine cn_I (own := RX2) (nm := "friendsOf") (L0 := [some (AR 69), some (AI x1), none, none]) (by decide +kernel) rfl rfl (Nat.le_of_ble_eq_true rfl) rfl ?_
  intro p e s m args below meth c E hin
  have hJ : Jv w w := jv_rfl hI
  refine s_iconst (v := 0) E dX2_friendsOf_0 (by decide) ?_
  refine s_istore_n (L2 := [some (AR 69), some (AI x1), some (AI 0), none]) E dX2_friendsOf_1 rfl (by decide) rfl ?_
  refine s_iconst (v := 0) E dX2_friendsOf_2 (by decide) ?_
  refine s_istore_n (L2 := [some (AR 69), some (AI x1), some (AI 0), some (AI 0)]) E dX2_friendsOf_3 rfl (by decide) rfl ?_
  refine z_loop (St := Int32 × Int32) (Pi := fun ⟨q4_2_0, q4_3_0⟩ v4 => (0 ≤ q4_3_0.toInt ∧ q4_3_0.toInt ≤ 15) ∧ Jv w v4) (Lf := fun ⟨q4_2_0, q4_3_0⟩ => [some (AR 69), some (AI x1), some (AI q4_2_0), some (AI q4_3_0)]) (fun ⟨q4_2_0, q4_3_0⟩ _ => (16 - q4_3_0.toInt).toNat) ⟨0, 0⟩ ⟨⟨by decide, by decide⟩, hJ⟩ ?_
  rintro ⟨q4_2_0, q4_3_0⟩ v4 ⟨hq4_3, hj_1⟩ ih4
  refine s_loc (L2 := [some (AR 69), some (AI x1), some (AI q4_2_0), some (AI q4_3_0)]) rfl ?_
  refine s_iload_n E dX2_friendsOf_4 rfl rfl ?_
  refine s_aload_n E dX2_friendsOf_5 rfl rfl ?_
  refine s_gI E fg_X2_67 rfl rfl (jv_lt hj_1 (by decide)) dX2_friendsOf_6 ?_
  refine z_nm (P := fun z => z.toInt = (v4.2.2.1 69 7).toInt ∧ 0 ≤ z.toInt ∧ z.toInt ≤ 14) ⟨rfl, (rg_69_7 hj_1)⟩ (fun z_2 hz_2 => ?_)
  refine z_icmp_gt (tgt := 27) (u := q4_3_0.toInt) (v := z_2.toInt) E dX2_friendsOf_9 (by decide) rfl rfl (fun h_3 => ?_) (fun h_3 => ?_)
  ·
    refine s_iload_n E dX2_friendsOf_27 rfl rfl ?_
    refine s_iconst (v := 1) E dX2_friendsOf_28 (by decide) ?_
    refine s_iload_n E dX2_friendsOf_29 rfl rfl ?_
    refine s_ishl E dX2_friendsOf_30 ?_
    refine z_any (fun z_4 => ?_)
    refine s_iconst (v := (-1)) E dX2_friendsOf_31 (by decide) ?_
    refine s_ixor E dX2_friendsOf_32 ?_
    refine z_any (fun z_5 => ?_)
    refine s_iand E dX2_friendsOf_33 ?_
    refine z_any (fun z_6 => ?_)
    exact r_int E dX2_friendsOf_34 ⟨⟨by have hb_ := z32 z_6; omega, by have hb_ := z32 z_6; omega⟩, hj_1⟩
  ·
    refine s_iload_n E dX2_friendsOf_12 rfl rfl ?_
    refine s_aload_n E dX2_friendsOf_13 rfl rfl ?_
    refine s_iload_n E dX2_friendsOf_14 rfl rfl ?_
    refine s_iload_n E dX2_friendsOf_15 rfl rfl ?_
    refine s_vI (As := [AI x1, AI q4_3_0]) (S := [AI q4_2_0]) E (Z_X2_companyOf_69 l D aC b v4 x1 q4_3_0 hj_1.1 ) cv_X2_130 rfl rfl rfl (jv_lt hj_1 (by decide)) (Nat.le_of_ble_eq_true rfl) (Nat.le_of_ble_eq_true rfl) ⟨(Nat.le_of_ble_eq_true rfl), (Nat.le_of_ble_eq_true rfl)⟩ (Nat.le_of_ble_eq_true rfl) dX2_friendsOf_16 (fun z_9 u_7 hp_8 => ?_)
    obtain ⟨hz_9, hp_8⟩ := hp_8
    subst hp_8
    refine s_ior E dX2_friendsOf_19 ?_
    refine z_any (fun z_11 => ?_)
    refine s_istore_n (L2 := [some (AR 69), some (AI x1), some (AI z_11), some (AI q4_3_0)]) E dX2_friendsOf_20 rfl (by decide) rfl ?_
    refine z_iinc (u := q4_3_0.toInt) (L2 := fun z_12 => [some (AR 69), some (AI x1), some (AI z_11), some (AI z_12)]) E dX2_friendsOf_21 rfl rfl (by decide) (fun _ => rfl) (by decide) (by omega) (by omega) (fun z_12 hz_12 => ?_)
    refine s_goto (tgt := 4) E dX2_friendsOf_24 (by decide) ?_
    exact ih4 ⟨z_11, z_12⟩ v4 ⟨⟨by have hb_ := z32 z_12; omega, by have hb_ := z32 z_12; omega⟩, hj_1⟩ (by first | omega | (dsimp only; omega))
