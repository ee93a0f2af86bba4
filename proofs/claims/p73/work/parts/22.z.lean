set_option maxRecDepth 20000 in
set_option maxHeartbeats 2000000 in
theorem Z_X9_ball_0 (l : Launch) (D : va_G) (aC : Nat → ClassId) (b : Nat) (w : XW)  (hI : Iv w)  : CnI l D aC b M_X9_ball 9 308 0 0 [AR 0] w (fun r u => ((-2147483648) ≤ r.toInt ∧ r.toInt ≤ 2147483647) ∧ Jv w u) := by
  refine cn_I (own := RX9) (nm := "ball") (L0 := [some (AR 0)]) (by decide +kernel) rfl rfl (Nat.le_of_ble_eq_true rfl) rfl ?_
  intro p e s m args below meth c E hin
  have hJ : Jv w w := jv_rfl hI
  refine s_aload_n E dX9_ball_0 rfl rfl ?_
  refine s_gR (r := 24) E fg_X9_32 rfl rfl (jv_lt hJ (by decide)) (jv_r hJ (by decide +kernel)) dX9_ball_1 ?_
  refine s_aload_n E dX9_ball_4 rfl rfl ?_
  refine s_gI E fg_X9_13 rfl rfl (jv_lt hJ (by decide)) dX9_ball_5 ?_
  refine z_nm (P := fun z => z.toInt = (w.2.2.1 0 1).toInt ∧ 0 ≤ z.toInt ∧ z.toInt ≤ 1000) ⟨rfl, (rg_0_1 hJ)⟩ (fun z_1 hz_1 => ?_)
  refine s_vV (As := [AI z_1]) (S := []) E (Z_X6_read_24 l D aC b w z_1 hJ.1 ) cv_X9_97 rfl rfl rfl (jv_lt hJ (by decide)) (Nat.le_of_ble_eq_true rfl) (Nat.le_of_ble_eq_true rfl) ⟨(Nat.le_of_ble_eq_true rfl), (Nat.le_of_ble_eq_true rfl)⟩ (Nat.le_of_ble_eq_true rfl) dX9_ball_8 (fun u_2 hp_3 => ?_)
  have hj_4 := jv_trans hJ hp_3
  refine s_aload_n E dX9_ball_11 rfl rfl ?_
  refine s_gR (r := 24) E fg_X9_32 rfl rfl (jv_lt hj_4 (by decide)) (jv_r hj_4 (by decide +kernel)) dX9_ball_12 ?_
  refine s_gI E fg_X9_100 rfl rfl (jv_lt hj_4 (by decide)) dX9_ball_15 ?_
  refine z_nm (P := fun z => z.toInt = (u_2.2.2.1 24 6).toInt ∧ 0 ≤ z.toInt ∧ z.toInt ≤ 3) ⟨rfl, (rg_24_6 hj_4)⟩ (fun z_5 hz_5 => ?_)
  refine z_if_eq (tgt := 24) (u := z_5.toInt) E dX9_ball_18 (by decide) rfl (fun h_6 => ?_) (fun h_6 => ?_)
  ·
    refine s_aload_n E dX9_ball_24 rfl rfl ?_
    refine s_gR (r := 2) E fg_X9_20 rfl rfl (jv_lt hj_4 (by decide)) (jv_r hj_4 (by decide +kernel)) dX9_ball_25 ?_
    refine s_aload_n E dX9_ball_28 rfl rfl ?_
    refine s_gR (r := 13) E fg_X9_24 rfl rfl (jv_lt hj_4 (by decide)) (jv_r hj_4 (by decide +kernel)) dX9_ball_29 ?_
    refine s_vV (As := [AR 13]) (S := []) E (Z_X0_copyFrom_2_r13 l D aC b u_2  hj_4.1  (by omega)) cv_X9_103 rfl rfl rfl (jv_lt hj_4 (by decide)) (Nat.le_of_ble_eq_true rfl) (Nat.le_of_ble_eq_true rfl) ⟨(Nat.le_of_ble_eq_true rfl), (Nat.le_of_ble_eq_true rfl)⟩ (Nat.le_of_ble_eq_true rfl) dX9_ball_32 (fun u_7 hp_8 => ?_)
    have hj_9 := jv_trans hj_4 hp_8
    refine s_aload_n E dX9_ball_35 rfl rfl ?_
    refine s_iconst (v := 0) E dX9_ball_36 (by decide) ?_
    refine s_pI E fp_X9_13 (Or.inl rfl) rfl (jv_lt hj_9 (by decide)) dX9_ball_37 ?_
    refine s_gen (P := Jv w) (jv_f_0_1 hj_9 (by decide) (by decide)) (fun v_10 hj_11 => ?_)
    refine s_aload_n E dX9_ball_40 rfl rfl ?_
    refine s_vV (As := []) (S := []) E (Z_X9_settle_0 l D aC b v_10  hj_11.1 ) cv_X9_107 rfl rfl rfl (jv_lt hj_11 (by decide)) (Nat.le_of_ble_eq_true rfl) (Nat.le_of_ble_eq_true rfl) ⟨(Nat.le_of_ble_eq_true rfl), (Nat.le_of_ble_eq_true rfl)⟩ (Nat.le_of_ble_eq_true rfl) dX9_ball_41 (fun u_12 hp_13 => ?_)
    have hj_14 := jv_trans hj_11 hp_13
    refine s_aload_n E dX9_ball_44 rfl rfl ?_
    refine s_gR (r := 2) E fg_X9_20 rfl rfl (jv_lt hj_14 (by decide)) (jv_r hj_14 (by decide +kernel)) dX9_ball_45 ?_
    refine s_gI E fg_X9_110 rfl rfl (jv_lt hj_14 (by decide)) dX9_ball_48 ?_
    refine z_nm (P := fun z => z.toInt = (u_12.2.2.1 2 0).toInt ∧ (-2147483648) ≤ z.toInt ∧ z.toInt ≤ 2147483647) ⟨rfl, z32 _⟩ (fun z_15 hz_15 => ?_)
    exact r_int E dX9_ball_51 ⟨⟨by have hb_ := z32 z_15; omega, by have hb_ := z32 z_15; omega⟩, hj_14⟩
  ·
    refine s_bipush (v := (-4)) E dX9_ball_21 (by decide) ?_
    exact r_int E dX9_ball_23 ⟨(by decide), hj_4⟩
set_option maxRecDepth 20000 in
set_option maxHeartbeats 2000000 in
theorem Z_X9_fault_0 (l : Launch) (D : va_G) (aC : Nat → ClassId) (b : Nat) (w : XW) (x1 : Int32) (hI : Iv w)  : CnI l D aC b M_X9_fault 0 0 0 0 [AR 0, AI x1] w (fun r u => ((-2147483648) ≤ r.toInt ∧ r.toInt ≤ 2147483647 ∧ (¬ r.toInt = 0 ∨ (0 ≤ x1.toInt ∧ x1.toInt ≤ 1))) ∧ w = u) := by
  refine cn_I (own := RX9) (nm := "fault") (L0 := [some (AR 0), some (AI x1)]) (by decide +kernel) rfl rfl (Nat.le_of_ble_eq_true rfl) rfl ?_
  intro p e s m args below meth c E hin
  have hJ : Jv w w := jv_rfl hI
  have hb_x1 := z32 x1
  refine s_iload_n E dX9_fault_0 rfl rfl ?_
  refine z_if_ne (tgt := 12) (u := x1.toInt) E dX9_fault_1 (by decide) rfl (fun h_1 => ?_) (fun h_1 => ?_)
  ·
    refine s_iload_n E dX9_fault_12 rfl rfl ?_
    refine s_iconst (v := 1) E dX9_fault_13 (by decide) ?_
    refine z_icmp_ne (tgt := 27) (u := x1.toInt) (v := 1) E dX9_fault_14 (by decide) rfl (by decide) (fun h_2 => ?_) (fun h_2 => ?_)
    ·
      refine s_iconst (v := (-1)) E dX9_fault_27 (by decide) ?_
      exact r_int E dX9_fault_28 ⟨⟨by decide, by decide, by first | (left; decide) | (right; decide) | (right; have hb_ := z32 x1; omega)⟩, rfl⟩
    ·
      refine s_aload_n E dX9_fault_17 rfl rfl ?_
      refine s_gR (r := 24) E fg_X9_32 rfl rfl (jv_lt hJ (by decide)) (jv_r hJ (by decide +kernel)) dX9_fault_18 ?_
      refine s_gI E fg_X9_113 rfl rfl (jv_lt hJ (by decide)) dX9_fault_21 ?_
      refine z_nm (P := fun z => z.toInt = (w.2.2.1 24 7).toInt ∧ (-2147483648) ≤ z.toInt ∧ z.toInt ≤ 2147483647) ⟨rfl, z32 _⟩ (fun z_3 hz_3 => ?_)
      refine s_goto (tgt := 28) E dX9_fault_24 (by decide) ?_
      exact r_int E dX9_fault_28 ⟨⟨by have hb_ := z32 z_3; omega, by have hb_ := z32 z_3; omega, by first | (right; decide) | (have hb_ := z32 z_3; omega) | (have hb_ := z32 z_3; have hc_ := z32 x1; omega)⟩, rfl⟩
  ·
    refine s_aload_n E dX9_fault_4 rfl rfl ?_
    refine s_gR (r := 24) E fg_X9_32 rfl rfl (jv_lt hJ (by decide)) (jv_r hJ (by decide +kernel)) dX9_fault_5 ?_
    refine s_gI E fg_X9_100 rfl rfl (jv_lt hJ (by decide)) dX9_fault_8 ?_
    refine z_nm (P := fun z => z.toInt = (w.2.2.1 24 6).toInt ∧ 0 ≤ z.toInt ∧ z.toInt ≤ 3) ⟨rfl, (rg_24_6 hJ)⟩ (fun z_4 hz_4 => ?_)
    exact r_int E dX9_fault_11 ⟨⟨by have hb_ := z32 z_4; omega, by have hb_ := z32 z_4; omega, by first | (right; decide) | (have hb_ := z32 z_4; omega) | (have hb_ := z32 z_4; have hc_ := z32 x1; omega)⟩, rfl⟩
set_option maxRecDepth 20000 in
set_option maxHeartbeats 2000000 in
theorem Z_X9_door_0 (l : Launch) (D : va_G) (aC : Nat → ClassId) (b : Nat) (w : XW) (x1 : Int32) (x2 : Int32) (hI : Iv w)  : CnI l D aC b M_X9_door 2 44 0 0 [AR 0, AI x1, AI x2] w (fun r u => ((-2147483648) ≤ r.toInt ∧ r.toInt ≤ 2147483647 ∧ (¬ r.toInt = 0 ∨ (0 ≤ x1.toInt ∧ x1.toInt ≤ 11)) ∧ (¬ r.toInt = 0 ∨ (0 ≤ x2.toInt ∧ x2.toInt ≤ 2)) ∧ (¬ r.toInt = 0 ∨ (1 ≤ (w.2.2.1 3 3).toInt ∧ (w.2.2.1 3 3).toInt ≤ 12))) ∧ w = u) := by
  refine cn_I (own := RX9) (nm := "door") (L0 := [some (AR 0), some (AI x1), some (AI x2)]) (by decide +kernel) rfl rfl (Nat.le_of_ble_eq_true rfl) rfl ?_
  intro p e s m args below meth c E hin
  have hJ : Jv w w := jv_rfl hI
  have hb_x1 := z32 x1
  have hb_x2 := z32 x2
  refine s_aload_n E dX9_door_0 rfl rfl ?_
  refine s_gR (r := 2) E fg_X9_20 rfl rfl (jv_lt hJ (by decide)) (jv_r hJ (by decide +kernel)) dX9_door_1 ?_
  refine s_gR (r := 3) E fg_X9_119 rfl rfl (jv_lt hJ (by decide)) (jv_r hJ (by decide +kernel)) dX9_door_4 ?_
  refine s_iload_n E dX9_door_7 rfl rfl ?_
  refine s_iload_n E dX9_door_8 rfl rfl ?_
  refine s_vI (As := [AI x1, AI x2]) (S := []) E (Z_X8_hasCell_3 l D aC b w x1 x2 hJ.1 ) cv_X9_123 rfl rfl rfl (jv_lt hJ (by decide)) (Nat.le_of_ble_eq_true rfl) (Nat.le_of_ble_eq_true rfl) ⟨(Nat.le_of_ble_eq_true rfl), (Nat.le_of_ble_eq_true rfl)⟩ (Nat.le_of_ble_eq_true rfl) dX9_door_9 (fun z_3 u_1 hp_2 => ?_)
  obtain ⟨hz_3, hp_2⟩ := hp_2
  subst hp_2
  refine z_if_eq (tgt := 30) (u := z_3.toInt) E dX9_door_12 (by decide) rfl (fun h_5 => ?_) (fun h_5 => ?_)
  ·
    refine s_bipush (v := (-2)) E dX9_door_30 (by decide) ?_
    exact r_int E dX9_door_32 ⟨⟨by decide, by decide, by first | (left; decide) | (right; decide) | (right; have hb_ := z32 x1; omega), by first | (left; decide) | (right; decide) | (right; have hb_ := z32 x2; omega), by first | (left; decide) | (right; decide) | (right; have hb_ := z32 (w.2.2.1 3 3); omega)⟩, rfl⟩
  ·
    refine s_aload_n E dX9_door_15 rfl rfl ?_
    refine s_gR (r := 2) E fg_X9_20 rfl rfl (jv_lt hJ (by decide)) (jv_r hJ (by decide +kernel)) dX9_door_16 ?_
    refine s_gR (r := 3) E fg_X9_119 rfl rfl (jv_lt hJ (by decide)) (jv_r hJ (by decide +kernel)) dX9_door_19 ?_
    refine s_iload_n E dX9_door_22 rfl rfl ?_
    refine s_iload_n E dX9_door_23 rfl rfl ?_
    refine s_vI (As := [AI x1, AI x2]) (S := []) E (Z_X8_cell_3 l D aC b w x1 x2 hJ.1 ) cv_X9_129 rfl rfl rfl (jv_lt hJ (by decide)) (Nat.le_of_ble_eq_true rfl) (Nat.le_of_ble_eq_true rfl) ⟨(Nat.le_of_ble_eq_true rfl), (Nat.le_of_ble_eq_true rfl)⟩ (Nat.le_of_ble_eq_true rfl) dX9_door_24 (fun z_8 u_6 hp_7 => ?_)
    obtain ⟨hz_8, hp_7⟩ := hp_7
    subst hp_7
    refine s_goto (tgt := 32) E dX9_door_27 (by decide) ?_
    exact r_int E dX9_door_32 ⟨⟨by have hb_ := z32 z_8; omega, by have hb_ := z32 z_8; omega, by first | (right; decide) | (have hb_ := z32 z_8; omega) | (have hb_ := z32 z_8; have hc_ := z32 x1; omega), by first | (right; decide) | (have hb_ := z32 z_8; omega) | (have hb_ := z32 z_8; have hc_ := z32 x2; omega), by first | (right; decide) | (have hb_ := z32 z_8; omega) | (have hb_ := z32 z_8; have hc_ := z32 (w.2.2.1 3 3); omega)⟩, rfl⟩
set_option maxRecDepth 20000 in
set_option maxHeartbeats 2000000 in
theorem Z_X9_lady_0 (l : Launch) (D : va_G) (aC : Nat → ClassId) (b : Nat) (w : XW) (x1 : Int32) (x2 : Int32) (hI : Iv w)  : CnI l D aC b M_X9_lady 2 44 0 0 [AR 0, AI x1, AI x2] w (fun r u => ((-2147483648) ≤ r.toInt ∧ r.toInt ≤ 2147483647 ∧ (¬ r.toInt = 0 ∨ (0 ≤ x1.toInt ∧ x1.toInt ≤ 5)) ∧ (¬ r.toInt = 0 ∨ (0 ≤ x2.toInt ∧ x2.toInt ≤ 1)) ∧ (¬ r.toInt = 0 ∨ (1 ≤ (w.2.2.1 5 3).toInt ∧ (w.2.2.1 5 3).toInt ≤ 6))) ∧ w = u) := by
  refine cn_I (own := RX9) (nm := "lady") (L0 := [some (AR 0), some (AI x1), some (AI x2)]) (by decide +kernel) rfl rfl (Nat.le_of_ble_eq_true rfl) rfl ?_
  intro p e s m args below meth c E hin
  have hJ : Jv w w := jv_rfl hI
  have hb_x1 := z32 x1
  have hb_x2 := z32 x2
  refine s_aload_n E dX9_lady_0 rfl rfl ?_
  refine s_gR (r := 2) E fg_X9_20 rfl rfl (jv_lt hJ (by decide)) (jv_r hJ (by decide +kernel)) dX9_lady_1 ?_
  refine s_gR (r := 5) E fg_X9_133 rfl rfl (jv_lt hJ (by decide)) (jv_r hJ (by decide +kernel)) dX9_lady_4 ?_
  refine s_iload_n E dX9_lady_7 rfl rfl ?_
  refine s_iload_n E dX9_lady_8 rfl rfl ?_
  refine s_vI (As := [AI x1, AI x2]) (S := []) E (Z_X8_hasCell_5 l D aC b w x1 x2 hJ.1 ) cv_X9_123 rfl rfl rfl (jv_lt hJ (by decide)) (Nat.le_of_ble_eq_true rfl) (Nat.le_of_ble_eq_true rfl) ⟨(Nat.le_of_ble_eq_true rfl), (Nat.le_of_ble_eq_true rfl)⟩ (Nat.le_of_ble_eq_true rfl) dX9_lady_9 (fun z_3 u_1 hp_2 => ?_)
  obtain ⟨hz_3, hp_2⟩ := hp_2
  subst hp_2
  refine z_if_eq (tgt := 30) (u := z_3.toInt) E dX9_lady_12 (by decide) rfl (fun h_5 => ?_) (fun h_5 => ?_)
  ·
    refine s_bipush (v := (-2)) E dX9_lady_30 (by decide) ?_
    exact r_int E dX9_lady_32 ⟨⟨by decide, by decide, by first | (left; decide) | (right; decide) | (right; have hb_ := z32 x1; omega), by first | (left; decide) | (right; decide) | (right; have hb_ := z32 x2; omega), by first | (left; decide) | (right; decide) | (right; have hb_ := z32 (w.2.2.1 5 3); omega)⟩, rfl⟩
  ·
    refine s_aload_n E dX9_lady_15 rfl rfl ?_
    refine s_gR (r := 2) E fg_X9_20 rfl rfl (jv_lt hJ (by decide)) (jv_r hJ (by decide +kernel)) dX9_lady_16 ?_
    refine s_gR (r := 5) E fg_X9_133 rfl rfl (jv_lt hJ (by decide)) (jv_r hJ (by decide +kernel)) dX9_lady_19 ?_
    refine s_iload_n E dX9_lady_22 rfl rfl ?_
    refine s_iload_n E dX9_lady_23 rfl rfl ?_
    refine s_vI (As := [AI x1, AI x2]) (S := []) E (Z_X8_cell_5 l D aC b w x1 x2 hJ.1 ) cv_X9_129 rfl rfl rfl (jv_lt hJ (by decide)) (Nat.le_of_ble_eq_true rfl) (Nat.le_of_ble_eq_true rfl) ⟨(Nat.le_of_ble_eq_true rfl), (Nat.le_of_ble_eq_true rfl)⟩ (Nat.le_of_ble_eq_true rfl) dX9_lady_24 (fun z_8 u_6 hp_7 => ?_)
    obtain ⟨hz_8, hp_7⟩ := hp_7
    subst hp_7
    refine s_goto (tgt := 32) E dX9_lady_27 (by decide) ?_
    exact r_int E dX9_lady_32 ⟨⟨by have hb_ := z32 z_8; omega, by have hb_ := z32 z_8; omega, by first | (right; decide) | (have hb_ := z32 z_8; omega) | (have hb_ := z32 z_8; have hc_ := z32 x1; omega), by first | (right; decide) | (have hb_ := z32 z_8; omega) | (have hb_ := z32 z_8; have hc_ := z32 x2; omega), by first | (right; decide) | (have hb_ := z32 z_8; omega) | (have hb_ := z32 z_8; have hc_ := z32 (w.2.2.1 5 3); omega)⟩, rfl⟩
set_option maxRecDepth 20000 in
set_option maxHeartbeats 2000000 in
theorem Z_X8_hasCell_7 (l : Launch) (D : va_G) (aC : Nat → ClassId) (b : Nat) (w : XW) (x1 : Int32) (x2 : Int32) (hI : Iv w)  : CnI l D aC b M_X8_hasCell 0 0 0 0 [AR 7, AI x1, AI x2] w (fun r u => (0 ≤ r.toInt ∧ r.toInt ≤ 1 ∧ (r.toInt = 0 ∨ (0 ≤ x1.toInt ∧ x1.toInt ≤ 7)) ∧ (r.toInt = 0 ∨ (0 ≤ x2.toInt ∧ x2.toInt ≤ 1)) ∧ (r.toInt = 0 ∨ (1 ≤ (w.2.2.1 7 3).toInt ∧ (w.2.2.1 7 3).toInt ≤ 8))) ∧ w = u) := by
  refine cn_I (own := RX8) (nm := "hasCell") (L0 := [some (AR 7), some (AI x1), some (AI x2)]) (by decide +kernel) rfl rfl (Nat.le_of_ble_eq_true rfl) rfl ?_
  intro p e s m args below meth c E hin
  have hJ : Jv w w := jv_rfl hI
  have hb_x1 := z32 x1
  have hb_x2 := z32 x2
  refine s_iload_n E dX8_hasCell_0 rfl rfl ?_
  refine z_if_lt (tgt := 28) (u := x1.toInt) E dX8_hasCell_1 (by decide) rfl (fun h_1 => ?_) (fun h_1 => ?_)
  ·
    refine s_iconst (v := 0) E dX8_hasCell_28 (by decide) ?_
    exact r_bool E dX8_hasCell_29 (Or.inl rfl) ⟨⟨by decide, by decide, by first | (left; decide) | (right; decide) | (right; have hb_ := z32 x1; omega), by first | (left; decide) | (right; decide) | (right; have hb_ := z32 x2; omega), by first | (left; decide) | (right; decide) | (right; have hb_ := z32 (w.2.2.1 7 3); omega)⟩, rfl⟩
  ·
    refine s_iload_n E dX8_hasCell_4 rfl rfl ?_
    refine s_aload_n E dX8_hasCell_5 rfl rfl ?_
    refine s_gI E fg_X8_28 rfl rfl (jv_lt hJ (by decide)) dX8_hasCell_6 ?_
    refine z_nm (P := fun z => z.toInt = (w.2.2.1 7 3).toInt ∧ 0 ≤ z.toInt ∧ z.toInt ≤ 8) ⟨rfl, (rg_7_3 hJ)⟩ (fun z_2 hz_2 => ?_)
    refine z_icmp_ge (tgt := 28) (u := x1.toInt) (v := z_2.toInt) E dX8_hasCell_9 (by decide) rfl rfl (fun h_3 => ?_) (fun h_3 => ?_)
    ·
      refine s_iconst (v := 0) E dX8_hasCell_28 (by decide) ?_
      exact r_bool E dX8_hasCell_29 (Or.inl rfl) ⟨⟨by decide, by decide, by first | (left; decide) | (right; decide) | (right; have hb_ := z32 x1; omega), by first | (left; decide) | (right; decide) | (right; have hb_ := z32 x2; omega), by first | (left; decide) | (right; decide) | (right; have hb_ := z32 (w.2.2.1 7 3); omega)⟩, rfl⟩
    ·
      refine s_iload_n E dX8_hasCell_12 rfl rfl ?_
      refine z_if_lt (tgt := 28) (u := x2.toInt) E dX8_hasCell_13 (by decide) rfl (fun h_4 => ?_) (fun h_4 => ?_)
      ·
        refine s_iconst (v := 0) E dX8_hasCell_28 (by decide) ?_
        exact r_bool E dX8_hasCell_29 (Or.inl rfl) ⟨⟨by decide, by decide, by first | (left; decide) | (right; decide) | (right; have hb_ := z32 x1; omega), by first | (left; decide) | (right; decide) | (right; have hb_ := z32 x2; omega), by first | (left; decide) | (right; decide) | (right; have hb_ := z32 (w.2.2.1 7 3); omega)⟩, rfl⟩
      ·
        refine s_iload_n E dX8_hasCell_16 rfl rfl ?_
        refine s_aload_n E dX8_hasCell_17 rfl rfl ?_
        refine s_gI E fg_X8_21 rfl rfl (jv_lt hJ (by decide)) dX8_hasCell_18 ?_
        refine s_top (y := 2) (z_pt (by decide) (rg_7_2 hJ)) ?_
        refine z_icmp_ge (tgt := 28) (u := x2.toInt) (v := 2) E dX8_hasCell_21 (by decide) rfl (by decide) (fun h_5 => ?_) (fun h_5 => ?_)
        ·
          refine s_iconst (v := 0) E dX8_hasCell_28 (by decide) ?_
          exact r_bool E dX8_hasCell_29 (Or.inl rfl) ⟨⟨by decide, by decide, by first | (left; decide) | (right; decide) | (right; have hb_ := z32 x1; omega), by first | (left; decide) | (right; decide) | (right; have hb_ := z32 x2; omega), by first | (left; decide) | (right; decide) | (right; have hb_ := z32 (w.2.2.1 7 3); omega)⟩, rfl⟩
        ·
          refine s_iconst (v := 1) E dX8_hasCell_24 (by decide) ?_
          refine s_goto (tgt := 29) E dX8_hasCell_25 (by decide) ?_
          exact r_bool E dX8_hasCell_29 (Or.inr rfl) ⟨⟨by decide, by decide, by first | (left; decide) | (right; decide) | (right; have hb_ := z32 x1; omega), by first | (left; decide) | (right; decide) | (right; have hb_ := z32 x2; omega), by first | (left; decide) | (right; decide) | (right; have hb_ := z32 (w.2.2.1 7 3); omega)⟩, rfl⟩
set_option maxRecDepth 20000 in
set_option maxHeartbeats 2000000 in
theorem Z_X8_cell_7 (l : Launch) (D : va_G) (aC : Nat → ClassId) (b : Nat) (w : XW) (x1 : Int32) (x2 : Int32) (hI : Iv w)  : CnI l D aC b M_X8_cell 1 22 0 0 [AR 7, AI x1, AI x2] w (fun r u => ((-2147483648) ≤ r.toInt ∧ r.toInt ≤ 2147483647 ∧ (¬ r.toInt = 0 ∨ (0 ≤ x1.toInt ∧ x1.toInt ≤ 7)) ∧ (¬ r.toInt = 0 ∨ (0 ≤ x2.toInt ∧ x2.toInt ≤ 1)) ∧ (¬ r.toInt = 0 ∨ (1 ≤ (w.2.2.1 7 3).toInt ∧ (w.2.2.1 7 3).toInt ≤ 8))) ∧ w = u) := by
  refine cn_I (own := RX8) (nm := "cell") (L0 := [some (AR 7), some (AI x1), some (AI x2)]) (by decide +kernel) rfl rfl (Nat.le_of_ble_eq_true rfl) rfl ?_
  intro p e s m args below meth c E hin
  have hJ : Jv w w := jv_rfl hI
  have hb_x1 := z32 x1
  have hb_x2 := z32 x2
  refine s_aload_n E dX8_cell_0 rfl rfl ?_
  refine s_iload_n E dX8_cell_1 rfl rfl ?_
  refine s_iload_n E dX8_cell_2 rfl rfl ?_
  refine s_vI (As := [AI x1, AI x2]) (S := []) E (Z_X8_hasCell_7 l D aC b w x1 x2 hJ.1 ) cv_X8_31 rfl rfl rfl (jv_lt hJ (by decide)) (Nat.le_of_ble_eq_true rfl) (Nat.le_of_ble_eq_true rfl) ⟨(Nat.le_of_ble_eq_true rfl), (Nat.le_of_ble_eq_true rfl)⟩ (Nat.le_of_ble_eq_true rfl) dX8_cell_3 (fun z_3 u_1 hp_2 => ?_)
  obtain ⟨hz_3, hp_2⟩ := hp_2
  subst hp_2
  refine z_if_eq (tgt := 25) (u := z_3.toInt) E dX8_cell_6 (by decide) rfl (fun h_5 => ?_) (fun h_5 => ?_)
  ·
    refine s_iconst (v := (-1)) E dX8_cell_25 (by decide) ?_
    exact r_int E dX8_cell_26 ⟨⟨by decide, by decide, by first | (left; decide) | (right; decide) | (right; have hb_ := z32 x1; omega), by first | (left; decide) | (right; decide) | (right; have hb_ := z32 x2; omega), by first | (left; decide) | (right; decide) | (right; have hb_ := z32 (w.2.2.1 7 3); omega)⟩, rfl⟩
  ·
    refine s_aload_n E dX8_cell_9 rfl rfl ?_
    refine s_gR (r := 8) E fg_X8_24 rfl rfl (jv_lt hJ (by decide)) (jv_r hJ (by decide +kernel)) dX8_cell_10 ?_
    refine s_iload_n E dX8_cell_13 rfl rfl ?_
    refine s_aload_n E dX8_cell_14 rfl rfl ?_
    refine s_gI E fg_X8_21 rfl rfl (jv_lt hJ (by decide)) dX8_cell_15 ?_
    refine s_top (y := 2) (z_pt (by decide) (rg_7_2 hJ)) ?_
    refine z_imul (u := x1.toInt) (v := 2) E dX8_cell_18 rfl (by decide) (by omega) (by omega) (fun z_6 hz_6 => ?_)
    refine s_iload_n E dX8_cell_19 rfl rfl ?_
    refine z_iadd (u := z_6.toInt) (v := x2.toInt) E dX8_cell_20 rfl rfl (by omega) (by omega) (fun z_7 hz_7 => ?_)
    refine s_iald E rfl (jv_lt hJ (by decide)) (z_in (u := z_7.toInt) rfl (by omega) (by omega)) dX8_cell_21 ?_
    refine z_nm (P := fun z => (-2147483648) ≤ z.toInt ∧ z.toInt ≤ 2147483647) (z32 _) (fun z_8 hz_8 => ?_)
    refine s_goto (tgt := 26) E dX8_cell_22 (by decide) ?_
    exact r_int E dX8_cell_26 ⟨⟨by have hb_ := z32 z_8; omega, by have hb_ := z32 z_8; omega, by first | (right; decide) | (have hb_ := z32 z_8; omega) | (have hb_ := z32 z_8; have hc_ := z32 x1; omega), by first | (right; decide) | (have hb_ := z32 z_8; omega) | (have hb_ := z32 z_8; have hc_ := z32 x2; omega), by first | (right; decide) | (have hb_ := z32 z_8; omega) | (have hb_ := z32 z_8; have hc_ := z32 (w.2.2.1 7 3); omega)⟩, rfl⟩
set_option maxRecDepth 20000 in
set_option maxHeartbeats 2000000 in
theorem Z_X9_minister_0 (l : Launch) (D : va_G) (aC : Nat → ClassId) (b : Nat) (w : XW) (x1 : Int32) (x2 : Int32) (hI : Iv w)  : CnI l D aC b M_X9_minister 2 44 0 0 [AR 0, AI x1, AI x2] w (fun r u => ((-2147483648) ≤ r.toInt ∧ r.toInt ≤ 2147483647 ∧ (¬ r.toInt = 0 ∨ (0 ≤ x1.toInt ∧ x1.toInt ≤ 7)) ∧ (¬ r.toInt = 0 ∨ (0 ≤ x2.toInt ∧ x2.toInt ≤ 1)) ∧ (¬ r.toInt = 0 ∨ (1 ≤ (w.2.2.1 7 3).toInt ∧ (w.2.2.1 7 3).toInt ≤ 8))) ∧ w = u) := by
  refine cn_I (own := RX9) (nm := "minister") (L0 := [some (AR 0), some (AI x1), some (AI x2)]) (by decide +kernel) rfl rfl (Nat.le_of_ble_eq_true rfl) rfl ?_
  intro p e s m args below meth c E hin
  have hJ : Jv w w := jv_rfl hI
  have hb_x1 := z32 x1
  have hb_x2 := z32 x2
  refine s_aload_n E dX9_minister_0 rfl rfl ?_
  refine s_gR (r := 2) E fg_X9_20 rfl rfl (jv_lt hJ (by decide)) (jv_r hJ (by decide +kernel)) dX9_minister_1 ?_
  refine s_gR (r := 7) E fg_X9_136 rfl rfl (jv_lt hJ (by decide)) (jv_r hJ (by decide +kernel)) dX9_minister_4 ?_
  refine s_iload_n E dX9_minister_7 rfl rfl ?_
  refine s_iload_n E dX9_minister_8 rfl rfl ?_
  refine s_vI (As := [AI x1, AI x2]) (S := []) E (Z_X8_hasCell_7 l D aC b w x1 x2 hJ.1 ) cv_X9_123 rfl rfl rfl (jv_lt hJ (by decide)) (Nat.le_of_ble_eq_true rfl) (Nat.le_of_ble_eq_true rfl) ⟨(Nat.le_of_ble_eq_true rfl), (Nat.le_of_ble_eq_true rfl)⟩ (Nat.le_of_ble_eq_true rfl) dX9_minister_9 (fun z_3 u_1 hp_2 => ?_)
  obtain ⟨hz_3, hp_2⟩ := hp_2
  subst hp_2
  refine z_if_eq (tgt := 30) (u := z_3.toInt) E dX9_minister_12 (by decide) rfl (fun h_5 => ?_) (fun h_5 => ?_)
  ·
    refine s_bipush (v := (-2)) E dX9_minister_30 (by decide) ?_
    exact r_int E dX9_minister_32 ⟨⟨by decide, by decide, by first | (left; decide) | (right; decide) | (right; have hb_ := z32 x1; omega), by first | (left; decide) | (right; decide) | (right; have hb_ := z32 x2; omega), by first | (left; decide) | (right; decide) | (right; have hb_ := z32 (w.2.2.1 7 3); omega)⟩, rfl⟩
  ·
    refine s_aload_n E dX9_minister_15 rfl rfl ?_
    refine s_gR (r := 2) E fg_X9_20 rfl rfl (jv_lt hJ (by decide)) (jv_r hJ (by decide +kernel)) dX9_minister_16 ?_
    refine s_gR (r := 7) E fg_X9_136 rfl rfl (jv_lt hJ (by decide)) (jv_r hJ (by decide +kernel)) dX9_minister_19 ?_
    refine s_iload_n E dX9_minister_22 rfl rfl ?_
    refine s_iload_n E dX9_minister_23 rfl rfl ?_
    refine s_vI (As := [AI x1, AI x2]) (S := []) E (Z_X8_cell_7 l D aC b w x1 x2 hJ.1 ) cv_X9_129 rfl rfl rfl (jv_lt hJ (by decide)) (Nat.le_of_ble_eq_true rfl) (Nat.le_of_ble_eq_true rfl) ⟨(Nat.le_of_ble_eq_true rfl), (Nat.le_of_ble_eq_true rfl)⟩ (Nat.le_of_ble_eq_true rfl) dX9_minister_24 (fun z_8 u_6 hp_7 => ?_)
    obtain ⟨hz_8, hp_7⟩ := hp_7
    subst hp_7
    refine s_goto (tgt := 32) E dX9_minister_27 (by decide) ?_
    exact r_int E dX9_minister_32 ⟨⟨by have hb_ := z32 z_8; omega, by have hb_ := z32 z_8; omega, by first | (right; decide) | (have hb_ := z32 z_8; omega) | (have hb_ := z32 z_8; have hc_ := z32 x1; omega), by first | (right; decide) | (have hb_ := z32 z_8; omega) | (have hb_ := z32 z_8; have hc_ := z32 x2; omega), by first | (right; decide) | (have hb_ := z32 z_8; omega) | (have hb_ := z32 z_8; have hc_ := z32 (w.2.2.1 7 3); omega)⟩, rfl⟩
set_option maxRecDepth 20000 in
set_option maxHeartbeats 2000000 in
theorem Z_X8_has_5 (l : Launch) (D : va_G) (aC : Nat → ClassId) (b : Nat) (w : XW) (x1 : Int32) (hI : Iv w)  : CnI l D aC b M_X8_has 0 0 0 0 [AR 5, AI x1] w (fun r u => (0 ≤ r.toInt ∧ r.toInt ≤ 1 ∧ (r.toInt = 0 ∨ (0 ≤ x1.toInt ∧ x1.toInt ≤ 5)) ∧ (r.toInt = 0 ∨ (1 ≤ (w.2.2.1 5 3).toInt ∧ (w.2.2.1 5 3).toInt ≤ 6))) ∧ w = u) := by
  refine cn_I (own := RX8) (nm := "has") (L0 := [some (AR 5), some (AI x1)]) (by decide +kernel) rfl rfl (Nat.le_of_ble_eq_true rfl) rfl ?_
  intro p e s m args below meth c E hin
  have hJ : Jv w w := jv_rfl hI
  have hb_x1 := z32 x1
  refine s_iload_n E dX8_has_0 rfl rfl ?_
  refine z_if_lt (tgt := 16) (u := x1.toInt) E dX8_has_1 (by decide) rfl (fun h_1 => ?_) (fun h_1 => ?_)
  ·
    refine s_iconst (v := 0) E dX8_has_16 (by decide) ?_
    exact r_bool E dX8_has_17 (Or.inl rfl) ⟨⟨by decide, by decide, by first | (left; decide) | (right; decide) | (right; have hb_ := z32 x1; omega), by first | (left; decide) | (right; decide) | (right; have hb_ := z32 (w.2.2.1 5 3); omega)⟩, rfl⟩
  ·
    refine s_iload_n E dX8_has_4 rfl rfl ?_
    refine s_aload_n E dX8_has_5 rfl rfl ?_
    refine s_gI E fg_X8_28 rfl rfl (jv_lt hJ (by decide)) dX8_has_6 ?_
    refine z_nm (P := fun z => z.toInt = (w.2.2.1 5 3).toInt ∧ 0 ≤ z.toInt ∧ z.toInt ≤ 6) ⟨rfl, (rg_5_3 hJ)⟩ (fun z_2 hz_2 => ?_)
    refine z_icmp_ge (tgt := 16) (u := x1.toInt) (v := z_2.toInt) E dX8_has_9 (by decide) rfl rfl (fun h_3 => ?_) (fun h_3 => ?_)
    ·
      refine s_iconst (v := 0) E dX8_has_16 (by decide) ?_
      exact r_bool E dX8_has_17 (Or.inl rfl) ⟨⟨by decide, by decide, by first | (left; decide) | (right; decide) | (right; have hb_ := z32 x1; omega), by first | (left; decide) | (right; decide) | (right; have hb_ := z32 (w.2.2.1 5 3); omega)⟩, rfl⟩
    ·
      refine s_iconst (v := 1) E dX8_has_12 (by decide) ?_
      refine s_goto (tgt := 17) E dX8_has_13 (by decide) ?_
      exact r_bool E dX8_has_17 (Or.inr rfl) ⟨⟨by decide, by decide, by first | (left; decide) | (right; decide) | (right; have hb_ := z32 x1; omega), by first | (left; decide) | (right; decide) | (right; have hb_ := z32 (w.2.2.1 5 3); omega)⟩, rfl⟩
set_option maxRecDepth 20000 in
set_option maxHeartbeats 2000000 in
theorem Z_X0_hasLady_2 (l : Launch) (D : va_G) (aC : Nat → ClassId) (b : Nat) (w : XW) (x1 : Int32) (hI : Iv w)  : CnI l D aC b M_X0_hasLady 1 21 0 0 [AR 2, AI x1] w (fun r u => (0 ≤ r.toInt ∧ r.toInt ≤ 1 ∧ (r.toInt = 0 ∨ (0 ≤ x1.toInt ∧ x1.toInt ≤ 5)) ∧ (r.toInt = 0 ∨ (1 ≤ (w.2.2.1 5 3).toInt ∧ (w.2.2.1 5 3).toInt ≤ 6))) ∧ w = u) := by
  refine cn_I (own := RX0) (nm := "hasLady") (L0 := [some (AR 2), some (AI x1)]) (by decide +kernel) rfl rfl (Nat.le_of_ble_eq_true rfl) rfl ?_
  intro p e s m args below meth c E hin
  have hJ : Jv w w := jv_rfl hI
  have hb_x1 := z32 x1
  refine s_aload_n E dX0_hasLady_0 rfl rfl ?_
  refine s_gR (r := 5) E fg_X0_20 rfl rfl (jv_lt hJ (by decide)) (jv_r hJ (by decide +kernel)) dX0_hasLady_1 ?_
  refine s_iload_n E dX0_hasLady_4 rfl rfl ?_
  refine s_vI (As := [AI x1]) (S := []) E (Z_X8_has_5 l D aC b w x1 hJ.1 ) cv_X0_55 rfl rfl rfl (jv_lt hJ (by decide)) (Nat.le_of_ble_eq_true rfl) (Nat.le_of_ble_eq_true rfl) ⟨(Nat.le_of_ble_eq_true rfl), (Nat.le_of_ble_eq_true rfl)⟩ (Nat.le_of_ble_eq_true rfl) dX0_hasLady_5 (fun z_3 u_1 hp_2 => ?_)
  obtain ⟨hz_3, hp_2⟩ := hp_2
  subst hp_2
  exact r_bool E dX0_hasLady_8 (z_bool (by omega) (by omega)) ⟨⟨by have hb_ := z32 z_3; omega, by have hb_ := z32 z_3; omega, by first | (right; decide) | (have hb_ := z32 z_3; omega) | (have hb_ := z32 z_3; have hc_ := z32 x1; omega), by first | (right; decide) | (have hb_ := z32 z_3; omega) | (have hb_ := z32 z_3; have hc_ := z32 (w.2.2.1 5 3); omega)⟩, rfl⟩
set_option maxRecDepth 20000 in
set_option maxHeartbeats 2000000 in
theorem Z_X2_distance_69 (l : Launch) (D : va_G) (aC : Nat → ClassId) (b : Nat) (w : XW) (x1 : Int32) (x2 : Int32) (x3 : Int32) (hI : Iv w)  : CnI l D aC b M_X2_distance 2 46 0 0 [AR 69, AI x1, AI x2, AI x3] w (fun r u => ((-1) ≤ r.toInt ∧ r.toInt ≤ 7 ∧ (¬ r.toInt = 0 ∨ (0 ≤ x3.toInt ∧ x3.toInt ≤ 31)) ∧ (¬ r.toInt = 0 ∨ (1 ≤ (w.2.2.1 69 6).toInt ∧ (w.2.2.1 69 6).toInt ≤ 8))) ∧ w = u) := by
  refine cn_I (own := RX2) (nm := "distance") (L0 := [some (AR 69), some (AI x1), some (AI x2), some (AI x3), none, none]) (by decide +kernel) rfl rfl (Nat.le_of_ble_eq_true rfl) rfl ?_
  intro p e s m args below meth c E hin
  have hJ : Jv w w := jv_rfl hI
  have hb_x1 := z32 x1
  have hb_x2 := z32 x2
  have hb_x3 := z32 x3
  refine s_iconst (v := 1) E dX2_distance_0 (by decide) ?_
  refine s_iload_n E dX2_distance_1 rfl rfl ?_
  refine s_ishl E dX2_distance_2 ?_
  refine z_nm (P := fun z => (-2147483648) ≤ z.toInt ∧ z.toInt ≤ 2147483647) (z32 _) (fun z_1 hz_1 => ?_)
  refine s_istore (L2 := [some (AR 69), some (AI x1), some (AI x2), some (AI x3), some (AI z_1), none]) E dX2_distance_3 (by decide) rfl ?_
  refine s_iconst (v := 0) E dX2_distance_5 (by decide) ?_
  refine s_istore (L2 := [some (AR 69), some (AI x1), some (AI x2), some (AI x3), some (AI z_1), some (AI 0)]) E dX2_distance_6 (by decide) rfl ?_
  refine z_loop (St := Int32 × Int32) (Pi := fun ⟨q8_4_1, q8_5_1⟩ v8 => (0 ≤ q8_5_1.toInt ∧ q8_5_1.toInt ≤ 8) ∧ w = v8) (Lf := fun ⟨q8_4_1, q8_5_1⟩ => [some (AR 69), some (AI x1), some (AI x2), some (AI x3), some (AI q8_4_1), some (AI q8_5_1)]) (fun ⟨q8_4_1, q8_5_1⟩ _ => (9 - q8_5_1.toInt).toNat) ⟨z_1, 0⟩ ⟨⟨by decide, by decide⟩, rfl⟩ ?_
  rintro ⟨q8_4_1, q8_5_1⟩ v8 ⟨hq8_5, hv_⟩ ih8
  subst hv_
  have hbq8_4 := z32 q8_4_1
  refine s_loc (L2 := [some (AR 69), some (AI x1), some (AI x2), some (AI x3), some (AI q8_4_1), some (AI q8_5_1)]) rfl ?_
  refine s_iload E dX2_distance_8 rfl ?_
  refine s_aload_n E dX2_distance_10 rfl rfl ?_
  refine s_gI E fg_X2_63 rfl rfl (jv_lt hJ (by decide)) dX2_distance_11 ?_
  refine z_nm (P := fun z => z.toInt = (w.2.2.1 69 6).toInt ∧ 0 ≤ z.toInt ∧ z.toInt ≤ 8) ⟨rfl, (rg_69_6 hJ)⟩ (fun z_3 hz_3 => ?_)
  refine z_icmp_ge (tgt := 44) (u := q8_5_1.toInt) (v := z_3.toInt) E dX2_distance_14 (by decide) rfl rfl (fun h_4 => ?_) (fun h_4 => ?_)
  ·
    refine s_iconst (v := (-1)) E dX2_distance_44 (by decide) ?_
    exact r_int E dX2_distance_45 ⟨⟨by decide, by decide, by first | (left; decide) | (right; decide) | (right; have hb_ := z32 x3; omega), by first | (left; decide) | (right; decide) | (right; have hb_ := z32 (w.2.2.1 69 6); omega)⟩, rfl⟩
  ·
    refine s_iload E dX2_distance_17 rfl ?_
    refine s_iload_n E dX2_distance_19 rfl rfl ?_
    refine s_sI (As := [AI q8_4_1, AI x3]) (S := []) E (Z_X9_hasBit l D aC b w q8_4_1 x3 hJ.1 ) cs_X2_123 rfl rfl (Nat.le_of_ble_eq_true rfl) (Nat.le_of_ble_eq_true rfl) ⟨(Nat.le_of_ble_eq_true rfl), (Nat.le_of_ble_eq_true rfl)⟩ (Nat.le_of_ble_eq_true rfl) dX2_distance_20 (fun z_7 u_5 hp_6 => ?_)
    obtain ⟨hz_7, hp_6⟩ := hp_6
    subst hp_6
    refine z_if_eq (tgt := 29) (u := z_7.toInt) E dX2_distance_23 (by decide) rfl (fun h_9 => ?_) (fun h_9 => ?_)
    ·
      refine s_aload_n E dX2_distance_29 rfl rfl ?_
      refine s_iload_n E dX2_distance_30 rfl rfl ?_
      refine s_iload E dX2_distance_31 rfl ?_
      refine s_vI (As := [AI x1, AI q8_4_1]) (S := []) E (Z_X2_spread_69 l D aC b w x1 q8_4_1 hJ.1 ) cv_X2_108 rfl rfl rfl (jv_lt hJ (by decide)) (Nat.le_of_ble_eq_true rfl) (Nat.le_of_ble_eq_true rfl) ⟨(Nat.le_of_ble_eq_true rfl), (Nat.le_of_ble_eq_true rfl)⟩ (Nat.le_of_ble_eq_true rfl) dX2_distance_33 (fun z_12 u_10 hp_11 => ?_)
      obtain ⟨hz_12, hp_11⟩ := hp_11
      subst hp_11
      refine s_istore (L2 := [some (AR 69), some (AI x1), some (AI x2), some (AI x3), some (AI z_12), some (AI q8_5_1)]) E dX2_distance_36 (by decide) rfl ?_
      refine z_iinc (u := q8_5_1.toInt) (L2 := fun z_14 => [some (AR 69), some (AI x1), some (AI x2), some (AI x3), some (AI z_12), some (AI z_14)]) E dX2_distance_38 rfl rfl (by decide) (fun _ => rfl) (by decide) (by omega) (by omega) (fun z_14 hz_14 => ?_)
      refine s_goto (tgt := 8) E dX2_distance_41 (by decide) ?_
      exact ih8 ⟨z_12, z_14⟩ w ⟨⟨by have hb_ := z32 z_14; omega, by have hb_ := z32 z_14; omega⟩, rfl⟩ (by first | omega | decide | (dsimp only; omega) | (dsimp only; decide))
    ·
      refine s_iload E dX2_distance_26 rfl ?_
      exact r_int E dX2_distance_28 ⟨⟨by have hb_ := z32 q8_5_1; omega, by have hb_ := z32 q8_5_1; omega, by first | (right; decide) | (have hb_ := z32 q8_5_1; omega) | (have hb_ := z32 q8_5_1; have hc_ := z32 x3; omega), by first | (right; decide) | (have hb_ := z32 q8_5_1; omega) | (have hb_ := z32 q8_5_1; have hc_ := z32 (w.2.2.1 69 6); omega)⟩, rfl⟩
set_option maxRecDepth 20000 in
set_option maxHeartbeats 2000000 in
theorem Z_X9_way_0 (l : Launch) (D : va_G) (aC : Nat → ClassId) (b : Nat) (w : XW) (x1 : Int32) (x2 : Int32) (x3 : Int32) (hI : Iv w)  : CnI l D aC b M_X9_way 3 71 0 0 [AR 0, AI x1, AI x2, AI x3] w (fun r u => ((-2) ≤ r.toInt ∧ r.toInt ≤ 7 ∧ (¬ r.toInt = 0 ∨ (0 ≤ x1.toInt ∧ x1.toInt ≤ 5)) ∧ (¬ r.toInt = 0 ∨ (0 ≤ x2.toInt ∧ x2.toInt ≤ 7)) ∧ (¬ r.toInt = 0 ∨ (0 ≤ x3.toInt ∧ x3.toInt ≤ 7)) ∧ (¬ r.toInt = 0 ∨ (1 ≤ (w.2.2.1 5 3).toInt ∧ (w.2.2.1 5 3).toInt ≤ 6)) ∧ (¬ r.toInt = 0 ∨ (1 ≤ (w.2.2.1 2 1).toInt ∧ (w.2.2.1 2 1).toInt ≤ 8)) ∧ (¬ r.toInt = 0 ∨ (1 ≤ (w.2.2.1 69 6).toInt ∧ (w.2.2.1 69 6).toInt ≤ 8))) ∧ w = u) := by
  refine cn_I (own := RX9) (nm := "way") (L0 := [some (AR 0), some (AI x1), some (AI x2), some (AI x3)]) (by decide +kernel) rfl rfl (Nat.le_of_ble_eq_true rfl) rfl ?_
  intro p e s m args below meth c E hin
  have hJ : Jv w w := jv_rfl hI
  have hb_x1 := z32 x1
  have hb_x2 := z32 x2
  have hb_x3 := z32 x3
  refine s_aload_n E dX9_way_0 rfl rfl ?_
  refine s_gR (r := 2) E fg_X9_20 rfl rfl (jv_lt hJ (by decide)) (jv_r hJ (by decide +kernel)) dX9_way_1 ?_
  refine s_iload_n E dX9_way_4 rfl rfl ?_
  refine s_vI (As := [AI x1]) (S := []) E (Z_X0_hasLady_2 l D aC b w x1 hJ.1 ) cv_X9_139 rfl rfl rfl (jv_lt hJ (by decide)) (Nat.le_of_ble_eq_true rfl) (Nat.le_of_ble_eq_true rfl) ⟨(Nat.le_of_ble_eq_true rfl), (Nat.le_of_ble_eq_true rfl)⟩ (Nat.le_of_ble_eq_true rfl) dX9_way_5 (fun z_3 u_1 hp_2 => ?_)
  obtain ⟨hz_3, hp_2⟩ := hp_2
  subst hp_2
  refine z_if_eq (tgt := 33) (u := z_3.toInt) E dX9_way_8 (by decide) rfl (fun h_5 => ?_) (fun h_5 => ?_)
  ·
    refine s_bipush (v := (-2)) E dX9_way_33 (by decide) ?_
    exact r_int E dX9_way_35 ⟨⟨by decide, by decide, by first | (left; decide) | (right; decide) | (right; have hb_ := z32 x1; omega), by first | (left; decide) | (right; decide) | (right; have hb_ := z32 x2; omega), by first | (left; decide) | (right; decide) | (right; have hb_ := z32 x3; omega), by first | (left; decide) | (right; decide) | (right; have hb_ := z32 (w.2.2.1 5 3); omega), by first | (left; decide) | (right; decide) | (right; have hb_ := z32 (w.2.2.1 2 1); omega), by first | (left; decide) | (right; decide) | (right; have hb_ := z32 (w.2.2.1 69 6); omega)⟩, rfl⟩
  ·
    refine s_aload_n E dX9_way_11 rfl rfl ?_
    refine s_gR (r := 2) E fg_X9_20 rfl rfl (jv_lt hJ (by decide)) (jv_r hJ (by decide +kernel)) dX9_way_12 ?_
    refine s_iload_n E dX9_way_15 rfl rfl ?_
    refine s_vI (As := [AI x2]) (S := []) E (Z_X0_hasRoom_2 l D aC b w x2 hJ.1 ) cv_X9_143 rfl rfl rfl (jv_lt hJ (by decide)) (Nat.le_of_ble_eq_true rfl) (Nat.le_of_ble_eq_true rfl) ⟨(Nat.le_of_ble_eq_true rfl), (Nat.le_of_ble_eq_true rfl)⟩ (Nat.le_of_ble_eq_true rfl) dX9_way_16 (fun z_8 u_6 hp_7 => ?_)
    obtain ⟨hz_8, hp_7⟩ := hp_7
    subst hp_7
    refine z_if_eq (tgt := 33) (u := z_8.toInt) E dX9_way_19 (by decide) rfl (fun h_10 => ?_) (fun h_10 => ?_)
    ·
      refine s_bipush (v := (-2)) E dX9_way_33 (by decide) ?_
      exact r_int E dX9_way_35 ⟨⟨by decide, by decide, by first | (left; decide) | (right; decide) | (right; have hb_ := z32 x1; omega), by first | (left; decide) | (right; decide) | (right; have hb_ := z32 x2; omega), by first | (left; decide) | (right; decide) | (right; have hb_ := z32 x3; omega), by first | (left; decide) | (right; decide) | (right; have hb_ := z32 (w.2.2.1 5 3); omega), by first | (left; decide) | (right; decide) | (right; have hb_ := z32 (w.2.2.1 2 1); omega), by first | (left; decide) | (right; decide) | (right; have hb_ := z32 (w.2.2.1 69 6); omega)⟩, rfl⟩
    ·
      refine s_aload_n E dX9_way_22 rfl rfl ?_
      refine s_gR (r := 2) E fg_X9_20 rfl rfl (jv_lt hJ (by decide)) (jv_r hJ (by decide +kernel)) dX9_way_23 ?_
      refine s_iload_n E dX9_way_26 rfl rfl ?_
      refine s_vI (As := [AI x3]) (S := []) E (Z_X0_hasRoom_2 l D aC b w x3 hJ.1 ) cv_X9_143 rfl rfl rfl (jv_lt hJ (by decide)) (Nat.le_of_ble_eq_true rfl) (Nat.le_of_ble_eq_true rfl) ⟨(Nat.le_of_ble_eq_true rfl), (Nat.le_of_ble_eq_true rfl)⟩ (Nat.le_of_ble_eq_true rfl) dX9_way_27 (fun z_13 u_11 hp_12 => ?_)
      obtain ⟨hz_13, hp_12⟩ := hp_12
      subst hp_12
      refine z_if_ne (tgt := 36) (u := z_13.toInt) E dX9_way_30 (by decide) rfl (fun h_15 => ?_) (fun h_15 => ?_)
      ·
        refine s_aload_n E dX9_way_36 rfl rfl ?_
        refine s_gR (r := 69) E fg_X9_54 rfl rfl (jv_lt hJ (by decide)) (jv_r hJ (by decide +kernel)) dX9_way_37 ?_
        refine s_iload_n E dX9_way_40 rfl rfl ?_
        refine s_iload_n E dX9_way_41 rfl rfl ?_
        refine s_iload_n E dX9_way_42 rfl rfl ?_
        refine s_vI (As := [AI x1, AI x2, AI x3]) (S := []) E (Z_X2_distance_69 l D aC b w x1 x2 x3 hJ.1 ) cv_X9_146 rfl rfl rfl (jv_lt hJ (by decide)) (Nat.le_of_ble_eq_true rfl) (Nat.le_of_ble_eq_true rfl) ⟨(Nat.le_of_ble_eq_true rfl), (Nat.le_of_ble_eq_true rfl)⟩ (Nat.le_of_ble_eq_true rfl) dX9_way_43 (fun z_18 u_16 hp_17 => ?_)
        obtain ⟨hz_18, hp_17⟩ := hp_17
        subst hp_17
        exact r_int E dX9_way_46 ⟨⟨by have hb_ := z32 z_18; omega, by have hb_ := z32 z_18; omega, by first | (right; decide) | (have hb_ := z32 z_18; omega) | (have hb_ := z32 z_18; have hc_ := z32 x1; omega), by first | (right; decide) | (have hb_ := z32 z_18; omega) | (have hb_ := z32 z_18; have hc_ := z32 x2; omega), by first | (right; decide) | (have hb_ := z32 z_18; omega) | (have hb_ := z32 z_18; have hc_ := z32 x3; omega), by first | (right; decide) | (have hb_ := z32 z_18; omega) | (have hb_ := z32 z_18; have hc_ := z32 (w.2.2.1 5 3); omega), by first | (right; decide) | (have hb_ := z32 z_18; omega) | (have hb_ := z32 z_18; have hc_ := z32 (w.2.2.1 2 1); omega), by first | (right; decide) | (have hb_ := z32 z_18; omega) | (have hb_ := z32 z_18; have hc_ := z32 (w.2.2.1 69 6); omega)⟩, rfl⟩
      ·
        refine s_bipush (v := (-2)) E dX9_way_33 (by decide) ?_
        exact r_int E dX9_way_35 ⟨⟨by decide, by decide, by first | (left; decide) | (right; decide) | (right; have hb_ := z32 x1; omega), by first | (left; decide) | (right; decide) | (right; have hb_ := z32 x2; omega), by first | (left; decide) | (right; decide) | (right; have hb_ := z32 x3; omega), by first | (left; decide) | (right; decide) | (right; have hb_ := z32 (w.2.2.1 5 3); omega), by first | (left; decide) | (right; decide) | (right; have hb_ := z32 (w.2.2.1 2 1); omega), by first | (left; decide) | (right; decide) | (right; have hb_ := z32 (w.2.2.1 69 6); omega)⟩, rfl⟩
set_option maxRecDepth 20000 in
set_option maxHeartbeats 2000000 in
theorem Z_X2_reachable_69 (l : Launch) (D : va_G) (aC : Nat → ClassId) (b : Nat) (w : XW) (x1 : Int32) (x2 : Int32) (hI : Iv w)  : CnI l D aC b M_X2_reachable 2 46 0 0 [AR 69, AI x1, AI x2] w (fun r u => ((-2147483648) ≤ r.toInt ∧ r.toInt ≤ 2147483647) ∧ w = u) := by
  refine cn_I (own := RX2) (nm := "reachable") (L0 := [some (AR 69), some (AI x1), some (AI x2), none, none]) (by decide +kernel) rfl rfl (Nat.le_of_ble_eq_true rfl) rfl ?_
  intro p e s m args below meth c E hin
  have hJ : Jv w w := jv_rfl hI
  have hb_x1 := z32 x1
  have hb_x2 := z32 x2
  refine s_iconst (v := 1) E dX2_reachable_0 (by decide) ?_
  refine s_iload_n E dX2_reachable_1 rfl rfl ?_
  refine s_ishl E dX2_reachable_2 ?_
  refine z_nm (P := fun z => (-2147483648) ≤ z.toInt ∧ z.toInt ≤ 2147483647) (z32 _) (fun z_1 hz_1 => ?_)
  refine s_istore_n (L2 := [some (AR 69), some (AI x1), some (AI x2), some (AI z_1), none]) E dX2_reachable_3 rfl (by decide) rfl ?_
  refine s_iconst (v := 1) E dX2_reachable_4 (by decide) ?_
  refine s_istore (L2 := [some (AR 69), some (AI x1), some (AI x2), some (AI z_1), some (AI 1)]) E dX2_reachable_5 (by decide) rfl ?_
  refine z_loop (St := Int32 × Int32) (Pi := fun ⟨q7_3_1, q7_4_1⟩ v7 => (1 ≤ q7_4_1.toInt ∧ q7_4_1.toInt ≤ 8) ∧ w = v7) (Lf := fun ⟨q7_3_1, q7_4_1⟩ => [some (AR 69), some (AI x1), some (AI x2), some (AI q7_3_1), some (AI q7_4_1)]) (fun ⟨q7_3_1, q7_4_1⟩ _ => (9 - q7_4_1.toInt).toNat) ⟨z_1, 1⟩ ⟨⟨by decide, by decide⟩, rfl⟩ ?_
  rintro ⟨q7_3_1, q7_4_1⟩ v7 ⟨hq7_4, hv_⟩ ih7
  subst hv_
  have hbq7_3 := z32 q7_3_1
  refine s_loc (L2 := [some (AR 69), some (AI x1), some (AI x2), some (AI q7_3_1), some (AI q7_4_1)]) rfl ?_
  refine s_iload E dX2_reachable_7 rfl ?_
  refine s_aload_n E dX2_reachable_9 rfl rfl ?_
  refine s_gI E fg_X2_63 rfl rfl (jv_lt hJ (by decide)) dX2_reachable_10 ?_
  refine z_nm (P := fun z => z.toInt = (w.2.2.1 69 6).toInt ∧ 0 ≤ z.toInt ∧ z.toInt ≤ 8) ⟨rfl, (rg_69_6 hJ)⟩ (fun z_3 hz_3 => ?_)
  refine z_icmp_ge (tgt := 29) (u := q7_4_1.toInt) (v := z_3.toInt) E dX2_reachable_13 (by decide) rfl rfl (fun h_4 => ?_) (fun h_4 => ?_)
  ·
    refine s_iload_n E dX2_reachable_29 rfl rfl ?_
    exact r_int E dX2_reachable_30 ⟨⟨by have hb_ := z32 q7_3_1; omega, by have hb_ := z32 q7_3_1; omega⟩, rfl⟩
  ·
    refine s_aload_n E dX2_reachable_16 rfl rfl ?_
    refine s_iload_n E dX2_reachable_17 rfl rfl ?_
    refine s_iload_n E dX2_reachable_18 rfl rfl ?_
    refine s_vI (As := [AI x1, AI q7_3_1]) (S := []) E (Z_X2_spread_69 l D aC b w x1 q7_3_1 hJ.1 ) cv_X2_108 rfl rfl rfl (jv_lt hJ (by decide)) (Nat.le_of_ble_eq_true rfl) (Nat.le_of_ble_eq_true rfl) ⟨(Nat.le_of_ble_eq_true rfl), (Nat.le_of_ble_eq_true rfl)⟩ (Nat.le_of_ble_eq_true rfl) dX2_reachable_19 (fun z_7 u_5 hp_6 => ?_)
    obtain ⟨hz_7, hp_6⟩ := hp_6
    subst hp_6
    refine s_istore_n (L2 := [some (AR 69), some (AI x1), some (AI x2), some (AI z_7), some (AI q7_4_1)]) E dX2_reachable_22 rfl (by decide) rfl ?_
    refine z_iinc (u := q7_4_1.toInt) (L2 := fun z_9 => [some (AR 69), some (AI x1), some (AI x2), some (AI z_7), some (AI z_9)]) E dX2_reachable_23 rfl rfl (by decide) (fun _ => rfl) (by decide) (by omega) (by omega) (fun z_9 hz_9 => ?_)
    refine s_goto (tgt := 7) E dX2_reachable_26 (by decide) ?_
    exact ih7 ⟨z_7, z_9⟩ w ⟨⟨by have hb_ := z32 z_9; omega, by have hb_ := z32 z_9; omega⟩, rfl⟩ (by first | omega | decide | (dsimp only; omega) | (dsimp only; decide))
set_option maxRecDepth 20000 in
set_option maxHeartbeats 2000000 in
theorem Z_X9_reach_0 (l : Launch) (D : va_G) (aC : Nat → ClassId) (b : Nat) (w : XW) (x1 : Int32) (x2 : Int32) (hI : Iv w)  : CnI l D aC b M_X9_reach 3 70 0 0 [AR 0, AI x1, AI x2] w (fun r u => ((-2147483648) ≤ r.toInt ∧ r.toInt ≤ 2147483647 ∧ (¬ r.toInt = 0 ∨ (0 ≤ x1.toInt ∧ x1.toInt ≤ 5)) ∧ (¬ r.toInt = 0 ∨ (0 ≤ x2.toInt ∧ x2.toInt ≤ 7)) ∧ (¬ r.toInt = 0 ∨ (1 ≤ (w.2.2.1 5 3).toInt ∧ (w.2.2.1 5 3).toInt ≤ 6)) ∧ (¬ r.toInt = 0 ∨ (1 ≤ (w.2.2.1 2 1).toInt ∧ (w.2.2.1 2 1).toInt ≤ 8))) ∧ w = u) := by
  refine cn_I (own := RX9) (nm := "reach") (L0 := [some (AR 0), some (AI x1), some (AI x2)]) (by decide +kernel) rfl rfl (Nat.le_of_ble_eq_true rfl) rfl ?_
  intro p e s m args below meth c E hin
  have hJ : Jv w w := jv_rfl hI
  have hb_x1 := z32 x1
  have hb_x2 := z32 x2
  refine s_aload_n E dX9_reach_0 rfl rfl ?_
  refine s_gR (r := 2) E fg_X9_20 rfl rfl (jv_lt hJ (by decide)) (jv_r hJ (by decide +kernel)) dX9_reach_1 ?_
  refine s_iload_n E dX9_reach_4 rfl rfl ?_
  refine s_vI (As := [AI x1]) (S := []) E (Z_X0_hasLady_2 l D aC b w x1 hJ.1 ) cv_X9_139 rfl rfl rfl (jv_lt hJ (by decide)) (Nat.le_of_ble_eq_true rfl) (Nat.le_of_ble_eq_true rfl) ⟨(Nat.le_of_ble_eq_true rfl), (Nat.le_of_ble_eq_true rfl)⟩ (Nat.le_of_ble_eq_true rfl) dX9_reach_5 (fun z_3 u_1 hp_2 => ?_)
  obtain ⟨hz_3, hp_2⟩ := hp_2
  subst hp_2
  refine z_if_eq (tgt := 22) (u := z_3.toInt) E dX9_reach_8 (by decide) rfl (fun h_5 => ?_) (fun h_5 => ?_)
  ·
    refine s_bipush (v := (-2)) E dX9_reach_22 (by decide) ?_
    exact r_int E dX9_reach_24 ⟨⟨by decide, by decide, by first | (left; decide) | (right; decide) | (right; have hb_ := z32 x1; omega), by first | (left; decide) | (right; decide) | (right; have hb_ := z32 x2; omega), by first | (left; decide) | (right; decide) | (right; have hb_ := z32 (w.2.2.1 5 3); omega), by first | (left; decide) | (right; decide) | (right; have hb_ := z32 (w.2.2.1 2 1); omega)⟩, rfl⟩
  ·
    refine s_aload_n E dX9_reach_11 rfl rfl ?_
    refine s_gR (r := 2) E fg_X9_20 rfl rfl (jv_lt hJ (by decide)) (jv_r hJ (by decide +kernel)) dX9_reach_12 ?_
    refine s_iload_n E dX9_reach_15 rfl rfl ?_
    refine s_vI (As := [AI x2]) (S := []) E (Z_X0_hasRoom_2 l D aC b w x2 hJ.1 ) cv_X9_143 rfl rfl rfl (jv_lt hJ (by decide)) (Nat.le_of_ble_eq_true rfl) (Nat.le_of_ble_eq_true rfl) ⟨(Nat.le_of_ble_eq_true rfl), (Nat.le_of_ble_eq_true rfl)⟩ (Nat.le_of_ble_eq_true rfl) dX9_reach_16 (fun z_8 u_6 hp_7 => ?_)
    obtain ⟨hz_8, hp_7⟩ := hp_7
    subst hp_7
    refine z_if_ne (tgt := 25) (u := z_8.toInt) E dX9_reach_19 (by decide) rfl (fun h_10 => ?_) (fun h_10 => ?_)
    ·
      refine s_aload_n E dX9_reach_25 rfl rfl ?_
      refine s_gR (r := 69) E fg_X9_54 rfl rfl (jv_lt hJ (by decide)) (jv_r hJ (by decide +kernel)) dX9_reach_26 ?_
      refine s_iload_n E dX9_reach_29 rfl rfl ?_
      refine s_iload_n E dX9_reach_30 rfl rfl ?_
      refine s_vI (As := [AI x1, AI x2]) (S := []) E (Z_X2_reachable_69 l D aC b w x1 x2 hJ.1 ) cv_X9_150 rfl rfl rfl (jv_lt hJ (by decide)) (Nat.le_of_ble_eq_true rfl) (Nat.le_of_ble_eq_true rfl) ⟨(Nat.le_of_ble_eq_true rfl), (Nat.le_of_ble_eq_true rfl)⟩ (Nat.le_of_ble_eq_true rfl) dX9_reach_31 (fun z_13 u_11 hp_12 => ?_)
      obtain ⟨hz_13, hp_12⟩ := hp_12
      subst hp_12
      exact r_int E dX9_reach_34 ⟨⟨by have hb_ := z32 z_13; omega, by have hb_ := z32 z_13; omega, by first | (right; decide) | (have hb_ := z32 z_13; omega) | (have hb_ := z32 z_13; have hc_ := z32 x1; omega), by first | (right; decide) | (have hb_ := z32 z_13; omega) | (have hb_ := z32 z_13; have hc_ := z32 x2; omega), by first | (right; decide) | (have hb_ := z32 z_13; omega) | (have hb_ := z32 z_13; have hc_ := z32 (w.2.2.1 5 3); omega), by first | (right; decide) | (have hb_ := z32 z_13; omega) | (have hb_ := z32 z_13; have hc_ := z32 (w.2.2.1 2 1); omega)⟩, rfl⟩
    ·
      refine s_bipush (v := (-2)) E dX9_reach_22 (by decide) ?_
      exact r_int E dX9_reach_24 ⟨⟨by decide, by decide, by first | (left; decide) | (right; decide) | (right; have hb_ := z32 x1; omega), by first | (left; decide) | (right; decide) | (right; have hb_ := z32 x2; omega), by first | (left; decide) | (right; decide) | (right; have hb_ := z32 (w.2.2.1 5 3); omega), by first | (left; decide) | (right; decide) | (right; have hb_ := z32 (w.2.2.1 2 1); omega)⟩, rfl⟩
set_option maxRecDepth 20000 in
set_option maxHeartbeats 2000000 in
theorem Z_X0_isTold_2 (l : Launch) (D : va_G) (aC : Nat → ClassId) (b : Nat) (w : XW)  (hI : Iv w)  : CnI l D aC b M_X0_isTold 0 0 0 0 [AR 2] w (fun r u => (0 ≤ r.toInt ∧ r.toInt ≤ 1 ∧ (¬ r.toInt = 0 ∨ ((-2147483648) ≤ (w.2.2.1 2 0).toInt ∧ (w.2.2.1 2 0).toInt ≤ 0)) ∧ (r.toInt = 0 ∨ (1 ≤ (w.2.2.1 2 0).toInt ∧ (w.2.2.1 2 0).toInt ≤ 2147483647))) ∧ w = u) := by
  refine cn_I (own := RX0) (nm := "isTold") (L0 := [some (AR 2)]) (by decide +kernel) rfl rfl (Nat.le_of_ble_eq_true rfl) rfl ?_
  intro p e s m args below meth c E hin
  have hJ : Jv w w := jv_rfl hI
  refine s_aload_n E dX0_isTold_0 rfl rfl ?_
  refine s_gI E fg_X0_32 rfl rfl (jv_lt hJ (by decide)) dX0_isTold_1 ?_
  refine z_nm (P := fun z => z.toInt = (w.2.2.1 2 0).toInt ∧ (-2147483648) ≤ z.toInt ∧ z.toInt ≤ 2147483647) ⟨rfl, z32 _⟩ (fun z_1 hz_1 => ?_)
  refine z_if_le (tgt := 11) (u := z_1.toInt) E dX0_isTold_4 (by decide) rfl (fun h_2 => ?_) (fun h_2 => ?_)
  ·
    refine s_iconst (v := 0) E dX0_isTold_11 (by decide) ?_
    exact r_bool E dX0_isTold_12 (Or.inl rfl) ⟨⟨by decide, by decide, by first | (left; decide) | (right; decide) | (right; have hb_ := z32 (w.2.2.1 2 0); omega), by first | (left; decide) | (right; decide) | (right; have hb_ := z32 (w.2.2.1 2 0); omega)⟩, rfl⟩
  ·
    refine s_iconst (v := 1) E dX0_isTold_7 (by decide) ?_
    refine s_goto (tgt := 12) E dX0_isTold_8 (by decide) ?_
    exact r_bool E dX0_isTold_12 (Or.inr rfl) ⟨⟨by decide, by decide, by first | (left; decide) | (right; decide) | (right; have hb_ := z32 (w.2.2.1 2 0); omega), by first | (left; decide) | (right; decide) | (right; have hb_ := z32 (w.2.2.1 2 0); omega)⟩, rfl⟩
set_option maxRecDepth 20000 in
set_option maxHeartbeats 2000000 in
theorem Z_X0_hasDance_2 (l : Launch) (D : va_G) (aC : Nat → ClassId) (b : Nat) (w : XW) (x1 : Int32) (hI : Iv w)  : CnI l D aC b M_X0_hasDance 1 20 0 0 [AR 2, AI x1] w (fun r u => (0 ≤ r.toInt ∧ r.toInt ≤ 1 ∧ (r.toInt = 0 ∨ (0 ≤ x1.toInt ∧ x1.toInt ≤ 14)) ∧ (r.toInt = 0 ∨ (1 ≤ (w.2.2.1 2 0).toInt ∧ (w.2.2.1 2 0).toInt ≤ 2147483647))) ∧ w = u) := by
  refine cn_I (own := RX0) (nm := "hasDance") (L0 := [some (AR 2), some (AI x1)]) (by decide +kernel) rfl rfl (Nat.le_of_ble_eq_true rfl) rfl ?_
  intro p e s m args below meth c E hin
  have hJ : Jv w w := jv_rfl hI
  have hb_x1 := z32 x1
  refine s_aload_n E dX0_hasDance_0 rfl rfl ?_
  refine s_vI (As := []) (S := []) E (Z_X0_isTold_2 l D aC b w  hJ.1 ) cv_X0_59 rfl rfl rfl (jv_lt hJ (by decide)) (Nat.le_of_ble_eq_true rfl) (Nat.le_of_ble_eq_true rfl) ⟨(Nat.le_of_ble_eq_true rfl), (Nat.le_of_ble_eq_true rfl)⟩ (Nat.le_of_ble_eq_true rfl) dX0_hasDance_1 (fun z_3 u_1 hp_2 => ?_)
  obtain ⟨hz_3, hp_2⟩ := hp_2
  subst hp_2
  refine z_if_eq (tgt := 23) (u := z_3.toInt) E dX0_hasDance_4 (by decide) rfl (fun h_5 => ?_) (fun h_5 => ?_)
  ·
    refine s_iconst (v := 0) E dX0_hasDance_23 (by decide) ?_
    exact r_bool E dX0_hasDance_24 (Or.inl rfl) ⟨⟨by decide, by decide, by first | (left; decide) | (right; decide) | (right; have hb_ := z32 x1; omega), by first | (left; decide) | (right; decide) | (right; have hb_ := z32 (w.2.2.1 2 0); omega)⟩, rfl⟩
  ·
    refine s_iload_n E dX0_hasDance_7 rfl rfl ?_
    refine z_if_lt (tgt := 23) (u := x1.toInt) E dX0_hasDance_8 (by decide) rfl (fun h_6 => ?_) (fun h_6 => ?_)
    ·
      refine s_iconst (v := 0) E dX0_hasDance_23 (by decide) ?_
      exact r_bool E dX0_hasDance_24 (Or.inl rfl) ⟨⟨by decide, by decide, by first | (left; decide) | (right; decide) | (right; have hb_ := z32 x1; omega), by first | (left; decide) | (right; decide) | (right; have hb_ := z32 (w.2.2.1 2 0); omega)⟩, rfl⟩
    ·
      refine s_iload_n E dX0_hasDance_11 rfl rfl ?_
      refine s_aload_n E dX0_hasDance_12 rfl rfl ?_
      refine s_gI E fg_X0_39 rfl rfl (jv_lt hJ (by decide)) dX0_hasDance_13 ?_
      refine z_nm (P := fun z => z.toInt = (w.2.2.1 2 2).toInt ∧ 0 ≤ z.toInt ∧ z.toInt ≤ 14) ⟨rfl, (rg_2_2 hJ)⟩ (fun z_7 hz_7 => ?_)
      refine z_icmp_gt (tgt := 23) (u := x1.toInt) (v := z_7.toInt) E dX0_hasDance_16 (by decide) rfl rfl (fun h_8 => ?_) (fun h_8 => ?_)
      ·
        refine s_iconst (v := 0) E dX0_hasDance_23 (by decide) ?_
        exact r_bool E dX0_hasDance_24 (Or.inl rfl) ⟨⟨by decide, by decide, by first | (left; decide) | (right; decide) | (right; have hb_ := z32 x1; omega), by first | (left; decide) | (right; decide) | (right; have hb_ := z32 (w.2.2.1 2 0); omega)⟩, rfl⟩
      ·
        refine s_iconst (v := 1) E dX0_hasDance_19 (by decide) ?_
        refine s_goto (tgt := 24) E dX0_hasDance_20 (by decide) ?_
        exact r_bool E dX0_hasDance_24 (Or.inr rfl) ⟨⟨by decide, by decide, by first | (left; decide) | (right; decide) | (right; have hb_ := z32 x1; omega), by first | (left; decide) | (right; decide) | (right; have hb_ := z32 (w.2.2.1 2 0); omega)⟩, rfl⟩
set_option maxRecDepth 20000 in
set_option maxHeartbeats 2000000 in
theorem Z_X9_bidden_0 (l : Launch) (D : va_G) (aC : Nat → ClassId) (b : Nat) (w : XW) (x1 : Int32) (x2 : Int32) (hI : Iv w)  : CnI l D aC b M_X9_bidden 2 44 0 0 [AR 0, AI x1, AI x2] w (fun r u => ((-2147483648) ≤ r.toInt ∧ r.toInt ≤ 2147483647 ∧ (¬ r.toInt = 0 ∨ (0 ≤ x1.toInt ∧ x1.toInt ≤ 5)) ∧ (¬ r.toInt = 0 ∨ (0 ≤ x2.toInt ∧ x2.toInt ≤ 14)) ∧ (¬ r.toInt = 0 ∨ (1 ≤ (w.2.2.1 5 3).toInt ∧ (w.2.2.1 5 3).toInt ≤ 6)) ∧ (¬ r.toInt = 0 ∨ (1 ≤ (w.2.2.1 2 0).toInt ∧ (w.2.2.1 2 0).toInt ≤ 2147483647)) ∧ (¬ r.toInt = 0 ∨ (1 ≤ (w.2.2.1 69 5).toInt ∧ (w.2.2.1 69 5).toInt ≤ 6))) ∧ w = u) := by
  refine cn_I (own := RX9) (nm := "bidden") (L0 := [some (AR 0), some (AI x1), some (AI x2)]) (by decide +kernel) rfl rfl (Nat.le_of_ble_eq_true rfl) rfl ?_
  intro p e s m args below meth c E hin
  have hJ : Jv w w := jv_rfl hI
  have hb_x1 := z32 x1
  have hb_x2 := z32 x2
  refine s_aload_n E dX9_bidden_0 rfl rfl ?_
  refine s_gR (r := 2) E fg_X9_20 rfl rfl (jv_lt hJ (by decide)) (jv_r hJ (by decide +kernel)) dX9_bidden_1 ?_
  refine s_iload_n E dX9_bidden_4 rfl rfl ?_
  refine s_vI (As := [AI x1]) (S := []) E (Z_X0_hasLady_2 l D aC b w x1 hJ.1 ) cv_X9_139 rfl rfl rfl (jv_lt hJ (by decide)) (Nat.le_of_ble_eq_true rfl) (Nat.le_of_ble_eq_true rfl) ⟨(Nat.le_of_ble_eq_true rfl), (Nat.le_of_ble_eq_true rfl)⟩ (Nat.le_of_ble_eq_true rfl) dX9_bidden_5 (fun z_3 u_1 hp_2 => ?_)
  obtain ⟨hz_3, hp_2⟩ := hp_2
  subst hp_2
  refine z_if_eq (tgt := 22) (u := z_3.toInt) E dX9_bidden_8 (by decide) rfl (fun h_5 => ?_) (fun h_5 => ?_)
  ·
    refine s_bipush (v := (-2)) E dX9_bidden_22 (by decide) ?_
    exact r_int E dX9_bidden_24 ⟨⟨by decide, by decide, by first | (left; decide) | (right; decide) | (right; have hb_ := z32 x1; omega), by first | (left; decide) | (right; decide) | (right; have hb_ := z32 x2; omega), by first | (left; decide) | (right; decide) | (right; have hb_ := z32 (w.2.2.1 5 3); omega), by first | (left; decide) | (right; decide) | (right; have hb_ := z32 (w.2.2.1 2 0); omega), by first | (left; decide) | (right; decide) | (right; have hb_ := z32 (w.2.2.1 69 5); omega)⟩, rfl⟩
  ·
    refine s_aload_n E dX9_bidden_11 rfl rfl ?_
    refine s_gR (r := 2) E fg_X9_20 rfl rfl (jv_lt hJ (by decide)) (jv_r hJ (by decide +kernel)) dX9_bidden_12 ?_
    refine s_iload_n E dX9_bidden_15 rfl rfl ?_
    refine s_vI (As := [AI x2]) (S := []) E (Z_X0_hasDance_2 l D aC b w x2 hJ.1 ) cv_X9_153 rfl rfl rfl (jv_lt hJ (by decide)) (Nat.le_of_ble_eq_true rfl) (Nat.le_of_ble_eq_true rfl) ⟨(Nat.le_of_ble_eq_true rfl), (Nat.le_of_ble_eq_true rfl)⟩ (Nat.le_of_ble_eq_true rfl) dX9_bidden_16 (fun z_8 u_6 hp_7 => ?_)
    obtain ⟨hz_8, hp_7⟩ := hp_7
    subst hp_7
    refine z_if_ne (tgt := 25) (u := z_8.toInt) E dX9_bidden_19 (by decide) rfl (fun h_10 => ?_) (fun h_10 => ?_)
    ·
      refine s_aload_n E dX9_bidden_25 rfl rfl ?_
      refine s_gR (r := 69) E fg_X9_54 rfl rfl (jv_lt hJ (by decide)) (jv_r hJ (by decide +kernel)) dX9_bidden_26 ?_
      refine s_iload_n E dX9_bidden_29 rfl rfl ?_
      refine s_iload_n E dX9_bidden_30 rfl rfl ?_
      refine s_vI (As := [AI x1, AI x2]) (S := []) E (Z_X2_goalOf_69 l D aC b w x1 x2 hJ.1 ) cv_X9_156 rfl rfl rfl (jv_lt hJ (by decide)) (Nat.le_of_ble_eq_true rfl) (Nat.le_of_ble_eq_true rfl) ⟨(Nat.le_of_ble_eq_true rfl), (Nat.le_of_ble_eq_true rfl)⟩ (Nat.le_of_ble_eq_true rfl) dX9_bidden_31 (fun z_13 u_11 hp_12 => ?_)
      obtain ⟨hz_13, hp_12⟩ := hp_12
      subst hp_12
      exact r_int E dX9_bidden_34 ⟨⟨by have hb_ := z32 z_13; omega, by have hb_ := z32 z_13; omega, by first | (right; decide) | (have hb_ := z32 z_13; omega) | (have hb_ := z32 z_13; have hc_ := z32 x1; omega), by first | (right; decide) | (have hb_ := z32 z_13; omega) | (have hb_ := z32 z_13; have hc_ := z32 x2; omega), by first | (right; decide) | (have hb_ := z32 z_13; omega) | (have hb_ := z32 z_13; have hc_ := z32 (w.2.2.1 5 3); omega), by first | (right; decide) | (have hb_ := z32 z_13; omega) | (have hb_ := z32 z_13; have hc_ := z32 (w.2.2.1 2 0); omega), by first | (right; decide) | (have hb_ := z32 z_13; omega) | (have hb_ := z32 z_13; have hc_ := z32 (w.2.2.1 69 5); omega)⟩, rfl⟩
    ·
      refine s_bipush (v := (-2)) E dX9_bidden_22 (by decide) ?_
      exact r_int E dX9_bidden_24 ⟨⟨by decide, by decide, by first | (left; decide) | (right; decide) | (right; have hb_ := z32 x1; omega), by first | (left; decide) | (right; decide) | (right; have hb_ := z32 x2; omega), by first | (left; decide) | (right; decide) | (right; have hb_ := z32 (w.2.2.1 5 3); omega), by first | (left; decide) | (right; decide) | (right; have hb_ := z32 (w.2.2.1 2 0); omega), by first | (left; decide) | (right; decide) | (right; have hb_ := z32 (w.2.2.1 69 5); omega)⟩, rfl⟩
set_option maxRecDepth 20000 in
set_option maxHeartbeats 2000000 in
theorem Z_X9_at_0 (l : Launch) (D : va_G) (aC : Nat → ClassId) (b : Nat) (w : XW) (x1 : Int32) (x2 : Int32) (hI : Iv w)  : CnI l D aC b M_X9_at 2 44 0 0 [AR 0, AI x1, AI x2] w (fun r u => ((-2147483648) ≤ r.toInt ∧ r.toInt ≤ 2147483647 ∧ (¬ r.toInt = 0 ∨ (0 ≤ x1.toInt ∧ x1.toInt ≤ 5)) ∧ (¬ r.toInt = 0 ∨ (0 ≤ x2.toInt ∧ x2.toInt ≤ 14)) ∧ (¬ r.toInt = 0 ∨ (1 ≤ (w.2.2.1 5 3).toInt ∧ (w.2.2.1 5 3).toInt ≤ 6)) ∧ (¬ r.toInt = 0 ∨ (1 ≤ (w.2.2.1 2 0).toInt ∧ (w.2.2.1 2 0).toInt ≤ 2147483647)) ∧ (¬ r.toInt = 0 ∨ (1 ≤ (w.2.2.1 69 5).toInt ∧ (w.2.2.1 69 5).toInt ≤ 6))) ∧ w = u) := by
  refine cn_I (own := RX9) (nm := "at") (L0 := [some (AR 0), some (AI x1), some (AI x2)]) (by decide +kernel) rfl rfl (Nat.le_of_ble_eq_true rfl) rfl ?_
  intro p e s m args below meth c E hin
  have hJ : Jv w w := jv_rfl hI
  have hb_x1 := z32 x1
  have hb_x2 := z32 x2
  refine s_aload_n E dX9_at_0 rfl rfl ?_
  refine s_gR (r := 2) E fg_X9_20 rfl rfl (jv_lt hJ (by decide)) (jv_r hJ (by decide +kernel)) dX9_at_1 ?_
  refine s_iload_n E dX9_at_4 rfl rfl ?_
  refine s_vI (As := [AI x1]) (S := []) E (Z_X0_hasLady_2 l D aC b w x1 hJ.1 ) cv_X9_139 rfl rfl rfl (jv_lt hJ (by decide)) (Nat.le_of_ble_eq_true rfl) (Nat.le_of_ble_eq_true rfl) ⟨(Nat.le_of_ble_eq_true rfl), (Nat.le_of_ble_eq_true rfl)⟩ (Nat.le_of_ble_eq_true rfl) dX9_at_5 (fun z_3 u_1 hp_2 => ?_)
  obtain ⟨hz_3, hp_2⟩ := hp_2
  subst hp_2
  refine z_if_eq (tgt := 22) (u := z_3.toInt) E dX9_at_8 (by decide) rfl (fun h_5 => ?_) (fun h_5 => ?_)
  ·
    refine s_bipush (v := (-2)) E dX9_at_22 (by decide) ?_
    exact r_int E dX9_at_24 ⟨⟨by decide, by decide, by first | (left; decide) | (right; decide) | (right; have hb_ := z32 x1; omega), by first | (left; decide) | (right; decide) | (right; have hb_ := z32 x2; omega), by first | (left; decide) | (right; decide) | (right; have hb_ := z32 (w.2.2.1 5 3); omega), by first | (left; decide) | (right; decide) | (right; have hb_ := z32 (w.2.2.1 2 0); omega), by first | (left; decide) | (right; decide) | (right; have hb_ := z32 (w.2.2.1 69 5); omega)⟩, rfl⟩
  ·
    refine s_aload_n E dX9_at_11 rfl rfl ?_
    refine s_gR (r := 2) E fg_X9_20 rfl rfl (jv_lt hJ (by decide)) (jv_r hJ (by decide +kernel)) dX9_at_12 ?_
    refine s_iload_n E dX9_at_15 rfl rfl ?_
    refine s_vI (As := [AI x2]) (S := []) E (Z_X0_hasDance_2 l D aC b w x2 hJ.1 ) cv_X9_153 rfl rfl rfl (jv_lt hJ (by decide)) (Nat.le_of_ble_eq_true rfl) (Nat.le_of_ble_eq_true rfl) ⟨(Nat.le_of_ble_eq_true rfl), (Nat.le_of_ble_eq_true rfl)⟩ (Nat.le_of_ble_eq_true rfl) dX9_at_16 (fun z_8 u_6 hp_7 => ?_)
    obtain ⟨hz_8, hp_7⟩ := hp_7
    subst hp_7
    refine z_if_ne (tgt := 25) (u := z_8.toInt) E dX9_at_19 (by decide) rfl (fun h_10 => ?_) (fun h_10 => ?_)
    ·
      refine s_aload_n E dX9_at_25 rfl rfl ?_
      refine s_gR (r := 69) E fg_X9_54 rfl rfl (jv_lt hJ (by decide)) (jv_r hJ (by decide +kernel)) dX9_at_26 ?_
      refine s_iload_n E dX9_at_29 rfl rfl ?_
      refine s_iload_n E dX9_at_30 rfl rfl ?_
      refine s_vI (As := [AI x1, AI x2]) (S := []) E (Z_X2_placeOf_69 l D aC b w x1 x2 hJ.1 ) cv_X9_159 rfl rfl rfl (jv_lt hJ (by decide)) (Nat.le_of_ble_eq_true rfl) (Nat.le_of_ble_eq_true rfl) ⟨(Nat.le_of_ble_eq_true rfl), (Nat.le_of_ble_eq_true rfl)⟩ (Nat.le_of_ble_eq_true rfl) dX9_at_31 (fun z_13 u_11 hp_12 => ?_)
      obtain ⟨hz_13, hp_12⟩ := hp_12
      subst hp_12
      exact r_int E dX9_at_34 ⟨⟨by have hb_ := z32 z_13; omega, by have hb_ := z32 z_13; omega, by first | (right; decide) | (have hb_ := z32 z_13; omega) | (have hb_ := z32 z_13; have hc_ := z32 x1; omega), by first | (right; decide) | (have hb_ := z32 z_13; omega) | (have hb_ := z32 z_13; have hc_ := z32 x2; omega), by first | (right; decide) | (have hb_ := z32 z_13; omega) | (have hb_ := z32 z_13; have hc_ := z32 (w.2.2.1 5 3); omega), by first | (right; decide) | (have hb_ := z32 z_13; omega) | (have hb_ := z32 z_13; have hc_ := z32 (w.2.2.1 2 0); omega), by first | (right; decide) | (have hb_ := z32 z_13; omega) | (have hb_ := z32 z_13; have hc_ := z32 (w.2.2.1 69 5); omega)⟩, rfl⟩
    ·
      refine s_bipush (v := (-2)) E dX9_at_22 (by decide) ?_
      exact r_int E dX9_at_24 ⟨⟨by decide, by decide, by first | (left; decide) | (right; decide) | (right; have hb_ := z32 x1; omega), by first | (left; decide) | (right; decide) | (right; have hb_ := z32 x2; omega), by first | (left; decide) | (right; decide) | (right; have hb_ := z32 (w.2.2.1 5 3); omega), by first | (left; decide) | (right; decide) | (right; have hb_ := z32 (w.2.2.1 2 0); omega), by first | (left; decide) | (right; decide) | (right; have hb_ := z32 (w.2.2.1 69 5); omega)⟩, rfl⟩
set_option maxRecDepth 20000 in
set_option maxHeartbeats 2000000 in
theorem Z_X9_within_0 (l : Launch) (D : va_G) (aC : Nat → ClassId) (b : Nat) (w : XW) (x1 : Int32) (x2 : Int32) (hI : Iv w)  : CnI l D aC b M_X9_within 3 68 0 0 [AR 0, AI x1, AI x2] w (fun r u => ((-2147483648) ≤ r.toInt ∧ r.toInt ≤ 2147483647 ∧ (¬ r.toInt = 0 ∨ (0 ≤ x1.toInt ∧ x1.toInt ≤ 7)) ∧ (¬ r.toInt = 0 ∨ (0 ≤ x2.toInt ∧ x2.toInt ≤ 14)) ∧ (¬ r.toInt = 0 ∨ (1 ≤ (w.2.2.1 2 1).toInt ∧ (w.2.2.1 2 1).toInt ≤ 8)) ∧ (¬ r.toInt = 0 ∨ (1 ≤ (w.2.2.1 2 0).toInt ∧ (w.2.2.1 2 0).toInt ≤ 2147483647))) ∧ w = u) := by
  refine cn_I (own := RX9) (nm := "within") (L0 := [some (AR 0), some (AI x1), some (AI x2)]) (by decide +kernel) rfl rfl (Nat.le_of_ble_eq_true rfl) rfl ?_
  intro p e s m args below meth c E hin
  have hJ : Jv w w := jv_rfl hI
  have hb_x1 := z32 x1
  have hb_x2 := z32 x2
  refine s_aload_n E dX9_within_0 rfl rfl ?_
  refine s_gR (r := 2) E fg_X9_20 rfl rfl (jv_lt hJ (by decide)) (jv_r hJ (by decide +kernel)) dX9_within_1 ?_
  refine s_iload_n E dX9_within_4 rfl rfl ?_
  refine s_vI (As := [AI x1]) (S := []) E (Z_X0_hasRoom_2 l D aC b w x1 hJ.1 ) cv_X9_143 rfl rfl rfl (jv_lt hJ (by decide)) (Nat.le_of_ble_eq_true rfl) (Nat.le_of_ble_eq_true rfl) ⟨(Nat.le_of_ble_eq_true rfl), (Nat.le_of_ble_eq_true rfl)⟩ (Nat.le_of_ble_eq_true rfl) dX9_within_5 (fun z_3 u_1 hp_2 => ?_)
  obtain ⟨hz_3, hp_2⟩ := hp_2
  subst hp_2
  refine z_if_eq (tgt := 22) (u := z_3.toInt) E dX9_within_8 (by decide) rfl (fun h_5 => ?_) (fun h_5 => ?_)
  ·
    refine s_bipush (v := (-2)) E dX9_within_22 (by decide) ?_
    exact r_int E dX9_within_24 ⟨⟨by decide, by decide, by first | (left; decide) | (right; decide) | (right; have hb_ := z32 x1; omega), by first | (left; decide) | (right; decide) | (right; have hb_ := z32 x2; omega), by first | (left; decide) | (right; decide) | (right; have hb_ := z32 (w.2.2.1 2 1); omega), by first | (left; decide) | (right; decide) | (right; have hb_ := z32 (w.2.2.1 2 0); omega)⟩, rfl⟩
  ·
    refine s_aload_n E dX9_within_11 rfl rfl ?_
    refine s_gR (r := 2) E fg_X9_20 rfl rfl (jv_lt hJ (by decide)) (jv_r hJ (by decide +kernel)) dX9_within_12 ?_
    refine s_iload_n E dX9_within_15 rfl rfl ?_
    refine s_vI (As := [AI x2]) (S := []) E (Z_X0_hasDance_2 l D aC b w x2 hJ.1 ) cv_X9_153 rfl rfl rfl (jv_lt hJ (by decide)) (Nat.le_of_ble_eq_true rfl) (Nat.le_of_ble_eq_true rfl) ⟨(Nat.le_of_ble_eq_true rfl), (Nat.le_of_ble_eq_true rfl)⟩ (Nat.le_of_ble_eq_true rfl) dX9_within_16 (fun z_8 u_6 hp_7 => ?_)
    obtain ⟨hz_8, hp_7⟩ := hp_7
    subst hp_7
    refine z_if_ne (tgt := 25) (u := z_8.toInt) E dX9_within_19 (by decide) rfl (fun h_10 => ?_) (fun h_10 => ?_)
    ·
      refine s_aload_n E dX9_within_25 rfl rfl ?_
      refine s_gR (r := 69) E fg_X9_54 rfl rfl (jv_lt hJ (by decide)) (jv_r hJ (by decide +kernel)) dX9_within_26 ?_
      refine s_iload_n E dX9_within_29 rfl rfl ?_
      refine s_iload_n E dX9_within_30 rfl rfl ?_
      refine s_vI (As := [AI x1, AI x2]) (S := []) E (Z_X2_ladiesIn_69 l D aC b w x1 x2 hJ.1 ) cv_X9_162 rfl rfl rfl (jv_lt hJ (by decide)) (Nat.le_of_ble_eq_true rfl) (Nat.le_of_ble_eq_true rfl) ⟨(Nat.le_of_ble_eq_true rfl), (Nat.le_of_ble_eq_true rfl)⟩ (Nat.le_of_ble_eq_true rfl) dX9_within_31 (fun z_13 u_11 hp_12 => ?_)
      obtain ⟨hz_13, hp_12⟩ := hp_12
      subst hp_12
      exact r_int E dX9_within_34 ⟨⟨by have hb_ := z32 z_13; omega, by have hb_ := z32 z_13; omega, by first | (right; decide) | (have hb_ := z32 z_13; omega) | (have hb_ := z32 z_13; have hc_ := z32 x1; omega), by first | (right; decide) | (have hb_ := z32 z_13; omega) | (have hb_ := z32 z_13; have hc_ := z32 x2; omega), by first | (right; decide) | (have hb_ := z32 z_13; omega) | (have hb_ := z32 z_13; have hc_ := z32 (w.2.2.1 2 1); omega), by first | (right; decide) | (have hb_ := z32 z_13; omega) | (have hb_ := z32 z_13; have hc_ := z32 (w.2.2.1 2 0); omega)⟩, rfl⟩
    ·
      refine s_bipush (v := (-2)) E dX9_within_22 (by decide) ?_
      exact r_int E dX9_within_24 ⟨⟨by decide, by decide, by first | (left; decide) | (right; decide) | (right; have hb_ := z32 x1; omega), by first | (left; decide) | (right; decide) | (right; have hb_ := z32 x2; omega), by first | (left; decide) | (right; decide) | (right; have hb_ := z32 (w.2.2.1 2 1); omega), by first | (left; decide) | (right; decide) | (right; have hb_ := z32 (w.2.2.1 2 0); omega)⟩, rfl⟩
set_option maxRecDepth 20000 in
set_option maxHeartbeats 2000000 in
theorem Z_X2_stepsOf_69 (l : Launch) (D : va_G) (aC : Nat → ClassId) (b : Nat) (w : XW) (x1 : Int32) (hI : Iv w)  : CnI l D aC b M_X2_stepsOf 2 44 0 0 [AR 69, AI x1] w (fun r u => ((-2147483648) ≤ r.toInt ∧ r.toInt ≤ 2147483647) ∧ w = u) := by
  refine cn_I (own := RX2) (nm := "stepsOf") (L0 := [some (AR 69), some (AI x1), none, none]) (by decide +kernel) rfl rfl (Nat.le_of_ble_eq_true rfl) rfl ?_
  intro p e s m args below meth c E hin
  have hJ : Jv w w := jv_rfl hI
  have hb_x1 := z32 x1
  refine s_iconst (v := 0) E dX2_stepsOf_0 (by decide) ?_
  refine s_istore_n (L2 := [some (AR 69), some (AI x1), some (AI 0), none]) E dX2_stepsOf_1 rfl (by decide) rfl ?_
  refine s_iconst (v := 1) E dX2_stepsOf_2 (by decide) ?_
  refine s_istore_n (L2 := [some (AR 69), some (AI x1), some (AI 0), some (AI 1)]) E dX2_stepsOf_3 rfl (by decide) rfl ?_
  refine z_loop (St := Int32 × Int32) (Pi := fun ⟨q4_2_0, q4_3_0⟩ v4 => (1 ≤ q4_3_0.toInt ∧ q4_3_0.toInt ≤ 15) ∧ w = v4) (Lf := fun ⟨q4_2_0, q4_3_0⟩ => [some (AR 69), some (AI x1), some (AI q4_2_0), some (AI q4_3_0)]) (fun ⟨q4_2_0, q4_3_0⟩ _ => (16 - q4_3_0.toInt).toNat) ⟨0, 1⟩ ⟨⟨by decide, by decide⟩, rfl⟩ ?_
  rintro ⟨q4_2_0, q4_3_0⟩ v4 ⟨hq4_3, hv_⟩ ih4
  subst hv_
  have hbq4_2 := z32 q4_2_0
  refine s_loc (L2 := [some (AR 69), some (AI x1), some (AI q4_2_0), some (AI q4_3_0)]) rfl ?_
  refine s_iload_n E dX2_stepsOf_4 rfl rfl ?_
  refine s_aload_n E dX2_stepsOf_5 rfl rfl ?_
  refine s_gI E fg_X2_67 rfl rfl (jv_lt hJ (by decide)) dX2_stepsOf_6 ?_
  refine z_nm (P := fun z => z.toInt = (w.2.2.1 69 7).toInt ∧ 0 ≤ z.toInt ∧ z.toInt ≤ 14) ⟨rfl, (rg_69_7 hJ)⟩ (fun z_2 hz_2 => ?_)
  refine z_icmp_gt (tgt := 38) (u := q4_3_0.toInt) (v := z_2.toInt) E dX2_stepsOf_9 (by decide) rfl rfl (fun h_3 => ?_) (fun h_3 => ?_)
  ·
    refine s_iload_n E dX2_stepsOf_38 rfl rfl ?_
    exact r_int E dX2_stepsOf_39 ⟨⟨by have hb_ := z32 q4_2_0; omega, by have hb_ := z32 q4_2_0; omega⟩, rfl⟩
  ·
    refine s_aload_n E dX2_stepsOf_12 rfl rfl ?_
    refine s_iload_n E dX2_stepsOf_13 rfl rfl ?_
    refine s_iload_n E dX2_stepsOf_14 rfl rfl ?_
    refine s_vI (As := [AI x1, AI q4_3_0]) (S := []) E (Z_X2_placeOf_69 l D aC b w x1 q4_3_0 hJ.1 ) cv_X2_111 rfl rfl rfl (jv_lt hJ (by decide)) (Nat.le_of_ble_eq_true rfl) (Nat.le_of_ble_eq_true rfl) ⟨(Nat.le_of_ble_eq_true rfl), (Nat.le_of_ble_eq_true rfl)⟩ (Nat.le_of_ble_eq_true rfl) dX2_stepsOf_15 (fun z_6 u_4 hp_5 => ?_)
    obtain ⟨hz_6, hp_5⟩ := hp_5
    subst hp_5
    refine s_aload_n E dX2_stepsOf_18 rfl rfl ?_
    refine s_iload_n E dX2_stepsOf_19 rfl rfl ?_
    refine s_iload_n E dX2_stepsOf_20 rfl rfl ?_
    refine s_iconst (v := 1) E dX2_stepsOf_21 (by decide) ?_
    refine z_isub (u := q4_3_0.toInt) (v := 1) E dX2_stepsOf_22 rfl (by decide) (by omega) (by omega) (fun z_8 hz_8 => ?_)
    refine s_vI (As := [AI x1, AI z_8]) (S := [AI z_6]) E (Z_X2_placeOf_69 l D aC b w x1 z_8 hJ.1 ) cv_X2_111 rfl rfl rfl (jv_lt hJ (by decide)) (Nat.le_of_ble_eq_true rfl) (Nat.le_of_ble_eq_true rfl) ⟨(Nat.le_of_ble_eq_true rfl), (Nat.le_of_ble_eq_true rfl)⟩ (Nat.le_of_ble_eq_true rfl) dX2_stepsOf_23 (fun z_11 u_9 hp_10 => ?_)
    obtain ⟨hz_11, hp_10⟩ := hp_10
    subst hp_10
    refine z_icmp_eq (tgt := 32) (u := z_6.toInt) (v := z_11.toInt) E dX2_stepsOf_26 (by decide) rfl rfl (fun h_13 => ?_) (fun h_13 => ?_)
    ·
      refine z_iinc (u := q4_3_0.toInt) (L2 := fun z_14 => [some (AR 69), some (AI x1), some (AI q4_2_0), some (AI z_14)]) E dX2_stepsOf_32 rfl rfl (by decide) (fun _ => rfl) (by decide) (by omega) (by omega) (fun z_14 hz_14 => ?_)
      refine s_goto (tgt := 4) E dX2_stepsOf_35 (by decide) ?_
      exact ih4 ⟨q4_2_0, z_14⟩ w ⟨⟨by have hb_ := z32 z_14; omega, by have hb_ := z32 z_14; omega⟩, rfl⟩ (by first | omega | decide | (dsimp only; omega) | (dsimp only; decide))
    ·
      refine z_iincW (L2 := fun z_15 => [some (AR 69), some (AI x1), some (AI z_15), some (AI q4_3_0)]) E dX2_stepsOf_29 rfl (by decide) (fun _ => rfl) (fun z_15 => ?_)
      refine z_iinc (u := q4_3_0.toInt) (L2 := fun z_16 => [some (AR 69), some (AI x1), some (AI z_15), some (AI z_16)]) E dX2_stepsOf_32 rfl rfl (by decide) (fun _ => rfl) (by decide) (by omega) (by omega) (fun z_16 hz_16 => ?_)
      refine s_goto (tgt := 4) E dX2_stepsOf_35 (by decide) ?_
      exact ih4 ⟨z_15, z_16⟩ w ⟨⟨by have hb_ := z32 z_16; omega, by have hb_ := z32 z_16; omega⟩, rfl⟩ (by first | omega | decide | (dsimp only; omega) | (dsimp only; decide))
set_option maxRecDepth 20000 in
set_option maxHeartbeats 2000000 in
theorem Z_X9_steps_0 (l : Launch) (D : va_G) (aC : Nat → ClassId) (b : Nat) (w : XW) (x1 : Int32) (hI : Iv w)  : CnI l D aC b M_X9_steps 3 67 0 0 [AR 0, AI x1] w (fun r u => ((-2147483648) ≤ r.toInt ∧ r.toInt ≤ 2147483647 ∧ (¬ r.toInt = 0 ∨ (0 ≤ x1.toInt ∧ x1.toInt ≤ 5)) ∧ (¬ r.toInt = 0 ∨ (1 ≤ (w.2.2.1 5 3).toInt ∧ (w.2.2.1 5 3).toInt ≤ 6))) ∧ w = u) := by
  refine cn_I (own := RX9) (nm := "steps") (L0 := [some (AR 0), some (AI x1)]) (by decide +kernel) rfl rfl (Nat.le_of_ble_eq_true rfl) rfl ?_
  intro p e s m args below meth c E hin
  have hJ : Jv w w := jv_rfl hI
  have hb_x1 := z32 x1
  refine s_aload_n E dX9_steps_0 rfl rfl ?_
  refine s_gR (r := 2) E fg_X9_20 rfl rfl (jv_lt hJ (by decide)) (jv_r hJ (by decide +kernel)) dX9_steps_1 ?_
  refine s_iload_n E dX9_steps_4 rfl rfl ?_
  refine s_vI (As := [AI x1]) (S := []) E (Z_X0_hasLady_2 l D aC b w x1 hJ.1 ) cv_X9_139 rfl rfl rfl (jv_lt hJ (by decide)) (Nat.le_of_ble_eq_true rfl) (Nat.le_of_ble_eq_true rfl) ⟨(Nat.le_of_ble_eq_true rfl), (Nat.le_of_ble_eq_true rfl)⟩ (Nat.le_of_ble_eq_true rfl) dX9_steps_5 (fun z_3 u_1 hp_2 => ?_)
  obtain ⟨hz_3, hp_2⟩ := hp_2
  subst hp_2
  refine z_if_eq (tgt := 22) (u := z_3.toInt) E dX9_steps_8 (by decide) rfl (fun h_5 => ?_) (fun h_5 => ?_)
  ·
    refine s_bipush (v := (-2)) E dX9_steps_22 (by decide) ?_
    exact r_int E dX9_steps_24 ⟨⟨by decide, by decide, by first | (left; decide) | (right; decide) | (right; have hb_ := z32 x1; omega), by first | (left; decide) | (right; decide) | (right; have hb_ := z32 (w.2.2.1 5 3); omega)⟩, rfl⟩
  ·
    refine s_aload_n E dX9_steps_11 rfl rfl ?_
    refine s_gR (r := 69) E fg_X9_54 rfl rfl (jv_lt hJ (by decide)) (jv_r hJ (by decide +kernel)) dX9_steps_12 ?_
    refine s_iload_n E dX9_steps_15 rfl rfl ?_
    refine s_vI (As := [AI x1]) (S := []) E (Z_X2_stepsOf_69 l D aC b w x1 hJ.1 ) cv_X9_165 rfl rfl rfl (jv_lt hJ (by decide)) (Nat.le_of_ble_eq_true rfl) (Nat.le_of_ble_eq_true rfl) ⟨(Nat.le_of_ble_eq_true rfl), (Nat.le_of_ble_eq_true rfl)⟩ (Nat.le_of_ble_eq_true rfl) dX9_steps_16 (fun z_8 u_6 hp_7 => ?_)
    obtain ⟨hz_8, hp_7⟩ := hp_7
    subst hp_7
    refine s_goto (tgt := 24) E dX9_steps_19 (by decide) ?_
    exact r_int E dX9_steps_24 ⟨⟨by have hb_ := z32 z_8; omega, by have hb_ := z32 z_8; omega, by first | (right; decide) | (have hb_ := z32 z_8; omega) | (have hb_ := z32 z_8; have hc_ := z32 x1; omega), by first | (right; decide) | (have hb_ := z32 z_8; omega) | (have hb_ := z32 z_8; have hc_ := z32 (w.2.2.1 5 3); omega)⟩, rfl⟩
set_option maxRecDepth 20000 in
set_option maxHeartbeats 2000000 in
theorem Z_X9_sees_0 (l : Launch) (D : va_G) (aC : Nat → ClassId) (b : Nat) (w : XW) (x1 : Int32) (hI : Iv w)  : CnI l D aC b M_X9_sees 2 44 0 0 [AR 0, AI x1] w (fun r u => ((-2147483648) ≤ r.toInt ∧ r.toInt ≤ 2147483647 ∧ (¬ r.toInt = 0 ∨ (0 ≤ x1.toInt ∧ x1.toInt ≤ 5)) ∧ (¬ r.toInt = 0 ∨ (1 ≤ (w.2.2.1 5 3).toInt ∧ (w.2.2.1 5 3).toInt ≤ 6))) ∧ w = u) := by
  refine cn_I (own := RX9) (nm := "sees") (L0 := [some (AR 0), some (AI x1), none, none]) (by decide +kernel) rfl rfl (Nat.le_of_ble_eq_true rfl) rfl ?_
  intro p e s m args below meth c E hin
  have hJ : Jv w w := jv_rfl hI
  have hb_x1 := z32 x1
  refine s_aload_n E dX9_sees_0 rfl rfl ?_
  refine s_gR (r := 2) E fg_X9_20 rfl rfl (jv_lt hJ (by decide)) (jv_r hJ (by decide +kernel)) dX9_sees_1 ?_
  refine s_iload_n E dX9_sees_4 rfl rfl ?_
  refine s_vI (As := [AI x1]) (S := []) E (Z_X0_hasLady_2 l D aC b w x1 hJ.1 ) cv_X9_139 rfl rfl rfl (jv_lt hJ (by decide)) (Nat.le_of_ble_eq_true rfl) (Nat.le_of_ble_eq_true rfl) ⟨(Nat.le_of_ble_eq_true rfl), (Nat.le_of_ble_eq_true rfl)⟩ (Nat.le_of_ble_eq_true rfl) dX9_sees_5 (fun z_3 u_1 hp_2 => ?_)
  obtain ⟨hz_3, hp_2⟩ := hp_2
  subst hp_2
  refine z_if_ne (tgt := 14) (u := z_3.toInt) E dX9_sees_8 (by decide) rfl (fun h_5 => ?_) (fun h_5 => ?_)
  ·
    refine s_iconst (v := 0) E dX9_sees_14 (by decide) ?_
    refine s_istore_n (L2 := [some (AR 0), some (AI x1), some (AI 0), none]) E dX9_sees_15 rfl (by decide) rfl ?_
    refine s_iconst (v := 0) E dX9_sees_16 (by decide) ?_
    refine s_istore_n (L2 := [some (AR 0), some (AI x1), some (AI 0), some (AI 0)]) E dX9_sees_17 rfl (by decide) rfl ?_
    refine z_loop (St := Int32 × Int32) (Pi := fun ⟨q18_2_5, q18_3_5⟩ v18 => (0 ≤ q18_3_5.toInt ∧ q18_3_5.toInt ≤ 15) ∧ w = v18) (Lf := fun ⟨q18_2_5, q18_3_5⟩ => [some (AR 0), some (AI x1), some (AI q18_2_5), some (AI q18_3_5)]) (fun ⟨q18_2_5, q18_3_5⟩ _ => (16 - q18_3_5.toInt).toNat) ⟨0, 0⟩ ⟨⟨by decide, by decide⟩, rfl⟩ ?_
    rintro ⟨q18_2_5, q18_3_5⟩ v18 ⟨hq18_3, hv_⟩ ih18
    subst hv_
    have hbq18_2 := z32 q18_2_5
    refine s_loc (L2 := [some (AR 0), some (AI x1), some (AI q18_2_5), some (AI q18_3_5)]) rfl ?_
    refine s_iload_n E dX9_sees_18 rfl rfl ?_
    refine s_aload_n E dX9_sees_19 rfl rfl ?_
    refine s_gR (r := 2) E fg_X9_20 rfl rfl (jv_lt hJ (by decide)) (jv_r hJ (by decide +kernel)) dX9_sees_20 ?_
    refine s_gI E fg_X9_169 rfl rfl (jv_lt hJ (by decide)) dX9_sees_23 ?_
    refine z_nm (P := fun z => z.toInt = (w.2.2.1 2 2).toInt ∧ 0 ≤ z.toInt ∧ z.toInt ≤ 14) ⟨rfl, (rg_2_2 hJ)⟩ (fun z_7 hz_7 => ?_)
    refine z_icmp_gt (tgt := 49) (u := q18_3_5.toInt) (v := z_7.toInt) E dX9_sees_26 (by decide) rfl rfl (fun h_8 => ?_) (fun h_8 => ?_)
    ·
      refine s_iload_n E dX9_sees_49 rfl rfl ?_
      exact r_int E dX9_sees_50 ⟨⟨by have hb_ := z32 q18_2_5; omega, by have hb_ := z32 q18_2_5; omega, by first | (right; decide) | (have hb_ := z32 q18_2_5; omega) | (have hb_ := z32 q18_2_5; have hc_ := z32 x1; omega), by first | (right; decide) | (have hb_ := z32 q18_2_5; omega) | (have hb_ := z32 q18_2_5; have hc_ := z32 (w.2.2.1 5 3); omega)⟩, rfl⟩
    ·
      refine s_iload_n E dX9_sees_29 rfl rfl ?_
      refine s_iconst (v := 1) E dX9_sees_30 (by decide) ?_
      refine s_aload_n E dX9_sees_31 rfl rfl ?_
      refine s_gR (r := 69) E fg_X9_54 rfl rfl (jv_lt hJ (by decide)) (jv_r hJ (by decide +kernel)) dX9_sees_32 ?_
      refine s_iload_n E dX9_sees_35 rfl rfl ?_
      refine s_iload_n E dX9_sees_36 rfl rfl ?_
      refine s_vI (As := [AI x1, AI q18_3_5]) (S := [AI 1, AI q18_2_5]) E (Z_X2_placeOf_69 l D aC b w x1 q18_3_5 hJ.1 ) cv_X9_159 rfl rfl rfl (jv_lt hJ (by decide)) (Nat.le_of_ble_eq_true rfl) (Nat.le_of_ble_eq_true rfl) ⟨(Nat.le_of_ble_eq_true rfl), (Nat.le_of_ble_eq_true rfl)⟩ (Nat.le_of_ble_eq_true rfl) dX9_sees_37 (fun z_11 u_9 hp_10 => ?_)
      obtain ⟨hz_11, hp_10⟩ := hp_10
      subst hp_10
      refine s_ishl E dX9_sees_40 ?_
      refine z_nm (P := fun z => (-2147483648) ≤ z.toInt ∧ z.toInt ≤ 2147483647) (z32 _) (fun z_13 hz_13 => ?_)
      refine s_ior E dX9_sees_41 ?_
      refine z_nm (P := fun z => (-2147483648) ≤ z.toInt ∧ z.toInt ≤ 2147483647) (z32 _) (fun z_14 hz_14 => ?_)
      refine s_istore_n (L2 := [some (AR 0), some (AI x1), some (AI z_14), some (AI q18_3_5)]) E dX9_sees_42 rfl (by decide) rfl ?_
      refine z_iinc (u := q18_3_5.toInt) (L2 := fun z_15 => [some (AR 0), some (AI x1), some (AI z_14), some (AI z_15)]) E dX9_sees_43 rfl rfl (by decide) (fun _ => rfl) (by decide) (by omega) (by omega) (fun z_15 hz_15 => ?_)
      refine s_goto (tgt := 18) E dX9_sees_46 (by decide) ?_
      exact ih18 ⟨z_14, z_15⟩ w ⟨⟨by have hb_ := z32 z_15; omega, by have hb_ := z32 z_15; omega⟩, rfl⟩ (by first | omega | decide | (dsimp only; omega) | (dsimp only; decide))
  ·
    refine s_bipush (v := (-2)) E dX9_sees_11 (by decide) ?_
    exact r_int E dX9_sees_13 ⟨⟨by decide, by decide, by first | (left; decide) | (right; decide) | (right; have hb_ := z32 x1; omega), by first | (left; decide) | (right; decide) | (right; have hb_ := z32 (w.2.2.1 5 3); omega)⟩, rfl⟩
set_option maxRecDepth 20000 in
set_option maxHeartbeats 2000000 in
theorem Z_X2_companyOf_69 (l : Launch) (D : va_G) (aC : Nat → ClassId) (b : Nat) (w : XW) (x1 : Int32) (x2 : Int32) (hI : Iv w)  : CnI l D aC b M_X2_companyOf 1 22 0 0 [AR 69, AI x1, AI x2] w (fun r u => ((-2147483648) ≤ r.toInt ∧ r.toInt ≤ 2147483647 ∧ (r.toInt = 0 ∨ (0 ≤ x1.toInt ∧ x1.toInt ≤ 5)) ∧ (r.toInt = 0 ∨ (0 ≤ x2.toInt ∧ x2.toInt ≤ 14)) ∧ (r.toInt = 0 ∨ (1 ≤ (w.2.2.1 69 5).toInt ∧ (w.2.2.1 69 5).toInt ≤ 6))) ∧ w = u) := by
  refine cn_I (own := RX2) (nm := "companyOf") (L0 := [some (AR 69), some (AI x1), some (AI x2)]) (by decide +kernel) rfl rfl (Nat.le_of_ble_eq_true rfl) rfl ?_
  intro p e s m args below meth c E hin
  have hJ : Jv w w := jv_rfl hI
  have hb_x1 := z32 x1
  have hb_x2 := z32 x2
  refine s_aload_n E dX2_companyOf_0 rfl rfl ?_
  refine s_iload_n E dX2_companyOf_1 rfl rfl ?_
  refine s_iload_n E dX2_companyOf_2 rfl rfl ?_
  refine s_vI (As := [AI x1, AI x2]) (S := []) E (Z_X2_isHere_69 l D aC b w x1 x2 hJ.1 ) cv_X2_127 rfl rfl rfl (jv_lt hJ (by decide)) (Nat.le_of_ble_eq_true rfl) (Nat.le_of_ble_eq_true rfl) ⟨(Nat.le_of_ble_eq_true rfl), (Nat.le_of_ble_eq_true rfl)⟩ (Nat.le_of_ble_eq_true rfl) dX2_companyOf_3 (fun z_3 u_1 hp_2 => ?_)
  obtain ⟨hz_3, hp_2⟩ := hp_2
  subst hp_2
  refine z_if_eq (tgt := 23) (u := z_3.toInt) E dX2_companyOf_6 (by decide) rfl (fun h_5 => ?_) (fun h_5 => ?_)
  ·
    refine s_iconst (v := 0) E dX2_companyOf_23 (by decide) ?_
    exact r_int E dX2_companyOf_24 ⟨⟨by decide, by decide, by first | (left; decide) | (right; decide) | (right; have hb_ := z32 x1; omega), by first | (left; decide) | (right; decide) | (right; have hb_ := z32 x2; omega), by first | (left; decide) | (right; decide) | (right; have hb_ := z32 (w.2.2.1 69 5); omega)⟩, rfl⟩
  ·
    refine s_aload_n E dX2_companyOf_9 rfl rfl ?_
    refine s_gR (r := 74) E fg_X2_24 rfl rfl (jv_lt hJ (by decide)) (jv_r hJ (by decide +kernel)) dX2_companyOf_10 ?_
    refine s_iload_n E dX2_companyOf_13 rfl rfl ?_
    refine s_bipush (v := 15) E dX2_companyOf_14 (by decide) ?_
    refine z_imul (u := x1.toInt) (v := 15) E dX2_companyOf_16 rfl (by decide) (by omega) (by omega) (fun z_6 hz_6 => ?_)
    refine s_iload_n E dX2_companyOf_17 rfl rfl ?_
    refine z_iadd (u := z_6.toInt) (v := x2.toInt) E dX2_companyOf_18 rfl rfl (by omega) (by omega) (fun z_7 hz_7 => ?_)
    refine s_iald E rfl (jv_lt hJ (by decide)) (z_in (u := z_7.toInt) rfl (by omega) (by omega)) dX2_companyOf_19 ?_
    refine z_nm (P := fun z => (-2147483648) ≤ z.toInt ∧ z.toInt ≤ 2147483647) (z32 _) (fun z_8 hz_8 => ?_)
    refine s_goto (tgt := 24) E dX2_companyOf_20 (by decide) ?_
    exact r_int E dX2_companyOf_24 ⟨⟨by have hb_ := z32 z_8; omega, by have hb_ := z32 z_8; omega, by first | (right; decide) | (have hb_ := z32 z_8; omega) | (have hb_ := z32 z_8; have hc_ := z32 x1; omega), by first | (right; decide) | (have hb_ := z32 z_8; omega) | (have hb_ := z32 z_8; have hc_ := z32 x2; omega), by first | (right; decide) | (have hb_ := z32 z_8; omega) | (have hb_ := z32 z_8; have hc_ := z32 (w.2.2.1 69 5); omega)⟩, rfl⟩
set_option maxRecDepth 20000 in
set_option maxHeartbeats 2000000 in
theorem Z_X9_meets_0 (l : Launch) (D : va_G) (aC : Nat → ClassId) (b : Nat) (w : XW) (x1 : Int32) (x2 : Int32) (hI : Iv w)  : CnI l D aC b M_X9_meets 2 44 0 0 [AR 0, AI x1, AI x2] w (fun r u => ((-2) ≤ r.toInt ∧ r.toInt ≤ 14 ∧ (¬ r.toInt = 0 ∨ (0 ≤ x1.toInt ∧ x1.toInt ≤ 5)) ∧ (¬ r.toInt = 0 ∨ (0 ≤ x2.toInt ∧ x2.toInt ≤ 5)) ∧ (¬ r.toInt = 0 ∨ (1 ≤ (w.2.2.1 5 3).toInt ∧ (w.2.2.1 5 3).toInt ≤ 6))) ∧ w = u) := by
  refine cn_I (own := RX9) (nm := "meets") (L0 := [some (AR 0), some (AI x1), some (AI x2), none]) (by decide +kernel) rfl rfl (Nat.le_of_ble_eq_true rfl) rfl ?_
  intro p e s m args below meth c E hin
  have hJ : Jv w w := jv_rfl hI
  have hb_x1 := z32 x1
  have hb_x2 := z32 x2
  refine s_aload_n E dX9_meets_0 rfl rfl ?_
  refine s_gR (r := 2) E fg_X9_20 rfl rfl (jv_lt hJ (by decide)) (jv_r hJ (by decide +kernel)) dX9_meets_1 ?_
  refine s_iload_n E dX9_meets_4 rfl rfl ?_
  refine s_vI (As := [AI x1]) (S := []) E (Z_X0_hasLady_2 l D aC b w x1 hJ.1 ) cv_X9_139 rfl rfl rfl (jv_lt hJ (by decide)) (Nat.le_of_ble_eq_true rfl) (Nat.le_of_ble_eq_true rfl) ⟨(Nat.le_of_ble_eq_true rfl), (Nat.le_of_ble_eq_true rfl)⟩ (Nat.le_of_ble_eq_true rfl) dX9_meets_5 (fun z_3 u_1 hp_2 => ?_)
  obtain ⟨hz_3, hp_2⟩ := hp_2
  subst hp_2
  refine z_if_eq (tgt := 22) (u := z_3.toInt) E dX9_meets_8 (by decide) rfl (fun h_5 => ?_) (fun h_5 => ?_)
  ·
    refine s_bipush (v := (-2)) E dX9_meets_22 (by decide) ?_
    exact r_int E dX9_meets_24 ⟨⟨by decide, by decide, by first | (left; decide) | (right; decide) | (right; have hb_ := z32 x1; omega), by first | (left; decide) | (right; decide) | (right; have hb_ := z32 x2; omega), by first | (left; decide) | (right; decide) | (right; have hb_ := z32 (w.2.2.1 5 3); omega)⟩, rfl⟩
  ·
    refine s_aload_n E dX9_meets_11 rfl rfl ?_
    refine s_gR (r := 2) E fg_X9_20 rfl rfl (jv_lt hJ (by decide)) (jv_r hJ (by decide +kernel)) dX9_meets_12 ?_
    refine s_iload_n E dX9_meets_15 rfl rfl ?_
    refine s_vI (As := [AI x2]) (S := []) E (Z_X0_hasLady_2 l D aC b w x2 hJ.1 ) cv_X9_139 rfl rfl rfl (jv_lt hJ (by decide)) (Nat.le_of_ble_eq_true rfl) (Nat.le_of_ble_eq_true rfl) ⟨(Nat.le_of_ble_eq_true rfl), (Nat.le_of_ble_eq_true rfl)⟩ (Nat.le_of_ble_eq_true rfl) dX9_meets_16 (fun z_8 u_6 hp_7 => ?_)
    obtain ⟨hz_8, hp_7⟩ := hp_7
    subst hp_7
    refine z_if_ne (tgt := 25) (u := z_8.toInt) E dX9_meets_19 (by decide) rfl (fun h_10 => ?_) (fun h_10 => ?_)
    ·
      refine s_iconst (v := 0) E dX9_meets_25 (by decide) ?_
      refine s_istore_n (L2 := [some (AR 0), some (AI x1), some (AI x2), some (AI 0)]) E dX9_meets_26 rfl (by decide) rfl ?_
      refine z_loop (St := Int32) (Pi := fun q27_3_10 v27 => (0 ≤ q27_3_10.toInt ∧ q27_3_10.toInt ≤ 15) ∧ w = v27) (Lf := fun q27_3_10 => [some (AR 0), some (AI x1), some (AI x2), some (AI q27_3_10)]) (fun q27_3_10 _ => (16 - q27_3_10.toInt).toNat) 0 ⟨⟨by decide, by decide⟩, rfl⟩ ?_
      rintro q27_3_10 v27 ⟨hq27_3, hv_⟩ ih27
      subst hv_
      refine s_loc (L2 := [some (AR 0), some (AI x1), some (AI x2), some (AI q27_3_10)]) rfl ?_
      refine s_iload_n E dX9_meets_27 rfl rfl ?_
      refine s_aload_n E dX9_meets_28 rfl rfl ?_
      refine s_gR (r := 2) E fg_X9_20 rfl rfl (jv_lt hJ (by decide)) (jv_r hJ (by decide +kernel)) dX9_meets_29 ?_
      refine s_gI E fg_X9_169 rfl rfl (jv_lt hJ (by decide)) dX9_meets_32 ?_
      refine z_nm (P := fun z => z.toInt = (w.2.2.1 2 2).toInt ∧ 0 ≤ z.toInt ∧ z.toInt ≤ 14) ⟨rfl, (rg_2_2 hJ)⟩ (fun z_12 hz_12 => ?_)
      refine z_icmp_gt (tgt := 62) (u := q27_3_10.toInt) (v := z_12.toInt) E dX9_meets_35 (by decide) rfl rfl (fun h_13 => ?_) (fun h_13 => ?_)
      ·
        refine s_iconst (v := (-1)) E dX9_meets_62 (by decide) ?_
        exact r_int E dX9_meets_63 ⟨⟨by decide, by decide, by first | (left; decide) | (right; decide) | (right; have hb_ := z32 x1; omega), by first | (left; decide) | (right; decide) | (right; have hb_ := z32 x2; omega), by first | (left; decide) | (right; decide) | (right; have hb_ := z32 (w.2.2.1 5 3); omega)⟩, rfl⟩
      ·
        refine s_aload_n E dX9_meets_38 rfl rfl ?_
        refine s_gR (r := 69) E fg_X9_54 rfl rfl (jv_lt hJ (by decide)) (jv_r hJ (by decide +kernel)) dX9_meets_39 ?_
        refine s_iload_n E dX9_meets_42 rfl rfl ?_
        refine s_iload_n E dX9_meets_43 rfl rfl ?_
        refine s_vI (As := [AI x1, AI q27_3_10]) (S := []) E (Z_X2_companyOf_69 l D aC b w x1 q27_3_10 hJ.1 ) cv_X9_172 rfl rfl rfl (jv_lt hJ (by decide)) (Nat.le_of_ble_eq_true rfl) (Nat.le_of_ble_eq_true rfl) ⟨(Nat.le_of_ble_eq_true rfl), (Nat.le_of_ble_eq_true rfl)⟩ (Nat.le_of_ble_eq_true rfl) dX9_meets_44 (fun z_16 u_14 hp_15 => ?_)
        obtain ⟨hz_16, hp_15⟩ := hp_15
        subst hp_15
        refine s_iload_n E dX9_meets_47 rfl rfl ?_
        refine s_sI (As := [AI z_16, AI x2]) (S := []) E (Z_X9_hasBit l D aC b w z_16 x2 hJ.1 ) cs_X9_175 rfl rfl (Nat.le_of_ble_eq_true rfl) (Nat.le_of_ble_eq_true rfl) ⟨(Nat.le_of_ble_eq_true rfl), (Nat.le_of_ble_eq_true rfl)⟩ (Nat.le_of_ble_eq_true rfl) dX9_meets_48 (fun z_20 u_18 hp_19 => ?_)
        obtain ⟨hz_20, hp_19⟩ := hp_19
        subst hp_19
        refine z_if_eq (tgt := 56) (u := z_20.toInt) E dX9_meets_51 (by decide) rfl (fun h_22 => ?_) (fun h_22 => ?_)
        ·
          refine z_iinc (u := q27_3_10.toInt) (L2 := fun z_23 => [some (AR 0), some (AI x1), some (AI x2), some (AI z_23)]) E dX9_meets_56 rfl rfl (by decide) (fun _ => rfl) (by decide) (by omega) (by omega) (fun z_23 hz_23 => ?_)
          refine s_goto (tgt := 27) E dX9_meets_59 (by decide) ?_
          exact ih27 z_23 w ⟨⟨by have hb_ := z32 z_23; omega, by have hb_ := z32 z_23; omega⟩, rfl⟩ (by first | omega | decide | (dsimp only; omega) | (dsimp only; decide))
        ·
          refine s_iload_n E dX9_meets_54 rfl rfl ?_
          exact r_int E dX9_meets_55 ⟨⟨by have hb_ := z32 q27_3_10; omega, by have hb_ := z32 q27_3_10; omega, by first | (right; decide) | (have hb_ := z32 q27_3_10; omega) | (have hb_ := z32 q27_3_10; have hc_ := z32 x1; omega), by first | (right; decide) | (have hb_ := z32 q27_3_10; omega) | (have hb_ := z32 q27_3_10; have hc_ := z32 x2; omega), by first | (right; decide) | (have hb_ := z32 q27_3_10; omega) | (have hb_ := z32 q27_3_10; have hc_ := z32 (w.2.2.1 5 3); omega)⟩, rfl⟩
    ·
      refine s_bipush (v := (-2)) E dX9_meets_22 (by decide) ?_
      exact r_int E dX9_meets_24 ⟨⟨by decide, by decide, by first | (left; decide) | (right; decide) | (right; have hb_ := z32 x1; omega), by first | (left; decide) | (right; decide) | (right; have hb_ := z32 x2; omega), by first | (left; decide) | (right; decide) | (right; have hb_ := z32 (w.2.2.1 5 3); omega)⟩, rfl⟩
set_option maxRecDepth 20000 in
set_option maxHeartbeats 2000000 in
theorem Z_X2_meetingsOf_69 (l : Launch) (D : va_G) (aC : Nat → ClassId) (b : Nat) (w : XW) (x1 : Int32) (x2 : Int32) (hI : Iv w)  : CnI l D aC b M_X2_meetingsOf 2 44 0 0 [AR 69, AI x1, AI x2] w (fun r u => ((-2147483648) ≤ r.toInt ∧ r.toInt ≤ 2147483647) ∧ w = u) := by
  refine cn_I (own := RX2) (nm := "meetingsOf") (L0 := [some (AR 69), some (AI x1), some (AI x2), none, none]) (by decide +kernel) rfl rfl (Nat.le_of_ble_eq_true rfl) rfl ?_
  intro p e s m args below meth c E hin
  have hJ : Jv w w := jv_rfl hI
  have hb_x1 := z32 x1
  have hb_x2 := z32 x2
  refine s_iconst (v := 0) E dX2_meetingsOf_0 (by decide) ?_
  refine s_istore_n (L2 := [some (AR 69), some (AI x1), some (AI x2), some (AI 0), none]) E dX2_meetingsOf_1 rfl (by decide) rfl ?_
  refine s_iconst (v := 0) E dX2_meetingsOf_2 (by decide) ?_
  refine s_istore (L2 := [some (AR 69), some (AI x1), some (AI x2), some (AI 0), some (AI 0)]) E dX2_meetingsOf_3 (by decide) rfl ?_
  refine z_loop (St := Int32 × Int32) (Pi := fun ⟨q5_3_0, q5_4_0⟩ v5 => (0 ≤ q5_4_0.toInt ∧ q5_4_0.toInt ≤ 15) ∧ w = v5) (Lf := fun ⟨q5_3_0, q5_4_0⟩ => [some (AR 69), some (AI x1), some (AI x2), some (AI q5_3_0), some (AI q5_4_0)]) (fun ⟨q5_3_0, q5_4_0⟩ _ => (16 - q5_4_0.toInt).toNat) ⟨0, 0⟩ ⟨⟨by decide, by decide⟩, rfl⟩ ?_
  rintro ⟨q5_3_0, q5_4_0⟩ v5 ⟨hq5_4, hv_⟩ ih5
  subst hv_
  have hbq5_3 := z32 q5_3_0
  refine s_loc (L2 := [some (AR 69), some (AI x1), some (AI x2), some (AI q5_3_0), some (AI q5_4_0)]) rfl ?_
  refine s_iload E dX2_meetingsOf_5 rfl ?_
  refine s_aload_n E dX2_meetingsOf_7 rfl rfl ?_
  refine s_gI E fg_X2_67 rfl rfl (jv_lt hJ (by decide)) dX2_meetingsOf_8 ?_
  refine z_nm (P := fun z => z.toInt = (w.2.2.1 69 7).toInt ∧ 0 ≤ z.toInt ∧ z.toInt ≤ 14) ⟨rfl, (rg_69_7 hJ)⟩ (fun z_2 hz_2 => ?_)
  refine z_icmp_gt (tgt := 37) (u := q5_4_0.toInt) (v := z_2.toInt) E dX2_meetingsOf_11 (by decide) rfl rfl (fun h_3 => ?_) (fun h_3 => ?_)
  ·
    refine s_iload_n E dX2_meetingsOf_37 rfl rfl ?_
    exact r_int E dX2_meetingsOf_38 ⟨⟨by have hb_ := z32 q5_3_0; omega, by have hb_ := z32 q5_3_0; omega⟩, rfl⟩
  ·
    refine s_aload_n E dX2_meetingsOf_14 rfl rfl ?_
    refine s_iload_n E dX2_meetingsOf_15 rfl rfl ?_
    refine s_iload E dX2_meetingsOf_16 rfl ?_
    refine s_vI (As := [AI x1, AI q5_4_0]) (S := []) E (Z_X2_companyOf_69 l D aC b w x1 q5_4_0 hJ.1 ) cv_X2_130 rfl rfl rfl (jv_lt hJ (by decide)) (Nat.le_of_ble_eq_true rfl) (Nat.le_of_ble_eq_true rfl) ⟨(Nat.le_of_ble_eq_true rfl), (Nat.le_of_ble_eq_true rfl)⟩ (Nat.le_of_ble_eq_true rfl) dX2_meetingsOf_18 (fun z_6 u_4 hp_5 => ?_)
    obtain ⟨hz_6, hp_5⟩ := hp_5
    subst hp_5
    refine s_iload_n E dX2_meetingsOf_21 rfl rfl ?_
    refine s_sI (As := [AI z_6, AI x2]) (S := []) E (Z_X9_hasBit l D aC b w z_6 x2 hJ.1 ) cs_X2_123 rfl rfl (Nat.le_of_ble_eq_true rfl) (Nat.le_of_ble_eq_true rfl) ⟨(Nat.le_of_ble_eq_true rfl), (Nat.le_of_ble_eq_true rfl)⟩ (Nat.le_of_ble_eq_true rfl) dX2_meetingsOf_22 (fun z_10 u_8 hp_9 => ?_)
    obtain ⟨hz_10, hp_9⟩ := hp_9
    subst hp_9
    refine z_if_eq (tgt := 31) (u := z_10.toInt) E dX2_meetingsOf_25 (by decide) rfl (fun h_12 => ?_) (fun h_12 => ?_)
    ·
      refine z_iinc (u := q5_4_0.toInt) (L2 := fun z_13 => [some (AR 69), some (AI x1), some (AI x2), some (AI q5_3_0), some (AI z_13)]) E dX2_meetingsOf_31 rfl rfl (by decide) (fun _ => rfl) (by decide) (by omega) (by omega) (fun z_13 hz_13 => ?_)
      refine s_goto (tgt := 5) E dX2_meetingsOf_34 (by decide) ?_
      exact ih5 ⟨q5_3_0, z_13⟩ w ⟨⟨by have hb_ := z32 z_13; omega, by have hb_ := z32 z_13; omega⟩, rfl⟩ (by first | omega | decide | (dsimp only; omega) | (dsimp only; decide))
    ·
      refine z_iincW (L2 := fun z_14 => [some (AR 69), some (AI x1), some (AI x2), some (AI z_14), some (AI q5_4_0)]) E dX2_meetingsOf_28 rfl (by decide) (fun _ => rfl) (fun z_14 => ?_)
      refine z_iinc (u := q5_4_0.toInt) (L2 := fun z_15 => [some (AR 69), some (AI x1), some (AI x2), some (AI z_14), some (AI z_15)]) E dX2_meetingsOf_31 rfl rfl (by decide) (fun _ => rfl) (by decide) (by omega) (by omega) (fun z_15 hz_15 => ?_)
      refine s_goto (tgt := 5) E dX2_meetingsOf_34 (by decide) ?_
      exact ih5 ⟨z_14, z_15⟩ w ⟨⟨by have hb_ := z32 z_15; omega, by have hb_ := z32 z_15; omega⟩, rfl⟩ (by first | omega | decide | (dsimp only; omega) | (dsimp only; decide))
set_option maxRecDepth 20000 in
set_option maxHeartbeats 2000000 in
theorem Z_X9_often_0 (l : Launch) (D : va_G) (aC : Nat → ClassId) (b : Nat) (w : XW) (x1 : Int32) (x2 : Int32) (hI : Iv w)  : CnI l D aC b M_X9_often 3 68 0 0 [AR 0, AI x1, AI x2] w (fun r u => ((-2147483648) ≤ r.toInt ∧ r.toInt ≤ 2147483647 ∧ (¬ r.toInt = 0 ∨ (0 ≤ x1.toInt ∧ x1.toInt ≤ 5)) ∧ (¬ r.toInt = 0 ∨ (0 ≤ x2.toInt ∧ x2.toInt ≤ 5)) ∧ (¬ r.toInt = 0 ∨ (1 ≤ (w.2.2.1 5 3).toInt ∧ (w.2.2.1 5 3).toInt ≤ 6))) ∧ w = u) := by
  refine cn_I (own := RX9) (nm := "often") (L0 := [some (AR 0), some (AI x1), some (AI x2)]) (by decide +kernel) rfl rfl (Nat.le_of_ble_eq_true rfl) rfl ?_
  intro p e s m args below meth c E hin
  have hJ : Jv w w := jv_rfl hI
  have hb_x1 := z32 x1
  have hb_x2 := z32 x2
  refine s_aload_n E dX9_often_0 rfl rfl ?_
  refine s_gR (r := 2) E fg_X9_20 rfl rfl (jv_lt hJ (by decide)) (jv_r hJ (by decide +kernel)) dX9_often_1 ?_
  refine s_iload_n E dX9_often_4 rfl rfl ?_
  refine s_vI (As := [AI x1]) (S := []) E (Z_X0_hasLady_2 l D aC b w x1 hJ.1 ) cv_X9_139 rfl rfl rfl (jv_lt hJ (by decide)) (Nat.le_of_ble_eq_true rfl) (Nat.le_of_ble_eq_true rfl) ⟨(Nat.le_of_ble_eq_true rfl), (Nat.le_of_ble_eq_true rfl)⟩ (Nat.le_of_ble_eq_true rfl) dX9_often_5 (fun z_3 u_1 hp_2 => ?_)
  obtain ⟨hz_3, hp_2⟩ := hp_2
  subst hp_2
  refine z_if_eq (tgt := 22) (u := z_3.toInt) E dX9_often_8 (by decide) rfl (fun h_5 => ?_) (fun h_5 => ?_)
  ·
    refine s_bipush (v := (-2)) E dX9_often_22 (by decide) ?_
    exact r_int E dX9_often_24 ⟨⟨by decide, by decide, by first | (left; decide) | (right; decide) | (right; have hb_ := z32 x1; omega), by first | (left; decide) | (right; decide) | (right; have hb_ := z32 x2; omega), by first | (left; decide) | (right; decide) | (right; have hb_ := z32 (w.2.2.1 5 3); omega)⟩, rfl⟩
  ·
    refine s_aload_n E dX9_often_11 rfl rfl ?_
    refine s_gR (r := 2) E fg_X9_20 rfl rfl (jv_lt hJ (by decide)) (jv_r hJ (by decide +kernel)) dX9_often_12 ?_
    refine s_iload_n E dX9_often_15 rfl rfl ?_
    refine s_vI (As := [AI x2]) (S := []) E (Z_X0_hasLady_2 l D aC b w x2 hJ.1 ) cv_X9_139 rfl rfl rfl (jv_lt hJ (by decide)) (Nat.le_of_ble_eq_true rfl) (Nat.le_of_ble_eq_true rfl) ⟨(Nat.le_of_ble_eq_true rfl), (Nat.le_of_ble_eq_true rfl)⟩ (Nat.le_of_ble_eq_true rfl) dX9_often_16 (fun z_8 u_6 hp_7 => ?_)
    obtain ⟨hz_8, hp_7⟩ := hp_7
    subst hp_7
    refine z_if_ne (tgt := 25) (u := z_8.toInt) E dX9_often_19 (by decide) rfl (fun h_10 => ?_) (fun h_10 => ?_)
    ·
      refine s_aload_n E dX9_often_25 rfl rfl ?_
      refine s_gR (r := 69) E fg_X9_54 rfl rfl (jv_lt hJ (by decide)) (jv_r hJ (by decide +kernel)) dX9_often_26 ?_
      refine s_iload_n E dX9_often_29 rfl rfl ?_
      refine s_iload_n E dX9_often_30 rfl rfl ?_
      refine s_vI (As := [AI x1, AI x2]) (S := []) E (Z_X2_meetingsOf_69 l D aC b w x1 x2 hJ.1 ) cv_X9_178 rfl rfl rfl (jv_lt hJ (by decide)) (Nat.le_of_ble_eq_true rfl) (Nat.le_of_ble_eq_true rfl) ⟨(Nat.le_of_ble_eq_true rfl), (Nat.le_of_ble_eq_true rfl)⟩ (Nat.le_of_ble_eq_true rfl) dX9_often_31 (fun z_13 u_11 hp_12 => ?_)
      obtain ⟨hz_13, hp_12⟩ := hp_12
      subst hp_12
      exact r_int E dX9_often_34 ⟨⟨by have hb_ := z32 z_13; omega, by have hb_ := z32 z_13; omega, by first | (right; decide) | (have hb_ := z32 z_13; omega) | (have hb_ := z32 z_13; have hc_ := z32 x1; omega), by first | (right; decide) | (have hb_ := z32 z_13; omega) | (have hb_ := z32 z_13; have hc_ := z32 x2; omega), by first | (right; decide) | (have hb_ := z32 z_13; omega) | (have hb_ := z32 z_13; have hc_ := z32 (w.2.2.1 5 3); omega)⟩, rfl⟩
    ·
      refine s_bipush (v := (-2)) E dX9_often_22 (by decide) ?_
      exact r_int E dX9_often_24 ⟨⟨by decide, by decide, by first | (left; decide) | (right; decide) | (right; have hb_ := z32 x1; omega), by first | (left; decide) | (right; decide) | (right; have hb_ := z32 x2; omega), by first | (left; decide) | (right; decide) | (right; have hb_ := z32 (w.2.2.1 5 3); omega)⟩, rfl⟩
set_option maxRecDepth 20000 in
set_option maxHeartbeats 2000000 in
theorem Z_X2_friendsOf_69 (l : Launch) (D : va_G) (aC : Nat → ClassId) (b : Nat) (w : XW) (x1 : Int32) (hI : Iv w)  : CnI l D aC b M_X2_friendsOf 2 44 0 0 [AR 69, AI x1] w (fun r u => ((-2147483648) ≤ r.toInt ∧ r.toInt ≤ 2147483647) ∧ w = u) := by
  refine cn_I (own := RX2) (nm := "friendsOf") (L0 := [some (AR 69), some (AI x1), none, none]) (by decide +kernel) rfl rfl (Nat.le_of_ble_eq_true rfl) rfl ?_
  intro p e s m args below meth c E hin
  have hJ : Jv w w := jv_rfl hI
  have hb_x1 := z32 x1
  refine s_iconst (v := 0) E dX2_friendsOf_0 (by decide) ?_
  refine s_istore_n (L2 := [some (AR 69), some (AI x1), some (AI 0), none]) E dX2_friendsOf_1 rfl (by decide) rfl ?_
  refine s_iconst (v := 0) E dX2_friendsOf_2 (by decide) ?_
  refine s_istore_n (L2 := [some (AR 69), some (AI x1), some (AI 0), some (AI 0)]) E dX2_friendsOf_3 rfl (by decide) rfl ?_
  refine z_loop (St := Int32 × Int32) (Pi := fun ⟨q4_2_0, q4_3_0⟩ v4 => (0 ≤ q4_3_0.toInt ∧ q4_3_0.toInt ≤ 15) ∧ w = v4) (Lf := fun ⟨q4_2_0, q4_3_0⟩ => [some (AR 69), some (AI x1), some (AI q4_2_0), some (AI q4_3_0)]) (fun ⟨q4_2_0, q4_3_0⟩ _ => (16 - q4_3_0.toInt).toNat) ⟨0, 0⟩ ⟨⟨by decide, by decide⟩, rfl⟩ ?_
  rintro ⟨q4_2_0, q4_3_0⟩ v4 ⟨hq4_3, hv_⟩ ih4
  subst hv_
  have hbq4_2 := z32 q4_2_0
  refine s_loc (L2 := [some (AR 69), some (AI x1), some (AI q4_2_0), some (AI q4_3_0)]) rfl ?_
  refine s_iload_n E dX2_friendsOf_4 rfl rfl ?_
  refine s_aload_n E dX2_friendsOf_5 rfl rfl ?_
  refine s_gI E fg_X2_67 rfl rfl (jv_lt hJ (by decide)) dX2_friendsOf_6 ?_
  refine z_nm (P := fun z => z.toInt = (w.2.2.1 69 7).toInt ∧ 0 ≤ z.toInt ∧ z.toInt ≤ 14) ⟨rfl, (rg_69_7 hJ)⟩ (fun z_2 hz_2 => ?_)
  refine z_icmp_gt (tgt := 27) (u := q4_3_0.toInt) (v := z_2.toInt) E dX2_friendsOf_9 (by decide) rfl rfl (fun h_3 => ?_) (fun h_3 => ?_)
  ·
    refine s_iload_n E dX2_friendsOf_27 rfl rfl ?_
    refine s_iconst (v := 1) E dX2_friendsOf_28 (by decide) ?_
    refine s_iload_n E dX2_friendsOf_29 rfl rfl ?_
    refine s_ishl E dX2_friendsOf_30 ?_
    refine z_nm (P := fun z => (-2147483648) ≤ z.toInt ∧ z.toInt ≤ 2147483647) (z32 _) (fun z_4 hz_4 => ?_)
    refine s_iconst (v := (-1)) E dX2_friendsOf_31 (by decide) ?_
    refine s_ixor E dX2_friendsOf_32 ?_
    refine z_nm (P := fun z => (-2147483648) ≤ z.toInt ∧ z.toInt ≤ 2147483647) (z32 _) (fun z_5 hz_5 => ?_)
    refine s_iand E dX2_friendsOf_33 ?_
    refine z_nm (P := fun z => (-2147483648) ≤ z.toInt ∧ z.toInt ≤ 2147483647) (z32 _) (fun z_6 hz_6 => ?_)
    exact r_int E dX2_friendsOf_34 ⟨⟨by have hb_ := z32 z_6; omega, by have hb_ := z32 z_6; omega⟩, rfl⟩
  ·
    refine s_iload_n E dX2_friendsOf_12 rfl rfl ?_
    refine s_aload_n E dX2_friendsOf_13 rfl rfl ?_
    refine s_iload_n E dX2_friendsOf_14 rfl rfl ?_
    refine s_iload_n E dX2_friendsOf_15 rfl rfl ?_
    refine s_vI (As := [AI x1, AI q4_3_0]) (S := [AI q4_2_0]) E (Z_X2_companyOf_69 l D aC b w x1 q4_3_0 hJ.1 ) cv_X2_130 rfl rfl rfl (jv_lt hJ (by decide)) (Nat.le_of_ble_eq_true rfl) (Nat.le_of_ble_eq_true rfl) ⟨(Nat.le_of_ble_eq_true rfl), (Nat.le_of_ble_eq_true rfl)⟩ (Nat.le_of_ble_eq_true rfl) dX2_friendsOf_16 (fun z_9 u_7 hp_8 => ?_)
    obtain ⟨hz_9, hp_8⟩ := hp_8
    subst hp_8
    refine s_ior E dX2_friendsOf_19 ?_
    refine z_nm (P := fun z => (-2147483648) ≤ z.toInt ∧ z.toInt ≤ 2147483647) (z32 _) (fun z_11 hz_11 => ?_)
    refine s_istore_n (L2 := [some (AR 69), some (AI x1), some (AI z_11), some (AI q4_3_0)]) E dX2_friendsOf_20 rfl (by decide) rfl ?_
    refine z_iinc (u := q4_3_0.toInt) (L2 := fun z_12 => [some (AR 69), some (AI x1), some (AI z_11), some (AI z_12)]) E dX2_friendsOf_21 rfl rfl (by decide) (fun _ => rfl) (by decide) (by omega) (by omega) (fun z_12 hz_12 => ?_)
    refine s_goto (tgt := 4) E dX2_friendsOf_24 (by decide) ?_
    exact ih4 ⟨z_11, z_12⟩ w ⟨⟨by have hb_ := z32 z_12; omega, by have hb_ := z32 z_12; omega⟩, rfl⟩ (by first | omega | decide | (dsimp only; omega) | (dsimp only; decide))
set_option maxRecDepth 20000 in
set_option maxHeartbeats 2000000 in
theorem Z_X9_friends_0 (l : Launch) (D : va_G) (aC : Nat → ClassId) (b : Nat) (w : XW) (x1 : Int32) (hI : Iv w)  : CnI l D aC b M_X9_friends 3 67 0 0 [AR 0, AI x1] w (fun r u => ((-2147483648) ≤ r.toInt ∧ r.toInt ≤ 2147483647 ∧ (¬ r.toInt = 0 ∨ (0 ≤ x1.toInt ∧ x1.toInt ≤ 5)) ∧ (¬ r.toInt = 0 ∨ (1 ≤ (w.2.2.1 5 3).toInt ∧ (w.2.2.1 5 3).toInt ≤ 6))) ∧ w = u) := by
  refine cn_I (own := RX9) (nm := "friends") (L0 := [some (AR 0), some (AI x1)]) (by decide +kernel) rfl rfl (Nat.le_of_ble_eq_true rfl) rfl ?_
  intro p e s m args below meth c E hin
  have hJ : Jv w w := jv_rfl hI
  have hb_x1 := z32 x1
  refine s_aload_n E dX9_friends_0 rfl rfl ?_
  refine s_gR (r := 2) E fg_X9_20 rfl rfl (jv_lt hJ (by decide)) (jv_r hJ (by decide +kernel)) dX9_friends_1 ?_
  refine s_iload_n E dX9_friends_4 rfl rfl ?_
  refine s_vI (As := [AI x1]) (S := []) E (Z_X0_hasLady_2 l D aC b w x1 hJ.1 ) cv_X9_139 rfl rfl rfl (jv_lt hJ (by decide)) (Nat.le_of_ble_eq_true rfl) (Nat.le_of_ble_eq_true rfl) ⟨(Nat.le_of_ble_eq_true rfl), (Nat.le_of_ble_eq_true rfl)⟩ (Nat.le_of_ble_eq_true rfl) dX9_friends_5 (fun z_3 u_1 hp_2 => ?_)
  obtain ⟨hz_3, hp_2⟩ := hp_2
  subst hp_2
  refine z_if_eq (tgt := 22) (u := z_3.toInt) E dX9_friends_8 (by decide) rfl (fun h_5 => ?_) (fun h_5 => ?_)
  ·
    refine s_bipush (v := (-2)) E dX9_friends_22 (by decide) ?_
    exact r_int E dX9_friends_24 ⟨⟨by decide, by decide, by first | (left; decide) | (right; decide) | (right; have hb_ := z32 x1; omega), by first | (left; decide) | (right; decide) | (right; have hb_ := z32 (w.2.2.1 5 3); omega)⟩, rfl⟩
  ·
    refine s_aload_n E dX9_friends_11 rfl rfl ?_
    refine s_gR (r := 69) E fg_X9_54 rfl rfl (jv_lt hJ (by decide)) (jv_r hJ (by decide +kernel)) dX9_friends_12 ?_
    refine s_iload_n E dX9_friends_15 rfl rfl ?_
    refine s_vI (As := [AI x1]) (S := []) E (Z_X2_friendsOf_69 l D aC b w x1 hJ.1 ) cv_X9_181 rfl rfl rfl (jv_lt hJ (by decide)) (Nat.le_of_ble_eq_true rfl) (Nat.le_of_ble_eq_true rfl) ⟨(Nat.le_of_ble_eq_true rfl), (Nat.le_of_ble_eq_true rfl)⟩ (Nat.le_of_ble_eq_true rfl) dX9_friends_16 (fun z_8 u_6 hp_7 => ?_)
    obtain ⟨hz_8, hp_7⟩ := hp_7
    subst hp_7
    refine s_goto (tgt := 24) E dX9_friends_19 (by decide) ?_
    exact r_int E dX9_friends_24 ⟨⟨by have hb_ := z32 z_8; omega, by have hb_ := z32 z_8; omega, by first | (right; decide) | (have hb_ := z32 z_8; omega) | (have hb_ := z32 z_8; have hc_ := z32 x1; omega), by first | (right; decide) | (have hb_ := z32 z_8; omega) | (have hb_ := z32 z_8; have hc_ := z32 (w.2.2.1 5 3); omega)⟩, rfl⟩
set_option maxRecDepth 20000 in
set_option maxHeartbeats 2000000 in
theorem Z_J6_bitCount_0f7a4 (l : Launch) (D : va_G) (aC : Nat → ClassId) (b : Nat) (w : XW) (x1 : Int32) (hI : Iv w)  : CnI l D aC b M_J6_bitCount_0f7a4 0 0 0 0 [AI x1] w (fun r u => (0 ≤ r.toInt ∧ r.toInt ≤ 63) ∧ w = u) := by
  refine cn_I (own := RJ6) (nm := "bitCount") (L0 := [some (AI x1)]) (by decide +kernel) rfl rfl (Nat.le_of_ble_eq_true rfl) rfl ?_
  intro p e s m args below meth c E hin
  have hJ : Jv w w := jv_rfl hI
  have hb_x1 := z32 x1
  refine s_iload_n E dJ6_bitCount_0f7a4_0 rfl rfl ?_
  refine s_iload_n E dJ6_bitCount_0f7a4_1 rfl rfl ?_
  refine s_iconst (v := 1) E dJ6_bitCount_0f7a4_2 (by decide) ?_
  refine s_iushr E dJ6_bitCount_0f7a4_3 ?_
  refine z_nm (P := fun z => (-2147483648) ≤ z.toInt ∧ z.toInt ≤ 2147483647) (z32 _) (fun z_1 hz_1 => ?_)
  refine s_ldcw E k_732 rfl dJ6_bitCount_0f7a4_4 ?_
  refine z_mask (v := 1431655765) E dJ6_bitCount_0f7a4_7 (by decide) (by decide) (fun z_2 hz_2 => ?_)
  refine s_isub E dJ6_bitCount_0f7a4_8 ?_
  refine z_nm (P := fun z => (-2147483648) ≤ z.toInt ∧ z.toInt ≤ 2147483647) (z32 _) (fun z_3 hz_3 => ?_)
  refine s_istore_n (L2 := [some (AI z_3)]) E dJ6_bitCount_0f7a4_9 rfl (by decide) rfl ?_
  refine s_iload_n E dJ6_bitCount_0f7a4_10 rfl rfl ?_
  refine s_ldcw E k_733 rfl dJ6_bitCount_0f7a4_11 ?_
  refine z_mask (v := 858993459) E dJ6_bitCount_0f7a4_14 (by decide) (by decide) (fun z_4 hz_4 => ?_)
  refine s_iload_n E dJ6_bitCount_0f7a4_15 rfl rfl ?_
  refine s_iconst (v := 2) E dJ6_bitCount_0f7a4_16 (by decide) ?_
  refine s_iushr E dJ6_bitCount_0f7a4_17 ?_
  refine z_nm (P := fun z => (-2147483648) ≤ z.toInt ∧ z.toInt ≤ 2147483647) (z32 _) (fun z_5 hz_5 => ?_)
  refine s_ldcw E k_733 rfl dJ6_bitCount_0f7a4_18 ?_
  refine z_mask (v := 858993459) E dJ6_bitCount_0f7a4_21 (by decide) (by decide) (fun z_6 hz_6 => ?_)
  refine z_iadd (u := z_4.toInt) (v := z_6.toInt) E dJ6_bitCount_0f7a4_22 rfl rfl (by omega) (by omega) (fun z_7 hz_7 => ?_)
  refine s_istore_n (L2 := [some (AI z_7)]) E dJ6_bitCount_0f7a4_23 rfl (by decide) rfl ?_
  refine s_iload_n E dJ6_bitCount_0f7a4_24 rfl rfl ?_
  refine s_iload_n E dJ6_bitCount_0f7a4_25 rfl rfl ?_
  refine s_iconst (v := 4) E dJ6_bitCount_0f7a4_26 (by decide) ?_
  refine s_iushr E dJ6_bitCount_0f7a4_27 ?_
  refine z_nm (P := fun z => (-2147483648) ≤ z.toInt ∧ z.toInt ≤ 2147483647) (z32 _) (fun z_8 hz_8 => ?_)
  refine s_iadd E dJ6_bitCount_0f7a4_28 ?_
  refine z_nm (P := fun z => (-2147483648) ≤ z.toInt ∧ z.toInt ≤ 2147483647) (z32 _) (fun z_9 hz_9 => ?_)
  refine s_ldcw E k_734 rfl dJ6_bitCount_0f7a4_29 ?_
  refine z_mask (v := 252645135) E dJ6_bitCount_0f7a4_32 (by decide) (by decide) (fun z_10 hz_10 => ?_)
  refine s_istore_n (L2 := [some (AI z_10)]) E dJ6_bitCount_0f7a4_33 rfl (by decide) rfl ?_
  refine s_iload_n E dJ6_bitCount_0f7a4_34 rfl rfl ?_
  refine s_iload_n E dJ6_bitCount_0f7a4_35 rfl rfl ?_
  refine s_bipush (v := 8) E dJ6_bitCount_0f7a4_36 (by decide) ?_
  refine s_iushr E dJ6_bitCount_0f7a4_38 ?_
  refine z_nm (P := fun z => (-2147483648) ≤ z.toInt ∧ z.toInt ≤ 2147483647) (z32 _) (fun z_11 hz_11 => ?_)
  refine s_iadd E dJ6_bitCount_0f7a4_39 ?_
  refine z_nm (P := fun z => (-2147483648) ≤ z.toInt ∧ z.toInt ≤ 2147483647) (z32 _) (fun z_12 hz_12 => ?_)
  refine s_istore_n (L2 := [some (AI z_12)]) E dJ6_bitCount_0f7a4_40 rfl (by decide) rfl ?_
  refine s_iload_n E dJ6_bitCount_0f7a4_41 rfl rfl ?_
  refine s_iload_n E dJ6_bitCount_0f7a4_42 rfl rfl ?_
  refine s_bipush (v := 16) E dJ6_bitCount_0f7a4_43 (by decide) ?_
  refine s_iushr E dJ6_bitCount_0f7a4_45 ?_
  refine z_nm (P := fun z => (-2147483648) ≤ z.toInt ∧ z.toInt ≤ 2147483647) (z32 _) (fun z_13 hz_13 => ?_)
  refine s_iadd E dJ6_bitCount_0f7a4_46 ?_
  refine z_nm (P := fun z => (-2147483648) ≤ z.toInt ∧ z.toInt ≤ 2147483647) (z32 _) (fun z_14 hz_14 => ?_)
  refine s_istore_n (L2 := [some (AI z_14)]) E dJ6_bitCount_0f7a4_47 rfl (by decide) rfl ?_
  refine s_iload_n E dJ6_bitCount_0f7a4_48 rfl rfl ?_
  refine s_bipush (v := 63) E dJ6_bitCount_0f7a4_49 (by decide) ?_
  refine z_mask (v := 63) E dJ6_bitCount_0f7a4_51 (by decide) (by decide) (fun z_15 hz_15 => ?_)
  exact r_int E dJ6_bitCount_0f7a4_52 ⟨⟨by have hb_ := z32 z_15; omega, by have hb_ := z32 z_15; omega⟩, rfl⟩
set_option maxRecDepth 20000 in
set_option maxHeartbeats 2000000 in
theorem Z_X9_fullest_0 (l : Launch) (D : va_G) (aC : Nat → ClassId) (b : Nat) (w : XW) (x1 : Int32) (hI : Iv w)  : CnI l D aC b M_X9_fullest 2 44 0 0 [AR 0, AI x1] w (fun r u => (0 ≤ r.toInt ∧ r.toInt ≤ 63) ∧ w = u) := by
  refine cn_I (own := RX9) (nm := "fullest") (L0 := [some (AR 0), some (AI x1), none, none]) (by decide +kernel) rfl rfl (Nat.le_of_ble_eq_true rfl) rfl ?_
  intro p e s m args below meth c E hin
  have hJ : Jv w w := jv_rfl hI
  have hb_x1 := z32 x1
  refine s_iconst (v := 0) E dX9_fullest_0 (by decide) ?_
  refine s_istore_n (L2 := [some (AR 0), some (AI x1), some (AI 0), none]) E dX9_fullest_1 rfl (by decide) rfl ?_
  refine s_iconst (v := 0) E dX9_fullest_2 (by decide) ?_
  refine s_istore_n (L2 := [some (AR 0), some (AI x1), some (AI 0), some (AI 0)]) E dX9_fullest_3 rfl (by decide) rfl ?_
  refine z_loop (St := Int32 × Int32) (Pi := fun ⟨q4_2_0, q4_3_0⟩ v4 => (0 ≤ q4_2_0.toInt ∧ q4_2_0.toInt ≤ 63) ∧ (0 ≤ q4_3_0.toInt ∧ q4_3_0.toInt ≤ 6) ∧ w = v4) (Lf := fun ⟨q4_2_0, q4_3_0⟩ => [some (AR 0), some (AI x1), some (AI q4_2_0), some (AI q4_3_0)]) (fun ⟨q4_2_0, q4_3_0⟩ _ => (7 - q4_3_0.toInt).toNat) ⟨0, 0⟩ ⟨⟨by decide, by decide⟩, ⟨by decide, by decide⟩, rfl⟩ ?_
  rintro ⟨q4_2_0, q4_3_0⟩ v4 ⟨hq4_2, hq4_3, hv_⟩ ih4
  subst hv_
  refine s_loc (L2 := [some (AR 0), some (AI x1), some (AI q4_2_0), some (AI q4_3_0)]) rfl ?_
  refine s_iload_n E dX9_fullest_4 rfl rfl ?_
  refine s_aload_n E dX9_fullest_5 rfl rfl ?_
  refine s_gR (r := 2) E fg_X9_20 rfl rfl (jv_lt hJ (by decide)) (jv_r hJ (by decide +kernel)) dX9_fullest_6 ?_
  refine s_gR (r := 5) E fg_X9_133 rfl rfl (jv_lt hJ (by decide)) (jv_r hJ (by decide +kernel)) dX9_fullest_9 ?_
  refine s_gI E fg_X9_200 rfl rfl (jv_lt hJ (by decide)) dX9_fullest_12 ?_
  refine z_nm (P := fun z => z.toInt = (w.2.2.1 5 3).toInt ∧ 0 ≤ z.toInt ∧ z.toInt ≤ 6) ⟨rfl, (rg_5_3 hJ)⟩ (fun z_2 hz_2 => ?_)
  refine z_icmp_ge (tgt := 41) (u := q4_3_0.toInt) (v := z_2.toInt) E dX9_fullest_15 (by decide) rfl rfl (fun h_3 => ?_) (fun h_3 => ?_)
  ·
    refine s_iload_n E dX9_fullest_41 rfl rfl ?_
    exact r_int E dX9_fullest_42 ⟨⟨by have hb_ := z32 q4_2_0; omega, by have hb_ := z32 q4_2_0; omega⟩, rfl⟩
  ·
    refine s_iload_n E dX9_fullest_18 rfl rfl ?_
    refine s_aload_n E dX9_fullest_19 rfl rfl ?_
    refine s_gR (r := 69) E fg_X9_54 rfl rfl (jv_lt hJ (by decide)) (jv_r hJ (by decide +kernel)) dX9_fullest_20 ?_
    refine s_iload_n E dX9_fullest_23 rfl rfl ?_
    refine s_iload_n E dX9_fullest_24 rfl rfl ?_
    refine s_vI (As := [AI q4_3_0, AI x1]) (S := [AI q4_2_0]) E (Z_X2_companyOf_69 l D aC b w q4_3_0 x1 hJ.1 ) cv_X9_172 rfl rfl rfl (jv_lt hJ (by decide)) (Nat.le_of_ble_eq_true rfl) (Nat.le_of_ble_eq_true rfl) ⟨(Nat.le_of_ble_eq_true rfl), (Nat.le_of_ble_eq_true rfl)⟩ (Nat.le_of_ble_eq_true rfl) dX9_fullest_25 (fun z_6 u_4 hp_5 => ?_)
    obtain ⟨hz_6, hp_5⟩ := hp_5
    subst hp_5
    refine s_sI (As := [AI z_6]) (S := [AI q4_2_0]) E (Z_J6_bitCount_0f7a4 l D aC b w z_6 hJ.1 ) cs_X9_203 rfl rfl (Nat.le_of_ble_eq_true rfl) (Nat.le_of_ble_eq_true rfl) ⟨(Nat.le_of_ble_eq_true rfl), (Nat.le_of_ble_eq_true rfl)⟩ (Nat.le_of_ble_eq_true rfl) dX9_fullest_28 (fun z_10 u_8 hp_9 => ?_)
    obtain ⟨hz_10, hp_9⟩ := hp_9
    subst hp_9
    refine z_max (u := q4_2_0.toInt) (v := z_10.toInt) E ⟨k_735, k_41, k_4, k_42⟩ (Nat.le_of_ble_eq_true rfl) (Nat.le_of_ble_eq_true rfl) (Nat.le_of_ble_eq_true rfl) (Nat.le_of_ble_eq_true rfl) dX9_fullest_31 rfl rfl (fun z_12 hz_12 => ?_)
    refine s_istore_n (L2 := [some (AR 0), some (AI x1), some (AI z_12), some (AI q4_3_0)]) E dX9_fullest_34 rfl (by decide) rfl ?_
    refine z_iinc (u := q4_3_0.toInt) (L2 := fun z_13 => [some (AR 0), some (AI x1), some (AI z_12), some (AI z_13)]) E dX9_fullest_35 rfl rfl (by decide) (fun _ => rfl) (by decide) (by omega) (by omega) (fun z_13 hz_13 => ?_)
    refine s_goto (tgt := 4) E dX9_fullest_38 (by decide) ?_
    exact ih4 ⟨z_12, z_13⟩ w ⟨⟨by have hb_ := z32 z_12; omega, by have hb_ := z32 z_12; omega⟩, ⟨by have hb_ := z32 z_13; omega, by have hb_ := z32 z_13; omega⟩, rfl⟩ (by first | omega | decide | (dsimp only; omega) | (dsimp only; decide))
set_option maxRecDepth 20000 in
set_option maxHeartbeats 2000000 in
theorem Z_X9_crush_0 (l : Launch) (D : va_G) (aC : Nat → ClassId) (b : Nat) (w : XW)  (hI : Iv w)  : CnI l D aC b M_X9_crush 3 67 0 0 [AR 0] w (fun r u => ((-2) ≤ r.toInt ∧ r.toInt ≤ 63 ∧ (¬ r.toInt = 0 ∨ (1 ≤ (w.2.2.1 2 0).toInt ∧ (w.2.2.1 2 0).toInt ≤ 2147483647))) ∧ w = u) := by
  refine cn_I (own := RX9) (nm := "crush") (L0 := [some (AR 0), none, none]) (by decide +kernel) rfl rfl (Nat.le_of_ble_eq_true rfl) rfl ?_
  intro p e s m args below meth c E hin
  have hJ : Jv w w := jv_rfl hI
  refine s_aload_n E dX9_crush_0 rfl rfl ?_
  refine s_gR (r := 2) E fg_X9_20 rfl rfl (jv_lt hJ (by decide)) (jv_r hJ (by decide +kernel)) dX9_crush_1 ?_
  refine s_vI (As := []) (S := []) E (Z_X0_isTold_2 l D aC b w  hJ.1 ) cv_X9_184 rfl rfl rfl (jv_lt hJ (by decide)) (Nat.le_of_ble_eq_true rfl) (Nat.le_of_ble_eq_true rfl) ⟨(Nat.le_of_ble_eq_true rfl), (Nat.le_of_ble_eq_true rfl)⟩ (Nat.le_of_ble_eq_true rfl) dX9_crush_4 (fun z_3 u_1 hp_2 => ?_)
  obtain ⟨hz_3, hp_2⟩ := hp_2
  subst hp_2
  refine z_if_ne (tgt := 13) (u := z_3.toInt) E dX9_crush_7 (by decide) rfl (fun h_5 => ?_) (fun h_5 => ?_)
  ·
    refine s_iconst (v := 0) E dX9_crush_13 (by decide) ?_
    refine s_istore_n (L2 := [some (AR 0), some (AI 0), none]) E dX9_crush_14 rfl (by decide) rfl ?_
    refine s_iconst (v := 0) E dX9_crush_15 (by decide) ?_
    refine s_istore_n (L2 := [some (AR 0), some (AI 0), some (AI 0)]) E dX9_crush_16 rfl (by decide) rfl ?_
    refine z_loop (St := Int32 × Int32) (Pi := fun ⟨q17_1_5, q17_2_5⟩ v17 => (0 ≤ q17_1_5.toInt ∧ q17_1_5.toInt ≤ 63) ∧ (0 ≤ q17_2_5.toInt ∧ q17_2_5.toInt ≤ 15) ∧ w = v17) (Lf := fun ⟨q17_1_5, q17_2_5⟩ => [some (AR 0), some (AI q17_1_5), some (AI q17_2_5)]) (fun ⟨q17_1_5, q17_2_5⟩ _ => (16 - q17_2_5.toInt).toNat) ⟨0, 0⟩ ⟨⟨by decide, by decide⟩, ⟨by decide, by decide⟩, rfl⟩ ?_
    rintro ⟨q17_1_5, q17_2_5⟩ v17 ⟨hq17_1, hq17_2, hv_⟩ ih17
    subst hv_
    refine s_loc (L2 := [some (AR 0), some (AI q17_1_5), some (AI q17_2_5)]) rfl ?_
    refine s_iload_n E dX9_crush_17 rfl rfl ?_
    refine s_aload_n E dX9_crush_18 rfl rfl ?_
    refine s_gR (r := 2) E fg_X9_20 rfl rfl (jv_lt hJ (by decide)) (jv_r hJ (by decide +kernel)) dX9_crush_19 ?_
    refine s_gI E fg_X9_169 rfl rfl (jv_lt hJ (by decide)) dX9_crush_22 ?_
    refine z_nm (P := fun z => z.toInt = (w.2.2.1 2 2).toInt ∧ 0 ≤ z.toInt ∧ z.toInt ≤ 14) ⟨rfl, (rg_2_2 hJ)⟩ (fun z_7 hz_7 => ?_)
    refine z_icmp_gt (tgt := 44) (u := q17_2_5.toInt) (v := z_7.toInt) E dX9_crush_25 (by decide) rfl rfl (fun h_8 => ?_) (fun h_8 => ?_)
    ·
      refine s_iload_n E dX9_crush_44 rfl rfl ?_
      exact r_int E dX9_crush_45 ⟨⟨by have hb_ := z32 q17_1_5; omega, by have hb_ := z32 q17_1_5; omega, by first | (right; decide) | (have hb_ := z32 q17_1_5; omega) | (have hb_ := z32 q17_1_5; have hc_ := z32 (w.2.2.1 2 0); omega)⟩, rfl⟩
    ·
      refine s_iload_n E dX9_crush_28 rfl rfl ?_
      refine s_aload_n E dX9_crush_29 rfl rfl ?_
      refine s_iload_n E dX9_crush_30 rfl rfl ?_
      refine s_vI (As := [AI q17_2_5]) (S := [AI q17_1_5]) E (Z_X9_fullest_0 l D aC b w q17_2_5 hJ.1 ) cv_X9_188 rfl rfl rfl (jv_lt hJ (by decide)) (Nat.le_of_ble_eq_true rfl) (Nat.le_of_ble_eq_true rfl) ⟨(Nat.le_of_ble_eq_true rfl), (Nat.le_of_ble_eq_true rfl)⟩ (Nat.le_of_ble_eq_true rfl) dX9_crush_31 (fun z_11 u_9 hp_10 => ?_)
      obtain ⟨hz_11, hp_10⟩ := hp_10
      subst hp_10
      refine z_max (u := q17_1_5.toInt) (v := z_11.toInt) E ⟨k_735, k_41, k_4, k_42⟩ (Nat.le_of_ble_eq_true rfl) (Nat.le_of_ble_eq_true rfl) (Nat.le_of_ble_eq_true rfl) (Nat.le_of_ble_eq_true rfl) dX9_crush_34 rfl rfl (fun z_13 hz_13 => ?_)
      refine s_istore_n (L2 := [some (AR 0), some (AI z_13), some (AI q17_2_5)]) E dX9_crush_37 rfl (by decide) rfl ?_
      refine z_iinc (u := q17_2_5.toInt) (L2 := fun z_14 => [some (AR 0), some (AI z_13), some (AI z_14)]) E dX9_crush_38 rfl rfl (by decide) (fun _ => rfl) (by decide) (by omega) (by omega) (fun z_14 hz_14 => ?_)
      refine s_goto (tgt := 17) E dX9_crush_41 (by decide) ?_
      exact ih17 ⟨z_13, z_14⟩ w ⟨⟨by have hb_ := z32 z_13; omega, by have hb_ := z32 z_13; omega⟩, ⟨by have hb_ := z32 z_14; omega, by have hb_ := z32 z_14; omega⟩, rfl⟩ (by first | omega | decide | (dsimp only; omega) | (dsimp only; decide))
  ·
    refine s_bipush (v := (-2)) E dX9_crush_10 (by decide) ?_
    exact r_int E dX9_crush_12 ⟨⟨by decide, by decide, by first | (left; decide) | (right; decide) | (right; have hb_ := z32 (w.2.2.1 2 0); omega)⟩, rfl⟩
set_option maxRecDepth 20000 in
set_option maxHeartbeats 2000000 in
theorem Z_X9_crushed_0 (l : Launch) (D : va_G) (aC : Nat → ClassId) (b : Nat) (w : XW)  (hI : Iv w)  : CnI l D aC b M_X9_crushed 4 89 0 0 [AR 0] w (fun r u => ((-2) ≤ r.toInt ∧ r.toInt ≤ 14) ∧ w = u) := by
  refine cn_I (own := RX9) (nm := "crushed") (L0 := [some (AR 0), none, none]) (by decide +kernel) rfl rfl (Nat.le_of_ble_eq_true rfl) rfl ?_
  intro p e s m args below meth c E hin
  have hJ : Jv w w := jv_rfl hI
  refine s_aload_n E dX9_crushed_0 rfl rfl ?_
  refine s_vI (As := []) (S := []) E (Z_X9_crush_0 l D aC b w  hJ.1 ) cv_X9_196 rfl rfl rfl (jv_lt hJ (by decide)) (Nat.le_of_ble_eq_true rfl) (Nat.le_of_ble_eq_true rfl) ⟨(Nat.le_of_ble_eq_true rfl), (Nat.le_of_ble_eq_true rfl)⟩ (Nat.le_of_ble_eq_true rfl) dX9_crushed_1 (fun z_3 u_1 hp_2 => ?_)
  obtain ⟨hz_3, hp_2⟩ := hp_2
  subst hp_2
  refine s_istore_n (L2 := [some (AR 0), some (AI z_3), none]) E dX9_crushed_4 rfl (by decide) rfl ?_
  refine s_iload_n E dX9_crushed_5 rfl rfl ?_
  refine z_if_ge (tgt := 12) (u := z_3.toInt) E dX9_crushed_6 (by decide) rfl (fun h_5 => ?_) (fun h_5 => ?_)
  ·
    refine s_iconst (v := 0) E dX9_crushed_12 (by decide) ?_
    refine s_istore_n (L2 := [some (AR 0), some (AI z_3), some (AI 0)]) E dX9_crushed_13 rfl (by decide) rfl ?_
    refine z_loop (St := Int32) (Pi := fun q14_2_5 v14 => (0 ≤ q14_2_5.toInt ∧ q14_2_5.toInt ≤ 15) ∧ w = v14) (Lf := fun q14_2_5 => [some (AR 0), some (AI z_3), some (AI q14_2_5)]) (fun q14_2_5 _ => (16 - q14_2_5.toInt).toNat) 0 ⟨⟨by decide, by decide⟩, rfl⟩ ?_
    rintro q14_2_5 v14 ⟨hq14_2, hv_⟩ ih14
    subst hv_
    refine s_loc (L2 := [some (AR 0), some (AI z_3), some (AI q14_2_5)]) rfl ?_
    refine s_iload_n E dX9_crushed_14 rfl rfl ?_
    refine s_aload_n E dX9_crushed_15 rfl rfl ?_
    refine s_gR (r := 2) E fg_X9_20 rfl rfl (jv_lt hJ (by decide)) (jv_r hJ (by decide +kernel)) dX9_crushed_16 ?_
    refine s_gI E fg_X9_169 rfl rfl (jv_lt hJ (by decide)) dX9_crushed_19 ?_
    refine z_nm (P := fun z => z.toInt = (w.2.2.1 2 2).toInt ∧ 0 ≤ z.toInt ∧ z.toInt ≤ 14) ⟨rfl, (rg_2_2 hJ)⟩ (fun z_7 hz_7 => ?_)
    refine z_icmp_gt (tgt := 42) (u := q14_2_5.toInt) (v := z_7.toInt) E dX9_crushed_22 (by decide) rfl rfl (fun h_8 => ?_) (fun h_8 => ?_)
    ·
      refine s_bipush (v := (-2)) E dX9_crushed_42 (by decide) ?_
      exact r_int E dX9_crushed_44 ⟨(by decide), rfl⟩
    ·
      refine s_aload_n E dX9_crushed_25 rfl rfl ?_
      refine s_iload_n E dX9_crushed_26 rfl rfl ?_
      refine s_vI (As := [AI q14_2_5]) (S := []) E (Z_X9_fullest_0 l D aC b w q14_2_5 hJ.1 ) cv_X9_188 rfl rfl rfl (jv_lt hJ (by decide)) (Nat.le_of_ble_eq_true rfl) (Nat.le_of_ble_eq_true rfl) ⟨(Nat.le_of_ble_eq_true rfl), (Nat.le_of_ble_eq_true rfl)⟩ (Nat.le_of_ble_eq_true rfl) dX9_crushed_27 (fun z_11 u_9 hp_10 => ?_)
      obtain ⟨hz_11, hp_10⟩ := hp_10
      subst hp_10
      refine s_iload_n E dX9_crushed_30 rfl rfl ?_
      refine z_icmp_ne (tgt := 36) (u := z_11.toInt) (v := z_3.toInt) E dX9_crushed_31 (by decide) rfl rfl (fun h_13 => ?_) (fun h_13 => ?_)
      ·
        refine z_iinc (u := q14_2_5.toInt) (L2 := fun z_14 => [some (AR 0), some (AI z_3), some (AI z_14)]) E dX9_crushed_36 rfl rfl (by decide) (fun _ => rfl) (by decide) (by omega) (by omega) (fun z_14 hz_14 => ?_)
        refine s_goto (tgt := 14) E dX9_crushed_39 (by decide) ?_
        exact ih14 z_14 w ⟨⟨by have hb_ := z32 z_14; omega, by have hb_ := z32 z_14; omega⟩, rfl⟩ (by first | omega | decide | (dsimp only; omega) | (dsimp only; decide))
      ·
        refine s_iload_n E dX9_crushed_34 rfl rfl ?_
        exact r_int E dX9_crushed_35 ⟨⟨by have hb_ := z32 q14_2_5; omega, by have hb_ := z32 q14_2_5; omega⟩, rfl⟩
  ·
    refine s_bipush (v := (-2)) E dX9_crushed_9 (by decide) ?_
    exact r_int E dX9_crushed_11 ⟨(by decide), rfl⟩
set_option maxRecDepth 20000 in
set_option maxHeartbeats 2000000 in
theorem Z_X2_dancesIn_69 (l : Launch) (D : va_G) (aC : Nat → ClassId) (b : Nat) (w : XW) (x1 : Int32) (x2 : Int32) (hI : Iv w)  : CnI l D aC b M_X2_dancesIn 2 44 0 0 [AR 69, AI x1, AI x2] w (fun r u => ((-2147483648) ≤ r.toInt ∧ r.toInt ≤ 2147483647) ∧ w = u) := by
  refine cn_I (own := RX2) (nm := "dancesIn") (L0 := [some (AR 69), some (AI x1), some (AI x2), none, none]) (by decide +kernel) rfl rfl (Nat.le_of_ble_eq_true rfl) rfl ?_
  intro p e s m args below meth c E hin
  have hJ : Jv w w := jv_rfl hI
  have hb_x1 := z32 x1
  have hb_x2 := z32 x2
  refine s_iconst (v := 0) E dX2_dancesIn_0 (by decide) ?_
  refine s_istore_n (L2 := [some (AR 69), some (AI x1), some (AI x2), some (AI 0), none]) E dX2_dancesIn_1 rfl (by decide) rfl ?_
  refine s_iconst (v := 0) E dX2_dancesIn_2 (by decide) ?_
  refine s_istore (L2 := [some (AR 69), some (AI x1), some (AI x2), some (AI 0), some (AI 0)]) E dX2_dancesIn_3 (by decide) rfl ?_
  refine z_loop (St := Int32 × Int32) (Pi := fun ⟨q5_3_0, q5_4_0⟩ v5 => (0 ≤ q5_4_0.toInt ∧ q5_4_0.toInt ≤ 15) ∧ w = v5) (Lf := fun ⟨q5_3_0, q5_4_0⟩ => [some (AR 69), some (AI x1), some (AI x2), some (AI q5_3_0), some (AI q5_4_0)]) (fun ⟨q5_3_0, q5_4_0⟩ _ => (16 - q5_4_0.toInt).toNat) ⟨0, 0⟩ ⟨⟨by decide, by decide⟩, rfl⟩ ?_
  rintro ⟨q5_3_0, q5_4_0⟩ v5 ⟨hq5_4, hv_⟩ ih5
  subst hv_
  have hbq5_3 := z32 q5_3_0
  refine s_loc (L2 := [some (AR 69), some (AI x1), some (AI x2), some (AI q5_3_0), some (AI q5_4_0)]) rfl ?_
  refine s_iload E dX2_dancesIn_5 rfl ?_
  refine s_aload_n E dX2_dancesIn_7 rfl rfl ?_
  refine s_gI E fg_X2_67 rfl rfl (jv_lt hJ (by decide)) dX2_dancesIn_8 ?_
  refine z_nm (P := fun z => z.toInt = (w.2.2.1 69 7).toInt ∧ 0 ≤ z.toInt ∧ z.toInt ≤ 14) ⟨rfl, (rg_69_7 hJ)⟩ (fun z_2 hz_2 => ?_)
  refine z_icmp_gt (tgt := 34) (u := q5_4_0.toInt) (v := z_2.toInt) E dX2_dancesIn_11 (by decide) rfl rfl (fun h_3 => ?_) (fun h_3 => ?_)
  ·
    refine s_iload_n E dX2_dancesIn_34 rfl rfl ?_
    exact r_int E dX2_dancesIn_35 ⟨⟨by have hb_ := z32 q5_3_0; omega, by have hb_ := z32 q5_3_0; omega⟩, rfl⟩
  ·
    refine s_aload_n E dX2_dancesIn_14 rfl rfl ?_
    refine s_iload_n E dX2_dancesIn_15 rfl rfl ?_
    refine s_iload E dX2_dancesIn_16 rfl ?_
    refine s_vI (As := [AI x1, AI q5_4_0]) (S := []) E (Z_X2_placeOf_69 l D aC b w x1 q5_4_0 hJ.1 ) cv_X2_111 rfl rfl rfl (jv_lt hJ (by decide)) (Nat.le_of_ble_eq_true rfl) (Nat.le_of_ble_eq_true rfl) ⟨(Nat.le_of_ble_eq_true rfl), (Nat.le_of_ble_eq_true rfl)⟩ (Nat.le_of_ble_eq_true rfl) dX2_dancesIn_18 (fun z_6 u_4 hp_5 => ?_)
    obtain ⟨hz_6, hp_5⟩ := hp_5
    subst hp_5
    refine s_iload_n E dX2_dancesIn_21 rfl rfl ?_
    refine z_icmp_ne (tgt := 28) (u := z_6.toInt) (v := x2.toInt) E dX2_dancesIn_22 (by decide) rfl rfl (fun h_8 => ?_) (fun h_8 => ?_)
    ·
      refine z_iinc (u := q5_4_0.toInt) (L2 := fun z_9 => [some (AR 69), some (AI x1), some (AI x2), some (AI q5_3_0), some (AI z_9)]) E dX2_dancesIn_28 rfl rfl (by decide) (fun _ => rfl) (by decide) (by omega) (by omega) (fun z_9 hz_9 => ?_)
      refine s_goto (tgt := 5) E dX2_dancesIn_31 (by decide) ?_
      exact ih5 ⟨q5_3_0, z_9⟩ w ⟨⟨by have hb_ := z32 z_9; omega, by have hb_ := z32 z_9; omega⟩, rfl⟩ (by first | omega | decide | (dsimp only; omega) | (dsimp only; decide))
    ·
      refine z_iincW (L2 := fun z_10 => [some (AR 69), some (AI x1), some (AI x2), some (AI z_10), some (AI q5_4_0)]) E dX2_dancesIn_25 rfl (by decide) (fun _ => rfl) (fun z_10 => ?_)
      refine z_iinc (u := q5_4_0.toInt) (L2 := fun z_11 => [some (AR 69), some (AI x1), some (AI x2), some (AI z_10), some (AI z_11)]) E dX2_dancesIn_28 rfl rfl (by decide) (fun _ => rfl) (by decide) (by omega) (by omega) (fun z_11 hz_11 => ?_)
      refine s_goto (tgt := 5) E dX2_dancesIn_31 (by decide) ?_
      exact ih5 ⟨z_10, z_11⟩ w ⟨⟨by have hb_ := z32 z_11; omega, by have hb_ := z32 z_11; omega⟩, rfl⟩ (by first | omega | decide | (dsimp only; omega) | (dsimp only; decide))
set_option maxRecDepth 20000 in
set_option maxHeartbeats 2000000 in
theorem Z_X9_likes_0 (l : Launch) (D : va_G) (aC : Nat → ClassId) (b : Nat) (w : XW) (x1 : Int32) (hI : Iv w)  : CnI l D aC b M_X9_likes 3 68 0 0 [AR 0, AI x1] w (fun r u => ((-2) ≤ r.toInt ∧ r.toInt ≤ 64 ∧ (¬ r.toInt = 0 ∨ (0 ≤ x1.toInt ∧ x1.toInt ≤ 5)) ∧ (¬ r.toInt = 0 ∨ (1 ≤ (w.2.2.1 5 3).toInt ∧ (w.2.2.1 5 3).toInt ≤ 6))) ∧ w = u) := by
  refine cn_I (own := RX9) (nm := "likes") (L0 := [some (AR 0), some (AI x1), none, none, none, none]) (by decide +kernel) rfl rfl (Nat.le_of_ble_eq_true rfl) rfl ?_
  intro p e s m args below meth c E hin
  have hJ : Jv w w := jv_rfl hI
  have hb_x1 := z32 x1
  refine s_aload_n E dX9_likes_0 rfl rfl ?_
  refine s_gR (r := 2) E fg_X9_20 rfl rfl (jv_lt hJ (by decide)) (jv_r hJ (by decide +kernel)) dX9_likes_1 ?_
  refine s_iload_n E dX9_likes_4 rfl rfl ?_
  refine s_vI (As := [AI x1]) (S := []) E (Z_X0_hasLady_2 l D aC b w x1 hJ.1 ) cv_X9_139 rfl rfl rfl (jv_lt hJ (by decide)) (Nat.le_of_ble_eq_true rfl) (Nat.le_of_ble_eq_true rfl) ⟨(Nat.le_of_ble_eq_true rfl), (Nat.le_of_ble_eq_true rfl)⟩ (Nat.le_of_ble_eq_true rfl) dX9_likes_5 (fun z_3 u_1 hp_2 => ?_)
  obtain ⟨hz_3, hp_2⟩ := hp_2
  subst hp_2
  refine z_if_ne (tgt := 14) (u := z_3.toInt) E dX9_likes_8 (by decide) rfl (fun h_5 => ?_) (fun h_5 => ?_)
  ·
    refine s_iconst (v := 0) E dX9_likes_14 (by decide) ?_
    refine s_istore_n (L2 := [some (AR 0), some (AI x1), some (AI 0), none, none, none]) E dX9_likes_15 rfl (by decide) rfl ?_
    refine s_iconst (v := 0) E dX9_likes_16 (by decide) ?_
    refine s_istore_n (L2 := [some (AR 0), some (AI x1), some (AI 0), some (AI 0), none, none]) E dX9_likes_17 rfl (by decide) rfl ?_
    refine s_iconst (v := 0) E dX9_likes_18 (by decide) ?_
    refine s_istore (L2 := [some (AR 0), some (AI x1), some (AI 0), some (AI 0), some (AI 0), none]) E dX9_likes_19 (by decide) rfl ?_
    refine z_loop (St := Int32 × Int32 × Int32) (Pi := fun ⟨q21_2_5, q21_3_5, q21_4_5⟩ v21 => (0 ≤ q21_2_5.toInt ∧ q21_2_5.toInt ≤ 64) ∧ (0 ≤ q21_3_5.toInt ∧ q21_3_5.toInt ≤ 2147483647) ∧ (0 ≤ q21_4_5.toInt ∧ q21_4_5.toInt ≤ 8) ∧ w = v21) (Lf := fun ⟨q21_2_5, q21_3_5, q21_4_5⟩ => [some (AR 0), some (AI x1), some (AI q21_2_5), some (AI q21_3_5), some (AI q21_4_5), none]) (fun ⟨q21_2_5, q21_3_5, q21_4_5⟩ _ => (9 - q21_4_5.toInt).toNat) ⟨0, 0, 0⟩ ⟨⟨by decide, by decide⟩, ⟨by decide, by decide⟩, ⟨by decide, by decide⟩, rfl⟩ ?_
    rintro ⟨q21_2_5, q21_3_5, q21_4_5⟩ v21 ⟨hq21_2, hq21_3, hq21_4, hv_⟩ ih21
    subst hv_
    refine s_loc (L2 := [some (AR 0), some (AI x1), some (AI q21_2_5), some (AI q21_3_5), some (AI q21_4_5), none]) rfl ?_
    refine s_iload E dX9_likes_21 rfl ?_
    refine s_aload_n E dX9_likes_23 rfl rfl ?_
    refine s_gR (r := 2) E fg_X9_20 rfl rfl (jv_lt hJ (by decide)) (jv_r hJ (by decide +kernel)) dX9_likes_24 ?_
    refine s_gI E fg_X9_208 rfl rfl (jv_lt hJ (by decide)) dX9_likes_27 ?_
    refine z_nm (P := fun z => z.toInt = (w.2.2.1 2 1).toInt ∧ 0 ≤ z.toInt ∧ z.toInt ≤ 8) ⟨rfl, (rg_2_1 hJ)⟩ (fun z_7 hz_7 => ?_)
    refine z_icmp_ge (tgt := 63) (u := q21_4_5.toInt) (v := z_7.toInt) E dX9_likes_30 (by decide) rfl rfl (fun h_8 => ?_) (fun h_8 => ?_)
    ·
      refine s_iload_n E dX9_likes_63 rfl rfl ?_
      exact r_int E dX9_likes_64 ⟨⟨by have hb_ := z32 q21_2_5; omega, by have hb_ := z32 q21_2_5; omega, by first | (right; decide) | (have hb_ := z32 q21_2_5; omega) | (have hb_ := z32 q21_2_5; have hc_ := z32 x1; omega), by first | (right; decide) | (have hb_ := z32 q21_2_5; omega) | (have hb_ := z32 q21_2_5; have hc_ := z32 (w.2.2.1 5 3); omega)⟩, rfl⟩
    ·
      refine s_aload_n E dX9_likes_33 rfl rfl ?_
      refine s_gR (r := 69) E fg_X9_54 rfl rfl (jv_lt hJ (by decide)) (jv_r hJ (by decide +kernel)) dX9_likes_34 ?_
      refine s_iload_n E dX9_likes_37 rfl rfl ?_
      refine s_iload E dX9_likes_38 rfl ?_
      refine s_vI (As := [AI x1, AI q21_4_5]) (S := []) E (Z_X2_dancesIn_69 l D aC b w x1 q21_4_5 hJ.1 ) cv_X9_211 rfl rfl rfl (jv_lt hJ (by decide)) (Nat.le_of_ble_eq_true rfl) (Nat.le_of_ble_eq_true rfl) ⟨(Nat.le_of_ble_eq_true rfl), (Nat.le_of_ble_eq_true rfl)⟩ (Nat.le_of_ble_eq_true rfl) dX9_likes_40 (fun z_11 u_9 hp_10 => ?_)
      obtain ⟨hz_11, hp_10⟩ := hp_10
      subst hp_10
      refine s_istore (L2 := [some (AR 0), some (AI x1), some (AI q21_2_5), some (AI q21_3_5), some (AI q21_4_5), some (AI z_11)]) E dX9_likes_43 (by decide) rfl ?_
      refine s_iload E dX9_likes_45 rfl ?_
      refine s_iload_n E dX9_likes_47 rfl rfl ?_
      refine z_icmp_le (tgt := 57) (u := z_11.toInt) (v := q21_3_5.toInt) E dX9_likes_48 (by decide) rfl rfl (fun h_13 => ?_) (fun h_13 => ?_)
      ·
        refine z_iinc (u := q21_4_5.toInt) (L2 := fun z_14 => [some (AR 0), some (AI x1), some (AI q21_2_5), some (AI q21_3_5), some (AI z_14), some (AI z_11)]) E dX9_likes_57 rfl rfl (by decide) (fun _ => rfl) (by decide) (by omega) (by omega) (fun z_14 hz_14 => ?_)
        refine s_goto (tgt := 21) E dX9_likes_60 (by decide) ?_
        refine s_drop (i := 5) (L2 := [some (AR 0), some (AI x1), some (AI q21_2_5), some (AI q21_3_5), some (AI z_14), none]) rfl ?_
        exact ih21 ⟨q21_2_5, q21_3_5, z_14⟩ w ⟨⟨by have hb_ := z32 q21_2_5; omega, by have hb_ := z32 q21_2_5; omega⟩, ⟨by have hb_ := z32 q21_3_5; omega, by have hb_ := z32 q21_3_5; omega⟩, ⟨by have hb_ := z32 z_14; omega, by have hb_ := z32 z_14; omega⟩, rfl⟩ (by first | omega | decide | (dsimp only; omega) | (dsimp only; decide))
      ·
        refine s_iload E dX9_likes_51 rfl ?_
        refine s_istore_n (L2 := [some (AR 0), some (AI x1), some (AI q21_2_5), some (AI z_11), some (AI q21_4_5), some (AI z_11)]) E dX9_likes_53 rfl (by decide) rfl ?_
        refine s_iload E dX9_likes_54 rfl ?_
        refine s_istore_n (L2 := [some (AR 0), some (AI x1), some (AI q21_4_5), some (AI z_11), some (AI q21_4_5), some (AI z_11)]) E dX9_likes_56 rfl (by decide) rfl ?_
        refine z_iinc (u := q21_4_5.toInt) (L2 := fun z_15 => [some (AR 0), some (AI x1), some (AI q21_4_5), some (AI z_11), some (AI z_15), some (AI z_11)]) E dX9_likes_57 rfl rfl (by decide) (fun _ => rfl) (by decide) (by omega) (by omega) (fun z_15 hz_15 => ?_)
        refine s_goto (tgt := 21) E dX9_likes_60 (by decide) ?_
        refine s_drop (i := 5) (L2 := [some (AR 0), some (AI x1), some (AI q21_4_5), some (AI z_11), some (AI z_15), none]) rfl ?_
        exact ih21 ⟨q21_4_5, z_11, z_15⟩ w ⟨⟨by have hb_ := z32 q21_4_5; omega, by have hb_ := z32 q21_4_5; omega⟩, ⟨by have hb_ := z32 z_11; omega, by have hb_ := z32 z_11; omega⟩, ⟨by have hb_ := z32 z_15; omega, by have hb_ := z32 z_15; omega⟩, rfl⟩ (by first | omega | decide | (dsimp only; omega) | (dsimp only; decide))
  ·
    refine s_bipush (v := (-2)) E dX9_likes_11 (by decide) ?_
    exact r_int E dX9_likes_13 ⟨⟨by decide, by decide, by first | (left; decide) | (right; decide) | (right; have hb_ := z32 x1; omega), by first | (left; decide) | (right; decide) | (right; have hb_ := z32 (w.2.2.1 5 3); omega)⟩, rfl⟩
set_option maxRecDepth 20000 in
set_option maxHeartbeats 2000000 in
theorem Z_X9_apart_0 (l : Launch) (D : va_G) (aC : Nat → ClassId) (b : Nat) (w : XW) (x1 : Int32) (x2 : Int32) (x3 : Int32) (hI : Iv w)  : CnI l D aC b M_X9_apart 3 71 0 0 [AR 0, AI x1, AI x2, AI x3] w (fun r u => ((-2) ≤ r.toInt ∧ r.toInt ≤ 7 ∧ (¬ r.toInt = 0 ∨ (0 ≤ x1.toInt ∧ x1.toInt ≤ 5)) ∧ (¬ r.toInt = 0 ∨ (0 ≤ x2.toInt ∧ x2.toInt ≤ 5)) ∧ (¬ r.toInt = 0 ∨ (0 ≤ x3.toInt ∧ x3.toInt ≤ 14)) ∧ (¬ r.toInt = 0 ∨ (1 ≤ (w.2.2.1 5 3).toInt ∧ (w.2.2.1 5 3).toInt ≤ 6)) ∧ (¬ r.toInt = 0 ∨ (1 ≤ (w.2.2.1 2 0).toInt ∧ (w.2.2.1 2 0).toInt ≤ 2147483647)) ∧ (¬ r.toInt = 0 ∨ (1 ≤ (w.2.2.1 69 6).toInt ∧ (w.2.2.1 69 6).toInt ≤ 8))) ∧ w = u) := by
  refine cn_I (own := RX9) (nm := "apart") (L0 := [some (AR 0), some (AI x1), some (AI x2), some (AI x3)]) (by decide +kernel) rfl rfl (Nat.le_of_ble_eq_true rfl) rfl ?_
  intro p e s m args below meth c E hin
  have hJ : Jv w w := jv_rfl hI
  have hb_x1 := z32 x1
  have hb_x2 := z32 x2
  have hb_x3 := z32 x3
  refine s_aload_n E dX9_apart_0 rfl rfl ?_
  refine s_gR (r := 2) E fg_X9_20 rfl rfl (jv_lt hJ (by decide)) (jv_r hJ (by decide +kernel)) dX9_apart_1 ?_
  refine s_iload_n E dX9_apart_4 rfl rfl ?_
  refine s_vI (As := [AI x1]) (S := []) E (Z_X0_hasLady_2 l D aC b w x1 hJ.1 ) cv_X9_139 rfl rfl rfl (jv_lt hJ (by decide)) (Nat.le_of_ble_eq_true rfl) (Nat.le_of_ble_eq_true rfl) ⟨(Nat.le_of_ble_eq_true rfl), (Nat.le_of_ble_eq_true rfl)⟩ (Nat.le_of_ble_eq_true rfl) dX9_apart_5 (fun z_3 u_1 hp_2 => ?_)
  obtain ⟨hz_3, hp_2⟩ := hp_2
  subst hp_2
  refine z_if_eq (tgt := 33) (u := z_3.toInt) E dX9_apart_8 (by decide) rfl (fun h_5 => ?_) (fun h_5 => ?_)
  ·
    refine s_bipush (v := (-2)) E dX9_apart_33 (by decide) ?_
    exact r_int E dX9_apart_35 ⟨⟨by decide, by decide, by first | (left; decide) | (right; decide) | (right; have hb_ := z32 x1; omega), by first | (left; decide) | (right; decide) | (right; have hb_ := z32 x2; omega), by first | (left; decide) | (right; decide) | (right; have hb_ := z32 x3; omega), by first | (left; decide) | (right; decide) | (right; have hb_ := z32 (w.2.2.1 5 3); omega), by first | (left; decide) | (right; decide) | (right; have hb_ := z32 (w.2.2.1 2 0); omega), by first | (left; decide) | (right; decide) | (right; have hb_ := z32 (w.2.2.1 69 6); omega)⟩, rfl⟩
  ·
    refine s_aload_n E dX9_apart_11 rfl rfl ?_
    refine s_gR (r := 2) E fg_X9_20 rfl rfl (jv_lt hJ (by decide)) (jv_r hJ (by decide +kernel)) dX9_apart_12 ?_
    refine s_iload_n E dX9_apart_15 rfl rfl ?_
    refine s_vI (As := [AI x2]) (S := []) E (Z_X0_hasLady_2 l D aC b w x2 hJ.1 ) cv_X9_139 rfl rfl rfl (jv_lt hJ (by decide)) (Nat.le_of_ble_eq_true rfl) (Nat.le_of_ble_eq_true rfl) ⟨(Nat.le_of_ble_eq_true rfl), (Nat.le_of_ble_eq_true rfl)⟩ (Nat.le_of_ble_eq_true rfl) dX9_apart_16 (fun z_8 u_6 hp_7 => ?_)
    obtain ⟨hz_8, hp_7⟩ := hp_7
    subst hp_7
    refine z_if_eq (tgt := 33) (u := z_8.toInt) E dX9_apart_19 (by decide) rfl (fun h_10 => ?_) (fun h_10 => ?_)
    ·
      refine s_bipush (v := (-2)) E dX9_apart_33 (by decide) ?_
      exact r_int E dX9_apart_35 ⟨⟨by decide, by decide, by first | (left; decide) | (right; decide) | (right; have hb_ := z32 x1; omega), by first | (left; decide) | (right; decide) | (right; have hb_ := z32 x2; omega), by first | (left; decide) | (right; decide) | (right; have hb_ := z32 x3; omega), by first | (left; decide) | (right; decide) | (right; have hb_ := z32 (w.2.2.1 5 3); omega), by first | (left; decide) | (right; decide) | (right; have hb_ := z32 (w.2.2.1 2 0); omega), by first | (left; decide) | (right; decide) | (right; have hb_ := z32 (w.2.2.1 69 6); omega)⟩, rfl⟩
    ·
      refine s_aload_n E dX9_apart_22 rfl rfl ?_
      refine s_gR (r := 2) E fg_X9_20 rfl rfl (jv_lt hJ (by decide)) (jv_r hJ (by decide +kernel)) dX9_apart_23 ?_
      refine s_iload_n E dX9_apart_26 rfl rfl ?_
      refine s_vI (As := [AI x3]) (S := []) E (Z_X0_hasDance_2 l D aC b w x3 hJ.1 ) cv_X9_153 rfl rfl rfl (jv_lt hJ (by decide)) (Nat.le_of_ble_eq_true rfl) (Nat.le_of_ble_eq_true rfl) ⟨(Nat.le_of_ble_eq_true rfl), (Nat.le_of_ble_eq_true rfl)⟩ (Nat.le_of_ble_eq_true rfl) dX9_apart_27 (fun z_13 u_11 hp_12 => ?_)
      obtain ⟨hz_13, hp_12⟩ := hp_12
      subst hp_12
      refine z_if_ne (tgt := 36) (u := z_13.toInt) E dX9_apart_30 (by decide) rfl (fun h_15 => ?_) (fun h_15 => ?_)
      ·
        refine s_aload_n E dX9_apart_36 rfl rfl ?_
        refine s_gR (r := 69) E fg_X9_54 rfl rfl (jv_lt hJ (by decide)) (jv_r hJ (by decide +kernel)) dX9_apart_37 ?_
        refine s_iload_n E dX9_apart_40 rfl rfl ?_
        refine s_aload_n E dX9_apart_41 rfl rfl ?_
        refine s_gR (r := 69) E fg_X9_54 rfl rfl (jv_lt hJ (by decide)) (jv_r hJ (by decide +kernel)) dX9_apart_42 ?_
        refine s_iload_n E dX9_apart_45 rfl rfl ?_
        refine s_iload_n E dX9_apart_46 rfl rfl ?_
        refine s_vI (As := [AI x1, AI x3]) (S := [AI x1, AR 69]) E (Z_X2_placeOf_69 l D aC b w x1 x3 hJ.1 ) cv_X9_159 rfl rfl rfl (jv_lt hJ (by decide)) (Nat.le_of_ble_eq_true rfl) (Nat.le_of_ble_eq_true rfl) ⟨(Nat.le_of_ble_eq_true rfl), (Nat.le_of_ble_eq_true rfl)⟩ (Nat.le_of_ble_eq_true rfl) dX9_apart_47 (fun z_18 u_16 hp_17 => ?_)
        obtain ⟨hz_18, hp_17⟩ := hp_17
        subst hp_17
        refine s_aload_n E dX9_apart_50 rfl rfl ?_
        refine s_gR (r := 69) E fg_X9_54 rfl rfl (jv_lt hJ (by decide)) (jv_r hJ (by decide +kernel)) dX9_apart_51 ?_
        refine s_iload_n E dX9_apart_54 rfl rfl ?_
        refine s_iload_n E dX9_apart_55 rfl rfl ?_
        refine s_vI (As := [AI x2, AI x3]) (S := [AI z_18, AI x1, AR 69]) E (Z_X2_placeOf_69 l D aC b w x2 x3 hJ.1 ) cv_X9_159 rfl rfl rfl (jv_lt hJ (by decide)) (Nat.le_of_ble_eq_true rfl) (Nat.le_of_ble_eq_true rfl) ⟨(Nat.le_of_ble_eq_true rfl), (Nat.le_of_ble_eq_true rfl)⟩ (Nat.le_of_ble_eq_true rfl) dX9_apart_56 (fun z_22 u_20 hp_21 => ?_)
        obtain ⟨hz_22, hp_21⟩ := hp_21
        subst hp_21
        refine s_vI (As := [AI x1, AI z_18, AI z_22]) (S := []) E (Z_X2_distance_69 l D aC b w x1 z_18 z_22 hJ.1 ) cv_X9_146 rfl rfl rfl (jv_lt hJ (by decide)) (Nat.le_of_ble_eq_true rfl) (Nat.le_of_ble_eq_true rfl) ⟨(Nat.le_of_ble_eq_true rfl), (Nat.le_of_ble_eq_true rfl)⟩ (Nat.le_of_ble_eq_true rfl) dX9_apart_59 (fun z_26 u_24 hp_25 => ?_)
        obtain ⟨hz_26, hp_25⟩ := hp_25
        subst hp_25
        exact r_int E dX9_apart_62 ⟨⟨by have hb_ := z32 z_26; omega, by have hb_ := z32 z_26; omega, by first | (right; decide) | (have hb_ := z32 z_26; omega) | (have hb_ := z32 z_26; have hc_ := z32 x1; omega), by first | (right; decide) | (have hb_ := z32 z_26; omega) | (have hb_ := z32 z_26; have hc_ := z32 x2; omega), by first | (right; decide) | (have hb_ := z32 z_26; omega) | (have hb_ := z32 z_26; have hc_ := z32 x3; omega), by first | (right; decide) | (have hb_ := z32 z_26; omega) | (have hb_ := z32 z_26; have hc_ := z32 (w.2.2.1 5 3); omega), by first | (right; decide) | (have hb_ := z32 z_26; omega) | (have hb_ := z32 z_26; have hc_ := z32 (w.2.2.1 2 0); omega), by first | (right; decide) | (have hb_ := z32 z_26; omega) | (have hb_ := z32 z_26; have hc_ := z32 (w.2.2.1 69 6); omega)⟩, rfl⟩
      ·
        refine s_bipush (v := (-2)) E dX9_apart_33 (by decide) ?_
        exact r_int E dX9_apart_35 ⟨⟨by decide, by decide, by first | (left; decide) | (right; decide) | (right; have hb_ := z32 x1; omega), by first | (left; decide) | (right; decide) | (right; have hb_ := z32 x2; omega), by first | (left; decide) | (right; decide) | (right; have hb_ := z32 x3; omega), by first | (left; decide) | (right; decide) | (right; have hb_ := z32 (w.2.2.1 5 3); omega), by first | (left; decide) | (right; decide) | (right; have hb_ := z32 (w.2.2.1 2 0); omega), by first | (left; decide) | (right; decide) | (right; have hb_ := z32 (w.2.2.1 69 6); omega)⟩, rfl⟩
set_option maxRecDepth 20000 in
set_option maxHeartbeats 2000000 in
theorem Z_X9_alone_0 (l : Launch) (D : va_G) (aC : Nat → ClassId) (b : Nat) (w : XW) (x1 : Int32) (hI : Iv w)  : CnI l D aC b M_X9_alone 2 44 0 0 [AR 0, AI x1] w (fun r u => ((-2147483648) ≤ r.toInt ∧ r.toInt ≤ 2147483647 ∧ (¬ r.toInt = 0 ∨ (0 ≤ x1.toInt ∧ x1.toInt ≤ 14)) ∧ (¬ r.toInt = 0 ∨ (1 ≤ (w.2.2.1 2 0).toInt ∧ (w.2.2.1 2 0).toInt ≤ 2147483647))) ∧ w = u) := by
  refine cn_I (own := RX9) (nm := "alone") (L0 := [some (AR 0), some (AI x1), none, none]) (by decide +kernel) rfl rfl (Nat.le_of_ble_eq_true rfl) rfl ?_
  intro p e s m args below meth c E hin
  have hJ : Jv w w := jv_rfl hI
  have hb_x1 := z32 x1
  refine s_aload_n E dX9_alone_0 rfl rfl ?_
  refine s_gR (r := 2) E fg_X9_20 rfl rfl (jv_lt hJ (by decide)) (jv_r hJ (by decide +kernel)) dX9_alone_1 ?_
  refine s_iload_n E dX9_alone_4 rfl rfl ?_
  refine s_vI (As := [AI x1]) (S := []) E (Z_X0_hasDance_2 l D aC b w x1 hJ.1 ) cv_X9_153 rfl rfl rfl (jv_lt hJ (by decide)) (Nat.le_of_ble_eq_true rfl) (Nat.le_of_ble_eq_true rfl) ⟨(Nat.le_of_ble_eq_true rfl), (Nat.le_of_ble_eq_true rfl)⟩ (Nat.le_of_ble_eq_true rfl) dX9_alone_5 (fun z_3 u_1 hp_2 => ?_)
  obtain ⟨hz_3, hp_2⟩ := hp_2
  subst hp_2
  refine z_if_ne (tgt := 14) (u := z_3.toInt) E dX9_alone_8 (by decide) rfl (fun h_5 => ?_) (fun h_5 => ?_)
  ·
    refine s_iconst (v := 0) E dX9_alone_14 (by decide) ?_
    refine s_istore_n (L2 := [some (AR 0), some (AI x1), some (AI 0), none]) E dX9_alone_15 rfl (by decide) rfl ?_
    refine s_iconst (v := 0) E dX9_alone_16 (by decide) ?_
    refine s_istore_n (L2 := [some (AR 0), some (AI x1), some (AI 0), some (AI 0)]) E dX9_alone_17 rfl (by decide) rfl ?_
    refine z_loop (St := Int32 × Int32) (Pi := fun ⟨q18_2_5, q18_3_5⟩ v18 => (0 ≤ q18_3_5.toInt ∧ q18_3_5.toInt ≤ 6) ∧ w = v18) (Lf := fun ⟨q18_2_5, q18_3_5⟩ => [some (AR 0), some (AI x1), some (AI q18_2_5), some (AI q18_3_5)]) (fun ⟨q18_2_5, q18_3_5⟩ _ => (7 - q18_3_5.toInt).toNat) ⟨0, 0⟩ ⟨⟨by decide, by decide⟩, rfl⟩ ?_
    rintro ⟨q18_2_5, q18_3_5⟩ v18 ⟨hq18_3, hv_⟩ ih18
    subst hv_
    have hbq18_2 := z32 q18_2_5
    refine s_loc (L2 := [some (AR 0), some (AI x1), some (AI q18_2_5), some (AI q18_3_5)]) rfl ?_
    refine s_iload_n E dX9_alone_18 rfl rfl ?_
    refine s_aload_n E dX9_alone_19 rfl rfl ?_
    refine s_gR (r := 2) E fg_X9_20 rfl rfl (jv_lt hJ (by decide)) (jv_r hJ (by decide +kernel)) dX9_alone_20 ?_
    refine s_gR (r := 5) E fg_X9_133 rfl rfl (jv_lt hJ (by decide)) (jv_r hJ (by decide +kernel)) dX9_alone_23 ?_
    refine s_gI E fg_X9_200 rfl rfl (jv_lt hJ (by decide)) dX9_alone_26 ?_
    refine z_nm (P := fun z => z.toInt = (w.2.2.1 5 3).toInt ∧ 0 ≤ z.toInt ∧ z.toInt ≤ 6) ⟨rfl, (rg_5_3 hJ)⟩ (fun z_7 hz_7 => ?_)
    refine z_icmp_ge (tgt := 59) (u := q18_3_5.toInt) (v := z_7.toInt) E dX9_alone_29 (by decide) rfl rfl (fun h_8 => ?_) (fun h_8 => ?_)
    ·
      refine s_iload_n E dX9_alone_59 rfl rfl ?_
      exact r_int E dX9_alone_60 ⟨⟨by have hb_ := z32 q18_2_5; omega, by have hb_ := z32 q18_2_5; omega, by first | (right; decide) | (have hb_ := z32 q18_2_5; omega) | (have hb_ := z32 q18_2_5; have hc_ := z32 x1; omega), by first | (right; decide) | (have hb_ := z32 q18_2_5; omega) | (have hb_ := z32 q18_2_5; have hc_ := z32 (w.2.2.1 2 0); omega)⟩, rfl⟩
    ·
      refine s_aload_n E dX9_alone_32 rfl rfl ?_
      refine s_gR (r := 69) E fg_X9_54 rfl rfl (jv_lt hJ (by decide)) (jv_r hJ (by decide +kernel)) dX9_alone_33 ?_
      refine s_iload_n E dX9_alone_36 rfl rfl ?_
      refine s_iload_n E dX9_alone_37 rfl rfl ?_
      refine s_vI (As := [AI q18_3_5, AI x1]) (S := []) E (Z_X2_companyOf_69 l D aC b w q18_3_5 x1 hJ.1 ) cv_X9_172 rfl rfl rfl (jv_lt hJ (by decide)) (Nat.le_of_ble_eq_true rfl) (Nat.le_of_ble_eq_true rfl) ⟨(Nat.le_of_ble_eq_true rfl), (Nat.le_of_ble_eq_true rfl)⟩ (Nat.le_of_ble_eq_true rfl) dX9_alone_38 (fun z_11 u_9 hp_10 => ?_)
      obtain ⟨hz_11, hp_10⟩ := hp_10
      subst hp_10
      refine s_iconst (v := 1) E dX9_alone_41 (by decide) ?_
      refine s_iload_n E dX9_alone_42 rfl rfl ?_
      refine z_shl1 5 (u := q18_3_5.toInt) (B := 32) E dX9_alone_43 rfl (by omega) (by omega) (by decide) (by decide) (fun z_13 hz_13 => ?_)
      refine z_icmp_ne (tgt := 53) (u := z_11.toInt) (v := z_13.toInt) E dX9_alone_44 (by decide) rfl rfl (fun h_14 => ?_) (fun h_14 => ?_)
      ·
        refine z_iinc (u := q18_3_5.toInt) (L2 := fun z_15 => [some (AR 0), some (AI x1), some (AI q18_2_5), some (AI z_15)]) E dX9_alone_53 rfl rfl (by decide) (fun _ => rfl) (by decide) (by omega) (by omega) (fun z_15 hz_15 => ?_)
        refine s_goto (tgt := 18) E dX9_alone_56 (by decide) ?_
        exact ih18 ⟨q18_2_5, z_15⟩ w ⟨⟨by have hb_ := z32 z_15; omega, by have hb_ := z32 z_15; omega⟩, rfl⟩ (by first | omega | decide | (dsimp only; omega) | (dsimp only; decide))
      ·
        refine s_iload_n E dX9_alone_47 rfl rfl ?_
        refine s_iconst (v := 1) E dX9_alone_48 (by decide) ?_
        refine s_iload_n E dX9_alone_49 rfl rfl ?_
        refine z_shl1 5 (u := q18_3_5.toInt) (B := 32) E dX9_alone_50 rfl (by omega) (by omega) (by decide) (by decide) (fun z_16 hz_16 => ?_)
        refine s_ior E dX9_alone_51 ?_
        refine z_nm (P := fun z => (-2147483648) ≤ z.toInt ∧ z.toInt ≤ 2147483647) (z32 _) (fun z_17 hz_17 => ?_)
        refine s_istore_n (L2 := [some (AR 0), some (AI x1), some (AI z_17), some (AI q18_3_5)]) E dX9_alone_52 rfl (by decide) rfl ?_
        refine z_iinc (u := q18_3_5.toInt) (L2 := fun z_18 => [some (AR 0), some (AI x1), some (AI z_17), some (AI z_18)]) E dX9_alone_53 rfl rfl (by decide) (fun _ => rfl) (by decide) (by omega) (by omega) (fun z_18 hz_18 => ?_)
        refine s_goto (tgt := 18) E dX9_alone_56 (by decide) ?_
        exact ih18 ⟨z_17, z_18⟩ w ⟨⟨by have hb_ := z32 z_18; omega, by have hb_ := z32 z_18; omega⟩, rfl⟩ (by first | omega | decide | (dsimp only; omega) | (dsimp only; decide))
  ·
    refine s_bipush (v := (-2)) E dX9_alone_11 (by decide) ?_
    exact r_int E dX9_alone_13 ⟨⟨by decide, by decide, by first | (left; decide) | (right; decide) | (right; have hb_ := z32 x1; omega), by first | (left; decide) | (right; decide) | (right; have hb_ := z32 (w.2.2.1 2 0); omega)⟩, rfl⟩
set_option maxRecDepth 20000 in
set_option maxHeartbeats 2000000 in
theorem Z_X9_empty_0 (l : Launch) (D : va_G) (aC : Nat → ClassId) (b : Nat) (w : XW) (x1 : Int32) (hI : Iv w)  : CnI l D aC b M_X9_empty 3 68 0 0 [AR 0, AI x1] w (fun r u => ((-2147483648) ≤ r.toInt ∧ r.toInt ≤ 2147483647 ∧ (¬ r.toInt = 0 ∨ (0 ≤ x1.toInt ∧ x1.toInt ≤ 14)) ∧ (¬ r.toInt = 0 ∨ (1 ≤ (w.2.2.1 2 0).toInt ∧ (w.2.2.1 2 0).toInt ≤ 2147483647))) ∧ w = u) := by
  refine cn_I (own := RX9) (nm := "empty") (L0 := [some (AR 0), some (AI x1), none, none]) (by decide +kernel) rfl rfl (Nat.le_of_ble_eq_true rfl) rfl ?_
  intro p e s m args below meth c E hin
  have hJ : Jv w w := jv_rfl hI
  have hb_x1 := z32 x1
  refine s_aload_n E dX9_empty_0 rfl rfl ?_
  refine s_gR (r := 2) E fg_X9_20 rfl rfl (jv_lt hJ (by decide)) (jv_r hJ (by decide +kernel)) dX9_empty_1 ?_
  refine s_iload_n E dX9_empty_4 rfl rfl ?_
  refine s_vI (As := [AI x1]) (S := []) E (Z_X0_hasDance_2 l D aC b w x1 hJ.1 ) cv_X9_153 rfl rfl rfl (jv_lt hJ (by decide)) (Nat.le_of_ble_eq_true rfl) (Nat.le_of_ble_eq_true rfl) ⟨(Nat.le_of_ble_eq_true rfl), (Nat.le_of_ble_eq_true rfl)⟩ (Nat.le_of_ble_eq_true rfl) dX9_empty_5 (fun z_3 u_1 hp_2 => ?_)
  obtain ⟨hz_3, hp_2⟩ := hp_2
  subst hp_2
  refine z_if_ne (tgt := 14) (u := z_3.toInt) E dX9_empty_8 (by decide) rfl (fun h_5 => ?_) (fun h_5 => ?_)
  ·
    refine s_iconst (v := 0) E dX9_empty_14 (by decide) ?_
    refine s_istore_n (L2 := [some (AR 0), some (AI x1), some (AI 0), none]) E dX9_empty_15 rfl (by decide) rfl ?_
    refine s_iconst (v := 0) E dX9_empty_16 (by decide) ?_
    refine s_istore_n (L2 := [some (AR 0), some (AI x1), some (AI 0), some (AI 0)]) E dX9_empty_17 rfl (by decide) rfl ?_
    refine z_loop (St := Int32 × Int32) (Pi := fun ⟨q18_2_5, q18_3_5⟩ v18 => (0 ≤ q18_3_5.toInt ∧ q18_3_5.toInt ≤ 8) ∧ w = v18) (Lf := fun ⟨q18_2_5, q18_3_5⟩ => [some (AR 0), some (AI x1), some (AI q18_2_5), some (AI q18_3_5)]) (fun ⟨q18_2_5, q18_3_5⟩ _ => (9 - q18_3_5.toInt).toNat) ⟨0, 0⟩ ⟨⟨by decide, by decide⟩, rfl⟩ ?_
    rintro ⟨q18_2_5, q18_3_5⟩ v18 ⟨hq18_3, hv_⟩ ih18
    subst hv_
    have hbq18_2 := z32 q18_2_5
    refine s_loc (L2 := [some (AR 0), some (AI x1), some (AI q18_2_5), some (AI q18_3_5)]) rfl ?_
    refine s_iload_n E dX9_empty_18 rfl rfl ?_
    refine s_aload_n E dX9_empty_19 rfl rfl ?_
    refine s_gR (r := 2) E fg_X9_20 rfl rfl (jv_lt hJ (by decide)) (jv_r hJ (by decide +kernel)) dX9_empty_20 ?_
    refine s_gI E fg_X9_208 rfl rfl (jv_lt hJ (by decide)) dX9_empty_23 ?_
    refine z_nm (P := fun z => z.toInt = (w.2.2.1 2 1).toInt ∧ 0 ≤ z.toInt ∧ z.toInt ≤ 8) ⟨rfl, (rg_2_1 hJ)⟩ (fun z_7 hz_7 => ?_)
    refine z_icmp_ge (tgt := 53) (u := q18_3_5.toInt) (v := z_7.toInt) E dX9_empty_26 (by decide) rfl rfl (fun h_8 => ?_) (fun h_8 => ?_)
    ·
      refine s_iload_n E dX9_empty_53 rfl rfl ?_
      exact r_int E dX9_empty_54 ⟨⟨by have hb_ := z32 q18_2_5; omega, by have hb_ := z32 q18_2_5; omega, by first | (right; decide) | (have hb_ := z32 q18_2_5; omega) | (have hb_ := z32 q18_2_5; have hc_ := z32 x1; omega), by first | (right; decide) | (have hb_ := z32 q18_2_5; omega) | (have hb_ := z32 q18_2_5; have hc_ := z32 (w.2.2.1 2 0); omega)⟩, rfl⟩
    ·
      refine s_aload_n E dX9_empty_29 rfl rfl ?_
      refine s_gR (r := 69) E fg_X9_54 rfl rfl (jv_lt hJ (by decide)) (jv_r hJ (by decide +kernel)) dX9_empty_30 ?_
      refine s_iload_n E dX9_empty_33 rfl rfl ?_
      refine s_iload_n E dX9_empty_34 rfl rfl ?_
      refine s_vI (As := [AI q18_3_5, AI x1]) (S := []) E (Z_X2_ladiesIn_69 l D aC b w q18_3_5 x1 hJ.1 ) cv_X9_162 rfl rfl rfl (jv_lt hJ (by decide)) (Nat.le_of_ble_eq_true rfl) (Nat.le_of_ble_eq_true rfl) ⟨(Nat.le_of_ble_eq_true rfl), (Nat.le_of_ble_eq_true rfl)⟩ (Nat.le_of_ble_eq_true rfl) dX9_empty_35 (fun z_11 u_9 hp_10 => ?_)
      obtain ⟨hz_11, hp_10⟩ := hp_10
      subst hp_10
      refine z_if_ne (tgt := 47) (u := z_11.toInt) E dX9_empty_38 (by decide) rfl (fun h_13 => ?_) (fun h_13 => ?_)
      ·
        refine z_iinc (u := q18_3_5.toInt) (L2 := fun z_14 => [some (AR 0), some (AI x1), some (AI q18_2_5), some (AI z_14)]) E dX9_empty_47 rfl rfl (by decide) (fun _ => rfl) (by decide) (by omega) (by omega) (fun z_14 hz_14 => ?_)
        refine s_goto (tgt := 18) E dX9_empty_50 (by decide) ?_
        exact ih18 ⟨q18_2_5, z_14⟩ w ⟨⟨by have hb_ := z32 z_14; omega, by have hb_ := z32 z_14; omega⟩, rfl⟩ (by first | omega | decide | (dsimp only; omega) | (dsimp only; decide))
      ·
        refine s_iload_n E dX9_empty_41 rfl rfl ?_
        refine s_iconst (v := 1) E dX9_empty_42 (by decide) ?_
        refine s_iload_n E dX9_empty_43 rfl rfl ?_
        refine z_shl1 7 (u := q18_3_5.toInt) (B := 128) E dX9_empty_44 rfl (by omega) (by omega) (by decide) (by decide) (fun z_15 hz_15 => ?_)
        refine s_ior E dX9_empty_45 ?_
        refine z_nm (P := fun z => (-2147483648) ≤ z.toInt ∧ z.toInt ≤ 2147483647) (z32 _) (fun z_16 hz_16 => ?_)
        refine s_istore_n (L2 := [some (AR 0), some (AI x1), some (AI z_16), some (AI q18_3_5)]) E dX9_empty_46 rfl (by decide) rfl ?_
        refine z_iinc (u := q18_3_5.toInt) (L2 := fun z_17 => [some (AR 0), some (AI x1), some (AI z_16), some (AI z_17)]) E dX9_empty_47 rfl rfl (by decide) (fun _ => rfl) (by decide) (by omega) (by omega) (fun z_17 hz_17 => ?_)
        refine s_goto (tgt := 18) E dX9_empty_50 (by decide) ?_
        exact ih18 ⟨z_16, z_17⟩ w ⟨⟨by have hb_ := z32 z_17; omega, by have hb_ := z32 z_17; omega⟩, rfl⟩ (by first | omega | decide | (dsimp only; omega) | (dsimp only; decide))
  ·
    refine s_bipush (v := (-2)) E dX9_empty_11 (by decide) ?_
    exact r_int E dX9_empty_13 ⟨⟨by decide, by decide, by first | (left; decide) | (right; decide) | (right; have hb_ := z32 x1; omega), by first | (left; decide) | (right; decide) | (right; have hb_ := z32 (w.2.2.1 2 0); omega)⟩, rfl⟩
set_option maxRecDepth 20000 in
set_option maxHeartbeats 2000000 in
theorem Z_X9_late_0 (l : Launch) (D : va_G) (aC : Nat → ClassId) (b : Nat) (w : XW) (x1 : Int32) (hI : Iv w)  : CnI l D aC b M_X9_late 2 44 0 0 [AR 0, AI x1] w (fun r u => ((-2) ≤ r.toInt ∧ r.toInt ≤ 14) ∧ w = u) := by
  refine cn_I (own := RX9) (nm := "late") (L0 := [some (AR 0), some (AI x1), none]) (by decide +kernel) rfl rfl (Nat.le_of_ble_eq_true rfl) rfl ?_
  intro p e s m args below meth c E hin
  have hJ : Jv w w := jv_rfl hI
  have hb_x1 := z32 x1
  refine s_aload_n E dX9_late_0 rfl rfl ?_
  refine s_gR (r := 2) E fg_X9_20 rfl rfl (jv_lt hJ (by decide)) (jv_r hJ (by decide +kernel)) dX9_late_1 ?_
  refine s_iload_n E dX9_late_4 rfl rfl ?_
  refine s_vI (As := [AI x1]) (S := []) E (Z_X0_hasLady_2 l D aC b w x1 hJ.1 ) cv_X9_139 rfl rfl rfl (jv_lt hJ (by decide)) (Nat.le_of_ble_eq_true rfl) (Nat.le_of_ble_eq_true rfl) ⟨(Nat.le_of_ble_eq_true rfl), (Nat.le_of_ble_eq_true rfl)⟩ (Nat.le_of_ble_eq_true rfl) dX9_late_5 (fun z_3 u_1 hp_2 => ?_)
  obtain ⟨hz_3, hp_2⟩ := hp_2
  subst hp_2
  refine z_if_ne (tgt := 14) (u := z_3.toInt) E dX9_late_8 (by decide) rfl (fun h_5 => ?_) (fun h_5 => ?_)
  ·
    refine s_aload_n E dX9_late_14 rfl rfl ?_
    refine s_gR (r := 2) E fg_X9_20 rfl rfl (jv_lt hJ (by decide)) (jv_r hJ (by decide +kernel)) dX9_late_15 ?_
    refine s_gI E fg_X9_169 rfl rfl (jv_lt hJ (by decide)) dX9_late_18 ?_
    refine z_nm (P := fun z => z.toInt = (w.2.2.1 2 2).toInt ∧ 0 ≤ z.toInt ∧ z.toInt ≤ 14) ⟨rfl, (rg_2_2 hJ)⟩ (fun z_6 hz_6 => ?_)
    refine s_istore_n (L2 := [some (AR 0), some (AI x1), some (AI z_6)]) E dX9_late_21 rfl (by decide) rfl ?_
    refine z_loop (St := Int32) (Pi := fun q22_2_6 v22 => (0 ≤ q22_2_6.toInt ∧ q22_2_6.toInt ≤ 14) ∧ w = v22) (Lf := fun q22_2_6 => [some (AR 0), some (AI x1), some (AI q22_2_6)]) (fun q22_2_6 _ => (q22_2_6.toInt - 0).toNat) z_6 ⟨⟨by have hb_ := z32 z_6; omega, by have hb_ := z32 z_6; omega⟩, rfl⟩ ?_
    rintro q22_2_6 v22 ⟨hq22_2, hv_⟩ ih22
    subst hv_
    refine s_loc (L2 := [some (AR 0), some (AI x1), some (AI q22_2_6)]) rfl ?_
    refine s_iload_n E dX9_late_22 rfl rfl ?_
    refine z_if_le (tgt := 57) (u := q22_2_6.toInt) E dX9_late_23 (by decide) rfl (fun h_8 => ?_) (fun h_8 => ?_)
    ·
      refine s_iconst (v := (-1)) E dX9_late_57 (by decide) ?_
      exact r_int E dX9_late_58 ⟨(by decide), rfl⟩
    ·
      refine s_aload_n E dX9_late_26 rfl rfl ?_
      refine s_gR (r := 69) E fg_X9_54 rfl rfl (jv_lt hJ (by decide)) (jv_r hJ (by decide +kernel)) dX9_late_27 ?_
      refine s_iload_n E dX9_late_30 rfl rfl ?_
      refine s_iload_n E dX9_late_31 rfl rfl ?_
      refine s_vI (As := [AI x1, AI q22_2_6]) (S := []) E (Z_X2_placeOf_69 l D aC b w x1 q22_2_6 hJ.1 ) cv_X9_159 rfl rfl rfl (jv_lt hJ (by decide)) (Nat.le_of_ble_eq_true rfl) (Nat.le_of_ble_eq_true rfl) ⟨(Nat.le_of_ble_eq_true rfl), (Nat.le_of_ble_eq_true rfl)⟩ (Nat.le_of_ble_eq_true rfl) dX9_late_32 (fun z_11 u_9 hp_10 => ?_)
      obtain ⟨hz_11, hp_10⟩ := hp_10
      subst hp_10
      refine s_aload_n E dX9_late_35 rfl rfl ?_
      refine s_gR (r := 69) E fg_X9_54 rfl rfl (jv_lt hJ (by decide)) (jv_r hJ (by decide +kernel)) dX9_late_36 ?_
      refine s_iload_n E dX9_late_39 rfl rfl ?_
      refine s_iload_n E dX9_late_40 rfl rfl ?_
      refine s_iconst (v := 1) E dX9_late_41 (by decide) ?_
      refine z_isub (u := q22_2_6.toInt) (v := 1) E dX9_late_42 rfl (by decide) (by omega) (by omega) (fun z_13 hz_13 => ?_)
      refine s_vI (As := [AI x1, AI z_13]) (S := [AI z_11]) E (Z_X2_placeOf_69 l D aC b w x1 z_13 hJ.1 ) cv_X9_159 rfl rfl rfl (jv_lt hJ (by decide)) (Nat.le_of_ble_eq_true rfl) (Nat.le_of_ble_eq_true rfl) ⟨(Nat.le_of_ble_eq_true rfl), (Nat.le_of_ble_eq_true rfl)⟩ (Nat.le_of_ble_eq_true rfl) dX9_late_43 (fun z_16 u_14 hp_15 => ?_)
      obtain ⟨hz_16, hp_15⟩ := hp_15
      subst hp_15
      refine z_icmp_eq (tgt := 51) (u := z_11.toInt) (v := z_16.toInt) E dX9_late_46 (by decide) rfl rfl (fun h_18 => ?_) (fun h_18 => ?_)
      ·
        refine z_iinc (u := q22_2_6.toInt) (L2 := fun z_19 => [some (AR 0), some (AI x1), some (AI z_19)]) E dX9_late_51 rfl rfl (by decide) (fun _ => rfl) (by decide) (by omega) (by omega) (fun z_19 hz_19 => ?_)
        refine s_goto (tgt := 22) E dX9_late_54 (by decide) ?_
        exact ih22 z_19 w ⟨⟨by have hb_ := z32 z_19; omega, by have hb_ := z32 z_19; omega⟩, rfl⟩ (by first | omega | decide | (dsimp only; omega) | (dsimp only; decide))
      ·
        refine s_iload_n E dX9_late_49 rfl rfl ?_
        exact r_int E dX9_late_50 ⟨⟨by have hb_ := z32 q22_2_6; omega, by have hb_ := z32 q22_2_6; omega⟩, rfl⟩
  ·
    refine s_bipush (v := (-2)) E dX9_late_11 (by decide) ?_
    exact r_int E dX9_late_13 ⟨(by decide), rfl⟩
set_option maxRecDepth 20000 in
set_option maxHeartbeats 2000000 in
theorem Z_X9_waits_0 (l : Launch) (D : va_G) (aC : Nat → ClassId) (b : Nat) (w : XW) (x1 : Int32) (hI : Iv w)  : CnI l D aC b M_X9_waits 2 44 0 0 [AR 0, AI x1] w (fun r u => ((-2147483648) ≤ r.toInt ∧ r.toInt ≤ 2147483647 ∧ (¬ r.toInt = 0 ∨ (0 ≤ x1.toInt ∧ x1.toInt ≤ 5)) ∧ (¬ r.toInt = 0 ∨ (1 ≤ (w.2.2.1 5 3).toInt ∧ (w.2.2.1 5 3).toInt ≤ 6))) ∧ w = u) := by
  refine cn_I (own := RX9) (nm := "waits") (L0 := [some (AR 0), some (AI x1), none, none, none, none]) (by decide +kernel) rfl rfl (Nat.le_of_ble_eq_true rfl) rfl ?_
  intro p e s m args below meth c E hin
  have hJ : Jv w w := jv_rfl hI
  have hb_x1 := z32 x1
  refine s_aload_n E dX9_waits_0 rfl rfl ?_
  refine s_gR (r := 2) E fg_X9_20 rfl rfl (jv_lt hJ (by decide)) (jv_r hJ (by decide +kernel)) dX9_waits_1 ?_
  refine s_iload_n E dX9_waits_4 rfl rfl ?_
  refine s_vI (As := [AI x1]) (S := []) E (Z_X0_hasLady_2 l D aC b w x1 hJ.1 ) cv_X9_139 rfl rfl rfl (jv_lt hJ (by decide)) (Nat.le_of_ble_eq_true rfl) (Nat.le_of_ble_eq_true rfl) ⟨(Nat.le_of_ble_eq_true rfl), (Nat.le_of_ble_eq_true rfl)⟩ (Nat.le_of_ble_eq_true rfl) dX9_waits_5 (fun z_3 u_1 hp_2 => ?_)
  obtain ⟨hz_3, hp_2⟩ := hp_2
  subst hp_2
  refine z_if_ne (tgt := 14) (u := z_3.toInt) E dX9_waits_8 (by decide) rfl (fun h_5 => ?_) (fun h_5 => ?_)
  ·
    refine s_iconst (v := 0) E dX9_waits_14 (by decide) ?_
    refine s_istore_n (L2 := [some (AR 0), some (AI x1), some (AI 0), none, none, none]) E dX9_waits_15 rfl (by decide) rfl ?_
    refine s_iconst (v := 0) E dX9_waits_16 (by decide) ?_
    refine s_istore_n (L2 := [some (AR 0), some (AI x1), some (AI 0), some (AI 0), none, none]) E dX9_waits_17 rfl (by decide) rfl ?_
    refine z_loop (St := Int32 × Int32) (Pi := fun ⟨q18_2_5, q18_3_5⟩ v18 => (0 ≤ q18_3_5.toInt ∧ q18_3_5.toInt ≤ 14) ∧ w = v18) (Lf := fun ⟨q18_2_5, q18_3_5⟩ => [some (AR 0), some (AI x1), some (AI q18_2_5), some (AI q18_3_5), none, none]) (fun ⟨q18_2_5, q18_3_5⟩ _ => (15 - q18_3_5.toInt).toNat) ⟨0, 0⟩ ⟨⟨by decide, by decide⟩, rfl⟩ ?_
    rintro ⟨q18_2_5, q18_3_5⟩ v18 ⟨hq18_3, hv_⟩ ih18
    subst hv_
    have hbq18_2 := z32 q18_2_5
    refine s_loc (L2 := [some (AR 0), some (AI x1), some (AI q18_2_5), some (AI q18_3_5), none, none]) rfl ?_
    refine s_iload_n E dX9_waits_18 rfl rfl ?_
    refine s_aload_n E dX9_waits_19 rfl rfl ?_
    refine s_gR (r := 2) E fg_X9_20 rfl rfl (jv_lt hJ (by decide)) (jv_r hJ (by decide +kernel)) dX9_waits_20 ?_
    refine s_gI E fg_X9_169 rfl rfl (jv_lt hJ (by decide)) dX9_waits_23 ?_
    refine z_nm (P := fun z => z.toInt = (w.2.2.1 2 2).toInt ∧ 0 ≤ z.toInt ∧ z.toInt ≤ 14) ⟨rfl, (rg_2_2 hJ)⟩ (fun z_7 hz_7 => ?_)
    refine z_icmp_ge (tgt := 89) (u := q18_3_5.toInt) (v := z_7.toInt) E dX9_waits_26 (by decide) rfl rfl (fun h_8 => ?_) (fun h_8 => ?_)
    ·
      refine s_iload_n E dX9_waits_89 rfl rfl ?_
      exact r_int E dX9_waits_90 ⟨⟨by have hb_ := z32 q18_2_5; omega, by have hb_ := z32 q18_2_5; omega, by first | (right; decide) | (have hb_ := z32 q18_2_5; omega) | (have hb_ := z32 q18_2_5; have hc_ := z32 x1; omega), by first | (right; decide) | (have hb_ := z32 q18_2_5; omega) | (have hb_ := z32 q18_2_5; have hc_ := z32 (w.2.2.1 5 3); omega)⟩, rfl⟩
    ·
      refine s_aload_n E dX9_waits_29 rfl rfl ?_
      refine s_gR (r := 69) E fg_X9_54 rfl rfl (jv_lt hJ (by decide)) (jv_r hJ (by decide +kernel)) dX9_waits_30 ?_
      refine s_iload_n E dX9_waits_33 rfl rfl ?_
      refine s_iload_n E dX9_waits_34 rfl rfl ?_
      refine s_vI (As := [AI x1, AI q18_3_5]) (S := []) E (Z_X2_placeOf_69 l D aC b w x1 q18_3_5 hJ.1 ) cv_X9_159 rfl rfl rfl (jv_lt hJ (by decide)) (Nat.le_of_ble_eq_true rfl) (Nat.le_of_ble_eq_true rfl) ⟨(Nat.le_of_ble_eq_true rfl), (Nat.le_of_ble_eq_true rfl)⟩ (Nat.le_of_ble_eq_true rfl) dX9_waits_35 (fun z_11 u_9 hp_10 => ?_)
      obtain ⟨hz_11, hp_10⟩ := hp_10
      subst hp_10
      refine s_istore (L2 := [some (AR 0), some (AI x1), some (AI q18_2_5), some (AI q18_3_5), some (AI z_11), none]) E dX9_waits_38 (by decide) rfl ?_
      refine s_aload_n E dX9_waits_40 rfl rfl ?_
      refine s_gR (r := 69) E fg_X9_54 rfl rfl (jv_lt hJ (by decide)) (jv_r hJ (by decide +kernel)) dX9_waits_41 ?_
      refine s_iload_n E dX9_waits_44 rfl rfl ?_
      refine s_iload_n E dX9_waits_45 rfl rfl ?_
      refine s_vI (As := [AI x1, AI q18_3_5]) (S := []) E (Z_X2_goalOf_69 l D aC b w x1 q18_3_5 hJ.1 ) cv_X9_156 rfl rfl rfl (jv_lt hJ (by decide)) (Nat.le_of_ble_eq_true rfl) (Nat.le_of_ble_eq_true rfl) ⟨(Nat.le_of_ble_eq_true rfl), (Nat.le_of_ble_eq_true rfl)⟩ (Nat.le_of_ble_eq_true rfl) dX9_waits_46 (fun z_15 u_13 hp_14 => ?_)
      obtain ⟨hz_15, hp_14⟩ := hp_14
      subst hp_14
      refine s_istore (L2 := [some (AR 0), some (AI x1), some (AI q18_2_5), some (AI q18_3_5), some (AI z_11), some (AI z_15)]) E dX9_waits_49 (by decide) rfl ?_
      refine s_iload E dX9_waits_51 rfl ?_
      refine s_iconst (v := (-1)) E dX9_waits_53 (by decide) ?_
      refine z_icmp_eq (tgt := 83) (u := z_15.toInt) (v := (-1)) E dX9_waits_54 (by decide) rfl (by decide) (fun h_17 => ?_) (fun h_17 => ?_)
      ·
        refine z_iinc (u := q18_3_5.toInt) (L2 := fun z_18 => [some (AR 0), some (AI x1), some (AI q18_2_5), some (AI z_18), some (AI z_11), some (AI z_15)]) E dX9_waits_83 rfl rfl (by decide) (fun _ => rfl) (by decide) (by omega) (by omega) (fun z_18 hz_18 => ?_)
        refine s_goto (tgt := 18) E dX9_waits_86 (by decide) ?_
        refine s_drop (i := 4) (L2 := [some (AR 0), some (AI x1), some (AI q18_2_5), some (AI z_18), none, some (AI z_15)]) rfl ?_
        refine s_drop (i := 5) (L2 := [some (AR 0), some (AI x1), some (AI q18_2_5), some (AI z_18), none, none]) rfl ?_
        exact ih18 ⟨q18_2_5, z_18⟩ w ⟨⟨by have hb_ := z32 z_18; omega, by have hb_ := z32 z_18; omega⟩, rfl⟩ (by first | omega | decide | (dsimp only; omega) | (dsimp only; decide))
      ·
        refine s_iload E dX9_waits_57 rfl ?_
        refine s_iload E dX9_waits_59 rfl ?_
        refine z_icmp_eq (tgt := 83) (u := z_15.toInt) (v := z_11.toInt) E dX9_waits_61 (by decide) rfl rfl (fun h_19 => ?_) (fun h_19 => ?_)
        ·
          refine z_iinc (u := q18_3_5.toInt) (L2 := fun z_20 => [some (AR 0), some (AI x1), some (AI q18_2_5), some (AI z_20), some (AI z_11), some (AI z_15)]) E dX9_waits_83 rfl rfl (by decide) (fun _ => rfl) (by decide) (by omega) (by omega) (fun z_20 hz_20 => ?_)
          refine s_goto (tgt := 18) E dX9_waits_86 (by decide) ?_
          refine s_drop (i := 4) (L2 := [some (AR 0), some (AI x1), some (AI q18_2_5), some (AI z_20), none, some (AI z_15)]) rfl ?_
          refine s_drop (i := 5) (L2 := [some (AR 0), some (AI x1), some (AI q18_2_5), some (AI z_20), none, none]) rfl ?_
          exact ih18 ⟨q18_2_5, z_20⟩ w ⟨⟨by have hb_ := z32 z_20; omega, by have hb_ := z32 z_20; omega⟩, rfl⟩ (by first | omega | decide | (dsimp only; omega) | (dsimp only; decide))
        ·
          refine s_aload_n E dX9_waits_64 rfl rfl ?_
          refine s_gR (r := 69) E fg_X9_54 rfl rfl (jv_lt hJ (by decide)) (jv_r hJ (by decide +kernel)) dX9_waits_65 ?_
          refine s_iload_n E dX9_waits_68 rfl rfl ?_
          refine s_iload_n E dX9_waits_69 rfl rfl ?_
          refine s_iconst (v := 1) E dX9_waits_70 (by decide) ?_
          refine z_iadd (u := q18_3_5.toInt) (v := 1) E dX9_waits_71 rfl (by decide) (by omega) (by omega) (fun z_21 hz_21 => ?_)
          refine s_vI (As := [AI x1, AI z_21]) (S := []) E (Z_X2_placeOf_69 l D aC b w x1 z_21 hJ.1 ) cv_X9_159 rfl rfl rfl (jv_lt hJ (by decide)) (Nat.le_of_ble_eq_true rfl) (Nat.le_of_ble_eq_true rfl) ⟨(Nat.le_of_ble_eq_true rfl), (Nat.le_of_ble_eq_true rfl)⟩ (Nat.le_of_ble_eq_true rfl) dX9_waits_72 (fun z_24 u_22 hp_23 => ?_)
          obtain ⟨hz_24, hp_23⟩ := hp_23
          subst hp_23
          refine s_iload E dX9_waits_75 rfl ?_
          refine z_icmp_ne (tgt := 83) (u := z_24.toInt) (v := z_11.toInt) E dX9_waits_77 (by decide) rfl rfl (fun h_26 => ?_) (fun h_26 => ?_)
          ·
            refine z_iinc (u := q18_3_5.toInt) (L2 := fun z_27 => [some (AR 0), some (AI x1), some (AI q18_2_5), some (AI z_27), some (AI z_11), some (AI z_15)]) E dX9_waits_83 rfl rfl (by decide) (fun _ => rfl) (by decide) (by omega) (by omega) (fun z_27 hz_27 => ?_)
            refine s_goto (tgt := 18) E dX9_waits_86 (by decide) ?_
            refine s_drop (i := 4) (L2 := [some (AR 0), some (AI x1), some (AI q18_2_5), some (AI z_27), none, some (AI z_15)]) rfl ?_
            refine s_drop (i := 5) (L2 := [some (AR 0), some (AI x1), some (AI q18_2_5), some (AI z_27), none, none]) rfl ?_
            exact ih18 ⟨q18_2_5, z_27⟩ w ⟨⟨by have hb_ := z32 z_27; omega, by have hb_ := z32 z_27; omega⟩, rfl⟩ (by first | omega | decide | (dsimp only; omega) | (dsimp only; decide))
          ·
            refine z_iincW (L2 := fun z_28 => [some (AR 0), some (AI x1), some (AI z_28), some (AI q18_3_5), some (AI z_11), some (AI z_15)]) E dX9_waits_80 rfl (by decide) (fun _ => rfl) (fun z_28 => ?_)
            refine z_iinc (u := q18_3_5.toInt) (L2 := fun z_29 => [some (AR 0), some (AI x1), some (AI z_28), some (AI z_29), some (AI z_11), some (AI z_15)]) E dX9_waits_83 rfl rfl (by decide) (fun _ => rfl) (by decide) (by omega) (by omega) (fun z_29 hz_29 => ?_)
            refine s_goto (tgt := 18) E dX9_waits_86 (by decide) ?_
            refine s_drop (i := 4) (L2 := [some (AR 0), some (AI x1), some (AI z_28), some (AI z_29), none, some (AI z_15)]) rfl ?_
            refine s_drop (i := 5) (L2 := [some (AR 0), some (AI x1), some (AI z_28), some (AI z_29), none, none]) rfl ?_
            exact ih18 ⟨z_28, z_29⟩ w ⟨⟨by have hb_ := z32 z_29; omega, by have hb_ := z32 z_29; omega⟩, rfl⟩ (by first | omega | decide | (dsimp only; omega) | (dsimp only; decide))
  ·
    refine s_bipush (v := (-2)) E dX9_waits_11 (by decide) ?_
    exact r_int E dX9_waits_13 ⟨⟨by decide, by decide, by first | (left; decide) | (right; decide) | (right; have hb_ := z32 x1; omega), by first | (left; decide) | (right; decide) | (right; have hb_ := z32 (w.2.2.1 5 3); omega)⟩, rfl⟩
set_option maxRecDepth 20000 in
set_option maxHeartbeats 2000000 in
theorem Z_X9_mate_0 (l : Launch) (D : va_G) (aC : Nat → ClassId) (b : Nat) (w : XW) (x1 : Int32) (hI : Iv w)  : CnI l D aC b M_X9_mate 3 68 0 0 [AR 0, AI x1] w (fun r u => ((-2) ≤ r.toInt ∧ r.toInt ≤ 64 ∧ (¬ r.toInt = 0 ∨ (0 ≤ x1.toInt ∧ x1.toInt ≤ 5)) ∧ (¬ r.toInt = 0 ∨ (1 ≤ (w.2.2.1 5 3).toInt ∧ (w.2.2.1 5 3).toInt ≤ 6))) ∧ w = u) := by
  refine cn_I (own := RX9) (nm := "mate") (L0 := [some (AR 0), some (AI x1), none, none, none, none]) (by decide +kernel) rfl rfl (Nat.le_of_ble_eq_true rfl) rfl ?_
  intro p e s m args below meth c E hin
  have hJ : Jv w w := jv_rfl hI
  have hb_x1 := z32 x1
  refine s_aload_n E dX9_mate_0 rfl rfl ?_
  refine s_gR (r := 2) E fg_X9_20 rfl rfl (jv_lt hJ (by decide)) (jv_r hJ (by decide +kernel)) dX9_mate_1 ?_
  refine s_iload_n E dX9_mate_4 rfl rfl ?_
  refine s_vI (As := [AI x1]) (S := []) E (Z_X0_hasLady_2 l D aC b w x1 hJ.1 ) cv_X9_139 rfl rfl rfl (jv_lt hJ (by decide)) (Nat.le_of_ble_eq_true rfl) (Nat.le_of_ble_eq_true rfl) ⟨(Nat.le_of_ble_eq_true rfl), (Nat.le_of_ble_eq_true rfl)⟩ (Nat.le_of_ble_eq_true rfl) dX9_mate_5 (fun z_3 u_1 hp_2 => ?_)
  obtain ⟨hz_3, hp_2⟩ := hp_2
  subst hp_2
  refine z_if_ne (tgt := 14) (u := z_3.toInt) E dX9_mate_8 (by decide) rfl (fun h_5 => ?_) (fun h_5 => ?_)
  ·
    refine s_iconst (v := (-1)) E dX9_mate_14 (by decide) ?_
    refine s_istore_n (L2 := [some (AR 0), some (AI x1), some (AI (-1)), none, none, none]) E dX9_mate_15 rfl (by decide) rfl ?_
    refine s_iconst (v := 0) E dX9_mate_16 (by decide) ?_
    refine s_istore_n (L2 := [some (AR 0), some (AI x1), some (AI (-1)), some (AI 0), none, none]) E dX9_mate_17 rfl (by decide) rfl ?_
    refine s_iconst (v := 0) E dX9_mate_18 (by decide) ?_
    refine s_istore (L2 := [some (AR 0), some (AI x1), some (AI (-1)), some (AI 0), some (AI 0), none]) E dX9_mate_19 (by decide) rfl ?_
    refine z_loop (St := Int32 × Int32 × Int32) (Pi := fun ⟨q21_2_5, q21_3_5, q21_4_5⟩ v21 => ((-1) ≤ q21_2_5.toInt ∧ q21_2_5.toInt ≤ 64) ∧ (0 ≤ q21_3_5.toInt ∧ q21_3_5.toInt ≤ 2147483647) ∧ (0 ≤ q21_4_5.toInt ∧ q21_4_5.toInt ≤ 6) ∧ w = v21) (Lf := fun ⟨q21_2_5, q21_3_5, q21_4_5⟩ => [some (AR 0), some (AI x1), some (AI q21_2_5), some (AI q21_3_5), some (AI q21_4_5), none]) (fun ⟨q21_2_5, q21_3_5, q21_4_5⟩ _ => (7 - q21_4_5.toInt).toNat) ⟨(-1), 0, 0⟩ ⟨⟨by decide, by decide⟩, ⟨by decide, by decide⟩, ⟨by decide, by decide⟩, rfl⟩ ?_
    rintro ⟨q21_2_5, q21_3_5, q21_4_5⟩ v21 ⟨hq21_2, hq21_3, hq21_4, hv_⟩ ih21
    subst hv_
    refine s_loc (L2 := [some (AR 0), some (AI x1), some (AI q21_2_5), some (AI q21_3_5), some (AI q21_4_5), none]) rfl ?_
    refine s_iload E dX9_mate_21 rfl ?_
    refine s_aload_n E dX9_mate_23 rfl rfl ?_
    refine s_gR (r := 2) E fg_X9_20 rfl rfl (jv_lt hJ (by decide)) (jv_r hJ (by decide +kernel)) dX9_mate_24 ?_
    refine s_gR (r := 5) E fg_X9_133 rfl rfl (jv_lt hJ (by decide)) (jv_r hJ (by decide +kernel)) dX9_mate_27 ?_
    refine s_gI E fg_X9_200 rfl rfl (jv_lt hJ (by decide)) dX9_mate_30 ?_
    refine z_nm (P := fun z => z.toInt = (w.2.2.1 5 3).toInt ∧ 0 ≤ z.toInt ∧ z.toInt ≤ 6) ⟨rfl, (rg_5_3 hJ)⟩ (fun z_7 hz_7 => ?_)
    refine z_icmp_ge (tgt := 76) (u := q21_4_5.toInt) (v := z_7.toInt) E dX9_mate_33 (by decide) rfl rfl (fun h_8 => ?_) (fun h_8 => ?_)
    ·
      refine s_iload_n E dX9_mate_76 rfl rfl ?_
      exact r_int E dX9_mate_77 ⟨⟨by have hb_ := z32 q21_2_5; omega, by have hb_ := z32 q21_2_5; omega, by first | (right; decide) | (have hb_ := z32 q21_2_5; omega) | (have hb_ := z32 q21_2_5; have hc_ := z32 x1; omega), by first | (right; decide) | (have hb_ := z32 q21_2_5; omega) | (have hb_ := z32 q21_2_5; have hc_ := z32 (w.2.2.1 5 3); omega)⟩, rfl⟩
    ·
      refine s_iload E dX9_mate_36 rfl ?_
      refine s_iload_n E dX9_mate_38 rfl rfl ?_
      refine z_icmp_ne (tgt := 46) (u := q21_4_5.toInt) (v := x1.toInt) E dX9_mate_39 (by decide) rfl rfl (fun h_9 => ?_) (fun h_9 => ?_)
      ·
        refine s_aload_n E dX9_mate_46 rfl rfl ?_
        refine s_gR (r := 69) E fg_X9_54 rfl rfl (jv_lt hJ (by decide)) (jv_r hJ (by decide +kernel)) dX9_mate_47 ?_
        refine s_iload_n E dX9_mate_50 rfl rfl ?_
        refine s_iload E dX9_mate_51 rfl ?_
        refine s_vI (As := [AI x1, AI q21_4_5]) (S := []) E (Z_X2_meetingsOf_69 l D aC b w x1 q21_4_5 hJ.1 ) cv_X9_178 rfl rfl rfl (jv_lt hJ (by decide)) (Nat.le_of_ble_eq_true rfl) (Nat.le_of_ble_eq_true rfl) ⟨(Nat.le_of_ble_eq_true rfl), (Nat.le_of_ble_eq_true rfl)⟩ (Nat.le_of_ble_eq_true rfl) dX9_mate_53 (fun z_12 u_10 hp_11 => ?_)
        obtain ⟨hz_12, hp_11⟩ := hp_11
        subst hp_11
        refine s_istore (L2 := [some (AR 0), some (AI x1), some (AI q21_2_5), some (AI q21_3_5), some (AI q21_4_5), some (AI z_12)]) E dX9_mate_56 (by decide) rfl ?_
        refine s_iload E dX9_mate_58 rfl ?_
        refine s_iload_n E dX9_mate_60 rfl rfl ?_
        refine z_icmp_le (tgt := 70) (u := z_12.toInt) (v := q21_3_5.toInt) E dX9_mate_61 (by decide) rfl rfl (fun h_14 => ?_) (fun h_14 => ?_)
        ·
          refine z_iinc (u := q21_4_5.toInt) (L2 := fun z_15 => [some (AR 0), some (AI x1), some (AI q21_2_5), some (AI q21_3_5), some (AI z_15), some (AI z_12)]) E dX9_mate_70 rfl rfl (by decide) (fun _ => rfl) (by decide) (by omega) (by omega) (fun z_15 hz_15 => ?_)
          refine s_goto (tgt := 21) E dX9_mate_73 (by decide) ?_
          refine s_drop (i := 5) (L2 := [some (AR 0), some (AI x1), some (AI q21_2_5), some (AI q21_3_5), some (AI z_15), none]) rfl ?_
          exact ih21 ⟨q21_2_5, q21_3_5, z_15⟩ w ⟨⟨by have hb_ := z32 q21_2_5; omega, by have hb_ := z32 q21_2_5; omega⟩, ⟨by have hb_ := z32 q21_3_5; omega, by have hb_ := z32 q21_3_5; omega⟩, ⟨by have hb_ := z32 z_15; omega, by have hb_ := z32 z_15; omega⟩, rfl⟩ (by first | omega | decide | (dsimp only; omega) | (dsimp only; decide))
        ·
          refine s_iload E dX9_mate_64 rfl ?_
          refine s_istore_n (L2 := [some (AR 0), some (AI x1), some (AI q21_2_5), some (AI z_12), some (AI q21_4_5), some (AI z_12)]) E dX9_mate_66 rfl (by decide) rfl ?_
          refine s_iload E dX9_mate_67 rfl ?_
          refine s_istore_n (L2 := [some (AR 0), some (AI x1), some (AI q21_4_5), some (AI z_12), some (AI q21_4_5), some (AI z_12)]) E dX9_mate_69 rfl (by decide) rfl ?_
          refine z_iinc (u := q21_4_5.toInt) (L2 := fun z_16 => [some (AR 0), some (AI x1), some (AI q21_4_5), some (AI z_12), some (AI z_16), some (AI z_12)]) E dX9_mate_70 rfl rfl (by decide) (fun _ => rfl) (by decide) (by omega) (by omega) (fun z_16 hz_16 => ?_)
          refine s_goto (tgt := 21) E dX9_mate_73 (by decide) ?_
          refine s_drop (i := 5) (L2 := [some (AR 0), some (AI x1), some (AI q21_4_5), some (AI z_12), some (AI z_16), none]) rfl ?_
          exact ih21 ⟨q21_4_5, z_12, z_16⟩ w ⟨⟨by have hb_ := z32 q21_4_5; omega, by have hb_ := z32 q21_4_5; omega⟩, ⟨by have hb_ := z32 z_12; omega, by have hb_ := z32 z_12; omega⟩, ⟨by have hb_ := z32 z_16; omega, by have hb_ := z32 z_16; omega⟩, rfl⟩ (by first | omega | decide | (dsimp only; omega) | (dsimp only; decide))
      ·
        refine s_iconst (v := 0) E dX9_mate_42 (by decide) ?_
        refine s_goto (tgt := 56) E dX9_mate_43 (by decide) ?_
        refine s_istore (L2 := [some (AR 0), some (AI x1), some (AI q21_2_5), some (AI q21_3_5), some (AI q21_4_5), some (AI 0)]) E dX9_mate_56 (by decide) rfl ?_
        refine s_iload E dX9_mate_58 rfl ?_
        refine s_iload_n E dX9_mate_60 rfl rfl ?_
        refine z_icmp_le (tgt := 70) (u := 0) (v := q21_3_5.toInt) E dX9_mate_61 (by decide) (by decide) rfl (fun h_17 => ?_) (fun h_17 => absurd h_17 (by omega))
        refine z_iinc (u := q21_4_5.toInt) (L2 := fun z_18 => [some (AR 0), some (AI x1), some (AI q21_2_5), some (AI q21_3_5), some (AI z_18), some (AI 0)]) E dX9_mate_70 rfl rfl (by decide) (fun _ => rfl) (by decide) (by omega) (by omega) (fun z_18 hz_18 => ?_)
        refine s_goto (tgt := 21) E dX9_mate_73 (by decide) ?_
        refine s_drop (i := 5) (L2 := [some (AR 0), some (AI x1), some (AI q21_2_5), some (AI q21_3_5), some (AI z_18), none]) rfl ?_
        exact ih21 ⟨q21_2_5, q21_3_5, z_18⟩ w ⟨⟨by have hb_ := z32 q21_2_5; omega, by have hb_ := z32 q21_2_5; omega⟩, ⟨by have hb_ := z32 q21_3_5; omega, by have hb_ := z32 q21_3_5; omega⟩, ⟨by have hb_ := z32 z_18; omega, by have hb_ := z32 z_18; omega⟩, rfl⟩ (by first | omega | decide | (dsimp only; omega) | (dsimp only; decide))
  ·
    refine s_bipush (v := (-2)) E dX9_mate_11 (by decide) ?_
    exact r_int E dX9_mate_13 ⟨⟨by decide, by decide, by first | (left; decide) | (right; decide) | (right; have hb_ := z32 x1; omega), by first | (left; decide) | (right; decide) | (right; have hb_ := z32 (w.2.2.1 5 3); omega)⟩, rfl⟩
set_option maxRecDepth 20000 in
set_option maxHeartbeats 2000000 in
theorem Z_X0_seatsUnder_2 (l : Launch) (D : va_G) (aC : Nat → ClassId) (b : Nat) (w : XW) (x1 : Int32) (hI : Iv w)  : CnI l D aC b M_X0_seatsUnder 2 44 0 0 [AR 2, AI x1] w (fun r u => ((-2147483648) ≤ r.toInt ∧ r.toInt ≤ 2147483647) ∧ w = u) := by
  refine cn_I (own := RX0) (nm := "seatsUnder") (L0 := [some (AR 2), some (AI x1), none, none]) (by decide +kernel) rfl rfl (Nat.le_of_ble_eq_true rfl) rfl ?_
  intro p e s m args below meth c E hin
  have hJ : Jv w w := jv_rfl hI
  have hb_x1 := z32 x1
  refine s_iconst (v := 0) E dX0_seatsUnder_0 (by decide) ?_
  refine s_istore_n (L2 := [some (AR 2), some (AI x1), some (AI 0), none]) E dX0_seatsUnder_1 rfl (by decide) rfl ?_
  refine s_iconst (v := 0) E dX0_seatsUnder_2 (by decide) ?_
  refine s_istore_n (L2 := [some (AR 2), some (AI x1), some (AI 0), some (AI 0)]) E dX0_seatsUnder_3 rfl (by decide) rfl ?_
  refine z_loop (St := Int32 × Int32) (Pi := fun ⟨q4_2_0, q4_3_0⟩ v4 => (0 ≤ q4_3_0.toInt ∧ q4_3_0.toInt ≤ 8) ∧ w = v4) (Lf := fun ⟨q4_2_0, q4_3_0⟩ => [some (AR 2), some (AI x1), some (AI q4_2_0), some (AI q4_3_0)]) (fun ⟨q4_2_0, q4_3_0⟩ _ => (9 - q4_3_0.toInt).toNat) ⟨0, 0⟩ ⟨⟨by decide, by decide⟩, rfl⟩ ?_
  rintro ⟨q4_2_0, q4_3_0⟩ v4 ⟨hq4_3, hv_⟩ ih4
  subst hv_
  have hbq4_2 := z32 q4_2_0
  refine s_loc (L2 := [some (AR 2), some (AI x1), some (AI q4_2_0), some (AI q4_3_0)]) rfl ?_
  refine s_iload_n E dX0_seatsUnder_4 rfl rfl ?_
  refine s_aload_n E dX0_seatsUnder_5 rfl rfl ?_
  refine s_gR (r := 7) E fg_X0_23 rfl rfl (jv_lt hJ (by decide)) (jv_r hJ (by decide +kernel)) dX0_seatsUnder_6 ?_
  refine s_gI E fg_X0_67 rfl rfl (jv_lt hJ (by decide)) dX0_seatsUnder_9 ?_
  refine z_nm (P := fun z => z.toInt = (w.2.2.1 7 3).toInt ∧ 0 ≤ z.toInt ∧ z.toInt ≤ 8) ⟨rfl, (rg_7_3 hJ)⟩ (fun z_2 hz_2 => ?_)
  refine z_icmp_ge (tgt := 46) (u := q4_3_0.toInt) (v := z_2.toInt) E dX0_seatsUnder_12 (by decide) rfl rfl (fun h_3 => ?_) (fun h_3 => ?_)
  ·
    refine s_iload_n E dX0_seatsUnder_46 rfl rfl ?_
    exact r_int E dX0_seatsUnder_47 ⟨⟨by have hb_ := z32 q4_2_0; omega, by have hb_ := z32 q4_2_0; omega⟩, rfl⟩
  ·
    refine s_aload_n E dX0_seatsUnder_15 rfl rfl ?_
    refine s_gR (r := 7) E fg_X0_23 rfl rfl (jv_lt hJ (by decide)) (jv_r hJ (by decide +kernel)) dX0_seatsUnder_16 ?_
    refine s_iload_n E dX0_seatsUnder_19 rfl rfl ?_
    refine s_iconst (v := 0) E dX0_seatsUnder_20 (by decide) ?_
    refine s_vI (As := [AI q4_3_0, AI 0]) (S := []) E (Z_X8_cell_7 l D aC b w q4_3_0 0 hJ.1 ) cv_X0_70 rfl rfl rfl (jv_lt hJ (by decide)) (Nat.le_of_ble_eq_true rfl) (Nat.le_of_ble_eq_true rfl) ⟨(Nat.le_of_ble_eq_true rfl), (Nat.le_of_ble_eq_true rfl)⟩ (Nat.le_of_ble_eq_true rfl) dX0_seatsUnder_21 (fun z_6 u_4 hp_5 => ?_)
    obtain ⟨hz_6, hp_5⟩ := hp_5
    subst hp_5
    refine s_iload_n E dX0_seatsUnder_24 rfl rfl ?_
    refine z_icmp_ne (tgt := 40) (u := z_6.toInt) (v := x1.toInt) E dX0_seatsUnder_25 (by decide) rfl rfl (fun h_8 => ?_) (fun h_8 => ?_)
    ·
      refine z_iinc (u := q4_3_0.toInt) (L2 := fun z_9 => [some (AR 2), some (AI x1), some (AI q4_2_0), some (AI z_9)]) E dX0_seatsUnder_40 rfl rfl (by decide) (fun _ => rfl) (by decide) (by omega) (by omega) (fun z_9 hz_9 => ?_)
      refine s_goto (tgt := 4) E dX0_seatsUnder_43 (by decide) ?_
      exact ih4 ⟨q4_2_0, z_9⟩ w ⟨⟨by have hb_ := z32 z_9; omega, by have hb_ := z32 z_9; omega⟩, rfl⟩ (by first | omega | decide | (dsimp only; omega) | (dsimp only; decide))
    ·
      refine s_iload_n E dX0_seatsUnder_28 rfl rfl ?_
      refine s_aload_n E dX0_seatsUnder_29 rfl rfl ?_
      refine s_gR (r := 7) E fg_X0_23 rfl rfl (jv_lt hJ (by decide)) (jv_r hJ (by decide +kernel)) dX0_seatsUnder_30 ?_
      refine s_iload_n E dX0_seatsUnder_33 rfl rfl ?_
      refine s_iconst (v := 1) E dX0_seatsUnder_34 (by decide) ?_
      refine s_vI (As := [AI q4_3_0, AI 1]) (S := [AI q4_2_0]) E (Z_X8_cell_7 l D aC b w q4_3_0 1 hJ.1 ) cv_X0_70 rfl rfl rfl (jv_lt hJ (by decide)) (Nat.le_of_ble_eq_true rfl) (Nat.le_of_ble_eq_true rfl) ⟨(Nat.le_of_ble_eq_true rfl), (Nat.le_of_ble_eq_true rfl)⟩ (Nat.le_of_ble_eq_true rfl) dX0_seatsUnder_35 (fun z_12 u_10 hp_11 => ?_)
      obtain ⟨hz_12, hp_11⟩ := hp_11
      subst hp_11
      refine s_iadd E dX0_seatsUnder_38 ?_
      refine z_nm (P := fun z => (-2147483648) ≤ z.toInt ∧ z.toInt ≤ 2147483647) (z32 _) (fun z_14 hz_14 => ?_)
      refine s_istore_n (L2 := [some (AR 2), some (AI x1), some (AI z_14), some (AI q4_3_0)]) E dX0_seatsUnder_39 rfl (by decide) rfl ?_
      refine z_iinc (u := q4_3_0.toInt) (L2 := fun z_15 => [some (AR 2), some (AI x1), some (AI z_14), some (AI z_15)]) E dX0_seatsUnder_40 rfl rfl (by decide) (fun _ => rfl) (by decide) (by omega) (by omega) (fun z_15 hz_15 => ?_)
      refine s_goto (tgt := 4) E dX0_seatsUnder_43 (by decide) ?_
      exact ih4 ⟨z_14, z_15⟩ w ⟨⟨by have hb_ := z32 z_15; omega, by have hb_ := z32 z_15; omega⟩, rfl⟩ (by first | omega | decide | (dsimp only; omega) | (dsimp only; decide))
