set_option maxRecDepth 20000 in
set_option maxHeartbeats 2000000 in
theorem Z_X8_copyFrom_28_r3 (l : Launch) (D : va_G) (aC : Nat → ClassId) (b : Nat) (w : XW)  (hI : Iv w)  : CnV l D aC b M_X8_copyFrom 1 60 0 0 [AR 28, AR 3] w (fun u => Jv w u) := by
  refine cn_V (own := RX8) (nm := "copyFrom") (L0 := [some (AR 28), some (AR 3)]) (by decide +kernel) rfl rfl (Nat.le_of_ble_eq_true rfl) rfl ?_
  intro p e s m args below meth c E hin
  have hJ : Jv w w := jv_rfl hI
  refine s_aload_n E dX8_copyFrom_0 rfl rfl ?_
  refine s_gR (r := 4) E fg_X8_24 rfl rfl (jv_lt hJ (by decide)) (jv_r hJ (by decide +kernel)) dX8_copyFrom_1 ?_
  refine s_iconst (v := 0) E dX8_copyFrom_4 (by decide) ?_
  refine s_aload_n E dX8_copyFrom_5 rfl rfl ?_
  refine s_gR (r := 29) E fg_X8_24 rfl rfl (jv_lt hJ (by decide)) (jv_r hJ (by decide +kernel)) dX8_copyFrom_6 ?_
  refine s_iconst (v := 0) E dX8_copyFrom_9 (by decide) ?_
  refine s_aload_n E dX8_copyFrom_10 rfl rfl ?_
  refine s_gR (r := 29) E fg_X8_24 rfl rfl (jv_lt hJ (by decide)) (jv_r hJ (by decide +kernel)) dX8_copyFrom_11 ?_
  refine s_alen (v := 36) E rfl (by decide) (jv_lt hJ (by decide)) (by decide) dX8_copyFrom_14 ?_
  refine s_aload_n E dX8_copyFrom_15 rfl rfl ?_
  refine s_gR (r := 4) E fg_X8_24 rfl rfl (jv_lt hJ (by decide)) (jv_r hJ (by decide +kernel)) dX8_copyFrom_16 ?_
  refine s_alen (v := 36) E rfl (by decide) (jv_lt hJ (by decide)) (by decide) dX8_copyFrom_19 ?_
  refine z_min (u := 36) (v := 36) E ⟨k_535, k_369, k_4, k_370⟩ (Nat.le_of_ble_eq_true rfl) (Nat.le_of_ble_eq_true rfl) (Nat.le_of_ble_eq_true rfl) (Nat.le_of_ble_eq_true rfl) dX8_copyFrom_20 (by decide) (by decide) (fun z_1 hz_1 => ?_)
  refine z_copy100 (S := []) (u1 := 0) (u2 := 0) (u3 := z_1.toInt) E k_536 k_538 k_537 k_17 rfl rfl (jv_lt hJ (by decide)) (jv_lt hJ (by decide)) (by decide) (by decide) rfl (by omega) (by omega) (by omega) (by omega) (by omega) (Nat.le_of_ble_eq_true rfl) (Nat.le_of_ble_eq_true rfl) dX8_copyFrom_23 ?_
  refine s_gen (P := Jv w) (jv_c_4_29 hJ) (fun v_2 hj_3 => ?_)
  refine s_aload_n E dX8_copyFrom_26 rfl rfl ?_
  refine s_aload_n E dX8_copyFrom_27 rfl rfl ?_
  refine s_gI E fg_X8_28 rfl rfl (jv_lt hj_3 (by decide)) dX8_copyFrom_28 ?_
  refine z_nm (P := fun z => z.toInt = (v_2.2.2.1 3 3).toInt ∧ 0 ≤ z.toInt ∧ z.toInt ≤ 12) ⟨rfl, (rg_3_3 hj_3)⟩ (fun z_4 hz_4 => ?_)
  refine s_pI E fp_X8_28 (Or.inl rfl) rfl (jv_lt hj_3 (by decide)) dX8_copyFrom_31 ?_
  refine s_gen (P := Jv w) (jv_f_28_3 hj_3 (by have hb_ := z32 z_4; omega) (by have hb_ := z32 z_4; omega)) (fun v_5 hj_6 => ?_)
  exact r_void E dX8_copyFrom_34 hj_6
set_option maxRecDepth 20000 in
set_option maxHeartbeats 2000000 in
theorem Z_X8_copyFrom_30_r5 (l : Launch) (D : va_G) (aC : Nat → ClassId) (b : Nat) (w : XW)  (hI : Iv w)  : CnV l D aC b M_X8_copyFrom 1 60 0 0 [AR 30, AR 5] w (fun u => Jv w u) := by
  refine cn_V (own := RX8) (nm := "copyFrom") (L0 := [some (AR 30), some (AR 5)]) (by decide +kernel) rfl rfl (Nat.le_of_ble_eq_true rfl) rfl ?_
  intro p e s m args below meth c E hin
  have hJ : Jv w w := jv_rfl hI
  refine s_aload_n E dX8_copyFrom_0 rfl rfl ?_
  refine s_gR (r := 6) E fg_X8_24 rfl rfl (jv_lt hJ (by decide)) (jv_r hJ (by decide +kernel)) dX8_copyFrom_1 ?_
  refine s_iconst (v := 0) E dX8_copyFrom_4 (by decide) ?_
  refine s_aload_n E dX8_copyFrom_5 rfl rfl ?_
  refine s_gR (r := 31) E fg_X8_24 rfl rfl (jv_lt hJ (by decide)) (jv_r hJ (by decide +kernel)) dX8_copyFrom_6 ?_
  refine s_iconst (v := 0) E dX8_copyFrom_9 (by decide) ?_
  refine s_aload_n E dX8_copyFrom_10 rfl rfl ?_
  refine s_gR (r := 31) E fg_X8_24 rfl rfl (jv_lt hJ (by decide)) (jv_r hJ (by decide +kernel)) dX8_copyFrom_11 ?_
  refine s_alen (v := 12) E rfl (by decide) (jv_lt hJ (by decide)) (by decide) dX8_copyFrom_14 ?_
  refine s_aload_n E dX8_copyFrom_15 rfl rfl ?_
  refine s_gR (r := 6) E fg_X8_24 rfl rfl (jv_lt hJ (by decide)) (jv_r hJ (by decide +kernel)) dX8_copyFrom_16 ?_
  refine s_alen (v := 12) E rfl (by decide) (jv_lt hJ (by decide)) (by decide) dX8_copyFrom_19 ?_
  refine z_min (u := 12) (v := 12) E ⟨k_535, k_369, k_4, k_370⟩ (Nat.le_of_ble_eq_true rfl) (Nat.le_of_ble_eq_true rfl) (Nat.le_of_ble_eq_true rfl) (Nat.le_of_ble_eq_true rfl) dX8_copyFrom_20 (by decide) (by decide) (fun z_1 hz_1 => ?_)
  refine z_copy100 (S := []) (u1 := 0) (u2 := 0) (u3 := z_1.toInt) E k_536 k_538 k_537 k_17 rfl rfl (jv_lt hJ (by decide)) (jv_lt hJ (by decide)) (by decide) (by decide) rfl (by omega) (by omega) (by omega) (by omega) (by omega) (Nat.le_of_ble_eq_true rfl) (Nat.le_of_ble_eq_true rfl) dX8_copyFrom_23 ?_
  refine s_gen (P := Jv w) (jv_c_6_31 hJ) (fun v_2 hj_3 => ?_)
  refine s_aload_n E dX8_copyFrom_26 rfl rfl ?_
  refine s_aload_n E dX8_copyFrom_27 rfl rfl ?_
  refine s_gI E fg_X8_28 rfl rfl (jv_lt hj_3 (by decide)) dX8_copyFrom_28 ?_
  refine z_nm (P := fun z => z.toInt = (v_2.2.2.1 5 3).toInt ∧ 0 ≤ z.toInt ∧ z.toInt ≤ 6) ⟨rfl, (rg_5_3 hj_3)⟩ (fun z_4 hz_4 => ?_)
  refine s_pI E fp_X8_28 (Or.inl rfl) rfl (jv_lt hj_3 (by decide)) dX8_copyFrom_31 ?_
  refine s_gen (P := Jv w) (jv_f_30_3 hj_3 (by have hb_ := z32 z_4; omega) (by have hb_ := z32 z_4; omega)) (fun v_5 hj_6 => ?_)
  exact r_void E dX8_copyFrom_34 hj_6
set_option maxRecDepth 20000 in
set_option maxHeartbeats 2000000 in
theorem Z_X8_copyFrom_32_r7 (l : Launch) (D : va_G) (aC : Nat → ClassId) (b : Nat) (w : XW)  (hI : Iv w)  : CnV l D aC b M_X8_copyFrom 1 60 0 0 [AR 32, AR 7] w (fun u => Jv w u) := by
  refine cn_V (own := RX8) (nm := "copyFrom") (L0 := [some (AR 32), some (AR 7)]) (by decide +kernel) rfl rfl (Nat.le_of_ble_eq_true rfl) rfl ?_
  intro p e s m args below meth c E hin
  have hJ : Jv w w := jv_rfl hI
  refine s_aload_n E dX8_copyFrom_0 rfl rfl ?_
  refine s_gR (r := 8) E fg_X8_24 rfl rfl (jv_lt hJ (by decide)) (jv_r hJ (by decide +kernel)) dX8_copyFrom_1 ?_
  refine s_iconst (v := 0) E dX8_copyFrom_4 (by decide) ?_
  refine s_aload_n E dX8_copyFrom_5 rfl rfl ?_
  refine s_gR (r := 33) E fg_X8_24 rfl rfl (jv_lt hJ (by decide)) (jv_r hJ (by decide +kernel)) dX8_copyFrom_6 ?_
  refine s_iconst (v := 0) E dX8_copyFrom_9 (by decide) ?_
  refine s_aload_n E dX8_copyFrom_10 rfl rfl ?_
  refine s_gR (r := 33) E fg_X8_24 rfl rfl (jv_lt hJ (by decide)) (jv_r hJ (by decide +kernel)) dX8_copyFrom_11 ?_
  refine s_alen (v := 16) E rfl (by decide) (jv_lt hJ (by decide)) (by decide) dX8_copyFrom_14 ?_
  refine s_aload_n E dX8_copyFrom_15 rfl rfl ?_
  refine s_gR (r := 8) E fg_X8_24 rfl rfl (jv_lt hJ (by decide)) (jv_r hJ (by decide +kernel)) dX8_copyFrom_16 ?_
  refine s_alen (v := 16) E rfl (by decide) (jv_lt hJ (by decide)) (by decide) dX8_copyFrom_19 ?_
  refine z_min (u := 16) (v := 16) E ⟨k_535, k_369, k_4, k_370⟩ (Nat.le_of_ble_eq_true rfl) (Nat.le_of_ble_eq_true rfl) (Nat.le_of_ble_eq_true rfl) (Nat.le_of_ble_eq_true rfl) dX8_copyFrom_20 (by decide) (by decide) (fun z_1 hz_1 => ?_)
  refine z_copy100 (S := []) (u1 := 0) (u2 := 0) (u3 := z_1.toInt) E k_536 k_538 k_537 k_17 rfl rfl (jv_lt hJ (by decide)) (jv_lt hJ (by decide)) (by decide) (by decide) rfl (by omega) (by omega) (by omega) (by omega) (by omega) (Nat.le_of_ble_eq_true rfl) (Nat.le_of_ble_eq_true rfl) dX8_copyFrom_23 ?_
  refine s_gen (P := Jv w) (jv_c_8_33 hJ) (fun v_2 hj_3 => ?_)
  refine s_aload_n E dX8_copyFrom_26 rfl rfl ?_
  refine s_aload_n E dX8_copyFrom_27 rfl rfl ?_
  refine s_gI E fg_X8_28 rfl rfl (jv_lt hj_3 (by decide)) dX8_copyFrom_28 ?_
  refine z_nm (P := fun z => z.toInt = (v_2.2.2.1 7 3).toInt ∧ 0 ≤ z.toInt ∧ z.toInt ≤ 8) ⟨rfl, (rg_7_3 hj_3)⟩ (fun z_4 hz_4 => ?_)
  refine s_pI E fp_X8_28 (Or.inl rfl) rfl (jv_lt hj_3 (by decide)) dX8_copyFrom_31 ?_
  refine s_gen (P := Jv w) (jv_f_32_3 hj_3 (by have hb_ := z32 z_4; omega) (by have hb_ := z32 z_4; omega)) (fun v_5 hj_6 => ?_)
  exact r_void E dX8_copyFrom_34 hj_6
set_option maxRecDepth 20000 in
set_option maxHeartbeats 2000000 in
theorem Z_X8_copyFrom_34_r9 (l : Launch) (D : va_G) (aC : Nat → ClassId) (b : Nat) (w : XW)  (hI : Iv w)  : CnV l D aC b M_X8_copyFrom 1 60 0 0 [AR 34, AR 9] w (fun u => Jv w u) := by
  refine cn_V (own := RX8) (nm := "copyFrom") (L0 := [some (AR 34), some (AR 9)]) (by decide +kernel) rfl rfl (Nat.le_of_ble_eq_true rfl) rfl ?_
  intro p e s m args below meth c E hin
  have hJ : Jv w w := jv_rfl hI
  refine s_aload_n E dX8_copyFrom_0 rfl rfl ?_
  refine s_gR (r := 10) E fg_X8_24 rfl rfl (jv_lt hJ (by decide)) (jv_r hJ (by decide +kernel)) dX8_copyFrom_1 ?_
  refine s_iconst (v := 0) E dX8_copyFrom_4 (by decide) ?_
  refine s_aload_n E dX8_copyFrom_5 rfl rfl ?_
  refine s_gR (r := 35) E fg_X8_24 rfl rfl (jv_lt hJ (by decide)) (jv_r hJ (by decide +kernel)) dX8_copyFrom_6 ?_
  refine s_iconst (v := 0) E dX8_copyFrom_9 (by decide) ?_
  refine s_aload_n E dX8_copyFrom_10 rfl rfl ?_
  refine s_gR (r := 35) E fg_X8_24 rfl rfl (jv_lt hJ (by decide)) (jv_r hJ (by decide +kernel)) dX8_copyFrom_11 ?_
  refine s_alen (v := 30) E rfl (by decide) (jv_lt hJ (by decide)) (by decide) dX8_copyFrom_14 ?_
  refine s_aload_n E dX8_copyFrom_15 rfl rfl ?_
  refine s_gR (r := 10) E fg_X8_24 rfl rfl (jv_lt hJ (by decide)) (jv_r hJ (by decide +kernel)) dX8_copyFrom_16 ?_
  refine s_alen (v := 30) E rfl (by decide) (jv_lt hJ (by decide)) (by decide) dX8_copyFrom_19 ?_
  refine z_min (u := 30) (v := 30) E ⟨k_535, k_369, k_4, k_370⟩ (Nat.le_of_ble_eq_true rfl) (Nat.le_of_ble_eq_true rfl) (Nat.le_of_ble_eq_true rfl) (Nat.le_of_ble_eq_true rfl) dX8_copyFrom_20 (by decide) (by decide) (fun z_1 hz_1 => ?_)
  refine z_copy100 (S := []) (u1 := 0) (u2 := 0) (u3 := z_1.toInt) E k_536 k_538 k_537 k_17 rfl rfl (jv_lt hJ (by decide)) (jv_lt hJ (by decide)) (by decide) (by decide) rfl (by omega) (by omega) (by omega) (by omega) (by omega) (Nat.le_of_ble_eq_true rfl) (Nat.le_of_ble_eq_true rfl) dX8_copyFrom_23 ?_
  refine s_gen (P := Jv w) (jv_c_10_35 hJ) (fun v_2 hj_3 => ?_)
  refine s_aload_n E dX8_copyFrom_26 rfl rfl ?_
  refine s_aload_n E dX8_copyFrom_27 rfl rfl ?_
  refine s_gI E fg_X8_28 rfl rfl (jv_lt hj_3 (by decide)) dX8_copyFrom_28 ?_
  refine z_nm (P := fun z => z.toInt = (v_2.2.2.1 9 3).toInt ∧ 0 ≤ z.toInt ∧ z.toInt ≤ 10) ⟨rfl, (rg_9_3 hj_3)⟩ (fun z_4 hz_4 => ?_)
  refine s_pI E fp_X8_28 (Or.inl rfl) rfl (jv_lt hj_3 (by decide)) dX8_copyFrom_31 ?_
  refine s_gen (P := Jv w) (jv_f_34_3 hj_3 (by have hb_ := z32 z_4; omega) (by have hb_ := z32 z_4; omega)) (fun v_5 hj_6 => ?_)
  exact r_void E dX8_copyFrom_34 hj_6
set_option maxRecDepth 20000 in
set_option maxHeartbeats 2000000 in
theorem Z_X8_copyFrom_36_r11 (l : Launch) (D : va_G) (aC : Nat → ClassId) (b : Nat) (w : XW)  (hI : Iv w)  : CnV l D aC b M_X8_copyFrom 1 60 0 0 [AR 36, AR 11] w (fun u => Jv w u) := by
  refine cn_V (own := RX8) (nm := "copyFrom") (L0 := [some (AR 36), some (AR 11)]) (by decide +kernel) rfl rfl (Nat.le_of_ble_eq_true rfl) rfl ?_
  intro p e s m args below meth c E hin
  have hJ : Jv w w := jv_rfl hI
  refine s_aload_n E dX8_copyFrom_0 rfl rfl ?_
  refine s_gR (r := 12) E fg_X8_24 rfl rfl (jv_lt hJ (by decide)) (jv_r hJ (by decide +kernel)) dX8_copyFrom_1 ?_
  refine s_iconst (v := 0) E dX8_copyFrom_4 (by decide) ?_
  refine s_aload_n E dX8_copyFrom_5 rfl rfl ?_
  refine s_gR (r := 37) E fg_X8_24 rfl rfl (jv_lt hJ (by decide)) (jv_r hJ (by decide +kernel)) dX8_copyFrom_6 ?_
  refine s_iconst (v := 0) E dX8_copyFrom_9 (by decide) ?_
  refine s_aload_n E dX8_copyFrom_10 rfl rfl ?_
  refine s_gR (r := 37) E fg_X8_24 rfl rfl (jv_lt hJ (by decide)) (jv_r hJ (by decide +kernel)) dX8_copyFrom_11 ?_
  refine s_alen (v := 120) E rfl (by decide) (jv_lt hJ (by decide)) (by decide) dX8_copyFrom_14 ?_
  refine s_aload_n E dX8_copyFrom_15 rfl rfl ?_
  refine s_gR (r := 12) E fg_X8_24 rfl rfl (jv_lt hJ (by decide)) (jv_r hJ (by decide +kernel)) dX8_copyFrom_16 ?_
  refine s_alen (v := 120) E rfl (by decide) (jv_lt hJ (by decide)) (by decide) dX8_copyFrom_19 ?_
  refine z_min (u := 120) (v := 120) E ⟨k_535, k_369, k_4, k_370⟩ (Nat.le_of_ble_eq_true rfl) (Nat.le_of_ble_eq_true rfl) (Nat.le_of_ble_eq_true rfl) (Nat.le_of_ble_eq_true rfl) dX8_copyFrom_20 (by decide) (by decide) (fun z_1 hz_1 => ?_)
  refine z_copy100 (S := []) (u1 := 0) (u2 := 0) (u3 := z_1.toInt) E k_536 k_538 k_537 k_17 rfl rfl (jv_lt hJ (by decide)) (jv_lt hJ (by decide)) (by decide) (by decide) rfl (by omega) (by omega) (by omega) (by omega) (by omega) (Nat.le_of_ble_eq_true rfl) (Nat.le_of_ble_eq_true rfl) dX8_copyFrom_23 ?_
  refine s_gen (P := Jv w) (jv_c_12_37 hJ) (fun v_2 hj_3 => ?_)
  refine s_aload_n E dX8_copyFrom_26 rfl rfl ?_
  refine s_aload_n E dX8_copyFrom_27 rfl rfl ?_
  refine s_gI E fg_X8_28 rfl rfl (jv_lt hj_3 (by decide)) dX8_copyFrom_28 ?_
  refine z_nm (P := fun z => z.toInt = (v_2.2.2.1 11 3).toInt ∧ 0 ≤ z.toInt ∧ z.toInt ≤ 30) ⟨rfl, (rg_11_3 hj_3)⟩ (fun z_4 hz_4 => ?_)
  refine s_pI E fp_X8_28 (Or.inl rfl) rfl (jv_lt hj_3 (by decide)) dX8_copyFrom_31 ?_
  refine s_gen (P := Jv w) (jv_f_36_3 hj_3 (by have hb_ := z32 z_4; omega) (by have hb_ := z32 z_4; omega)) (fun v_5 hj_6 => ?_)
  exact r_void E dX8_copyFrom_34 hj_6
set_option maxRecDepth 20000 in
set_option maxHeartbeats 2000000 in
theorem Z_X0_copyFrom_27_r2 (l : Launch) (D : va_G) (aC : Nat → ClassId) (b : Nat) (w : XW)  (hI : Iv w)  : CnV l D aC b M_X0_copyFrom 2 81 0 0 [AR 27, AR 2] w (fun u => Jv w u) := by
  refine cn_V (own := RX0) (nm := "copyFrom") (L0 := [some (AR 27), some (AR 2)]) (by decide +kernel) rfl rfl (Nat.le_of_ble_eq_true rfl) rfl ?_
  intro p e s m args below meth c E hin
  have hJ : Jv w w := jv_rfl hI
  refine s_aload_n E dX0_copyFrom_0 rfl rfl ?_
  refine s_aload_n E dX0_copyFrom_1 rfl rfl ?_
  refine s_gI E fg_X0_32 rfl rfl (jv_lt hJ (by decide)) dX0_copyFrom_2 ?_
  refine z_nm (P := fun z => z.toInt = (w.2.2.1 2 0).toInt ∧ (-2147483648) ≤ z.toInt ∧ z.toInt ≤ 2147483647) ⟨rfl, z32 _⟩ (fun z_1 hz_1 => ?_)
  refine s_pI E fp_X0_32 (Or.inl rfl) rfl (jv_lt hJ (by decide)) dX0_copyFrom_5 ?_
  refine s_gen (P := Jv w) (jv_f_27_0 hJ (by have hb_ := z32 z_1; omega) (by have hb_ := z32 z_1; omega)) (fun v_2 hj_3 => ?_)
  refine s_aload_n E dX0_copyFrom_8 rfl rfl ?_
  refine s_aload_n E dX0_copyFrom_9 rfl rfl ?_
  refine s_gI E fg_X0_36 rfl rfl (jv_lt hj_3 (by decide)) dX0_copyFrom_10 ?_
  refine z_nm (P := fun z => z.toInt = (v_2.2.2.1 2 1).toInt ∧ 0 ≤ z.toInt ∧ z.toInt ≤ 8) ⟨rfl, (rg_2_1 hj_3)⟩ (fun z_4 hz_4 => ?_)
  refine s_pI E fp_X0_36 (Or.inl rfl) rfl (jv_lt hj_3 (by decide)) dX0_copyFrom_13 ?_
  refine s_gen (P := Jv w) (jv_f_27_1 hj_3 (by have hb_ := z32 z_4; omega) (by have hb_ := z32 z_4; omega)) (fun v_5 hj_6 => ?_)
  refine s_aload_n E dX0_copyFrom_16 rfl rfl ?_
  refine s_aload_n E dX0_copyFrom_17 rfl rfl ?_
  refine s_gI E fg_X0_39 rfl rfl (jv_lt hj_6 (by decide)) dX0_copyFrom_18 ?_
  refine z_nm (P := fun z => z.toInt = (v_5.2.2.1 2 2).toInt ∧ 0 ≤ z.toInt ∧ z.toInt ≤ 14) ⟨rfl, (rg_2_2 hj_6)⟩ (fun z_7 hz_7 => ?_)
  refine s_pI E fp_X0_39 (Or.inl rfl) rfl (jv_lt hj_6 (by decide)) dX0_copyFrom_21 ?_
  refine s_gen (P := Jv w) (jv_f_27_2 hj_6 (by have hb_ := z32 z_7; omega) (by have hb_ := z32 z_7; omega)) (fun v_8 hj_9 => ?_)
  refine s_aload_n E dX0_copyFrom_24 rfl rfl ?_
  refine s_aload_n E dX0_copyFrom_25 rfl rfl ?_
  refine s_gI E fg_X0_42 rfl rfl (jv_lt hj_9 (by decide)) dX0_copyFrom_26 ?_
  refine z_nm (P := fun z => z.toInt = (v_8.2.2.1 2 3).toInt ∧ (-2147483648) ≤ z.toInt ∧ z.toInt ≤ 2147483647) ⟨rfl, z32 _⟩ (fun z_10 hz_10 => ?_)
  refine s_pI E fp_X0_42 (Or.inl rfl) rfl (jv_lt hj_9 (by decide)) dX0_copyFrom_29 ?_
  refine s_gen (P := Jv w) (jv_f_27_3 hj_9 (by have hb_ := z32 z_10; omega) (by have hb_ := z32 z_10; omega)) (fun v_11 hj_12 => ?_)
  refine s_aload_n E dX0_copyFrom_32 rfl rfl ?_
  refine s_aload_n E dX0_copyFrom_33 rfl rfl ?_
  refine s_gI E fg_X0_45 rfl rfl (jv_lt hj_12 (by decide)) dX0_copyFrom_34 ?_
  refine z_nm (P := fun z => z.toInt = (v_11.2.2.1 2 4).toInt ∧ (-2147483648) ≤ z.toInt ∧ z.toInt ≤ 2147483647) ⟨rfl, z32 _⟩ (fun z_13 hz_13 => ?_)
  refine s_pI E fp_X0_45 (Or.inl rfl) rfl (jv_lt hj_12 (by decide)) dX0_copyFrom_37 ?_
  refine s_gen (P := Jv w) (jv_f_27_4 hj_12 (by have hb_ := z32 z_13; omega) (by have hb_ := z32 z_13; omega)) (fun v_14 hj_15 => ?_)
  refine s_aload_n E dX0_copyFrom_40 rfl rfl ?_
  refine s_gR (r := 28) E fg_X0_14 rfl rfl (jv_lt hj_15 (by decide)) (jv_r hj_15 (by decide +kernel)) dX0_copyFrom_41 ?_
  refine s_aload_n E dX0_copyFrom_44 rfl rfl ?_
  refine s_gR (r := 3) E fg_X0_14 rfl rfl (jv_lt hj_15 (by decide)) (jv_r hj_15 (by decide +kernel)) dX0_copyFrom_45 ?_
  refine s_vV (As := [AR 3]) (S := []) E (Z_X8_copyFrom_28_r3 l D aC b v_14  hj_15.1 ) cv_X0_51 rfl rfl rfl (jv_lt hj_15 (by decide)) (Nat.le_of_ble_eq_true rfl) (Nat.le_of_ble_eq_true rfl) ⟨(Nat.le_of_ble_eq_true rfl), (Nat.le_of_ble_eq_true rfl)⟩ (Nat.le_of_ble_eq_true rfl) dX0_copyFrom_48 (fun u_16 hp_17 => ?_)
  have hj_18 := jv_trans hj_15 hp_17
  refine s_aload_n E dX0_copyFrom_51 rfl rfl ?_
  refine s_gR (r := 30) E fg_X0_20 rfl rfl (jv_lt hj_18 (by decide)) (jv_r hj_18 (by decide +kernel)) dX0_copyFrom_52 ?_
  refine s_aload_n E dX0_copyFrom_55 rfl rfl ?_
  refine s_gR (r := 5) E fg_X0_20 rfl rfl (jv_lt hj_18 (by decide)) (jv_r hj_18 (by decide +kernel)) dX0_copyFrom_56 ?_
  refine s_vV (As := [AR 5]) (S := []) E (Z_X8_copyFrom_30_r5 l D aC b u_16  hj_18.1 ) cv_X0_51 rfl rfl rfl (jv_lt hj_18 (by decide)) (Nat.le_of_ble_eq_true rfl) (Nat.le_of_ble_eq_true rfl) ⟨(Nat.le_of_ble_eq_true rfl), (Nat.le_of_ble_eq_true rfl)⟩ (Nat.le_of_ble_eq_true rfl) dX0_copyFrom_59 (fun u_19 hp_20 => ?_)
  have hj_21 := jv_trans hj_18 hp_20
  refine s_aload_n E dX0_copyFrom_62 rfl rfl ?_
  refine s_gR (r := 32) E fg_X0_23 rfl rfl (jv_lt hj_21 (by decide)) (jv_r hj_21 (by decide +kernel)) dX0_copyFrom_63 ?_
  refine s_aload_n E dX0_copyFrom_66 rfl rfl ?_
  refine s_gR (r := 7) E fg_X0_23 rfl rfl (jv_lt hj_21 (by decide)) (jv_r hj_21 (by decide +kernel)) dX0_copyFrom_67 ?_
  refine s_vV (As := [AR 7]) (S := []) E (Z_X8_copyFrom_32_r7 l D aC b u_19  hj_21.1 ) cv_X0_51 rfl rfl rfl (jv_lt hj_21 (by decide)) (Nat.le_of_ble_eq_true rfl) (Nat.le_of_ble_eq_true rfl) ⟨(Nat.le_of_ble_eq_true rfl), (Nat.le_of_ble_eq_true rfl)⟩ (Nat.le_of_ble_eq_true rfl) dX0_copyFrom_70 (fun u_22 hp_23 => ?_)
  have hj_24 := jv_trans hj_21 hp_23
  refine s_aload_n E dX0_copyFrom_73 rfl rfl ?_
  refine s_gR (r := 34) E fg_X0_26 rfl rfl (jv_lt hj_24 (by decide)) (jv_r hj_24 (by decide +kernel)) dX0_copyFrom_74 ?_
  refine s_aload_n E dX0_copyFrom_77 rfl rfl ?_
  refine s_gR (r := 9) E fg_X0_26 rfl rfl (jv_lt hj_24 (by decide)) (jv_r hj_24 (by decide +kernel)) dX0_copyFrom_78 ?_
  refine s_vV (As := [AR 9]) (S := []) E (Z_X8_copyFrom_34_r9 l D aC b u_22  hj_24.1 ) cv_X0_51 rfl rfl rfl (jv_lt hj_24 (by decide)) (Nat.le_of_ble_eq_true rfl) (Nat.le_of_ble_eq_true rfl) ⟨(Nat.le_of_ble_eq_true rfl), (Nat.le_of_ble_eq_true rfl)⟩ (Nat.le_of_ble_eq_true rfl) dX0_copyFrom_81 (fun u_25 hp_26 => ?_)
  have hj_27 := jv_trans hj_24 hp_26
  refine s_aload_n E dX0_copyFrom_84 rfl rfl ?_
  refine s_gR (r := 36) E fg_X0_29 rfl rfl (jv_lt hj_27 (by decide)) (jv_r hj_27 (by decide +kernel)) dX0_copyFrom_85 ?_
  refine s_aload_n E dX0_copyFrom_88 rfl rfl ?_
  refine s_gR (r := 11) E fg_X0_29 rfl rfl (jv_lt hj_27 (by decide)) (jv_r hj_27 (by decide +kernel)) dX0_copyFrom_89 ?_
  refine s_vV (As := [AR 11]) (S := []) E (Z_X8_copyFrom_36_r11 l D aC b u_25  hj_27.1 ) cv_X0_51 rfl rfl rfl (jv_lt hj_27 (by decide)) (Nat.le_of_ble_eq_true rfl) (Nat.le_of_ble_eq_true rfl) ⟨(Nat.le_of_ble_eq_true rfl), (Nat.le_of_ble_eq_true rfl)⟩ (Nat.le_of_ble_eq_true rfl) dX0_copyFrom_92 (fun u_28 hp_29 => ?_)
  have hj_30 := jv_trans hj_27 hp_29
  exact r_void E dX0_copyFrom_95 hj_30
set_option maxRecDepth 20000 in
set_option maxHeartbeats 2000000 in
theorem Z_X8_copyFrom_39_r3 (l : Launch) (D : va_G) (aC : Nat → ClassId) (b : Nat) (w : XW)  (hI : Iv w)  : CnV l D aC b M_X8_copyFrom 1 60 0 0 [AR 39, AR 3] w (fun u => Jv w u) := by
  refine cn_V (own := RX8) (nm := "copyFrom") (L0 := [some (AR 39), some (AR 3)]) (by decide +kernel) rfl rfl (Nat.le_of_ble_eq_true rfl) rfl ?_
  intro p e s m args below meth c E hin
  have hJ : Jv w w := jv_rfl hI
  refine s_aload_n E dX8_copyFrom_0 rfl rfl ?_
  refine s_gR (r := 4) E fg_X8_24 rfl rfl (jv_lt hJ (by decide)) (jv_r hJ (by decide +kernel)) dX8_copyFrom_1 ?_
  refine s_iconst (v := 0) E dX8_copyFrom_4 (by decide) ?_
  refine s_aload_n E dX8_copyFrom_5 rfl rfl ?_
  refine s_gR (r := 40) E fg_X8_24 rfl rfl (jv_lt hJ (by decide)) (jv_r hJ (by decide +kernel)) dX8_copyFrom_6 ?_
  refine s_iconst (v := 0) E dX8_copyFrom_9 (by decide) ?_
  refine s_aload_n E dX8_copyFrom_10 rfl rfl ?_
  refine s_gR (r := 40) E fg_X8_24 rfl rfl (jv_lt hJ (by decide)) (jv_r hJ (by decide +kernel)) dX8_copyFrom_11 ?_
  refine s_alen (v := 36) E rfl (by decide) (jv_lt hJ (by decide)) (by decide) dX8_copyFrom_14 ?_
  refine s_aload_n E dX8_copyFrom_15 rfl rfl ?_
  refine s_gR (r := 4) E fg_X8_24 rfl rfl (jv_lt hJ (by decide)) (jv_r hJ (by decide +kernel)) dX8_copyFrom_16 ?_
  refine s_alen (v := 36) E rfl (by decide) (jv_lt hJ (by decide)) (by decide) dX8_copyFrom_19 ?_
  refine z_min (u := 36) (v := 36) E ⟨k_535, k_369, k_4, k_370⟩ (Nat.le_of_ble_eq_true rfl) (Nat.le_of_ble_eq_true rfl) (Nat.le_of_ble_eq_true rfl) (Nat.le_of_ble_eq_true rfl) dX8_copyFrom_20 (by decide) (by decide) (fun z_1 hz_1 => ?_)
  refine z_copy100 (S := []) (u1 := 0) (u2 := 0) (u3 := z_1.toInt) E k_536 k_538 k_537 k_17 rfl rfl (jv_lt hJ (by decide)) (jv_lt hJ (by decide)) (by decide) (by decide) rfl (by omega) (by omega) (by omega) (by omega) (by omega) (Nat.le_of_ble_eq_true rfl) (Nat.le_of_ble_eq_true rfl) dX8_copyFrom_23 ?_
  refine s_gen (P := Jv w) (jv_c_4_40 hJ) (fun v_2 hj_3 => ?_)
  refine s_aload_n E dX8_copyFrom_26 rfl rfl ?_
  refine s_aload_n E dX8_copyFrom_27 rfl rfl ?_
  refine s_gI E fg_X8_28 rfl rfl (jv_lt hj_3 (by decide)) dX8_copyFrom_28 ?_
  refine z_nm (P := fun z => z.toInt = (v_2.2.2.1 3 3).toInt ∧ 0 ≤ z.toInt ∧ z.toInt ≤ 12) ⟨rfl, (rg_3_3 hj_3)⟩ (fun z_4 hz_4 => ?_)
  refine s_pI E fp_X8_28 (Or.inl rfl) rfl (jv_lt hj_3 (by decide)) dX8_copyFrom_31 ?_
  refine s_gen (P := Jv w) (jv_f_39_3 hj_3 (by have hb_ := z32 z_4; omega) (by have hb_ := z32 z_4; omega)) (fun v_5 hj_6 => ?_)
  exact r_void E dX8_copyFrom_34 hj_6
set_option maxRecDepth 20000 in
set_option maxHeartbeats 2000000 in
theorem Z_X8_copyFrom_41_r5 (l : Launch) (D : va_G) (aC : Nat → ClassId) (b : Nat) (w : XW)  (hI : Iv w)  : CnV l D aC b M_X8_copyFrom 1 60 0 0 [AR 41, AR 5] w (fun u => Jv w u) := by
  refine cn_V (own := RX8) (nm := "copyFrom") (L0 := [some (AR 41), some (AR 5)]) (by decide +kernel) rfl rfl (Nat.le_of_ble_eq_true rfl) rfl ?_
  intro p e s m args below meth c E hin
  have hJ : Jv w w := jv_rfl hI
  refine s_aload_n E dX8_copyFrom_0 rfl rfl ?_
  refine s_gR (r := 6) E fg_X8_24 rfl rfl (jv_lt hJ (by decide)) (jv_r hJ (by decide +kernel)) dX8_copyFrom_1 ?_
  refine s_iconst (v := 0) E dX8_copyFrom_4 (by decide) ?_
  refine s_aload_n E dX8_copyFrom_5 rfl rfl ?_
  refine s_gR (r := 42) E fg_X8_24 rfl rfl (jv_lt hJ (by decide)) (jv_r hJ (by decide +kernel)) dX8_copyFrom_6 ?_
  refine s_iconst (v := 0) E dX8_copyFrom_9 (by decide) ?_
  refine s_aload_n E dX8_copyFrom_10 rfl rfl ?_
  refine s_gR (r := 42) E fg_X8_24 rfl rfl (jv_lt hJ (by decide)) (jv_r hJ (by decide +kernel)) dX8_copyFrom_11 ?_
  refine s_alen (v := 12) E rfl (by decide) (jv_lt hJ (by decide)) (by decide) dX8_copyFrom_14 ?_
  refine s_aload_n E dX8_copyFrom_15 rfl rfl ?_
  refine s_gR (r := 6) E fg_X8_24 rfl rfl (jv_lt hJ (by decide)) (jv_r hJ (by decide +kernel)) dX8_copyFrom_16 ?_
  refine s_alen (v := 12) E rfl (by decide) (jv_lt hJ (by decide)) (by decide) dX8_copyFrom_19 ?_
  refine z_min (u := 12) (v := 12) E ⟨k_535, k_369, k_4, k_370⟩ (Nat.le_of_ble_eq_true rfl) (Nat.le_of_ble_eq_true rfl) (Nat.le_of_ble_eq_true rfl) (Nat.le_of_ble_eq_true rfl) dX8_copyFrom_20 (by decide) (by decide) (fun z_1 hz_1 => ?_)
  refine z_copy100 (S := []) (u1 := 0) (u2 := 0) (u3 := z_1.toInt) E k_536 k_538 k_537 k_17 rfl rfl (jv_lt hJ (by decide)) (jv_lt hJ (by decide)) (by decide) (by decide) rfl (by omega) (by omega) (by omega) (by omega) (by omega) (Nat.le_of_ble_eq_true rfl) (Nat.le_of_ble_eq_true rfl) dX8_copyFrom_23 ?_
  refine s_gen (P := Jv w) (jv_c_6_42 hJ) (fun v_2 hj_3 => ?_)
  refine s_aload_n E dX8_copyFrom_26 rfl rfl ?_
  refine s_aload_n E dX8_copyFrom_27 rfl rfl ?_
  refine s_gI E fg_X8_28 rfl rfl (jv_lt hj_3 (by decide)) dX8_copyFrom_28 ?_
  refine z_nm (P := fun z => z.toInt = (v_2.2.2.1 5 3).toInt ∧ 0 ≤ z.toInt ∧ z.toInt ≤ 6) ⟨rfl, (rg_5_3 hj_3)⟩ (fun z_4 hz_4 => ?_)
  refine s_pI E fp_X8_28 (Or.inl rfl) rfl (jv_lt hj_3 (by decide)) dX8_copyFrom_31 ?_
  refine s_gen (P := Jv w) (jv_f_41_3 hj_3 (by have hb_ := z32 z_4; omega) (by have hb_ := z32 z_4; omega)) (fun v_5 hj_6 => ?_)
  exact r_void E dX8_copyFrom_34 hj_6
set_option maxRecDepth 20000 in
set_option maxHeartbeats 2000000 in
theorem Z_X8_copyFrom_43_r7 (l : Launch) (D : va_G) (aC : Nat → ClassId) (b : Nat) (w : XW)  (hI : Iv w)  : CnV l D aC b M_X8_copyFrom 1 60 0 0 [AR 43, AR 7] w (fun u => Jv w u) := by
  refine cn_V (own := RX8) (nm := "copyFrom") (L0 := [some (AR 43), some (AR 7)]) (by decide +kernel) rfl rfl (Nat.le_of_ble_eq_true rfl) rfl ?_
  intro p e s m args below meth c E hin
  have hJ : Jv w w := jv_rfl hI
  refine s_aload_n E dX8_copyFrom_0 rfl rfl ?_
  refine s_gR (r := 8) E fg_X8_24 rfl rfl (jv_lt hJ (by decide)) (jv_r hJ (by decide +kernel)) dX8_copyFrom_1 ?_
  refine s_iconst (v := 0) E dX8_copyFrom_4 (by decide) ?_
  refine s_aload_n E dX8_copyFrom_5 rfl rfl ?_
  refine s_gR (r := 44) E fg_X8_24 rfl rfl (jv_lt hJ (by decide)) (jv_r hJ (by decide +kernel)) dX8_copyFrom_6 ?_
  refine s_iconst (v := 0) E dX8_copyFrom_9 (by decide) ?_
  refine s_aload_n E dX8_copyFrom_10 rfl rfl ?_
  refine s_gR (r := 44) E fg_X8_24 rfl rfl (jv_lt hJ (by decide)) (jv_r hJ (by decide +kernel)) dX8_copyFrom_11 ?_
  refine s_alen (v := 16) E rfl (by decide) (jv_lt hJ (by decide)) (by decide) dX8_copyFrom_14 ?_
  refine s_aload_n E dX8_copyFrom_15 rfl rfl ?_
  refine s_gR (r := 8) E fg_X8_24 rfl rfl (jv_lt hJ (by decide)) (jv_r hJ (by decide +kernel)) dX8_copyFrom_16 ?_
  refine s_alen (v := 16) E rfl (by decide) (jv_lt hJ (by decide)) (by decide) dX8_copyFrom_19 ?_
  refine z_min (u := 16) (v := 16) E ⟨k_535, k_369, k_4, k_370⟩ (Nat.le_of_ble_eq_true rfl) (Nat.le_of_ble_eq_true rfl) (Nat.le_of_ble_eq_true rfl) (Nat.le_of_ble_eq_true rfl) dX8_copyFrom_20 (by decide) (by decide) (fun z_1 hz_1 => ?_)
  refine z_copy100 (S := []) (u1 := 0) (u2 := 0) (u3 := z_1.toInt) E k_536 k_538 k_537 k_17 rfl rfl (jv_lt hJ (by decide)) (jv_lt hJ (by decide)) (by decide) (by decide) rfl (by omega) (by omega) (by omega) (by omega) (by omega) (Nat.le_of_ble_eq_true rfl) (Nat.le_of_ble_eq_true rfl) dX8_copyFrom_23 ?_
  refine s_gen (P := Jv w) (jv_c_8_44 hJ) (fun v_2 hj_3 => ?_)
  refine s_aload_n E dX8_copyFrom_26 rfl rfl ?_
  refine s_aload_n E dX8_copyFrom_27 rfl rfl ?_
  refine s_gI E fg_X8_28 rfl rfl (jv_lt hj_3 (by decide)) dX8_copyFrom_28 ?_
  refine z_nm (P := fun z => z.toInt = (v_2.2.2.1 7 3).toInt ∧ 0 ≤ z.toInt ∧ z.toInt ≤ 8) ⟨rfl, (rg_7_3 hj_3)⟩ (fun z_4 hz_4 => ?_)
  refine s_pI E fp_X8_28 (Or.inl rfl) rfl (jv_lt hj_3 (by decide)) dX8_copyFrom_31 ?_
  refine s_gen (P := Jv w) (jv_f_43_3 hj_3 (by have hb_ := z32 z_4; omega) (by have hb_ := z32 z_4; omega)) (fun v_5 hj_6 => ?_)
  exact r_void E dX8_copyFrom_34 hj_6
set_option maxRecDepth 20000 in
set_option maxHeartbeats 2000000 in
theorem Z_X8_copyFrom_45_r9 (l : Launch) (D : va_G) (aC : Nat → ClassId) (b : Nat) (w : XW)  (hI : Iv w)  : CnV l D aC b M_X8_copyFrom 1 60 0 0 [AR 45, AR 9] w (fun u => Jv w u) := by
  refine cn_V (own := RX8) (nm := "copyFrom") (L0 := [some (AR 45), some (AR 9)]) (by decide +kernel) rfl rfl (Nat.le_of_ble_eq_true rfl) rfl ?_
  intro p e s m args below meth c E hin
  have hJ : Jv w w := jv_rfl hI
  refine s_aload_n E dX8_copyFrom_0 rfl rfl ?_
  refine s_gR (r := 10) E fg_X8_24 rfl rfl (jv_lt hJ (by decide)) (jv_r hJ (by decide +kernel)) dX8_copyFrom_1 ?_
  refine s_iconst (v := 0) E dX8_copyFrom_4 (by decide) ?_
  refine s_aload_n E dX8_copyFrom_5 rfl rfl ?_
  refine s_gR (r := 46) E fg_X8_24 rfl rfl (jv_lt hJ (by decide)) (jv_r hJ (by decide +kernel)) dX8_copyFrom_6 ?_
  refine s_iconst (v := 0) E dX8_copyFrom_9 (by decide) ?_
  refine s_aload_n E dX8_copyFrom_10 rfl rfl ?_
  refine s_gR (r := 46) E fg_X8_24 rfl rfl (jv_lt hJ (by decide)) (jv_r hJ (by decide +kernel)) dX8_copyFrom_11 ?_
  refine s_alen (v := 30) E rfl (by decide) (jv_lt hJ (by decide)) (by decide) dX8_copyFrom_14 ?_
  refine s_aload_n E dX8_copyFrom_15 rfl rfl ?_
  refine s_gR (r := 10) E fg_X8_24 rfl rfl (jv_lt hJ (by decide)) (jv_r hJ (by decide +kernel)) dX8_copyFrom_16 ?_
  refine s_alen (v := 30) E rfl (by decide) (jv_lt hJ (by decide)) (by decide) dX8_copyFrom_19 ?_
  refine z_min (u := 30) (v := 30) E ⟨k_535, k_369, k_4, k_370⟩ (Nat.le_of_ble_eq_true rfl) (Nat.le_of_ble_eq_true rfl) (Nat.le_of_ble_eq_true rfl) (Nat.le_of_ble_eq_true rfl) dX8_copyFrom_20 (by decide) (by decide) (fun z_1 hz_1 => ?_)
  refine z_copy100 (S := []) (u1 := 0) (u2 := 0) (u3 := z_1.toInt) E k_536 k_538 k_537 k_17 rfl rfl (jv_lt hJ (by decide)) (jv_lt hJ (by decide)) (by decide) (by decide) rfl (by omega) (by omega) (by omega) (by omega) (by omega) (Nat.le_of_ble_eq_true rfl) (Nat.le_of_ble_eq_true rfl) dX8_copyFrom_23 ?_
  refine s_gen (P := Jv w) (jv_c_10_46 hJ) (fun v_2 hj_3 => ?_)
  refine s_aload_n E dX8_copyFrom_26 rfl rfl ?_
  refine s_aload_n E dX8_copyFrom_27 rfl rfl ?_
  refine s_gI E fg_X8_28 rfl rfl (jv_lt hj_3 (by decide)) dX8_copyFrom_28 ?_
  refine z_nm (P := fun z => z.toInt = (v_2.2.2.1 9 3).toInt ∧ 0 ≤ z.toInt ∧ z.toInt ≤ 10) ⟨rfl, (rg_9_3 hj_3)⟩ (fun z_4 hz_4 => ?_)
  refine s_pI E fp_X8_28 (Or.inl rfl) rfl (jv_lt hj_3 (by decide)) dX8_copyFrom_31 ?_
  refine s_gen (P := Jv w) (jv_f_45_3 hj_3 (by have hb_ := z32 z_4; omega) (by have hb_ := z32 z_4; omega)) (fun v_5 hj_6 => ?_)
  exact r_void E dX8_copyFrom_34 hj_6
set_option maxRecDepth 20000 in
set_option maxHeartbeats 2000000 in
theorem Z_X8_copyFrom_47_r11 (l : Launch) (D : va_G) (aC : Nat → ClassId) (b : Nat) (w : XW)  (hI : Iv w)  : CnV l D aC b M_X8_copyFrom 1 60 0 0 [AR 47, AR 11] w (fun u => Jv w u) := by
  refine cn_V (own := RX8) (nm := "copyFrom") (L0 := [some (AR 47), some (AR 11)]) (by decide +kernel) rfl rfl (Nat.le_of_ble_eq_true rfl) rfl ?_
  intro p e s m args below meth c E hin
  have hJ : Jv w w := jv_rfl hI
  refine s_aload_n E dX8_copyFrom_0 rfl rfl ?_
  refine s_gR (r := 12) E fg_X8_24 rfl rfl (jv_lt hJ (by decide)) (jv_r hJ (by decide +kernel)) dX8_copyFrom_1 ?_
  refine s_iconst (v := 0) E dX8_copyFrom_4 (by decide) ?_
  refine s_aload_n E dX8_copyFrom_5 rfl rfl ?_
  refine s_gR (r := 48) E fg_X8_24 rfl rfl (jv_lt hJ (by decide)) (jv_r hJ (by decide +kernel)) dX8_copyFrom_6 ?_
  refine s_iconst (v := 0) E dX8_copyFrom_9 (by decide) ?_
  refine s_aload_n E dX8_copyFrom_10 rfl rfl ?_
  refine s_gR (r := 48) E fg_X8_24 rfl rfl (jv_lt hJ (by decide)) (jv_r hJ (by decide +kernel)) dX8_copyFrom_11 ?_
  refine s_alen (v := 120) E rfl (by decide) (jv_lt hJ (by decide)) (by decide) dX8_copyFrom_14 ?_
  refine s_aload_n E dX8_copyFrom_15 rfl rfl ?_
  refine s_gR (r := 12) E fg_X8_24 rfl rfl (jv_lt hJ (by decide)) (jv_r hJ (by decide +kernel)) dX8_copyFrom_16 ?_
  refine s_alen (v := 120) E rfl (by decide) (jv_lt hJ (by decide)) (by decide) dX8_copyFrom_19 ?_
  refine z_min (u := 120) (v := 120) E ⟨k_535, k_369, k_4, k_370⟩ (Nat.le_of_ble_eq_true rfl) (Nat.le_of_ble_eq_true rfl) (Nat.le_of_ble_eq_true rfl) (Nat.le_of_ble_eq_true rfl) dX8_copyFrom_20 (by decide) (by decide) (fun z_1 hz_1 => ?_)
  refine z_copy100 (S := []) (u1 := 0) (u2 := 0) (u3 := z_1.toInt) E k_536 k_538 k_537 k_17 rfl rfl (jv_lt hJ (by decide)) (jv_lt hJ (by decide)) (by decide) (by decide) rfl (by omega) (by omega) (by omega) (by omega) (by omega) (Nat.le_of_ble_eq_true rfl) (Nat.le_of_ble_eq_true rfl) dX8_copyFrom_23 ?_
  refine s_gen (P := Jv w) (jv_c_12_48 hJ) (fun v_2 hj_3 => ?_)
  refine s_aload_n E dX8_copyFrom_26 rfl rfl ?_
  refine s_aload_n E dX8_copyFrom_27 rfl rfl ?_
  refine s_gI E fg_X8_28 rfl rfl (jv_lt hj_3 (by decide)) dX8_copyFrom_28 ?_
  refine z_nm (P := fun z => z.toInt = (v_2.2.2.1 11 3).toInt ∧ 0 ≤ z.toInt ∧ z.toInt ≤ 30) ⟨rfl, (rg_11_3 hj_3)⟩ (fun z_4 hz_4 => ?_)
  refine s_pI E fp_X8_28 (Or.inl rfl) rfl (jv_lt hj_3 (by decide)) dX8_copyFrom_31 ?_
  refine s_gen (P := Jv w) (jv_f_47_3 hj_3 (by have hb_ := z32 z_4; omega) (by have hb_ := z32 z_4; omega)) (fun v_5 hj_6 => ?_)
  exact r_void E dX8_copyFrom_34 hj_6
set_option maxRecDepth 20000 in
set_option maxHeartbeats 2000000 in
theorem Z_X0_copyFrom_38_r2 (l : Launch) (D : va_G) (aC : Nat → ClassId) (b : Nat) (w : XW)  (hI : Iv w)  : CnV l D aC b M_X0_copyFrom 2 81 0 0 [AR 38, AR 2] w (fun u => Jv w u) := by
  refine cn_V (own := RX0) (nm := "copyFrom") (L0 := [some (AR 38), some (AR 2)]) (by decide +kernel) rfl rfl (Nat.le_of_ble_eq_true rfl) rfl ?_
  intro p e s m args below meth c E hin
  have hJ : Jv w w := jv_rfl hI
  refine s_aload_n E dX0_copyFrom_0 rfl rfl ?_
  refine s_aload_n E dX0_copyFrom_1 rfl rfl ?_
  refine s_gI E fg_X0_32 rfl rfl (jv_lt hJ (by decide)) dX0_copyFrom_2 ?_
  refine z_nm (P := fun z => z.toInt = (w.2.2.1 2 0).toInt ∧ (-2147483648) ≤ z.toInt ∧ z.toInt ≤ 2147483647) ⟨rfl, z32 _⟩ (fun z_1 hz_1 => ?_)
  refine s_pI E fp_X0_32 (Or.inl rfl) rfl (jv_lt hJ (by decide)) dX0_copyFrom_5 ?_
  refine s_gen (P := Jv w) (jv_f_38_0 hJ (by have hb_ := z32 z_1; omega) (by have hb_ := z32 z_1; omega)) (fun v_2 hj_3 => ?_)
  refine s_aload_n E dX0_copyFrom_8 rfl rfl ?_
  refine s_aload_n E dX0_copyFrom_9 rfl rfl ?_
  refine s_gI E fg_X0_36 rfl rfl (jv_lt hj_3 (by decide)) dX0_copyFrom_10 ?_
  refine z_nm (P := fun z => z.toInt = (v_2.2.2.1 2 1).toInt ∧ 0 ≤ z.toInt ∧ z.toInt ≤ 8) ⟨rfl, (rg_2_1 hj_3)⟩ (fun z_4 hz_4 => ?_)
  refine s_pI E fp_X0_36 (Or.inl rfl) rfl (jv_lt hj_3 (by decide)) dX0_copyFrom_13 ?_
  refine s_gen (P := Jv w) (jv_f_38_1 hj_3 (by have hb_ := z32 z_4; omega) (by have hb_ := z32 z_4; omega)) (fun v_5 hj_6 => ?_)
  refine s_aload_n E dX0_copyFrom_16 rfl rfl ?_
  refine s_aload_n E dX0_copyFrom_17 rfl rfl ?_
  refine s_gI E fg_X0_39 rfl rfl (jv_lt hj_6 (by decide)) dX0_copyFrom_18 ?_
  refine z_nm (P := fun z => z.toInt = (v_5.2.2.1 2 2).toInt ∧ 0 ≤ z.toInt ∧ z.toInt ≤ 14) ⟨rfl, (rg_2_2 hj_6)⟩ (fun z_7 hz_7 => ?_)
  refine s_pI E fp_X0_39 (Or.inl rfl) rfl (jv_lt hj_6 (by decide)) dX0_copyFrom_21 ?_
  refine s_gen (P := Jv w) (jv_f_38_2 hj_6 (by have hb_ := z32 z_7; omega) (by have hb_ := z32 z_7; omega)) (fun v_8 hj_9 => ?_)
  refine s_aload_n E dX0_copyFrom_24 rfl rfl ?_
  refine s_aload_n E dX0_copyFrom_25 rfl rfl ?_
  refine s_gI E fg_X0_42 rfl rfl (jv_lt hj_9 (by decide)) dX0_copyFrom_26 ?_
  refine z_nm (P := fun z => z.toInt = (v_8.2.2.1 2 3).toInt ∧ (-2147483648) ≤ z.toInt ∧ z.toInt ≤ 2147483647) ⟨rfl, z32 _⟩ (fun z_10 hz_10 => ?_)
  refine s_pI E fp_X0_42 (Or.inl rfl) rfl (jv_lt hj_9 (by decide)) dX0_copyFrom_29 ?_
  refine s_gen (P := Jv w) (jv_f_38_3 hj_9 (by have hb_ := z32 z_10; omega) (by have hb_ := z32 z_10; omega)) (fun v_11 hj_12 => ?_)
  refine s_aload_n E dX0_copyFrom_32 rfl rfl ?_
  refine s_aload_n E dX0_copyFrom_33 rfl rfl ?_
  refine s_gI E fg_X0_45 rfl rfl (jv_lt hj_12 (by decide)) dX0_copyFrom_34 ?_
  refine z_nm (P := fun z => z.toInt = (v_11.2.2.1 2 4).toInt ∧ (-2147483648) ≤ z.toInt ∧ z.toInt ≤ 2147483647) ⟨rfl, z32 _⟩ (fun z_13 hz_13 => ?_)
  refine s_pI E fp_X0_45 (Or.inl rfl) rfl (jv_lt hj_12 (by decide)) dX0_copyFrom_37 ?_
  refine s_gen (P := Jv w) (jv_f_38_4 hj_12 (by have hb_ := z32 z_13; omega) (by have hb_ := z32 z_13; omega)) (fun v_14 hj_15 => ?_)
  refine s_aload_n E dX0_copyFrom_40 rfl rfl ?_
  refine s_gR (r := 39) E fg_X0_14 rfl rfl (jv_lt hj_15 (by decide)) (jv_r hj_15 (by decide +kernel)) dX0_copyFrom_41 ?_
  refine s_aload_n E dX0_copyFrom_44 rfl rfl ?_
  refine s_gR (r := 3) E fg_X0_14 rfl rfl (jv_lt hj_15 (by decide)) (jv_r hj_15 (by decide +kernel)) dX0_copyFrom_45 ?_
  refine s_vV (As := [AR 3]) (S := []) E (Z_X8_copyFrom_39_r3 l D aC b v_14  hj_15.1 ) cv_X0_51 rfl rfl rfl (jv_lt hj_15 (by decide)) (Nat.le_of_ble_eq_true rfl) (Nat.le_of_ble_eq_true rfl) ⟨(Nat.le_of_ble_eq_true rfl), (Nat.le_of_ble_eq_true rfl)⟩ (Nat.le_of_ble_eq_true rfl) dX0_copyFrom_48 (fun u_16 hp_17 => ?_)
  have hj_18 := jv_trans hj_15 hp_17
  refine s_aload_n E dX0_copyFrom_51 rfl rfl ?_
  refine s_gR (r := 41) E fg_X0_20 rfl rfl (jv_lt hj_18 (by decide)) (jv_r hj_18 (by decide +kernel)) dX0_copyFrom_52 ?_
  refine s_aload_n E dX0_copyFrom_55 rfl rfl ?_
  refine s_gR (r := 5) E fg_X0_20 rfl rfl (jv_lt hj_18 (by decide)) (jv_r hj_18 (by decide +kernel)) dX0_copyFrom_56 ?_
  refine s_vV (As := [AR 5]) (S := []) E (Z_X8_copyFrom_41_r5 l D aC b u_16  hj_18.1 ) cv_X0_51 rfl rfl rfl (jv_lt hj_18 (by decide)) (Nat.le_of_ble_eq_true rfl) (Nat.le_of_ble_eq_true rfl) ⟨(Nat.le_of_ble_eq_true rfl), (Nat.le_of_ble_eq_true rfl)⟩ (Nat.le_of_ble_eq_true rfl) dX0_copyFrom_59 (fun u_19 hp_20 => ?_)
  have hj_21 := jv_trans hj_18 hp_20
  refine s_aload_n E dX0_copyFrom_62 rfl rfl ?_
  refine s_gR (r := 43) E fg_X0_23 rfl rfl (jv_lt hj_21 (by decide)) (jv_r hj_21 (by decide +kernel)) dX0_copyFrom_63 ?_
  refine s_aload_n E dX0_copyFrom_66 rfl rfl ?_
  refine s_gR (r := 7) E fg_X0_23 rfl rfl (jv_lt hj_21 (by decide)) (jv_r hj_21 (by decide +kernel)) dX0_copyFrom_67 ?_
  refine s_vV (As := [AR 7]) (S := []) E (Z_X8_copyFrom_43_r7 l D aC b u_19  hj_21.1 ) cv_X0_51 rfl rfl rfl (jv_lt hj_21 (by decide)) (Nat.le_of_ble_eq_true rfl) (Nat.le_of_ble_eq_true rfl) ⟨(Nat.le_of_ble_eq_true rfl), (Nat.le_of_ble_eq_true rfl)⟩ (Nat.le_of_ble_eq_true rfl) dX0_copyFrom_70 (fun u_22 hp_23 => ?_)
  have hj_24 := jv_trans hj_21 hp_23
  refine s_aload_n E dX0_copyFrom_73 rfl rfl ?_
  refine s_gR (r := 45) E fg_X0_26 rfl rfl (jv_lt hj_24 (by decide)) (jv_r hj_24 (by decide +kernel)) dX0_copyFrom_74 ?_
  refine s_aload_n E dX0_copyFrom_77 rfl rfl ?_
  refine s_gR (r := 9) E fg_X0_26 rfl rfl (jv_lt hj_24 (by decide)) (jv_r hj_24 (by decide +kernel)) dX0_copyFrom_78 ?_
  refine s_vV (As := [AR 9]) (S := []) E (Z_X8_copyFrom_45_r9 l D aC b u_22  hj_24.1 ) cv_X0_51 rfl rfl rfl (jv_lt hj_24 (by decide)) (Nat.le_of_ble_eq_true rfl) (Nat.le_of_ble_eq_true rfl) ⟨(Nat.le_of_ble_eq_true rfl), (Nat.le_of_ble_eq_true rfl)⟩ (Nat.le_of_ble_eq_true rfl) dX0_copyFrom_81 (fun u_25 hp_26 => ?_)
  have hj_27 := jv_trans hj_24 hp_26
  refine s_aload_n E dX0_copyFrom_84 rfl rfl ?_
  refine s_gR (r := 47) E fg_X0_29 rfl rfl (jv_lt hj_27 (by decide)) (jv_r hj_27 (by decide +kernel)) dX0_copyFrom_85 ?_
  refine s_aload_n E dX0_copyFrom_88 rfl rfl ?_
  refine s_gR (r := 11) E fg_X0_29 rfl rfl (jv_lt hj_27 (by decide)) (jv_r hj_27 (by decide +kernel)) dX0_copyFrom_89 ?_
  refine s_vV (As := [AR 11]) (S := []) E (Z_X8_copyFrom_47_r11 l D aC b u_25  hj_27.1 ) cv_X0_51 rfl rfl rfl (jv_lt hj_27 (by decide)) (Nat.le_of_ble_eq_true rfl) (Nat.le_of_ble_eq_true rfl) ⟨(Nat.le_of_ble_eq_true rfl), (Nat.le_of_ble_eq_true rfl)⟩ (Nat.le_of_ble_eq_true rfl) dX0_copyFrom_92 (fun u_28 hp_29 => ?_)
  have hj_30 := jv_trans hj_27 hp_29
  exact r_void E dX0_copyFrom_95 hj_30
set_option maxRecDepth 20000 in
set_option maxHeartbeats 2000000 in
theorem Z_X8_copyFrom_50_r3 (l : Launch) (D : va_G) (aC : Nat → ClassId) (b : Nat) (w : XW)  (hI : Iv w)  : CnV l D aC b M_X8_copyFrom 1 60 0 0 [AR 50, AR 3] w (fun u => Jv w u) := by
  refine cn_V (own := RX8) (nm := "copyFrom") (L0 := [some (AR 50), some (AR 3)]) (by decide +kernel) rfl rfl (Nat.le_of_ble_eq_true rfl) rfl ?_
  intro p e s m args below meth c E hin
  have hJ : Jv w w := jv_rfl hI
  refine s_aload_n E dX8_copyFrom_0 rfl rfl ?_
  refine s_gR (r := 4) E fg_X8_24 rfl rfl (jv_lt hJ (by decide)) (jv_r hJ (by decide +kernel)) dX8_copyFrom_1 ?_
  refine s_iconst (v := 0) E dX8_copyFrom_4 (by decide) ?_
  refine s_aload_n E dX8_copyFrom_5 rfl rfl ?_
  refine s_gR (r := 51) E fg_X8_24 rfl rfl (jv_lt hJ (by decide)) (jv_r hJ (by decide +kernel)) dX8_copyFrom_6 ?_
  refine s_iconst (v := 0) E dX8_copyFrom_9 (by decide) ?_
  refine s_aload_n E dX8_copyFrom_10 rfl rfl ?_
  refine s_gR (r := 51) E fg_X8_24 rfl rfl (jv_lt hJ (by decide)) (jv_r hJ (by decide +kernel)) dX8_copyFrom_11 ?_
  refine s_alen (v := 36) E rfl (by decide) (jv_lt hJ (by decide)) (by decide) dX8_copyFrom_14 ?_
  refine s_aload_n E dX8_copyFrom_15 rfl rfl ?_
  refine s_gR (r := 4) E fg_X8_24 rfl rfl (jv_lt hJ (by decide)) (jv_r hJ (by decide +kernel)) dX8_copyFrom_16 ?_
  refine s_alen (v := 36) E rfl (by decide) (jv_lt hJ (by decide)) (by decide) dX8_copyFrom_19 ?_
  refine z_min (u := 36) (v := 36) E ⟨k_535, k_369, k_4, k_370⟩ (Nat.le_of_ble_eq_true rfl) (Nat.le_of_ble_eq_true rfl) (Nat.le_of_ble_eq_true rfl) (Nat.le_of_ble_eq_true rfl) dX8_copyFrom_20 (by decide) (by decide) (fun z_1 hz_1 => ?_)
  refine z_copy100 (S := []) (u1 := 0) (u2 := 0) (u3 := z_1.toInt) E k_536 k_538 k_537 k_17 rfl rfl (jv_lt hJ (by decide)) (jv_lt hJ (by decide)) (by decide) (by decide) rfl (by omega) (by omega) (by omega) (by omega) (by omega) (Nat.le_of_ble_eq_true rfl) (Nat.le_of_ble_eq_true rfl) dX8_copyFrom_23 ?_
  refine s_gen (P := Jv w) (jv_c_4_51 hJ) (fun v_2 hj_3 => ?_)
  refine s_aload_n E dX8_copyFrom_26 rfl rfl ?_
  refine s_aload_n E dX8_copyFrom_27 rfl rfl ?_
  refine s_gI E fg_X8_28 rfl rfl (jv_lt hj_3 (by decide)) dX8_copyFrom_28 ?_
  refine z_nm (P := fun z => z.toInt = (v_2.2.2.1 3 3).toInt ∧ 0 ≤ z.toInt ∧ z.toInt ≤ 12) ⟨rfl, (rg_3_3 hj_3)⟩ (fun z_4 hz_4 => ?_)
  refine s_pI E fp_X8_28 (Or.inl rfl) rfl (jv_lt hj_3 (by decide)) dX8_copyFrom_31 ?_
  refine s_gen (P := Jv w) (jv_f_50_3 hj_3 (by have hb_ := z32 z_4; omega) (by have hb_ := z32 z_4; omega)) (fun v_5 hj_6 => ?_)
  exact r_void E dX8_copyFrom_34 hj_6
set_option maxRecDepth 20000 in
set_option maxHeartbeats 2000000 in
theorem Z_X8_copyFrom_52_r5 (l : Launch) (D : va_G) (aC : Nat → ClassId) (b : Nat) (w : XW)  (hI : Iv w)  : CnV l D aC b M_X8_copyFrom 1 60 0 0 [AR 52, AR 5] w (fun u => Jv w u) := by
  refine cn_V (own := RX8) (nm := "copyFrom") (L0 := [some (AR 52), some (AR 5)]) (by decide +kernel) rfl rfl (Nat.le_of_ble_eq_true rfl) rfl ?_
  intro p e s m args below meth c E hin
  have hJ : Jv w w := jv_rfl hI
  refine s_aload_n E dX8_copyFrom_0 rfl rfl ?_
  refine s_gR (r := 6) E fg_X8_24 rfl rfl (jv_lt hJ (by decide)) (jv_r hJ (by decide +kernel)) dX8_copyFrom_1 ?_
  refine s_iconst (v := 0) E dX8_copyFrom_4 (by decide) ?_
  refine s_aload_n E dX8_copyFrom_5 rfl rfl ?_
  refine s_gR (r := 53) E fg_X8_24 rfl rfl (jv_lt hJ (by decide)) (jv_r hJ (by decide +kernel)) dX8_copyFrom_6 ?_
  refine s_iconst (v := 0) E dX8_copyFrom_9 (by decide) ?_
  refine s_aload_n E dX8_copyFrom_10 rfl rfl ?_
  refine s_gR (r := 53) E fg_X8_24 rfl rfl (jv_lt hJ (by decide)) (jv_r hJ (by decide +kernel)) dX8_copyFrom_11 ?_
  refine s_alen (v := 12) E rfl (by decide) (jv_lt hJ (by decide)) (by decide) dX8_copyFrom_14 ?_
  refine s_aload_n E dX8_copyFrom_15 rfl rfl ?_
  refine s_gR (r := 6) E fg_X8_24 rfl rfl (jv_lt hJ (by decide)) (jv_r hJ (by decide +kernel)) dX8_copyFrom_16 ?_
  refine s_alen (v := 12) E rfl (by decide) (jv_lt hJ (by decide)) (by decide) dX8_copyFrom_19 ?_
  refine z_min (u := 12) (v := 12) E ⟨k_535, k_369, k_4, k_370⟩ (Nat.le_of_ble_eq_true rfl) (Nat.le_of_ble_eq_true rfl) (Nat.le_of_ble_eq_true rfl) (Nat.le_of_ble_eq_true rfl) dX8_copyFrom_20 (by decide) (by decide) (fun z_1 hz_1 => ?_)
  refine z_copy100 (S := []) (u1 := 0) (u2 := 0) (u3 := z_1.toInt) E k_536 k_538 k_537 k_17 rfl rfl (jv_lt hJ (by decide)) (jv_lt hJ (by decide)) (by decide) (by decide) rfl (by omega) (by omega) (by omega) (by omega) (by omega) (Nat.le_of_ble_eq_true rfl) (Nat.le_of_ble_eq_true rfl) dX8_copyFrom_23 ?_
  refine s_gen (P := Jv w) (jv_c_6_53 hJ) (fun v_2 hj_3 => ?_)
  refine s_aload_n E dX8_copyFrom_26 rfl rfl ?_
  refine s_aload_n E dX8_copyFrom_27 rfl rfl ?_
  refine s_gI E fg_X8_28 rfl rfl (jv_lt hj_3 (by decide)) dX8_copyFrom_28 ?_
  refine z_nm (P := fun z => z.toInt = (v_2.2.2.1 5 3).toInt ∧ 0 ≤ z.toInt ∧ z.toInt ≤ 6) ⟨rfl, (rg_5_3 hj_3)⟩ (fun z_4 hz_4 => ?_)
  refine s_pI E fp_X8_28 (Or.inl rfl) rfl (jv_lt hj_3 (by decide)) dX8_copyFrom_31 ?_
  refine s_gen (P := Jv w) (jv_f_52_3 hj_3 (by have hb_ := z32 z_4; omega) (by have hb_ := z32 z_4; omega)) (fun v_5 hj_6 => ?_)
  exact r_void E dX8_copyFrom_34 hj_6
set_option maxRecDepth 20000 in
set_option maxHeartbeats 2000000 in
theorem Z_X8_copyFrom_54_r7 (l : Launch) (D : va_G) (aC : Nat → ClassId) (b : Nat) (w : XW)  (hI : Iv w)  : CnV l D aC b M_X8_copyFrom 1 60 0 0 [AR 54, AR 7] w (fun u => Jv w u) := by
  refine cn_V (own := RX8) (nm := "copyFrom") (L0 := [some (AR 54), some (AR 7)]) (by decide +kernel) rfl rfl (Nat.le_of_ble_eq_true rfl) rfl ?_
  intro p e s m args below meth c E hin
  have hJ : Jv w w := jv_rfl hI
  refine s_aload_n E dX8_copyFrom_0 rfl rfl ?_
  refine s_gR (r := 8) E fg_X8_24 rfl rfl (jv_lt hJ (by decide)) (jv_r hJ (by decide +kernel)) dX8_copyFrom_1 ?_
  refine s_iconst (v := 0) E dX8_copyFrom_4 (by decide) ?_
  refine s_aload_n E dX8_copyFrom_5 rfl rfl ?_
  refine s_gR (r := 55) E fg_X8_24 rfl rfl (jv_lt hJ (by decide)) (jv_r hJ (by decide +kernel)) dX8_copyFrom_6 ?_
  refine s_iconst (v := 0) E dX8_copyFrom_9 (by decide) ?_
  refine s_aload_n E dX8_copyFrom_10 rfl rfl ?_
  refine s_gR (r := 55) E fg_X8_24 rfl rfl (jv_lt hJ (by decide)) (jv_r hJ (by decide +kernel)) dX8_copyFrom_11 ?_
  refine s_alen (v := 16) E rfl (by decide) (jv_lt hJ (by decide)) (by decide) dX8_copyFrom_14 ?_
  refine s_aload_n E dX8_copyFrom_15 rfl rfl ?_
  refine s_gR (r := 8) E fg_X8_24 rfl rfl (jv_lt hJ (by decide)) (jv_r hJ (by decide +kernel)) dX8_copyFrom_16 ?_
  refine s_alen (v := 16) E rfl (by decide) (jv_lt hJ (by decide)) (by decide) dX8_copyFrom_19 ?_
  refine z_min (u := 16) (v := 16) E ⟨k_535, k_369, k_4, k_370⟩ (Nat.le_of_ble_eq_true rfl) (Nat.le_of_ble_eq_true rfl) (Nat.le_of_ble_eq_true rfl) (Nat.le_of_ble_eq_true rfl) dX8_copyFrom_20 (by decide) (by decide) (fun z_1 hz_1 => ?_)
  refine z_copy100 (S := []) (u1 := 0) (u2 := 0) (u3 := z_1.toInt) E k_536 k_538 k_537 k_17 rfl rfl (jv_lt hJ (by decide)) (jv_lt hJ (by decide)) (by decide) (by decide) rfl (by omega) (by omega) (by omega) (by omega) (by omega) (Nat.le_of_ble_eq_true rfl) (Nat.le_of_ble_eq_true rfl) dX8_copyFrom_23 ?_
  refine s_gen (P := Jv w) (jv_c_8_55 hJ) (fun v_2 hj_3 => ?_)
  refine s_aload_n E dX8_copyFrom_26 rfl rfl ?_
  refine s_aload_n E dX8_copyFrom_27 rfl rfl ?_
  refine s_gI E fg_X8_28 rfl rfl (jv_lt hj_3 (by decide)) dX8_copyFrom_28 ?_
  refine z_nm (P := fun z => z.toInt = (v_2.2.2.1 7 3).toInt ∧ 0 ≤ z.toInt ∧ z.toInt ≤ 8) ⟨rfl, (rg_7_3 hj_3)⟩ (fun z_4 hz_4 => ?_)
  refine s_pI E fp_X8_28 (Or.inl rfl) rfl (jv_lt hj_3 (by decide)) dX8_copyFrom_31 ?_
  refine s_gen (P := Jv w) (jv_f_54_3 hj_3 (by have hb_ := z32 z_4; omega) (by have hb_ := z32 z_4; omega)) (fun v_5 hj_6 => ?_)
  exact r_void E dX8_copyFrom_34 hj_6
set_option maxRecDepth 20000 in
set_option maxHeartbeats 2000000 in
theorem Z_X8_copyFrom_56_r9 (l : Launch) (D : va_G) (aC : Nat → ClassId) (b : Nat) (w : XW)  (hI : Iv w)  : CnV l D aC b M_X8_copyFrom 1 60 0 0 [AR 56, AR 9] w (fun u => Jv w u) := by
  refine cn_V (own := RX8) (nm := "copyFrom") (L0 := [some (AR 56), some (AR 9)]) (by decide +kernel) rfl rfl (Nat.le_of_ble_eq_true rfl) rfl ?_
  intro p e s m args below meth c E hin
  have hJ : Jv w w := jv_rfl hI
  refine s_aload_n E dX8_copyFrom_0 rfl rfl ?_
  refine s_gR (r := 10) E fg_X8_24 rfl rfl (jv_lt hJ (by decide)) (jv_r hJ (by decide +kernel)) dX8_copyFrom_1 ?_
  refine s_iconst (v := 0) E dX8_copyFrom_4 (by decide) ?_
  refine s_aload_n E dX8_copyFrom_5 rfl rfl ?_
  refine s_gR (r := 57) E fg_X8_24 rfl rfl (jv_lt hJ (by decide)) (jv_r hJ (by decide +kernel)) dX8_copyFrom_6 ?_
  refine s_iconst (v := 0) E dX8_copyFrom_9 (by decide) ?_
  refine s_aload_n E dX8_copyFrom_10 rfl rfl ?_
  refine s_gR (r := 57) E fg_X8_24 rfl rfl (jv_lt hJ (by decide)) (jv_r hJ (by decide +kernel)) dX8_copyFrom_11 ?_
  refine s_alen (v := 30) E rfl (by decide) (jv_lt hJ (by decide)) (by decide) dX8_copyFrom_14 ?_
  refine s_aload_n E dX8_copyFrom_15 rfl rfl ?_
  refine s_gR (r := 10) E fg_X8_24 rfl rfl (jv_lt hJ (by decide)) (jv_r hJ (by decide +kernel)) dX8_copyFrom_16 ?_
  refine s_alen (v := 30) E rfl (by decide) (jv_lt hJ (by decide)) (by decide) dX8_copyFrom_19 ?_
  refine z_min (u := 30) (v := 30) E ⟨k_535, k_369, k_4, k_370⟩ (Nat.le_of_ble_eq_true rfl) (Nat.le_of_ble_eq_true rfl) (Nat.le_of_ble_eq_true rfl) (Nat.le_of_ble_eq_true rfl) dX8_copyFrom_20 (by decide) (by decide) (fun z_1 hz_1 => ?_)
  refine z_copy100 (S := []) (u1 := 0) (u2 := 0) (u3 := z_1.toInt) E k_536 k_538 k_537 k_17 rfl rfl (jv_lt hJ (by decide)) (jv_lt hJ (by decide)) (by decide) (by decide) rfl (by omega) (by omega) (by omega) (by omega) (by omega) (Nat.le_of_ble_eq_true rfl) (Nat.le_of_ble_eq_true rfl) dX8_copyFrom_23 ?_
  refine s_gen (P := Jv w) (jv_c_10_57 hJ) (fun v_2 hj_3 => ?_)
  refine s_aload_n E dX8_copyFrom_26 rfl rfl ?_
  refine s_aload_n E dX8_copyFrom_27 rfl rfl ?_
  refine s_gI E fg_X8_28 rfl rfl (jv_lt hj_3 (by decide)) dX8_copyFrom_28 ?_
  refine z_nm (P := fun z => z.toInt = (v_2.2.2.1 9 3).toInt ∧ 0 ≤ z.toInt ∧ z.toInt ≤ 10) ⟨rfl, (rg_9_3 hj_3)⟩ (fun z_4 hz_4 => ?_)
  refine s_pI E fp_X8_28 (Or.inl rfl) rfl (jv_lt hj_3 (by decide)) dX8_copyFrom_31 ?_
  refine s_gen (P := Jv w) (jv_f_56_3 hj_3 (by have hb_ := z32 z_4; omega) (by have hb_ := z32 z_4; omega)) (fun v_5 hj_6 => ?_)
  exact r_void E dX8_copyFrom_34 hj_6
set_option maxRecDepth 20000 in
set_option maxHeartbeats 2000000 in
theorem Z_X8_copyFrom_58_r11 (l : Launch) (D : va_G) (aC : Nat → ClassId) (b : Nat) (w : XW)  (hI : Iv w)  : CnV l D aC b M_X8_copyFrom 1 60 0 0 [AR 58, AR 11] w (fun u => Jv w u) := by
  refine cn_V (own := RX8) (nm := "copyFrom") (L0 := [some (AR 58), some (AR 11)]) (by decide +kernel) rfl rfl (Nat.le_of_ble_eq_true rfl) rfl ?_
  intro p e s m args below meth c E hin
  have hJ : Jv w w := jv_rfl hI
  refine s_aload_n E dX8_copyFrom_0 rfl rfl ?_
  refine s_gR (r := 12) E fg_X8_24 rfl rfl (jv_lt hJ (by decide)) (jv_r hJ (by decide +kernel)) dX8_copyFrom_1 ?_
  refine s_iconst (v := 0) E dX8_copyFrom_4 (by decide) ?_
  refine s_aload_n E dX8_copyFrom_5 rfl rfl ?_
  refine s_gR (r := 59) E fg_X8_24 rfl rfl (jv_lt hJ (by decide)) (jv_r hJ (by decide +kernel)) dX8_copyFrom_6 ?_
  refine s_iconst (v := 0) E dX8_copyFrom_9 (by decide) ?_
  refine s_aload_n E dX8_copyFrom_10 rfl rfl ?_
  refine s_gR (r := 59) E fg_X8_24 rfl rfl (jv_lt hJ (by decide)) (jv_r hJ (by decide +kernel)) dX8_copyFrom_11 ?_
  refine s_alen (v := 120) E rfl (by decide) (jv_lt hJ (by decide)) (by decide) dX8_copyFrom_14 ?_
  refine s_aload_n E dX8_copyFrom_15 rfl rfl ?_
  refine s_gR (r := 12) E fg_X8_24 rfl rfl (jv_lt hJ (by decide)) (jv_r hJ (by decide +kernel)) dX8_copyFrom_16 ?_
  refine s_alen (v := 120) E rfl (by decide) (jv_lt hJ (by decide)) (by decide) dX8_copyFrom_19 ?_
  refine z_min (u := 120) (v := 120) E ⟨k_535, k_369, k_4, k_370⟩ (Nat.le_of_ble_eq_true rfl) (Nat.le_of_ble_eq_true rfl) (Nat.le_of_ble_eq_true rfl) (Nat.le_of_ble_eq_true rfl) dX8_copyFrom_20 (by decide) (by decide) (fun z_1 hz_1 => ?_)
  refine z_copy100 (S := []) (u1 := 0) (u2 := 0) (u3 := z_1.toInt) E k_536 k_538 k_537 k_17 rfl rfl (jv_lt hJ (by decide)) (jv_lt hJ (by decide)) (by decide) (by decide) rfl (by omega) (by omega) (by omega) (by omega) (by omega) (Nat.le_of_ble_eq_true rfl) (Nat.le_of_ble_eq_true rfl) dX8_copyFrom_23 ?_
  refine s_gen (P := Jv w) (jv_c_12_59 hJ) (fun v_2 hj_3 => ?_)
  refine s_aload_n E dX8_copyFrom_26 rfl rfl ?_
  refine s_aload_n E dX8_copyFrom_27 rfl rfl ?_
  refine s_gI E fg_X8_28 rfl rfl (jv_lt hj_3 (by decide)) dX8_copyFrom_28 ?_
  refine z_nm (P := fun z => z.toInt = (v_2.2.2.1 11 3).toInt ∧ 0 ≤ z.toInt ∧ z.toInt ≤ 30) ⟨rfl, (rg_11_3 hj_3)⟩ (fun z_4 hz_4 => ?_)
  refine s_pI E fp_X8_28 (Or.inl rfl) rfl (jv_lt hj_3 (by decide)) dX8_copyFrom_31 ?_
  refine s_gen (P := Jv w) (jv_f_58_3 hj_3 (by have hb_ := z32 z_4; omega) (by have hb_ := z32 z_4; omega)) (fun v_5 hj_6 => ?_)
  exact r_void E dX8_copyFrom_34 hj_6
set_option maxRecDepth 20000 in
set_option maxHeartbeats 2000000 in
theorem Z_X0_copyFrom_49_r2 (l : Launch) (D : va_G) (aC : Nat → ClassId) (b : Nat) (w : XW)  (hI : Iv w)  : CnV l D aC b M_X0_copyFrom 2 81 0 0 [AR 49, AR 2] w (fun u => Jv w u) := by
  refine cn_V (own := RX0) (nm := "copyFrom") (L0 := [some (AR 49), some (AR 2)]) (by decide +kernel) rfl rfl (Nat.le_of_ble_eq_true rfl) rfl ?_
  intro p e s m args below meth c E hin
  have hJ : Jv w w := jv_rfl hI
  refine s_aload_n E dX0_copyFrom_0 rfl rfl ?_
  refine s_aload_n E dX0_copyFrom_1 rfl rfl ?_
  refine s_gI E fg_X0_32 rfl rfl (jv_lt hJ (by decide)) dX0_copyFrom_2 ?_
  refine z_nm (P := fun z => z.toInt = (w.2.2.1 2 0).toInt ∧ (-2147483648) ≤ z.toInt ∧ z.toInt ≤ 2147483647) ⟨rfl, z32 _⟩ (fun z_1 hz_1 => ?_)
  refine s_pI E fp_X0_32 (Or.inl rfl) rfl (jv_lt hJ (by decide)) dX0_copyFrom_5 ?_
  refine s_gen (P := Jv w) (jv_f_49_0 hJ (by have hb_ := z32 z_1; omega) (by have hb_ := z32 z_1; omega)) (fun v_2 hj_3 => ?_)
  refine s_aload_n E dX0_copyFrom_8 rfl rfl ?_
  refine s_aload_n E dX0_copyFrom_9 rfl rfl ?_
  refine s_gI E fg_X0_36 rfl rfl (jv_lt hj_3 (by decide)) dX0_copyFrom_10 ?_
  refine z_nm (P := fun z => z.toInt = (v_2.2.2.1 2 1).toInt ∧ 0 ≤ z.toInt ∧ z.toInt ≤ 8) ⟨rfl, (rg_2_1 hj_3)⟩ (fun z_4 hz_4 => ?_)
  refine s_pI E fp_X0_36 (Or.inl rfl) rfl (jv_lt hj_3 (by decide)) dX0_copyFrom_13 ?_
  refine s_gen (P := Jv w) (jv_f_49_1 hj_3 (by have hb_ := z32 z_4; omega) (by have hb_ := z32 z_4; omega)) (fun v_5 hj_6 => ?_)
  refine s_aload_n E dX0_copyFrom_16 rfl rfl ?_
  refine s_aload_n E dX0_copyFrom_17 rfl rfl ?_
  refine s_gI E fg_X0_39 rfl rfl (jv_lt hj_6 (by decide)) dX0_copyFrom_18 ?_
  refine z_nm (P := fun z => z.toInt = (v_5.2.2.1 2 2).toInt ∧ 0 ≤ z.toInt ∧ z.toInt ≤ 14) ⟨rfl, (rg_2_2 hj_6)⟩ (fun z_7 hz_7 => ?_)
  refine s_pI E fp_X0_39 (Or.inl rfl) rfl (jv_lt hj_6 (by decide)) dX0_copyFrom_21 ?_
  refine s_gen (P := Jv w) (jv_f_49_2 hj_6 (by have hb_ := z32 z_7; omega) (by have hb_ := z32 z_7; omega)) (fun v_8 hj_9 => ?_)
  refine s_aload_n E dX0_copyFrom_24 rfl rfl ?_
  refine s_aload_n E dX0_copyFrom_25 rfl rfl ?_
  refine s_gI E fg_X0_42 rfl rfl (jv_lt hj_9 (by decide)) dX0_copyFrom_26 ?_
  refine z_nm (P := fun z => z.toInt = (v_8.2.2.1 2 3).toInt ∧ (-2147483648) ≤ z.toInt ∧ z.toInt ≤ 2147483647) ⟨rfl, z32 _⟩ (fun z_10 hz_10 => ?_)
  refine s_pI E fp_X0_42 (Or.inl rfl) rfl (jv_lt hj_9 (by decide)) dX0_copyFrom_29 ?_
  refine s_gen (P := Jv w) (jv_f_49_3 hj_9 (by have hb_ := z32 z_10; omega) (by have hb_ := z32 z_10; omega)) (fun v_11 hj_12 => ?_)
  refine s_aload_n E dX0_copyFrom_32 rfl rfl ?_
  refine s_aload_n E dX0_copyFrom_33 rfl rfl ?_
  refine s_gI E fg_X0_45 rfl rfl (jv_lt hj_12 (by decide)) dX0_copyFrom_34 ?_
  refine z_nm (P := fun z => z.toInt = (v_11.2.2.1 2 4).toInt ∧ (-2147483648) ≤ z.toInt ∧ z.toInt ≤ 2147483647) ⟨rfl, z32 _⟩ (fun z_13 hz_13 => ?_)
  refine s_pI E fp_X0_45 (Or.inl rfl) rfl (jv_lt hj_12 (by decide)) dX0_copyFrom_37 ?_
  refine s_gen (P := Jv w) (jv_f_49_4 hj_12 (by have hb_ := z32 z_13; omega) (by have hb_ := z32 z_13; omega)) (fun v_14 hj_15 => ?_)
  refine s_aload_n E dX0_copyFrom_40 rfl rfl ?_
  refine s_gR (r := 50) E fg_X0_14 rfl rfl (jv_lt hj_15 (by decide)) (jv_r hj_15 (by decide +kernel)) dX0_copyFrom_41 ?_
  refine s_aload_n E dX0_copyFrom_44 rfl rfl ?_
  refine s_gR (r := 3) E fg_X0_14 rfl rfl (jv_lt hj_15 (by decide)) (jv_r hj_15 (by decide +kernel)) dX0_copyFrom_45 ?_
  refine s_vV (As := [AR 3]) (S := []) E (Z_X8_copyFrom_50_r3 l D aC b v_14  hj_15.1 ) cv_X0_51 rfl rfl rfl (jv_lt hj_15 (by decide)) (Nat.le_of_ble_eq_true rfl) (Nat.le_of_ble_eq_true rfl) ⟨(Nat.le_of_ble_eq_true rfl), (Nat.le_of_ble_eq_true rfl)⟩ (Nat.le_of_ble_eq_true rfl) dX0_copyFrom_48 (fun u_16 hp_17 => ?_)
  have hj_18 := jv_trans hj_15 hp_17
  refine s_aload_n E dX0_copyFrom_51 rfl rfl ?_
  refine s_gR (r := 52) E fg_X0_20 rfl rfl (jv_lt hj_18 (by decide)) (jv_r hj_18 (by decide +kernel)) dX0_copyFrom_52 ?_
  refine s_aload_n E dX0_copyFrom_55 rfl rfl ?_
  refine s_gR (r := 5) E fg_X0_20 rfl rfl (jv_lt hj_18 (by decide)) (jv_r hj_18 (by decide +kernel)) dX0_copyFrom_56 ?_
  refine s_vV (As := [AR 5]) (S := []) E (Z_X8_copyFrom_52_r5 l D aC b u_16  hj_18.1 ) cv_X0_51 rfl rfl rfl (jv_lt hj_18 (by decide)) (Nat.le_of_ble_eq_true rfl) (Nat.le_of_ble_eq_true rfl) ⟨(Nat.le_of_ble_eq_true rfl), (Nat.le_of_ble_eq_true rfl)⟩ (Nat.le_of_ble_eq_true rfl) dX0_copyFrom_59 (fun u_19 hp_20 => ?_)
  have hj_21 := jv_trans hj_18 hp_20
  refine s_aload_n E dX0_copyFrom_62 rfl rfl ?_
  refine s_gR (r := 54) E fg_X0_23 rfl rfl (jv_lt hj_21 (by decide)) (jv_r hj_21 (by decide +kernel)) dX0_copyFrom_63 ?_
  refine s_aload_n E dX0_copyFrom_66 rfl rfl ?_
  refine s_gR (r := 7) E fg_X0_23 rfl rfl (jv_lt hj_21 (by decide)) (jv_r hj_21 (by decide +kernel)) dX0_copyFrom_67 ?_
  refine s_vV (As := [AR 7]) (S := []) E (Z_X8_copyFrom_54_r7 l D aC b u_19  hj_21.1 ) cv_X0_51 rfl rfl rfl (jv_lt hj_21 (by decide)) (Nat.le_of_ble_eq_true rfl) (Nat.le_of_ble_eq_true rfl) ⟨(Nat.le_of_ble_eq_true rfl), (Nat.le_of_ble_eq_true rfl)⟩ (Nat.le_of_ble_eq_true rfl) dX0_copyFrom_70 (fun u_22 hp_23 => ?_)
  have hj_24 := jv_trans hj_21 hp_23
  refine s_aload_n E dX0_copyFrom_73 rfl rfl ?_
  refine s_gR (r := 56) E fg_X0_26 rfl rfl (jv_lt hj_24 (by decide)) (jv_r hj_24 (by decide +kernel)) dX0_copyFrom_74 ?_
  refine s_aload_n E dX0_copyFrom_77 rfl rfl ?_
  refine s_gR (r := 9) E fg_X0_26 rfl rfl (jv_lt hj_24 (by decide)) (jv_r hj_24 (by decide +kernel)) dX0_copyFrom_78 ?_
  refine s_vV (As := [AR 9]) (S := []) E (Z_X8_copyFrom_56_r9 l D aC b u_22  hj_24.1 ) cv_X0_51 rfl rfl rfl (jv_lt hj_24 (by decide)) (Nat.le_of_ble_eq_true rfl) (Nat.le_of_ble_eq_true rfl) ⟨(Nat.le_of_ble_eq_true rfl), (Nat.le_of_ble_eq_true rfl)⟩ (Nat.le_of_ble_eq_true rfl) dX0_copyFrom_81 (fun u_25 hp_26 => ?_)
  have hj_27 := jv_trans hj_24 hp_26
  refine s_aload_n E dX0_copyFrom_84 rfl rfl ?_
  refine s_gR (r := 58) E fg_X0_29 rfl rfl (jv_lt hj_27 (by decide)) (jv_r hj_27 (by decide +kernel)) dX0_copyFrom_85 ?_
  refine s_aload_n E dX0_copyFrom_88 rfl rfl ?_
  refine s_gR (r := 11) E fg_X0_29 rfl rfl (jv_lt hj_27 (by decide)) (jv_r hj_27 (by decide +kernel)) dX0_copyFrom_89 ?_
  refine s_vV (As := [AR 11]) (S := []) E (Z_X8_copyFrom_58_r11 l D aC b u_25  hj_27.1 ) cv_X0_51 rfl rfl rfl (jv_lt hj_27 (by decide)) (Nat.le_of_ble_eq_true rfl) (Nat.le_of_ble_eq_true rfl) ⟨(Nat.le_of_ble_eq_true rfl), (Nat.le_of_ble_eq_true rfl)⟩ (Nat.le_of_ble_eq_true rfl) dX0_copyFrom_92 (fun u_28 hp_29 => ?_)
  have hj_30 := jv_trans hj_27 hp_29
  exact r_void E dX0_copyFrom_95 hj_30
set_option maxRecDepth 20000 in
set_option maxHeartbeats 2000000 in
theorem Z_X9_image_0 (l : Launch) (D : va_G) (aC : Nat → ClassId) (b : Nat) (w : XW) (x1 : Int32) (hI : Iv w)  : CnI l D aC b M_X9_image 3 102 0 0 [AR 0, AI x1] w (fun r u => (r.toInt = -2 ∧ ¬ (0 ≤ x1.toInt ∧ x1.toInt ≤ 2) ∧ w = u) ∨ (r.toInt = 0 ∧ (0 ≤ x1.toInt ∧ x1.toInt ≤ 2) ∧ Jv (upI w 26 x1.toNatClampNeg 1) u)) := by
  refine cn_I (own := RX9) (nm := "image") (L0 := [some (AR 0), some (AI x1)]) (by decide +kernel) rfl rfl (Nat.le_of_ble_eq_true rfl) rfl ?_
  intro p e s m args below meth c E hin
  have hJ : Jv w w := jv_rfl hI
  have hb_x1 := z32 x1
  refine s_iload_n E dX9_image_0 rfl rfl ?_
  refine z_if_lt (tgt := 9) (u := x1.toInt) E dX9_image_1 (by decide) rfl (fun h_1 => ?_) (fun h_1 => ?_)
  ·
    refine s_bipush (v := (-2)) E dX9_image_9 (by decide) ?_
    exact r_int E dX9_image_11 (Or.inl ⟨by decide, by omega, rfl⟩)
  ·
    refine s_iload_n E dX9_image_4 rfl rfl ?_
    refine s_iconst (v := 3) E dX9_image_5 (by decide) ?_
    refine z_icmp_lt (tgt := 12) (u := x1.toInt) (v := 3) E dX9_image_6 (by decide) rfl (by decide) (fun h_2 => ?_) (fun h_2 => ?_)
    ·
      refine s_aload_n E dX9_image_12 rfl rfl ?_
      refine s_gR (r := 25) E fg_X9_36 rfl rfl (jv_lt hJ (by decide)) (jv_r hJ (by decide +kernel)) dX9_image_13 ?_
      refine s_iload_n E dX9_image_16 rfl rfl ?_
      rcases (show x1 = 0 ∨ x1 = 1 ∨ x1 = 2 from (z_cases3 (u := x1.toInt) rfl (by omega) (by omega))) with rfl | rfl | rfl
      ·
        refine s_aald104 (r := 27) E rfl (jv_lt hJ (by decide)) (vp_c (by decide)) (jv_r hJ (by decide +kernel)) dX9_image_17 ?_
        refine s_aload_n E dX9_image_18 rfl rfl ?_
        refine s_gR (r := 2) E fg_X9_20 rfl rfl (jv_lt hJ (by decide)) (jv_r hJ (by decide +kernel)) dX9_image_19 ?_
        refine s_vV (As := [AR 2]) (S := []) E (Z_X0_copyFrom_27_r2 l D aC b w  hJ.1 ) cv_X9_103 rfl rfl rfl (jv_lt hJ (by decide)) (Nat.le_of_ble_eq_true rfl) (Nat.le_of_ble_eq_true rfl) ⟨(Nat.le_of_ble_eq_true rfl), (Nat.le_of_ble_eq_true rfl)⟩ (Nat.le_of_ble_eq_true rfl) dX9_image_22 (fun u_3 hp_4 => ?_)
        have hj_5 := jv_trans hJ hp_4
        refine s_aload_n E dX9_image_25 rfl rfl ?_
        refine s_gR (r := 26) E fg_X9_40 rfl rfl (jv_lt hj_5 (by decide)) (jv_r hj_5 (by decide +kernel)) dX9_image_26 ?_
        refine s_iload_n E dX9_image_29 rfl rfl ?_
        refine s_iconst (v := 1) E dX9_image_30 (by decide) ?_
        refine s_zast E rfl (jv_lt hj_5 (by decide)) (z_in (u := 0) (by decide) (by omega) (by omega)) dX9_image_31 ?_
        have hI_ : Jv (upI w 26 (0 : Int32).toNatClampNeg 1) (upI u_3 26 (0 : Int32).toNatClampNeg (vp_nar .boolean 1)) := img_k hj_5 (by decide)
        refine s_iconst (v := 0) E dX9_image_32 (by decide) ?_
        exact r_int E dX9_image_33 (Or.inr ⟨by decide, by decide, hI_⟩)
      ·
        refine s_aald104 (r := 38) E rfl (jv_lt hJ (by decide)) (vp_c (by decide)) (jv_r hJ (by decide +kernel)) dX9_image_17 ?_
        refine s_aload_n E dX9_image_18 rfl rfl ?_
        refine s_gR (r := 2) E fg_X9_20 rfl rfl (jv_lt hJ (by decide)) (jv_r hJ (by decide +kernel)) dX9_image_19 ?_
        refine s_vV (As := [AR 2]) (S := []) E (Z_X0_copyFrom_38_r2 l D aC b w  hJ.1 ) cv_X9_103 rfl rfl rfl (jv_lt hJ (by decide)) (Nat.le_of_ble_eq_true rfl) (Nat.le_of_ble_eq_true rfl) ⟨(Nat.le_of_ble_eq_true rfl), (Nat.le_of_ble_eq_true rfl)⟩ (Nat.le_of_ble_eq_true rfl) dX9_image_22 (fun u_6 hp_7 => ?_)
        have hj_8 := jv_trans hJ hp_7
        refine s_aload_n E dX9_image_25 rfl rfl ?_
        refine s_gR (r := 26) E fg_X9_40 rfl rfl (jv_lt hj_8 (by decide)) (jv_r hj_8 (by decide +kernel)) dX9_image_26 ?_
        refine s_iload_n E dX9_image_29 rfl rfl ?_
        refine s_iconst (v := 1) E dX9_image_30 (by decide) ?_
        refine s_zast E rfl (jv_lt hj_8 (by decide)) (z_in (u := 1) (by decide) (by omega) (by omega)) dX9_image_31 ?_
        have hI_ : Jv (upI w 26 (1 : Int32).toNatClampNeg 1) (upI u_6 26 (1 : Int32).toNatClampNeg (vp_nar .boolean 1)) := img_k hj_8 (by decide)
        refine s_iconst (v := 0) E dX9_image_32 (by decide) ?_
        exact r_int E dX9_image_33 (Or.inr ⟨by decide, by decide, hI_⟩)
      ·
        refine s_aald104 (r := 49) E rfl (jv_lt hJ (by decide)) (vp_c (by decide)) (jv_r hJ (by decide +kernel)) dX9_image_17 ?_
        refine s_aload_n E dX9_image_18 rfl rfl ?_
        refine s_gR (r := 2) E fg_X9_20 rfl rfl (jv_lt hJ (by decide)) (jv_r hJ (by decide +kernel)) dX9_image_19 ?_
        refine s_vV (As := [AR 2]) (S := []) E (Z_X0_copyFrom_49_r2 l D aC b w  hJ.1 ) cv_X9_103 rfl rfl rfl (jv_lt hJ (by decide)) (Nat.le_of_ble_eq_true rfl) (Nat.le_of_ble_eq_true rfl) ⟨(Nat.le_of_ble_eq_true rfl), (Nat.le_of_ble_eq_true rfl)⟩ (Nat.le_of_ble_eq_true rfl) dX9_image_22 (fun u_9 hp_10 => ?_)
        have hj_11 := jv_trans hJ hp_10
        refine s_aload_n E dX9_image_25 rfl rfl ?_
        refine s_gR (r := 26) E fg_X9_40 rfl rfl (jv_lt hj_11 (by decide)) (jv_r hj_11 (by decide +kernel)) dX9_image_26 ?_
        refine s_iload_n E dX9_image_29 rfl rfl ?_
        refine s_iconst (v := 1) E dX9_image_30 (by decide) ?_
        refine s_zast E rfl (jv_lt hj_11 (by decide)) (z_in (u := 2) (by decide) (by omega) (by omega)) dX9_image_31 ?_
        have hI_ : Jv (upI w 26 (2 : Int32).toNatClampNeg 1) (upI u_9 26 (2 : Int32).toNatClampNeg (vp_nar .boolean 1)) := img_k hj_11 (by decide)
        refine s_iconst (v := 0) E dX9_image_32 (by decide) ?_
        exact r_int E dX9_image_33 (Or.inr ⟨by decide, by decide, hI_⟩)
    ·
      refine s_bipush (v := (-2)) E dX9_image_9 (by decide) ?_
      exact r_int E dX9_image_11 (Or.inl ⟨by decide, by omega, rfl⟩)
set_option maxRecDepth 20000 in
set_option maxHeartbeats 2000000 in
theorem Z_J7_fill_d0a16_r62 (l : Launch) (D : va_G) (aC : Nat → ClassId) (b : Nat) (w : XW) (x1 : Int64) (hI : Iv w)  : CnV l D aC b M_J7_fill_d0a16 0 0 0 0 [AR 62, AL x1] w (fun u => Jv w u) := by
  refine cn_V (own := RJ7) (nm := "fill") (L0 := [some (AR 62), some (AL x1), none, none, none]) (by decide +kernel) rfl rfl (Nat.le_of_ble_eq_true rfl) rfl ?_
  intro p e s m args below meth c E hin
  have hJ : Jv w w := jv_rfl hI
  refine s_iconst (v := 0) E dJ7_fill_d0a16_0 (by decide) ?_
  refine s_istore_n (L2 := [some (AR 62), some (AL x1), none, some (AI 0), none]) E dJ7_fill_d0a16_1 rfl (by decide) rfl ?_
  refine s_aload_n E dJ7_fill_d0a16_2 rfl rfl ?_
  refine s_alen (v := 60) E rfl (by decide) (jv_lt hJ (by decide)) (by decide) dJ7_fill_d0a16_3 ?_
  refine s_istore (L2 := [some (AR 62), some (AL x1), none, some (AI 0), some (AI 60)]) E dJ7_fill_d0a16_4 (by decide) rfl ?_
  refine z_loop (St := Int32) (Pi := fun q6_3_0 v6 => (0 ≤ q6_3_0.toInt ∧ q6_3_0.toInt ≤ 60) ∧ Jv w v6) (Lf := fun q6_3_0 => [some (AR 62), some (AL x1), none, some (AI q6_3_0), some (AI 60)]) (fun q6_3_0 _ => (61 - q6_3_0.toInt).toNat) 0 ⟨⟨by decide, by decide⟩, hJ⟩ ?_
  rintro q6_3_0 v6 ⟨hq6_3, hj_1⟩ ih6
  refine s_loc (L2 := [some (AR 62), some (AL x1), none, some (AI q6_3_0), some (AI 60)]) rfl ?_
  refine s_iload_n E dJ7_fill_d0a16_6 rfl rfl ?_
  refine s_iload E dJ7_fill_d0a16_7 rfl ?_
  refine z_icmp_ge (tgt := 22) (u := q6_3_0.toInt) (v := 60) E dJ7_fill_d0a16_9 (by decide) rfl (by decide) (fun h_2 => ?_) (fun h_2 => ?_)
  ·
    exact r_void E dJ7_fill_d0a16_22 hj_1
  ·
    refine s_aload_n E dJ7_fill_d0a16_12 rfl rfl ?_
    refine s_iload_n E dJ7_fill_d0a16_13 rfl rfl ?_
    refine s_lload_n E dJ7_fill_d0a16_14 rfl rfl ?_
    refine s_last E rfl (jv_lt hj_1 (by decide)) (z_in (u := q6_3_0.toInt) rfl (by omega) (by omega)) dJ7_fill_d0a16_15 ?_
    refine s_gen (P := Jv w) (jv_L hj_1 (by decide)) (fun v_3 hj_4 => ?_)
    refine z_iinc (u := q6_3_0.toInt) (L2 := fun z_5 => [some (AR 62), some (AL x1), none, some (AI z_5), some (AI 60)]) E dJ7_fill_d0a16_16 rfl rfl (by decide) (fun _ => rfl) (by decide) (by omega) (by omega) (fun z_5 hz_5 => ?_)
    refine s_goto (tgt := 6) E dJ7_fill_d0a16_19 (by decide) ?_
    exact ih6 z_5 v_3 ⟨⟨by have hb_ := z32 z_5; omega, by have hb_ := z32 z_5; omega⟩, hj_4⟩ (by first | omega | decide | (dsimp only; omega) | (dsimp only; decide))
set_option maxRecDepth 20000 in
set_option maxHeartbeats 2000000 in
theorem Z_X7_start_61 (l : Launch) (D : va_G) (aC : Nat → ClassId) (b : Nat) (w : XW) (x1 : Int32) (x2 : Int32) (hI : Iv w) (hx1 : 0 ≤ x1.toInt ∧ x1.toInt ≤ 3) (hx2 : 0 ≤ x2.toInt ∧ x2.toInt ≤ 60) : CnV l D aC b M_X7_start 1 24 0 0 [AR 61, AI x1, AI x2] w (fun u => Jv (upI (upI w 61 1 x1) 61 2 x2) u) := by
  refine cn_V (own := RX7) (nm := "start") (L0 := [some (AR 61), some (AI x1), some (AI x2)]) (by decide +kernel) rfl rfl (Nat.le_of_ble_eq_true rfl) rfl ?_
  intro p e s m args below meth c E hin
  have hJ : Jv w w := jv_rfl hI
  refine s_aload_n E dX7_start_0 rfl rfl ?_
  refine s_iload_n E dX7_start_1 rfl rfl ?_
  refine s_pI E fp_X7_19 (Or.inl rfl) rfl (jv_lt hJ (by decide)) dX7_start_2 ?_
  have k1_ : Jv (upI w 61 1 x1) (upI w 61 1 x1) := jv_kp hJ (by decide) (in_of (a := 0) (z := 3) (by decide +kernel) (by decide) (by omega) (by omega))
  refine s_aload_n E dX7_start_5 rfl rfl ?_
  refine s_bipush (v := 60) E dX7_start_6 (by decide) ?_
  refine s_iload_n E dX7_start_8 rfl rfl ?_
  refine z_min (u := 60) (v := x2.toInt) E ⟨k_1212, k_369, k_4, k_370⟩ (Nat.le_of_ble_eq_true rfl) (Nat.le_of_ble_eq_true rfl) (Nat.le_of_ble_eq_true rfl) (Nat.le_of_ble_eq_true rfl) dX7_start_9 (by decide) rfl (fun zm_ hzm_ => ?_)
  have ez_ : x2 = zm_ := Int32.toInt_inj.mp (by omega)
  subst ez_
  refine s_pI E fp_X7_15 (Or.inl rfl) rfl (jv_lt k1_ (by decide)) dX7_start_12 ?_
  have k2_ : Jv (upI (upI w 61 1 x1) 61 2 x2) (upI (upI w 61 1 x1) 61 2 x2) := jv_kp k1_ (by decide) (in_of (a := (-1)) (z := 60) (by decide +kernel) (by decide) (by omega) (by omega))
  refine s_aload_n E dX7_start_15 rfl rfl ?_
  refine s_gR (r := 62) E fg_X7_11 rfl rfl (jv_lt k2_ (by decide)) (jv_r k2_ (by decide +kernel)) dX7_start_16 ?_
  refine s_lconst (v := 0) E dX7_start_19 (by decide) ?_
  refine s_sV (As := [AR 62, AL 0]) (S := []) E (Z_J7_fill_d0a16_r62 l D aC b (upI (upI w 61 1 x1) 61 2 x2) 0 k2_.1) cs_X7_28 rfl rfl (Nat.le_of_ble_eq_true rfl) (Nat.le_of_ble_eq_true rfl) ⟨(Nat.le_of_ble_eq_true rfl), (Nat.le_of_ble_eq_true rfl)⟩ (Nat.le_of_ble_eq_true rfl) dX7_start_20 (fun u_ hp_ => ?_)
  exact r_void E dX7_start_23 hp_
set_option maxRecDepth 20000 in
set_option maxHeartbeats 2000000 in
theorem Z_J7_fill_d0a16_r64 (l : Launch) (D : va_G) (aC : Nat → ClassId) (b : Nat) (w : XW) (x1 : Int64) (hI : Iv w)  : CnV l D aC b M_J7_fill_d0a16 0 0 0 0 [AR 64, AL x1] w (fun u => Jv w u) := by
  refine cn_V (own := RJ7) (nm := "fill") (L0 := [some (AR 64), some (AL x1), none, none, none]) (by decide +kernel) rfl rfl (Nat.le_of_ble_eq_true rfl) rfl ?_
  intro p e s m args below meth c E hin
  have hJ : Jv w w := jv_rfl hI
  refine s_iconst (v := 0) E dJ7_fill_d0a16_0 (by decide) ?_
  refine s_istore_n (L2 := [some (AR 64), some (AL x1), none, some (AI 0), none]) E dJ7_fill_d0a16_1 rfl (by decide) rfl ?_
  refine s_aload_n E dJ7_fill_d0a16_2 rfl rfl ?_
  refine s_alen (v := 60) E rfl (by decide) (jv_lt hJ (by decide)) (by decide) dJ7_fill_d0a16_3 ?_
  refine s_istore (L2 := [some (AR 64), some (AL x1), none, some (AI 0), some (AI 60)]) E dJ7_fill_d0a16_4 (by decide) rfl ?_
  refine z_loop (St := Int32) (Pi := fun q6_3_0 v6 => (0 ≤ q6_3_0.toInt ∧ q6_3_0.toInt ≤ 60) ∧ Jv w v6) (Lf := fun q6_3_0 => [some (AR 64), some (AL x1), none, some (AI q6_3_0), some (AI 60)]) (fun q6_3_0 _ => (61 - q6_3_0.toInt).toNat) 0 ⟨⟨by decide, by decide⟩, hJ⟩ ?_
  rintro q6_3_0 v6 ⟨hq6_3, hj_1⟩ ih6
  refine s_loc (L2 := [some (AR 64), some (AL x1), none, some (AI q6_3_0), some (AI 60)]) rfl ?_
  refine s_iload_n E dJ7_fill_d0a16_6 rfl rfl ?_
  refine s_iload E dJ7_fill_d0a16_7 rfl ?_
  refine z_icmp_ge (tgt := 22) (u := q6_3_0.toInt) (v := 60) E dJ7_fill_d0a16_9 (by decide) rfl (by decide) (fun h_2 => ?_) (fun h_2 => ?_)
  ·
    exact r_void E dJ7_fill_d0a16_22 hj_1
  ·
    refine s_aload_n E dJ7_fill_d0a16_12 rfl rfl ?_
    refine s_iload_n E dJ7_fill_d0a16_13 rfl rfl ?_
    refine s_lload_n E dJ7_fill_d0a16_14 rfl rfl ?_
    refine s_last E rfl (jv_lt hj_1 (by decide)) (z_in (u := q6_3_0.toInt) rfl (by omega) (by omega)) dJ7_fill_d0a16_15 ?_
    refine s_gen (P := Jv w) (jv_L hj_1 (by decide)) (fun v_3 hj_4 => ?_)
    refine z_iinc (u := q6_3_0.toInt) (L2 := fun z_5 => [some (AR 64), some (AL x1), none, some (AI z_5), some (AI 60)]) E dJ7_fill_d0a16_16 rfl rfl (by decide) (fun _ => rfl) (by decide) (by omega) (by omega) (fun z_5 hz_5 => ?_)
    refine s_goto (tgt := 6) E dJ7_fill_d0a16_19 (by decide) ?_
    exact ih6 z_5 v_3 ⟨⟨by have hb_ := z32 z_5; omega, by have hb_ := z32 z_5; omega⟩, hj_4⟩ (by first | omega | decide | (dsimp only; omega) | (dsimp only; decide))
set_option maxRecDepth 20000 in
set_option maxHeartbeats 2000000 in
theorem Z_X7_start_63 (l : Launch) (D : va_G) (aC : Nat → ClassId) (b : Nat) (w : XW) (x1 : Int32) (x2 : Int32) (hI : Iv w) (hx1 : 0 ≤ x1.toInt ∧ x1.toInt ≤ 3) (hx2 : 0 ≤ x2.toInt ∧ x2.toInt ≤ 60) : CnV l D aC b M_X7_start 1 24 0 0 [AR 63, AI x1, AI x2] w (fun u => Jv (upI (upI w 63 1 x1) 63 2 x2) u) := by
  refine cn_V (own := RX7) (nm := "start") (L0 := [some (AR 63), some (AI x1), some (AI x2)]) (by decide +kernel) rfl rfl (Nat.le_of_ble_eq_true rfl) rfl ?_
  intro p e s m args below meth c E hin
  have hJ : Jv w w := jv_rfl hI
  refine s_aload_n E dX7_start_0 rfl rfl ?_
  refine s_iload_n E dX7_start_1 rfl rfl ?_
  refine s_pI E fp_X7_19 (Or.inl rfl) rfl (jv_lt hJ (by decide)) dX7_start_2 ?_
  have k1_ : Jv (upI w 63 1 x1) (upI w 63 1 x1) := jv_kp hJ (by decide) (in_of (a := 0) (z := 3) (by decide +kernel) (by decide) (by omega) (by omega))
  refine s_aload_n E dX7_start_5 rfl rfl ?_
  refine s_bipush (v := 60) E dX7_start_6 (by decide) ?_
  refine s_iload_n E dX7_start_8 rfl rfl ?_
  refine z_min (u := 60) (v := x2.toInt) E ⟨k_1212, k_369, k_4, k_370⟩ (Nat.le_of_ble_eq_true rfl) (Nat.le_of_ble_eq_true rfl) (Nat.le_of_ble_eq_true rfl) (Nat.le_of_ble_eq_true rfl) dX7_start_9 (by decide) rfl (fun zm_ hzm_ => ?_)
  have ez_ : x2 = zm_ := Int32.toInt_inj.mp (by omega)
  subst ez_
  refine s_pI E fp_X7_15 (Or.inl rfl) rfl (jv_lt k1_ (by decide)) dX7_start_12 ?_
  have k2_ : Jv (upI (upI w 63 1 x1) 63 2 x2) (upI (upI w 63 1 x1) 63 2 x2) := jv_kp k1_ (by decide) (in_of (a := (-1)) (z := 60) (by decide +kernel) (by decide) (by omega) (by omega))
  refine s_aload_n E dX7_start_15 rfl rfl ?_
  refine s_gR (r := 64) E fg_X7_11 rfl rfl (jv_lt k2_ (by decide)) (jv_r k2_ (by decide +kernel)) dX7_start_16 ?_
  refine s_lconst (v := 0) E dX7_start_19 (by decide) ?_
  refine s_sV (As := [AR 64, AL 0]) (S := []) E (Z_J7_fill_d0a16_r64 l D aC b (upI (upI w 63 1 x1) 63 2 x2) 0 k2_.1) cs_X7_28 rfl rfl (Nat.le_of_ble_eq_true rfl) (Nat.le_of_ble_eq_true rfl) ⟨(Nat.le_of_ble_eq_true rfl), (Nat.le_of_ble_eq_true rfl)⟩ (Nat.le_of_ble_eq_true rfl) dX7_start_20 (fun u_ hp_ => ?_)
  exact r_void E dX7_start_23 hp_
set_option maxRecDepth 20000 in
set_option maxHeartbeats 2000000 in
theorem Z_J7_fill_d0a16_r66 (l : Launch) (D : va_G) (aC : Nat → ClassId) (b : Nat) (w : XW) (x1 : Int64) (hI : Iv w)  : CnV l D aC b M_J7_fill_d0a16 0 0 0 0 [AR 66, AL x1] w (fun u => Jv w u) := by
  refine cn_V (own := RJ7) (nm := "fill") (L0 := [some (AR 66), some (AL x1), none, none, none]) (by decide +kernel) rfl rfl (Nat.le_of_ble_eq_true rfl) rfl ?_
  intro p e s m args below meth c E hin
  have hJ : Jv w w := jv_rfl hI
  refine s_iconst (v := 0) E dJ7_fill_d0a16_0 (by decide) ?_
  refine s_istore_n (L2 := [some (AR 66), some (AL x1), none, some (AI 0), none]) E dJ7_fill_d0a16_1 rfl (by decide) rfl ?_
  refine s_aload_n E dJ7_fill_d0a16_2 rfl rfl ?_
  refine s_alen (v := 60) E rfl (by decide) (jv_lt hJ (by decide)) (by decide) dJ7_fill_d0a16_3 ?_
  refine s_istore (L2 := [some (AR 66), some (AL x1), none, some (AI 0), some (AI 60)]) E dJ7_fill_d0a16_4 (by decide) rfl ?_
  refine z_loop (St := Int32) (Pi := fun q6_3_0 v6 => (0 ≤ q6_3_0.toInt ∧ q6_3_0.toInt ≤ 60) ∧ Jv w v6) (Lf := fun q6_3_0 => [some (AR 66), some (AL x1), none, some (AI q6_3_0), some (AI 60)]) (fun q6_3_0 _ => (61 - q6_3_0.toInt).toNat) 0 ⟨⟨by decide, by decide⟩, hJ⟩ ?_
  rintro q6_3_0 v6 ⟨hq6_3, hj_1⟩ ih6
  refine s_loc (L2 := [some (AR 66), some (AL x1), none, some (AI q6_3_0), some (AI 60)]) rfl ?_
  refine s_iload_n E dJ7_fill_d0a16_6 rfl rfl ?_
  refine s_iload E dJ7_fill_d0a16_7 rfl ?_
  refine z_icmp_ge (tgt := 22) (u := q6_3_0.toInt) (v := 60) E dJ7_fill_d0a16_9 (by decide) rfl (by decide) (fun h_2 => ?_) (fun h_2 => ?_)
  ·
    exact r_void E dJ7_fill_d0a16_22 hj_1
  ·
    refine s_aload_n E dJ7_fill_d0a16_12 rfl rfl ?_
    refine s_iload_n E dJ7_fill_d0a16_13 rfl rfl ?_
    refine s_lload_n E dJ7_fill_d0a16_14 rfl rfl ?_
    refine s_last E rfl (jv_lt hj_1 (by decide)) (z_in (u := q6_3_0.toInt) rfl (by omega) (by omega)) dJ7_fill_d0a16_15 ?_
    refine s_gen (P := Jv w) (jv_L hj_1 (by decide)) (fun v_3 hj_4 => ?_)
    refine z_iinc (u := q6_3_0.toInt) (L2 := fun z_5 => [some (AR 66), some (AL x1), none, some (AI z_5), some (AI 60)]) E dJ7_fill_d0a16_16 rfl rfl (by decide) (fun _ => rfl) (by decide) (by omega) (by omega) (fun z_5 hz_5 => ?_)
    refine s_goto (tgt := 6) E dJ7_fill_d0a16_19 (by decide) ?_
    exact ih6 z_5 v_3 ⟨⟨by have hb_ := z32 z_5; omega, by have hb_ := z32 z_5; omega⟩, hj_4⟩ (by first | omega | decide | (dsimp only; omega) | (dsimp only; decide))
set_option maxRecDepth 20000 in
set_option maxHeartbeats 2000000 in
theorem Z_X7_start_65 (l : Launch) (D : va_G) (aC : Nat → ClassId) (b : Nat) (w : XW) (x1 : Int32) (x2 : Int32) (hI : Iv w) (hx1 : 0 ≤ x1.toInt ∧ x1.toInt ≤ 3) (hx2 : 0 ≤ x2.toInt ∧ x2.toInt ≤ 60) : CnV l D aC b M_X7_start 1 24 0 0 [AR 65, AI x1, AI x2] w (fun u => Jv (upI (upI w 65 1 x1) 65 2 x2) u) := by
  refine cn_V (own := RX7) (nm := "start") (L0 := [some (AR 65), some (AI x1), some (AI x2)]) (by decide +kernel) rfl rfl (Nat.le_of_ble_eq_true rfl) rfl ?_
  intro p e s m args below meth c E hin
  have hJ : Jv w w := jv_rfl hI
  refine s_aload_n E dX7_start_0 rfl rfl ?_
  refine s_iload_n E dX7_start_1 rfl rfl ?_
  refine s_pI E fp_X7_19 (Or.inl rfl) rfl (jv_lt hJ (by decide)) dX7_start_2 ?_
  have k1_ : Jv (upI w 65 1 x1) (upI w 65 1 x1) := jv_kp hJ (by decide) (in_of (a := 0) (z := 3) (by decide +kernel) (by decide) (by omega) (by omega))
  refine s_aload_n E dX7_start_5 rfl rfl ?_
  refine s_bipush (v := 60) E dX7_start_6 (by decide) ?_
  refine s_iload_n E dX7_start_8 rfl rfl ?_
  refine z_min (u := 60) (v := x2.toInt) E ⟨k_1212, k_369, k_4, k_370⟩ (Nat.le_of_ble_eq_true rfl) (Nat.le_of_ble_eq_true rfl) (Nat.le_of_ble_eq_true rfl) (Nat.le_of_ble_eq_true rfl) dX7_start_9 (by decide) rfl (fun zm_ hzm_ => ?_)
  have ez_ : x2 = zm_ := Int32.toInt_inj.mp (by omega)
  subst ez_
  refine s_pI E fp_X7_15 (Or.inl rfl) rfl (jv_lt k1_ (by decide)) dX7_start_12 ?_
  have k2_ : Jv (upI (upI w 65 1 x1) 65 2 x2) (upI (upI w 65 1 x1) 65 2 x2) := jv_kp k1_ (by decide) (in_of (a := (-1)) (z := 60) (by decide +kernel) (by decide) (by omega) (by omega))
  refine s_aload_n E dX7_start_15 rfl rfl ?_
  refine s_gR (r := 66) E fg_X7_11 rfl rfl (jv_lt k2_ (by decide)) (jv_r k2_ (by decide +kernel)) dX7_start_16 ?_
  refine s_lconst (v := 0) E dX7_start_19 (by decide) ?_
  refine s_sV (As := [AR 66, AL 0]) (S := []) E (Z_J7_fill_d0a16_r66 l D aC b (upI (upI w 65 1 x1) 65 2 x2) 0 k2_.1) cs_X7_28 rfl rfl (Nat.le_of_ble_eq_true rfl) (Nat.le_of_ble_eq_true rfl) ⟨(Nat.le_of_ble_eq_true rfl), (Nat.le_of_ble_eq_true rfl)⟩ (Nat.le_of_ble_eq_true rfl) dX7_start_20 (fun u_ hp_ => ?_)
  exact r_void E dX7_start_23 hp_
set_option maxRecDepth 20000 in
set_option maxHeartbeats 2000000 in
theorem Z_J7_fill_d0a16_r68 (l : Launch) (D : va_G) (aC : Nat → ClassId) (b : Nat) (w : XW) (x1 : Int64) (hI : Iv w)  : CnV l D aC b M_J7_fill_d0a16 0 0 0 0 [AR 68, AL x1] w (fun u => Jv w u) := by
  refine cn_V (own := RJ7) (nm := "fill") (L0 := [some (AR 68), some (AL x1), none, none, none]) (by decide +kernel) rfl rfl (Nat.le_of_ble_eq_true rfl) rfl ?_
  intro p e s m args below meth c E hin
  have hJ : Jv w w := jv_rfl hI
  refine s_iconst (v := 0) E dJ7_fill_d0a16_0 (by decide) ?_
  refine s_istore_n (L2 := [some (AR 68), some (AL x1), none, some (AI 0), none]) E dJ7_fill_d0a16_1 rfl (by decide) rfl ?_
  refine s_aload_n E dJ7_fill_d0a16_2 rfl rfl ?_
  refine s_alen (v := 60) E rfl (by decide) (jv_lt hJ (by decide)) (by decide) dJ7_fill_d0a16_3 ?_
  refine s_istore (L2 := [some (AR 68), some (AL x1), none, some (AI 0), some (AI 60)]) E dJ7_fill_d0a16_4 (by decide) rfl ?_
  refine z_loop (St := Int32) (Pi := fun q6_3_0 v6 => (0 ≤ q6_3_0.toInt ∧ q6_3_0.toInt ≤ 60) ∧ Jv w v6) (Lf := fun q6_3_0 => [some (AR 68), some (AL x1), none, some (AI q6_3_0), some (AI 60)]) (fun q6_3_0 _ => (61 - q6_3_0.toInt).toNat) 0 ⟨⟨by decide, by decide⟩, hJ⟩ ?_
  rintro q6_3_0 v6 ⟨hq6_3, hj_1⟩ ih6
  refine s_loc (L2 := [some (AR 68), some (AL x1), none, some (AI q6_3_0), some (AI 60)]) rfl ?_
  refine s_iload_n E dJ7_fill_d0a16_6 rfl rfl ?_
  refine s_iload E dJ7_fill_d0a16_7 rfl ?_
  refine z_icmp_ge (tgt := 22) (u := q6_3_0.toInt) (v := 60) E dJ7_fill_d0a16_9 (by decide) rfl (by decide) (fun h_2 => ?_) (fun h_2 => ?_)
  ·
    exact r_void E dJ7_fill_d0a16_22 hj_1
  ·
    refine s_aload_n E dJ7_fill_d0a16_12 rfl rfl ?_
    refine s_iload_n E dJ7_fill_d0a16_13 rfl rfl ?_
    refine s_lload_n E dJ7_fill_d0a16_14 rfl rfl ?_
    refine s_last E rfl (jv_lt hj_1 (by decide)) (z_in (u := q6_3_0.toInt) rfl (by omega) (by omega)) dJ7_fill_d0a16_15 ?_
    refine s_gen (P := Jv w) (jv_L hj_1 (by decide)) (fun v_3 hj_4 => ?_)
    refine z_iinc (u := q6_3_0.toInt) (L2 := fun z_5 => [some (AR 68), some (AL x1), none, some (AI z_5), some (AI 60)]) E dJ7_fill_d0a16_16 rfl rfl (by decide) (fun _ => rfl) (by decide) (by omega) (by omega) (fun z_5 hz_5 => ?_)
    refine s_goto (tgt := 6) E dJ7_fill_d0a16_19 (by decide) ?_
    exact ih6 z_5 v_3 ⟨⟨by have hb_ := z32 z_5; omega, by have hb_ := z32 z_5; omega⟩, hj_4⟩ (by first | omega | decide | (dsimp only; omega) | (dsimp only; decide))
set_option maxRecDepth 20000 in
set_option maxHeartbeats 2000000 in
theorem Z_X7_start_67 (l : Launch) (D : va_G) (aC : Nat → ClassId) (b : Nat) (w : XW) (x1 : Int32) (x2 : Int32) (hI : Iv w) (hx1 : 0 ≤ x1.toInt ∧ x1.toInt ≤ 3) (hx2 : 0 ≤ x2.toInt ∧ x2.toInt ≤ 60) : CnV l D aC b M_X7_start 1 24 0 0 [AR 67, AI x1, AI x2] w (fun u => Jv (upI (upI w 67 1 x1) 67 2 x2) u) := by
  refine cn_V (own := RX7) (nm := "start") (L0 := [some (AR 67), some (AI x1), some (AI x2)]) (by decide +kernel) rfl rfl (Nat.le_of_ble_eq_true rfl) rfl ?_
  intro p e s m args below meth c E hin
  have hJ : Jv w w := jv_rfl hI
  refine s_aload_n E dX7_start_0 rfl rfl ?_
  refine s_iload_n E dX7_start_1 rfl rfl ?_
  refine s_pI E fp_X7_19 (Or.inl rfl) rfl (jv_lt hJ (by decide)) dX7_start_2 ?_
  have k1_ : Jv (upI w 67 1 x1) (upI w 67 1 x1) := jv_kp hJ (by decide) (in_of (a := 0) (z := 3) (by decide +kernel) (by decide) (by omega) (by omega))
  refine s_aload_n E dX7_start_5 rfl rfl ?_
  refine s_bipush (v := 60) E dX7_start_6 (by decide) ?_
  refine s_iload_n E dX7_start_8 rfl rfl ?_
  refine z_min (u := 60) (v := x2.toInt) E ⟨k_1212, k_369, k_4, k_370⟩ (Nat.le_of_ble_eq_true rfl) (Nat.le_of_ble_eq_true rfl) (Nat.le_of_ble_eq_true rfl) (Nat.le_of_ble_eq_true rfl) dX7_start_9 (by decide) rfl (fun zm_ hzm_ => ?_)
  have ez_ : x2 = zm_ := Int32.toInt_inj.mp (by omega)
  subst ez_
  refine s_pI E fp_X7_15 (Or.inl rfl) rfl (jv_lt k1_ (by decide)) dX7_start_12 ?_
  have k2_ : Jv (upI (upI w 67 1 x1) 67 2 x2) (upI (upI w 67 1 x1) 67 2 x2) := jv_kp k1_ (by decide) (in_of (a := (-1)) (z := 60) (by decide +kernel) (by decide) (by omega) (by omega))
  refine s_aload_n E dX7_start_15 rfl rfl ?_
  refine s_gR (r := 68) E fg_X7_11 rfl rfl (jv_lt k2_ (by decide)) (jv_r k2_ (by decide +kernel)) dX7_start_16 ?_
  refine s_lconst (v := 0) E dX7_start_19 (by decide) ?_
  refine s_sV (As := [AR 68, AL 0]) (S := []) E (Z_J7_fill_d0a16_r68 l D aC b (upI (upI w 67 1 x1) 67 2 x2) 0 k2_.1) cs_X7_28 rfl rfl (Nat.le_of_ble_eq_true rfl) (Nat.le_of_ble_eq_true rfl) ⟨(Nat.le_of_ble_eq_true rfl), (Nat.le_of_ble_eq_true rfl)⟩ (Nat.le_of_ble_eq_true rfl) dX7_start_20 (fun u_ hp_ => ?_)
  exact r_void E dX7_start_23 hp_
set_option maxRecDepth 20000 in
set_option maxHeartbeats 2000000 in
theorem Z_X9_row_0 (l : Launch) (D : va_G) (aC : Nat → ClassId) (b : Nat) (w : XW) (x1 : Int32) (x2 : Int32) (x3 : Int32) (hI : Iv w)  : CnI l D aC b M_X9_row 2 46 0 0 [AR 0, AI x1, AI x2, AI x3] w (fun r u => (r.toInt = -2 ∧ ¬ rwC x1 x2 x3 ∧ w = u) ∨ (r.toInt = -3 ∧ rwC x1 x2 x3 ∧ x3.toInt < 0 ∧ w = u) ∨ (r.toInt = 0 ∧ rwC x1 x2 x3 ∧ 0 ≤ x3.toInt ∧ Jv (upI (upI w (61 + 2 * x1.toInt.toNat) 1 x2) (61 + 2 * x1.toInt.toNat) 2 x3) u)) := by
  refine cn_I (own := RX9) (nm := "row") (L0 := [some (AR 0), some (AI x1), some (AI x2), some (AI x3)]) (by decide +kernel) rfl rfl (Nat.le_of_ble_eq_true rfl) rfl ?_
  intro p e s m args below meth c E hin
  have hJ : Jv w w := jv_rfl hI
  have hb_x1 := z32 x1
  have hb_x2 := z32 x2
  have hb_x3 := z32 x3
  refine s_iload_n E dX9_row_0 rfl rfl ?_
  refine s_sI (As := [AI x1]) (S := []) E (Z_X9_isSlot l D aC b w x1 hJ.1 ) cs_X9_276 rfl rfl (Nat.le_of_ble_eq_true rfl) (Nat.le_of_ble_eq_true rfl) ⟨(Nat.le_of_ble_eq_true rfl), (Nat.le_of_ble_eq_true rfl)⟩ (Nat.le_of_ble_eq_true rfl) dX9_row_1 (fun z_3 u_1 hp_2 => ?_)
  obtain ⟨hz_3, hxz_3, hp_2⟩ := hp_2
  subst hp_2
  refine z_if_eq (tgt := 22) (u := z_3.toInt) E dX9_row_4 (by decide) rfl (fun h_5 => ?_) (fun h_5 => ?_)
  ·
    refine s_bipush (v := (-2)) E dX9_row_22 (by decide) ?_
    exact r_int E dX9_row_24 (Or.inl ⟨by decide, by unfold rwC; omega, rfl⟩)
  ·
    refine s_iload_n E dX9_row_7 rfl rfl ?_
    refine z_if_lt (tgt := 22) (u := x2.toInt) E dX9_row_8 (by decide) rfl (fun h_6 => ?_) (fun h_6 => ?_)
    ·
      refine s_bipush (v := (-2)) E dX9_row_22 (by decide) ?_
      exact r_int E dX9_row_24 (Or.inl ⟨by decide, by unfold rwC; omega, rfl⟩)
    ·
      refine s_iload_n E dX9_row_11 rfl rfl ?_
      refine s_iconst (v := 3) E dX9_row_12 (by decide) ?_
      refine z_icmp_gt (tgt := 22) (u := x2.toInt) (v := 3) E dX9_row_13 (by decide) rfl (by decide) (fun h_7 => ?_) (fun h_7 => ?_)
      ·
        refine s_bipush (v := (-2)) E dX9_row_22 (by decide) ?_
        exact r_int E dX9_row_24 (Or.inl ⟨by decide, by unfold rwC; omega, rfl⟩)
      ·
        refine s_iload_n E dX9_row_16 rfl rfl ?_
        refine s_bipush (v := 60) E dX9_row_17 (by decide) ?_
        refine z_icmp_le (tgt := 25) (u := x3.toInt) (v := 60) E dX9_row_19 (by decide) rfl (by decide) (fun h_8 => ?_) (fun h_8 => ?_)
        ·
          refine s_iload_n E dX9_row_25 rfl rfl ?_
          refine z_if_ge (tgt := 32) (u := x3.toInt) E dX9_row_26 (by decide) rfl (fun h_9 => ?_) (fun h_9 => ?_)
          ·
            refine s_aload_n E dX9_row_32 rfl rfl ?_
            refine s_gR (r := 60) E fg_X9_46 rfl rfl (jv_lt hJ (by decide)) (jv_r hJ (by decide +kernel)) dX9_row_33 ?_
            refine s_iload_n E dX9_row_36 rfl rfl ?_
            rcases (show x1 = 0 ∨ x1 = 1 ∨ x1 = 2 ∨ x1 = 3 from (z_cases4 (u := x1.toInt) rfl (by omega) (by omega))) with rfl | rfl | rfl | rfl
            ·
              refine s_aald105 (r := 61) E rfl (jv_lt hJ (by decide)) (vp_c (by decide)) (jv_r hJ (by decide +kernel)) dX9_row_37 ?_
              refine s_iload_n E dX9_row_38 rfl rfl ?_
              refine s_iload_n E dX9_row_39 rfl rfl ?_
              refine s_vV (As := [AI x2, AI x3]) (S := []) E (Z_X7_start_61 l D aC b w x2 x3 hJ.1 ⟨by have hb_ := z32 x2; omega, by have hb_ := z32 x2; omega⟩ ⟨by have hb_ := z32 x3; omega, by have hb_ := z32 x3; omega⟩) cv_X9_426 rfl rfl rfl (jv_lt hJ (by decide)) (Nat.le_of_ble_eq_true rfl) (Nat.le_of_ble_eq_true rfl) ⟨(Nat.le_of_ble_eq_true rfl), (Nat.le_of_ble_eq_true rfl)⟩ (Nat.le_of_ble_eq_true rfl) dX9_row_40 (fun u_10 hp_11 => ?_)
              refine s_iconst (v := 0) E dX9_row_43 (by decide) ?_
              exact r_int E dX9_row_44 (Or.inr (Or.inr ⟨by decide, by unfold rwC; have h0_ : (0 : Int32).toInt = 0 := (by decide); have h1_ : (1 : Int32).toInt = 1 := (by decide); have h2_ : (2 : Int32).toInt = 2 := (by decide); have h3_ : (3 : Int32).toInt = 3 := (by decide); omega, by omega, by first | exact hp_11 | (rw [show (0 : Int32).toInt.toNat = 0 by decide]; exact hp_11) | (rw [show (1 : Int32).toInt.toNat = 1 by decide]; exact hp_11) | (rw [show (2 : Int32).toInt.toNat = 2 by decide]; exact hp_11) | (rw [show (3 : Int32).toInt.toNat = 3 by decide]; exact hp_11)⟩))
            ·
              refine s_aald105 (r := 63) E rfl (jv_lt hJ (by decide)) (vp_c (by decide)) (jv_r hJ (by decide +kernel)) dX9_row_37 ?_
              refine s_iload_n E dX9_row_38 rfl rfl ?_
              refine s_iload_n E dX9_row_39 rfl rfl ?_
              refine s_vV (As := [AI x2, AI x3]) (S := []) E (Z_X7_start_63 l D aC b w x2 x3 hJ.1 ⟨by have hb_ := z32 x2; omega, by have hb_ := z32 x2; omega⟩ ⟨by have hb_ := z32 x3; omega, by have hb_ := z32 x3; omega⟩) cv_X9_426 rfl rfl rfl (jv_lt hJ (by decide)) (Nat.le_of_ble_eq_true rfl) (Nat.le_of_ble_eq_true rfl) ⟨(Nat.le_of_ble_eq_true rfl), (Nat.le_of_ble_eq_true rfl)⟩ (Nat.le_of_ble_eq_true rfl) dX9_row_40 (fun u_13 hp_14 => ?_)
              refine s_iconst (v := 0) E dX9_row_43 (by decide) ?_
              exact r_int E dX9_row_44 (Or.inr (Or.inr ⟨by decide, by unfold rwC; have h0_ : (0 : Int32).toInt = 0 := (by decide); have h1_ : (1 : Int32).toInt = 1 := (by decide); have h2_ : (2 : Int32).toInt = 2 := (by decide); have h3_ : (3 : Int32).toInt = 3 := (by decide); omega, by omega, by first | exact hp_14 | (rw [show (0 : Int32).toInt.toNat = 0 by decide]; exact hp_14) | (rw [show (1 : Int32).toInt.toNat = 1 by decide]; exact hp_14) | (rw [show (2 : Int32).toInt.toNat = 2 by decide]; exact hp_14) | (rw [show (3 : Int32).toInt.toNat = 3 by decide]; exact hp_14)⟩))
            ·
              refine s_aald105 (r := 65) E rfl (jv_lt hJ (by decide)) (vp_c (by decide)) (jv_r hJ (by decide +kernel)) dX9_row_37 ?_
              refine s_iload_n E dX9_row_38 rfl rfl ?_
              refine s_iload_n E dX9_row_39 rfl rfl ?_
              refine s_vV (As := [AI x2, AI x3]) (S := []) E (Z_X7_start_65 l D aC b w x2 x3 hJ.1 ⟨by have hb_ := z32 x2; omega, by have hb_ := z32 x2; omega⟩ ⟨by have hb_ := z32 x3; omega, by have hb_ := z32 x3; omega⟩) cv_X9_426 rfl rfl rfl (jv_lt hJ (by decide)) (Nat.le_of_ble_eq_true rfl) (Nat.le_of_ble_eq_true rfl) ⟨(Nat.le_of_ble_eq_true rfl), (Nat.le_of_ble_eq_true rfl)⟩ (Nat.le_of_ble_eq_true rfl) dX9_row_40 (fun u_16 hp_17 => ?_)
              refine s_iconst (v := 0) E dX9_row_43 (by decide) ?_
              exact r_int E dX9_row_44 (Or.inr (Or.inr ⟨by decide, by unfold rwC; have h0_ : (0 : Int32).toInt = 0 := (by decide); have h1_ : (1 : Int32).toInt = 1 := (by decide); have h2_ : (2 : Int32).toInt = 2 := (by decide); have h3_ : (3 : Int32).toInt = 3 := (by decide); omega, by omega, by first | exact hp_17 | (rw [show (0 : Int32).toInt.toNat = 0 by decide]; exact hp_17) | (rw [show (1 : Int32).toInt.toNat = 1 by decide]; exact hp_17) | (rw [show (2 : Int32).toInt.toNat = 2 by decide]; exact hp_17) | (rw [show (3 : Int32).toInt.toNat = 3 by decide]; exact hp_17)⟩))
            ·
              refine s_aald105 (r := 67) E rfl (jv_lt hJ (by decide)) (vp_c (by decide)) (jv_r hJ (by decide +kernel)) dX9_row_37 ?_
              refine s_iload_n E dX9_row_38 rfl rfl ?_
              refine s_iload_n E dX9_row_39 rfl rfl ?_
              refine s_vV (As := [AI x2, AI x3]) (S := []) E (Z_X7_start_67 l D aC b w x2 x3 hJ.1 ⟨by have hb_ := z32 x2; omega, by have hb_ := z32 x2; omega⟩ ⟨by have hb_ := z32 x3; omega, by have hb_ := z32 x3; omega⟩) cv_X9_426 rfl rfl rfl (jv_lt hJ (by decide)) (Nat.le_of_ble_eq_true rfl) (Nat.le_of_ble_eq_true rfl) ⟨(Nat.le_of_ble_eq_true rfl), (Nat.le_of_ble_eq_true rfl)⟩ (Nat.le_of_ble_eq_true rfl) dX9_row_40 (fun u_19 hp_20 => ?_)
              refine s_iconst (v := 0) E dX9_row_43 (by decide) ?_
              exact r_int E dX9_row_44 (Or.inr (Or.inr ⟨by decide, by unfold rwC; have h0_ : (0 : Int32).toInt = 0 := (by decide); have h1_ : (1 : Int32).toInt = 1 := (by decide); have h2_ : (2 : Int32).toInt = 2 := (by decide); have h3_ : (3 : Int32).toInt = 3 := (by decide); omega, by omega, by first | exact hp_20 | (rw [show (0 : Int32).toInt.toNat = 0 by decide]; exact hp_20) | (rw [show (1 : Int32).toInt.toNat = 1 by decide]; exact hp_20) | (rw [show (2 : Int32).toInt.toNat = 2 by decide]; exact hp_20) | (rw [show (3 : Int32).toInt.toNat = 3 by decide]; exact hp_20)⟩))
          ·
            refine s_bipush (v := (-3)) E dX9_row_29 (by decide) ?_
            exact r_int E dX9_row_31 (Or.inr (Or.inl ⟨by decide, by unfold rwC; omega, by omega, rfl⟩))
        ·
          refine s_bipush (v := (-2)) E dX9_row_22 (by decide) ?_
          exact r_int E dX9_row_24 (Or.inl ⟨by decide, by unfold rwC; omega, rfl⟩)
