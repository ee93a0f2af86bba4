set_option maxRecDepth 20000 in
set_option maxHeartbeats 2000000 in
theorem Z_X8_copyFrom_28_r3 (l : Launch) (D : va_G) (aC : Nat → ClassId) (b : Nat) (w : XW)  (hI : Iv w)  : CnV l D aC b M_X8_copyFrom 1 60 0 0 [AR 28, AR 3] w (fun u => Jv w u) := by
  refine cn_V (own := RX8) (nm := "copyFrom") (L0 := [some (AR 28), some (AR 3)]) (by decide +kernel) rfl rfl (Nat.le_of_ble_eq_true rfl) rfl ?_
  intro p e s m args below meth c E hin
  have hJ : Jv w w := jv_rfl hI
  refine s_aload_n E dX8_copyFrom_0 rfl rfl ?_
  refine s_gR (r := 4) E fg_X8_24 rfl rfl (jv_lt hJ (by decide)) (jv_r hJ (by decide +kernel)) dX8_copyFrom_1 ?_
  refine s_iconst (v := 0) E dX8_copyFrom_4 (by decide) ?_
  refine s_aload_n E dX8_copyFrom_5 rfl rfl ?_
  refine s_gR (r := 29) E fg_X8_24 rfl rfl (jv_lt hJ (by decide)) (jv_r hJ (by decide +kernel)) dX8_copyFrom_6 ?_
  refine s_iconst (v := 0) E dX8_copyFrom_9 (by decide) ?_
  refine s_aload_n E dX8_copyFrom_10 rfl rfl ?_
  refine s_gR (r := 29) E fg_X8_24 rfl rfl (jv_lt hJ (by decide)) (jv_r hJ (by decide +kernel)) dX8_copyFrom_11 ?_
  refine s_alen (v := 36) E rfl (by decide) (jv_lt hJ (by decide)) (by decide) dX8_copyFrom_14 ?_
  refine s_aload_n E dX8_copyFrom_15 rfl rfl ?_
  refine s_gR (r := 4) E fg_X8_24 rfl rfl (jv_lt hJ (by decide)) (jv_r hJ (by decide +kernel)) dX8_copyFrom_16 ?_
  refine s_alen (v := 36) E rfl (by decide) (jv_lt hJ (by decide)) (by decide) dX8_copyFrom_19 ?_
  refine z_min (u := 36) (v := 36) E ⟨k_535, k_369, k_4, k_370⟩ (Nat.le_of_ble_eq_true rfl) (Nat.le_of_ble_eq_true rfl) (Nat.le_of_ble_eq_true rfl) (Nat.le_of_ble_eq_true rfl) dX8_copyFrom_20 (by decide) (by decide) (fun z_1 hz_1 => ?_)
  refine z_copy100 (S := []) (u1 := 0) (u2 := 0) (u3 := z_1.toInt) E k_536 k_538 k_537 k_17 rfl rfl (jv_lt hJ (by decide)) (jv_lt hJ (by decide)) (by decide) (by decide) rfl (by omega) (by omega) (by omega) (by omega) (by omega) (Nat.le_of_ble_eq_true rfl) (Nat.le_of_ble_eq_true rfl) dX8_copyFrom_23 ?_
  refine s_gen (P := Jv w) (jv_c_4_29 hJ) (fun v_2 hj_3 => ?_)
  refine s_aload_n E dX8_copyFrom_26 rfl rfl ?_
  refine s_aload_n E dX8_copyFrom_27 rfl rfl ?_
  refine s_gI E fg_X8_28 rfl rfl (jv_lt hj_3 (by decide)) dX8_copyFrom_28 ?_
  refine z_nm (P := fun z => z.toInt = (v_2.2.2.1 3 3).toInt ∧ 0 ≤ z.toInt ∧ z.toInt ≤ 12) ⟨rfl, (rg_3_3 hj_3)⟩ (fun z_4 hz_4 => ?_)
  refine s_pI E fp_X8_28 (Or.inl rfl) rfl (jv_lt hj_3 (by decide)) dX8_copyFrom_31 ?_
  refine s_gen (P := Jv w) (jv_f_28_3 hj_3 (by have hb_ := z32 z_4; omega) (by have hb_ := z32 z_4; omega)) (fun v_5 hj_6 => ?_)
  exact r_void E dX8_copyFrom_34 hj_6
set_option maxRecDepth 20000 in
set_option maxHeartbeats 2000000 in
theorem Z_X8_copyFrom_30_r5 (l : Launch) (D : va_G) (aC : Nat → ClassId) (b : Nat) (w : XW)  (hI : Iv w)  : CnV l D aC b M_X8_copyFrom 1 60 0 0 [AR 30, AR 5] w (fun u => Jv w u) := by
  refine cn_V (own := RX8) (nm := "copyFrom") (L0 := [some (AR 30), some (AR 5)]) (by decide +kernel) rfl rfl (Nat.le_of_ble_eq_true rfl) rfl ?_
  intro p e s m args below meth c E hin
  have hJ : Jv w w := jv_rfl hI
  refine s_aload_n E dX8_copyFrom_0 rfl rfl ?_
  refine s_gR (r := 6) E fg_X8_24 rfl rfl (jv_lt hJ (by decide)) (jv_r hJ (by decide +kernel)) dX8_copyFrom_1 ?_
  refine s_iconst (v := 0) E dX8_copyFrom_4 (by decide) ?_
  refine s_aload_n E dX8_copyFrom_5 rfl rfl ?_
  refine s_gR (r := 31) E fg_X8_24 rfl rfl (jv_lt hJ (by decide)) (jv_r hJ (by decide +kernel)) dX8_copyFrom_6 ?_
  refine s_iconst (v := 0) E dX8_copyFrom_9 (by decide) ?_
  refine s_aload_n E dX8_copyFrom_10 rfl rfl ?_
  refine s_gR (r := 31) E fg_X8_24 rfl rfl (jv_lt hJ (by decide)) (jv_r hJ (by decide +kernel)) dX8_copyFrom_11 ?_
  refine s_alen (v := 12) E rfl (by decide) (jv_lt hJ (by decide)) (by decide) dX8_copyFrom_14 ?_
  refine s_aload_n E dX8_copyFrom_15 rfl rfl ?_
  refine s_gR (r := 6) E fg_X8_24 rfl rfl (jv_lt hJ (by decide)) (jv_r hJ (by decide +kernel)) dX8_copyFrom_16 ?_
  refine s_alen (v := 12) E rfl (by decide) (jv_lt hJ (by decide)) (by decide) dX8_copyFrom_19 ?_
  refine z_min (u := 12) (v := 12) E ⟨k_535, k_369, k_4, k_370⟩ (Nat.le_of_ble_eq_true rfl) (Nat.le_of_ble_eq_true rfl) (Nat.le_of_ble_eq_true rfl) (Nat.le_of_ble_eq_true rfl) dX8_copyFrom_20 (by decide) (by decide) (fun z_1 hz_1 => ?_)
  refine z_copy100 (S := []) (u1 := 0) (u2 := 0) (u3 := z_1.toInt) E k_536 k_538 k_537 k_17 rfl rfl (jv_lt hJ (by decide)) (jv_lt hJ (by decide)) (by decide) (by decide) rfl (by omega) (by omega) (by omega) (by omega) (by omega) (Nat.le_of_ble_eq_true rfl) (Nat.le_of_ble_eq_true rfl) dX8_copyFrom_23 ?_
  refine s_gen (P := Jv w) (jv_c_6_31 hJ) (fun v_2 hj_3 => ?_)
  refine s_aload_n E dX8_copyFrom_26 rfl rfl ?_
  refine s_aload_n E dX8_copyFrom_27 rfl rfl ?_
  refine s_gI E fg_X8_28 rfl rfl (jv_lt hj_3 (by decide)) dX8_copyFrom_28 ?_
  refine z_nm (P := fun z => z.toInt = (v_2.2.2.1 5 3).toInt ∧ 0 ≤ z.toInt ∧ z.toInt ≤ 6) ⟨rfl, (rg_5_3 hj_3)⟩ (fun z_4 hz_4 => ?_)
  refine s_pI E fp_X8_28 (Or.inl rfl) rfl (jv_lt hj_3 (by decide)) dX8_copyFrom_31 ?_
  refine s_gen (P := Jv w) (jv_f_30_3 hj_3 (by have hb_ := z32 z_4; omega) (by have hb_ := z32 z_4; omega)) (fun v_5 hj_6 => ?_)
  exact r_void E dX8_copyFrom_34 hj_6
set_option maxRecDepth 20000 in
set_option maxHeartbeats 2000000 in
theorem Z_X8_copyFrom_32_r7 (l : Launch) (D : va_G) (aC : Nat → ClassId) (b : Nat) (w : XW)  (hI : Iv w)  : CnV l D aC b M_X8_copyFrom 1 60 0 0 [AR 32, AR 7] w (fun u => Jv w u) := by
  refine cn_V (own := RX8) (nm := "copyFrom") (L0 := [some (AR 32), some (AR 7)]) (by decide +kernel) rfl rfl (Nat.le_of_ble_eq_true rfl) rfl ?_
  intro p e s m args below meth c E hin
  have hJ : Jv w w := jv_rfl hI
  refine s_aload_n E dX8_copyFrom_0 rfl rfl ?_
  refine s_gR (r := 8) E fg_X8_24 rfl rfl (jv_lt hJ (by decide)) (jv_r hJ (by decide +kernel)) dX8_copyFrom_1 ?_
  refine s_iconst (v := 0) E dX8_copyFrom_4 (by decide) ?_
  refine s_aload_n E dX8_copyFrom_5 rfl rfl ?_
  refine s_gR (r := 33) E fg_X8_24 rfl rfl (jv_lt hJ (by decide)) (jv_r hJ (by decide +kernel)) dX8_copyFrom_6 ?_
  refine s_iconst (v := 0) E dX8_copyFrom_9 (by decide) ?_
  refine s_aload_n E dX8_copyFrom_10 rfl rfl ?_
  refine s_gR (r := 33) E fg_X8_24 rfl rfl (jv_lt hJ (by decide)) (jv_r hJ (by decide +kernel)) dX8_copyFrom_11 ?_
  refine s_alen (v := 16) E rfl (by decide) (jv_lt hJ (by decide)) (by decide) dX8_copyFrom_14 ?_
  refine s_aload_n E dX8_copyFrom_15 rfl rfl ?_
  refine s_gR (r := 8) E fg_X8_24 rfl rfl (jv_lt hJ (by decide)) (jv_r hJ (by decide +kernel)) dX8_copyFrom_16 ?_
  refine s_alen (v := 16) E rfl (by decide) (jv_lt hJ (by decide)) (by decide) dX8_copyFrom_19 ?_
  refine z_min (u := 16) (v := 16) E ⟨k_535, k_369, k_4, k_370⟩ (Nat.le_of_ble_eq_true rfl) (Nat.le_of_ble_eq_true rfl) (Nat.le_of_ble_eq_true rfl) (Nat.le_of_ble_eq_true rfl) dX8_copyFrom_20 (by decide) (by decide) (fun z_1 hz_1 => ?_)
  refine z_copy100 (S := []) (u1 := 0) (u2 := 0) (u3 := z_1.toInt) E k_536 k_538 k_537 k_17 rfl rfl (jv_lt hJ (by decide)) (jv_lt hJ (by decide)) (by decide) (by decide) rfl (by omega) (by omega) (by omega) (by omega) (by omega) (Nat.le_of_ble_eq_true rfl) (Nat.le_of_ble_eq_true rfl) dX8_copyFrom_23 ?_
  refine s_gen (P := Jv w) (jv_c_8_33 hJ) (fun v_2 hj_3 => ?_)
  refine s_aload_n E dX8_copyFrom_26 rfl rfl ?_
  refine s_aload_n E dX8_copyFrom_27 rfl rfl ?_
  refine s_gI E fg_X8_28 rfl rfl (jv_lt hj_3 (by decide)) dX8_copyFrom_28 ?_
  refine z_nm (P := fun z => z.toInt = (v_2.2.2.1 7 3).toInt ∧ 0 ≤ z.toInt ∧ z.toInt ≤ 8) ⟨rfl, (rg_7_3 hj_3)⟩ (fun z_4 hz_4 => ?_)
  refine s_pI E fp_X8_28 (Or.inl rfl) rfl (jv_lt hj_3 (by decide)) dX8_copyFrom_31 ?_
  refine s_gen (P := Jv w) (jv_f_32_3 hj_3 (by have hb_ := z32 z_4; omega) (by have hb_ := z32 z_4; omega)) (fun v_5 hj_6 => ?_)
  exact r_void E dX8_copyFrom_34 hj_6
set_option maxRecDepth 20000 in
set_option maxHeartbeats 2000000 in
theorem Z_X8_copyFrom_34_r9 (l : Launch) (D : va_G) (aC : Nat → ClassId) (b : Nat) (w : XW)  (hI : Iv w)  : CnV l D aC b M_X8_copyFrom 1 60 0 0 [AR 34, AR 9] w (fun u => Jv w u) := by
  refine cn_V (own := RX8) (nm := "copyFrom") (L0 := [some (AR 34), some (AR 9)]) (by decide +kernel) rfl rfl (Nat.le_of_ble_eq_true rfl) rfl ?_
  intro p e s m args below meth c E hin
  have hJ : Jv w w := jv_rfl hI
  refine s_aload_n E dX8_copyFrom_0 rfl rfl ?_
  refine s_gR (r := 10) E fg_X8_24 rfl rfl (jv_lt hJ (by decide)) (jv_r hJ (by decide +kernel)) dX8_copyFrom_1 ?_
  refine s_iconst (v := 0) E dX8_copyFrom_4 (by decide) ?_
  refine s_aload_n E dX8_copyFrom_5 rfl rfl ?_
  refine s_gR (r := 35) E fg_X8_24 rfl rfl (jv_lt hJ (by decide)) (jv_r hJ (by decide +kernel)) dX8_copyFrom_6 ?_
  refine s_iconst (v := 0) E dX8_copyFrom_9 (by decide) ?_
  refine s_aload_n E dX8_copyFrom_10 rfl rfl ?_
  refine s_gR (r := 35) E fg_X8_24 rfl rfl (jv_lt hJ (by decide)) (jv_r hJ (by decide +kernel)) dX8_copyFrom_11 ?_
  refine s_alen (v := 30) E rfl (by decide) (jv_lt hJ (by decide)) (by decide) dX8_copyFrom_14 ?_
  refine s_aload_n E dX8_copyFrom_15 rfl rfl ?_
  refine s_gR (r := 10) E fg_X8_24 rfl rfl (jv_lt hJ (by decide)) (jv_r hJ (by decide +kernel)) dX8_copyFrom_16 ?_
  refine s_alen (v := 30) E rfl (by decide) (jv_lt hJ (by decide)) (by decide) dX8_copyFrom_19 ?_
  refine z_min (u := 30) (v := 30) E ⟨k_535, k_369, k_4, k_370⟩ (Nat.le_of_ble_eq_true rfl) (Nat.le_of_ble_eq_true rfl) (Nat.le_of_ble_eq_true rfl) (Nat.le_of_ble_eq_true rfl) dX8_copyFrom_20 (by decide) (by decide) (fun z_1 hz_1 => ?_)
  refine z_copy100 (S := []) (u1 := 0) (u2 := 0) (u3 := z_1.toInt) E k_536 k_538 k_537 k_17 rfl rfl (jv_lt hJ (by decide)) (jv_lt hJ (by decide)) (by decide) (by decide) rfl (by omega) (by omega) (by omega) (by omega) (by omega) (Nat.le_of_ble_eq_true rfl) (Nat.le_of_ble_eq_true rfl) dX8_copyFrom_23 ?_
  refine s_gen (P := Jv w) (jv_c_10_35 hJ) (fun v_2 hj_3 => ?_)
  refine s_aload_n E dX8_copyFrom_26 rfl rfl ?_
  refine s_aload_n E dX8_copyFrom_27 rfl rfl ?_
  refine s_gI E fg_X8_28 rfl rfl (jv_lt hj_3 (by decide)) dX8_copyFrom_28 ?_
  refine z_nm (P := fun z => z.toInt = (v_2.2.2.1 9 3).toInt ∧ 0 ≤ z.toInt ∧ z.toInt ≤ 10) ⟨rfl, (rg_9_3 hj_3)⟩ (fun z_4 hz_4 => ?_)
  refine s_pI E fp_X8_28 (Or.inl rfl) rfl (jv_lt hj_3 (by decide)) dX8_copyFrom_31 ?_
  refine s_gen (P := Jv w) (jv_f_34_3 hj_3 (by have hb_ := z32 z_4; omega) (by have hb_ := z32 z_4; omega)) (fun v_5 hj_6 => ?_)
  exact r_void E dX8_copyFrom_34 hj_6
set_option maxRecDepth 20000 in
set_option maxHeartbeats 2000000 in
theorem Z_X8_copyFrom_36_r11 (l : Launch) (D : va_G) (aC : Nat → ClassId) (b : Nat) (w : XW)  (hI : Iv w)  : CnV l D aC b M_X8_copyFrom 1 60 0 0 [AR 36, AR 11] w (fun u => Jv w u) := by
  refine cn_V (own := RX8) (nm := "copyFrom") (L0 := [some (AR 36), some (AR 11)]) (by decide +kernel) rfl rfl (Nat.le_of_ble_eq_true rfl) rfl ?_
  intro p e s m args below meth c E hin
  have hJ : Jv w w := jv_rfl hI
  refine s_aload_n E dX8_copyFrom_0 rfl rfl ?_
  refine s_gR (r := 12) E fg_X8_24 rfl rfl (jv_lt hJ (by decide)) (jv_r hJ (by decide +kernel)) dX8_copyFrom_1 ?_
  refine s_iconst (v := 0) E dX8_copyFrom_4 (by decide) ?_
  refine s_aload_n E dX8_copyFrom_5 rfl rfl ?_
  refine s_gR (r := 37) E fg_X8_24 rfl rfl (jv_lt hJ (by decide)) (jv_r hJ (by decide +kernel)) dX8_copyFrom_6 ?_
  refine s_iconst (v := 0) E dX8_copyFrom_9 (by decide) ?_
  refine s_aload_n E dX8_copyFrom_10 rfl rfl ?_
  refine s_gR (r := 37) E fg_X8_24 rfl rfl (jv_lt hJ (by decide)) (jv_r hJ (by decide +kernel)) dX8_copyFrom_11 ?_
  refine s_alen (v := 120) E rfl (by decide) (jv_lt hJ (by decide)) (by decide) dX8_copyFrom_14 ?_
  refine s_aload_n E dX8_copyFrom_15 rfl rfl ?_
  refine s_gR (r := 12) E fg_X8_24 rfl rfl (jv_lt hJ (by decide)) (jv_r hJ (by decide +kernel)) dX8_copyFrom_16 ?_
  refine s_alen (v := 120) E rfl (by decide) (jv_lt hJ (by decide)) (by decide) dX8_copyFrom_19 ?_
  refine z_min (u := 120) (v := 120) E ⟨k_535, k_369, k_4, k_370⟩ (Nat.le_of_ble_eq_true rfl) (Nat.le_of_ble_eq_true rfl) (Nat.le_of_ble_eq_true rfl) (Nat.le_of_ble_eq_true rfl) dX8_copyFrom_20 (by decide) (by decide) (fun z_1 hz_1 => ?_)
  refine z_copy100 (S := []) (u1 := 0) (u2 := 0) (u3 := z_1.toInt) E k_536 k_538 k_537 k_17 rfl rfl (jv_lt hJ (by decide)) (jv_lt hJ (by decide)) (by decide) (by decide) rfl (by omega) (by omega) (by omega) (by omega) (by omega) (Nat.le_of_ble_eq_true rfl) (Nat.le_of_ble_eq_true rfl) dX8_copyFrom_23 ?_
  refine s_gen (P := Jv w) (jv_c_12_37 hJ) (fun v_2 hj_3 => ?_)
  refine s_aload_n E dX8_copyFrom_26 rfl rfl ?_
  refine s_aload_n E dX8_copyFrom_27 rfl rfl ?_
  refine s_gI E fg_X8_28 rfl rfl (jv_lt hj_3 (by decide)) dX8_copyFrom_28 ?_
  refine z_nm (P := fun z => z.toInt = (v_2.2.2.1 11 3).toInt ∧ 0 ≤ z.toInt ∧ z.toInt ≤ 30) ⟨rfl, (rg_11_3 hj_3)⟩ (fun z_4 hz_4 => ?_)
  refine s_pI E fp_X8_28 (Or.inl rfl) rfl (jv_lt hj_3 (by decide)) dX8_copyFrom_31 ?_
  refine s_gen (P := Jv w) (jv_f_36_3 hj_3 (by have hb_ := z32 z_4; omega) (by have hb_ := z32 z_4; omega)) (fun v_5 hj_6 => ?_)
  exact r_void E dX8_copyFrom_34 hj_6
set_option maxRecDepth 20000 in
set_option maxHeartbeats 2000000 in
theorem Z_X0_copyFrom_27_r2 (l : Launch) (D : va_G) (aC : Nat → ClassId) (b : Nat) (w : XW)  (hI : Iv w)  : CnV l D aC b M_X0_copyFrom 2 81 0 0 [AR 27, AR 2] w (fun u => Jv w u) := by
  refine cn_V (own := RX0) (nm := "copyFrom") (L0 := [some (AR 27), some (AR 2)]) (by decide +kernel) rfl rfl (Nat.le_of_ble_eq_true rfl) rfl ?_
  intro p e s m args below meth c E hin
  have hJ : Jv w w := jv_rfl hI
  refine s_aload_n E dX0_copyFrom_0 rfl rfl ?_
  refine s_aload_n E dX0_copyFrom_1 rfl rfl ?_
  refine s_gI E fg_X0_32 rfl rfl (jv_lt hJ (by decide)) dX0_copyFrom_2 ?_
  refine z_nm (P := fun z => z.toInt = (w.2.2.1 2 0).toInt ∧ (-2147483648) ≤ z.toInt ∧ z.toInt ≤ 2147483647) ⟨rfl, z32 _⟩ (fun z_1 hz_1 => ?_)
  refine s_pI E fp_X0_32 (Or.inl rfl) rfl (jv_lt hJ (by decide)) dX0_copyFrom_5 ?_
  refine s_gen (P := Jv w) (jv_f_27_0 hJ (by have hb_ := z32 z_1; omega) (by have hb_ := z32 z_1; omega)) (fun v_2 hj_3 => ?_)
  refine s_aload_n E dX0_copyFrom_8 rfl rfl ?_
  refine s_aload_n E dX0_copyFrom_9 rfl rfl ?_
  refine s_gI E fg_X0_36 rfl rfl (jv_lt hj_3 (by decide)) dX0_copyFrom_10 ?_
  refine z_nm (P := fun z => z.toInt = (v_2.2.2.1 2 1).toInt ∧ 0 ≤ z.toInt ∧ z.toInt ≤ 8) ⟨rfl, (rg_2_1 hj_3)⟩ (fun z_4 hz_4 => ?_)
  refine s_pI E fp_X0_36 (Or.inl rfl) rfl (jv_lt hj_3 (by decide)) dX0_copyFrom_13 ?_
  refine s_gen (P := Jv w) (jv_f_27_1 hj_3 (by have hb_ := z32 z_4; omega) (by have hb_ := z32 z_4; omega)) (fun v_5 hj_6 => ?_)
  refine s_aload_n E dX0_copyFrom_16 rfl rfl ?_
  refine s_aload_n E dX0_copyFrom_17 rfl rfl ?_
  refine s_gI E fg_X0_39 rfl rfl (jv_lt hj_6 (by decide)) dX0_copyFrom_18 ?_
  refine z_nm (P := fun z => z.toInt = (v_5.2.2.1 2 2).toInt ∧ 0 ≤ z.toInt ∧ z.toInt ≤ 14) ⟨rfl, (rg_2_2 hj_6)⟩ (fun z_7 hz_7 => ?_)
  refine s_pI E fp_X0_39 (Or.inl rfl) rfl (jv_lt hj_6 (by decide)) dX0_copyFrom_21 ?_
  refine s_gen (P := Jv w) (jv_f_27_2 hj_6 (by have hb_ := z32 z_7; omega) (by have hb_ := z32 z_7; omega)) (fun v_8 hj_9 => ?_)
  refine s_aload_n E dX0_copyFrom_24 rfl rfl ?_
  refine s_aload_n E dX0_copyFrom_25 rfl rfl ?_
  refine s_gI E fg_X0_42 rfl rfl (jv_lt hj_9 (by decide)) dX0_copyFrom_26 ?_
  refine z_nm (P := fun z => z.toInt = (v_8.2.2.1 2 3).toInt ∧ (-2147483648) ≤ z.toInt ∧ z.toInt ≤ 2147483647) ⟨rfl, z32 _⟩ (fun z_10 hz_10 => ?_)
  refine s_pI E fp_X0_42 (Or.inl rfl) rfl (jv_lt hj_9 (by decide)) dX0_copyFrom_29 ?_
  refine s_gen (P := Jv w) (jv_f_27_3 hj_9 (by have hb_ := z32 z_10; omega) (by have hb_ := z32 z_10; omega)) (fun v_11 hj_12 => ?_)
  refine s_aload_n E dX0_copyFrom_32 rfl rfl ?_
  refine s_aload_n E dX0_copyFrom_33 rfl rfl ?_
  refine s_gI E fg_X0_45 rfl rfl (jv_lt hj_12 (by decide)) dX0_copyFrom_34 ?_
  refine z_nm (P := fun z => z.toInt = (v_11.2.2.1 2 4).toInt ∧ (-2147483648) ≤ z.toInt ∧ z.toInt ≤ 2147483647) ⟨rfl, z32 _⟩ (fun z_13 hz_13 => ?_)
  refine s_pI E fp_X0_45 (Or.inl rfl) rfl (jv_lt hj_12 (by decide)) dX0_copyFrom_37 ?_
  refine s_gen (P := Jv w) (jv_f_27_4 hj_12 (by have hb_ := z32 z_13; omega) (by have hb_ := z32 z_13; omega)) (fun v_14 hj_15 => ?_)
  refine s_aload_n E dX0_copyFrom_40 rfl rfl ?_
  refine s_gR (r := 28) E fg_X0_14 rfl rfl (jv_lt hj_15 (by decide)) (jv_r hj_15 (by decide +kernel)) dX0_copyFrom_41 ?_
  refine s_aload_n E dX0_copyFrom_44 rfl rfl ?_
  refine s_gR (r := 3) E fg_X0_14 rfl rfl (jv_lt hj_15 (by decide)) (jv_r hj_15 (by decide +kernel)) dX0_copyFrom_45 ?_
  refine s_vV (As := [AR 3]) (S := []) E (Z_X8_copyFrom_28_r3 l D aC b v_14  hj_15.1 ) cv_X0_51 rfl rfl rfl (jv_lt hj_15 (by decide)) (Nat.le_of_ble_eq_true rfl) (Nat.le_of_ble_eq_true rfl) ⟨(Nat.le_of_ble_eq_true rfl), (Nat.le_of_ble_eq_true rfl)⟩ (Nat.le_of_ble_eq_true rfl) dX0_copyFrom_48 (fun u_16 hp_17 => ?_)
  have hj_18 := jv_trans hj_15 hp_17
  refine s_aload_n E dX0_copyFrom_51 rfl rfl ?_
  refine s_gR (r := 30) E fg_X0_20 rfl rfl (jv_lt hj_18 (by decide)) (jv_r hj_18 (by decide +kernel)) dX0_copyFrom_52 ?_
  refine s_aload_n E dX0_copyFrom_55 rfl rfl ?_
  refine s_gR (r := 5) E fg_X0_20 rfl rfl (jv_lt hj_18 (by decide)) (jv_r hj_18 (by decide +kernel)) dX0_copyFrom_56 ?_
  refine s_vV (As := [AR 5]) (S := []) E (Z_X8_copyFrom_30_r5 l D aC b u_16  hj_18.1 ) cv_X0_51 rfl rfl rfl (jv_lt hj_18 (by decide)) (Nat.le_of_ble_eq_true rfl) (Nat.le_of_ble_eq_true rfl) ⟨(Nat.le_of_ble_eq_true rfl), (Nat.le_of_ble_eq_true rfl)⟩ (Nat.le_of_ble_eq_true rfl) dX0_copyFrom_59 (fun u_19 hp_20 => ?_)
  have hj_21 := jv_trans hj_18 hp_20
  refine s_aload_n E dX0_copyFrom_62 rfl rfl ?_
  refine s_gR (r := 32) E fg_X0_23 rfl rfl (jv_lt hj_21 (by decide)) (jv_r hj_21 (by decide +kernel)) dX0_copyFrom_63 ?_
  refine s_aload_n E dX0_copyFrom_66 rfl rfl ?_
  refine s_gR (r := 7) E fg_X0_23 rfl rfl (jv_lt hj_21 (by decide)) (jv_r hj_21 (by decide +kernel)) dX0_copyFrom_67 ?_
  refine s_vV (As := [AR 7]) (S := []) E (Z_X8_copyFrom_32_r7 l D aC b u_19  hj_21.1 ) cv_X0_51 rfl rfl rfl (jv_lt hj_21 (by decide)) (Nat.le_of_ble_eq_true rfl) (Nat.le_of_ble_eq_true rfl) ⟨(Nat.le_of_ble_eq_true rfl), (Nat.le_of_ble_eq_true rfl)⟩ (Nat.le_of_ble_eq_true rfl) dX0_copyFrom_70 (fun u_22 hp_23 => ?_)
  have hj_24 := jv_trans hj_21 hp_23
  refine s_aload_n E dX0_copyFrom_73 rfl rfl ?_
  refine s_gR (r := 34) E fg_X0_26 rfl rfl (jv_lt hj_24 (by decide)) (jv_r hj_24 (by decide +kernel)) dX0_copyFrom_74 ?_
  refine s_aload_n E dX0_copyFrom_77 rfl rfl ?_
  refine s_gR (r := 9) E fg_X0_26 rfl rfl (jv_lt hj_24 (by decide)) (jv_r hj_24 (by decide +kernel)) dX0_copyFrom_78 ?_
  refine s_vV (As := [AR 9]) (S := []) E (Z_X8_copyFrom_34_r9 l D aC b u_22  hj_24.1 ) cv_X0_51 rfl rfl rfl (jv_lt hj_24 (by decide)) (Nat.le_of_ble_eq_true rfl) (Nat.le_of_ble_eq_true rfl) ⟨(Nat.le_of_ble_eq_true rfl), (Nat.le_of_ble_eq_true rfl)⟩ (Nat.le_of_ble_eq_true rfl) dX0_copyFrom_81 (fun u_25 hp_26 => ?_)
  have hj_27 := jv_trans hj_24 hp_26
  refine s_aload_n E dX0_copyFrom_84 rfl rfl ?_
  refine s_gR (r := 36) E fg_X0_29 rfl rfl (jv_lt hj_27 (by decide)) (jv_r hj_27 (by decide +kernel)) dX0_copyFrom_85 ?_
  refine s_aload_n E dX0_copyFrom_88 rfl rfl ?_
  refine s_gR (r := 11) E fg_X0_29 rfl rfl (jv_lt hj_27 (by decide)) (jv_r hj_27 (by decide +kernel)) dX0_copyFrom_89 ?_
  refine s_vV (As := [AR 11]) (S := []) E (Z_X8_copyFrom_36_r11 l D aC b u_25  hj_27.1 ) cv_X0_51 rfl rfl rfl (jv_lt hj_27 (by decide)) (Nat.le_of_ble_eq_true rfl) (Nat.le_of_ble_eq_true rfl) ⟨(Nat.le_of_ble_eq_true rfl), (Nat.le_of_ble_eq_true rfl)⟩ (Nat.le_of_ble_eq_true rfl) dX0_copyFrom_92 (fun u_28 hp_29 => ?_)
  have hj_30 := jv_trans hj_27 hp_29
  exact r_void E dX0_copyFrom_95 hj_30
set_option maxRecDepth 20000 in
set_option maxHeartbeats 2000000 in
theorem Z_X8_copyFrom_39_r3 (l : Launch) (D : va_G) (aC : Nat → ClassId) (b : Nat) (w : XW)  (hI : Iv w)  : CnV l D aC b M_X8_copyFrom 1 60 0 0 [AR 39, AR 3] w (fun u => Jv w u) := by
  refine cn_V (own := RX8) (nm := "copyFrom") (L0 := [some (AR 39), some (AR 3)]) (by decide +kernel) rfl rfl (Nat.le_of_ble_eq_true rfl) rfl ?_
  intro p e s m args below meth c E hin
  have hJ : Jv w w := jv_rfl hI
  refine s_aload_n E dX8_copyFrom_0 rfl rfl ?_
  refine s_gR (r := 4) E fg_X8_24 rfl rfl (jv_lt hJ (by decide)) (jv_r hJ (by decide +kernel)) dX8_copyFrom_1 ?_
  refine s_iconst (v := 0) E dX8_copyFrom_4 (by decide) ?_
  refine s_aload_n E dX8_copyFrom_5 rfl rfl ?_
  refine s_gR (r := 40) E fg_X8_24 rfl rfl (jv_lt hJ (by decide)) (jv_r hJ (by decide +kernel)) dX8_copyFrom_6 ?_
  refine s_iconst (v := 0) E dX8_copyFrom_9 (by decide) ?_
  refine s_aload_n E dX8_copyFrom_10 rfl rfl ?_
  refine s_gR (r := 40) E fg_X8_24 rfl rfl (jv_lt hJ (by decide)) (jv_r hJ (by decide +kernel)) dX8_copyFrom_11 ?_
  refine s_alen (v := 36) E rfl (by decide) (jv_lt hJ (by decide)) (by decide) dX8_copyFrom_14 ?_
  refine s_aload_n E dX8_copyFrom_15 rfl rfl ?_
  refine s_gR (r := 4) E fg_X8_24 rfl rfl (jv_lt hJ (by decide)) (jv_r hJ (by decide +kernel)) dX8_copyFrom_16 ?_
  refine s_alen (v := 36) E rfl (by decide) (jv_lt hJ (by decide)) (by decide) dX8_copyFrom_19 ?_
  refine z_min (u := 36) (v := 36) E ⟨k_535, k_369, k_4, k_370⟩ (Nat.le_of_ble_eq_true rfl) (Nat.le_of_ble_eq_true rfl) (Nat.le_of_ble_eq_true rfl) (Nat.le_of_ble_eq_true rfl) dX8_copyFrom_20 (by decide) (by decide) (fun z_1 hz_1 => ?_)
  refine z_copy100 (S := []) (u1 := 0) (u2 := 0) (u3 := z_1.toInt) E k_536 k_538 k_537 k_17 rfl rfl (jv_lt hJ (by decide)) (jv_lt hJ (by decide)) (by decide) (by decide) rfl (by omega) (by omega) (by omega) (by omega) (by omega) (Nat.le_of_ble_eq_true rfl) (Nat.le_of_ble_eq_true rfl) dX8_copyFrom_23 ?_
  refine s_gen (P := Jv w) (jv_c_4_40 hJ) (fun v_2 hj_3 => ?_)
  refine s_aload_n E dX8_copyFrom_26 rfl rfl ?_
  refine s_aload_n E dX8_copyFrom_27 rfl rfl ?_
  refine s_gI E fg_X8_28 rfl rfl (jv_lt hj_3 (by decide)) dX8_copyFrom_28 ?_
  refine z_nm (P := fun z => z.toInt = (v_2.2.2.1 3 3).toInt ∧ 0 ≤ z.toInt ∧ z.toInt ≤ 12) ⟨rfl, (rg_3_3 hj_3)⟩ (fun z_4 hz_4 => ?_)
  refine s_pI E fp_X8_28 (Or.inl rfl) rfl (jv_lt hj_3 (by decide)) dX8_copyFrom_31 ?_
  refine s_gen (P := Jv w) (jv_f_39_3 hj_3 (by have hb_ := z32 z_4; omega) (by have hb_ := z32 z_4; omega)) (fun v_5 hj_6 => ?_)
  exact r_void E dX8_copyFrom_34 hj_6
set_option maxRecDepth 20000 in
set_option maxHeartbeats 2000000 in
theorem Z_X8_copyFrom_41_r5 (l : Launch) (D : va_G) (aC : Nat → ClassId) (b : Nat) (w : XW)  (hI : Iv w)  : CnV l D aC b M_X8_copyFrom 1 60 0 0 [AR 41, AR 5] w (fun u => Jv w u) := by
  refine cn_V (own := RX8) (nm := "copyFrom") (L0 := [some (AR 41), some (AR 5)]) (by decide +kernel) rfl rfl (Nat.le_of_ble_eq_true rfl) rfl ?_
  intro p e s m args below meth c E hin
  have hJ : Jv w w := jv_rfl hI
  refine s_aload_n E dX8_copyFrom_0 rfl rfl ?_
  refine s_gR (r := 6) E fg_X8_24 rfl rfl (jv_lt hJ (by decide)) (jv_r hJ (by decide +kernel)) dX8_copyFrom_1 ?_
  refine s_iconst (v := 0) E dX8_copyFrom_4 (by decide) ?_
  refine s_aload_n E dX8_copyFrom_5 rfl rfl ?_
  refine s_gR (r := 42) E fg_X8_24 rfl rfl (jv_lt hJ (by decide)) (jv_r hJ (by decide +kernel)) dX8_copyFrom_6 ?_
  refine s_iconst (v := 0) E dX8_copyFrom_9 (by decide) ?_
  refine s_aload_n E dX8_copyFrom_10 rfl rfl ?_
  refine s_gR (r := 42) E fg_X8_24 rfl rfl (jv_lt hJ (by decide)) (jv_r hJ (by decide +kernel)) dX8_copyFrom_11 ?_
  refine s_alen (v := 12) E rfl (by decide) (jv_lt hJ (by decide)) (by decide) dX8_copyFrom_14 ?_
  refine s_aload_n E dX8_copyFrom_15 rfl rfl ?_
  refine s_gR (r := 6) E fg_X8_24 rfl rfl (jv_lt hJ (by decide)) (jv_r hJ (by decide +kernel)) dX8_copyFrom_16 ?_
  refine s_alen (v := 12) E rfl (by decide) (jv_lt hJ (by decide)) (by decide) dX8_copyFrom_19 ?_
  refine z_min (u := 12) (v := 12) E ⟨k_535, k_369, k_4, k_370⟩ (Nat.le_of_ble_eq_true rfl) (Nat.le_of_ble_eq_true rfl) (Nat.le_of_ble_eq_true rfl) (Nat.le_of_ble_eq_true rfl) dX8_copyFrom_20 (by decide) (by decide) (fun z_1 hz_1 => ?_)
  refine z_copy100 (S := []) (u1 := 0) (u2 := 0) (u3 := z_1.toInt) E k_536 k_538 k_537 k_17 rfl rfl (jv_lt hJ (by decide)) (jv_lt hJ (by decide)) (by decide) (by decide) rfl (by omega) (by omega) (by omega) (by omega) (by omega) (Nat.le_of_ble_eq_true rfl) (Nat.le_of_ble_eq_true rfl) dX8_copyFrom_23 ?_
  refine s_gen (P := Jv w) (jv_c_6_42 hJ) (fun v_2 hj_3 => ?_)
  refine s_aload_n E dX8_copyFrom_26 rfl rfl ?_
  refine s_aload_n E dX8_copyFrom_27 rfl rfl ?_
  refine s_gI E fg_X8_28 rfl rfl (jv_lt hj_3 (by decide)) dX8_copyFrom_28 ?_
  refine z_nm (P := fun z => z.toInt = (v_2.2.2.1 5 3).toInt ∧ 0 ≤ z.toInt ∧ z.toInt ≤ 6) ⟨rfl, (rg_5_3 hj_3)⟩ (fun z_4 hz_4 => ?_)
  refine s_pI E fp_X8_28 (Or.inl rfl) rfl (jv_lt hj_3 (by decide)) dX8_copyFrom_31 ?_
  refine s_gen (P := Jv w) (jv_f_41_3 hj_3 (by have hb_ := z32 z_4; omega) (by have hb_ := z32 z_4; omega)) (fun v_5 hj_6 => ?_)
  exact r_void E dX8_copyFrom_34 hj_6
set_option maxRecDepth 20000 in
set_option maxHeartbeats 2000000 in
theorem Z_X8_copyFrom_43_r7 (l : Launch) (D : va_G) (aC : Nat → ClassId) (b : Nat) (w : XW)  (hI : Iv w)  : CnV l D aC b M_X8_copyFrom 1 60 0 0 [AR 43, AR 7] w (fun u => Jv w u) := by
  refine cn_V (own := RX8) (nm := "copyFrom") (L0 := [some (AR 43), some (AR 7)]) (by decide +kernel) rfl rfl (Nat.le_of_ble_eq_true rfl) rfl ?_
  intro p e s m args below meth c E hin
  have hJ : Jv w w := jv_rfl hI
  refine s_aload_n E dX8_copyFrom_0 rfl rfl ?_
  refine s_gR (r := 8) E fg_X8_24 rfl rfl (jv_lt hJ (by decide)) (jv_r hJ (by decide +kernel)) dX8_copyFrom_1 ?_
  refine s_iconst (v := 0) E dX8_copyFrom_4 (by decide) ?_
  refine s_aload_n E dX8_copyFrom_5 rfl rfl ?_
  refine s_gR (r := 44) E fg_X8_24 rfl rfl (jv_lt hJ (by decide)) (jv_r hJ (by decide +kernel)) dX8_copyFrom_6 ?_
  refine s_iconst (v := 0) E dX8_copyFrom_9 (by decide) ?_
  refine s_aload_n E dX8_copyFrom_10 rfl rfl ?_
  refine s_gR (r := 44) E fg_X8_24 rfl rfl (jv_lt hJ (by decide)) (jv_r hJ (by decide +kernel)) dX8_copyFrom_11 ?_
  refine s_alen (v := 16) E rfl (by decide) (jv_lt hJ (by decide)) (by decide) dX8_copyFrom_14 ?_
  refine s_aload_n E dX8_copyFrom_15 rfl rfl ?_
  refine s_gR (r := 8) E fg_X8_24 rfl rfl (jv_lt hJ (by decide)) (jv_r hJ (by decide +kernel)) dX8_copyFrom_16 ?_
  refine s_alen (v := 16) E rfl (by decide) (jv_lt hJ (by decide)) (by decide) dX8_copyFrom_19 ?_
  refine z_min (u := 16) (v := 16) E ⟨k_535, k_369, k_4, k_370⟩ (Nat.le_of_ble_eq_true rfl) (Nat.le_of_ble_eq_true rfl) (Nat.le_of_ble_eq_true rfl) (Nat.le_of_ble_eq_true rfl) dX8_copyFrom_20 (by decide) (by decide) (fun z_1 hz_1 => ?_)
  refine z_copy100 (S := []) (u1 := 0) (u2 := 0) (u3 := z_1.toInt) E k_536 k_538 k_537 k_17 rfl rfl (jv_lt hJ (by decide)) (jv_lt hJ (by decide)) (by decide) (by decide) rfl (by omega) (by omega) (by omega) (by omega) (by omega) (Nat.le_of_ble_eq_true rfl) (Nat.le_of_ble_eq_true rfl) dX8_copyFrom_23 ?_
  refine s_gen (P := Jv w) (jv_c_8_44 hJ) (fun v_2 hj_3 => ?_)
  refine s_aload_n E dX8_copyFrom_26 rfl rfl ?_
  refine s_aload_n E dX8_copyFrom_27 rfl rfl ?_
  refine s_gI E fg_X8_28 rfl rfl (jv_lt hj_3 (by decide)) dX8_copyFrom_28 ?_
  refine z_nm (P := fun z => z.toInt = (v_2.2.2.1 7 3).toInt ∧ 0 ≤ z.toInt ∧ z.toInt ≤ 8) ⟨rfl, (rg_7_3 hj_3)⟩ (fun z_4 hz_4 => ?_)
  refine s_pI E fp_X8_28 (Or.inl rfl) rfl (jv_lt hj_3 (by decide)) dX8_copyFrom_31 ?_
  refine s_gen (P := Jv w) (jv_f_43_3 hj_3 (by have hb_ := z32 z_4; omega) (by have hb_ := z32 z_4; omega)) (fun v_5 hj_6 => ?_)
  exact r_void E dX8_copyFrom_34 hj_6
set_option maxRecDepth 20000 in
set_option maxHeartbeats 2000000 in
theorem Z_X8_copyFrom_45_r9 (l : Launch) (D : va_G) (aC : Nat → ClassId) (b : Nat) (w : XW)  (hI : Iv w)  : CnV l D aC b M_X8_copyFrom 1 60 0 0 [AR 45, AR 9] w (fun u => Jv w u) := by
  refine cn_V (own := RX8) (nm := "copyFrom") (L0 := [some (AR 45), some (AR 9)]) (by decide +kernel) rfl rfl (Nat.le_of_ble_eq_true rfl) rfl ?_
  intro p e s m args below meth c E hin
  have hJ : Jv w w := jv_rfl hI
  refine s_aload_n E dX8_copyFrom_0 rfl rfl ?_
  refine s_gR (r := 10) E fg_X8_24 rfl rfl (jv_lt hJ (by decide)) (jv_r hJ (by decide +kernel)) dX8_copyFrom_1 ?_
  refine s_iconst (v := 0) E dX8_copyFrom_4 (by decide) ?_
  refine s_aload_n E dX8_copyFrom_5 rfl rfl ?_
  refine s_gR (r := 46) E fg_X8_24 rfl rfl (jv_lt hJ (by decide)) (jv_r hJ (by decide +kernel)) dX8_copyFrom_6 ?_
  refine s_iconst (v := 0) E dX8_copyFrom_9 (by decide) ?_
  refine s_aload_n E dX8_copyFrom_10 rfl rfl ?_
  refine s_gR (r := 46) E fg_X8_24 rfl rfl (jv_lt hJ (by decide)) (jv_r hJ (by decide +kernel)) dX8_copyFrom_11 ?_
  refine s_alen (v := 30) E rfl (by decide) (jv_lt hJ (by decide)) (by decide) dX8_copyFrom_14 ?_
  refine s_aload_n E dX8_copyFrom_15 rfl rfl ?_
  refine s_gR (r := 10) E fg_X8_24 rfl rfl (jv_lt hJ (by decide)) (jv_r hJ (by decide +kernel)) dX8_copyFrom_16 ?_
  refine s_alen (v := 30) E rfl (by decide) (jv_lt hJ (by decide)) (by decide) dX8_copyFrom_19 ?_
  refine z_min (u := 30) (v := 30) E ⟨k_535, k_369, k_4, k_370⟩ (Nat.le_of_ble_eq_true rfl) (Nat.le_of_ble_eq_true rfl) (Nat.le_of_ble_eq_true rfl) (Nat.le_of_ble_eq_true rfl) dX8_copyFrom_20 (by decide) (by decide) (fun z_1 hz_1 => ?_)
  refine z_copy100 (S := []) (u1 := 0) (u2 := 0) (u3 := z_1.toInt) E k_536 k_538 k_537 k_17 rfl rfl (jv_lt hJ (by decide)) (jv_lt hJ (by decide)) (by decide) (by decide) rfl (by omega) (by omega) (by omega) (by omega) (by omega) (Nat.le_of_ble_eq_true rfl) (Nat.le_of_ble_eq_true rfl) dX8_copyFrom_23 ?_
  refine s_gen (P := Jv w) (jv_c_10_46 hJ) (fun v_2 hj_3 => ?_)
  refine s_aload_n E dX8_copyFrom_26 rfl rfl ?_
  refine s_aload_n E dX8_copyFrom_27 rfl rfl ?_
  refine s_gI E fg_X8_28 rfl rfl (jv_lt hj_3 (by decide)) dX8_copyFrom_28 ?_
  refine z_nm (P := fun z => z.toInt = (v_2.2.2.1 9 3).toInt ∧ 0 ≤ z.toInt ∧ z.toInt ≤ 10) ⟨rfl, (rg_9_3 hj_3)⟩ (fun z_4 hz_4 => ?_)
  refine s_pI E fp_X8_28 (Or.inl rfl) rfl (jv_lt hj_3 (by decide)) dX8_copyFrom_31 ?_
  refine s_gen (P := Jv w) (jv_f_45_3 hj_3 (by have hb_ := z32 z_4; omega) (by have hb_ := z32 z_4; omega)) (fun v_5 hj_6 => ?_)
  exact r_void E dX8_copyFrom_34 hj_6
set_option maxRecDepth 20000 in
set_option maxHeartbeats 2000000 in
theorem Z_X8_copyFrom_47_r11 (l : Launch) (D : va_G) (aC : Nat → ClassId) (b : Nat) (w : XW)  (hI : Iv w)  : CnV l D aC b M_X8_copyFrom 1 60 0 0 [AR 47, AR 11] w (fun u => Jv w u) := by
  refine cn_V (own := RX8) (nm := "copyFrom") (L0 := [some (AR 47), some (AR 11)]) (by decide +kernel) rfl rfl (Nat.le_of_ble_eq_true rfl) rfl ?_
  intro p e s m args below meth c E hin
  have hJ : Jv w w := jv_rfl hI
  refine s_aload_n E dX8_copyFrom_0 rfl rfl ?_
  refine s_gR (r := 12) E fg_X8_24 rfl rfl (jv_lt hJ (by decide)) (jv_r hJ (by decide +kernel)) dX8_copyFrom_1 ?_
  refine s_iconst (v := 0) E dX8_copyFrom_4 (by decide) ?_
  refine s_aload_n E dX8_copyFrom_5 rfl rfl ?_
  refine s_gR (r := 48) E fg_X8_24 rfl rfl (jv_lt hJ (by decide)) (jv_r hJ (by decide +kernel)) dX8_copyFrom_6 ?_
  refine s_iconst (v := 0) E dX8_copyFrom_9 (by decide) ?_
  refine s_aload_n E dX8_copyFrom_10 rfl rfl ?_
  refine s_gR (r := 48) E fg_X8_24 rfl rfl (jv_lt hJ (by decide)) (jv_r hJ (by decide +kernel)) dX8_copyFrom_11 ?_
  refine s_alen (v := 120) E rfl (by decide) (jv_lt hJ (by decide)) (by decide) dX8_copyFrom_14 ?_
  refine s_aload_n E dX8_copyFrom_15 rfl rfl ?_
  refine s_gR (r := 12) E fg_X8_24 rfl rfl (jv_lt hJ (by decide)) (jv_r hJ (by decide +kernel)) dX8_copyFrom_16 ?_
  refine s_alen (v := 120) E rfl (by decide) (jv_lt hJ (by decide)) (by decide) dX8_copyFrom_19 ?_
  refine z_min (u := 120) (v := 120) E ⟨k_535, k_369, k_4, k_370⟩ (Nat.le_of_ble_eq_true rfl) (Nat.le_of_ble_eq_true rfl) (Nat.le_of_ble_eq_true rfl) (Nat.le_of_ble_eq_true rfl) dX8_copyFrom_20 (by decide) (by decide) (fun z_1 hz_1 => ?_)
  refine z_copy100 (S := []) (u1 := 0) (u2 := 0) (u3 := z_1.toInt) E k_536 k_538 k_537 k_17 rfl rfl (jv_lt hJ (by decide)) (jv_lt hJ (by decide)) (by decide) (by decide) rfl (by omega) (by omega) (by omega) (by omega) (by omega) (Nat.le_of_ble_eq_true rfl) (Nat.le_of_ble_eq_true rfl) dX8_copyFrom_23 ?_
  refine s_gen (P := Jv w) (jv_c_12_48 hJ) (fun v_2 hj_3 => ?_)
  refine s_aload_n E dX8_copyFrom_26 rfl rfl ?_
  refine s_aload_n E dX8_copyFrom_27 rfl rfl ?_
  refine s_gI E fg_X8_28 rfl rfl (jv_lt hj_3 (by decide)) dX8_copyFrom_28 ?_
  refine z_nm (P := fun z => z.toInt = (v_2.2.2.1 11 3).toInt ∧ 0 ≤ z.toInt ∧ z.toInt ≤ 30) ⟨rfl, (rg_11_3 hj_3)⟩ (fun z_4 hz_4 => ?_)
  refine s_pI E fp_X8_28 (Or.inl rfl) rfl (jv_lt hj_3 (by decide)) dX8_copyFrom_31 ?_
  refine s_gen (P := Jv w) (jv_f_47_3 hj_3 (by have hb_ := z32 z_4; omega) (by have hb_ := z32 z_4; omega)) (fun v_5 hj_6 => ?_)
  exact r_void E dX8_copyFrom_34 hj_6
set_option maxRecDepth 20000 in
set_option maxHeartbeats 2000000 in
theorem Z_X0_copyFrom_38_r2 (l : Launch) (D : va_G) (aC : Nat → ClassId) (b : Nat) (w : XW)  (hI : Iv w)  : CnV l D aC b M_X0_copyFrom 2 81 0 0 [AR 38, AR 2] w (fun u => Jv w u) := by
  refine cn_V (own := RX0) (nm := "copyFrom") (L0 := [some (AR 38), some (AR 2)]) (by decide +kernel) rfl rfl (Nat.le_of_ble_eq_true rfl) rfl ?_
  intro p e s m args below meth c E hin
  have hJ : Jv w w := jv_rfl hI
  refine s_aload_n E dX0_copyFrom_0 rfl rfl ?_
  refine s_aload_n E dX0_copyFrom_1 rfl rfl ?_
  refine s_gI E fg_X0_32 rfl rfl (jv_lt hJ (by decide)) dX0_copyFrom_2 ?_
  refine z_nm (P := fun z => z.toInt = (w.2.2.1 2 0).toInt ∧ (-2147483648) ≤ z.toInt ∧ z.toInt ≤ 2147483647) ⟨rfl, z32 _⟩ (fun z_1 hz_1 => ?_)
  refine s_pI E fp_X0_32 (Or.inl rfl) rfl (jv_lt hJ (by decide)) dX0_copyFrom_5 ?_
  refine s_gen (P := Jv w) (jv_f_38_0 hJ (by have hb_ := z32 z_1; omega) (by have hb_ := z32 z_1; omega)) (fun v_2 hj_3 => ?_)
  refine s_aload_n E dX0_copyFrom_8 rfl rfl ?_
  refine s_aload_n E dX0_copyFrom_9 rfl rfl ?_
  refine s_gI E fg_X0_36 rfl rfl (jv_lt hj_3 (by decide)) dX0_copyFrom_10 ?_
  refine z_nm (P := fun z => z.toInt = (v_2.2.2.1 2 1).toInt ∧ 0 ≤ z.toInt ∧ z.toInt ≤ 8) ⟨rfl, (rg_2_1 hj_3)⟩ (fun z_4 hz_4 => ?_)
  refine s_pI E fp_X0_36 (Or.inl rfl) rfl (jv_lt hj_3 (by decide)) dX0_copyFrom_13 ?_
  refine s_gen (P := Jv w) (jv_f_38_1 hj_3 (by have hb_ := z32 z_4; omega) (by have hb_ := z32 z_4; omega)) (fun v_5 hj_6 => ?_)
  refine s_aload_n E dX0_copyFrom_16 rfl rfl ?_
  refine s_aload_n E dX0_copyFrom_17 rfl rfl ?_
  refine s_gI E fg_X0_39 rfl rfl (jv_lt hj_6 (by decide)) dX0_copyFrom_18 ?_
  refine z_nm (P := fun z => z.toInt = (v_5.2.2.1 2 2).toInt ∧ 0 ≤ z.toInt ∧ z.toInt ≤ 14) ⟨rfl, (rg_2_2 hj_6)⟩ (fun z_7 hz_7 => ?_)
  refine s_pI E fp_X0_39 (Or.inl rfl) rfl (jv_lt hj_6 (by decide)) dX0_copyFrom_21 ?_
  refine s_gen (P := Jv w) (jv_f_38_2 hj_6 (by have hb_ := z32 z_7; omega) (by have hb_ := z32 z_7; omega)) (fun v_8 hj_9 => ?_)
  refine s_aload_n E dX0_copyFrom_24 rfl rfl ?_
  refine s_aload_n E dX0_copyFrom_25 rfl rfl ?_
  refine s_gI E fg_X0_42 rfl rfl (jv_lt hj_9 (by decide)) dX0_copyFrom_26 ?_
  refine z_nm (P := fun z => z.toInt = (v_8.2.2.1 2 3).toInt ∧ (-2147483648) ≤ z.toInt ∧ z.toInt ≤ 2147483647) ⟨rfl, z32 _⟩ (fun z_10 hz_10 => ?_)
  refine s_pI E fp_X0_42 (Or.inl rfl) rfl (jv_lt hj_9 (by decide)) dX0_copyFrom_29 ?_
  refine s_gen (P := Jv w) (jv_f_38_3 hj_9 (by have hb_ := z32 z_10; omega) (by have hb_ := z32 z_10; omega)) (fun v_11 hj_12 => ?_)
  refine s_aload_n E dX0_copyFrom_32 rfl rfl ?_
  refine s_aload_n E dX0_copyFrom_33 rfl rfl ?_
  refine s_gI E fg_X0_45 rfl rfl (jv_lt hj_12 (by decide)) dX0_copyFrom_34 ?_
  refine z_nm (P := fun z => z.toInt = (v_11.2.2.1 2 4).toInt ∧ (-2147483648) ≤ z.toInt ∧ z.toInt ≤ 2147483647) ⟨rfl, z32 _⟩ (fun z_13 hz_13 => ?_)
  refine s_pI E fp_X0_45 (Or.inl rfl) rfl (jv_lt hj_12 (by decide)) dX0_copyFrom_37 ?_
  refine s_gen (P := Jv w) (jv_f_38_4 hj_12 (by have hb_ := z32 z_13; omega) (by have hb_ := z32 z_13; omega)) (fun v_14 hj_15 => ?_)
  refine s_aload_n E dX0_copyFrom_40 rfl rfl ?_
  refine s_gR (r := 39) E fg_X0_14 rfl rfl (jv_lt hj_15 (by decide)) (jv_r hj_15 (by decide +kernel)) dX0_copyFrom_41 ?_
  refine s_aload_n E dX0_copyFrom_44 rfl rfl ?_
  refine s_gR (r := 3) E fg_X0_14 rfl rfl (jv_lt hj_15 (by decide)) (jv_r hj_15 (by decide +kernel)) dX0_copyFrom_45 ?_
  refine s_vV (As := [AR 3]) (S := []) E (Z_X8_copyFrom_39_r3 l D aC b v_14  hj_15.1 ) cv_X0_51 rfl rfl rfl (jv_lt hj_15 (by decide)) (Nat.le_of_ble_eq_true rfl) (Nat.le_of_ble_eq_true rfl) ⟨(Nat.le_of_ble_eq_true rfl), (Nat.le_of_ble_eq_true rfl)⟩ (Nat.le_of_ble_eq_true rfl) dX0_copyFrom_48 (fun u_16 hp_17 => ?_)
  have hj_18 := jv_trans hj_15 hp_17
  refine s_aload_n E dX0_copyFrom_51 rfl rfl ?_
  refine s_gR (r := 41) E fg_X0_20 rfl rfl (jv_lt hj_18 (by decide)) (jv_r hj_18 (by decide +kernel)) dX0_copyFrom_52 ?_
  refine s_aload_n E dX0_copyFrom_55 rfl rfl ?_
  refine s_gR (r := 5) E fg_X0_20 rfl rfl (jv_lt hj_18 (by decide)) (jv_r hj_18 (by decide +kernel)) dX0_copyFrom_56 ?_
  refine s_vV (As := [AR 5]) (S := []) E (Z_X8_copyFrom_41_r5 l D aC b u_16  hj_18.1 ) cv_X0_51 rfl rfl rfl (jv_lt hj_18 (by decide)) (Nat.le_of_ble_eq_true rfl) (Nat.le_of_ble_eq_true rfl) ⟨(Nat.le_of_ble_eq_true rfl), (Nat.le_of_ble_eq_true rfl)⟩ (Nat.le_of_ble_eq_true rfl) dX0_copyFrom_59 (fun u_19 hp_20 => ?_)
  have hj_21 := jv_trans hj_18 hp_20
  refine s_aload_n E dX0_copyFrom_62 rfl rfl ?_
  refine s_gR (r := 43) E fg_X0_23 rfl rfl (jv_lt hj_21 (by decide)) (jv_r hj_21 (by decide +kernel)) dX0_copyFrom_63 ?_
  refine s_aload_n E dX0_copyFrom_66 rfl rfl ?_
  refine s_gR (r := 7) E fg_X0_23 rfl rfl (jv_lt hj_21 (by decide)) (jv_r hj_21 (by decide +kernel)) dX0_copyFrom_67 ?_
  refine s_vV (As := [AR 7]) (S := []) E (Z_X8_copyFrom_43_r7 l D aC b u_19  hj_21.1 ) cv_X0_51 rfl rfl rfl (jv_lt hj_21 (by decide)) (Nat.le_of_ble_eq_true rfl) (Nat.le_of_ble_eq_true rfl) ⟨(Nat.le_of_ble_eq_true rfl), (Nat.le_of_ble_eq_true rfl)⟩ (Nat.le_of_ble_eq_true rfl) dX0_copyFrom_70 (fun u_22 hp_23 => ?_)
  have hj_24 := jv_trans hj_21 hp_23
  refine s_aload_n E dX0_copyFrom_73 rfl rfl ?_
  refine s_gR (r := 45) E fg_X0_26 rfl rfl (jv_lt hj_24 (by decide)) (jv_r hj_24 (by decide +kernel)) dX0_copyFrom_74 ?_
  refine s_aload_n E dX0_copyFrom_77 rfl rfl ?_
  refine s_gR (r := 9) E fg_X0_26 rfl rfl (jv_lt hj_24 (by decide)) (jv_r hj_24 (by decide +kernel)) dX0_copyFrom_78 ?_
  refine s_vV (As := [AR 9]) (S := []) E (Z_X8_copyFrom_45_r9 l D aC b u_22  hj_24.1 ) cv_X0_51 rfl rfl rfl (jv_lt hj_24 (by decide)) (Nat.le_of_ble_eq_true rfl) (Nat.le_of_ble_eq_true rfl) ⟨(Nat.le_of_ble_eq_true rfl), (Nat.le_of_ble_eq_true rfl)⟩ (Nat.le_of_ble_eq_true rfl) dX0_copyFrom_81 (fun u_25 hp_26 => ?_)
  have hj_27 := jv_trans hj_24 hp_26
  refine s_aload_n E dX0_copyFrom_84 rfl rfl ?_
  refine s_gR (r := 47) E fg_X0_29 rfl rfl (jv_lt hj_27 (by decide)) (jv_r hj_27 (by decide +kernel)) dX0_copyFrom_85 ?_
  refine s_aload_n E dX0_copyFrom_88 rfl rfl ?_
  refine s_gR (r := 11) E fg_X0_29 rfl rfl (jv_lt hj_27 (by decide)) (jv_r hj_27 (by decide +kernel)) dX0_copyFrom_89 ?_
  refine s_vV (As := [AR 11]) (S := []) E (Z_X8_copyFrom_47_r11 l D aC b u_25  hj_27.1 ) cv_X0_51 rfl rfl rfl (jv_lt hj_27 (by decide)) (Nat.le_of_ble_eq_true rfl) (Nat.le_of_ble_eq_true rfl) ⟨(Nat.le_of_ble_eq_true rfl), (Nat.le_of_ble_eq_true rfl)⟩ (Nat.le_of_ble_eq_true rfl) dX0_copyFrom_92 (fun u_28 hp_29 => ?_)
  have hj_30 := jv_trans hj_27 hp_29
  exact r_void E dX0_copyFrom_95 hj_30
set_option maxRecDepth 20000 in
set_option maxHeartbeats 2000000 in
theorem Z_X8_copyFrom_50_r3 (l : Launch) (D : va_G) (aC : Nat → ClassId) (b : Nat) (w : XW)  (hI : Iv w)  : CnV l D aC b M_X8_copyFrom 1 60 0 0 [AR 50, AR 3] w (fun u => Jv w u) := by
  refine cn_V (own := RX8) (nm := "copyFrom") (L0 := [some (AR 50), some (AR 3)]) (by decide +kernel) rfl rfl (Nat.le_of_ble_eq_true rfl) rfl ?_
  intro p e s m args below meth c E hin
  have hJ : Jv w w := jv_rfl hI
  refine s_aload_n E dX8_copyFrom_0 rfl rfl ?_
  refine s_gR (r := 4) E fg_X8_24 rfl rfl (jv_lt hJ (by decide)) (jv_r hJ (by decide +kernel)) dX8_copyFrom_1 ?_
  refine s_iconst (v := 0) E dX8_copyFrom_4 (by decide) ?_
  refine s_aload_n E dX8_copyFrom_5 rfl rfl ?_
  refine s_gR (r := 51) E fg_X8_24 rfl rfl (jv_lt hJ (by decide)) (jv_r hJ (by decide +kernel)) dX8_copyFrom_6 ?_
  refine s_iconst (v := 0) E dX8_copyFrom_9 (by decide) ?_
  refine s_aload_n E dX8_copyFrom_10 rfl rfl ?_
  refine s_gR (r := 51) E fg_X8_24 rfl rfl (jv_lt hJ (by decide)) (jv_r hJ (by decide +kernel)) dX8_copyFrom_11 ?_
  refine s_alen (v := 36) E rfl (by decide) (jv_lt hJ (by decide)) (by decide) dX8_copyFrom_14 ?_
  refine s_aload_n E dX8_copyFrom_15 rfl rfl ?_
  refine s_gR (r := 4) E fg_X8_24 rfl rfl (jv_lt hJ (by decide)) (jv_r hJ (by decide +kernel)) dX8_copyFrom_16 ?_
  refine s_alen (v := 36) E rfl (by decide) (jv_lt hJ (by decide)) (by decide) dX8_copyFrom_19 ?_
  refine z_min (u := 36) (v := 36) E ⟨k_535, k_369, k_4, k_370⟩ (Nat.le_of_ble_eq_true rfl) (Nat.le_of_ble_eq_true rfl) (Nat.le_of_ble_eq_true rfl) (Nat.le_of_ble_eq_true rfl) dX8_copyFrom_20 (by decide) (by decide) (fun z_1 hz_1 => ?_)
  refine z_copy100 (S := []) (u1 := 0) (u2 := 0) (u3 := z_1.toInt) E k_536 k_538 k_537 k_17 rfl rfl (jv_lt hJ (by decide)) (jv_lt hJ (by decide)) (by decide) (by decide) rfl (by omega) (by omega) (by omega) (by omega) (by omega) (Nat.le_of_ble_eq_true rfl) (Nat.le_of_ble_eq_true rfl) dX8_copyFrom_23 ?_
  refine s_gen (P := Jv w) (jv_c_4_51 hJ) (fun v_2 hj_3 => ?_)
  refine s_aload_n E dX8_copyFrom_26 rfl rfl ?_
  refine s_aload_n E dX8_copyFrom_27 rfl rfl ?_
  refine s_gI E fg_X8_28 rfl rfl (jv_lt hj_3 (by decide)) dX8_copyFrom_28 ?_
  refine z_nm (P := fun z => z.toInt = (v_2.2.2.1 3 3).toInt ∧ 0 ≤ z.toInt ∧ z.toInt ≤ 12) ⟨rfl, (rg_3_3 hj_3)⟩ (fun z_4 hz_4 => ?_)
  refine s_pI E fp_X8_28 (Or.inl rfl) rfl (jv_lt hj_3 (by decide)) dX8_copyFrom_31 ?_
  refine s_gen (P := Jv w) (jv_f_50_3 hj_3 (by have hb_ := z32 z_4; omega) (by have hb_ := z32 z_4; omega)) (fun v_5 hj_6 => ?_)
  exact r_void E dX8_copyFrom_34 hj_6
set_option maxRecDepth 20000 in
set_option maxHeartbeats 2000000 in
theorem Z_X8_copyFrom_52_r5 (l : Launch) (D : va_G) (aC : Nat → ClassId) (b : Nat) (w : XW)  (hI : Iv w)  : CnV l D aC b M_X8_copyFrom 1 60 0 0 [AR 52, AR 5] w (fun u => Jv w u) := by
  refine cn_V (own := RX8) (nm := "copyFrom") (L0 := [some (AR 52), some (AR 5)]) (by decide +kernel) rfl rfl (Nat.le_of_ble_eq_true rfl) rfl ?_
  intro p e s m args below meth c E hin
  have hJ : Jv w w := jv_rfl hI
  refine s_aload_n E dX8_copyFrom_0 rfl rfl ?_
  refine s_gR (r := 6) E fg_X8_24 rfl rfl (jv_lt hJ (by decide)) (jv_r hJ (by decide +kernel)) dX8_copyFrom_1 ?_
  refine s_iconst (v := 0) E dX8_copyFrom_4 (by decide) ?_
  refine s_aload_n E dX8_copyFrom_5 rfl rfl ?_
  refine s_gR (r := 53) E fg_X8_24 rfl rfl (jv_lt hJ (by decide)) (jv_r hJ (by decide +kernel)) dX8_copyFrom_6 ?_
  refine s_iconst (v := 0) E dX8_copyFrom_9 (by decide) ?_
  refine s_aload_n E dX8_copyFrom_10 rfl rfl ?_
  refine s_gR (r := 53) E fg_X8_24 rfl rfl (jv_lt hJ (by decide)) (jv_r hJ (by decide +kernel)) dX8_copyFrom_11 ?_
  refine s_alen (v := 12) E rfl (by decide) (jv_lt hJ (by decide)) (by decide) dX8_copyFrom_14 ?_
  refine s_aload_n E dX8_copyFrom_15 rfl rfl ?_
  refine s_gR (r := 6) E fg_X8_24 rfl rfl (jv_lt hJ (by decide)) (jv_r hJ (by decide +kernel)) dX8_copyFrom_16 ?_
  refine s_alen (v := 12) E rfl (by decide) (jv_lt hJ (by decide)) (by decide) dX8_copyFrom_19 ?_
  refine z_min (u := 12) (v := 12) E ⟨k_535, k_369, k_4, k_370⟩ (Nat.le_of_ble_eq_true rfl) (Nat.le_of_ble_eq_true rfl) (Nat.le_of_ble_eq_true rfl) (Nat.le_of_ble_eq_true rfl) dX8_copyFrom_20 (by decide) (by decide) (fun z_1 hz_1 => ?_)
  refine z_copy100 (S := []) (u1 := 0) (u2 := 0) (u3 := z_1.toInt) E k_536 k_538 k_537 k_17 rfl rfl (jv_lt hJ (by decide)) (jv_lt hJ (by decide)) (by decide) (by decide) rfl (by omega) (by omega) (by omega) (by omega) (by omega) (Nat.le_of_ble_eq_true rfl) (Nat.le_of_ble_eq_true rfl) dX8_copyFrom_23 ?_
  refine s_gen (P := Jv w) (jv_c_6_53 hJ) (fun v_2 hj_3 => ?_)
  refine s_aload_n E dX8_copyFrom_26 rfl rfl ?_
  refine s_aload_n E dX8_copyFrom_27 rfl rfl ?_
  refine s_gI E fg_X8_28 rfl rfl (jv_lt hj_3 (by decide)) dX8_copyFrom_28 ?_
  refine z_nm (P := fun z => z.toInt = (v_2.2.2.1 5 3).toInt ∧ 0 ≤ z.toInt ∧ z.toInt ≤ 6) ⟨rfl, (rg_5_3 hj_3)⟩ (fun z_4 hz_4 => ?_)
  refine s_pI E fp_X8_28 (Or.inl rfl) rfl (jv_lt hj_3 (by decide)) dX8_copyFrom_31 ?_
  refine s_gen (P := Jv w) (jv_f_52_3 hj_3 (by have hb_ := z32 z_4; omega) (by have hb_ := z32 z_4; omega)) (fun v_5 hj_6 => ?_)
  exact r_void E dX8_copyFrom_34 hj_6
set_option maxRecDepth 20000 in
set_option maxHeartbeats 2000000 in
theorem Z_X8_copyFrom_54_r7 (l : Launch) (D : va_G) (aC : Nat → ClassId) (b : Nat) (w : XW)  (hI : Iv w)  : CnV l D aC b M_X8_copyFrom 1 60 0 0 [AR 54, AR 7] w (fun u => Jv w u) := by
  refine cn_V (own := RX8) (nm := "copyFrom") (L0 := [some (AR 54), some (AR 7)]) (by decide +kernel) rfl rfl (Nat.le_of_ble_eq_true rfl) rfl ?_
  intro p e s m args below meth c E hin
  have hJ : Jv w w := jv_rfl hI
  refine s_aload_n E dX8_copyFrom_0 rfl rfl ?_
  refine s_gR (r := 8) E fg_X8_24 rfl rfl (jv_lt hJ (by decide)) (jv_r hJ (by decide +kernel)) dX8_copyFrom_1 ?_
  refine s_iconst (v := 0) E dX8_copyFrom_4 (by decide) ?_
  refine s_aload_n E dX8_copyFrom_5 rfl rfl ?_
  refine s_gR (r := 55) E fg_X8_24 rfl rfl (jv_lt hJ (by decide)) (jv_r hJ (by decide +kernel)) dX8_copyFrom_6 ?_
  refine s_iconst (v := 0) E dX8_copyFrom_9 (by decide) ?_
  refine s_aload_n E dX8_copyFrom_10 rfl rfl ?_
  refine s_gR (r := 55) E fg_X8_24 rfl rfl (jv_lt hJ (by decide)) (jv_r hJ (by decide +kernel)) dX8_copyFrom_11 ?_
  refine s_alen (v := 16) E rfl (by decide) (jv_lt hJ (by decide)) (by decide) dX8_copyFrom_14 ?_
  refine s_aload_n E dX8_copyFrom_15 rfl rfl ?_
  refine s_gR (r := 8) E fg_X8_24 rfl rfl (jv_lt hJ (by decide)) (jv_r hJ (by decide +kernel)) dX8_copyFrom_16 ?_
  refine s_alen (v := 16) E rfl (by decide) (jv_lt hJ (by decide)) (by decide) dX8_copyFrom_19 ?_
  refine z_min (u := 16) (v := 16) E ⟨k_535, k_369, k_4, k_370⟩ (Nat.le_of_ble_eq_true rfl) (Nat.le_of_ble_eq_true rfl) (Nat.le_of_ble_eq_true rfl) (Nat.le_of_ble_eq_true rfl) dX8_copyFrom_20 (by decide) (by decide) (fun z_1 hz_1 => ?_)
  refine z_copy100 (S := []) (u1 := 0) (u2 := 0) (u3 := z_1.toInt) E k_536 k_538 k_537 k_17 rfl rfl (jv_lt hJ (by decide)) (jv_lt hJ (by decide)) (by decide) (by decide) rfl (by omega) (by omega) (by omega) (by omega) (by omega) (Nat.le_of_ble_eq_true rfl) (Nat.le_of_ble_eq_true rfl) dX8_copyFrom_23 ?_
  refine s_gen (P := Jv w) (jv_c_8_55 hJ) (fun v_2 hj_3 => ?_)
  refine s_aload_n E dX8_copyFrom_26 rfl rfl ?_
  refine s_aload_n E dX8_copyFrom_27 rfl rfl ?_
  refine s_gI E fg_X8_28 rfl rfl (jv_lt hj_3 (by decide)) dX8_copyFrom_28 ?_
  refine z_nm (P := fun z => z.toInt = (v_2.2.2.1 7 3).toInt ∧ 0 ≤ z.toInt ∧ z.toInt ≤ 8) ⟨rfl, (rg_7_3 hj_3)⟩ (fun z_4 hz_4 => ?_)
  refine s_pI E fp_X8_28 (Or.inl rfl) rfl (jv_lt hj_3 (by decide)) dX8_copyFrom_31 ?_
  refine s_gen (P := Jv w) (jv_f_54_3 hj_3 (by have hb_ := z32 z_4; omega) (by have hb_ := z32 z_4; omega)) (fun v_5 hj_6 => ?_)
  exact r_void E dX8_copyFrom_34 hj_6
set_option maxRecDepth 20000 in
set_option maxHeartbeats 2000000 in
theorem Z_X8_copyFrom_56_r9 (l : Launch) (D : va_G) (aC : Nat → ClassId) (b : Nat) (w : XW)  (hI : Iv w)  : CnV l D aC b M_X8_copyFrom 1 60 0 0 [AR 56, AR 9] w (fun u => Jv w u) := by
  refine cn_V (own := RX8) (nm := "copyFrom") (L0 := [some (AR 56), some (AR 9)]) (by decide +kernel) rfl rfl (Nat.le_of_ble_eq_true rfl) rfl ?_
  intro p e s m args below meth c E hin
  have hJ : Jv w w := jv_rfl hI
  refine s_aload_n E dX8_copyFrom_0 rfl rfl ?_
  refine s_gR (r := 10) E fg_X8_24 rfl rfl (jv_lt hJ (by decide)) (jv_r hJ (by decide +kernel)) dX8_copyFrom_1 ?_
  refine s_iconst (v := 0) E dX8_copyFrom_4 (by decide) ?_
  refine s_aload_n E dX8_copyFrom_5 rfl rfl ?_
  refine s_gR (r := 57) E fg_X8_24 rfl rfl (jv_lt hJ (by decide)) (jv_r hJ (by decide +kernel)) dX8_copyFrom_6 ?_
  refine s_iconst (v := 0) E dX8_copyFrom_9 (by decide) ?_
  refine s_aload_n E dX8_copyFrom_10 rfl rfl ?_
  refine s_gR (r := 57) E fg_X8_24 rfl rfl (jv_lt hJ (by decide)) (jv_r hJ (by decide +kernel)) dX8_copyFrom_11 ?_
  refine s_alen (v := 30) E rfl (by decide) (jv_lt hJ (by decide)) (by decide) dX8_copyFrom_14 ?_
  refine s_aload_n E dX8_copyFrom_15 rfl rfl ?_
  refine s_gR (r := 10) E fg_X8_24 rfl rfl (jv_lt hJ (by decide)) (jv_r hJ (by decide +kernel)) dX8_copyFrom_16 ?_
  refine s_alen (v := 30) E rfl (by decide) (jv_lt hJ (by decide)) (by decide) dX8_copyFrom_19 ?_
  refine z_min (u := 30) (v := 30) E ⟨k_535, k_369, k_4, k_370⟩ (Nat.le_of_ble_eq_true rfl) (Nat.le_of_ble_eq_true rfl) (Nat.le_of_ble_eq_true rfl) (Nat.le_of_ble_eq_true rfl) dX8_copyFrom_20 (by decide) (by decide) (fun z_1 hz_1 => ?_)
  refine z_copy100 (S := []) (u1 := 0) (u2 := 0) (u3 := z_1.toInt) E k_536 k_538 k_537 k_17 rfl rfl (jv_lt hJ (by decide)) (jv_lt hJ (by decide)) (by decide) (by decide) rfl (by omega) (by omega) (by omega) (by omega) (by omega) (Nat.le_of_ble_eq_true rfl) (Nat.le_of_ble_eq_true rfl) dX8_copyFrom_23 ?_
  refine s_gen (P := Jv w) (jv_c_10_57 hJ) (fun v_2 hj_3 => ?_)
  refine s_aload_n E dX8_copyFrom_26 rfl rfl ?_
  refine s_aload_n E dX8_copyFrom_27 rfl rfl ?_
  refine s_gI E fg_X8_28 rfl rfl (jv_lt hj_3 (by decide)) dX8_copyFrom_28 ?_
  refine z_nm (P := fun z => z.toInt = (v_2.2.2.1 9 3).toInt ∧ 0 ≤ z.toInt ∧ z.toInt ≤ 10) ⟨rfl, (rg_9_3 hj_3)⟩ (fun z_4 hz_4 => ?_)
  refine s_pI E fp_X8_28 (Or.inl rfl) rfl (jv_lt hj_3 (by decide)) dX8_copyFrom_31 ?_
  refine s_gen (P := Jv w) (jv_f_56_3 hj_3 (by have hb_ := z32 z_4; omega) (by have hb_ := z32 z_4; omega)) (fun v_5 hj_6 => ?_)
  exact r_void E dX8_copyFrom_34 hj_6
set_option maxRecDepth 20000 in
set_option maxHeartbeats 2000000 in
theorem Z_X8_copyFrom_58_r11 (l : Launch) (D : va_G) (aC : Nat → ClassId) (b : Nat) (w : XW)  (hI : Iv w)  : CnV l D aC b M_X8_copyFrom 1 60 0 0 [AR 58, AR 11] w (fun u => Jv w u) := by
  refine cn_V (own := RX8) (nm := "copyFrom") (L0 := [some (AR 58), some (AR 11)]) (by decide +kernel) rfl rfl (Nat.le_of_ble_eq_true rfl) rfl ?_
  intro p e s m args below meth c E hin
  have hJ : Jv w w := jv_rfl hI
  refine s_aload_n E dX8_copyFrom_0 rfl rfl ?_
  refine s_gR (r := 12) E fg_X8_24 rfl rfl (jv_lt hJ (by decide)) (jv_r hJ (by decide +kernel)) dX8_copyFrom_1 ?_
  refine s_iconst (v := 0) E dX8_copyFrom_4 (by decide) ?_
  refine s_aload_n E dX8_copyFrom_5 rfl rfl ?_
  refine s_gR (r := 59) E fg_X8_24 rfl rfl (jv_lt hJ (by decide)) (jv_r hJ (by decide +kernel)) dX8_copyFrom_6 ?_
  refine s_iconst (v := 0) E dX8_copyFrom_9 (by decide) ?_
  refine s_aload_n E dX8_copyFrom_10 rfl rfl ?_
  refine s_gR (r := 59) E fg_X8_24 rfl rfl (jv_lt hJ (by decide)) (jv_r hJ (by decide +kernel)) dX8_copyFrom_11 ?_
  refine s_alen (v := 120) E rfl (by decide) (jv_lt hJ (by decide)) (by decide) dX8_copyFrom_14 ?_
  refine s_aload_n E dX8_copyFrom_15 rfl rfl ?_
  refine s_gR (r := 12) E fg_X8_24 rfl rfl (jv_lt hJ (by decide)) (jv_r hJ (by decide +kernel)) dX8_copyFrom_16 ?_
  refine s_alen (v := 120) E rfl (by decide) (jv_lt hJ (by decide)) (by decide) dX8_copyFrom_19 ?_
  refine z_min (u := 120) (v := 120) E ⟨k_535, k_369, k_4, k_370⟩ (Nat.le_of_ble_eq_true rfl) (Nat.le_of_ble_eq_true rfl) (Nat.le_of_ble_eq_true rfl) (Nat.le_of_ble_eq_true rfl) dX8_copyFrom_20 (by decide) (by decide) (fun z_1 hz_1 => ?_)
  refine z_copy100 (S := []) (u1 := 0) (u2 := 0) (u3 := z_1.toInt) E k_536 k_538 k_537 k_17 rfl rfl (jv_lt hJ (by decide)) (jv_lt hJ (by decide)) (by decide) (by decide) rfl (by omega) (by omega) (by omega) (by omega) (by omega) (Nat.le_of_ble_eq_true rfl) (Nat.le_of_ble_eq_true rfl) dX8_copyFrom_23 ?_
  refine s_gen (P := Jv w) (jv_c_12_59 hJ) (fun v_2 hj_3 => ?_)
  refine s_aload_n E dX8_copyFrom_26 rfl rfl ?_
  refine s_aload_n E dX8_copyFrom_27 rfl rfl ?_
  refine s_gI E fg_X8_28 rfl rfl (jv_lt hj_3 (by decide)) dX8_copyFrom_28 ?_
  refine z_nm (P := fun z => z.toInt = (v_2.2.2.1 11 3).toInt ∧ 0 ≤ z.toInt ∧ z.toInt ≤ 30) ⟨rfl, (rg_11_3 hj_3)⟩ (fun z_4 hz_4 => ?_)
  refine s_pI E fp_X8_28 (Or.inl rfl) rfl (jv_lt hj_3 (by decide)) dX8_copyFrom_31 ?_
  refine s_gen (P := Jv w) (jv_f_58_3 hj_3 (by have hb_ := z32 z_4; omega) (by have hb_ := z32 z_4; omega)) (fun v_5 hj_6 => ?_)
  exact r_void E dX8_copyFrom_34 hj_6
set_option maxRecDepth 20000 in
set_option maxHeartbeats 2000000 in
theorem Z_X0_copyFrom_49_r2 (l : Launch) (D : va_G) (aC : Nat → ClassId) (b : Nat) (w : XW)  (hI : Iv w)  : CnV l D aC b M_X0_copyFrom 2 81 0 0 [AR 49, AR 2] w (fun u => Jv w u) := by
  refine cn_V (own := RX0) (nm := "copyFrom") (L0 := [some (AR 49), some (AR 2)]) (by decide +kernel) rfl rfl (Nat.le_of_ble_eq_true rfl) rfl ?_
  intro p e s m args below meth c E hin
  have hJ : Jv w w := jv_rfl hI
  refine s_aload_n E dX0_copyFrom_0 rfl rfl ?_
  refine s_aload_n E dX0_copyFrom_1 rfl rfl ?_
  refine s_gI E fg_X0_32 rfl rfl (jv_lt hJ (by decide)) dX0_copyFrom_2 ?_
  refine z_nm (P := fun z => z.toInt = (w.2.2.1 2 0).toInt ∧ (-2147483648) ≤ z.toInt ∧ z.toInt ≤ 2147483647) ⟨rfl, z32 _⟩ (fun z_1 hz_1 => ?_)
  refine s_pI E fp_X0_32 (Or.inl rfl) rfl (jv_lt hJ (by decide)) dX0_copyFrom_5 ?_
  refine s_gen (P := Jv w) (jv_f_49_0 hJ (by have hb_ := z32 z_1; omega) (by have hb_ := z32 z_1; omega)) (fun v_2 hj_3 => ?_)
  refine s_aload_n E dX0_copyFrom_8 rfl rfl ?_
  refine s_aload_n E dX0_copyFrom_9 rfl rfl ?_
  refine s_gI E fg_X0_36 rfl rfl (jv_lt hj_3 (by decide)) dX0_copyFrom_10 ?_
  refine z_nm (P := fun z => z.toInt = (v_2.2.2.1 2 1).toInt ∧ 0 ≤ z.toInt ∧ z.toInt ≤ 8) ⟨rfl, (rg_2_1 hj_3)⟩ (fun z_4 hz_4 => ?_)
  refine s_pI E fp_X0_36 (Or.inl rfl) rfl (jv_lt hj_3 (by decide)) dX0_copyFrom_13 ?_
  refine s_gen (P := Jv w) (jv_f_49_1 hj_3 (by have hb_ := z32 z_4; omega) (by have hb_ := z32 z_4; omega)) (fun v_5 hj_6 => ?_)
  refine s_aload_n E dX0_copyFrom_16 rfl rfl ?_
  refine s_aload_n E dX0_copyFrom_17 rfl rfl ?_
  refine s_gI E fg_X0_39 rfl rfl (jv_lt hj_6 (by decide)) dX0_copyFrom_18 ?_
  refine z_nm (P := fun z => z.toInt = (v_5.2.2.1 2 2).toInt ∧ 0 ≤ z.toInt ∧ z.toInt ≤ 14) ⟨rfl, (rg_2_2 hj_6)⟩ (fun z_7 hz_7 => ?_)
  refine s_pI E fp_X0_39 (Or.inl rfl) rfl (jv_lt hj_6 (by decide)) dX0_copyFrom_21 ?_
  refine s_gen (P := Jv w) (jv_f_49_2 hj_6 (by have hb_ := z32 z_7; omega) (by have hb_ := z32 z_7; omega)) (fun v_8 hj_9 => ?_)
  refine s_aload_n E dX0_copyFrom_24 rfl rfl ?_
  refine s_aload_n E dX0_copyFrom_25 rfl rfl ?_
  refine s_gI E fg_X0_42 rfl rfl (jv_lt hj_9 (by decide)) dX0_copyFrom_26 ?_
  refine z_nm (P := fun z => z.toInt = (v_8.2.2.1 2 3).toInt ∧ (-2147483648) ≤ z.toInt ∧ z.toInt ≤ 2147483647) ⟨rfl, z32 _⟩ (fun z_10 hz_10 => ?_)
  refine s_pI E fp_X0_42 (Or.inl rfl) rfl (jv_lt hj_9 (by decide)) dX0_copyFrom_29 ?_
  refine s_gen (P := Jv w) (jv_f_49_3 hj_9 (by have hb_ := z32 z_10; omega) (by have hb_ := z32 z_10; omega)) (fun v_11 hj_12 => ?_)
  refine s_aload_n E dX0_copyFrom_32 rfl rfl ?_
  refine s_aload_n E dX0_copyFrom_33 rfl rfl ?_
  refine s_gI E fg_X0_45 rfl rfl (jv_lt hj_12 (by decide)) dX0_copyFrom_34 ?_
  refine z_nm (P := fun z => z.toInt = (v_11.2.2.1 2 4).toInt ∧ (-2147483648) ≤ z.toInt ∧ z.toInt ≤ 2147483647) ⟨rfl, z32 _⟩ (fun z_13 hz_13 => ?_)
  refine s_pI E fp_X0_45 (Or.inl rfl) rfl (jv_lt hj_12 (by decide)) dX0_copyFrom_37 ?_
  refine s_gen (P := Jv w) (jv_f_49_4 hj_12 (by have hb_ := z32 z_13; omega) (by have hb_ := z32 z_13; omega)) (fun v_14 hj_15 => ?_)
  refine s_aload_n E dX0_copyFrom_40 rfl rfl ?_
  refine s_gR (r := 50) E fg_X0_14 rfl rfl (jv_lt hj_15 (by decide)) (jv_r hj_15 (by decide +kernel)) dX0_copyFrom_41 ?_
  refine s_aload_n E dX0_copyFrom_44 rfl rfl ?_
  refine s_gR (r := 3) E fg_X0_14 rfl rfl (jv_lt hj_15 (by decide)) (jv_r hj_15 (by decide +kernel)) dX0_copyFrom_45 ?_
  refine s_vV (As := [AR 3]) (S := []) E (Z_X8_copyFrom_50_r3 l D aC b v_14  hj_15.1 ) cv_X0_51 rfl rfl rfl (jv_lt hj_15 (by decide)) (Nat.le_of_ble_eq_true rfl) (Nat.le_of_ble_eq_true rfl) ⟨(Nat.le_of_ble_eq_true rfl), (Nat.le_of_ble_eq_true rfl)⟩ (Nat.le_of_ble_eq_true rfl) dX0_copyFrom_48 (fun u_16 hp_17 => ?_)
  have hj_18 := jv_trans hj_15 hp_17
  refine s_aload_n E dX0_copyFrom_51 rfl rfl ?_
  refine s_gR (r := 52) E fg_X0_20 rfl rfl (jv_lt hj_18 (by decide)) (jv_r hj_18 (by decide +kernel)) dX0_copyFrom_52 ?_
  refine s_aload_n E dX0_copyFrom_55 rfl rfl ?_
  refine s_gR (r := 5) E fg_X0_20 rfl rfl (jv_lt hj_18 (by decide)) (jv_r hj_18 (by decide +kernel)) dX0_copyFrom_56 ?_
  refine s_vV (As := [AR 5]) (S := []) E (Z_X8_copyFrom_52_r5 l D aC b u_16  hj_18.1 ) cv_X0_51 rfl rfl rfl (jv_lt hj_18 (by decide)) (Nat.le_of_ble_eq_true rfl) (Nat.le_of_ble_eq_true rfl) ⟨(Nat.le_of_ble_eq_true rfl), (Nat.le_of_ble_eq_true rfl)⟩ (Nat.le_of_ble_eq_true rfl) dX0_copyFrom_59 (fun u_19 hp_20 => ?_)
  have hj_21 := jv_trans hj_18 hp_20
  refine s_aload_n E dX0_copyFrom_62 rfl rfl ?_
  refine s_gR (r := 54) E fg_X0_23 rfl rfl (jv_lt hj_21 (by decide)) (jv_r hj_21 (by decide +kernel)) dX0_copyFrom_63 ?_
  refine s_aload_n E dX0_copyFrom_66 rfl rfl ?_
  refine s_gR (r := 7) E fg_X0_23 rfl rfl (jv_lt hj_21 (by decide)) (jv_r hj_21 (by decide +kernel)) dX0_copyFrom_67 ?_
  refine s_vV (As := [AR 7]) (S := []) E (Z_X8_copyFrom_54_r7 l D aC b u_19  hj_21.1 ) cv_X0_51 rfl rfl rfl (jv_lt hj_21 (by decide)) (Nat.le_of_ble_eq_true rfl) (Nat.le_of_ble_eq_true rfl) ⟨(Nat.le_of_ble_eq_true rfl), (Nat.le_of_ble_eq_true rfl)⟩ (Nat.le_of_ble_eq_true rfl) dX0_copyFrom_70 (fun u_22 hp_23 => ?_)
  have hj_24 := jv_trans hj_21 hp_23
  refine s_aload_n E dX0_copyFrom_73 rfl rfl ?_
  refine s_gR (r := 56) E fg_X0_26 rfl rfl (jv_lt hj_24 (by decide)) (jv_r hj_24 (by decide +kernel)) dX0_copyFrom_74 ?_
  refine s_aload_n E dX0_copyFrom_77 rfl rfl ?_
  refine s_gR (r := 9) E fg_X0_26 rfl rfl (jv_lt hj_24 (by decide)) (jv_r hj_24 (by decide +kernel)) dX0_copyFrom_78 ?_
  refine s_vV (As := [AR 9]) (S := []) E (Z_X8_copyFrom_56_r9 l D aC b u_22  hj_24.1 ) cv_X0_51 rfl rfl rfl (jv_lt hj_24 (by decide)) (Nat.le_of_ble_eq_true rfl) (Nat.le_of_ble_eq_true rfl) ⟨(Nat.le_of_ble_eq_true rfl), (Nat.le_of_ble_eq_true rfl)⟩ (Nat.le_of_ble_eq_true rfl) dX0_copyFrom_81 (fun u_25 hp_26 => ?_)
  have hj_27 := jv_trans hj_24 hp_26
  refine s_aload_n E dX0_copyFrom_84 rfl rfl ?_
  refine s_gR (r := 58) E fg_X0_29 rfl rfl (jv_lt hj_27 (by decide)) (jv_r hj_27 (by decide +kernel)) dX0_copyFrom_85 ?_
  refine s_aload_n E dX0_copyFrom_88 rfl rfl ?_
  refine s_gR (r := 11) E fg_X0_29 rfl rfl (jv_lt hj_27 (by decide)) (jv_r hj_27 (by decide +kernel)) dX0_copyFrom_89 ?_
  refine s_vV (As := [AR 11]) (S := []) E (Z_X8_copyFrom_58_r11 l D aC b u_25  hj_27.1 ) cv_X0_51 rfl rfl rfl (jv_lt hj_27 (by decide)) (Nat.le_of_ble_eq_true rfl) (Nat.le_of_ble_eq_true rfl) ⟨(Nat.le_of_ble_eq_true rfl), (Nat.le_of_ble_eq_true rfl)⟩ (Nat.le_of_ble_eq_true rfl) dX0_copyFrom_92 (fun u_28 hp_29 => ?_)
  have hj_30 := jv_trans hj_27 hp_29
  exact r_void E dX0_copyFrom_95 hj_30
set_option maxRecDepth 20000 in
set_option maxHeartbeats 2000000 in
theorem Z_X9_image_0 (l : Launch) (D : va_G) (aC : Nat → ClassId) (b : Nat) (w : XW) (x1 : Int32) (hI : Iv w)  : CnI l D aC b M_X9_image 3 102 0 0 [AR 0, AI x1] w (fun r u => (r.toInt = -2 ∧ ¬ (0 ≤ x1.toInt ∧ x1.toInt ≤ 2) ∧ w = u) ∨ (r.toInt = 0 ∧ (0 ≤ x1.toInt ∧ x1.toInt ≤ 2) ∧ Jv (upI w 26 x1.toNatClampNeg 1) u)) := by
  refine cn_I (own := RX9) (nm := "image") (L0 := [some (AR 0), some (AI x1)]) (by decide +kernel) rfl rfl (Nat.le_of_ble_eq_true rfl) rfl ?_
  intro p e s m args below meth c E hin
  have hJ : Jv w w := jv_rfl hI
  have hb_x1 := z32 x1
  refine s_iload_n E dX9_image_0 rfl rfl ?_
  refine z_if_lt (tgt := 9) (u := x1.toInt) E dX9_image_1 (by decide) rfl (fun h_1 => ?_) (fun h_1 => ?_)
  ·
    refine s_bipush (v := (-2)) E dX9_image_9 (by decide) ?_
    exact r_int E dX9_image_11 (Or.inl ⟨by decide, by omega, rfl⟩)
  ·
    refine s_iload_n E dX9_image_4 rfl rfl ?_
    refine s_iconst (v := 3) E dX9_image_5 (by decide) ?_
    refine z_icmp_lt (tgt := 12) (u := x1.toInt) (v := 3) E dX9_image_6 (by decide) rfl (by decide) (fun h_2 => ?_) (fun h_2 => ?_)
    ·
      refine s_aload_n E dX9_image_12 rfl rfl ?_
      refine s_gR (r := 25) E fg_X9_36 rfl rfl (jv_lt hJ (by decide)) (jv_r hJ (by decide +kernel)) dX9_image_13 ?_
      refine s_iload_n E dX9_image_16 rfl rfl ?_
      rcases (show x1 = 0 ∨ x1 = 1 ∨ x1 = 2 from (z_cases3 (u := x1.toInt) rfl (by omega) (by omega))) with rfl | rfl | rfl
      ·
        refine s_aald104 (r := 27) E rfl (jv_lt hJ (by decide)) (vp_c (by decide)) (jv_r hJ (by decide +kernel)) dX9_image_17 ?_
        refine s_aload_n E dX9_image_18 rfl rfl ?_
        refine s_gR (r := 2) E fg_X9_20 rfl rfl (jv_lt hJ (by decide)) (jv_r hJ (by decide +kernel)) dX9_image_19 ?_
        refine s_vV (As := [AR 2]) (S := []) E (Z_X0_copyFrom_27_r2 l D aC b w  hJ.1 ) cv_X9_103 rfl rfl rfl (jv_lt hJ (by decide)) (Nat.le_of_ble_eq_true rfl) (Nat.le_of_ble_eq_true rfl) ⟨(Nat.le_of_ble_eq_true rfl), (Nat.le_of_ble_eq_true rfl)⟩ (Nat.le_of_ble_eq_true rfl) dX9_image_22 (fun u_3 hp_4 => ?_)
        have hj_5 := jv_trans hJ hp_4
        refine s_aload_n E dX9_image_25 rfl rfl ?_
        refine s_gR (r := 26) E fg_X9_40 rfl rfl (jv_lt hj_5 (by decide)) (jv_r hj_5 (by decide +kernel)) dX9_image_26 ?_
        refine s_iload_n E dX9_image_29 rfl rfl ?_
        refine s_iconst (v := 1) E dX9_image_30 (by decide) ?_
        refine s_zast E rfl (jv_lt hj_5 (by decide)) (z_in (u := 0) (by decide) (by omega) (by omega)) dX9_image_31 ?_
        have hI_ : Jv (upI w 26 (0 : Int32).toNatClampNeg 1) (upI u_3 26 (0 : Int32).toNatClampNeg (vp_nar .boolean 1)) := img_k hj_5 (by decide)
        refine s_iconst (v := 0) E dX9_image_32 (by decide) ?_
        exact r_int E dX9_image_33 (Or.inr ⟨by decide, by decide, hI_⟩)
      ·
        refine s_aald104 (r := 38) E rfl (jv_lt hJ (by decide)) (vp_c (by decide)) (jv_r hJ (by decide +kernel)) dX9_image_17 ?_
        refine s_aload_n E dX9_image_18 rfl rfl ?_
        refine s_gR (r := 2) E fg_X9_20 rfl rfl (jv_lt hJ (by decide)) (jv_r hJ (by decide +kernel)) dX9_image_19 ?_
        refine s_vV (As := [AR 2]) (S := []) E (Z_X0_copyFrom_38_r2 l D aC b w  hJ.1 ) cv_X9_103 rfl rfl rfl (jv_lt hJ (by decide)) (Nat.le_of_ble_eq_true rfl) (Nat.le_of_ble_eq_true rfl) ⟨(Nat.le_of_ble_eq_true rfl), (Nat.le_of_ble_eq_true rfl)⟩ (Nat.le_of_ble_eq_true rfl) dX9_image_22 (fun u_6 hp_7 => ?_)
        have hj_8 := jv_trans hJ hp_7
        refine s_aload_n E dX9_image_25 rfl rfl ?_
        refine s_gR (r := 26) E fg_X9_40 rfl rfl (jv_lt hj_8 (by decide)) (jv_r hj_8 (by decide +kernel)) dX9_image_26 ?_
        refine s_iload_n E dX9_image_29 rfl rfl ?_
        refine s_iconst (v := 1) E dX9_image_30 (by decide) ?_
        refine s_zast E rfl (jv_lt hj_8 (by decide)) (z_in (u := 1) (by decide) (by omega) (by omega)) dX9_image_31 ?_
        have hI_ : Jv (upI w 26 (1 : Int32).toNatClampNeg 1) (upI u_6 26 (1 : Int32).toNatClampNeg (vp_nar .boolean 1)) := img_k hj_8 (by decide)
        refine s_iconst (v := 0) E dX9_image_32 (by decide) ?_
        exact r_int E dX9_image_33 (Or.inr ⟨by decide, by decide, hI_⟩)
      ·
        refine s_aald104 (r := 49) E rfl (jv_lt hJ (by decide)) (vp_c (by decide)) (jv_r hJ (by decide +kernel)) dX9_image_17 ?_
        refine s_aload_n E dX9_image_18 rfl rfl ?_
        refine s_gR (r := 2) E fg_X9_20 rfl rfl (jv_lt hJ (by decide)) (jv_r hJ (by decide +kernel)) dX9_image_19 ?_
        refine s_vV (As := [AR 2]) (S := []) E (Z_X0_copyFrom_49_r2 l D aC b w  hJ.1 ) cv_X9_103 rfl rfl rfl (jv_lt hJ (by decide)) (Nat.le_of_ble_eq_true rfl) (Nat.le_of_ble_eq_true rfl) ⟨(Nat.le_of_ble_eq_true rfl), (Nat.le_of_ble_eq_true rfl)⟩ (Nat.le_of_ble_eq_true rfl) dX9_image_22 (fun u_9 hp_10 => ?_)
        have hj_11 := jv_trans hJ hp_10
        refine s_aload_n E dX9_image_25 rfl rfl ?_
        refine s_gR (r := 26) E fg_X9_40 rfl rfl (jv_lt hj_11 (by decide)) (jv_r hj_11 (by decide +kernel)) dX9_image_26 ?_
        refine s_iload_n E dX9_image_29 rfl rfl ?_
        refine s_iconst (v := 1) E dX9_image_30 (by decide) ?_
        refine s_zast E rfl (jv_lt hj_11 (by decide)) (z_in (u := 2) (by decide) (by omega) (by omega)) dX9_image_31 ?_
        have hI_ : Jv (upI w 26 (2 : Int32).toNatClampNeg 1) (upI u_9 26 (2 : Int32).toNatClampNeg (vp_nar .boolean 1)) := img_k hj_11 (by decide)
        refine s_iconst (v := 0) E dX9_image_32 (by decide) ?_
        exact r_int E dX9_image_33 (Or.inr ⟨by decide, by decide, hI_⟩)
    ·
      refine s_bipush (v := (-2)) E dX9_image_9 (by decide) ?_
      exact r_int E dX9_image_11 (Or.inl ⟨by decide, by omega, rfl⟩)
set_option maxRecDepth 20000 in
set_option maxHeartbeats 2000000 in
theorem Z_J7_fill_d0a16_r62 (l : Launch) (D : va_G) (aC : Nat → ClassId) (b : Nat) (w : XW) (x1 : Int64) (hI : Iv w)  : CnV l D aC b M_J7_fill_d0a16 0 0 0 0 [AR 62, AL x1] w (fun u => Jv w u) := by
  refine cn_V (own := RJ7) (nm := "fill") (L0 := [some (AR 62), some (AL x1), none, none, none]) (by decide +kernel) rfl rfl (Nat.le_of_ble_eq_true rfl) rfl ?_
  intro p e s m args below meth c E hin
  have hJ : Jv w w := jv_rfl hI
  refine s_iconst (v := 0) E dJ7_fill_d0a16_0 (by decide) ?_
  refine s_istore_n (L2 := [some (AR 62), some (AL x1), none, some (AI 0), none]) E dJ7_fill_d0a16_1 rfl (by decide) rfl ?_
  refine s_aload_n E dJ7_fill_d0a16_2 rfl rfl ?_
  refine s_alen (v := 60) E rfl (by decide) (jv_lt hJ (by decide)) (by decide) dJ7_fill_d0a16_3 ?_
  refine s_istore (L2 := [some (AR 62), some (AL x1), none, some (AI 0), some (AI 60)]) E dJ7_fill_d0a16_4 (by decide) rfl ?_
  refine z_loop (St := Int32) (Pi := fun q6_3_0 v6 => (0 ≤ q6_3_0.toInt ∧ q6_3_0.toInt ≤ 60) ∧ Jv w v6) (Lf := fun q6_3_0 => [some (AR 62), some (AL x1), none, some (AI q6_3_0), some (AI 60)]) (fun q6_3_0 _ => (61 - q6_3_0.toInt).toNat) 0 ⟨⟨by decide, by decide⟩, hJ⟩ ?_
  rintro q6_3_0 v6 ⟨hq6_3, hj_1⟩ ih6
  refine s_loc (L2 := [some (AR 62), some (AL x1), none, some (AI q6_3_0), some (AI 60)]) rfl ?_
  refine s_iload_n E dJ7_fill_d0a16_6 rfl rfl ?_
  refine s_iload E dJ7_fill_d0a16_7 rfl ?_
  refine z_icmp_ge (tgt := 22) (u := q6_3_0.toInt) (v := 60) E dJ7_fill_d0a16_9 (by decide) rfl (by decide) (fun h_2 => ?_) (fun h_2 => ?_)
  ·
    exact r_void E dJ7_fill_d0a16_22 hj_1
  ·
    refine s_aload_n E dJ7_fill_d0a16_12 rfl rfl ?_
    refine s_iload_n E dJ7_fill_d0a16_13 rfl rfl ?_
    refine s_lload_n E dJ7_fill_d0a16_14 rfl rfl ?_
    refine s_last E rfl (jv_lt hj_1 (by decide)) (z_in (u := q6_3_0.toInt) rfl (by omega) (by omega)) dJ7_fill_d0a16_15 ?_
    refine s_gen (P := Jv w) (jv_L hj_1 (by decide)) (fun v_3 hj_4 => ?_)
    refine z_iinc (u := q6_3_0.toInt) (L2 := fun z_5 => [some (AR 62), some (AL x1), none, some (AI z_5), some (AI 60)]) E dJ7_fill_d0a16_16 rfl rfl (by decide) (fun _ => rfl) (by decide) (by omega) (by omega) (fun z_5 hz_5 => ?_)
    refine s_goto (tgt := 6) E dJ7_fill_d0a16_19 (by decide) ?_
    exact ih6 z_5 v_3 ⟨⟨by have hb_ := z32 z_5; omega, by have hb_ := z32 z_5; omega⟩, hj_4⟩ (by first | omega | decide | (dsimp only; omega) | (dsimp only; decide))
set_option maxRecDepth 20000 in
set_option maxHeartbeats 2000000 in
theorem Z_X7_start_61 (l : Launch) (D : va_G) (aC : Nat → ClassId) (b : Nat) (w : XW) (x1 : Int32) (x2 : Int32) (hI : Iv w) (hx1 : 0 ≤ x1.toInt ∧ x1.toInt ≤ 3) (hx2 : 0 ≤ x2.toInt ∧ x2.toInt ≤ 60) : CnV l D aC b M_X7_start 1 24 0 0 [AR 61, AI x1, AI x2] w (fun u => Jv (upI (upI w 61 1 x1) 61 2 x2) u) := by
  refine cn_V (own := RX7) (nm := "start") (L0 := [some (AR 61), some (AI x1), some (AI x2)]) (by decide +kernel) rfl rfl (Nat.le_of_ble_eq_true rfl) rfl ?_
  intro p e s m args below meth c E hin
  have hJ : Jv w w := jv_rfl hI
  refine s_aload_n E dX7_start_0 rfl rfl ?_
  refine s_iload_n E dX7_start_1 rfl rfl ?_
  refine s_pI E fp_X7_19 (Or.inl rfl) rfl (jv_lt hJ (by decide)) dX7_start_2 ?_
  have k1_ : Jv (upI w 61 1 x1) (upI w 61 1 x1) := jv_kp hJ (by decide) (in_of (a := 0) (z := 3) (by decide +kernel) (by decide) (by omega) (by omega))
  refine s_aload_n E dX7_start_5 rfl rfl ?_
  refine s_bipush (v := 60) E dX7_start_6 (by decide) ?_
  refine s_iload_n E dX7_start_8 rfl rfl ?_
  refine z_min (u := 60) (v := x2.toInt) E ⟨k_1212, k_369, k_4, k_370⟩ (Nat.le_of_ble_eq_true rfl) (Nat.le_of_ble_eq_true rfl) (Nat.le_of_ble_eq_true rfl) (Nat.le_of_ble_eq_true rfl) dX7_start_9 (by decide) rfl (fun zm_ hzm_ => ?_)
  have ez_ : x2 = zm_ := Int32.toInt_inj.mp (by omega)
  subst ez_
  refine s_pI E fp_X7_15 (Or.inl rfl) rfl (jv_lt k1_ (by decide)) dX7_start_12 ?_
  have k2_ : Jv (upI (upI w 61 1 x1) 61 2 x2) (upI (upI w 61 1 x1) 61 2 x2) := jv_kp k1_ (by decide) (in_of (a := (-1)) (z := 60) (by decide +kernel) (by decide) (by omega) (by omega))
  refine s_aload_n E dX7_start_15 rfl rfl ?_
  refine s_gR (r := 62) E fg_X7_11 rfl rfl (jv_lt k2_ (by decide)) (jv_r k2_ (by decide +kernel)) dX7_start_16 ?_
  refine s_lconst (v := 0) E dX7_start_19 (by decide) ?_
  refine s_sV (As := [AR 62, AL 0]) (S := []) E (Z_J7_fill_d0a16_r62 l D aC b (upI (upI w 61 1 x1) 61 2 x2) 0 k2_.1) cs_X7_28 rfl rfl (Nat.le_of_ble_eq_true rfl) (Nat.le_of_ble_eq_true rfl) ⟨(Nat.le_of_ble_eq_true rfl), (Nat.le_of_ble_eq_true rfl)⟩ (Nat.le_of_ble_eq_true rfl) dX7_start_20 (fun u_ hp_ => ?_)
  exact r_void E dX7_start_23 hp_
set_option maxRecDepth 20000 in
set_option maxHeartbeats 2000000 in
theorem Z_J7_fill_d0a16_r64 (l : Launch) (D : va_G) (aC : Nat → ClassId) (b : Nat) (w : XW) (x1 : Int64) (hI : Iv w)  : CnV l D aC b M_J7_fill_d0a16 0 0 0 0 [AR 64, AL x1] w (fun u => Jv w u) := by
  refine cn_V (own := RJ7) (nm := "fill") (L0 := [some (AR 64), some (AL x1), none, none, none]) (by decide +kernel) rfl rfl (Nat.le_of_ble_eq_true rfl) rfl ?_
  intro p e s m args below meth c E hin
  have hJ : Jv w w := jv_rfl hI
  refine s_iconst (v := 0) E dJ7_fill_d0a16_0 (by decide) ?_
  refine s_istore_n (L2 := [some (AR 64), some (AL x1), none, some (AI 0), none]) E dJ7_fill_d0a16_1 rfl (by decide) rfl ?_
  refine s_aload_n E dJ7_fill_d0a16_2 rfl rfl ?_
  refine s_alen (v := 60) E rfl (by decide) (jv_lt hJ (by decide)) (by decide) dJ7_fill_d0a16_3 ?_
  refine s_istore (L2 := [some (AR 64), some (AL x1), none, some (AI 0), some (AI 60)]) E dJ7_fill_d0a16_4 (by decide) rfl ?_
  refine z_loop (St := Int32) (Pi := fun q6_3_0 v6 => (0 ≤ q6_3_0.toInt ∧ q6_3_0.toInt ≤ 60) ∧ Jv w v6) (Lf := fun q6_3_0 => [some (AR 64), some (AL x1), none, some (AI q6_3_0), some (AI 60)]) (fun q6_3_0 _ => (61 - q6_3_0.toInt).toNat) 0 ⟨⟨by decide, by decide⟩, hJ⟩ ?_
  rintro q6_3_0 v6 ⟨hq6_3, hj_1⟩ ih6
  refine s_loc (L2 := [some (AR 64), some (AL x1), none, some (AI q6_3_0), some (AI 60)]) rfl ?_
  refine s_iload_n E dJ7_fill_d0a16_6 rfl rfl ?_
  refine s_iload E dJ7_fill_d0a16_7 rfl ?_
  refine z_icmp_ge (tgt := 22) (u := q6_3_0.toInt) (v := 60) E dJ7_fill_d0a16_9 (by decide) rfl (by decide) (fun h_2 => ?_) (fun h_2 => ?_)
  ·
    exact r_void E dJ7_fill_d0a16_22 hj_1
  ·
    refine s_aload_n E dJ7_fill_d0a16_12 rfl rfl ?_
    refine s_iload_n E dJ7_fill_d0a16_13 rfl rfl ?_
    refine s_lload_n E dJ7_fill_d0a16_14 rfl rfl ?_
    refine s_last E rfl (jv_lt hj_1 (by decide)) (z_in (u := q6_3_0.toInt) rfl (by omega) (by omega)) dJ7_fill_d0a16_15 ?_
    refine s_gen (P := Jv w) (jv_L hj_1 (by decide)) (fun v_3 hj_4 => ?_)
    refine z_iinc (u := q6_3_0.toInt) (L2 := fun z_5 => [some (AR 64), some (AL x1), none, some (AI z_5), some (AI 60)]) E dJ7_fill_d0a16_16 rfl rfl (by decide) (fun _ => rfl) (by decide) (by omega) (by omega) (fun z_5 hz_5 => ?_)
    refine s_goto (tgt := 6) E dJ7_fill_d0a16_19 (by decide) ?_
    exact ih6 z_5 v_3 ⟨⟨by have hb_ := z32 z_5; omega, by have hb_ := z32 z_5; omega⟩, hj_4⟩ (by first | omega | decide | (dsimp only; omega) | (dsimp only; decide))
set_option maxRecDepth 20000 in
set_option maxHeartbeats 2000000 in
theorem Z_X7_start_63 (l : Launch) (D : va_G) (aC : Nat → ClassId) (b : Nat) (w : XW) (x1 : Int32) (x2 : Int32) (hI : Iv w) (hx1 : 0 ≤ x1.toInt ∧ x1.toInt ≤ 3) (hx2 : 0 ≤ x2.toInt ∧ x2.toInt ≤ 60) : CnV l D aC b M_X7_start 1 24 0 0 [AR 63, AI x1, AI x2] w (fun u => Jv (upI (upI w 63 1 x1) 63 2 x2) u) := by
  refine cn_V (own := RX7) (nm := "start") (L0 := [some (AR 63), some (AI x1), some (AI x2)]) (by decide +kernel) rfl rfl (Nat.le_of_ble_eq_true rfl) rfl ?_
  intro p e s m args below meth c E hin
  have hJ : Jv w w := jv_rfl hI
  refine s_aload_n E dX7_start_0 rfl rfl ?_
  refine s_iload_n E dX7_start_1 rfl rfl ?_
  refine s_pI E fp_X7_19 (Or.inl rfl) rfl (jv_lt hJ (by decide)) dX7_start_2 ?_
  have k1_ : Jv (upI w 63 1 x1) (upI w 63 1 x1) := jv_kp hJ (by decide) (in_of (a := 0) (z := 3) (by decide +kernel) (by decide) (by omega) (by omega))
  refine s_aload_n E dX7_start_5 rfl rfl ?_
  refine s_bipush (v := 60) E dX7_start_6 (by decide) ?_
  refine s_iload_n E dX7_start_8 rfl rfl ?_
  refine z_min (u := 60) (v := x2.toInt) E ⟨k_1212, k_369, k_4, k_370⟩ (Nat.le_of_ble_eq_true rfl) (Nat.le_of_ble_eq_true rfl) (Nat.le_of_ble_eq_true rfl) (Nat.le_of_ble_eq_true rfl) dX7_start_9 (by decide) rfl (fun zm_ hzm_ => ?_)
  have ez_ : x2 = zm_ := Int32.toInt_inj.mp (by omega)
  subst ez_
  refine s_pI E fp_X7_15 (Or.inl rfl) rfl (jv_lt k1_ (by decide)) dX7_start_12 ?_
  have k2_ : Jv (upI (upI w 63 1 x1) 63 2 x2) (upI (upI w 63 1 x1) 63 2 x2) := jv_kp k1_ (by decide) (in_of (a := (-1)) (z := 60) (by decide +kernel) (by decide) (by omega) (by omega))
  refine s_aload_n E dX7_start_15 rfl rfl ?_
  refine s_gR (r := 64) E fg_X7_11 rfl rfl (jv_lt k2_ (by decide)) (jv_r k2_ (by decide +kernel)) dX7_start_16 ?_
  refine s_lconst (v := 0) E dX7_start_19 (by decide) ?_
  refine s_sV (As := [AR 64, AL 0]) (S := []) E (Z_J7_fill_d0a16_r64 l D aC b (upI (upI w 63 1 x1) 63 2 x2) 0 k2_.1) cs_X7_28 rfl rfl (Nat.le_of_ble_eq_true rfl) (Nat.le_of_ble_eq_true rfl) ⟨(Nat.le_of_ble_eq_true rfl), (Nat.le_of_ble_eq_true rfl)⟩ (Nat.le_of_ble_eq_true rfl) dX7_start_20 (fun u_ hp_ => ?_)
  exact r_void E dX7_start_23 hp_
set_option maxRecDepth 20000 in
set_option maxHeartbeats 2000000 in
theorem Z_J7_fill_d0a16_r66 (l : Launch) (D : va_G) (aC : Nat → ClassId) (b : Nat) (w : XW) (x1 : Int64) (hI : Iv w)  : CnV l D aC b M_J7_fill_d0a16 0 0 0 0 [AR 66, AL x1] w (fun u => Jv w u) := by
  refine cn_V (own := RJ7) (nm := "fill") (L0 := [some (AR 66), some (AL x1), none, none, none]) (by decide +kernel) rfl rfl (Nat.le_of_ble_eq_true rfl) rfl ?_
  intro p e s m args below meth c E hin
  have hJ : Jv w w := jv_rfl hI
  refine s_iconst (v := 0) E dJ7_fill_d0a16_0 (by decide) ?_
  refine s_istore_n (L2 := [some (AR 66), some (AL x1), none, some (AI 0), none]) E dJ7_fill_d0a16_1 rfl (by decide) rfl ?_
  refine s_aload_n E dJ7_fill_d0a16_2 rfl rfl ?_
  refine s_alen (v := 60) E rfl (by decide) (jv_lt hJ (by decide)) (by decide) dJ7_fill_d0a16_3 ?_
  refine s_istore (L2 := [some (AR 66), some (AL x1), none, some (AI 0), some (AI 60)]) E dJ7_fill_d0a16_4 (by decide) rfl ?_
  refine z_loop (St := Int32) (Pi := fun q6_3_0 v6 => (0 ≤ q6_3_0.toInt ∧ q6_3_0.toInt ≤ 60) ∧ Jv w v6) (Lf := fun q6_3_0 => [some (AR 66), some (AL x1), none, some (AI q6_3_0), some (AI 60)]) (fun q6_3_0 _ => (61 - q6_3_0.toInt).toNat) 0 ⟨⟨by decide, by decide⟩, hJ⟩ ?_
  rintro q6_3_0 v6 ⟨hq6_3, hj_1⟩ ih6
  refine s_loc (L2 := [some (AR 66), some (AL x1), none, some (AI q6_3_0), some (AI 60)]) rfl ?_
  refine s_iload_n E dJ7_fill_d0a16_6 rfl rfl ?_
  refine s_iload E dJ7_fill_d0a16_7 rfl ?_
  refine z_icmp_ge (tgt := 22) (u := q6_3_0.toInt) (v := 60) E dJ7_fill_d0a16_9 (by decide) rfl (by decide) (fun h_2 => ?_) (fun h_2 => ?_)
  ·
    exact r_void E dJ7_fill_d0a16_22 hj_1
  ·
    refine s_aload_n E dJ7_fill_d0a16_12 rfl rfl ?_
    refine s_iload_n E dJ7_fill_d0a16_13 rfl rfl ?_
    refine s_lload_n E dJ7_fill_d0a16_14 rfl rfl ?_
    refine s_last E rfl (jv_lt hj_1 (by decide)) (z_in (u := q6_3_0.toInt) rfl (by omega) (by omega)) dJ7_fill_d0a16_15 ?_
    refine s_gen (P := Jv w) (jv_L hj_1 (by decide)) (fun v_3 hj_4 => ?_)
    refine z_iinc (u := q6_3_0.toInt) (L2 := fun z_5 => [some (AR 66), some (AL x1), none, some (AI z_5), some (AI 60)]) E dJ7_fill_d0a16_16 rfl rfl (by decide) (fun _ => rfl) (by decide) (by omega) (by omega) (fun z_5 hz_5 => ?_)
    refine s_goto (tgt := 6) E dJ7_fill_d0a16_19 (by decide) ?_
    exact ih6 z_5 v_3 ⟨⟨by have hb_ := z32 z_5; omega, by have hb_ := z32 z_5; omega⟩, hj_4⟩ (by first | omega | decide | (dsimp only; omega) | (dsimp only; decide))
set_option maxRecDepth 20000 in
set_option maxHeartbeats 2000000 in
theorem Z_X7_start_65 (l : Launch) (D : va_G) (aC : Nat → ClassId) (b : Nat) (w : XW) (x1 : Int32) (x2 : Int32) (hI : Iv w) (hx1 : 0 ≤ x1.toInt ∧ x1.toInt ≤ 3) (hx2 : 0 ≤ x2.toInt ∧ x2.toInt ≤ 60) : CnV l D aC b M_X7_start 1 24 0 0 [AR 65, AI x1, AI x2] w (fun u => Jv (upI (upI w 65 1 x1) 65 2 x2) u) := by
  refine cn_V (own := RX7) (nm := "start") (L0 := [some (AR 65), some (AI x1), some (AI x2)]) (by decide +kernel) rfl rfl (Nat.le_of_ble_eq_true rfl) rfl ?_
  intro p e s m args below meth c E hin
  have hJ : Jv w w := jv_rfl hI
  refine s_aload_n E dX7_start_0 rfl rfl ?_
  refine s_iload_n E dX7_start_1 rfl rfl ?_
  refine s_pI E fp_X7_19 (Or.inl rfl) rfl (jv_lt hJ (by decide)) dX7_start_2 ?_
  have k1_ : Jv (upI w 65 1 x1) (upI w 65 1 x1) := jv_kp hJ (by decide) (in_of (a := 0) (z := 3) (by decide +kernel) (by decide) (by omega) (by omega))
  refine s_aload_n E dX7_start_5 rfl rfl ?_
  refine s_bipush (v := 60) E dX7_start_6 (by decide) ?_
  refine s_iload_n E dX7_start_8 rfl rfl ?_
  refine z_min (u := 60) (v := x2.toInt) E ⟨k_1212, k_369, k_4, k_370⟩ (Nat.le_of_ble_eq_true rfl) (Nat.le_of_ble_eq_true rfl) (Nat.le_of_ble_eq_true rfl) (Nat.le_of_ble_eq_true rfl) dX7_start_9 (by decide) rfl (fun zm_ hzm_ => ?_)
  have ez_ : x2 = zm_ := Int32.toInt_inj.mp (by omega)
  subst ez_
  refine s_pI E fp_X7_15 (Or.inl rfl) rfl (jv_lt k1_ (by decide)) dX7_start_12 ?_
  have k2_ : Jv (upI (upI w 65 1 x1) 65 2 x2) (upI (upI w 65 1 x1) 65 2 x2) := jv_kp k1_ (by decide) (in_of (a := (-1)) (z := 60) (by decide +kernel) (by decide) (by omega) (by omega))
  refine s_aload_n E dX7_start_15 rfl rfl ?_
  refine s_gR (r := 66) E fg_X7_11 rfl rfl (jv_lt k2_ (by decide)) (jv_r k2_ (by decide +kernel)) dX7_start_16 ?_
  refine s_lconst (v := 0) E dX7_start_19 (by decide) ?_
  refine s_sV (As := [AR 66, AL 0]) (S := []) E (Z_J7_fill_d0a16_r66 l D aC b (upI (upI w 65 1 x1) 65 2 x2) 0 k2_.1) cs_X7_28 rfl rfl (Nat.le_of_ble_eq_true rfl) (Nat.le_of_ble_eq_true rfl) ⟨(Nat.le_of_ble_eq_true rfl), (Nat.le_of_ble_eq_true rfl)⟩ (Nat.le_of_ble_eq_true rfl) dX7_start_20 (fun u_ hp_ => ?_)
  exact r_void E dX7_start_23 hp_
set_option maxRecDepth 20000 in
set_option maxHeartbeats 2000000 in
theorem Z_J7_fill_d0a16_r68 (l : Launch) (D : va_G) (aC : Nat → ClassId) (b : Nat) (w : XW) (x1 : Int64) (hI : Iv w)  : CnV l D aC b M_J7_fill_d0a16 0 0 0 0 [AR 68, AL x1] w (fun u => Jv w u) := by
  refine cn_V (own := RJ7) (nm := "fill") (L0 := [some (AR 68), some (AL x1), none, none, none]) (by decide +kernel) rfl rfl (Nat.le_of_ble_eq_true rfl) rfl ?_
  intro p e s m args below meth c E hin
  have hJ : Jv w w := jv_rfl hI
  refine s_iconst (v := 0) E dJ7_fill_d0a16_0 (by decide) ?_
  refine s_istore_n (L2 := [some (AR 68), some (AL x1), none, some (AI 0), none]) E dJ7_fill_d0a16_1 rfl (by decide) rfl ?_
  refine s_aload_n E dJ7_fill_d0a16_2 rfl rfl ?_
  refine s_alen (v := 60) E rfl (by decide) (jv_lt hJ (by decide)) (by decide) dJ7_fill_d0a16_3 ?_
  refine s_istore (L2 := [some (AR 68), some (AL x1), none, some (AI 0), some (AI 60)]) E dJ7_fill_d0a16_4 (by decide) rfl ?_
  refine z_loop (St := Int32) (Pi := fun q6_3_0 v6 => (0 ≤ q6_3_0.toInt ∧ q6_3_0.toInt ≤ 60) ∧ Jv w v6) (Lf := fun q6_3_0 => [some (AR 68), some (AL x1), none, some (AI q6_3_0), some (AI 60)]) (fun q6_3_0 _ => (61 - q6_3_0.toInt).toNat) 0 ⟨⟨by decide, by decide⟩, hJ⟩ ?_
  rintro q6_3_0 v6 ⟨hq6_3, hj_1⟩ ih6
  refine s_loc (L2 := [some (AR 68), some (AL x1), none, some (AI q6_3_0), some (AI 60)]) rfl ?_
  refine s_iload_n E dJ7_fill_d0a16_6 rfl rfl ?_
  refine s_iload E dJ7_fill_d0a16_7 rfl ?_
  refine z_icmp_ge (tgt := 22) (u := q6_3_0.toInt) (v := 60) E dJ7_fill_d0a16_9 (by decide) rfl (by decide) (fun h_2 => ?_) (fun h_2 => ?_)
  ·
    exact r_void E dJ7_fill_d0a16_22 hj_1
  ·
    refine s_aload_n E dJ7_fill_d0a16_12 rfl rfl ?_
    refine s_iload_n E dJ7_fill_d0a16_13 rfl rfl ?_
    refine s_lload_n E dJ7_fill_d0a16_14 rfl rfl ?_
    refine s_last E rfl (jv_lt hj_1 (by decide)) (z_in (u := q6_3_0.toInt) rfl (by omega) (by omega)) dJ7_fill_d0a16_15 ?_
    refine s_gen (P := Jv w) (jv_L hj_1 (by decide)) (fun v_3 hj_4 => ?_)
    refine z_iinc (u := q6_3_0.toInt) (L2 := fun z_5 => [some (AR 68), some (AL x1), none, some (AI z_5), some (AI 60)]) E dJ7_fill_d0a16_16 rfl rfl (by decide) (fun _ => rfl) (by decide) (by omega) (by omega) (fun z_5 hz_5 => ?_)
    refine s_goto (tgt := 6) E dJ7_fill_d0a16_19 (by decide) ?_
    exact ih6 z_5 v_3 ⟨⟨by have hb_ := z32 z_5; omega, by have hb_ := z32 z_5; omega⟩, hj_4⟩ (by first | omega | decide | (dsimp only; omega) | (dsimp only; decide))
set_option maxRecDepth 20000 in
set_option maxHeartbeats 2000000 in
theorem Z_X7_start_67 (l : Launch) (D : va_G) (aC : Nat → ClassId) (b : Nat) (w : XW) (x1 : Int32) (x2 : Int32) (hI : Iv w) (hx1 : 0 ≤ x1.toInt ∧ x1.toInt ≤ 3) (hx2 : 0 ≤ x2.toInt ∧ x2.toInt ≤ 60) : CnV l D aC b M_X7_start 1 24 0 0 [AR 67, AI x1, AI x2] w (fun u => Jv (upI (upI w 67 1 x1) 67 2 x2) u) := by
  refine cn_V (own := RX7) (nm := "start") (L0 := [some (AR 67), some (AI x1), some (AI x2)]) (by decide +kernel) rfl rfl (Nat.le_of_ble_eq_true rfl) rfl ?_
  intro p e s m args below meth c E hin
  have hJ : Jv w w := jv_rfl hI
  refine s_aload_n E dX7_start_0 rfl rfl ?_
  refine s_iload_n E dX7_start_1 rfl rfl ?_
  refine s_pI E fp_X7_19 (Or.inl rfl) rfl (jv_lt hJ (by decide)) dX7_start_2 ?_
  have k1_ : Jv (upI w 67 1 x1) (upI w 67 1 x1) := jv_kp hJ (by decide) (in_of (a := 0) (z := 3) (by decide +kernel) (by decide) (by omega) (by omega))
  refine s_aload_n E dX7_start_5 rfl rfl ?_
  refine s_bipush (v := 60) E dX7_start_6 (by decide) ?_
  refine s_iload_n E dX7_start_8 rfl rfl ?_
  refine z_min (u := 60) (v := x2.toInt) E ⟨k_1212, k_369, k_4, k_370⟩ (Nat.le_of_ble_eq_true rfl) (Nat.le_of_ble_eq_true rfl) (Nat.le_of_ble_eq_true rfl) (Nat.le_of_ble_eq_true rfl) dX7_start_9 (by decide) rfl (fun zm_ hzm_ => ?_)
  have ez_ : x2 = zm_ := Int32.toInt_inj.mp (by omega)
  subst ez_
  refine s_pI E fp_X7_15 (Or.inl rfl) rfl (jv_lt k1_ (by decide)) dX7_start_12 ?_
  have k2_ : Jv (upI (upI w 67 1 x1) 67 2 x2) (upI (upI w 67 1 x1) 67 2 x2) := jv_kp k1_ (by decide) (in_of (a := (-1)) (z := 60) (by decide +kernel) (by decide) (by omega) (by omega))
  refine s_aload_n E dX7_start_15 rfl rfl ?_
  refine s_gR (r := 68) E fg_X7_11 rfl rfl (jv_lt k2_ (by decide)) (jv_r k2_ (by decide +kernel)) dX7_start_16 ?_
  refine s_lconst (v := 0) E dX7_start_19 (by decide) ?_
  refine s_sV (As := [AR 68, AL 0]) (S := []) E (Z_J7_fill_d0a16_r68 l D aC b (upI (upI w 67 1 x1) 67 2 x2) 0 k2_.1) cs_X7_28 rfl rfl (Nat.le_of_ble_eq_true rfl) (Nat.le_of_ble_eq_true rfl) ⟨(Nat.le_of_ble_eq_true rfl), (Nat.le_of_ble_eq_true rfl)⟩ (Nat.le_of_ble_eq_true rfl) dX7_start_20 (fun u_ hp_ => ?_)
  exact r_void E dX7_start_23 hp_
set_option maxRecDepth 20000 in
set_option maxHeartbeats 2000000 in
theorem Z_X9_row_0 (l : Launch) (D : va_G) (aC : Nat → ClassId) (b : Nat) (w : XW) (x1 : Int32) (x2 : Int32) (x3 : Int32) (hI : Iv w)  : CnI l D aC b M_X9_row 2 46 0 0 [AR 0, AI x1, AI x2, AI x3] w (fun r u => (r.toInt = -2 ∧ ¬ rwC x1 x2 x3 ∧ w = u) ∨ (r.toInt = -3 ∧ rwC x1 x2 x3 ∧ x3.toInt < 0 ∧ w = u) ∨ (r.toInt = 0 ∧ rwC x1 x2 x3 ∧ 0 ≤ x3.toInt ∧ Jv (upI (upI w (61 + 2 * x1.toInt.toNat) 1 x2) (61 + 2 * x1.toInt.toNat) 2 x3) u)) := by
  refine cn_I (own := RX9) (nm := "row") (L0 := [some (AR 0), some (AI x1), some (AI x2), some (AI x3)]) (by decide +kernel) rfl rfl (Nat.le_of_ble_eq_true rfl) rfl ?_
  intro p e s m args below meth c E hin
  have hJ : Jv w w := jv_rfl hI
  have hb_x1 := z32 x1
  have hb_x2 := z32 x2
  have hb_x3 := z32 x3
  refine s_iload_n E dX9_row_0 rfl rfl ?_
  refine s_sI (As := [AI x1]) (S := []) E (Z_X9_isSlot l D aC b w x1 hJ.1 ) cs_X9_276 rfl rfl (Nat.le_of_ble_eq_true rfl) (Nat.le_of_ble_eq_true rfl) ⟨(Nat.le_of_ble_eq_true rfl), (Nat.le_of_ble_eq_true rfl)⟩ (Nat.le_of_ble_eq_true rfl) dX9_row_1 (fun z_3 u_1 hp_2 => ?_)
  obtain ⟨hz_3, hxz_3, hp_2⟩ := hp_2
  subst hp_2
  refine z_if_eq (tgt := 22) (u := z_3.toInt) E dX9_row_4 (by decide) rfl (fun h_5 => ?_) (fun h_5 => ?_)
  ·
    refine s_bipush (v := (-2)) E dX9_row_22 (by decide) ?_
    exact r_int E dX9_row_24 (Or.inl ⟨by decide, by unfold rwC; omega, rfl⟩)
  ·
    refine s_iload_n E dX9_row_7 rfl rfl ?_
    refine z_if_lt (tgt := 22) (u := x2.toInt) E dX9_row_8 (by decide) rfl (fun h_6 => ?_) (fun h_6 => ?_)
    ·
      refine s_bipush (v := (-2)) E dX9_row_22 (by decide) ?_
      exact r_int E dX9_row_24 (Or.inl ⟨by decide, by unfold rwC; omega, rfl⟩)
    ·
      refine s_iload_n E dX9_row_11 rfl rfl ?_
      refine s_iconst (v := 3) E dX9_row_12 (by decide) ?_
      refine z_icmp_gt (tgt := 22) (u := x2.toInt) (v := 3) E dX9_row_13 (by decide) rfl (by decide) (fun h_7 => ?_) (fun h_7 => ?_)
      ·
        refine s_bipush (v := (-2)) E dX9_row_22 (by decide) ?_
        exact r_int E dX9_row_24 (Or.inl ⟨by decide, by unfold rwC; omega, rfl⟩)
      ·
        refine s_iload_n E dX9_row_16 rfl rfl ?_
        refine s_bipush (v := 60) E dX9_row_17 (by decide) ?_
        refine z_icmp_le (tgt := 25) (u := x3.toInt) (v := 60) E dX9_row_19 (by decide) rfl (by decide) (fun h_8 => ?_) (fun h_8 => ?_)
        ·
          refine s_iload_n E dX9_row_25 rfl rfl ?_
          refine z_if_ge (tgt := 32) (u := x3.toInt) E dX9_row_26 (by decide) rfl (fun h_9 => ?_) (fun h_9 => ?_)
          ·
            refine s_aload_n E dX9_row_32 rfl rfl ?_
            refine s_gR (r := 60) E fg_X9_46 rfl rfl (jv_lt hJ (by decide)) (jv_r hJ (by decide +kernel)) dX9_row_33 ?_
            refine s_iload_n E dX9_row_36 rfl rfl ?_
            rcases (show x1 = 0 ∨ x1 = 1 ∨ x1 = 2 ∨ x1 = 3 from (z_cases4 (u := x1.toInt) rfl (by omega) (by omega))) with rfl | rfl | rfl | rfl
            ·
              refine s_aald105 (r := 61) E rfl (jv_lt hJ (by decide)) (vp_c (by decide)) (jv_r hJ (by decide +kernel)) dX9_row_37 ?_
              refine s_iload_n E dX9_row_38 rfl rfl ?_
              refine s_iload_n E dX9_row_39 rfl rfl ?_
              refine s_vV (As := [AI x2, AI x3]) (S := []) E (Z_X7_start_61 l D aC b w x2 x3 hJ.1 ⟨by have hb_ := z32 x2; omega, by have hb_ := z32 x2; omega⟩ ⟨by have hb_ := z32 x3; omega, by have hb_ := z32 x3; omega⟩) cv_X9_426 rfl rfl rfl (jv_lt hJ (by decide)) (Nat.le_of_ble_eq_true rfl) (Nat.le_of_ble_eq_true rfl) ⟨(Nat.le_of_ble_eq_true rfl), (Nat.le_of_ble_eq_true rfl)⟩ (Nat.le_of_ble_eq_true rfl) dX9_row_40 (fun u_10 hp_11 => ?_)
              refine s_iconst (v := 0) E dX9_row_43 (by decide) ?_
              exact r_int E dX9_row_44 (Or.inr (Or.inr ⟨by decide, by unfold rwC; have h0_ : (0 : Int32).toInt = 0 := (by decide); have h1_ : (1 : Int32).toInt = 1 := (by decide); have h2_ : (2 : Int32).toInt = 2 := (by decide); have h3_ : (3 : Int32).toInt = 3 := (by decide); omega, by omega, by first | exact hp_11 | (rw [show (0 : Int32).toInt.toNat = 0 by decide]; exact hp_11) | (rw [show (1 : Int32).toInt.toNat = 1 by decide]; exact hp_11) | (rw [show (2 : Int32).toInt.toNat = 2 by decide]; exact hp_11) | (rw [show (3 : Int32).toInt.toNat = 3 by decide]; exact hp_11)⟩))
            ·
              refine s_aald105 (r := 63) E rfl (jv_lt hJ (by decide)) (vp_c (by decide)) (jv_r hJ (by decide +kernel)) dX9_row_37 ?_
              refine s_iload_n E dX9_row_38 rfl rfl ?_
              refine s_iload_n E dX9_row_39 rfl rfl ?_
              refine s_vV (As := [AI x2, AI x3]) (S := []) E (Z_X7_start_63 l D aC b w x2 x3 hJ.1 ⟨by have hb_ := z32 x2; omega, by have hb_ := z32 x2; omega⟩ ⟨by have hb_ := z32 x3; omega, by have hb_ := z32 x3; omega⟩) cv_X9_426 rfl rfl rfl (jv_lt hJ (by decide)) (Nat.le_of_ble_eq_true rfl) (Nat.le_of_ble_eq_true rfl) ⟨(Nat.le_of_ble_eq_true rfl), (Nat.le_of_ble_eq_true rfl)⟩ (Nat.le_of_ble_eq_true rfl) dX9_row_40 (fun u_13 hp_14 => ?_)
              refine s_iconst (v := 0) E dX9_row_43 (by decide) ?_
              exact r_int E dX9_row_44 (Or.inr (Or.inr ⟨by decide, by unfold rwC; have h0_ : (0 : Int32).toInt = 0 := (by decide); have h1_ : (1 : Int32).toInt = 1 := (by decide); have h2_ : (2 : Int32).toInt = 2 := (by decide); have h3_ : (3 : Int32).toInt = 3 := (by decide); omega, by omega, by first | exact hp_14 | (rw [show (0 : Int32).toInt.toNat = 0 by decide]; exact hp_14) | (rw [show (1 : Int32).toInt.toNat = 1 by decide]; exact hp_14) | (rw [show (2 : Int32).toInt.toNat = 2 by decide]; exact hp_14) | (rw [show (3 : Int32).toInt.toNat = 3 by decide]; exact hp_14)⟩))
            ·
              refine s_aald105 (r := 65) E rfl (jv_lt hJ (by decide)) (vp_c (by decide)) (jv_r hJ (by decide +kernel)) dX9_row_37 ?_
              refine s_iload_n E dX9_row_38 rfl rfl ?_
              refine s_iload_n E dX9_row_39 rfl rfl ?_
              refine s_vV (As := [AI x2, AI x3]) (S := []) E (Z_X7_start_65 l D aC b w x2 x3 hJ.1 ⟨by have hb_ := z32 x2; omega, by have hb_ := z32 x2; omega⟩ ⟨by have hb_ := z32 x3; omega, by have hb_ := z32 x3; omega⟩) cv_X9_426 rfl rfl rfl (jv_lt hJ (by decide)) (Nat.le_of_ble_eq_true rfl) (Nat.le_of_ble_eq_true rfl) ⟨(Nat.le_of_ble_eq_true rfl), (Nat.le_of_ble_eq_true rfl)⟩ (Nat.le_of_ble_eq_true rfl) dX9_row_40 (fun u_16 hp_17 => ?_)
              refine s_iconst (v := 0) E dX9_row_43 (by decide) ?_
              exact r_int E dX9_row_44 (Or.inr (Or.inr ⟨by decide, by unfold rwC; have h0_ : (0 : Int32).toInt = 0 := (by decide); have h1_ : (1 : Int32).toInt = 1 := (by decide); have h2_ : (2 : Int32).toInt = 2 := (by decide); have h3_ : (3 : Int32).toInt = 3 := (by decide); omega, by omega, by first | exact hp_17 | (rw [show (0 : Int32).toInt.toNat = 0 by decide]; exact hp_17) | (rw [show (1 : Int32).toInt.toNat = 1 by decide]; exact hp_17) | (rw [show (2 : Int32).toInt.toNat = 2 by decide]; exact hp_17) | (rw [show (3 : Int32).toInt.toNat = 3 by decide]; exact hp_17)⟩))
            ·
              refine s_aald105 (r := 67) E rfl (jv_lt hJ (by decide)) (vp_c (by decide)) (jv_r hJ (by decide +kernel)) dX9_row_37 ?_
              refine s_iload_n E dX9_row_38 rfl rfl ?_
              refine s_iload_n E dX9_row_39 rfl rfl ?_
              refine s_vV (As := [AI x2, AI x3]) (S := []) E (Z_X7_start_67 l D aC b w x2 x3 hJ.1 ⟨by have hb_ := z32 x2; omega, by have hb_ := z32 x2; omega⟩ ⟨by have hb_ := z32 x3; omega, by have hb_ := z32 x3; omega⟩) cv_X9_426 rfl rfl rfl (jv_lt hJ (by decide)) (Nat.le_of_ble_eq_true rfl) (Nat.le_of_ble_eq_true rfl) ⟨(Nat.le_of_ble_eq_true rfl), (Nat.le_of_ble_eq_true rfl)⟩ (Nat.le_of_ble_eq_true rfl) dX9_row_40 (fun u_19 hp_20 => ?_)
              refine s_iconst (v := 0) E dX9_row_43 (by decide) ?_
              exact r_int E dX9_row_44 (Or.inr (Or.inr ⟨by decide, by unfold rwC; have h0_ : (0 : Int32).toInt = 0 := (by decide); have h1_ : (1 : Int32).toInt = 1 := (by decide); have h2_ : (2 : Int32).toInt = 2 := (by decide); have h3_ : (3 : Int32).toInt = 3 := (by decide); omega, by omega, by first | exact hp_20 | (rw [show (0 : Int32).toInt.toNat = 0 by decide]; exact hp_20) | (rw [show (1 : Int32).toInt.toNat = 1 by decide]; exact hp_20) | (rw [show (2 : Int32).toInt.toNat = 2 by decide]; exact hp_20) | (rw [show (3 : Int32).toInt.toNat = 3 by decide]; exact hp_20)⟩))
          ·
            refine s_bipush (v := (-3)) E dX9_row_29 (by decide) ?_
            exact r_int E dX9_row_31 (Or.inr (Or.inl ⟨by decide, by unfold rwC; omega, by omega, rfl⟩))
        ·
          refine s_bipush (v := (-2)) E dX9_row_22 (by decide) ?_
          exact r_int E dX9_row_24 (Or.inl ⟨by decide, by unfold rwC; omega, rfl⟩)
set_option maxRecDepth 20000 in
set_option maxHeartbeats 2000000 in
theorem Z_X8_copyFrom_3_r28 (l : Launch) (D : va_G) (aC : Nat → ClassId) (b : Nat) (w : XW)  (hI : Iv w)  : CnV l D aC b M_X8_copyFrom 1 60 0 0 [AR 3, AR 28] w (fun u => Jv w u) := by
  refine cn_V (own := RX8) (nm := "copyFrom") (L0 := [some (AR 3), some (AR 28)]) (by decide +kernel) rfl rfl (Nat.le_of_ble_eq_true rfl) rfl ?_
  intro p e s m args below meth c E hin
  have hJ : Jv w w := jv_rfl hI
  refine s_aload_n E dX8_copyFrom_0 rfl rfl ?_
  refine s_gR (r := 29) E fg_X8_24 rfl rfl (jv_lt hJ (by decide)) (jv_r hJ (by decide +kernel)) dX8_copyFrom_1 ?_
  refine s_iconst (v := 0) E dX8_copyFrom_4 (by decide) ?_
  refine s_aload_n E dX8_copyFrom_5 rfl rfl ?_
  refine s_gR (r := 4) E fg_X8_24 rfl rfl (jv_lt hJ (by decide)) (jv_r hJ (by decide +kernel)) dX8_copyFrom_6 ?_
  refine s_iconst (v := 0) E dX8_copyFrom_9 (by decide) ?_
  refine s_aload_n E dX8_copyFrom_10 rfl rfl ?_
  refine s_gR (r := 4) E fg_X8_24 rfl rfl (jv_lt hJ (by decide)) (jv_r hJ (by decide +kernel)) dX8_copyFrom_11 ?_
  refine s_alen (v := 36) E rfl (by decide) (jv_lt hJ (by decide)) (by decide) dX8_copyFrom_14 ?_
  refine s_aload_n E dX8_copyFrom_15 rfl rfl ?_
  refine s_gR (r := 29) E fg_X8_24 rfl rfl (jv_lt hJ (by decide)) (jv_r hJ (by decide +kernel)) dX8_copyFrom_16 ?_
  refine s_alen (v := 36) E rfl (by decide) (jv_lt hJ (by decide)) (by decide) dX8_copyFrom_19 ?_
  refine z_min (u := 36) (v := 36) E ⟨k_535, k_369, k_4, k_370⟩ (Nat.le_of_ble_eq_true rfl) (Nat.le_of_ble_eq_true rfl) (Nat.le_of_ble_eq_true rfl) (Nat.le_of_ble_eq_true rfl) dX8_copyFrom_20 (by decide) (by decide) (fun z_1 hz_1 => ?_)
  refine z_copy100 (S := []) (u1 := 0) (u2 := 0) (u3 := z_1.toInt) E k_536 k_538 k_537 k_17 rfl rfl (jv_lt hJ (by decide)) (jv_lt hJ (by decide)) (by decide) (by decide) rfl (by omega) (by omega) (by omega) (by omega) (by omega) (Nat.le_of_ble_eq_true rfl) (Nat.le_of_ble_eq_true rfl) dX8_copyFrom_23 ?_
  refine s_gen (P := Jv w) (jv_c_29_4 hJ) (fun v_2 hj_3 => ?_)
  refine s_aload_n E dX8_copyFrom_26 rfl rfl ?_
  refine s_aload_n E dX8_copyFrom_27 rfl rfl ?_
  refine s_gI E fg_X8_28 rfl rfl (jv_lt hj_3 (by decide)) dX8_copyFrom_28 ?_
  refine z_nm (P := fun z => z.toInt = (v_2.2.2.1 28 3).toInt ∧ 0 ≤ z.toInt ∧ z.toInt ≤ 12) ⟨rfl, (rg_28_3 hj_3)⟩ (fun z_4 hz_4 => ?_)
  refine s_pI E fp_X8_28 (Or.inl rfl) rfl (jv_lt hj_3 (by decide)) dX8_copyFrom_31 ?_
  refine s_gen (P := Jv w) (jv_f_3_3 hj_3 (by have hb_ := z32 z_4; omega) (by have hb_ := z32 z_4; omega)) (fun v_5 hj_6 => ?_)
  exact r_void E dX8_copyFrom_34 hj_6
set_option maxRecDepth 20000 in
set_option maxHeartbeats 2000000 in
theorem Z_X8_copyFrom_5_r30 (l : Launch) (D : va_G) (aC : Nat → ClassId) (b : Nat) (w : XW)  (hI : Iv w)  : CnV l D aC b M_X8_copyFrom 1 60 0 0 [AR 5, AR 30] w (fun u => Jv w u) := by
  refine cn_V (own := RX8) (nm := "copyFrom") (L0 := [some (AR 5), some (AR 30)]) (by decide +kernel) rfl rfl (Nat.le_of_ble_eq_true rfl) rfl ?_
  intro p e s m args below meth c E hin
  have hJ : Jv w w := jv_rfl hI
  refine s_aload_n E dX8_copyFrom_0 rfl rfl ?_
  refine s_gR (r := 31) E fg_X8_24 rfl rfl (jv_lt hJ (by decide)) (jv_r hJ (by decide +kernel)) dX8_copyFrom_1 ?_
  refine s_iconst (v := 0) E dX8_copyFrom_4 (by decide) ?_
  refine s_aload_n E dX8_copyFrom_5 rfl rfl ?_
  refine s_gR (r := 6) E fg_X8_24 rfl rfl (jv_lt hJ (by decide)) (jv_r hJ (by decide +kernel)) dX8_copyFrom_6 ?_
  refine s_iconst (v := 0) E dX8_copyFrom_9 (by decide) ?_
  refine s_aload_n E dX8_copyFrom_10 rfl rfl ?_
  refine s_gR (r := 6) E fg_X8_24 rfl rfl (jv_lt hJ (by decide)) (jv_r hJ (by decide +kernel)) dX8_copyFrom_11 ?_
  refine s_alen (v := 12) E rfl (by decide) (jv_lt hJ (by decide)) (by decide) dX8_copyFrom_14 ?_
  refine s_aload_n E dX8_copyFrom_15 rfl rfl ?_
  refine s_gR (r := 31) E fg_X8_24 rfl rfl (jv_lt hJ (by decide)) (jv_r hJ (by decide +kernel)) dX8_copyFrom_16 ?_
  refine s_alen (v := 12) E rfl (by decide) (jv_lt hJ (by decide)) (by decide) dX8_copyFrom_19 ?_
  refine z_min (u := 12) (v := 12) E ⟨k_535, k_369, k_4, k_370⟩ (Nat.le_of_ble_eq_true rfl) (Nat.le_of_ble_eq_true rfl) (Nat.le_of_ble_eq_true rfl) (Nat.le_of_ble_eq_true rfl) dX8_copyFrom_20 (by decide) (by decide) (fun z_1 hz_1 => ?_)
  refine z_copy100 (S := []) (u1 := 0) (u2 := 0) (u3 := z_1.toInt) E k_536 k_538 k_537 k_17 rfl rfl (jv_lt hJ (by decide)) (jv_lt hJ (by decide)) (by decide) (by decide) rfl (by omega) (by omega) (by omega) (by omega) (by omega) (Nat.le_of_ble_eq_true rfl) (Nat.le_of_ble_eq_true rfl) dX8_copyFrom_23 ?_
  refine s_gen (P := Jv w) (jv_c_31_6 hJ) (fun v_2 hj_3 => ?_)
  refine s_aload_n E dX8_copyFrom_26 rfl rfl ?_
  refine s_aload_n E dX8_copyFrom_27 rfl rfl ?_
  refine s_gI E fg_X8_28 rfl rfl (jv_lt hj_3 (by decide)) dX8_copyFrom_28 ?_
  refine z_nm (P := fun z => z.toInt = (v_2.2.2.1 30 3).toInt ∧ 0 ≤ z.toInt ∧ z.toInt ≤ 6) ⟨rfl, (rg_30_3 hj_3)⟩ (fun z_4 hz_4 => ?_)
  refine s_pI E fp_X8_28 (Or.inl rfl) rfl (jv_lt hj_3 (by decide)) dX8_copyFrom_31 ?_
  refine s_gen (P := Jv w) (jv_f_5_3 hj_3 (by have hb_ := z32 z_4; omega) (by have hb_ := z32 z_4; omega)) (fun v_5 hj_6 => ?_)
  exact r_void E dX8_copyFrom_34 hj_6
set_option maxRecDepth 20000 in
set_option maxHeartbeats 2000000 in
theorem Z_X8_copyFrom_7_r32 (l : Launch) (D : va_G) (aC : Nat → ClassId) (b : Nat) (w : XW)  (hI : Iv w)  : CnV l D aC b M_X8_copyFrom 1 60 0 0 [AR 7, AR 32] w (fun u => Jv w u) := by
  refine cn_V (own := RX8) (nm := "copyFrom") (L0 := [some (AR 7), some (AR 32)]) (by decide +kernel) rfl rfl (Nat.le_of_ble_eq_true rfl) rfl ?_
  intro p e s m args below meth c E hin
  have hJ : Jv w w := jv_rfl hI
  refine s_aload_n E dX8_copyFrom_0 rfl rfl ?_
  refine s_gR (r := 33) E fg_X8_24 rfl rfl (jv_lt hJ (by decide)) (jv_r hJ (by decide +kernel)) dX8_copyFrom_1 ?_
  refine s_iconst (v := 0) E dX8_copyFrom_4 (by decide) ?_
  refine s_aload_n E dX8_copyFrom_5 rfl rfl ?_
  refine s_gR (r := 8) E fg_X8_24 rfl rfl (jv_lt hJ (by decide)) (jv_r hJ (by decide +kernel)) dX8_copyFrom_6 ?_
  refine s_iconst (v := 0) E dX8_copyFrom_9 (by decide) ?_
  refine s_aload_n E dX8_copyFrom_10 rfl rfl ?_
  refine s_gR (r := 8) E fg_X8_24 rfl rfl (jv_lt hJ (by decide)) (jv_r hJ (by decide +kernel)) dX8_copyFrom_11 ?_
  refine s_alen (v := 16) E rfl (by decide) (jv_lt hJ (by decide)) (by decide) dX8_copyFrom_14 ?_
  refine s_aload_n E dX8_copyFrom_15 rfl rfl ?_
  refine s_gR (r := 33) E fg_X8_24 rfl rfl (jv_lt hJ (by decide)) (jv_r hJ (by decide +kernel)) dX8_copyFrom_16 ?_
  refine s_alen (v := 16) E rfl (by decide) (jv_lt hJ (by decide)) (by decide) dX8_copyFrom_19 ?_
  refine z_min (u := 16) (v := 16) E ⟨k_535, k_369, k_4, k_370⟩ (Nat.le_of_ble_eq_true rfl) (Nat.le_of_ble_eq_true rfl) (Nat.le_of_ble_eq_true rfl) (Nat.le_of_ble_eq_true rfl) dX8_copyFrom_20 (by decide) (by decide) (fun z_1 hz_1 => ?_)
  refine z_copy100 (S := []) (u1 := 0) (u2 := 0) (u3 := z_1.toInt) E k_536 k_538 k_537 k_17 rfl rfl (jv_lt hJ (by decide)) (jv_lt hJ (by decide)) (by decide) (by decide) rfl (by omega) (by omega) (by omega) (by omega) (by omega) (Nat.le_of_ble_eq_true rfl) (Nat.le_of_ble_eq_true rfl) dX8_copyFrom_23 ?_
  refine s_gen (P := Jv w) (jv_c_33_8 hJ) (fun v_2 hj_3 => ?_)
  refine s_aload_n E dX8_copyFrom_26 rfl rfl ?_
  refine s_aload_n E dX8_copyFrom_27 rfl rfl ?_
  refine s_gI E fg_X8_28 rfl rfl (jv_lt hj_3 (by decide)) dX8_copyFrom_28 ?_
  refine z_nm (P := fun z => z.toInt = (v_2.2.2.1 32 3).toInt ∧ 0 ≤ z.toInt ∧ z.toInt ≤ 8) ⟨rfl, (rg_32_3 hj_3)⟩ (fun z_4 hz_4 => ?_)
  refine s_pI E fp_X8_28 (Or.inl rfl) rfl (jv_lt hj_3 (by decide)) dX8_copyFrom_31 ?_
  refine s_gen (P := Jv w) (jv_f_7_3 hj_3 (by have hb_ := z32 z_4; omega) (by have hb_ := z32 z_4; omega)) (fun v_5 hj_6 => ?_)
  exact r_void E dX8_copyFrom_34 hj_6
set_option maxRecDepth 20000 in
set_option maxHeartbeats 2000000 in
theorem Z_X8_copyFrom_9_r34 (l : Launch) (D : va_G) (aC : Nat → ClassId) (b : Nat) (w : XW)  (hI : Iv w)  : CnV l D aC b M_X8_copyFrom 1 60 0 0 [AR 9, AR 34] w (fun u => Jv w u) := by
  refine cn_V (own := RX8) (nm := "copyFrom") (L0 := [some (AR 9), some (AR 34)]) (by decide +kernel) rfl rfl (Nat.le_of_ble_eq_true rfl) rfl ?_
  intro p e s m args below meth c E hin
  have hJ : Jv w w := jv_rfl hI
  refine s_aload_n E dX8_copyFrom_0 rfl rfl ?_
  refine s_gR (r := 35) E fg_X8_24 rfl rfl (jv_lt hJ (by decide)) (jv_r hJ (by decide +kernel)) dX8_copyFrom_1 ?_
  refine s_iconst (v := 0) E dX8_copyFrom_4 (by decide) ?_
  refine s_aload_n E dX8_copyFrom_5 rfl rfl ?_
  refine s_gR (r := 10) E fg_X8_24 rfl rfl (jv_lt hJ (by decide)) (jv_r hJ (by decide +kernel)) dX8_copyFrom_6 ?_
  refine s_iconst (v := 0) E dX8_copyFrom_9 (by decide) ?_
  refine s_aload_n E dX8_copyFrom_10 rfl rfl ?_
  refine s_gR (r := 10) E fg_X8_24 rfl rfl (jv_lt hJ (by decide)) (jv_r hJ (by decide +kernel)) dX8_copyFrom_11 ?_
  refine s_alen (v := 30) E rfl (by decide) (jv_lt hJ (by decide)) (by decide) dX8_copyFrom_14 ?_
  refine s_aload_n E dX8_copyFrom_15 rfl rfl ?_
  refine s_gR (r := 35) E fg_X8_24 rfl rfl (jv_lt hJ (by decide)) (jv_r hJ (by decide +kernel)) dX8_copyFrom_16 ?_
  refine s_alen (v := 30) E rfl (by decide) (jv_lt hJ (by decide)) (by decide) dX8_copyFrom_19 ?_
  refine z_min (u := 30) (v := 30) E ⟨k_535, k_369, k_4, k_370⟩ (Nat.le_of_ble_eq_true rfl) (Nat.le_of_ble_eq_true rfl) (Nat.le_of_ble_eq_true rfl) (Nat.le_of_ble_eq_true rfl) dX8_copyFrom_20 (by decide) (by decide) (fun z_1 hz_1 => ?_)
  refine z_copy100 (S := []) (u1 := 0) (u2 := 0) (u3 := z_1.toInt) E k_536 k_538 k_537 k_17 rfl rfl (jv_lt hJ (by decide)) (jv_lt hJ (by decide)) (by decide) (by decide) rfl (by omega) (by omega) (by omega) (by omega) (by omega) (Nat.le_of_ble_eq_true rfl) (Nat.le_of_ble_eq_true rfl) dX8_copyFrom_23 ?_
  refine s_gen (P := Jv w) (jv_c_35_10 hJ) (fun v_2 hj_3 => ?_)
  refine s_aload_n E dX8_copyFrom_26 rfl rfl ?_
  refine s_aload_n E dX8_copyFrom_27 rfl rfl ?_
  refine s_gI E fg_X8_28 rfl rfl (jv_lt hj_3 (by decide)) dX8_copyFrom_28 ?_
  refine z_nm (P := fun z => z.toInt = (v_2.2.2.1 34 3).toInt ∧ 0 ≤ z.toInt ∧ z.toInt ≤ 10) ⟨rfl, (rg_34_3 hj_3)⟩ (fun z_4 hz_4 => ?_)
  refine s_pI E fp_X8_28 (Or.inl rfl) rfl (jv_lt hj_3 (by decide)) dX8_copyFrom_31 ?_
  refine s_gen (P := Jv w) (jv_f_9_3 hj_3 (by have hb_ := z32 z_4; omega) (by have hb_ := z32 z_4; omega)) (fun v_5 hj_6 => ?_)
  exact r_void E dX8_copyFrom_34 hj_6
set_option maxRecDepth 20000 in
set_option maxHeartbeats 2000000 in
theorem Z_X8_copyFrom_11_r36 (l : Launch) (D : va_G) (aC : Nat → ClassId) (b : Nat) (w : XW)  (hI : Iv w)  : CnV l D aC b M_X8_copyFrom 1 60 0 0 [AR 11, AR 36] w (fun u => Jv w u) := by
  refine cn_V (own := RX8) (nm := "copyFrom") (L0 := [some (AR 11), some (AR 36)]) (by decide +kernel) rfl rfl (Nat.le_of_ble_eq_true rfl) rfl ?_
  intro p e s m args below meth c E hin
  have hJ : Jv w w := jv_rfl hI
  refine s_aload_n E dX8_copyFrom_0 rfl rfl ?_
  refine s_gR (r := 37) E fg_X8_24 rfl rfl (jv_lt hJ (by decide)) (jv_r hJ (by decide +kernel)) dX8_copyFrom_1 ?_
  refine s_iconst (v := 0) E dX8_copyFrom_4 (by decide) ?_
  refine s_aload_n E dX8_copyFrom_5 rfl rfl ?_
  refine s_gR (r := 12) E fg_X8_24 rfl rfl (jv_lt hJ (by decide)) (jv_r hJ (by decide +kernel)) dX8_copyFrom_6 ?_
  refine s_iconst (v := 0) E dX8_copyFrom_9 (by decide) ?_
  refine s_aload_n E dX8_copyFrom_10 rfl rfl ?_
  refine s_gR (r := 12) E fg_X8_24 rfl rfl (jv_lt hJ (by decide)) (jv_r hJ (by decide +kernel)) dX8_copyFrom_11 ?_
  refine s_alen (v := 120) E rfl (by decide) (jv_lt hJ (by decide)) (by decide) dX8_copyFrom_14 ?_
  refine s_aload_n E dX8_copyFrom_15 rfl rfl ?_
  refine s_gR (r := 37) E fg_X8_24 rfl rfl (jv_lt hJ (by decide)) (jv_r hJ (by decide +kernel)) dX8_copyFrom_16 ?_
  refine s_alen (v := 120) E rfl (by decide) (jv_lt hJ (by decide)) (by decide) dX8_copyFrom_19 ?_
  refine z_min (u := 120) (v := 120) E ⟨k_535, k_369, k_4, k_370⟩ (Nat.le_of_ble_eq_true rfl) (Nat.le_of_ble_eq_true rfl) (Nat.le_of_ble_eq_true rfl) (Nat.le_of_ble_eq_true rfl) dX8_copyFrom_20 (by decide) (by decide) (fun z_1 hz_1 => ?_)
  refine z_copy100 (S := []) (u1 := 0) (u2 := 0) (u3 := z_1.toInt) E k_536 k_538 k_537 k_17 rfl rfl (jv_lt hJ (by decide)) (jv_lt hJ (by decide)) (by decide) (by decide) rfl (by omega) (by omega) (by omega) (by omega) (by omega) (Nat.le_of_ble_eq_true rfl) (Nat.le_of_ble_eq_true rfl) dX8_copyFrom_23 ?_
  refine s_gen (P := Jv w) (jv_c_37_12 hJ) (fun v_2 hj_3 => ?_)
  refine s_aload_n E dX8_copyFrom_26 rfl rfl ?_
  refine s_aload_n E dX8_copyFrom_27 rfl rfl ?_
  refine s_gI E fg_X8_28 rfl rfl (jv_lt hj_3 (by decide)) dX8_copyFrom_28 ?_
  refine z_nm (P := fun z => z.toInt = (v_2.2.2.1 36 3).toInt ∧ 0 ≤ z.toInt ∧ z.toInt ≤ 30) ⟨rfl, (rg_36_3 hj_3)⟩ (fun z_4 hz_4 => ?_)
  refine s_pI E fp_X8_28 (Or.inl rfl) rfl (jv_lt hj_3 (by decide)) dX8_copyFrom_31 ?_
  refine s_gen (P := Jv w) (jv_f_11_3 hj_3 (by have hb_ := z32 z_4; omega) (by have hb_ := z32 z_4; omega)) (fun v_5 hj_6 => ?_)
  exact r_void E dX8_copyFrom_34 hj_6
set_option maxRecDepth 20000 in
set_option maxHeartbeats 2000000 in
theorem Z_X0_copyFrom_2_r27 (l : Launch) (D : va_G) (aC : Nat → ClassId) (b : Nat) (w : XW)  (hI : Iv w)  : CnV l D aC b M_X0_copyFrom 2 81 0 0 [AR 2, AR 27] w (fun u => Jv w u) := by
  refine cn_V (own := RX0) (nm := "copyFrom") (L0 := [some (AR 2), some (AR 27)]) (by decide +kernel) rfl rfl (Nat.le_of_ble_eq_true rfl) rfl ?_
  intro p e s m args below meth c E hin
  have hJ : Jv w w := jv_rfl hI
  refine s_aload_n E dX0_copyFrom_0 rfl rfl ?_
  refine s_aload_n E dX0_copyFrom_1 rfl rfl ?_
  refine s_gI E fg_X0_32 rfl rfl (jv_lt hJ (by decide)) dX0_copyFrom_2 ?_
  refine z_nm (P := fun z => z.toInt = (w.2.2.1 27 0).toInt ∧ (-2147483648) ≤ z.toInt ∧ z.toInt ≤ 2147483647) ⟨rfl, z32 _⟩ (fun z_1 hz_1 => ?_)
  refine s_pI E fp_X0_32 (Or.inl rfl) rfl (jv_lt hJ (by decide)) dX0_copyFrom_5 ?_
  refine s_gen (P := Jv w) (jv_f_2_0 hJ (by have hb_ := z32 z_1; omega) (by have hb_ := z32 z_1; omega)) (fun v_2 hj_3 => ?_)
  refine s_aload_n E dX0_copyFrom_8 rfl rfl ?_
  refine s_aload_n E dX0_copyFrom_9 rfl rfl ?_
  refine s_gI E fg_X0_36 rfl rfl (jv_lt hj_3 (by decide)) dX0_copyFrom_10 ?_
  refine z_nm (P := fun z => z.toInt = (v_2.2.2.1 27 1).toInt ∧ 0 ≤ z.toInt ∧ z.toInt ≤ 8) ⟨rfl, (rg_27_1 hj_3)⟩ (fun z_4 hz_4 => ?_)
  refine s_pI E fp_X0_36 (Or.inl rfl) rfl (jv_lt hj_3 (by decide)) dX0_copyFrom_13 ?_
  refine s_gen (P := Jv w) (jv_f_2_1 hj_3 (by have hb_ := z32 z_4; omega) (by have hb_ := z32 z_4; omega)) (fun v_5 hj_6 => ?_)
  refine s_aload_n E dX0_copyFrom_16 rfl rfl ?_
  refine s_aload_n E dX0_copyFrom_17 rfl rfl ?_
  refine s_gI E fg_X0_39 rfl rfl (jv_lt hj_6 (by decide)) dX0_copyFrom_18 ?_
  refine z_nm (P := fun z => z.toInt = (v_5.2.2.1 27 2).toInt ∧ 0 ≤ z.toInt ∧ z.toInt ≤ 14) ⟨rfl, (rg_27_2 hj_6)⟩ (fun z_7 hz_7 => ?_)
  refine s_pI E fp_X0_39 (Or.inl rfl) rfl (jv_lt hj_6 (by decide)) dX0_copyFrom_21 ?_
  refine s_gen (P := Jv w) (jv_f_2_2 hj_6 (by have hb_ := z32 z_7; omega) (by have hb_ := z32 z_7; omega)) (fun v_8 hj_9 => ?_)
  refine s_aload_n E dX0_copyFrom_24 rfl rfl ?_
  refine s_aload_n E dX0_copyFrom_25 rfl rfl ?_
  refine s_gI E fg_X0_42 rfl rfl (jv_lt hj_9 (by decide)) dX0_copyFrom_26 ?_
  refine z_nm (P := fun z => z.toInt = (v_8.2.2.1 27 3).toInt ∧ (-2147483648) ≤ z.toInt ∧ z.toInt ≤ 2147483647) ⟨rfl, z32 _⟩ (fun z_10 hz_10 => ?_)
  refine s_pI E fp_X0_42 (Or.inl rfl) rfl (jv_lt hj_9 (by decide)) dX0_copyFrom_29 ?_
  refine s_gen (P := Jv w) (jv_f_2_3 hj_9 (by have hb_ := z32 z_10; omega) (by have hb_ := z32 z_10; omega)) (fun v_11 hj_12 => ?_)
  refine s_aload_n E dX0_copyFrom_32 rfl rfl ?_
  refine s_aload_n E dX0_copyFrom_33 rfl rfl ?_
  refine s_gI E fg_X0_45 rfl rfl (jv_lt hj_12 (by decide)) dX0_copyFrom_34 ?_
  refine z_nm (P := fun z => z.toInt = (v_11.2.2.1 27 4).toInt ∧ (-2147483648) ≤ z.toInt ∧ z.toInt ≤ 2147483647) ⟨rfl, z32 _⟩ (fun z_13 hz_13 => ?_)
  refine s_pI E fp_X0_45 (Or.inl rfl) rfl (jv_lt hj_12 (by decide)) dX0_copyFrom_37 ?_
  refine s_gen (P := Jv w) (jv_f_2_4 hj_12 (by have hb_ := z32 z_13; omega) (by have hb_ := z32 z_13; omega)) (fun v_14 hj_15 => ?_)
  refine s_aload_n E dX0_copyFrom_40 rfl rfl ?_
  refine s_gR (r := 3) E fg_X0_14 rfl rfl (jv_lt hj_15 (by decide)) (jv_r hj_15 (by decide +kernel)) dX0_copyFrom_41 ?_
  refine s_aload_n E dX0_copyFrom_44 rfl rfl ?_
  refine s_gR (r := 28) E fg_X0_14 rfl rfl (jv_lt hj_15 (by decide)) (jv_r hj_15 (by decide +kernel)) dX0_copyFrom_45 ?_
  refine s_vV (As := [AR 28]) (S := []) E (Z_X8_copyFrom_3_r28 l D aC b v_14  hj_15.1 ) cv_X0_51 rfl rfl rfl (jv_lt hj_15 (by decide)) (Nat.le_of_ble_eq_true rfl) (Nat.le_of_ble_eq_true rfl) ⟨(Nat.le_of_ble_eq_true rfl), (Nat.le_of_ble_eq_true rfl)⟩ (Nat.le_of_ble_eq_true rfl) dX0_copyFrom_48 (fun u_16 hp_17 => ?_)
  have hj_18 := jv_trans hj_15 hp_17
  refine s_aload_n E dX0_copyFrom_51 rfl rfl ?_
  refine s_gR (r := 5) E fg_X0_20 rfl rfl (jv_lt hj_18 (by decide)) (jv_r hj_18 (by decide +kernel)) dX0_copyFrom_52 ?_
  refine s_aload_n E dX0_copyFrom_55 rfl rfl ?_
  refine s_gR (r := 30) E fg_X0_20 rfl rfl (jv_lt hj_18 (by decide)) (jv_r hj_18 (by decide +kernel)) dX0_copyFrom_56 ?_
  refine s_vV (As := [AR 30]) (S := []) E (Z_X8_copyFrom_5_r30 l D aC b u_16  hj_18.1 ) cv_X0_51 rfl rfl rfl (jv_lt hj_18 (by decide)) (Nat.le_of_ble_eq_true rfl) (Nat.le_of_ble_eq_true rfl) ⟨(Nat.le_of_ble_eq_true rfl), (Nat.le_of_ble_eq_true rfl)⟩ (Nat.le_of_ble_eq_true rfl) dX0_copyFrom_59 (fun u_19 hp_20 => ?_)
  have hj_21 := jv_trans hj_18 hp_20
  refine s_aload_n E dX0_copyFrom_62 rfl rfl ?_
  refine s_gR (r := 7) E fg_X0_23 rfl rfl (jv_lt hj_21 (by decide)) (jv_r hj_21 (by decide +kernel)) dX0_copyFrom_63 ?_
  refine s_aload_n E dX0_copyFrom_66 rfl rfl ?_
  refine s_gR (r := 32) E fg_X0_23 rfl rfl (jv_lt hj_21 (by decide)) (jv_r hj_21 (by decide +kernel)) dX0_copyFrom_67 ?_
  refine s_vV (As := [AR 32]) (S := []) E (Z_X8_copyFrom_7_r32 l D aC b u_19  hj_21.1 ) cv_X0_51 rfl rfl rfl (jv_lt hj_21 (by decide)) (Nat.le_of_ble_eq_true rfl) (Nat.le_of_ble_eq_true rfl) ⟨(Nat.le_of_ble_eq_true rfl), (Nat.le_of_ble_eq_true rfl)⟩ (Nat.le_of_ble_eq_true rfl) dX0_copyFrom_70 (fun u_22 hp_23 => ?_)
  have hj_24 := jv_trans hj_21 hp_23
  refine s_aload_n E dX0_copyFrom_73 rfl rfl ?_
  refine s_gR (r := 9) E fg_X0_26 rfl rfl (jv_lt hj_24 (by decide)) (jv_r hj_24 (by decide +kernel)) dX0_copyFrom_74 ?_
  refine s_aload_n E dX0_copyFrom_77 rfl rfl ?_
  refine s_gR (r := 34) E fg_X0_26 rfl rfl (jv_lt hj_24 (by decide)) (jv_r hj_24 (by decide +kernel)) dX0_copyFrom_78 ?_
  refine s_vV (As := [AR 34]) (S := []) E (Z_X8_copyFrom_9_r34 l D aC b u_22  hj_24.1 ) cv_X0_51 rfl rfl rfl (jv_lt hj_24 (by decide)) (Nat.le_of_ble_eq_true rfl) (Nat.le_of_ble_eq_true rfl) ⟨(Nat.le_of_ble_eq_true rfl), (Nat.le_of_ble_eq_true rfl)⟩ (Nat.le_of_ble_eq_true rfl) dX0_copyFrom_81 (fun u_25 hp_26 => ?_)
  have hj_27 := jv_trans hj_24 hp_26
  refine s_aload_n E dX0_copyFrom_84 rfl rfl ?_
  refine s_gR (r := 11) E fg_X0_29 rfl rfl (jv_lt hj_27 (by decide)) (jv_r hj_27 (by decide +kernel)) dX0_copyFrom_85 ?_
  refine s_aload_n E dX0_copyFrom_88 rfl rfl ?_
  refine s_gR (r := 36) E fg_X0_29 rfl rfl (jv_lt hj_27 (by decide)) (jv_r hj_27 (by decide +kernel)) dX0_copyFrom_89 ?_
  refine s_vV (As := [AR 36]) (S := []) E (Z_X8_copyFrom_11_r36 l D aC b u_25  hj_27.1 ) cv_X0_51 rfl rfl rfl (jv_lt hj_27 (by decide)) (Nat.le_of_ble_eq_true rfl) (Nat.le_of_ble_eq_true rfl) ⟨(Nat.le_of_ble_eq_true rfl), (Nat.le_of_ble_eq_true rfl)⟩ (Nat.le_of_ble_eq_true rfl) dX0_copyFrom_92 (fun u_28 hp_29 => ?_)
  have hj_30 := jv_trans hj_27 hp_29
  exact r_void E dX0_copyFrom_95 hj_30
set_option maxRecDepth 20000 in
set_option maxHeartbeats 2000000 in
theorem Z_X8_copyFrom_3_r39 (l : Launch) (D : va_G) (aC : Nat → ClassId) (b : Nat) (w : XW)  (hI : Iv w)  : CnV l D aC b M_X8_copyFrom 1 60 0 0 [AR 3, AR 39] w (fun u => Jv w u) := by
  refine cn_V (own := RX8) (nm := "copyFrom") (L0 := [some (AR 3), some (AR 39)]) (by decide +kernel) rfl rfl (Nat.le_of_ble_eq_true rfl) rfl ?_
  intro p e s m args below meth c E hin
  have hJ : Jv w w := jv_rfl hI
  refine s_aload_n E dX8_copyFrom_0 rfl rfl ?_
  refine s_gR (r := 40) E fg_X8_24 rfl rfl (jv_lt hJ (by decide)) (jv_r hJ (by decide +kernel)) dX8_copyFrom_1 ?_
  refine s_iconst (v := 0) E dX8_copyFrom_4 (by decide) ?_
  refine s_aload_n E dX8_copyFrom_5 rfl rfl ?_
  refine s_gR (r := 4) E fg_X8_24 rfl rfl (jv_lt hJ (by decide)) (jv_r hJ (by decide +kernel)) dX8_copyFrom_6 ?_
  refine s_iconst (v := 0) E dX8_copyFrom_9 (by decide) ?_
  refine s_aload_n E dX8_copyFrom_10 rfl rfl ?_
  refine s_gR (r := 4) E fg_X8_24 rfl rfl (jv_lt hJ (by decide)) (jv_r hJ (by decide +kernel)) dX8_copyFrom_11 ?_
  refine s_alen (v := 36) E rfl (by decide) (jv_lt hJ (by decide)) (by decide) dX8_copyFrom_14 ?_
  refine s_aload_n E dX8_copyFrom_15 rfl rfl ?_
  refine s_gR (r := 40) E fg_X8_24 rfl rfl (jv_lt hJ (by decide)) (jv_r hJ (by decide +kernel)) dX8_copyFrom_16 ?_
  refine s_alen (v := 36) E rfl (by decide) (jv_lt hJ (by decide)) (by decide) dX8_copyFrom_19 ?_
  refine z_min (u := 36) (v := 36) E ⟨k_535, k_369, k_4, k_370⟩ (Nat.le_of_ble_eq_true rfl) (Nat.le_of_ble_eq_true rfl) (Nat.le_of_ble_eq_true rfl) (Nat.le_of_ble_eq_true rfl) dX8_copyFrom_20 (by decide) (by decide) (fun z_1 hz_1 => ?_)
  refine z_copy100 (S := []) (u1 := 0) (u2 := 0) (u3 := z_1.toInt) E k_536 k_538 k_537 k_17 rfl rfl (jv_lt hJ (by decide)) (jv_lt hJ (by decide)) (by decide) (by decide) rfl (by omega) (by omega) (by omega) (by omega) (by omega) (Nat.le_of_ble_eq_true rfl) (Nat.le_of_ble_eq_true rfl) dX8_copyFrom_23 ?_
  refine s_gen (P := Jv w) (jv_c_40_4 hJ) (fun v_2 hj_3 => ?_)
  refine s_aload_n E dX8_copyFrom_26 rfl rfl ?_
  refine s_aload_n E dX8_copyFrom_27 rfl rfl ?_
  refine s_gI E fg_X8_28 rfl rfl (jv_lt hj_3 (by decide)) dX8_copyFrom_28 ?_
  refine z_nm (P := fun z => z.toInt = (v_2.2.2.1 39 3).toInt ∧ 0 ≤ z.toInt ∧ z.toInt ≤ 12) ⟨rfl, (rg_39_3 hj_3)⟩ (fun z_4 hz_4 => ?_)
  refine s_pI E fp_X8_28 (Or.inl rfl) rfl (jv_lt hj_3 (by decide)) dX8_copyFrom_31 ?_
  refine s_gen (P := Jv w) (jv_f_3_3 hj_3 (by have hb_ := z32 z_4; omega) (by have hb_ := z32 z_4; omega)) (fun v_5 hj_6 => ?_)
  exact r_void E dX8_copyFrom_34 hj_6
set_option maxRecDepth 20000 in
set_option maxHeartbeats 2000000 in
theorem Z_X8_copyFrom_5_r41 (l : Launch) (D : va_G) (aC : Nat → ClassId) (b : Nat) (w : XW)  (hI : Iv w)  : CnV l D aC b M_X8_copyFrom 1 60 0 0 [AR 5, AR 41] w (fun u => Jv w u) := by
  refine cn_V (own := RX8) (nm := "copyFrom") (L0 := [some (AR 5), some (AR 41)]) (by decide +kernel) rfl rfl (Nat.le_of_ble_eq_true rfl) rfl ?_
  intro p e s m args below meth c E hin
  have hJ : Jv w w := jv_rfl hI
  refine s_aload_n E dX8_copyFrom_0 rfl rfl ?_
  refine s_gR (r := 42) E fg_X8_24 rfl rfl (jv_lt hJ (by decide)) (jv_r hJ (by decide +kernel)) dX8_copyFrom_1 ?_
  refine s_iconst (v := 0) E dX8_copyFrom_4 (by decide) ?_
  refine s_aload_n E dX8_copyFrom_5 rfl rfl ?_
  refine s_gR (r := 6) E fg_X8_24 rfl rfl (jv_lt hJ (by decide)) (jv_r hJ (by decide +kernel)) dX8_copyFrom_6 ?_
  refine s_iconst (v := 0) E dX8_copyFrom_9 (by decide) ?_
  refine s_aload_n E dX8_copyFrom_10 rfl rfl ?_
  refine s_gR (r := 6) E fg_X8_24 rfl rfl (jv_lt hJ (by decide)) (jv_r hJ (by decide +kernel)) dX8_copyFrom_11 ?_
  refine s_alen (v := 12) E rfl (by decide) (jv_lt hJ (by decide)) (by decide) dX8_copyFrom_14 ?_
  refine s_aload_n E dX8_copyFrom_15 rfl rfl ?_
  refine s_gR (r := 42) E fg_X8_24 rfl rfl (jv_lt hJ (by decide)) (jv_r hJ (by decide +kernel)) dX8_copyFrom_16 ?_
  refine s_alen (v := 12) E rfl (by decide) (jv_lt hJ (by decide)) (by decide) dX8_copyFrom_19 ?_
  refine z_min (u := 12) (v := 12) E ⟨k_535, k_369, k_4, k_370⟩ (Nat.le_of_ble_eq_true rfl) (Nat.le_of_ble_eq_true rfl) (Nat.le_of_ble_eq_true rfl) (Nat.le_of_ble_eq_true rfl) dX8_copyFrom_20 (by decide) (by decide) (fun z_1 hz_1 => ?_)
  refine z_copy100 (S := []) (u1 := 0) (u2 := 0) (u3 := z_1.toInt) E k_536 k_538 k_537 k_17 rfl rfl (jv_lt hJ (by decide)) (jv_lt hJ (by decide)) (by decide) (by decide) rfl (by omega) (by omega) (by omega) (by omega) (by omega) (Nat.le_of_ble_eq_true rfl) (Nat.le_of_ble_eq_true rfl) dX8_copyFrom_23 ?_
  refine s_gen (P := Jv w) (jv_c_42_6 hJ) (fun v_2 hj_3 => ?_)
  refine s_aload_n E dX8_copyFrom_26 rfl rfl ?_
  refine s_aload_n E dX8_copyFrom_27 rfl rfl ?_
  refine s_gI E fg_X8_28 rfl rfl (jv_lt hj_3 (by decide)) dX8_copyFrom_28 ?_
  refine z_nm (P := fun z => z.toInt = (v_2.2.2.1 41 3).toInt ∧ 0 ≤ z.toInt ∧ z.toInt ≤ 6) ⟨rfl, (rg_41_3 hj_3)⟩ (fun z_4 hz_4 => ?_)
  refine s_pI E fp_X8_28 (Or.inl rfl) rfl (jv_lt hj_3 (by decide)) dX8_copyFrom_31 ?_
  refine s_gen (P := Jv w) (jv_f_5_3 hj_3 (by have hb_ := z32 z_4; omega) (by have hb_ := z32 z_4; omega)) (fun v_5 hj_6 => ?_)
  exact r_void E dX8_copyFrom_34 hj_6
set_option maxRecDepth 20000 in
set_option maxHeartbeats 2000000 in
theorem Z_X8_copyFrom_7_r43 (l : Launch) (D : va_G) (aC : Nat → ClassId) (b : Nat) (w : XW)  (hI : Iv w)  : CnV l D aC b M_X8_copyFrom 1 60 0 0 [AR 7, AR 43] w (fun u => Jv w u) := by
  refine cn_V (own := RX8) (nm := "copyFrom") (L0 := [some (AR 7), some (AR 43)]) (by decide +kernel) rfl rfl (Nat.le_of_ble_eq_true rfl) rfl ?_
  intro p e s m args below meth c E hin
  have hJ : Jv w w := jv_rfl hI
  refine s_aload_n E dX8_copyFrom_0 rfl rfl ?_
  refine s_gR (r := 44) E fg_X8_24 rfl rfl (jv_lt hJ (by decide)) (jv_r hJ (by decide +kernel)) dX8_copyFrom_1 ?_
  refine s_iconst (v := 0) E dX8_copyFrom_4 (by decide) ?_
  refine s_aload_n E dX8_copyFrom_5 rfl rfl ?_
  refine s_gR (r := 8) E fg_X8_24 rfl rfl (jv_lt hJ (by decide)) (jv_r hJ (by decide +kernel)) dX8_copyFrom_6 ?_
  refine s_iconst (v := 0) E dX8_copyFrom_9 (by decide) ?_
  refine s_aload_n E dX8_copyFrom_10 rfl rfl ?_
  refine s_gR (r := 8) E fg_X8_24 rfl rfl (jv_lt hJ (by decide)) (jv_r hJ (by decide +kernel)) dX8_copyFrom_11 ?_
  refine s_alen (v := 16) E rfl (by decide) (jv_lt hJ (by decide)) (by decide) dX8_copyFrom_14 ?_
  refine s_aload_n E dX8_copyFrom_15 rfl rfl ?_
  refine s_gR (r := 44) E fg_X8_24 rfl rfl (jv_lt hJ (by decide)) (jv_r hJ (by decide +kernel)) dX8_copyFrom_16 ?_
  refine s_alen (v := 16) E rfl (by decide) (jv_lt hJ (by decide)) (by decide) dX8_copyFrom_19 ?_
  refine z_min (u := 16) (v := 16) E ⟨k_535, k_369, k_4, k_370⟩ (Nat.le_of_ble_eq_true rfl) (Nat.le_of_ble_eq_true rfl) (Nat.le_of_ble_eq_true rfl) (Nat.le_of_ble_eq_true rfl) dX8_copyFrom_20 (by decide) (by decide) (fun z_1 hz_1 => ?_)
  refine z_copy100 (S := []) (u1 := 0) (u2 := 0) (u3 := z_1.toInt) E k_536 k_538 k_537 k_17 rfl rfl (jv_lt hJ (by decide)) (jv_lt hJ (by decide)) (by decide) (by decide) rfl (by omega) (by omega) (by omega) (by omega) (by omega) (Nat.le_of_ble_eq_true rfl) (Nat.le_of_ble_eq_true rfl) dX8_copyFrom_23 ?_
  refine s_gen (P := Jv w) (jv_c_44_8 hJ) (fun v_2 hj_3 => ?_)
  refine s_aload_n E dX8_copyFrom_26 rfl rfl ?_
  refine s_aload_n E dX8_copyFrom_27 rfl rfl ?_
  refine s_gI E fg_X8_28 rfl rfl (jv_lt hj_3 (by decide)) dX8_copyFrom_28 ?_
  refine z_nm (P := fun z => z.toInt = (v_2.2.2.1 43 3).toInt ∧ 0 ≤ z.toInt ∧ z.toInt ≤ 8) ⟨rfl, (rg_43_3 hj_3)⟩ (fun z_4 hz_4 => ?_)
  refine s_pI E fp_X8_28 (Or.inl rfl) rfl (jv_lt hj_3 (by decide)) dX8_copyFrom_31 ?_
  refine s_gen (P := Jv w) (jv_f_7_3 hj_3 (by have hb_ := z32 z_4; omega) (by have hb_ := z32 z_4; omega)) (fun v_5 hj_6 => ?_)
  exact r_void E dX8_copyFrom_34 hj_6
set_option maxRecDepth 20000 in
set_option maxHeartbeats 2000000 in
theorem Z_X8_copyFrom_9_r45 (l : Launch) (D : va_G) (aC : Nat → ClassId) (b : Nat) (w : XW)  (hI : Iv w)  : CnV l D aC b M_X8_copyFrom 1 60 0 0 [AR 9, AR 45] w (fun u => Jv w u) := by
  refine cn_V (own := RX8) (nm := "copyFrom") (L0 := [some (AR 9), some (AR 45)]) (by decide +kernel) rfl rfl (Nat.le_of_ble_eq_true rfl) rfl ?_
  intro p e s m args below meth c E hin
  have hJ : Jv w w := jv_rfl hI
  refine s_aload_n E dX8_copyFrom_0 rfl rfl ?_
  refine s_gR (r := 46) E fg_X8_24 rfl rfl (jv_lt hJ (by decide)) (jv_r hJ (by decide +kernel)) dX8_copyFrom_1 ?_
  refine s_iconst (v := 0) E dX8_copyFrom_4 (by decide) ?_
  refine s_aload_n E dX8_copyFrom_5 rfl rfl ?_
  refine s_gR (r := 10) E fg_X8_24 rfl rfl (jv_lt hJ (by decide)) (jv_r hJ (by decide +kernel)) dX8_copyFrom_6 ?_
  refine s_iconst (v := 0) E dX8_copyFrom_9 (by decide) ?_
  refine s_aload_n E dX8_copyFrom_10 rfl rfl ?_
  refine s_gR (r := 10) E fg_X8_24 rfl rfl (jv_lt hJ (by decide)) (jv_r hJ (by decide +kernel)) dX8_copyFrom_11 ?_
  refine s_alen (v := 30) E rfl (by decide) (jv_lt hJ (by decide)) (by decide) dX8_copyFrom_14 ?_
  refine s_aload_n E dX8_copyFrom_15 rfl rfl ?_
  refine s_gR (r := 46) E fg_X8_24 rfl rfl (jv_lt hJ (by decide)) (jv_r hJ (by decide +kernel)) dX8_copyFrom_16 ?_
  refine s_alen (v := 30) E rfl (by decide) (jv_lt hJ (by decide)) (by decide) dX8_copyFrom_19 ?_
  refine z_min (u := 30) (v := 30) E ⟨k_535, k_369, k_4, k_370⟩ (Nat.le_of_ble_eq_true rfl) (Nat.le_of_ble_eq_true rfl) (Nat.le_of_ble_eq_true rfl) (Nat.le_of_ble_eq_true rfl) dX8_copyFrom_20 (by decide) (by decide) (fun z_1 hz_1 => ?_)
  refine z_copy100 (S := []) (u1 := 0) (u2 := 0) (u3 := z_1.toInt) E k_536 k_538 k_537 k_17 rfl rfl (jv_lt hJ (by decide)) (jv_lt hJ (by decide)) (by decide) (by decide) rfl (by omega) (by omega) (by omega) (by omega) (by omega) (Nat.le_of_ble_eq_true rfl) (Nat.le_of_ble_eq_true rfl) dX8_copyFrom_23 ?_
  refine s_gen (P := Jv w) (jv_c_46_10 hJ) (fun v_2 hj_3 => ?_)
  refine s_aload_n E dX8_copyFrom_26 rfl rfl ?_
  refine s_aload_n E dX8_copyFrom_27 rfl rfl ?_
  refine s_gI E fg_X8_28 rfl rfl (jv_lt hj_3 (by decide)) dX8_copyFrom_28 ?_
  refine z_nm (P := fun z => z.toInt = (v_2.2.2.1 45 3).toInt ∧ 0 ≤ z.toInt ∧ z.toInt ≤ 10) ⟨rfl, (rg_45_3 hj_3)⟩ (fun z_4 hz_4 => ?_)
  refine s_pI E fp_X8_28 (Or.inl rfl) rfl (jv_lt hj_3 (by decide)) dX8_copyFrom_31 ?_
  refine s_gen (P := Jv w) (jv_f_9_3 hj_3 (by have hb_ := z32 z_4; omega) (by have hb_ := z32 z_4; omega)) (fun v_5 hj_6 => ?_)
  exact r_void E dX8_copyFrom_34 hj_6
set_option maxRecDepth 20000 in
set_option maxHeartbeats 2000000 in
theorem Z_X8_copyFrom_11_r47 (l : Launch) (D : va_G) (aC : Nat → ClassId) (b : Nat) (w : XW)  (hI : Iv w)  : CnV l D aC b M_X8_copyFrom 1 60 0 0 [AR 11, AR 47] w (fun u => Jv w u) := by
  refine cn_V (own := RX8) (nm := "copyFrom") (L0 := [some (AR 11), some (AR 47)]) (by decide +kernel) rfl rfl (Nat.le_of_ble_eq_true rfl) rfl ?_
  intro p e s m args below meth c E hin
  have hJ : Jv w w := jv_rfl hI
  refine s_aload_n E dX8_copyFrom_0 rfl rfl ?_
  refine s_gR (r := 48) E fg_X8_24 rfl rfl (jv_lt hJ (by decide)) (jv_r hJ (by decide +kernel)) dX8_copyFrom_1 ?_
  refine s_iconst (v := 0) E dX8_copyFrom_4 (by decide) ?_
  refine s_aload_n E dX8_copyFrom_5 rfl rfl ?_
  refine s_gR (r := 12) E fg_X8_24 rfl rfl (jv_lt hJ (by decide)) (jv_r hJ (by decide +kernel)) dX8_copyFrom_6 ?_
  refine s_iconst (v := 0) E dX8_copyFrom_9 (by decide) ?_
  refine s_aload_n E dX8_copyFrom_10 rfl rfl ?_
  refine s_gR (r := 12) E fg_X8_24 rfl rfl (jv_lt hJ (by decide)) (jv_r hJ (by decide +kernel)) dX8_copyFrom_11 ?_
  refine s_alen (v := 120) E rfl (by decide) (jv_lt hJ (by decide)) (by decide) dX8_copyFrom_14 ?_
  refine s_aload_n E dX8_copyFrom_15 rfl rfl ?_
  refine s_gR (r := 48) E fg_X8_24 rfl rfl (jv_lt hJ (by decide)) (jv_r hJ (by decide +kernel)) dX8_copyFrom_16 ?_
  refine s_alen (v := 120) E rfl (by decide) (jv_lt hJ (by decide)) (by decide) dX8_copyFrom_19 ?_
  refine z_min (u := 120) (v := 120) E ⟨k_535, k_369, k_4, k_370⟩ (Nat.le_of_ble_eq_true rfl) (Nat.le_of_ble_eq_true rfl) (Nat.le_of_ble_eq_true rfl) (Nat.le_of_ble_eq_true rfl) dX8_copyFrom_20 (by decide) (by decide) (fun z_1 hz_1 => ?_)
  refine z_copy100 (S := []) (u1 := 0) (u2 := 0) (u3 := z_1.toInt) E k_536 k_538 k_537 k_17 rfl rfl (jv_lt hJ (by decide)) (jv_lt hJ (by decide)) (by decide) (by decide) rfl (by omega) (by omega) (by omega) (by omega) (by omega) (Nat.le_of_ble_eq_true rfl) (Nat.le_of_ble_eq_true rfl) dX8_copyFrom_23 ?_
  refine s_gen (P := Jv w) (jv_c_48_12 hJ) (fun v_2 hj_3 => ?_)
  refine s_aload_n E dX8_copyFrom_26 rfl rfl ?_
  refine s_aload_n E dX8_copyFrom_27 rfl rfl ?_
  refine s_gI E fg_X8_28 rfl rfl (jv_lt hj_3 (by decide)) dX8_copyFrom_28 ?_
  refine z_nm (P := fun z => z.toInt = (v_2.2.2.1 47 3).toInt ∧ 0 ≤ z.toInt ∧ z.toInt ≤ 30) ⟨rfl, (rg_47_3 hj_3)⟩ (fun z_4 hz_4 => ?_)
  refine s_pI E fp_X8_28 (Or.inl rfl) rfl (jv_lt hj_3 (by decide)) dX8_copyFrom_31 ?_
  refine s_gen (P := Jv w) (jv_f_11_3 hj_3 (by have hb_ := z32 z_4; omega) (by have hb_ := z32 z_4; omega)) (fun v_5 hj_6 => ?_)
  exact r_void E dX8_copyFrom_34 hj_6
set_option maxRecDepth 20000 in
set_option maxHeartbeats 2000000 in
theorem Z_X0_copyFrom_2_r38 (l : Launch) (D : va_G) (aC : Nat → ClassId) (b : Nat) (w : XW)  (hI : Iv w)  : CnV l D aC b M_X0_copyFrom 2 81 0 0 [AR 2, AR 38] w (fun u => Jv w u) := by
  refine cn_V (own := RX0) (nm := "copyFrom") (L0 := [some (AR 2), some (AR 38)]) (by decide +kernel) rfl rfl (Nat.le_of_ble_eq_true rfl) rfl ?_
  intro p e s m args below meth c E hin
  have hJ : Jv w w := jv_rfl hI
  refine s_aload_n E dX0_copyFrom_0 rfl rfl ?_
  refine s_aload_n E dX0_copyFrom_1 rfl rfl ?_
  refine s_gI E fg_X0_32 rfl rfl (jv_lt hJ (by decide)) dX0_copyFrom_2 ?_
  refine z_nm (P := fun z => z.toInt = (w.2.2.1 38 0).toInt ∧ (-2147483648) ≤ z.toInt ∧ z.toInt ≤ 2147483647) ⟨rfl, z32 _⟩ (fun z_1 hz_1 => ?_)
  refine s_pI E fp_X0_32 (Or.inl rfl) rfl (jv_lt hJ (by decide)) dX0_copyFrom_5 ?_
  refine s_gen (P := Jv w) (jv_f_2_0 hJ (by have hb_ := z32 z_1; omega) (by have hb_ := z32 z_1; omega)) (fun v_2 hj_3 => ?_)
  refine s_aload_n E dX0_copyFrom_8 rfl rfl ?_
  refine s_aload_n E dX0_copyFrom_9 rfl rfl ?_
  refine s_gI E fg_X0_36 rfl rfl (jv_lt hj_3 (by decide)) dX0_copyFrom_10 ?_
  refine z_nm (P := fun z => z.toInt = (v_2.2.2.1 38 1).toInt ∧ 0 ≤ z.toInt ∧ z.toInt ≤ 8) ⟨rfl, (rg_38_1 hj_3)⟩ (fun z_4 hz_4 => ?_)
  refine s_pI E fp_X0_36 (Or.inl rfl) rfl (jv_lt hj_3 (by decide)) dX0_copyFrom_13 ?_
  refine s_gen (P := Jv w) (jv_f_2_1 hj_3 (by have hb_ := z32 z_4; omega) (by have hb_ := z32 z_4; omega)) (fun v_5 hj_6 => ?_)
  refine s_aload_n E dX0_copyFrom_16 rfl rfl ?_
  refine s_aload_n E dX0_copyFrom_17 rfl rfl ?_
  refine s_gI E fg_X0_39 rfl rfl (jv_lt hj_6 (by decide)) dX0_copyFrom_18 ?_
  refine z_nm (P := fun z => z.toInt = (v_5.2.2.1 38 2).toInt ∧ 0 ≤ z.toInt ∧ z.toInt ≤ 14) ⟨rfl, (rg_38_2 hj_6)⟩ (fun z_7 hz_7 => ?_)
  refine s_pI E fp_X0_39 (Or.inl rfl) rfl (jv_lt hj_6 (by decide)) dX0_copyFrom_21 ?_
  refine s_gen (P := Jv w) (jv_f_2_2 hj_6 (by have hb_ := z32 z_7; omega) (by have hb_ := z32 z_7; omega)) (fun v_8 hj_9 => ?_)
  refine s_aload_n E dX0_copyFrom_24 rfl rfl ?_
  refine s_aload_n E dX0_copyFrom_25 rfl rfl ?_
  refine s_gI E fg_X0_42 rfl rfl (jv_lt hj_9 (by decide)) dX0_copyFrom_26 ?_
  refine z_nm (P := fun z => z.toInt = (v_8.2.2.1 38 3).toInt ∧ (-2147483648) ≤ z.toInt ∧ z.toInt ≤ 2147483647) ⟨rfl, z32 _⟩ (fun z_10 hz_10 => ?_)
  refine s_pI E fp_X0_42 (Or.inl rfl) rfl (jv_lt hj_9 (by decide)) dX0_copyFrom_29 ?_
  refine s_gen (P := Jv w) (jv_f_2_3 hj_9 (by have hb_ := z32 z_10; omega) (by have hb_ := z32 z_10; omega)) (fun v_11 hj_12 => ?_)
  refine s_aload_n E dX0_copyFrom_32 rfl rfl ?_
  refine s_aload_n E dX0_copyFrom_33 rfl rfl ?_
  refine s_gI E fg_X0_45 rfl rfl (jv_lt hj_12 (by decide)) dX0_copyFrom_34 ?_
  refine z_nm (P := fun z => z.toInt = (v_11.2.2.1 38 4).toInt ∧ (-2147483648) ≤ z.toInt ∧ z.toInt ≤ 2147483647) ⟨rfl, z32 _⟩ (fun z_13 hz_13 => ?_)
  refine s_pI E fp_X0_45 (Or.inl rfl) rfl (jv_lt hj_12 (by decide)) dX0_copyFrom_37 ?_
  refine s_gen (P := Jv w) (jv_f_2_4 hj_12 (by have hb_ := z32 z_13; omega) (by have hb_ := z32 z_13; omega)) (fun v_14 hj_15 => ?_)
  refine s_aload_n E dX0_copyFrom_40 rfl rfl ?_
  refine s_gR (r := 3) E fg_X0_14 rfl rfl (jv_lt hj_15 (by decide)) (jv_r hj_15 (by decide +kernel)) dX0_copyFrom_41 ?_
  refine s_aload_n E dX0_copyFrom_44 rfl rfl ?_
  refine s_gR (r := 39) E fg_X0_14 rfl rfl (jv_lt hj_15 (by decide)) (jv_r hj_15 (by decide +kernel)) dX0_copyFrom_45 ?_
  refine s_vV (As := [AR 39]) (S := []) E (Z_X8_copyFrom_3_r39 l D aC b v_14  hj_15.1 ) cv_X0_51 rfl rfl rfl (jv_lt hj_15 (by decide)) (Nat.le_of_ble_eq_true rfl) (Nat.le_of_ble_eq_true rfl) ⟨(Nat.le_of_ble_eq_true rfl), (Nat.le_of_ble_eq_true rfl)⟩ (Nat.le_of_ble_eq_true rfl) dX0_copyFrom_48 (fun u_16 hp_17 => ?_)
  have hj_18 := jv_trans hj_15 hp_17
  refine s_aload_n E dX0_copyFrom_51 rfl rfl ?_
  refine s_gR (r := 5) E fg_X0_20 rfl rfl (jv_lt hj_18 (by decide)) (jv_r hj_18 (by decide +kernel)) dX0_copyFrom_52 ?_
  refine s_aload_n E dX0_copyFrom_55 rfl rfl ?_
  refine s_gR (r := 41) E fg_X0_20 rfl rfl (jv_lt hj_18 (by decide)) (jv_r hj_18 (by decide +kernel)) dX0_copyFrom_56 ?_
  refine s_vV (As := [AR 41]) (S := []) E (Z_X8_copyFrom_5_r41 l D aC b u_16  hj_18.1 ) cv_X0_51 rfl rfl rfl (jv_lt hj_18 (by decide)) (Nat.le_of_ble_eq_true rfl) (Nat.le_of_ble_eq_true rfl) ⟨(Nat.le_of_ble_eq_true rfl), (Nat.le_of_ble_eq_true rfl)⟩ (Nat.le_of_ble_eq_true rfl) dX0_copyFrom_59 (fun u_19 hp_20 => ?_)
  have hj_21 := jv_trans hj_18 hp_20
  refine s_aload_n E dX0_copyFrom_62 rfl rfl ?_
  refine s_gR (r := 7) E fg_X0_23 rfl rfl (jv_lt hj_21 (by decide)) (jv_r hj_21 (by decide +kernel)) dX0_copyFrom_63 ?_
  refine s_aload_n E dX0_copyFrom_66 rfl rfl ?_
  refine s_gR (r := 43) E fg_X0_23 rfl rfl (jv_lt hj_21 (by decide)) (jv_r hj_21 (by decide +kernel)) dX0_copyFrom_67 ?_
  refine s_vV (As := [AR 43]) (S := []) E (Z_X8_copyFrom_7_r43 l D aC b u_19  hj_21.1 ) cv_X0_51 rfl rfl rfl (jv_lt hj_21 (by decide)) (Nat.le_of_ble_eq_true rfl) (Nat.le_of_ble_eq_true rfl) ⟨(Nat.le_of_ble_eq_true rfl), (Nat.le_of_ble_eq_true rfl)⟩ (Nat.le_of_ble_eq_true rfl) dX0_copyFrom_70 (fun u_22 hp_23 => ?_)
  have hj_24 := jv_trans hj_21 hp_23
  refine s_aload_n E dX0_copyFrom_73 rfl rfl ?_
  refine s_gR (r := 9) E fg_X0_26 rfl rfl (jv_lt hj_24 (by decide)) (jv_r hj_24 (by decide +kernel)) dX0_copyFrom_74 ?_
  refine s_aload_n E dX0_copyFrom_77 rfl rfl ?_
  refine s_gR (r := 45) E fg_X0_26 rfl rfl (jv_lt hj_24 (by decide)) (jv_r hj_24 (by decide +kernel)) dX0_copyFrom_78 ?_
  refine s_vV (As := [AR 45]) (S := []) E (Z_X8_copyFrom_9_r45 l D aC b u_22  hj_24.1 ) cv_X0_51 rfl rfl rfl (jv_lt hj_24 (by decide)) (Nat.le_of_ble_eq_true rfl) (Nat.le_of_ble_eq_true rfl) ⟨(Nat.le_of_ble_eq_true rfl), (Nat.le_of_ble_eq_true rfl)⟩ (Nat.le_of_ble_eq_true rfl) dX0_copyFrom_81 (fun u_25 hp_26 => ?_)
  have hj_27 := jv_trans hj_24 hp_26
  refine s_aload_n E dX0_copyFrom_84 rfl rfl ?_
  refine s_gR (r := 11) E fg_X0_29 rfl rfl (jv_lt hj_27 (by decide)) (jv_r hj_27 (by decide +kernel)) dX0_copyFrom_85 ?_
  refine s_aload_n E dX0_copyFrom_88 rfl rfl ?_
  refine s_gR (r := 47) E fg_X0_29 rfl rfl (jv_lt hj_27 (by decide)) (jv_r hj_27 (by decide +kernel)) dX0_copyFrom_89 ?_
  refine s_vV (As := [AR 47]) (S := []) E (Z_X8_copyFrom_11_r47 l D aC b u_25  hj_27.1 ) cv_X0_51 rfl rfl rfl (jv_lt hj_27 (by decide)) (Nat.le_of_ble_eq_true rfl) (Nat.le_of_ble_eq_true rfl) ⟨(Nat.le_of_ble_eq_true rfl), (Nat.le_of_ble_eq_true rfl)⟩ (Nat.le_of_ble_eq_true rfl) dX0_copyFrom_92 (fun u_28 hp_29 => ?_)
  have hj_30 := jv_trans hj_27 hp_29
  exact r_void E dX0_copyFrom_95 hj_30
set_option maxRecDepth 20000 in
set_option maxHeartbeats 2000000 in
theorem Z_X8_copyFrom_3_r50 (l : Launch) (D : va_G) (aC : Nat → ClassId) (b : Nat) (w : XW)  (hI : Iv w)  : CnV l D aC b M_X8_copyFrom 1 60 0 0 [AR 3, AR 50] w (fun u => Jv w u) := by
  refine cn_V (own := RX8) (nm := "copyFrom") (L0 := [some (AR 3), some (AR 50)]) (by decide +kernel) rfl rfl (Nat.le_of_ble_eq_true rfl) rfl ?_
  intro p e s m args below meth c E hin
  have hJ : Jv w w := jv_rfl hI
  refine s_aload_n E dX8_copyFrom_0 rfl rfl ?_
  refine s_gR (r := 51) E fg_X8_24 rfl rfl (jv_lt hJ (by decide)) (jv_r hJ (by decide +kernel)) dX8_copyFrom_1 ?_
  refine s_iconst (v := 0) E dX8_copyFrom_4 (by decide) ?_
  refine s_aload_n E dX8_copyFrom_5 rfl rfl ?_
  refine s_gR (r := 4) E fg_X8_24 rfl rfl (jv_lt hJ (by decide)) (jv_r hJ (by decide +kernel)) dX8_copyFrom_6 ?_
  refine s_iconst (v := 0) E dX8_copyFrom_9 (by decide) ?_
  refine s_aload_n E dX8_copyFrom_10 rfl rfl ?_
  refine s_gR (r := 4) E fg_X8_24 rfl rfl (jv_lt hJ (by decide)) (jv_r hJ (by decide +kernel)) dX8_copyFrom_11 ?_
  refine s_alen (v := 36) E rfl (by decide) (jv_lt hJ (by decide)) (by decide) dX8_copyFrom_14 ?_
  refine s_aload_n E dX8_copyFrom_15 rfl rfl ?_
  refine s_gR (r := 51) E fg_X8_24 rfl rfl (jv_lt hJ (by decide)) (jv_r hJ (by decide +kernel)) dX8_copyFrom_16 ?_
  refine s_alen (v := 36) E rfl (by decide) (jv_lt hJ (by decide)) (by decide) dX8_copyFrom_19 ?_
  refine z_min (u := 36) (v := 36) E ⟨k_535, k_369, k_4, k_370⟩ (Nat.le_of_ble_eq_true rfl) (Nat.le_of_ble_eq_true rfl) (Nat.le_of_ble_eq_true rfl) (Nat.le_of_ble_eq_true rfl) dX8_copyFrom_20 (by decide) (by decide) (fun z_1 hz_1 => ?_)
  refine z_copy100 (S := []) (u1 := 0) (u2 := 0) (u3 := z_1.toInt) E k_536 k_538 k_537 k_17 rfl rfl (jv_lt hJ (by decide)) (jv_lt hJ (by decide)) (by decide) (by decide) rfl (by omega) (by omega) (by omega) (by omega) (by omega) (Nat.le_of_ble_eq_true rfl) (Nat.le_of_ble_eq_true rfl) dX8_copyFrom_23 ?_
  refine s_gen (P := Jv w) (jv_c_51_4 hJ) (fun v_2 hj_3 => ?_)
  refine s_aload_n E dX8_copyFrom_26 rfl rfl ?_
  refine s_aload_n E dX8_copyFrom_27 rfl rfl ?_
  refine s_gI E fg_X8_28 rfl rfl (jv_lt hj_3 (by decide)) dX8_copyFrom_28 ?_
  refine z_nm (P := fun z => z.toInt = (v_2.2.2.1 50 3).toInt ∧ 0 ≤ z.toInt ∧ z.toInt ≤ 12) ⟨rfl, (rg_50_3 hj_3)⟩ (fun z_4 hz_4 => ?_)
  refine s_pI E fp_X8_28 (Or.inl rfl) rfl (jv_lt hj_3 (by decide)) dX8_copyFrom_31 ?_
  refine s_gen (P := Jv w) (jv_f_3_3 hj_3 (by have hb_ := z32 z_4; omega) (by have hb_ := z32 z_4; omega)) (fun v_5 hj_6 => ?_)
  exact r_void E dX8_copyFrom_34 hj_6
set_option maxRecDepth 20000 in
set_option maxHeartbeats 2000000 in
theorem Z_X8_copyFrom_5_r52 (l : Launch) (D : va_G) (aC : Nat → ClassId) (b : Nat) (w : XW)  (hI : Iv w)  : CnV l D aC b M_X8_copyFrom 1 60 0 0 [AR 5, AR 52] w (fun u => Jv w u) := by
  refine cn_V (own := RX8) (nm := "copyFrom") (L0 := [some (AR 5), some (AR 52)]) (by decide +kernel) rfl rfl (Nat.le_of_ble_eq_true rfl) rfl ?_
  intro p e s m args below meth c E hin
  have hJ : Jv w w := jv_rfl hI
  refine s_aload_n E dX8_copyFrom_0 rfl rfl ?_
  refine s_gR (r := 53) E fg_X8_24 rfl rfl (jv_lt hJ (by decide)) (jv_r hJ (by decide +kernel)) dX8_copyFrom_1 ?_
  refine s_iconst (v := 0) E dX8_copyFrom_4 (by decide) ?_
  refine s_aload_n E dX8_copyFrom_5 rfl rfl ?_
  refine s_gR (r := 6) E fg_X8_24 rfl rfl (jv_lt hJ (by decide)) (jv_r hJ (by decide +kernel)) dX8_copyFrom_6 ?_
  refine s_iconst (v := 0) E dX8_copyFrom_9 (by decide) ?_
  refine s_aload_n E dX8_copyFrom_10 rfl rfl ?_
  refine s_gR (r := 6) E fg_X8_24 rfl rfl (jv_lt hJ (by decide)) (jv_r hJ (by decide +kernel)) dX8_copyFrom_11 ?_
  refine s_alen (v := 12) E rfl (by decide) (jv_lt hJ (by decide)) (by decide) dX8_copyFrom_14 ?_
  refine s_aload_n E dX8_copyFrom_15 rfl rfl ?_
  refine s_gR (r := 53) E fg_X8_24 rfl rfl (jv_lt hJ (by decide)) (jv_r hJ (by decide +kernel)) dX8_copyFrom_16 ?_
  refine s_alen (v := 12) E rfl (by decide) (jv_lt hJ (by decide)) (by decide) dX8_copyFrom_19 ?_
  refine z_min (u := 12) (v := 12) E ⟨k_535, k_369, k_4, k_370⟩ (Nat.le_of_ble_eq_true rfl) (Nat.le_of_ble_eq_true rfl) (Nat.le_of_ble_eq_true rfl) (Nat.le_of_ble_eq_true rfl) dX8_copyFrom_20 (by decide) (by decide) (fun z_1 hz_1 => ?_)
  refine z_copy100 (S := []) (u1 := 0) (u2 := 0) (u3 := z_1.toInt) E k_536 k_538 k_537 k_17 rfl rfl (jv_lt hJ (by decide)) (jv_lt hJ (by decide)) (by decide) (by decide) rfl (by omega) (by omega) (by omega) (by omega) (by omega) (Nat.le_of_ble_eq_true rfl) (Nat.le_of_ble_eq_true rfl) dX8_copyFrom_23 ?_
  refine s_gen (P := Jv w) (jv_c_53_6 hJ) (fun v_2 hj_3 => ?_)
  refine s_aload_n E dX8_copyFrom_26 rfl rfl ?_
  refine s_aload_n E dX8_copyFrom_27 rfl rfl ?_
  refine s_gI E fg_X8_28 rfl rfl (jv_lt hj_3 (by decide)) dX8_copyFrom_28 ?_
  refine z_nm (P := fun z => z.toInt = (v_2.2.2.1 52 3).toInt ∧ 0 ≤ z.toInt ∧ z.toInt ≤ 6) ⟨rfl, (rg_52_3 hj_3)⟩ (fun z_4 hz_4 => ?_)
  refine s_pI E fp_X8_28 (Or.inl rfl) rfl (jv_lt hj_3 (by decide)) dX8_copyFrom_31 ?_
  refine s_gen (P := Jv w) (jv_f_5_3 hj_3 (by have hb_ := z32 z_4; omega) (by have hb_ := z32 z_4; omega)) (fun v_5 hj_6 => ?_)
  exact r_void E dX8_copyFrom_34 hj_6
set_option maxRecDepth 20000 in
set_option maxHeartbeats 2000000 in
theorem Z_X8_copyFrom_7_r54 (l : Launch) (D : va_G) (aC : Nat → ClassId) (b : Nat) (w : XW)  (hI : Iv w)  : CnV l D aC b M_X8_copyFrom 1 60 0 0 [AR 7, AR 54] w (fun u => Jv w u) := by
  refine cn_V (own := RX8) (nm := "copyFrom") (L0 := [some (AR 7), some (AR 54)]) (by decide +kernel) rfl rfl (Nat.le_of_ble_eq_true rfl) rfl ?_
  intro p e s m args below meth c E hin
  have hJ : Jv w w := jv_rfl hI
  refine s_aload_n E dX8_copyFrom_0 rfl rfl ?_
  refine s_gR (r := 55) E fg_X8_24 rfl rfl (jv_lt hJ (by decide)) (jv_r hJ (by decide +kernel)) dX8_copyFrom_1 ?_
  refine s_iconst (v := 0) E dX8_copyFrom_4 (by decide) ?_
  refine s_aload_n E dX8_copyFrom_5 rfl rfl ?_
  refine s_gR (r := 8) E fg_X8_24 rfl rfl (jv_lt hJ (by decide)) (jv_r hJ (by decide +kernel)) dX8_copyFrom_6 ?_
  refine s_iconst (v := 0) E dX8_copyFrom_9 (by decide) ?_
  refine s_aload_n E dX8_copyFrom_10 rfl rfl ?_
  refine s_gR (r := 8) E fg_X8_24 rfl rfl (jv_lt hJ (by decide)) (jv_r hJ (by decide +kernel)) dX8_copyFrom_11 ?_
  refine s_alen (v := 16) E rfl (by decide) (jv_lt hJ (by decide)) (by decide) dX8_copyFrom_14 ?_
  refine s_aload_n E dX8_copyFrom_15 rfl rfl ?_
  refine s_gR (r := 55) E fg_X8_24 rfl rfl (jv_lt hJ (by decide)) (jv_r hJ (by decide +kernel)) dX8_copyFrom_16 ?_
  refine s_alen (v := 16) E rfl (by decide) (jv_lt hJ (by decide)) (by decide) dX8_copyFrom_19 ?_
  refine z_min (u := 16) (v := 16) E ⟨k_535, k_369, k_4, k_370⟩ (Nat.le_of_ble_eq_true rfl) (Nat.le_of_ble_eq_true rfl) (Nat.le_of_ble_eq_true rfl) (Nat.le_of_ble_eq_true rfl) dX8_copyFrom_20 (by decide) (by decide) (fun z_1 hz_1 => ?_)
  refine z_copy100 (S := []) (u1 := 0) (u2 := 0) (u3 := z_1.toInt) E k_536 k_538 k_537 k_17 rfl rfl (jv_lt hJ (by decide)) (jv_lt hJ (by decide)) (by decide) (by decide) rfl (by omega) (by omega) (by omega) (by omega) (by omega) (Nat.le_of_ble_eq_true rfl) (Nat.le_of_ble_eq_true rfl) dX8_copyFrom_23 ?_
  refine s_gen (P := Jv w) (jv_c_55_8 hJ) (fun v_2 hj_3 => ?_)
  refine s_aload_n E dX8_copyFrom_26 rfl rfl ?_
  refine s_aload_n E dX8_copyFrom_27 rfl rfl ?_
  refine s_gI E fg_X8_28 rfl rfl (jv_lt hj_3 (by decide)) dX8_copyFrom_28 ?_
  refine z_nm (P := fun z => z.toInt = (v_2.2.2.1 54 3).toInt ∧ 0 ≤ z.toInt ∧ z.toInt ≤ 8) ⟨rfl, (rg_54_3 hj_3)⟩ (fun z_4 hz_4 => ?_)
  refine s_pI E fp_X8_28 (Or.inl rfl) rfl (jv_lt hj_3 (by decide)) dX8_copyFrom_31 ?_
  refine s_gen (P := Jv w) (jv_f_7_3 hj_3 (by have hb_ := z32 z_4; omega) (by have hb_ := z32 z_4; omega)) (fun v_5 hj_6 => ?_)
  exact r_void E dX8_copyFrom_34 hj_6
set_option maxRecDepth 20000 in
set_option maxHeartbeats 2000000 in
theorem Z_X8_copyFrom_9_r56 (l : Launch) (D : va_G) (aC : Nat → ClassId) (b : Nat) (w : XW)  (hI : Iv w)  : CnV l D aC b M_X8_copyFrom 1 60 0 0 [AR 9, AR 56] w (fun u => Jv w u) := by
  refine cn_V (own := RX8) (nm := "copyFrom") (L0 := [some (AR 9), some (AR 56)]) (by decide +kernel) rfl rfl (Nat.le_of_ble_eq_true rfl) rfl ?_
  intro p e s m args below meth c E hin
  have hJ : Jv w w := jv_rfl hI
  refine s_aload_n E dX8_copyFrom_0 rfl rfl ?_
  refine s_gR (r := 57) E fg_X8_24 rfl rfl (jv_lt hJ (by decide)) (jv_r hJ (by decide +kernel)) dX8_copyFrom_1 ?_
  refine s_iconst (v := 0) E dX8_copyFrom_4 (by decide) ?_
  refine s_aload_n E dX8_copyFrom_5 rfl rfl ?_
  refine s_gR (r := 10) E fg_X8_24 rfl rfl (jv_lt hJ (by decide)) (jv_r hJ (by decide +kernel)) dX8_copyFrom_6 ?_
  refine s_iconst (v := 0) E dX8_copyFrom_9 (by decide) ?_
  refine s_aload_n E dX8_copyFrom_10 rfl rfl ?_
  refine s_gR (r := 10) E fg_X8_24 rfl rfl (jv_lt hJ (by decide)) (jv_r hJ (by decide +kernel)) dX8_copyFrom_11 ?_
  refine s_alen (v := 30) E rfl (by decide) (jv_lt hJ (by decide)) (by decide) dX8_copyFrom_14 ?_
  refine s_aload_n E dX8_copyFrom_15 rfl rfl ?_
  refine s_gR (r := 57) E fg_X8_24 rfl rfl (jv_lt hJ (by decide)) (jv_r hJ (by decide +kernel)) dX8_copyFrom_16 ?_
  refine s_alen (v := 30) E rfl (by decide) (jv_lt hJ (by decide)) (by decide) dX8_copyFrom_19 ?_
  refine z_min (u := 30) (v := 30) E ⟨k_535, k_369, k_4, k_370⟩ (Nat.le_of_ble_eq_true rfl) (Nat.le_of_ble_eq_true rfl) (Nat.le_of_ble_eq_true rfl) (Nat.le_of_ble_eq_true rfl) dX8_copyFrom_20 (by decide) (by decide) (fun z_1 hz_1 => ?_)
  refine z_copy100 (S := []) (u1 := 0) (u2 := 0) (u3 := z_1.toInt) E k_536 k_538 k_537 k_17 rfl rfl (jv_lt hJ (by decide)) (jv_lt hJ (by decide)) (by decide) (by decide) rfl (by omega) (by omega) (by omega) (by omega) (by omega) (Nat.le_of_ble_eq_true rfl) (Nat.le_of_ble_eq_true rfl) dX8_copyFrom_23 ?_
  refine s_gen (P := Jv w) (jv_c_57_10 hJ) (fun v_2 hj_3 => ?_)
  refine s_aload_n E dX8_copyFrom_26 rfl rfl ?_
  refine s_aload_n E dX8_copyFrom_27 rfl rfl ?_
  refine s_gI E fg_X8_28 rfl rfl (jv_lt hj_3 (by decide)) dX8_copyFrom_28 ?_
  refine z_nm (P := fun z => z.toInt = (v_2.2.2.1 56 3).toInt ∧ 0 ≤ z.toInt ∧ z.toInt ≤ 10) ⟨rfl, (rg_56_3 hj_3)⟩ (fun z_4 hz_4 => ?_)
  refine s_pI E fp_X8_28 (Or.inl rfl) rfl (jv_lt hj_3 (by decide)) dX8_copyFrom_31 ?_
  refine s_gen (P := Jv w) (jv_f_9_3 hj_3 (by have hb_ := z32 z_4; omega) (by have hb_ := z32 z_4; omega)) (fun v_5 hj_6 => ?_)
  exact r_void E dX8_copyFrom_34 hj_6
set_option maxRecDepth 20000 in
set_option maxHeartbeats 2000000 in
theorem Z_X8_copyFrom_11_r58 (l : Launch) (D : va_G) (aC : Nat → ClassId) (b : Nat) (w : XW)  (hI : Iv w)  : CnV l D aC b M_X8_copyFrom 1 60 0 0 [AR 11, AR 58] w (fun u => Jv w u) := by
  refine cn_V (own := RX8) (nm := "copyFrom") (L0 := [some (AR 11), some (AR 58)]) (by decide +kernel) rfl rfl (Nat.le_of_ble_eq_true rfl) rfl ?_
  intro p e s m args below meth c E hin
  have hJ : Jv w w := jv_rfl hI
  refine s_aload_n E dX8_copyFrom_0 rfl rfl ?_
  refine s_gR (r := 59) E fg_X8_24 rfl rfl (jv_lt hJ (by decide)) (jv_r hJ (by decide +kernel)) dX8_copyFrom_1 ?_
  refine s_iconst (v := 0) E dX8_copyFrom_4 (by decide) ?_
  refine s_aload_n E dX8_copyFrom_5 rfl rfl ?_
  refine s_gR (r := 12) E fg_X8_24 rfl rfl (jv_lt hJ (by decide)) (jv_r hJ (by decide +kernel)) dX8_copyFrom_6 ?_
  refine s_iconst (v := 0) E dX8_copyFrom_9 (by decide) ?_
  refine s_aload_n E dX8_copyFrom_10 rfl rfl ?_
  refine s_gR (r := 12) E fg_X8_24 rfl rfl (jv_lt hJ (by decide)) (jv_r hJ (by decide +kernel)) dX8_copyFrom_11 ?_
  refine s_alen (v := 120) E rfl (by decide) (jv_lt hJ (by decide)) (by decide) dX8_copyFrom_14 ?_
  refine s_aload_n E dX8_copyFrom_15 rfl rfl ?_
  refine s_gR (r := 59) E fg_X8_24 rfl rfl (jv_lt hJ (by decide)) (jv_r hJ (by decide +kernel)) dX8_copyFrom_16 ?_
  refine s_alen (v := 120) E rfl (by decide) (jv_lt hJ (by decide)) (by decide) dX8_copyFrom_19 ?_
  refine z_min (u := 120) (v := 120) E ⟨k_535, k_369, k_4, k_370⟩ (Nat.le_of_ble_eq_true rfl) (Nat.le_of_ble_eq_true rfl) (Nat.le_of_ble_eq_true rfl) (Nat.le_of_ble_eq_true rfl) dX8_copyFrom_20 (by decide) (by decide) (fun z_1 hz_1 => ?_)
  refine z_copy100 (S := []) (u1 := 0) (u2 := 0) (u3 := z_1.toInt) E k_536 k_538 k_537 k_17 rfl rfl (jv_lt hJ (by decide)) (jv_lt hJ (by decide)) (by decide) (by decide) rfl (by omega) (by omega) (by omega) (by omega) (by omega) (Nat.le_of_ble_eq_true rfl) (Nat.le_of_ble_eq_true rfl) dX8_copyFrom_23 ?_
  refine s_gen (P := Jv w) (jv_c_59_12 hJ) (fun v_2 hj_3 => ?_)
  refine s_aload_n E dX8_copyFrom_26 rfl rfl ?_
  refine s_aload_n E dX8_copyFrom_27 rfl rfl ?_
  refine s_gI E fg_X8_28 rfl rfl (jv_lt hj_3 (by decide)) dX8_copyFrom_28 ?_
  refine z_nm (P := fun z => z.toInt = (v_2.2.2.1 58 3).toInt ∧ 0 ≤ z.toInt ∧ z.toInt ≤ 30) ⟨rfl, (rg_58_3 hj_3)⟩ (fun z_4 hz_4 => ?_)
  refine s_pI E fp_X8_28 (Or.inl rfl) rfl (jv_lt hj_3 (by decide)) dX8_copyFrom_31 ?_
  refine s_gen (P := Jv w) (jv_f_11_3 hj_3 (by have hb_ := z32 z_4; omega) (by have hb_ := z32 z_4; omega)) (fun v_5 hj_6 => ?_)
  exact r_void E dX8_copyFrom_34 hj_6
set_option maxRecDepth 20000 in
set_option maxHeartbeats 2000000 in
theorem Z_X0_copyFrom_2_r49 (l : Launch) (D : va_G) (aC : Nat → ClassId) (b : Nat) (w : XW)  (hI : Iv w)  : CnV l D aC b M_X0_copyFrom 2 81 0 0 [AR 2, AR 49] w (fun u => Jv w u) := by
  refine cn_V (own := RX0) (nm := "copyFrom") (L0 := [some (AR 2), some (AR 49)]) (by decide +kernel) rfl rfl (Nat.le_of_ble_eq_true rfl) rfl ?_
  intro p e s m args below meth c E hin
  have hJ : Jv w w := jv_rfl hI
  refine s_aload_n E dX0_copyFrom_0 rfl rfl ?_
  refine s_aload_n E dX0_copyFrom_1 rfl rfl ?_
  refine s_gI E fg_X0_32 rfl rfl (jv_lt hJ (by decide)) dX0_copyFrom_2 ?_
  refine z_nm (P := fun z => z.toInt = (w.2.2.1 49 0).toInt ∧ (-2147483648) ≤ z.toInt ∧ z.toInt ≤ 2147483647) ⟨rfl, z32 _⟩ (fun z_1 hz_1 => ?_)
  refine s_pI E fp_X0_32 (Or.inl rfl) rfl (jv_lt hJ (by decide)) dX0_copyFrom_5 ?_
  refine s_gen (P := Jv w) (jv_f_2_0 hJ (by have hb_ := z32 z_1; omega) (by have hb_ := z32 z_1; omega)) (fun v_2 hj_3 => ?_)
  refine s_aload_n E dX0_copyFrom_8 rfl rfl ?_
  refine s_aload_n E dX0_copyFrom_9 rfl rfl ?_
  refine s_gI E fg_X0_36 rfl rfl (jv_lt hj_3 (by decide)) dX0_copyFrom_10 ?_
  refine z_nm (P := fun z => z.toInt = (v_2.2.2.1 49 1).toInt ∧ 0 ≤ z.toInt ∧ z.toInt ≤ 8) ⟨rfl, (rg_49_1 hj_3)⟩ (fun z_4 hz_4 => ?_)
  refine s_pI E fp_X0_36 (Or.inl rfl) rfl (jv_lt hj_3 (by decide)) dX0_copyFrom_13 ?_
  refine s_gen (P := Jv w) (jv_f_2_1 hj_3 (by have hb_ := z32 z_4; omega) (by have hb_ := z32 z_4; omega)) (fun v_5 hj_6 => ?_)
  refine s_aload_n E dX0_copyFrom_16 rfl rfl ?_
  refine s_aload_n E dX0_copyFrom_17 rfl rfl ?_
  refine s_gI E fg_X0_39 rfl rfl (jv_lt hj_6 (by decide)) dX0_copyFrom_18 ?_
  refine z_nm (P := fun z => z.toInt = (v_5.2.2.1 49 2).toInt ∧ 0 ≤ z.toInt ∧ z.toInt ≤ 14) ⟨rfl, (rg_49_2 hj_6)⟩ (fun z_7 hz_7 => ?_)
  refine s_pI E fp_X0_39 (Or.inl rfl) rfl (jv_lt hj_6 (by decide)) dX0_copyFrom_21 ?_
  refine s_gen (P := Jv w) (jv_f_2_2 hj_6 (by have hb_ := z32 z_7; omega) (by have hb_ := z32 z_7; omega)) (fun v_8 hj_9 => ?_)
  refine s_aload_n E dX0_copyFrom_24 rfl rfl ?_
  refine s_aload_n E dX0_copyFrom_25 rfl rfl ?_
  refine s_gI E fg_X0_42 rfl rfl (jv_lt hj_9 (by decide)) dX0_copyFrom_26 ?_
  refine z_nm (P := fun z => z.toInt = (v_8.2.2.1 49 3).toInt ∧ (-2147483648) ≤ z.toInt ∧ z.toInt ≤ 2147483647) ⟨rfl, z32 _⟩ (fun z_10 hz_10 => ?_)
  refine s_pI E fp_X0_42 (Or.inl rfl) rfl (jv_lt hj_9 (by decide)) dX0_copyFrom_29 ?_
  refine s_gen (P := Jv w) (jv_f_2_3 hj_9 (by have hb_ := z32 z_10; omega) (by have hb_ := z32 z_10; omega)) (fun v_11 hj_12 => ?_)
  refine s_aload_n E dX0_copyFrom_32 rfl rfl ?_
  refine s_aload_n E dX0_copyFrom_33 rfl rfl ?_
  refine s_gI E fg_X0_45 rfl rfl (jv_lt hj_12 (by decide)) dX0_copyFrom_34 ?_
  refine z_nm (P := fun z => z.toInt = (v_11.2.2.1 49 4).toInt ∧ (-2147483648) ≤ z.toInt ∧ z.toInt ≤ 2147483647) ⟨rfl, z32 _⟩ (fun z_13 hz_13 => ?_)
  refine s_pI E fp_X0_45 (Or.inl rfl) rfl (jv_lt hj_12 (by decide)) dX0_copyFrom_37 ?_
  refine s_gen (P := Jv w) (jv_f_2_4 hj_12 (by have hb_ := z32 z_13; omega) (by have hb_ := z32 z_13; omega)) (fun v_14 hj_15 => ?_)
  refine s_aload_n E dX0_copyFrom_40 rfl rfl ?_
  refine s_gR (r := 3) E fg_X0_14 rfl rfl (jv_lt hj_15 (by decide)) (jv_r hj_15 (by decide +kernel)) dX0_copyFrom_41 ?_
  refine s_aload_n E dX0_copyFrom_44 rfl rfl ?_
  refine s_gR (r := 50) E fg_X0_14 rfl rfl (jv_lt hj_15 (by decide)) (jv_r hj_15 (by decide +kernel)) dX0_copyFrom_45 ?_
  refine s_vV (As := [AR 50]) (S := []) E (Z_X8_copyFrom_3_r50 l D aC b v_14  hj_15.1 ) cv_X0_51 rfl rfl rfl (jv_lt hj_15 (by decide)) (Nat.le_of_ble_eq_true rfl) (Nat.le_of_ble_eq_true rfl) ⟨(Nat.le_of_ble_eq_true rfl), (Nat.le_of_ble_eq_true rfl)⟩ (Nat.le_of_ble_eq_true rfl) dX0_copyFrom_48 (fun u_16 hp_17 => ?_)
  have hj_18 := jv_trans hj_15 hp_17
  refine s_aload_n E dX0_copyFrom_51 rfl rfl ?_
  refine s_gR (r := 5) E fg_X0_20 rfl rfl (jv_lt hj_18 (by decide)) (jv_r hj_18 (by decide +kernel)) dX0_copyFrom_52 ?_
  refine s_aload_n E dX0_copyFrom_55 rfl rfl ?_
  refine s_gR (r := 52) E fg_X0_20 rfl rfl (jv_lt hj_18 (by decide)) (jv_r hj_18 (by decide +kernel)) dX0_copyFrom_56 ?_
  refine s_vV (As := [AR 52]) (S := []) E (Z_X8_copyFrom_5_r52 l D aC b u_16  hj_18.1 ) cv_X0_51 rfl rfl rfl (jv_lt hj_18 (by decide)) (Nat.le_of_ble_eq_true rfl) (Nat.le_of_ble_eq_true rfl) ⟨(Nat.le_of_ble_eq_true rfl), (Nat.le_of_ble_eq_true rfl)⟩ (Nat.le_of_ble_eq_true rfl) dX0_copyFrom_59 (fun u_19 hp_20 => ?_)
  have hj_21 := jv_trans hj_18 hp_20
  refine s_aload_n E dX0_copyFrom_62 rfl rfl ?_
  refine s_gR (r := 7) E fg_X0_23 rfl rfl (jv_lt hj_21 (by decide)) (jv_r hj_21 (by decide +kernel)) dX0_copyFrom_63 ?_
  refine s_aload_n E dX0_copyFrom_66 rfl rfl ?_
  refine s_gR (r := 54) E fg_X0_23 rfl rfl (jv_lt hj_21 (by decide)) (jv_r hj_21 (by decide +kernel)) dX0_copyFrom_67 ?_
  refine s_vV (As := [AR 54]) (S := []) E (Z_X8_copyFrom_7_r54 l D aC b u_19  hj_21.1 ) cv_X0_51 rfl rfl rfl (jv_lt hj_21 (by decide)) (Nat.le_of_ble_eq_true rfl) (Nat.le_of_ble_eq_true rfl) ⟨(Nat.le_of_ble_eq_true rfl), (Nat.le_of_ble_eq_true rfl)⟩ (Nat.le_of_ble_eq_true rfl) dX0_copyFrom_70 (fun u_22 hp_23 => ?_)
  have hj_24 := jv_trans hj_21 hp_23
  refine s_aload_n E dX0_copyFrom_73 rfl rfl ?_
  refine s_gR (r := 9) E fg_X0_26 rfl rfl (jv_lt hj_24 (by decide)) (jv_r hj_24 (by decide +kernel)) dX0_copyFrom_74 ?_
  refine s_aload_n E dX0_copyFrom_77 rfl rfl ?_
  refine s_gR (r := 56) E fg_X0_26 rfl rfl (jv_lt hj_24 (by decide)) (jv_r hj_24 (by decide +kernel)) dX0_copyFrom_78 ?_
  refine s_vV (As := [AR 56]) (S := []) E (Z_X8_copyFrom_9_r56 l D aC b u_22  hj_24.1 ) cv_X0_51 rfl rfl rfl (jv_lt hj_24 (by decide)) (Nat.le_of_ble_eq_true rfl) (Nat.le_of_ble_eq_true rfl) ⟨(Nat.le_of_ble_eq_true rfl), (Nat.le_of_ble_eq_true rfl)⟩ (Nat.le_of_ble_eq_true rfl) dX0_copyFrom_81 (fun u_25 hp_26 => ?_)
  have hj_27 := jv_trans hj_24 hp_26
  refine s_aload_n E dX0_copyFrom_84 rfl rfl ?_
  refine s_gR (r := 11) E fg_X0_29 rfl rfl (jv_lt hj_27 (by decide)) (jv_r hj_27 (by decide +kernel)) dX0_copyFrom_85 ?_
  refine s_aload_n E dX0_copyFrom_88 rfl rfl ?_
  refine s_gR (r := 58) E fg_X0_29 rfl rfl (jv_lt hj_27 (by decide)) (jv_r hj_27 (by decide +kernel)) dX0_copyFrom_89 ?_
  refine s_vV (As := [AR 58]) (S := []) E (Z_X8_copyFrom_11_r58 l D aC b u_25  hj_27.1 ) cv_X0_51 rfl rfl rfl (jv_lt hj_27 (by decide)) (Nat.le_of_ble_eq_true rfl) (Nat.le_of_ble_eq_true rfl) ⟨(Nat.le_of_ble_eq_true rfl), (Nat.le_of_ble_eq_true rfl)⟩ (Nat.le_of_ble_eq_true rfl) dX0_copyFrom_92 (fun u_28 hp_29 => ?_)
  have hj_30 := jv_trans hj_27 hp_29
  exact r_void E dX0_copyFrom_95 hj_30
set_option maxRecDepth 20000 in
set_option maxHeartbeats 2000000 in
theorem Z_X9_back_0 (l : Launch) (D : va_G) (aC : Nat → ClassId) (b : Nat) (w : XW) (x1 : Int32) (hI : Iv w)  : CnI l D aC b M_X9_back 6 140 0 0 [AR 0, AI x1] w (fun r u => ((-6) ≤ r.toInt ∧ r.toInt ≤ 0 ∧ (¬ r.toInt = 0 ∨ (0 ≤ x1.toInt ∧ x1.toInt ≤ 2))) ∧ ((¬ (0 ≤ x1.toInt ∧ x1.toInt ≤ 2) ∧ r.toInt = -2) ∨ ((0 ≤ x1.toInt ∧ x1.toInt ≤ 2) ∧ (((w.2.2.1 26 x1.toNatClampNeg).toInt = 0 ∧ r.toInt = -6) ∨ (¬ (w.2.2.1 26 x1.toNatClampNeg).toInt = 0 ∧ r.toInt = 0)))) ∧ Jv w u) := by
  refine cn_I (own := RX9) (nm := "back") (L0 := [some (AR 0), some (AI x1)]) (by decide +kernel) rfl rfl (Nat.le_of_ble_eq_true rfl) rfl ?_
  intro p e s m args below meth c E hin
  have hJ : Jv w w := jv_rfl hI
  have hb_x1 := z32 x1
  refine s_iload_n E dX9_back_0 rfl rfl ?_
  refine z_if_lt (tgt := 9) (u := x1.toInt) E dX9_back_1 (by decide) rfl (fun h_1 => ?_) (fun h_1 => ?_)
  ·
    refine s_bipush (v := (-2)) E dX9_back_9 (by decide) ?_
    exact r_int E dX9_back_11 ⟨⟨by decide, by decide, by first | (left; decide) | (right; decide) | (right; have hb_ := z32 x1; omega)⟩, (by have hrc_ : ((-2) : Int32).toInt = (-2) := (by decide); omega), hJ⟩
  ·
    refine s_iload_n E dX9_back_4 rfl rfl ?_
    refine s_iconst (v := 3) E dX9_back_5 (by decide) ?_
    refine z_icmp_lt (tgt := 12) (u := x1.toInt) (v := 3) E dX9_back_6 (by decide) rfl (by decide) (fun h_2 => ?_) (fun h_2 => ?_)
    ·
      refine s_aload_n E dX9_back_12 rfl rfl ?_
      refine s_gR (r := 26) E fg_X9_40 rfl rfl (jv_lt hJ (by decide)) (jv_r hJ (by decide +kernel)) dX9_back_13 ?_
      refine s_iload_n E dX9_back_16 rfl rfl ?_
      refine s_zald E rfl (jv_lt hJ (by decide)) (z_in (u := x1.toInt) rfl (by omega) (by omega)) dX9_back_17 ?_
      refine z_nm (P := fun z => z.toInt = (w.2.2.1 26 x1.toNatClampNeg).toInt ∧ 0 ≤ z.toInt ∧ z.toInt ≤ 1) ⟨rfl, (ra_26 hJ _)⟩ (fun z_3 hz_3 => ?_)
      refine z_if_ne (tgt := 24) (u := z_3.toInt) E dX9_back_18 (by decide) rfl (fun h_4 => ?_) (fun h_4 => ?_)
      ·
        refine s_aload_n E dX9_back_24 rfl rfl ?_
        refine s_gR (r := 2) E fg_X9_20 rfl rfl (jv_lt hJ (by decide)) (jv_r hJ (by decide +kernel)) dX9_back_25 ?_
        refine s_aload_n E dX9_back_28 rfl rfl ?_
        refine s_gR (r := 25) E fg_X9_36 rfl rfl (jv_lt hJ (by decide)) (jv_r hJ (by decide +kernel)) dX9_back_29 ?_
        refine s_iload_n E dX9_back_32 rfl rfl ?_
        rcases (show x1 = 0 ∨ x1 = 1 ∨ x1 = 2 from (z_cases3 (u := x1.toInt) rfl (by omega) (by omega))) with rfl | rfl | rfl
        ·
          refine s_aald104 (r := 27) E rfl (jv_lt hJ (by decide)) (vp_c (by decide)) (jv_r hJ (by decide +kernel)) dX9_back_33 ?_
          refine s_vV (As := [AR 27]) (S := []) E (Z_X0_copyFrom_2_r27 l D aC b w  hJ.1 ) cv_X9_103 rfl rfl rfl (jv_lt hJ (by decide)) (Nat.le_of_ble_eq_true rfl) (Nat.le_of_ble_eq_true rfl) ⟨(Nat.le_of_ble_eq_true rfl), (Nat.le_of_ble_eq_true rfl)⟩ (Nat.le_of_ble_eq_true rfl) dX9_back_34 (fun u_5 hp_6 => ?_)
          have hj_7 := jv_trans hJ hp_6
          refine s_aload_n E dX9_back_37 rfl rfl ?_
          refine s_vV (As := []) (S := []) E (Z_X9_settle_0 l D aC b u_5  hj_7.1 ) cv_X9_107 rfl rfl rfl (jv_lt hj_7 (by decide)) (Nat.le_of_ble_eq_true rfl) (Nat.le_of_ble_eq_true rfl) ⟨(Nat.le_of_ble_eq_true rfl), (Nat.le_of_ble_eq_true rfl)⟩ (Nat.le_of_ble_eq_true rfl) dX9_back_38 (fun u_8 hp_9 => ?_)
          have hj_10 := jv_trans hj_7 hp_9
          refine s_iconst (v := 0) E dX9_back_41 (by decide) ?_
          exact r_int E dX9_back_42 ⟨⟨by decide, by decide, by first | (left; decide) | (right; decide) | (right; have hb_ := z32 x1; omega)⟩, (by have hrc_ : (0 : Int32).toInt = 0 := (by decide); omega), hj_10⟩
        ·
          refine s_aald104 (r := 38) E rfl (jv_lt hJ (by decide)) (vp_c (by decide)) (jv_r hJ (by decide +kernel)) dX9_back_33 ?_
          refine s_vV (As := [AR 38]) (S := []) E (Z_X0_copyFrom_2_r38 l D aC b w  hJ.1 ) cv_X9_103 rfl rfl rfl (jv_lt hJ (by decide)) (Nat.le_of_ble_eq_true rfl) (Nat.le_of_ble_eq_true rfl) ⟨(Nat.le_of_ble_eq_true rfl), (Nat.le_of_ble_eq_true rfl)⟩ (Nat.le_of_ble_eq_true rfl) dX9_back_34 (fun u_11 hp_12 => ?_)
          have hj_13 := jv_trans hJ hp_12
          refine s_aload_n E dX9_back_37 rfl rfl ?_
          refine s_vV (As := []) (S := []) E (Z_X9_settle_0 l D aC b u_11  hj_13.1 ) cv_X9_107 rfl rfl rfl (jv_lt hj_13 (by decide)) (Nat.le_of_ble_eq_true rfl) (Nat.le_of_ble_eq_true rfl) ⟨(Nat.le_of_ble_eq_true rfl), (Nat.le_of_ble_eq_true rfl)⟩ (Nat.le_of_ble_eq_true rfl) dX9_back_38 (fun u_14 hp_15 => ?_)
          have hj_16 := jv_trans hj_13 hp_15
          refine s_iconst (v := 0) E dX9_back_41 (by decide) ?_
          exact r_int E dX9_back_42 ⟨⟨by decide, by decide, by first | (left; decide) | (right; decide) | (right; have hb_ := z32 x1; omega)⟩, (by have hrc_ : (0 : Int32).toInt = 0 := (by decide); omega), hj_16⟩
        ·
          refine s_aald104 (r := 49) E rfl (jv_lt hJ (by decide)) (vp_c (by decide)) (jv_r hJ (by decide +kernel)) dX9_back_33 ?_
          refine s_vV (As := [AR 49]) (S := []) E (Z_X0_copyFrom_2_r49 l D aC b w  hJ.1 ) cv_X9_103 rfl rfl rfl (jv_lt hJ (by decide)) (Nat.le_of_ble_eq_true rfl) (Nat.le_of_ble_eq_true rfl) ⟨(Nat.le_of_ble_eq_true rfl), (Nat.le_of_ble_eq_true rfl)⟩ (Nat.le_of_ble_eq_true rfl) dX9_back_34 (fun u_17 hp_18 => ?_)
          have hj_19 := jv_trans hJ hp_18
          refine s_aload_n E dX9_back_37 rfl rfl ?_
          refine s_vV (As := []) (S := []) E (Z_X9_settle_0 l D aC b u_17  hj_19.1 ) cv_X9_107 rfl rfl rfl (jv_lt hj_19 (by decide)) (Nat.le_of_ble_eq_true rfl) (Nat.le_of_ble_eq_true rfl) ⟨(Nat.le_of_ble_eq_true rfl), (Nat.le_of_ble_eq_true rfl)⟩ (Nat.le_of_ble_eq_true rfl) dX9_back_38 (fun u_20 hp_21 => ?_)
          have hj_22 := jv_trans hj_19 hp_21
          refine s_iconst (v := 0) E dX9_back_41 (by decide) ?_
          exact r_int E dX9_back_42 ⟨⟨by decide, by decide, by first | (left; decide) | (right; decide) | (right; have hb_ := z32 x1; omega)⟩, (by have hrc_ : (0 : Int32).toInt = 0 := (by decide); omega), hj_22⟩
      ·
        refine s_bipush (v := (-6)) E dX9_back_21 (by decide) ?_
        exact r_int E dX9_back_23 ⟨⟨by decide, by decide, by first | (left; decide) | (right; decide) | (right; have hb_ := z32 x1; omega)⟩, (by have hrc_ : ((-6) : Int32).toInt = (-6) := (by decide); omega), hJ⟩
    ·
      refine s_bipush (v := (-2)) E dX9_back_9 (by decide) ?_
      exact r_int E dX9_back_11 ⟨⟨by decide, by decide, by first | (left; decide) | (right; decide) | (right; have hb_ := z32 x1; omega)⟩, (by have hrc_ : ((-2) : Int32).toInt = (-2) := (by decide); omega), hJ⟩
set_option maxRecDepth 20000 in
set_option maxHeartbeats 2000000 in
theorem Z_X7_cut_61 (l : Launch) (D : va_G) (aC : Nat → ClassId) (b : Nat) (w : XW) (x1 : Int64) (hI : Iv w)  : CnL l D aC b M_X7_cut 0 0 0 0 [AR 61, AL x1] w (fun r u => ((-9223372036854775808) ≤ r.toInt ∧ r.toInt ≤ 9223372036854775807) ∧ w = u) := by
  refine cn_L (own := RX7) (nm := "cut") (L0 := [some (AR 61), some (AL x1), none]) (by decide +kernel) rfl rfl (Nat.le_of_ble_eq_true rfl) rfl ?_
  intro p e s m args below meth c E hin
  have hJ : Jv w w := jv_rfl hI
  refine s_aload_n E dX7_cut_0 rfl rfl ?_
  refine s_gI E fg_X7_19 rfl rfl (jv_lt hJ (by decide)) dX7_cut_1 ?_
  refine z_nm (P := fun z => z.toInt = (w.2.2.1 61 1).toInt ∧ 0 ≤ z.toInt ∧ z.toInt ≤ 3) ⟨rfl, (rg_61_1 hJ)⟩ (fun z_1 hz_1 => ?_)
  refine z_switch (lo := 0) (hi := 2) (u := z_1.toInt) rfl (fun h_2 => ?_) (fun j hj h_2 => ?_)
  ·
    refine s_tableOut (tgt := 46) E dX7_cut_4 h_2 (by decide) ?_
    refine s_lload_n E dX7_cut_46 rfl rfl ?_
    exact r_long E dX7_cut_47 ⟨⟨by have hb_ := z64 x1; omega, by have hb_ := z64 x1; omega⟩, rfl⟩
  · match j, hj with
    | 0, _ =>
      refine s_tableIn (off := 28) (tgt := 32) E dX7_cut_4 (by omega) (by omega) (z_off (j := 0) (by omega) (by decide +kernel)) (by decide) ?_
      refine s_lload_n E dX7_cut_32 rfl rfl ?_
      refine s_l2i E dX7_cut_33 ?_
      refine z_nm (P := fun z => (-2147483648) ≤ z.toInt ∧ z.toInt ≤ 2147483647) (z32 _) (fun z_3 hz_3 => ?_)
      refine s_i2b E dX7_cut_34 ?_
      refine z_nm (P := fun z => (-2147483648) ≤ z.toInt ∧ z.toInt ≤ 2147483647) (z32 _) (fun z_4 hz_4 => ?_)
      refine z_i2l (u := z_4.toInt) E dX7_cut_35 rfl (fun z_5 hz_5 => ?_)
      exact r_long E dX7_cut_36 ⟨⟨by have hb_ := z64 z_5; omega, by have hb_ := z64 z_5; omega⟩, rfl⟩
    | 1, _ =>
      refine s_tableIn (off := 33) (tgt := 37) E dX7_cut_4 (by omega) (by omega) (z_off (j := 1) (by omega) (by decide +kernel)) (by decide) ?_
      refine s_lload_n E dX7_cut_37 rfl rfl ?_
      refine s_l2i E dX7_cut_38 ?_
      refine z_nm (P := fun z => (-2147483648) ≤ z.toInt ∧ z.toInt ≤ 2147483647) (z32 _) (fun z_6 hz_6 => ?_)
      refine s_i2s E dX7_cut_39 ?_
      refine z_nm (P := fun z => (-2147483648) ≤ z.toInt ∧ z.toInt ≤ 2147483647) (z32 _) (fun z_7 hz_7 => ?_)
      refine z_i2l (u := z_7.toInt) E dX7_cut_40 rfl (fun z_8 hz_8 => ?_)
      exact r_long E dX7_cut_41 ⟨⟨by have hb_ := z64 z_8; omega, by have hb_ := z64 z_8; omega⟩, rfl⟩
    | 2, _ =>
      refine s_tableIn (off := 38) (tgt := 42) E dX7_cut_4 (by omega) (by omega) (z_off (j := 2) (by omega) (by decide +kernel)) (by decide) ?_
      refine s_lload_n E dX7_cut_42 rfl rfl ?_
      refine s_l2i E dX7_cut_43 ?_
      refine z_nm (P := fun z => (-2147483648) ≤ z.toInt ∧ z.toInt ≤ 2147483647) (z32 _) (fun z_9 hz_9 => ?_)
      refine z_i2l (u := z_9.toInt) E dX7_cut_44 rfl (fun z_10 hz_10 => ?_)
      exact r_long E dX7_cut_45 ⟨⟨by have hb_ := z64 z_10; omega, by have hb_ := z64 z_10; omega⟩, rfl⟩
    | j + 3, hj => exact absurd hj (by omega)
set_option maxRecDepth 20000 in
set_option maxHeartbeats 2000000 in
theorem Z_X7_put_61 (l : Launch) (D : va_G) (aC : Nat → ClassId) (b : Nat) (w : XW) (x1 : Int32) (x2 : Int64) (hI : Iv w)  : CnV l D aC b M_X7_put 1 22 0 0 [AR 61, AI x1, AL x2] w (fun u => Jv w u) := by
  refine cn_V (own := RX7) (nm := "put") (L0 := [some (AR 61), some (AI x1), some (AL x2), none]) (by decide +kernel) rfl rfl (Nat.le_of_ble_eq_true rfl) rfl ?_
  intro p e s m args below meth c E hin
  have hJ : Jv w w := jv_rfl hI
  have hb_x1 := z32 x1
  refine s_iload_n E dX7_put_0 rfl rfl ?_
  refine z_if_lt (tgt := 23) (u := x1.toInt) E dX7_put_1 (by decide) rfl (fun h_1 => ?_) (fun h_1 => ?_)
  ·
    exact r_void E dX7_put_23 hJ
  ·
    refine s_iload_n E dX7_put_4 rfl rfl ?_
    refine s_aload_n E dX7_put_5 rfl rfl ?_
    refine s_gI E fg_X7_15 rfl rfl (jv_lt hJ (by decide)) dX7_put_6 ?_
    refine z_nm (P := fun z => z.toInt = (w.2.2.1 61 2).toInt ∧ (-1) ≤ z.toInt ∧ z.toInt ≤ 60) ⟨rfl, (rg_61_2 hJ)⟩ (fun z_2 hz_2 => ?_)
    refine z_icmp_ge (tgt := 23) (u := x1.toInt) (v := z_2.toInt) E dX7_put_9 (by decide) rfl rfl (fun h_3 => ?_) (fun h_3 => ?_)
    ·
      exact r_void E dX7_put_23 hJ
    ·
      refine s_aload_n E dX7_put_12 rfl rfl ?_
      refine s_gR (r := 62) E fg_X7_11 rfl rfl (jv_lt hJ (by decide)) (jv_r hJ (by decide +kernel)) dX7_put_13 ?_
      refine s_iload_n E dX7_put_16 rfl rfl ?_
      refine s_aload_n E dX7_put_17 rfl rfl ?_
      refine s_lload_n E dX7_put_18 rfl rfl ?_
      refine s_vL (As := [AL x2]) (S := [AI x1, AR 62]) E (Z_X7_cut_61 l D aC b w x2 hJ.1 ) cv_X7_36 rfl rfl rfl (jv_lt hJ (by decide)) (Nat.le_of_ble_eq_true rfl) (Nat.le_of_ble_eq_true rfl) ⟨(Nat.le_of_ble_eq_true rfl), (Nat.le_of_ble_eq_true rfl)⟩ (Nat.le_of_ble_eq_true rfl) dX7_put_19 (fun z_6 u_4 hp_5 => ?_)
      obtain ⟨hz_6, hp_5⟩ := hp_5
      subst hp_5
      refine s_last E rfl (jv_lt hJ (by decide)) (z_in (u := x1.toInt) rfl (by omega) (by omega)) dX7_put_22 ?_
      refine s_gen (P := fun v => Jv w v ∧ (v.2.2.1 61 2).toInt = (w.2.2.1 61 2).toInt) ⟨(jv_L hJ (by decide)), rfl⟩ (fun v_8 hj_9 => ?_)
      obtain ⟨hj_9, hk_10k0⟩ := hj_9
      exact r_void E dX7_put_23 hj_9
set_option maxRecDepth 20000 in
set_option maxHeartbeats 2000000 in
theorem Z_X7_cut_63 (l : Launch) (D : va_G) (aC : Nat → ClassId) (b : Nat) (w : XW) (x1 : Int64) (hI : Iv w)  : CnL l D aC b M_X7_cut 0 0 0 0 [AR 63, AL x1] w (fun r u => ((-9223372036854775808) ≤ r.toInt ∧ r.toInt ≤ 9223372036854775807) ∧ w = u) := by
  refine cn_L (own := RX7) (nm := "cut") (L0 := [some (AR 63), some (AL x1), none]) (by decide +kernel) rfl rfl (Nat.le_of_ble_eq_true rfl) rfl ?_
  intro p e s m args below meth c E hin
  have hJ : Jv w w := jv_rfl hI
  refine s_aload_n E dX7_cut_0 rfl rfl ?_
  refine s_gI E fg_X7_19 rfl rfl (jv_lt hJ (by decide)) dX7_cut_1 ?_
  refine z_nm (P := fun z => z.toInt = (w.2.2.1 63 1).toInt ∧ 0 ≤ z.toInt ∧ z.toInt ≤ 3) ⟨rfl, (rg_63_1 hJ)⟩ (fun z_1 hz_1 => ?_)
  refine z_switch (lo := 0) (hi := 2) (u := z_1.toInt) rfl (fun h_2 => ?_) (fun j hj h_2 => ?_)
  ·
    refine s_tableOut (tgt := 46) E dX7_cut_4 h_2 (by decide) ?_
    refine s_lload_n E dX7_cut_46 rfl rfl ?_
    exact r_long E dX7_cut_47 ⟨⟨by have hb_ := z64 x1; omega, by have hb_ := z64 x1; omega⟩, rfl⟩
  · match j, hj with
    | 0, _ =>
      refine s_tableIn (off := 28) (tgt := 32) E dX7_cut_4 (by omega) (by omega) (z_off (j := 0) (by omega) (by decide +kernel)) (by decide) ?_
      refine s_lload_n E dX7_cut_32 rfl rfl ?_
      refine s_l2i E dX7_cut_33 ?_
      refine z_nm (P := fun z => (-2147483648) ≤ z.toInt ∧ z.toInt ≤ 2147483647) (z32 _) (fun z_3 hz_3 => ?_)
      refine s_i2b E dX7_cut_34 ?_
      refine z_nm (P := fun z => (-2147483648) ≤ z.toInt ∧ z.toInt ≤ 2147483647) (z32 _) (fun z_4 hz_4 => ?_)
      refine z_i2l (u := z_4.toInt) E dX7_cut_35 rfl (fun z_5 hz_5 => ?_)
      exact r_long E dX7_cut_36 ⟨⟨by have hb_ := z64 z_5; omega, by have hb_ := z64 z_5; omega⟩, rfl⟩
    | 1, _ =>
      refine s_tableIn (off := 33) (tgt := 37) E dX7_cut_4 (by omega) (by omega) (z_off (j := 1) (by omega) (by decide +kernel)) (by decide) ?_
      refine s_lload_n E dX7_cut_37 rfl rfl ?_
      refine s_l2i E dX7_cut_38 ?_
      refine z_nm (P := fun z => (-2147483648) ≤ z.toInt ∧ z.toInt ≤ 2147483647) (z32 _) (fun z_6 hz_6 => ?_)
      refine s_i2s E dX7_cut_39 ?_
      refine z_nm (P := fun z => (-2147483648) ≤ z.toInt ∧ z.toInt ≤ 2147483647) (z32 _) (fun z_7 hz_7 => ?_)
      refine z_i2l (u := z_7.toInt) E dX7_cut_40 rfl (fun z_8 hz_8 => ?_)
      exact r_long E dX7_cut_41 ⟨⟨by have hb_ := z64 z_8; omega, by have hb_ := z64 z_8; omega⟩, rfl⟩
    | 2, _ =>
      refine s_tableIn (off := 38) (tgt := 42) E dX7_cut_4 (by omega) (by omega) (z_off (j := 2) (by omega) (by decide +kernel)) (by decide) ?_
      refine s_lload_n E dX7_cut_42 rfl rfl ?_
      refine s_l2i E dX7_cut_43 ?_
      refine z_nm (P := fun z => (-2147483648) ≤ z.toInt ∧ z.toInt ≤ 2147483647) (z32 _) (fun z_9 hz_9 => ?_)
      refine z_i2l (u := z_9.toInt) E dX7_cut_44 rfl (fun z_10 hz_10 => ?_)
      exact r_long E dX7_cut_45 ⟨⟨by have hb_ := z64 z_10; omega, by have hb_ := z64 z_10; omega⟩, rfl⟩
    | j + 3, hj => exact absurd hj (by omega)
set_option maxRecDepth 20000 in
set_option maxHeartbeats 2000000 in
theorem Z_X7_put_63 (l : Launch) (D : va_G) (aC : Nat → ClassId) (b : Nat) (w : XW) (x1 : Int32) (x2 : Int64) (hI : Iv w)  : CnV l D aC b M_X7_put 1 22 0 0 [AR 63, AI x1, AL x2] w (fun u => Jv w u) := by
  refine cn_V (own := RX7) (nm := "put") (L0 := [some (AR 63), some (AI x1), some (AL x2), none]) (by decide +kernel) rfl rfl (Nat.le_of_ble_eq_true rfl) rfl ?_
  intro p e s m args below meth c E hin
  have hJ : Jv w w := jv_rfl hI
  have hb_x1 := z32 x1
  refine s_iload_n E dX7_put_0 rfl rfl ?_
  refine z_if_lt (tgt := 23) (u := x1.toInt) E dX7_put_1 (by decide) rfl (fun h_1 => ?_) (fun h_1 => ?_)
  ·
    exact r_void E dX7_put_23 hJ
  ·
    refine s_iload_n E dX7_put_4 rfl rfl ?_
    refine s_aload_n E dX7_put_5 rfl rfl ?_
    refine s_gI E fg_X7_15 rfl rfl (jv_lt hJ (by decide)) dX7_put_6 ?_
    refine z_nm (P := fun z => z.toInt = (w.2.2.1 63 2).toInt ∧ (-1) ≤ z.toInt ∧ z.toInt ≤ 60) ⟨rfl, (rg_63_2 hJ)⟩ (fun z_2 hz_2 => ?_)
    refine z_icmp_ge (tgt := 23) (u := x1.toInt) (v := z_2.toInt) E dX7_put_9 (by decide) rfl rfl (fun h_3 => ?_) (fun h_3 => ?_)
    ·
      exact r_void E dX7_put_23 hJ
    ·
      refine s_aload_n E dX7_put_12 rfl rfl ?_
      refine s_gR (r := 64) E fg_X7_11 rfl rfl (jv_lt hJ (by decide)) (jv_r hJ (by decide +kernel)) dX7_put_13 ?_
      refine s_iload_n E dX7_put_16 rfl rfl ?_
      refine s_aload_n E dX7_put_17 rfl rfl ?_
      refine s_lload_n E dX7_put_18 rfl rfl ?_
      refine s_vL (As := [AL x2]) (S := [AI x1, AR 64]) E (Z_X7_cut_63 l D aC b w x2 hJ.1 ) cv_X7_36 rfl rfl rfl (jv_lt hJ (by decide)) (Nat.le_of_ble_eq_true rfl) (Nat.le_of_ble_eq_true rfl) ⟨(Nat.le_of_ble_eq_true rfl), (Nat.le_of_ble_eq_true rfl)⟩ (Nat.le_of_ble_eq_true rfl) dX7_put_19 (fun z_6 u_4 hp_5 => ?_)
      obtain ⟨hz_6, hp_5⟩ := hp_5
      subst hp_5
      refine s_last E rfl (jv_lt hJ (by decide)) (z_in (u := x1.toInt) rfl (by omega) (by omega)) dX7_put_22 ?_
      refine s_gen (P := fun v => Jv w v ∧ (v.2.2.1 63 2).toInt = (w.2.2.1 63 2).toInt) ⟨(jv_L hJ (by decide)), rfl⟩ (fun v_8 hj_9 => ?_)
      obtain ⟨hj_9, hk_10k0⟩ := hj_9
      exact r_void E dX7_put_23 hj_9
set_option maxRecDepth 20000 in
set_option maxHeartbeats 2000000 in
theorem Z_X7_cut_65 (l : Launch) (D : va_G) (aC : Nat → ClassId) (b : Nat) (w : XW) (x1 : Int64) (hI : Iv w)  : CnL l D aC b M_X7_cut 0 0 0 0 [AR 65, AL x1] w (fun r u => ((-9223372036854775808) ≤ r.toInt ∧ r.toInt ≤ 9223372036854775807) ∧ w = u) := by
  refine cn_L (own := RX7) (nm := "cut") (L0 := [some (AR 65), some (AL x1), none]) (by decide +kernel) rfl rfl (Nat.le_of_ble_eq_true rfl) rfl ?_
  intro p e s m args below meth c E hin
  have hJ : Jv w w := jv_rfl hI
  refine s_aload_n E dX7_cut_0 rfl rfl ?_
  refine s_gI E fg_X7_19 rfl rfl (jv_lt hJ (by decide)) dX7_cut_1 ?_
  refine z_nm (P := fun z => z.toInt = (w.2.2.1 65 1).toInt ∧ 0 ≤ z.toInt ∧ z.toInt ≤ 3) ⟨rfl, (rg_65_1 hJ)⟩ (fun z_1 hz_1 => ?_)
  refine z_switch (lo := 0) (hi := 2) (u := z_1.toInt) rfl (fun h_2 => ?_) (fun j hj h_2 => ?_)
  ·
    refine s_tableOut (tgt := 46) E dX7_cut_4 h_2 (by decide) ?_
    refine s_lload_n E dX7_cut_46 rfl rfl ?_
    exact r_long E dX7_cut_47 ⟨⟨by have hb_ := z64 x1; omega, by have hb_ := z64 x1; omega⟩, rfl⟩
  · match j, hj with
    | 0, _ =>
      refine s_tableIn (off := 28) (tgt := 32) E dX7_cut_4 (by omega) (by omega) (z_off (j := 0) (by omega) (by decide +kernel)) (by decide) ?_
      refine s_lload_n E dX7_cut_32 rfl rfl ?_
      refine s_l2i E dX7_cut_33 ?_
      refine z_nm (P := fun z => (-2147483648) ≤ z.toInt ∧ z.toInt ≤ 2147483647) (z32 _) (fun z_3 hz_3 => ?_)
      refine s_i2b E dX7_cut_34 ?_
      refine z_nm (P := fun z => (-2147483648) ≤ z.toInt ∧ z.toInt ≤ 2147483647) (z32 _) (fun z_4 hz_4 => ?_)
      refine z_i2l (u := z_4.toInt) E dX7_cut_35 rfl (fun z_5 hz_5 => ?_)
      exact r_long E dX7_cut_36 ⟨⟨by have hb_ := z64 z_5; omega, by have hb_ := z64 z_5; omega⟩, rfl⟩
    | 1, _ =>
      refine s_tableIn (off := 33) (tgt := 37) E dX7_cut_4 (by omega) (by omega) (z_off (j := 1) (by omega) (by decide +kernel)) (by decide) ?_
      refine s_lload_n E dX7_cut_37 rfl rfl ?_
      refine s_l2i E dX7_cut_38 ?_
      refine z_nm (P := fun z => (-2147483648) ≤ z.toInt ∧ z.toInt ≤ 2147483647) (z32 _) (fun z_6 hz_6 => ?_)
      refine s_i2s E dX7_cut_39 ?_
      refine z_nm (P := fun z => (-2147483648) ≤ z.toInt ∧ z.toInt ≤ 2147483647) (z32 _) (fun z_7 hz_7 => ?_)
      refine z_i2l (u := z_7.toInt) E dX7_cut_40 rfl (fun z_8 hz_8 => ?_)
      exact r_long E dX7_cut_41 ⟨⟨by have hb_ := z64 z_8; omega, by have hb_ := z64 z_8; omega⟩, rfl⟩
    | 2, _ =>
      refine s_tableIn (off := 38) (tgt := 42) E dX7_cut_4 (by omega) (by omega) (z_off (j := 2) (by omega) (by decide +kernel)) (by decide) ?_
      refine s_lload_n E dX7_cut_42 rfl rfl ?_
      refine s_l2i E dX7_cut_43 ?_
      refine z_nm (P := fun z => (-2147483648) ≤ z.toInt ∧ z.toInt ≤ 2147483647) (z32 _) (fun z_9 hz_9 => ?_)
      refine z_i2l (u := z_9.toInt) E dX7_cut_44 rfl (fun z_10 hz_10 => ?_)
      exact r_long E dX7_cut_45 ⟨⟨by have hb_ := z64 z_10; omega, by have hb_ := z64 z_10; omega⟩, rfl⟩
    | j + 3, hj => exact absurd hj (by omega)
set_option maxRecDepth 20000 in
set_option maxHeartbeats 2000000 in
theorem Z_X7_put_65 (l : Launch) (D : va_G) (aC : Nat → ClassId) (b : Nat) (w : XW) (x1 : Int32) (x2 : Int64) (hI : Iv w)  : CnV l D aC b M_X7_put 1 22 0 0 [AR 65, AI x1, AL x2] w (fun u => Jv w u) := by
  refine cn_V (own := RX7) (nm := "put") (L0 := [some (AR 65), some (AI x1), some (AL x2), none]) (by decide +kernel) rfl rfl (Nat.le_of_ble_eq_true rfl) rfl ?_
  intro p e s m args below meth c E hin
  have hJ : Jv w w := jv_rfl hI
  have hb_x1 := z32 x1
  refine s_iload_n E dX7_put_0 rfl rfl ?_
  refine z_if_lt (tgt := 23) (u := x1.toInt) E dX7_put_1 (by decide) rfl (fun h_1 => ?_) (fun h_1 => ?_)
  ·
    exact r_void E dX7_put_23 hJ
  ·
    refine s_iload_n E dX7_put_4 rfl rfl ?_
    refine s_aload_n E dX7_put_5 rfl rfl ?_
    refine s_gI E fg_X7_15 rfl rfl (jv_lt hJ (by decide)) dX7_put_6 ?_
    refine z_nm (P := fun z => z.toInt = (w.2.2.1 65 2).toInt ∧ (-1) ≤ z.toInt ∧ z.toInt ≤ 60) ⟨rfl, (rg_65_2 hJ)⟩ (fun z_2 hz_2 => ?_)
    refine z_icmp_ge (tgt := 23) (u := x1.toInt) (v := z_2.toInt) E dX7_put_9 (by decide) rfl rfl (fun h_3 => ?_) (fun h_3 => ?_)
    ·
      exact r_void E dX7_put_23 hJ
    ·
      refine s_aload_n E dX7_put_12 rfl rfl ?_
      refine s_gR (r := 66) E fg_X7_11 rfl rfl (jv_lt hJ (by decide)) (jv_r hJ (by decide +kernel)) dX7_put_13 ?_
      refine s_iload_n E dX7_put_16 rfl rfl ?_
      refine s_aload_n E dX7_put_17 rfl rfl ?_
      refine s_lload_n E dX7_put_18 rfl rfl ?_
      refine s_vL (As := [AL x2]) (S := [AI x1, AR 66]) E (Z_X7_cut_65 l D aC b w x2 hJ.1 ) cv_X7_36 rfl rfl rfl (jv_lt hJ (by decide)) (Nat.le_of_ble_eq_true rfl) (Nat.le_of_ble_eq_true rfl) ⟨(Nat.le_of_ble_eq_true rfl), (Nat.le_of_ble_eq_true rfl)⟩ (Nat.le_of_ble_eq_true rfl) dX7_put_19 (fun z_6 u_4 hp_5 => ?_)
      obtain ⟨hz_6, hp_5⟩ := hp_5
      subst hp_5
      refine s_last E rfl (jv_lt hJ (by decide)) (z_in (u := x1.toInt) rfl (by omega) (by omega)) dX7_put_22 ?_
      refine s_gen (P := fun v => Jv w v ∧ (v.2.2.1 65 2).toInt = (w.2.2.1 65 2).toInt) ⟨(jv_L hJ (by decide)), rfl⟩ (fun v_8 hj_9 => ?_)
      obtain ⟨hj_9, hk_10k0⟩ := hj_9
      exact r_void E dX7_put_23 hj_9
set_option maxRecDepth 20000 in
set_option maxHeartbeats 2000000 in
theorem Z_X7_cut_67 (l : Launch) (D : va_G) (aC : Nat → ClassId) (b : Nat) (w : XW) (x1 : Int64) (hI : Iv w)  : CnL l D aC b M_X7_cut 0 0 0 0 [AR 67, AL x1] w (fun r u => ((-9223372036854775808) ≤ r.toInt ∧ r.toInt ≤ 9223372036854775807) ∧ w = u) := by
  refine cn_L (own := RX7) (nm := "cut") (L0 := [some (AR 67), some (AL x1), none]) (by decide +kernel) rfl rfl (Nat.le_of_ble_eq_true rfl) rfl ?_
  intro p e s m args below meth c E hin
  have hJ : Jv w w := jv_rfl hI
  refine s_aload_n E dX7_cut_0 rfl rfl ?_
  refine s_gI E fg_X7_19 rfl rfl (jv_lt hJ (by decide)) dX7_cut_1 ?_
  refine z_nm (P := fun z => z.toInt = (w.2.2.1 67 1).toInt ∧ 0 ≤ z.toInt ∧ z.toInt ≤ 3) ⟨rfl, (rg_67_1 hJ)⟩ (fun z_1 hz_1 => ?_)
  refine z_switch (lo := 0) (hi := 2) (u := z_1.toInt) rfl (fun h_2 => ?_) (fun j hj h_2 => ?_)
  ·
    refine s_tableOut (tgt := 46) E dX7_cut_4 h_2 (by decide) ?_
    refine s_lload_n E dX7_cut_46 rfl rfl ?_
    exact r_long E dX7_cut_47 ⟨⟨by have hb_ := z64 x1; omega, by have hb_ := z64 x1; omega⟩, rfl⟩
  · match j, hj with
    | 0, _ =>
      refine s_tableIn (off := 28) (tgt := 32) E dX7_cut_4 (by omega) (by omega) (z_off (j := 0) (by omega) (by decide +kernel)) (by decide) ?_
      refine s_lload_n E dX7_cut_32 rfl rfl ?_
      refine s_l2i E dX7_cut_33 ?_
      refine z_nm (P := fun z => (-2147483648) ≤ z.toInt ∧ z.toInt ≤ 2147483647) (z32 _) (fun z_3 hz_3 => ?_)
      refine s_i2b E dX7_cut_34 ?_
      refine z_nm (P := fun z => (-2147483648) ≤ z.toInt ∧ z.toInt ≤ 2147483647) (z32 _) (fun z_4 hz_4 => ?_)
      refine z_i2l (u := z_4.toInt) E dX7_cut_35 rfl (fun z_5 hz_5 => ?_)
      exact r_long E dX7_cut_36 ⟨⟨by have hb_ := z64 z_5; omega, by have hb_ := z64 z_5; omega⟩, rfl⟩
    | 1, _ =>
      refine s_tableIn (off := 33) (tgt := 37) E dX7_cut_4 (by omega) (by omega) (z_off (j := 1) (by omega) (by decide +kernel)) (by decide) ?_
      refine s_lload_n E dX7_cut_37 rfl rfl ?_
      refine s_l2i E dX7_cut_38 ?_
      refine z_nm (P := fun z => (-2147483648) ≤ z.toInt ∧ z.toInt ≤ 2147483647) (z32 _) (fun z_6 hz_6 => ?_)
      refine s_i2s E dX7_cut_39 ?_
      refine z_nm (P := fun z => (-2147483648) ≤ z.toInt ∧ z.toInt ≤ 2147483647) (z32 _) (fun z_7 hz_7 => ?_)
      refine z_i2l (u := z_7.toInt) E dX7_cut_40 rfl (fun z_8 hz_8 => ?_)
      exact r_long E dX7_cut_41 ⟨⟨by have hb_ := z64 z_8; omega, by have hb_ := z64 z_8; omega⟩, rfl⟩
    | 2, _ =>
      refine s_tableIn (off := 38) (tgt := 42) E dX7_cut_4 (by omega) (by omega) (z_off (j := 2) (by omega) (by decide +kernel)) (by decide) ?_
      refine s_lload_n E dX7_cut_42 rfl rfl ?_
      refine s_l2i E dX7_cut_43 ?_
      refine z_nm (P := fun z => (-2147483648) ≤ z.toInt ∧ z.toInt ≤ 2147483647) (z32 _) (fun z_9 hz_9 => ?_)
      refine z_i2l (u := z_9.toInt) E dX7_cut_44 rfl (fun z_10 hz_10 => ?_)
      exact r_long E dX7_cut_45 ⟨⟨by have hb_ := z64 z_10; omega, by have hb_ := z64 z_10; omega⟩, rfl⟩
    | j + 3, hj => exact absurd hj (by omega)
set_option maxRecDepth 20000 in
set_option maxHeartbeats 2000000 in
theorem Z_X7_put_67 (l : Launch) (D : va_G) (aC : Nat → ClassId) (b : Nat) (w : XW) (x1 : Int32) (x2 : Int64) (hI : Iv w)  : CnV l D aC b M_X7_put 1 22 0 0 [AR 67, AI x1, AL x2] w (fun u => Jv w u) := by
  refine cn_V (own := RX7) (nm := "put") (L0 := [some (AR 67), some (AI x1), some (AL x2), none]) (by decide +kernel) rfl rfl (Nat.le_of_ble_eq_true rfl) rfl ?_
  intro p e s m args below meth c E hin
  have hJ : Jv w w := jv_rfl hI
  have hb_x1 := z32 x1
  refine s_iload_n E dX7_put_0 rfl rfl ?_
  refine z_if_lt (tgt := 23) (u := x1.toInt) E dX7_put_1 (by decide) rfl (fun h_1 => ?_) (fun h_1 => ?_)
  ·
    exact r_void E dX7_put_23 hJ
  ·
    refine s_iload_n E dX7_put_4 rfl rfl ?_
    refine s_aload_n E dX7_put_5 rfl rfl ?_
    refine s_gI E fg_X7_15 rfl rfl (jv_lt hJ (by decide)) dX7_put_6 ?_
    refine z_nm (P := fun z => z.toInt = (w.2.2.1 67 2).toInt ∧ (-1) ≤ z.toInt ∧ z.toInt ≤ 60) ⟨rfl, (rg_67_2 hJ)⟩ (fun z_2 hz_2 => ?_)
    refine z_icmp_ge (tgt := 23) (u := x1.toInt) (v := z_2.toInt) E dX7_put_9 (by decide) rfl rfl (fun h_3 => ?_) (fun h_3 => ?_)
    ·
      exact r_void E dX7_put_23 hJ
    ·
      refine s_aload_n E dX7_put_12 rfl rfl ?_
      refine s_gR (r := 68) E fg_X7_11 rfl rfl (jv_lt hJ (by decide)) (jv_r hJ (by decide +kernel)) dX7_put_13 ?_
      refine s_iload_n E dX7_put_16 rfl rfl ?_
      refine s_aload_n E dX7_put_17 rfl rfl ?_
      refine s_lload_n E dX7_put_18 rfl rfl ?_
      refine s_vL (As := [AL x2]) (S := [AI x1, AR 68]) E (Z_X7_cut_67 l D aC b w x2 hJ.1 ) cv_X7_36 rfl rfl rfl (jv_lt hJ (by decide)) (Nat.le_of_ble_eq_true rfl) (Nat.le_of_ble_eq_true rfl) ⟨(Nat.le_of_ble_eq_true rfl), (Nat.le_of_ble_eq_true rfl)⟩ (Nat.le_of_ble_eq_true rfl) dX7_put_19 (fun z_6 u_4 hp_5 => ?_)
      obtain ⟨hz_6, hp_5⟩ := hp_5
      subst hp_5
      refine s_last E rfl (jv_lt hJ (by decide)) (z_in (u := x1.toInt) rfl (by omega) (by omega)) dX7_put_22 ?_
      refine s_gen (P := fun v => Jv w v ∧ (v.2.2.1 67 2).toInt = (w.2.2.1 67 2).toInt) ⟨(jv_L hJ (by decide)), rfl⟩ (fun v_8 hj_9 => ?_)
      obtain ⟨hj_9, hk_10k0⟩ := hj_9
      exact r_void E dX7_put_23 hj_9
set_option maxRecDepth 20000 in
set_option maxHeartbeats 2000000 in
theorem Z_X9_write_0 (l : Launch) (D : va_G) (aC : Nat → ClassId) (b : Nat) (w : XW) (x1 : Int32) (x2 : Int32) (x3 : Int64) (hI : Iv w)  : CnI l D aC b M_X9_write 2 45 0 0 [AR 0, AI x1, AI x2, AL x3] w (fun r u => ((-7) ≤ r.toInt ∧ r.toInt ≤ 0 ∧ (¬ r.toInt = 0 ∨ (0 ≤ x1.toInt ∧ x1.toInt ≤ 3)) ∧ (¬ r.toInt = 0 ∨ (0 ≤ x2.toInt ∧ x2.toInt ≤ 59))) ∧ ((¬ (0 ≤ x1.toInt ∧ x1.toInt ≤ 3) → r.toInt = -2) ∧ (x1.toInt = 0 → ((w.2.2.1 61 2).toInt < 0 ∧ r.toInt = -6) ∨ (0 ≤ (w.2.2.1 61 2).toInt ∧ ¬ (0 ≤ x2.toInt ∧ x2.toInt < (w.2.2.1 61 2).toInt) ∧ r.toInt = -7) ∨ (0 ≤ x2.toInt ∧ x2.toInt < (w.2.2.1 61 2).toInt ∧ r.toInt = 0)) ∧ (x1.toInt = 1 → ((w.2.2.1 63 2).toInt < 0 ∧ r.toInt = -6) ∨ (0 ≤ (w.2.2.1 63 2).toInt ∧ ¬ (0 ≤ x2.toInt ∧ x2.toInt < (w.2.2.1 63 2).toInt) ∧ r.toInt = -7) ∨ (0 ≤ x2.toInt ∧ x2.toInt < (w.2.2.1 63 2).toInt ∧ r.toInt = 0)) ∧ (x1.toInt = 2 → ((w.2.2.1 65 2).toInt < 0 ∧ r.toInt = -6) ∨ (0 ≤ (w.2.2.1 65 2).toInt ∧ ¬ (0 ≤ x2.toInt ∧ x2.toInt < (w.2.2.1 65 2).toInt) ∧ r.toInt = -7) ∨ (0 ≤ x2.toInt ∧ x2.toInt < (w.2.2.1 65 2).toInt ∧ r.toInt = 0)) ∧ (x1.toInt = 3 → ((w.2.2.1 67 2).toInt < 0 ∧ r.toInt = -6) ∨ (0 ≤ (w.2.2.1 67 2).toInt ∧ ¬ (0 ≤ x2.toInt ∧ x2.toInt < (w.2.2.1 67 2).toInt) ∧ r.toInt = -7) ∨ (0 ≤ x2.toInt ∧ x2.toInt < (w.2.2.1 67 2).toInt ∧ r.toInt = 0))) ∧ Jv w u) := by
  refine cn_I (own := RX9) (nm := "write") (L0 := [some (AR 0), some (AI x1), some (AI x2), some (AL x3), none]) (by decide +kernel) rfl rfl (Nat.le_of_ble_eq_true rfl) rfl ?_
  intro p e s m args below meth c E hin
  have hJ : Jv w w := jv_rfl hI
  have hb_x1 := z32 x1
  have hb_x2 := z32 x2
  refine s_iload_n E dX9_write_0 rfl rfl ?_
  refine s_sI (As := [AI x1]) (S := []) E (Z_X9_isSlot l D aC b w x1 hJ.1 ) cs_X9_276 rfl rfl (Nat.le_of_ble_eq_true rfl) (Nat.le_of_ble_eq_true rfl) ⟨(Nat.le_of_ble_eq_true rfl), (Nat.le_of_ble_eq_true rfl)⟩ (Nat.le_of_ble_eq_true rfl) dX9_write_1 (fun z_3 u_1 hp_2 => ?_)
  obtain ⟨hz_3, hxz_3, hp_2⟩ := hp_2
  subst hp_2
  refine z_if_ne (tgt := 10) (u := z_3.toInt) E dX9_write_4 (by decide) rfl (fun h_5 => ?_) (fun h_5 => ?_)
  ·
    refine s_aload_n E dX9_write_10 rfl rfl ?_
    refine s_gR (r := 60) E fg_X9_46 rfl rfl (jv_lt hJ (by decide)) (jv_r hJ (by decide +kernel)) dX9_write_11 ?_
    refine s_iload_n E dX9_write_14 rfl rfl ?_
    rcases (show x1 = 0 ∨ x1 = 1 ∨ x1 = 2 ∨ x1 = 3 from (z_cases4 (u := x1.toInt) rfl (by omega) (by omega))) with rfl | rfl | rfl | rfl
    ·
      refine s_aald105 (r := 61) E rfl (jv_lt hJ (by decide)) (vp_c (by decide)) (jv_r hJ (by decide +kernel)) dX9_write_15 ?_
      refine s_vI (As := []) (S := []) E (Z_X7_isBare_61 l D aC b w  hJ.1 ) cv_X9_279 rfl rfl rfl (jv_lt hJ (by decide)) (Nat.le_of_ble_eq_true rfl) (Nat.le_of_ble_eq_true rfl) ⟨(Nat.le_of_ble_eq_true rfl), (Nat.le_of_ble_eq_true rfl)⟩ (Nat.le_of_ble_eq_true rfl) dX9_write_16 (fun z_8 u_6 hp_7 => ?_)
      obtain ⟨hz_8, hxz_8, hp_7⟩ := hp_7
      subst hp_7
      refine z_if_eq (tgt := 25) (u := z_8.toInt) E dX9_write_19 (by decide) rfl (fun h_10 => ?_) (fun h_10 => ?_)
      ·
        refine s_iload_n E dX9_write_25 rfl rfl ?_
        refine z_if_lt (tgt := 42) (u := x2.toInt) E dX9_write_26 (by decide) rfl (fun h_11 => ?_) (fun h_11 => ?_)
        ·
          refine s_bipush (v := (-7)) E dX9_write_42 (by decide) ?_
          exact r_int E dX9_write_44 ⟨⟨by decide, by decide, by first | (left; decide) | (right; decide) | (right; have hb_ := z32 x1; omega), by first | (left; decide) | (right; decide) | (right; have hb_ := z32 x2; omega)⟩, (by have hrc_ : ((-7) : Int32).toInt = (-7) := (by decide); have k0_ : (0 : Int32).toInt = 0 := (by decide); have k1_ : (1 : Int32).toInt = 1 := (by decide); have k2_ : (2 : Int32).toInt = 2 := (by decide); have k3_ : (3 : Int32).toInt = 3 := (by decide); refine ⟨?_, ?_, ?_, ?_, ?_⟩ <;> intros <;> omega), hJ⟩
        ·
          refine s_iload_n E dX9_write_29 rfl rfl ?_
          refine s_aload_n E dX9_write_30 rfl rfl ?_
          refine s_gR (r := 60) E fg_X9_46 rfl rfl (jv_lt hJ (by decide)) (jv_r hJ (by decide +kernel)) dX9_write_31 ?_
          refine s_iload_n E dX9_write_34 rfl rfl ?_
          refine s_aald105 (r := 61) E rfl (jv_lt hJ (by decide)) (vp_c (by decide)) (jv_r hJ (by decide +kernel)) dX9_write_35 ?_
          refine s_gI E fg_X9_282 rfl rfl (jv_lt hJ (by decide)) dX9_write_36 ?_
          refine z_nm (P := fun z => z.toInt = (w.2.2.1 61 2).toInt ∧ (-1) ≤ z.toInt ∧ z.toInt ≤ 60) ⟨rfl, (rg_61_2 hJ)⟩ (fun z_12 hz_12 => ?_)
          refine z_icmp_lt (tgt := 45) (u := x2.toInt) (v := z_12.toInt) E dX9_write_39 (by decide) rfl rfl (fun h_13 => ?_) (fun h_13 => ?_)
          ·
            refine s_aload_n E dX9_write_45 rfl rfl ?_
            refine s_gR (r := 60) E fg_X9_46 rfl rfl (jv_lt hJ (by decide)) (jv_r hJ (by decide +kernel)) dX9_write_46 ?_
            refine s_iload_n E dX9_write_49 rfl rfl ?_
            refine s_aald105 (r := 61) E rfl (jv_lt hJ (by decide)) (vp_c (by decide)) (jv_r hJ (by decide +kernel)) dX9_write_50 ?_
            refine s_iload_n E dX9_write_51 rfl rfl ?_
            refine s_lload_n E dX9_write_52 rfl rfl ?_
            refine s_vV (As := [AI x2, AL x3]) (S := []) E (Z_X7_put_61 l D aC b w x2 x3 hJ.1 ) cv_X9_429 rfl rfl rfl (jv_lt hJ (by decide)) (Nat.le_of_ble_eq_true rfl) (Nat.le_of_ble_eq_true rfl) ⟨(Nat.le_of_ble_eq_true rfl), (Nat.le_of_ble_eq_true rfl)⟩ (Nat.le_of_ble_eq_true rfl) dX9_write_53 (fun u_14 hp_15 => ?_)
            have hj_16 := jv_trans hJ hp_15
            refine s_iconst (v := 0) E dX9_write_56 (by decide) ?_
            exact r_int E dX9_write_57 ⟨⟨by decide, by decide, by first | (left; decide) | (right; decide) | (right; have hb_ := z32 x1; omega), by first | (left; decide) | (right; decide) | (right; have hb_ := z32 x2; omega)⟩, (by have hrc_ : (0 : Int32).toInt = 0 := (by decide); have k0_ : (0 : Int32).toInt = 0 := (by decide); have k1_ : (1 : Int32).toInt = 1 := (by decide); have k2_ : (2 : Int32).toInt = 2 := (by decide); have k3_ : (3 : Int32).toInt = 3 := (by decide); refine ⟨?_, ?_, ?_, ?_, ?_⟩ <;> intros <;> omega), hj_16⟩
          ·
            refine s_bipush (v := (-7)) E dX9_write_42 (by decide) ?_
            exact r_int E dX9_write_44 ⟨⟨by decide, by decide, by first | (left; decide) | (right; decide) | (right; have hb_ := z32 x1; omega), by first | (left; decide) | (right; decide) | (right; have hb_ := z32 x2; omega)⟩, (by have hrc_ : ((-7) : Int32).toInt = (-7) := (by decide); have k0_ : (0 : Int32).toInt = 0 := (by decide); have k1_ : (1 : Int32).toInt = 1 := (by decide); have k2_ : (2 : Int32).toInt = 2 := (by decide); have k3_ : (3 : Int32).toInt = 3 := (by decide); refine ⟨?_, ?_, ?_, ?_, ?_⟩ <;> intros <;> omega), hJ⟩
      ·
        refine s_bipush (v := (-6)) E dX9_write_22 (by decide) ?_
        exact r_int E dX9_write_24 ⟨⟨by decide, by decide, by first | (left; decide) | (right; decide) | (right; have hb_ := z32 x1; omega), by first | (left; decide) | (right; decide) | (right; have hb_ := z32 x2; omega)⟩, (by have hrc_ : ((-6) : Int32).toInt = (-6) := (by decide); have k0_ : (0 : Int32).toInt = 0 := (by decide); have k1_ : (1 : Int32).toInt = 1 := (by decide); have k2_ : (2 : Int32).toInt = 2 := (by decide); have k3_ : (3 : Int32).toInt = 3 := (by decide); refine ⟨?_, ?_, ?_, ?_, ?_⟩ <;> intros <;> omega), hJ⟩
    ·
      refine s_aald105 (r := 63) E rfl (jv_lt hJ (by decide)) (vp_c (by decide)) (jv_r hJ (by decide +kernel)) dX9_write_15 ?_
      refine s_vI (As := []) (S := []) E (Z_X7_isBare_63 l D aC b w  hJ.1 ) cv_X9_279 rfl rfl rfl (jv_lt hJ (by decide)) (Nat.le_of_ble_eq_true rfl) (Nat.le_of_ble_eq_true rfl) ⟨(Nat.le_of_ble_eq_true rfl), (Nat.le_of_ble_eq_true rfl)⟩ (Nat.le_of_ble_eq_true rfl) dX9_write_16 (fun z_19 u_17 hp_18 => ?_)
      obtain ⟨hz_19, hxz_19, hp_18⟩ := hp_18
      subst hp_18
      refine z_if_eq (tgt := 25) (u := z_19.toInt) E dX9_write_19 (by decide) rfl (fun h_21 => ?_) (fun h_21 => ?_)
      ·
        refine s_iload_n E dX9_write_25 rfl rfl ?_
        refine z_if_lt (tgt := 42) (u := x2.toInt) E dX9_write_26 (by decide) rfl (fun h_22 => ?_) (fun h_22 => ?_)
        ·
          refine s_bipush (v := (-7)) E dX9_write_42 (by decide) ?_
          exact r_int E dX9_write_44 ⟨⟨by decide, by decide, by first | (left; decide) | (right; decide) | (right; have hb_ := z32 x1; omega), by first | (left; decide) | (right; decide) | (right; have hb_ := z32 x2; omega)⟩, (by have hrc_ : ((-7) : Int32).toInt = (-7) := (by decide); have k0_ : (0 : Int32).toInt = 0 := (by decide); have k1_ : (1 : Int32).toInt = 1 := (by decide); have k2_ : (2 : Int32).toInt = 2 := (by decide); have k3_ : (3 : Int32).toInt = 3 := (by decide); refine ⟨?_, ?_, ?_, ?_, ?_⟩ <;> intros <;> omega), hJ⟩
        ·
          refine s_iload_n E dX9_write_29 rfl rfl ?_
          refine s_aload_n E dX9_write_30 rfl rfl ?_
          refine s_gR (r := 60) E fg_X9_46 rfl rfl (jv_lt hJ (by decide)) (jv_r hJ (by decide +kernel)) dX9_write_31 ?_
          refine s_iload_n E dX9_write_34 rfl rfl ?_
          refine s_aald105 (r := 63) E rfl (jv_lt hJ (by decide)) (vp_c (by decide)) (jv_r hJ (by decide +kernel)) dX9_write_35 ?_
          refine s_gI E fg_X9_282 rfl rfl (jv_lt hJ (by decide)) dX9_write_36 ?_
          refine z_nm (P := fun z => z.toInt = (w.2.2.1 63 2).toInt ∧ (-1) ≤ z.toInt ∧ z.toInt ≤ 60) ⟨rfl, (rg_63_2 hJ)⟩ (fun z_23 hz_23 => ?_)
          refine z_icmp_lt (tgt := 45) (u := x2.toInt) (v := z_23.toInt) E dX9_write_39 (by decide) rfl rfl (fun h_24 => ?_) (fun h_24 => ?_)
          ·
            refine s_aload_n E dX9_write_45 rfl rfl ?_
            refine s_gR (r := 60) E fg_X9_46 rfl rfl (jv_lt hJ (by decide)) (jv_r hJ (by decide +kernel)) dX9_write_46 ?_
            refine s_iload_n E dX9_write_49 rfl rfl ?_
            refine s_aald105 (r := 63) E rfl (jv_lt hJ (by decide)) (vp_c (by decide)) (jv_r hJ (by decide +kernel)) dX9_write_50 ?_
            refine s_iload_n E dX9_write_51 rfl rfl ?_
            refine s_lload_n E dX9_write_52 rfl rfl ?_
            refine s_vV (As := [AI x2, AL x3]) (S := []) E (Z_X7_put_63 l D aC b w x2 x3 hJ.1 ) cv_X9_429 rfl rfl rfl (jv_lt hJ (by decide)) (Nat.le_of_ble_eq_true rfl) (Nat.le_of_ble_eq_true rfl) ⟨(Nat.le_of_ble_eq_true rfl), (Nat.le_of_ble_eq_true rfl)⟩ (Nat.le_of_ble_eq_true rfl) dX9_write_53 (fun u_25 hp_26 => ?_)
            have hj_27 := jv_trans hJ hp_26
            refine s_iconst (v := 0) E dX9_write_56 (by decide) ?_
            exact r_int E dX9_write_57 ⟨⟨by decide, by decide, by first | (left; decide) | (right; decide) | (right; have hb_ := z32 x1; omega), by first | (left; decide) | (right; decide) | (right; have hb_ := z32 x2; omega)⟩, (by have hrc_ : (0 : Int32).toInt = 0 := (by decide); have k0_ : (0 : Int32).toInt = 0 := (by decide); have k1_ : (1 : Int32).toInt = 1 := (by decide); have k2_ : (2 : Int32).toInt = 2 := (by decide); have k3_ : (3 : Int32).toInt = 3 := (by decide); refine ⟨?_, ?_, ?_, ?_, ?_⟩ <;> intros <;> omega), hj_27⟩
          ·
            refine s_bipush (v := (-7)) E dX9_write_42 (by decide) ?_
            exact r_int E dX9_write_44 ⟨⟨by decide, by decide, by first | (left; decide) | (right; decide) | (right; have hb_ := z32 x1; omega), by first | (left; decide) | (right; decide) | (right; have hb_ := z32 x2; omega)⟩, (by have hrc_ : ((-7) : Int32).toInt = (-7) := (by decide); have k0_ : (0 : Int32).toInt = 0 := (by decide); have k1_ : (1 : Int32).toInt = 1 := (by decide); have k2_ : (2 : Int32).toInt = 2 := (by decide); have k3_ : (3 : Int32).toInt = 3 := (by decide); refine ⟨?_, ?_, ?_, ?_, ?_⟩ <;> intros <;> omega), hJ⟩
      ·
        refine s_bipush (v := (-6)) E dX9_write_22 (by decide) ?_
        exact r_int E dX9_write_24 ⟨⟨by decide, by decide, by first | (left; decide) | (right; decide) | (right; have hb_ := z32 x1; omega), by first | (left; decide) | (right; decide) | (right; have hb_ := z32 x2; omega)⟩, (by have hrc_ : ((-6) : Int32).toInt = (-6) := (by decide); have k0_ : (0 : Int32).toInt = 0 := (by decide); have k1_ : (1 : Int32).toInt = 1 := (by decide); have k2_ : (2 : Int32).toInt = 2 := (by decide); have k3_ : (3 : Int32).toInt = 3 := (by decide); refine ⟨?_, ?_, ?_, ?_, ?_⟩ <;> intros <;> omega), hJ⟩
    ·
      refine s_aald105 (r := 65) E rfl (jv_lt hJ (by decide)) (vp_c (by decide)) (jv_r hJ (by decide +kernel)) dX9_write_15 ?_
      refine s_vI (As := []) (S := []) E (Z_X7_isBare_65 l D aC b w  hJ.1 ) cv_X9_279 rfl rfl rfl (jv_lt hJ (by decide)) (Nat.le_of_ble_eq_true rfl) (Nat.le_of_ble_eq_true rfl) ⟨(Nat.le_of_ble_eq_true rfl), (Nat.le_of_ble_eq_true rfl)⟩ (Nat.le_of_ble_eq_true rfl) dX9_write_16 (fun z_30 u_28 hp_29 => ?_)
      obtain ⟨hz_30, hxz_30, hp_29⟩ := hp_29
      subst hp_29
      refine z_if_eq (tgt := 25) (u := z_30.toInt) E dX9_write_19 (by decide) rfl (fun h_32 => ?_) (fun h_32 => ?_)
      ·
        refine s_iload_n E dX9_write_25 rfl rfl ?_
        refine z_if_lt (tgt := 42) (u := x2.toInt) E dX9_write_26 (by decide) rfl (fun h_33 => ?_) (fun h_33 => ?_)
        ·
          refine s_bipush (v := (-7)) E dX9_write_42 (by decide) ?_
          exact r_int E dX9_write_44 ⟨⟨by decide, by decide, by first | (left; decide) | (right; decide) | (right; have hb_ := z32 x1; omega), by first | (left; decide) | (right; decide) | (right; have hb_ := z32 x2; omega)⟩, (by have hrc_ : ((-7) : Int32).toInt = (-7) := (by decide); have k0_ : (0 : Int32).toInt = 0 := (by decide); have k1_ : (1 : Int32).toInt = 1 := (by decide); have k2_ : (2 : Int32).toInt = 2 := (by decide); have k3_ : (3 : Int32).toInt = 3 := (by decide); refine ⟨?_, ?_, ?_, ?_, ?_⟩ <;> intros <;> omega), hJ⟩
        ·
          refine s_iload_n E dX9_write_29 rfl rfl ?_
          refine s_aload_n E dX9_write_30 rfl rfl ?_
          refine s_gR (r := 60) E fg_X9_46 rfl rfl (jv_lt hJ (by decide)) (jv_r hJ (by decide +kernel)) dX9_write_31 ?_
          refine s_iload_n E dX9_write_34 rfl rfl ?_
          refine s_aald105 (r := 65) E rfl (jv_lt hJ (by decide)) (vp_c (by decide)) (jv_r hJ (by decide +kernel)) dX9_write_35 ?_
          refine s_gI E fg_X9_282 rfl rfl (jv_lt hJ (by decide)) dX9_write_36 ?_
          refine z_nm (P := fun z => z.toInt = (w.2.2.1 65 2).toInt ∧ (-1) ≤ z.toInt ∧ z.toInt ≤ 60) ⟨rfl, (rg_65_2 hJ)⟩ (fun z_34 hz_34 => ?_)
          refine z_icmp_lt (tgt := 45) (u := x2.toInt) (v := z_34.toInt) E dX9_write_39 (by decide) rfl rfl (fun h_35 => ?_) (fun h_35 => ?_)
          ·
            refine s_aload_n E dX9_write_45 rfl rfl ?_
            refine s_gR (r := 60) E fg_X9_46 rfl rfl (jv_lt hJ (by decide)) (jv_r hJ (by decide +kernel)) dX9_write_46 ?_
            refine s_iload_n E dX9_write_49 rfl rfl ?_
            refine s_aald105 (r := 65) E rfl (jv_lt hJ (by decide)) (vp_c (by decide)) (jv_r hJ (by decide +kernel)) dX9_write_50 ?_
            refine s_iload_n E dX9_write_51 rfl rfl ?_
            refine s_lload_n E dX9_write_52 rfl rfl ?_
            refine s_vV (As := [AI x2, AL x3]) (S := []) E (Z_X7_put_65 l D aC b w x2 x3 hJ.1 ) cv_X9_429 rfl rfl rfl (jv_lt hJ (by decide)) (Nat.le_of_ble_eq_true rfl) (Nat.le_of_ble_eq_true rfl) ⟨(Nat.le_of_ble_eq_true rfl), (Nat.le_of_ble_eq_true rfl)⟩ (Nat.le_of_ble_eq_true rfl) dX9_write_53 (fun u_36 hp_37 => ?_)
            have hj_38 := jv_trans hJ hp_37
            refine s_iconst (v := 0) E dX9_write_56 (by decide) ?_
            exact r_int E dX9_write_57 ⟨⟨by decide, by decide, by first | (left; decide) | (right; decide) | (right; have hb_ := z32 x1; omega), by first | (left; decide) | (right; decide) | (right; have hb_ := z32 x2; omega)⟩, (by have hrc_ : (0 : Int32).toInt = 0 := (by decide); have k0_ : (0 : Int32).toInt = 0 := (by decide); have k1_ : (1 : Int32).toInt = 1 := (by decide); have k2_ : (2 : Int32).toInt = 2 := (by decide); have k3_ : (3 : Int32).toInt = 3 := (by decide); refine ⟨?_, ?_, ?_, ?_, ?_⟩ <;> intros <;> omega), hj_38⟩
          ·
            refine s_bipush (v := (-7)) E dX9_write_42 (by decide) ?_
            exact r_int E dX9_write_44 ⟨⟨by decide, by decide, by first | (left; decide) | (right; decide) | (right; have hb_ := z32 x1; omega), by first | (left; decide) | (right; decide) | (right; have hb_ := z32 x2; omega)⟩, (by have hrc_ : ((-7) : Int32).toInt = (-7) := (by decide); have k0_ : (0 : Int32).toInt = 0 := (by decide); have k1_ : (1 : Int32).toInt = 1 := (by decide); have k2_ : (2 : Int32).toInt = 2 := (by decide); have k3_ : (3 : Int32).toInt = 3 := (by decide); refine ⟨?_, ?_, ?_, ?_, ?_⟩ <;> intros <;> omega), hJ⟩
      ·
        refine s_bipush (v := (-6)) E dX9_write_22 (by decide) ?_
        exact r_int E dX9_write_24 ⟨⟨by decide, by decide, by first | (left; decide) | (right; decide) | (right; have hb_ := z32 x1; omega), by first | (left; decide) | (right; decide) | (right; have hb_ := z32 x2; omega)⟩, (by have hrc_ : ((-6) : Int32).toInt = (-6) := (by decide); have k0_ : (0 : Int32).toInt = 0 := (by decide); have k1_ : (1 : Int32).toInt = 1 := (by decide); have k2_ : (2 : Int32).toInt = 2 := (by decide); have k3_ : (3 : Int32).toInt = 3 := (by decide); refine ⟨?_, ?_, ?_, ?_, ?_⟩ <;> intros <;> omega), hJ⟩
    ·
      refine s_aald105 (r := 67) E rfl (jv_lt hJ (by decide)) (vp_c (by decide)) (jv_r hJ (by decide +kernel)) dX9_write_15 ?_
      refine s_vI (As := []) (S := []) E (Z_X7_isBare_67 l D aC b w  hJ.1 ) cv_X9_279 rfl rfl rfl (jv_lt hJ (by decide)) (Nat.le_of_ble_eq_true rfl) (Nat.le_of_ble_eq_true rfl) ⟨(Nat.le_of_ble_eq_true rfl), (Nat.le_of_ble_eq_true rfl)⟩ (Nat.le_of_ble_eq_true rfl) dX9_write_16 (fun z_41 u_39 hp_40 => ?_)
      obtain ⟨hz_41, hxz_41, hp_40⟩ := hp_40
      subst hp_40
      refine z_if_eq (tgt := 25) (u := z_41.toInt) E dX9_write_19 (by decide) rfl (fun h_43 => ?_) (fun h_43 => ?_)
      ·
        refine s_iload_n E dX9_write_25 rfl rfl ?_
        refine z_if_lt (tgt := 42) (u := x2.toInt) E dX9_write_26 (by decide) rfl (fun h_44 => ?_) (fun h_44 => ?_)
        ·
          refine s_bipush (v := (-7)) E dX9_write_42 (by decide) ?_
          exact r_int E dX9_write_44 ⟨⟨by decide, by decide, by first | (left; decide) | (right; decide) | (right; have hb_ := z32 x1; omega), by first | (left; decide) | (right; decide) | (right; have hb_ := z32 x2; omega)⟩, (by have hrc_ : ((-7) : Int32).toInt = (-7) := (by decide); have k0_ : (0 : Int32).toInt = 0 := (by decide); have k1_ : (1 : Int32).toInt = 1 := (by decide); have k2_ : (2 : Int32).toInt = 2 := (by decide); have k3_ : (3 : Int32).toInt = 3 := (by decide); refine ⟨?_, ?_, ?_, ?_, ?_⟩ <;> intros <;> omega), hJ⟩
        ·
          refine s_iload_n E dX9_write_29 rfl rfl ?_
          refine s_aload_n E dX9_write_30 rfl rfl ?_
          refine s_gR (r := 60) E fg_X9_46 rfl rfl (jv_lt hJ (by decide)) (jv_r hJ (by decide +kernel)) dX9_write_31 ?_
          refine s_iload_n E dX9_write_34 rfl rfl ?_
          refine s_aald105 (r := 67) E rfl (jv_lt hJ (by decide)) (vp_c (by decide)) (jv_r hJ (by decide +kernel)) dX9_write_35 ?_
          refine s_gI E fg_X9_282 rfl rfl (jv_lt hJ (by decide)) dX9_write_36 ?_
          refine z_nm (P := fun z => z.toInt = (w.2.2.1 67 2).toInt ∧ (-1) ≤ z.toInt ∧ z.toInt ≤ 60) ⟨rfl, (rg_67_2 hJ)⟩ (fun z_45 hz_45 => ?_)
          refine z_icmp_lt (tgt := 45) (u := x2.toInt) (v := z_45.toInt) E dX9_write_39 (by decide) rfl rfl (fun h_46 => ?_) (fun h_46 => ?_)
          ·
            refine s_aload_n E dX9_write_45 rfl rfl ?_
            refine s_gR (r := 60) E fg_X9_46 rfl rfl (jv_lt hJ (by decide)) (jv_r hJ (by decide +kernel)) dX9_write_46 ?_
            refine s_iload_n E dX9_write_49 rfl rfl ?_
            refine s_aald105 (r := 67) E rfl (jv_lt hJ (by decide)) (vp_c (by decide)) (jv_r hJ (by decide +kernel)) dX9_write_50 ?_
            refine s_iload_n E dX9_write_51 rfl rfl ?_
            refine s_lload_n E dX9_write_52 rfl rfl ?_
            refine s_vV (As := [AI x2, AL x3]) (S := []) E (Z_X7_put_67 l D aC b w x2 x3 hJ.1 ) cv_X9_429 rfl rfl rfl (jv_lt hJ (by decide)) (Nat.le_of_ble_eq_true rfl) (Nat.le_of_ble_eq_true rfl) ⟨(Nat.le_of_ble_eq_true rfl), (Nat.le_of_ble_eq_true rfl)⟩ (Nat.le_of_ble_eq_true rfl) dX9_write_53 (fun u_47 hp_48 => ?_)
            have hj_49 := jv_trans hJ hp_48
            refine s_iconst (v := 0) E dX9_write_56 (by decide) ?_
            exact r_int E dX9_write_57 ⟨⟨by decide, by decide, by first | (left; decide) | (right; decide) | (right; have hb_ := z32 x1; omega), by first | (left; decide) | (right; decide) | (right; have hb_ := z32 x2; omega)⟩, (by have hrc_ : (0 : Int32).toInt = 0 := (by decide); have k0_ : (0 : Int32).toInt = 0 := (by decide); have k1_ : (1 : Int32).toInt = 1 := (by decide); have k2_ : (2 : Int32).toInt = 2 := (by decide); have k3_ : (3 : Int32).toInt = 3 := (by decide); refine ⟨?_, ?_, ?_, ?_, ?_⟩ <;> intros <;> omega), hj_49⟩
          ·
            refine s_bipush (v := (-7)) E dX9_write_42 (by decide) ?_
            exact r_int E dX9_write_44 ⟨⟨by decide, by decide, by first | (left; decide) | (right; decide) | (right; have hb_ := z32 x1; omega), by first | (left; decide) | (right; decide) | (right; have hb_ := z32 x2; omega)⟩, (by have hrc_ : ((-7) : Int32).toInt = (-7) := (by decide); have k0_ : (0 : Int32).toInt = 0 := (by decide); have k1_ : (1 : Int32).toInt = 1 := (by decide); have k2_ : (2 : Int32).toInt = 2 := (by decide); have k3_ : (3 : Int32).toInt = 3 := (by decide); refine ⟨?_, ?_, ?_, ?_, ?_⟩ <;> intros <;> omega), hJ⟩
      ·
        refine s_bipush (v := (-6)) E dX9_write_22 (by decide) ?_
        exact r_int E dX9_write_24 ⟨⟨by decide, by decide, by first | (left; decide) | (right; decide) | (right; have hb_ := z32 x1; omega), by first | (left; decide) | (right; decide) | (right; have hb_ := z32 x2; omega)⟩, (by have hrc_ : ((-6) : Int32).toInt = (-6) := (by decide); have k0_ : (0 : Int32).toInt = 0 := (by decide); have k1_ : (1 : Int32).toInt = 1 := (by decide); have k2_ : (2 : Int32).toInt = 2 := (by decide); have k3_ : (3 : Int32).toInt = 3 := (by decide); refine ⟨?_, ?_, ?_, ?_, ?_⟩ <;> intros <;> omega), hJ⟩
  ·
    refine s_bipush (v := (-2)) E dX9_write_7 (by decide) ?_
    exact r_int E dX9_write_9 ⟨⟨by decide, by decide, by first | (left; decide) | (right; decide) | (right; have hb_ := z32 x1; omega), by first | (left; decide) | (right; decide) | (right; have hb_ := z32 x2; omega)⟩, (by have hrc_ : ((-2) : Int32).toInt = (-2) := (by decide); have k0_ : (0 : Int32).toInt = 0 := (by decide); have k1_ : (1 : Int32).toInt = 1 := (by decide); have k2_ : (2 : Int32).toInt = 2 := (by decide); have k3_ : (3 : Int32).toInt = 3 := (by decide); refine ⟨?_, ?_, ?_, ?_, ?_⟩ <;> intros <;> omega), hJ⟩
set_option maxRecDepth 20000 in
set_option maxHeartbeats 2000000 in
theorem Z_X7_hasStretch_61 (l : Launch) (D : va_G) (aC : Nat → ClassId) (b : Nat) (w : XW) (x1 : Int32) (x2 : Int32) (hI : Iv w)  : CnI l D aC b M_X7_hasStretch 0 0 0 0 [AR 61, AI x1, AI x2] w (fun r u => (0 ≤ r.toInt ∧ r.toInt ≤ 1 ∧ (r.toInt = 0 ∨ (0 ≤ x1.toInt ∧ x1.toInt ≤ 60)) ∧ (r.toInt = 0 ∨ (0 ≤ x2.toInt ∧ x2.toInt ≤ 60)) ∧ (r.toInt = 0 ∨ (0 ≤ (w.2.2.1 61 2).toInt ∧ (w.2.2.1 61 2).toInt ≤ 60))) ∧ ((r.toInt = 0 ∧ ¬ (0 ≤ x1.toInt ∧ 0 ≤ x2.toInt ∧ x1.toInt + x2.toInt ≤ (w.2.2.1 61 2).toInt)) ∨ (r.toInt = 1 ∧ 0 ≤ x1.toInt ∧ 0 ≤ x2.toInt ∧ x1.toInt + x2.toInt ≤ (w.2.2.1 61 2).toInt)) ∧ w = u) := by
  refine cn_I (own := RX7) (nm := "hasStretch") (L0 := [some (AR 61), some (AI x1), some (AI x2)]) (by decide +kernel) rfl rfl (Nat.le_of_ble_eq_true rfl) rfl ?_
  intro p e s m args below meth c E hin
  have hJ : Jv w w := jv_rfl hI
  have hb_x1 := z32 x1
  have hb_x2 := z32 x2
  refine s_iload_n E dX7_hasStretch_0 rfl rfl ?_
  refine z_if_lt (tgt := 30) (u := x1.toInt) E dX7_hasStretch_1 (by decide) rfl (fun h_1 => ?_) (fun h_1 => ?_)
  ·
    refine s_iconst (v := 0) E dX7_hasStretch_30 (by decide) ?_
    exact r_bool E dX7_hasStretch_31 (Or.inl rfl) ⟨⟨by decide, by decide, by first | (left; decide) | (right; decide) | (right; have hb_ := z32 x1; omega), by first | (left; decide) | (right; decide) | (right; have hb_ := z32 x2; omega), by first | (left; decide) | (right; decide) | (right; have hb_ := z32 (w.2.2.1 61 2); omega)⟩, (by have hrc_ : (0 : Int32).toInt = 0 := (by decide); omega), rfl⟩
  ·
    refine s_iload_n E dX7_hasStretch_4 rfl rfl ?_
    refine z_if_lt (tgt := 30) (u := x2.toInt) E dX7_hasStretch_5 (by decide) rfl (fun h_2 => ?_) (fun h_2 => ?_)
    ·
      refine s_iconst (v := 0) E dX7_hasStretch_30 (by decide) ?_
      exact r_bool E dX7_hasStretch_31 (Or.inl rfl) ⟨⟨by decide, by decide, by first | (left; decide) | (right; decide) | (right; have hb_ := z32 x1; omega), by first | (left; decide) | (right; decide) | (right; have hb_ := z32 x2; omega), by first | (left; decide) | (right; decide) | (right; have hb_ := z32 (w.2.2.1 61 2); omega)⟩, (by have hrc_ : (0 : Int32).toInt = 0 := (by decide); omega), rfl⟩
    ·
      refine s_iload_n E dX7_hasStretch_8 rfl rfl ?_
      refine s_aload_n E dX7_hasStretch_9 rfl rfl ?_
      refine s_gI E fg_X7_15 rfl rfl (jv_lt hJ (by decide)) dX7_hasStretch_10 ?_
      refine z_nm (P := fun z => z.toInt = (w.2.2.1 61 2).toInt ∧ (-1) ≤ z.toInt ∧ z.toInt ≤ 60) ⟨rfl, (rg_61_2 hJ)⟩ (fun z_3 hz_3 => ?_)
      refine z_icmp_gt (tgt := 30) (u := x1.toInt) (v := z_3.toInt) E dX7_hasStretch_13 (by decide) rfl rfl (fun h_4 => ?_) (fun h_4 => ?_)
      ·
        refine s_iconst (v := 0) E dX7_hasStretch_30 (by decide) ?_
        exact r_bool E dX7_hasStretch_31 (Or.inl rfl) ⟨⟨by decide, by decide, by first | (left; decide) | (right; decide) | (right; have hb_ := z32 x1; omega), by first | (left; decide) | (right; decide) | (right; have hb_ := z32 x2; omega), by first | (left; decide) | (right; decide) | (right; have hb_ := z32 (w.2.2.1 61 2); omega)⟩, (by have hrc_ : (0 : Int32).toInt = 0 := (by decide); omega), rfl⟩
      ·
        refine s_iload_n E dX7_hasStretch_16 rfl rfl ?_
        refine s_aload_n E dX7_hasStretch_17 rfl rfl ?_
        refine s_gI E fg_X7_15 rfl rfl (jv_lt hJ (by decide)) dX7_hasStretch_18 ?_
        refine z_nm (P := fun z => z.toInt = (w.2.2.1 61 2).toInt ∧ (-1) ≤ z.toInt ∧ z.toInt ≤ 60) ⟨rfl, (rg_61_2 hJ)⟩ (fun z_5 hz_5 => ?_)
        refine s_iload_n E dX7_hasStretch_21 rfl rfl ?_
        refine z_isub (u := z_5.toInt) (v := x1.toInt) E dX7_hasStretch_22 rfl rfl (by omega) (by omega) (fun z_6 hz_6 => ?_)
        refine z_icmp_gt (tgt := 30) (u := x2.toInt) (v := z_6.toInt) E dX7_hasStretch_23 (by decide) rfl rfl (fun h_7 => ?_) (fun h_7 => ?_)
        ·
          refine s_iconst (v := 0) E dX7_hasStretch_30 (by decide) ?_
          exact r_bool E dX7_hasStretch_31 (Or.inl rfl) ⟨⟨by decide, by decide, by first | (left; decide) | (right; decide) | (right; have hb_ := z32 x1; omega), by first | (left; decide) | (right; decide) | (right; have hb_ := z32 x2; omega), by first | (left; decide) | (right; decide) | (right; have hb_ := z32 (w.2.2.1 61 2); omega)⟩, (by have hrc_ : (0 : Int32).toInt = 0 := (by decide); omega), rfl⟩
        ·
          refine s_iconst (v := 1) E dX7_hasStretch_26 (by decide) ?_
          refine s_goto (tgt := 31) E dX7_hasStretch_27 (by decide) ?_
          exact r_bool E dX7_hasStretch_31 (Or.inr rfl) ⟨⟨by decide, by decide, by first | (left; decide) | (right; decide) | (right; have hb_ := z32 x1; omega), by first | (left; decide) | (right; decide) | (right; have hb_ := z32 x2; omega), by first | (left; decide) | (right; decide) | (right; have hb_ := z32 (w.2.2.1 61 2); omega)⟩, (by have hrc_ : (1 : Int32).toInt = 1 := (by decide); omega), rfl⟩
set_option maxRecDepth 20000 in
set_option maxHeartbeats 2000000 in
theorem Z_X7_hasStretch_63 (l : Launch) (D : va_G) (aC : Nat → ClassId) (b : Nat) (w : XW) (x1 : Int32) (x2 : Int32) (hI : Iv w)  : CnI l D aC b M_X7_hasStretch 0 0 0 0 [AR 63, AI x1, AI x2] w (fun r u => (0 ≤ r.toInt ∧ r.toInt ≤ 1 ∧ (r.toInt = 0 ∨ (0 ≤ x1.toInt ∧ x1.toInt ≤ 60)) ∧ (r.toInt = 0 ∨ (0 ≤ x2.toInt ∧ x2.toInt ≤ 60)) ∧ (r.toInt = 0 ∨ (0 ≤ (w.2.2.1 63 2).toInt ∧ (w.2.2.1 63 2).toInt ≤ 60))) ∧ ((r.toInt = 0 ∧ ¬ (0 ≤ x1.toInt ∧ 0 ≤ x2.toInt ∧ x1.toInt + x2.toInt ≤ (w.2.2.1 63 2).toInt)) ∨ (r.toInt = 1 ∧ 0 ≤ x1.toInt ∧ 0 ≤ x2.toInt ∧ x1.toInt + x2.toInt ≤ (w.2.2.1 63 2).toInt)) ∧ w = u) := by
  refine cn_I (own := RX7) (nm := "hasStretch") (L0 := [some (AR 63), some (AI x1), some (AI x2)]) (by decide +kernel) rfl rfl (Nat.le_of_ble_eq_true rfl) rfl ?_
  intro p e s m args below meth c E hin
  have hJ : Jv w w := jv_rfl hI
  have hb_x1 := z32 x1
  have hb_x2 := z32 x2
  refine s_iload_n E dX7_hasStretch_0 rfl rfl ?_
  refine z_if_lt (tgt := 30) (u := x1.toInt) E dX7_hasStretch_1 (by decide) rfl (fun h_1 => ?_) (fun h_1 => ?_)
  ·
    refine s_iconst (v := 0) E dX7_hasStretch_30 (by decide) ?_
    exact r_bool E dX7_hasStretch_31 (Or.inl rfl) ⟨⟨by decide, by decide, by first | (left; decide) | (right; decide) | (right; have hb_ := z32 x1; omega), by first | (left; decide) | (right; decide) | (right; have hb_ := z32 x2; omega), by first | (left; decide) | (right; decide) | (right; have hb_ := z32 (w.2.2.1 63 2); omega)⟩, (by have hrc_ : (0 : Int32).toInt = 0 := (by decide); omega), rfl⟩
  ·
    refine s_iload_n E dX7_hasStretch_4 rfl rfl ?_
    refine z_if_lt (tgt := 30) (u := x2.toInt) E dX7_hasStretch_5 (by decide) rfl (fun h_2 => ?_) (fun h_2 => ?_)
    ·
      refine s_iconst (v := 0) E dX7_hasStretch_30 (by decide) ?_
      exact r_bool E dX7_hasStretch_31 (Or.inl rfl) ⟨⟨by decide, by decide, by first | (left; decide) | (right; decide) | (right; have hb_ := z32 x1; omega), by first | (left; decide) | (right; decide) | (right; have hb_ := z32 x2; omega), by first | (left; decide) | (right; decide) | (right; have hb_ := z32 (w.2.2.1 63 2); omega)⟩, (by have hrc_ : (0 : Int32).toInt = 0 := (by decide); omega), rfl⟩
    ·
      refine s_iload_n E dX7_hasStretch_8 rfl rfl ?_
      refine s_aload_n E dX7_hasStretch_9 rfl rfl ?_
      refine s_gI E fg_X7_15 rfl rfl (jv_lt hJ (by decide)) dX7_hasStretch_10 ?_
      refine z_nm (P := fun z => z.toInt = (w.2.2.1 63 2).toInt ∧ (-1) ≤ z.toInt ∧ z.toInt ≤ 60) ⟨rfl, (rg_63_2 hJ)⟩ (fun z_3 hz_3 => ?_)
      refine z_icmp_gt (tgt := 30) (u := x1.toInt) (v := z_3.toInt) E dX7_hasStretch_13 (by decide) rfl rfl (fun h_4 => ?_) (fun h_4 => ?_)
      ·
        refine s_iconst (v := 0) E dX7_hasStretch_30 (by decide) ?_
        exact r_bool E dX7_hasStretch_31 (Or.inl rfl) ⟨⟨by decide, by decide, by first | (left; decide) | (right; decide) | (right; have hb_ := z32 x1; omega), by first | (left; decide) | (right; decide) | (right; have hb_ := z32 x2; omega), by first | (left; decide) | (right; decide) | (right; have hb_ := z32 (w.2.2.1 63 2); omega)⟩, (by have hrc_ : (0 : Int32).toInt = 0 := (by decide); omega), rfl⟩
      ·
        refine s_iload_n E dX7_hasStretch_16 rfl rfl ?_
        refine s_aload_n E dX7_hasStretch_17 rfl rfl ?_
        refine s_gI E fg_X7_15 rfl rfl (jv_lt hJ (by decide)) dX7_hasStretch_18 ?_
        refine z_nm (P := fun z => z.toInt = (w.2.2.1 63 2).toInt ∧ (-1) ≤ z.toInt ∧ z.toInt ≤ 60) ⟨rfl, (rg_63_2 hJ)⟩ (fun z_5 hz_5 => ?_)
        refine s_iload_n E dX7_hasStretch_21 rfl rfl ?_
        refine z_isub (u := z_5.toInt) (v := x1.toInt) E dX7_hasStretch_22 rfl rfl (by omega) (by omega) (fun z_6 hz_6 => ?_)
        refine z_icmp_gt (tgt := 30) (u := x2.toInt) (v := z_6.toInt) E dX7_hasStretch_23 (by decide) rfl rfl (fun h_7 => ?_) (fun h_7 => ?_)
        ·
          refine s_iconst (v := 0) E dX7_hasStretch_30 (by decide) ?_
          exact r_bool E dX7_hasStretch_31 (Or.inl rfl) ⟨⟨by decide, by decide, by first | (left; decide) | (right; decide) | (right; have hb_ := z32 x1; omega), by first | (left; decide) | (right; decide) | (right; have hb_ := z32 x2; omega), by first | (left; decide) | (right; decide) | (right; have hb_ := z32 (w.2.2.1 63 2); omega)⟩, (by have hrc_ : (0 : Int32).toInt = 0 := (by decide); omega), rfl⟩
        ·
          refine s_iconst (v := 1) E dX7_hasStretch_26 (by decide) ?_
          refine s_goto (tgt := 31) E dX7_hasStretch_27 (by decide) ?_
          exact r_bool E dX7_hasStretch_31 (Or.inr rfl) ⟨⟨by decide, by decide, by first | (left; decide) | (right; decide) | (right; have hb_ := z32 x1; omega), by first | (left; decide) | (right; decide) | (right; have hb_ := z32 x2; omega), by first | (left; decide) | (right; decide) | (right; have hb_ := z32 (w.2.2.1 63 2); omega)⟩, (by have hrc_ : (1 : Int32).toInt = 1 := (by decide); omega), rfl⟩
set_option maxRecDepth 20000 in
set_option maxHeartbeats 2000000 in
theorem Z_X7_hasStretch_65 (l : Launch) (D : va_G) (aC : Nat → ClassId) (b : Nat) (w : XW) (x1 : Int32) (x2 : Int32) (hI : Iv w)  : CnI l D aC b M_X7_hasStretch 0 0 0 0 [AR 65, AI x1, AI x2] w (fun r u => (0 ≤ r.toInt ∧ r.toInt ≤ 1 ∧ (r.toInt = 0 ∨ (0 ≤ x1.toInt ∧ x1.toInt ≤ 60)) ∧ (r.toInt = 0 ∨ (0 ≤ x2.toInt ∧ x2.toInt ≤ 60)) ∧ (r.toInt = 0 ∨ (0 ≤ (w.2.2.1 65 2).toInt ∧ (w.2.2.1 65 2).toInt ≤ 60))) ∧ ((r.toInt = 0 ∧ ¬ (0 ≤ x1.toInt ∧ 0 ≤ x2.toInt ∧ x1.toInt + x2.toInt ≤ (w.2.2.1 65 2).toInt)) ∨ (r.toInt = 1 ∧ 0 ≤ x1.toInt ∧ 0 ≤ x2.toInt ∧ x1.toInt + x2.toInt ≤ (w.2.2.1 65 2).toInt)) ∧ w = u) := by
  refine cn_I (own := RX7) (nm := "hasStretch") (L0 := [some (AR 65), some (AI x1), some (AI x2)]) (by decide +kernel) rfl rfl (Nat.le_of_ble_eq_true rfl) rfl ?_
  intro p e s m args below meth c E hin
  have hJ : Jv w w := jv_rfl hI
  have hb_x1 := z32 x1
  have hb_x2 := z32 x2
  refine s_iload_n E dX7_hasStretch_0 rfl rfl ?_
  refine z_if_lt (tgt := 30) (u := x1.toInt) E dX7_hasStretch_1 (by decide) rfl (fun h_1 => ?_) (fun h_1 => ?_)
  ·
    refine s_iconst (v := 0) E dX7_hasStretch_30 (by decide) ?_
    exact r_bool E dX7_hasStretch_31 (Or.inl rfl) ⟨⟨by decide, by decide, by first | (left; decide) | (right; decide) | (right; have hb_ := z32 x1; omega), by first | (left; decide) | (right; decide) | (right; have hb_ := z32 x2; omega), by first | (left; decide) | (right; decide) | (right; have hb_ := z32 (w.2.2.1 65 2); omega)⟩, (by have hrc_ : (0 : Int32).toInt = 0 := (by decide); omega), rfl⟩
  ·
    refine s_iload_n E dX7_hasStretch_4 rfl rfl ?_
    refine z_if_lt (tgt := 30) (u := x2.toInt) E dX7_hasStretch_5 (by decide) rfl (fun h_2 => ?_) (fun h_2 => ?_)
    ·
      refine s_iconst (v := 0) E dX7_hasStretch_30 (by decide) ?_
      exact r_bool E dX7_hasStretch_31 (Or.inl rfl) ⟨⟨by decide, by decide, by first | (left; decide) | (right; decide) | (right; have hb_ := z32 x1; omega), by first | (left; decide) | (right; decide) | (right; have hb_ := z32 x2; omega), by first | (left; decide) | (right; decide) | (right; have hb_ := z32 (w.2.2.1 65 2); omega)⟩, (by have hrc_ : (0 : Int32).toInt = 0 := (by decide); omega), rfl⟩
    ·
      refine s_iload_n E dX7_hasStretch_8 rfl rfl ?_
      refine s_aload_n E dX7_hasStretch_9 rfl rfl ?_
      refine s_gI E fg_X7_15 rfl rfl (jv_lt hJ (by decide)) dX7_hasStretch_10 ?_
      refine z_nm (P := fun z => z.toInt = (w.2.2.1 65 2).toInt ∧ (-1) ≤ z.toInt ∧ z.toInt ≤ 60) ⟨rfl, (rg_65_2 hJ)⟩ (fun z_3 hz_3 => ?_)
      refine z_icmp_gt (tgt := 30) (u := x1.toInt) (v := z_3.toInt) E dX7_hasStretch_13 (by decide) rfl rfl (fun h_4 => ?_) (fun h_4 => ?_)
      ·
        refine s_iconst (v := 0) E dX7_hasStretch_30 (by decide) ?_
        exact r_bool E dX7_hasStretch_31 (Or.inl rfl) ⟨⟨by decide, by decide, by first | (left; decide) | (right; decide) | (right; have hb_ := z32 x1; omega), by first | (left; decide) | (right; decide) | (right; have hb_ := z32 x2; omega), by first | (left; decide) | (right; decide) | (right; have hb_ := z32 (w.2.2.1 65 2); omega)⟩, (by have hrc_ : (0 : Int32).toInt = 0 := (by decide); omega), rfl⟩
      ·
        refine s_iload_n E dX7_hasStretch_16 rfl rfl ?_
        refine s_aload_n E dX7_hasStretch_17 rfl rfl ?_
        refine s_gI E fg_X7_15 rfl rfl (jv_lt hJ (by decide)) dX7_hasStretch_18 ?_
        refine z_nm (P := fun z => z.toInt = (w.2.2.1 65 2).toInt ∧ (-1) ≤ z.toInt ∧ z.toInt ≤ 60) ⟨rfl, (rg_65_2 hJ)⟩ (fun z_5 hz_5 => ?_)
        refine s_iload_n E dX7_hasStretch_21 rfl rfl ?_
        refine z_isub (u := z_5.toInt) (v := x1.toInt) E dX7_hasStretch_22 rfl rfl (by omega) (by omega) (fun z_6 hz_6 => ?_)
        refine z_icmp_gt (tgt := 30) (u := x2.toInt) (v := z_6.toInt) E dX7_hasStretch_23 (by decide) rfl rfl (fun h_7 => ?_) (fun h_7 => ?_)
        ·
          refine s_iconst (v := 0) E dX7_hasStretch_30 (by decide) ?_
          exact r_bool E dX7_hasStretch_31 (Or.inl rfl) ⟨⟨by decide, by decide, by first | (left; decide) | (right; decide) | (right; have hb_ := z32 x1; omega), by first | (left; decide) | (right; decide) | (right; have hb_ := z32 x2; omega), by first | (left; decide) | (right; decide) | (right; have hb_ := z32 (w.2.2.1 65 2); omega)⟩, (by have hrc_ : (0 : Int32).toInt = 0 := (by decide); omega), rfl⟩
        ·
          refine s_iconst (v := 1) E dX7_hasStretch_26 (by decide) ?_
          refine s_goto (tgt := 31) E dX7_hasStretch_27 (by decide) ?_
          exact r_bool E dX7_hasStretch_31 (Or.inr rfl) ⟨⟨by decide, by decide, by first | (left; decide) | (right; decide) | (right; have hb_ := z32 x1; omega), by first | (left; decide) | (right; decide) | (right; have hb_ := z32 x2; omega), by first | (left; decide) | (right; decide) | (right; have hb_ := z32 (w.2.2.1 65 2); omega)⟩, (by have hrc_ : (1 : Int32).toInt = 1 := (by decide); omega), rfl⟩
set_option maxRecDepth 20000 in
set_option maxHeartbeats 2000000 in
theorem Z_X7_hasStretch_67 (l : Launch) (D : va_G) (aC : Nat → ClassId) (b : Nat) (w : XW) (x1 : Int32) (x2 : Int32) (hI : Iv w)  : CnI l D aC b M_X7_hasStretch 0 0 0 0 [AR 67, AI x1, AI x2] w (fun r u => (0 ≤ r.toInt ∧ r.toInt ≤ 1 ∧ (r.toInt = 0 ∨ (0 ≤ x1.toInt ∧ x1.toInt ≤ 60)) ∧ (r.toInt = 0 ∨ (0 ≤ x2.toInt ∧ x2.toInt ≤ 60)) ∧ (r.toInt = 0 ∨ (0 ≤ (w.2.2.1 67 2).toInt ∧ (w.2.2.1 67 2).toInt ≤ 60))) ∧ ((r.toInt = 0 ∧ ¬ (0 ≤ x1.toInt ∧ 0 ≤ x2.toInt ∧ x1.toInt + x2.toInt ≤ (w.2.2.1 67 2).toInt)) ∨ (r.toInt = 1 ∧ 0 ≤ x1.toInt ∧ 0 ≤ x2.toInt ∧ x1.toInt + x2.toInt ≤ (w.2.2.1 67 2).toInt)) ∧ w = u) := by
  refine cn_I (own := RX7) (nm := "hasStretch") (L0 := [some (AR 67), some (AI x1), some (AI x2)]) (by decide +kernel) rfl rfl (Nat.le_of_ble_eq_true rfl) rfl ?_
  intro p e s m args below meth c E hin
  have hJ : Jv w w := jv_rfl hI
  have hb_x1 := z32 x1
  have hb_x2 := z32 x2
  refine s_iload_n E dX7_hasStretch_0 rfl rfl ?_
  refine z_if_lt (tgt := 30) (u := x1.toInt) E dX7_hasStretch_1 (by decide) rfl (fun h_1 => ?_) (fun h_1 => ?_)
  ·
    refine s_iconst (v := 0) E dX7_hasStretch_30 (by decide) ?_
    exact r_bool E dX7_hasStretch_31 (Or.inl rfl) ⟨⟨by decide, by decide, by first | (left; decide) | (right; decide) | (right; have hb_ := z32 x1; omega), by first | (left; decide) | (right; decide) | (right; have hb_ := z32 x2; omega), by first | (left; decide) | (right; decide) | (right; have hb_ := z32 (w.2.2.1 67 2); omega)⟩, (by have hrc_ : (0 : Int32).toInt = 0 := (by decide); omega), rfl⟩
  ·
    refine s_iload_n E dX7_hasStretch_4 rfl rfl ?_
    refine z_if_lt (tgt := 30) (u := x2.toInt) E dX7_hasStretch_5 (by decide) rfl (fun h_2 => ?_) (fun h_2 => ?_)
    ·
      refine s_iconst (v := 0) E dX7_hasStretch_30 (by decide) ?_
      exact r_bool E dX7_hasStretch_31 (Or.inl rfl) ⟨⟨by decide, by decide, by first | (left; decide) | (right; decide) | (right; have hb_ := z32 x1; omega), by first | (left; decide) | (right; decide) | (right; have hb_ := z32 x2; omega), by first | (left; decide) | (right; decide) | (right; have hb_ := z32 (w.2.2.1 67 2); omega)⟩, (by have hrc_ : (0 : Int32).toInt = 0 := (by decide); omega), rfl⟩
    ·
      refine s_iload_n E dX7_hasStretch_8 rfl rfl ?_
      refine s_aload_n E dX7_hasStretch_9 rfl rfl ?_
      refine s_gI E fg_X7_15 rfl rfl (jv_lt hJ (by decide)) dX7_hasStretch_10 ?_
      refine z_nm (P := fun z => z.toInt = (w.2.2.1 67 2).toInt ∧ (-1) ≤ z.toInt ∧ z.toInt ≤ 60) ⟨rfl, (rg_67_2 hJ)⟩ (fun z_3 hz_3 => ?_)
      refine z_icmp_gt (tgt := 30) (u := x1.toInt) (v := z_3.toInt) E dX7_hasStretch_13 (by decide) rfl rfl (fun h_4 => ?_) (fun h_4 => ?_)
      ·
        refine s_iconst (v := 0) E dX7_hasStretch_30 (by decide) ?_
        exact r_bool E dX7_hasStretch_31 (Or.inl rfl) ⟨⟨by decide, by decide, by first | (left; decide) | (right; decide) | (right; have hb_ := z32 x1; omega), by first | (left; decide) | (right; decide) | (right; have hb_ := z32 x2; omega), by first | (left; decide) | (right; decide) | (right; have hb_ := z32 (w.2.2.1 67 2); omega)⟩, (by have hrc_ : (0 : Int32).toInt = 0 := (by decide); omega), rfl⟩
      ·
        refine s_iload_n E dX7_hasStretch_16 rfl rfl ?_
        refine s_aload_n E dX7_hasStretch_17 rfl rfl ?_
        refine s_gI E fg_X7_15 rfl rfl (jv_lt hJ (by decide)) dX7_hasStretch_18 ?_
        refine z_nm (P := fun z => z.toInt = (w.2.2.1 67 2).toInt ∧ (-1) ≤ z.toInt ∧ z.toInt ≤ 60) ⟨rfl, (rg_67_2 hJ)⟩ (fun z_5 hz_5 => ?_)
        refine s_iload_n E dX7_hasStretch_21 rfl rfl ?_
        refine z_isub (u := z_5.toInt) (v := x1.toInt) E dX7_hasStretch_22 rfl rfl (by omega) (by omega) (fun z_6 hz_6 => ?_)
        refine z_icmp_gt (tgt := 30) (u := x2.toInt) (v := z_6.toInt) E dX7_hasStretch_23 (by decide) rfl rfl (fun h_7 => ?_) (fun h_7 => ?_)
        ·
          refine s_iconst (v := 0) E dX7_hasStretch_30 (by decide) ?_
          exact r_bool E dX7_hasStretch_31 (Or.inl rfl) ⟨⟨by decide, by decide, by first | (left; decide) | (right; decide) | (right; have hb_ := z32 x1; omega), by first | (left; decide) | (right; decide) | (right; have hb_ := z32 x2; omega), by first | (left; decide) | (right; decide) | (right; have hb_ := z32 (w.2.2.1 67 2); omega)⟩, (by have hrc_ : (0 : Int32).toInt = 0 := (by decide); omega), rfl⟩
        ·
          refine s_iconst (v := 1) E dX7_hasStretch_26 (by decide) ?_
          refine s_goto (tgt := 31) E dX7_hasStretch_27 (by decide) ?_
          exact r_bool E dX7_hasStretch_31 (Or.inr rfl) ⟨⟨by decide, by decide, by first | (left; decide) | (right; decide) | (right; have hb_ := z32 x1; omega), by first | (left; decide) | (right; decide) | (right; have hb_ := z32 x2; omega), by first | (left; decide) | (right; decide) | (right; have hb_ := z32 (w.2.2.1 67 2); omega)⟩, (by have hrc_ : (1 : Int32).toInt = 1 := (by decide); omega), rfl⟩
set_option maxRecDepth 20000 in
set_option maxHeartbeats 2000000 in
theorem Z_X9_paste_0 (l : Launch) (D : va_G) (aC : Nat → ClassId) (b : Nat) (w : XW) (x1 : Int32) (x2 : Int32) (x3 : Int32) (x4 : Int32) (x5 : Int32) (hI : Iv w)  : CnI l D aC b M_X9_paste 1 60 0 0 [AR 0, AI x1, AI x2, AI x3, AI x4, AI x5] w (fun r u => ((-8) ≤ r.toInt ∧ r.toInt ≤ 0 ∧ (¬ r.toInt = 0 ∨ (0 ≤ x1.toInt ∧ x1.toInt ≤ 3)) ∧ (¬ r.toInt = 0 ∨ (0 ≤ x2.toInt ∧ x2.toInt ≤ 60)) ∧ (¬ r.toInt = 0 ∨ (0 ≤ x3.toInt ∧ x3.toInt ≤ 3)) ∧ (¬ r.toInt = 0 ∨ (0 ≤ x4.toInt ∧ x4.toInt ≤ 60)) ∧ (¬ r.toInt = 0 ∨ (0 ≤ x5.toInt ∧ x5.toInt ≤ 60))) ∧ ((¬ ((0 ≤ x1.toInt ∧ x1.toInt ≤ 3) ∧ 0 ≤ x3.toInt ∧ x3.toInt ≤ 3) → r.toInt = -2) ∧ (x1.toInt = 0 → x3.toInt = 0 → (((w.2.2.1 61 2).toInt < 0 ∨ (w.2.2.1 61 2).toInt < 0) ∧ r.toInt = -6) ∨ (0 ≤ (w.2.2.1 61 2).toInt ∧ 0 ≤ (w.2.2.1 61 2).toInt ∧ ((¬ (w.2.2.1 61 1).toInt = (w.2.2.1 61 1).toInt ∧ r.toInt = -8) ∨ ((w.2.2.1 61 1).toInt = (w.2.2.1 61 1).toInt ∧ ((¬ (0 ≤ x2.toInt ∧ 0 ≤ x5.toInt ∧ x2.toInt + x5.toInt ≤ (w.2.2.1 61 2).toInt ∧ 0 ≤ x4.toInt ∧ x4.toInt + x5.toInt ≤ (w.2.2.1 61 2).toInt) ∧ r.toInt = -7) ∨ ((0 ≤ x2.toInt ∧ 0 ≤ x5.toInt ∧ x2.toInt + x5.toInt ≤ (w.2.2.1 61 2).toInt ∧ 0 ≤ x4.toInt ∧ x4.toInt + x5.toInt ≤ (w.2.2.1 61 2).toInt) ∧ r.toInt = 0)))))) ∧ (x1.toInt = 0 → x3.toInt = 1 → (((w.2.2.1 61 2).toInt < 0 ∨ (w.2.2.1 63 2).toInt < 0) ∧ r.toInt = -6) ∨ (0 ≤ (w.2.2.1 61 2).toInt ∧ 0 ≤ (w.2.2.1 63 2).toInt ∧ ((¬ (w.2.2.1 61 1).toInt = (w.2.2.1 63 1).toInt ∧ r.toInt = -8) ∨ ((w.2.2.1 61 1).toInt = (w.2.2.1 63 1).toInt ∧ ((¬ (0 ≤ x2.toInt ∧ 0 ≤ x5.toInt ∧ x2.toInt + x5.toInt ≤ (w.2.2.1 61 2).toInt ∧ 0 ≤ x4.toInt ∧ x4.toInt + x5.toInt ≤ (w.2.2.1 63 2).toInt) ∧ r.toInt = -7) ∨ ((0 ≤ x2.toInt ∧ 0 ≤ x5.toInt ∧ x2.toInt + x5.toInt ≤ (w.2.2.1 61 2).toInt ∧ 0 ≤ x4.toInt ∧ x4.toInt + x5.toInt ≤ (w.2.2.1 63 2).toInt) ∧ r.toInt = 0)))))) ∧ (x1.toInt = 0 → x3.toInt = 2 → (((w.2.2.1 61 2).toInt < 0 ∨ (w.2.2.1 65 2).toInt < 0) ∧ r.toInt = -6) ∨ (0 ≤ (w.2.2.1 61 2).toInt ∧ 0 ≤ (w.2.2.1 65 2).toInt ∧ ((¬ (w.2.2.1 61 1).toInt = (w.2.2.1 65 1).toInt ∧ r.toInt = -8) ∨ ((w.2.2.1 61 1).toInt = (w.2.2.1 65 1).toInt ∧ ((¬ (0 ≤ x2.toInt ∧ 0 ≤ x5.toInt ∧ x2.toInt + x5.toInt ≤ (w.2.2.1 61 2).toInt ∧ 0 ≤ x4.toInt ∧ x4.toInt + x5.toInt ≤ (w.2.2.1 65 2).toInt) ∧ r.toInt = -7) ∨ ((0 ≤ x2.toInt ∧ 0 ≤ x5.toInt ∧ x2.toInt + x5.toInt ≤ (w.2.2.1 61 2).toInt ∧ 0 ≤ x4.toInt ∧ x4.toInt + x5.toInt ≤ (w.2.2.1 65 2).toInt) ∧ r.toInt = 0)))))) ∧ (x1.toInt = 0 → x3.toInt = 3 → (((w.2.2.1 61 2).toInt < 0 ∨ (w.2.2.1 67 2).toInt < 0) ∧ r.toInt = -6) ∨ (0 ≤ (w.2.2.1 61 2).toInt ∧ 0 ≤ (w.2.2.1 67 2).toInt ∧ ((¬ (w.2.2.1 61 1).toInt = (w.2.2.1 67 1).toInt ∧ r.toInt = -8) ∨ ((w.2.2.1 61 1).toInt = (w.2.2.1 67 1).toInt ∧ ((¬ (0 ≤ x2.toInt ∧ 0 ≤ x5.toInt ∧ x2.toInt + x5.toInt ≤ (w.2.2.1 61 2).toInt ∧ 0 ≤ x4.toInt ∧ x4.toInt + x5.toInt ≤ (w.2.2.1 67 2).toInt) ∧ r.toInt = -7) ∨ ((0 ≤ x2.toInt ∧ 0 ≤ x5.toInt ∧ x2.toInt + x5.toInt ≤ (w.2.2.1 61 2).toInt ∧ 0 ≤ x4.toInt ∧ x4.toInt + x5.toInt ≤ (w.2.2.1 67 2).toInt) ∧ r.toInt = 0)))))) ∧ (x1.toInt = 1 → x3.toInt = 0 → (((w.2.2.1 63 2).toInt < 0 ∨ (w.2.2.1 61 2).toInt < 0) ∧ r.toInt = -6) ∨ (0 ≤ (w.2.2.1 63 2).toInt ∧ 0 ≤ (w.2.2.1 61 2).toInt ∧ ((¬ (w.2.2.1 63 1).toInt = (w.2.2.1 61 1).toInt ∧ r.toInt = -8) ∨ ((w.2.2.1 63 1).toInt = (w.2.2.1 61 1).toInt ∧ ((¬ (0 ≤ x2.toInt ∧ 0 ≤ x5.toInt ∧ x2.toInt + x5.toInt ≤ (w.2.2.1 63 2).toInt ∧ 0 ≤ x4.toInt ∧ x4.toInt + x5.toInt ≤ (w.2.2.1 61 2).toInt) ∧ r.toInt = -7) ∨ ((0 ≤ x2.toInt ∧ 0 ≤ x5.toInt ∧ x2.toInt + x5.toInt ≤ (w.2.2.1 63 2).toInt ∧ 0 ≤ x4.toInt ∧ x4.toInt + x5.toInt ≤ (w.2.2.1 61 2).toInt) ∧ r.toInt = 0)))))) ∧ (x1.toInt = 1 → x3.toInt = 1 → (((w.2.2.1 63 2).toInt < 0 ∨ (w.2.2.1 63 2).toInt < 0) ∧ r.toInt = -6) ∨ (0 ≤ (w.2.2.1 63 2).toInt ∧ 0 ≤ (w.2.2.1 63 2).toInt ∧ ((¬ (w.2.2.1 63 1).toInt = (w.2.2.1 63 1).toInt ∧ r.toInt = -8) ∨ ((w.2.2.1 63 1).toInt = (w.2.2.1 63 1).toInt ∧ ((¬ (0 ≤ x2.toInt ∧ 0 ≤ x5.toInt ∧ x2.toInt + x5.toInt ≤ (w.2.2.1 63 2).toInt ∧ 0 ≤ x4.toInt ∧ x4.toInt + x5.toInt ≤ (w.2.2.1 63 2).toInt) ∧ r.toInt = -7) ∨ ((0 ≤ x2.toInt ∧ 0 ≤ x5.toInt ∧ x2.toInt + x5.toInt ≤ (w.2.2.1 63 2).toInt ∧ 0 ≤ x4.toInt ∧ x4.toInt + x5.toInt ≤ (w.2.2.1 63 2).toInt) ∧ r.toInt = 0)))))) ∧ (x1.toInt = 1 → x3.toInt = 2 → (((w.2.2.1 63 2).toInt < 0 ∨ (w.2.2.1 65 2).toInt < 0) ∧ r.toInt = -6) ∨ (0 ≤ (w.2.2.1 63 2).toInt ∧ 0 ≤ (w.2.2.1 65 2).toInt ∧ ((¬ (w.2.2.1 63 1).toInt = (w.2.2.1 65 1).toInt ∧ r.toInt = -8) ∨ ((w.2.2.1 63 1).toInt = (w.2.2.1 65 1).toInt ∧ ((¬ (0 ≤ x2.toInt ∧ 0 ≤ x5.toInt ∧ x2.toInt + x5.toInt ≤ (w.2.2.1 63 2).toInt ∧ 0 ≤ x4.toInt ∧ x4.toInt + x5.toInt ≤ (w.2.2.1 65 2).toInt) ∧ r.toInt = -7) ∨ ((0 ≤ x2.toInt ∧ 0 ≤ x5.toInt ∧ x2.toInt + x5.toInt ≤ (w.2.2.1 63 2).toInt ∧ 0 ≤ x4.toInt ∧ x4.toInt + x5.toInt ≤ (w.2.2.1 65 2).toInt) ∧ r.toInt = 0)))))) ∧ (x1.toInt = 1 → x3.toInt = 3 → (((w.2.2.1 63 2).toInt < 0 ∨ (w.2.2.1 67 2).toInt < 0) ∧ r.toInt = -6) ∨ (0 ≤ (w.2.2.1 63 2).toInt ∧ 0 ≤ (w.2.2.1 67 2).toInt ∧ ((¬ (w.2.2.1 63 1).toInt = (w.2.2.1 67 1).toInt ∧ r.toInt = -8) ∨ ((w.2.2.1 63 1).toInt = (w.2.2.1 67 1).toInt ∧ ((¬ (0 ≤ x2.toInt ∧ 0 ≤ x5.toInt ∧ x2.toInt + x5.toInt ≤ (w.2.2.1 63 2).toInt ∧ 0 ≤ x4.toInt ∧ x4.toInt + x5.toInt ≤ (w.2.2.1 67 2).toInt) ∧ r.toInt = -7) ∨ ((0 ≤ x2.toInt ∧ 0 ≤ x5.toInt ∧ x2.toInt + x5.toInt ≤ (w.2.2.1 63 2).toInt ∧ 0 ≤ x4.toInt ∧ x4.toInt + x5.toInt ≤ (w.2.2.1 67 2).toInt) ∧ r.toInt = 0)))))) ∧ (x1.toInt = 2 → x3.toInt = 0 → (((w.2.2.1 65 2).toInt < 0 ∨ (w.2.2.1 61 2).toInt < 0) ∧ r.toInt = -6) ∨ (0 ≤ (w.2.2.1 65 2).toInt ∧ 0 ≤ (w.2.2.1 61 2).toInt ∧ ((¬ (w.2.2.1 65 1).toInt = (w.2.2.1 61 1).toInt ∧ r.toInt = -8) ∨ ((w.2.2.1 65 1).toInt = (w.2.2.1 61 1).toInt ∧ ((¬ (0 ≤ x2.toInt ∧ 0 ≤ x5.toInt ∧ x2.toInt + x5.toInt ≤ (w.2.2.1 65 2).toInt ∧ 0 ≤ x4.toInt ∧ x4.toInt + x5.toInt ≤ (w.2.2.1 61 2).toInt) ∧ r.toInt = -7) ∨ ((0 ≤ x2.toInt ∧ 0 ≤ x5.toInt ∧ x2.toInt + x5.toInt ≤ (w.2.2.1 65 2).toInt ∧ 0 ≤ x4.toInt ∧ x4.toInt + x5.toInt ≤ (w.2.2.1 61 2).toInt) ∧ r.toInt = 0)))))) ∧ (x1.toInt = 2 → x3.toInt = 1 → (((w.2.2.1 65 2).toInt < 0 ∨ (w.2.2.1 63 2).toInt < 0) ∧ r.toInt = -6) ∨ (0 ≤ (w.2.2.1 65 2).toInt ∧ 0 ≤ (w.2.2.1 63 2).toInt ∧ ((¬ (w.2.2.1 65 1).toInt = (w.2.2.1 63 1).toInt ∧ r.toInt = -8) ∨ ((w.2.2.1 65 1).toInt = (w.2.2.1 63 1).toInt ∧ ((¬ (0 ≤ x2.toInt ∧ 0 ≤ x5.toInt ∧ x2.toInt + x5.toInt ≤ (w.2.2.1 65 2).toInt ∧ 0 ≤ x4.toInt ∧ x4.toInt + x5.toInt ≤ (w.2.2.1 63 2).toInt) ∧ r.toInt = -7) ∨ ((0 ≤ x2.toInt ∧ 0 ≤ x5.toInt ∧ x2.toInt + x5.toInt ≤ (w.2.2.1 65 2).toInt ∧ 0 ≤ x4.toInt ∧ x4.toInt + x5.toInt ≤ (w.2.2.1 63 2).toInt) ∧ r.toInt = 0)))))) ∧ (x1.toInt = 2 → x3.toInt = 2 → (((w.2.2.1 65 2).toInt < 0 ∨ (w.2.2.1 65 2).toInt < 0) ∧ r.toInt = -6) ∨ (0 ≤ (w.2.2.1 65 2).toInt ∧ 0 ≤ (w.2.2.1 65 2).toInt ∧ ((¬ (w.2.2.1 65 1).toInt = (w.2.2.1 65 1).toInt ∧ r.toInt = -8) ∨ ((w.2.2.1 65 1).toInt = (w.2.2.1 65 1).toInt ∧ ((¬ (0 ≤ x2.toInt ∧ 0 ≤ x5.toInt ∧ x2.toInt + x5.toInt ≤ (w.2.2.1 65 2).toInt ∧ 0 ≤ x4.toInt ∧ x4.toInt + x5.toInt ≤ (w.2.2.1 65 2).toInt) ∧ r.toInt = -7) ∨ ((0 ≤ x2.toInt ∧ 0 ≤ x5.toInt ∧ x2.toInt + x5.toInt ≤ (w.2.2.1 65 2).toInt ∧ 0 ≤ x4.toInt ∧ x4.toInt + x5.toInt ≤ (w.2.2.1 65 2).toInt) ∧ r.toInt = 0)))))) ∧ (x1.toInt = 2 → x3.toInt = 3 → (((w.2.2.1 65 2).toInt < 0 ∨ (w.2.2.1 67 2).toInt < 0) ∧ r.toInt = -6) ∨ (0 ≤ (w.2.2.1 65 2).toInt ∧ 0 ≤ (w.2.2.1 67 2).toInt ∧ ((¬ (w.2.2.1 65 1).toInt = (w.2.2.1 67 1).toInt ∧ r.toInt = -8) ∨ ((w.2.2.1 65 1).toInt = (w.2.2.1 67 1).toInt ∧ ((¬ (0 ≤ x2.toInt ∧ 0 ≤ x5.toInt ∧ x2.toInt + x5.toInt ≤ (w.2.2.1 65 2).toInt ∧ 0 ≤ x4.toInt ∧ x4.toInt + x5.toInt ≤ (w.2.2.1 67 2).toInt) ∧ r.toInt = -7) ∨ ((0 ≤ x2.toInt ∧ 0 ≤ x5.toInt ∧ x2.toInt + x5.toInt ≤ (w.2.2.1 65 2).toInt ∧ 0 ≤ x4.toInt ∧ x4.toInt + x5.toInt ≤ (w.2.2.1 67 2).toInt) ∧ r.toInt = 0)))))) ∧ (x1.toInt = 3 → x3.toInt = 0 → (((w.2.2.1 67 2).toInt < 0 ∨ (w.2.2.1 61 2).toInt < 0) ∧ r.toInt = -6) ∨ (0 ≤ (w.2.2.1 67 2).toInt ∧ 0 ≤ (w.2.2.1 61 2).toInt ∧ ((¬ (w.2.2.1 67 1).toInt = (w.2.2.1 61 1).toInt ∧ r.toInt = -8) ∨ ((w.2.2.1 67 1).toInt = (w.2.2.1 61 1).toInt ∧ ((¬ (0 ≤ x2.toInt ∧ 0 ≤ x5.toInt ∧ x2.toInt + x5.toInt ≤ (w.2.2.1 67 2).toInt ∧ 0 ≤ x4.toInt ∧ x4.toInt + x5.toInt ≤ (w.2.2.1 61 2).toInt) ∧ r.toInt = -7) ∨ ((0 ≤ x2.toInt ∧ 0 ≤ x5.toInt ∧ x2.toInt + x5.toInt ≤ (w.2.2.1 67 2).toInt ∧ 0 ≤ x4.toInt ∧ x4.toInt + x5.toInt ≤ (w.2.2.1 61 2).toInt) ∧ r.toInt = 0)))))) ∧ (x1.toInt = 3 → x3.toInt = 1 → (((w.2.2.1 67 2).toInt < 0 ∨ (w.2.2.1 63 2).toInt < 0) ∧ r.toInt = -6) ∨ (0 ≤ (w.2.2.1 67 2).toInt ∧ 0 ≤ (w.2.2.1 63 2).toInt ∧ ((¬ (w.2.2.1 67 1).toInt = (w.2.2.1 63 1).toInt ∧ r.toInt = -8) ∨ ((w.2.2.1 67 1).toInt = (w.2.2.1 63 1).toInt ∧ ((¬ (0 ≤ x2.toInt ∧ 0 ≤ x5.toInt ∧ x2.toInt + x5.toInt ≤ (w.2.2.1 67 2).toInt ∧ 0 ≤ x4.toInt ∧ x4.toInt + x5.toInt ≤ (w.2.2.1 63 2).toInt) ∧ r.toInt = -7) ∨ ((0 ≤ x2.toInt ∧ 0 ≤ x5.toInt ∧ x2.toInt + x5.toInt ≤ (w.2.2.1 67 2).toInt ∧ 0 ≤ x4.toInt ∧ x4.toInt + x5.toInt ≤ (w.2.2.1 63 2).toInt) ∧ r.toInt = 0)))))) ∧ (x1.toInt = 3 → x3.toInt = 2 → (((w.2.2.1 67 2).toInt < 0 ∨ (w.2.2.1 65 2).toInt < 0) ∧ r.toInt = -6) ∨ (0 ≤ (w.2.2.1 67 2).toInt ∧ 0 ≤ (w.2.2.1 65 2).toInt ∧ ((¬ (w.2.2.1 67 1).toInt = (w.2.2.1 65 1).toInt ∧ r.toInt = -8) ∨ ((w.2.2.1 67 1).toInt = (w.2.2.1 65 1).toInt ∧ ((¬ (0 ≤ x2.toInt ∧ 0 ≤ x5.toInt ∧ x2.toInt + x5.toInt ≤ (w.2.2.1 67 2).toInt ∧ 0 ≤ x4.toInt ∧ x4.toInt + x5.toInt ≤ (w.2.2.1 65 2).toInt) ∧ r.toInt = -7) ∨ ((0 ≤ x2.toInt ∧ 0 ≤ x5.toInt ∧ x2.toInt + x5.toInt ≤ (w.2.2.1 67 2).toInt ∧ 0 ≤ x4.toInt ∧ x4.toInt + x5.toInt ≤ (w.2.2.1 65 2).toInt) ∧ r.toInt = 0)))))) ∧ (x1.toInt = 3 → x3.toInt = 3 → (((w.2.2.1 67 2).toInt < 0 ∨ (w.2.2.1 67 2).toInt < 0) ∧ r.toInt = -6) ∨ (0 ≤ (w.2.2.1 67 2).toInt ∧ 0 ≤ (w.2.2.1 67 2).toInt ∧ ((¬ (w.2.2.1 67 1).toInt = (w.2.2.1 67 1).toInt ∧ r.toInt = -8) ∨ ((w.2.2.1 67 1).toInt = (w.2.2.1 67 1).toInt ∧ ((¬ (0 ≤ x2.toInt ∧ 0 ≤ x5.toInt ∧ x2.toInt + x5.toInt ≤ (w.2.2.1 67 2).toInt ∧ 0 ≤ x4.toInt ∧ x4.toInt + x5.toInt ≤ (w.2.2.1 67 2).toInt) ∧ r.toInt = -7) ∨ ((0 ≤ x2.toInt ∧ 0 ≤ x5.toInt ∧ x2.toInt + x5.toInt ≤ (w.2.2.1 67 2).toInt ∧ 0 ≤ x4.toInt ∧ x4.toInt + x5.toInt ≤ (w.2.2.1 67 2).toInt) ∧ r.toInt = 0))))))) ∧ Jv w u) := by
  refine cn_I (own := RX9) (nm := "paste") (L0 := [some (AR 0), some (AI x1), some (AI x2), some (AI x3), some (AI x4), some (AI x5), none, none]) (by decide +kernel) rfl rfl (Nat.le_of_ble_eq_true rfl) rfl ?_
  intro p e s m args below meth c E hin
  have hJ : Jv w w := jv_rfl hI
  have hb_x1 := z32 x1
  have hb_x2 := z32 x2
  have hb_x3 := z32 x3
  have hb_x4 := z32 x4
  have hb_x5 := z32 x5
  refine s_iload_n E dX9_paste_0 rfl rfl ?_
  refine s_sI (As := [AI x1]) (S := []) E (Z_X9_isSlot l D aC b w x1 hJ.1 ) cs_X9_276 rfl rfl (Nat.le_of_ble_eq_true rfl) (Nat.le_of_ble_eq_true rfl) ⟨(Nat.le_of_ble_eq_true rfl), (Nat.le_of_ble_eq_true rfl)⟩ (Nat.le_of_ble_eq_true rfl) dX9_paste_1 (fun z_3 u_1 hp_2 => ?_)
  obtain ⟨hz_3, hxz_3, hp_2⟩ := hp_2
  subst hp_2
  refine z_if_eq (tgt := 14) (u := z_3.toInt) E dX9_paste_4 (by decide) rfl (fun h_5 => ?_) (fun h_5 => ?_)
  ·
    refine s_bipush (v := (-2)) E dX9_paste_14 (by decide) ?_
    exact r_int E dX9_paste_16 ⟨⟨by decide, by decide, by first | (left; decide) | (right; decide) | (right; have hb_ := z32 x1; omega), by first | (left; decide) | (right; decide) | (right; have hb_ := z32 x2; omega), by first | (left; decide) | (right; decide) | (right; have hb_ := z32 x3; omega), by first | (left; decide) | (right; decide) | (right; have hb_ := z32 x4; omega), by first | (left; decide) | (right; decide) | (right; have hb_ := z32 x5; omega)⟩, (by have hrc_ : ((-2) : Int32).toInt = (-2) := (by decide); have k0_ : (0 : Int32).toInt = 0 := (by decide); have k1_ : (1 : Int32).toInt = 1 := (by decide); have k2_ : (2 : Int32).toInt = 2 := (by decide); have k3_ : (3 : Int32).toInt = 3 := (by decide); refine ⟨?_, ?_, ?_, ?_, ?_, ?_, ?_, ?_, ?_, ?_, ?_, ?_, ?_, ?_, ?_, ?_, ?_⟩ <;> intros <;> omega), hJ⟩
  ·
    refine s_iload_n E dX9_paste_7 rfl rfl ?_
    refine s_sI (As := [AI x3]) (S := []) E (Z_X9_isSlot l D aC b w x3 hJ.1 ) cs_X9_276 rfl rfl (Nat.le_of_ble_eq_true rfl) (Nat.le_of_ble_eq_true rfl) ⟨(Nat.le_of_ble_eq_true rfl), (Nat.le_of_ble_eq_true rfl)⟩ (Nat.le_of_ble_eq_true rfl) dX9_paste_8 (fun z_8 u_6 hp_7 => ?_)
    obtain ⟨hz_8, hxz_8, hp_7⟩ := hp_7
    subst hp_7
    refine z_if_ne (tgt := 17) (u := z_8.toInt) E dX9_paste_11 (by decide) rfl (fun h_10 => ?_) (fun h_10 => ?_)
    ·
      refine s_aload_n E dX9_paste_17 rfl rfl ?_
      refine s_gR (r := 60) E fg_X9_46 rfl rfl (jv_lt hJ (by decide)) (jv_r hJ (by decide +kernel)) dX9_paste_18 ?_
      refine s_iload_n E dX9_paste_21 rfl rfl ?_
      rcases (show x1 = 0 ∨ x1 = 1 ∨ x1 = 2 ∨ x1 = 3 from (z_cases4 (u := x1.toInt) rfl (by omega) (by omega))) with rfl | rfl | rfl | rfl
      ·
        refine s_aald105 (r := 61) E rfl (jv_lt hJ (by decide)) (vp_c (by decide)) (jv_r hJ (by decide +kernel)) dX9_paste_22 ?_
        refine s_astore (L2 := [some (AR 0), some (AI 0), some (AI x2), some (AI x3), some (AI x4), some (AI x5), some (AR 61), none]) E dX9_paste_23 (by decide) rfl ?_
        refine s_aload_n E dX9_paste_25 rfl rfl ?_
        refine s_gR (r := 60) E fg_X9_46 rfl rfl (jv_lt hJ (by decide)) (jv_r hJ (by decide +kernel)) dX9_paste_26 ?_
        refine s_iload_n E dX9_paste_29 rfl rfl ?_
        rcases (show x3 = 0 ∨ x3 = 1 ∨ x3 = 2 ∨ x3 = 3 from (z_cases4 (u := x3.toInt) rfl (by omega) (by omega))) with rfl | rfl | rfl | rfl
        ·
          refine s_aald105 (r := 61) E rfl (jv_lt hJ (by decide)) (vp_c (by decide)) (jv_r hJ (by decide +kernel)) dX9_paste_30 ?_
          refine s_astore (L2 := [some (AR 0), some (AI 0), some (AI x2), some (AI 0), some (AI x4), some (AI x5), some (AR 61), some (AR 61)]) E dX9_paste_31 (by decide) rfl ?_
          refine s_aload E dX9_paste_33 rfl ?_
          refine s_vI (As := []) (S := []) E (Z_X7_isBare_61 l D aC b w  hJ.1 ) cv_X9_279 rfl rfl rfl (jv_lt hJ (by decide)) (Nat.le_of_ble_eq_true rfl) (Nat.le_of_ble_eq_true rfl) ⟨(Nat.le_of_ble_eq_true rfl), (Nat.le_of_ble_eq_true rfl)⟩ (Nat.le_of_ble_eq_true rfl) dX9_paste_35 (fun z_13 u_11 hp_12 => ?_)
          obtain ⟨hz_13, hxz_13, hp_12⟩ := hp_12
          subst hp_12
          refine z_if_ne (tgt := 49) (u := z_13.toInt) E dX9_paste_38 (by decide) rfl (fun h_15 => ?_) (fun h_15 => ?_)
          ·
            refine s_bipush (v := (-6)) E dX9_paste_49 (by decide) ?_
            exact r_int E dX9_paste_51 ⟨⟨by decide, by decide, by first | (left; decide) | (right; decide) | (right; have hb_ := z32 x1; omega), by first | (left; decide) | (right; decide) | (right; have hb_ := z32 x2; omega), by first | (left; decide) | (right; decide) | (right; have hb_ := z32 x3; omega), by first | (left; decide) | (right; decide) | (right; have hb_ := z32 x4; omega), by first | (left; decide) | (right; decide) | (right; have hb_ := z32 x5; omega)⟩, (by have hrc_ : ((-6) : Int32).toInt = (-6) := (by decide); have k0_ : (0 : Int32).toInt = 0 := (by decide); have k1_ : (1 : Int32).toInt = 1 := (by decide); have k2_ : (2 : Int32).toInt = 2 := (by decide); have k3_ : (3 : Int32).toInt = 3 := (by decide); refine ⟨?_, ?_, ?_, ?_, ?_, ?_, ?_, ?_, ?_, ?_, ?_, ?_, ?_, ?_, ?_, ?_, ?_⟩ <;> intros <;> omega), hJ⟩
          ·
            refine s_aload E dX9_paste_41 rfl ?_
            refine s_vI (As := []) (S := []) E (Z_X7_isBare_61 l D aC b w  hJ.1 ) cv_X9_279 rfl rfl rfl (jv_lt hJ (by decide)) (Nat.le_of_ble_eq_true rfl) (Nat.le_of_ble_eq_true rfl) ⟨(Nat.le_of_ble_eq_true rfl), (Nat.le_of_ble_eq_true rfl)⟩ (Nat.le_of_ble_eq_true rfl) dX9_paste_43 (fun z_18 u_16 hp_17 => ?_)
            obtain ⟨hz_18, hxz_18, hp_17⟩ := hp_17
            subst hp_17
            refine z_if_eq (tgt := 52) (u := z_18.toInt) E dX9_paste_46 (by decide) rfl (fun h_20 => ?_) (fun h_20 => ?_)
            ·
              refine s_aload E dX9_paste_52 rfl ?_
              refine s_gI E fg_X9_432 rfl rfl (jv_lt hJ (by decide)) dX9_paste_54 ?_
              refine z_nm (P := fun z => z.toInt = (w.2.2.1 61 1).toInt ∧ 0 ≤ z.toInt ∧ z.toInt ≤ 3) ⟨rfl, (rg_61_1 hJ)⟩ (fun z_21 hz_21 => ?_)
              refine s_aload E dX9_paste_57 rfl ?_
              refine s_gI E fg_X9_432 rfl rfl (jv_lt hJ (by decide)) dX9_paste_59 ?_
              refine z_nm (P := fun z => z.toInt = (w.2.2.1 61 1).toInt ∧ 0 ≤ z.toInt ∧ z.toInt ≤ 3) ⟨rfl, (rg_61_1 hJ)⟩ (fun z_22 hz_22 => ?_)
              refine z_icmp_eq (tgt := 68) (u := z_21.toInt) (v := z_22.toInt) E dX9_paste_62 (by decide) rfl rfl (fun h_23 => ?_) (fun h_23 => ?_)
              ·
                refine s_aload E dX9_paste_68 rfl ?_
                refine s_iload_n E dX9_paste_70 rfl rfl ?_
                refine s_iload E dX9_paste_71 rfl ?_
                refine s_vI (As := [AI x2, AI x5]) (S := []) E (Z_X7_hasStretch_61 l D aC b w x2 x5 hJ.1 ) cv_X9_435 rfl rfl rfl (jv_lt hJ (by decide)) (Nat.le_of_ble_eq_true rfl) (Nat.le_of_ble_eq_true rfl) ⟨(Nat.le_of_ble_eq_true rfl), (Nat.le_of_ble_eq_true rfl)⟩ (Nat.le_of_ble_eq_true rfl) dX9_paste_73 (fun z_26 u_24 hp_25 => ?_)
                obtain ⟨hz_26, hxz_26, hp_25⟩ := hp_25
                subst hp_25
                refine z_if_eq (tgt := 91) (u := z_26.toInt) E dX9_paste_76 (by decide) rfl (fun h_28 => ?_) (fun h_28 => ?_)
                ·
                  refine s_bipush (v := (-7)) E dX9_paste_91 (by decide) ?_
                  exact r_int E dX9_paste_93 ⟨⟨by decide, by decide, by first | (left; decide) | (right; decide) | (right; have hb_ := z32 x1; omega), by first | (left; decide) | (right; decide) | (right; have hb_ := z32 x2; omega), by first | (left; decide) | (right; decide) | (right; have hb_ := z32 x3; omega), by first | (left; decide) | (right; decide) | (right; have hb_ := z32 x4; omega), by first | (left; decide) | (right; decide) | (right; have hb_ := z32 x5; omega)⟩, (by have hrc_ : ((-7) : Int32).toInt = (-7) := (by decide); have k0_ : (0 : Int32).toInt = 0 := (by decide); have k1_ : (1 : Int32).toInt = 1 := (by decide); have k2_ : (2 : Int32).toInt = 2 := (by decide); have k3_ : (3 : Int32).toInt = 3 := (by decide); refine ⟨?_, ?_, ?_, ?_, ?_, ?_, ?_, ?_, ?_, ?_, ?_, ?_, ?_, ?_, ?_, ?_, ?_⟩ <;> intros <;> omega), hJ⟩
                ·
                  refine s_aload E dX9_paste_79 rfl ?_
                  refine s_iload E dX9_paste_81 rfl ?_
                  refine s_iload E dX9_paste_83 rfl ?_
                  refine s_vI (As := [AI x4, AI x5]) (S := []) E (Z_X7_hasStretch_61 l D aC b w x4 x5 hJ.1 ) cv_X9_435 rfl rfl rfl (jv_lt hJ (by decide)) (Nat.le_of_ble_eq_true rfl) (Nat.le_of_ble_eq_true rfl) ⟨(Nat.le_of_ble_eq_true rfl), (Nat.le_of_ble_eq_true rfl)⟩ (Nat.le_of_ble_eq_true rfl) dX9_paste_85 (fun z_31 u_29 hp_30 => ?_)
                  obtain ⟨hz_31, hxz_31, hp_30⟩ := hp_30
                  subst hp_30
                  refine z_if_ne (tgt := 94) (u := z_31.toInt) E dX9_paste_88 (by decide) rfl (fun h_33 => ?_) (fun h_33 => ?_)
                  ·
                    refine s_aload E dX9_paste_94 rfl ?_
                    refine s_gR (r := 62) E fg_X9_438 rfl rfl (jv_lt hJ (by decide)) (jv_r hJ (by decide +kernel)) dX9_paste_96 ?_
                    refine s_iload_n E dX9_paste_99 rfl rfl ?_
                    refine s_aload E dX9_paste_100 rfl ?_
                    refine s_gR (r := 62) E fg_X9_438 rfl rfl (jv_lt hJ (by decide)) (jv_r hJ (by decide +kernel)) dX9_paste_102 ?_
                    refine s_iload E dX9_paste_105 rfl ?_
                    refine s_iload E dX9_paste_107 rfl ?_
                    refine z_copy101 (S := []) (u1 := x2.toInt) (u2 := x4.toInt) (u3 := x5.toInt) E k_1234 k_538 k_537 k_17 rfl rfl (jv_lt hJ (by decide)) (jv_lt hJ (by decide)) rfl rfl rfl (by omega) (by omega) (by omega) (by omega) (by omega) (Nat.le_of_ble_eq_true rfl) (Nat.le_of_ble_eq_true rfl) dX9_paste_109 ?_
                    refine s_gen (P := fun v => Jv w v ∧ (v.2.2.1 61 2).toInt = (w.2.2.1 61 2).toInt) ⟨(jv_SL hJ (by decide)), rfl⟩ (fun v_34 hj_35 => ?_)
                    obtain ⟨hj_35, hk_36k0⟩ := hj_35
                    refine s_iconst (v := 0) E dX9_paste_112 (by decide) ?_
                    exact r_int E dX9_paste_113 ⟨⟨by decide, by decide, by first | (left; decide) | (right; decide) | (right; have hb_ := z32 x1; omega), by first | (left; decide) | (right; decide) | (right; have hb_ := z32 x2; omega), by first | (left; decide) | (right; decide) | (right; have hb_ := z32 x3; omega), by first | (left; decide) | (right; decide) | (right; have hb_ := z32 x4; omega), by first | (left; decide) | (right; decide) | (right; have hb_ := z32 x5; omega)⟩, (by have hrc_ : (0 : Int32).toInt = 0 := (by decide); have k0_ : (0 : Int32).toInt = 0 := (by decide); have k1_ : (1 : Int32).toInt = 1 := (by decide); have k2_ : (2 : Int32).toInt = 2 := (by decide); have k3_ : (3 : Int32).toInt = 3 := (by decide); refine ⟨?_, ?_, ?_, ?_, ?_, ?_, ?_, ?_, ?_, ?_, ?_, ?_, ?_, ?_, ?_, ?_, ?_⟩ <;> intros <;> omega), hj_35⟩
                  ·
                    refine s_bipush (v := (-7)) E dX9_paste_91 (by decide) ?_
                    exact r_int E dX9_paste_93 ⟨⟨by decide, by decide, by first | (left; decide) | (right; decide) | (right; have hb_ := z32 x1; omega), by first | (left; decide) | (right; decide) | (right; have hb_ := z32 x2; omega), by first | (left; decide) | (right; decide) | (right; have hb_ := z32 x3; omega), by first | (left; decide) | (right; decide) | (right; have hb_ := z32 x4; omega), by first | (left; decide) | (right; decide) | (right; have hb_ := z32 x5; omega)⟩, (by have hrc_ : ((-7) : Int32).toInt = (-7) := (by decide); have k0_ : (0 : Int32).toInt = 0 := (by decide); have k1_ : (1 : Int32).toInt = 1 := (by decide); have k2_ : (2 : Int32).toInt = 2 := (by decide); have k3_ : (3 : Int32).toInt = 3 := (by decide); refine ⟨?_, ?_, ?_, ?_, ?_, ?_, ?_, ?_, ?_, ?_, ?_, ?_, ?_, ?_, ?_, ?_, ?_⟩ <;> intros <;> omega), hJ⟩
              ·
                refine s_bipush (v := (-8)) E dX9_paste_65 (by decide) ?_
                exact r_int E dX9_paste_67 ⟨⟨by decide, by decide, by first | (left; decide) | (right; decide) | (right; have hb_ := z32 x1; omega), by first | (left; decide) | (right; decide) | (right; have hb_ := z32 x2; omega), by first | (left; decide) | (right; decide) | (right; have hb_ := z32 x3; omega), by first | (left; decide) | (right; decide) | (right; have hb_ := z32 x4; omega), by first | (left; decide) | (right; decide) | (right; have hb_ := z32 x5; omega)⟩, (by have hrc_ : ((-8) : Int32).toInt = (-8) := (by decide); have k0_ : (0 : Int32).toInt = 0 := (by decide); have k1_ : (1 : Int32).toInt = 1 := (by decide); have k2_ : (2 : Int32).toInt = 2 := (by decide); have k3_ : (3 : Int32).toInt = 3 := (by decide); refine ⟨?_, ?_, ?_, ?_, ?_, ?_, ?_, ?_, ?_, ?_, ?_, ?_, ?_, ?_, ?_, ?_, ?_⟩ <;> intros <;> omega), hJ⟩
            ·
              refine s_bipush (v := (-6)) E dX9_paste_49 (by decide) ?_
              exact r_int E dX9_paste_51 ⟨⟨by decide, by decide, by first | (left; decide) | (right; decide) | (right; have hb_ := z32 x1; omega), by first | (left; decide) | (right; decide) | (right; have hb_ := z32 x2; omega), by first | (left; decide) | (right; decide) | (right; have hb_ := z32 x3; omega), by first | (left; decide) | (right; decide) | (right; have hb_ := z32 x4; omega), by first | (left; decide) | (right; decide) | (right; have hb_ := z32 x5; omega)⟩, (by have hrc_ : ((-6) : Int32).toInt = (-6) := (by decide); have k0_ : (0 : Int32).toInt = 0 := (by decide); have k1_ : (1 : Int32).toInt = 1 := (by decide); have k2_ : (2 : Int32).toInt = 2 := (by decide); have k3_ : (3 : Int32).toInt = 3 := (by decide); refine ⟨?_, ?_, ?_, ?_, ?_, ?_, ?_, ?_, ?_, ?_, ?_, ?_, ?_, ?_, ?_, ?_, ?_⟩ <;> intros <;> omega), hJ⟩
        ·
          refine s_aald105 (r := 63) E rfl (jv_lt hJ (by decide)) (vp_c (by decide)) (jv_r hJ (by decide +kernel)) dX9_paste_30 ?_
          refine s_astore (L2 := [some (AR 0), some (AI 0), some (AI x2), some (AI 1), some (AI x4), some (AI x5), some (AR 61), some (AR 63)]) E dX9_paste_31 (by decide) rfl ?_
          refine s_aload E dX9_paste_33 rfl ?_
          refine s_vI (As := []) (S := []) E (Z_X7_isBare_61 l D aC b w  hJ.1 ) cv_X9_279 rfl rfl rfl (jv_lt hJ (by decide)) (Nat.le_of_ble_eq_true rfl) (Nat.le_of_ble_eq_true rfl) ⟨(Nat.le_of_ble_eq_true rfl), (Nat.le_of_ble_eq_true rfl)⟩ (Nat.le_of_ble_eq_true rfl) dX9_paste_35 (fun z_39 u_37 hp_38 => ?_)
          obtain ⟨hz_39, hxz_39, hp_38⟩ := hp_38
          subst hp_38
          refine z_if_ne (tgt := 49) (u := z_39.toInt) E dX9_paste_38 (by decide) rfl (fun h_41 => ?_) (fun h_41 => ?_)
          ·
            refine s_bipush (v := (-6)) E dX9_paste_49 (by decide) ?_
            exact r_int E dX9_paste_51 ⟨⟨by decide, by decide, by first | (left; decide) | (right; decide) | (right; have hb_ := z32 x1; omega), by first | (left; decide) | (right; decide) | (right; have hb_ := z32 x2; omega), by first | (left; decide) | (right; decide) | (right; have hb_ := z32 x3; omega), by first | (left; decide) | (right; decide) | (right; have hb_ := z32 x4; omega), by first | (left; decide) | (right; decide) | (right; have hb_ := z32 x5; omega)⟩, (by have hrc_ : ((-6) : Int32).toInt = (-6) := (by decide); have k0_ : (0 : Int32).toInt = 0 := (by decide); have k1_ : (1 : Int32).toInt = 1 := (by decide); have k2_ : (2 : Int32).toInt = 2 := (by decide); have k3_ : (3 : Int32).toInt = 3 := (by decide); refine ⟨?_, ?_, ?_, ?_, ?_, ?_, ?_, ?_, ?_, ?_, ?_, ?_, ?_, ?_, ?_, ?_, ?_⟩ <;> intros <;> omega), hJ⟩
          ·
            refine s_aload E dX9_paste_41 rfl ?_
            refine s_vI (As := []) (S := []) E (Z_X7_isBare_63 l D aC b w  hJ.1 ) cv_X9_279 rfl rfl rfl (jv_lt hJ (by decide)) (Nat.le_of_ble_eq_true rfl) (Nat.le_of_ble_eq_true rfl) ⟨(Nat.le_of_ble_eq_true rfl), (Nat.le_of_ble_eq_true rfl)⟩ (Nat.le_of_ble_eq_true rfl) dX9_paste_43 (fun z_44 u_42 hp_43 => ?_)
            obtain ⟨hz_44, hxz_44, hp_43⟩ := hp_43
            subst hp_43
            refine z_if_eq (tgt := 52) (u := z_44.toInt) E dX9_paste_46 (by decide) rfl (fun h_46 => ?_) (fun h_46 => ?_)
            ·
              refine s_aload E dX9_paste_52 rfl ?_
              refine s_gI E fg_X9_432 rfl rfl (jv_lt hJ (by decide)) dX9_paste_54 ?_
              refine z_nm (P := fun z => z.toInt = (w.2.2.1 61 1).toInt ∧ 0 ≤ z.toInt ∧ z.toInt ≤ 3) ⟨rfl, (rg_61_1 hJ)⟩ (fun z_47 hz_47 => ?_)
              refine s_aload E dX9_paste_57 rfl ?_
              refine s_gI E fg_X9_432 rfl rfl (jv_lt hJ (by decide)) dX9_paste_59 ?_
              refine z_nm (P := fun z => z.toInt = (w.2.2.1 63 1).toInt ∧ 0 ≤ z.toInt ∧ z.toInt ≤ 3) ⟨rfl, (rg_63_1 hJ)⟩ (fun z_48 hz_48 => ?_)
              refine z_icmp_eq (tgt := 68) (u := z_47.toInt) (v := z_48.toInt) E dX9_paste_62 (by decide) rfl rfl (fun h_49 => ?_) (fun h_49 => ?_)
              ·
                refine s_aload E dX9_paste_68 rfl ?_
                refine s_iload_n E dX9_paste_70 rfl rfl ?_
                refine s_iload E dX9_paste_71 rfl ?_
                refine s_vI (As := [AI x2, AI x5]) (S := []) E (Z_X7_hasStretch_61 l D aC b w x2 x5 hJ.1 ) cv_X9_435 rfl rfl rfl (jv_lt hJ (by decide)) (Nat.le_of_ble_eq_true rfl) (Nat.le_of_ble_eq_true rfl) ⟨(Nat.le_of_ble_eq_true rfl), (Nat.le_of_ble_eq_true rfl)⟩ (Nat.le_of_ble_eq_true rfl) dX9_paste_73 (fun z_52 u_50 hp_51 => ?_)
                obtain ⟨hz_52, hxz_52, hp_51⟩ := hp_51
                subst hp_51
                refine z_if_eq (tgt := 91) (u := z_52.toInt) E dX9_paste_76 (by decide) rfl (fun h_54 => ?_) (fun h_54 => ?_)
                ·
                  refine s_bipush (v := (-7)) E dX9_paste_91 (by decide) ?_
                  exact r_int E dX9_paste_93 ⟨⟨by decide, by decide, by first | (left; decide) | (right; decide) | (right; have hb_ := z32 x1; omega), by first | (left; decide) | (right; decide) | (right; have hb_ := z32 x2; omega), by first | (left; decide) | (right; decide) | (right; have hb_ := z32 x3; omega), by first | (left; decide) | (right; decide) | (right; have hb_ := z32 x4; omega), by first | (left; decide) | (right; decide) | (right; have hb_ := z32 x5; omega)⟩, (by have hrc_ : ((-7) : Int32).toInt = (-7) := (by decide); have k0_ : (0 : Int32).toInt = 0 := (by decide); have k1_ : (1 : Int32).toInt = 1 := (by decide); have k2_ : (2 : Int32).toInt = 2 := (by decide); have k3_ : (3 : Int32).toInt = 3 := (by decide); refine ⟨?_, ?_, ?_, ?_, ?_, ?_, ?_, ?_, ?_, ?_, ?_, ?_, ?_, ?_, ?_, ?_, ?_⟩ <;> intros <;> omega), hJ⟩
                ·
                  refine s_aload E dX9_paste_79 rfl ?_
                  refine s_iload E dX9_paste_81 rfl ?_
                  refine s_iload E dX9_paste_83 rfl ?_
                  refine s_vI (As := [AI x4, AI x5]) (S := []) E (Z_X7_hasStretch_63 l D aC b w x4 x5 hJ.1 ) cv_X9_435 rfl rfl rfl (jv_lt hJ (by decide)) (Nat.le_of_ble_eq_true rfl) (Nat.le_of_ble_eq_true rfl) ⟨(Nat.le_of_ble_eq_true rfl), (Nat.le_of_ble_eq_true rfl)⟩ (Nat.le_of_ble_eq_true rfl) dX9_paste_85 (fun z_57 u_55 hp_56 => ?_)
                  obtain ⟨hz_57, hxz_57, hp_56⟩ := hp_56
                  subst hp_56
                  refine z_if_ne (tgt := 94) (u := z_57.toInt) E dX9_paste_88 (by decide) rfl (fun h_59 => ?_) (fun h_59 => ?_)
                  ·
                    refine s_aload E dX9_paste_94 rfl ?_
                    refine s_gR (r := 62) E fg_X9_438 rfl rfl (jv_lt hJ (by decide)) (jv_r hJ (by decide +kernel)) dX9_paste_96 ?_
                    refine s_iload_n E dX9_paste_99 rfl rfl ?_
                    refine s_aload E dX9_paste_100 rfl ?_
                    refine s_gR (r := 64) E fg_X9_438 rfl rfl (jv_lt hJ (by decide)) (jv_r hJ (by decide +kernel)) dX9_paste_102 ?_
                    refine s_iload E dX9_paste_105 rfl ?_
                    refine s_iload E dX9_paste_107 rfl ?_
                    refine z_copy101 (S := []) (u1 := x2.toInt) (u2 := x4.toInt) (u3 := x5.toInt) E k_1234 k_538 k_537 k_17 rfl rfl (jv_lt hJ (by decide)) (jv_lt hJ (by decide)) rfl rfl rfl (by omega) (by omega) (by omega) (by omega) (by omega) (Nat.le_of_ble_eq_true rfl) (Nat.le_of_ble_eq_true rfl) dX9_paste_109 ?_
                    refine s_gen (P := fun v => Jv w v ∧ (v.2.2.1 61 2).toInt = (w.2.2.1 61 2).toInt ∧ (v.2.2.1 63 2).toInt = (w.2.2.1 63 2).toInt) ⟨(jv_SL hJ (by decide)), rfl, rfl⟩ (fun v_60 hj_61 => ?_)
                    obtain ⟨hj_61, hk_62k0, hk_62k1⟩ := hj_61
                    refine s_iconst (v := 0) E dX9_paste_112 (by decide) ?_
                    exact r_int E dX9_paste_113 ⟨⟨by decide, by decide, by first | (left; decide) | (right; decide) | (right; have hb_ := z32 x1; omega), by first | (left; decide) | (right; decide) | (right; have hb_ := z32 x2; omega), by first | (left; decide) | (right; decide) | (right; have hb_ := z32 x3; omega), by first | (left; decide) | (right; decide) | (right; have hb_ := z32 x4; omega), by first | (left; decide) | (right; decide) | (right; have hb_ := z32 x5; omega)⟩, (by have hrc_ : (0 : Int32).toInt = 0 := (by decide); have k0_ : (0 : Int32).toInt = 0 := (by decide); have k1_ : (1 : Int32).toInt = 1 := (by decide); have k2_ : (2 : Int32).toInt = 2 := (by decide); have k3_ : (3 : Int32).toInt = 3 := (by decide); refine ⟨?_, ?_, ?_, ?_, ?_, ?_, ?_, ?_, ?_, ?_, ?_, ?_, ?_, ?_, ?_, ?_, ?_⟩ <;> intros <;> omega), hj_61⟩
                  ·
                    refine s_bipush (v := (-7)) E dX9_paste_91 (by decide) ?_
                    exact r_int E dX9_paste_93 ⟨⟨by decide, by decide, by first | (left; decide) | (right; decide) | (right; have hb_ := z32 x1; omega), by first | (left; decide) | (right; decide) | (right; have hb_ := z32 x2; omega), by first | (left; decide) | (right; decide) | (right; have hb_ := z32 x3; omega), by first | (left; decide) | (right; decide) | (right; have hb_ := z32 x4; omega), by first | (left; decide) | (right; decide) | (right; have hb_ := z32 x5; omega)⟩, (by have hrc_ : ((-7) : Int32).toInt = (-7) := (by decide); have k0_ : (0 : Int32).toInt = 0 := (by decide); have k1_ : (1 : Int32).toInt = 1 := (by decide); have k2_ : (2 : Int32).toInt = 2 := (by decide); have k3_ : (3 : Int32).toInt = 3 := (by decide); refine ⟨?_, ?_, ?_, ?_, ?_, ?_, ?_, ?_, ?_, ?_, ?_, ?_, ?_, ?_, ?_, ?_, ?_⟩ <;> intros <;> omega), hJ⟩
              ·
                refine s_bipush (v := (-8)) E dX9_paste_65 (by decide) ?_
                exact r_int E dX9_paste_67 ⟨⟨by decide, by decide, by first | (left; decide) | (right; decide) | (right; have hb_ := z32 x1; omega), by first | (left; decide) | (right; decide) | (right; have hb_ := z32 x2; omega), by first | (left; decide) | (right; decide) | (right; have hb_ := z32 x3; omega), by first | (left; decide) | (right; decide) | (right; have hb_ := z32 x4; omega), by first | (left; decide) | (right; decide) | (right; have hb_ := z32 x5; omega)⟩, (by have hrc_ : ((-8) : Int32).toInt = (-8) := (by decide); have k0_ : (0 : Int32).toInt = 0 := (by decide); have k1_ : (1 : Int32).toInt = 1 := (by decide); have k2_ : (2 : Int32).toInt = 2 := (by decide); have k3_ : (3 : Int32).toInt = 3 := (by decide); refine ⟨?_, ?_, ?_, ?_, ?_, ?_, ?_, ?_, ?_, ?_, ?_, ?_, ?_, ?_, ?_, ?_, ?_⟩ <;> intros <;> omega), hJ⟩
            ·
              refine s_bipush (v := (-6)) E dX9_paste_49 (by decide) ?_
              exact r_int E dX9_paste_51 ⟨⟨by decide, by decide, by first | (left; decide) | (right; decide) | (right; have hb_ := z32 x1; omega), by first | (left; decide) | (right; decide) | (right; have hb_ := z32 x2; omega), by first | (left; decide) | (right; decide) | (right; have hb_ := z32 x3; omega), by first | (left; decide) | (right; decide) | (right; have hb_ := z32 x4; omega), by first | (left; decide) | (right; decide) | (right; have hb_ := z32 x5; omega)⟩, (by have hrc_ : ((-6) : Int32).toInt = (-6) := (by decide); have k0_ : (0 : Int32).toInt = 0 := (by decide); have k1_ : (1 : Int32).toInt = 1 := (by decide); have k2_ : (2 : Int32).toInt = 2 := (by decide); have k3_ : (3 : Int32).toInt = 3 := (by decide); refine ⟨?_, ?_, ?_, ?_, ?_, ?_, ?_, ?_, ?_, ?_, ?_, ?_, ?_, ?_, ?_, ?_, ?_⟩ <;> intros <;> omega), hJ⟩
        ·
          refine s_aald105 (r := 65) E rfl (jv_lt hJ (by decide)) (vp_c (by decide)) (jv_r hJ (by decide +kernel)) dX9_paste_30 ?_
          refine s_astore (L2 := [some (AR 0), some (AI 0), some (AI x2), some (AI 2), some (AI x4), some (AI x5), some (AR 61), some (AR 65)]) E dX9_paste_31 (by decide) rfl ?_
          refine s_aload E dX9_paste_33 rfl ?_
          refine s_vI (As := []) (S := []) E (Z_X7_isBare_61 l D aC b w  hJ.1 ) cv_X9_279 rfl rfl rfl (jv_lt hJ (by decide)) (Nat.le_of_ble_eq_true rfl) (Nat.le_of_ble_eq_true rfl) ⟨(Nat.le_of_ble_eq_true rfl), (Nat.le_of_ble_eq_true rfl)⟩ (Nat.le_of_ble_eq_true rfl) dX9_paste_35 (fun z_65 u_63 hp_64 => ?_)
          obtain ⟨hz_65, hxz_65, hp_64⟩ := hp_64
          subst hp_64
          refine z_if_ne (tgt := 49) (u := z_65.toInt) E dX9_paste_38 (by decide) rfl (fun h_67 => ?_) (fun h_67 => ?_)
          ·
            refine s_bipush (v := (-6)) E dX9_paste_49 (by decide) ?_
            exact r_int E dX9_paste_51 ⟨⟨by decide, by decide, by first | (left; decide) | (right; decide) | (right; have hb_ := z32 x1; omega), by first | (left; decide) | (right; decide) | (right; have hb_ := z32 x2; omega), by first | (left; decide) | (right; decide) | (right; have hb_ := z32 x3; omega), by first | (left; decide) | (right; decide) | (right; have hb_ := z32 x4; omega), by first | (left; decide) | (right; decide) | (right; have hb_ := z32 x5; omega)⟩, (by have hrc_ : ((-6) : Int32).toInt = (-6) := (by decide); have k0_ : (0 : Int32).toInt = 0 := (by decide); have k1_ : (1 : Int32).toInt = 1 := (by decide); have k2_ : (2 : Int32).toInt = 2 := (by decide); have k3_ : (3 : Int32).toInt = 3 := (by decide); refine ⟨?_, ?_, ?_, ?_, ?_, ?_, ?_, ?_, ?_, ?_, ?_, ?_, ?_, ?_, ?_, ?_, ?_⟩ <;> intros <;> omega), hJ⟩
          ·
            refine s_aload E dX9_paste_41 rfl ?_
            refine s_vI (As := []) (S := []) E (Z_X7_isBare_65 l D aC b w  hJ.1 ) cv_X9_279 rfl rfl rfl (jv_lt hJ (by decide)) (Nat.le_of_ble_eq_true rfl) (Nat.le_of_ble_eq_true rfl) ⟨(Nat.le_of_ble_eq_true rfl), (Nat.le_of_ble_eq_true rfl)⟩ (Nat.le_of_ble_eq_true rfl) dX9_paste_43 (fun z_70 u_68 hp_69 => ?_)
            obtain ⟨hz_70, hxz_70, hp_69⟩ := hp_69
            subst hp_69
            refine z_if_eq (tgt := 52) (u := z_70.toInt) E dX9_paste_46 (by decide) rfl (fun h_72 => ?_) (fun h_72 => ?_)
            ·
              refine s_aload E dX9_paste_52 rfl ?_
              refine s_gI E fg_X9_432 rfl rfl (jv_lt hJ (by decide)) dX9_paste_54 ?_
              refine z_nm (P := fun z => z.toInt = (w.2.2.1 61 1).toInt ∧ 0 ≤ z.toInt ∧ z.toInt ≤ 3) ⟨rfl, (rg_61_1 hJ)⟩ (fun z_73 hz_73 => ?_)
              refine s_aload E dX9_paste_57 rfl ?_
              refine s_gI E fg_X9_432 rfl rfl (jv_lt hJ (by decide)) dX9_paste_59 ?_
              refine z_nm (P := fun z => z.toInt = (w.2.2.1 65 1).toInt ∧ 0 ≤ z.toInt ∧ z.toInt ≤ 3) ⟨rfl, (rg_65_1 hJ)⟩ (fun z_74 hz_74 => ?_)
              refine z_icmp_eq (tgt := 68) (u := z_73.toInt) (v := z_74.toInt) E dX9_paste_62 (by decide) rfl rfl (fun h_75 => ?_) (fun h_75 => ?_)
              ·
                refine s_aload E dX9_paste_68 rfl ?_
                refine s_iload_n E dX9_paste_70 rfl rfl ?_
                refine s_iload E dX9_paste_71 rfl ?_
                refine s_vI (As := [AI x2, AI x5]) (S := []) E (Z_X7_hasStretch_61 l D aC b w x2 x5 hJ.1 ) cv_X9_435 rfl rfl rfl (jv_lt hJ (by decide)) (Nat.le_of_ble_eq_true rfl) (Nat.le_of_ble_eq_true rfl) ⟨(Nat.le_of_ble_eq_true rfl), (Nat.le_of_ble_eq_true rfl)⟩ (Nat.le_of_ble_eq_true rfl) dX9_paste_73 (fun z_78 u_76 hp_77 => ?_)
                obtain ⟨hz_78, hxz_78, hp_77⟩ := hp_77
                subst hp_77
                refine z_if_eq (tgt := 91) (u := z_78.toInt) E dX9_paste_76 (by decide) rfl (fun h_80 => ?_) (fun h_80 => ?_)
                ·
                  refine s_bipush (v := (-7)) E dX9_paste_91 (by decide) ?_
                  exact r_int E dX9_paste_93 ⟨⟨by decide, by decide, by first | (left; decide) | (right; decide) | (right; have hb_ := z32 x1; omega), by first | (left; decide) | (right; decide) | (right; have hb_ := z32 x2; omega), by first | (left; decide) | (right; decide) | (right; have hb_ := z32 x3; omega), by first | (left; decide) | (right; decide) | (right; have hb_ := z32 x4; omega), by first | (left; decide) | (right; decide) | (right; have hb_ := z32 x5; omega)⟩, (by have hrc_ : ((-7) : Int32).toInt = (-7) := (by decide); have k0_ : (0 : Int32).toInt = 0 := (by decide); have k1_ : (1 : Int32).toInt = 1 := (by decide); have k2_ : (2 : Int32).toInt = 2 := (by decide); have k3_ : (3 : Int32).toInt = 3 := (by decide); refine ⟨?_, ?_, ?_, ?_, ?_, ?_, ?_, ?_, ?_, ?_, ?_, ?_, ?_, ?_, ?_, ?_, ?_⟩ <;> intros <;> omega), hJ⟩
                ·
                  refine s_aload E dX9_paste_79 rfl ?_
                  refine s_iload E dX9_paste_81 rfl ?_
                  refine s_iload E dX9_paste_83 rfl ?_
                  refine s_vI (As := [AI x4, AI x5]) (S := []) E (Z_X7_hasStretch_65 l D aC b w x4 x5 hJ.1 ) cv_X9_435 rfl rfl rfl (jv_lt hJ (by decide)) (Nat.le_of_ble_eq_true rfl) (Nat.le_of_ble_eq_true rfl) ⟨(Nat.le_of_ble_eq_true rfl), (Nat.le_of_ble_eq_true rfl)⟩ (Nat.le_of_ble_eq_true rfl) dX9_paste_85 (fun z_83 u_81 hp_82 => ?_)
                  obtain ⟨hz_83, hxz_83, hp_82⟩ := hp_82
                  subst hp_82
                  refine z_if_ne (tgt := 94) (u := z_83.toInt) E dX9_paste_88 (by decide) rfl (fun h_85 => ?_) (fun h_85 => ?_)
                  ·
                    refine s_aload E dX9_paste_94 rfl ?_
                    refine s_gR (r := 62) E fg_X9_438 rfl rfl (jv_lt hJ (by decide)) (jv_r hJ (by decide +kernel)) dX9_paste_96 ?_
                    refine s_iload_n E dX9_paste_99 rfl rfl ?_
                    refine s_aload E dX9_paste_100 rfl ?_
                    refine s_gR (r := 66) E fg_X9_438 rfl rfl (jv_lt hJ (by decide)) (jv_r hJ (by decide +kernel)) dX9_paste_102 ?_
                    refine s_iload E dX9_paste_105 rfl ?_
                    refine s_iload E dX9_paste_107 rfl ?_
                    refine z_copy101 (S := []) (u1 := x2.toInt) (u2 := x4.toInt) (u3 := x5.toInt) E k_1234 k_538 k_537 k_17 rfl rfl (jv_lt hJ (by decide)) (jv_lt hJ (by decide)) rfl rfl rfl (by omega) (by omega) (by omega) (by omega) (by omega) (Nat.le_of_ble_eq_true rfl) (Nat.le_of_ble_eq_true rfl) dX9_paste_109 ?_
                    refine s_gen (P := fun v => Jv w v ∧ (v.2.2.1 61 2).toInt = (w.2.2.1 61 2).toInt ∧ (v.2.2.1 65 2).toInt = (w.2.2.1 65 2).toInt) ⟨(jv_SL hJ (by decide)), rfl, rfl⟩ (fun v_86 hj_87 => ?_)
                    obtain ⟨hj_87, hk_88k0, hk_88k1⟩ := hj_87
                    refine s_iconst (v := 0) E dX9_paste_112 (by decide) ?_
                    exact r_int E dX9_paste_113 ⟨⟨by decide, by decide, by first | (left; decide) | (right; decide) | (right; have hb_ := z32 x1; omega), by first | (left; decide) | (right; decide) | (right; have hb_ := z32 x2; omega), by first | (left; decide) | (right; decide) | (right; have hb_ := z32 x3; omega), by first | (left; decide) | (right; decide) | (right; have hb_ := z32 x4; omega), by first | (left; decide) | (right; decide) | (right; have hb_ := z32 x5; omega)⟩, (by have hrc_ : (0 : Int32).toInt = 0 := (by decide); have k0_ : (0 : Int32).toInt = 0 := (by decide); have k1_ : (1 : Int32).toInt = 1 := (by decide); have k2_ : (2 : Int32).toInt = 2 := (by decide); have k3_ : (3 : Int32).toInt = 3 := (by decide); refine ⟨?_, ?_, ?_, ?_, ?_, ?_, ?_, ?_, ?_, ?_, ?_, ?_, ?_, ?_, ?_, ?_, ?_⟩ <;> intros <;> omega), hj_87⟩
                  ·
                    refine s_bipush (v := (-7)) E dX9_paste_91 (by decide) ?_
                    exact r_int E dX9_paste_93 ⟨⟨by decide, by decide, by first | (left; decide) | (right; decide) | (right; have hb_ := z32 x1; omega), by first | (left; decide) | (right; decide) | (right; have hb_ := z32 x2; omega), by first | (left; decide) | (right; decide) | (right; have hb_ := z32 x3; omega), by first | (left; decide) | (right; decide) | (right; have hb_ := z32 x4; omega), by first | (left; decide) | (right; decide) | (right; have hb_ := z32 x5; omega)⟩, (by have hrc_ : ((-7) : Int32).toInt = (-7) := (by decide); have k0_ : (0 : Int32).toInt = 0 := (by decide); have k1_ : (1 : Int32).toInt = 1 := (by decide); have k2_ : (2 : Int32).toInt = 2 := (by decide); have k3_ : (3 : Int32).toInt = 3 := (by decide); refine ⟨?_, ?_, ?_, ?_, ?_, ?_, ?_, ?_, ?_, ?_, ?_, ?_, ?_, ?_, ?_, ?_, ?_⟩ <;> intros <;> omega), hJ⟩
              ·
                refine s_bipush (v := (-8)) E dX9_paste_65 (by decide) ?_
                exact r_int E dX9_paste_67 ⟨⟨by decide, by decide, by first | (left; decide) | (right; decide) | (right; have hb_ := z32 x1; omega), by first | (left; decide) | (right; decide) | (right; have hb_ := z32 x2; omega), by first | (left; decide) | (right; decide) | (right; have hb_ := z32 x3; omega), by first | (left; decide) | (right; decide) | (right; have hb_ := z32 x4; omega), by first | (left; decide) | (right; decide) | (right; have hb_ := z32 x5; omega)⟩, (by have hrc_ : ((-8) : Int32).toInt = (-8) := (by decide); have k0_ : (0 : Int32).toInt = 0 := (by decide); have k1_ : (1 : Int32).toInt = 1 := (by decide); have k2_ : (2 : Int32).toInt = 2 := (by decide); have k3_ : (3 : Int32).toInt = 3 := (by decide); refine ⟨?_, ?_, ?_, ?_, ?_, ?_, ?_, ?_, ?_, ?_, ?_, ?_, ?_, ?_, ?_, ?_, ?_⟩ <;> intros <;> omega), hJ⟩
            ·
              refine s_bipush (v := (-6)) E dX9_paste_49 (by decide) ?_
              exact r_int E dX9_paste_51 ⟨⟨by decide, by decide, by first | (left; decide) | (right; decide) | (right; have hb_ := z32 x1; omega), by first | (left; decide) | (right; decide) | (right; have hb_ := z32 x2; omega), by first | (left; decide) | (right; decide) | (right; have hb_ := z32 x3; omega), by first | (left; decide) | (right; decide) | (right; have hb_ := z32 x4; omega), by first | (left; decide) | (right; decide) | (right; have hb_ := z32 x5; omega)⟩, (by have hrc_ : ((-6) : Int32).toInt = (-6) := (by decide); have k0_ : (0 : Int32).toInt = 0 := (by decide); have k1_ : (1 : Int32).toInt = 1 := (by decide); have k2_ : (2 : Int32).toInt = 2 := (by decide); have k3_ : (3 : Int32).toInt = 3 := (by decide); refine ⟨?_, ?_, ?_, ?_, ?_, ?_, ?_, ?_, ?_, ?_, ?_, ?_, ?_, ?_, ?_, ?_, ?_⟩ <;> intros <;> omega), hJ⟩
        ·
          refine s_aald105 (r := 67) E rfl (jv_lt hJ (by decide)) (vp_c (by decide)) (jv_r hJ (by decide +kernel)) dX9_paste_30 ?_
          refine s_astore (L2 := [some (AR 0), some (AI 0), some (AI x2), some (AI 3), some (AI x4), some (AI x5), some (AR 61), some (AR 67)]) E dX9_paste_31 (by decide) rfl ?_
          refine s_aload E dX9_paste_33 rfl ?_
          refine s_vI (As := []) (S := []) E (Z_X7_isBare_61 l D aC b w  hJ.1 ) cv_X9_279 rfl rfl rfl (jv_lt hJ (by decide)) (Nat.le_of_ble_eq_true rfl) (Nat.le_of_ble_eq_true rfl) ⟨(Nat.le_of_ble_eq_true rfl), (Nat.le_of_ble_eq_true rfl)⟩ (Nat.le_of_ble_eq_true rfl) dX9_paste_35 (fun z_91 u_89 hp_90 => ?_)
          obtain ⟨hz_91, hxz_91, hp_90⟩ := hp_90
          subst hp_90
          refine z_if_ne (tgt := 49) (u := z_91.toInt) E dX9_paste_38 (by decide) rfl (fun h_93 => ?_) (fun h_93 => ?_)
          ·
            refine s_bipush (v := (-6)) E dX9_paste_49 (by decide) ?_
            exact r_int E dX9_paste_51 ⟨⟨by decide, by decide, by first | (left; decide) | (right; decide) | (right; have hb_ := z32 x1; omega), by first | (left; decide) | (right; decide) | (right; have hb_ := z32 x2; omega), by first | (left; decide) | (right; decide) | (right; have hb_ := z32 x3; omega), by first | (left; decide) | (right; decide) | (right; have hb_ := z32 x4; omega), by first | (left; decide) | (right; decide) | (right; have hb_ := z32 x5; omega)⟩, (by have hrc_ : ((-6) : Int32).toInt = (-6) := (by decide); have k0_ : (0 : Int32).toInt = 0 := (by decide); have k1_ : (1 : Int32).toInt = 1 := (by decide); have k2_ : (2 : Int32).toInt = 2 := (by decide); have k3_ : (3 : Int32).toInt = 3 := (by decide); refine ⟨?_, ?_, ?_, ?_, ?_, ?_, ?_, ?_, ?_, ?_, ?_, ?_, ?_, ?_, ?_, ?_, ?_⟩ <;> intros <;> omega), hJ⟩
          ·
            refine s_aload E dX9_paste_41 rfl ?_
            refine s_vI (As := []) (S := []) E (Z_X7_isBare_67 l D aC b w  hJ.1 ) cv_X9_279 rfl rfl rfl (jv_lt hJ (by decide)) (Nat.le_of_ble_eq_true rfl) (Nat.le_of_ble_eq_true rfl) ⟨(Nat.le_of_ble_eq_true rfl), (Nat.le_of_ble_eq_true rfl)⟩ (Nat.le_of_ble_eq_true rfl) dX9_paste_43 (fun z_96 u_94 hp_95 => ?_)
            obtain ⟨hz_96, hxz_96, hp_95⟩ := hp_95
            subst hp_95
            refine z_if_eq (tgt := 52) (u := z_96.toInt) E dX9_paste_46 (by decide) rfl (fun h_98 => ?_) (fun h_98 => ?_)
            ·
              refine s_aload E dX9_paste_52 rfl ?_
              refine s_gI E fg_X9_432 rfl rfl (jv_lt hJ (by decide)) dX9_paste_54 ?_
              refine z_nm (P := fun z => z.toInt = (w.2.2.1 61 1).toInt ∧ 0 ≤ z.toInt ∧ z.toInt ≤ 3) ⟨rfl, (rg_61_1 hJ)⟩ (fun z_99 hz_99 => ?_)
              refine s_aload E dX9_paste_57 rfl ?_
              refine s_gI E fg_X9_432 rfl rfl (jv_lt hJ (by decide)) dX9_paste_59 ?_
              refine z_nm (P := fun z => z.toInt = (w.2.2.1 67 1).toInt ∧ 0 ≤ z.toInt ∧ z.toInt ≤ 3) ⟨rfl, (rg_67_1 hJ)⟩ (fun z_100 hz_100 => ?_)
              refine z_icmp_eq (tgt := 68) (u := z_99.toInt) (v := z_100.toInt) E dX9_paste_62 (by decide) rfl rfl (fun h_101 => ?_) (fun h_101 => ?_)
              ·
                refine s_aload E dX9_paste_68 rfl ?_
                refine s_iload_n E dX9_paste_70 rfl rfl ?_
                refine s_iload E dX9_paste_71 rfl ?_
                refine s_vI (As := [AI x2, AI x5]) (S := []) E (Z_X7_hasStretch_61 l D aC b w x2 x5 hJ.1 ) cv_X9_435 rfl rfl rfl (jv_lt hJ (by decide)) (Nat.le_of_ble_eq_true rfl) (Nat.le_of_ble_eq_true rfl) ⟨(Nat.le_of_ble_eq_true rfl), (Nat.le_of_ble_eq_true rfl)⟩ (Nat.le_of_ble_eq_true rfl) dX9_paste_73 (fun z_104 u_102 hp_103 => ?_)
                obtain ⟨hz_104, hxz_104, hp_103⟩ := hp_103
                subst hp_103
                refine z_if_eq (tgt := 91) (u := z_104.toInt) E dX9_paste_76 (by decide) rfl (fun h_106 => ?_) (fun h_106 => ?_)
                ·
                  refine s_bipush (v := (-7)) E dX9_paste_91 (by decide) ?_
                  exact r_int E dX9_paste_93 ⟨⟨by decide, by decide, by first | (left; decide) | (right; decide) | (right; have hb_ := z32 x1; omega), by first | (left; decide) | (right; decide) | (right; have hb_ := z32 x2; omega), by first | (left; decide) | (right; decide) | (right; have hb_ := z32 x3; omega), by first | (left; decide) | (right; decide) | (right; have hb_ := z32 x4; omega), by first | (left; decide) | (right; decide) | (right; have hb_ := z32 x5; omega)⟩, (by have hrc_ : ((-7) : Int32).toInt = (-7) := (by decide); have k0_ : (0 : Int32).toInt = 0 := (by decide); have k1_ : (1 : Int32).toInt = 1 := (by decide); have k2_ : (2 : Int32).toInt = 2 := (by decide); have k3_ : (3 : Int32).toInt = 3 := (by decide); refine ⟨?_, ?_, ?_, ?_, ?_, ?_, ?_, ?_, ?_, ?_, ?_, ?_, ?_, ?_, ?_, ?_, ?_⟩ <;> intros <;> omega), hJ⟩
                ·
                  refine s_aload E dX9_paste_79 rfl ?_
                  refine s_iload E dX9_paste_81 rfl ?_
                  refine s_iload E dX9_paste_83 rfl ?_
                  refine s_vI (As := [AI x4, AI x5]) (S := []) E (Z_X7_hasStretch_67 l D aC b w x4 x5 hJ.1 ) cv_X9_435 rfl rfl rfl (jv_lt hJ (by decide)) (Nat.le_of_ble_eq_true rfl) (Nat.le_of_ble_eq_true rfl) ⟨(Nat.le_of_ble_eq_true rfl), (Nat.le_of_ble_eq_true rfl)⟩ (Nat.le_of_ble_eq_true rfl) dX9_paste_85 (fun z_109 u_107 hp_108 => ?_)
                  obtain ⟨hz_109, hxz_109, hp_108⟩ := hp_108
                  subst hp_108
                  refine z_if_ne (tgt := 94) (u := z_109.toInt) E dX9_paste_88 (by decide) rfl (fun h_111 => ?_) (fun h_111 => ?_)
                  ·
                    refine s_aload E dX9_paste_94 rfl ?_
                    refine s_gR (r := 62) E fg_X9_438 rfl rfl (jv_lt hJ (by decide)) (jv_r hJ (by decide +kernel)) dX9_paste_96 ?_
                    refine s_iload_n E dX9_paste_99 rfl rfl ?_
                    refine s_aload E dX9_paste_100 rfl ?_
                    refine s_gR (r := 68) E fg_X9_438 rfl rfl (jv_lt hJ (by decide)) (jv_r hJ (by decide +kernel)) dX9_paste_102 ?_
                    refine s_iload E dX9_paste_105 rfl ?_
                    refine s_iload E dX9_paste_107 rfl ?_
                    refine z_copy101 (S := []) (u1 := x2.toInt) (u2 := x4.toInt) (u3 := x5.toInt) E k_1234 k_538 k_537 k_17 rfl rfl (jv_lt hJ (by decide)) (jv_lt hJ (by decide)) rfl rfl rfl (by omega) (by omega) (by omega) (by omega) (by omega) (Nat.le_of_ble_eq_true rfl) (Nat.le_of_ble_eq_true rfl) dX9_paste_109 ?_
                    refine s_gen (P := fun v => Jv w v ∧ (v.2.2.1 61 2).toInt = (w.2.2.1 61 2).toInt ∧ (v.2.2.1 67 2).toInt = (w.2.2.1 67 2).toInt) ⟨(jv_SL hJ (by decide)), rfl, rfl⟩ (fun v_112 hj_113 => ?_)
                    obtain ⟨hj_113, hk_114k0, hk_114k1⟩ := hj_113
                    refine s_iconst (v := 0) E dX9_paste_112 (by decide) ?_
                    exact r_int E dX9_paste_113 ⟨⟨by decide, by decide, by first | (left; decide) | (right; decide) | (right; have hb_ := z32 x1; omega), by first | (left; decide) | (right; decide) | (right; have hb_ := z32 x2; omega), by first | (left; decide) | (right; decide) | (right; have hb_ := z32 x3; omega), by first | (left; decide) | (right; decide) | (right; have hb_ := z32 x4; omega), by first | (left; decide) | (right; decide) | (right; have hb_ := z32 x5; omega)⟩, (by have hrc_ : (0 : Int32).toInt = 0 := (by decide); have k0_ : (0 : Int32).toInt = 0 := (by decide); have k1_ : (1 : Int32).toInt = 1 := (by decide); have k2_ : (2 : Int32).toInt = 2 := (by decide); have k3_ : (3 : Int32).toInt = 3 := (by decide); refine ⟨?_, ?_, ?_, ?_, ?_, ?_, ?_, ?_, ?_, ?_, ?_, ?_, ?_, ?_, ?_, ?_, ?_⟩ <;> intros <;> omega), hj_113⟩
                  ·
                    refine s_bipush (v := (-7)) E dX9_paste_91 (by decide) ?_
                    exact r_int E dX9_paste_93 ⟨⟨by decide, by decide, by first | (left; decide) | (right; decide) | (right; have hb_ := z32 x1; omega), by first | (left; decide) | (right; decide) | (right; have hb_ := z32 x2; omega), by first | (left; decide) | (right; decide) | (right; have hb_ := z32 x3; omega), by first | (left; decide) | (right; decide) | (right; have hb_ := z32 x4; omega), by first | (left; decide) | (right; decide) | (right; have hb_ := z32 x5; omega)⟩, (by have hrc_ : ((-7) : Int32).toInt = (-7) := (by decide); have k0_ : (0 : Int32).toInt = 0 := (by decide); have k1_ : (1 : Int32).toInt = 1 := (by decide); have k2_ : (2 : Int32).toInt = 2 := (by decide); have k3_ : (3 : Int32).toInt = 3 := (by decide); refine ⟨?_, ?_, ?_, ?_, ?_, ?_, ?_, ?_, ?_, ?_, ?_, ?_, ?_, ?_, ?_, ?_, ?_⟩ <;> intros <;> omega), hJ⟩
              ·
                refine s_bipush (v := (-8)) E dX9_paste_65 (by decide) ?_
                exact r_int E dX9_paste_67 ⟨⟨by decide, by decide, by first | (left; decide) | (right; decide) | (right; have hb_ := z32 x1; omega), by first | (left; decide) | (right; decide) | (right; have hb_ := z32 x2; omega), by first | (left; decide) | (right; decide) | (right; have hb_ := z32 x3; omega), by first | (left; decide) | (right; decide) | (right; have hb_ := z32 x4; omega), by first | (left; decide) | (right; decide) | (right; have hb_ := z32 x5; omega)⟩, (by have hrc_ : ((-8) : Int32).toInt = (-8) := (by decide); have k0_ : (0 : Int32).toInt = 0 := (by decide); have k1_ : (1 : Int32).toInt = 1 := (by decide); have k2_ : (2 : Int32).toInt = 2 := (by decide); have k3_ : (3 : Int32).toInt = 3 := (by decide); refine ⟨?_, ?_, ?_, ?_, ?_, ?_, ?_, ?_, ?_, ?_, ?_, ?_, ?_, ?_, ?_, ?_, ?_⟩ <;> intros <;> omega), hJ⟩
            ·
              refine s_bipush (v := (-6)) E dX9_paste_49 (by decide) ?_
              exact r_int E dX9_paste_51 ⟨⟨by decide, by decide, by first | (left; decide) | (right; decide) | (right; have hb_ := z32 x1; omega), by first | (left; decide) | (right; decide) | (right; have hb_ := z32 x2; omega), by first | (left; decide) | (right; decide) | (right; have hb_ := z32 x3; omega), by first | (left; decide) | (right; decide) | (right; have hb_ := z32 x4; omega), by first | (left; decide) | (right; decide) | (right; have hb_ := z32 x5; omega)⟩, (by have hrc_ : ((-6) : Int32).toInt = (-6) := (by decide); have k0_ : (0 : Int32).toInt = 0 := (by decide); have k1_ : (1 : Int32).toInt = 1 := (by decide); have k2_ : (2 : Int32).toInt = 2 := (by decide); have k3_ : (3 : Int32).toInt = 3 := (by decide); refine ⟨?_, ?_, ?_, ?_, ?_, ?_, ?_, ?_, ?_, ?_, ?_, ?_, ?_, ?_, ?_, ?_, ?_⟩ <;> intros <;> omega), hJ⟩
      ·
        refine s_aald105 (r := 63) E rfl (jv_lt hJ (by decide)) (vp_c (by decide)) (jv_r hJ (by decide +kernel)) dX9_paste_22 ?_
        refine s_astore (L2 := [some (AR 0), some (AI 1), some (AI x2), some (AI x3), some (AI x4), some (AI x5), some (AR 63), none]) E dX9_paste_23 (by decide) rfl ?_
        refine s_aload_n E dX9_paste_25 rfl rfl ?_
        refine s_gR (r := 60) E fg_X9_46 rfl rfl (jv_lt hJ (by decide)) (jv_r hJ (by decide +kernel)) dX9_paste_26 ?_
        refine s_iload_n E dX9_paste_29 rfl rfl ?_
        rcases (show x3 = 0 ∨ x3 = 1 ∨ x3 = 2 ∨ x3 = 3 from (z_cases4 (u := x3.toInt) rfl (by omega) (by omega))) with rfl | rfl | rfl | rfl
        ·
          refine s_aald105 (r := 61) E rfl (jv_lt hJ (by decide)) (vp_c (by decide)) (jv_r hJ (by decide +kernel)) dX9_paste_30 ?_
          refine s_astore (L2 := [some (AR 0), some (AI 1), some (AI x2), some (AI 0), some (AI x4), some (AI x5), some (AR 63), some (AR 61)]) E dX9_paste_31 (by decide) rfl ?_
          refine s_aload E dX9_paste_33 rfl ?_
          refine s_vI (As := []) (S := []) E (Z_X7_isBare_63 l D aC b w  hJ.1 ) cv_X9_279 rfl rfl rfl (jv_lt hJ (by decide)) (Nat.le_of_ble_eq_true rfl) (Nat.le_of_ble_eq_true rfl) ⟨(Nat.le_of_ble_eq_true rfl), (Nat.le_of_ble_eq_true rfl)⟩ (Nat.le_of_ble_eq_true rfl) dX9_paste_35 (fun z_117 u_115 hp_116 => ?_)
          obtain ⟨hz_117, hxz_117, hp_116⟩ := hp_116
          subst hp_116
          refine z_if_ne (tgt := 49) (u := z_117.toInt) E dX9_paste_38 (by decide) rfl (fun h_119 => ?_) (fun h_119 => ?_)
          ·
            refine s_bipush (v := (-6)) E dX9_paste_49 (by decide) ?_
            exact r_int E dX9_paste_51 ⟨⟨by decide, by decide, by first | (left; decide) | (right; decide) | (right; have hb_ := z32 x1; omega), by first | (left; decide) | (right; decide) | (right; have hb_ := z32 x2; omega), by first | (left; decide) | (right; decide) | (right; have hb_ := z32 x3; omega), by first | (left; decide) | (right; decide) | (right; have hb_ := z32 x4; omega), by first | (left; decide) | (right; decide) | (right; have hb_ := z32 x5; omega)⟩, (by have hrc_ : ((-6) : Int32).toInt = (-6) := (by decide); have k0_ : (0 : Int32).toInt = 0 := (by decide); have k1_ : (1 : Int32).toInt = 1 := (by decide); have k2_ : (2 : Int32).toInt = 2 := (by decide); have k3_ : (3 : Int32).toInt = 3 := (by decide); refine ⟨?_, ?_, ?_, ?_, ?_, ?_, ?_, ?_, ?_, ?_, ?_, ?_, ?_, ?_, ?_, ?_, ?_⟩ <;> intros <;> omega), hJ⟩
          ·
            refine s_aload E dX9_paste_41 rfl ?_
            refine s_vI (As := []) (S := []) E (Z_X7_isBare_61 l D aC b w  hJ.1 ) cv_X9_279 rfl rfl rfl (jv_lt hJ (by decide)) (Nat.le_of_ble_eq_true rfl) (Nat.le_of_ble_eq_true rfl) ⟨(Nat.le_of_ble_eq_true rfl), (Nat.le_of_ble_eq_true rfl)⟩ (Nat.le_of_ble_eq_true rfl) dX9_paste_43 (fun z_122 u_120 hp_121 => ?_)
            obtain ⟨hz_122, hxz_122, hp_121⟩ := hp_121
            subst hp_121
            refine z_if_eq (tgt := 52) (u := z_122.toInt) E dX9_paste_46 (by decide) rfl (fun h_124 => ?_) (fun h_124 => ?_)
            ·
              refine s_aload E dX9_paste_52 rfl ?_
              refine s_gI E fg_X9_432 rfl rfl (jv_lt hJ (by decide)) dX9_paste_54 ?_
              refine z_nm (P := fun z => z.toInt = (w.2.2.1 63 1).toInt ∧ 0 ≤ z.toInt ∧ z.toInt ≤ 3) ⟨rfl, (rg_63_1 hJ)⟩ (fun z_125 hz_125 => ?_)
              refine s_aload E dX9_paste_57 rfl ?_
              refine s_gI E fg_X9_432 rfl rfl (jv_lt hJ (by decide)) dX9_paste_59 ?_
              refine z_nm (P := fun z => z.toInt = (w.2.2.1 61 1).toInt ∧ 0 ≤ z.toInt ∧ z.toInt ≤ 3) ⟨rfl, (rg_61_1 hJ)⟩ (fun z_126 hz_126 => ?_)
              refine z_icmp_eq (tgt := 68) (u := z_125.toInt) (v := z_126.toInt) E dX9_paste_62 (by decide) rfl rfl (fun h_127 => ?_) (fun h_127 => ?_)
              ·
                refine s_aload E dX9_paste_68 rfl ?_
                refine s_iload_n E dX9_paste_70 rfl rfl ?_
                refine s_iload E dX9_paste_71 rfl ?_
                refine s_vI (As := [AI x2, AI x5]) (S := []) E (Z_X7_hasStretch_63 l D aC b w x2 x5 hJ.1 ) cv_X9_435 rfl rfl rfl (jv_lt hJ (by decide)) (Nat.le_of_ble_eq_true rfl) (Nat.le_of_ble_eq_true rfl) ⟨(Nat.le_of_ble_eq_true rfl), (Nat.le_of_ble_eq_true rfl)⟩ (Nat.le_of_ble_eq_true rfl) dX9_paste_73 (fun z_130 u_128 hp_129 => ?_)
                obtain ⟨hz_130, hxz_130, hp_129⟩ := hp_129
                subst hp_129
                refine z_if_eq (tgt := 91) (u := z_130.toInt) E dX9_paste_76 (by decide) rfl (fun h_132 => ?_) (fun h_132 => ?_)
                ·
                  refine s_bipush (v := (-7)) E dX9_paste_91 (by decide) ?_
                  exact r_int E dX9_paste_93 ⟨⟨by decide, by decide, by first | (left; decide) | (right; decide) | (right; have hb_ := z32 x1; omega), by first | (left; decide) | (right; decide) | (right; have hb_ := z32 x2; omega), by first | (left; decide) | (right; decide) | (right; have hb_ := z32 x3; omega), by first | (left; decide) | (right; decide) | (right; have hb_ := z32 x4; omega), by first | (left; decide) | (right; decide) | (right; have hb_ := z32 x5; omega)⟩, (by have hrc_ : ((-7) : Int32).toInt = (-7) := (by decide); have k0_ : (0 : Int32).toInt = 0 := (by decide); have k1_ : (1 : Int32).toInt = 1 := (by decide); have k2_ : (2 : Int32).toInt = 2 := (by decide); have k3_ : (3 : Int32).toInt = 3 := (by decide); refine ⟨?_, ?_, ?_, ?_, ?_, ?_, ?_, ?_, ?_, ?_, ?_, ?_, ?_, ?_, ?_, ?_, ?_⟩ <;> intros <;> omega), hJ⟩
                ·
                  refine s_aload E dX9_paste_79 rfl ?_
                  refine s_iload E dX9_paste_81 rfl ?_
                  refine s_iload E dX9_paste_83 rfl ?_
                  refine s_vI (As := [AI x4, AI x5]) (S := []) E (Z_X7_hasStretch_61 l D aC b w x4 x5 hJ.1 ) cv_X9_435 rfl rfl rfl (jv_lt hJ (by decide)) (Nat.le_of_ble_eq_true rfl) (Nat.le_of_ble_eq_true rfl) ⟨(Nat.le_of_ble_eq_true rfl), (Nat.le_of_ble_eq_true rfl)⟩ (Nat.le_of_ble_eq_true rfl) dX9_paste_85 (fun z_135 u_133 hp_134 => ?_)
                  obtain ⟨hz_135, hxz_135, hp_134⟩ := hp_134
                  subst hp_134
                  refine z_if_ne (tgt := 94) (u := z_135.toInt) E dX9_paste_88 (by decide) rfl (fun h_137 => ?_) (fun h_137 => ?_)
                  ·
                    refine s_aload E dX9_paste_94 rfl ?_
                    refine s_gR (r := 64) E fg_X9_438 rfl rfl (jv_lt hJ (by decide)) (jv_r hJ (by decide +kernel)) dX9_paste_96 ?_
                    refine s_iload_n E dX9_paste_99 rfl rfl ?_
                    refine s_aload E dX9_paste_100 rfl ?_
                    refine s_gR (r := 62) E fg_X9_438 rfl rfl (jv_lt hJ (by decide)) (jv_r hJ (by decide +kernel)) dX9_paste_102 ?_
                    refine s_iload E dX9_paste_105 rfl ?_
                    refine s_iload E dX9_paste_107 rfl ?_
                    refine z_copy101 (S := []) (u1 := x2.toInt) (u2 := x4.toInt) (u3 := x5.toInt) E k_1234 k_538 k_537 k_17 rfl rfl (jv_lt hJ (by decide)) (jv_lt hJ (by decide)) rfl rfl rfl (by omega) (by omega) (by omega) (by omega) (by omega) (Nat.le_of_ble_eq_true rfl) (Nat.le_of_ble_eq_true rfl) dX9_paste_109 ?_
                    refine s_gen (P := fun v => Jv w v ∧ (v.2.2.1 63 2).toInt = (w.2.2.1 63 2).toInt ∧ (v.2.2.1 61 2).toInt = (w.2.2.1 61 2).toInt) ⟨(jv_SL hJ (by decide)), rfl, rfl⟩ (fun v_138 hj_139 => ?_)
                    obtain ⟨hj_139, hk_140k0, hk_140k1⟩ := hj_139
                    refine s_iconst (v := 0) E dX9_paste_112 (by decide) ?_
                    exact r_int E dX9_paste_113 ⟨⟨by decide, by decide, by first | (left; decide) | (right; decide) | (right; have hb_ := z32 x1; omega), by first | (left; decide) | (right; decide) | (right; have hb_ := z32 x2; omega), by first | (left; decide) | (right; decide) | (right; have hb_ := z32 x3; omega), by first | (left; decide) | (right; decide) | (right; have hb_ := z32 x4; omega), by first | (left; decide) | (right; decide) | (right; have hb_ := z32 x5; omega)⟩, (by have hrc_ : (0 : Int32).toInt = 0 := (by decide); have k0_ : (0 : Int32).toInt = 0 := (by decide); have k1_ : (1 : Int32).toInt = 1 := (by decide); have k2_ : (2 : Int32).toInt = 2 := (by decide); have k3_ : (3 : Int32).toInt = 3 := (by decide); refine ⟨?_, ?_, ?_, ?_, ?_, ?_, ?_, ?_, ?_, ?_, ?_, ?_, ?_, ?_, ?_, ?_, ?_⟩ <;> intros <;> omega), hj_139⟩
                  ·
                    refine s_bipush (v := (-7)) E dX9_paste_91 (by decide) ?_
                    exact r_int E dX9_paste_93 ⟨⟨by decide, by decide, by first | (left; decide) | (right; decide) | (right; have hb_ := z32 x1; omega), by first | (left; decide) | (right; decide) | (right; have hb_ := z32 x2; omega), by first | (left; decide) | (right; decide) | (right; have hb_ := z32 x3; omega), by first | (left; decide) | (right; decide) | (right; have hb_ := z32 x4; omega), by first | (left; decide) | (right; decide) | (right; have hb_ := z32 x5; omega)⟩, (by have hrc_ : ((-7) : Int32).toInt = (-7) := (by decide); have k0_ : (0 : Int32).toInt = 0 := (by decide); have k1_ : (1 : Int32).toInt = 1 := (by decide); have k2_ : (2 : Int32).toInt = 2 := (by decide); have k3_ : (3 : Int32).toInt = 3 := (by decide); refine ⟨?_, ?_, ?_, ?_, ?_, ?_, ?_, ?_, ?_, ?_, ?_, ?_, ?_, ?_, ?_, ?_, ?_⟩ <;> intros <;> omega), hJ⟩
              ·
                refine s_bipush (v := (-8)) E dX9_paste_65 (by decide) ?_
                exact r_int E dX9_paste_67 ⟨⟨by decide, by decide, by first | (left; decide) | (right; decide) | (right; have hb_ := z32 x1; omega), by first | (left; decide) | (right; decide) | (right; have hb_ := z32 x2; omega), by first | (left; decide) | (right; decide) | (right; have hb_ := z32 x3; omega), by first | (left; decide) | (right; decide) | (right; have hb_ := z32 x4; omega), by first | (left; decide) | (right; decide) | (right; have hb_ := z32 x5; omega)⟩, (by have hrc_ : ((-8) : Int32).toInt = (-8) := (by decide); have k0_ : (0 : Int32).toInt = 0 := (by decide); have k1_ : (1 : Int32).toInt = 1 := (by decide); have k2_ : (2 : Int32).toInt = 2 := (by decide); have k3_ : (3 : Int32).toInt = 3 := (by decide); refine ⟨?_, ?_, ?_, ?_, ?_, ?_, ?_, ?_, ?_, ?_, ?_, ?_, ?_, ?_, ?_, ?_, ?_⟩ <;> intros <;> omega), hJ⟩
            ·
              refine s_bipush (v := (-6)) E dX9_paste_49 (by decide) ?_
              exact r_int E dX9_paste_51 ⟨⟨by decide, by decide, by first | (left; decide) | (right; decide) | (right; have hb_ := z32 x1; omega), by first | (left; decide) | (right; decide) | (right; have hb_ := z32 x2; omega), by first | (left; decide) | (right; decide) | (right; have hb_ := z32 x3; omega), by first | (left; decide) | (right; decide) | (right; have hb_ := z32 x4; omega), by first | (left; decide) | (right; decide) | (right; have hb_ := z32 x5; omega)⟩, (by have hrc_ : ((-6) : Int32).toInt = (-6) := (by decide); have k0_ : (0 : Int32).toInt = 0 := (by decide); have k1_ : (1 : Int32).toInt = 1 := (by decide); have k2_ : (2 : Int32).toInt = 2 := (by decide); have k3_ : (3 : Int32).toInt = 3 := (by decide); refine ⟨?_, ?_, ?_, ?_, ?_, ?_, ?_, ?_, ?_, ?_, ?_, ?_, ?_, ?_, ?_, ?_, ?_⟩ <;> intros <;> omega), hJ⟩
        ·
          refine s_aald105 (r := 63) E rfl (jv_lt hJ (by decide)) (vp_c (by decide)) (jv_r hJ (by decide +kernel)) dX9_paste_30 ?_
          refine s_astore (L2 := [some (AR 0), some (AI 1), some (AI x2), some (AI 1), some (AI x4), some (AI x5), some (AR 63), some (AR 63)]) E dX9_paste_31 (by decide) rfl ?_
          refine s_aload E dX9_paste_33 rfl ?_
          refine s_vI (As := []) (S := []) E (Z_X7_isBare_63 l D aC b w  hJ.1 ) cv_X9_279 rfl rfl rfl (jv_lt hJ (by decide)) (Nat.le_of_ble_eq_true rfl) (Nat.le_of_ble_eq_true rfl) ⟨(Nat.le_of_ble_eq_true rfl), (Nat.le_of_ble_eq_true rfl)⟩ (Nat.le_of_ble_eq_true rfl) dX9_paste_35 (fun z_143 u_141 hp_142 => ?_)
          obtain ⟨hz_143, hxz_143, hp_142⟩ := hp_142
          subst hp_142
          refine z_if_ne (tgt := 49) (u := z_143.toInt) E dX9_paste_38 (by decide) rfl (fun h_145 => ?_) (fun h_145 => ?_)
          ·
            refine s_bipush (v := (-6)) E dX9_paste_49 (by decide) ?_
            exact r_int E dX9_paste_51 ⟨⟨by decide, by decide, by first | (left; decide) | (right; decide) | (right; have hb_ := z32 x1; omega), by first | (left; decide) | (right; decide) | (right; have hb_ := z32 x2; omega), by first | (left; decide) | (right; decide) | (right; have hb_ := z32 x3; omega), by first | (left; decide) | (right; decide) | (right; have hb_ := z32 x4; omega), by first | (left; decide) | (right; decide) | (right; have hb_ := z32 x5; omega)⟩, (by have hrc_ : ((-6) : Int32).toInt = (-6) := (by decide); have k0_ : (0 : Int32).toInt = 0 := (by decide); have k1_ : (1 : Int32).toInt = 1 := (by decide); have k2_ : (2 : Int32).toInt = 2 := (by decide); have k3_ : (3 : Int32).toInt = 3 := (by decide); refine ⟨?_, ?_, ?_, ?_, ?_, ?_, ?_, ?_, ?_, ?_, ?_, ?_, ?_, ?_, ?_, ?_, ?_⟩ <;> intros <;> omega), hJ⟩
          ·
            refine s_aload E dX9_paste_41 rfl ?_
            refine s_vI (As := []) (S := []) E (Z_X7_isBare_63 l D aC b w  hJ.1 ) cv_X9_279 rfl rfl rfl (jv_lt hJ (by decide)) (Nat.le_of_ble_eq_true rfl) (Nat.le_of_ble_eq_true rfl) ⟨(Nat.le_of_ble_eq_true rfl), (Nat.le_of_ble_eq_true rfl)⟩ (Nat.le_of_ble_eq_true rfl) dX9_paste_43 (fun z_148 u_146 hp_147 => ?_)
            obtain ⟨hz_148, hxz_148, hp_147⟩ := hp_147
            subst hp_147
            refine z_if_eq (tgt := 52) (u := z_148.toInt) E dX9_paste_46 (by decide) rfl (fun h_150 => ?_) (fun h_150 => ?_)
            ·
              refine s_aload E dX9_paste_52 rfl ?_
              refine s_gI E fg_X9_432 rfl rfl (jv_lt hJ (by decide)) dX9_paste_54 ?_
              refine z_nm (P := fun z => z.toInt = (w.2.2.1 63 1).toInt ∧ 0 ≤ z.toInt ∧ z.toInt ≤ 3) ⟨rfl, (rg_63_1 hJ)⟩ (fun z_151 hz_151 => ?_)
              refine s_aload E dX9_paste_57 rfl ?_
              refine s_gI E fg_X9_432 rfl rfl (jv_lt hJ (by decide)) dX9_paste_59 ?_
              refine z_nm (P := fun z => z.toInt = (w.2.2.1 63 1).toInt ∧ 0 ≤ z.toInt ∧ z.toInt ≤ 3) ⟨rfl, (rg_63_1 hJ)⟩ (fun z_152 hz_152 => ?_)
              refine z_icmp_eq (tgt := 68) (u := z_151.toInt) (v := z_152.toInt) E dX9_paste_62 (by decide) rfl rfl (fun h_153 => ?_) (fun h_153 => ?_)
              ·
                refine s_aload E dX9_paste_68 rfl ?_
                refine s_iload_n E dX9_paste_70 rfl rfl ?_
                refine s_iload E dX9_paste_71 rfl ?_
                refine s_vI (As := [AI x2, AI x5]) (S := []) E (Z_X7_hasStretch_63 l D aC b w x2 x5 hJ.1 ) cv_X9_435 rfl rfl rfl (jv_lt hJ (by decide)) (Nat.le_of_ble_eq_true rfl) (Nat.le_of_ble_eq_true rfl) ⟨(Nat.le_of_ble_eq_true rfl), (Nat.le_of_ble_eq_true rfl)⟩ (Nat.le_of_ble_eq_true rfl) dX9_paste_73 (fun z_156 u_154 hp_155 => ?_)
                obtain ⟨hz_156, hxz_156, hp_155⟩ := hp_155
                subst hp_155
                refine z_if_eq (tgt := 91) (u := z_156.toInt) E dX9_paste_76 (by decide) rfl (fun h_158 => ?_) (fun h_158 => ?_)
                ·
                  refine s_bipush (v := (-7)) E dX9_paste_91 (by decide) ?_
                  exact r_int E dX9_paste_93 ⟨⟨by decide, by decide, by first | (left; decide) | (right; decide) | (right; have hb_ := z32 x1; omega), by first | (left; decide) | (right; decide) | (right; have hb_ := z32 x2; omega), by first | (left; decide) | (right; decide) | (right; have hb_ := z32 x3; omega), by first | (left; decide) | (right; decide) | (right; have hb_ := z32 x4; omega), by first | (left; decide) | (right; decide) | (right; have hb_ := z32 x5; omega)⟩, (by have hrc_ : ((-7) : Int32).toInt = (-7) := (by decide); have k0_ : (0 : Int32).toInt = 0 := (by decide); have k1_ : (1 : Int32).toInt = 1 := (by decide); have k2_ : (2 : Int32).toInt = 2 := (by decide); have k3_ : (3 : Int32).toInt = 3 := (by decide); refine ⟨?_, ?_, ?_, ?_, ?_, ?_, ?_, ?_, ?_, ?_, ?_, ?_, ?_, ?_, ?_, ?_, ?_⟩ <;> intros <;> omega), hJ⟩
                ·
                  refine s_aload E dX9_paste_79 rfl ?_
                  refine s_iload E dX9_paste_81 rfl ?_
                  refine s_iload E dX9_paste_83 rfl ?_
                  refine s_vI (As := [AI x4, AI x5]) (S := []) E (Z_X7_hasStretch_63 l D aC b w x4 x5 hJ.1 ) cv_X9_435 rfl rfl rfl (jv_lt hJ (by decide)) (Nat.le_of_ble_eq_true rfl) (Nat.le_of_ble_eq_true rfl) ⟨(Nat.le_of_ble_eq_true rfl), (Nat.le_of_ble_eq_true rfl)⟩ (Nat.le_of_ble_eq_true rfl) dX9_paste_85 (fun z_161 u_159 hp_160 => ?_)
                  obtain ⟨hz_161, hxz_161, hp_160⟩ := hp_160
                  subst hp_160
                  refine z_if_ne (tgt := 94) (u := z_161.toInt) E dX9_paste_88 (by decide) rfl (fun h_163 => ?_) (fun h_163 => ?_)
                  ·
                    refine s_aload E dX9_paste_94 rfl ?_
                    refine s_gR (r := 64) E fg_X9_438 rfl rfl (jv_lt hJ (by decide)) (jv_r hJ (by decide +kernel)) dX9_paste_96 ?_
                    refine s_iload_n E dX9_paste_99 rfl rfl ?_
                    refine s_aload E dX9_paste_100 rfl ?_
                    refine s_gR (r := 64) E fg_X9_438 rfl rfl (jv_lt hJ (by decide)) (jv_r hJ (by decide +kernel)) dX9_paste_102 ?_
                    refine s_iload E dX9_paste_105 rfl ?_
                    refine s_iload E dX9_paste_107 rfl ?_
                    refine z_copy101 (S := []) (u1 := x2.toInt) (u2 := x4.toInt) (u3 := x5.toInt) E k_1234 k_538 k_537 k_17 rfl rfl (jv_lt hJ (by decide)) (jv_lt hJ (by decide)) rfl rfl rfl (by omega) (by omega) (by omega) (by omega) (by omega) (Nat.le_of_ble_eq_true rfl) (Nat.le_of_ble_eq_true rfl) dX9_paste_109 ?_
                    refine s_gen (P := fun v => Jv w v ∧ (v.2.2.1 63 2).toInt = (w.2.2.1 63 2).toInt) ⟨(jv_SL hJ (by decide)), rfl⟩ (fun v_164 hj_165 => ?_)
                    obtain ⟨hj_165, hk_166k0⟩ := hj_165
                    refine s_iconst (v := 0) E dX9_paste_112 (by decide) ?_
                    exact r_int E dX9_paste_113 ⟨⟨by decide, by decide, by first | (left; decide) | (right; decide) | (right; have hb_ := z32 x1; omega), by first | (left; decide) | (right; decide) | (right; have hb_ := z32 x2; omega), by first | (left; decide) | (right; decide) | (right; have hb_ := z32 x3; omega), by first | (left; decide) | (right; decide) | (right; have hb_ := z32 x4; omega), by first | (left; decide) | (right; decide) | (right; have hb_ := z32 x5; omega)⟩, (by have hrc_ : (0 : Int32).toInt = 0 := (by decide); have k0_ : (0 : Int32).toInt = 0 := (by decide); have k1_ : (1 : Int32).toInt = 1 := (by decide); have k2_ : (2 : Int32).toInt = 2 := (by decide); have k3_ : (3 : Int32).toInt = 3 := (by decide); refine ⟨?_, ?_, ?_, ?_, ?_, ?_, ?_, ?_, ?_, ?_, ?_, ?_, ?_, ?_, ?_, ?_, ?_⟩ <;> intros <;> omega), hj_165⟩
                  ·
                    refine s_bipush (v := (-7)) E dX9_paste_91 (by decide) ?_
                    exact r_int E dX9_paste_93 ⟨⟨by decide, by decide, by first | (left; decide) | (right; decide) | (right; have hb_ := z32 x1; omega), by first | (left; decide) | (right; decide) | (right; have hb_ := z32 x2; omega), by first | (left; decide) | (right; decide) | (right; have hb_ := z32 x3; omega), by first | (left; decide) | (right; decide) | (right; have hb_ := z32 x4; omega), by first | (left; decide) | (right; decide) | (right; have hb_ := z32 x5; omega)⟩, (by have hrc_ : ((-7) : Int32).toInt = (-7) := (by decide); have k0_ : (0 : Int32).toInt = 0 := (by decide); have k1_ : (1 : Int32).toInt = 1 := (by decide); have k2_ : (2 : Int32).toInt = 2 := (by decide); have k3_ : (3 : Int32).toInt = 3 := (by decide); refine ⟨?_, ?_, ?_, ?_, ?_, ?_, ?_, ?_, ?_, ?_, ?_, ?_, ?_, ?_, ?_, ?_, ?_⟩ <;> intros <;> omega), hJ⟩
              ·
                refine s_bipush (v := (-8)) E dX9_paste_65 (by decide) ?_
                exact r_int E dX9_paste_67 ⟨⟨by decide, by decide, by first | (left; decide) | (right; decide) | (right; have hb_ := z32 x1; omega), by first | (left; decide) | (right; decide) | (right; have hb_ := z32 x2; omega), by first | (left; decide) | (right; decide) | (right; have hb_ := z32 x3; omega), by first | (left; decide) | (right; decide) | (right; have hb_ := z32 x4; omega), by first | (left; decide) | (right; decide) | (right; have hb_ := z32 x5; omega)⟩, (by have hrc_ : ((-8) : Int32).toInt = (-8) := (by decide); have k0_ : (0 : Int32).toInt = 0 := (by decide); have k1_ : (1 : Int32).toInt = 1 := (by decide); have k2_ : (2 : Int32).toInt = 2 := (by decide); have k3_ : (3 : Int32).toInt = 3 := (by decide); refine ⟨?_, ?_, ?_, ?_, ?_, ?_, ?_, ?_, ?_, ?_, ?_, ?_, ?_, ?_, ?_, ?_, ?_⟩ <;> intros <;> omega), hJ⟩
            ·
              refine s_bipush (v := (-6)) E dX9_paste_49 (by decide) ?_
              exact r_int E dX9_paste_51 ⟨⟨by decide, by decide, by first | (left; decide) | (right; decide) | (right; have hb_ := z32 x1; omega), by first | (left; decide) | (right; decide) | (right; have hb_ := z32 x2; omega), by first | (left; decide) | (right; decide) | (right; have hb_ := z32 x3; omega), by first | (left; decide) | (right; decide) | (right; have hb_ := z32 x4; omega), by first | (left; decide) | (right; decide) | (right; have hb_ := z32 x5; omega)⟩, (by have hrc_ : ((-6) : Int32).toInt = (-6) := (by decide); have k0_ : (0 : Int32).toInt = 0 := (by decide); have k1_ : (1 : Int32).toInt = 1 := (by decide); have k2_ : (2 : Int32).toInt = 2 := (by decide); have k3_ : (3 : Int32).toInt = 3 := (by decide); refine ⟨?_, ?_, ?_, ?_, ?_, ?_, ?_, ?_, ?_, ?_, ?_, ?_, ?_, ?_, ?_, ?_, ?_⟩ <;> intros <;> omega), hJ⟩
        ·
          refine s_aald105 (r := 65) E rfl (jv_lt hJ (by decide)) (vp_c (by decide)) (jv_r hJ (by decide +kernel)) dX9_paste_30 ?_
          refine s_astore (L2 := [some (AR 0), some (AI 1), some (AI x2), some (AI 2), some (AI x4), some (AI x5), some (AR 63), some (AR 65)]) E dX9_paste_31 (by decide) rfl ?_
          refine s_aload E dX9_paste_33 rfl ?_
          refine s_vI (As := []) (S := []) E (Z_X7_isBare_63 l D aC b w  hJ.1 ) cv_X9_279 rfl rfl rfl (jv_lt hJ (by decide)) (Nat.le_of_ble_eq_true rfl) (Nat.le_of_ble_eq_true rfl) ⟨(Nat.le_of_ble_eq_true rfl), (Nat.le_of_ble_eq_true rfl)⟩ (Nat.le_of_ble_eq_true rfl) dX9_paste_35 (fun z_169 u_167 hp_168 => ?_)
          obtain ⟨hz_169, hxz_169, hp_168⟩ := hp_168
          subst hp_168
          refine z_if_ne (tgt := 49) (u := z_169.toInt) E dX9_paste_38 (by decide) rfl (fun h_171 => ?_) (fun h_171 => ?_)
          ·
            refine s_bipush (v := (-6)) E dX9_paste_49 (by decide) ?_
            exact r_int E dX9_paste_51 ⟨⟨by decide, by decide, by first | (left; decide) | (right; decide) | (right; have hb_ := z32 x1; omega), by first | (left; decide) | (right; decide) | (right; have hb_ := z32 x2; omega), by first | (left; decide) | (right; decide) | (right; have hb_ := z32 x3; omega), by first | (left; decide) | (right; decide) | (right; have hb_ := z32 x4; omega), by first | (left; decide) | (right; decide) | (right; have hb_ := z32 x5; omega)⟩, (by have hrc_ : ((-6) : Int32).toInt = (-6) := (by decide); have k0_ : (0 : Int32).toInt = 0 := (by decide); have k1_ : (1 : Int32).toInt = 1 := (by decide); have k2_ : (2 : Int32).toInt = 2 := (by decide); have k3_ : (3 : Int32).toInt = 3 := (by decide); refine ⟨?_, ?_, ?_, ?_, ?_, ?_, ?_, ?_, ?_, ?_, ?_, ?_, ?_, ?_, ?_, ?_, ?_⟩ <;> intros <;> omega), hJ⟩
          ·
            refine s_aload E dX9_paste_41 rfl ?_
            refine s_vI (As := []) (S := []) E (Z_X7_isBare_65 l D aC b w  hJ.1 ) cv_X9_279 rfl rfl rfl (jv_lt hJ (by decide)) (Nat.le_of_ble_eq_true rfl) (Nat.le_of_ble_eq_true rfl) ⟨(Nat.le_of_ble_eq_true rfl), (Nat.le_of_ble_eq_true rfl)⟩ (Nat.le_of_ble_eq_true rfl) dX9_paste_43 (fun z_174 u_172 hp_173 => ?_)
            obtain ⟨hz_174, hxz_174, hp_173⟩ := hp_173
            subst hp_173
            refine z_if_eq (tgt := 52) (u := z_174.toInt) E dX9_paste_46 (by decide) rfl (fun h_176 => ?_) (fun h_176 => ?_)
            ·
              refine s_aload E dX9_paste_52 rfl ?_
              refine s_gI E fg_X9_432 rfl rfl (jv_lt hJ (by decide)) dX9_paste_54 ?_
              refine z_nm (P := fun z => z.toInt = (w.2.2.1 63 1).toInt ∧ 0 ≤ z.toInt ∧ z.toInt ≤ 3) ⟨rfl, (rg_63_1 hJ)⟩ (fun z_177 hz_177 => ?_)
              refine s_aload E dX9_paste_57 rfl ?_
              refine s_gI E fg_X9_432 rfl rfl (jv_lt hJ (by decide)) dX9_paste_59 ?_
              refine z_nm (P := fun z => z.toInt = (w.2.2.1 65 1).toInt ∧ 0 ≤ z.toInt ∧ z.toInt ≤ 3) ⟨rfl, (rg_65_1 hJ)⟩ (fun z_178 hz_178 => ?_)
              refine z_icmp_eq (tgt := 68) (u := z_177.toInt) (v := z_178.toInt) E dX9_paste_62 (by decide) rfl rfl (fun h_179 => ?_) (fun h_179 => ?_)
              ·
                refine s_aload E dX9_paste_68 rfl ?_
                refine s_iload_n E dX9_paste_70 rfl rfl ?_
                refine s_iload E dX9_paste_71 rfl ?_
                refine s_vI (As := [AI x2, AI x5]) (S := []) E (Z_X7_hasStretch_63 l D aC b w x2 x5 hJ.1 ) cv_X9_435 rfl rfl rfl (jv_lt hJ (by decide)) (Nat.le_of_ble_eq_true rfl) (Nat.le_of_ble_eq_true rfl) ⟨(Nat.le_of_ble_eq_true rfl), (Nat.le_of_ble_eq_true rfl)⟩ (Nat.le_of_ble_eq_true rfl) dX9_paste_73 (fun z_182 u_180 hp_181 => ?_)
                obtain ⟨hz_182, hxz_182, hp_181⟩ := hp_181
                subst hp_181
                refine z_if_eq (tgt := 91) (u := z_182.toInt) E dX9_paste_76 (by decide) rfl (fun h_184 => ?_) (fun h_184 => ?_)
                ·
                  refine s_bipush (v := (-7)) E dX9_paste_91 (by decide) ?_
                  exact r_int E dX9_paste_93 ⟨⟨by decide, by decide, by first | (left; decide) | (right; decide) | (right; have hb_ := z32 x1; omega), by first | (left; decide) | (right; decide) | (right; have hb_ := z32 x2; omega), by first | (left; decide) | (right; decide) | (right; have hb_ := z32 x3; omega), by first | (left; decide) | (right; decide) | (right; have hb_ := z32 x4; omega), by first | (left; decide) | (right; decide) | (right; have hb_ := z32 x5; omega)⟩, (by have hrc_ : ((-7) : Int32).toInt = (-7) := (by decide); have k0_ : (0 : Int32).toInt = 0 := (by decide); have k1_ : (1 : Int32).toInt = 1 := (by decide); have k2_ : (2 : Int32).toInt = 2 := (by decide); have k3_ : (3 : Int32).toInt = 3 := (by decide); refine ⟨?_, ?_, ?_, ?_, ?_, ?_, ?_, ?_, ?_, ?_, ?_, ?_, ?_, ?_, ?_, ?_, ?_⟩ <;> intros <;> omega), hJ⟩
                ·
                  refine s_aload E dX9_paste_79 rfl ?_
                  refine s_iload E dX9_paste_81 rfl ?_
                  refine s_iload E dX9_paste_83 rfl ?_
                  refine s_vI (As := [AI x4, AI x5]) (S := []) E (Z_X7_hasStretch_65 l D aC b w x4 x5 hJ.1 ) cv_X9_435 rfl rfl rfl (jv_lt hJ (by decide)) (Nat.le_of_ble_eq_true rfl) (Nat.le_of_ble_eq_true rfl) ⟨(Nat.le_of_ble_eq_true rfl), (Nat.le_of_ble_eq_true rfl)⟩ (Nat.le_of_ble_eq_true rfl) dX9_paste_85 (fun z_187 u_185 hp_186 => ?_)
                  obtain ⟨hz_187, hxz_187, hp_186⟩ := hp_186
                  subst hp_186
                  refine z_if_ne (tgt := 94) (u := z_187.toInt) E dX9_paste_88 (by decide) rfl (fun h_189 => ?_) (fun h_189 => ?_)
                  ·
                    refine s_aload E dX9_paste_94 rfl ?_
                    refine s_gR (r := 64) E fg_X9_438 rfl rfl (jv_lt hJ (by decide)) (jv_r hJ (by decide +kernel)) dX9_paste_96 ?_
                    refine s_iload_n E dX9_paste_99 rfl rfl ?_
                    refine s_aload E dX9_paste_100 rfl ?_
                    refine s_gR (r := 66) E fg_X9_438 rfl rfl (jv_lt hJ (by decide)) (jv_r hJ (by decide +kernel)) dX9_paste_102 ?_
                    refine s_iload E dX9_paste_105 rfl ?_
                    refine s_iload E dX9_paste_107 rfl ?_
                    refine z_copy101 (S := []) (u1 := x2.toInt) (u2 := x4.toInt) (u3 := x5.toInt) E k_1234 k_538 k_537 k_17 rfl rfl (jv_lt hJ (by decide)) (jv_lt hJ (by decide)) rfl rfl rfl (by omega) (by omega) (by omega) (by omega) (by omega) (Nat.le_of_ble_eq_true rfl) (Nat.le_of_ble_eq_true rfl) dX9_paste_109 ?_
                    refine s_gen (P := fun v => Jv w v ∧ (v.2.2.1 63 2).toInt = (w.2.2.1 63 2).toInt ∧ (v.2.2.1 65 2).toInt = (w.2.2.1 65 2).toInt) ⟨(jv_SL hJ (by decide)), rfl, rfl⟩ (fun v_190 hj_191 => ?_)
                    obtain ⟨hj_191, hk_192k0, hk_192k1⟩ := hj_191
                    refine s_iconst (v := 0) E dX9_paste_112 (by decide) ?_
                    exact r_int E dX9_paste_113 ⟨⟨by decide, by decide, by first | (left; decide) | (right; decide) | (right; have hb_ := z32 x1; omega), by first | (left; decide) | (right; decide) | (right; have hb_ := z32 x2; omega), by first | (left; decide) | (right; decide) | (right; have hb_ := z32 x3; omega), by first | (left; decide) | (right; decide) | (right; have hb_ := z32 x4; omega), by first | (left; decide) | (right; decide) | (right; have hb_ := z32 x5; omega)⟩, (by have hrc_ : (0 : Int32).toInt = 0 := (by decide); have k0_ : (0 : Int32).toInt = 0 := (by decide); have k1_ : (1 : Int32).toInt = 1 := (by decide); have k2_ : (2 : Int32).toInt = 2 := (by decide); have k3_ : (3 : Int32).toInt = 3 := (by decide); refine ⟨?_, ?_, ?_, ?_, ?_, ?_, ?_, ?_, ?_, ?_, ?_, ?_, ?_, ?_, ?_, ?_, ?_⟩ <;> intros <;> omega), hj_191⟩
                  ·
                    refine s_bipush (v := (-7)) E dX9_paste_91 (by decide) ?_
                    exact r_int E dX9_paste_93 ⟨⟨by decide, by decide, by first | (left; decide) | (right; decide) | (right; have hb_ := z32 x1; omega), by first | (left; decide) | (right; decide) | (right; have hb_ := z32 x2; omega), by first | (left; decide) | (right; decide) | (right; have hb_ := z32 x3; omega), by first | (left; decide) | (right; decide) | (right; have hb_ := z32 x4; omega), by first | (left; decide) | (right; decide) | (right; have hb_ := z32 x5; omega)⟩, (by have hrc_ : ((-7) : Int32).toInt = (-7) := (by decide); have k0_ : (0 : Int32).toInt = 0 := (by decide); have k1_ : (1 : Int32).toInt = 1 := (by decide); have k2_ : (2 : Int32).toInt = 2 := (by decide); have k3_ : (3 : Int32).toInt = 3 := (by decide); refine ⟨?_, ?_, ?_, ?_, ?_, ?_, ?_, ?_, ?_, ?_, ?_, ?_, ?_, ?_, ?_, ?_, ?_⟩ <;> intros <;> omega), hJ⟩
              ·
                refine s_bipush (v := (-8)) E dX9_paste_65 (by decide) ?_
                exact r_int E dX9_paste_67 ⟨⟨by decide, by decide, by first | (left; decide) | (right; decide) | (right; have hb_ := z32 x1; omega), by first | (left; decide) | (right; decide) | (right; have hb_ := z32 x2; omega), by first | (left; decide) | (right; decide) | (right; have hb_ := z32 x3; omega), by first | (left; decide) | (right; decide) | (right; have hb_ := z32 x4; omega), by first | (left; decide) | (right; decide) | (right; have hb_ := z32 x5; omega)⟩, (by have hrc_ : ((-8) : Int32).toInt = (-8) := (by decide); have k0_ : (0 : Int32).toInt = 0 := (by decide); have k1_ : (1 : Int32).toInt = 1 := (by decide); have k2_ : (2 : Int32).toInt = 2 := (by decide); have k3_ : (3 : Int32).toInt = 3 := (by decide); refine ⟨?_, ?_, ?_, ?_, ?_, ?_, ?_, ?_, ?_, ?_, ?_, ?_, ?_, ?_, ?_, ?_, ?_⟩ <;> intros <;> omega), hJ⟩
            ·
              refine s_bipush (v := (-6)) E dX9_paste_49 (by decide) ?_
              exact r_int E dX9_paste_51 ⟨⟨by decide, by decide, by first | (left; decide) | (right; decide) | (right; have hb_ := z32 x1; omega), by first | (left; decide) | (right; decide) | (right; have hb_ := z32 x2; omega), by first | (left; decide) | (right; decide) | (right; have hb_ := z32 x3; omega), by first | (left; decide) | (right; decide) | (right; have hb_ := z32 x4; omega), by first | (left; decide) | (right; decide) | (right; have hb_ := z32 x5; omega)⟩, (by have hrc_ : ((-6) : Int32).toInt = (-6) := (by decide); have k0_ : (0 : Int32).toInt = 0 := (by decide); have k1_ : (1 : Int32).toInt = 1 := (by decide); have k2_ : (2 : Int32).toInt = 2 := (by decide); have k3_ : (3 : Int32).toInt = 3 := (by decide); refine ⟨?_, ?_, ?_, ?_, ?_, ?_, ?_, ?_, ?_, ?_, ?_, ?_, ?_, ?_, ?_, ?_, ?_⟩ <;> intros <;> omega), hJ⟩
        ·
          refine s_aald105 (r := 67) E rfl (jv_lt hJ (by decide)) (vp_c (by decide)) (jv_r hJ (by decide +kernel)) dX9_paste_30 ?_
          refine s_astore (L2 := [some (AR 0), some (AI 1), some (AI x2), some (AI 3), some (AI x4), some (AI x5), some (AR 63), some (AR 67)]) E dX9_paste_31 (by decide) rfl ?_
          refine s_aload E dX9_paste_33 rfl ?_
          refine s_vI (As := []) (S := []) E (Z_X7_isBare_63 l D aC b w  hJ.1 ) cv_X9_279 rfl rfl rfl (jv_lt hJ (by decide)) (Nat.le_of_ble_eq_true rfl) (Nat.le_of_ble_eq_true rfl) ⟨(Nat.le_of_ble_eq_true rfl), (Nat.le_of_ble_eq_true rfl)⟩ (Nat.le_of_ble_eq_true rfl) dX9_paste_35 (fun z_195 u_193 hp_194 => ?_)
          obtain ⟨hz_195, hxz_195, hp_194⟩ := hp_194
          subst hp_194
          refine z_if_ne (tgt := 49) (u := z_195.toInt) E dX9_paste_38 (by decide) rfl (fun h_197 => ?_) (fun h_197 => ?_)
          ·
            refine s_bipush (v := (-6)) E dX9_paste_49 (by decide) ?_
            exact r_int E dX9_paste_51 ⟨⟨by decide, by decide, by first | (left; decide) | (right; decide) | (right; have hb_ := z32 x1; omega), by first | (left; decide) | (right; decide) | (right; have hb_ := z32 x2; omega), by first | (left; decide) | (right; decide) | (right; have hb_ := z32 x3; omega), by first | (left; decide) | (right; decide) | (right; have hb_ := z32 x4; omega), by first | (left; decide) | (right; decide) | (right; have hb_ := z32 x5; omega)⟩, (by have hrc_ : ((-6) : Int32).toInt = (-6) := (by decide); have k0_ : (0 : Int32).toInt = 0 := (by decide); have k1_ : (1 : Int32).toInt = 1 := (by decide); have k2_ : (2 : Int32).toInt = 2 := (by decide); have k3_ : (3 : Int32).toInt = 3 := (by decide); refine ⟨?_, ?_, ?_, ?_, ?_, ?_, ?_, ?_, ?_, ?_, ?_, ?_, ?_, ?_, ?_, ?_, ?_⟩ <;> intros <;> omega), hJ⟩
          ·
            refine s_aload E dX9_paste_41 rfl ?_
            refine s_vI (As := []) (S := []) E (Z_X7_isBare_67 l D aC b w  hJ.1 ) cv_X9_279 rfl rfl rfl (jv_lt hJ (by decide)) (Nat.le_of_ble_eq_true rfl) (Nat.le_of_ble_eq_true rfl) ⟨(Nat.le_of_ble_eq_true rfl), (Nat.le_of_ble_eq_true rfl)⟩ (Nat.le_of_ble_eq_true rfl) dX9_paste_43 (fun z_200 u_198 hp_199 => ?_)
            obtain ⟨hz_200, hxz_200, hp_199⟩ := hp_199
            subst hp_199
            refine z_if_eq (tgt := 52) (u := z_200.toInt) E dX9_paste_46 (by decide) rfl (fun h_202 => ?_) (fun h_202 => ?_)
            ·
              refine s_aload E dX9_paste_52 rfl ?_
              refine s_gI E fg_X9_432 rfl rfl (jv_lt hJ (by decide)) dX9_paste_54 ?_
              refine z_nm (P := fun z => z.toInt = (w.2.2.1 63 1).toInt ∧ 0 ≤ z.toInt ∧ z.toInt ≤ 3) ⟨rfl, (rg_63_1 hJ)⟩ (fun z_203 hz_203 => ?_)
              refine s_aload E dX9_paste_57 rfl ?_
              refine s_gI E fg_X9_432 rfl rfl (jv_lt hJ (by decide)) dX9_paste_59 ?_
              refine z_nm (P := fun z => z.toInt = (w.2.2.1 67 1).toInt ∧ 0 ≤ z.toInt ∧ z.toInt ≤ 3) ⟨rfl, (rg_67_1 hJ)⟩ (fun z_204 hz_204 => ?_)
              refine z_icmp_eq (tgt := 68) (u := z_203.toInt) (v := z_204.toInt) E dX9_paste_62 (by decide) rfl rfl (fun h_205 => ?_) (fun h_205 => ?_)
              ·
                refine s_aload E dX9_paste_68 rfl ?_
                refine s_iload_n E dX9_paste_70 rfl rfl ?_
                refine s_iload E dX9_paste_71 rfl ?_
                refine s_vI (As := [AI x2, AI x5]) (S := []) E (Z_X7_hasStretch_63 l D aC b w x2 x5 hJ.1 ) cv_X9_435 rfl rfl rfl (jv_lt hJ (by decide)) (Nat.le_of_ble_eq_true rfl) (Nat.le_of_ble_eq_true rfl) ⟨(Nat.le_of_ble_eq_true rfl), (Nat.le_of_ble_eq_true rfl)⟩ (Nat.le_of_ble_eq_true rfl) dX9_paste_73 (fun z_208 u_206 hp_207 => ?_)
                obtain ⟨hz_208, hxz_208, hp_207⟩ := hp_207
                subst hp_207
                refine z_if_eq (tgt := 91) (u := z_208.toInt) E dX9_paste_76 (by decide) rfl (fun h_210 => ?_) (fun h_210 => ?_)
                ·
                  refine s_bipush (v := (-7)) E dX9_paste_91 (by decide) ?_
                  exact r_int E dX9_paste_93 ⟨⟨by decide, by decide, by first | (left; decide) | (right; decide) | (right; have hb_ := z32 x1; omega), by first | (left; decide) | (right; decide) | (right; have hb_ := z32 x2; omega), by first | (left; decide) | (right; decide) | (right; have hb_ := z32 x3; omega), by first | (left; decide) | (right; decide) | (right; have hb_ := z32 x4; omega), by first | (left; decide) | (right; decide) | (right; have hb_ := z32 x5; omega)⟩, (by have hrc_ : ((-7) : Int32).toInt = (-7) := (by decide); have k0_ : (0 : Int32).toInt = 0 := (by decide); have k1_ : (1 : Int32).toInt = 1 := (by decide); have k2_ : (2 : Int32).toInt = 2 := (by decide); have k3_ : (3 : Int32).toInt = 3 := (by decide); refine ⟨?_, ?_, ?_, ?_, ?_, ?_, ?_, ?_, ?_, ?_, ?_, ?_, ?_, ?_, ?_, ?_, ?_⟩ <;> intros <;> omega), hJ⟩
                ·
                  refine s_aload E dX9_paste_79 rfl ?_
                  refine s_iload E dX9_paste_81 rfl ?_
                  refine s_iload E dX9_paste_83 rfl ?_
                  refine s_vI (As := [AI x4, AI x5]) (S := []) E (Z_X7_hasStretch_67 l D aC b w x4 x5 hJ.1 ) cv_X9_435 rfl rfl rfl (jv_lt hJ (by decide)) (Nat.le_of_ble_eq_true rfl) (Nat.le_of_ble_eq_true rfl) ⟨(Nat.le_of_ble_eq_true rfl), (Nat.le_of_ble_eq_true rfl)⟩ (Nat.le_of_ble_eq_true rfl) dX9_paste_85 (fun z_213 u_211 hp_212 => ?_)
                  obtain ⟨hz_213, hxz_213, hp_212⟩ := hp_212
                  subst hp_212
                  refine z_if_ne (tgt := 94) (u := z_213.toInt) E dX9_paste_88 (by decide) rfl (fun h_215 => ?_) (fun h_215 => ?_)
                  ·
                    refine s_aload E dX9_paste_94 rfl ?_
                    refine s_gR (r := 64) E fg_X9_438 rfl rfl (jv_lt hJ (by decide)) (jv_r hJ (by decide +kernel)) dX9_paste_96 ?_
                    refine s_iload_n E dX9_paste_99 rfl rfl ?_
                    refine s_aload E dX9_paste_100 rfl ?_
                    refine s_gR (r := 68) E fg_X9_438 rfl rfl (jv_lt hJ (by decide)) (jv_r hJ (by decide +kernel)) dX9_paste_102 ?_
                    refine s_iload E dX9_paste_105 rfl ?_
                    refine s_iload E dX9_paste_107 rfl ?_
                    refine z_copy101 (S := []) (u1 := x2.toInt) (u2 := x4.toInt) (u3 := x5.toInt) E k_1234 k_538 k_537 k_17 rfl rfl (jv_lt hJ (by decide)) (jv_lt hJ (by decide)) rfl rfl rfl (by omega) (by omega) (by omega) (by omega) (by omega) (Nat.le_of_ble_eq_true rfl) (Nat.le_of_ble_eq_true rfl) dX9_paste_109 ?_
                    refine s_gen (P := fun v => Jv w v ∧ (v.2.2.1 63 2).toInt = (w.2.2.1 63 2).toInt ∧ (v.2.2.1 67 2).toInt = (w.2.2.1 67 2).toInt) ⟨(jv_SL hJ (by decide)), rfl, rfl⟩ (fun v_216 hj_217 => ?_)
                    obtain ⟨hj_217, hk_218k0, hk_218k1⟩ := hj_217
                    refine s_iconst (v := 0) E dX9_paste_112 (by decide) ?_
                    exact r_int E dX9_paste_113 ⟨⟨by decide, by decide, by first | (left; decide) | (right; decide) | (right; have hb_ := z32 x1; omega), by first | (left; decide) | (right; decide) | (right; have hb_ := z32 x2; omega), by first | (left; decide) | (right; decide) | (right; have hb_ := z32 x3; omega), by first | (left; decide) | (right; decide) | (right; have hb_ := z32 x4; omega), by first | (left; decide) | (right; decide) | (right; have hb_ := z32 x5; omega)⟩, (by have hrc_ : (0 : Int32).toInt = 0 := (by decide); have k0_ : (0 : Int32).toInt = 0 := (by decide); have k1_ : (1 : Int32).toInt = 1 := (by decide); have k2_ : (2 : Int32).toInt = 2 := (by decide); have k3_ : (3 : Int32).toInt = 3 := (by decide); refine ⟨?_, ?_, ?_, ?_, ?_, ?_, ?_, ?_, ?_, ?_, ?_, ?_, ?_, ?_, ?_, ?_, ?_⟩ <;> intros <;> omega), hj_217⟩
                  ·
                    refine s_bipush (v := (-7)) E dX9_paste_91 (by decide) ?_
                    exact r_int E dX9_paste_93 ⟨⟨by decide, by decide, by first | (left; decide) | (right; decide) | (right; have hb_ := z32 x1; omega), by first | (left; decide) | (right; decide) | (right; have hb_ := z32 x2; omega), by first | (left; decide) | (right; decide) | (right; have hb_ := z32 x3; omega), by first | (left; decide) | (right; decide) | (right; have hb_ := z32 x4; omega), by first | (left; decide) | (right; decide) | (right; have hb_ := z32 x5; omega)⟩, (by have hrc_ : ((-7) : Int32).toInt = (-7) := (by decide); have k0_ : (0 : Int32).toInt = 0 := (by decide); have k1_ : (1 : Int32).toInt = 1 := (by decide); have k2_ : (2 : Int32).toInt = 2 := (by decide); have k3_ : (3 : Int32).toInt = 3 := (by decide); refine ⟨?_, ?_, ?_, ?_, ?_, ?_, ?_, ?_, ?_, ?_, ?_, ?_, ?_, ?_, ?_, ?_, ?_⟩ <;> intros <;> omega), hJ⟩
              ·
                refine s_bipush (v := (-8)) E dX9_paste_65 (by decide) ?_
                exact r_int E dX9_paste_67 ⟨⟨by decide, by decide, by first | (left; decide) | (right; decide) | (right; have hb_ := z32 x1; omega), by first | (left; decide) | (right; decide) | (right; have hb_ := z32 x2; omega), by first | (left; decide) | (right; decide) | (right; have hb_ := z32 x3; omega), by first | (left; decide) | (right; decide) | (right; have hb_ := z32 x4; omega), by first | (left; decide) | (right; decide) | (right; have hb_ := z32 x5; omega)⟩, (by have hrc_ : ((-8) : Int32).toInt = (-8) := (by decide); have k0_ : (0 : Int32).toInt = 0 := (by decide); have k1_ : (1 : Int32).toInt = 1 := (by decide); have k2_ : (2 : Int32).toInt = 2 := (by decide); have k3_ : (3 : Int32).toInt = 3 := (by decide); refine ⟨?_, ?_, ?_, ?_, ?_, ?_, ?_, ?_, ?_, ?_, ?_, ?_, ?_, ?_, ?_, ?_, ?_⟩ <;> intros <;> omega), hJ⟩
            ·
              refine s_bipush (v := (-6)) E dX9_paste_49 (by decide) ?_
              exact r_int E dX9_paste_51 ⟨⟨by decide, by decide, by first | (left; decide) | (right; decide) | (right; have hb_ := z32 x1; omega), by first | (left; decide) | (right; decide) | (right; have hb_ := z32 x2; omega), by first | (left; decide) | (right; decide) | (right; have hb_ := z32 x3; omega), by first | (left; decide) | (right; decide) | (right; have hb_ := z32 x4; omega), by first | (left; decide) | (right; decide) | (right; have hb_ := z32 x5; omega)⟩, (by have hrc_ : ((-6) : Int32).toInt = (-6) := (by decide); have k0_ : (0 : Int32).toInt = 0 := (by decide); have k1_ : (1 : Int32).toInt = 1 := (by decide); have k2_ : (2 : Int32).toInt = 2 := (by decide); have k3_ : (3 : Int32).toInt = 3 := (by decide); refine ⟨?_, ?_, ?_, ?_, ?_, ?_, ?_, ?_, ?_, ?_, ?_, ?_, ?_, ?_, ?_, ?_, ?_⟩ <;> intros <;> omega), hJ⟩
      ·
        refine s_aald105 (r := 65) E rfl (jv_lt hJ (by decide)) (vp_c (by decide)) (jv_r hJ (by decide +kernel)) dX9_paste_22 ?_
        refine s_astore (L2 := [some (AR 0), some (AI 2), some (AI x2), some (AI x3), some (AI x4), some (AI x5), some (AR 65), none]) E dX9_paste_23 (by decide) rfl ?_
        refine s_aload_n E dX9_paste_25 rfl rfl ?_
        refine s_gR (r := 60) E fg_X9_46 rfl rfl (jv_lt hJ (by decide)) (jv_r hJ (by decide +kernel)) dX9_paste_26 ?_
        refine s_iload_n E dX9_paste_29 rfl rfl ?_
        rcases (show x3 = 0 ∨ x3 = 1 ∨ x3 = 2 ∨ x3 = 3 from (z_cases4 (u := x3.toInt) rfl (by omega) (by omega))) with rfl | rfl | rfl | rfl
        ·
          refine s_aald105 (r := 61) E rfl (jv_lt hJ (by decide)) (vp_c (by decide)) (jv_r hJ (by decide +kernel)) dX9_paste_30 ?_
          refine s_astore (L2 := [some (AR 0), some (AI 2), some (AI x2), some (AI 0), some (AI x4), some (AI x5), some (AR 65), some (AR 61)]) E dX9_paste_31 (by decide) rfl ?_
          refine s_aload E dX9_paste_33 rfl ?_
          refine s_vI (As := []) (S := []) E (Z_X7_isBare_65 l D aC b w  hJ.1 ) cv_X9_279 rfl rfl rfl (jv_lt hJ (by decide)) (Nat.le_of_ble_eq_true rfl) (Nat.le_of_ble_eq_true rfl) ⟨(Nat.le_of_ble_eq_true rfl), (Nat.le_of_ble_eq_true rfl)⟩ (Nat.le_of_ble_eq_true rfl) dX9_paste_35 (fun z_221 u_219 hp_220 => ?_)
          obtain ⟨hz_221, hxz_221, hp_220⟩ := hp_220
          subst hp_220
          refine z_if_ne (tgt := 49) (u := z_221.toInt) E dX9_paste_38 (by decide) rfl (fun h_223 => ?_) (fun h_223 => ?_)
          ·
            refine s_bipush (v := (-6)) E dX9_paste_49 (by decide) ?_
            exact r_int E dX9_paste_51 ⟨⟨by decide, by decide, by first | (left; decide) | (right; decide) | (right; have hb_ := z32 x1; omega), by first | (left; decide) | (right; decide) | (right; have hb_ := z32 x2; omega), by first | (left; decide) | (right; decide) | (right; have hb_ := z32 x3; omega), by first | (left; decide) | (right; decide) | (right; have hb_ := z32 x4; omega), by first | (left; decide) | (right; decide) | (right; have hb_ := z32 x5; omega)⟩, (by have hrc_ : ((-6) : Int32).toInt = (-6) := (by decide); have k0_ : (0 : Int32).toInt = 0 := (by decide); have k1_ : (1 : Int32).toInt = 1 := (by decide); have k2_ : (2 : Int32).toInt = 2 := (by decide); have k3_ : (3 : Int32).toInt = 3 := (by decide); refine ⟨?_, ?_, ?_, ?_, ?_, ?_, ?_, ?_, ?_, ?_, ?_, ?_, ?_, ?_, ?_, ?_, ?_⟩ <;> intros <;> omega), hJ⟩
          ·
            refine s_aload E dX9_paste_41 rfl ?_
            refine s_vI (As := []) (S := []) E (Z_X7_isBare_61 l D aC b w  hJ.1 ) cv_X9_279 rfl rfl rfl (jv_lt hJ (by decide)) (Nat.le_of_ble_eq_true rfl) (Nat.le_of_ble_eq_true rfl) ⟨(Nat.le_of_ble_eq_true rfl), (Nat.le_of_ble_eq_true rfl)⟩ (Nat.le_of_ble_eq_true rfl) dX9_paste_43 (fun z_226 u_224 hp_225 => ?_)
            obtain ⟨hz_226, hxz_226, hp_225⟩ := hp_225
            subst hp_225
            refine z_if_eq (tgt := 52) (u := z_226.toInt) E dX9_paste_46 (by decide) rfl (fun h_228 => ?_) (fun h_228 => ?_)
            ·
              refine s_aload E dX9_paste_52 rfl ?_
              refine s_gI E fg_X9_432 rfl rfl (jv_lt hJ (by decide)) dX9_paste_54 ?_
              refine z_nm (P := fun z => z.toInt = (w.2.2.1 65 1).toInt ∧ 0 ≤ z.toInt ∧ z.toInt ≤ 3) ⟨rfl, (rg_65_1 hJ)⟩ (fun z_229 hz_229 => ?_)
              refine s_aload E dX9_paste_57 rfl ?_
              refine s_gI E fg_X9_432 rfl rfl (jv_lt hJ (by decide)) dX9_paste_59 ?_
              refine z_nm (P := fun z => z.toInt = (w.2.2.1 61 1).toInt ∧ 0 ≤ z.toInt ∧ z.toInt ≤ 3) ⟨rfl, (rg_61_1 hJ)⟩ (fun z_230 hz_230 => ?_)
              refine z_icmp_eq (tgt := 68) (u := z_229.toInt) (v := z_230.toInt) E dX9_paste_62 (by decide) rfl rfl (fun h_231 => ?_) (fun h_231 => ?_)
              ·
                refine s_aload E dX9_paste_68 rfl ?_
                refine s_iload_n E dX9_paste_70 rfl rfl ?_
                refine s_iload E dX9_paste_71 rfl ?_
                refine s_vI (As := [AI x2, AI x5]) (S := []) E (Z_X7_hasStretch_65 l D aC b w x2 x5 hJ.1 ) cv_X9_435 rfl rfl rfl (jv_lt hJ (by decide)) (Nat.le_of_ble_eq_true rfl) (Nat.le_of_ble_eq_true rfl) ⟨(Nat.le_of_ble_eq_true rfl), (Nat.le_of_ble_eq_true rfl)⟩ (Nat.le_of_ble_eq_true rfl) dX9_paste_73 (fun z_234 u_232 hp_233 => ?_)
                obtain ⟨hz_234, hxz_234, hp_233⟩ := hp_233
                subst hp_233
                refine z_if_eq (tgt := 91) (u := z_234.toInt) E dX9_paste_76 (by decide) rfl (fun h_236 => ?_) (fun h_236 => ?_)
                ·
                  refine s_bipush (v := (-7)) E dX9_paste_91 (by decide) ?_
                  exact r_int E dX9_paste_93 ⟨⟨by decide, by decide, by first | (left; decide) | (right; decide) | (right; have hb_ := z32 x1; omega), by first | (left; decide) | (right; decide) | (right; have hb_ := z32 x2; omega), by first | (left; decide) | (right; decide) | (right; have hb_ := z32 x3; omega), by first | (left; decide) | (right; decide) | (right; have hb_ := z32 x4; omega), by first | (left; decide) | (right; decide) | (right; have hb_ := z32 x5; omega)⟩, (by have hrc_ : ((-7) : Int32).toInt = (-7) := (by decide); have k0_ : (0 : Int32).toInt = 0 := (by decide); have k1_ : (1 : Int32).toInt = 1 := (by decide); have k2_ : (2 : Int32).toInt = 2 := (by decide); have k3_ : (3 : Int32).toInt = 3 := (by decide); refine ⟨?_, ?_, ?_, ?_, ?_, ?_, ?_, ?_, ?_, ?_, ?_, ?_, ?_, ?_, ?_, ?_, ?_⟩ <;> intros <;> omega), hJ⟩
                ·
                  refine s_aload E dX9_paste_79 rfl ?_
                  refine s_iload E dX9_paste_81 rfl ?_
                  refine s_iload E dX9_paste_83 rfl ?_
                  refine s_vI (As := [AI x4, AI x5]) (S := []) E (Z_X7_hasStretch_61 l D aC b w x4 x5 hJ.1 ) cv_X9_435 rfl rfl rfl (jv_lt hJ (by decide)) (Nat.le_of_ble_eq_true rfl) (Nat.le_of_ble_eq_true rfl) ⟨(Nat.le_of_ble_eq_true rfl), (Nat.le_of_ble_eq_true rfl)⟩ (Nat.le_of_ble_eq_true rfl) dX9_paste_85 (fun z_239 u_237 hp_238 => ?_)
                  obtain ⟨hz_239, hxz_239, hp_238⟩ := hp_238
                  subst hp_238
                  refine z_if_ne (tgt := 94) (u := z_239.toInt) E dX9_paste_88 (by decide) rfl (fun h_241 => ?_) (fun h_241 => ?_)
                  ·
                    refine s_aload E dX9_paste_94 rfl ?_
                    refine s_gR (r := 66) E fg_X9_438 rfl rfl (jv_lt hJ (by decide)) (jv_r hJ (by decide +kernel)) dX9_paste_96 ?_
                    refine s_iload_n E dX9_paste_99 rfl rfl ?_
                    refine s_aload E dX9_paste_100 rfl ?_
                    refine s_gR (r := 62) E fg_X9_438 rfl rfl (jv_lt hJ (by decide)) (jv_r hJ (by decide +kernel)) dX9_paste_102 ?_
                    refine s_iload E dX9_paste_105 rfl ?_
                    refine s_iload E dX9_paste_107 rfl ?_
                    refine z_copy101 (S := []) (u1 := x2.toInt) (u2 := x4.toInt) (u3 := x5.toInt) E k_1234 k_538 k_537 k_17 rfl rfl (jv_lt hJ (by decide)) (jv_lt hJ (by decide)) rfl rfl rfl (by omega) (by omega) (by omega) (by omega) (by omega) (Nat.le_of_ble_eq_true rfl) (Nat.le_of_ble_eq_true rfl) dX9_paste_109 ?_
                    refine s_gen (P := fun v => Jv w v ∧ (v.2.2.1 65 2).toInt = (w.2.2.1 65 2).toInt ∧ (v.2.2.1 61 2).toInt = (w.2.2.1 61 2).toInt) ⟨(jv_SL hJ (by decide)), rfl, rfl⟩ (fun v_242 hj_243 => ?_)
                    obtain ⟨hj_243, hk_244k0, hk_244k1⟩ := hj_243
                    refine s_iconst (v := 0) E dX9_paste_112 (by decide) ?_
                    exact r_int E dX9_paste_113 ⟨⟨by decide, by decide, by first | (left; decide) | (right; decide) | (right; have hb_ := z32 x1; omega), by first | (left; decide) | (right; decide) | (right; have hb_ := z32 x2; omega), by first | (left; decide) | (right; decide) | (right; have hb_ := z32 x3; omega), by first | (left; decide) | (right; decide) | (right; have hb_ := z32 x4; omega), by first | (left; decide) | (right; decide) | (right; have hb_ := z32 x5; omega)⟩, (by have hrc_ : (0 : Int32).toInt = 0 := (by decide); have k0_ : (0 : Int32).toInt = 0 := (by decide); have k1_ : (1 : Int32).toInt = 1 := (by decide); have k2_ : (2 : Int32).toInt = 2 := (by decide); have k3_ : (3 : Int32).toInt = 3 := (by decide); refine ⟨?_, ?_, ?_, ?_, ?_, ?_, ?_, ?_, ?_, ?_, ?_, ?_, ?_, ?_, ?_, ?_, ?_⟩ <;> intros <;> omega), hj_243⟩
                  ·
                    refine s_bipush (v := (-7)) E dX9_paste_91 (by decide) ?_
                    exact r_int E dX9_paste_93 ⟨⟨by decide, by decide, by first | (left; decide) | (right; decide) | (right; have hb_ := z32 x1; omega), by first | (left; decide) | (right; decide) | (right; have hb_ := z32 x2; omega), by first | (left; decide) | (right; decide) | (right; have hb_ := z32 x3; omega), by first | (left; decide) | (right; decide) | (right; have hb_ := z32 x4; omega), by first | (left; decide) | (right; decide) | (right; have hb_ := z32 x5; omega)⟩, (by have hrc_ : ((-7) : Int32).toInt = (-7) := (by decide); have k0_ : (0 : Int32).toInt = 0 := (by decide); have k1_ : (1 : Int32).toInt = 1 := (by decide); have k2_ : (2 : Int32).toInt = 2 := (by decide); have k3_ : (3 : Int32).toInt = 3 := (by decide); refine ⟨?_, ?_, ?_, ?_, ?_, ?_, ?_, ?_, ?_, ?_, ?_, ?_, ?_, ?_, ?_, ?_, ?_⟩ <;> intros <;> omega), hJ⟩
              ·
                refine s_bipush (v := (-8)) E dX9_paste_65 (by decide) ?_
                exact r_int E dX9_paste_67 ⟨⟨by decide, by decide, by first | (left; decide) | (right; decide) | (right; have hb_ := z32 x1; omega), by first | (left; decide) | (right; decide) | (right; have hb_ := z32 x2; omega), by first | (left; decide) | (right; decide) | (right; have hb_ := z32 x3; omega), by first | (left; decide) | (right; decide) | (right; have hb_ := z32 x4; omega), by first | (left; decide) | (right; decide) | (right; have hb_ := z32 x5; omega)⟩, (by have hrc_ : ((-8) : Int32).toInt = (-8) := (by decide); have k0_ : (0 : Int32).toInt = 0 := (by decide); have k1_ : (1 : Int32).toInt = 1 := (by decide); have k2_ : (2 : Int32).toInt = 2 := (by decide); have k3_ : (3 : Int32).toInt = 3 := (by decide); refine ⟨?_, ?_, ?_, ?_, ?_, ?_, ?_, ?_, ?_, ?_, ?_, ?_, ?_, ?_, ?_, ?_, ?_⟩ <;> intros <;> omega), hJ⟩
            ·
              refine s_bipush (v := (-6)) E dX9_paste_49 (by decide) ?_
              exact r_int E dX9_paste_51 ⟨⟨by decide, by decide, by first | (left; decide) | (right; decide) | (right; have hb_ := z32 x1; omega), by first | (left; decide) | (right; decide) | (right; have hb_ := z32 x2; omega), by first | (left; decide) | (right; decide) | (right; have hb_ := z32 x3; omega), by first | (left; decide) | (right; decide) | (right; have hb_ := z32 x4; omega), by first | (left; decide) | (right; decide) | (right; have hb_ := z32 x5; omega)⟩, (by have hrc_ : ((-6) : Int32).toInt = (-6) := (by decide); have k0_ : (0 : Int32).toInt = 0 := (by decide); have k1_ : (1 : Int32).toInt = 1 := (by decide); have k2_ : (2 : Int32).toInt = 2 := (by decide); have k3_ : (3 : Int32).toInt = 3 := (by decide); refine ⟨?_, ?_, ?_, ?_, ?_, ?_, ?_, ?_, ?_, ?_, ?_, ?_, ?_, ?_, ?_, ?_, ?_⟩ <;> intros <;> omega), hJ⟩
        ·
          refine s_aald105 (r := 63) E rfl (jv_lt hJ (by decide)) (vp_c (by decide)) (jv_r hJ (by decide +kernel)) dX9_paste_30 ?_
          refine s_astore (L2 := [some (AR 0), some (AI 2), some (AI x2), some (AI 1), some (AI x4), some (AI x5), some (AR 65), some (AR 63)]) E dX9_paste_31 (by decide) rfl ?_
          refine s_aload E dX9_paste_33 rfl ?_
          refine s_vI (As := []) (S := []) E (Z_X7_isBare_65 l D aC b w  hJ.1 ) cv_X9_279 rfl rfl rfl (jv_lt hJ (by decide)) (Nat.le_of_ble_eq_true rfl) (Nat.le_of_ble_eq_true rfl) ⟨(Nat.le_of_ble_eq_true rfl), (Nat.le_of_ble_eq_true rfl)⟩ (Nat.le_of_ble_eq_true rfl) dX9_paste_35 (fun z_247 u_245 hp_246 => ?_)
          obtain ⟨hz_247, hxz_247, hp_246⟩ := hp_246
          subst hp_246
          refine z_if_ne (tgt := 49) (u := z_247.toInt) E dX9_paste_38 (by decide) rfl (fun h_249 => ?_) (fun h_249 => ?_)
          ·
            refine s_bipush (v := (-6)) E dX9_paste_49 (by decide) ?_
            exact r_int E dX9_paste_51 ⟨⟨by decide, by decide, by first | (left; decide) | (right; decide) | (right; have hb_ := z32 x1; omega), by first | (left; decide) | (right; decide) | (right; have hb_ := z32 x2; omega), by first | (left; decide) | (right; decide) | (right; have hb_ := z32 x3; omega), by first | (left; decide) | (right; decide) | (right; have hb_ := z32 x4; omega), by first | (left; decide) | (right; decide) | (right; have hb_ := z32 x5; omega)⟩, (by have hrc_ : ((-6) : Int32).toInt = (-6) := (by decide); have k0_ : (0 : Int32).toInt = 0 := (by decide); have k1_ : (1 : Int32).toInt = 1 := (by decide); have k2_ : (2 : Int32).toInt = 2 := (by decide); have k3_ : (3 : Int32).toInt = 3 := (by decide); refine ⟨?_, ?_, ?_, ?_, ?_, ?_, ?_, ?_, ?_, ?_, ?_, ?_, ?_, ?_, ?_, ?_, ?_⟩ <;> intros <;> omega), hJ⟩
          ·
            refine s_aload E dX9_paste_41 rfl ?_
            refine s_vI (As := []) (S := []) E (Z_X7_isBare_63 l D aC b w  hJ.1 ) cv_X9_279 rfl rfl rfl (jv_lt hJ (by decide)) (Nat.le_of_ble_eq_true rfl) (Nat.le_of_ble_eq_true rfl) ⟨(Nat.le_of_ble_eq_true rfl), (Nat.le_of_ble_eq_true rfl)⟩ (Nat.le_of_ble_eq_true rfl) dX9_paste_43 (fun z_252 u_250 hp_251 => ?_)
            obtain ⟨hz_252, hxz_252, hp_251⟩ := hp_251
            subst hp_251
            refine z_if_eq (tgt := 52) (u := z_252.toInt) E dX9_paste_46 (by decide) rfl (fun h_254 => ?_) (fun h_254 => ?_)
            ·
              refine s_aload E dX9_paste_52 rfl ?_
              refine s_gI E fg_X9_432 rfl rfl (jv_lt hJ (by decide)) dX9_paste_54 ?_
              refine z_nm (P := fun z => z.toInt = (w.2.2.1 65 1).toInt ∧ 0 ≤ z.toInt ∧ z.toInt ≤ 3) ⟨rfl, (rg_65_1 hJ)⟩ (fun z_255 hz_255 => ?_)
              refine s_aload E dX9_paste_57 rfl ?_
              refine s_gI E fg_X9_432 rfl rfl (jv_lt hJ (by decide)) dX9_paste_59 ?_
              refine z_nm (P := fun z => z.toInt = (w.2.2.1 63 1).toInt ∧ 0 ≤ z.toInt ∧ z.toInt ≤ 3) ⟨rfl, (rg_63_1 hJ)⟩ (fun z_256 hz_256 => ?_)
              refine z_icmp_eq (tgt := 68) (u := z_255.toInt) (v := z_256.toInt) E dX9_paste_62 (by decide) rfl rfl (fun h_257 => ?_) (fun h_257 => ?_)
              ·
                refine s_aload E dX9_paste_68 rfl ?_
                refine s_iload_n E dX9_paste_70 rfl rfl ?_
                refine s_iload E dX9_paste_71 rfl ?_
                refine s_vI (As := [AI x2, AI x5]) (S := []) E (Z_X7_hasStretch_65 l D aC b w x2 x5 hJ.1 ) cv_X9_435 rfl rfl rfl (jv_lt hJ (by decide)) (Nat.le_of_ble_eq_true rfl) (Nat.le_of_ble_eq_true rfl) ⟨(Nat.le_of_ble_eq_true rfl), (Nat.le_of_ble_eq_true rfl)⟩ (Nat.le_of_ble_eq_true rfl) dX9_paste_73 (fun z_260 u_258 hp_259 => ?_)
                obtain ⟨hz_260, hxz_260, hp_259⟩ := hp_259
                subst hp_259
                refine z_if_eq (tgt := 91) (u := z_260.toInt) E dX9_paste_76 (by decide) rfl (fun h_262 => ?_) (fun h_262 => ?_)
                ·
                  refine s_bipush (v := (-7)) E dX9_paste_91 (by decide) ?_
                  exact r_int E dX9_paste_93 ⟨⟨by decide, by decide, by first | (left; decide) | (right; decide) | (right; have hb_ := z32 x1; omega), by first | (left; decide) | (right; decide) | (right; have hb_ := z32 x2; omega), by first | (left; decide) | (right; decide) | (right; have hb_ := z32 x3; omega), by first | (left; decide) | (right; decide) | (right; have hb_ := z32 x4; omega), by first | (left; decide) | (right; decide) | (right; have hb_ := z32 x5; omega)⟩, (by have hrc_ : ((-7) : Int32).toInt = (-7) := (by decide); have k0_ : (0 : Int32).toInt = 0 := (by decide); have k1_ : (1 : Int32).toInt = 1 := (by decide); have k2_ : (2 : Int32).toInt = 2 := (by decide); have k3_ : (3 : Int32).toInt = 3 := (by decide); refine ⟨?_, ?_, ?_, ?_, ?_, ?_, ?_, ?_, ?_, ?_, ?_, ?_, ?_, ?_, ?_, ?_, ?_⟩ <;> intros <;> omega), hJ⟩
                ·
                  refine s_aload E dX9_paste_79 rfl ?_
                  refine s_iload E dX9_paste_81 rfl ?_
                  refine s_iload E dX9_paste_83 rfl ?_
                  refine s_vI (As := [AI x4, AI x5]) (S := []) E (Z_X7_hasStretch_63 l D aC b w x4 x5 hJ.1 ) cv_X9_435 rfl rfl rfl (jv_lt hJ (by decide)) (Nat.le_of_ble_eq_true rfl) (Nat.le_of_ble_eq_true rfl) ⟨(Nat.le_of_ble_eq_true rfl), (Nat.le_of_ble_eq_true rfl)⟩ (Nat.le_of_ble_eq_true rfl) dX9_paste_85 (fun z_265 u_263 hp_264 => ?_)
                  obtain ⟨hz_265, hxz_265, hp_264⟩ := hp_264
                  subst hp_264
                  refine z_if_ne (tgt := 94) (u := z_265.toInt) E dX9_paste_88 (by decide) rfl (fun h_267 => ?_) (fun h_267 => ?_)
                  ·
                    refine s_aload E dX9_paste_94 rfl ?_
                    refine s_gR (r := 66) E fg_X9_438 rfl rfl (jv_lt hJ (by decide)) (jv_r hJ (by decide +kernel)) dX9_paste_96 ?_
                    refine s_iload_n E dX9_paste_99 rfl rfl ?_
                    refine s_aload E dX9_paste_100 rfl ?_
                    refine s_gR (r := 64) E fg_X9_438 rfl rfl (jv_lt hJ (by decide)) (jv_r hJ (by decide +kernel)) dX9_paste_102 ?_
                    refine s_iload E dX9_paste_105 rfl ?_
                    refine s_iload E dX9_paste_107 rfl ?_
                    refine z_copy101 (S := []) (u1 := x2.toInt) (u2 := x4.toInt) (u3 := x5.toInt) E k_1234 k_538 k_537 k_17 rfl rfl (jv_lt hJ (by decide)) (jv_lt hJ (by decide)) rfl rfl rfl (by omega) (by omega) (by omega) (by omega) (by omega) (Nat.le_of_ble_eq_true rfl) (Nat.le_of_ble_eq_true rfl) dX9_paste_109 ?_
                    refine s_gen (P := fun v => Jv w v ∧ (v.2.2.1 65 2).toInt = (w.2.2.1 65 2).toInt ∧ (v.2.2.1 63 2).toInt = (w.2.2.1 63 2).toInt) ⟨(jv_SL hJ (by decide)), rfl, rfl⟩ (fun v_268 hj_269 => ?_)
                    obtain ⟨hj_269, hk_270k0, hk_270k1⟩ := hj_269
                    refine s_iconst (v := 0) E dX9_paste_112 (by decide) ?_
                    exact r_int E dX9_paste_113 ⟨⟨by decide, by decide, by first | (left; decide) | (right; decide) | (right; have hb_ := z32 x1; omega), by first | (left; decide) | (right; decide) | (right; have hb_ := z32 x2; omega), by first | (left; decide) | (right; decide) | (right; have hb_ := z32 x3; omega), by first | (left; decide) | (right; decide) | (right; have hb_ := z32 x4; omega), by first | (left; decide) | (right; decide) | (right; have hb_ := z32 x5; omega)⟩, (by have hrc_ : (0 : Int32).toInt = 0 := (by decide); have k0_ : (0 : Int32).toInt = 0 := (by decide); have k1_ : (1 : Int32).toInt = 1 := (by decide); have k2_ : (2 : Int32).toInt = 2 := (by decide); have k3_ : (3 : Int32).toInt = 3 := (by decide); refine ⟨?_, ?_, ?_, ?_, ?_, ?_, ?_, ?_, ?_, ?_, ?_, ?_, ?_, ?_, ?_, ?_, ?_⟩ <;> intros <;> omega), hj_269⟩
                  ·
                    refine s_bipush (v := (-7)) E dX9_paste_91 (by decide) ?_
                    exact r_int E dX9_paste_93 ⟨⟨by decide, by decide, by first | (left; decide) | (right; decide) | (right; have hb_ := z32 x1; omega), by first | (left; decide) | (right; decide) | (right; have hb_ := z32 x2; omega), by first | (left; decide) | (right; decide) | (right; have hb_ := z32 x3; omega), by first | (left; decide) | (right; decide) | (right; have hb_ := z32 x4; omega), by first | (left; decide) | (right; decide) | (right; have hb_ := z32 x5; omega)⟩, (by have hrc_ : ((-7) : Int32).toInt = (-7) := (by decide); have k0_ : (0 : Int32).toInt = 0 := (by decide); have k1_ : (1 : Int32).toInt = 1 := (by decide); have k2_ : (2 : Int32).toInt = 2 := (by decide); have k3_ : (3 : Int32).toInt = 3 := (by decide); refine ⟨?_, ?_, ?_, ?_, ?_, ?_, ?_, ?_, ?_, ?_, ?_, ?_, ?_, ?_, ?_, ?_, ?_⟩ <;> intros <;> omega), hJ⟩
              ·
                refine s_bipush (v := (-8)) E dX9_paste_65 (by decide) ?_
                exact r_int E dX9_paste_67 ⟨⟨by decide, by decide, by first | (left; decide) | (right; decide) | (right; have hb_ := z32 x1; omega), by first | (left; decide) | (right; decide) | (right; have hb_ := z32 x2; omega), by first | (left; decide) | (right; decide) | (right; have hb_ := z32 x3; omega), by first | (left; decide) | (right; decide) | (right; have hb_ := z32 x4; omega), by first | (left; decide) | (right; decide) | (right; have hb_ := z32 x5; omega)⟩, (by have hrc_ : ((-8) : Int32).toInt = (-8) := (by decide); have k0_ : (0 : Int32).toInt = 0 := (by decide); have k1_ : (1 : Int32).toInt = 1 := (by decide); have k2_ : (2 : Int32).toInt = 2 := (by decide); have k3_ : (3 : Int32).toInt = 3 := (by decide); refine ⟨?_, ?_, ?_, ?_, ?_, ?_, ?_, ?_, ?_, ?_, ?_, ?_, ?_, ?_, ?_, ?_, ?_⟩ <;> intros <;> omega), hJ⟩
            ·
              refine s_bipush (v := (-6)) E dX9_paste_49 (by decide) ?_
              exact r_int E dX9_paste_51 ⟨⟨by decide, by decide, by first | (left; decide) | (right; decide) | (right; have hb_ := z32 x1; omega), by first | (left; decide) | (right; decide) | (right; have hb_ := z32 x2; omega), by first | (left; decide) | (right; decide) | (right; have hb_ := z32 x3; omega), by first | (left; decide) | (right; decide) | (right; have hb_ := z32 x4; omega), by first | (left; decide) | (right; decide) | (right; have hb_ := z32 x5; omega)⟩, (by have hrc_ : ((-6) : Int32).toInt = (-6) := (by decide); have k0_ : (0 : Int32).toInt = 0 := (by decide); have k1_ : (1 : Int32).toInt = 1 := (by decide); have k2_ : (2 : Int32).toInt = 2 := (by decide); have k3_ : (3 : Int32).toInt = 3 := (by decide); refine ⟨?_, ?_, ?_, ?_, ?_, ?_, ?_, ?_, ?_, ?_, ?_, ?_, ?_, ?_, ?_, ?_, ?_⟩ <;> intros <;> omega), hJ⟩
        ·
          refine s_aald105 (r := 65) E rfl (jv_lt hJ (by decide)) (vp_c (by decide)) (jv_r hJ (by decide +kernel)) dX9_paste_30 ?_
          refine s_astore (L2 := [some (AR 0), some (AI 2), some (AI x2), some (AI 2), some (AI x4), some (AI x5), some (AR 65), some (AR 65)]) E dX9_paste_31 (by decide) rfl ?_
          refine s_aload E dX9_paste_33 rfl ?_
          refine s_vI (As := []) (S := []) E (Z_X7_isBare_65 l D aC b w  hJ.1 ) cv_X9_279 rfl rfl rfl (jv_lt hJ (by decide)) (Nat.le_of_ble_eq_true rfl) (Nat.le_of_ble_eq_true rfl) ⟨(Nat.le_of_ble_eq_true rfl), (Nat.le_of_ble_eq_true rfl)⟩ (Nat.le_of_ble_eq_true rfl) dX9_paste_35 (fun z_273 u_271 hp_272 => ?_)
          obtain ⟨hz_273, hxz_273, hp_272⟩ := hp_272
          subst hp_272
          refine z_if_ne (tgt := 49) (u := z_273.toInt) E dX9_paste_38 (by decide) rfl (fun h_275 => ?_) (fun h_275 => ?_)
          ·
            refine s_bipush (v := (-6)) E dX9_paste_49 (by decide) ?_
            exact r_int E dX9_paste_51 ⟨⟨by decide, by decide, by first | (left; decide) | (right; decide) | (right; have hb_ := z32 x1; omega), by first | (left; decide) | (right; decide) | (right; have hb_ := z32 x2; omega), by first | (left; decide) | (right; decide) | (right; have hb_ := z32 x3; omega), by first | (left; decide) | (right; decide) | (right; have hb_ := z32 x4; omega), by first | (left; decide) | (right; decide) | (right; have hb_ := z32 x5; omega)⟩, (by have hrc_ : ((-6) : Int32).toInt = (-6) := (by decide); have k0_ : (0 : Int32).toInt = 0 := (by decide); have k1_ : (1 : Int32).toInt = 1 := (by decide); have k2_ : (2 : Int32).toInt = 2 := (by decide); have k3_ : (3 : Int32).toInt = 3 := (by decide); refine ⟨?_, ?_, ?_, ?_, ?_, ?_, ?_, ?_, ?_, ?_, ?_, ?_, ?_, ?_, ?_, ?_, ?_⟩ <;> intros <;> omega), hJ⟩
          ·
            refine s_aload E dX9_paste_41 rfl ?_
            refine s_vI (As := []) (S := []) E (Z_X7_isBare_65 l D aC b w  hJ.1 ) cv_X9_279 rfl rfl rfl (jv_lt hJ (by decide)) (Nat.le_of_ble_eq_true rfl) (Nat.le_of_ble_eq_true rfl) ⟨(Nat.le_of_ble_eq_true rfl), (Nat.le_of_ble_eq_true rfl)⟩ (Nat.le_of_ble_eq_true rfl) dX9_paste_43 (fun z_278 u_276 hp_277 => ?_)
            obtain ⟨hz_278, hxz_278, hp_277⟩ := hp_277
            subst hp_277
            refine z_if_eq (tgt := 52) (u := z_278.toInt) E dX9_paste_46 (by decide) rfl (fun h_280 => ?_) (fun h_280 => ?_)
            ·
              refine s_aload E dX9_paste_52 rfl ?_
              refine s_gI E fg_X9_432 rfl rfl (jv_lt hJ (by decide)) dX9_paste_54 ?_
              refine z_nm (P := fun z => z.toInt = (w.2.2.1 65 1).toInt ∧ 0 ≤ z.toInt ∧ z.toInt ≤ 3) ⟨rfl, (rg_65_1 hJ)⟩ (fun z_281 hz_281 => ?_)
              refine s_aload E dX9_paste_57 rfl ?_
              refine s_gI E fg_X9_432 rfl rfl (jv_lt hJ (by decide)) dX9_paste_59 ?_
              refine z_nm (P := fun z => z.toInt = (w.2.2.1 65 1).toInt ∧ 0 ≤ z.toInt ∧ z.toInt ≤ 3) ⟨rfl, (rg_65_1 hJ)⟩ (fun z_282 hz_282 => ?_)
              refine z_icmp_eq (tgt := 68) (u := z_281.toInt) (v := z_282.toInt) E dX9_paste_62 (by decide) rfl rfl (fun h_283 => ?_) (fun h_283 => ?_)
              ·
                refine s_aload E dX9_paste_68 rfl ?_
                refine s_iload_n E dX9_paste_70 rfl rfl ?_
                refine s_iload E dX9_paste_71 rfl ?_
                refine s_vI (As := [AI x2, AI x5]) (S := []) E (Z_X7_hasStretch_65 l D aC b w x2 x5 hJ.1 ) cv_X9_435 rfl rfl rfl (jv_lt hJ (by decide)) (Nat.le_of_ble_eq_true rfl) (Nat.le_of_ble_eq_true rfl) ⟨(Nat.le_of_ble_eq_true rfl), (Nat.le_of_ble_eq_true rfl)⟩ (Nat.le_of_ble_eq_true rfl) dX9_paste_73 (fun z_286 u_284 hp_285 => ?_)
                obtain ⟨hz_286, hxz_286, hp_285⟩ := hp_285
                subst hp_285
                refine z_if_eq (tgt := 91) (u := z_286.toInt) E dX9_paste_76 (by decide) rfl (fun h_288 => ?_) (fun h_288 => ?_)
                ·
                  refine s_bipush (v := (-7)) E dX9_paste_91 (by decide) ?_
                  exact r_int E dX9_paste_93 ⟨⟨by decide, by decide, by first | (left; decide) | (right; decide) | (right; have hb_ := z32 x1; omega), by first | (left; decide) | (right; decide) | (right; have hb_ := z32 x2; omega), by first | (left; decide) | (right; decide) | (right; have hb_ := z32 x3; omega), by first | (left; decide) | (right; decide) | (right; have hb_ := z32 x4; omega), by first | (left; decide) | (right; decide) | (right; have hb_ := z32 x5; omega)⟩, (by have hrc_ : ((-7) : Int32).toInt = (-7) := (by decide); have k0_ : (0 : Int32).toInt = 0 := (by decide); have k1_ : (1 : Int32).toInt = 1 := (by decide); have k2_ : (2 : Int32).toInt = 2 := (by decide); have k3_ : (3 : Int32).toInt = 3 := (by decide); refine ⟨?_, ?_, ?_, ?_, ?_, ?_, ?_, ?_, ?_, ?_, ?_, ?_, ?_, ?_, ?_, ?_, ?_⟩ <;> intros <;> omega), hJ⟩
                ·
                  refine s_aload E dX9_paste_79 rfl ?_
                  refine s_iload E dX9_paste_81 rfl ?_
                  refine s_iload E dX9_paste_83 rfl ?_
                  refine s_vI (As := [AI x4, AI x5]) (S := []) E (Z_X7_hasStretch_65 l D aC b w x4 x5 hJ.1 ) cv_X9_435 rfl rfl rfl (jv_lt hJ (by decide)) (Nat.le_of_ble_eq_true rfl) (Nat.le_of_ble_eq_true rfl) ⟨(Nat.le_of_ble_eq_true rfl), (Nat.le_of_ble_eq_true rfl)⟩ (Nat.le_of_ble_eq_true rfl) dX9_paste_85 (fun z_291 u_289 hp_290 => ?_)
                  obtain ⟨hz_291, hxz_291, hp_290⟩ := hp_290
                  subst hp_290
                  refine z_if_ne (tgt := 94) (u := z_291.toInt) E dX9_paste_88 (by decide) rfl (fun h_293 => ?_) (fun h_293 => ?_)
                  ·
                    refine s_aload E dX9_paste_94 rfl ?_
                    refine s_gR (r := 66) E fg_X9_438 rfl rfl (jv_lt hJ (by decide)) (jv_r hJ (by decide +kernel)) dX9_paste_96 ?_
                    refine s_iload_n E dX9_paste_99 rfl rfl ?_
                    refine s_aload E dX9_paste_100 rfl ?_
                    refine s_gR (r := 66) E fg_X9_438 rfl rfl (jv_lt hJ (by decide)) (jv_r hJ (by decide +kernel)) dX9_paste_102 ?_
                    refine s_iload E dX9_paste_105 rfl ?_
                    refine s_iload E dX9_paste_107 rfl ?_
                    refine z_copy101 (S := []) (u1 := x2.toInt) (u2 := x4.toInt) (u3 := x5.toInt) E k_1234 k_538 k_537 k_17 rfl rfl (jv_lt hJ (by decide)) (jv_lt hJ (by decide)) rfl rfl rfl (by omega) (by omega) (by omega) (by omega) (by omega) (Nat.le_of_ble_eq_true rfl) (Nat.le_of_ble_eq_true rfl) dX9_paste_109 ?_
                    refine s_gen (P := fun v => Jv w v ∧ (v.2.2.1 65 2).toInt = (w.2.2.1 65 2).toInt) ⟨(jv_SL hJ (by decide)), rfl⟩ (fun v_294 hj_295 => ?_)
                    obtain ⟨hj_295, hk_296k0⟩ := hj_295
                    refine s_iconst (v := 0) E dX9_paste_112 (by decide) ?_
                    exact r_int E dX9_paste_113 ⟨⟨by decide, by decide, by first | (left; decide) | (right; decide) | (right; have hb_ := z32 x1; omega), by first | (left; decide) | (right; decide) | (right; have hb_ := z32 x2; omega), by first | (left; decide) | (right; decide) | (right; have hb_ := z32 x3; omega), by first | (left; decide) | (right; decide) | (right; have hb_ := z32 x4; omega), by first | (left; decide) | (right; decide) | (right; have hb_ := z32 x5; omega)⟩, (by have hrc_ : (0 : Int32).toInt = 0 := (by decide); have k0_ : (0 : Int32).toInt = 0 := (by decide); have k1_ : (1 : Int32).toInt = 1 := (by decide); have k2_ : (2 : Int32).toInt = 2 := (by decide); have k3_ : (3 : Int32).toInt = 3 := (by decide); refine ⟨?_, ?_, ?_, ?_, ?_, ?_, ?_, ?_, ?_, ?_, ?_, ?_, ?_, ?_, ?_, ?_, ?_⟩ <;> intros <;> omega), hj_295⟩
                  ·
                    refine s_bipush (v := (-7)) E dX9_paste_91 (by decide) ?_
                    exact r_int E dX9_paste_93 ⟨⟨by decide, by decide, by first | (left; decide) | (right; decide) | (right; have hb_ := z32 x1; omega), by first | (left; decide) | (right; decide) | (right; have hb_ := z32 x2; omega), by first | (left; decide) | (right; decide) | (right; have hb_ := z32 x3; omega), by first | (left; decide) | (right; decide) | (right; have hb_ := z32 x4; omega), by first | (left; decide) | (right; decide) | (right; have hb_ := z32 x5; omega)⟩, (by have hrc_ : ((-7) : Int32).toInt = (-7) := (by decide); have k0_ : (0 : Int32).toInt = 0 := (by decide); have k1_ : (1 : Int32).toInt = 1 := (by decide); have k2_ : (2 : Int32).toInt = 2 := (by decide); have k3_ : (3 : Int32).toInt = 3 := (by decide); refine ⟨?_, ?_, ?_, ?_, ?_, ?_, ?_, ?_, ?_, ?_, ?_, ?_, ?_, ?_, ?_, ?_, ?_⟩ <;> intros <;> omega), hJ⟩
              ·
                refine s_bipush (v := (-8)) E dX9_paste_65 (by decide) ?_
                exact r_int E dX9_paste_67 ⟨⟨by decide, by decide, by first | (left; decide) | (right; decide) | (right; have hb_ := z32 x1; omega), by first | (left; decide) | (right; decide) | (right; have hb_ := z32 x2; omega), by first | (left; decide) | (right; decide) | (right; have hb_ := z32 x3; omega), by first | (left; decide) | (right; decide) | (right; have hb_ := z32 x4; omega), by first | (left; decide) | (right; decide) | (right; have hb_ := z32 x5; omega)⟩, (by have hrc_ : ((-8) : Int32).toInt = (-8) := (by decide); have k0_ : (0 : Int32).toInt = 0 := (by decide); have k1_ : (1 : Int32).toInt = 1 := (by decide); have k2_ : (2 : Int32).toInt = 2 := (by decide); have k3_ : (3 : Int32).toInt = 3 := (by decide); refine ⟨?_, ?_, ?_, ?_, ?_, ?_, ?_, ?_, ?_, ?_, ?_, ?_, ?_, ?_, ?_, ?_, ?_⟩ <;> intros <;> omega), hJ⟩
            ·
              refine s_bipush (v := (-6)) E dX9_paste_49 (by decide) ?_
              exact r_int E dX9_paste_51 ⟨⟨by decide, by decide, by first | (left; decide) | (right; decide) | (right; have hb_ := z32 x1; omega), by first | (left; decide) | (right; decide) | (right; have hb_ := z32 x2; omega), by first | (left; decide) | (right; decide) | (right; have hb_ := z32 x3; omega), by first | (left; decide) | (right; decide) | (right; have hb_ := z32 x4; omega), by first | (left; decide) | (right; decide) | (right; have hb_ := z32 x5; omega)⟩, (by have hrc_ : ((-6) : Int32).toInt = (-6) := (by decide); have k0_ : (0 : Int32).toInt = 0 := (by decide); have k1_ : (1 : Int32).toInt = 1 := (by decide); have k2_ : (2 : Int32).toInt = 2 := (by decide); have k3_ : (3 : Int32).toInt = 3 := (by decide); refine ⟨?_, ?_, ?_, ?_, ?_, ?_, ?_, ?_, ?_, ?_, ?_, ?_, ?_, ?_, ?_, ?_, ?_⟩ <;> intros <;> omega), hJ⟩
        ·
          refine s_aald105 (r := 67) E rfl (jv_lt hJ (by decide)) (vp_c (by decide)) (jv_r hJ (by decide +kernel)) dX9_paste_30 ?_
          refine s_astore (L2 := [some (AR 0), some (AI 2), some (AI x2), some (AI 3), some (AI x4), some (AI x5), some (AR 65), some (AR 67)]) E dX9_paste_31 (by decide) rfl ?_
          refine s_aload E dX9_paste_33 rfl ?_
          refine s_vI (As := []) (S := []) E (Z_X7_isBare_65 l D aC b w  hJ.1 ) cv_X9_279 rfl rfl rfl (jv_lt hJ (by decide)) (Nat.le_of_ble_eq_true rfl) (Nat.le_of_ble_eq_true rfl) ⟨(Nat.le_of_ble_eq_true rfl), (Nat.le_of_ble_eq_true rfl)⟩ (Nat.le_of_ble_eq_true rfl) dX9_paste_35 (fun z_299 u_297 hp_298 => ?_)
          obtain ⟨hz_299, hxz_299, hp_298⟩ := hp_298
          subst hp_298
          refine z_if_ne (tgt := 49) (u := z_299.toInt) E dX9_paste_38 (by decide) rfl (fun h_301 => ?_) (fun h_301 => ?_)
          ·
            refine s_bipush (v := (-6)) E dX9_paste_49 (by decide) ?_
            exact r_int E dX9_paste_51 ⟨⟨by decide, by decide, by first | (left; decide) | (right; decide) | (right; have hb_ := z32 x1; omega), by first | (left; decide) | (right; decide) | (right; have hb_ := z32 x2; omega), by first | (left; decide) | (right; decide) | (right; have hb_ := z32 x3; omega), by first | (left; decide) | (right; decide) | (right; have hb_ := z32 x4; omega), by first | (left; decide) | (right; decide) | (right; have hb_ := z32 x5; omega)⟩, (by have hrc_ : ((-6) : Int32).toInt = (-6) := (by decide); have k0_ : (0 : Int32).toInt = 0 := (by decide); have k1_ : (1 : Int32).toInt = 1 := (by decide); have k2_ : (2 : Int32).toInt = 2 := (by decide); have k3_ : (3 : Int32).toInt = 3 := (by decide); refine ⟨?_, ?_, ?_, ?_, ?_, ?_, ?_, ?_, ?_, ?_, ?_, ?_, ?_, ?_, ?_, ?_, ?_⟩ <;> intros <;> omega), hJ⟩
          ·
            refine s_aload E dX9_paste_41 rfl ?_
            refine s_vI (As := []) (S := []) E (Z_X7_isBare_67 l D aC b w  hJ.1 ) cv_X9_279 rfl rfl rfl (jv_lt hJ (by decide)) (Nat.le_of_ble_eq_true rfl) (Nat.le_of_ble_eq_true rfl) ⟨(Nat.le_of_ble_eq_true rfl), (Nat.le_of_ble_eq_true rfl)⟩ (Nat.le_of_ble_eq_true rfl) dX9_paste_43 (fun z_304 u_302 hp_303 => ?_)
            obtain ⟨hz_304, hxz_304, hp_303⟩ := hp_303
            subst hp_303
            refine z_if_eq (tgt := 52) (u := z_304.toInt) E dX9_paste_46 (by decide) rfl (fun h_306 => ?_) (fun h_306 => ?_)
            ·
              refine s_aload E dX9_paste_52 rfl ?_
              refine s_gI E fg_X9_432 rfl rfl (jv_lt hJ (by decide)) dX9_paste_54 ?_
              refine z_nm (P := fun z => z.toInt = (w.2.2.1 65 1).toInt ∧ 0 ≤ z.toInt ∧ z.toInt ≤ 3) ⟨rfl, (rg_65_1 hJ)⟩ (fun z_307 hz_307 => ?_)
              refine s_aload E dX9_paste_57 rfl ?_
              refine s_gI E fg_X9_432 rfl rfl (jv_lt hJ (by decide)) dX9_paste_59 ?_
              refine z_nm (P := fun z => z.toInt = (w.2.2.1 67 1).toInt ∧ 0 ≤ z.toInt ∧ z.toInt ≤ 3) ⟨rfl, (rg_67_1 hJ)⟩ (fun z_308 hz_308 => ?_)
              refine z_icmp_eq (tgt := 68) (u := z_307.toInt) (v := z_308.toInt) E dX9_paste_62 (by decide) rfl rfl (fun h_309 => ?_) (fun h_309 => ?_)
              ·
                refine s_aload E dX9_paste_68 rfl ?_
                refine s_iload_n E dX9_paste_70 rfl rfl ?_
                refine s_iload E dX9_paste_71 rfl ?_
                refine s_vI (As := [AI x2, AI x5]) (S := []) E (Z_X7_hasStretch_65 l D aC b w x2 x5 hJ.1 ) cv_X9_435 rfl rfl rfl (jv_lt hJ (by decide)) (Nat.le_of_ble_eq_true rfl) (Nat.le_of_ble_eq_true rfl) ⟨(Nat.le_of_ble_eq_true rfl), (Nat.le_of_ble_eq_true rfl)⟩ (Nat.le_of_ble_eq_true rfl) dX9_paste_73 (fun z_312 u_310 hp_311 => ?_)
                obtain ⟨hz_312, hxz_312, hp_311⟩ := hp_311
                subst hp_311
                refine z_if_eq (tgt := 91) (u := z_312.toInt) E dX9_paste_76 (by decide) rfl (fun h_314 => ?_) (fun h_314 => ?_)
                ·
                  refine s_bipush (v := (-7)) E dX9_paste_91 (by decide) ?_
                  exact r_int E dX9_paste_93 ⟨⟨by decide, by decide, by first | (left; decide) | (right; decide) | (right; have hb_ := z32 x1; omega), by first | (left; decide) | (right; decide) | (right; have hb_ := z32 x2; omega), by first | (left; decide) | (right; decide) | (right; have hb_ := z32 x3; omega), by first | (left; decide) | (right; decide) | (right; have hb_ := z32 x4; omega), by first | (left; decide) | (right; decide) | (right; have hb_ := z32 x5; omega)⟩, (by have hrc_ : ((-7) : Int32).toInt = (-7) := (by decide); have k0_ : (0 : Int32).toInt = 0 := (by decide); have k1_ : (1 : Int32).toInt = 1 := (by decide); have k2_ : (2 : Int32).toInt = 2 := (by decide); have k3_ : (3 : Int32).toInt = 3 := (by decide); refine ⟨?_, ?_, ?_, ?_, ?_, ?_, ?_, ?_, ?_, ?_, ?_, ?_, ?_, ?_, ?_, ?_, ?_⟩ <;> intros <;> omega), hJ⟩
                ·
                  refine s_aload E dX9_paste_79 rfl ?_
                  refine s_iload E dX9_paste_81 rfl ?_
                  refine s_iload E dX9_paste_83 rfl ?_
                  refine s_vI (As := [AI x4, AI x5]) (S := []) E (Z_X7_hasStretch_67 l D aC b w x4 x5 hJ.1 ) cv_X9_435 rfl rfl rfl (jv_lt hJ (by decide)) (Nat.le_of_ble_eq_true rfl) (Nat.le_of_ble_eq_true rfl) ⟨(Nat.le_of_ble_eq_true rfl), (Nat.le_of_ble_eq_true rfl)⟩ (Nat.le_of_ble_eq_true rfl) dX9_paste_85 (fun z_317 u_315 hp_316 => ?_)
                  obtain ⟨hz_317, hxz_317, hp_316⟩ := hp_316
                  subst hp_316
                  refine z_if_ne (tgt := 94) (u := z_317.toInt) E dX9_paste_88 (by decide) rfl (fun h_319 => ?_) (fun h_319 => ?_)
                  ·
                    refine s_aload E dX9_paste_94 rfl ?_
                    refine s_gR (r := 66) E fg_X9_438 rfl rfl (jv_lt hJ (by decide)) (jv_r hJ (by decide +kernel)) dX9_paste_96 ?_
                    refine s_iload_n E dX9_paste_99 rfl rfl ?_
                    refine s_aload E dX9_paste_100 rfl ?_
                    refine s_gR (r := 68) E fg_X9_438 rfl rfl (jv_lt hJ (by decide)) (jv_r hJ (by decide +kernel)) dX9_paste_102 ?_
                    refine s_iload E dX9_paste_105 rfl ?_
                    refine s_iload E dX9_paste_107 rfl ?_
                    refine z_copy101 (S := []) (u1 := x2.toInt) (u2 := x4.toInt) (u3 := x5.toInt) E k_1234 k_538 k_537 k_17 rfl rfl (jv_lt hJ (by decide)) (jv_lt hJ (by decide)) rfl rfl rfl (by omega) (by omega) (by omega) (by omega) (by omega) (Nat.le_of_ble_eq_true rfl) (Nat.le_of_ble_eq_true rfl) dX9_paste_109 ?_
                    refine s_gen (P := fun v => Jv w v ∧ (v.2.2.1 65 2).toInt = (w.2.2.1 65 2).toInt ∧ (v.2.2.1 67 2).toInt = (w.2.2.1 67 2).toInt) ⟨(jv_SL hJ (by decide)), rfl, rfl⟩ (fun v_320 hj_321 => ?_)
                    obtain ⟨hj_321, hk_322k0, hk_322k1⟩ := hj_321
                    refine s_iconst (v := 0) E dX9_paste_112 (by decide) ?_
                    exact r_int E dX9_paste_113 ⟨⟨by decide, by decide, by first | (left; decide) | (right; decide) | (right; have hb_ := z32 x1; omega), by first | (left; decide) | (right; decide) | (right; have hb_ := z32 x2; omega), by first | (left; decide) | (right; decide) | (right; have hb_ := z32 x3; omega), by first | (left; decide) | (right; decide) | (right; have hb_ := z32 x4; omega), by first | (left; decide) | (right; decide) | (right; have hb_ := z32 x5; omega)⟩, (by have hrc_ : (0 : Int32).toInt = 0 := (by decide); have k0_ : (0 : Int32).toInt = 0 := (by decide); have k1_ : (1 : Int32).toInt = 1 := (by decide); have k2_ : (2 : Int32).toInt = 2 := (by decide); have k3_ : (3 : Int32).toInt = 3 := (by decide); refine ⟨?_, ?_, ?_, ?_, ?_, ?_, ?_, ?_, ?_, ?_, ?_, ?_, ?_, ?_, ?_, ?_, ?_⟩ <;> intros <;> omega), hj_321⟩
                  ·
                    refine s_bipush (v := (-7)) E dX9_paste_91 (by decide) ?_
                    exact r_int E dX9_paste_93 ⟨⟨by decide, by decide, by first | (left; decide) | (right; decide) | (right; have hb_ := z32 x1; omega), by first | (left; decide) | (right; decide) | (right; have hb_ := z32 x2; omega), by first | (left; decide) | (right; decide) | (right; have hb_ := z32 x3; omega), by first | (left; decide) | (right; decide) | (right; have hb_ := z32 x4; omega), by first | (left; decide) | (right; decide) | (right; have hb_ := z32 x5; omega)⟩, (by have hrc_ : ((-7) : Int32).toInt = (-7) := (by decide); have k0_ : (0 : Int32).toInt = 0 := (by decide); have k1_ : (1 : Int32).toInt = 1 := (by decide); have k2_ : (2 : Int32).toInt = 2 := (by decide); have k3_ : (3 : Int32).toInt = 3 := (by decide); refine ⟨?_, ?_, ?_, ?_, ?_, ?_, ?_, ?_, ?_, ?_, ?_, ?_, ?_, ?_, ?_, ?_, ?_⟩ <;> intros <;> omega), hJ⟩
              ·
                refine s_bipush (v := (-8)) E dX9_paste_65 (by decide) ?_
                exact r_int E dX9_paste_67 ⟨⟨by decide, by decide, by first | (left; decide) | (right; decide) | (right; have hb_ := z32 x1; omega), by first | (left; decide) | (right; decide) | (right; have hb_ := z32 x2; omega), by first | (left; decide) | (right; decide) | (right; have hb_ := z32 x3; omega), by first | (left; decide) | (right; decide) | (right; have hb_ := z32 x4; omega), by first | (left; decide) | (right; decide) | (right; have hb_ := z32 x5; omega)⟩, (by have hrc_ : ((-8) : Int32).toInt = (-8) := (by decide); have k0_ : (0 : Int32).toInt = 0 := (by decide); have k1_ : (1 : Int32).toInt = 1 := (by decide); have k2_ : (2 : Int32).toInt = 2 := (by decide); have k3_ : (3 : Int32).toInt = 3 := (by decide); refine ⟨?_, ?_, ?_, ?_, ?_, ?_, ?_, ?_, ?_, ?_, ?_, ?_, ?_, ?_, ?_, ?_, ?_⟩ <;> intros <;> omega), hJ⟩
            ·
              refine s_bipush (v := (-6)) E dX9_paste_49 (by decide) ?_
              exact r_int E dX9_paste_51 ⟨⟨by decide, by decide, by first | (left; decide) | (right; decide) | (right; have hb_ := z32 x1; omega), by first | (left; decide) | (right; decide) | (right; have hb_ := z32 x2; omega), by first | (left; decide) | (right; decide) | (right; have hb_ := z32 x3; omega), by first | (left; decide) | (right; decide) | (right; have hb_ := z32 x4; omega), by first | (left; decide) | (right; decide) | (right; have hb_ := z32 x5; omega)⟩, (by have hrc_ : ((-6) : Int32).toInt = (-6) := (by decide); have k0_ : (0 : Int32).toInt = 0 := (by decide); have k1_ : (1 : Int32).toInt = 1 := (by decide); have k2_ : (2 : Int32).toInt = 2 := (by decide); have k3_ : (3 : Int32).toInt = 3 := (by decide); refine ⟨?_, ?_, ?_, ?_, ?_, ?_, ?_, ?_, ?_, ?_, ?_, ?_, ?_, ?_, ?_, ?_, ?_⟩ <;> intros <;> omega), hJ⟩
      ·
        refine s_aald105 (r := 67) E rfl (jv_lt hJ (by decide)) (vp_c (by decide)) (jv_r hJ (by decide +kernel)) dX9_paste_22 ?_
        refine s_astore (L2 := [some (AR 0), some (AI 3), some (AI x2), some (AI x3), some (AI x4), some (AI x5), some (AR 67), none]) E dX9_paste_23 (by decide) rfl ?_
        refine s_aload_n E dX9_paste_25 rfl rfl ?_
        refine s_gR (r := 60) E fg_X9_46 rfl rfl (jv_lt hJ (by decide)) (jv_r hJ (by decide +kernel)) dX9_paste_26 ?_
        refine s_iload_n E dX9_paste_29 rfl rfl ?_
        rcases (show x3 = 0 ∨ x3 = 1 ∨ x3 = 2 ∨ x3 = 3 from (z_cases4 (u := x3.toInt) rfl (by omega) (by omega))) with rfl | rfl | rfl | rfl
        ·
          refine s_aald105 (r := 61) E rfl (jv_lt hJ (by decide)) (vp_c (by decide)) (jv_r hJ (by decide +kernel)) dX9_paste_30 ?_
          refine s_astore (L2 := [some (AR 0), some (AI 3), some (AI x2), some (AI 0), some (AI x4), some (AI x5), some (AR 67), some (AR 61)]) E dX9_paste_31 (by decide) rfl ?_
          refine s_aload E dX9_paste_33 rfl ?_
          refine s_vI (As := []) (S := []) E (Z_X7_isBare_67 l D aC b w  hJ.1 ) cv_X9_279 rfl rfl rfl (jv_lt hJ (by decide)) (Nat.le_of_ble_eq_true rfl) (Nat.le_of_ble_eq_true rfl) ⟨(Nat.le_of_ble_eq_true rfl), (Nat.le_of_ble_eq_true rfl)⟩ (Nat.le_of_ble_eq_true rfl) dX9_paste_35 (fun z_325 u_323 hp_324 => ?_)
          obtain ⟨hz_325, hxz_325, hp_324⟩ := hp_324
          subst hp_324
          refine z_if_ne (tgt := 49) (u := z_325.toInt) E dX9_paste_38 (by decide) rfl (fun h_327 => ?_) (fun h_327 => ?_)
          ·
            refine s_bipush (v := (-6)) E dX9_paste_49 (by decide) ?_
            exact r_int E dX9_paste_51 ⟨⟨by decide, by decide, by first | (left; decide) | (right; decide) | (right; have hb_ := z32 x1; omega), by first | (left; decide) | (right; decide) | (right; have hb_ := z32 x2; omega), by first | (left; decide) | (right; decide) | (right; have hb_ := z32 x3; omega), by first | (left; decide) | (right; decide) | (right; have hb_ := z32 x4; omega), by first | (left; decide) | (right; decide) | (right; have hb_ := z32 x5; omega)⟩, (by have hrc_ : ((-6) : Int32).toInt = (-6) := (by decide); have k0_ : (0 : Int32).toInt = 0 := (by decide); have k1_ : (1 : Int32).toInt = 1 := (by decide); have k2_ : (2 : Int32).toInt = 2 := (by decide); have k3_ : (3 : Int32).toInt = 3 := (by decide); refine ⟨?_, ?_, ?_, ?_, ?_, ?_, ?_, ?_, ?_, ?_, ?_, ?_, ?_, ?_, ?_, ?_, ?_⟩ <;> intros <;> omega), hJ⟩
          ·
            refine s_aload E dX9_paste_41 rfl ?_
            refine s_vI (As := []) (S := []) E (Z_X7_isBare_61 l D aC b w  hJ.1 ) cv_X9_279 rfl rfl rfl (jv_lt hJ (by decide)) (Nat.le_of_ble_eq_true rfl) (Nat.le_of_ble_eq_true rfl) ⟨(Nat.le_of_ble_eq_true rfl), (Nat.le_of_ble_eq_true rfl)⟩ (Nat.le_of_ble_eq_true rfl) dX9_paste_43 (fun z_330 u_328 hp_329 => ?_)
            obtain ⟨hz_330, hxz_330, hp_329⟩ := hp_329
            subst hp_329
            refine z_if_eq (tgt := 52) (u := z_330.toInt) E dX9_paste_46 (by decide) rfl (fun h_332 => ?_) (fun h_332 => ?_)
            ·
              refine s_aload E dX9_paste_52 rfl ?_
              refine s_gI E fg_X9_432 rfl rfl (jv_lt hJ (by decide)) dX9_paste_54 ?_
              refine z_nm (P := fun z => z.toInt = (w.2.2.1 67 1).toInt ∧ 0 ≤ z.toInt ∧ z.toInt ≤ 3) ⟨rfl, (rg_67_1 hJ)⟩ (fun z_333 hz_333 => ?_)
              refine s_aload E dX9_paste_57 rfl ?_
              refine s_gI E fg_X9_432 rfl rfl (jv_lt hJ (by decide)) dX9_paste_59 ?_
              refine z_nm (P := fun z => z.toInt = (w.2.2.1 61 1).toInt ∧ 0 ≤ z.toInt ∧ z.toInt ≤ 3) ⟨rfl, (rg_61_1 hJ)⟩ (fun z_334 hz_334 => ?_)
              refine z_icmp_eq (tgt := 68) (u := z_333.toInt) (v := z_334.toInt) E dX9_paste_62 (by decide) rfl rfl (fun h_335 => ?_) (fun h_335 => ?_)
              ·
                refine s_aload E dX9_paste_68 rfl ?_
                refine s_iload_n E dX9_paste_70 rfl rfl ?_
                refine s_iload E dX9_paste_71 rfl ?_
                refine s_vI (As := [AI x2, AI x5]) (S := []) E (Z_X7_hasStretch_67 l D aC b w x2 x5 hJ.1 ) cv_X9_435 rfl rfl rfl (jv_lt hJ (by decide)) (Nat.le_of_ble_eq_true rfl) (Nat.le_of_ble_eq_true rfl) ⟨(Nat.le_of_ble_eq_true rfl), (Nat.le_of_ble_eq_true rfl)⟩ (Nat.le_of_ble_eq_true rfl) dX9_paste_73 (fun z_338 u_336 hp_337 => ?_)
                obtain ⟨hz_338, hxz_338, hp_337⟩ := hp_337
                subst hp_337
                refine z_if_eq (tgt := 91) (u := z_338.toInt) E dX9_paste_76 (by decide) rfl (fun h_340 => ?_) (fun h_340 => ?_)
                ·
                  refine s_bipush (v := (-7)) E dX9_paste_91 (by decide) ?_
                  exact r_int E dX9_paste_93 ⟨⟨by decide, by decide, by first | (left; decide) | (right; decide) | (right; have hb_ := z32 x1; omega), by first | (left; decide) | (right; decide) | (right; have hb_ := z32 x2; omega), by first | (left; decide) | (right; decide) | (right; have hb_ := z32 x3; omega), by first | (left; decide) | (right; decide) | (right; have hb_ := z32 x4; omega), by first | (left; decide) | (right; decide) | (right; have hb_ := z32 x5; omega)⟩, (by have hrc_ : ((-7) : Int32).toInt = (-7) := (by decide); have k0_ : (0 : Int32).toInt = 0 := (by decide); have k1_ : (1 : Int32).toInt = 1 := (by decide); have k2_ : (2 : Int32).toInt = 2 := (by decide); have k3_ : (3 : Int32).toInt = 3 := (by decide); refine ⟨?_, ?_, ?_, ?_, ?_, ?_, ?_, ?_, ?_, ?_, ?_, ?_, ?_, ?_, ?_, ?_, ?_⟩ <;> intros <;> omega), hJ⟩
                ·
                  refine s_aload E dX9_paste_79 rfl ?_
                  refine s_iload E dX9_paste_81 rfl ?_
                  refine s_iload E dX9_paste_83 rfl ?_
                  refine s_vI (As := [AI x4, AI x5]) (S := []) E (Z_X7_hasStretch_61 l D aC b w x4 x5 hJ.1 ) cv_X9_435 rfl rfl rfl (jv_lt hJ (by decide)) (Nat.le_of_ble_eq_true rfl) (Nat.le_of_ble_eq_true rfl) ⟨(Nat.le_of_ble_eq_true rfl), (Nat.le_of_ble_eq_true rfl)⟩ (Nat.le_of_ble_eq_true rfl) dX9_paste_85 (fun z_343 u_341 hp_342 => ?_)
                  obtain ⟨hz_343, hxz_343, hp_342⟩ := hp_342
                  subst hp_342
                  refine z_if_ne (tgt := 94) (u := z_343.toInt) E dX9_paste_88 (by decide) rfl (fun h_345 => ?_) (fun h_345 => ?_)
                  ·
                    refine s_aload E dX9_paste_94 rfl ?_
                    refine s_gR (r := 68) E fg_X9_438 rfl rfl (jv_lt hJ (by decide)) (jv_r hJ (by decide +kernel)) dX9_paste_96 ?_
                    refine s_iload_n E dX9_paste_99 rfl rfl ?_
                    refine s_aload E dX9_paste_100 rfl ?_
                    refine s_gR (r := 62) E fg_X9_438 rfl rfl (jv_lt hJ (by decide)) (jv_r hJ (by decide +kernel)) dX9_paste_102 ?_
                    refine s_iload E dX9_paste_105 rfl ?_
                    refine s_iload E dX9_paste_107 rfl ?_
                    refine z_copy101 (S := []) (u1 := x2.toInt) (u2 := x4.toInt) (u3 := x5.toInt) E k_1234 k_538 k_537 k_17 rfl rfl (jv_lt hJ (by decide)) (jv_lt hJ (by decide)) rfl rfl rfl (by omega) (by omega) (by omega) (by omega) (by omega) (Nat.le_of_ble_eq_true rfl) (Nat.le_of_ble_eq_true rfl) dX9_paste_109 ?_
                    refine s_gen (P := fun v => Jv w v ∧ (v.2.2.1 67 2).toInt = (w.2.2.1 67 2).toInt ∧ (v.2.2.1 61 2).toInt = (w.2.2.1 61 2).toInt) ⟨(jv_SL hJ (by decide)), rfl, rfl⟩ (fun v_346 hj_347 => ?_)
                    obtain ⟨hj_347, hk_348k0, hk_348k1⟩ := hj_347
                    refine s_iconst (v := 0) E dX9_paste_112 (by decide) ?_
                    exact r_int E dX9_paste_113 ⟨⟨by decide, by decide, by first | (left; decide) | (right; decide) | (right; have hb_ := z32 x1; omega), by first | (left; decide) | (right; decide) | (right; have hb_ := z32 x2; omega), by first | (left; decide) | (right; decide) | (right; have hb_ := z32 x3; omega), by first | (left; decide) | (right; decide) | (right; have hb_ := z32 x4; omega), by first | (left; decide) | (right; decide) | (right; have hb_ := z32 x5; omega)⟩, (by have hrc_ : (0 : Int32).toInt = 0 := (by decide); have k0_ : (0 : Int32).toInt = 0 := (by decide); have k1_ : (1 : Int32).toInt = 1 := (by decide); have k2_ : (2 : Int32).toInt = 2 := (by decide); have k3_ : (3 : Int32).toInt = 3 := (by decide); refine ⟨?_, ?_, ?_, ?_, ?_, ?_, ?_, ?_, ?_, ?_, ?_, ?_, ?_, ?_, ?_, ?_, ?_⟩ <;> intros <;> omega), hj_347⟩
                  ·
                    refine s_bipush (v := (-7)) E dX9_paste_91 (by decide) ?_
                    exact r_int E dX9_paste_93 ⟨⟨by decide, by decide, by first | (left; decide) | (right; decide) | (right; have hb_ := z32 x1; omega), by first | (left; decide) | (right; decide) | (right; have hb_ := z32 x2; omega), by first | (left; decide) | (right; decide) | (right; have hb_ := z32 x3; omega), by first | (left; decide) | (right; decide) | (right; have hb_ := z32 x4; omega), by first | (left; decide) | (right; decide) | (right; have hb_ := z32 x5; omega)⟩, (by have hrc_ : ((-7) : Int32).toInt = (-7) := (by decide); have k0_ : (0 : Int32).toInt = 0 := (by decide); have k1_ : (1 : Int32).toInt = 1 := (by decide); have k2_ : (2 : Int32).toInt = 2 := (by decide); have k3_ : (3 : Int32).toInt = 3 := (by decide); refine ⟨?_, ?_, ?_, ?_, ?_, ?_, ?_, ?_, ?_, ?_, ?_, ?_, ?_, ?_, ?_, ?_, ?_⟩ <;> intros <;> omega), hJ⟩
              ·
                refine s_bipush (v := (-8)) E dX9_paste_65 (by decide) ?_
                exact r_int E dX9_paste_67 ⟨⟨by decide, by decide, by first | (left; decide) | (right; decide) | (right; have hb_ := z32 x1; omega), by first | (left; decide) | (right; decide) | (right; have hb_ := z32 x2; omega), by first | (left; decide) | (right; decide) | (right; have hb_ := z32 x3; omega), by first | (left; decide) | (right; decide) | (right; have hb_ := z32 x4; omega), by first | (left; decide) | (right; decide) | (right; have hb_ := z32 x5; omega)⟩, (by have hrc_ : ((-8) : Int32).toInt = (-8) := (by decide); have k0_ : (0 : Int32).toInt = 0 := (by decide); have k1_ : (1 : Int32).toInt = 1 := (by decide); have k2_ : (2 : Int32).toInt = 2 := (by decide); have k3_ : (3 : Int32).toInt = 3 := (by decide); refine ⟨?_, ?_, ?_, ?_, ?_, ?_, ?_, ?_, ?_, ?_, ?_, ?_, ?_, ?_, ?_, ?_, ?_⟩ <;> intros <;> omega), hJ⟩
            ·
              refine s_bipush (v := (-6)) E dX9_paste_49 (by decide) ?_
              exact r_int E dX9_paste_51 ⟨⟨by decide, by decide, by first | (left; decide) | (right; decide) | (right; have hb_ := z32 x1; omega), by first | (left; decide) | (right; decide) | (right; have hb_ := z32 x2; omega), by first | (left; decide) | (right; decide) | (right; have hb_ := z32 x3; omega), by first | (left; decide) | (right; decide) | (right; have hb_ := z32 x4; omega), by first | (left; decide) | (right; decide) | (right; have hb_ := z32 x5; omega)⟩, (by have hrc_ : ((-6) : Int32).toInt = (-6) := (by decide); have k0_ : (0 : Int32).toInt = 0 := (by decide); have k1_ : (1 : Int32).toInt = 1 := (by decide); have k2_ : (2 : Int32).toInt = 2 := (by decide); have k3_ : (3 : Int32).toInt = 3 := (by decide); refine ⟨?_, ?_, ?_, ?_, ?_, ?_, ?_, ?_, ?_, ?_, ?_, ?_, ?_, ?_, ?_, ?_, ?_⟩ <;> intros <;> omega), hJ⟩
        ·
          refine s_aald105 (r := 63) E rfl (jv_lt hJ (by decide)) (vp_c (by decide)) (jv_r hJ (by decide +kernel)) dX9_paste_30 ?_
          refine s_astore (L2 := [some (AR 0), some (AI 3), some (AI x2), some (AI 1), some (AI x4), some (AI x5), some (AR 67), some (AR 63)]) E dX9_paste_31 (by decide) rfl ?_
          refine s_aload E dX9_paste_33 rfl ?_
          refine s_vI (As := []) (S := []) E (Z_X7_isBare_67 l D aC b w  hJ.1 ) cv_X9_279 rfl rfl rfl (jv_lt hJ (by decide)) (Nat.le_of_ble_eq_true rfl) (Nat.le_of_ble_eq_true rfl) ⟨(Nat.le_of_ble_eq_true rfl), (Nat.le_of_ble_eq_true rfl)⟩ (Nat.le_of_ble_eq_true rfl) dX9_paste_35 (fun z_351 u_349 hp_350 => ?_)
          obtain ⟨hz_351, hxz_351, hp_350⟩ := hp_350
          subst hp_350
          refine z_if_ne (tgt := 49) (u := z_351.toInt) E dX9_paste_38 (by decide) rfl (fun h_353 => ?_) (fun h_353 => ?_)
          ·
            refine s_bipush (v := (-6)) E dX9_paste_49 (by decide) ?_
            exact r_int E dX9_paste_51 ⟨⟨by decide, by decide, by first | (left; decide) | (right; decide) | (right; have hb_ := z32 x1; omega), by first | (left; decide) | (right; decide) | (right; have hb_ := z32 x2; omega), by first | (left; decide) | (right; decide) | (right; have hb_ := z32 x3; omega), by first | (left; decide) | (right; decide) | (right; have hb_ := z32 x4; omega), by first | (left; decide) | (right; decide) | (right; have hb_ := z32 x5; omega)⟩, (by have hrc_ : ((-6) : Int32).toInt = (-6) := (by decide); have k0_ : (0 : Int32).toInt = 0 := (by decide); have k1_ : (1 : Int32).toInt = 1 := (by decide); have k2_ : (2 : Int32).toInt = 2 := (by decide); have k3_ : (3 : Int32).toInt = 3 := (by decide); refine ⟨?_, ?_, ?_, ?_, ?_, ?_, ?_, ?_, ?_, ?_, ?_, ?_, ?_, ?_, ?_, ?_, ?_⟩ <;> intros <;> omega), hJ⟩
          ·
            refine s_aload E dX9_paste_41 rfl ?_
            refine s_vI (As := []) (S := []) E (Z_X7_isBare_63 l D aC b w  hJ.1 ) cv_X9_279 rfl rfl rfl (jv_lt hJ (by decide)) (Nat.le_of_ble_eq_true rfl) (Nat.le_of_ble_eq_true rfl) ⟨(Nat.le_of_ble_eq_true rfl), (Nat.le_of_ble_eq_true rfl)⟩ (Nat.le_of_ble_eq_true rfl) dX9_paste_43 (fun z_356 u_354 hp_355 => ?_)
            obtain ⟨hz_356, hxz_356, hp_355⟩ := hp_355
            subst hp_355
            refine z_if_eq (tgt := 52) (u := z_356.toInt) E dX9_paste_46 (by decide) rfl (fun h_358 => ?_) (fun h_358 => ?_)
            ·
              refine s_aload E dX9_paste_52 rfl ?_
              refine s_gI E fg_X9_432 rfl rfl (jv_lt hJ (by decide)) dX9_paste_54 ?_
              refine z_nm (P := fun z => z.toInt = (w.2.2.1 67 1).toInt ∧ 0 ≤ z.toInt ∧ z.toInt ≤ 3) ⟨rfl, (rg_67_1 hJ)⟩ (fun z_359 hz_359 => ?_)
              refine s_aload E dX9_paste_57 rfl ?_
              refine s_gI E fg_X9_432 rfl rfl (jv_lt hJ (by decide)) dX9_paste_59 ?_
              refine z_nm (P := fun z => z.toInt = (w.2.2.1 63 1).toInt ∧ 0 ≤ z.toInt ∧ z.toInt ≤ 3) ⟨rfl, (rg_63_1 hJ)⟩ (fun z_360 hz_360 => ?_)
              refine z_icmp_eq (tgt := 68) (u := z_359.toInt) (v := z_360.toInt) E dX9_paste_62 (by decide) rfl rfl (fun h_361 => ?_) (fun h_361 => ?_)
              ·
                refine s_aload E dX9_paste_68 rfl ?_
                refine s_iload_n E dX9_paste_70 rfl rfl ?_
                refine s_iload E dX9_paste_71 rfl ?_
                refine s_vI (As := [AI x2, AI x5]) (S := []) E (Z_X7_hasStretch_67 l D aC b w x2 x5 hJ.1 ) cv_X9_435 rfl rfl rfl (jv_lt hJ (by decide)) (Nat.le_of_ble_eq_true rfl) (Nat.le_of_ble_eq_true rfl) ⟨(Nat.le_of_ble_eq_true rfl), (Nat.le_of_ble_eq_true rfl)⟩ (Nat.le_of_ble_eq_true rfl) dX9_paste_73 (fun z_364 u_362 hp_363 => ?_)
                obtain ⟨hz_364, hxz_364, hp_363⟩ := hp_363
                subst hp_363
                refine z_if_eq (tgt := 91) (u := z_364.toInt) E dX9_paste_76 (by decide) rfl (fun h_366 => ?_) (fun h_366 => ?_)
                ·
                  refine s_bipush (v := (-7)) E dX9_paste_91 (by decide) ?_
                  exact r_int E dX9_paste_93 ⟨⟨by decide, by decide, by first | (left; decide) | (right; decide) | (right; have hb_ := z32 x1; omega), by first | (left; decide) | (right; decide) | (right; have hb_ := z32 x2; omega), by first | (left; decide) | (right; decide) | (right; have hb_ := z32 x3; omega), by first | (left; decide) | (right; decide) | (right; have hb_ := z32 x4; omega), by first | (left; decide) | (right; decide) | (right; have hb_ := z32 x5; omega)⟩, (by have hrc_ : ((-7) : Int32).toInt = (-7) := (by decide); have k0_ : (0 : Int32).toInt = 0 := (by decide); have k1_ : (1 : Int32).toInt = 1 := (by decide); have k2_ : (2 : Int32).toInt = 2 := (by decide); have k3_ : (3 : Int32).toInt = 3 := (by decide); refine ⟨?_, ?_, ?_, ?_, ?_, ?_, ?_, ?_, ?_, ?_, ?_, ?_, ?_, ?_, ?_, ?_, ?_⟩ <;> intros <;> omega), hJ⟩
                ·
                  refine s_aload E dX9_paste_79 rfl ?_
                  refine s_iload E dX9_paste_81 rfl ?_
                  refine s_iload E dX9_paste_83 rfl ?_
                  refine s_vI (As := [AI x4, AI x5]) (S := []) E (Z_X7_hasStretch_63 l D aC b w x4 x5 hJ.1 ) cv_X9_435 rfl rfl rfl (jv_lt hJ (by decide)) (Nat.le_of_ble_eq_true rfl) (Nat.le_of_ble_eq_true rfl) ⟨(Nat.le_of_ble_eq_true rfl), (Nat.le_of_ble_eq_true rfl)⟩ (Nat.le_of_ble_eq_true rfl) dX9_paste_85 (fun z_369 u_367 hp_368 => ?_)
                  obtain ⟨hz_369, hxz_369, hp_368⟩ := hp_368
                  subst hp_368
                  refine z_if_ne (tgt := 94) (u := z_369.toInt) E dX9_paste_88 (by decide) rfl (fun h_371 => ?_) (fun h_371 => ?_)
                  ·
                    refine s_aload E dX9_paste_94 rfl ?_
                    refine s_gR (r := 68) E fg_X9_438 rfl rfl (jv_lt hJ (by decide)) (jv_r hJ (by decide +kernel)) dX9_paste_96 ?_
                    refine s_iload_n E dX9_paste_99 rfl rfl ?_
                    refine s_aload E dX9_paste_100 rfl ?_
                    refine s_gR (r := 64) E fg_X9_438 rfl rfl (jv_lt hJ (by decide)) (jv_r hJ (by decide +kernel)) dX9_paste_102 ?_
                    refine s_iload E dX9_paste_105 rfl ?_
                    refine s_iload E dX9_paste_107 rfl ?_
                    refine z_copy101 (S := []) (u1 := x2.toInt) (u2 := x4.toInt) (u3 := x5.toInt) E k_1234 k_538 k_537 k_17 rfl rfl (jv_lt hJ (by decide)) (jv_lt hJ (by decide)) rfl rfl rfl (by omega) (by omega) (by omega) (by omega) (by omega) (Nat.le_of_ble_eq_true rfl) (Nat.le_of_ble_eq_true rfl) dX9_paste_109 ?_
                    refine s_gen (P := fun v => Jv w v ∧ (v.2.2.1 67 2).toInt = (w.2.2.1 67 2).toInt ∧ (v.2.2.1 63 2).toInt = (w.2.2.1 63 2).toInt) ⟨(jv_SL hJ (by decide)), rfl, rfl⟩ (fun v_372 hj_373 => ?_)
                    obtain ⟨hj_373, hk_374k0, hk_374k1⟩ := hj_373
                    refine s_iconst (v := 0) E dX9_paste_112 (by decide) ?_
                    exact r_int E dX9_paste_113 ⟨⟨by decide, by decide, by first | (left; decide) | (right; decide) | (right; have hb_ := z32 x1; omega), by first | (left; decide) | (right; decide) | (right; have hb_ := z32 x2; omega), by first | (left; decide) | (right; decide) | (right; have hb_ := z32 x3; omega), by first | (left; decide) | (right; decide) | (right; have hb_ := z32 x4; omega), by first | (left; decide) | (right; decide) | (right; have hb_ := z32 x5; omega)⟩, (by have hrc_ : (0 : Int32).toInt = 0 := (by decide); have k0_ : (0 : Int32).toInt = 0 := (by decide); have k1_ : (1 : Int32).toInt = 1 := (by decide); have k2_ : (2 : Int32).toInt = 2 := (by decide); have k3_ : (3 : Int32).toInt = 3 := (by decide); refine ⟨?_, ?_, ?_, ?_, ?_, ?_, ?_, ?_, ?_, ?_, ?_, ?_, ?_, ?_, ?_, ?_, ?_⟩ <;> intros <;> omega), hj_373⟩
                  ·
                    refine s_bipush (v := (-7)) E dX9_paste_91 (by decide) ?_
                    exact r_int E dX9_paste_93 ⟨⟨by decide, by decide, by first | (left; decide) | (right; decide) | (right; have hb_ := z32 x1; omega), by first | (left; decide) | (right; decide) | (right; have hb_ := z32 x2; omega), by first | (left; decide) | (right; decide) | (right; have hb_ := z32 x3; omega), by first | (left; decide) | (right; decide) | (right; have hb_ := z32 x4; omega), by first | (left; decide) | (right; decide) | (right; have hb_ := z32 x5; omega)⟩, (by have hrc_ : ((-7) : Int32).toInt = (-7) := (by decide); have k0_ : (0 : Int32).toInt = 0 := (by decide); have k1_ : (1 : Int32).toInt = 1 := (by decide); have k2_ : (2 : Int32).toInt = 2 := (by decide); have k3_ : (3 : Int32).toInt = 3 := (by decide); refine ⟨?_, ?_, ?_, ?_, ?_, ?_, ?_, ?_, ?_, ?_, ?_, ?_, ?_, ?_, ?_, ?_, ?_⟩ <;> intros <;> omega), hJ⟩
              ·
                refine s_bipush (v := (-8)) E dX9_paste_65 (by decide) ?_
                exact r_int E dX9_paste_67 ⟨⟨by decide, by decide, by first | (left; decide) | (right; decide) | (right; have hb_ := z32 x1; omega), by first | (left; decide) | (right; decide) | (right; have hb_ := z32 x2; omega), by first | (left; decide) | (right; decide) | (right; have hb_ := z32 x3; omega), by first | (left; decide) | (right; decide) | (right; have hb_ := z32 x4; omega), by first | (left; decide) | (right; decide) | (right; have hb_ := z32 x5; omega)⟩, (by have hrc_ : ((-8) : Int32).toInt = (-8) := (by decide); have k0_ : (0 : Int32).toInt = 0 := (by decide); have k1_ : (1 : Int32).toInt = 1 := (by decide); have k2_ : (2 : Int32).toInt = 2 := (by decide); have k3_ : (3 : Int32).toInt = 3 := (by decide); refine ⟨?_, ?_, ?_, ?_, ?_, ?_, ?_, ?_, ?_, ?_, ?_, ?_, ?_, ?_, ?_, ?_, ?_⟩ <;> intros <;> omega), hJ⟩
            ·
              refine s_bipush (v := (-6)) E dX9_paste_49 (by decide) ?_
              exact r_int E dX9_paste_51 ⟨⟨by decide, by decide, by first | (left; decide) | (right; decide) | (right; have hb_ := z32 x1; omega), by first | (left; decide) | (right; decide) | (right; have hb_ := z32 x2; omega), by first | (left; decide) | (right; decide) | (right; have hb_ := z32 x3; omega), by first | (left; decide) | (right; decide) | (right; have hb_ := z32 x4; omega), by first | (left; decide) | (right; decide) | (right; have hb_ := z32 x5; omega)⟩, (by have hrc_ : ((-6) : Int32).toInt = (-6) := (by decide); have k0_ : (0 : Int32).toInt = 0 := (by decide); have k1_ : (1 : Int32).toInt = 1 := (by decide); have k2_ : (2 : Int32).toInt = 2 := (by decide); have k3_ : (3 : Int32).toInt = 3 := (by decide); refine ⟨?_, ?_, ?_, ?_, ?_, ?_, ?_, ?_, ?_, ?_, ?_, ?_, ?_, ?_, ?_, ?_, ?_⟩ <;> intros <;> omega), hJ⟩
        ·
          refine s_aald105 (r := 65) E rfl (jv_lt hJ (by decide)) (vp_c (by decide)) (jv_r hJ (by decide +kernel)) dX9_paste_30 ?_
          refine s_astore (L2 := [some (AR 0), some (AI 3), some (AI x2), some (AI 2), some (AI x4), some (AI x5), some (AR 67), some (AR 65)]) E dX9_paste_31 (by decide) rfl ?_
          refine s_aload E dX9_paste_33 rfl ?_
          refine s_vI (As := []) (S := []) E (Z_X7_isBare_67 l D aC b w  hJ.1 ) cv_X9_279 rfl rfl rfl (jv_lt hJ (by decide)) (Nat.le_of_ble_eq_true rfl) (Nat.le_of_ble_eq_true rfl) ⟨(Nat.le_of_ble_eq_true rfl), (Nat.le_of_ble_eq_true rfl)⟩ (Nat.le_of_ble_eq_true rfl) dX9_paste_35 (fun z_377 u_375 hp_376 => ?_)
          obtain ⟨hz_377, hxz_377, hp_376⟩ := hp_376
          subst hp_376
          refine z_if_ne (tgt := 49) (u := z_377.toInt) E dX9_paste_38 (by decide) rfl (fun h_379 => ?_) (fun h_379 => ?_)
          ·
            refine s_bipush (v := (-6)) E dX9_paste_49 (by decide) ?_
            exact r_int E dX9_paste_51 ⟨⟨by decide, by decide, by first | (left; decide) | (right; decide) | (right; have hb_ := z32 x1; omega), by first | (left; decide) | (right; decide) | (right; have hb_ := z32 x2; omega), by first | (left; decide) | (right; decide) | (right; have hb_ := z32 x3; omega), by first | (left; decide) | (right; decide) | (right; have hb_ := z32 x4; omega), by first | (left; decide) | (right; decide) | (right; have hb_ := z32 x5; omega)⟩, (by have hrc_ : ((-6) : Int32).toInt = (-6) := (by decide); have k0_ : (0 : Int32).toInt = 0 := (by decide); have k1_ : (1 : Int32).toInt = 1 := (by decide); have k2_ : (2 : Int32).toInt = 2 := (by decide); have k3_ : (3 : Int32).toInt = 3 := (by decide); refine ⟨?_, ?_, ?_, ?_, ?_, ?_, ?_, ?_, ?_, ?_, ?_, ?_, ?_, ?_, ?_, ?_, ?_⟩ <;> intros <;> omega), hJ⟩
          ·
            refine s_aload E dX9_paste_41 rfl ?_
            refine s_vI (As := []) (S := []) E (Z_X7_isBare_65 l D aC b w  hJ.1 ) cv_X9_279 rfl rfl rfl (jv_lt hJ (by decide)) (Nat.le_of_ble_eq_true rfl) (Nat.le_of_ble_eq_true rfl) ⟨(Nat.le_of_ble_eq_true rfl), (Nat.le_of_ble_eq_true rfl)⟩ (Nat.le_of_ble_eq_true rfl) dX9_paste_43 (fun z_382 u_380 hp_381 => ?_)
            obtain ⟨hz_382, hxz_382, hp_381⟩ := hp_381
            subst hp_381
            refine z_if_eq (tgt := 52) (u := z_382.toInt) E dX9_paste_46 (by decide) rfl (fun h_384 => ?_) (fun h_384 => ?_)
            ·
              refine s_aload E dX9_paste_52 rfl ?_
              refine s_gI E fg_X9_432 rfl rfl (jv_lt hJ (by decide)) dX9_paste_54 ?_
              refine z_nm (P := fun z => z.toInt = (w.2.2.1 67 1).toInt ∧ 0 ≤ z.toInt ∧ z.toInt ≤ 3) ⟨rfl, (rg_67_1 hJ)⟩ (fun z_385 hz_385 => ?_)
              refine s_aload E dX9_paste_57 rfl ?_
              refine s_gI E fg_X9_432 rfl rfl (jv_lt hJ (by decide)) dX9_paste_59 ?_
              refine z_nm (P := fun z => z.toInt = (w.2.2.1 65 1).toInt ∧ 0 ≤ z.toInt ∧ z.toInt ≤ 3) ⟨rfl, (rg_65_1 hJ)⟩ (fun z_386 hz_386 => ?_)
              refine z_icmp_eq (tgt := 68) (u := z_385.toInt) (v := z_386.toInt) E dX9_paste_62 (by decide) rfl rfl (fun h_387 => ?_) (fun h_387 => ?_)
              ·
                refine s_aload E dX9_paste_68 rfl ?_
                refine s_iload_n E dX9_paste_70 rfl rfl ?_
                refine s_iload E dX9_paste_71 rfl ?_
                refine s_vI (As := [AI x2, AI x5]) (S := []) E (Z_X7_hasStretch_67 l D aC b w x2 x5 hJ.1 ) cv_X9_435 rfl rfl rfl (jv_lt hJ (by decide)) (Nat.le_of_ble_eq_true rfl) (Nat.le_of_ble_eq_true rfl) ⟨(Nat.le_of_ble_eq_true rfl), (Nat.le_of_ble_eq_true rfl)⟩ (Nat.le_of_ble_eq_true rfl) dX9_paste_73 (fun z_390 u_388 hp_389 => ?_)
                obtain ⟨hz_390, hxz_390, hp_389⟩ := hp_389
                subst hp_389
                refine z_if_eq (tgt := 91) (u := z_390.toInt) E dX9_paste_76 (by decide) rfl (fun h_392 => ?_) (fun h_392 => ?_)
                ·
                  refine s_bipush (v := (-7)) E dX9_paste_91 (by decide) ?_
                  exact r_int E dX9_paste_93 ⟨⟨by decide, by decide, by first | (left; decide) | (right; decide) | (right; have hb_ := z32 x1; omega), by first | (left; decide) | (right; decide) | (right; have hb_ := z32 x2; omega), by first | (left; decide) | (right; decide) | (right; have hb_ := z32 x3; omega), by first | (left; decide) | (right; decide) | (right; have hb_ := z32 x4; omega), by first | (left; decide) | (right; decide) | (right; have hb_ := z32 x5; omega)⟩, (by have hrc_ : ((-7) : Int32).toInt = (-7) := (by decide); have k0_ : (0 : Int32).toInt = 0 := (by decide); have k1_ : (1 : Int32).toInt = 1 := (by decide); have k2_ : (2 : Int32).toInt = 2 := (by decide); have k3_ : (3 : Int32).toInt = 3 := (by decide); refine ⟨?_, ?_, ?_, ?_, ?_, ?_, ?_, ?_, ?_, ?_, ?_, ?_, ?_, ?_, ?_, ?_, ?_⟩ <;> intros <;> omega), hJ⟩
                ·
                  refine s_aload E dX9_paste_79 rfl ?_
                  refine s_iload E dX9_paste_81 rfl ?_
                  refine s_iload E dX9_paste_83 rfl ?_
                  refine s_vI (As := [AI x4, AI x5]) (S := []) E (Z_X7_hasStretch_65 l D aC b w x4 x5 hJ.1 ) cv_X9_435 rfl rfl rfl (jv_lt hJ (by decide)) (Nat.le_of_ble_eq_true rfl) (Nat.le_of_ble_eq_true rfl) ⟨(Nat.le_of_ble_eq_true rfl), (Nat.le_of_ble_eq_true rfl)⟩ (Nat.le_of_ble_eq_true rfl) dX9_paste_85 (fun z_395 u_393 hp_394 => ?_)
                  obtain ⟨hz_395, hxz_395, hp_394⟩ := hp_394
                  subst hp_394
                  refine z_if_ne (tgt := 94) (u := z_395.toInt) E dX9_paste_88 (by decide) rfl (fun h_397 => ?_) (fun h_397 => ?_)
                  ·
                    refine s_aload E dX9_paste_94 rfl ?_
                    refine s_gR (r := 68) E fg_X9_438 rfl rfl (jv_lt hJ (by decide)) (jv_r hJ (by decide +kernel)) dX9_paste_96 ?_
                    refine s_iload_n E dX9_paste_99 rfl rfl ?_
                    refine s_aload E dX9_paste_100 rfl ?_
                    refine s_gR (r := 66) E fg_X9_438 rfl rfl (jv_lt hJ (by decide)) (jv_r hJ (by decide +kernel)) dX9_paste_102 ?_
                    refine s_iload E dX9_paste_105 rfl ?_
                    refine s_iload E dX9_paste_107 rfl ?_
                    refine z_copy101 (S := []) (u1 := x2.toInt) (u2 := x4.toInt) (u3 := x5.toInt) E k_1234 k_538 k_537 k_17 rfl rfl (jv_lt hJ (by decide)) (jv_lt hJ (by decide)) rfl rfl rfl (by omega) (by omega) (by omega) (by omega) (by omega) (Nat.le_of_ble_eq_true rfl) (Nat.le_of_ble_eq_true rfl) dX9_paste_109 ?_
                    refine s_gen (P := fun v => Jv w v ∧ (v.2.2.1 67 2).toInt = (w.2.2.1 67 2).toInt ∧ (v.2.2.1 65 2).toInt = (w.2.2.1 65 2).toInt) ⟨(jv_SL hJ (by decide)), rfl, rfl⟩ (fun v_398 hj_399 => ?_)
                    obtain ⟨hj_399, hk_400k0, hk_400k1⟩ := hj_399
                    refine s_iconst (v := 0) E dX9_paste_112 (by decide) ?_
                    exact r_int E dX9_paste_113 ⟨⟨by decide, by decide, by first | (left; decide) | (right; decide) | (right; have hb_ := z32 x1; omega), by first | (left; decide) | (right; decide) | (right; have hb_ := z32 x2; omega), by first | (left; decide) | (right; decide) | (right; have hb_ := z32 x3; omega), by first | (left; decide) | (right; decide) | (right; have hb_ := z32 x4; omega), by first | (left; decide) | (right; decide) | (right; have hb_ := z32 x5; omega)⟩, (by have hrc_ : (0 : Int32).toInt = 0 := (by decide); have k0_ : (0 : Int32).toInt = 0 := (by decide); have k1_ : (1 : Int32).toInt = 1 := (by decide); have k2_ : (2 : Int32).toInt = 2 := (by decide); have k3_ : (3 : Int32).toInt = 3 := (by decide); refine ⟨?_, ?_, ?_, ?_, ?_, ?_, ?_, ?_, ?_, ?_, ?_, ?_, ?_, ?_, ?_, ?_, ?_⟩ <;> intros <;> omega), hj_399⟩
                  ·
                    refine s_bipush (v := (-7)) E dX9_paste_91 (by decide) ?_
                    exact r_int E dX9_paste_93 ⟨⟨by decide, by decide, by first | (left; decide) | (right; decide) | (right; have hb_ := z32 x1; omega), by first | (left; decide) | (right; decide) | (right; have hb_ := z32 x2; omega), by first | (left; decide) | (right; decide) | (right; have hb_ := z32 x3; omega), by first | (left; decide) | (right; decide) | (right; have hb_ := z32 x4; omega), by first | (left; decide) | (right; decide) | (right; have hb_ := z32 x5; omega)⟩, (by have hrc_ : ((-7) : Int32).toInt = (-7) := (by decide); have k0_ : (0 : Int32).toInt = 0 := (by decide); have k1_ : (1 : Int32).toInt = 1 := (by decide); have k2_ : (2 : Int32).toInt = 2 := (by decide); have k3_ : (3 : Int32).toInt = 3 := (by decide); refine ⟨?_, ?_, ?_, ?_, ?_, ?_, ?_, ?_, ?_, ?_, ?_, ?_, ?_, ?_, ?_, ?_, ?_⟩ <;> intros <;> omega), hJ⟩
              ·
                refine s_bipush (v := (-8)) E dX9_paste_65 (by decide) ?_
                exact r_int E dX9_paste_67 ⟨⟨by decide, by decide, by first | (left; decide) | (right; decide) | (right; have hb_ := z32 x1; omega), by first | (left; decide) | (right; decide) | (right; have hb_ := z32 x2; omega), by first | (left; decide) | (right; decide) | (right; have hb_ := z32 x3; omega), by first | (left; decide) | (right; decide) | (right; have hb_ := z32 x4; omega), by first | (left; decide) | (right; decide) | (right; have hb_ := z32 x5; omega)⟩, (by have hrc_ : ((-8) : Int32).toInt = (-8) := (by decide); have k0_ : (0 : Int32).toInt = 0 := (by decide); have k1_ : (1 : Int32).toInt = 1 := (by decide); have k2_ : (2 : Int32).toInt = 2 := (by decide); have k3_ : (3 : Int32).toInt = 3 := (by decide); refine ⟨?_, ?_, ?_, ?_, ?_, ?_, ?_, ?_, ?_, ?_, ?_, ?_, ?_, ?_, ?_, ?_, ?_⟩ <;> intros <;> omega), hJ⟩
            ·
              refine s_bipush (v := (-6)) E dX9_paste_49 (by decide) ?_
              exact r_int E dX9_paste_51 ⟨⟨by decide, by decide, by first | (left; decide) | (right; decide) | (right; have hb_ := z32 x1; omega), by first | (left; decide) | (right; decide) | (right; have hb_ := z32 x2; omega), by first | (left; decide) | (right; decide) | (right; have hb_ := z32 x3; omega), by first | (left; decide) | (right; decide) | (right; have hb_ := z32 x4; omega), by first | (left; decide) | (right; decide) | (right; have hb_ := z32 x5; omega)⟩, (by have hrc_ : ((-6) : Int32).toInt = (-6) := (by decide); have k0_ : (0 : Int32).toInt = 0 := (by decide); have k1_ : (1 : Int32).toInt = 1 := (by decide); have k2_ : (2 : Int32).toInt = 2 := (by decide); have k3_ : (3 : Int32).toInt = 3 := (by decide); refine ⟨?_, ?_, ?_, ?_, ?_, ?_, ?_, ?_, ?_, ?_, ?_, ?_, ?_, ?_, ?_, ?_, ?_⟩ <;> intros <;> omega), hJ⟩
        ·
          refine s_aald105 (r := 67) E rfl (jv_lt hJ (by decide)) (vp_c (by decide)) (jv_r hJ (by decide +kernel)) dX9_paste_30 ?_
          refine s_astore (L2 := [some (AR 0), some (AI 3), some (AI x2), some (AI 3), some (AI x4), some (AI x5), some (AR 67), some (AR 67)]) E dX9_paste_31 (by decide) rfl ?_
          refine s_aload E dX9_paste_33 rfl ?_
          refine s_vI (As := []) (S := []) E (Z_X7_isBare_67 l D aC b w  hJ.1 ) cv_X9_279 rfl rfl rfl (jv_lt hJ (by decide)) (Nat.le_of_ble_eq_true rfl) (Nat.le_of_ble_eq_true rfl) ⟨(Nat.le_of_ble_eq_true rfl), (Nat.le_of_ble_eq_true rfl)⟩ (Nat.le_of_ble_eq_true rfl) dX9_paste_35 (fun z_403 u_401 hp_402 => ?_)
          obtain ⟨hz_403, hxz_403, hp_402⟩ := hp_402
          subst hp_402
          refine z_if_ne (tgt := 49) (u := z_403.toInt) E dX9_paste_38 (by decide) rfl (fun h_405 => ?_) (fun h_405 => ?_)
          ·
            refine s_bipush (v := (-6)) E dX9_paste_49 (by decide) ?_
            exact r_int E dX9_paste_51 ⟨⟨by decide, by decide, by first | (left; decide) | (right; decide) | (right; have hb_ := z32 x1; omega), by first | (left; decide) | (right; decide) | (right; have hb_ := z32 x2; omega), by first | (left; decide) | (right; decide) | (right; have hb_ := z32 x3; omega), by first | (left; decide) | (right; decide) | (right; have hb_ := z32 x4; omega), by first | (left; decide) | (right; decide) | (right; have hb_ := z32 x5; omega)⟩, (by have hrc_ : ((-6) : Int32).toInt = (-6) := (by decide); have k0_ : (0 : Int32).toInt = 0 := (by decide); have k1_ : (1 : Int32).toInt = 1 := (by decide); have k2_ : (2 : Int32).toInt = 2 := (by decide); have k3_ : (3 : Int32).toInt = 3 := (by decide); refine ⟨?_, ?_, ?_, ?_, ?_, ?_, ?_, ?_, ?_, ?_, ?_, ?_, ?_, ?_, ?_, ?_, ?_⟩ <;> intros <;> omega), hJ⟩
          ·
            refine s_aload E dX9_paste_41 rfl ?_
            refine s_vI (As := []) (S := []) E (Z_X7_isBare_67 l D aC b w  hJ.1 ) cv_X9_279 rfl rfl rfl (jv_lt hJ (by decide)) (Nat.le_of_ble_eq_true rfl) (Nat.le_of_ble_eq_true rfl) ⟨(Nat.le_of_ble_eq_true rfl), (Nat.le_of_ble_eq_true rfl)⟩ (Nat.le_of_ble_eq_true rfl) dX9_paste_43 (fun z_408 u_406 hp_407 => ?_)
            obtain ⟨hz_408, hxz_408, hp_407⟩ := hp_407
            subst hp_407
            refine z_if_eq (tgt := 52) (u := z_408.toInt) E dX9_paste_46 (by decide) rfl (fun h_410 => ?_) (fun h_410 => ?_)
            ·
              refine s_aload E dX9_paste_52 rfl ?_
              refine s_gI E fg_X9_432 rfl rfl (jv_lt hJ (by decide)) dX9_paste_54 ?_
              refine z_nm (P := fun z => z.toInt = (w.2.2.1 67 1).toInt ∧ 0 ≤ z.toInt ∧ z.toInt ≤ 3) ⟨rfl, (rg_67_1 hJ)⟩ (fun z_411 hz_411 => ?_)
              refine s_aload E dX9_paste_57 rfl ?_
              refine s_gI E fg_X9_432 rfl rfl (jv_lt hJ (by decide)) dX9_paste_59 ?_
              refine z_nm (P := fun z => z.toInt = (w.2.2.1 67 1).toInt ∧ 0 ≤ z.toInt ∧ z.toInt ≤ 3) ⟨rfl, (rg_67_1 hJ)⟩ (fun z_412 hz_412 => ?_)
              refine z_icmp_eq (tgt := 68) (u := z_411.toInt) (v := z_412.toInt) E dX9_paste_62 (by decide) rfl rfl (fun h_413 => ?_) (fun h_413 => ?_)
              ·
                refine s_aload E dX9_paste_68 rfl ?_
                refine s_iload_n E dX9_paste_70 rfl rfl ?_
                refine s_iload E dX9_paste_71 rfl ?_
                refine s_vI (As := [AI x2, AI x5]) (S := []) E (Z_X7_hasStretch_67 l D aC b w x2 x5 hJ.1 ) cv_X9_435 rfl rfl rfl (jv_lt hJ (by decide)) (Nat.le_of_ble_eq_true rfl) (Nat.le_of_ble_eq_true rfl) ⟨(Nat.le_of_ble_eq_true rfl), (Nat.le_of_ble_eq_true rfl)⟩ (Nat.le_of_ble_eq_true rfl) dX9_paste_73 (fun z_416 u_414 hp_415 => ?_)
                obtain ⟨hz_416, hxz_416, hp_415⟩ := hp_415
                subst hp_415
                refine z_if_eq (tgt := 91) (u := z_416.toInt) E dX9_paste_76 (by decide) rfl (fun h_418 => ?_) (fun h_418 => ?_)
                ·
                  refine s_bipush (v := (-7)) E dX9_paste_91 (by decide) ?_
                  exact r_int E dX9_paste_93 ⟨⟨by decide, by decide, by first | (left; decide) | (right; decide) | (right; have hb_ := z32 x1; omega), by first | (left; decide) | (right; decide) | (right; have hb_ := z32 x2; omega), by first | (left; decide) | (right; decide) | (right; have hb_ := z32 x3; omega), by first | (left; decide) | (right; decide) | (right; have hb_ := z32 x4; omega), by first | (left; decide) | (right; decide) | (right; have hb_ := z32 x5; omega)⟩, (by have hrc_ : ((-7) : Int32).toInt = (-7) := (by decide); have k0_ : (0 : Int32).toInt = 0 := (by decide); have k1_ : (1 : Int32).toInt = 1 := (by decide); have k2_ : (2 : Int32).toInt = 2 := (by decide); have k3_ : (3 : Int32).toInt = 3 := (by decide); refine ⟨?_, ?_, ?_, ?_, ?_, ?_, ?_, ?_, ?_, ?_, ?_, ?_, ?_, ?_, ?_, ?_, ?_⟩ <;> intros <;> omega), hJ⟩
                ·
                  refine s_aload E dX9_paste_79 rfl ?_
                  refine s_iload E dX9_paste_81 rfl ?_
                  refine s_iload E dX9_paste_83 rfl ?_
                  refine s_vI (As := [AI x4, AI x5]) (S := []) E (Z_X7_hasStretch_67 l D aC b w x4 x5 hJ.1 ) cv_X9_435 rfl rfl rfl (jv_lt hJ (by decide)) (Nat.le_of_ble_eq_true rfl) (Nat.le_of_ble_eq_true rfl) ⟨(Nat.le_of_ble_eq_true rfl), (Nat.le_of_ble_eq_true rfl)⟩ (Nat.le_of_ble_eq_true rfl) dX9_paste_85 (fun z_421 u_419 hp_420 => ?_)
                  obtain ⟨hz_421, hxz_421, hp_420⟩ := hp_420
                  subst hp_420
                  refine z_if_ne (tgt := 94) (u := z_421.toInt) E dX9_paste_88 (by decide) rfl (fun h_423 => ?_) (fun h_423 => ?_)
                  ·
                    refine s_aload E dX9_paste_94 rfl ?_
                    refine s_gR (r := 68) E fg_X9_438 rfl rfl (jv_lt hJ (by decide)) (jv_r hJ (by decide +kernel)) dX9_paste_96 ?_
                    refine s_iload_n E dX9_paste_99 rfl rfl ?_
                    refine s_aload E dX9_paste_100 rfl ?_
                    refine s_gR (r := 68) E fg_X9_438 rfl rfl (jv_lt hJ (by decide)) (jv_r hJ (by decide +kernel)) dX9_paste_102 ?_
                    refine s_iload E dX9_paste_105 rfl ?_
                    refine s_iload E dX9_paste_107 rfl ?_
                    refine z_copy101 (S := []) (u1 := x2.toInt) (u2 := x4.toInt) (u3 := x5.toInt) E k_1234 k_538 k_537 k_17 rfl rfl (jv_lt hJ (by decide)) (jv_lt hJ (by decide)) rfl rfl rfl (by omega) (by omega) (by omega) (by omega) (by omega) (Nat.le_of_ble_eq_true rfl) (Nat.le_of_ble_eq_true rfl) dX9_paste_109 ?_
                    refine s_gen (P := fun v => Jv w v ∧ (v.2.2.1 67 2).toInt = (w.2.2.1 67 2).toInt) ⟨(jv_SL hJ (by decide)), rfl⟩ (fun v_424 hj_425 => ?_)
                    obtain ⟨hj_425, hk_426k0⟩ := hj_425
                    refine s_iconst (v := 0) E dX9_paste_112 (by decide) ?_
                    exact r_int E dX9_paste_113 ⟨⟨by decide, by decide, by first | (left; decide) | (right; decide) | (right; have hb_ := z32 x1; omega), by first | (left; decide) | (right; decide) | (right; have hb_ := z32 x2; omega), by first | (left; decide) | (right; decide) | (right; have hb_ := z32 x3; omega), by first | (left; decide) | (right; decide) | (right; have hb_ := z32 x4; omega), by first | (left; decide) | (right; decide) | (right; have hb_ := z32 x5; omega)⟩, (by have hrc_ : (0 : Int32).toInt = 0 := (by decide); have k0_ : (0 : Int32).toInt = 0 := (by decide); have k1_ : (1 : Int32).toInt = 1 := (by decide); have k2_ : (2 : Int32).toInt = 2 := (by decide); have k3_ : (3 : Int32).toInt = 3 := (by decide); refine ⟨?_, ?_, ?_, ?_, ?_, ?_, ?_, ?_, ?_, ?_, ?_, ?_, ?_, ?_, ?_, ?_, ?_⟩ <;> intros <;> omega), hj_425⟩
                  ·
                    refine s_bipush (v := (-7)) E dX9_paste_91 (by decide) ?_
                    exact r_int E dX9_paste_93 ⟨⟨by decide, by decide, by first | (left; decide) | (right; decide) | (right; have hb_ := z32 x1; omega), by first | (left; decide) | (right; decide) | (right; have hb_ := z32 x2; omega), by first | (left; decide) | (right; decide) | (right; have hb_ := z32 x3; omega), by first | (left; decide) | (right; decide) | (right; have hb_ := z32 x4; omega), by first | (left; decide) | (right; decide) | (right; have hb_ := z32 x5; omega)⟩, (by have hrc_ : ((-7) : Int32).toInt = (-7) := (by decide); have k0_ : (0 : Int32).toInt = 0 := (by decide); have k1_ : (1 : Int32).toInt = 1 := (by decide); have k2_ : (2 : Int32).toInt = 2 := (by decide); have k3_ : (3 : Int32).toInt = 3 := (by decide); refine ⟨?_, ?_, ?_, ?_, ?_, ?_, ?_, ?_, ?_, ?_, ?_, ?_, ?_, ?_, ?_, ?_, ?_⟩ <;> intros <;> omega), hJ⟩
              ·
                refine s_bipush (v := (-8)) E dX9_paste_65 (by decide) ?_
                exact r_int E dX9_paste_67 ⟨⟨by decide, by decide, by first | (left; decide) | (right; decide) | (right; have hb_ := z32 x1; omega), by first | (left; decide) | (right; decide) | (right; have hb_ := z32 x2; omega), by first | (left; decide) | (right; decide) | (right; have hb_ := z32 x3; omega), by first | (left; decide) | (right; decide) | (right; have hb_ := z32 x4; omega), by first | (left; decide) | (right; decide) | (right; have hb_ := z32 x5; omega)⟩, (by have hrc_ : ((-8) : Int32).toInt = (-8) := (by decide); have k0_ : (0 : Int32).toInt = 0 := (by decide); have k1_ : (1 : Int32).toInt = 1 := (by decide); have k2_ : (2 : Int32).toInt = 2 := (by decide); have k3_ : (3 : Int32).toInt = 3 := (by decide); refine ⟨?_, ?_, ?_, ?_, ?_, ?_, ?_, ?_, ?_, ?_, ?_, ?_, ?_, ?_, ?_, ?_, ?_⟩ <;> intros <;> omega), hJ⟩
            ·
              refine s_bipush (v := (-6)) E dX9_paste_49 (by decide) ?_
              exact r_int E dX9_paste_51 ⟨⟨by decide, by decide, by first | (left; decide) | (right; decide) | (right; have hb_ := z32 x1; omega), by first | (left; decide) | (right; decide) | (right; have hb_ := z32 x2; omega), by first | (left; decide) | (right; decide) | (right; have hb_ := z32 x3; omega), by first | (left; decide) | (right; decide) | (right; have hb_ := z32 x4; omega), by first | (left; decide) | (right; decide) | (right; have hb_ := z32 x5; omega)⟩, (by have hrc_ : ((-6) : Int32).toInt = (-6) := (by decide); have k0_ : (0 : Int32).toInt = 0 := (by decide); have k1_ : (1 : Int32).toInt = 1 := (by decide); have k2_ : (2 : Int32).toInt = 2 := (by decide); have k3_ : (3 : Int32).toInt = 3 := (by decide); refine ⟨?_, ?_, ?_, ?_, ?_, ?_, ?_, ?_, ?_, ?_, ?_, ?_, ?_, ?_, ?_, ?_, ?_⟩ <;> intros <;> omega), hJ⟩
    ·
      refine s_bipush (v := (-2)) E dX9_paste_14 (by decide) ?_
      exact r_int E dX9_paste_16 ⟨⟨by decide, by decide, by first | (left; decide) | (right; decide) | (right; have hb_ := z32 x1; omega), by first | (left; decide) | (right; decide) | (right; have hb_ := z32 x2; omega), by first | (left; decide) | (right; decide) | (right; have hb_ := z32 x3; omega), by first | (left; decide) | (right; decide) | (right; have hb_ := z32 x4; omega), by first | (left; decide) | (right; decide) | (right; have hb_ := z32 x5; omega)⟩, (by have hrc_ : ((-2) : Int32).toInt = (-2) := (by decide); have k0_ : (0 : Int32).toInt = 0 := (by decide); have k1_ : (1 : Int32).toInt = 1 := (by decide); have k2_ : (2 : Int32).toInt = 2 := (by decide); have k3_ : (3 : Int32).toInt = 3 := (by decide); refine ⟨?_, ?_, ?_, ?_, ?_, ?_, ?_, ?_, ?_, ?_, ?_, ?_, ?_, ?_, ?_, ?_, ?_⟩ <;> intros <;> omega), hJ⟩
