set_option maxRecDepth 20000 in
set_option maxHeartbeats 2000000 in
theorem K_X8_copyFrom_28_r3_RMS (l : Launch) (D : va_G) (aC : Nat → ClassId) (b : Nat) (w : XW)  (hw0 : RfC w) (hw1 : FrM w) (hw2 : RfM w) : CnV l D aC b M_X8_copyFrom 1 60 0 0 [AR 28, AR 3] w (fun u => RfC u ∧ FrM u ∧ RfM u) := by
  refine cn_V (own := RX8) (nm := "copyFrom") (L0 := [some (AR 28), some (AR 3)]) (by decide +kernel) rfl rfl (Nat.le_of_ble_eq_true rfl) rfl ?_
  intro p e s m args below meth c E hin
  refine s_aload_n E dX8_copyFrom_0 rfl rfl ?_
  refine s_gR (r := 4) E fg_X8_24 rfl rfl (ltn hw0.1 (by decide)) (fc_r hw0 (by decide +kernel)) dX8_copyFrom_1 ?_
  refine s_iconst (v := 0) E dX8_copyFrom_4 (by decide) ?_
  refine s_aload_n E dX8_copyFrom_5 rfl rfl ?_
  refine s_gR (r := 29) E fg_X8_24 rfl rfl (ltn hw0.1 (by decide)) (fc_r hw0 (by decide +kernel)) dX8_copyFrom_6 ?_
  refine s_iconst (v := 0) E dX8_copyFrom_9 (by decide) ?_
  refine s_aload_n E dX8_copyFrom_10 rfl rfl ?_
  refine s_gR (r := 29) E fg_X8_24 rfl rfl (ltn hw0.1 (by decide)) (fc_r hw0 (by decide +kernel)) dX8_copyFrom_11 ?_
  refine s_alen (v := 36) E rfl (by decide) (ltn hw0.1 (by decide)) (by decide) dX8_copyFrom_14 ?_
  refine s_aload_n E dX8_copyFrom_15 rfl rfl ?_
  refine s_gR (r := 4) E fg_X8_24 rfl rfl (ltn hw0.1 (by decide)) (fc_r hw0 (by decide +kernel)) dX8_copyFrom_16 ?_
  refine s_alen (v := 36) E rfl (by decide) (ltn hw0.1 (by decide)) (by decide) dX8_copyFrom_19 ?_
  refine s_min (v := 36) E ⟨k_535, k_369, k_4, k_370⟩ (Nat.le_of_ble_eq_true rfl) (Nat.le_of_ble_eq_true rfl) (Nat.le_of_ble_eq_true rfl) (Nat.le_of_ble_eq_true rfl) dX8_copyFrom_20 (by decide) ?_
  refine s_copy100 (S := []) E k_536 k_538 k_537 k_17 rfl rfl (ltn hw0.1 (by decide)) (ltn hw0.1 (by decide)) (by decide) (by decide) (by decide) (by decide) (by decide) (Nat.le_of_ble_eq_true rfl) (Nat.le_of_ble_eq_true rfl) dX8_copyFrom_23 ?_
  refine s_aload_n E dX8_copyFrom_26 rfl rfl ?_
  refine s_aload_n E dX8_copyFrom_27 rfl rfl ?_
  refine s_gI E fg_X8_28 rfl rfl (ltn hw0.1 (by decide)) dX8_copyFrom_28 ?_
  refine s_pI E fp_X8_28 (Or.inl rfl) rfl (ltn hw0.1 (by decide)) dX8_copyFrom_31 ?_
  exact r_void E dX8_copyFrom_34 ⟨(fc_upC (fc_stI hw0 (by decide +kernel)) (by decide +kernel)), (fc_upC (fc_stI hw1 (by decide +kernel)) (by decide +kernel)), (fc_upC (fc_stI hw2 (by decide +kernel)) (by decide +kernel))⟩
set_option maxRecDepth 20000 in
set_option maxHeartbeats 2000000 in
theorem K_X8_copyFrom_30_r5_RMS (l : Launch) (D : va_G) (aC : Nat → ClassId) (b : Nat) (w : XW)  (hw0 : RfC w) (hw1 : FrM w) (hw2 : RfM w) : CnV l D aC b M_X8_copyFrom 1 60 0 0 [AR 30, AR 5] w (fun u => RfC u ∧ FrM u ∧ RfM u) := by
  refine cn_V (own := RX8) (nm := "copyFrom") (L0 := [some (AR 30), some (AR 5)]) (by decide +kernel) rfl rfl (Nat.le_of_ble_eq_true rfl) rfl ?_
  intro p e s m args below meth c E hin
  refine s_aload_n E dX8_copyFrom_0 rfl rfl ?_
  refine s_gR (r := 6) E fg_X8_24 rfl rfl (ltn hw0.1 (by decide)) (fc_r hw0 (by decide +kernel)) dX8_copyFrom_1 ?_
  refine s_iconst (v := 0) E dX8_copyFrom_4 (by decide) ?_
  refine s_aload_n E dX8_copyFrom_5 rfl rfl ?_
  refine s_gR (r := 31) E fg_X8_24 rfl rfl (ltn hw0.1 (by decide)) (fc_r hw0 (by decide +kernel)) dX8_copyFrom_6 ?_
  refine s_iconst (v := 0) E dX8_copyFrom_9 (by decide) ?_
  refine s_aload_n E dX8_copyFrom_10 rfl rfl ?_
  refine s_gR (r := 31) E fg_X8_24 rfl rfl (ltn hw0.1 (by decide)) (fc_r hw0 (by decide +kernel)) dX8_copyFrom_11 ?_
  refine s_alen (v := 12) E rfl (by decide) (ltn hw0.1 (by decide)) (by decide) dX8_copyFrom_14 ?_
  refine s_aload_n E dX8_copyFrom_15 rfl rfl ?_
  refine s_gR (r := 6) E fg_X8_24 rfl rfl (ltn hw0.1 (by decide)) (fc_r hw0 (by decide +kernel)) dX8_copyFrom_16 ?_
  refine s_alen (v := 12) E rfl (by decide) (ltn hw0.1 (by decide)) (by decide) dX8_copyFrom_19 ?_
  refine s_min (v := 12) E ⟨k_535, k_369, k_4, k_370⟩ (Nat.le_of_ble_eq_true rfl) (Nat.le_of_ble_eq_true rfl) (Nat.le_of_ble_eq_true rfl) (Nat.le_of_ble_eq_true rfl) dX8_copyFrom_20 (by decide) ?_
  refine s_copy100 (S := []) E k_536 k_538 k_537 k_17 rfl rfl (ltn hw0.1 (by decide)) (ltn hw0.1 (by decide)) (by decide) (by decide) (by decide) (by decide) (by decide) (Nat.le_of_ble_eq_true rfl) (Nat.le_of_ble_eq_true rfl) dX8_copyFrom_23 ?_
  refine s_aload_n E dX8_copyFrom_26 rfl rfl ?_
  refine s_aload_n E dX8_copyFrom_27 rfl rfl ?_
  refine s_gI E fg_X8_28 rfl rfl (ltn hw0.1 (by decide)) dX8_copyFrom_28 ?_
  refine s_pI E fp_X8_28 (Or.inl rfl) rfl (ltn hw0.1 (by decide)) dX8_copyFrom_31 ?_
  exact r_void E dX8_copyFrom_34 ⟨(fc_upC (fc_stI hw0 (by decide +kernel)) (by decide +kernel)), (fc_upC (fc_stI hw1 (by decide +kernel)) (by decide +kernel)), (fc_upC (fc_stI hw2 (by decide +kernel)) (by decide +kernel))⟩
set_option maxRecDepth 20000 in
set_option maxHeartbeats 2000000 in
theorem K_X8_copyFrom_32_r7_RMS (l : Launch) (D : va_G) (aC : Nat → ClassId) (b : Nat) (w : XW)  (hw0 : RfC w) (hw1 : FrM w) (hw2 : RfM w) : CnV l D aC b M_X8_copyFrom 1 60 0 0 [AR 32, AR 7] w (fun u => RfC u ∧ FrM u ∧ RfM u) := by
  refine cn_V (own := RX8) (nm := "copyFrom") (L0 := [some (AR 32), some (AR 7)]) (by decide +kernel) rfl rfl (Nat.le_of_ble_eq_true rfl) rfl ?_
  intro p e s m args below meth c E hin
  refine s_aload_n E dX8_copyFrom_0 rfl rfl ?_
  refine s_gR (r := 8) E fg_X8_24 rfl rfl (ltn hw0.1 (by decide)) (fc_r hw0 (by decide +kernel)) dX8_copyFrom_1 ?_
  refine s_iconst (v := 0) E dX8_copyFrom_4 (by decide) ?_
  refine s_aload_n E dX8_copyFrom_5 rfl rfl ?_
  refine s_gR (r := 33) E fg_X8_24 rfl rfl (ltn hw0.1 (by decide)) (fc_r hw0 (by decide +kernel)) dX8_copyFrom_6 ?_
  refine s_iconst (v := 0) E dX8_copyFrom_9 (by decide) ?_
  refine s_aload_n E dX8_copyFrom_10 rfl rfl ?_
  refine s_gR (r := 33) E fg_X8_24 rfl rfl (ltn hw0.1 (by decide)) (fc_r hw0 (by decide +kernel)) dX8_copyFrom_11 ?_
  refine s_alen (v := 16) E rfl (by decide) (ltn hw0.1 (by decide)) (by decide) dX8_copyFrom_14 ?_
  refine s_aload_n E dX8_copyFrom_15 rfl rfl ?_
  refine s_gR (r := 8) E fg_X8_24 rfl rfl (ltn hw0.1 (by decide)) (fc_r hw0 (by decide +kernel)) dX8_copyFrom_16 ?_
  refine s_alen (v := 16) E rfl (by decide) (ltn hw0.1 (by decide)) (by decide) dX8_copyFrom_19 ?_
  refine s_min (v := 16) E ⟨k_535, k_369, k_4, k_370⟩ (Nat.le_of_ble_eq_true rfl) (Nat.le_of_ble_eq_true rfl) (Nat.le_of_ble_eq_true rfl) (Nat.le_of_ble_eq_true rfl) dX8_copyFrom_20 (by decide) ?_
  refine s_copy100 (S := []) E k_536 k_538 k_537 k_17 rfl rfl (ltn hw0.1 (by decide)) (ltn hw0.1 (by decide)) (by decide) (by decide) (by decide) (by decide) (by decide) (Nat.le_of_ble_eq_true rfl) (Nat.le_of_ble_eq_true rfl) dX8_copyFrom_23 ?_
  refine s_aload_n E dX8_copyFrom_26 rfl rfl ?_
  refine s_aload_n E dX8_copyFrom_27 rfl rfl ?_
  refine s_gI E fg_X8_28 rfl rfl (ltn hw0.1 (by decide)) dX8_copyFrom_28 ?_
  refine s_pI E fp_X8_28 (Or.inl rfl) rfl (ltn hw0.1 (by decide)) dX8_copyFrom_31 ?_
  exact r_void E dX8_copyFrom_34 ⟨(fc_upC (fc_stI hw0 (by decide +kernel)) (by decide +kernel)), (fc_upC (fc_stI hw1 (by decide +kernel)) (by decide +kernel)), (fc_upC (fc_stI hw2 (by decide +kernel)) (by decide +kernel))⟩
set_option maxRecDepth 20000 in
set_option maxHeartbeats 2000000 in
theorem K_X8_copyFrom_34_r9_RMS (l : Launch) (D : va_G) (aC : Nat → ClassId) (b : Nat) (w : XW)  (hw0 : RfC w) (hw1 : FrM w) (hw2 : RfM w) : CnV l D aC b M_X8_copyFrom 1 60 0 0 [AR 34, AR 9] w (fun u => RfC u ∧ FrM u ∧ RfM u) := by
  refine cn_V (own := RX8) (nm := "copyFrom") (L0 := [some (AR 34), some (AR 9)]) (by decide +kernel) rfl rfl (Nat.le_of_ble_eq_true rfl) rfl ?_
  intro p e s m args below meth c E hin
  refine s_aload_n E dX8_copyFrom_0 rfl rfl ?_
  refine s_gR (r := 10) E fg_X8_24 rfl rfl (ltn hw0.1 (by decide)) (fc_r hw0 (by decide +kernel)) dX8_copyFrom_1 ?_
  refine s_iconst (v := 0) E dX8_copyFrom_4 (by decide) ?_
  refine s_aload_n E dX8_copyFrom_5 rfl rfl ?_
  refine s_gR (r := 35) E fg_X8_24 rfl rfl (ltn hw0.1 (by decide)) (fc_r hw0 (by decide +kernel)) dX8_copyFrom_6 ?_
  refine s_iconst (v := 0) E dX8_copyFrom_9 (by decide) ?_
  refine s_aload_n E dX8_copyFrom_10 rfl rfl ?_
  refine s_gR (r := 35) E fg_X8_24 rfl rfl (ltn hw0.1 (by decide)) (fc_r hw0 (by decide +kernel)) dX8_copyFrom_11 ?_
  refine s_alen (v := 30) E rfl (by decide) (ltn hw0.1 (by decide)) (by decide) dX8_copyFrom_14 ?_
  refine s_aload_n E dX8_copyFrom_15 rfl rfl ?_
  refine s_gR (r := 10) E fg_X8_24 rfl rfl (ltn hw0.1 (by decide)) (fc_r hw0 (by decide +kernel)) dX8_copyFrom_16 ?_
  refine s_alen (v := 30) E rfl (by decide) (ltn hw0.1 (by decide)) (by decide) dX8_copyFrom_19 ?_
  refine s_min (v := 30) E ⟨k_535, k_369, k_4, k_370⟩ (Nat.le_of_ble_eq_true rfl) (Nat.le_of_ble_eq_true rfl) (Nat.le_of_ble_eq_true rfl) (Nat.le_of_ble_eq_true rfl) dX8_copyFrom_20 (by decide) ?_
  refine s_copy100 (S := []) E k_536 k_538 k_537 k_17 rfl rfl (ltn hw0.1 (by decide)) (ltn hw0.1 (by decide)) (by decide) (by decide) (by decide) (by decide) (by decide) (Nat.le_of_ble_eq_true rfl) (Nat.le_of_ble_eq_true rfl) dX8_copyFrom_23 ?_
  refine s_aload_n E dX8_copyFrom_26 rfl rfl ?_
  refine s_aload_n E dX8_copyFrom_27 rfl rfl ?_
  refine s_gI E fg_X8_28 rfl rfl (ltn hw0.1 (by decide)) dX8_copyFrom_28 ?_
  refine s_pI E fp_X8_28 (Or.inl rfl) rfl (ltn hw0.1 (by decide)) dX8_copyFrom_31 ?_
  exact r_void E dX8_copyFrom_34 ⟨(fc_upC (fc_stI hw0 (by decide +kernel)) (by decide +kernel)), (fc_upC (fc_stI hw1 (by decide +kernel)) (by decide +kernel)), (fc_upC (fc_stI hw2 (by decide +kernel)) (by decide +kernel))⟩
set_option maxRecDepth 20000 in
set_option maxHeartbeats 2000000 in
theorem K_X8_copyFrom_36_r11_RMS (l : Launch) (D : va_G) (aC : Nat → ClassId) (b : Nat) (w : XW)  (hw0 : RfC w) (hw1 : FrM w) (hw2 : RfM w) : CnV l D aC b M_X8_copyFrom 1 60 0 0 [AR 36, AR 11] w (fun u => RfC u ∧ FrM u ∧ RfM u) := by
  refine cn_V (own := RX8) (nm := "copyFrom") (L0 := [some (AR 36), some (AR 11)]) (by decide +kernel) rfl rfl (Nat.le_of_ble_eq_true rfl) rfl ?_
  intro p e s m args below meth c E hin
  refine s_aload_n E dX8_copyFrom_0 rfl rfl ?_
  refine s_gR (r := 12) E fg_X8_24 rfl rfl (ltn hw0.1 (by decide)) (fc_r hw0 (by decide +kernel)) dX8_copyFrom_1 ?_
  refine s_iconst (v := 0) E dX8_copyFrom_4 (by decide) ?_
  refine s_aload_n E dX8_copyFrom_5 rfl rfl ?_
  refine s_gR (r := 37) E fg_X8_24 rfl rfl (ltn hw0.1 (by decide)) (fc_r hw0 (by decide +kernel)) dX8_copyFrom_6 ?_
  refine s_iconst (v := 0) E dX8_copyFrom_9 (by decide) ?_
  refine s_aload_n E dX8_copyFrom_10 rfl rfl ?_
  refine s_gR (r := 37) E fg_X8_24 rfl rfl (ltn hw0.1 (by decide)) (fc_r hw0 (by decide +kernel)) dX8_copyFrom_11 ?_
  refine s_alen (v := 120) E rfl (by decide) (ltn hw0.1 (by decide)) (by decide) dX8_copyFrom_14 ?_
  refine s_aload_n E dX8_copyFrom_15 rfl rfl ?_
  refine s_gR (r := 12) E fg_X8_24 rfl rfl (ltn hw0.1 (by decide)) (fc_r hw0 (by decide +kernel)) dX8_copyFrom_16 ?_
  refine s_alen (v := 120) E rfl (by decide) (ltn hw0.1 (by decide)) (by decide) dX8_copyFrom_19 ?_
  refine s_min (v := 120) E ⟨k_535, k_369, k_4, k_370⟩ (Nat.le_of_ble_eq_true rfl) (Nat.le_of_ble_eq_true rfl) (Nat.le_of_ble_eq_true rfl) (Nat.le_of_ble_eq_true rfl) dX8_copyFrom_20 (by decide) ?_
  refine s_copy100 (S := []) E k_536 k_538 k_537 k_17 rfl rfl (ltn hw0.1 (by decide)) (ltn hw0.1 (by decide)) (by decide) (by decide) (by decide) (by decide) (by decide) (Nat.le_of_ble_eq_true rfl) (Nat.le_of_ble_eq_true rfl) dX8_copyFrom_23 ?_
  refine s_aload_n E dX8_copyFrom_26 rfl rfl ?_
  refine s_aload_n E dX8_copyFrom_27 rfl rfl ?_
  refine s_gI E fg_X8_28 rfl rfl (ltn hw0.1 (by decide)) dX8_copyFrom_28 ?_
  refine s_pI E fp_X8_28 (Or.inl rfl) rfl (ltn hw0.1 (by decide)) dX8_copyFrom_31 ?_
  exact r_void E dX8_copyFrom_34 ⟨(fc_upC (fc_stI hw0 (by decide +kernel)) (by decide +kernel)), (fc_upC (fc_stI hw1 (by decide +kernel)) (by decide +kernel)), (fc_upC (fc_stI hw2 (by decide +kernel)) (by decide +kernel))⟩
set_option maxRecDepth 20000 in
set_option maxHeartbeats 2000000 in
theorem K_X0_copyFrom_27_r2_CRMS (l : Launch) (D : va_G) (aC : Nat → ClassId) (b : Nat) (w : XW)  (hw0 : FrC w) (hw1 : RfC w) (hw2 : FrM w) (hw3 : RfM w) : CnV l D aC b M_X0_copyFrom 2 81 0 0 [AR 27, AR 2] w (fun u => RfC u ∧ FrM u ∧ RfM u) := by
  refine cn_V (own := RX0) (nm := "copyFrom") (L0 := [some (AR 27), some (AR 2)]) (by decide +kernel) rfl rfl (Nat.le_of_ble_eq_true rfl) rfl ?_
  intro p e s m args below meth c E hin
  refine s_aload_n E dX0_copyFrom_0 rfl rfl ?_
  refine s_aload_n E dX0_copyFrom_1 rfl rfl ?_
  refine s_gI E fg_X0_32 rfl rfl (ltn hw0.1 (by decide)) dX0_copyFrom_2 ?_
  refine s_top (y := 0) (fc_i hw0 (by decide +kernel)) ?_
  refine s_pI E fp_X0_32 (Or.inl rfl) rfl (ltn hw0.1 (by decide)) dX0_copyFrom_5 ?_
  refine s_aload_n E dX0_copyFrom_8 rfl rfl ?_
  refine s_aload_n E dX0_copyFrom_9 rfl rfl ?_
  refine s_gI E fg_X0_36 rfl rfl (ltn hw0.1 (by decide)) dX0_copyFrom_10 ?_
  refine s_top (y := 0) (fc_i hw0 (by decide +kernel)) ?_
  refine s_pI E fp_X0_36 (Or.inl rfl) rfl (ltn hw0.1 (by decide)) dX0_copyFrom_13 ?_
  refine s_aload_n E dX0_copyFrom_16 rfl rfl ?_
  refine s_aload_n E dX0_copyFrom_17 rfl rfl ?_
  refine s_gI E fg_X0_39 rfl rfl (ltn hw0.1 (by decide)) dX0_copyFrom_18 ?_
  refine s_top (y := 0) (fc_i hw0 (by decide +kernel)) ?_
  refine s_pI E fp_X0_39 (Or.inl rfl) rfl (ltn hw0.1 (by decide)) dX0_copyFrom_21 ?_
  refine s_aload_n E dX0_copyFrom_24 rfl rfl ?_
  refine s_aload_n E dX0_copyFrom_25 rfl rfl ?_
  refine s_gI E fg_X0_42 rfl rfl (ltn hw0.1 (by decide)) dX0_copyFrom_26 ?_
  refine s_top (y := 0) (fc_i hw0 (by decide +kernel)) ?_
  refine s_pI E fp_X0_42 (Or.inl rfl) rfl (ltn hw0.1 (by decide)) dX0_copyFrom_29 ?_
  refine s_aload_n E dX0_copyFrom_32 rfl rfl ?_
  refine s_aload_n E dX0_copyFrom_33 rfl rfl ?_
  refine s_gI E fg_X0_45 rfl rfl (ltn hw0.1 (by decide)) dX0_copyFrom_34 ?_
  refine s_top (y := 0) (fc_i hw0 (by decide +kernel)) ?_
  refine s_pI E fp_X0_45 (Or.inl rfl) rfl (ltn hw0.1 (by decide)) dX0_copyFrom_37 ?_
  refine s_aload_n E dX0_copyFrom_40 rfl rfl ?_
  refine s_gR (r := 28) E fg_X0_14 rfl rfl (ltn hw0.1 (by decide)) (fc_r hw0 (by decide +kernel)) dX0_copyFrom_41 ?_
  refine s_aload_n E dX0_copyFrom_44 rfl rfl ?_
  refine s_gR (r := 3) E fg_X0_14 rfl rfl (ltn hw0.1 (by decide)) (fc_r hw0 (by decide +kernel)) dX0_copyFrom_45 ?_
  refine s_vV (As := [AR 3]) (S := []) E (K_X8_copyFrom_28_r3_RMS l D aC b (upI (upI (upI (upI (upI w 27 0 0) 27 1 0) 27 2 0) 27 3 0) 27 4 0)  (fc_upC (fc_upC (fc_upC (fc_upC (fc_upC hw1 (by decide +kernel)) (by decide +kernel)) (by decide +kernel)) (by decide +kernel)) (by decide +kernel)) (fc_upC (fc_upC (fc_upC (fc_upC (fc_upC hw2 (by decide +kernel)) (by decide +kernel)) (by decide +kernel)) (by decide +kernel)) (by decide +kernel)) (fc_upC (fc_upC (fc_upC (fc_upC (fc_upC hw3 (by decide +kernel)) (by decide +kernel)) (by decide +kernel)) (by decide +kernel)) (by decide +kernel))) cv_X0_51 rfl rfl rfl (ltn hw0.1 (by decide)) (Nat.le_of_ble_eq_true rfl) (Nat.le_of_ble_eq_true rfl) ⟨(Nat.le_of_ble_eq_true rfl), (Nat.le_of_ble_eq_true rfl)⟩ (Nat.le_of_ble_eq_true rfl) dX0_copyFrom_48 (fun u_1 hp => ?_)
  obtain ⟨hu_1, hu_2, hu_3⟩ := hp
  refine s_aload_n E dX0_copyFrom_51 rfl rfl ?_
  refine s_gR (r := 30) E fg_X0_20 rfl rfl (ltn hu_1.1 (by decide)) (fc_r hu_1 (by decide +kernel)) dX0_copyFrom_52 ?_
  refine s_aload_n E dX0_copyFrom_55 rfl rfl ?_
  refine s_gR (r := 5) E fg_X0_20 rfl rfl (ltn hu_1.1 (by decide)) (fc_r hu_1 (by decide +kernel)) dX0_copyFrom_56 ?_
  refine s_vV (As := [AR 5]) (S := []) E (K_X8_copyFrom_30_r5_RMS l D aC b u_1  hu_1 hu_2 hu_3) cv_X0_51 rfl rfl rfl (ltn hu_1.1 (by decide)) (Nat.le_of_ble_eq_true rfl) (Nat.le_of_ble_eq_true rfl) ⟨(Nat.le_of_ble_eq_true rfl), (Nat.le_of_ble_eq_true rfl)⟩ (Nat.le_of_ble_eq_true rfl) dX0_copyFrom_59 (fun u_2 hp => ?_)
  obtain ⟨hu_4, hu_5, hu_6⟩ := hp
  refine s_aload_n E dX0_copyFrom_62 rfl rfl ?_
  refine s_gR (r := 32) E fg_X0_23 rfl rfl (ltn hu_4.1 (by decide)) (fc_r hu_4 (by decide +kernel)) dX0_copyFrom_63 ?_
  refine s_aload_n E dX0_copyFrom_66 rfl rfl ?_
  refine s_gR (r := 7) E fg_X0_23 rfl rfl (ltn hu_4.1 (by decide)) (fc_r hu_4 (by decide +kernel)) dX0_copyFrom_67 ?_
  refine s_vV (As := [AR 7]) (S := []) E (K_X8_copyFrom_32_r7_RMS l D aC b u_2  hu_4 hu_5 hu_6) cv_X0_51 rfl rfl rfl (ltn hu_4.1 (by decide)) (Nat.le_of_ble_eq_true rfl) (Nat.le_of_ble_eq_true rfl) ⟨(Nat.le_of_ble_eq_true rfl), (Nat.le_of_ble_eq_true rfl)⟩ (Nat.le_of_ble_eq_true rfl) dX0_copyFrom_70 (fun u_3 hp => ?_)
  obtain ⟨hu_7, hu_8, hu_9⟩ := hp
  refine s_aload_n E dX0_copyFrom_73 rfl rfl ?_
  refine s_gR (r := 34) E fg_X0_26 rfl rfl (ltn hu_7.1 (by decide)) (fc_r hu_7 (by decide +kernel)) dX0_copyFrom_74 ?_
  refine s_aload_n E dX0_copyFrom_77 rfl rfl ?_
  refine s_gR (r := 9) E fg_X0_26 rfl rfl (ltn hu_7.1 (by decide)) (fc_r hu_7 (by decide +kernel)) dX0_copyFrom_78 ?_
  refine s_vV (As := [AR 9]) (S := []) E (K_X8_copyFrom_34_r9_RMS l D aC b u_3  hu_7 hu_8 hu_9) cv_X0_51 rfl rfl rfl (ltn hu_7.1 (by decide)) (Nat.le_of_ble_eq_true rfl) (Nat.le_of_ble_eq_true rfl) ⟨(Nat.le_of_ble_eq_true rfl), (Nat.le_of_ble_eq_true rfl)⟩ (Nat.le_of_ble_eq_true rfl) dX0_copyFrom_81 (fun u_4 hp => ?_)
  obtain ⟨hu_10, hu_11, hu_12⟩ := hp
  refine s_aload_n E dX0_copyFrom_84 rfl rfl ?_
  refine s_gR (r := 36) E fg_X0_29 rfl rfl (ltn hu_10.1 (by decide)) (fc_r hu_10 (by decide +kernel)) dX0_copyFrom_85 ?_
  refine s_aload_n E dX0_copyFrom_88 rfl rfl ?_
  refine s_gR (r := 11) E fg_X0_29 rfl rfl (ltn hu_10.1 (by decide)) (fc_r hu_10 (by decide +kernel)) dX0_copyFrom_89 ?_
  refine s_vV (As := [AR 11]) (S := []) E (K_X8_copyFrom_36_r11_RMS l D aC b u_4  hu_10 hu_11 hu_12) cv_X0_51 rfl rfl rfl (ltn hu_10.1 (by decide)) (Nat.le_of_ble_eq_true rfl) (Nat.le_of_ble_eq_true rfl) ⟨(Nat.le_of_ble_eq_true rfl), (Nat.le_of_ble_eq_true rfl)⟩ (Nat.le_of_ble_eq_true rfl) dX0_copyFrom_92 (fun u_5 hp => ?_)
  obtain ⟨hu_13, hu_14, hu_15⟩ := hp
  exact r_void E dX0_copyFrom_95 ⟨hu_13, hu_14, hu_15⟩
set_option maxRecDepth 20000 in
set_option maxHeartbeats 2000000 in
theorem K_X8_copyFrom_39_r3_RMS (l : Launch) (D : va_G) (aC : Nat → ClassId) (b : Nat) (w : XW)  (hw0 : RfC w) (hw1 : FrM w) (hw2 : RfM w) : CnV l D aC b M_X8_copyFrom 1 60 0 0 [AR 39, AR 3] w (fun u => RfC u ∧ FrM u ∧ RfM u) := by
  refine cn_V (own := RX8) (nm := "copyFrom") (L0 := [some (AR 39), some (AR 3)]) (by decide +kernel) rfl rfl (Nat.le_of_ble_eq_true rfl) rfl ?_
  intro p e s m args below meth c E hin
  refine s_aload_n E dX8_copyFrom_0 rfl rfl ?_
  refine s_gR (r := 4) E fg_X8_24 rfl rfl (ltn hw0.1 (by decide)) (fc_r hw0 (by decide +kernel)) dX8_copyFrom_1 ?_
  refine s_iconst (v := 0) E dX8_copyFrom_4 (by decide) ?_
  refine s_aload_n E dX8_copyFrom_5 rfl rfl ?_
  refine s_gR (r := 40) E fg_X8_24 rfl rfl (ltn hw0.1 (by decide)) (fc_r hw0 (by decide +kernel)) dX8_copyFrom_6 ?_
  refine s_iconst (v := 0) E dX8_copyFrom_9 (by decide) ?_
  refine s_aload_n E dX8_copyFrom_10 rfl rfl ?_
  refine s_gR (r := 40) E fg_X8_24 rfl rfl (ltn hw0.1 (by decide)) (fc_r hw0 (by decide +kernel)) dX8_copyFrom_11 ?_
  refine s_alen (v := 36) E rfl (by decide) (ltn hw0.1 (by decide)) (by decide) dX8_copyFrom_14 ?_
  refine s_aload_n E dX8_copyFrom_15 rfl rfl ?_
  refine s_gR (r := 4) E fg_X8_24 rfl rfl (ltn hw0.1 (by decide)) (fc_r hw0 (by decide +kernel)) dX8_copyFrom_16 ?_
  refine s_alen (v := 36) E rfl (by decide) (ltn hw0.1 (by decide)) (by decide) dX8_copyFrom_19 ?_
  refine s_min (v := 36) E ⟨k_535, k_369, k_4, k_370⟩ (Nat.le_of_ble_eq_true rfl) (Nat.le_of_ble_eq_true rfl) (Nat.le_of_ble_eq_true rfl) (Nat.le_of_ble_eq_true rfl) dX8_copyFrom_20 (by decide) ?_
  refine s_copy100 (S := []) E k_536 k_538 k_537 k_17 rfl rfl (ltn hw0.1 (by decide)) (ltn hw0.1 (by decide)) (by decide) (by decide) (by decide) (by decide) (by decide) (Nat.le_of_ble_eq_true rfl) (Nat.le_of_ble_eq_true rfl) dX8_copyFrom_23 ?_
  refine s_aload_n E dX8_copyFrom_26 rfl rfl ?_
  refine s_aload_n E dX8_copyFrom_27 rfl rfl ?_
  refine s_gI E fg_X8_28 rfl rfl (ltn hw0.1 (by decide)) dX8_copyFrom_28 ?_
  refine s_pI E fp_X8_28 (Or.inl rfl) rfl (ltn hw0.1 (by decide)) dX8_copyFrom_31 ?_
  exact r_void E dX8_copyFrom_34 ⟨(fc_upC (fc_stI hw0 (by decide +kernel)) (by decide +kernel)), (fc_upC (fc_stI hw1 (by decide +kernel)) (by decide +kernel)), (fc_upC (fc_stI hw2 (by decide +kernel)) (by decide +kernel))⟩
set_option maxRecDepth 20000 in
set_option maxHeartbeats 2000000 in
theorem K_X8_copyFrom_41_r5_RMS (l : Launch) (D : va_G) (aC : Nat → ClassId) (b : Nat) (w : XW)  (hw0 : RfC w) (hw1 : FrM w) (hw2 : RfM w) : CnV l D aC b M_X8_copyFrom 1 60 0 0 [AR 41, AR 5] w (fun u => RfC u ∧ FrM u ∧ RfM u) := by
  refine cn_V (own := RX8) (nm := "copyFrom") (L0 := [some (AR 41), some (AR 5)]) (by decide +kernel) rfl rfl (Nat.le_of_ble_eq_true rfl) rfl ?_
  intro p e s m args below meth c E hin
  refine s_aload_n E dX8_copyFrom_0 rfl rfl ?_
  refine s_gR (r := 6) E fg_X8_24 rfl rfl (ltn hw0.1 (by decide)) (fc_r hw0 (by decide +kernel)) dX8_copyFrom_1 ?_
  refine s_iconst (v := 0) E dX8_copyFrom_4 (by decide) ?_
  refine s_aload_n E dX8_copyFrom_5 rfl rfl ?_
  refine s_gR (r := 42) E fg_X8_24 rfl rfl (ltn hw0.1 (by decide)) (fc_r hw0 (by decide +kernel)) dX8_copyFrom_6 ?_
  refine s_iconst (v := 0) E dX8_copyFrom_9 (by decide) ?_
  refine s_aload_n E dX8_copyFrom_10 rfl rfl ?_
  refine s_gR (r := 42) E fg_X8_24 rfl rfl (ltn hw0.1 (by decide)) (fc_r hw0 (by decide +kernel)) dX8_copyFrom_11 ?_
  refine s_alen (v := 12) E rfl (by decide) (ltn hw0.1 (by decide)) (by decide) dX8_copyFrom_14 ?_
  refine s_aload_n E dX8_copyFrom_15 rfl rfl ?_
  refine s_gR (r := 6) E fg_X8_24 rfl rfl (ltn hw0.1 (by decide)) (fc_r hw0 (by decide +kernel)) dX8_copyFrom_16 ?_
  refine s_alen (v := 12) E rfl (by decide) (ltn hw0.1 (by decide)) (by decide) dX8_copyFrom_19 ?_
  refine s_min (v := 12) E ⟨k_535, k_369, k_4, k_370⟩ (Nat.le_of_ble_eq_true rfl) (Nat.le_of_ble_eq_true rfl) (Nat.le_of_ble_eq_true rfl) (Nat.le_of_ble_eq_true rfl) dX8_copyFrom_20 (by decide) ?_
  refine s_copy100 (S := []) E k_536 k_538 k_537 k_17 rfl rfl (ltn hw0.1 (by decide)) (ltn hw0.1 (by decide)) (by decide) (by decide) (by decide) (by decide) (by decide) (Nat.le_of_ble_eq_true rfl) (Nat.le_of_ble_eq_true rfl) dX8_copyFrom_23 ?_
  refine s_aload_n E dX8_copyFrom_26 rfl rfl ?_
  refine s_aload_n E dX8_copyFrom_27 rfl rfl ?_
  refine s_gI E fg_X8_28 rfl rfl (ltn hw0.1 (by decide)) dX8_copyFrom_28 ?_
  refine s_pI E fp_X8_28 (Or.inl rfl) rfl (ltn hw0.1 (by decide)) dX8_copyFrom_31 ?_
  exact r_void E dX8_copyFrom_34 ⟨(fc_upC (fc_stI hw0 (by decide +kernel)) (by decide +kernel)), (fc_upC (fc_stI hw1 (by decide +kernel)) (by decide +kernel)), (fc_upC (fc_stI hw2 (by decide +kernel)) (by decide +kernel))⟩
set_option maxRecDepth 20000 in
set_option maxHeartbeats 2000000 in
theorem K_X8_copyFrom_43_r7_RMS (l : Launch) (D : va_G) (aC : Nat → ClassId) (b : Nat) (w : XW)  (hw0 : RfC w) (hw1 : FrM w) (hw2 : RfM w) : CnV l D aC b M_X8_copyFrom 1 60 0 0 [AR 43, AR 7] w (fun u => RfC u ∧ FrM u ∧ RfM u) := by
  refine cn_V (own := RX8) (nm := "copyFrom") (L0 := [some (AR 43), some (AR 7)]) (by decide +kernel) rfl rfl (Nat.le_of_ble_eq_true rfl) rfl ?_
  intro p e s m args below meth c E hin
  refine s_aload_n E dX8_copyFrom_0 rfl rfl ?_
  refine s_gR (r := 8) E fg_X8_24 rfl rfl (ltn hw0.1 (by decide)) (fc_r hw0 (by decide +kernel)) dX8_copyFrom_1 ?_
  refine s_iconst (v := 0) E dX8_copyFrom_4 (by decide) ?_
  refine s_aload_n E dX8_copyFrom_5 rfl rfl ?_
  refine s_gR (r := 44) E fg_X8_24 rfl rfl (ltn hw0.1 (by decide)) (fc_r hw0 (by decide +kernel)) dX8_copyFrom_6 ?_
  refine s_iconst (v := 0) E dX8_copyFrom_9 (by decide) ?_
  refine s_aload_n E dX8_copyFrom_10 rfl rfl ?_
  refine s_gR (r := 44) E fg_X8_24 rfl rfl (ltn hw0.1 (by decide)) (fc_r hw0 (by decide +kernel)) dX8_copyFrom_11 ?_
  refine s_alen (v := 16) E rfl (by decide) (ltn hw0.1 (by decide)) (by decide) dX8_copyFrom_14 ?_
  refine s_aload_n E dX8_copyFrom_15 rfl rfl ?_
  refine s_gR (r := 8) E fg_X8_24 rfl rfl (ltn hw0.1 (by decide)) (fc_r hw0 (by decide +kernel)) dX8_copyFrom_16 ?_
  refine s_alen (v := 16) E rfl (by decide) (ltn hw0.1 (by decide)) (by decide) dX8_copyFrom_19 ?_
  refine s_min (v := 16) E ⟨k_535, k_369, k_4, k_370⟩ (Nat.le_of_ble_eq_true rfl) (Nat.le_of_ble_eq_true rfl) (Nat.le_of_ble_eq_true rfl) (Nat.le_of_ble_eq_true rfl) dX8_copyFrom_20 (by decide) ?_
  refine s_copy100 (S := []) E k_536 k_538 k_537 k_17 rfl rfl (ltn hw0.1 (by decide)) (ltn hw0.1 (by decide)) (by decide) (by decide) (by decide) (by decide) (by decide) (Nat.le_of_ble_eq_true rfl) (Nat.le_of_ble_eq_true rfl) dX8_copyFrom_23 ?_
  refine s_aload_n E dX8_copyFrom_26 rfl rfl ?_
  refine s_aload_n E dX8_copyFrom_27 rfl rfl ?_
  refine s_gI E fg_X8_28 rfl rfl (ltn hw0.1 (by decide)) dX8_copyFrom_28 ?_
  refine s_pI E fp_X8_28 (Or.inl rfl) rfl (ltn hw0.1 (by decide)) dX8_copyFrom_31 ?_
  exact r_void E dX8_copyFrom_34 ⟨(fc_upC (fc_stI hw0 (by decide +kernel)) (by decide +kernel)), (fc_upC (fc_stI hw1 (by decide +kernel)) (by decide +kernel)), (fc_upC (fc_stI hw2 (by decide +kernel)) (by decide +kernel))⟩
set_option maxRecDepth 20000 in
set_option maxHeartbeats 2000000 in
theorem K_X8_copyFrom_45_r9_RMS (l : Launch) (D : va_G) (aC : Nat → ClassId) (b : Nat) (w : XW)  (hw0 : RfC w) (hw1 : FrM w) (hw2 : RfM w) : CnV l D aC b M_X8_copyFrom 1 60 0 0 [AR 45, AR 9] w (fun u => RfC u ∧ FrM u ∧ RfM u) := by
  refine cn_V (own := RX8) (nm := "copyFrom") (L0 := [some (AR 45), some (AR 9)]) (by decide +kernel) rfl rfl (Nat.le_of_ble_eq_true rfl) rfl ?_
  intro p e s m args below meth c E hin
  refine s_aload_n E dX8_copyFrom_0 rfl rfl ?_
  refine s_gR (r := 10) E fg_X8_24 rfl rfl (ltn hw0.1 (by decide)) (fc_r hw0 (by decide +kernel)) dX8_copyFrom_1 ?_
  refine s_iconst (v := 0) E dX8_copyFrom_4 (by decide) ?_
  refine s_aload_n E dX8_copyFrom_5 rfl rfl ?_
  refine s_gR (r := 46) E fg_X8_24 rfl rfl (ltn hw0.1 (by decide)) (fc_r hw0 (by decide +kernel)) dX8_copyFrom_6 ?_
  refine s_iconst (v := 0) E dX8_copyFrom_9 (by decide) ?_
  refine s_aload_n E dX8_copyFrom_10 rfl rfl ?_
  refine s_gR (r := 46) E fg_X8_24 rfl rfl (ltn hw0.1 (by decide)) (fc_r hw0 (by decide +kernel)) dX8_copyFrom_11 ?_
  refine s_alen (v := 30) E rfl (by decide) (ltn hw0.1 (by decide)) (by decide) dX8_copyFrom_14 ?_
  refine s_aload_n E dX8_copyFrom_15 rfl rfl ?_
  refine s_gR (r := 10) E fg_X8_24 rfl rfl (ltn hw0.1 (by decide)) (fc_r hw0 (by decide +kernel)) dX8_copyFrom_16 ?_
  refine s_alen (v := 30) E rfl (by decide) (ltn hw0.1 (by decide)) (by decide) dX8_copyFrom_19 ?_
  refine s_min (v := 30) E ⟨k_535, k_369, k_4, k_370⟩ (Nat.le_of_ble_eq_true rfl) (Nat.le_of_ble_eq_true rfl) (Nat.le_of_ble_eq_true rfl) (Nat.le_of_ble_eq_true rfl) dX8_copyFrom_20 (by decide) ?_
  refine s_copy100 (S := []) E k_536 k_538 k_537 k_17 rfl rfl (ltn hw0.1 (by decide)) (ltn hw0.1 (by decide)) (by decide) (by decide) (by decide) (by decide) (by decide) (Nat.le_of_ble_eq_true rfl) (Nat.le_of_ble_eq_true rfl) dX8_copyFrom_23 ?_
  refine s_aload_n E dX8_copyFrom_26 rfl rfl ?_
  refine s_aload_n E dX8_copyFrom_27 rfl rfl ?_
  refine s_gI E fg_X8_28 rfl rfl (ltn hw0.1 (by decide)) dX8_copyFrom_28 ?_
  refine s_pI E fp_X8_28 (Or.inl rfl) rfl (ltn hw0.1 (by decide)) dX8_copyFrom_31 ?_
  exact r_void E dX8_copyFrom_34 ⟨(fc_upC (fc_stI hw0 (by decide +kernel)) (by decide +kernel)), (fc_upC (fc_stI hw1 (by decide +kernel)) (by decide +kernel)), (fc_upC (fc_stI hw2 (by decide +kernel)) (by decide +kernel))⟩
set_option maxRecDepth 20000 in
set_option maxHeartbeats 2000000 in
theorem K_X8_copyFrom_47_r11_RMS (l : Launch) (D : va_G) (aC : Nat → ClassId) (b : Nat) (w : XW)  (hw0 : RfC w) (hw1 : FrM w) (hw2 : RfM w) : CnV l D aC b M_X8_copyFrom 1 60 0 0 [AR 47, AR 11] w (fun u => RfC u ∧ FrM u ∧ RfM u) := by
  refine cn_V (own := RX8) (nm := "copyFrom") (L0 := [some (AR 47), some (AR 11)]) (by decide +kernel) rfl rfl (Nat.le_of_ble_eq_true rfl) rfl ?_
  intro p e s m args below meth c E hin
  refine s_aload_n E dX8_copyFrom_0 rfl rfl ?_
  refine s_gR (r := 12) E fg_X8_24 rfl rfl (ltn hw0.1 (by decide)) (fc_r hw0 (by decide +kernel)) dX8_copyFrom_1 ?_
  refine s_iconst (v := 0) E dX8_copyFrom_4 (by decide) ?_
  refine s_aload_n E dX8_copyFrom_5 rfl rfl ?_
  refine s_gR (r := 48) E fg_X8_24 rfl rfl (ltn hw0.1 (by decide)) (fc_r hw0 (by decide +kernel)) dX8_copyFrom_6 ?_
  refine s_iconst (v := 0) E dX8_copyFrom_9 (by decide) ?_
  refine s_aload_n E dX8_copyFrom_10 rfl rfl ?_
  refine s_gR (r := 48) E fg_X8_24 rfl rfl (ltn hw0.1 (by decide)) (fc_r hw0 (by decide +kernel)) dX8_copyFrom_11 ?_
  refine s_alen (v := 120) E rfl (by decide) (ltn hw0.1 (by decide)) (by decide) dX8_copyFrom_14 ?_
  refine s_aload_n E dX8_copyFrom_15 rfl rfl ?_
  refine s_gR (r := 12) E fg_X8_24 rfl rfl (ltn hw0.1 (by decide)) (fc_r hw0 (by decide +kernel)) dX8_copyFrom_16 ?_
  refine s_alen (v := 120) E rfl (by decide) (ltn hw0.1 (by decide)) (by decide) dX8_copyFrom_19 ?_
  refine s_min (v := 120) E ⟨k_535, k_369, k_4, k_370⟩ (Nat.le_of_ble_eq_true rfl) (Nat.le_of_ble_eq_true rfl) (Nat.le_of_ble_eq_true rfl) (Nat.le_of_ble_eq_true rfl) dX8_copyFrom_20 (by decide) ?_
  refine s_copy100 (S := []) E k_536 k_538 k_537 k_17 rfl rfl (ltn hw0.1 (by decide)) (ltn hw0.1 (by decide)) (by decide) (by decide) (by decide) (by decide) (by decide) (Nat.le_of_ble_eq_true rfl) (Nat.le_of_ble_eq_true rfl) dX8_copyFrom_23 ?_
  refine s_aload_n E dX8_copyFrom_26 rfl rfl ?_
  refine s_aload_n E dX8_copyFrom_27 rfl rfl ?_
  refine s_gI E fg_X8_28 rfl rfl (ltn hw0.1 (by decide)) dX8_copyFrom_28 ?_
  refine s_pI E fp_X8_28 (Or.inl rfl) rfl (ltn hw0.1 (by decide)) dX8_copyFrom_31 ?_
  exact r_void E dX8_copyFrom_34 ⟨(fc_upC (fc_stI hw0 (by decide +kernel)) (by decide +kernel)), (fc_upC (fc_stI hw1 (by decide +kernel)) (by decide +kernel)), (fc_upC (fc_stI hw2 (by decide +kernel)) (by decide +kernel))⟩
set_option maxRecDepth 20000 in
set_option maxHeartbeats 2000000 in
theorem K_X0_copyFrom_38_r2_CRMS (l : Launch) (D : va_G) (aC : Nat → ClassId) (b : Nat) (w : XW)  (hw0 : FrC w) (hw1 : RfC w) (hw2 : FrM w) (hw3 : RfM w) : CnV l D aC b M_X0_copyFrom 2 81 0 0 [AR 38, AR 2] w (fun u => RfC u ∧ FrM u ∧ RfM u) := by
  refine cn_V (own := RX0) (nm := "copyFrom") (L0 := [some (AR 38), some (AR 2)]) (by decide +kernel) rfl rfl (Nat.le_of_ble_eq_true rfl) rfl ?_
  intro p e s m args below meth c E hin
  refine s_aload_n E dX0_copyFrom_0 rfl rfl ?_
  refine s_aload_n E dX0_copyFrom_1 rfl rfl ?_
  refine s_gI E fg_X0_32 rfl rfl (ltn hw0.1 (by decide)) dX0_copyFrom_2 ?_
  refine s_top (y := 0) (fc_i hw0 (by decide +kernel)) ?_
  refine s_pI E fp_X0_32 (Or.inl rfl) rfl (ltn hw0.1 (by decide)) dX0_copyFrom_5 ?_
  refine s_aload_n E dX0_copyFrom_8 rfl rfl ?_
  refine s_aload_n E dX0_copyFrom_9 rfl rfl ?_
  refine s_gI E fg_X0_36 rfl rfl (ltn hw0.1 (by decide)) dX0_copyFrom_10 ?_
  refine s_top (y := 0) (fc_i hw0 (by decide +kernel)) ?_
  refine s_pI E fp_X0_36 (Or.inl rfl) rfl (ltn hw0.1 (by decide)) dX0_copyFrom_13 ?_
  refine s_aload_n E dX0_copyFrom_16 rfl rfl ?_
  refine s_aload_n E dX0_copyFrom_17 rfl rfl ?_
  refine s_gI E fg_X0_39 rfl rfl (ltn hw0.1 (by decide)) dX0_copyFrom_18 ?_
  refine s_top (y := 0) (fc_i hw0 (by decide +kernel)) ?_
  refine s_pI E fp_X0_39 (Or.inl rfl) rfl (ltn hw0.1 (by decide)) dX0_copyFrom_21 ?_
  refine s_aload_n E dX0_copyFrom_24 rfl rfl ?_
  refine s_aload_n E dX0_copyFrom_25 rfl rfl ?_
  refine s_gI E fg_X0_42 rfl rfl (ltn hw0.1 (by decide)) dX0_copyFrom_26 ?_
  refine s_top (y := 0) (fc_i hw0 (by decide +kernel)) ?_
  refine s_pI E fp_X0_42 (Or.inl rfl) rfl (ltn hw0.1 (by decide)) dX0_copyFrom_29 ?_
  refine s_aload_n E dX0_copyFrom_32 rfl rfl ?_
  refine s_aload_n E dX0_copyFrom_33 rfl rfl ?_
  refine s_gI E fg_X0_45 rfl rfl (ltn hw0.1 (by decide)) dX0_copyFrom_34 ?_
  refine s_top (y := 0) (fc_i hw0 (by decide +kernel)) ?_
  refine s_pI E fp_X0_45 (Or.inl rfl) rfl (ltn hw0.1 (by decide)) dX0_copyFrom_37 ?_
  refine s_aload_n E dX0_copyFrom_40 rfl rfl ?_
  refine s_gR (r := 39) E fg_X0_14 rfl rfl (ltn hw0.1 (by decide)) (fc_r hw0 (by decide +kernel)) dX0_copyFrom_41 ?_
  refine s_aload_n E dX0_copyFrom_44 rfl rfl ?_
  refine s_gR (r := 3) E fg_X0_14 rfl rfl (ltn hw0.1 (by decide)) (fc_r hw0 (by decide +kernel)) dX0_copyFrom_45 ?_
  refine s_vV (As := [AR 3]) (S := []) E (K_X8_copyFrom_39_r3_RMS l D aC b (upI (upI (upI (upI (upI w 38 0 0) 38 1 0) 38 2 0) 38 3 0) 38 4 0)  (fc_upC (fc_upC (fc_upC (fc_upC (fc_upC hw1 (by decide +kernel)) (by decide +kernel)) (by decide +kernel)) (by decide +kernel)) (by decide +kernel)) (fc_upC (fc_upC (fc_upC (fc_upC (fc_upC hw2 (by decide +kernel)) (by decide +kernel)) (by decide +kernel)) (by decide +kernel)) (by decide +kernel)) (fc_upC (fc_upC (fc_upC (fc_upC (fc_upC hw3 (by decide +kernel)) (by decide +kernel)) (by decide +kernel)) (by decide +kernel)) (by decide +kernel))) cv_X0_51 rfl rfl rfl (ltn hw0.1 (by decide)) (Nat.le_of_ble_eq_true rfl) (Nat.le_of_ble_eq_true rfl) ⟨(Nat.le_of_ble_eq_true rfl), (Nat.le_of_ble_eq_true rfl)⟩ (Nat.le_of_ble_eq_true rfl) dX0_copyFrom_48 (fun u_1 hp => ?_)
  obtain ⟨hu_1, hu_2, hu_3⟩ := hp
  refine s_aload_n E dX0_copyFrom_51 rfl rfl ?_
  refine s_gR (r := 41) E fg_X0_20 rfl rfl (ltn hu_1.1 (by decide)) (fc_r hu_1 (by decide +kernel)) dX0_copyFrom_52 ?_
  refine s_aload_n E dX0_copyFrom_55 rfl rfl ?_
  refine s_gR (r := 5) E fg_X0_20 rfl rfl (ltn hu_1.1 (by decide)) (fc_r hu_1 (by decide +kernel)) dX0_copyFrom_56 ?_
  refine s_vV (As := [AR 5]) (S := []) E (K_X8_copyFrom_41_r5_RMS l D aC b u_1  hu_1 hu_2 hu_3) cv_X0_51 rfl rfl rfl (ltn hu_1.1 (by decide)) (Nat.le_of_ble_eq_true rfl) (Nat.le_of_ble_eq_true rfl) ⟨(Nat.le_of_ble_eq_true rfl), (Nat.le_of_ble_eq_true rfl)⟩ (Nat.le_of_ble_eq_true rfl) dX0_copyFrom_59 (fun u_2 hp => ?_)
  obtain ⟨hu_4, hu_5, hu_6⟩ := hp
  refine s_aload_n E dX0_copyFrom_62 rfl rfl ?_
  refine s_gR (r := 43) E fg_X0_23 rfl rfl (ltn hu_4.1 (by decide)) (fc_r hu_4 (by decide +kernel)) dX0_copyFrom_63 ?_
  refine s_aload_n E dX0_copyFrom_66 rfl rfl ?_
  refine s_gR (r := 7) E fg_X0_23 rfl rfl (ltn hu_4.1 (by decide)) (fc_r hu_4 (by decide +kernel)) dX0_copyFrom_67 ?_
  refine s_vV (As := [AR 7]) (S := []) E (K_X8_copyFrom_43_r7_RMS l D aC b u_2  hu_4 hu_5 hu_6) cv_X0_51 rfl rfl rfl (ltn hu_4.1 (by decide)) (Nat.le_of_ble_eq_true rfl) (Nat.le_of_ble_eq_true rfl) ⟨(Nat.le_of_ble_eq_true rfl), (Nat.le_of_ble_eq_true rfl)⟩ (Nat.le_of_ble_eq_true rfl) dX0_copyFrom_70 (fun u_3 hp => ?_)
  obtain ⟨hu_7, hu_8, hu_9⟩ := hp
  refine s_aload_n E dX0_copyFrom_73 rfl rfl ?_
  refine s_gR (r := 45) E fg_X0_26 rfl rfl (ltn hu_7.1 (by decide)) (fc_r hu_7 (by decide +kernel)) dX0_copyFrom_74 ?_
  refine s_aload_n E dX0_copyFrom_77 rfl rfl ?_
  refine s_gR (r := 9) E fg_X0_26 rfl rfl (ltn hu_7.1 (by decide)) (fc_r hu_7 (by decide +kernel)) dX0_copyFrom_78 ?_
  refine s_vV (As := [AR 9]) (S := []) E (K_X8_copyFrom_45_r9_RMS l D aC b u_3  hu_7 hu_8 hu_9) cv_X0_51 rfl rfl rfl (ltn hu_7.1 (by decide)) (Nat.le_of_ble_eq_true rfl) (Nat.le_of_ble_eq_true rfl) ⟨(Nat.le_of_ble_eq_true rfl), (Nat.le_of_ble_eq_true rfl)⟩ (Nat.le_of_ble_eq_true rfl) dX0_copyFrom_81 (fun u_4 hp => ?_)
  obtain ⟨hu_10, hu_11, hu_12⟩ := hp
  refine s_aload_n E dX0_copyFrom_84 rfl rfl ?_
  refine s_gR (r := 47) E fg_X0_29 rfl rfl (ltn hu_10.1 (by decide)) (fc_r hu_10 (by decide +kernel)) dX0_copyFrom_85 ?_
  refine s_aload_n E dX0_copyFrom_88 rfl rfl ?_
  refine s_gR (r := 11) E fg_X0_29 rfl rfl (ltn hu_10.1 (by decide)) (fc_r hu_10 (by decide +kernel)) dX0_copyFrom_89 ?_
  refine s_vV (As := [AR 11]) (S := []) E (K_X8_copyFrom_47_r11_RMS l D aC b u_4  hu_10 hu_11 hu_12) cv_X0_51 rfl rfl rfl (ltn hu_10.1 (by decide)) (Nat.le_of_ble_eq_true rfl) (Nat.le_of_ble_eq_true rfl) ⟨(Nat.le_of_ble_eq_true rfl), (Nat.le_of_ble_eq_true rfl)⟩ (Nat.le_of_ble_eq_true rfl) dX0_copyFrom_92 (fun u_5 hp => ?_)
  obtain ⟨hu_13, hu_14, hu_15⟩ := hp
  exact r_void E dX0_copyFrom_95 ⟨hu_13, hu_14, hu_15⟩
set_option maxRecDepth 20000 in
set_option maxHeartbeats 2000000 in
theorem K_X8_copyFrom_50_r3_RMS (l : Launch) (D : va_G) (aC : Nat → ClassId) (b : Nat) (w : XW)  (hw0 : RfC w) (hw1 : FrM w) (hw2 : RfM w) : CnV l D aC b M_X8_copyFrom 1 60 0 0 [AR 50, AR 3] w (fun u => RfC u ∧ FrM u ∧ RfM u) := by
  refine cn_V (own := RX8) (nm := "copyFrom") (L0 := [some (AR 50), some (AR 3)]) (by decide +kernel) rfl rfl (Nat.le_of_ble_eq_true rfl) rfl ?_
  intro p e s m args below meth c E hin
  refine s_aload_n E dX8_copyFrom_0 rfl rfl ?_
  refine s_gR (r := 4) E fg_X8_24 rfl rfl (ltn hw0.1 (by decide)) (fc_r hw0 (by decide +kernel)) dX8_copyFrom_1 ?_
  refine s_iconst (v := 0) E dX8_copyFrom_4 (by decide) ?_
  refine s_aload_n E dX8_copyFrom_5 rfl rfl ?_
  refine s_gR (r := 51) E fg_X8_24 rfl rfl (ltn hw0.1 (by decide)) (fc_r hw0 (by decide +kernel)) dX8_copyFrom_6 ?_
  refine s_iconst (v := 0) E dX8_copyFrom_9 (by decide) ?_
  refine s_aload_n E dX8_copyFrom_10 rfl rfl ?_
  refine s_gR (r := 51) E fg_X8_24 rfl rfl (ltn hw0.1 (by decide)) (fc_r hw0 (by decide +kernel)) dX8_copyFrom_11 ?_
  refine s_alen (v := 36) E rfl (by decide) (ltn hw0.1 (by decide)) (by decide) dX8_copyFrom_14 ?_
  refine s_aload_n E dX8_copyFrom_15 rfl rfl ?_
  refine s_gR (r := 4) E fg_X8_24 rfl rfl (ltn hw0.1 (by decide)) (fc_r hw0 (by decide +kernel)) dX8_copyFrom_16 ?_
  refine s_alen (v := 36) E rfl (by decide) (ltn hw0.1 (by decide)) (by decide) dX8_copyFrom_19 ?_
  refine s_min (v := 36) E ⟨k_535, k_369, k_4, k_370⟩ (Nat.le_of_ble_eq_true rfl) (Nat.le_of_ble_eq_true rfl) (Nat.le_of_ble_eq_true rfl) (Nat.le_of_ble_eq_true rfl) dX8_copyFrom_20 (by decide) ?_
  refine s_copy100 (S := []) E k_536 k_538 k_537 k_17 rfl rfl (ltn hw0.1 (by decide)) (ltn hw0.1 (by decide)) (by decide) (by decide) (by decide) (by decide) (by decide) (Nat.le_of_ble_eq_true rfl) (Nat.le_of_ble_eq_true rfl) dX8_copyFrom_23 ?_
  refine s_aload_n E dX8_copyFrom_26 rfl rfl ?_
  refine s_aload_n E dX8_copyFrom_27 rfl rfl ?_
  refine s_gI E fg_X8_28 rfl rfl (ltn hw0.1 (by decide)) dX8_copyFrom_28 ?_
  refine s_pI E fp_X8_28 (Or.inl rfl) rfl (ltn hw0.1 (by decide)) dX8_copyFrom_31 ?_
  exact r_void E dX8_copyFrom_34 ⟨(fc_upC (fc_stI hw0 (by decide +kernel)) (by decide +kernel)), (fc_upC (fc_stI hw1 (by decide +kernel)) (by decide +kernel)), (fc_upC (fc_stI hw2 (by decide +kernel)) (by decide +kernel))⟩
set_option maxRecDepth 20000 in
set_option maxHeartbeats 2000000 in
theorem K_X8_copyFrom_52_r5_RMS (l : Launch) (D : va_G) (aC : Nat → ClassId) (b : Nat) (w : XW)  (hw0 : RfC w) (hw1 : FrM w) (hw2 : RfM w) : CnV l D aC b M_X8_copyFrom 1 60 0 0 [AR 52, AR 5] w (fun u => RfC u ∧ FrM u ∧ RfM u) := by
  refine cn_V (own := RX8) (nm := "copyFrom") (L0 := [some (AR 52), some (AR 5)]) (by decide +kernel) rfl rfl (Nat.le_of_ble_eq_true rfl) rfl ?_
  intro p e s m args below meth c E hin
  refine s_aload_n E dX8_copyFrom_0 rfl rfl ?_
  refine s_gR (r := 6) E fg_X8_24 rfl rfl (ltn hw0.1 (by decide)) (fc_r hw0 (by decide +kernel)) dX8_copyFrom_1 ?_
  refine s_iconst (v := 0) E dX8_copyFrom_4 (by decide) ?_
  refine s_aload_n E dX8_copyFrom_5 rfl rfl ?_
  refine s_gR (r := 53) E fg_X8_24 rfl rfl (ltn hw0.1 (by decide)) (fc_r hw0 (by decide +kernel)) dX8_copyFrom_6 ?_
  refine s_iconst (v := 0) E dX8_copyFrom_9 (by decide) ?_
  refine s_aload_n E dX8_copyFrom_10 rfl rfl ?_
  refine s_gR (r := 53) E fg_X8_24 rfl rfl (ltn hw0.1 (by decide)) (fc_r hw0 (by decide +kernel)) dX8_copyFrom_11 ?_
  refine s_alen (v := 12) E rfl (by decide) (ltn hw0.1 (by decide)) (by decide) dX8_copyFrom_14 ?_
  refine s_aload_n E dX8_copyFrom_15 rfl rfl ?_
  refine s_gR (r := 6) E fg_X8_24 rfl rfl (ltn hw0.1 (by decide)) (fc_r hw0 (by decide +kernel)) dX8_copyFrom_16 ?_
  refine s_alen (v := 12) E rfl (by decide) (ltn hw0.1 (by decide)) (by decide) dX8_copyFrom_19 ?_
  refine s_min (v := 12) E ⟨k_535, k_369, k_4, k_370⟩ (Nat.le_of_ble_eq_true rfl) (Nat.le_of_ble_eq_true rfl) (Nat.le_of_ble_eq_true rfl) (Nat.le_of_ble_eq_true rfl) dX8_copyFrom_20 (by decide) ?_
  refine s_copy100 (S := []) E k_536 k_538 k_537 k_17 rfl rfl (ltn hw0.1 (by decide)) (ltn hw0.1 (by decide)) (by decide) (by decide) (by decide) (by decide) (by decide) (Nat.le_of_ble_eq_true rfl) (Nat.le_of_ble_eq_true rfl) dX8_copyFrom_23 ?_
  refine s_aload_n E dX8_copyFrom_26 rfl rfl ?_
  refine s_aload_n E dX8_copyFrom_27 rfl rfl ?_
  refine s_gI E fg_X8_28 rfl rfl (ltn hw0.1 (by decide)) dX8_copyFrom_28 ?_
  refine s_pI E fp_X8_28 (Or.inl rfl) rfl (ltn hw0.1 (by decide)) dX8_copyFrom_31 ?_
  exact r_void E dX8_copyFrom_34 ⟨(fc_upC (fc_stI hw0 (by decide +kernel)) (by decide +kernel)), (fc_upC (fc_stI hw1 (by decide +kernel)) (by decide +kernel)), (fc_upC (fc_stI hw2 (by decide +kernel)) (by decide +kernel))⟩
set_option maxRecDepth 20000 in
set_option maxHeartbeats 2000000 in
theorem K_X8_copyFrom_54_r7_RMS (l : Launch) (D : va_G) (aC : Nat → ClassId) (b : Nat) (w : XW)  (hw0 : RfC w) (hw1 : FrM w) (hw2 : RfM w) : CnV l D aC b M_X8_copyFrom 1 60 0 0 [AR 54, AR 7] w (fun u => RfC u ∧ FrM u ∧ RfM u) := by
  refine cn_V (own := RX8) (nm := "copyFrom") (L0 := [some (AR 54), some (AR 7)]) (by decide +kernel) rfl rfl (Nat.le_of_ble_eq_true rfl) rfl ?_
  intro p e s m args below meth c E hin
  refine s_aload_n E dX8_copyFrom_0 rfl rfl ?_
  refine s_gR (r := 8) E fg_X8_24 rfl rfl (ltn hw0.1 (by decide)) (fc_r hw0 (by decide +kernel)) dX8_copyFrom_1 ?_
  refine s_iconst (v := 0) E dX8_copyFrom_4 (by decide) ?_
  refine s_aload_n E dX8_copyFrom_5 rfl rfl ?_
  refine s_gR (r := 55) E fg_X8_24 rfl rfl (ltn hw0.1 (by decide)) (fc_r hw0 (by decide +kernel)) dX8_copyFrom_6 ?_
  refine s_iconst (v := 0) E dX8_copyFrom_9 (by decide) ?_
  refine s_aload_n E dX8_copyFrom_10 rfl rfl ?_
  refine s_gR (r := 55) E fg_X8_24 rfl rfl (ltn hw0.1 (by decide)) (fc_r hw0 (by decide +kernel)) dX8_copyFrom_11 ?_
  refine s_alen (v := 16) E rfl (by decide) (ltn hw0.1 (by decide)) (by decide) dX8_copyFrom_14 ?_
  refine s_aload_n E dX8_copyFrom_15 rfl rfl ?_
  refine s_gR (r := 8) E fg_X8_24 rfl rfl (ltn hw0.1 (by decide)) (fc_r hw0 (by decide +kernel)) dX8_copyFrom_16 ?_
  refine s_alen (v := 16) E rfl (by decide) (ltn hw0.1 (by decide)) (by decide) dX8_copyFrom_19 ?_
  refine s_min (v := 16) E ⟨k_535, k_369, k_4, k_370⟩ (Nat.le_of_ble_eq_true rfl) (Nat.le_of_ble_eq_true rfl) (Nat.le_of_ble_eq_true rfl) (Nat.le_of_ble_eq_true rfl) dX8_copyFrom_20 (by decide) ?_
  refine s_copy100 (S := []) E k_536 k_538 k_537 k_17 rfl rfl (ltn hw0.1 (by decide)) (ltn hw0.1 (by decide)) (by decide) (by decide) (by decide) (by decide) (by decide) (Nat.le_of_ble_eq_true rfl) (Nat.le_of_ble_eq_true rfl) dX8_copyFrom_23 ?_
  refine s_aload_n E dX8_copyFrom_26 rfl rfl ?_
  refine s_aload_n E dX8_copyFrom_27 rfl rfl ?_
  refine s_gI E fg_X8_28 rfl rfl (ltn hw0.1 (by decide)) dX8_copyFrom_28 ?_
  refine s_pI E fp_X8_28 (Or.inl rfl) rfl (ltn hw0.1 (by decide)) dX8_copyFrom_31 ?_
  exact r_void E dX8_copyFrom_34 ⟨(fc_upC (fc_stI hw0 (by decide +kernel)) (by decide +kernel)), (fc_upC (fc_stI hw1 (by decide +kernel)) (by decide +kernel)), (fc_upC (fc_stI hw2 (by decide +kernel)) (by decide +kernel))⟩
set_option maxRecDepth 20000 in
set_option maxHeartbeats 2000000 in
theorem K_X8_copyFrom_56_r9_RMS (l : Launch) (D : va_G) (aC : Nat → ClassId) (b : Nat) (w : XW)  (hw0 : RfC w) (hw1 : FrM w) (hw2 : RfM w) : CnV l D aC b M_X8_copyFrom 1 60 0 0 [AR 56, AR 9] w (fun u => RfC u ∧ FrM u ∧ RfM u) := by
  refine cn_V (own := RX8) (nm := "copyFrom") (L0 := [some (AR 56), some (AR 9)]) (by decide +kernel) rfl rfl (Nat.le_of_ble_eq_true rfl) rfl ?_
  intro p e s m args below meth c E hin
  refine s_aload_n E dX8_copyFrom_0 rfl rfl ?_
  refine s_gR (r := 10) E fg_X8_24 rfl rfl (ltn hw0.1 (by decide)) (fc_r hw0 (by decide +kernel)) dX8_copyFrom_1 ?_
  refine s_iconst (v := 0) E dX8_copyFrom_4 (by decide) ?_
  refine s_aload_n E dX8_copyFrom_5 rfl rfl ?_
  refine s_gR (r := 57) E fg_X8_24 rfl rfl (ltn hw0.1 (by decide)) (fc_r hw0 (by decide +kernel)) dX8_copyFrom_6 ?_
  refine s_iconst (v := 0) E dX8_copyFrom_9 (by decide) ?_
  refine s_aload_n E dX8_copyFrom_10 rfl rfl ?_
  refine s_gR (r := 57) E fg_X8_24 rfl rfl (ltn hw0.1 (by decide)) (fc_r hw0 (by decide +kernel)) dX8_copyFrom_11 ?_
  refine s_alen (v := 30) E rfl (by decide) (ltn hw0.1 (by decide)) (by decide) dX8_copyFrom_14 ?_
  refine s_aload_n E dX8_copyFrom_15 rfl rfl ?_
  refine s_gR (r := 10) E fg_X8_24 rfl rfl (ltn hw0.1 (by decide)) (fc_r hw0 (by decide +kernel)) dX8_copyFrom_16 ?_
  refine s_alen (v := 30) E rfl (by decide) (ltn hw0.1 (by decide)) (by decide) dX8_copyFrom_19 ?_
  refine s_min (v := 30) E ⟨k_535, k_369, k_4, k_370⟩ (Nat.le_of_ble_eq_true rfl) (Nat.le_of_ble_eq_true rfl) (Nat.le_of_ble_eq_true rfl) (Nat.le_of_ble_eq_true rfl) dX8_copyFrom_20 (by decide) ?_
  refine s_copy100 (S := []) E k_536 k_538 k_537 k_17 rfl rfl (ltn hw0.1 (by decide)) (ltn hw0.1 (by decide)) (by decide) (by decide) (by decide) (by decide) (by decide) (Nat.le_of_ble_eq_true rfl) (Nat.le_of_ble_eq_true rfl) dX8_copyFrom_23 ?_
  refine s_aload_n E dX8_copyFrom_26 rfl rfl ?_
  refine s_aload_n E dX8_copyFrom_27 rfl rfl ?_
  refine s_gI E fg_X8_28 rfl rfl (ltn hw0.1 (by decide)) dX8_copyFrom_28 ?_
  refine s_pI E fp_X8_28 (Or.inl rfl) rfl (ltn hw0.1 (by decide)) dX8_copyFrom_31 ?_
  exact r_void E dX8_copyFrom_34 ⟨(fc_upC (fc_stI hw0 (by decide +kernel)) (by decide +kernel)), (fc_upC (fc_stI hw1 (by decide +kernel)) (by decide +kernel)), (fc_upC (fc_stI hw2 (by decide +kernel)) (by decide +kernel))⟩
set_option maxRecDepth 20000 in
set_option maxHeartbeats 2000000 in
theorem K_X8_copyFrom_58_r11_RMS (l : Launch) (D : va_G) (aC : Nat → ClassId) (b : Nat) (w : XW)  (hw0 : RfC w) (hw1 : FrM w) (hw2 : RfM w) : CnV l D aC b M_X8_copyFrom 1 60 0 0 [AR 58, AR 11] w (fun u => RfC u ∧ FrM u ∧ RfM u) := by
  refine cn_V (own := RX8) (nm := "copyFrom") (L0 := [some (AR 58), some (AR 11)]) (by decide +kernel) rfl rfl (Nat.le_of_ble_eq_true rfl) rfl ?_
  intro p e s m args below meth c E hin
  refine s_aload_n E dX8_copyFrom_0 rfl rfl ?_
  refine s_gR (r := 12) E fg_X8_24 rfl rfl (ltn hw0.1 (by decide)) (fc_r hw0 (by decide +kernel)) dX8_copyFrom_1 ?_
  refine s_iconst (v := 0) E dX8_copyFrom_4 (by decide) ?_
  refine s_aload_n E dX8_copyFrom_5 rfl rfl ?_
  refine s_gR (r := 59) E fg_X8_24 rfl rfl (ltn hw0.1 (by decide)) (fc_r hw0 (by decide +kernel)) dX8_copyFrom_6 ?_
  refine s_iconst (v := 0) E dX8_copyFrom_9 (by decide) ?_
  refine s_aload_n E dX8_copyFrom_10 rfl rfl ?_
  refine s_gR (r := 59) E fg_X8_24 rfl rfl (ltn hw0.1 (by decide)) (fc_r hw0 (by decide +kernel)) dX8_copyFrom_11 ?_
  refine s_alen (v := 120) E rfl (by decide) (ltn hw0.1 (by decide)) (by decide) dX8_copyFrom_14 ?_
  refine s_aload_n E dX8_copyFrom_15 rfl rfl ?_
  refine s_gR (r := 12) E fg_X8_24 rfl rfl (ltn hw0.1 (by decide)) (fc_r hw0 (by decide +kernel)) dX8_copyFrom_16 ?_
  refine s_alen (v := 120) E rfl (by decide) (ltn hw0.1 (by decide)) (by decide) dX8_copyFrom_19 ?_
  refine s_min (v := 120) E ⟨k_535, k_369, k_4, k_370⟩ (Nat.le_of_ble_eq_true rfl) (Nat.le_of_ble_eq_true rfl) (Nat.le_of_ble_eq_true rfl) (Nat.le_of_ble_eq_true rfl) dX8_copyFrom_20 (by decide) ?_
  refine s_copy100 (S := []) E k_536 k_538 k_537 k_17 rfl rfl (ltn hw0.1 (by decide)) (ltn hw0.1 (by decide)) (by decide) (by decide) (by decide) (by decide) (by decide) (Nat.le_of_ble_eq_true rfl) (Nat.le_of_ble_eq_true rfl) dX8_copyFrom_23 ?_
  refine s_aload_n E dX8_copyFrom_26 rfl rfl ?_
  refine s_aload_n E dX8_copyFrom_27 rfl rfl ?_
  refine s_gI E fg_X8_28 rfl rfl (ltn hw0.1 (by decide)) dX8_copyFrom_28 ?_
  refine s_pI E fp_X8_28 (Or.inl rfl) rfl (ltn hw0.1 (by decide)) dX8_copyFrom_31 ?_
  exact r_void E dX8_copyFrom_34 ⟨(fc_upC (fc_stI hw0 (by decide +kernel)) (by decide +kernel)), (fc_upC (fc_stI hw1 (by decide +kernel)) (by decide +kernel)), (fc_upC (fc_stI hw2 (by decide +kernel)) (by decide +kernel))⟩
set_option maxRecDepth 20000 in
set_option maxHeartbeats 2000000 in
theorem K_X0_copyFrom_49_r2_CRMS (l : Launch) (D : va_G) (aC : Nat → ClassId) (b : Nat) (w : XW)  (hw0 : FrC w) (hw1 : RfC w) (hw2 : FrM w) (hw3 : RfM w) : CnV l D aC b M_X0_copyFrom 2 81 0 0 [AR 49, AR 2] w (fun u => RfC u ∧ FrM u ∧ RfM u) := by
  refine cn_V (own := RX0) (nm := "copyFrom") (L0 := [some (AR 49), some (AR 2)]) (by decide +kernel) rfl rfl (Nat.le_of_ble_eq_true rfl) rfl ?_
  intro p e s m args below meth c E hin
  refine s_aload_n E dX0_copyFrom_0 rfl rfl ?_
  refine s_aload_n E dX0_copyFrom_1 rfl rfl ?_
  refine s_gI E fg_X0_32 rfl rfl (ltn hw0.1 (by decide)) dX0_copyFrom_2 ?_
  refine s_top (y := 0) (fc_i hw0 (by decide +kernel)) ?_
  refine s_pI E fp_X0_32 (Or.inl rfl) rfl (ltn hw0.1 (by decide)) dX0_copyFrom_5 ?_
  refine s_aload_n E dX0_copyFrom_8 rfl rfl ?_
  refine s_aload_n E dX0_copyFrom_9 rfl rfl ?_
  refine s_gI E fg_X0_36 rfl rfl (ltn hw0.1 (by decide)) dX0_copyFrom_10 ?_
  refine s_top (y := 0) (fc_i hw0 (by decide +kernel)) ?_
  refine s_pI E fp_X0_36 (Or.inl rfl) rfl (ltn hw0.1 (by decide)) dX0_copyFrom_13 ?_
  refine s_aload_n E dX0_copyFrom_16 rfl rfl ?_
  refine s_aload_n E dX0_copyFrom_17 rfl rfl ?_
  refine s_gI E fg_X0_39 rfl rfl (ltn hw0.1 (by decide)) dX0_copyFrom_18 ?_
  refine s_top (y := 0) (fc_i hw0 (by decide +kernel)) ?_
  refine s_pI E fp_X0_39 (Or.inl rfl) rfl (ltn hw0.1 (by decide)) dX0_copyFrom_21 ?_
  refine s_aload_n E dX0_copyFrom_24 rfl rfl ?_
  refine s_aload_n E dX0_copyFrom_25 rfl rfl ?_
  refine s_gI E fg_X0_42 rfl rfl (ltn hw0.1 (by decide)) dX0_copyFrom_26 ?_
  refine s_top (y := 0) (fc_i hw0 (by decide +kernel)) ?_
  refine s_pI E fp_X0_42 (Or.inl rfl) rfl (ltn hw0.1 (by decide)) dX0_copyFrom_29 ?_
  refine s_aload_n E dX0_copyFrom_32 rfl rfl ?_
  refine s_aload_n E dX0_copyFrom_33 rfl rfl ?_
  refine s_gI E fg_X0_45 rfl rfl (ltn hw0.1 (by decide)) dX0_copyFrom_34 ?_
  refine s_top (y := 0) (fc_i hw0 (by decide +kernel)) ?_
  refine s_pI E fp_X0_45 (Or.inl rfl) rfl (ltn hw0.1 (by decide)) dX0_copyFrom_37 ?_
  refine s_aload_n E dX0_copyFrom_40 rfl rfl ?_
  refine s_gR (r := 50) E fg_X0_14 rfl rfl (ltn hw0.1 (by decide)) (fc_r hw0 (by decide +kernel)) dX0_copyFrom_41 ?_
  refine s_aload_n E dX0_copyFrom_44 rfl rfl ?_
  refine s_gR (r := 3) E fg_X0_14 rfl rfl (ltn hw0.1 (by decide)) (fc_r hw0 (by decide +kernel)) dX0_copyFrom_45 ?_
  refine s_vV (As := [AR 3]) (S := []) E (K_X8_copyFrom_50_r3_RMS l D aC b (upI (upI (upI (upI (upI w 49 0 0) 49 1 0) 49 2 0) 49 3 0) 49 4 0)  (fc_upC (fc_upC (fc_upC (fc_upC (fc_upC hw1 (by decide +kernel)) (by decide +kernel)) (by decide +kernel)) (by decide +kernel)) (by decide +kernel)) (fc_upC (fc_upC (fc_upC (fc_upC (fc_upC hw2 (by decide +kernel)) (by decide +kernel)) (by decide +kernel)) (by decide +kernel)) (by decide +kernel)) (fc_upC (fc_upC (fc_upC (fc_upC (fc_upC hw3 (by decide +kernel)) (by decide +kernel)) (by decide +kernel)) (by decide +kernel)) (by decide +kernel))) cv_X0_51 rfl rfl rfl (ltn hw0.1 (by decide)) (Nat.le_of_ble_eq_true rfl) (Nat.le_of_ble_eq_true rfl) ⟨(Nat.le_of_ble_eq_true rfl), (Nat.le_of_ble_eq_true rfl)⟩ (Nat.le_of_ble_eq_true rfl) dX0_copyFrom_48 (fun u_1 hp => ?_)
  obtain ⟨hu_1, hu_2, hu_3⟩ := hp
  refine s_aload_n E dX0_copyFrom_51 rfl rfl ?_
  refine s_gR (r := 52) E fg_X0_20 rfl rfl (ltn hu_1.1 (by decide)) (fc_r hu_1 (by decide +kernel)) dX0_copyFrom_52 ?_
  refine s_aload_n E dX0_copyFrom_55 rfl rfl ?_
  refine s_gR (r := 5) E fg_X0_20 rfl rfl (ltn hu_1.1 (by decide)) (fc_r hu_1 (by decide +kernel)) dX0_copyFrom_56 ?_
  refine s_vV (As := [AR 5]) (S := []) E (K_X8_copyFrom_52_r5_RMS l D aC b u_1  hu_1 hu_2 hu_3) cv_X0_51 rfl rfl rfl (ltn hu_1.1 (by decide)) (Nat.le_of_ble_eq_true rfl) (Nat.le_of_ble_eq_true rfl) ⟨(Nat.le_of_ble_eq_true rfl), (Nat.le_of_ble_eq_true rfl)⟩ (Nat.le_of_ble_eq_true rfl) dX0_copyFrom_59 (fun u_2 hp => ?_)
  obtain ⟨hu_4, hu_5, hu_6⟩ := hp
  refine s_aload_n E dX0_copyFrom_62 rfl rfl ?_
  refine s_gR (r := 54) E fg_X0_23 rfl rfl (ltn hu_4.1 (by decide)) (fc_r hu_4 (by decide +kernel)) dX0_copyFrom_63 ?_
  refine s_aload_n E dX0_copyFrom_66 rfl rfl ?_
  refine s_gR (r := 7) E fg_X0_23 rfl rfl (ltn hu_4.1 (by decide)) (fc_r hu_4 (by decide +kernel)) dX0_copyFrom_67 ?_
  refine s_vV (As := [AR 7]) (S := []) E (K_X8_copyFrom_54_r7_RMS l D aC b u_2  hu_4 hu_5 hu_6) cv_X0_51 rfl rfl rfl (ltn hu_4.1 (by decide)) (Nat.le_of_ble_eq_true rfl) (Nat.le_of_ble_eq_true rfl) ⟨(Nat.le_of_ble_eq_true rfl), (Nat.le_of_ble_eq_true rfl)⟩ (Nat.le_of_ble_eq_true rfl) dX0_copyFrom_70 (fun u_3 hp => ?_)
  obtain ⟨hu_7, hu_8, hu_9⟩ := hp
  refine s_aload_n E dX0_copyFrom_73 rfl rfl ?_
  refine s_gR (r := 56) E fg_X0_26 rfl rfl (ltn hu_7.1 (by decide)) (fc_r hu_7 (by decide +kernel)) dX0_copyFrom_74 ?_
  refine s_aload_n E dX0_copyFrom_77 rfl rfl ?_
  refine s_gR (r := 9) E fg_X0_26 rfl rfl (ltn hu_7.1 (by decide)) (fc_r hu_7 (by decide +kernel)) dX0_copyFrom_78 ?_
  refine s_vV (As := [AR 9]) (S := []) E (K_X8_copyFrom_56_r9_RMS l D aC b u_3  hu_7 hu_8 hu_9) cv_X0_51 rfl rfl rfl (ltn hu_7.1 (by decide)) (Nat.le_of_ble_eq_true rfl) (Nat.le_of_ble_eq_true rfl) ⟨(Nat.le_of_ble_eq_true rfl), (Nat.le_of_ble_eq_true rfl)⟩ (Nat.le_of_ble_eq_true rfl) dX0_copyFrom_81 (fun u_4 hp => ?_)
  obtain ⟨hu_10, hu_11, hu_12⟩ := hp
  refine s_aload_n E dX0_copyFrom_84 rfl rfl ?_
  refine s_gR (r := 58) E fg_X0_29 rfl rfl (ltn hu_10.1 (by decide)) (fc_r hu_10 (by decide +kernel)) dX0_copyFrom_85 ?_
  refine s_aload_n E dX0_copyFrom_88 rfl rfl ?_
  refine s_gR (r := 11) E fg_X0_29 rfl rfl (ltn hu_10.1 (by decide)) (fc_r hu_10 (by decide +kernel)) dX0_copyFrom_89 ?_
  refine s_vV (As := [AR 11]) (S := []) E (K_X8_copyFrom_58_r11_RMS l D aC b u_4  hu_10 hu_11 hu_12) cv_X0_51 rfl rfl rfl (ltn hu_10.1 (by decide)) (Nat.le_of_ble_eq_true rfl) (Nat.le_of_ble_eq_true rfl) ⟨(Nat.le_of_ble_eq_true rfl), (Nat.le_of_ble_eq_true rfl)⟩ (Nat.le_of_ble_eq_true rfl) dX0_copyFrom_92 (fun u_5 hp => ?_)
  obtain ⟨hu_13, hu_14, hu_15⟩ := hp
  exact r_void E dX0_copyFrom_95 ⟨hu_13, hu_14, hu_15⟩
set_option maxRecDepth 20000 in
set_option maxHeartbeats 2000000 in
theorem K_X9_image_0_CRMS (l : Launch) (D : va_G) (aC : Nat → ClassId) (b : Nat) (w : XW) (x1 : Int32) (hw0 : FrC w) (hw1 : RfC w) (hw2 : FrM w) (hw3 : RfM w) : CnI l D aC b M_X9_image 3 102 0 0 [AR 0, AI x1] w (fun r u => r = sp_image x1 ∧ RfC u ∧ FrM u ∧ RfM u) := by
  refine cn_I (own := RX9) (nm := "image") (L0 := [some (AR 0), some (AI x1)]) (by decide +kernel) rfl rfl (Nat.le_of_ble_eq_true rfl) rfl ?_
  intro p e s m args below meth c E hin
  refine s_iload_n E dX9_image_0 rfl rfl ?_
  refine s_if_lt (tgt := 9) E dX9_image_1 (by decide) (fun h_1 => ?_) (fun h_1 => ?_)
  ·
    refine s_bipush (v := (-2)) E dX9_image_9 (by decide) ?_
    exact r_int E dX9_image_11 ⟨(by have q0 := h_1; (try simp only [lg_cmp_lt, lg_cmp_le, lg_cmp_ge, lg_cmp_gt] at q0); (try simp only [Int32.lt_iff_toInt_lt, Int32.le_iff_toInt_le, Int64.lt_iff_toInt_lt, Int64.le_iff_toInt_le, ← Int32.toInt_inj, ← Int64.toInt_inj, Int32.toInt_toInt64] at q0); have e0 : (0 : Int32).toInt = 0 := (by decide); have e1 : (1 : Int32).toInt = 1 := (by decide); have e2 : (2 : Int32).toInt = 2 := (by decide); have e3 : (3 : Int32).toInt = 3 := (by decide); have e4 : (4 : Int32).toInt = 4 := (by decide); have e5 : (0 : Int64).toInt = 0 := (by decide); (try simp only [e0, e1, e2, e3, e4, e5] at q0); first | decide | (unfold sp_image; (repeat' split) <;> first | rfl | (exfalso; omega))), ⟨hw1, hw2, hw3⟩⟩
  ·
    refine s_iload_n E dX9_image_4 rfl rfl ?_
    refine s_iconst (v := 3) E dX9_image_5 (by decide) ?_
    refine s_icmp_lt (tgt := 12) E dX9_image_6 (by decide) (fun h_2 => ?_) (fun h_2 => ?_)
    ·
      refine s_aload_n E dX9_image_12 rfl rfl ?_
      refine s_gR (r := 25) E fg_X9_36 rfl rfl (ltn hw0.1 (by decide)) (fc_r hw0 (by decide +kernel)) dX9_image_13 ?_
      refine s_iload_n E dX9_image_16 rfl rfl ?_
      rcases (show x1 = 0 ∨ x1 = 1 ∨ x1 = 2 from (by have q0 := h_1; have q1 := h_2; (try simp only [lg_cmp_lt, lg_cmp_le, lg_cmp_ge, lg_cmp_gt] at q0 q1); (try simp only [Int32.lt_iff_toInt_lt, Int32.le_iff_toInt_le, Int64.lt_iff_toInt_lt, Int64.le_iff_toInt_le, ← Int32.toInt_inj, ← Int64.toInt_inj, Int32.toInt_toInt64] at q0 q1); have e0 : (0 : Int32).toInt = 0 := (by decide); have e1 : (3 : Int32).toInt = 3 := (by decide); have e2 : (0 : Int64).toInt = 0 := (by decide); (try simp only [e0, e1, e2] at q0 q1); have z0 : (0 : Int32).toInt = 0 := (by decide); have z1 : (1 : Int32).toInt = 1 := (by decide); have z2 : (2 : Int32).toInt = 2 := (by decide); (simp only [← Int32.toInt_inj, z0, z1, z2]); omega)) with rfl | rfl | rfl
      ·
        refine s_aald104 (r := 27) E rfl (ltn hw0.1 (by decide)) (vp_c (by decide)) (fc_r hw0 (by decide +kernel)) dX9_image_17 ?_
        refine s_aload_n E dX9_image_18 rfl rfl ?_
        refine s_gR (r := 2) E fg_X9_20 rfl rfl (ltn hw0.1 (by decide)) (fc_r hw0 (by decide +kernel)) dX9_image_19 ?_
        refine s_vV (As := [AR 2]) (S := []) E (K_X0_copyFrom_27_r2_CRMS l D aC b w  hw0 hw1 hw2 hw3) cv_X9_103 rfl rfl rfl (ltn hw0.1 (by decide)) (Nat.le_of_ble_eq_true rfl) (Nat.le_of_ble_eq_true rfl) ⟨(Nat.le_of_ble_eq_true rfl), (Nat.le_of_ble_eq_true rfl)⟩ (Nat.le_of_ble_eq_true rfl) dX9_image_22 (fun u_1 hp => ?_)
        obtain ⟨hu_3, hu_4, hu_5⟩ := hp
        refine s_aload_n E dX9_image_25 rfl rfl ?_
        refine s_gR (r := 26) E fg_X9_40 rfl rfl (ltn hu_3.1 (by decide)) (fc_r hu_3 (by decide +kernel)) dX9_image_26 ?_
        refine s_iload_n E dX9_image_29 rfl rfl ?_
        refine s_iconst (v := 1) E dX9_image_30 (by decide) ?_
        refine s_zast E rfl (ltn hu_3.1 (by decide)) (vp_c (by decide)) dX9_image_31 ?_
        refine s_iconst (v := 0) E dX9_image_32 (by decide) ?_
        exact r_int E dX9_image_33 ⟨(by have e0 : (0 : Int32).toInt = 0 := (by decide); have e1 : (1 : Int32).toInt = 1 := (by decide); have e2 : (2 : Int32).toInt = 2 := (by decide); have e3 : (3 : Int32).toInt = 3 := (by decide); have e4 : (4 : Int32).toInt = 4 := (by decide); have e5 : (0 : Int64).toInt = 0 := (by decide); first | decide | (unfold sp_image; (repeat' split) <;> first | rfl | (exfalso; omega))), ⟨(fc_upC hu_3 (by decide +kernel)), (fc_upC hu_4 (by decide +kernel)), (fc_upC hu_5 (by decide +kernel))⟩⟩
      ·
        refine s_aald104 (r := 38) E rfl (ltn hw0.1 (by decide)) (vp_c (by decide)) (fc_r hw0 (by decide +kernel)) dX9_image_17 ?_
        refine s_aload_n E dX9_image_18 rfl rfl ?_
        refine s_gR (r := 2) E fg_X9_20 rfl rfl (ltn hw0.1 (by decide)) (fc_r hw0 (by decide +kernel)) dX9_image_19 ?_
        refine s_vV (As := [AR 2]) (S := []) E (K_X0_copyFrom_38_r2_CRMS l D aC b w  hw0 hw1 hw2 hw3) cv_X9_103 rfl rfl rfl (ltn hw0.1 (by decide)) (Nat.le_of_ble_eq_true rfl) (Nat.le_of_ble_eq_true rfl) ⟨(Nat.le_of_ble_eq_true rfl), (Nat.le_of_ble_eq_true rfl)⟩ (Nat.le_of_ble_eq_true rfl) dX9_image_22 (fun u_2 hp => ?_)
        obtain ⟨hu_6, hu_7, hu_8⟩ := hp
        refine s_aload_n E dX9_image_25 rfl rfl ?_
        refine s_gR (r := 26) E fg_X9_40 rfl rfl (ltn hu_6.1 (by decide)) (fc_r hu_6 (by decide +kernel)) dX9_image_26 ?_
        refine s_iload_n E dX9_image_29 rfl rfl ?_
        refine s_iconst (v := 1) E dX9_image_30 (by decide) ?_
        refine s_zast E rfl (ltn hu_6.1 (by decide)) (vp_c (by decide)) dX9_image_31 ?_
        refine s_iconst (v := 0) E dX9_image_32 (by decide) ?_
        exact r_int E dX9_image_33 ⟨(by have e0 : (0 : Int32).toInt = 0 := (by decide); have e1 : (1 : Int32).toInt = 1 := (by decide); have e2 : (2 : Int32).toInt = 2 := (by decide); have e3 : (3 : Int32).toInt = 3 := (by decide); have e4 : (4 : Int32).toInt = 4 := (by decide); have e5 : (0 : Int64).toInt = 0 := (by decide); first | decide | (unfold sp_image; (repeat' split) <;> first | rfl | (exfalso; omega))), ⟨(fc_upC hu_6 (by decide +kernel)), (fc_upC hu_7 (by decide +kernel)), (fc_upC hu_8 (by decide +kernel))⟩⟩
      ·
        refine s_aald104 (r := 49) E rfl (ltn hw0.1 (by decide)) (vp_c (by decide)) (fc_r hw0 (by decide +kernel)) dX9_image_17 ?_
        refine s_aload_n E dX9_image_18 rfl rfl ?_
        refine s_gR (r := 2) E fg_X9_20 rfl rfl (ltn hw0.1 (by decide)) (fc_r hw0 (by decide +kernel)) dX9_image_19 ?_
        refine s_vV (As := [AR 2]) (S := []) E (K_X0_copyFrom_49_r2_CRMS l D aC b w  hw0 hw1 hw2 hw3) cv_X9_103 rfl rfl rfl (ltn hw0.1 (by decide)) (Nat.le_of_ble_eq_true rfl) (Nat.le_of_ble_eq_true rfl) ⟨(Nat.le_of_ble_eq_true rfl), (Nat.le_of_ble_eq_true rfl)⟩ (Nat.le_of_ble_eq_true rfl) dX9_image_22 (fun u_3 hp => ?_)
        obtain ⟨hu_9, hu_10, hu_11⟩ := hp
        refine s_aload_n E dX9_image_25 rfl rfl ?_
        refine s_gR (r := 26) E fg_X9_40 rfl rfl (ltn hu_9.1 (by decide)) (fc_r hu_9 (by decide +kernel)) dX9_image_26 ?_
        refine s_iload_n E dX9_image_29 rfl rfl ?_
        refine s_iconst (v := 1) E dX9_image_30 (by decide) ?_
        refine s_zast E rfl (ltn hu_9.1 (by decide)) (vp_c (by decide)) dX9_image_31 ?_
        refine s_iconst (v := 0) E dX9_image_32 (by decide) ?_
        exact r_int E dX9_image_33 ⟨(by have e0 : (0 : Int32).toInt = 0 := (by decide); have e1 : (1 : Int32).toInt = 1 := (by decide); have e2 : (2 : Int32).toInt = 2 := (by decide); have e3 : (3 : Int32).toInt = 3 := (by decide); have e4 : (4 : Int32).toInt = 4 := (by decide); have e5 : (0 : Int64).toInt = 0 := (by decide); first | decide | (unfold sp_image; (repeat' split) <;> first | rfl | (exfalso; omega))), ⟨(fc_upC hu_9 (by decide +kernel)), (fc_upC hu_10 (by decide +kernel)), (fc_upC hu_11 (by decide +kernel))⟩⟩
    ·
      refine s_bipush (v := (-2)) E dX9_image_9 (by decide) ?_
      exact r_int E dX9_image_11 ⟨(by have q0 := h_1; have q1 := h_2; (try simp only [lg_cmp_lt, lg_cmp_le, lg_cmp_ge, lg_cmp_gt] at q0 q1); (try simp only [Int32.lt_iff_toInt_lt, Int32.le_iff_toInt_le, Int64.lt_iff_toInt_lt, Int64.le_iff_toInt_le, ← Int32.toInt_inj, ← Int64.toInt_inj, Int32.toInt_toInt64] at q0 q1); have e0 : (0 : Int32).toInt = 0 := (by decide); have e1 : (1 : Int32).toInt = 1 := (by decide); have e2 : (2 : Int32).toInt = 2 := (by decide); have e3 : (3 : Int32).toInt = 3 := (by decide); have e4 : (4 : Int32).toInt = 4 := (by decide); have e5 : (0 : Int64).toInt = 0 := (by decide); (try simp only [e0, e1, e2, e3, e4, e5] at q0 q1); first | decide | (unfold sp_image; (repeat' split) <;> first | rfl | (exfalso; omega))), ⟨hw1, hw2, hw3⟩⟩
set_option maxRecDepth 20000 in
set_option maxHeartbeats 2000000 in
theorem K_X9_back_0_CRMS (l : Launch) (D : va_G) (aC : Nat → ClassId) (b : Nat) (w : XW) (x1 : Int32) (hw0 : FrC w) (hw1 : RfC w) (hw2 : FrM w) (hw3 : RfM w) : CnI l D aC b M_X9_back 0 0 0 0 [AR 0, AI x1] w (fun r u => r = sp_back x1 ∧ w = u) := by
  refine cn_I (own := RX9) (nm := "back") (L0 := [some (AR 0), some (AI x1)]) (by decide +kernel) rfl rfl (Nat.le_of_ble_eq_true rfl) rfl ?_
  intro p e s m args below meth c E hin
  refine s_iload_n E dX9_back_0 rfl rfl ?_
  refine s_if_lt (tgt := 9) E dX9_back_1 (by decide) (fun h_1 => ?_) (fun h_1 => ?_)
  ·
    refine s_bipush (v := (-2)) E dX9_back_9 (by decide) ?_
    exact r_int E dX9_back_11 ⟨(by have q0 := h_1; (try simp only [lg_cmp_lt, lg_cmp_le, lg_cmp_ge, lg_cmp_gt] at q0); (try simp only [Int32.lt_iff_toInt_lt, Int32.le_iff_toInt_le, Int64.lt_iff_toInt_lt, Int64.le_iff_toInt_le, ← Int32.toInt_inj, ← Int64.toInt_inj, Int32.toInt_toInt64] at q0); have e0 : (0 : Int32).toInt = 0 := (by decide); have e1 : (1 : Int32).toInt = 1 := (by decide); have e2 : (2 : Int32).toInt = 2 := (by decide); have e3 : (3 : Int32).toInt = 3 := (by decide); have e4 : (4 : Int32).toInt = 4 := (by decide); have e5 : (0 : Int64).toInt = 0 := (by decide); (try simp only [e0, e1, e2, e3, e4, e5] at q0); first | decide | (unfold sp_back; (repeat' split) <;> first | rfl | (exfalso; omega))), rfl⟩
  ·
    refine s_iload_n E dX9_back_4 rfl rfl ?_
    refine s_iconst (v := 3) E dX9_back_5 (by decide) ?_
    refine s_icmp_lt (tgt := 12) E dX9_back_6 (by decide) (fun h_2 => ?_) (fun h_2 => ?_)
    ·
      refine s_aload_n E dX9_back_12 rfl rfl ?_
      refine s_gR (r := 26) E fg_X9_40 rfl rfl (ltn hw0.1 (by decide)) (fc_r hw0 (by decide +kernel)) dX9_back_13 ?_
      refine s_iload_n E dX9_back_16 rfl rfl ?_
      rcases (show x1 = 0 ∨ x1 = 1 ∨ x1 = 2 from (by have q0 := h_1; have q1 := h_2; (try simp only [lg_cmp_lt, lg_cmp_le, lg_cmp_ge, lg_cmp_gt] at q0 q1); (try simp only [Int32.lt_iff_toInt_lt, Int32.le_iff_toInt_le, Int64.lt_iff_toInt_lt, Int64.le_iff_toInt_le, ← Int32.toInt_inj, ← Int64.toInt_inj, Int32.toInt_toInt64] at q0 q1); have e0 : (0 : Int32).toInt = 0 := (by decide); have e1 : (3 : Int32).toInt = 3 := (by decide); have e2 : (0 : Int64).toInt = 0 := (by decide); (try simp only [e0, e1, e2] at q0 q1); have z0 : (0 : Int32).toInt = 0 := (by decide); have z1 : (1 : Int32).toInt = 1 := (by decide); have z2 : (2 : Int32).toInt = 2 := (by decide); (simp only [← Int32.toInt_inj, z0, z1, z2]); omega)) with rfl | rfl | rfl
      ·
        refine s_zald E rfl (ltn hw0.1 (by decide)) (vp_c (by decide)) dX9_back_17 ?_
        refine s_top (y := 0) (fc_z hw0 (q := (26, 3)) (by decide +kernel) (by decide)) ?_
        refine s_if_ne (tgt := 24) E dX9_back_18 (by decide) (fun hh => absurd (by decide) hh) (fun _ => ?_)
        refine s_bipush (v := (-6)) E dX9_back_21 (by decide) ?_
        exact r_int E dX9_back_23 ⟨(by have e0 : (0 : Int32).toInt = 0 := (by decide); have e1 : (1 : Int32).toInt = 1 := (by decide); have e2 : (2 : Int32).toInt = 2 := (by decide); have e3 : (3 : Int32).toInt = 3 := (by decide); have e4 : (4 : Int32).toInt = 4 := (by decide); have e5 : (0 : Int64).toInt = 0 := (by decide); first | decide | (unfold sp_back; (repeat' split) <;> first | rfl | (exfalso; omega))), rfl⟩
      ·
        refine s_zald E rfl (ltn hw0.1 (by decide)) (vp_c (by decide)) dX9_back_17 ?_
        refine s_top (y := 0) (fc_z hw0 (q := (26, 3)) (by decide +kernel) (by decide)) ?_
        refine s_if_ne (tgt := 24) E dX9_back_18 (by decide) (fun hh => absurd (by decide) hh) (fun _ => ?_)
        refine s_bipush (v := (-6)) E dX9_back_21 (by decide) ?_
        exact r_int E dX9_back_23 ⟨(by have e0 : (0 : Int32).toInt = 0 := (by decide); have e1 : (1 : Int32).toInt = 1 := (by decide); have e2 : (2 : Int32).toInt = 2 := (by decide); have e3 : (3 : Int32).toInt = 3 := (by decide); have e4 : (4 : Int32).toInt = 4 := (by decide); have e5 : (0 : Int64).toInt = 0 := (by decide); first | decide | (unfold sp_back; (repeat' split) <;> first | rfl | (exfalso; omega))), rfl⟩
      ·
        refine s_zald E rfl (ltn hw0.1 (by decide)) (vp_c (by decide)) dX9_back_17 ?_
        refine s_top (y := 0) (fc_z hw0 (q := (26, 3)) (by decide +kernel) (by decide)) ?_
        refine s_if_ne (tgt := 24) E dX9_back_18 (by decide) (fun hh => absurd (by decide) hh) (fun _ => ?_)
        refine s_bipush (v := (-6)) E dX9_back_21 (by decide) ?_
        exact r_int E dX9_back_23 ⟨(by have e0 : (0 : Int32).toInt = 0 := (by decide); have e1 : (1 : Int32).toInt = 1 := (by decide); have e2 : (2 : Int32).toInt = 2 := (by decide); have e3 : (3 : Int32).toInt = 3 := (by decide); have e4 : (4 : Int32).toInt = 4 := (by decide); have e5 : (0 : Int64).toInt = 0 := (by decide); first | decide | (unfold sp_back; (repeat' split) <;> first | rfl | (exfalso; omega))), rfl⟩
    ·
      refine s_bipush (v := (-2)) E dX9_back_9 (by decide) ?_
      exact r_int E dX9_back_11 ⟨(by have q0 := h_1; have q1 := h_2; (try simp only [lg_cmp_lt, lg_cmp_le, lg_cmp_ge, lg_cmp_gt] at q0 q1); (try simp only [Int32.lt_iff_toInt_lt, Int32.le_iff_toInt_le, Int64.lt_iff_toInt_lt, Int64.le_iff_toInt_le, ← Int32.toInt_inj, ← Int64.toInt_inj, Int32.toInt_toInt64] at q0 q1); have e0 : (0 : Int32).toInt = 0 := (by decide); have e1 : (1 : Int32).toInt = 1 := (by decide); have e2 : (2 : Int32).toInt = 2 := (by decide); have e3 : (3 : Int32).toInt = 3 := (by decide); have e4 : (4 : Int32).toInt = 4 := (by decide); have e5 : (0 : Int64).toInt = 0 := (by decide); (try simp only [e0, e1, e2, e3, e4, e5] at q0 q1); first | decide | (unfold sp_back; (repeat' split) <;> first | rfl | (exfalso; omega))), rfl⟩
set_option maxRecDepth 20000 in
set_option maxHeartbeats 2000000 in
theorem K_J7_fill_d0a16_r62_RMS (l : Launch) (D : va_G) (aC : Nat → ClassId) (b : Nat) (w : XW) (x1 : Int64) (hw0 : RfC w) (hw1 : FrM w) (hw2 : RfM w) : CnV l D aC b M_J7_fill_d0a16 0 0 0 0 [AR 62, AL x1] w (fun u => RfC u ∧ FrM u ∧ RfM u) := by
  refine cn_V (own := RJ7) (nm := "fill") (L0 := [some (AR 62), some (AL x1), none, none, none]) (by decide +kernel) rfl rfl (Nat.le_of_ble_eq_true rfl) rfl ?_
  intro p e s m args below meth c E hin
  refine s_iconst (v := 0) E dJ7_fill_d0a16_0 (by decide) ?_
  refine s_istore_n (L2 := [some (AR 62), some (AL x1), none, some (AI 0), none]) E dJ7_fill_d0a16_1 rfl (by decide) rfl ?_
  refine s_aload_n E dJ7_fill_d0a16_2 rfl rfl ?_
  refine s_alen (v := 60) E rfl (by decide) (ltn hw0.1 (by decide)) (by decide) dJ7_fill_d0a16_3 ?_
  refine s_istore (L2 := [some (AR 62), some (AL x1), none, some (AI 0), some (AI 60)]) E dJ7_fill_d0a16_4 (by decide) rfl ?_
  refine s_iload_n E dJ7_fill_d0a16_6 rfl rfl ?_
  refine s_iload E dJ7_fill_d0a16_7 rfl ?_
  refine s_icmp_ge (tgt := 22) E dJ7_fill_d0a16_9 (by decide) (fun hh => absurd hh (by decide)) (fun _ => ?_)
  refine s_aload_n E dJ7_fill_d0a16_12 rfl rfl ?_
  refine s_iload_n E dJ7_fill_d0a16_13 rfl rfl ?_
  refine s_lload_n E dJ7_fill_d0a16_14 rfl rfl ?_
  refine s_last E rfl (ltn hw0.1 (by decide)) (vp_c (by decide)) dJ7_fill_d0a16_15 ?_
  refine s_gen (P := fun v => RfC v ∧ FrM v ∧ RfM v) ⟨(fc_upL hw0), (fc_upL hw1), (fc_upL hw2)⟩ (fun g_1 hp => ?_)
  obtain ⟨hg_1_0, hg_1_1, hg_1_2⟩ := hp
  refine s_iinc (v := 1) (L2 := [some (AR 62), some (AL x1), none, some (AI 1), some (AI 60)]) E dJ7_fill_d0a16_16 rfl (by decide) (by decide) rfl ?_
  refine s_goto (tgt := 6) E dJ7_fill_d0a16_19 (by decide) ?_
  refine s_iload_n E dJ7_fill_d0a16_6 rfl rfl ?_
  refine s_iload E dJ7_fill_d0a16_7 rfl ?_
  refine s_icmp_ge (tgt := 22) E dJ7_fill_d0a16_9 (by decide) (fun hh => absurd hh (by decide)) (fun _ => ?_)
  refine s_aload_n E dJ7_fill_d0a16_12 rfl rfl ?_
  refine s_iload_n E dJ7_fill_d0a16_13 rfl rfl ?_
  refine s_lload_n E dJ7_fill_d0a16_14 rfl rfl ?_
  refine s_last E rfl (ltn hg_1_0.1 (by decide)) (vp_c (by decide)) dJ7_fill_d0a16_15 ?_
  refine s_gen (P := fun v => RfC v ∧ FrM v ∧ RfM v) ⟨(fc_upL hg_1_0), (fc_upL hg_1_1), (fc_upL hg_1_2)⟩ (fun g_2 hp => ?_)
  obtain ⟨hg_2_0, hg_2_1, hg_2_2⟩ := hp
  refine s_iinc (v := 2) (L2 := [some (AR 62), some (AL x1), none, some (AI 2), some (AI 60)]) E dJ7_fill_d0a16_16 rfl (by decide) (by decide) rfl ?_
  refine s_goto (tgt := 6) E dJ7_fill_d0a16_19 (by decide) ?_
  refine s_iload_n E dJ7_fill_d0a16_6 rfl rfl ?_
  refine s_iload E dJ7_fill_d0a16_7 rfl ?_
  refine s_icmp_ge (tgt := 22) E dJ7_fill_d0a16_9 (by decide) (fun hh => absurd hh (by decide)) (fun _ => ?_)
  refine s_aload_n E dJ7_fill_d0a16_12 rfl rfl ?_
  refine s_iload_n E dJ7_fill_d0a16_13 rfl rfl ?_
  refine s_lload_n E dJ7_fill_d0a16_14 rfl rfl ?_
  refine s_last E rfl (ltn hg_2_0.1 (by decide)) (vp_c (by decide)) dJ7_fill_d0a16_15 ?_
  refine s_gen (P := fun v => RfC v ∧ FrM v ∧ RfM v) ⟨(fc_upL hg_2_0), (fc_upL hg_2_1), (fc_upL hg_2_2)⟩ (fun g_3 hp => ?_)
  obtain ⟨hg_3_0, hg_3_1, hg_3_2⟩ := hp
  refine s_iinc (v := 3) (L2 := [some (AR 62), some (AL x1), none, some (AI 3), some (AI 60)]) E dJ7_fill_d0a16_16 rfl (by decide) (by decide) rfl ?_
  refine s_goto (tgt := 6) E dJ7_fill_d0a16_19 (by decide) ?_
  refine s_iload_n E dJ7_fill_d0a16_6 rfl rfl ?_
  refine s_iload E dJ7_fill_d0a16_7 rfl ?_
  refine s_icmp_ge (tgt := 22) E dJ7_fill_d0a16_9 (by decide) (fun hh => absurd hh (by decide)) (fun _ => ?_)
  refine s_aload_n E dJ7_fill_d0a16_12 rfl rfl ?_
  refine s_iload_n E dJ7_fill_d0a16_13 rfl rfl ?_
  refine s_lload_n E dJ7_fill_d0a16_14 rfl rfl ?_
  refine s_last E rfl (ltn hg_3_0.1 (by decide)) (vp_c (by decide)) dJ7_fill_d0a16_15 ?_
  refine s_gen (P := fun v => RfC v ∧ FrM v ∧ RfM v) ⟨(fc_upL hg_3_0), (fc_upL hg_3_1), (fc_upL hg_3_2)⟩ (fun g_4 hp => ?_)
  obtain ⟨hg_4_0, hg_4_1, hg_4_2⟩ := hp
  refine s_iinc (v := 4) (L2 := [some (AR 62), some (AL x1), none, some (AI 4), some (AI 60)]) E dJ7_fill_d0a16_16 rfl (by decide) (by decide) rfl ?_
  refine s_goto (tgt := 6) E dJ7_fill_d0a16_19 (by decide) ?_
  refine s_iload_n E dJ7_fill_d0a16_6 rfl rfl ?_
  refine s_iload E dJ7_fill_d0a16_7 rfl ?_
  refine s_icmp_ge (tgt := 22) E dJ7_fill_d0a16_9 (by decide) (fun hh => absurd hh (by decide)) (fun _ => ?_)
  refine s_aload_n E dJ7_fill_d0a16_12 rfl rfl ?_
  refine s_iload_n E dJ7_fill_d0a16_13 rfl rfl ?_
  refine s_lload_n E dJ7_fill_d0a16_14 rfl rfl ?_
  refine s_last E rfl (ltn hg_4_0.1 (by decide)) (vp_c (by decide)) dJ7_fill_d0a16_15 ?_
  refine s_gen (P := fun v => RfC v ∧ FrM v ∧ RfM v) ⟨(fc_upL hg_4_0), (fc_upL hg_4_1), (fc_upL hg_4_2)⟩ (fun g_5 hp => ?_)
  obtain ⟨hg_5_0, hg_5_1, hg_5_2⟩ := hp
  refine s_iinc (v := 5) (L2 := [some (AR 62), some (AL x1), none, some (AI 5), some (AI 60)]) E dJ7_fill_d0a16_16 rfl (by decide) (by decide) rfl ?_
  refine s_goto (tgt := 6) E dJ7_fill_d0a16_19 (by decide) ?_
  refine s_iload_n E dJ7_fill_d0a16_6 rfl rfl ?_
  refine s_iload E dJ7_fill_d0a16_7 rfl ?_
  refine s_icmp_ge (tgt := 22) E dJ7_fill_d0a16_9 (by decide) (fun hh => absurd hh (by decide)) (fun _ => ?_)
  refine s_aload_n E dJ7_fill_d0a16_12 rfl rfl ?_
  refine s_iload_n E dJ7_fill_d0a16_13 rfl rfl ?_
  refine s_lload_n E dJ7_fill_d0a16_14 rfl rfl ?_
  refine s_last E rfl (ltn hg_5_0.1 (by decide)) (vp_c (by decide)) dJ7_fill_d0a16_15 ?_
  refine s_gen (P := fun v => RfC v ∧ FrM v ∧ RfM v) ⟨(fc_upL hg_5_0), (fc_upL hg_5_1), (fc_upL hg_5_2)⟩ (fun g_6 hp => ?_)
  obtain ⟨hg_6_0, hg_6_1, hg_6_2⟩ := hp
  refine s_iinc (v := 6) (L2 := [some (AR 62), some (AL x1), none, some (AI 6), some (AI 60)]) E dJ7_fill_d0a16_16 rfl (by decide) (by decide) rfl ?_
  refine s_goto (tgt := 6) E dJ7_fill_d0a16_19 (by decide) ?_
  refine s_iload_n E dJ7_fill_d0a16_6 rfl rfl ?_
  refine s_iload E dJ7_fill_d0a16_7 rfl ?_
  refine s_icmp_ge (tgt := 22) E dJ7_fill_d0a16_9 (by decide) (fun hh => absurd hh (by decide)) (fun _ => ?_)
  refine s_aload_n E dJ7_fill_d0a16_12 rfl rfl ?_
  refine s_iload_n E dJ7_fill_d0a16_13 rfl rfl ?_
  refine s_lload_n E dJ7_fill_d0a16_14 rfl rfl ?_
  refine s_last E rfl (ltn hg_6_0.1 (by decide)) (vp_c (by decide)) dJ7_fill_d0a16_15 ?_
  refine s_gen (P := fun v => RfC v ∧ FrM v ∧ RfM v) ⟨(fc_upL hg_6_0), (fc_upL hg_6_1), (fc_upL hg_6_2)⟩ (fun g_7 hp => ?_)
  obtain ⟨hg_7_0, hg_7_1, hg_7_2⟩ := hp
  refine s_iinc (v := 7) (L2 := [some (AR 62), some (AL x1), none, some (AI 7), some (AI 60)]) E dJ7_fill_d0a16_16 rfl (by decide) (by decide) rfl ?_
  refine s_goto (tgt := 6) E dJ7_fill_d0a16_19 (by decide) ?_
  refine s_iload_n E dJ7_fill_d0a16_6 rfl rfl ?_
  refine s_iload E dJ7_fill_d0a16_7 rfl ?_
  refine s_icmp_ge (tgt := 22) E dJ7_fill_d0a16_9 (by decide) (fun hh => absurd hh (by decide)) (fun _ => ?_)
  refine s_aload_n E dJ7_fill_d0a16_12 rfl rfl ?_
  refine s_iload_n E dJ7_fill_d0a16_13 rfl rfl ?_
  refine s_lload_n E dJ7_fill_d0a16_14 rfl rfl ?_
  refine s_last E rfl (ltn hg_7_0.1 (by decide)) (vp_c (by decide)) dJ7_fill_d0a16_15 ?_
  refine s_gen (P := fun v => RfC v ∧ FrM v ∧ RfM v) ⟨(fc_upL hg_7_0), (fc_upL hg_7_1), (fc_upL hg_7_2)⟩ (fun g_8 hp => ?_)
  obtain ⟨hg_8_0, hg_8_1, hg_8_2⟩ := hp
  refine s_iinc (v := 8) (L2 := [some (AR 62), some (AL x1), none, some (AI 8), some (AI 60)]) E dJ7_fill_d0a16_16 rfl (by decide) (by decide) rfl ?_
  refine s_goto (tgt := 6) E dJ7_fill_d0a16_19 (by decide) ?_
  refine s_iload_n E dJ7_fill_d0a16_6 rfl rfl ?_
  refine s_iload E dJ7_fill_d0a16_7 rfl ?_
  refine s_icmp_ge (tgt := 22) E dJ7_fill_d0a16_9 (by decide) (fun hh => absurd hh (by decide)) (fun _ => ?_)
  refine s_aload_n E dJ7_fill_d0a16_12 rfl rfl ?_
  refine s_iload_n E dJ7_fill_d0a16_13 rfl rfl ?_
  refine s_lload_n E dJ7_fill_d0a16_14 rfl rfl ?_
  refine s_last E rfl (ltn hg_8_0.1 (by decide)) (vp_c (by decide)) dJ7_fill_d0a16_15 ?_
  refine s_gen (P := fun v => RfC v ∧ FrM v ∧ RfM v) ⟨(fc_upL hg_8_0), (fc_upL hg_8_1), (fc_upL hg_8_2)⟩ (fun g_9 hp => ?_)
  obtain ⟨hg_9_0, hg_9_1, hg_9_2⟩ := hp
  refine s_iinc (v := 9) (L2 := [some (AR 62), some (AL x1), none, some (AI 9), some (AI 60)]) E dJ7_fill_d0a16_16 rfl (by decide) (by decide) rfl ?_
  refine s_goto (tgt := 6) E dJ7_fill_d0a16_19 (by decide) ?_
  refine s_iload_n E dJ7_fill_d0a16_6 rfl rfl ?_
  refine s_iload E dJ7_fill_d0a16_7 rfl ?_
  refine s_icmp_ge (tgt := 22) E dJ7_fill_d0a16_9 (by decide) (fun hh => absurd hh (by decide)) (fun _ => ?_)
  refine s_aload_n E dJ7_fill_d0a16_12 rfl rfl ?_
  refine s_iload_n E dJ7_fill_d0a16_13 rfl rfl ?_
  refine s_lload_n E dJ7_fill_d0a16_14 rfl rfl ?_
  refine s_last E rfl (ltn hg_9_0.1 (by decide)) (vp_c (by decide)) dJ7_fill_d0a16_15 ?_
  refine s_gen (P := fun v => RfC v ∧ FrM v ∧ RfM v) ⟨(fc_upL hg_9_0), (fc_upL hg_9_1), (fc_upL hg_9_2)⟩ (fun g_10 hp => ?_)
  obtain ⟨hg_10_0, hg_10_1, hg_10_2⟩ := hp
  refine s_iinc (v := 10) (L2 := [some (AR 62), some (AL x1), none, some (AI 10), some (AI 60)]) E dJ7_fill_d0a16_16 rfl (by decide) (by decide) rfl ?_
  refine s_goto (tgt := 6) E dJ7_fill_d0a16_19 (by decide) ?_
  refine s_iload_n E dJ7_fill_d0a16_6 rfl rfl ?_
  refine s_iload E dJ7_fill_d0a16_7 rfl ?_
  refine s_icmp_ge (tgt := 22) E dJ7_fill_d0a16_9 (by decide) (fun hh => absurd hh (by decide)) (fun _ => ?_)
  refine s_aload_n E dJ7_fill_d0a16_12 rfl rfl ?_
  refine s_iload_n E dJ7_fill_d0a16_13 rfl rfl ?_
  refine s_lload_n E dJ7_fill_d0a16_14 rfl rfl ?_
  refine s_last E rfl (ltn hg_10_0.1 (by decide)) (vp_c (by decide)) dJ7_fill_d0a16_15 ?_
  refine s_gen (P := fun v => RfC v ∧ FrM v ∧ RfM v) ⟨(fc_upL hg_10_0), (fc_upL hg_10_1), (fc_upL hg_10_2)⟩ (fun g_11 hp => ?_)
  obtain ⟨hg_11_0, hg_11_1, hg_11_2⟩ := hp
  refine s_iinc (v := 11) (L2 := [some (AR 62), some (AL x1), none, some (AI 11), some (AI 60)]) E dJ7_fill_d0a16_16 rfl (by decide) (by decide) rfl ?_
  refine s_goto (tgt := 6) E dJ7_fill_d0a16_19 (by decide) ?_
  refine s_iload_n E dJ7_fill_d0a16_6 rfl rfl ?_
  refine s_iload E dJ7_fill_d0a16_7 rfl ?_
  refine s_icmp_ge (tgt := 22) E dJ7_fill_d0a16_9 (by decide) (fun hh => absurd hh (by decide)) (fun _ => ?_)
  refine s_aload_n E dJ7_fill_d0a16_12 rfl rfl ?_
  refine s_iload_n E dJ7_fill_d0a16_13 rfl rfl ?_
  refine s_lload_n E dJ7_fill_d0a16_14 rfl rfl ?_
  refine s_last E rfl (ltn hg_11_0.1 (by decide)) (vp_c (by decide)) dJ7_fill_d0a16_15 ?_
  refine s_gen (P := fun v => RfC v ∧ FrM v ∧ RfM v) ⟨(fc_upL hg_11_0), (fc_upL hg_11_1), (fc_upL hg_11_2)⟩ (fun g_12 hp => ?_)
  obtain ⟨hg_12_0, hg_12_1, hg_12_2⟩ := hp
  refine s_iinc (v := 12) (L2 := [some (AR 62), some (AL x1), none, some (AI 12), some (AI 60)]) E dJ7_fill_d0a16_16 rfl (by decide) (by decide) rfl ?_
  refine s_goto (tgt := 6) E dJ7_fill_d0a16_19 (by decide) ?_
  refine s_iload_n E dJ7_fill_d0a16_6 rfl rfl ?_
  refine s_iload E dJ7_fill_d0a16_7 rfl ?_
  refine s_icmp_ge (tgt := 22) E dJ7_fill_d0a16_9 (by decide) (fun hh => absurd hh (by decide)) (fun _ => ?_)
  refine s_aload_n E dJ7_fill_d0a16_12 rfl rfl ?_
  refine s_iload_n E dJ7_fill_d0a16_13 rfl rfl ?_
  refine s_lload_n E dJ7_fill_d0a16_14 rfl rfl ?_
  refine s_last E rfl (ltn hg_12_0.1 (by decide)) (vp_c (by decide)) dJ7_fill_d0a16_15 ?_
  refine s_gen (P := fun v => RfC v ∧ FrM v ∧ RfM v) ⟨(fc_upL hg_12_0), (fc_upL hg_12_1), (fc_upL hg_12_2)⟩ (fun g_13 hp => ?_)
  obtain ⟨hg_13_0, hg_13_1, hg_13_2⟩ := hp
  refine s_iinc (v := 13) (L2 := [some (AR 62), some (AL x1), none, some (AI 13), some (AI 60)]) E dJ7_fill_d0a16_16 rfl (by decide) (by decide) rfl ?_
  refine s_goto (tgt := 6) E dJ7_fill_d0a16_19 (by decide) ?_
  refine s_iload_n E dJ7_fill_d0a16_6 rfl rfl ?_
  refine s_iload E dJ7_fill_d0a16_7 rfl ?_
  refine s_icmp_ge (tgt := 22) E dJ7_fill_d0a16_9 (by decide) (fun hh => absurd hh (by decide)) (fun _ => ?_)
  refine s_aload_n E dJ7_fill_d0a16_12 rfl rfl ?_
  refine s_iload_n E dJ7_fill_d0a16_13 rfl rfl ?_
  refine s_lload_n E dJ7_fill_d0a16_14 rfl rfl ?_
  refine s_last E rfl (ltn hg_13_0.1 (by decide)) (vp_c (by decide)) dJ7_fill_d0a16_15 ?_
  refine s_gen (P := fun v => RfC v ∧ FrM v ∧ RfM v) ⟨(fc_upL hg_13_0), (fc_upL hg_13_1), (fc_upL hg_13_2)⟩ (fun g_14 hp => ?_)
  obtain ⟨hg_14_0, hg_14_1, hg_14_2⟩ := hp
  refine s_iinc (v := 14) (L2 := [some (AR 62), some (AL x1), none, some (AI 14), some (AI 60)]) E dJ7_fill_d0a16_16 rfl (by decide) (by decide) rfl ?_
  refine s_goto (tgt := 6) E dJ7_fill_d0a16_19 (by decide) ?_
  refine s_iload_n E dJ7_fill_d0a16_6 rfl rfl ?_
  refine s_iload E dJ7_fill_d0a16_7 rfl ?_
  refine s_icmp_ge (tgt := 22) E dJ7_fill_d0a16_9 (by decide) (fun hh => absurd hh (by decide)) (fun _ => ?_)
  refine s_aload_n E dJ7_fill_d0a16_12 rfl rfl ?_
  refine s_iload_n E dJ7_fill_d0a16_13 rfl rfl ?_
  refine s_lload_n E dJ7_fill_d0a16_14 rfl rfl ?_
  refine s_last E rfl (ltn hg_14_0.1 (by decide)) (vp_c (by decide)) dJ7_fill_d0a16_15 ?_
  refine s_gen (P := fun v => RfC v ∧ FrM v ∧ RfM v) ⟨(fc_upL hg_14_0), (fc_upL hg_14_1), (fc_upL hg_14_2)⟩ (fun g_15 hp => ?_)
  obtain ⟨hg_15_0, hg_15_1, hg_15_2⟩ := hp
  refine s_iinc (v := 15) (L2 := [some (AR 62), some (AL x1), none, some (AI 15), some (AI 60)]) E dJ7_fill_d0a16_16 rfl (by decide) (by decide) rfl ?_
  refine s_goto (tgt := 6) E dJ7_fill_d0a16_19 (by decide) ?_
  refine s_iload_n E dJ7_fill_d0a16_6 rfl rfl ?_
  refine s_iload E dJ7_fill_d0a16_7 rfl ?_
  refine s_icmp_ge (tgt := 22) E dJ7_fill_d0a16_9 (by decide) (fun hh => absurd hh (by decide)) (fun _ => ?_)
  refine s_aload_n E dJ7_fill_d0a16_12 rfl rfl ?_
  refine s_iload_n E dJ7_fill_d0a16_13 rfl rfl ?_
  refine s_lload_n E dJ7_fill_d0a16_14 rfl rfl ?_
  refine s_last E rfl (ltn hg_15_0.1 (by decide)) (vp_c (by decide)) dJ7_fill_d0a16_15 ?_
  refine s_gen (P := fun v => RfC v ∧ FrM v ∧ RfM v) ⟨(fc_upL hg_15_0), (fc_upL hg_15_1), (fc_upL hg_15_2)⟩ (fun g_16 hp => ?_)
  obtain ⟨hg_16_0, hg_16_1, hg_16_2⟩ := hp
  refine s_iinc (v := 16) (L2 := [some (AR 62), some (AL x1), none, some (AI 16), some (AI 60)]) E dJ7_fill_d0a16_16 rfl (by decide) (by decide) rfl ?_
  refine s_goto (tgt := 6) E dJ7_fill_d0a16_19 (by decide) ?_
  refine s_iload_n E dJ7_fill_d0a16_6 rfl rfl ?_
  refine s_iload E dJ7_fill_d0a16_7 rfl ?_
  refine s_icmp_ge (tgt := 22) E dJ7_fill_d0a16_9 (by decide) (fun hh => absurd hh (by decide)) (fun _ => ?_)
  refine s_aload_n E dJ7_fill_d0a16_12 rfl rfl ?_
  refine s_iload_n E dJ7_fill_d0a16_13 rfl rfl ?_
  refine s_lload_n E dJ7_fill_d0a16_14 rfl rfl ?_
  refine s_last E rfl (ltn hg_16_0.1 (by decide)) (vp_c (by decide)) dJ7_fill_d0a16_15 ?_
  refine s_gen (P := fun v => RfC v ∧ FrM v ∧ RfM v) ⟨(fc_upL hg_16_0), (fc_upL hg_16_1), (fc_upL hg_16_2)⟩ (fun g_17 hp => ?_)
  obtain ⟨hg_17_0, hg_17_1, hg_17_2⟩ := hp
  refine s_iinc (v := 17) (L2 := [some (AR 62), some (AL x1), none, some (AI 17), some (AI 60)]) E dJ7_fill_d0a16_16 rfl (by decide) (by decide) rfl ?_
  refine s_goto (tgt := 6) E dJ7_fill_d0a16_19 (by decide) ?_
  refine s_iload_n E dJ7_fill_d0a16_6 rfl rfl ?_
  refine s_iload E dJ7_fill_d0a16_7 rfl ?_
  refine s_icmp_ge (tgt := 22) E dJ7_fill_d0a16_9 (by decide) (fun hh => absurd hh (by decide)) (fun _ => ?_)
  refine s_aload_n E dJ7_fill_d0a16_12 rfl rfl ?_
  refine s_iload_n E dJ7_fill_d0a16_13 rfl rfl ?_
  refine s_lload_n E dJ7_fill_d0a16_14 rfl rfl ?_
  refine s_last E rfl (ltn hg_17_0.1 (by decide)) (vp_c (by decide)) dJ7_fill_d0a16_15 ?_
  refine s_gen (P := fun v => RfC v ∧ FrM v ∧ RfM v) ⟨(fc_upL hg_17_0), (fc_upL hg_17_1), (fc_upL hg_17_2)⟩ (fun g_18 hp => ?_)
  obtain ⟨hg_18_0, hg_18_1, hg_18_2⟩ := hp
  refine s_iinc (v := 18) (L2 := [some (AR 62), some (AL x1), none, some (AI 18), some (AI 60)]) E dJ7_fill_d0a16_16 rfl (by decide) (by decide) rfl ?_
  refine s_goto (tgt := 6) E dJ7_fill_d0a16_19 (by decide) ?_
  refine s_iload_n E dJ7_fill_d0a16_6 rfl rfl ?_
  refine s_iload E dJ7_fill_d0a16_7 rfl ?_
  refine s_icmp_ge (tgt := 22) E dJ7_fill_d0a16_9 (by decide) (fun hh => absurd hh (by decide)) (fun _ => ?_)
  refine s_aload_n E dJ7_fill_d0a16_12 rfl rfl ?_
  refine s_iload_n E dJ7_fill_d0a16_13 rfl rfl ?_
  refine s_lload_n E dJ7_fill_d0a16_14 rfl rfl ?_
  refine s_last E rfl (ltn hg_18_0.1 (by decide)) (vp_c (by decide)) dJ7_fill_d0a16_15 ?_
  refine s_gen (P := fun v => RfC v ∧ FrM v ∧ RfM v) ⟨(fc_upL hg_18_0), (fc_upL hg_18_1), (fc_upL hg_18_2)⟩ (fun g_19 hp => ?_)
  obtain ⟨hg_19_0, hg_19_1, hg_19_2⟩ := hp
  refine s_iinc (v := 19) (L2 := [some (AR 62), some (AL x1), none, some (AI 19), some (AI 60)]) E dJ7_fill_d0a16_16 rfl (by decide) (by decide) rfl ?_
  refine s_goto (tgt := 6) E dJ7_fill_d0a16_19 (by decide) ?_
  refine s_iload_n E dJ7_fill_d0a16_6 rfl rfl ?_
  refine s_iload E dJ7_fill_d0a16_7 rfl ?_
  refine s_icmp_ge (tgt := 22) E dJ7_fill_d0a16_9 (by decide) (fun hh => absurd hh (by decide)) (fun _ => ?_)
  refine s_aload_n E dJ7_fill_d0a16_12 rfl rfl ?_
  refine s_iload_n E dJ7_fill_d0a16_13 rfl rfl ?_
  refine s_lload_n E dJ7_fill_d0a16_14 rfl rfl ?_
  refine s_last E rfl (ltn hg_19_0.1 (by decide)) (vp_c (by decide)) dJ7_fill_d0a16_15 ?_
  refine s_gen (P := fun v => RfC v ∧ FrM v ∧ RfM v) ⟨(fc_upL hg_19_0), (fc_upL hg_19_1), (fc_upL hg_19_2)⟩ (fun g_20 hp => ?_)
  obtain ⟨hg_20_0, hg_20_1, hg_20_2⟩ := hp
  refine s_iinc (v := 20) (L2 := [some (AR 62), some (AL x1), none, some (AI 20), some (AI 60)]) E dJ7_fill_d0a16_16 rfl (by decide) (by decide) rfl ?_
  refine s_goto (tgt := 6) E dJ7_fill_d0a16_19 (by decide) ?_
  refine s_iload_n E dJ7_fill_d0a16_6 rfl rfl ?_
  refine s_iload E dJ7_fill_d0a16_7 rfl ?_
  refine s_icmp_ge (tgt := 22) E dJ7_fill_d0a16_9 (by decide) (fun hh => absurd hh (by decide)) (fun _ => ?_)
  refine s_aload_n E dJ7_fill_d0a16_12 rfl rfl ?_
  refine s_iload_n E dJ7_fill_d0a16_13 rfl rfl ?_
  refine s_lload_n E dJ7_fill_d0a16_14 rfl rfl ?_
  refine s_last E rfl (ltn hg_20_0.1 (by decide)) (vp_c (by decide)) dJ7_fill_d0a16_15 ?_
  refine s_gen (P := fun v => RfC v ∧ FrM v ∧ RfM v) ⟨(fc_upL hg_20_0), (fc_upL hg_20_1), (fc_upL hg_20_2)⟩ (fun g_21 hp => ?_)
  obtain ⟨hg_21_0, hg_21_1, hg_21_2⟩ := hp
  refine s_iinc (v := 21) (L2 := [some (AR 62), some (AL x1), none, some (AI 21), some (AI 60)]) E dJ7_fill_d0a16_16 rfl (by decide) (by decide) rfl ?_
  refine s_goto (tgt := 6) E dJ7_fill_d0a16_19 (by decide) ?_
  refine s_iload_n E dJ7_fill_d0a16_6 rfl rfl ?_
  refine s_iload E dJ7_fill_d0a16_7 rfl ?_
  refine s_icmp_ge (tgt := 22) E dJ7_fill_d0a16_9 (by decide) (fun hh => absurd hh (by decide)) (fun _ => ?_)
  refine s_aload_n E dJ7_fill_d0a16_12 rfl rfl ?_
  refine s_iload_n E dJ7_fill_d0a16_13 rfl rfl ?_
  refine s_lload_n E dJ7_fill_d0a16_14 rfl rfl ?_
  refine s_last E rfl (ltn hg_21_0.1 (by decide)) (vp_c (by decide)) dJ7_fill_d0a16_15 ?_
  refine s_gen (P := fun v => RfC v ∧ FrM v ∧ RfM v) ⟨(fc_upL hg_21_0), (fc_upL hg_21_1), (fc_upL hg_21_2)⟩ (fun g_22 hp => ?_)
  obtain ⟨hg_22_0, hg_22_1, hg_22_2⟩ := hp
  refine s_iinc (v := 22) (L2 := [some (AR 62), some (AL x1), none, some (AI 22), some (AI 60)]) E dJ7_fill_d0a16_16 rfl (by decide) (by decide) rfl ?_
  refine s_goto (tgt := 6) E dJ7_fill_d0a16_19 (by decide) ?_
  refine s_iload_n E dJ7_fill_d0a16_6 rfl rfl ?_
  refine s_iload E dJ7_fill_d0a16_7 rfl ?_
  refine s_icmp_ge (tgt := 22) E dJ7_fill_d0a16_9 (by decide) (fun hh => absurd hh (by decide)) (fun _ => ?_)
  refine s_aload_n E dJ7_fill_d0a16_12 rfl rfl ?_
  refine s_iload_n E dJ7_fill_d0a16_13 rfl rfl ?_
  refine s_lload_n E dJ7_fill_d0a16_14 rfl rfl ?_
  refine s_last E rfl (ltn hg_22_0.1 (by decide)) (vp_c (by decide)) dJ7_fill_d0a16_15 ?_
  refine s_gen (P := fun v => RfC v ∧ FrM v ∧ RfM v) ⟨(fc_upL hg_22_0), (fc_upL hg_22_1), (fc_upL hg_22_2)⟩ (fun g_23 hp => ?_)
  obtain ⟨hg_23_0, hg_23_1, hg_23_2⟩ := hp
  refine s_iinc (v := 23) (L2 := [some (AR 62), some (AL x1), none, some (AI 23), some (AI 60)]) E dJ7_fill_d0a16_16 rfl (by decide) (by decide) rfl ?_
  refine s_goto (tgt := 6) E dJ7_fill_d0a16_19 (by decide) ?_
  refine s_iload_n E dJ7_fill_d0a16_6 rfl rfl ?_
  refine s_iload E dJ7_fill_d0a16_7 rfl ?_
  refine s_icmp_ge (tgt := 22) E dJ7_fill_d0a16_9 (by decide) (fun hh => absurd hh (by decide)) (fun _ => ?_)
  refine s_aload_n E dJ7_fill_d0a16_12 rfl rfl ?_
  refine s_iload_n E dJ7_fill_d0a16_13 rfl rfl ?_
  refine s_lload_n E dJ7_fill_d0a16_14 rfl rfl ?_
  refine s_last E rfl (ltn hg_23_0.1 (by decide)) (vp_c (by decide)) dJ7_fill_d0a16_15 ?_
  refine s_gen (P := fun v => RfC v ∧ FrM v ∧ RfM v) ⟨(fc_upL hg_23_0), (fc_upL hg_23_1), (fc_upL hg_23_2)⟩ (fun g_24 hp => ?_)
  obtain ⟨hg_24_0, hg_24_1, hg_24_2⟩ := hp
  refine s_iinc (v := 24) (L2 := [some (AR 62), some (AL x1), none, some (AI 24), some (AI 60)]) E dJ7_fill_d0a16_16 rfl (by decide) (by decide) rfl ?_
  refine s_goto (tgt := 6) E dJ7_fill_d0a16_19 (by decide) ?_
  refine s_iload_n E dJ7_fill_d0a16_6 rfl rfl ?_
  refine s_iload E dJ7_fill_d0a16_7 rfl ?_
  refine s_icmp_ge (tgt := 22) E dJ7_fill_d0a16_9 (by decide) (fun hh => absurd hh (by decide)) (fun _ => ?_)
  refine s_aload_n E dJ7_fill_d0a16_12 rfl rfl ?_
  refine s_iload_n E dJ7_fill_d0a16_13 rfl rfl ?_
  refine s_lload_n E dJ7_fill_d0a16_14 rfl rfl ?_
  refine s_last E rfl (ltn hg_24_0.1 (by decide)) (vp_c (by decide)) dJ7_fill_d0a16_15 ?_
  refine s_gen (P := fun v => RfC v ∧ FrM v ∧ RfM v) ⟨(fc_upL hg_24_0), (fc_upL hg_24_1), (fc_upL hg_24_2)⟩ (fun g_25 hp => ?_)
  obtain ⟨hg_25_0, hg_25_1, hg_25_2⟩ := hp
  refine s_iinc (v := 25) (L2 := [some (AR 62), some (AL x1), none, some (AI 25), some (AI 60)]) E dJ7_fill_d0a16_16 rfl (by decide) (by decide) rfl ?_
  refine s_goto (tgt := 6) E dJ7_fill_d0a16_19 (by decide) ?_
  refine s_iload_n E dJ7_fill_d0a16_6 rfl rfl ?_
  refine s_iload E dJ7_fill_d0a16_7 rfl ?_
  refine s_icmp_ge (tgt := 22) E dJ7_fill_d0a16_9 (by decide) (fun hh => absurd hh (by decide)) (fun _ => ?_)
  refine s_aload_n E dJ7_fill_d0a16_12 rfl rfl ?_
  refine s_iload_n E dJ7_fill_d0a16_13 rfl rfl ?_
  refine s_lload_n E dJ7_fill_d0a16_14 rfl rfl ?_
  refine s_last E rfl (ltn hg_25_0.1 (by decide)) (vp_c (by decide)) dJ7_fill_d0a16_15 ?_
  refine s_gen (P := fun v => RfC v ∧ FrM v ∧ RfM v) ⟨(fc_upL hg_25_0), (fc_upL hg_25_1), (fc_upL hg_25_2)⟩ (fun g_26 hp => ?_)
  obtain ⟨hg_26_0, hg_26_1, hg_26_2⟩ := hp
  refine s_iinc (v := 26) (L2 := [some (AR 62), some (AL x1), none, some (AI 26), some (AI 60)]) E dJ7_fill_d0a16_16 rfl (by decide) (by decide) rfl ?_
  refine s_goto (tgt := 6) E dJ7_fill_d0a16_19 (by decide) ?_
  refine s_iload_n E dJ7_fill_d0a16_6 rfl rfl ?_
  refine s_iload E dJ7_fill_d0a16_7 rfl ?_
  refine s_icmp_ge (tgt := 22) E dJ7_fill_d0a16_9 (by decide) (fun hh => absurd hh (by decide)) (fun _ => ?_)
  refine s_aload_n E dJ7_fill_d0a16_12 rfl rfl ?_
  refine s_iload_n E dJ7_fill_d0a16_13 rfl rfl ?_
  refine s_lload_n E dJ7_fill_d0a16_14 rfl rfl ?_
  refine s_last E rfl (ltn hg_26_0.1 (by decide)) (vp_c (by decide)) dJ7_fill_d0a16_15 ?_
  refine s_gen (P := fun v => RfC v ∧ FrM v ∧ RfM v) ⟨(fc_upL hg_26_0), (fc_upL hg_26_1), (fc_upL hg_26_2)⟩ (fun g_27 hp => ?_)
  obtain ⟨hg_27_0, hg_27_1, hg_27_2⟩ := hp
  refine s_iinc (v := 27) (L2 := [some (AR 62), some (AL x1), none, some (AI 27), some (AI 60)]) E dJ7_fill_d0a16_16 rfl (by decide) (by decide) rfl ?_
  refine s_goto (tgt := 6) E dJ7_fill_d0a16_19 (by decide) ?_
  refine s_iload_n E dJ7_fill_d0a16_6 rfl rfl ?_
  refine s_iload E dJ7_fill_d0a16_7 rfl ?_
  refine s_icmp_ge (tgt := 22) E dJ7_fill_d0a16_9 (by decide) (fun hh => absurd hh (by decide)) (fun _ => ?_)
  refine s_aload_n E dJ7_fill_d0a16_12 rfl rfl ?_
  refine s_iload_n E dJ7_fill_d0a16_13 rfl rfl ?_
  refine s_lload_n E dJ7_fill_d0a16_14 rfl rfl ?_
  refine s_last E rfl (ltn hg_27_0.1 (by decide)) (vp_c (by decide)) dJ7_fill_d0a16_15 ?_
  refine s_gen (P := fun v => RfC v ∧ FrM v ∧ RfM v) ⟨(fc_upL hg_27_0), (fc_upL hg_27_1), (fc_upL hg_27_2)⟩ (fun g_28 hp => ?_)
  obtain ⟨hg_28_0, hg_28_1, hg_28_2⟩ := hp
  refine s_iinc (v := 28) (L2 := [some (AR 62), some (AL x1), none, some (AI 28), some (AI 60)]) E dJ7_fill_d0a16_16 rfl (by decide) (by decide) rfl ?_
  refine s_goto (tgt := 6) E dJ7_fill_d0a16_19 (by decide) ?_
  refine s_iload_n E dJ7_fill_d0a16_6 rfl rfl ?_
  refine s_iload E dJ7_fill_d0a16_7 rfl ?_
  refine s_icmp_ge (tgt := 22) E dJ7_fill_d0a16_9 (by decide) (fun hh => absurd hh (by decide)) (fun _ => ?_)
  refine s_aload_n E dJ7_fill_d0a16_12 rfl rfl ?_
  refine s_iload_n E dJ7_fill_d0a16_13 rfl rfl ?_
  refine s_lload_n E dJ7_fill_d0a16_14 rfl rfl ?_
  refine s_last E rfl (ltn hg_28_0.1 (by decide)) (vp_c (by decide)) dJ7_fill_d0a16_15 ?_
  refine s_gen (P := fun v => RfC v ∧ FrM v ∧ RfM v) ⟨(fc_upL hg_28_0), (fc_upL hg_28_1), (fc_upL hg_28_2)⟩ (fun g_29 hp => ?_)
  obtain ⟨hg_29_0, hg_29_1, hg_29_2⟩ := hp
  refine s_iinc (v := 29) (L2 := [some (AR 62), some (AL x1), none, some (AI 29), some (AI 60)]) E dJ7_fill_d0a16_16 rfl (by decide) (by decide) rfl ?_
  refine s_goto (tgt := 6) E dJ7_fill_d0a16_19 (by decide) ?_
  refine s_iload_n E dJ7_fill_d0a16_6 rfl rfl ?_
  refine s_iload E dJ7_fill_d0a16_7 rfl ?_
  refine s_icmp_ge (tgt := 22) E dJ7_fill_d0a16_9 (by decide) (fun hh => absurd hh (by decide)) (fun _ => ?_)
  refine s_aload_n E dJ7_fill_d0a16_12 rfl rfl ?_
  refine s_iload_n E dJ7_fill_d0a16_13 rfl rfl ?_
  refine s_lload_n E dJ7_fill_d0a16_14 rfl rfl ?_
  refine s_last E rfl (ltn hg_29_0.1 (by decide)) (vp_c (by decide)) dJ7_fill_d0a16_15 ?_
  refine s_gen (P := fun v => RfC v ∧ FrM v ∧ RfM v) ⟨(fc_upL hg_29_0), (fc_upL hg_29_1), (fc_upL hg_29_2)⟩ (fun g_30 hp => ?_)
  obtain ⟨hg_30_0, hg_30_1, hg_30_2⟩ := hp
  refine s_iinc (v := 30) (L2 := [some (AR 62), some (AL x1), none, some (AI 30), some (AI 60)]) E dJ7_fill_d0a16_16 rfl (by decide) (by decide) rfl ?_
  refine s_goto (tgt := 6) E dJ7_fill_d0a16_19 (by decide) ?_
  refine s_iload_n E dJ7_fill_d0a16_6 rfl rfl ?_
  refine s_iload E dJ7_fill_d0a16_7 rfl ?_
  refine s_icmp_ge (tgt := 22) E dJ7_fill_d0a16_9 (by decide) (fun hh => absurd hh (by decide)) (fun _ => ?_)
  refine s_aload_n E dJ7_fill_d0a16_12 rfl rfl ?_
  refine s_iload_n E dJ7_fill_d0a16_13 rfl rfl ?_
  refine s_lload_n E dJ7_fill_d0a16_14 rfl rfl ?_
  refine s_last E rfl (ltn hg_30_0.1 (by decide)) (vp_c (by decide)) dJ7_fill_d0a16_15 ?_
  refine s_gen (P := fun v => RfC v ∧ FrM v ∧ RfM v) ⟨(fc_upL hg_30_0), (fc_upL hg_30_1), (fc_upL hg_30_2)⟩ (fun g_31 hp => ?_)
  obtain ⟨hg_31_0, hg_31_1, hg_31_2⟩ := hp
  refine s_iinc (v := 31) (L2 := [some (AR 62), some (AL x1), none, some (AI 31), some (AI 60)]) E dJ7_fill_d0a16_16 rfl (by decide) (by decide) rfl ?_
  refine s_goto (tgt := 6) E dJ7_fill_d0a16_19 (by decide) ?_
  refine s_iload_n E dJ7_fill_d0a16_6 rfl rfl ?_
  refine s_iload E dJ7_fill_d0a16_7 rfl ?_
  refine s_icmp_ge (tgt := 22) E dJ7_fill_d0a16_9 (by decide) (fun hh => absurd hh (by decide)) (fun _ => ?_)
  refine s_aload_n E dJ7_fill_d0a16_12 rfl rfl ?_
  refine s_iload_n E dJ7_fill_d0a16_13 rfl rfl ?_
  refine s_lload_n E dJ7_fill_d0a16_14 rfl rfl ?_
  refine s_last E rfl (ltn hg_31_0.1 (by decide)) (vp_c (by decide)) dJ7_fill_d0a16_15 ?_
  refine s_gen (P := fun v => RfC v ∧ FrM v ∧ RfM v) ⟨(fc_upL hg_31_0), (fc_upL hg_31_1), (fc_upL hg_31_2)⟩ (fun g_32 hp => ?_)
  obtain ⟨hg_32_0, hg_32_1, hg_32_2⟩ := hp
  refine s_iinc (v := 32) (L2 := [some (AR 62), some (AL x1), none, some (AI 32), some (AI 60)]) E dJ7_fill_d0a16_16 rfl (by decide) (by decide) rfl ?_
  refine s_goto (tgt := 6) E dJ7_fill_d0a16_19 (by decide) ?_
  refine s_iload_n E dJ7_fill_d0a16_6 rfl rfl ?_
  refine s_iload E dJ7_fill_d0a16_7 rfl ?_
  refine s_icmp_ge (tgt := 22) E dJ7_fill_d0a16_9 (by decide) (fun hh => absurd hh (by decide)) (fun _ => ?_)
  refine s_aload_n E dJ7_fill_d0a16_12 rfl rfl ?_
  refine s_iload_n E dJ7_fill_d0a16_13 rfl rfl ?_
  refine s_lload_n E dJ7_fill_d0a16_14 rfl rfl ?_
  refine s_last E rfl (ltn hg_32_0.1 (by decide)) (vp_c (by decide)) dJ7_fill_d0a16_15 ?_
  refine s_gen (P := fun v => RfC v ∧ FrM v ∧ RfM v) ⟨(fc_upL hg_32_0), (fc_upL hg_32_1), (fc_upL hg_32_2)⟩ (fun g_33 hp => ?_)
  obtain ⟨hg_33_0, hg_33_1, hg_33_2⟩ := hp
  refine s_iinc (v := 33) (L2 := [some (AR 62), some (AL x1), none, some (AI 33), some (AI 60)]) E dJ7_fill_d0a16_16 rfl (by decide) (by decide) rfl ?_
  refine s_goto (tgt := 6) E dJ7_fill_d0a16_19 (by decide) ?_
  refine s_iload_n E dJ7_fill_d0a16_6 rfl rfl ?_
  refine s_iload E dJ7_fill_d0a16_7 rfl ?_
  refine s_icmp_ge (tgt := 22) E dJ7_fill_d0a16_9 (by decide) (fun hh => absurd hh (by decide)) (fun _ => ?_)
  refine s_aload_n E dJ7_fill_d0a16_12 rfl rfl ?_
  refine s_iload_n E dJ7_fill_d0a16_13 rfl rfl ?_
  refine s_lload_n E dJ7_fill_d0a16_14 rfl rfl ?_
  refine s_last E rfl (ltn hg_33_0.1 (by decide)) (vp_c (by decide)) dJ7_fill_d0a16_15 ?_
  refine s_gen (P := fun v => RfC v ∧ FrM v ∧ RfM v) ⟨(fc_upL hg_33_0), (fc_upL hg_33_1), (fc_upL hg_33_2)⟩ (fun g_34 hp => ?_)
  obtain ⟨hg_34_0, hg_34_1, hg_34_2⟩ := hp
  refine s_iinc (v := 34) (L2 := [some (AR 62), some (AL x1), none, some (AI 34), some (AI 60)]) E dJ7_fill_d0a16_16 rfl (by decide) (by decide) rfl ?_
  refine s_goto (tgt := 6) E dJ7_fill_d0a16_19 (by decide) ?_
  refine s_iload_n E dJ7_fill_d0a16_6 rfl rfl ?_
  refine s_iload E dJ7_fill_d0a16_7 rfl ?_
  refine s_icmp_ge (tgt := 22) E dJ7_fill_d0a16_9 (by decide) (fun hh => absurd hh (by decide)) (fun _ => ?_)
  refine s_aload_n E dJ7_fill_d0a16_12 rfl rfl ?_
  refine s_iload_n E dJ7_fill_d0a16_13 rfl rfl ?_
  refine s_lload_n E dJ7_fill_d0a16_14 rfl rfl ?_
  refine s_last E rfl (ltn hg_34_0.1 (by decide)) (vp_c (by decide)) dJ7_fill_d0a16_15 ?_
  refine s_gen (P := fun v => RfC v ∧ FrM v ∧ RfM v) ⟨(fc_upL hg_34_0), (fc_upL hg_34_1), (fc_upL hg_34_2)⟩ (fun g_35 hp => ?_)
  obtain ⟨hg_35_0, hg_35_1, hg_35_2⟩ := hp
  refine s_iinc (v := 35) (L2 := [some (AR 62), some (AL x1), none, some (AI 35), some (AI 60)]) E dJ7_fill_d0a16_16 rfl (by decide) (by decide) rfl ?_
  refine s_goto (tgt := 6) E dJ7_fill_d0a16_19 (by decide) ?_
  refine s_iload_n E dJ7_fill_d0a16_6 rfl rfl ?_
  refine s_iload E dJ7_fill_d0a16_7 rfl ?_
  refine s_icmp_ge (tgt := 22) E dJ7_fill_d0a16_9 (by decide) (fun hh => absurd hh (by decide)) (fun _ => ?_)
  refine s_aload_n E dJ7_fill_d0a16_12 rfl rfl ?_
  refine s_iload_n E dJ7_fill_d0a16_13 rfl rfl ?_
  refine s_lload_n E dJ7_fill_d0a16_14 rfl rfl ?_
  refine s_last E rfl (ltn hg_35_0.1 (by decide)) (vp_c (by decide)) dJ7_fill_d0a16_15 ?_
  refine s_gen (P := fun v => RfC v ∧ FrM v ∧ RfM v) ⟨(fc_upL hg_35_0), (fc_upL hg_35_1), (fc_upL hg_35_2)⟩ (fun g_36 hp => ?_)
  obtain ⟨hg_36_0, hg_36_1, hg_36_2⟩ := hp
  refine s_iinc (v := 36) (L2 := [some (AR 62), some (AL x1), none, some (AI 36), some (AI 60)]) E dJ7_fill_d0a16_16 rfl (by decide) (by decide) rfl ?_
  refine s_goto (tgt := 6) E dJ7_fill_d0a16_19 (by decide) ?_
  refine s_iload_n E dJ7_fill_d0a16_6 rfl rfl ?_
  refine s_iload E dJ7_fill_d0a16_7 rfl ?_
  refine s_icmp_ge (tgt := 22) E dJ7_fill_d0a16_9 (by decide) (fun hh => absurd hh (by decide)) (fun _ => ?_)
  refine s_aload_n E dJ7_fill_d0a16_12 rfl rfl ?_
  refine s_iload_n E dJ7_fill_d0a16_13 rfl rfl ?_
  refine s_lload_n E dJ7_fill_d0a16_14 rfl rfl ?_
  refine s_last E rfl (ltn hg_36_0.1 (by decide)) (vp_c (by decide)) dJ7_fill_d0a16_15 ?_
  refine s_gen (P := fun v => RfC v ∧ FrM v ∧ RfM v) ⟨(fc_upL hg_36_0), (fc_upL hg_36_1), (fc_upL hg_36_2)⟩ (fun g_37 hp => ?_)
  obtain ⟨hg_37_0, hg_37_1, hg_37_2⟩ := hp
  refine s_iinc (v := 37) (L2 := [some (AR 62), some (AL x1), none, some (AI 37), some (AI 60)]) E dJ7_fill_d0a16_16 rfl (by decide) (by decide) rfl ?_
  refine s_goto (tgt := 6) E dJ7_fill_d0a16_19 (by decide) ?_
  refine s_iload_n E dJ7_fill_d0a16_6 rfl rfl ?_
  refine s_iload E dJ7_fill_d0a16_7 rfl ?_
  refine s_icmp_ge (tgt := 22) E dJ7_fill_d0a16_9 (by decide) (fun hh => absurd hh (by decide)) (fun _ => ?_)
  refine s_aload_n E dJ7_fill_d0a16_12 rfl rfl ?_
  refine s_iload_n E dJ7_fill_d0a16_13 rfl rfl ?_
  refine s_lload_n E dJ7_fill_d0a16_14 rfl rfl ?_
  refine s_last E rfl (ltn hg_37_0.1 (by decide)) (vp_c (by decide)) dJ7_fill_d0a16_15 ?_
  refine s_gen (P := fun v => RfC v ∧ FrM v ∧ RfM v) ⟨(fc_upL hg_37_0), (fc_upL hg_37_1), (fc_upL hg_37_2)⟩ (fun g_38 hp => ?_)
  obtain ⟨hg_38_0, hg_38_1, hg_38_2⟩ := hp
  refine s_iinc (v := 38) (L2 := [some (AR 62), some (AL x1), none, some (AI 38), some (AI 60)]) E dJ7_fill_d0a16_16 rfl (by decide) (by decide) rfl ?_
  refine s_goto (tgt := 6) E dJ7_fill_d0a16_19 (by decide) ?_
  refine s_iload_n E dJ7_fill_d0a16_6 rfl rfl ?_
  refine s_iload E dJ7_fill_d0a16_7 rfl ?_
  refine s_icmp_ge (tgt := 22) E dJ7_fill_d0a16_9 (by decide) (fun hh => absurd hh (by decide)) (fun _ => ?_)
  refine s_aload_n E dJ7_fill_d0a16_12 rfl rfl ?_
  refine s_iload_n E dJ7_fill_d0a16_13 rfl rfl ?_
  refine s_lload_n E dJ7_fill_d0a16_14 rfl rfl ?_
  refine s_last E rfl (ltn hg_38_0.1 (by decide)) (vp_c (by decide)) dJ7_fill_d0a16_15 ?_
  refine s_gen (P := fun v => RfC v ∧ FrM v ∧ RfM v) ⟨(fc_upL hg_38_0), (fc_upL hg_38_1), (fc_upL hg_38_2)⟩ (fun g_39 hp => ?_)
  obtain ⟨hg_39_0, hg_39_1, hg_39_2⟩ := hp
  refine s_iinc (v := 39) (L2 := [some (AR 62), some (AL x1), none, some (AI 39), some (AI 60)]) E dJ7_fill_d0a16_16 rfl (by decide) (by decide) rfl ?_
  refine s_goto (tgt := 6) E dJ7_fill_d0a16_19 (by decide) ?_
  refine s_iload_n E dJ7_fill_d0a16_6 rfl rfl ?_
  refine s_iload E dJ7_fill_d0a16_7 rfl ?_
  refine s_icmp_ge (tgt := 22) E dJ7_fill_d0a16_9 (by decide) (fun hh => absurd hh (by decide)) (fun _ => ?_)
  refine s_aload_n E dJ7_fill_d0a16_12 rfl rfl ?_
  refine s_iload_n E dJ7_fill_d0a16_13 rfl rfl ?_
  refine s_lload_n E dJ7_fill_d0a16_14 rfl rfl ?_
  refine s_last E rfl (ltn hg_39_0.1 (by decide)) (vp_c (by decide)) dJ7_fill_d0a16_15 ?_
  refine s_gen (P := fun v => RfC v ∧ FrM v ∧ RfM v) ⟨(fc_upL hg_39_0), (fc_upL hg_39_1), (fc_upL hg_39_2)⟩ (fun g_40 hp => ?_)
  obtain ⟨hg_40_0, hg_40_1, hg_40_2⟩ := hp
  refine s_iinc (v := 40) (L2 := [some (AR 62), some (AL x1), none, some (AI 40), some (AI 60)]) E dJ7_fill_d0a16_16 rfl (by decide) (by decide) rfl ?_
  refine s_goto (tgt := 6) E dJ7_fill_d0a16_19 (by decide) ?_
  refine s_iload_n E dJ7_fill_d0a16_6 rfl rfl ?_
  refine s_iload E dJ7_fill_d0a16_7 rfl ?_
  refine s_icmp_ge (tgt := 22) E dJ7_fill_d0a16_9 (by decide) (fun hh => absurd hh (by decide)) (fun _ => ?_)
  refine s_aload_n E dJ7_fill_d0a16_12 rfl rfl ?_
  refine s_iload_n E dJ7_fill_d0a16_13 rfl rfl ?_
  refine s_lload_n E dJ7_fill_d0a16_14 rfl rfl ?_
  refine s_last E rfl (ltn hg_40_0.1 (by decide)) (vp_c (by decide)) dJ7_fill_d0a16_15 ?_
  refine s_gen (P := fun v => RfC v ∧ FrM v ∧ RfM v) ⟨(fc_upL hg_40_0), (fc_upL hg_40_1), (fc_upL hg_40_2)⟩ (fun g_41 hp => ?_)
  obtain ⟨hg_41_0, hg_41_1, hg_41_2⟩ := hp
  refine s_iinc (v := 41) (L2 := [some (AR 62), some (AL x1), none, some (AI 41), some (AI 60)]) E dJ7_fill_d0a16_16 rfl (by decide) (by decide) rfl ?_
  refine s_goto (tgt := 6) E dJ7_fill_d0a16_19 (by decide) ?_
  refine s_iload_n E dJ7_fill_d0a16_6 rfl rfl ?_
  refine s_iload E dJ7_fill_d0a16_7 rfl ?_
  refine s_icmp_ge (tgt := 22) E dJ7_fill_d0a16_9 (by decide) (fun hh => absurd hh (by decide)) (fun _ => ?_)
  refine s_aload_n E dJ7_fill_d0a16_12 rfl rfl ?_
  refine s_iload_n E dJ7_fill_d0a16_13 rfl rfl ?_
  refine s_lload_n E dJ7_fill_d0a16_14 rfl rfl ?_
  refine s_last E rfl (ltn hg_41_0.1 (by decide)) (vp_c (by decide)) dJ7_fill_d0a16_15 ?_
  refine s_gen (P := fun v => RfC v ∧ FrM v ∧ RfM v) ⟨(fc_upL hg_41_0), (fc_upL hg_41_1), (fc_upL hg_41_2)⟩ (fun g_42 hp => ?_)
  obtain ⟨hg_42_0, hg_42_1, hg_42_2⟩ := hp
  refine s_iinc (v := 42) (L2 := [some (AR 62), some (AL x1), none, some (AI 42), some (AI 60)]) E dJ7_fill_d0a16_16 rfl (by decide) (by decide) rfl ?_
  refine s_goto (tgt := 6) E dJ7_fill_d0a16_19 (by decide) ?_
  refine s_iload_n E dJ7_fill_d0a16_6 rfl rfl ?_
  refine s_iload E dJ7_fill_d0a16_7 rfl ?_
  refine s_icmp_ge (tgt := 22) E dJ7_fill_d0a16_9 (by decide) (fun hh => absurd hh (by decide)) (fun _ => ?_)
  refine s_aload_n E dJ7_fill_d0a16_12 rfl rfl ?_
  refine s_iload_n E dJ7_fill_d0a16_13 rfl rfl ?_
  refine s_lload_n E dJ7_fill_d0a16_14 rfl rfl ?_
  refine s_last E rfl (ltn hg_42_0.1 (by decide)) (vp_c (by decide)) dJ7_fill_d0a16_15 ?_
  refine s_gen (P := fun v => RfC v ∧ FrM v ∧ RfM v) ⟨(fc_upL hg_42_0), (fc_upL hg_42_1), (fc_upL hg_42_2)⟩ (fun g_43 hp => ?_)
  obtain ⟨hg_43_0, hg_43_1, hg_43_2⟩ := hp
  refine s_iinc (v := 43) (L2 := [some (AR 62), some (AL x1), none, some (AI 43), some (AI 60)]) E dJ7_fill_d0a16_16 rfl (by decide) (by decide) rfl ?_
  refine s_goto (tgt := 6) E dJ7_fill_d0a16_19 (by decide) ?_
  refine s_iload_n E dJ7_fill_d0a16_6 rfl rfl ?_
  refine s_iload E dJ7_fill_d0a16_7 rfl ?_
  refine s_icmp_ge (tgt := 22) E dJ7_fill_d0a16_9 (by decide) (fun hh => absurd hh (by decide)) (fun _ => ?_)
  refine s_aload_n E dJ7_fill_d0a16_12 rfl rfl ?_
  refine s_iload_n E dJ7_fill_d0a16_13 rfl rfl ?_
  refine s_lload_n E dJ7_fill_d0a16_14 rfl rfl ?_
  refine s_last E rfl (ltn hg_43_0.1 (by decide)) (vp_c (by decide)) dJ7_fill_d0a16_15 ?_
  refine s_gen (P := fun v => RfC v ∧ FrM v ∧ RfM v) ⟨(fc_upL hg_43_0), (fc_upL hg_43_1), (fc_upL hg_43_2)⟩ (fun g_44 hp => ?_)
  obtain ⟨hg_44_0, hg_44_1, hg_44_2⟩ := hp
  refine s_iinc (v := 44) (L2 := [some (AR 62), some (AL x1), none, some (AI 44), some (AI 60)]) E dJ7_fill_d0a16_16 rfl (by decide) (by decide) rfl ?_
  refine s_goto (tgt := 6) E dJ7_fill_d0a16_19 (by decide) ?_
  refine s_iload_n E dJ7_fill_d0a16_6 rfl rfl ?_
  refine s_iload E dJ7_fill_d0a16_7 rfl ?_
  refine s_icmp_ge (tgt := 22) E dJ7_fill_d0a16_9 (by decide) (fun hh => absurd hh (by decide)) (fun _ => ?_)
  refine s_aload_n E dJ7_fill_d0a16_12 rfl rfl ?_
  refine s_iload_n E dJ7_fill_d0a16_13 rfl rfl ?_
  refine s_lload_n E dJ7_fill_d0a16_14 rfl rfl ?_
  refine s_last E rfl (ltn hg_44_0.1 (by decide)) (vp_c (by decide)) dJ7_fill_d0a16_15 ?_
  refine s_gen (P := fun v => RfC v ∧ FrM v ∧ RfM v) ⟨(fc_upL hg_44_0), (fc_upL hg_44_1), (fc_upL hg_44_2)⟩ (fun g_45 hp => ?_)
  obtain ⟨hg_45_0, hg_45_1, hg_45_2⟩ := hp
  refine s_iinc (v := 45) (L2 := [some (AR 62), some (AL x1), none, some (AI 45), some (AI 60)]) E dJ7_fill_d0a16_16 rfl (by decide) (by decide) rfl ?_
  refine s_goto (tgt := 6) E dJ7_fill_d0a16_19 (by decide) ?_
  refine s_iload_n E dJ7_fill_d0a16_6 rfl rfl ?_
  refine s_iload E dJ7_fill_d0a16_7 rfl ?_
  refine s_icmp_ge (tgt := 22) E dJ7_fill_d0a16_9 (by decide) (fun hh => absurd hh (by decide)) (fun _ => ?_)
  refine s_aload_n E dJ7_fill_d0a16_12 rfl rfl ?_
  refine s_iload_n E dJ7_fill_d0a16_13 rfl rfl ?_
  refine s_lload_n E dJ7_fill_d0a16_14 rfl rfl ?_
  refine s_last E rfl (ltn hg_45_0.1 (by decide)) (vp_c (by decide)) dJ7_fill_d0a16_15 ?_
  refine s_gen (P := fun v => RfC v ∧ FrM v ∧ RfM v) ⟨(fc_upL hg_45_0), (fc_upL hg_45_1), (fc_upL hg_45_2)⟩ (fun g_46 hp => ?_)
  obtain ⟨hg_46_0, hg_46_1, hg_46_2⟩ := hp
  refine s_iinc (v := 46) (L2 := [some (AR 62), some (AL x1), none, some (AI 46), some (AI 60)]) E dJ7_fill_d0a16_16 rfl (by decide) (by decide) rfl ?_
  refine s_goto (tgt := 6) E dJ7_fill_d0a16_19 (by decide) ?_
  refine s_iload_n E dJ7_fill_d0a16_6 rfl rfl ?_
  refine s_iload E dJ7_fill_d0a16_7 rfl ?_
  refine s_icmp_ge (tgt := 22) E dJ7_fill_d0a16_9 (by decide) (fun hh => absurd hh (by decide)) (fun _ => ?_)
  refine s_aload_n E dJ7_fill_d0a16_12 rfl rfl ?_
  refine s_iload_n E dJ7_fill_d0a16_13 rfl rfl ?_
  refine s_lload_n E dJ7_fill_d0a16_14 rfl rfl ?_
  refine s_last E rfl (ltn hg_46_0.1 (by decide)) (vp_c (by decide)) dJ7_fill_d0a16_15 ?_
  refine s_gen (P := fun v => RfC v ∧ FrM v ∧ RfM v) ⟨(fc_upL hg_46_0), (fc_upL hg_46_1), (fc_upL hg_46_2)⟩ (fun g_47 hp => ?_)
  obtain ⟨hg_47_0, hg_47_1, hg_47_2⟩ := hp
  refine s_iinc (v := 47) (L2 := [some (AR 62), some (AL x1), none, some (AI 47), some (AI 60)]) E dJ7_fill_d0a16_16 rfl (by decide) (by decide) rfl ?_
  refine s_goto (tgt := 6) E dJ7_fill_d0a16_19 (by decide) ?_
  refine s_iload_n E dJ7_fill_d0a16_6 rfl rfl ?_
  refine s_iload E dJ7_fill_d0a16_7 rfl ?_
  refine s_icmp_ge (tgt := 22) E dJ7_fill_d0a16_9 (by decide) (fun hh => absurd hh (by decide)) (fun _ => ?_)
  refine s_aload_n E dJ7_fill_d0a16_12 rfl rfl ?_
  refine s_iload_n E dJ7_fill_d0a16_13 rfl rfl ?_
  refine s_lload_n E dJ7_fill_d0a16_14 rfl rfl ?_
  refine s_last E rfl (ltn hg_47_0.1 (by decide)) (vp_c (by decide)) dJ7_fill_d0a16_15 ?_
  refine s_gen (P := fun v => RfC v ∧ FrM v ∧ RfM v) ⟨(fc_upL hg_47_0), (fc_upL hg_47_1), (fc_upL hg_47_2)⟩ (fun g_48 hp => ?_)
  obtain ⟨hg_48_0, hg_48_1, hg_48_2⟩ := hp
  refine s_iinc (v := 48) (L2 := [some (AR 62), some (AL x1), none, some (AI 48), some (AI 60)]) E dJ7_fill_d0a16_16 rfl (by decide) (by decide) rfl ?_
  refine s_goto (tgt := 6) E dJ7_fill_d0a16_19 (by decide) ?_
  refine s_iload_n E dJ7_fill_d0a16_6 rfl rfl ?_
  refine s_iload E dJ7_fill_d0a16_7 rfl ?_
  refine s_icmp_ge (tgt := 22) E dJ7_fill_d0a16_9 (by decide) (fun hh => absurd hh (by decide)) (fun _ => ?_)
  refine s_aload_n E dJ7_fill_d0a16_12 rfl rfl ?_
  refine s_iload_n E dJ7_fill_d0a16_13 rfl rfl ?_
  refine s_lload_n E dJ7_fill_d0a16_14 rfl rfl ?_
  refine s_last E rfl (ltn hg_48_0.1 (by decide)) (vp_c (by decide)) dJ7_fill_d0a16_15 ?_
  refine s_gen (P := fun v => RfC v ∧ FrM v ∧ RfM v) ⟨(fc_upL hg_48_0), (fc_upL hg_48_1), (fc_upL hg_48_2)⟩ (fun g_49 hp => ?_)
  obtain ⟨hg_49_0, hg_49_1, hg_49_2⟩ := hp
  refine s_iinc (v := 49) (L2 := [some (AR 62), some (AL x1), none, some (AI 49), some (AI 60)]) E dJ7_fill_d0a16_16 rfl (by decide) (by decide) rfl ?_
  refine s_goto (tgt := 6) E dJ7_fill_d0a16_19 (by decide) ?_
  refine s_iload_n E dJ7_fill_d0a16_6 rfl rfl ?_
  refine s_iload E dJ7_fill_d0a16_7 rfl ?_
  refine s_icmp_ge (tgt := 22) E dJ7_fill_d0a16_9 (by decide) (fun hh => absurd hh (by decide)) (fun _ => ?_)
  refine s_aload_n E dJ7_fill_d0a16_12 rfl rfl ?_
  refine s_iload_n E dJ7_fill_d0a16_13 rfl rfl ?_
  refine s_lload_n E dJ7_fill_d0a16_14 rfl rfl ?_
  refine s_last E rfl (ltn hg_49_0.1 (by decide)) (vp_c (by decide)) dJ7_fill_d0a16_15 ?_
  refine s_gen (P := fun v => RfC v ∧ FrM v ∧ RfM v) ⟨(fc_upL hg_49_0), (fc_upL hg_49_1), (fc_upL hg_49_2)⟩ (fun g_50 hp => ?_)
  obtain ⟨hg_50_0, hg_50_1, hg_50_2⟩ := hp
  refine s_iinc (v := 50) (L2 := [some (AR 62), some (AL x1), none, some (AI 50), some (AI 60)]) E dJ7_fill_d0a16_16 rfl (by decide) (by decide) rfl ?_
  refine s_goto (tgt := 6) E dJ7_fill_d0a16_19 (by decide) ?_
  refine s_iload_n E dJ7_fill_d0a16_6 rfl rfl ?_
  refine s_iload E dJ7_fill_d0a16_7 rfl ?_
  refine s_icmp_ge (tgt := 22) E dJ7_fill_d0a16_9 (by decide) (fun hh => absurd hh (by decide)) (fun _ => ?_)
  refine s_aload_n E dJ7_fill_d0a16_12 rfl rfl ?_
  refine s_iload_n E dJ7_fill_d0a16_13 rfl rfl ?_
  refine s_lload_n E dJ7_fill_d0a16_14 rfl rfl ?_
  refine s_last E rfl (ltn hg_50_0.1 (by decide)) (vp_c (by decide)) dJ7_fill_d0a16_15 ?_
  refine s_gen (P := fun v => RfC v ∧ FrM v ∧ RfM v) ⟨(fc_upL hg_50_0), (fc_upL hg_50_1), (fc_upL hg_50_2)⟩ (fun g_51 hp => ?_)
  obtain ⟨hg_51_0, hg_51_1, hg_51_2⟩ := hp
  refine s_iinc (v := 51) (L2 := [some (AR 62), some (AL x1), none, some (AI 51), some (AI 60)]) E dJ7_fill_d0a16_16 rfl (by decide) (by decide) rfl ?_
  refine s_goto (tgt := 6) E dJ7_fill_d0a16_19 (by decide) ?_
  refine s_iload_n E dJ7_fill_d0a16_6 rfl rfl ?_
  refine s_iload E dJ7_fill_d0a16_7 rfl ?_
  refine s_icmp_ge (tgt := 22) E dJ7_fill_d0a16_9 (by decide) (fun hh => absurd hh (by decide)) (fun _ => ?_)
  refine s_aload_n E dJ7_fill_d0a16_12 rfl rfl ?_
  refine s_iload_n E dJ7_fill_d0a16_13 rfl rfl ?_
  refine s_lload_n E dJ7_fill_d0a16_14 rfl rfl ?_
  refine s_last E rfl (ltn hg_51_0.1 (by decide)) (vp_c (by decide)) dJ7_fill_d0a16_15 ?_
  refine s_gen (P := fun v => RfC v ∧ FrM v ∧ RfM v) ⟨(fc_upL hg_51_0), (fc_upL hg_51_1), (fc_upL hg_51_2)⟩ (fun g_52 hp => ?_)
  obtain ⟨hg_52_0, hg_52_1, hg_52_2⟩ := hp
  refine s_iinc (v := 52) (L2 := [some (AR 62), some (AL x1), none, some (AI 52), some (AI 60)]) E dJ7_fill_d0a16_16 rfl (by decide) (by decide) rfl ?_
  refine s_goto (tgt := 6) E dJ7_fill_d0a16_19 (by decide) ?_
  refine s_iload_n E dJ7_fill_d0a16_6 rfl rfl ?_
  refine s_iload E dJ7_fill_d0a16_7 rfl ?_
  refine s_icmp_ge (tgt := 22) E dJ7_fill_d0a16_9 (by decide) (fun hh => absurd hh (by decide)) (fun _ => ?_)
  refine s_aload_n E dJ7_fill_d0a16_12 rfl rfl ?_
  refine s_iload_n E dJ7_fill_d0a16_13 rfl rfl ?_
  refine s_lload_n E dJ7_fill_d0a16_14 rfl rfl ?_
  refine s_last E rfl (ltn hg_52_0.1 (by decide)) (vp_c (by decide)) dJ7_fill_d0a16_15 ?_
  refine s_gen (P := fun v => RfC v ∧ FrM v ∧ RfM v) ⟨(fc_upL hg_52_0), (fc_upL hg_52_1), (fc_upL hg_52_2)⟩ (fun g_53 hp => ?_)
  obtain ⟨hg_53_0, hg_53_1, hg_53_2⟩ := hp
  refine s_iinc (v := 53) (L2 := [some (AR 62), some (AL x1), none, some (AI 53), some (AI 60)]) E dJ7_fill_d0a16_16 rfl (by decide) (by decide) rfl ?_
  refine s_goto (tgt := 6) E dJ7_fill_d0a16_19 (by decide) ?_
  refine s_iload_n E dJ7_fill_d0a16_6 rfl rfl ?_
  refine s_iload E dJ7_fill_d0a16_7 rfl ?_
  refine s_icmp_ge (tgt := 22) E dJ7_fill_d0a16_9 (by decide) (fun hh => absurd hh (by decide)) (fun _ => ?_)
  refine s_aload_n E dJ7_fill_d0a16_12 rfl rfl ?_
  refine s_iload_n E dJ7_fill_d0a16_13 rfl rfl ?_
  refine s_lload_n E dJ7_fill_d0a16_14 rfl rfl ?_
  refine s_last E rfl (ltn hg_53_0.1 (by decide)) (vp_c (by decide)) dJ7_fill_d0a16_15 ?_
  refine s_gen (P := fun v => RfC v ∧ FrM v ∧ RfM v) ⟨(fc_upL hg_53_0), (fc_upL hg_53_1), (fc_upL hg_53_2)⟩ (fun g_54 hp => ?_)
  obtain ⟨hg_54_0, hg_54_1, hg_54_2⟩ := hp
  refine s_iinc (v := 54) (L2 := [some (AR 62), some (AL x1), none, some (AI 54), some (AI 60)]) E dJ7_fill_d0a16_16 rfl (by decide) (by decide) rfl ?_
  refine s_goto (tgt := 6) E dJ7_fill_d0a16_19 (by decide) ?_
  refine s_iload_n E dJ7_fill_d0a16_6 rfl rfl ?_
  refine s_iload E dJ7_fill_d0a16_7 rfl ?_
  refine s_icmp_ge (tgt := 22) E dJ7_fill_d0a16_9 (by decide) (fun hh => absurd hh (by decide)) (fun _ => ?_)
  refine s_aload_n E dJ7_fill_d0a16_12 rfl rfl ?_
  refine s_iload_n E dJ7_fill_d0a16_13 rfl rfl ?_
  refine s_lload_n E dJ7_fill_d0a16_14 rfl rfl ?_
  refine s_last E rfl (ltn hg_54_0.1 (by decide)) (vp_c (by decide)) dJ7_fill_d0a16_15 ?_
  refine s_gen (P := fun v => RfC v ∧ FrM v ∧ RfM v) ⟨(fc_upL hg_54_0), (fc_upL hg_54_1), (fc_upL hg_54_2)⟩ (fun g_55 hp => ?_)
  obtain ⟨hg_55_0, hg_55_1, hg_55_2⟩ := hp
  refine s_iinc (v := 55) (L2 := [some (AR 62), some (AL x1), none, some (AI 55), some (AI 60)]) E dJ7_fill_d0a16_16 rfl (by decide) (by decide) rfl ?_
  refine s_goto (tgt := 6) E dJ7_fill_d0a16_19 (by decide) ?_
  refine s_iload_n E dJ7_fill_d0a16_6 rfl rfl ?_
  refine s_iload E dJ7_fill_d0a16_7 rfl ?_
  refine s_icmp_ge (tgt := 22) E dJ7_fill_d0a16_9 (by decide) (fun hh => absurd hh (by decide)) (fun _ => ?_)
  refine s_aload_n E dJ7_fill_d0a16_12 rfl rfl ?_
  refine s_iload_n E dJ7_fill_d0a16_13 rfl rfl ?_
  refine s_lload_n E dJ7_fill_d0a16_14 rfl rfl ?_
  refine s_last E rfl (ltn hg_55_0.1 (by decide)) (vp_c (by decide)) dJ7_fill_d0a16_15 ?_
  refine s_gen (P := fun v => RfC v ∧ FrM v ∧ RfM v) ⟨(fc_upL hg_55_0), (fc_upL hg_55_1), (fc_upL hg_55_2)⟩ (fun g_56 hp => ?_)
  obtain ⟨hg_56_0, hg_56_1, hg_56_2⟩ := hp
  refine s_iinc (v := 56) (L2 := [some (AR 62), some (AL x1), none, some (AI 56), some (AI 60)]) E dJ7_fill_d0a16_16 rfl (by decide) (by decide) rfl ?_
  refine s_goto (tgt := 6) E dJ7_fill_d0a16_19 (by decide) ?_
  refine s_iload_n E dJ7_fill_d0a16_6 rfl rfl ?_
  refine s_iload E dJ7_fill_d0a16_7 rfl ?_
  refine s_icmp_ge (tgt := 22) E dJ7_fill_d0a16_9 (by decide) (fun hh => absurd hh (by decide)) (fun _ => ?_)
  refine s_aload_n E dJ7_fill_d0a16_12 rfl rfl ?_
  refine s_iload_n E dJ7_fill_d0a16_13 rfl rfl ?_
  refine s_lload_n E dJ7_fill_d0a16_14 rfl rfl ?_
  refine s_last E rfl (ltn hg_56_0.1 (by decide)) (vp_c (by decide)) dJ7_fill_d0a16_15 ?_
  refine s_gen (P := fun v => RfC v ∧ FrM v ∧ RfM v) ⟨(fc_upL hg_56_0), (fc_upL hg_56_1), (fc_upL hg_56_2)⟩ (fun g_57 hp => ?_)
  obtain ⟨hg_57_0, hg_57_1, hg_57_2⟩ := hp
  refine s_iinc (v := 57) (L2 := [some (AR 62), some (AL x1), none, some (AI 57), some (AI 60)]) E dJ7_fill_d0a16_16 rfl (by decide) (by decide) rfl ?_
  refine s_goto (tgt := 6) E dJ7_fill_d0a16_19 (by decide) ?_
  refine s_iload_n E dJ7_fill_d0a16_6 rfl rfl ?_
  refine s_iload E dJ7_fill_d0a16_7 rfl ?_
  refine s_icmp_ge (tgt := 22) E dJ7_fill_d0a16_9 (by decide) (fun hh => absurd hh (by decide)) (fun _ => ?_)
  refine s_aload_n E dJ7_fill_d0a16_12 rfl rfl ?_
  refine s_iload_n E dJ7_fill_d0a16_13 rfl rfl ?_
  refine s_lload_n E dJ7_fill_d0a16_14 rfl rfl ?_
  refine s_last E rfl (ltn hg_57_0.1 (by decide)) (vp_c (by decide)) dJ7_fill_d0a16_15 ?_
  refine s_gen (P := fun v => RfC v ∧ FrM v ∧ RfM v) ⟨(fc_upL hg_57_0), (fc_upL hg_57_1), (fc_upL hg_57_2)⟩ (fun g_58 hp => ?_)
  obtain ⟨hg_58_0, hg_58_1, hg_58_2⟩ := hp
  refine s_iinc (v := 58) (L2 := [some (AR 62), some (AL x1), none, some (AI 58), some (AI 60)]) E dJ7_fill_d0a16_16 rfl (by decide) (by decide) rfl ?_
  refine s_goto (tgt := 6) E dJ7_fill_d0a16_19 (by decide) ?_
  refine s_iload_n E dJ7_fill_d0a16_6 rfl rfl ?_
  refine s_iload E dJ7_fill_d0a16_7 rfl ?_
  refine s_icmp_ge (tgt := 22) E dJ7_fill_d0a16_9 (by decide) (fun hh => absurd hh (by decide)) (fun _ => ?_)
  refine s_aload_n E dJ7_fill_d0a16_12 rfl rfl ?_
  refine s_iload_n E dJ7_fill_d0a16_13 rfl rfl ?_
  refine s_lload_n E dJ7_fill_d0a16_14 rfl rfl ?_
  refine s_last E rfl (ltn hg_58_0.1 (by decide)) (vp_c (by decide)) dJ7_fill_d0a16_15 ?_
  refine s_gen (P := fun v => RfC v ∧ FrM v ∧ RfM v) ⟨(fc_upL hg_58_0), (fc_upL hg_58_1), (fc_upL hg_58_2)⟩ (fun g_59 hp => ?_)
  obtain ⟨hg_59_0, hg_59_1, hg_59_2⟩ := hp
  refine s_iinc (v := 59) (L2 := [some (AR 62), some (AL x1), none, some (AI 59), some (AI 60)]) E dJ7_fill_d0a16_16 rfl (by decide) (by decide) rfl ?_
  refine s_goto (tgt := 6) E dJ7_fill_d0a16_19 (by decide) ?_
  refine s_iload_n E dJ7_fill_d0a16_6 rfl rfl ?_
  refine s_iload E dJ7_fill_d0a16_7 rfl ?_
  refine s_icmp_ge (tgt := 22) E dJ7_fill_d0a16_9 (by decide) (fun hh => absurd hh (by decide)) (fun _ => ?_)
  refine s_aload_n E dJ7_fill_d0a16_12 rfl rfl ?_
  refine s_iload_n E dJ7_fill_d0a16_13 rfl rfl ?_
  refine s_lload_n E dJ7_fill_d0a16_14 rfl rfl ?_
  refine s_last E rfl (ltn hg_59_0.1 (by decide)) (vp_c (by decide)) dJ7_fill_d0a16_15 ?_
  refine s_gen (P := fun v => RfC v ∧ FrM v ∧ RfM v) ⟨(fc_upL hg_59_0), (fc_upL hg_59_1), (fc_upL hg_59_2)⟩ (fun g_60 hp => ?_)
  obtain ⟨hg_60_0, hg_60_1, hg_60_2⟩ := hp
  refine s_iinc (v := 60) (L2 := [some (AR 62), some (AL x1), none, some (AI 60), some (AI 60)]) E dJ7_fill_d0a16_16 rfl (by decide) (by decide) rfl ?_
  refine s_goto (tgt := 6) E dJ7_fill_d0a16_19 (by decide) ?_
  refine s_iload_n E dJ7_fill_d0a16_6 rfl rfl ?_
  refine s_iload E dJ7_fill_d0a16_7 rfl ?_
  refine s_icmp_ge (tgt := 22) E dJ7_fill_d0a16_9 (by decide) (fun _ => ?_) (fun hh => absurd (by decide) hh)
  exact r_void E dJ7_fill_d0a16_22 ⟨hg_60_0, hg_60_1, hg_60_2⟩
set_option maxRecDepth 20000 in
set_option maxHeartbeats 2000000 in
theorem K_X7_start_61_CRMS (l : Launch) (D : va_G) (aC : Nat → ClassId) (b : Nat) (w : XW) (x1 : Int32) (x2 : Int32) (hw0 : FrC w) (hw1 : RfC w) (hw2 : FrM w) (hw3 : RfM w) : CnV l D aC b M_X7_start 1 24 0 0 [AR 61, AI x1, AI x2] w (fun u => RfC u ∧ FrM u ∧ RfM u) := by
  refine cn_V (own := RX7) (nm := "start") (L0 := [some (AR 61), some (AI x1), some (AI x2)]) (by decide +kernel) rfl rfl (Nat.le_of_ble_eq_true rfl) rfl ?_
  intro p e s m args below meth c E hin
  refine s_aload_n E dX7_start_0 rfl rfl ?_
  refine s_iload_n E dX7_start_1 rfl rfl ?_
  refine s_pI E fp_X7_19 (Or.inl rfl) rfl (ltn hw0.1 (by decide)) dX7_start_2 ?_
  refine s_aload_n E dX7_start_5 rfl rfl ?_
  refine s_bipush (v := 60) E dX7_start_6 (by decide) ?_
  refine s_iload_n E dX7_start_8 rfl rfl ?_
  refine s_min (v := (if x2 < 60 then x2 else 60)) E ⟨k_1212, k_369, k_4, k_370⟩ (Nat.le_of_ble_eq_true rfl) (Nat.le_of_ble_eq_true rfl) (Nat.le_of_ble_eq_true rfl) (Nat.le_of_ble_eq_true rfl) dX7_start_9 rfl ?_
  refine s_pI E fp_X7_15 (Or.inl rfl) rfl (ltn hw0.1 (by decide)) dX7_start_12 ?_
  refine s_aload_n E dX7_start_15 rfl rfl ?_
  refine s_gR (r := 62) E fg_X7_11 rfl rfl (ltn hw0.1 (by decide)) (fc_r hw0 (by decide +kernel)) dX7_start_16 ?_
  refine s_lconst (v := 0) E dX7_start_19 (by decide) ?_
  refine s_sV (As := [AR 62, AL 0]) (S := []) E (K_J7_fill_d0a16_r62_RMS l D aC b (upI (upI w 61 1 x1) 61 2 (if x2 < 60 then x2 else 60)) 0 (fc_upC (fc_upC hw1 (by decide +kernel)) (by decide +kernel)) (fc_upC (fc_upC hw2 (by decide +kernel)) (by decide +kernel)) (fc_upC (fc_upC hw3 (by decide +kernel)) (by decide +kernel))) cs_X7_28 rfl rfl (Nat.le_of_ble_eq_true rfl) (Nat.le_of_ble_eq_true rfl) ⟨(Nat.le_of_ble_eq_true rfl), (Nat.le_of_ble_eq_true rfl)⟩ (Nat.le_of_ble_eq_true rfl) dX7_start_20 (fun u_1 hp => ?_)
  obtain ⟨hu_1, hu_2, hu_3⟩ := hp
  exact r_void E dX7_start_23 ⟨hu_1, hu_2, hu_3⟩
set_option maxRecDepth 20000 in
set_option maxHeartbeats 2000000 in
theorem K_J7_fill_d0a16_r64_RMS (l : Launch) (D : va_G) (aC : Nat → ClassId) (b : Nat) (w : XW) (x1 : Int64) (hw0 : RfC w) (hw1 : FrM w) (hw2 : RfM w) : CnV l D aC b M_J7_fill_d0a16 0 0 0 0 [AR 64, AL x1] w (fun u => RfC u ∧ FrM u ∧ RfM u) := by
  refine cn_V (own := RJ7) (nm := "fill") (L0 := [some (AR 64), some (AL x1), none, none, none]) (by decide +kernel) rfl rfl (Nat.le_of_ble_eq_true rfl) rfl ?_
  intro p e s m args below meth c E hin
  refine s_iconst (v := 0) E dJ7_fill_d0a16_0 (by decide) ?_
  refine s_istore_n (L2 := [some (AR 64), some (AL x1), none, some (AI 0), none]) E dJ7_fill_d0a16_1 rfl (by decide) rfl ?_
  refine s_aload_n E dJ7_fill_d0a16_2 rfl rfl ?_
  refine s_alen (v := 60) E rfl (by decide) (ltn hw0.1 (by decide)) (by decide) dJ7_fill_d0a16_3 ?_
  refine s_istore (L2 := [some (AR 64), some (AL x1), none, some (AI 0), some (AI 60)]) E dJ7_fill_d0a16_4 (by decide) rfl ?_
  refine s_iload_n E dJ7_fill_d0a16_6 rfl rfl ?_
  refine s_iload E dJ7_fill_d0a16_7 rfl ?_
  refine s_icmp_ge (tgt := 22) E dJ7_fill_d0a16_9 (by decide) (fun hh => absurd hh (by decide)) (fun _ => ?_)
  refine s_aload_n E dJ7_fill_d0a16_12 rfl rfl ?_
  refine s_iload_n E dJ7_fill_d0a16_13 rfl rfl ?_
  refine s_lload_n E dJ7_fill_d0a16_14 rfl rfl ?_
  refine s_last E rfl (ltn hw0.1 (by decide)) (vp_c (by decide)) dJ7_fill_d0a16_15 ?_
  refine s_gen (P := fun v => RfC v ∧ FrM v ∧ RfM v) ⟨(fc_upL hw0), (fc_upL hw1), (fc_upL hw2)⟩ (fun g_1 hp => ?_)
  obtain ⟨hg_1_0, hg_1_1, hg_1_2⟩ := hp
  refine s_iinc (v := 1) (L2 := [some (AR 64), some (AL x1), none, some (AI 1), some (AI 60)]) E dJ7_fill_d0a16_16 rfl (by decide) (by decide) rfl ?_
  refine s_goto (tgt := 6) E dJ7_fill_d0a16_19 (by decide) ?_
  refine s_iload_n E dJ7_fill_d0a16_6 rfl rfl ?_
  refine s_iload E dJ7_fill_d0a16_7 rfl ?_
  refine s_icmp_ge (tgt := 22) E dJ7_fill_d0a16_9 (by decide) (fun hh => absurd hh (by decide)) (fun _ => ?_)
  refine s_aload_n E dJ7_fill_d0a16_12 rfl rfl ?_
  refine s_iload_n E dJ7_fill_d0a16_13 rfl rfl ?_
  refine s_lload_n E dJ7_fill_d0a16_14 rfl rfl ?_
  refine s_last E rfl (ltn hg_1_0.1 (by decide)) (vp_c (by decide)) dJ7_fill_d0a16_15 ?_
  refine s_gen (P := fun v => RfC v ∧ FrM v ∧ RfM v) ⟨(fc_upL hg_1_0), (fc_upL hg_1_1), (fc_upL hg_1_2)⟩ (fun g_2 hp => ?_)
  obtain ⟨hg_2_0, hg_2_1, hg_2_2⟩ := hp
  refine s_iinc (v := 2) (L2 := [some (AR 64), some (AL x1), none, some (AI 2), some (AI 60)]) E dJ7_fill_d0a16_16 rfl (by decide) (by decide) rfl ?_
  refine s_goto (tgt := 6) E dJ7_fill_d0a16_19 (by decide) ?_
  refine s_iload_n E dJ7_fill_d0a16_6 rfl rfl ?_
  refine s_iload E dJ7_fill_d0a16_7 rfl ?_
  refine s_icmp_ge (tgt := 22) E dJ7_fill_d0a16_9 (by decide) (fun hh => absurd hh (by decide)) (fun _ => ?_)
  refine s_aload_n E dJ7_fill_d0a16_12 rfl rfl ?_
  refine s_iload_n E dJ7_fill_d0a16_13 rfl rfl ?_
  refine s_lload_n E dJ7_fill_d0a16_14 rfl rfl ?_
  refine s_last E rfl (ltn hg_2_0.1 (by decide)) (vp_c (by decide)) dJ7_fill_d0a16_15 ?_
  refine s_gen (P := fun v => RfC v ∧ FrM v ∧ RfM v) ⟨(fc_upL hg_2_0), (fc_upL hg_2_1), (fc_upL hg_2_2)⟩ (fun g_3 hp => ?_)
  obtain ⟨hg_3_0, hg_3_1, hg_3_2⟩ := hp
  refine s_iinc (v := 3) (L2 := [some (AR 64), some (AL x1), none, some (AI 3), some (AI 60)]) E dJ7_fill_d0a16_16 rfl (by decide) (by decide) rfl ?_
  refine s_goto (tgt := 6) E dJ7_fill_d0a16_19 (by decide) ?_
  refine s_iload_n E dJ7_fill_d0a16_6 rfl rfl ?_
  refine s_iload E dJ7_fill_d0a16_7 rfl ?_
  refine s_icmp_ge (tgt := 22) E dJ7_fill_d0a16_9 (by decide) (fun hh => absurd hh (by decide)) (fun _ => ?_)
  refine s_aload_n E dJ7_fill_d0a16_12 rfl rfl ?_
  refine s_iload_n E dJ7_fill_d0a16_13 rfl rfl ?_
  refine s_lload_n E dJ7_fill_d0a16_14 rfl rfl ?_
  refine s_last E rfl (ltn hg_3_0.1 (by decide)) (vp_c (by decide)) dJ7_fill_d0a16_15 ?_
  refine s_gen (P := fun v => RfC v ∧ FrM v ∧ RfM v) ⟨(fc_upL hg_3_0), (fc_upL hg_3_1), (fc_upL hg_3_2)⟩ (fun g_4 hp => ?_)
  obtain ⟨hg_4_0, hg_4_1, hg_4_2⟩ := hp
  refine s_iinc (v := 4) (L2 := [some (AR 64), some (AL x1), none, some (AI 4), some (AI 60)]) E dJ7_fill_d0a16_16 rfl (by decide) (by decide) rfl ?_
  refine s_goto (tgt := 6) E dJ7_fill_d0a16_19 (by decide) ?_
  refine s_iload_n E dJ7_fill_d0a16_6 rfl rfl ?_
  refine s_iload E dJ7_fill_d0a16_7 rfl ?_
  refine s_icmp_ge (tgt := 22) E dJ7_fill_d0a16_9 (by decide) (fun hh => absurd hh (by decide)) (fun _ => ?_)
  refine s_aload_n E dJ7_fill_d0a16_12 rfl rfl ?_
  refine s_iload_n E dJ7_fill_d0a16_13 rfl rfl ?_
  refine s_lload_n E dJ7_fill_d0a16_14 rfl rfl ?_
  refine s_last E rfl (ltn hg_4_0.1 (by decide)) (vp_c (by decide)) dJ7_fill_d0a16_15 ?_
  refine s_gen (P := fun v => RfC v ∧ FrM v ∧ RfM v) ⟨(fc_upL hg_4_0), (fc_upL hg_4_1), (fc_upL hg_4_2)⟩ (fun g_5 hp => ?_)
  obtain ⟨hg_5_0, hg_5_1, hg_5_2⟩ := hp
  refine s_iinc (v := 5) (L2 := [some (AR 64), some (AL x1), none, some (AI 5), some (AI 60)]) E dJ7_fill_d0a16_16 rfl (by decide) (by decide) rfl ?_
  refine s_goto (tgt := 6) E dJ7_fill_d0a16_19 (by decide) ?_
  refine s_iload_n E dJ7_fill_d0a16_6 rfl rfl ?_
  refine s_iload E dJ7_fill_d0a16_7 rfl ?_
  refine s_icmp_ge (tgt := 22) E dJ7_fill_d0a16_9 (by decide) (fun hh => absurd hh (by decide)) (fun _ => ?_)
  refine s_aload_n E dJ7_fill_d0a16_12 rfl rfl ?_
  refine s_iload_n E dJ7_fill_d0a16_13 rfl rfl ?_
  refine s_lload_n E dJ7_fill_d0a16_14 rfl rfl ?_
  refine s_last E rfl (ltn hg_5_0.1 (by decide)) (vp_c (by decide)) dJ7_fill_d0a16_15 ?_
  refine s_gen (P := fun v => RfC v ∧ FrM v ∧ RfM v) ⟨(fc_upL hg_5_0), (fc_upL hg_5_1), (fc_upL hg_5_2)⟩ (fun g_6 hp => ?_)
  obtain ⟨hg_6_0, hg_6_1, hg_6_2⟩ := hp
  refine s_iinc (v := 6) (L2 := [some (AR 64), some (AL x1), none, some (AI 6), some (AI 60)]) E dJ7_fill_d0a16_16 rfl (by decide) (by decide) rfl ?_
  refine s_goto (tgt := 6) E dJ7_fill_d0a16_19 (by decide) ?_
  refine s_iload_n E dJ7_fill_d0a16_6 rfl rfl ?_
  refine s_iload E dJ7_fill_d0a16_7 rfl ?_
  refine s_icmp_ge (tgt := 22) E dJ7_fill_d0a16_9 (by decide) (fun hh => absurd hh (by decide)) (fun _ => ?_)
  refine s_aload_n E dJ7_fill_d0a16_12 rfl rfl ?_
  refine s_iload_n E dJ7_fill_d0a16_13 rfl rfl ?_
  refine s_lload_n E dJ7_fill_d0a16_14 rfl rfl ?_
  refine s_last E rfl (ltn hg_6_0.1 (by decide)) (vp_c (by decide)) dJ7_fill_d0a16_15 ?_
  refine s_gen (P := fun v => RfC v ∧ FrM v ∧ RfM v) ⟨(fc_upL hg_6_0), (fc_upL hg_6_1), (fc_upL hg_6_2)⟩ (fun g_7 hp => ?_)
  obtain ⟨hg_7_0, hg_7_1, hg_7_2⟩ := hp
  refine s_iinc (v := 7) (L2 := [some (AR 64), some (AL x1), none, some (AI 7), some (AI 60)]) E dJ7_fill_d0a16_16 rfl (by decide) (by decide) rfl ?_
  refine s_goto (tgt := 6) E dJ7_fill_d0a16_19 (by decide) ?_
  refine s_iload_n E dJ7_fill_d0a16_6 rfl rfl ?_
  refine s_iload E dJ7_fill_d0a16_7 rfl ?_
  refine s_icmp_ge (tgt := 22) E dJ7_fill_d0a16_9 (by decide) (fun hh => absurd hh (by decide)) (fun _ => ?_)
  refine s_aload_n E dJ7_fill_d0a16_12 rfl rfl ?_
  refine s_iload_n E dJ7_fill_d0a16_13 rfl rfl ?_
  refine s_lload_n E dJ7_fill_d0a16_14 rfl rfl ?_
  refine s_last E rfl (ltn hg_7_0.1 (by decide)) (vp_c (by decide)) dJ7_fill_d0a16_15 ?_
  refine s_gen (P := fun v => RfC v ∧ FrM v ∧ RfM v) ⟨(fc_upL hg_7_0), (fc_upL hg_7_1), (fc_upL hg_7_2)⟩ (fun g_8 hp => ?_)
  obtain ⟨hg_8_0, hg_8_1, hg_8_2⟩ := hp
  refine s_iinc (v := 8) (L2 := [some (AR 64), some (AL x1), none, some (AI 8), some (AI 60)]) E dJ7_fill_d0a16_16 rfl (by decide) (by decide) rfl ?_
  refine s_goto (tgt := 6) E dJ7_fill_d0a16_19 (by decide) ?_
  refine s_iload_n E dJ7_fill_d0a16_6 rfl rfl ?_
  refine s_iload E dJ7_fill_d0a16_7 rfl ?_
  refine s_icmp_ge (tgt := 22) E dJ7_fill_d0a16_9 (by decide) (fun hh => absurd hh (by decide)) (fun _ => ?_)
  refine s_aload_n E dJ7_fill_d0a16_12 rfl rfl ?_
  refine s_iload_n E dJ7_fill_d0a16_13 rfl rfl ?_
  refine s_lload_n E dJ7_fill_d0a16_14 rfl rfl ?_
  refine s_last E rfl (ltn hg_8_0.1 (by decide)) (vp_c (by decide)) dJ7_fill_d0a16_15 ?_
  refine s_gen (P := fun v => RfC v ∧ FrM v ∧ RfM v) ⟨(fc_upL hg_8_0), (fc_upL hg_8_1), (fc_upL hg_8_2)⟩ (fun g_9 hp => ?_)
  obtain ⟨hg_9_0, hg_9_1, hg_9_2⟩ := hp
  refine s_iinc (v := 9) (L2 := [some (AR 64), some (AL x1), none, some (AI 9), some (AI 60)]) E dJ7_fill_d0a16_16 rfl (by decide) (by decide) rfl ?_
  refine s_goto (tgt := 6) E dJ7_fill_d0a16_19 (by decide) ?_
  refine s_iload_n E dJ7_fill_d0a16_6 rfl rfl ?_
  refine s_iload E dJ7_fill_d0a16_7 rfl ?_
  refine s_icmp_ge (tgt := 22) E dJ7_fill_d0a16_9 (by decide) (fun hh => absurd hh (by decide)) (fun _ => ?_)
  refine s_aload_n E dJ7_fill_d0a16_12 rfl rfl ?_
  refine s_iload_n E dJ7_fill_d0a16_13 rfl rfl ?_
  refine s_lload_n E dJ7_fill_d0a16_14 rfl rfl ?_
  refine s_last E rfl (ltn hg_9_0.1 (by decide)) (vp_c (by decide)) dJ7_fill_d0a16_15 ?_
  refine s_gen (P := fun v => RfC v ∧ FrM v ∧ RfM v) ⟨(fc_upL hg_9_0), (fc_upL hg_9_1), (fc_upL hg_9_2)⟩ (fun g_10 hp => ?_)
  obtain ⟨hg_10_0, hg_10_1, hg_10_2⟩ := hp
  refine s_iinc (v := 10) (L2 := [some (AR 64), some (AL x1), none, some (AI 10), some (AI 60)]) E dJ7_fill_d0a16_16 rfl (by decide) (by decide) rfl ?_
  refine s_goto (tgt := 6) E dJ7_fill_d0a16_19 (by decide) ?_
  refine s_iload_n E dJ7_fill_d0a16_6 rfl rfl ?_
  refine s_iload E dJ7_fill_d0a16_7 rfl ?_
  refine s_icmp_ge (tgt := 22) E dJ7_fill_d0a16_9 (by decide) (fun hh => absurd hh (by decide)) (fun _ => ?_)
  refine s_aload_n E dJ7_fill_d0a16_12 rfl rfl ?_
  refine s_iload_n E dJ7_fill_d0a16_13 rfl rfl ?_
  refine s_lload_n E dJ7_fill_d0a16_14 rfl rfl ?_
  refine s_last E rfl (ltn hg_10_0.1 (by decide)) (vp_c (by decide)) dJ7_fill_d0a16_15 ?_
  refine s_gen (P := fun v => RfC v ∧ FrM v ∧ RfM v) ⟨(fc_upL hg_10_0), (fc_upL hg_10_1), (fc_upL hg_10_2)⟩ (fun g_11 hp => ?_)
  obtain ⟨hg_11_0, hg_11_1, hg_11_2⟩ := hp
  refine s_iinc (v := 11) (L2 := [some (AR 64), some (AL x1), none, some (AI 11), some (AI 60)]) E dJ7_fill_d0a16_16 rfl (by decide) (by decide) rfl ?_
  refine s_goto (tgt := 6) E dJ7_fill_d0a16_19 (by decide) ?_
  refine s_iload_n E dJ7_fill_d0a16_6 rfl rfl ?_
  refine s_iload E dJ7_fill_d0a16_7 rfl ?_
  refine s_icmp_ge (tgt := 22) E dJ7_fill_d0a16_9 (by decide) (fun hh => absurd hh (by decide)) (fun _ => ?_)
  refine s_aload_n E dJ7_fill_d0a16_12 rfl rfl ?_
  refine s_iload_n E dJ7_fill_d0a16_13 rfl rfl ?_
  refine s_lload_n E dJ7_fill_d0a16_14 rfl rfl ?_
  refine s_last E rfl (ltn hg_11_0.1 (by decide)) (vp_c (by decide)) dJ7_fill_d0a16_15 ?_
  refine s_gen (P := fun v => RfC v ∧ FrM v ∧ RfM v) ⟨(fc_upL hg_11_0), (fc_upL hg_11_1), (fc_upL hg_11_2)⟩ (fun g_12 hp => ?_)
  obtain ⟨hg_12_0, hg_12_1, hg_12_2⟩ := hp
  refine s_iinc (v := 12) (L2 := [some (AR 64), some (AL x1), none, some (AI 12), some (AI 60)]) E dJ7_fill_d0a16_16 rfl (by decide) (by decide) rfl ?_
  refine s_goto (tgt := 6) E dJ7_fill_d0a16_19 (by decide) ?_
  refine s_iload_n E dJ7_fill_d0a16_6 rfl rfl ?_
  refine s_iload E dJ7_fill_d0a16_7 rfl ?_
  refine s_icmp_ge (tgt := 22) E dJ7_fill_d0a16_9 (by decide) (fun hh => absurd hh (by decide)) (fun _ => ?_)
  refine s_aload_n E dJ7_fill_d0a16_12 rfl rfl ?_
  refine s_iload_n E dJ7_fill_d0a16_13 rfl rfl ?_
  refine s_lload_n E dJ7_fill_d0a16_14 rfl rfl ?_
  refine s_last E rfl (ltn hg_12_0.1 (by decide)) (vp_c (by decide)) dJ7_fill_d0a16_15 ?_
  refine s_gen (P := fun v => RfC v ∧ FrM v ∧ RfM v) ⟨(fc_upL hg_12_0), (fc_upL hg_12_1), (fc_upL hg_12_2)⟩ (fun g_13 hp => ?_)
  obtain ⟨hg_13_0, hg_13_1, hg_13_2⟩ := hp
  refine s_iinc (v := 13) (L2 := [some (AR 64), some (AL x1), none, some (AI 13), some (AI 60)]) E dJ7_fill_d0a16_16 rfl (by decide) (by decide) rfl ?_
  refine s_goto (tgt := 6) E dJ7_fill_d0a16_19 (by decide) ?_
  refine s_iload_n E dJ7_fill_d0a16_6 rfl rfl ?_
  refine s_iload E dJ7_fill_d0a16_7 rfl ?_
  refine s_icmp_ge (tgt := 22) E dJ7_fill_d0a16_9 (by decide) (fun hh => absurd hh (by decide)) (fun _ => ?_)
  refine s_aload_n E dJ7_fill_d0a16_12 rfl rfl ?_
  refine s_iload_n E dJ7_fill_d0a16_13 rfl rfl ?_
  refine s_lload_n E dJ7_fill_d0a16_14 rfl rfl ?_
  refine s_last E rfl (ltn hg_13_0.1 (by decide)) (vp_c (by decide)) dJ7_fill_d0a16_15 ?_
  refine s_gen (P := fun v => RfC v ∧ FrM v ∧ RfM v) ⟨(fc_upL hg_13_0), (fc_upL hg_13_1), (fc_upL hg_13_2)⟩ (fun g_14 hp => ?_)
  obtain ⟨hg_14_0, hg_14_1, hg_14_2⟩ := hp
  refine s_iinc (v := 14) (L2 := [some (AR 64), some (AL x1), none, some (AI 14), some (AI 60)]) E dJ7_fill_d0a16_16 rfl (by decide) (by decide) rfl ?_
  refine s_goto (tgt := 6) E dJ7_fill_d0a16_19 (by decide) ?_
  refine s_iload_n E dJ7_fill_d0a16_6 rfl rfl ?_
  refine s_iload E dJ7_fill_d0a16_7 rfl ?_
  refine s_icmp_ge (tgt := 22) E dJ7_fill_d0a16_9 (by decide) (fun hh => absurd hh (by decide)) (fun _ => ?_)
  refine s_aload_n E dJ7_fill_d0a16_12 rfl rfl ?_
  refine s_iload_n E dJ7_fill_d0a16_13 rfl rfl ?_
  refine s_lload_n E dJ7_fill_d0a16_14 rfl rfl ?_
  refine s_last E rfl (ltn hg_14_0.1 (by decide)) (vp_c (by decide)) dJ7_fill_d0a16_15 ?_
  refine s_gen (P := fun v => RfC v ∧ FrM v ∧ RfM v) ⟨(fc_upL hg_14_0), (fc_upL hg_14_1), (fc_upL hg_14_2)⟩ (fun g_15 hp => ?_)
  obtain ⟨hg_15_0, hg_15_1, hg_15_2⟩ := hp
  refine s_iinc (v := 15) (L2 := [some (AR 64), some (AL x1), none, some (AI 15), some (AI 60)]) E dJ7_fill_d0a16_16 rfl (by decide) (by decide) rfl ?_
  refine s_goto (tgt := 6) E dJ7_fill_d0a16_19 (by decide) ?_
  refine s_iload_n E dJ7_fill_d0a16_6 rfl rfl ?_
  refine s_iload E dJ7_fill_d0a16_7 rfl ?_
  refine s_icmp_ge (tgt := 22) E dJ7_fill_d0a16_9 (by decide) (fun hh => absurd hh (by decide)) (fun _ => ?_)
  refine s_aload_n E dJ7_fill_d0a16_12 rfl rfl ?_
  refine s_iload_n E dJ7_fill_d0a16_13 rfl rfl ?_
  refine s_lload_n E dJ7_fill_d0a16_14 rfl rfl ?_
  refine s_last E rfl (ltn hg_15_0.1 (by decide)) (vp_c (by decide)) dJ7_fill_d0a16_15 ?_
  refine s_gen (P := fun v => RfC v ∧ FrM v ∧ RfM v) ⟨(fc_upL hg_15_0), (fc_upL hg_15_1), (fc_upL hg_15_2)⟩ (fun g_16 hp => ?_)
  obtain ⟨hg_16_0, hg_16_1, hg_16_2⟩ := hp
  refine s_iinc (v := 16) (L2 := [some (AR 64), some (AL x1), none, some (AI 16), some (AI 60)]) E dJ7_fill_d0a16_16 rfl (by decide) (by decide) rfl ?_
  refine s_goto (tgt := 6) E dJ7_fill_d0a16_19 (by decide) ?_
  refine s_iload_n E dJ7_fill_d0a16_6 rfl rfl ?_
  refine s_iload E dJ7_fill_d0a16_7 rfl ?_
  refine s_icmp_ge (tgt := 22) E dJ7_fill_d0a16_9 (by decide) (fun hh => absurd hh (by decide)) (fun _ => ?_)
  refine s_aload_n E dJ7_fill_d0a16_12 rfl rfl ?_
  refine s_iload_n E dJ7_fill_d0a16_13 rfl rfl ?_
  refine s_lload_n E dJ7_fill_d0a16_14 rfl rfl ?_
  refine s_last E rfl (ltn hg_16_0.1 (by decide)) (vp_c (by decide)) dJ7_fill_d0a16_15 ?_
  refine s_gen (P := fun v => RfC v ∧ FrM v ∧ RfM v) ⟨(fc_upL hg_16_0), (fc_upL hg_16_1), (fc_upL hg_16_2)⟩ (fun g_17 hp => ?_)
  obtain ⟨hg_17_0, hg_17_1, hg_17_2⟩ := hp
  refine s_iinc (v := 17) (L2 := [some (AR 64), some (AL x1), none, some (AI 17), some (AI 60)]) E dJ7_fill_d0a16_16 rfl (by decide) (by decide) rfl ?_
  refine s_goto (tgt := 6) E dJ7_fill_d0a16_19 (by decide) ?_
  refine s_iload_n E dJ7_fill_d0a16_6 rfl rfl ?_
  refine s_iload E dJ7_fill_d0a16_7 rfl ?_
  refine s_icmp_ge (tgt := 22) E dJ7_fill_d0a16_9 (by decide) (fun hh => absurd hh (by decide)) (fun _ => ?_)
  refine s_aload_n E dJ7_fill_d0a16_12 rfl rfl ?_
  refine s_iload_n E dJ7_fill_d0a16_13 rfl rfl ?_
  refine s_lload_n E dJ7_fill_d0a16_14 rfl rfl ?_
  refine s_last E rfl (ltn hg_17_0.1 (by decide)) (vp_c (by decide)) dJ7_fill_d0a16_15 ?_
  refine s_gen (P := fun v => RfC v ∧ FrM v ∧ RfM v) ⟨(fc_upL hg_17_0), (fc_upL hg_17_1), (fc_upL hg_17_2)⟩ (fun g_18 hp => ?_)
  obtain ⟨hg_18_0, hg_18_1, hg_18_2⟩ := hp
  refine s_iinc (v := 18) (L2 := [some (AR 64), some (AL x1), none, some (AI 18), some (AI 60)]) E dJ7_fill_d0a16_16 rfl (by decide) (by decide) rfl ?_
  refine s_goto (tgt := 6) E dJ7_fill_d0a16_19 (by decide) ?_
  refine s_iload_n E dJ7_fill_d0a16_6 rfl rfl ?_
  refine s_iload E dJ7_fill_d0a16_7 rfl ?_
  refine s_icmp_ge (tgt := 22) E dJ7_fill_d0a16_9 (by decide) (fun hh => absurd hh (by decide)) (fun _ => ?_)
  refine s_aload_n E dJ7_fill_d0a16_12 rfl rfl ?_
  refine s_iload_n E dJ7_fill_d0a16_13 rfl rfl ?_
  refine s_lload_n E dJ7_fill_d0a16_14 rfl rfl ?_
  refine s_last E rfl (ltn hg_18_0.1 (by decide)) (vp_c (by decide)) dJ7_fill_d0a16_15 ?_
  refine s_gen (P := fun v => RfC v ∧ FrM v ∧ RfM v) ⟨(fc_upL hg_18_0), (fc_upL hg_18_1), (fc_upL hg_18_2)⟩ (fun g_19 hp => ?_)
  obtain ⟨hg_19_0, hg_19_1, hg_19_2⟩ := hp
  refine s_iinc (v := 19) (L2 := [some (AR 64), some (AL x1), none, some (AI 19), some (AI 60)]) E dJ7_fill_d0a16_16 rfl (by decide) (by decide) rfl ?_
  refine s_goto (tgt := 6) E dJ7_fill_d0a16_19 (by decide) ?_
  refine s_iload_n E dJ7_fill_d0a16_6 rfl rfl ?_
  refine s_iload E dJ7_fill_d0a16_7 rfl ?_
  refine s_icmp_ge (tgt := 22) E dJ7_fill_d0a16_9 (by decide) (fun hh => absurd hh (by decide)) (fun _ => ?_)
  refine s_aload_n E dJ7_fill_d0a16_12 rfl rfl ?_
  refine s_iload_n E dJ7_fill_d0a16_13 rfl rfl ?_
  refine s_lload_n E dJ7_fill_d0a16_14 rfl rfl ?_
  refine s_last E rfl (ltn hg_19_0.1 (by decide)) (vp_c (by decide)) dJ7_fill_d0a16_15 ?_
  refine s_gen (P := fun v => RfC v ∧ FrM v ∧ RfM v) ⟨(fc_upL hg_19_0), (fc_upL hg_19_1), (fc_upL hg_19_2)⟩ (fun g_20 hp => ?_)
  obtain ⟨hg_20_0, hg_20_1, hg_20_2⟩ := hp
  refine s_iinc (v := 20) (L2 := [some (AR 64), some (AL x1), none, some (AI 20), some (AI 60)]) E dJ7_fill_d0a16_16 rfl (by decide) (by decide) rfl ?_
  refine s_goto (tgt := 6) E dJ7_fill_d0a16_19 (by decide) ?_
  refine s_iload_n E dJ7_fill_d0a16_6 rfl rfl ?_
  refine s_iload E dJ7_fill_d0a16_7 rfl ?_
  refine s_icmp_ge (tgt := 22) E dJ7_fill_d0a16_9 (by decide) (fun hh => absurd hh (by decide)) (fun _ => ?_)
  refine s_aload_n E dJ7_fill_d0a16_12 rfl rfl ?_
  refine s_iload_n E dJ7_fill_d0a16_13 rfl rfl ?_
  refine s_lload_n E dJ7_fill_d0a16_14 rfl rfl ?_
  refine s_last E rfl (ltn hg_20_0.1 (by decide)) (vp_c (by decide)) dJ7_fill_d0a16_15 ?_
  refine s_gen (P := fun v => RfC v ∧ FrM v ∧ RfM v) ⟨(fc_upL hg_20_0), (fc_upL hg_20_1), (fc_upL hg_20_2)⟩ (fun g_21 hp => ?_)
  obtain ⟨hg_21_0, hg_21_1, hg_21_2⟩ := hp
  refine s_iinc (v := 21) (L2 := [some (AR 64), some (AL x1), none, some (AI 21), some (AI 60)]) E dJ7_fill_d0a16_16 rfl (by decide) (by decide) rfl ?_
  refine s_goto (tgt := 6) E dJ7_fill_d0a16_19 (by decide) ?_
  refine s_iload_n E dJ7_fill_d0a16_6 rfl rfl ?_
  refine s_iload E dJ7_fill_d0a16_7 rfl ?_
  refine s_icmp_ge (tgt := 22) E dJ7_fill_d0a16_9 (by decide) (fun hh => absurd hh (by decide)) (fun _ => ?_)
  refine s_aload_n E dJ7_fill_d0a16_12 rfl rfl ?_
  refine s_iload_n E dJ7_fill_d0a16_13 rfl rfl ?_
  refine s_lload_n E dJ7_fill_d0a16_14 rfl rfl ?_
  refine s_last E rfl (ltn hg_21_0.1 (by decide)) (vp_c (by decide)) dJ7_fill_d0a16_15 ?_
  refine s_gen (P := fun v => RfC v ∧ FrM v ∧ RfM v) ⟨(fc_upL hg_21_0), (fc_upL hg_21_1), (fc_upL hg_21_2)⟩ (fun g_22 hp => ?_)
  obtain ⟨hg_22_0, hg_22_1, hg_22_2⟩ := hp
  refine s_iinc (v := 22) (L2 := [some (AR 64), some (AL x1), none, some (AI 22), some (AI 60)]) E dJ7_fill_d0a16_16 rfl (by decide) (by decide) rfl ?_
  refine s_goto (tgt := 6) E dJ7_fill_d0a16_19 (by decide) ?_
  refine s_iload_n E dJ7_fill_d0a16_6 rfl rfl ?_
  refine s_iload E dJ7_fill_d0a16_7 rfl ?_
  refine s_icmp_ge (tgt := 22) E dJ7_fill_d0a16_9 (by decide) (fun hh => absurd hh (by decide)) (fun _ => ?_)
  refine s_aload_n E dJ7_fill_d0a16_12 rfl rfl ?_
  refine s_iload_n E dJ7_fill_d0a16_13 rfl rfl ?_
  refine s_lload_n E dJ7_fill_d0a16_14 rfl rfl ?_
  refine s_last E rfl (ltn hg_22_0.1 (by decide)) (vp_c (by decide)) dJ7_fill_d0a16_15 ?_
  refine s_gen (P := fun v => RfC v ∧ FrM v ∧ RfM v) ⟨(fc_upL hg_22_0), (fc_upL hg_22_1), (fc_upL hg_22_2)⟩ (fun g_23 hp => ?_)
  obtain ⟨hg_23_0, hg_23_1, hg_23_2⟩ := hp
  refine s_iinc (v := 23) (L2 := [some (AR 64), some (AL x1), none, some (AI 23), some (AI 60)]) E dJ7_fill_d0a16_16 rfl (by decide) (by decide) rfl ?_
  refine s_goto (tgt := 6) E dJ7_fill_d0a16_19 (by decide) ?_
  refine s_iload_n E dJ7_fill_d0a16_6 rfl rfl ?_
  refine s_iload E dJ7_fill_d0a16_7 rfl ?_
  refine s_icmp_ge (tgt := 22) E dJ7_fill_d0a16_9 (by decide) (fun hh => absurd hh (by decide)) (fun _ => ?_)
  refine s_aload_n E dJ7_fill_d0a16_12 rfl rfl ?_
  refine s_iload_n E dJ7_fill_d0a16_13 rfl rfl ?_
  refine s_lload_n E dJ7_fill_d0a16_14 rfl rfl ?_
  refine s_last E rfl (ltn hg_23_0.1 (by decide)) (vp_c (by decide)) dJ7_fill_d0a16_15 ?_
  refine s_gen (P := fun v => RfC v ∧ FrM v ∧ RfM v) ⟨(fc_upL hg_23_0), (fc_upL hg_23_1), (fc_upL hg_23_2)⟩ (fun g_24 hp => ?_)
  obtain ⟨hg_24_0, hg_24_1, hg_24_2⟩ := hp
  refine s_iinc (v := 24) (L2 := [some (AR 64), some (AL x1), none, some (AI 24), some (AI 60)]) E dJ7_fill_d0a16_16 rfl (by decide) (by decide) rfl ?_
  refine s_goto (tgt := 6) E dJ7_fill_d0a16_19 (by decide) ?_
  refine s_iload_n E dJ7_fill_d0a16_6 rfl rfl ?_
  refine s_iload E dJ7_fill_d0a16_7 rfl ?_
  refine s_icmp_ge (tgt := 22) E dJ7_fill_d0a16_9 (by decide) (fun hh => absurd hh (by decide)) (fun _ => ?_)
  refine s_aload_n E dJ7_fill_d0a16_12 rfl rfl ?_
  refine s_iload_n E dJ7_fill_d0a16_13 rfl rfl ?_
  refine s_lload_n E dJ7_fill_d0a16_14 rfl rfl ?_
  refine s_last E rfl (ltn hg_24_0.1 (by decide)) (vp_c (by decide)) dJ7_fill_d0a16_15 ?_
  refine s_gen (P := fun v => RfC v ∧ FrM v ∧ RfM v) ⟨(fc_upL hg_24_0), (fc_upL hg_24_1), (fc_upL hg_24_2)⟩ (fun g_25 hp => ?_)
  obtain ⟨hg_25_0, hg_25_1, hg_25_2⟩ := hp
  refine s_iinc (v := 25) (L2 := [some (AR 64), some (AL x1), none, some (AI 25), some (AI 60)]) E dJ7_fill_d0a16_16 rfl (by decide) (by decide) rfl ?_
  refine s_goto (tgt := 6) E dJ7_fill_d0a16_19 (by decide) ?_
  refine s_iload_n E dJ7_fill_d0a16_6 rfl rfl ?_
  refine s_iload E dJ7_fill_d0a16_7 rfl ?_
  refine s_icmp_ge (tgt := 22) E dJ7_fill_d0a16_9 (by decide) (fun hh => absurd hh (by decide)) (fun _ => ?_)
  refine s_aload_n E dJ7_fill_d0a16_12 rfl rfl ?_
  refine s_iload_n E dJ7_fill_d0a16_13 rfl rfl ?_
  refine s_lload_n E dJ7_fill_d0a16_14 rfl rfl ?_
  refine s_last E rfl (ltn hg_25_0.1 (by decide)) (vp_c (by decide)) dJ7_fill_d0a16_15 ?_
  refine s_gen (P := fun v => RfC v ∧ FrM v ∧ RfM v) ⟨(fc_upL hg_25_0), (fc_upL hg_25_1), (fc_upL hg_25_2)⟩ (fun g_26 hp => ?_)
  obtain ⟨hg_26_0, hg_26_1, hg_26_2⟩ := hp
  refine s_iinc (v := 26) (L2 := [some (AR 64), some (AL x1), none, some (AI 26), some (AI 60)]) E dJ7_fill_d0a16_16 rfl (by decide) (by decide) rfl ?_
  refine s_goto (tgt := 6) E dJ7_fill_d0a16_19 (by decide) ?_
  refine s_iload_n E dJ7_fill_d0a16_6 rfl rfl ?_
  refine s_iload E dJ7_fill_d0a16_7 rfl ?_
  refine s_icmp_ge (tgt := 22) E dJ7_fill_d0a16_9 (by decide) (fun hh => absurd hh (by decide)) (fun _ => ?_)
  refine s_aload_n E dJ7_fill_d0a16_12 rfl rfl ?_
  refine s_iload_n E dJ7_fill_d0a16_13 rfl rfl ?_
  refine s_lload_n E dJ7_fill_d0a16_14 rfl rfl ?_
  refine s_last E rfl (ltn hg_26_0.1 (by decide)) (vp_c (by decide)) dJ7_fill_d0a16_15 ?_
  refine s_gen (P := fun v => RfC v ∧ FrM v ∧ RfM v) ⟨(fc_upL hg_26_0), (fc_upL hg_26_1), (fc_upL hg_26_2)⟩ (fun g_27 hp => ?_)
  obtain ⟨hg_27_0, hg_27_1, hg_27_2⟩ := hp
  refine s_iinc (v := 27) (L2 := [some (AR 64), some (AL x1), none, some (AI 27), some (AI 60)]) E dJ7_fill_d0a16_16 rfl (by decide) (by decide) rfl ?_
  refine s_goto (tgt := 6) E dJ7_fill_d0a16_19 (by decide) ?_
  refine s_iload_n E dJ7_fill_d0a16_6 rfl rfl ?_
  refine s_iload E dJ7_fill_d0a16_7 rfl ?_
  refine s_icmp_ge (tgt := 22) E dJ7_fill_d0a16_9 (by decide) (fun hh => absurd hh (by decide)) (fun _ => ?_)
  refine s_aload_n E dJ7_fill_d0a16_12 rfl rfl ?_
  refine s_iload_n E dJ7_fill_d0a16_13 rfl rfl ?_
  refine s_lload_n E dJ7_fill_d0a16_14 rfl rfl ?_
  refine s_last E rfl (ltn hg_27_0.1 (by decide)) (vp_c (by decide)) dJ7_fill_d0a16_15 ?_
  refine s_gen (P := fun v => RfC v ∧ FrM v ∧ RfM v) ⟨(fc_upL hg_27_0), (fc_upL hg_27_1), (fc_upL hg_27_2)⟩ (fun g_28 hp => ?_)
  obtain ⟨hg_28_0, hg_28_1, hg_28_2⟩ := hp
  refine s_iinc (v := 28) (L2 := [some (AR 64), some (AL x1), none, some (AI 28), some (AI 60)]) E dJ7_fill_d0a16_16 rfl (by decide) (by decide) rfl ?_
  refine s_goto (tgt := 6) E dJ7_fill_d0a16_19 (by decide) ?_
  refine s_iload_n E dJ7_fill_d0a16_6 rfl rfl ?_
  refine s_iload E dJ7_fill_d0a16_7 rfl ?_
  refine s_icmp_ge (tgt := 22) E dJ7_fill_d0a16_9 (by decide) (fun hh => absurd hh (by decide)) (fun _ => ?_)
  refine s_aload_n E dJ7_fill_d0a16_12 rfl rfl ?_
  refine s_iload_n E dJ7_fill_d0a16_13 rfl rfl ?_
  refine s_lload_n E dJ7_fill_d0a16_14 rfl rfl ?_
  refine s_last E rfl (ltn hg_28_0.1 (by decide)) (vp_c (by decide)) dJ7_fill_d0a16_15 ?_
  refine s_gen (P := fun v => RfC v ∧ FrM v ∧ RfM v) ⟨(fc_upL hg_28_0), (fc_upL hg_28_1), (fc_upL hg_28_2)⟩ (fun g_29 hp => ?_)
  obtain ⟨hg_29_0, hg_29_1, hg_29_2⟩ := hp
  refine s_iinc (v := 29) (L2 := [some (AR 64), some (AL x1), none, some (AI 29), some (AI 60)]) E dJ7_fill_d0a16_16 rfl (by decide) (by decide) rfl ?_
  refine s_goto (tgt := 6) E dJ7_fill_d0a16_19 (by decide) ?_
  refine s_iload_n E dJ7_fill_d0a16_6 rfl rfl ?_
  refine s_iload E dJ7_fill_d0a16_7 rfl ?_
  refine s_icmp_ge (tgt := 22) E dJ7_fill_d0a16_9 (by decide) (fun hh => absurd hh (by decide)) (fun _ => ?_)
  refine s_aload_n E dJ7_fill_d0a16_12 rfl rfl ?_
  refine s_iload_n E dJ7_fill_d0a16_13 rfl rfl ?_
  refine s_lload_n E dJ7_fill_d0a16_14 rfl rfl ?_
  refine s_last E rfl (ltn hg_29_0.1 (by decide)) (vp_c (by decide)) dJ7_fill_d0a16_15 ?_
  refine s_gen (P := fun v => RfC v ∧ FrM v ∧ RfM v) ⟨(fc_upL hg_29_0), (fc_upL hg_29_1), (fc_upL hg_29_2)⟩ (fun g_30 hp => ?_)
  obtain ⟨hg_30_0, hg_30_1, hg_30_2⟩ := hp
  refine s_iinc (v := 30) (L2 := [some (AR 64), some (AL x1), none, some (AI 30), some (AI 60)]) E dJ7_fill_d0a16_16 rfl (by decide) (by decide) rfl ?_
  refine s_goto (tgt := 6) E dJ7_fill_d0a16_19 (by decide) ?_
  refine s_iload_n E dJ7_fill_d0a16_6 rfl rfl ?_
  refine s_iload E dJ7_fill_d0a16_7 rfl ?_
  refine s_icmp_ge (tgt := 22) E dJ7_fill_d0a16_9 (by decide) (fun hh => absurd hh (by decide)) (fun _ => ?_)
  refine s_aload_n E dJ7_fill_d0a16_12 rfl rfl ?_
  refine s_iload_n E dJ7_fill_d0a16_13 rfl rfl ?_
  refine s_lload_n E dJ7_fill_d0a16_14 rfl rfl ?_
  refine s_last E rfl (ltn hg_30_0.1 (by decide)) (vp_c (by decide)) dJ7_fill_d0a16_15 ?_
  refine s_gen (P := fun v => RfC v ∧ FrM v ∧ RfM v) ⟨(fc_upL hg_30_0), (fc_upL hg_30_1), (fc_upL hg_30_2)⟩ (fun g_31 hp => ?_)
  obtain ⟨hg_31_0, hg_31_1, hg_31_2⟩ := hp
  refine s_iinc (v := 31) (L2 := [some (AR 64), some (AL x1), none, some (AI 31), some (AI 60)]) E dJ7_fill_d0a16_16 rfl (by decide) (by decide) rfl ?_
  refine s_goto (tgt := 6) E dJ7_fill_d0a16_19 (by decide) ?_
  refine s_iload_n E dJ7_fill_d0a16_6 rfl rfl ?_
  refine s_iload E dJ7_fill_d0a16_7 rfl ?_
  refine s_icmp_ge (tgt := 22) E dJ7_fill_d0a16_9 (by decide) (fun hh => absurd hh (by decide)) (fun _ => ?_)
  refine s_aload_n E dJ7_fill_d0a16_12 rfl rfl ?_
  refine s_iload_n E dJ7_fill_d0a16_13 rfl rfl ?_
  refine s_lload_n E dJ7_fill_d0a16_14 rfl rfl ?_
  refine s_last E rfl (ltn hg_31_0.1 (by decide)) (vp_c (by decide)) dJ7_fill_d0a16_15 ?_
  refine s_gen (P := fun v => RfC v ∧ FrM v ∧ RfM v) ⟨(fc_upL hg_31_0), (fc_upL hg_31_1), (fc_upL hg_31_2)⟩ (fun g_32 hp => ?_)
  obtain ⟨hg_32_0, hg_32_1, hg_32_2⟩ := hp
  refine s_iinc (v := 32) (L2 := [some (AR 64), some (AL x1), none, some (AI 32), some (AI 60)]) E dJ7_fill_d0a16_16 rfl (by decide) (by decide) rfl ?_
  refine s_goto (tgt := 6) E dJ7_fill_d0a16_19 (by decide) ?_
  refine s_iload_n E dJ7_fill_d0a16_6 rfl rfl ?_
  refine s_iload E dJ7_fill_d0a16_7 rfl ?_
  refine s_icmp_ge (tgt := 22) E dJ7_fill_d0a16_9 (by decide) (fun hh => absurd hh (by decide)) (fun _ => ?_)
  refine s_aload_n E dJ7_fill_d0a16_12 rfl rfl ?_
  refine s_iload_n E dJ7_fill_d0a16_13 rfl rfl ?_
  refine s_lload_n E dJ7_fill_d0a16_14 rfl rfl ?_
  refine s_last E rfl (ltn hg_32_0.1 (by decide)) (vp_c (by decide)) dJ7_fill_d0a16_15 ?_
  refine s_gen (P := fun v => RfC v ∧ FrM v ∧ RfM v) ⟨(fc_upL hg_32_0), (fc_upL hg_32_1), (fc_upL hg_32_2)⟩ (fun g_33 hp => ?_)
  obtain ⟨hg_33_0, hg_33_1, hg_33_2⟩ := hp
  refine s_iinc (v := 33) (L2 := [some (AR 64), some (AL x1), none, some (AI 33), some (AI 60)]) E dJ7_fill_d0a16_16 rfl (by decide) (by decide) rfl ?_
  refine s_goto (tgt := 6) E dJ7_fill_d0a16_19 (by decide) ?_
  refine s_iload_n E dJ7_fill_d0a16_6 rfl rfl ?_
  refine s_iload E dJ7_fill_d0a16_7 rfl ?_
  refine s_icmp_ge (tgt := 22) E dJ7_fill_d0a16_9 (by decide) (fun hh => absurd hh (by decide)) (fun _ => ?_)
  refine s_aload_n E dJ7_fill_d0a16_12 rfl rfl ?_
  refine s_iload_n E dJ7_fill_d0a16_13 rfl rfl ?_
  refine s_lload_n E dJ7_fill_d0a16_14 rfl rfl ?_
  refine s_last E rfl (ltn hg_33_0.1 (by decide)) (vp_c (by decide)) dJ7_fill_d0a16_15 ?_
  refine s_gen (P := fun v => RfC v ∧ FrM v ∧ RfM v) ⟨(fc_upL hg_33_0), (fc_upL hg_33_1), (fc_upL hg_33_2)⟩ (fun g_34 hp => ?_)
  obtain ⟨hg_34_0, hg_34_1, hg_34_2⟩ := hp
  refine s_iinc (v := 34) (L2 := [some (AR 64), some (AL x1), none, some (AI 34), some (AI 60)]) E dJ7_fill_d0a16_16 rfl (by decide) (by decide) rfl ?_
  refine s_goto (tgt := 6) E dJ7_fill_d0a16_19 (by decide) ?_
  refine s_iload_n E dJ7_fill_d0a16_6 rfl rfl ?_
  refine s_iload E dJ7_fill_d0a16_7 rfl ?_
  refine s_icmp_ge (tgt := 22) E dJ7_fill_d0a16_9 (by decide) (fun hh => absurd hh (by decide)) (fun _ => ?_)
  refine s_aload_n E dJ7_fill_d0a16_12 rfl rfl ?_
  refine s_iload_n E dJ7_fill_d0a16_13 rfl rfl ?_
  refine s_lload_n E dJ7_fill_d0a16_14 rfl rfl ?_
  refine s_last E rfl (ltn hg_34_0.1 (by decide)) (vp_c (by decide)) dJ7_fill_d0a16_15 ?_
  refine s_gen (P := fun v => RfC v ∧ FrM v ∧ RfM v) ⟨(fc_upL hg_34_0), (fc_upL hg_34_1), (fc_upL hg_34_2)⟩ (fun g_35 hp => ?_)
  obtain ⟨hg_35_0, hg_35_1, hg_35_2⟩ := hp
  refine s_iinc (v := 35) (L2 := [some (AR 64), some (AL x1), none, some (AI 35), some (AI 60)]) E dJ7_fill_d0a16_16 rfl (by decide) (by decide) rfl ?_
  refine s_goto (tgt := 6) E dJ7_fill_d0a16_19 (by decide) ?_
  refine s_iload_n E dJ7_fill_d0a16_6 rfl rfl ?_
  refine s_iload E dJ7_fill_d0a16_7 rfl ?_
  refine s_icmp_ge (tgt := 22) E dJ7_fill_d0a16_9 (by decide) (fun hh => absurd hh (by decide)) (fun _ => ?_)
  refine s_aload_n E dJ7_fill_d0a16_12 rfl rfl ?_
  refine s_iload_n E dJ7_fill_d0a16_13 rfl rfl ?_
  refine s_lload_n E dJ7_fill_d0a16_14 rfl rfl ?_
  refine s_last E rfl (ltn hg_35_0.1 (by decide)) (vp_c (by decide)) dJ7_fill_d0a16_15 ?_
  refine s_gen (P := fun v => RfC v ∧ FrM v ∧ RfM v) ⟨(fc_upL hg_35_0), (fc_upL hg_35_1), (fc_upL hg_35_2)⟩ (fun g_36 hp => ?_)
  obtain ⟨hg_36_0, hg_36_1, hg_36_2⟩ := hp
  refine s_iinc (v := 36) (L2 := [some (AR 64), some (AL x1), none, some (AI 36), some (AI 60)]) E dJ7_fill_d0a16_16 rfl (by decide) (by decide) rfl ?_
  refine s_goto (tgt := 6) E dJ7_fill_d0a16_19 (by decide) ?_
  refine s_iload_n E dJ7_fill_d0a16_6 rfl rfl ?_
  refine s_iload E dJ7_fill_d0a16_7 rfl ?_
  refine s_icmp_ge (tgt := 22) E dJ7_fill_d0a16_9 (by decide) (fun hh => absurd hh (by decide)) (fun _ => ?_)
  refine s_aload_n E dJ7_fill_d0a16_12 rfl rfl ?_
  refine s_iload_n E dJ7_fill_d0a16_13 rfl rfl ?_
  refine s_lload_n E dJ7_fill_d0a16_14 rfl rfl ?_
  refine s_last E rfl (ltn hg_36_0.1 (by decide)) (vp_c (by decide)) dJ7_fill_d0a16_15 ?_
  refine s_gen (P := fun v => RfC v ∧ FrM v ∧ RfM v) ⟨(fc_upL hg_36_0), (fc_upL hg_36_1), (fc_upL hg_36_2)⟩ (fun g_37 hp => ?_)
  obtain ⟨hg_37_0, hg_37_1, hg_37_2⟩ := hp
  refine s_iinc (v := 37) (L2 := [some (AR 64), some (AL x1), none, some (AI 37), some (AI 60)]) E dJ7_fill_d0a16_16 rfl (by decide) (by decide) rfl ?_
  refine s_goto (tgt := 6) E dJ7_fill_d0a16_19 (by decide) ?_
  refine s_iload_n E dJ7_fill_d0a16_6 rfl rfl ?_
  refine s_iload E dJ7_fill_d0a16_7 rfl ?_
  refine s_icmp_ge (tgt := 22) E dJ7_fill_d0a16_9 (by decide) (fun hh => absurd hh (by decide)) (fun _ => ?_)
  refine s_aload_n E dJ7_fill_d0a16_12 rfl rfl ?_
  refine s_iload_n E dJ7_fill_d0a16_13 rfl rfl ?_
  refine s_lload_n E dJ7_fill_d0a16_14 rfl rfl ?_
  refine s_last E rfl (ltn hg_37_0.1 (by decide)) (vp_c (by decide)) dJ7_fill_d0a16_15 ?_
  refine s_gen (P := fun v => RfC v ∧ FrM v ∧ RfM v) ⟨(fc_upL hg_37_0), (fc_upL hg_37_1), (fc_upL hg_37_2)⟩ (fun g_38 hp => ?_)
  obtain ⟨hg_38_0, hg_38_1, hg_38_2⟩ := hp
  refine s_iinc (v := 38) (L2 := [some (AR 64), some (AL x1), none, some (AI 38), some (AI 60)]) E dJ7_fill_d0a16_16 rfl (by decide) (by decide) rfl ?_
  refine s_goto (tgt := 6) E dJ7_fill_d0a16_19 (by decide) ?_
  refine s_iload_n E dJ7_fill_d0a16_6 rfl rfl ?_
  refine s_iload E dJ7_fill_d0a16_7 rfl ?_
  refine s_icmp_ge (tgt := 22) E dJ7_fill_d0a16_9 (by decide) (fun hh => absurd hh (by decide)) (fun _ => ?_)
  refine s_aload_n E dJ7_fill_d0a16_12 rfl rfl ?_
  refine s_iload_n E dJ7_fill_d0a16_13 rfl rfl ?_
  refine s_lload_n E dJ7_fill_d0a16_14 rfl rfl ?_
  refine s_last E rfl (ltn hg_38_0.1 (by decide)) (vp_c (by decide)) dJ7_fill_d0a16_15 ?_
  refine s_gen (P := fun v => RfC v ∧ FrM v ∧ RfM v) ⟨(fc_upL hg_38_0), (fc_upL hg_38_1), (fc_upL hg_38_2)⟩ (fun g_39 hp => ?_)
  obtain ⟨hg_39_0, hg_39_1, hg_39_2⟩ := hp
  refine s_iinc (v := 39) (L2 := [some (AR 64), some (AL x1), none, some (AI 39), some (AI 60)]) E dJ7_fill_d0a16_16 rfl (by decide) (by decide) rfl ?_
  refine s_goto (tgt := 6) E dJ7_fill_d0a16_19 (by decide) ?_
  refine s_iload_n E dJ7_fill_d0a16_6 rfl rfl ?_
  refine s_iload E dJ7_fill_d0a16_7 rfl ?_
  refine s_icmp_ge (tgt := 22) E dJ7_fill_d0a16_9 (by decide) (fun hh => absurd hh (by decide)) (fun _ => ?_)
  refine s_aload_n E dJ7_fill_d0a16_12 rfl rfl ?_
  refine s_iload_n E dJ7_fill_d0a16_13 rfl rfl ?_
  refine s_lload_n E dJ7_fill_d0a16_14 rfl rfl ?_
  refine s_last E rfl (ltn hg_39_0.1 (by decide)) (vp_c (by decide)) dJ7_fill_d0a16_15 ?_
  refine s_gen (P := fun v => RfC v ∧ FrM v ∧ RfM v) ⟨(fc_upL hg_39_0), (fc_upL hg_39_1), (fc_upL hg_39_2)⟩ (fun g_40 hp => ?_)
  obtain ⟨hg_40_0, hg_40_1, hg_40_2⟩ := hp
  refine s_iinc (v := 40) (L2 := [some (AR 64), some (AL x1), none, some (AI 40), some (AI 60)]) E dJ7_fill_d0a16_16 rfl (by decide) (by decide) rfl ?_
  refine s_goto (tgt := 6) E dJ7_fill_d0a16_19 (by decide) ?_
  refine s_iload_n E dJ7_fill_d0a16_6 rfl rfl ?_
  refine s_iload E dJ7_fill_d0a16_7 rfl ?_
  refine s_icmp_ge (tgt := 22) E dJ7_fill_d0a16_9 (by decide) (fun hh => absurd hh (by decide)) (fun _ => ?_)
  refine s_aload_n E dJ7_fill_d0a16_12 rfl rfl ?_
  refine s_iload_n E dJ7_fill_d0a16_13 rfl rfl ?_
  refine s_lload_n E dJ7_fill_d0a16_14 rfl rfl ?_
  refine s_last E rfl (ltn hg_40_0.1 (by decide)) (vp_c (by decide)) dJ7_fill_d0a16_15 ?_
  refine s_gen (P := fun v => RfC v ∧ FrM v ∧ RfM v) ⟨(fc_upL hg_40_0), (fc_upL hg_40_1), (fc_upL hg_40_2)⟩ (fun g_41 hp => ?_)
  obtain ⟨hg_41_0, hg_41_1, hg_41_2⟩ := hp
  refine s_iinc (v := 41) (L2 := [some (AR 64), some (AL x1), none, some (AI 41), some (AI 60)]) E dJ7_fill_d0a16_16 rfl (by decide) (by decide) rfl ?_
  refine s_goto (tgt := 6) E dJ7_fill_d0a16_19 (by decide) ?_
  refine s_iload_n E dJ7_fill_d0a16_6 rfl rfl ?_
  refine s_iload E dJ7_fill_d0a16_7 rfl ?_
  refine s_icmp_ge (tgt := 22) E dJ7_fill_d0a16_9 (by decide) (fun hh => absurd hh (by decide)) (fun _ => ?_)
  refine s_aload_n E dJ7_fill_d0a16_12 rfl rfl ?_
  refine s_iload_n E dJ7_fill_d0a16_13 rfl rfl ?_
  refine s_lload_n E dJ7_fill_d0a16_14 rfl rfl ?_
  refine s_last E rfl (ltn hg_41_0.1 (by decide)) (vp_c (by decide)) dJ7_fill_d0a16_15 ?_
  refine s_gen (P := fun v => RfC v ∧ FrM v ∧ RfM v) ⟨(fc_upL hg_41_0), (fc_upL hg_41_1), (fc_upL hg_41_2)⟩ (fun g_42 hp => ?_)
  obtain ⟨hg_42_0, hg_42_1, hg_42_2⟩ := hp
  refine s_iinc (v := 42) (L2 := [some (AR 64), some (AL x1), none, some (AI 42), some (AI 60)]) E dJ7_fill_d0a16_16 rfl (by decide) (by decide) rfl ?_
  refine s_goto (tgt := 6) E dJ7_fill_d0a16_19 (by decide) ?_
  refine s_iload_n E dJ7_fill_d0a16_6 rfl rfl ?_
  refine s_iload E dJ7_fill_d0a16_7 rfl ?_
  refine s_icmp_ge (tgt := 22) E dJ7_fill_d0a16_9 (by decide) (fun hh => absurd hh (by decide)) (fun _ => ?_)
  refine s_aload_n E dJ7_fill_d0a16_12 rfl rfl ?_
  refine s_iload_n E dJ7_fill_d0a16_13 rfl rfl ?_
  refine s_lload_n E dJ7_fill_d0a16_14 rfl rfl ?_
  refine s_last E rfl (ltn hg_42_0.1 (by decide)) (vp_c (by decide)) dJ7_fill_d0a16_15 ?_
  refine s_gen (P := fun v => RfC v ∧ FrM v ∧ RfM v) ⟨(fc_upL hg_42_0), (fc_upL hg_42_1), (fc_upL hg_42_2)⟩ (fun g_43 hp => ?_)
  obtain ⟨hg_43_0, hg_43_1, hg_43_2⟩ := hp
  refine s_iinc (v := 43) (L2 := [some (AR 64), some (AL x1), none, some (AI 43), some (AI 60)]) E dJ7_fill_d0a16_16 rfl (by decide) (by decide) rfl ?_
  refine s_goto (tgt := 6) E dJ7_fill_d0a16_19 (by decide) ?_
  refine s_iload_n E dJ7_fill_d0a16_6 rfl rfl ?_
  refine s_iload E dJ7_fill_d0a16_7 rfl ?_
  refine s_icmp_ge (tgt := 22) E dJ7_fill_d0a16_9 (by decide) (fun hh => absurd hh (by decide)) (fun _ => ?_)
  refine s_aload_n E dJ7_fill_d0a16_12 rfl rfl ?_
  refine s_iload_n E dJ7_fill_d0a16_13 rfl rfl ?_
  refine s_lload_n E dJ7_fill_d0a16_14 rfl rfl ?_
  refine s_last E rfl (ltn hg_43_0.1 (by decide)) (vp_c (by decide)) dJ7_fill_d0a16_15 ?_
  refine s_gen (P := fun v => RfC v ∧ FrM v ∧ RfM v) ⟨(fc_upL hg_43_0), (fc_upL hg_43_1), (fc_upL hg_43_2)⟩ (fun g_44 hp => ?_)
  obtain ⟨hg_44_0, hg_44_1, hg_44_2⟩ := hp
  refine s_iinc (v := 44) (L2 := [some (AR 64), some (AL x1), none, some (AI 44), some (AI 60)]) E dJ7_fill_d0a16_16 rfl (by decide) (by decide) rfl ?_
  refine s_goto (tgt := 6) E dJ7_fill_d0a16_19 (by decide) ?_
  refine s_iload_n E dJ7_fill_d0a16_6 rfl rfl ?_
  refine s_iload E dJ7_fill_d0a16_7 rfl ?_
  refine s_icmp_ge (tgt := 22) E dJ7_fill_d0a16_9 (by decide) (fun hh => absurd hh (by decide)) (fun _ => ?_)
  refine s_aload_n E dJ7_fill_d0a16_12 rfl rfl ?_
  refine s_iload_n E dJ7_fill_d0a16_13 rfl rfl ?_
  refine s_lload_n E dJ7_fill_d0a16_14 rfl rfl ?_
  refine s_last E rfl (ltn hg_44_0.1 (by decide)) (vp_c (by decide)) dJ7_fill_d0a16_15 ?_
  refine s_gen (P := fun v => RfC v ∧ FrM v ∧ RfM v) ⟨(fc_upL hg_44_0), (fc_upL hg_44_1), (fc_upL hg_44_2)⟩ (fun g_45 hp => ?_)
  obtain ⟨hg_45_0, hg_45_1, hg_45_2⟩ := hp
  refine s_iinc (v := 45) (L2 := [some (AR 64), some (AL x1), none, some (AI 45), some (AI 60)]) E dJ7_fill_d0a16_16 rfl (by decide) (by decide) rfl ?_
  refine s_goto (tgt := 6) E dJ7_fill_d0a16_19 (by decide) ?_
  refine s_iload_n E dJ7_fill_d0a16_6 rfl rfl ?_
  refine s_iload E dJ7_fill_d0a16_7 rfl ?_
  refine s_icmp_ge (tgt := 22) E dJ7_fill_d0a16_9 (by decide) (fun hh => absurd hh (by decide)) (fun _ => ?_)
  refine s_aload_n E dJ7_fill_d0a16_12 rfl rfl ?_
  refine s_iload_n E dJ7_fill_d0a16_13 rfl rfl ?_
  refine s_lload_n E dJ7_fill_d0a16_14 rfl rfl ?_
  refine s_last E rfl (ltn hg_45_0.1 (by decide)) (vp_c (by decide)) dJ7_fill_d0a16_15 ?_
  refine s_gen (P := fun v => RfC v ∧ FrM v ∧ RfM v) ⟨(fc_upL hg_45_0), (fc_upL hg_45_1), (fc_upL hg_45_2)⟩ (fun g_46 hp => ?_)
  obtain ⟨hg_46_0, hg_46_1, hg_46_2⟩ := hp
  refine s_iinc (v := 46) (L2 := [some (AR 64), some (AL x1), none, some (AI 46), some (AI 60)]) E dJ7_fill_d0a16_16 rfl (by decide) (by decide) rfl ?_
  refine s_goto (tgt := 6) E dJ7_fill_d0a16_19 (by decide) ?_
  refine s_iload_n E dJ7_fill_d0a16_6 rfl rfl ?_
  refine s_iload E dJ7_fill_d0a16_7 rfl ?_
  refine s_icmp_ge (tgt := 22) E dJ7_fill_d0a16_9 (by decide) (fun hh => absurd hh (by decide)) (fun _ => ?_)
  refine s_aload_n E dJ7_fill_d0a16_12 rfl rfl ?_
  refine s_iload_n E dJ7_fill_d0a16_13 rfl rfl ?_
  refine s_lload_n E dJ7_fill_d0a16_14 rfl rfl ?_
  refine s_last E rfl (ltn hg_46_0.1 (by decide)) (vp_c (by decide)) dJ7_fill_d0a16_15 ?_
  refine s_gen (P := fun v => RfC v ∧ FrM v ∧ RfM v) ⟨(fc_upL hg_46_0), (fc_upL hg_46_1), (fc_upL hg_46_2)⟩ (fun g_47 hp => ?_)
  obtain ⟨hg_47_0, hg_47_1, hg_47_2⟩ := hp
  refine s_iinc (v := 47) (L2 := [some (AR 64), some (AL x1), none, some (AI 47), some (AI 60)]) E dJ7_fill_d0a16_16 rfl (by decide) (by decide) rfl ?_
  refine s_goto (tgt := 6) E dJ7_fill_d0a16_19 (by decide) ?_
  refine s_iload_n E dJ7_fill_d0a16_6 rfl rfl ?_
  refine s_iload E dJ7_fill_d0a16_7 rfl ?_
  refine s_icmp_ge (tgt := 22) E dJ7_fill_d0a16_9 (by decide) (fun hh => absurd hh (by decide)) (fun _ => ?_)
  refine s_aload_n E dJ7_fill_d0a16_12 rfl rfl ?_
  refine s_iload_n E dJ7_fill_d0a16_13 rfl rfl ?_
  refine s_lload_n E dJ7_fill_d0a16_14 rfl rfl ?_
  refine s_last E rfl (ltn hg_47_0.1 (by decide)) (vp_c (by decide)) dJ7_fill_d0a16_15 ?_
  refine s_gen (P := fun v => RfC v ∧ FrM v ∧ RfM v) ⟨(fc_upL hg_47_0), (fc_upL hg_47_1), (fc_upL hg_47_2)⟩ (fun g_48 hp => ?_)
  obtain ⟨hg_48_0, hg_48_1, hg_48_2⟩ := hp
  refine s_iinc (v := 48) (L2 := [some (AR 64), some (AL x1), none, some (AI 48), some (AI 60)]) E dJ7_fill_d0a16_16 rfl (by decide) (by decide) rfl ?_
  refine s_goto (tgt := 6) E dJ7_fill_d0a16_19 (by decide) ?_
  refine s_iload_n E dJ7_fill_d0a16_6 rfl rfl ?_
  refine s_iload E dJ7_fill_d0a16_7 rfl ?_
  refine s_icmp_ge (tgt := 22) E dJ7_fill_d0a16_9 (by decide) (fun hh => absurd hh (by decide)) (fun _ => ?_)
  refine s_aload_n E dJ7_fill_d0a16_12 rfl rfl ?_
  refine s_iload_n E dJ7_fill_d0a16_13 rfl rfl ?_
  refine s_lload_n E dJ7_fill_d0a16_14 rfl rfl ?_
  refine s_last E rfl (ltn hg_48_0.1 (by decide)) (vp_c (by decide)) dJ7_fill_d0a16_15 ?_
  refine s_gen (P := fun v => RfC v ∧ FrM v ∧ RfM v) ⟨(fc_upL hg_48_0), (fc_upL hg_48_1), (fc_upL hg_48_2)⟩ (fun g_49 hp => ?_)
  obtain ⟨hg_49_0, hg_49_1, hg_49_2⟩ := hp
  refine s_iinc (v := 49) (L2 := [some (AR 64), some (AL x1), none, some (AI 49), some (AI 60)]) E dJ7_fill_d0a16_16 rfl (by decide) (by decide) rfl ?_
  refine s_goto (tgt := 6) E dJ7_fill_d0a16_19 (by decide) ?_
  refine s_iload_n E dJ7_fill_d0a16_6 rfl rfl ?_
  refine s_iload E dJ7_fill_d0a16_7 rfl ?_
  refine s_icmp_ge (tgt := 22) E dJ7_fill_d0a16_9 (by decide) (fun hh => absurd hh (by decide)) (fun _ => ?_)
  refine s_aload_n E dJ7_fill_d0a16_12 rfl rfl ?_
  refine s_iload_n E dJ7_fill_d0a16_13 rfl rfl ?_
  refine s_lload_n E dJ7_fill_d0a16_14 rfl rfl ?_
  refine s_last E rfl (ltn hg_49_0.1 (by decide)) (vp_c (by decide)) dJ7_fill_d0a16_15 ?_
  refine s_gen (P := fun v => RfC v ∧ FrM v ∧ RfM v) ⟨(fc_upL hg_49_0), (fc_upL hg_49_1), (fc_upL hg_49_2)⟩ (fun g_50 hp => ?_)
  obtain ⟨hg_50_0, hg_50_1, hg_50_2⟩ := hp
  refine s_iinc (v := 50) (L2 := [some (AR 64), some (AL x1), none, some (AI 50), some (AI 60)]) E dJ7_fill_d0a16_16 rfl (by decide) (by decide) rfl ?_
  refine s_goto (tgt := 6) E dJ7_fill_d0a16_19 (by decide) ?_
  refine s_iload_n E dJ7_fill_d0a16_6 rfl rfl ?_
  refine s_iload E dJ7_fill_d0a16_7 rfl ?_
  refine s_icmp_ge (tgt := 22) E dJ7_fill_d0a16_9 (by decide) (fun hh => absurd hh (by decide)) (fun _ => ?_)
  refine s_aload_n E dJ7_fill_d0a16_12 rfl rfl ?_
  refine s_iload_n E dJ7_fill_d0a16_13 rfl rfl ?_
  refine s_lload_n E dJ7_fill_d0a16_14 rfl rfl ?_
  refine s_last E rfl (ltn hg_50_0.1 (by decide)) (vp_c (by decide)) dJ7_fill_d0a16_15 ?_
  refine s_gen (P := fun v => RfC v ∧ FrM v ∧ RfM v) ⟨(fc_upL hg_50_0), (fc_upL hg_50_1), (fc_upL hg_50_2)⟩ (fun g_51 hp => ?_)
  obtain ⟨hg_51_0, hg_51_1, hg_51_2⟩ := hp
  refine s_iinc (v := 51) (L2 := [some (AR 64), some (AL x1), none, some (AI 51), some (AI 60)]) E dJ7_fill_d0a16_16 rfl (by decide) (by decide) rfl ?_
  refine s_goto (tgt := 6) E dJ7_fill_d0a16_19 (by decide) ?_
  refine s_iload_n E dJ7_fill_d0a16_6 rfl rfl ?_
  refine s_iload E dJ7_fill_d0a16_7 rfl ?_
  refine s_icmp_ge (tgt := 22) E dJ7_fill_d0a16_9 (by decide) (fun hh => absurd hh (by decide)) (fun _ => ?_)
  refine s_aload_n E dJ7_fill_d0a16_12 rfl rfl ?_
  refine s_iload_n E dJ7_fill_d0a16_13 rfl rfl ?_
  refine s_lload_n E dJ7_fill_d0a16_14 rfl rfl ?_
  refine s_last E rfl (ltn hg_51_0.1 (by decide)) (vp_c (by decide)) dJ7_fill_d0a16_15 ?_
  refine s_gen (P := fun v => RfC v ∧ FrM v ∧ RfM v) ⟨(fc_upL hg_51_0), (fc_upL hg_51_1), (fc_upL hg_51_2)⟩ (fun g_52 hp => ?_)
  obtain ⟨hg_52_0, hg_52_1, hg_52_2⟩ := hp
  refine s_iinc (v := 52) (L2 := [some (AR 64), some (AL x1), none, some (AI 52), some (AI 60)]) E dJ7_fill_d0a16_16 rfl (by decide) (by decide) rfl ?_
  refine s_goto (tgt := 6) E dJ7_fill_d0a16_19 (by decide) ?_
  refine s_iload_n E dJ7_fill_d0a16_6 rfl rfl ?_
  refine s_iload E dJ7_fill_d0a16_7 rfl ?_
  refine s_icmp_ge (tgt := 22) E dJ7_fill_d0a16_9 (by decide) (fun hh => absurd hh (by decide)) (fun _ => ?_)
  refine s_aload_n E dJ7_fill_d0a16_12 rfl rfl ?_
  refine s_iload_n E dJ7_fill_d0a16_13 rfl rfl ?_
  refine s_lload_n E dJ7_fill_d0a16_14 rfl rfl ?_
  refine s_last E rfl (ltn hg_52_0.1 (by decide)) (vp_c (by decide)) dJ7_fill_d0a16_15 ?_
  refine s_gen (P := fun v => RfC v ∧ FrM v ∧ RfM v) ⟨(fc_upL hg_52_0), (fc_upL hg_52_1), (fc_upL hg_52_2)⟩ (fun g_53 hp => ?_)
  obtain ⟨hg_53_0, hg_53_1, hg_53_2⟩ := hp
  refine s_iinc (v := 53) (L2 := [some (AR 64), some (AL x1), none, some (AI 53), some (AI 60)]) E dJ7_fill_d0a16_16 rfl (by decide) (by decide) rfl ?_
  refine s_goto (tgt := 6) E dJ7_fill_d0a16_19 (by decide) ?_
  refine s_iload_n E dJ7_fill_d0a16_6 rfl rfl ?_
  refine s_iload E dJ7_fill_d0a16_7 rfl ?_
  refine s_icmp_ge (tgt := 22) E dJ7_fill_d0a16_9 (by decide) (fun hh => absurd hh (by decide)) (fun _ => ?_)
  refine s_aload_n E dJ7_fill_d0a16_12 rfl rfl ?_
  refine s_iload_n E dJ7_fill_d0a16_13 rfl rfl ?_
  refine s_lload_n E dJ7_fill_d0a16_14 rfl rfl ?_
  refine s_last E rfl (ltn hg_53_0.1 (by decide)) (vp_c (by decide)) dJ7_fill_d0a16_15 ?_
  refine s_gen (P := fun v => RfC v ∧ FrM v ∧ RfM v) ⟨(fc_upL hg_53_0), (fc_upL hg_53_1), (fc_upL hg_53_2)⟩ (fun g_54 hp => ?_)
  obtain ⟨hg_54_0, hg_54_1, hg_54_2⟩ := hp
  refine s_iinc (v := 54) (L2 := [some (AR 64), some (AL x1), none, some (AI 54), some (AI 60)]) E dJ7_fill_d0a16_16 rfl (by decide) (by decide) rfl ?_
  refine s_goto (tgt := 6) E dJ7_fill_d0a16_19 (by decide) ?_
  refine s_iload_n E dJ7_fill_d0a16_6 rfl rfl ?_
  refine s_iload E dJ7_fill_d0a16_7 rfl ?_
  refine s_icmp_ge (tgt := 22) E dJ7_fill_d0a16_9 (by decide) (fun hh => absurd hh (by decide)) (fun _ => ?_)
  refine s_aload_n E dJ7_fill_d0a16_12 rfl rfl ?_
  refine s_iload_n E dJ7_fill_d0a16_13 rfl rfl ?_
  refine s_lload_n E dJ7_fill_d0a16_14 rfl rfl ?_
  refine s_last E rfl (ltn hg_54_0.1 (by decide)) (vp_c (by decide)) dJ7_fill_d0a16_15 ?_
  refine s_gen (P := fun v => RfC v ∧ FrM v ∧ RfM v) ⟨(fc_upL hg_54_0), (fc_upL hg_54_1), (fc_upL hg_54_2)⟩ (fun g_55 hp => ?_)
  obtain ⟨hg_55_0, hg_55_1, hg_55_2⟩ := hp
  refine s_iinc (v := 55) (L2 := [some (AR 64), some (AL x1), none, some (AI 55), some (AI 60)]) E dJ7_fill_d0a16_16 rfl (by decide) (by decide) rfl ?_
  refine s_goto (tgt := 6) E dJ7_fill_d0a16_19 (by decide) ?_
  refine s_iload_n E dJ7_fill_d0a16_6 rfl rfl ?_
  refine s_iload E dJ7_fill_d0a16_7 rfl ?_
  refine s_icmp_ge (tgt := 22) E dJ7_fill_d0a16_9 (by decide) (fun hh => absurd hh (by decide)) (fun _ => ?_)
  refine s_aload_n E dJ7_fill_d0a16_12 rfl rfl ?_
  refine s_iload_n E dJ7_fill_d0a16_13 rfl rfl ?_
  refine s_lload_n E dJ7_fill_d0a16_14 rfl rfl ?_
  refine s_last E rfl (ltn hg_55_0.1 (by decide)) (vp_c (by decide)) dJ7_fill_d0a16_15 ?_
  refine s_gen (P := fun v => RfC v ∧ FrM v ∧ RfM v) ⟨(fc_upL hg_55_0), (fc_upL hg_55_1), (fc_upL hg_55_2)⟩ (fun g_56 hp => ?_)
  obtain ⟨hg_56_0, hg_56_1, hg_56_2⟩ := hp
  refine s_iinc (v := 56) (L2 := [some (AR 64), some (AL x1), none, some (AI 56), some (AI 60)]) E dJ7_fill_d0a16_16 rfl (by decide) (by decide) rfl ?_
  refine s_goto (tgt := 6) E dJ7_fill_d0a16_19 (by decide) ?_
  refine s_iload_n E dJ7_fill_d0a16_6 rfl rfl ?_
  refine s_iload E dJ7_fill_d0a16_7 rfl ?_
  refine s_icmp_ge (tgt := 22) E dJ7_fill_d0a16_9 (by decide) (fun hh => absurd hh (by decide)) (fun _ => ?_)
  refine s_aload_n E dJ7_fill_d0a16_12 rfl rfl ?_
  refine s_iload_n E dJ7_fill_d0a16_13 rfl rfl ?_
  refine s_lload_n E dJ7_fill_d0a16_14 rfl rfl ?_
  refine s_last E rfl (ltn hg_56_0.1 (by decide)) (vp_c (by decide)) dJ7_fill_d0a16_15 ?_
  refine s_gen (P := fun v => RfC v ∧ FrM v ∧ RfM v) ⟨(fc_upL hg_56_0), (fc_upL hg_56_1), (fc_upL hg_56_2)⟩ (fun g_57 hp => ?_)
  obtain ⟨hg_57_0, hg_57_1, hg_57_2⟩ := hp
  refine s_iinc (v := 57) (L2 := [some (AR 64), some (AL x1), none, some (AI 57), some (AI 60)]) E dJ7_fill_d0a16_16 rfl (by decide) (by decide) rfl ?_
  refine s_goto (tgt := 6) E dJ7_fill_d0a16_19 (by decide) ?_
  refine s_iload_n E dJ7_fill_d0a16_6 rfl rfl ?_
  refine s_iload E dJ7_fill_d0a16_7 rfl ?_
  refine s_icmp_ge (tgt := 22) E dJ7_fill_d0a16_9 (by decide) (fun hh => absurd hh (by decide)) (fun _ => ?_)
  refine s_aload_n E dJ7_fill_d0a16_12 rfl rfl ?_
  refine s_iload_n E dJ7_fill_d0a16_13 rfl rfl ?_
  refine s_lload_n E dJ7_fill_d0a16_14 rfl rfl ?_
  refine s_last E rfl (ltn hg_57_0.1 (by decide)) (vp_c (by decide)) dJ7_fill_d0a16_15 ?_
  refine s_gen (P := fun v => RfC v ∧ FrM v ∧ RfM v) ⟨(fc_upL hg_57_0), (fc_upL hg_57_1), (fc_upL hg_57_2)⟩ (fun g_58 hp => ?_)
  obtain ⟨hg_58_0, hg_58_1, hg_58_2⟩ := hp
  refine s_iinc (v := 58) (L2 := [some (AR 64), some (AL x1), none, some (AI 58), some (AI 60)]) E dJ7_fill_d0a16_16 rfl (by decide) (by decide) rfl ?_
  refine s_goto (tgt := 6) E dJ7_fill_d0a16_19 (by decide) ?_
  refine s_iload_n E dJ7_fill_d0a16_6 rfl rfl ?_
  refine s_iload E dJ7_fill_d0a16_7 rfl ?_
  refine s_icmp_ge (tgt := 22) E dJ7_fill_d0a16_9 (by decide) (fun hh => absurd hh (by decide)) (fun _ => ?_)
  refine s_aload_n E dJ7_fill_d0a16_12 rfl rfl ?_
  refine s_iload_n E dJ7_fill_d0a16_13 rfl rfl ?_
  refine s_lload_n E dJ7_fill_d0a16_14 rfl rfl ?_
  refine s_last E rfl (ltn hg_58_0.1 (by decide)) (vp_c (by decide)) dJ7_fill_d0a16_15 ?_
  refine s_gen (P := fun v => RfC v ∧ FrM v ∧ RfM v) ⟨(fc_upL hg_58_0), (fc_upL hg_58_1), (fc_upL hg_58_2)⟩ (fun g_59 hp => ?_)
  obtain ⟨hg_59_0, hg_59_1, hg_59_2⟩ := hp
  refine s_iinc (v := 59) (L2 := [some (AR 64), some (AL x1), none, some (AI 59), some (AI 60)]) E dJ7_fill_d0a16_16 rfl (by decide) (by decide) rfl ?_
  refine s_goto (tgt := 6) E dJ7_fill_d0a16_19 (by decide) ?_
  refine s_iload_n E dJ7_fill_d0a16_6 rfl rfl ?_
  refine s_iload E dJ7_fill_d0a16_7 rfl ?_
  refine s_icmp_ge (tgt := 22) E dJ7_fill_d0a16_9 (by decide) (fun hh => absurd hh (by decide)) (fun _ => ?_)
  refine s_aload_n E dJ7_fill_d0a16_12 rfl rfl ?_
  refine s_iload_n E dJ7_fill_d0a16_13 rfl rfl ?_
  refine s_lload_n E dJ7_fill_d0a16_14 rfl rfl ?_
  refine s_last E rfl (ltn hg_59_0.1 (by decide)) (vp_c (by decide)) dJ7_fill_d0a16_15 ?_
  refine s_gen (P := fun v => RfC v ∧ FrM v ∧ RfM v) ⟨(fc_upL hg_59_0), (fc_upL hg_59_1), (fc_upL hg_59_2)⟩ (fun g_60 hp => ?_)
  obtain ⟨hg_60_0, hg_60_1, hg_60_2⟩ := hp
  refine s_iinc (v := 60) (L2 := [some (AR 64), some (AL x1), none, some (AI 60), some (AI 60)]) E dJ7_fill_d0a16_16 rfl (by decide) (by decide) rfl ?_
  refine s_goto (tgt := 6) E dJ7_fill_d0a16_19 (by decide) ?_
  refine s_iload_n E dJ7_fill_d0a16_6 rfl rfl ?_
  refine s_iload E dJ7_fill_d0a16_7 rfl ?_
  refine s_icmp_ge (tgt := 22) E dJ7_fill_d0a16_9 (by decide) (fun _ => ?_) (fun hh => absurd (by decide) hh)
  exact r_void E dJ7_fill_d0a16_22 ⟨hg_60_0, hg_60_1, hg_60_2⟩
set_option maxRecDepth 20000 in
set_option maxHeartbeats 2000000 in
theorem K_X7_start_63_CRMS (l : Launch) (D : va_G) (aC : Nat → ClassId) (b : Nat) (w : XW) (x1 : Int32) (x2 : Int32) (hw0 : FrC w) (hw1 : RfC w) (hw2 : FrM w) (hw3 : RfM w) : CnV l D aC b M_X7_start 1 24 0 0 [AR 63, AI x1, AI x2] w (fun u => RfC u ∧ FrM u ∧ RfM u) := by
  refine cn_V (own := RX7) (nm := "start") (L0 := [some (AR 63), some (AI x1), some (AI x2)]) (by decide +kernel) rfl rfl (Nat.le_of_ble_eq_true rfl) rfl ?_
  intro p e s m args below meth c E hin
  refine s_aload_n E dX7_start_0 rfl rfl ?_
  refine s_iload_n E dX7_start_1 rfl rfl ?_
  refine s_pI E fp_X7_19 (Or.inl rfl) rfl (ltn hw0.1 (by decide)) dX7_start_2 ?_
  refine s_aload_n E dX7_start_5 rfl rfl ?_
  refine s_bipush (v := 60) E dX7_start_6 (by decide) ?_
  refine s_iload_n E dX7_start_8 rfl rfl ?_
  refine s_min (v := (if x2 < 60 then x2 else 60)) E ⟨k_1212, k_369, k_4, k_370⟩ (Nat.le_of_ble_eq_true rfl) (Nat.le_of_ble_eq_true rfl) (Nat.le_of_ble_eq_true rfl) (Nat.le_of_ble_eq_true rfl) dX7_start_9 rfl ?_
  refine s_pI E fp_X7_15 (Or.inl rfl) rfl (ltn hw0.1 (by decide)) dX7_start_12 ?_
  refine s_aload_n E dX7_start_15 rfl rfl ?_
  refine s_gR (r := 64) E fg_X7_11 rfl rfl (ltn hw0.1 (by decide)) (fc_r hw0 (by decide +kernel)) dX7_start_16 ?_
  refine s_lconst (v := 0) E dX7_start_19 (by decide) ?_
  refine s_sV (As := [AR 64, AL 0]) (S := []) E (K_J7_fill_d0a16_r64_RMS l D aC b (upI (upI w 63 1 x1) 63 2 (if x2 < 60 then x2 else 60)) 0 (fc_upC (fc_upC hw1 (by decide +kernel)) (by decide +kernel)) (fc_upC (fc_upC hw2 (by decide +kernel)) (by decide +kernel)) (fc_upC (fc_upC hw3 (by decide +kernel)) (by decide +kernel))) cs_X7_28 rfl rfl (Nat.le_of_ble_eq_true rfl) (Nat.le_of_ble_eq_true rfl) ⟨(Nat.le_of_ble_eq_true rfl), (Nat.le_of_ble_eq_true rfl)⟩ (Nat.le_of_ble_eq_true rfl) dX7_start_20 (fun u_1 hp => ?_)
  obtain ⟨hu_1, hu_2, hu_3⟩ := hp
  exact r_void E dX7_start_23 ⟨hu_1, hu_2, hu_3⟩
set_option maxRecDepth 20000 in
set_option maxHeartbeats 2000000 in
theorem K_J7_fill_d0a16_r66_RMS (l : Launch) (D : va_G) (aC : Nat → ClassId) (b : Nat) (w : XW) (x1 : Int64) (hw0 : RfC w) (hw1 : FrM w) (hw2 : RfM w) : CnV l D aC b M_J7_fill_d0a16 0 0 0 0 [AR 66, AL x1] w (fun u => RfC u ∧ FrM u ∧ RfM u) := by
  refine cn_V (own := RJ7) (nm := "fill") (L0 := [some (AR 66), some (AL x1), none, none, none]) (by decide +kernel) rfl rfl (Nat.le_of_ble_eq_true rfl) rfl ?_
  intro p e s m args below meth c E hin
  refine s_iconst (v := 0) E dJ7_fill_d0a16_0 (by decide) ?_
  refine s_istore_n (L2 := [some (AR 66), some (AL x1), none, some (AI 0), none]) E dJ7_fill_d0a16_1 rfl (by decide) rfl ?_
  refine s_aload_n E dJ7_fill_d0a16_2 rfl rfl ?_
  refine s_alen (v := 60) E rfl (by decide) (ltn hw0.1 (by decide)) (by decide) dJ7_fill_d0a16_3 ?_
  refine s_istore (L2 := [some (AR 66), some (AL x1), none, some (AI 0), some (AI 60)]) E dJ7_fill_d0a16_4 (by decide) rfl ?_
  refine s_iload_n E dJ7_fill_d0a16_6 rfl rfl ?_
  refine s_iload E dJ7_fill_d0a16_7 rfl ?_
  refine s_icmp_ge (tgt := 22) E dJ7_fill_d0a16_9 (by decide) (fun hh => absurd hh (by decide)) (fun _ => ?_)
  refine s_aload_n E dJ7_fill_d0a16_12 rfl rfl ?_
  refine s_iload_n E dJ7_fill_d0a16_13 rfl rfl ?_
  refine s_lload_n E dJ7_fill_d0a16_14 rfl rfl ?_
  refine s_last E rfl (ltn hw0.1 (by decide)) (vp_c (by decide)) dJ7_fill_d0a16_15 ?_
  refine s_gen (P := fun v => RfC v ∧ FrM v ∧ RfM v) ⟨(fc_upL hw0), (fc_upL hw1), (fc_upL hw2)⟩ (fun g_1 hp => ?_)
  obtain ⟨hg_1_0, hg_1_1, hg_1_2⟩ := hp
  refine s_iinc (v := 1) (L2 := [some (AR 66), some (AL x1), none, some (AI 1), some (AI 60)]) E dJ7_fill_d0a16_16 rfl (by decide) (by decide) rfl ?_
  refine s_goto (tgt := 6) E dJ7_fill_d0a16_19 (by decide) ?_
  refine s_iload_n E dJ7_fill_d0a16_6 rfl rfl ?_
  refine s_iload E dJ7_fill_d0a16_7 rfl ?_
  refine s_icmp_ge (tgt := 22) E dJ7_fill_d0a16_9 (by decide) (fun hh => absurd hh (by decide)) (fun _ => ?_)
  refine s_aload_n E dJ7_fill_d0a16_12 rfl rfl ?_
  refine s_iload_n E dJ7_fill_d0a16_13 rfl rfl ?_
  refine s_lload_n E dJ7_fill_d0a16_14 rfl rfl ?_
  refine s_last E rfl (ltn hg_1_0.1 (by decide)) (vp_c (by decide)) dJ7_fill_d0a16_15 ?_
  refine s_gen (P := fun v => RfC v ∧ FrM v ∧ RfM v) ⟨(fc_upL hg_1_0), (fc_upL hg_1_1), (fc_upL hg_1_2)⟩ (fun g_2 hp => ?_)
  obtain ⟨hg_2_0, hg_2_1, hg_2_2⟩ := hp
  refine s_iinc (v := 2) (L2 := [some (AR 66), some (AL x1), none, some (AI 2), some (AI 60)]) E dJ7_fill_d0a16_16 rfl (by decide) (by decide) rfl ?_
  refine s_goto (tgt := 6) E dJ7_fill_d0a16_19 (by decide) ?_
  refine s_iload_n E dJ7_fill_d0a16_6 rfl rfl ?_
  refine s_iload E dJ7_fill_d0a16_7 rfl ?_
  refine s_icmp_ge (tgt := 22) E dJ7_fill_d0a16_9 (by decide) (fun hh => absurd hh (by decide)) (fun _ => ?_)
  refine s_aload_n E dJ7_fill_d0a16_12 rfl rfl ?_
  refine s_iload_n E dJ7_fill_d0a16_13 rfl rfl ?_
  refine s_lload_n E dJ7_fill_d0a16_14 rfl rfl ?_
  refine s_last E rfl (ltn hg_2_0.1 (by decide)) (vp_c (by decide)) dJ7_fill_d0a16_15 ?_
  refine s_gen (P := fun v => RfC v ∧ FrM v ∧ RfM v) ⟨(fc_upL hg_2_0), (fc_upL hg_2_1), (fc_upL hg_2_2)⟩ (fun g_3 hp => ?_)
  obtain ⟨hg_3_0, hg_3_1, hg_3_2⟩ := hp
  refine s_iinc (v := 3) (L2 := [some (AR 66), some (AL x1), none, some (AI 3), some (AI 60)]) E dJ7_fill_d0a16_16 rfl (by decide) (by decide) rfl ?_
  refine s_goto (tgt := 6) E dJ7_fill_d0a16_19 (by decide) ?_
  refine s_iload_n E dJ7_fill_d0a16_6 rfl rfl ?_
  refine s_iload E dJ7_fill_d0a16_7 rfl ?_
  refine s_icmp_ge (tgt := 22) E dJ7_fill_d0a16_9 (by decide) (fun hh => absurd hh (by decide)) (fun _ => ?_)
  refine s_aload_n E dJ7_fill_d0a16_12 rfl rfl ?_
  refine s_iload_n E dJ7_fill_d0a16_13 rfl rfl ?_
  refine s_lload_n E dJ7_fill_d0a16_14 rfl rfl ?_
  refine s_last E rfl (ltn hg_3_0.1 (by decide)) (vp_c (by decide)) dJ7_fill_d0a16_15 ?_
  refine s_gen (P := fun v => RfC v ∧ FrM v ∧ RfM v) ⟨(fc_upL hg_3_0), (fc_upL hg_3_1), (fc_upL hg_3_2)⟩ (fun g_4 hp => ?_)
  obtain ⟨hg_4_0, hg_4_1, hg_4_2⟩ := hp
  refine s_iinc (v := 4) (L2 := [some (AR 66), some (AL x1), none, some (AI 4), some (AI 60)]) E dJ7_fill_d0a16_16 rfl (by decide) (by decide) rfl ?_
  refine s_goto (tgt := 6) E dJ7_fill_d0a16_19 (by decide) ?_
  refine s_iload_n E dJ7_fill_d0a16_6 rfl rfl ?_
  refine s_iload E dJ7_fill_d0a16_7 rfl ?_
  refine s_icmp_ge (tgt := 22) E dJ7_fill_d0a16_9 (by decide) (fun hh => absurd hh (by decide)) (fun _ => ?_)
  refine s_aload_n E dJ7_fill_d0a16_12 rfl rfl ?_
  refine s_iload_n E dJ7_fill_d0a16_13 rfl rfl ?_
  refine s_lload_n E dJ7_fill_d0a16_14 rfl rfl ?_
  refine s_last E rfl (ltn hg_4_0.1 (by decide)) (vp_c (by decide)) dJ7_fill_d0a16_15 ?_
  refine s_gen (P := fun v => RfC v ∧ FrM v ∧ RfM v) ⟨(fc_upL hg_4_0), (fc_upL hg_4_1), (fc_upL hg_4_2)⟩ (fun g_5 hp => ?_)
  obtain ⟨hg_5_0, hg_5_1, hg_5_2⟩ := hp
  refine s_iinc (v := 5) (L2 := [some (AR 66), some (AL x1), none, some (AI 5), some (AI 60)]) E dJ7_fill_d0a16_16 rfl (by decide) (by decide) rfl ?_
  refine s_goto (tgt := 6) E dJ7_fill_d0a16_19 (by decide) ?_
  refine s_iload_n E dJ7_fill_d0a16_6 rfl rfl ?_
  refine s_iload E dJ7_fill_d0a16_7 rfl ?_
  refine s_icmp_ge (tgt := 22) E dJ7_fill_d0a16_9 (by decide) (fun hh => absurd hh (by decide)) (fun _ => ?_)
  refine s_aload_n E dJ7_fill_d0a16_12 rfl rfl ?_
  refine s_iload_n E dJ7_fill_d0a16_13 rfl rfl ?_
  refine s_lload_n E dJ7_fill_d0a16_14 rfl rfl ?_
  refine s_last E rfl (ltn hg_5_0.1 (by decide)) (vp_c (by decide)) dJ7_fill_d0a16_15 ?_
  refine s_gen (P := fun v => RfC v ∧ FrM v ∧ RfM v) ⟨(fc_upL hg_5_0), (fc_upL hg_5_1), (fc_upL hg_5_2)⟩ (fun g_6 hp => ?_)
  obtain ⟨hg_6_0, hg_6_1, hg_6_2⟩ := hp
  refine s_iinc (v := 6) (L2 := [some (AR 66), some (AL x1), none, some (AI 6), some (AI 60)]) E dJ7_fill_d0a16_16 rfl (by decide) (by decide) rfl ?_
  refine s_goto (tgt := 6) E dJ7_fill_d0a16_19 (by decide) ?_
  refine s_iload_n E dJ7_fill_d0a16_6 rfl rfl ?_
  refine s_iload E dJ7_fill_d0a16_7 rfl ?_
  refine s_icmp_ge (tgt := 22) E dJ7_fill_d0a16_9 (by decide) (fun hh => absurd hh (by decide)) (fun _ => ?_)
  refine s_aload_n E dJ7_fill_d0a16_12 rfl rfl ?_
  refine s_iload_n E dJ7_fill_d0a16_13 rfl rfl ?_
  refine s_lload_n E dJ7_fill_d0a16_14 rfl rfl ?_
  refine s_last E rfl (ltn hg_6_0.1 (by decide)) (vp_c (by decide)) dJ7_fill_d0a16_15 ?_
  refine s_gen (P := fun v => RfC v ∧ FrM v ∧ RfM v) ⟨(fc_upL hg_6_0), (fc_upL hg_6_1), (fc_upL hg_6_2)⟩ (fun g_7 hp => ?_)
  obtain ⟨hg_7_0, hg_7_1, hg_7_2⟩ := hp
  refine s_iinc (v := 7) (L2 := [some (AR 66), some (AL x1), none, some (AI 7), some (AI 60)]) E dJ7_fill_d0a16_16 rfl (by decide) (by decide) rfl ?_
  refine s_goto (tgt := 6) E dJ7_fill_d0a16_19 (by decide) ?_
  refine s_iload_n E dJ7_fill_d0a16_6 rfl rfl ?_
  refine s_iload E dJ7_fill_d0a16_7 rfl ?_
  refine s_icmp_ge (tgt := 22) E dJ7_fill_d0a16_9 (by decide) (fun hh => absurd hh (by decide)) (fun _ => ?_)
  refine s_aload_n E dJ7_fill_d0a16_12 rfl rfl ?_
  refine s_iload_n E dJ7_fill_d0a16_13 rfl rfl ?_
  refine s_lload_n E dJ7_fill_d0a16_14 rfl rfl ?_
  refine s_last E rfl (ltn hg_7_0.1 (by decide)) (vp_c (by decide)) dJ7_fill_d0a16_15 ?_
  refine s_gen (P := fun v => RfC v ∧ FrM v ∧ RfM v) ⟨(fc_upL hg_7_0), (fc_upL hg_7_1), (fc_upL hg_7_2)⟩ (fun g_8 hp => ?_)
  obtain ⟨hg_8_0, hg_8_1, hg_8_2⟩ := hp
  refine s_iinc (v := 8) (L2 := [some (AR 66), some (AL x1), none, some (AI 8), some (AI 60)]) E dJ7_fill_d0a16_16 rfl (by decide) (by decide) rfl ?_
  refine s_goto (tgt := 6) E dJ7_fill_d0a16_19 (by decide) ?_
  refine s_iload_n E dJ7_fill_d0a16_6 rfl rfl ?_
  refine s_iload E dJ7_fill_d0a16_7 rfl ?_
  refine s_icmp_ge (tgt := 22) E dJ7_fill_d0a16_9 (by decide) (fun hh => absurd hh (by decide)) (fun _ => ?_)
  refine s_aload_n E dJ7_fill_d0a16_12 rfl rfl ?_
  refine s_iload_n E dJ7_fill_d0a16_13 rfl rfl ?_
  refine s_lload_n E dJ7_fill_d0a16_14 rfl rfl ?_
  refine s_last E rfl (ltn hg_8_0.1 (by decide)) (vp_c (by decide)) dJ7_fill_d0a16_15 ?_
  refine s_gen (P := fun v => RfC v ∧ FrM v ∧ RfM v) ⟨(fc_upL hg_8_0), (fc_upL hg_8_1), (fc_upL hg_8_2)⟩ (fun g_9 hp => ?_)
  obtain ⟨hg_9_0, hg_9_1, hg_9_2⟩ := hp
  refine s_iinc (v := 9) (L2 := [some (AR 66), some (AL x1), none, some (AI 9), some (AI 60)]) E dJ7_fill_d0a16_16 rfl (by decide) (by decide) rfl ?_
  refine s_goto (tgt := 6) E dJ7_fill_d0a16_19 (by decide) ?_
  refine s_iload_n E dJ7_fill_d0a16_6 rfl rfl ?_
  refine s_iload E dJ7_fill_d0a16_7 rfl ?_
  refine s_icmp_ge (tgt := 22) E dJ7_fill_d0a16_9 (by decide) (fun hh => absurd hh (by decide)) (fun _ => ?_)
  refine s_aload_n E dJ7_fill_d0a16_12 rfl rfl ?_
  refine s_iload_n E dJ7_fill_d0a16_13 rfl rfl ?_
  refine s_lload_n E dJ7_fill_d0a16_14 rfl rfl ?_
  refine s_last E rfl (ltn hg_9_0.1 (by decide)) (vp_c (by decide)) dJ7_fill_d0a16_15 ?_
  refine s_gen (P := fun v => RfC v ∧ FrM v ∧ RfM v) ⟨(fc_upL hg_9_0), (fc_upL hg_9_1), (fc_upL hg_9_2)⟩ (fun g_10 hp => ?_)
  obtain ⟨hg_10_0, hg_10_1, hg_10_2⟩ := hp
  refine s_iinc (v := 10) (L2 := [some (AR 66), some (AL x1), none, some (AI 10), some (AI 60)]) E dJ7_fill_d0a16_16 rfl (by decide) (by decide) rfl ?_
  refine s_goto (tgt := 6) E dJ7_fill_d0a16_19 (by decide) ?_
  refine s_iload_n E dJ7_fill_d0a16_6 rfl rfl ?_
  refine s_iload E dJ7_fill_d0a16_7 rfl ?_
  refine s_icmp_ge (tgt := 22) E dJ7_fill_d0a16_9 (by decide) (fun hh => absurd hh (by decide)) (fun _ => ?_)
  refine s_aload_n E dJ7_fill_d0a16_12 rfl rfl ?_
  refine s_iload_n E dJ7_fill_d0a16_13 rfl rfl ?_
  refine s_lload_n E dJ7_fill_d0a16_14 rfl rfl ?_
  refine s_last E rfl (ltn hg_10_0.1 (by decide)) (vp_c (by decide)) dJ7_fill_d0a16_15 ?_
  refine s_gen (P := fun v => RfC v ∧ FrM v ∧ RfM v) ⟨(fc_upL hg_10_0), (fc_upL hg_10_1), (fc_upL hg_10_2)⟩ (fun g_11 hp => ?_)
  obtain ⟨hg_11_0, hg_11_1, hg_11_2⟩ := hp
  refine s_iinc (v := 11) (L2 := [some (AR 66), some (AL x1), none, some (AI 11), some (AI 60)]) E dJ7_fill_d0a16_16 rfl (by decide) (by decide) rfl ?_
  refine s_goto (tgt := 6) E dJ7_fill_d0a16_19 (by decide) ?_
  refine s_iload_n E dJ7_fill_d0a16_6 rfl rfl ?_
  refine s_iload E dJ7_fill_d0a16_7 rfl ?_
  refine s_icmp_ge (tgt := 22) E dJ7_fill_d0a16_9 (by decide) (fun hh => absurd hh (by decide)) (fun _ => ?_)
  refine s_aload_n E dJ7_fill_d0a16_12 rfl rfl ?_
  refine s_iload_n E dJ7_fill_d0a16_13 rfl rfl ?_
  refine s_lload_n E dJ7_fill_d0a16_14 rfl rfl ?_
  refine s_last E rfl (ltn hg_11_0.1 (by decide)) (vp_c (by decide)) dJ7_fill_d0a16_15 ?_
  refine s_gen (P := fun v => RfC v ∧ FrM v ∧ RfM v) ⟨(fc_upL hg_11_0), (fc_upL hg_11_1), (fc_upL hg_11_2)⟩ (fun g_12 hp => ?_)
  obtain ⟨hg_12_0, hg_12_1, hg_12_2⟩ := hp
  refine s_iinc (v := 12) (L2 := [some (AR 66), some (AL x1), none, some (AI 12), some (AI 60)]) E dJ7_fill_d0a16_16 rfl (by decide) (by decide) rfl ?_
  refine s_goto (tgt := 6) E dJ7_fill_d0a16_19 (by decide) ?_
  refine s_iload_n E dJ7_fill_d0a16_6 rfl rfl ?_
  refine s_iload E dJ7_fill_d0a16_7 rfl ?_
  refine s_icmp_ge (tgt := 22) E dJ7_fill_d0a16_9 (by decide) (fun hh => absurd hh (by decide)) (fun _ => ?_)
  refine s_aload_n E dJ7_fill_d0a16_12 rfl rfl ?_
  refine s_iload_n E dJ7_fill_d0a16_13 rfl rfl ?_
  refine s_lload_n E dJ7_fill_d0a16_14 rfl rfl ?_
  refine s_last E rfl (ltn hg_12_0.1 (by decide)) (vp_c (by decide)) dJ7_fill_d0a16_15 ?_
  refine s_gen (P := fun v => RfC v ∧ FrM v ∧ RfM v) ⟨(fc_upL hg_12_0), (fc_upL hg_12_1), (fc_upL hg_12_2)⟩ (fun g_13 hp => ?_)
  obtain ⟨hg_13_0, hg_13_1, hg_13_2⟩ := hp
  refine s_iinc (v := 13) (L2 := [some (AR 66), some (AL x1), none, some (AI 13), some (AI 60)]) E dJ7_fill_d0a16_16 rfl (by decide) (by decide) rfl ?_
  refine s_goto (tgt := 6) E dJ7_fill_d0a16_19 (by decide) ?_
  refine s_iload_n E dJ7_fill_d0a16_6 rfl rfl ?_
  refine s_iload E dJ7_fill_d0a16_7 rfl ?_
  refine s_icmp_ge (tgt := 22) E dJ7_fill_d0a16_9 (by decide) (fun hh => absurd hh (by decide)) (fun _ => ?_)
  refine s_aload_n E dJ7_fill_d0a16_12 rfl rfl ?_
  refine s_iload_n E dJ7_fill_d0a16_13 rfl rfl ?_
  refine s_lload_n E dJ7_fill_d0a16_14 rfl rfl ?_
  refine s_last E rfl (ltn hg_13_0.1 (by decide)) (vp_c (by decide)) dJ7_fill_d0a16_15 ?_
  refine s_gen (P := fun v => RfC v ∧ FrM v ∧ RfM v) ⟨(fc_upL hg_13_0), (fc_upL hg_13_1), (fc_upL hg_13_2)⟩ (fun g_14 hp => ?_)
  obtain ⟨hg_14_0, hg_14_1, hg_14_2⟩ := hp
  refine s_iinc (v := 14) (L2 := [some (AR 66), some (AL x1), none, some (AI 14), some (AI 60)]) E dJ7_fill_d0a16_16 rfl (by decide) (by decide) rfl ?_
  refine s_goto (tgt := 6) E dJ7_fill_d0a16_19 (by decide) ?_
  refine s_iload_n E dJ7_fill_d0a16_6 rfl rfl ?_
  refine s_iload E dJ7_fill_d0a16_7 rfl ?_
  refine s_icmp_ge (tgt := 22) E dJ7_fill_d0a16_9 (by decide) (fun hh => absurd hh (by decide)) (fun _ => ?_)
  refine s_aload_n E dJ7_fill_d0a16_12 rfl rfl ?_
  refine s_iload_n E dJ7_fill_d0a16_13 rfl rfl ?_
  refine s_lload_n E dJ7_fill_d0a16_14 rfl rfl ?_
  refine s_last E rfl (ltn hg_14_0.1 (by decide)) (vp_c (by decide)) dJ7_fill_d0a16_15 ?_
  refine s_gen (P := fun v => RfC v ∧ FrM v ∧ RfM v) ⟨(fc_upL hg_14_0), (fc_upL hg_14_1), (fc_upL hg_14_2)⟩ (fun g_15 hp => ?_)
  obtain ⟨hg_15_0, hg_15_1, hg_15_2⟩ := hp
  refine s_iinc (v := 15) (L2 := [some (AR 66), some (AL x1), none, some (AI 15), some (AI 60)]) E dJ7_fill_d0a16_16 rfl (by decide) (by decide) rfl ?_
  refine s_goto (tgt := 6) E dJ7_fill_d0a16_19 (by decide) ?_
  refine s_iload_n E dJ7_fill_d0a16_6 rfl rfl ?_
  refine s_iload E dJ7_fill_d0a16_7 rfl ?_
  refine s_icmp_ge (tgt := 22) E dJ7_fill_d0a16_9 (by decide) (fun hh => absurd hh (by decide)) (fun _ => ?_)
  refine s_aload_n E dJ7_fill_d0a16_12 rfl rfl ?_
  refine s_iload_n E dJ7_fill_d0a16_13 rfl rfl ?_
  refine s_lload_n E dJ7_fill_d0a16_14 rfl rfl ?_
  refine s_last E rfl (ltn hg_15_0.1 (by decide)) (vp_c (by decide)) dJ7_fill_d0a16_15 ?_
  refine s_gen (P := fun v => RfC v ∧ FrM v ∧ RfM v) ⟨(fc_upL hg_15_0), (fc_upL hg_15_1), (fc_upL hg_15_2)⟩ (fun g_16 hp => ?_)
  obtain ⟨hg_16_0, hg_16_1, hg_16_2⟩ := hp
  refine s_iinc (v := 16) (L2 := [some (AR 66), some (AL x1), none, some (AI 16), some (AI 60)]) E dJ7_fill_d0a16_16 rfl (by decide) (by decide) rfl ?_
  refine s_goto (tgt := 6) E dJ7_fill_d0a16_19 (by decide) ?_
  refine s_iload_n E dJ7_fill_d0a16_6 rfl rfl ?_
  refine s_iload E dJ7_fill_d0a16_7 rfl ?_
  refine s_icmp_ge (tgt := 22) E dJ7_fill_d0a16_9 (by decide) (fun hh => absurd hh (by decide)) (fun _ => ?_)
  refine s_aload_n E dJ7_fill_d0a16_12 rfl rfl ?_
  refine s_iload_n E dJ7_fill_d0a16_13 rfl rfl ?_
  refine s_lload_n E dJ7_fill_d0a16_14 rfl rfl ?_
  refine s_last E rfl (ltn hg_16_0.1 (by decide)) (vp_c (by decide)) dJ7_fill_d0a16_15 ?_
  refine s_gen (P := fun v => RfC v ∧ FrM v ∧ RfM v) ⟨(fc_upL hg_16_0), (fc_upL hg_16_1), (fc_upL hg_16_2)⟩ (fun g_17 hp => ?_)
  obtain ⟨hg_17_0, hg_17_1, hg_17_2⟩ := hp
  refine s_iinc (v := 17) (L2 := [some (AR 66), some (AL x1), none, some (AI 17), some (AI 60)]) E dJ7_fill_d0a16_16 rfl (by decide) (by decide) rfl ?_
  refine s_goto (tgt := 6) E dJ7_fill_d0a16_19 (by decide) ?_
  refine s_iload_n E dJ7_fill_d0a16_6 rfl rfl ?_
  refine s_iload E dJ7_fill_d0a16_7 rfl ?_
  refine s_icmp_ge (tgt := 22) E dJ7_fill_d0a16_9 (by decide) (fun hh => absurd hh (by decide)) (fun _ => ?_)
  refine s_aload_n E dJ7_fill_d0a16_12 rfl rfl ?_
  refine s_iload_n E dJ7_fill_d0a16_13 rfl rfl ?_
  refine s_lload_n E dJ7_fill_d0a16_14 rfl rfl ?_
  refine s_last E rfl (ltn hg_17_0.1 (by decide)) (vp_c (by decide)) dJ7_fill_d0a16_15 ?_
  refine s_gen (P := fun v => RfC v ∧ FrM v ∧ RfM v) ⟨(fc_upL hg_17_0), (fc_upL hg_17_1), (fc_upL hg_17_2)⟩ (fun g_18 hp => ?_)
  obtain ⟨hg_18_0, hg_18_1, hg_18_2⟩ := hp
  refine s_iinc (v := 18) (L2 := [some (AR 66), some (AL x1), none, some (AI 18), some (AI 60)]) E dJ7_fill_d0a16_16 rfl (by decide) (by decide) rfl ?_
  refine s_goto (tgt := 6) E dJ7_fill_d0a16_19 (by decide) ?_
  refine s_iload_n E dJ7_fill_d0a16_6 rfl rfl ?_
  refine s_iload E dJ7_fill_d0a16_7 rfl ?_
  refine s_icmp_ge (tgt := 22) E dJ7_fill_d0a16_9 (by decide) (fun hh => absurd hh (by decide)) (fun _ => ?_)
  refine s_aload_n E dJ7_fill_d0a16_12 rfl rfl ?_
  refine s_iload_n E dJ7_fill_d0a16_13 rfl rfl ?_
  refine s_lload_n E dJ7_fill_d0a16_14 rfl rfl ?_
  refine s_last E rfl (ltn hg_18_0.1 (by decide)) (vp_c (by decide)) dJ7_fill_d0a16_15 ?_
  refine s_gen (P := fun v => RfC v ∧ FrM v ∧ RfM v) ⟨(fc_upL hg_18_0), (fc_upL hg_18_1), (fc_upL hg_18_2)⟩ (fun g_19 hp => ?_)
  obtain ⟨hg_19_0, hg_19_1, hg_19_2⟩ := hp
  refine s_iinc (v := 19) (L2 := [some (AR 66), some (AL x1), none, some (AI 19), some (AI 60)]) E dJ7_fill_d0a16_16 rfl (by decide) (by decide) rfl ?_
  refine s_goto (tgt := 6) E dJ7_fill_d0a16_19 (by decide) ?_
  refine s_iload_n E dJ7_fill_d0a16_6 rfl rfl ?_
  refine s_iload E dJ7_fill_d0a16_7 rfl ?_
  refine s_icmp_ge (tgt := 22) E dJ7_fill_d0a16_9 (by decide) (fun hh => absurd hh (by decide)) (fun _ => ?_)
  refine s_aload_n E dJ7_fill_d0a16_12 rfl rfl ?_
  refine s_iload_n E dJ7_fill_d0a16_13 rfl rfl ?_
  refine s_lload_n E dJ7_fill_d0a16_14 rfl rfl ?_
  refine s_last E rfl (ltn hg_19_0.1 (by decide)) (vp_c (by decide)) dJ7_fill_d0a16_15 ?_
  refine s_gen (P := fun v => RfC v ∧ FrM v ∧ RfM v) ⟨(fc_upL hg_19_0), (fc_upL hg_19_1), (fc_upL hg_19_2)⟩ (fun g_20 hp => ?_)
  obtain ⟨hg_20_0, hg_20_1, hg_20_2⟩ := hp
  refine s_iinc (v := 20) (L2 := [some (AR 66), some (AL x1), none, some (AI 20), some (AI 60)]) E dJ7_fill_d0a16_16 rfl (by decide) (by decide) rfl ?_
  refine s_goto (tgt := 6) E dJ7_fill_d0a16_19 (by decide) ?_
  refine s_iload_n E dJ7_fill_d0a16_6 rfl rfl ?_
  refine s_iload E dJ7_fill_d0a16_7 rfl ?_
  refine s_icmp_ge (tgt := 22) E dJ7_fill_d0a16_9 (by decide) (fun hh => absurd hh (by decide)) (fun _ => ?_)
  refine s_aload_n E dJ7_fill_d0a16_12 rfl rfl ?_
  refine s_iload_n E dJ7_fill_d0a16_13 rfl rfl ?_
  refine s_lload_n E dJ7_fill_d0a16_14 rfl rfl ?_
  refine s_last E rfl (ltn hg_20_0.1 (by decide)) (vp_c (by decide)) dJ7_fill_d0a16_15 ?_
  refine s_gen (P := fun v => RfC v ∧ FrM v ∧ RfM v) ⟨(fc_upL hg_20_0), (fc_upL hg_20_1), (fc_upL hg_20_2)⟩ (fun g_21 hp => ?_)
  obtain ⟨hg_21_0, hg_21_1, hg_21_2⟩ := hp
  refine s_iinc (v := 21) (L2 := [some (AR 66), some (AL x1), none, some (AI 21), some (AI 60)]) E dJ7_fill_d0a16_16 rfl (by decide) (by decide) rfl ?_
  refine s_goto (tgt := 6) E dJ7_fill_d0a16_19 (by decide) ?_
  refine s_iload_n E dJ7_fill_d0a16_6 rfl rfl ?_
  refine s_iload E dJ7_fill_d0a16_7 rfl ?_
  refine s_icmp_ge (tgt := 22) E dJ7_fill_d0a16_9 (by decide) (fun hh => absurd hh (by decide)) (fun _ => ?_)
  refine s_aload_n E dJ7_fill_d0a16_12 rfl rfl ?_
  refine s_iload_n E dJ7_fill_d0a16_13 rfl rfl ?_
  refine s_lload_n E dJ7_fill_d0a16_14 rfl rfl ?_
  refine s_last E rfl (ltn hg_21_0.1 (by decide)) (vp_c (by decide)) dJ7_fill_d0a16_15 ?_
  refine s_gen (P := fun v => RfC v ∧ FrM v ∧ RfM v) ⟨(fc_upL hg_21_0), (fc_upL hg_21_1), (fc_upL hg_21_2)⟩ (fun g_22 hp => ?_)
  obtain ⟨hg_22_0, hg_22_1, hg_22_2⟩ := hp
  refine s_iinc (v := 22) (L2 := [some (AR 66), some (AL x1), none, some (AI 22), some (AI 60)]) E dJ7_fill_d0a16_16 rfl (by decide) (by decide) rfl ?_
  refine s_goto (tgt := 6) E dJ7_fill_d0a16_19 (by decide) ?_
  refine s_iload_n E dJ7_fill_d0a16_6 rfl rfl ?_
  refine s_iload E dJ7_fill_d0a16_7 rfl ?_
  refine s_icmp_ge (tgt := 22) E dJ7_fill_d0a16_9 (by decide) (fun hh => absurd hh (by decide)) (fun _ => ?_)
  refine s_aload_n E dJ7_fill_d0a16_12 rfl rfl ?_
  refine s_iload_n E dJ7_fill_d0a16_13 rfl rfl ?_
  refine s_lload_n E dJ7_fill_d0a16_14 rfl rfl ?_
  refine s_last E rfl (ltn hg_22_0.1 (by decide)) (vp_c (by decide)) dJ7_fill_d0a16_15 ?_
  refine s_gen (P := fun v => RfC v ∧ FrM v ∧ RfM v) ⟨(fc_upL hg_22_0), (fc_upL hg_22_1), (fc_upL hg_22_2)⟩ (fun g_23 hp => ?_)
  obtain ⟨hg_23_0, hg_23_1, hg_23_2⟩ := hp
  refine s_iinc (v := 23) (L2 := [some (AR 66), some (AL x1), none, some (AI 23), some (AI 60)]) E dJ7_fill_d0a16_16 rfl (by decide) (by decide) rfl ?_
  refine s_goto (tgt := 6) E dJ7_fill_d0a16_19 (by decide) ?_
  refine s_iload_n E dJ7_fill_d0a16_6 rfl rfl ?_
  refine s_iload E dJ7_fill_d0a16_7 rfl ?_
  refine s_icmp_ge (tgt := 22) E dJ7_fill_d0a16_9 (by decide) (fun hh => absurd hh (by decide)) (fun _ => ?_)
  refine s_aload_n E dJ7_fill_d0a16_12 rfl rfl ?_
  refine s_iload_n E dJ7_fill_d0a16_13 rfl rfl ?_
  refine s_lload_n E dJ7_fill_d0a16_14 rfl rfl ?_
  refine s_last E rfl (ltn hg_23_0.1 (by decide)) (vp_c (by decide)) dJ7_fill_d0a16_15 ?_
  refine s_gen (P := fun v => RfC v ∧ FrM v ∧ RfM v) ⟨(fc_upL hg_23_0), (fc_upL hg_23_1), (fc_upL hg_23_2)⟩ (fun g_24 hp => ?_)
  obtain ⟨hg_24_0, hg_24_1, hg_24_2⟩ := hp
  refine s_iinc (v := 24) (L2 := [some (AR 66), some (AL x1), none, some (AI 24), some (AI 60)]) E dJ7_fill_d0a16_16 rfl (by decide) (by decide) rfl ?_
  refine s_goto (tgt := 6) E dJ7_fill_d0a16_19 (by decide) ?_
  refine s_iload_n E dJ7_fill_d0a16_6 rfl rfl ?_
  refine s_iload E dJ7_fill_d0a16_7 rfl ?_
  refine s_icmp_ge (tgt := 22) E dJ7_fill_d0a16_9 (by decide) (fun hh => absurd hh (by decide)) (fun _ => ?_)
  refine s_aload_n E dJ7_fill_d0a16_12 rfl rfl ?_
  refine s_iload_n E dJ7_fill_d0a16_13 rfl rfl ?_
  refine s_lload_n E dJ7_fill_d0a16_14 rfl rfl ?_
  refine s_last E rfl (ltn hg_24_0.1 (by decide)) (vp_c (by decide)) dJ7_fill_d0a16_15 ?_
  refine s_gen (P := fun v => RfC v ∧ FrM v ∧ RfM v) ⟨(fc_upL hg_24_0), (fc_upL hg_24_1), (fc_upL hg_24_2)⟩ (fun g_25 hp => ?_)
  obtain ⟨hg_25_0, hg_25_1, hg_25_2⟩ := hp
  refine s_iinc (v := 25) (L2 := [some (AR 66), some (AL x1), none, some (AI 25), some (AI 60)]) E dJ7_fill_d0a16_16 rfl (by decide) (by decide) rfl ?_
  refine s_goto (tgt := 6) E dJ7_fill_d0a16_19 (by decide) ?_
  refine s_iload_n E dJ7_fill_d0a16_6 rfl rfl ?_
  refine s_iload E dJ7_fill_d0a16_7 rfl ?_
  refine s_icmp_ge (tgt := 22) E dJ7_fill_d0a16_9 (by decide) (fun hh => absurd hh (by decide)) (fun _ => ?_)
  refine s_aload_n E dJ7_fill_d0a16_12 rfl rfl ?_
  refine s_iload_n E dJ7_fill_d0a16_13 rfl rfl ?_
  refine s_lload_n E dJ7_fill_d0a16_14 rfl rfl ?_
  refine s_last E rfl (ltn hg_25_0.1 (by decide)) (vp_c (by decide)) dJ7_fill_d0a16_15 ?_
  refine s_gen (P := fun v => RfC v ∧ FrM v ∧ RfM v) ⟨(fc_upL hg_25_0), (fc_upL hg_25_1), (fc_upL hg_25_2)⟩ (fun g_26 hp => ?_)
  obtain ⟨hg_26_0, hg_26_1, hg_26_2⟩ := hp
  refine s_iinc (v := 26) (L2 := [some (AR 66), some (AL x1), none, some (AI 26), some (AI 60)]) E dJ7_fill_d0a16_16 rfl (by decide) (by decide) rfl ?_
  refine s_goto (tgt := 6) E dJ7_fill_d0a16_19 (by decide) ?_
  refine s_iload_n E dJ7_fill_d0a16_6 rfl rfl ?_
  refine s_iload E dJ7_fill_d0a16_7 rfl ?_
  refine s_icmp_ge (tgt := 22) E dJ7_fill_d0a16_9 (by decide) (fun hh => absurd hh (by decide)) (fun _ => ?_)
  refine s_aload_n E dJ7_fill_d0a16_12 rfl rfl ?_
  refine s_iload_n E dJ7_fill_d0a16_13 rfl rfl ?_
  refine s_lload_n E dJ7_fill_d0a16_14 rfl rfl ?_
  refine s_last E rfl (ltn hg_26_0.1 (by decide)) (vp_c (by decide)) dJ7_fill_d0a16_15 ?_
  refine s_gen (P := fun v => RfC v ∧ FrM v ∧ RfM v) ⟨(fc_upL hg_26_0), (fc_upL hg_26_1), (fc_upL hg_26_2)⟩ (fun g_27 hp => ?_)
  obtain ⟨hg_27_0, hg_27_1, hg_27_2⟩ := hp
  refine s_iinc (v := 27) (L2 := [some (AR 66), some (AL x1), none, some (AI 27), some (AI 60)]) E dJ7_fill_d0a16_16 rfl (by decide) (by decide) rfl ?_
  refine s_goto (tgt := 6) E dJ7_fill_d0a16_19 (by decide) ?_
  refine s_iload_n E dJ7_fill_d0a16_6 rfl rfl ?_
  refine s_iload E dJ7_fill_d0a16_7 rfl ?_
  refine s_icmp_ge (tgt := 22) E dJ7_fill_d0a16_9 (by decide) (fun hh => absurd hh (by decide)) (fun _ => ?_)
  refine s_aload_n E dJ7_fill_d0a16_12 rfl rfl ?_
  refine s_iload_n E dJ7_fill_d0a16_13 rfl rfl ?_
  refine s_lload_n E dJ7_fill_d0a16_14 rfl rfl ?_
  refine s_last E rfl (ltn hg_27_0.1 (by decide)) (vp_c (by decide)) dJ7_fill_d0a16_15 ?_
  refine s_gen (P := fun v => RfC v ∧ FrM v ∧ RfM v) ⟨(fc_upL hg_27_0), (fc_upL hg_27_1), (fc_upL hg_27_2)⟩ (fun g_28 hp => ?_)
  obtain ⟨hg_28_0, hg_28_1, hg_28_2⟩ := hp
  refine s_iinc (v := 28) (L2 := [some (AR 66), some (AL x1), none, some (AI 28), some (AI 60)]) E dJ7_fill_d0a16_16 rfl (by decide) (by decide) rfl ?_
  refine s_goto (tgt := 6) E dJ7_fill_d0a16_19 (by decide) ?_
  refine s_iload_n E dJ7_fill_d0a16_6 rfl rfl ?_
  refine s_iload E dJ7_fill_d0a16_7 rfl ?_
  refine s_icmp_ge (tgt := 22) E dJ7_fill_d0a16_9 (by decide) (fun hh => absurd hh (by decide)) (fun _ => ?_)
  refine s_aload_n E dJ7_fill_d0a16_12 rfl rfl ?_
  refine s_iload_n E dJ7_fill_d0a16_13 rfl rfl ?_
  refine s_lload_n E dJ7_fill_d0a16_14 rfl rfl ?_
  refine s_last E rfl (ltn hg_28_0.1 (by decide)) (vp_c (by decide)) dJ7_fill_d0a16_15 ?_
  refine s_gen (P := fun v => RfC v ∧ FrM v ∧ RfM v) ⟨(fc_upL hg_28_0), (fc_upL hg_28_1), (fc_upL hg_28_2)⟩ (fun g_29 hp => ?_)
  obtain ⟨hg_29_0, hg_29_1, hg_29_2⟩ := hp
  refine s_iinc (v := 29) (L2 := [some (AR 66), some (AL x1), none, some (AI 29), some (AI 60)]) E dJ7_fill_d0a16_16 rfl (by decide) (by decide) rfl ?_
  refine s_goto (tgt := 6) E dJ7_fill_d0a16_19 (by decide) ?_
  refine s_iload_n E dJ7_fill_d0a16_6 rfl rfl ?_
  refine s_iload E dJ7_fill_d0a16_7 rfl ?_
  refine s_icmp_ge (tgt := 22) E dJ7_fill_d0a16_9 (by decide) (fun hh => absurd hh (by decide)) (fun _ => ?_)
  refine s_aload_n E dJ7_fill_d0a16_12 rfl rfl ?_
  refine s_iload_n E dJ7_fill_d0a16_13 rfl rfl ?_
  refine s_lload_n E dJ7_fill_d0a16_14 rfl rfl ?_
  refine s_last E rfl (ltn hg_29_0.1 (by decide)) (vp_c (by decide)) dJ7_fill_d0a16_15 ?_
  refine s_gen (P := fun v => RfC v ∧ FrM v ∧ RfM v) ⟨(fc_upL hg_29_0), (fc_upL hg_29_1), (fc_upL hg_29_2)⟩ (fun g_30 hp => ?_)
  obtain ⟨hg_30_0, hg_30_1, hg_30_2⟩ := hp
  refine s_iinc (v := 30) (L2 := [some (AR 66), some (AL x1), none, some (AI 30), some (AI 60)]) E dJ7_fill_d0a16_16 rfl (by decide) (by decide) rfl ?_
  refine s_goto (tgt := 6) E dJ7_fill_d0a16_19 (by decide) ?_
  refine s_iload_n E dJ7_fill_d0a16_6 rfl rfl ?_
  refine s_iload E dJ7_fill_d0a16_7 rfl ?_
  refine s_icmp_ge (tgt := 22) E dJ7_fill_d0a16_9 (by decide) (fun hh => absurd hh (by decide)) (fun _ => ?_)
  refine s_aload_n E dJ7_fill_d0a16_12 rfl rfl ?_
  refine s_iload_n E dJ7_fill_d0a16_13 rfl rfl ?_
  refine s_lload_n E dJ7_fill_d0a16_14 rfl rfl ?_
  refine s_last E rfl (ltn hg_30_0.1 (by decide)) (vp_c (by decide)) dJ7_fill_d0a16_15 ?_
  refine s_gen (P := fun v => RfC v ∧ FrM v ∧ RfM v) ⟨(fc_upL hg_30_0), (fc_upL hg_30_1), (fc_upL hg_30_2)⟩ (fun g_31 hp => ?_)
  obtain ⟨hg_31_0, hg_31_1, hg_31_2⟩ := hp
  refine s_iinc (v := 31) (L2 := [some (AR 66), some (AL x1), none, some (AI 31), some (AI 60)]) E dJ7_fill_d0a16_16 rfl (by decide) (by decide) rfl ?_
  refine s_goto (tgt := 6) E dJ7_fill_d0a16_19 (by decide) ?_
  refine s_iload_n E dJ7_fill_d0a16_6 rfl rfl ?_
  refine s_iload E dJ7_fill_d0a16_7 rfl ?_
  refine s_icmp_ge (tgt := 22) E dJ7_fill_d0a16_9 (by decide) (fun hh => absurd hh (by decide)) (fun _ => ?_)
  refine s_aload_n E dJ7_fill_d0a16_12 rfl rfl ?_
  refine s_iload_n E dJ7_fill_d0a16_13 rfl rfl ?_
  refine s_lload_n E dJ7_fill_d0a16_14 rfl rfl ?_
  refine s_last E rfl (ltn hg_31_0.1 (by decide)) (vp_c (by decide)) dJ7_fill_d0a16_15 ?_
  refine s_gen (P := fun v => RfC v ∧ FrM v ∧ RfM v) ⟨(fc_upL hg_31_0), (fc_upL hg_31_1), (fc_upL hg_31_2)⟩ (fun g_32 hp => ?_)
  obtain ⟨hg_32_0, hg_32_1, hg_32_2⟩ := hp
  refine s_iinc (v := 32) (L2 := [some (AR 66), some (AL x1), none, some (AI 32), some (AI 60)]) E dJ7_fill_d0a16_16 rfl (by decide) (by decide) rfl ?_
  refine s_goto (tgt := 6) E dJ7_fill_d0a16_19 (by decide) ?_
  refine s_iload_n E dJ7_fill_d0a16_6 rfl rfl ?_
  refine s_iload E dJ7_fill_d0a16_7 rfl ?_
  refine s_icmp_ge (tgt := 22) E dJ7_fill_d0a16_9 (by decide) (fun hh => absurd hh (by decide)) (fun _ => ?_)
  refine s_aload_n E dJ7_fill_d0a16_12 rfl rfl ?_
  refine s_iload_n E dJ7_fill_d0a16_13 rfl rfl ?_
  refine s_lload_n E dJ7_fill_d0a16_14 rfl rfl ?_
  refine s_last E rfl (ltn hg_32_0.1 (by decide)) (vp_c (by decide)) dJ7_fill_d0a16_15 ?_
  refine s_gen (P := fun v => RfC v ∧ FrM v ∧ RfM v) ⟨(fc_upL hg_32_0), (fc_upL hg_32_1), (fc_upL hg_32_2)⟩ (fun g_33 hp => ?_)
  obtain ⟨hg_33_0, hg_33_1, hg_33_2⟩ := hp
  refine s_iinc (v := 33) (L2 := [some (AR 66), some (AL x1), none, some (AI 33), some (AI 60)]) E dJ7_fill_d0a16_16 rfl (by decide) (by decide) rfl ?_
  refine s_goto (tgt := 6) E dJ7_fill_d0a16_19 (by decide) ?_
  refine s_iload_n E dJ7_fill_d0a16_6 rfl rfl ?_
  refine s_iload E dJ7_fill_d0a16_7 rfl ?_
  refine s_icmp_ge (tgt := 22) E dJ7_fill_d0a16_9 (by decide) (fun hh => absurd hh (by decide)) (fun _ => ?_)
  refine s_aload_n E dJ7_fill_d0a16_12 rfl rfl ?_
  refine s_iload_n E dJ7_fill_d0a16_13 rfl rfl ?_
  refine s_lload_n E dJ7_fill_d0a16_14 rfl rfl ?_
  refine s_last E rfl (ltn hg_33_0.1 (by decide)) (vp_c (by decide)) dJ7_fill_d0a16_15 ?_
  refine s_gen (P := fun v => RfC v ∧ FrM v ∧ RfM v) ⟨(fc_upL hg_33_0), (fc_upL hg_33_1), (fc_upL hg_33_2)⟩ (fun g_34 hp => ?_)
  obtain ⟨hg_34_0, hg_34_1, hg_34_2⟩ := hp
  refine s_iinc (v := 34) (L2 := [some (AR 66), some (AL x1), none, some (AI 34), some (AI 60)]) E dJ7_fill_d0a16_16 rfl (by decide) (by decide) rfl ?_
  refine s_goto (tgt := 6) E dJ7_fill_d0a16_19 (by decide) ?_
  refine s_iload_n E dJ7_fill_d0a16_6 rfl rfl ?_
  refine s_iload E dJ7_fill_d0a16_7 rfl ?_
  refine s_icmp_ge (tgt := 22) E dJ7_fill_d0a16_9 (by decide) (fun hh => absurd hh (by decide)) (fun _ => ?_)
  refine s_aload_n E dJ7_fill_d0a16_12 rfl rfl ?_
  refine s_iload_n E dJ7_fill_d0a16_13 rfl rfl ?_
  refine s_lload_n E dJ7_fill_d0a16_14 rfl rfl ?_
  refine s_last E rfl (ltn hg_34_0.1 (by decide)) (vp_c (by decide)) dJ7_fill_d0a16_15 ?_
  refine s_gen (P := fun v => RfC v ∧ FrM v ∧ RfM v) ⟨(fc_upL hg_34_0), (fc_upL hg_34_1), (fc_upL hg_34_2)⟩ (fun g_35 hp => ?_)
  obtain ⟨hg_35_0, hg_35_1, hg_35_2⟩ := hp
  refine s_iinc (v := 35) (L2 := [some (AR 66), some (AL x1), none, some (AI 35), some (AI 60)]) E dJ7_fill_d0a16_16 rfl (by decide) (by decide) rfl ?_
  refine s_goto (tgt := 6) E dJ7_fill_d0a16_19 (by decide) ?_
  refine s_iload_n E dJ7_fill_d0a16_6 rfl rfl ?_
  refine s_iload E dJ7_fill_d0a16_7 rfl ?_
  refine s_icmp_ge (tgt := 22) E dJ7_fill_d0a16_9 (by decide) (fun hh => absurd hh (by decide)) (fun _ => ?_)
  refine s_aload_n E dJ7_fill_d0a16_12 rfl rfl ?_
  refine s_iload_n E dJ7_fill_d0a16_13 rfl rfl ?_
  refine s_lload_n E dJ7_fill_d0a16_14 rfl rfl ?_
  refine s_last E rfl (ltn hg_35_0.1 (by decide)) (vp_c (by decide)) dJ7_fill_d0a16_15 ?_
  refine s_gen (P := fun v => RfC v ∧ FrM v ∧ RfM v) ⟨(fc_upL hg_35_0), (fc_upL hg_35_1), (fc_upL hg_35_2)⟩ (fun g_36 hp => ?_)
  obtain ⟨hg_36_0, hg_36_1, hg_36_2⟩ := hp
  refine s_iinc (v := 36) (L2 := [some (AR 66), some (AL x1), none, some (AI 36), some (AI 60)]) E dJ7_fill_d0a16_16 rfl (by decide) (by decide) rfl ?_
  refine s_goto (tgt := 6) E dJ7_fill_d0a16_19 (by decide) ?_
  refine s_iload_n E dJ7_fill_d0a16_6 rfl rfl ?_
  refine s_iload E dJ7_fill_d0a16_7 rfl ?_
  refine s_icmp_ge (tgt := 22) E dJ7_fill_d0a16_9 (by decide) (fun hh => absurd hh (by decide)) (fun _ => ?_)
  refine s_aload_n E dJ7_fill_d0a16_12 rfl rfl ?_
  refine s_iload_n E dJ7_fill_d0a16_13 rfl rfl ?_
  refine s_lload_n E dJ7_fill_d0a16_14 rfl rfl ?_
  refine s_last E rfl (ltn hg_36_0.1 (by decide)) (vp_c (by decide)) dJ7_fill_d0a16_15 ?_
  refine s_gen (P := fun v => RfC v ∧ FrM v ∧ RfM v) ⟨(fc_upL hg_36_0), (fc_upL hg_36_1), (fc_upL hg_36_2)⟩ (fun g_37 hp => ?_)
  obtain ⟨hg_37_0, hg_37_1, hg_37_2⟩ := hp
  refine s_iinc (v := 37) (L2 := [some (AR 66), some (AL x1), none, some (AI 37), some (AI 60)]) E dJ7_fill_d0a16_16 rfl (by decide) (by decide) rfl ?_
  refine s_goto (tgt := 6) E dJ7_fill_d0a16_19 (by decide) ?_
  refine s_iload_n E dJ7_fill_d0a16_6 rfl rfl ?_
  refine s_iload E dJ7_fill_d0a16_7 rfl ?_
  refine s_icmp_ge (tgt := 22) E dJ7_fill_d0a16_9 (by decide) (fun hh => absurd hh (by decide)) (fun _ => ?_)
  refine s_aload_n E dJ7_fill_d0a16_12 rfl rfl ?_
  refine s_iload_n E dJ7_fill_d0a16_13 rfl rfl ?_
  refine s_lload_n E dJ7_fill_d0a16_14 rfl rfl ?_
  refine s_last E rfl (ltn hg_37_0.1 (by decide)) (vp_c (by decide)) dJ7_fill_d0a16_15 ?_
  refine s_gen (P := fun v => RfC v ∧ FrM v ∧ RfM v) ⟨(fc_upL hg_37_0), (fc_upL hg_37_1), (fc_upL hg_37_2)⟩ (fun g_38 hp => ?_)
  obtain ⟨hg_38_0, hg_38_1, hg_38_2⟩ := hp
  refine s_iinc (v := 38) (L2 := [some (AR 66), some (AL x1), none, some (AI 38), some (AI 60)]) E dJ7_fill_d0a16_16 rfl (by decide) (by decide) rfl ?_
  refine s_goto (tgt := 6) E dJ7_fill_d0a16_19 (by decide) ?_
  refine s_iload_n E dJ7_fill_d0a16_6 rfl rfl ?_
  refine s_iload E dJ7_fill_d0a16_7 rfl ?_
  refine s_icmp_ge (tgt := 22) E dJ7_fill_d0a16_9 (by decide) (fun hh => absurd hh (by decide)) (fun _ => ?_)
  refine s_aload_n E dJ7_fill_d0a16_12 rfl rfl ?_
  refine s_iload_n E dJ7_fill_d0a16_13 rfl rfl ?_
  refine s_lload_n E dJ7_fill_d0a16_14 rfl rfl ?_
  refine s_last E rfl (ltn hg_38_0.1 (by decide)) (vp_c (by decide)) dJ7_fill_d0a16_15 ?_
  refine s_gen (P := fun v => RfC v ∧ FrM v ∧ RfM v) ⟨(fc_upL hg_38_0), (fc_upL hg_38_1), (fc_upL hg_38_2)⟩ (fun g_39 hp => ?_)
  obtain ⟨hg_39_0, hg_39_1, hg_39_2⟩ := hp
  refine s_iinc (v := 39) (L2 := [some (AR 66), some (AL x1), none, some (AI 39), some (AI 60)]) E dJ7_fill_d0a16_16 rfl (by decide) (by decide) rfl ?_
  refine s_goto (tgt := 6) E dJ7_fill_d0a16_19 (by decide) ?_
  refine s_iload_n E dJ7_fill_d0a16_6 rfl rfl ?_
  refine s_iload E dJ7_fill_d0a16_7 rfl ?_
  refine s_icmp_ge (tgt := 22) E dJ7_fill_d0a16_9 (by decide) (fun hh => absurd hh (by decide)) (fun _ => ?_)
  refine s_aload_n E dJ7_fill_d0a16_12 rfl rfl ?_
  refine s_iload_n E dJ7_fill_d0a16_13 rfl rfl ?_
  refine s_lload_n E dJ7_fill_d0a16_14 rfl rfl ?_
  refine s_last E rfl (ltn hg_39_0.1 (by decide)) (vp_c (by decide)) dJ7_fill_d0a16_15 ?_
  refine s_gen (P := fun v => RfC v ∧ FrM v ∧ RfM v) ⟨(fc_upL hg_39_0), (fc_upL hg_39_1), (fc_upL hg_39_2)⟩ (fun g_40 hp => ?_)
  obtain ⟨hg_40_0, hg_40_1, hg_40_2⟩ := hp
  refine s_iinc (v := 40) (L2 := [some (AR 66), some (AL x1), none, some (AI 40), some (AI 60)]) E dJ7_fill_d0a16_16 rfl (by decide) (by decide) rfl ?_
  refine s_goto (tgt := 6) E dJ7_fill_d0a16_19 (by decide) ?_
  refine s_iload_n E dJ7_fill_d0a16_6 rfl rfl ?_
  refine s_iload E dJ7_fill_d0a16_7 rfl ?_
  refine s_icmp_ge (tgt := 22) E dJ7_fill_d0a16_9 (by decide) (fun hh => absurd hh (by decide)) (fun _ => ?_)
  refine s_aload_n E dJ7_fill_d0a16_12 rfl rfl ?_
  refine s_iload_n E dJ7_fill_d0a16_13 rfl rfl ?_
  refine s_lload_n E dJ7_fill_d0a16_14 rfl rfl ?_
  refine s_last E rfl (ltn hg_40_0.1 (by decide)) (vp_c (by decide)) dJ7_fill_d0a16_15 ?_
  refine s_gen (P := fun v => RfC v ∧ FrM v ∧ RfM v) ⟨(fc_upL hg_40_0), (fc_upL hg_40_1), (fc_upL hg_40_2)⟩ (fun g_41 hp => ?_)
  obtain ⟨hg_41_0, hg_41_1, hg_41_2⟩ := hp
  refine s_iinc (v := 41) (L2 := [some (AR 66), some (AL x1), none, some (AI 41), some (AI 60)]) E dJ7_fill_d0a16_16 rfl (by decide) (by decide) rfl ?_
  refine s_goto (tgt := 6) E dJ7_fill_d0a16_19 (by decide) ?_
  refine s_iload_n E dJ7_fill_d0a16_6 rfl rfl ?_
  refine s_iload E dJ7_fill_d0a16_7 rfl ?_
  refine s_icmp_ge (tgt := 22) E dJ7_fill_d0a16_9 (by decide) (fun hh => absurd hh (by decide)) (fun _ => ?_)
  refine s_aload_n E dJ7_fill_d0a16_12 rfl rfl ?_
  refine s_iload_n E dJ7_fill_d0a16_13 rfl rfl ?_
  refine s_lload_n E dJ7_fill_d0a16_14 rfl rfl ?_
  refine s_last E rfl (ltn hg_41_0.1 (by decide)) (vp_c (by decide)) dJ7_fill_d0a16_15 ?_
  refine s_gen (P := fun v => RfC v ∧ FrM v ∧ RfM v) ⟨(fc_upL hg_41_0), (fc_upL hg_41_1), (fc_upL hg_41_2)⟩ (fun g_42 hp => ?_)
  obtain ⟨hg_42_0, hg_42_1, hg_42_2⟩ := hp
  refine s_iinc (v := 42) (L2 := [some (AR 66), some (AL x1), none, some (AI 42), some (AI 60)]) E dJ7_fill_d0a16_16 rfl (by decide) (by decide) rfl ?_
  refine s_goto (tgt := 6) E dJ7_fill_d0a16_19 (by decide) ?_
  refine s_iload_n E dJ7_fill_d0a16_6 rfl rfl ?_
  refine s_iload E dJ7_fill_d0a16_7 rfl ?_
  refine s_icmp_ge (tgt := 22) E dJ7_fill_d0a16_9 (by decide) (fun hh => absurd hh (by decide)) (fun _ => ?_)
  refine s_aload_n E dJ7_fill_d0a16_12 rfl rfl ?_
  refine s_iload_n E dJ7_fill_d0a16_13 rfl rfl ?_
  refine s_lload_n E dJ7_fill_d0a16_14 rfl rfl ?_
  refine s_last E rfl (ltn hg_42_0.1 (by decide)) (vp_c (by decide)) dJ7_fill_d0a16_15 ?_
  refine s_gen (P := fun v => RfC v ∧ FrM v ∧ RfM v) ⟨(fc_upL hg_42_0), (fc_upL hg_42_1), (fc_upL hg_42_2)⟩ (fun g_43 hp => ?_)
  obtain ⟨hg_43_0, hg_43_1, hg_43_2⟩ := hp
  refine s_iinc (v := 43) (L2 := [some (AR 66), some (AL x1), none, some (AI 43), some (AI 60)]) E dJ7_fill_d0a16_16 rfl (by decide) (by decide) rfl ?_
  refine s_goto (tgt := 6) E dJ7_fill_d0a16_19 (by decide) ?_
  refine s_iload_n E dJ7_fill_d0a16_6 rfl rfl ?_
  refine s_iload E dJ7_fill_d0a16_7 rfl ?_
  refine s_icmp_ge (tgt := 22) E dJ7_fill_d0a16_9 (by decide) (fun hh => absurd hh (by decide)) (fun _ => ?_)
  refine s_aload_n E dJ7_fill_d0a16_12 rfl rfl ?_
  refine s_iload_n E dJ7_fill_d0a16_13 rfl rfl ?_
  refine s_lload_n E dJ7_fill_d0a16_14 rfl rfl ?_
  refine s_last E rfl (ltn hg_43_0.1 (by decide)) (vp_c (by decide)) dJ7_fill_d0a16_15 ?_
  refine s_gen (P := fun v => RfC v ∧ FrM v ∧ RfM v) ⟨(fc_upL hg_43_0), (fc_upL hg_43_1), (fc_upL hg_43_2)⟩ (fun g_44 hp => ?_)
  obtain ⟨hg_44_0, hg_44_1, hg_44_2⟩ := hp
  refine s_iinc (v := 44) (L2 := [some (AR 66), some (AL x1), none, some (AI 44), some (AI 60)]) E dJ7_fill_d0a16_16 rfl (by decide) (by decide) rfl ?_
  refine s_goto (tgt := 6) E dJ7_fill_d0a16_19 (by decide) ?_
  refine s_iload_n E dJ7_fill_d0a16_6 rfl rfl ?_
  refine s_iload E dJ7_fill_d0a16_7 rfl ?_
  refine s_icmp_ge (tgt := 22) E dJ7_fill_d0a16_9 (by decide) (fun hh => absurd hh (by decide)) (fun _ => ?_)
  refine s_aload_n E dJ7_fill_d0a16_12 rfl rfl ?_
  refine s_iload_n E dJ7_fill_d0a16_13 rfl rfl ?_
  refine s_lload_n E dJ7_fill_d0a16_14 rfl rfl ?_
  refine s_last E rfl (ltn hg_44_0.1 (by decide)) (vp_c (by decide)) dJ7_fill_d0a16_15 ?_
  refine s_gen (P := fun v => RfC v ∧ FrM v ∧ RfM v) ⟨(fc_upL hg_44_0), (fc_upL hg_44_1), (fc_upL hg_44_2)⟩ (fun g_45 hp => ?_)
  obtain ⟨hg_45_0, hg_45_1, hg_45_2⟩ := hp
  refine s_iinc (v := 45) (L2 := [some (AR 66), some (AL x1), none, some (AI 45), some (AI 60)]) E dJ7_fill_d0a16_16 rfl (by decide) (by decide) rfl ?_
  refine s_goto (tgt := 6) E dJ7_fill_d0a16_19 (by decide) ?_
  refine s_iload_n E dJ7_fill_d0a16_6 rfl rfl ?_
  refine s_iload E dJ7_fill_d0a16_7 rfl ?_
  refine s_icmp_ge (tgt := 22) E dJ7_fill_d0a16_9 (by decide) (fun hh => absurd hh (by decide)) (fun _ => ?_)
  refine s_aload_n E dJ7_fill_d0a16_12 rfl rfl ?_
  refine s_iload_n E dJ7_fill_d0a16_13 rfl rfl ?_
  refine s_lload_n E dJ7_fill_d0a16_14 rfl rfl ?_
  refine s_last E rfl (ltn hg_45_0.1 (by decide)) (vp_c (by decide)) dJ7_fill_d0a16_15 ?_
  refine s_gen (P := fun v => RfC v ∧ FrM v ∧ RfM v) ⟨(fc_upL hg_45_0), (fc_upL hg_45_1), (fc_upL hg_45_2)⟩ (fun g_46 hp => ?_)
  obtain ⟨hg_46_0, hg_46_1, hg_46_2⟩ := hp
  refine s_iinc (v := 46) (L2 := [some (AR 66), some (AL x1), none, some (AI 46), some (AI 60)]) E dJ7_fill_d0a16_16 rfl (by decide) (by decide) rfl ?_
  refine s_goto (tgt := 6) E dJ7_fill_d0a16_19 (by decide) ?_
  refine s_iload_n E dJ7_fill_d0a16_6 rfl rfl ?_
  refine s_iload E dJ7_fill_d0a16_7 rfl ?_
  refine s_icmp_ge (tgt := 22) E dJ7_fill_d0a16_9 (by decide) (fun hh => absurd hh (by decide)) (fun _ => ?_)
  refine s_aload_n E dJ7_fill_d0a16_12 rfl rfl ?_
  refine s_iload_n E dJ7_fill_d0a16_13 rfl rfl ?_
  refine s_lload_n E dJ7_fill_d0a16_14 rfl rfl ?_
  refine s_last E rfl (ltn hg_46_0.1 (by decide)) (vp_c (by decide)) dJ7_fill_d0a16_15 ?_
  refine s_gen (P := fun v => RfC v ∧ FrM v ∧ RfM v) ⟨(fc_upL hg_46_0), (fc_upL hg_46_1), (fc_upL hg_46_2)⟩ (fun g_47 hp => ?_)
  obtain ⟨hg_47_0, hg_47_1, hg_47_2⟩ := hp
  refine s_iinc (v := 47) (L2 := [some (AR 66), some (AL x1), none, some (AI 47), some (AI 60)]) E dJ7_fill_d0a16_16 rfl (by decide) (by decide) rfl ?_
  refine s_goto (tgt := 6) E dJ7_fill_d0a16_19 (by decide) ?_
  refine s_iload_n E dJ7_fill_d0a16_6 rfl rfl ?_
  refine s_iload E dJ7_fill_d0a16_7 rfl ?_
  refine s_icmp_ge (tgt := 22) E dJ7_fill_d0a16_9 (by decide) (fun hh => absurd hh (by decide)) (fun _ => ?_)
  refine s_aload_n E dJ7_fill_d0a16_12 rfl rfl ?_
  refine s_iload_n E dJ7_fill_d0a16_13 rfl rfl ?_
  refine s_lload_n E dJ7_fill_d0a16_14 rfl rfl ?_
  refine s_last E rfl (ltn hg_47_0.1 (by decide)) (vp_c (by decide)) dJ7_fill_d0a16_15 ?_
  refine s_gen (P := fun v => RfC v ∧ FrM v ∧ RfM v) ⟨(fc_upL hg_47_0), (fc_upL hg_47_1), (fc_upL hg_47_2)⟩ (fun g_48 hp => ?_)
  obtain ⟨hg_48_0, hg_48_1, hg_48_2⟩ := hp
  refine s_iinc (v := 48) (L2 := [some (AR 66), some (AL x1), none, some (AI 48), some (AI 60)]) E dJ7_fill_d0a16_16 rfl (by decide) (by decide) rfl ?_
  refine s_goto (tgt := 6) E dJ7_fill_d0a16_19 (by decide) ?_
  refine s_iload_n E dJ7_fill_d0a16_6 rfl rfl ?_
  refine s_iload E dJ7_fill_d0a16_7 rfl ?_
  refine s_icmp_ge (tgt := 22) E dJ7_fill_d0a16_9 (by decide) (fun hh => absurd hh (by decide)) (fun _ => ?_)
  refine s_aload_n E dJ7_fill_d0a16_12 rfl rfl ?_
  refine s_iload_n E dJ7_fill_d0a16_13 rfl rfl ?_
  refine s_lload_n E dJ7_fill_d0a16_14 rfl rfl ?_
  refine s_last E rfl (ltn hg_48_0.1 (by decide)) (vp_c (by decide)) dJ7_fill_d0a16_15 ?_
  refine s_gen (P := fun v => RfC v ∧ FrM v ∧ RfM v) ⟨(fc_upL hg_48_0), (fc_upL hg_48_1), (fc_upL hg_48_2)⟩ (fun g_49 hp => ?_)
  obtain ⟨hg_49_0, hg_49_1, hg_49_2⟩ := hp
  refine s_iinc (v := 49) (L2 := [some (AR 66), some (AL x1), none, some (AI 49), some (AI 60)]) E dJ7_fill_d0a16_16 rfl (by decide) (by decide) rfl ?_
  refine s_goto (tgt := 6) E dJ7_fill_d0a16_19 (by decide) ?_
  refine s_iload_n E dJ7_fill_d0a16_6 rfl rfl ?_
  refine s_iload E dJ7_fill_d0a16_7 rfl ?_
  refine s_icmp_ge (tgt := 22) E dJ7_fill_d0a16_9 (by decide) (fun hh => absurd hh (by decide)) (fun _ => ?_)
  refine s_aload_n E dJ7_fill_d0a16_12 rfl rfl ?_
  refine s_iload_n E dJ7_fill_d0a16_13 rfl rfl ?_
  refine s_lload_n E dJ7_fill_d0a16_14 rfl rfl ?_
  refine s_last E rfl (ltn hg_49_0.1 (by decide)) (vp_c (by decide)) dJ7_fill_d0a16_15 ?_
  refine s_gen (P := fun v => RfC v ∧ FrM v ∧ RfM v) ⟨(fc_upL hg_49_0), (fc_upL hg_49_1), (fc_upL hg_49_2)⟩ (fun g_50 hp => ?_)
  obtain ⟨hg_50_0, hg_50_1, hg_50_2⟩ := hp
  refine s_iinc (v := 50) (L2 := [some (AR 66), some (AL x1), none, some (AI 50), some (AI 60)]) E dJ7_fill_d0a16_16 rfl (by decide) (by decide) rfl ?_
  refine s_goto (tgt := 6) E dJ7_fill_d0a16_19 (by decide) ?_
  refine s_iload_n E dJ7_fill_d0a16_6 rfl rfl ?_
  refine s_iload E dJ7_fill_d0a16_7 rfl ?_
  refine s_icmp_ge (tgt := 22) E dJ7_fill_d0a16_9 (by decide) (fun hh => absurd hh (by decide)) (fun _ => ?_)
  refine s_aload_n E dJ7_fill_d0a16_12 rfl rfl ?_
  refine s_iload_n E dJ7_fill_d0a16_13 rfl rfl ?_
  refine s_lload_n E dJ7_fill_d0a16_14 rfl rfl ?_
  refine s_last E rfl (ltn hg_50_0.1 (by decide)) (vp_c (by decide)) dJ7_fill_d0a16_15 ?_
  refine s_gen (P := fun v => RfC v ∧ FrM v ∧ RfM v) ⟨(fc_upL hg_50_0), (fc_upL hg_50_1), (fc_upL hg_50_2)⟩ (fun g_51 hp => ?_)
  obtain ⟨hg_51_0, hg_51_1, hg_51_2⟩ := hp
  refine s_iinc (v := 51) (L2 := [some (AR 66), some (AL x1), none, some (AI 51), some (AI 60)]) E dJ7_fill_d0a16_16 rfl (by decide) (by decide) rfl ?_
  refine s_goto (tgt := 6) E dJ7_fill_d0a16_19 (by decide) ?_
  refine s_iload_n E dJ7_fill_d0a16_6 rfl rfl ?_
  refine s_iload E dJ7_fill_d0a16_7 rfl ?_
  refine s_icmp_ge (tgt := 22) E dJ7_fill_d0a16_9 (by decide) (fun hh => absurd hh (by decide)) (fun _ => ?_)
  refine s_aload_n E dJ7_fill_d0a16_12 rfl rfl ?_
  refine s_iload_n E dJ7_fill_d0a16_13 rfl rfl ?_
  refine s_lload_n E dJ7_fill_d0a16_14 rfl rfl ?_
  refine s_last E rfl (ltn hg_51_0.1 (by decide)) (vp_c (by decide)) dJ7_fill_d0a16_15 ?_
  refine s_gen (P := fun v => RfC v ∧ FrM v ∧ RfM v) ⟨(fc_upL hg_51_0), (fc_upL hg_51_1), (fc_upL hg_51_2)⟩ (fun g_52 hp => ?_)
  obtain ⟨hg_52_0, hg_52_1, hg_52_2⟩ := hp
  refine s_iinc (v := 52) (L2 := [some (AR 66), some (AL x1), none, some (AI 52), some (AI 60)]) E dJ7_fill_d0a16_16 rfl (by decide) (by decide) rfl ?_
  refine s_goto (tgt := 6) E dJ7_fill_d0a16_19 (by decide) ?_
  refine s_iload_n E dJ7_fill_d0a16_6 rfl rfl ?_
  refine s_iload E dJ7_fill_d0a16_7 rfl ?_
  refine s_icmp_ge (tgt := 22) E dJ7_fill_d0a16_9 (by decide) (fun hh => absurd hh (by decide)) (fun _ => ?_)
  refine s_aload_n E dJ7_fill_d0a16_12 rfl rfl ?_
  refine s_iload_n E dJ7_fill_d0a16_13 rfl rfl ?_
  refine s_lload_n E dJ7_fill_d0a16_14 rfl rfl ?_
  refine s_last E rfl (ltn hg_52_0.1 (by decide)) (vp_c (by decide)) dJ7_fill_d0a16_15 ?_
  refine s_gen (P := fun v => RfC v ∧ FrM v ∧ RfM v) ⟨(fc_upL hg_52_0), (fc_upL hg_52_1), (fc_upL hg_52_2)⟩ (fun g_53 hp => ?_)
  obtain ⟨hg_53_0, hg_53_1, hg_53_2⟩ := hp
  refine s_iinc (v := 53) (L2 := [some (AR 66), some (AL x1), none, some (AI 53), some (AI 60)]) E dJ7_fill_d0a16_16 rfl (by decide) (by decide) rfl ?_
  refine s_goto (tgt := 6) E dJ7_fill_d0a16_19 (by decide) ?_
  refine s_iload_n E dJ7_fill_d0a16_6 rfl rfl ?_
  refine s_iload E dJ7_fill_d0a16_7 rfl ?_
  refine s_icmp_ge (tgt := 22) E dJ7_fill_d0a16_9 (by decide) (fun hh => absurd hh (by decide)) (fun _ => ?_)
  refine s_aload_n E dJ7_fill_d0a16_12 rfl rfl ?_
  refine s_iload_n E dJ7_fill_d0a16_13 rfl rfl ?_
  refine s_lload_n E dJ7_fill_d0a16_14 rfl rfl ?_
  refine s_last E rfl (ltn hg_53_0.1 (by decide)) (vp_c (by decide)) dJ7_fill_d0a16_15 ?_
  refine s_gen (P := fun v => RfC v ∧ FrM v ∧ RfM v) ⟨(fc_upL hg_53_0), (fc_upL hg_53_1), (fc_upL hg_53_2)⟩ (fun g_54 hp => ?_)
  obtain ⟨hg_54_0, hg_54_1, hg_54_2⟩ := hp
  refine s_iinc (v := 54) (L2 := [some (AR 66), some (AL x1), none, some (AI 54), some (AI 60)]) E dJ7_fill_d0a16_16 rfl (by decide) (by decide) rfl ?_
  refine s_goto (tgt := 6) E dJ7_fill_d0a16_19 (by decide) ?_
  refine s_iload_n E dJ7_fill_d0a16_6 rfl rfl ?_
  refine s_iload E dJ7_fill_d0a16_7 rfl ?_
  refine s_icmp_ge (tgt := 22) E dJ7_fill_d0a16_9 (by decide) (fun hh => absurd hh (by decide)) (fun _ => ?_)
  refine s_aload_n E dJ7_fill_d0a16_12 rfl rfl ?_
  refine s_iload_n E dJ7_fill_d0a16_13 rfl rfl ?_
  refine s_lload_n E dJ7_fill_d0a16_14 rfl rfl ?_
  refine s_last E rfl (ltn hg_54_0.1 (by decide)) (vp_c (by decide)) dJ7_fill_d0a16_15 ?_
  refine s_gen (P := fun v => RfC v ∧ FrM v ∧ RfM v) ⟨(fc_upL hg_54_0), (fc_upL hg_54_1), (fc_upL hg_54_2)⟩ (fun g_55 hp => ?_)
  obtain ⟨hg_55_0, hg_55_1, hg_55_2⟩ := hp
  refine s_iinc (v := 55) (L2 := [some (AR 66), some (AL x1), none, some (AI 55), some (AI 60)]) E dJ7_fill_d0a16_16 rfl (by decide) (by decide) rfl ?_
  refine s_goto (tgt := 6) E dJ7_fill_d0a16_19 (by decide) ?_
  refine s_iload_n E dJ7_fill_d0a16_6 rfl rfl ?_
  refine s_iload E dJ7_fill_d0a16_7 rfl ?_
  refine s_icmp_ge (tgt := 22) E dJ7_fill_d0a16_9 (by decide) (fun hh => absurd hh (by decide)) (fun _ => ?_)
  refine s_aload_n E dJ7_fill_d0a16_12 rfl rfl ?_
  refine s_iload_n E dJ7_fill_d0a16_13 rfl rfl ?_
  refine s_lload_n E dJ7_fill_d0a16_14 rfl rfl ?_
  refine s_last E rfl (ltn hg_55_0.1 (by decide)) (vp_c (by decide)) dJ7_fill_d0a16_15 ?_
  refine s_gen (P := fun v => RfC v ∧ FrM v ∧ RfM v) ⟨(fc_upL hg_55_0), (fc_upL hg_55_1), (fc_upL hg_55_2)⟩ (fun g_56 hp => ?_)
  obtain ⟨hg_56_0, hg_56_1, hg_56_2⟩ := hp
  refine s_iinc (v := 56) (L2 := [some (AR 66), some (AL x1), none, some (AI 56), some (AI 60)]) E dJ7_fill_d0a16_16 rfl (by decide) (by decide) rfl ?_
  refine s_goto (tgt := 6) E dJ7_fill_d0a16_19 (by decide) ?_
  refine s_iload_n E dJ7_fill_d0a16_6 rfl rfl ?_
  refine s_iload E dJ7_fill_d0a16_7 rfl ?_
  refine s_icmp_ge (tgt := 22) E dJ7_fill_d0a16_9 (by decide) (fun hh => absurd hh (by decide)) (fun _ => ?_)
  refine s_aload_n E dJ7_fill_d0a16_12 rfl rfl ?_
  refine s_iload_n E dJ7_fill_d0a16_13 rfl rfl ?_
  refine s_lload_n E dJ7_fill_d0a16_14 rfl rfl ?_
  refine s_last E rfl (ltn hg_56_0.1 (by decide)) (vp_c (by decide)) dJ7_fill_d0a16_15 ?_
  refine s_gen (P := fun v => RfC v ∧ FrM v ∧ RfM v) ⟨(fc_upL hg_56_0), (fc_upL hg_56_1), (fc_upL hg_56_2)⟩ (fun g_57 hp => ?_)
  obtain ⟨hg_57_0, hg_57_1, hg_57_2⟩ := hp
  refine s_iinc (v := 57) (L2 := [some (AR 66), some (AL x1), none, some (AI 57), some (AI 60)]) E dJ7_fill_d0a16_16 rfl (by decide) (by decide) rfl ?_
  refine s_goto (tgt := 6) E dJ7_fill_d0a16_19 (by decide) ?_
  refine s_iload_n E dJ7_fill_d0a16_6 rfl rfl ?_
  refine s_iload E dJ7_fill_d0a16_7 rfl ?_
  refine s_icmp_ge (tgt := 22) E dJ7_fill_d0a16_9 (by decide) (fun hh => absurd hh (by decide)) (fun _ => ?_)
  refine s_aload_n E dJ7_fill_d0a16_12 rfl rfl ?_
  refine s_iload_n E dJ7_fill_d0a16_13 rfl rfl ?_
  refine s_lload_n E dJ7_fill_d0a16_14 rfl rfl ?_
  refine s_last E rfl (ltn hg_57_0.1 (by decide)) (vp_c (by decide)) dJ7_fill_d0a16_15 ?_
  refine s_gen (P := fun v => RfC v ∧ FrM v ∧ RfM v) ⟨(fc_upL hg_57_0), (fc_upL hg_57_1), (fc_upL hg_57_2)⟩ (fun g_58 hp => ?_)
  obtain ⟨hg_58_0, hg_58_1, hg_58_2⟩ := hp
  refine s_iinc (v := 58) (L2 := [some (AR 66), some (AL x1), none, some (AI 58), some (AI 60)]) E dJ7_fill_d0a16_16 rfl (by decide) (by decide) rfl ?_
  refine s_goto (tgt := 6) E dJ7_fill_d0a16_19 (by decide) ?_
  refine s_iload_n E dJ7_fill_d0a16_6 rfl rfl ?_
  refine s_iload E dJ7_fill_d0a16_7 rfl ?_
  refine s_icmp_ge (tgt := 22) E dJ7_fill_d0a16_9 (by decide) (fun hh => absurd hh (by decide)) (fun _ => ?_)
  refine s_aload_n E dJ7_fill_d0a16_12 rfl rfl ?_
  refine s_iload_n E dJ7_fill_d0a16_13 rfl rfl ?_
  refine s_lload_n E dJ7_fill_d0a16_14 rfl rfl ?_
  refine s_last E rfl (ltn hg_58_0.1 (by decide)) (vp_c (by decide)) dJ7_fill_d0a16_15 ?_
  refine s_gen (P := fun v => RfC v ∧ FrM v ∧ RfM v) ⟨(fc_upL hg_58_0), (fc_upL hg_58_1), (fc_upL hg_58_2)⟩ (fun g_59 hp => ?_)
  obtain ⟨hg_59_0, hg_59_1, hg_59_2⟩ := hp
  refine s_iinc (v := 59) (L2 := [some (AR 66), some (AL x1), none, some (AI 59), some (AI 60)]) E dJ7_fill_d0a16_16 rfl (by decide) (by decide) rfl ?_
  refine s_goto (tgt := 6) E dJ7_fill_d0a16_19 (by decide) ?_
  refine s_iload_n E dJ7_fill_d0a16_6 rfl rfl ?_
  refine s_iload E dJ7_fill_d0a16_7 rfl ?_
  refine s_icmp_ge (tgt := 22) E dJ7_fill_d0a16_9 (by decide) (fun hh => absurd hh (by decide)) (fun _ => ?_)
  refine s_aload_n E dJ7_fill_d0a16_12 rfl rfl ?_
  refine s_iload_n E dJ7_fill_d0a16_13 rfl rfl ?_
  refine s_lload_n E dJ7_fill_d0a16_14 rfl rfl ?_
  refine s_last E rfl (ltn hg_59_0.1 (by decide)) (vp_c (by decide)) dJ7_fill_d0a16_15 ?_
  refine s_gen (P := fun v => RfC v ∧ FrM v ∧ RfM v) ⟨(fc_upL hg_59_0), (fc_upL hg_59_1), (fc_upL hg_59_2)⟩ (fun g_60 hp => ?_)
  obtain ⟨hg_60_0, hg_60_1, hg_60_2⟩ := hp
  refine s_iinc (v := 60) (L2 := [some (AR 66), some (AL x1), none, some (AI 60), some (AI 60)]) E dJ7_fill_d0a16_16 rfl (by decide) (by decide) rfl ?_
  refine s_goto (tgt := 6) E dJ7_fill_d0a16_19 (by decide) ?_
  refine s_iload_n E dJ7_fill_d0a16_6 rfl rfl ?_
  refine s_iload E dJ7_fill_d0a16_7 rfl ?_
  refine s_icmp_ge (tgt := 22) E dJ7_fill_d0a16_9 (by decide) (fun _ => ?_) (fun hh => absurd (by decide) hh)
  exact r_void E dJ7_fill_d0a16_22 ⟨hg_60_0, hg_60_1, hg_60_2⟩
set_option maxRecDepth 20000 in
set_option maxHeartbeats 2000000 in
theorem K_X7_start_65_CRMS (l : Launch) (D : va_G) (aC : Nat → ClassId) (b : Nat) (w : XW) (x1 : Int32) (x2 : Int32) (hw0 : FrC w) (hw1 : RfC w) (hw2 : FrM w) (hw3 : RfM w) : CnV l D aC b M_X7_start 1 24 0 0 [AR 65, AI x1, AI x2] w (fun u => RfC u ∧ FrM u ∧ RfM u) := by
  refine cn_V (own := RX7) (nm := "start") (L0 := [some (AR 65), some (AI x1), some (AI x2)]) (by decide +kernel) rfl rfl (Nat.le_of_ble_eq_true rfl) rfl ?_
  intro p e s m args below meth c E hin
  refine s_aload_n E dX7_start_0 rfl rfl ?_
  refine s_iload_n E dX7_start_1 rfl rfl ?_
  refine s_pI E fp_X7_19 (Or.inl rfl) rfl (ltn hw0.1 (by decide)) dX7_start_2 ?_
  refine s_aload_n E dX7_start_5 rfl rfl ?_
  refine s_bipush (v := 60) E dX7_start_6 (by decide) ?_
  refine s_iload_n E dX7_start_8 rfl rfl ?_
  refine s_min (v := (if x2 < 60 then x2 else 60)) E ⟨k_1212, k_369, k_4, k_370⟩ (Nat.le_of_ble_eq_true rfl) (Nat.le_of_ble_eq_true rfl) (Nat.le_of_ble_eq_true rfl) (Nat.le_of_ble_eq_true rfl) dX7_start_9 rfl ?_
  refine s_pI E fp_X7_15 (Or.inl rfl) rfl (ltn hw0.1 (by decide)) dX7_start_12 ?_
  refine s_aload_n E dX7_start_15 rfl rfl ?_
  refine s_gR (r := 66) E fg_X7_11 rfl rfl (ltn hw0.1 (by decide)) (fc_r hw0 (by decide +kernel)) dX7_start_16 ?_
  refine s_lconst (v := 0) E dX7_start_19 (by decide) ?_
  refine s_sV (As := [AR 66, AL 0]) (S := []) E (K_J7_fill_d0a16_r66_RMS l D aC b (upI (upI w 65 1 x1) 65 2 (if x2 < 60 then x2 else 60)) 0 (fc_upC (fc_upC hw1 (by decide +kernel)) (by decide +kernel)) (fc_upC (fc_upC hw2 (by decide +kernel)) (by decide +kernel)) (fc_upC (fc_upC hw3 (by decide +kernel)) (by decide +kernel))) cs_X7_28 rfl rfl (Nat.le_of_ble_eq_true rfl) (Nat.le_of_ble_eq_true rfl) ⟨(Nat.le_of_ble_eq_true rfl), (Nat.le_of_ble_eq_true rfl)⟩ (Nat.le_of_ble_eq_true rfl) dX7_start_20 (fun u_1 hp => ?_)
  obtain ⟨hu_1, hu_2, hu_3⟩ := hp
  exact r_void E dX7_start_23 ⟨hu_1, hu_2, hu_3⟩
set_option maxRecDepth 20000 in
set_option maxHeartbeats 2000000 in
theorem K_J7_fill_d0a16_r68_RMS (l : Launch) (D : va_G) (aC : Nat → ClassId) (b : Nat) (w : XW) (x1 : Int64) (hw0 : RfC w) (hw1 : FrM w) (hw2 : RfM w) : CnV l D aC b M_J7_fill_d0a16 0 0 0 0 [AR 68, AL x1] w (fun u => RfC u ∧ FrM u ∧ RfM u) := by
  refine cn_V (own := RJ7) (nm := "fill") (L0 := [some (AR 68), some (AL x1), none, none, none]) (by decide +kernel) rfl rfl (Nat.le_of_ble_eq_true rfl) rfl ?_
  intro p e s m args below meth c E hin
  refine s_iconst (v := 0) E dJ7_fill_d0a16_0 (by decide) ?_
  refine s_istore_n (L2 := [some (AR 68), some (AL x1), none, some (AI 0), none]) E dJ7_fill_d0a16_1 rfl (by decide) rfl ?_
  refine s_aload_n E dJ7_fill_d0a16_2 rfl rfl ?_
  refine s_alen (v := 60) E rfl (by decide) (ltn hw0.1 (by decide)) (by decide) dJ7_fill_d0a16_3 ?_
  refine s_istore (L2 := [some (AR 68), some (AL x1), none, some (AI 0), some (AI 60)]) E dJ7_fill_d0a16_4 (by decide) rfl ?_
  refine s_iload_n E dJ7_fill_d0a16_6 rfl rfl ?_
  refine s_iload E dJ7_fill_d0a16_7 rfl ?_
  refine s_icmp_ge (tgt := 22) E dJ7_fill_d0a16_9 (by decide) (fun hh => absurd hh (by decide)) (fun _ => ?_)
  refine s_aload_n E dJ7_fill_d0a16_12 rfl rfl ?_
  refine s_iload_n E dJ7_fill_d0a16_13 rfl rfl ?_
  refine s_lload_n E dJ7_fill_d0a16_14 rfl rfl ?_
  refine s_last E rfl (ltn hw0.1 (by decide)) (vp_c (by decide)) dJ7_fill_d0a16_15 ?_
  refine s_gen (P := fun v => RfC v ∧ FrM v ∧ RfM v) ⟨(fc_upL hw0), (fc_upL hw1), (fc_upL hw2)⟩ (fun g_1 hp => ?_)
  obtain ⟨hg_1_0, hg_1_1, hg_1_2⟩ := hp
  refine s_iinc (v := 1) (L2 := [some (AR 68), some (AL x1), none, some (AI 1), some (AI 60)]) E dJ7_fill_d0a16_16 rfl (by decide) (by decide) rfl ?_
  refine s_goto (tgt := 6) E dJ7_fill_d0a16_19 (by decide) ?_
  refine s_iload_n E dJ7_fill_d0a16_6 rfl rfl ?_
  refine s_iload E dJ7_fill_d0a16_7 rfl ?_
  refine s_icmp_ge (tgt := 22) E dJ7_fill_d0a16_9 (by decide) (fun hh => absurd hh (by decide)) (fun _ => ?_)
  refine s_aload_n E dJ7_fill_d0a16_12 rfl rfl ?_
  refine s_iload_n E dJ7_fill_d0a16_13 rfl rfl ?_
  refine s_lload_n E dJ7_fill_d0a16_14 rfl rfl ?_
  refine s_last E rfl (ltn hg_1_0.1 (by decide)) (vp_c (by decide)) dJ7_fill_d0a16_15 ?_
  refine s_gen (P := fun v => RfC v ∧ FrM v ∧ RfM v) ⟨(fc_upL hg_1_0), (fc_upL hg_1_1), (fc_upL hg_1_2)⟩ (fun g_2 hp => ?_)
  obtain ⟨hg_2_0, hg_2_1, hg_2_2⟩ := hp
  refine s_iinc (v := 2) (L2 := [some (AR 68), some (AL x1), none, some (AI 2), some (AI 60)]) E dJ7_fill_d0a16_16 rfl (by decide) (by decide) rfl ?_
  refine s_goto (tgt := 6) E dJ7_fill_d0a16_19 (by decide) ?_
  refine s_iload_n E dJ7_fill_d0a16_6 rfl rfl ?_
  refine s_iload E dJ7_fill_d0a16_7 rfl ?_
  refine s_icmp_ge (tgt := 22) E dJ7_fill_d0a16_9 (by decide) (fun hh => absurd hh (by decide)) (fun _ => ?_)
  refine s_aload_n E dJ7_fill_d0a16_12 rfl rfl ?_
  refine s_iload_n E dJ7_fill_d0a16_13 rfl rfl ?_
  refine s_lload_n E dJ7_fill_d0a16_14 rfl rfl ?_
  refine s_last E rfl (ltn hg_2_0.1 (by decide)) (vp_c (by decide)) dJ7_fill_d0a16_15 ?_
  refine s_gen (P := fun v => RfC v ∧ FrM v ∧ RfM v) ⟨(fc_upL hg_2_0), (fc_upL hg_2_1), (fc_upL hg_2_2)⟩ (fun g_3 hp => ?_)
  obtain ⟨hg_3_0, hg_3_1, hg_3_2⟩ := hp
  refine s_iinc (v := 3) (L2 := [some (AR 68), some (AL x1), none, some (AI 3), some (AI 60)]) E dJ7_fill_d0a16_16 rfl (by decide) (by decide) rfl ?_
  refine s_goto (tgt := 6) E dJ7_fill_d0a16_19 (by decide) ?_
  refine s_iload_n E dJ7_fill_d0a16_6 rfl rfl ?_
  refine s_iload E dJ7_fill_d0a16_7 rfl ?_
  refine s_icmp_ge (tgt := 22) E dJ7_fill_d0a16_9 (by decide) (fun hh => absurd hh (by decide)) (fun _ => ?_)
  refine s_aload_n E dJ7_fill_d0a16_12 rfl rfl ?_
  refine s_iload_n E dJ7_fill_d0a16_13 rfl rfl ?_
  refine s_lload_n E dJ7_fill_d0a16_14 rfl rfl ?_
  refine s_last E rfl (ltn hg_3_0.1 (by decide)) (vp_c (by decide)) dJ7_fill_d0a16_15 ?_
  refine s_gen (P := fun v => RfC v ∧ FrM v ∧ RfM v) ⟨(fc_upL hg_3_0), (fc_upL hg_3_1), (fc_upL hg_3_2)⟩ (fun g_4 hp => ?_)
  obtain ⟨hg_4_0, hg_4_1, hg_4_2⟩ := hp
  refine s_iinc (v := 4) (L2 := [some (AR 68), some (AL x1), none, some (AI 4), some (AI 60)]) E dJ7_fill_d0a16_16 rfl (by decide) (by decide) rfl ?_
  refine s_goto (tgt := 6) E dJ7_fill_d0a16_19 (by decide) ?_
  refine s_iload_n E dJ7_fill_d0a16_6 rfl rfl ?_
  refine s_iload E dJ7_fill_d0a16_7 rfl ?_
  refine s_icmp_ge (tgt := 22) E dJ7_fill_d0a16_9 (by decide) (fun hh => absurd hh (by decide)) (fun _ => ?_)
  refine s_aload_n E dJ7_fill_d0a16_12 rfl rfl ?_
  refine s_iload_n E dJ7_fill_d0a16_13 rfl rfl ?_
  refine s_lload_n E dJ7_fill_d0a16_14 rfl rfl ?_
  refine s_last E rfl (ltn hg_4_0.1 (by decide)) (vp_c (by decide)) dJ7_fill_d0a16_15 ?_
  refine s_gen (P := fun v => RfC v ∧ FrM v ∧ RfM v) ⟨(fc_upL hg_4_0), (fc_upL hg_4_1), (fc_upL hg_4_2)⟩ (fun g_5 hp => ?_)
  obtain ⟨hg_5_0, hg_5_1, hg_5_2⟩ := hp
  refine s_iinc (v := 5) (L2 := [some (AR 68), some (AL x1), none, some (AI 5), some (AI 60)]) E dJ7_fill_d0a16_16 rfl (by decide) (by decide) rfl ?_
  refine s_goto (tgt := 6) E dJ7_fill_d0a16_19 (by decide) ?_
  refine s_iload_n E dJ7_fill_d0a16_6 rfl rfl ?_
  refine s_iload E dJ7_fill_d0a16_7 rfl ?_
  refine s_icmp_ge (tgt := 22) E dJ7_fill_d0a16_9 (by decide) (fun hh => absurd hh (by decide)) (fun _ => ?_)
  refine s_aload_n E dJ7_fill_d0a16_12 rfl rfl ?_
  refine s_iload_n E dJ7_fill_d0a16_13 rfl rfl ?_
  refine s_lload_n E dJ7_fill_d0a16_14 rfl rfl ?_
  refine s_last E rfl (ltn hg_5_0.1 (by decide)) (vp_c (by decide)) dJ7_fill_d0a16_15 ?_
  refine s_gen (P := fun v => RfC v ∧ FrM v ∧ RfM v) ⟨(fc_upL hg_5_0), (fc_upL hg_5_1), (fc_upL hg_5_2)⟩ (fun g_6 hp => ?_)
  obtain ⟨hg_6_0, hg_6_1, hg_6_2⟩ := hp
  refine s_iinc (v := 6) (L2 := [some (AR 68), some (AL x1), none, some (AI 6), some (AI 60)]) E dJ7_fill_d0a16_16 rfl (by decide) (by decide) rfl ?_
  refine s_goto (tgt := 6) E dJ7_fill_d0a16_19 (by decide) ?_
  refine s_iload_n E dJ7_fill_d0a16_6 rfl rfl ?_
  refine s_iload E dJ7_fill_d0a16_7 rfl ?_
  refine s_icmp_ge (tgt := 22) E dJ7_fill_d0a16_9 (by decide) (fun hh => absurd hh (by decide)) (fun _ => ?_)
  refine s_aload_n E dJ7_fill_d0a16_12 rfl rfl ?_
  refine s_iload_n E dJ7_fill_d0a16_13 rfl rfl ?_
  refine s_lload_n E dJ7_fill_d0a16_14 rfl rfl ?_
  refine s_last E rfl (ltn hg_6_0.1 (by decide)) (vp_c (by decide)) dJ7_fill_d0a16_15 ?_
  refine s_gen (P := fun v => RfC v ∧ FrM v ∧ RfM v) ⟨(fc_upL hg_6_0), (fc_upL hg_6_1), (fc_upL hg_6_2)⟩ (fun g_7 hp => ?_)
  obtain ⟨hg_7_0, hg_7_1, hg_7_2⟩ := hp
  refine s_iinc (v := 7) (L2 := [some (AR 68), some (AL x1), none, some (AI 7), some (AI 60)]) E dJ7_fill_d0a16_16 rfl (by decide) (by decide) rfl ?_
  refine s_goto (tgt := 6) E dJ7_fill_d0a16_19 (by decide) ?_
  refine s_iload_n E dJ7_fill_d0a16_6 rfl rfl ?_
  refine s_iload E dJ7_fill_d0a16_7 rfl ?_
  refine s_icmp_ge (tgt := 22) E dJ7_fill_d0a16_9 (by decide) (fun hh => absurd hh (by decide)) (fun _ => ?_)
  refine s_aload_n E dJ7_fill_d0a16_12 rfl rfl ?_
  refine s_iload_n E dJ7_fill_d0a16_13 rfl rfl ?_
  refine s_lload_n E dJ7_fill_d0a16_14 rfl rfl ?_
  refine s_last E rfl (ltn hg_7_0.1 (by decide)) (vp_c (by decide)) dJ7_fill_d0a16_15 ?_
  refine s_gen (P := fun v => RfC v ∧ FrM v ∧ RfM v) ⟨(fc_upL hg_7_0), (fc_upL hg_7_1), (fc_upL hg_7_2)⟩ (fun g_8 hp => ?_)
  obtain ⟨hg_8_0, hg_8_1, hg_8_2⟩ := hp
  refine s_iinc (v := 8) (L2 := [some (AR 68), some (AL x1), none, some (AI 8), some (AI 60)]) E dJ7_fill_d0a16_16 rfl (by decide) (by decide) rfl ?_
  refine s_goto (tgt := 6) E dJ7_fill_d0a16_19 (by decide) ?_
  refine s_iload_n E dJ7_fill_d0a16_6 rfl rfl ?_
  refine s_iload E dJ7_fill_d0a16_7 rfl ?_
  refine s_icmp_ge (tgt := 22) E dJ7_fill_d0a16_9 (by decide) (fun hh => absurd hh (by decide)) (fun _ => ?_)
  refine s_aload_n E dJ7_fill_d0a16_12 rfl rfl ?_
  refine s_iload_n E dJ7_fill_d0a16_13 rfl rfl ?_
  refine s_lload_n E dJ7_fill_d0a16_14 rfl rfl ?_
  refine s_last E rfl (ltn hg_8_0.1 (by decide)) (vp_c (by decide)) dJ7_fill_d0a16_15 ?_
  refine s_gen (P := fun v => RfC v ∧ FrM v ∧ RfM v) ⟨(fc_upL hg_8_0), (fc_upL hg_8_1), (fc_upL hg_8_2)⟩ (fun g_9 hp => ?_)
  obtain ⟨hg_9_0, hg_9_1, hg_9_2⟩ := hp
  refine s_iinc (v := 9) (L2 := [some (AR 68), some (AL x1), none, some (AI 9), some (AI 60)]) E dJ7_fill_d0a16_16 rfl (by decide) (by decide) rfl ?_
  refine s_goto (tgt := 6) E dJ7_fill_d0a16_19 (by decide) ?_
  refine s_iload_n E dJ7_fill_d0a16_6 rfl rfl ?_
  refine s_iload E dJ7_fill_d0a16_7 rfl ?_
  refine s_icmp_ge (tgt := 22) E dJ7_fill_d0a16_9 (by decide) (fun hh => absurd hh (by decide)) (fun _ => ?_)
  refine s_aload_n E dJ7_fill_d0a16_12 rfl rfl ?_
  refine s_iload_n E dJ7_fill_d0a16_13 rfl rfl ?_
  refine s_lload_n E dJ7_fill_d0a16_14 rfl rfl ?_
  refine s_last E rfl (ltn hg_9_0.1 (by decide)) (vp_c (by decide)) dJ7_fill_d0a16_15 ?_
  refine s_gen (P := fun v => RfC v ∧ FrM v ∧ RfM v) ⟨(fc_upL hg_9_0), (fc_upL hg_9_1), (fc_upL hg_9_2)⟩ (fun g_10 hp => ?_)
  obtain ⟨hg_10_0, hg_10_1, hg_10_2⟩ := hp
  refine s_iinc (v := 10) (L2 := [some (AR 68), some (AL x1), none, some (AI 10), some (AI 60)]) E dJ7_fill_d0a16_16 rfl (by decide) (by decide) rfl ?_
  refine s_goto (tgt := 6) E dJ7_fill_d0a16_19 (by decide) ?_
  refine s_iload_n E dJ7_fill_d0a16_6 rfl rfl ?_
  refine s_iload E dJ7_fill_d0a16_7 rfl ?_
  refine s_icmp_ge (tgt := 22) E dJ7_fill_d0a16_9 (by decide) (fun hh => absurd hh (by decide)) (fun _ => ?_)
  refine s_aload_n E dJ7_fill_d0a16_12 rfl rfl ?_
  refine s_iload_n E dJ7_fill_d0a16_13 rfl rfl ?_
  refine s_lload_n E dJ7_fill_d0a16_14 rfl rfl ?_
  refine s_last E rfl (ltn hg_10_0.1 (by decide)) (vp_c (by decide)) dJ7_fill_d0a16_15 ?_
  refine s_gen (P := fun v => RfC v ∧ FrM v ∧ RfM v) ⟨(fc_upL hg_10_0), (fc_upL hg_10_1), (fc_upL hg_10_2)⟩ (fun g_11 hp => ?_)
  obtain ⟨hg_11_0, hg_11_1, hg_11_2⟩ := hp
  refine s_iinc (v := 11) (L2 := [some (AR 68), some (AL x1), none, some (AI 11), some (AI 60)]) E dJ7_fill_d0a16_16 rfl (by decide) (by decide) rfl ?_
  refine s_goto (tgt := 6) E dJ7_fill_d0a16_19 (by decide) ?_
  refine s_iload_n E dJ7_fill_d0a16_6 rfl rfl ?_
  refine s_iload E dJ7_fill_d0a16_7 rfl ?_
  refine s_icmp_ge (tgt := 22) E dJ7_fill_d0a16_9 (by decide) (fun hh => absurd hh (by decide)) (fun _ => ?_)
  refine s_aload_n E dJ7_fill_d0a16_12 rfl rfl ?_
  refine s_iload_n E dJ7_fill_d0a16_13 rfl rfl ?_
  refine s_lload_n E dJ7_fill_d0a16_14 rfl rfl ?_
  refine s_last E rfl (ltn hg_11_0.1 (by decide)) (vp_c (by decide)) dJ7_fill_d0a16_15 ?_
  refine s_gen (P := fun v => RfC v ∧ FrM v ∧ RfM v) ⟨(fc_upL hg_11_0), (fc_upL hg_11_1), (fc_upL hg_11_2)⟩ (fun g_12 hp => ?_)
  obtain ⟨hg_12_0, hg_12_1, hg_12_2⟩ := hp
  refine s_iinc (v := 12) (L2 := [some (AR 68), some (AL x1), none, some (AI 12), some (AI 60)]) E dJ7_fill_d0a16_16 rfl (by decide) (by decide) rfl ?_
  refine s_goto (tgt := 6) E dJ7_fill_d0a16_19 (by decide) ?_
  refine s_iload_n E dJ7_fill_d0a16_6 rfl rfl ?_
  refine s_iload E dJ7_fill_d0a16_7 rfl ?_
  refine s_icmp_ge (tgt := 22) E dJ7_fill_d0a16_9 (by decide) (fun hh => absurd hh (by decide)) (fun _ => ?_)
  refine s_aload_n E dJ7_fill_d0a16_12 rfl rfl ?_
  refine s_iload_n E dJ7_fill_d0a16_13 rfl rfl ?_
  refine s_lload_n E dJ7_fill_d0a16_14 rfl rfl ?_
  refine s_last E rfl (ltn hg_12_0.1 (by decide)) (vp_c (by decide)) dJ7_fill_d0a16_15 ?_
  refine s_gen (P := fun v => RfC v ∧ FrM v ∧ RfM v) ⟨(fc_upL hg_12_0), (fc_upL hg_12_1), (fc_upL hg_12_2)⟩ (fun g_13 hp => ?_)
  obtain ⟨hg_13_0, hg_13_1, hg_13_2⟩ := hp
  refine s_iinc (v := 13) (L2 := [some (AR 68), some (AL x1), none, some (AI 13), some (AI 60)]) E dJ7_fill_d0a16_16 rfl (by decide) (by decide) rfl ?_
  refine s_goto (tgt := 6) E dJ7_fill_d0a16_19 (by decide) ?_
  refine s_iload_n E dJ7_fill_d0a16_6 rfl rfl ?_
  refine s_iload E dJ7_fill_d0a16_7 rfl ?_
  refine s_icmp_ge (tgt := 22) E dJ7_fill_d0a16_9 (by decide) (fun hh => absurd hh (by decide)) (fun _ => ?_)
  refine s_aload_n E dJ7_fill_d0a16_12 rfl rfl ?_
  refine s_iload_n E dJ7_fill_d0a16_13 rfl rfl ?_
  refine s_lload_n E dJ7_fill_d0a16_14 rfl rfl ?_
  refine s_last E rfl (ltn hg_13_0.1 (by decide)) (vp_c (by decide)) dJ7_fill_d0a16_15 ?_
  refine s_gen (P := fun v => RfC v ∧ FrM v ∧ RfM v) ⟨(fc_upL hg_13_0), (fc_upL hg_13_1), (fc_upL hg_13_2)⟩ (fun g_14 hp => ?_)
  obtain ⟨hg_14_0, hg_14_1, hg_14_2⟩ := hp
  refine s_iinc (v := 14) (L2 := [some (AR 68), some (AL x1), none, some (AI 14), some (AI 60)]) E dJ7_fill_d0a16_16 rfl (by decide) (by decide) rfl ?_
  refine s_goto (tgt := 6) E dJ7_fill_d0a16_19 (by decide) ?_
  refine s_iload_n E dJ7_fill_d0a16_6 rfl rfl ?_
  refine s_iload E dJ7_fill_d0a16_7 rfl ?_
  refine s_icmp_ge (tgt := 22) E dJ7_fill_d0a16_9 (by decide) (fun hh => absurd hh (by decide)) (fun _ => ?_)
  refine s_aload_n E dJ7_fill_d0a16_12 rfl rfl ?_
  refine s_iload_n E dJ7_fill_d0a16_13 rfl rfl ?_
  refine s_lload_n E dJ7_fill_d0a16_14 rfl rfl ?_
  refine s_last E rfl (ltn hg_14_0.1 (by decide)) (vp_c (by decide)) dJ7_fill_d0a16_15 ?_
  refine s_gen (P := fun v => RfC v ∧ FrM v ∧ RfM v) ⟨(fc_upL hg_14_0), (fc_upL hg_14_1), (fc_upL hg_14_2)⟩ (fun g_15 hp => ?_)
  obtain ⟨hg_15_0, hg_15_1, hg_15_2⟩ := hp
  refine s_iinc (v := 15) (L2 := [some (AR 68), some (AL x1), none, some (AI 15), some (AI 60)]) E dJ7_fill_d0a16_16 rfl (by decide) (by decide) rfl ?_
  refine s_goto (tgt := 6) E dJ7_fill_d0a16_19 (by decide) ?_
  refine s_iload_n E dJ7_fill_d0a16_6 rfl rfl ?_
  refine s_iload E dJ7_fill_d0a16_7 rfl ?_
  refine s_icmp_ge (tgt := 22) E dJ7_fill_d0a16_9 (by decide) (fun hh => absurd hh (by decide)) (fun _ => ?_)
  refine s_aload_n E dJ7_fill_d0a16_12 rfl rfl ?_
  refine s_iload_n E dJ7_fill_d0a16_13 rfl rfl ?_
  refine s_lload_n E dJ7_fill_d0a16_14 rfl rfl ?_
  refine s_last E rfl (ltn hg_15_0.1 (by decide)) (vp_c (by decide)) dJ7_fill_d0a16_15 ?_
  refine s_gen (P := fun v => RfC v ∧ FrM v ∧ RfM v) ⟨(fc_upL hg_15_0), (fc_upL hg_15_1), (fc_upL hg_15_2)⟩ (fun g_16 hp => ?_)
  obtain ⟨hg_16_0, hg_16_1, hg_16_2⟩ := hp
  refine s_iinc (v := 16) (L2 := [some (AR 68), some (AL x1), none, some (AI 16), some (AI 60)]) E dJ7_fill_d0a16_16 rfl (by decide) (by decide) rfl ?_
  refine s_goto (tgt := 6) E dJ7_fill_d0a16_19 (by decide) ?_
  refine s_iload_n E dJ7_fill_d0a16_6 rfl rfl ?_
  refine s_iload E dJ7_fill_d0a16_7 rfl ?_
  refine s_icmp_ge (tgt := 22) E dJ7_fill_d0a16_9 (by decide) (fun hh => absurd hh (by decide)) (fun _ => ?_)
  refine s_aload_n E dJ7_fill_d0a16_12 rfl rfl ?_
  refine s_iload_n E dJ7_fill_d0a16_13 rfl rfl ?_
  refine s_lload_n E dJ7_fill_d0a16_14 rfl rfl ?_
  refine s_last E rfl (ltn hg_16_0.1 (by decide)) (vp_c (by decide)) dJ7_fill_d0a16_15 ?_
  refine s_gen (P := fun v => RfC v ∧ FrM v ∧ RfM v) ⟨(fc_upL hg_16_0), (fc_upL hg_16_1), (fc_upL hg_16_2)⟩ (fun g_17 hp => ?_)
  obtain ⟨hg_17_0, hg_17_1, hg_17_2⟩ := hp
  refine s_iinc (v := 17) (L2 := [some (AR 68), some (AL x1), none, some (AI 17), some (AI 60)]) E dJ7_fill_d0a16_16 rfl (by decide) (by decide) rfl ?_
  refine s_goto (tgt := 6) E dJ7_fill_d0a16_19 (by decide) ?_
  refine s_iload_n E dJ7_fill_d0a16_6 rfl rfl ?_
  refine s_iload E dJ7_fill_d0a16_7 rfl ?_
  refine s_icmp_ge (tgt := 22) E dJ7_fill_d0a16_9 (by decide) (fun hh => absurd hh (by decide)) (fun _ => ?_)
  refine s_aload_n E dJ7_fill_d0a16_12 rfl rfl ?_
  refine s_iload_n E dJ7_fill_d0a16_13 rfl rfl ?_
  refine s_lload_n E dJ7_fill_d0a16_14 rfl rfl ?_
  refine s_last E rfl (ltn hg_17_0.1 (by decide)) (vp_c (by decide)) dJ7_fill_d0a16_15 ?_
  refine s_gen (P := fun v => RfC v ∧ FrM v ∧ RfM v) ⟨(fc_upL hg_17_0), (fc_upL hg_17_1), (fc_upL hg_17_2)⟩ (fun g_18 hp => ?_)
  obtain ⟨hg_18_0, hg_18_1, hg_18_2⟩ := hp
  refine s_iinc (v := 18) (L2 := [some (AR 68), some (AL x1), none, some (AI 18), some (AI 60)]) E dJ7_fill_d0a16_16 rfl (by decide) (by decide) rfl ?_
  refine s_goto (tgt := 6) E dJ7_fill_d0a16_19 (by decide) ?_
  refine s_iload_n E dJ7_fill_d0a16_6 rfl rfl ?_
  refine s_iload E dJ7_fill_d0a16_7 rfl ?_
  refine s_icmp_ge (tgt := 22) E dJ7_fill_d0a16_9 (by decide) (fun hh => absurd hh (by decide)) (fun _ => ?_)
  refine s_aload_n E dJ7_fill_d0a16_12 rfl rfl ?_
  refine s_iload_n E dJ7_fill_d0a16_13 rfl rfl ?_
  refine s_lload_n E dJ7_fill_d0a16_14 rfl rfl ?_
  refine s_last E rfl (ltn hg_18_0.1 (by decide)) (vp_c (by decide)) dJ7_fill_d0a16_15 ?_
  refine s_gen (P := fun v => RfC v ∧ FrM v ∧ RfM v) ⟨(fc_upL hg_18_0), (fc_upL hg_18_1), (fc_upL hg_18_2)⟩ (fun g_19 hp => ?_)
  obtain ⟨hg_19_0, hg_19_1, hg_19_2⟩ := hp
  refine s_iinc (v := 19) (L2 := [some (AR 68), some (AL x1), none, some (AI 19), some (AI 60)]) E dJ7_fill_d0a16_16 rfl (by decide) (by decide) rfl ?_
  refine s_goto (tgt := 6) E dJ7_fill_d0a16_19 (by decide) ?_
  refine s_iload_n E dJ7_fill_d0a16_6 rfl rfl ?_
  refine s_iload E dJ7_fill_d0a16_7 rfl ?_
  refine s_icmp_ge (tgt := 22) E dJ7_fill_d0a16_9 (by decide) (fun hh => absurd hh (by decide)) (fun _ => ?_)
  refine s_aload_n E dJ7_fill_d0a16_12 rfl rfl ?_
  refine s_iload_n E dJ7_fill_d0a16_13 rfl rfl ?_
  refine s_lload_n E dJ7_fill_d0a16_14 rfl rfl ?_
  refine s_last E rfl (ltn hg_19_0.1 (by decide)) (vp_c (by decide)) dJ7_fill_d0a16_15 ?_
  refine s_gen (P := fun v => RfC v ∧ FrM v ∧ RfM v) ⟨(fc_upL hg_19_0), (fc_upL hg_19_1), (fc_upL hg_19_2)⟩ (fun g_20 hp => ?_)
  obtain ⟨hg_20_0, hg_20_1, hg_20_2⟩ := hp
  refine s_iinc (v := 20) (L2 := [some (AR 68), some (AL x1), none, some (AI 20), some (AI 60)]) E dJ7_fill_d0a16_16 rfl (by decide) (by decide) rfl ?_
  refine s_goto (tgt := 6) E dJ7_fill_d0a16_19 (by decide) ?_
  refine s_iload_n E dJ7_fill_d0a16_6 rfl rfl ?_
  refine s_iload E dJ7_fill_d0a16_7 rfl ?_
  refine s_icmp_ge (tgt := 22) E dJ7_fill_d0a16_9 (by decide) (fun hh => absurd hh (by decide)) (fun _ => ?_)
  refine s_aload_n E dJ7_fill_d0a16_12 rfl rfl ?_
  refine s_iload_n E dJ7_fill_d0a16_13 rfl rfl ?_
  refine s_lload_n E dJ7_fill_d0a16_14 rfl rfl ?_
  refine s_last E rfl (ltn hg_20_0.1 (by decide)) (vp_c (by decide)) dJ7_fill_d0a16_15 ?_
  refine s_gen (P := fun v => RfC v ∧ FrM v ∧ RfM v) ⟨(fc_upL hg_20_0), (fc_upL hg_20_1), (fc_upL hg_20_2)⟩ (fun g_21 hp => ?_)
  obtain ⟨hg_21_0, hg_21_1, hg_21_2⟩ := hp
  refine s_iinc (v := 21) (L2 := [some (AR 68), some (AL x1), none, some (AI 21), some (AI 60)]) E dJ7_fill_d0a16_16 rfl (by decide) (by decide) rfl ?_
  refine s_goto (tgt := 6) E dJ7_fill_d0a16_19 (by decide) ?_
  refine s_iload_n E dJ7_fill_d0a16_6 rfl rfl ?_
  refine s_iload E dJ7_fill_d0a16_7 rfl ?_
  refine s_icmp_ge (tgt := 22) E dJ7_fill_d0a16_9 (by decide) (fun hh => absurd hh (by decide)) (fun _ => ?_)
  refine s_aload_n E dJ7_fill_d0a16_12 rfl rfl ?_
  refine s_iload_n E dJ7_fill_d0a16_13 rfl rfl ?_
  refine s_lload_n E dJ7_fill_d0a16_14 rfl rfl ?_
  refine s_last E rfl (ltn hg_21_0.1 (by decide)) (vp_c (by decide)) dJ7_fill_d0a16_15 ?_
  refine s_gen (P := fun v => RfC v ∧ FrM v ∧ RfM v) ⟨(fc_upL hg_21_0), (fc_upL hg_21_1), (fc_upL hg_21_2)⟩ (fun g_22 hp => ?_)
  obtain ⟨hg_22_0, hg_22_1, hg_22_2⟩ := hp
  refine s_iinc (v := 22) (L2 := [some (AR 68), some (AL x1), none, some (AI 22), some (AI 60)]) E dJ7_fill_d0a16_16 rfl (by decide) (by decide) rfl ?_
  refine s_goto (tgt := 6) E dJ7_fill_d0a16_19 (by decide) ?_
  refine s_iload_n E dJ7_fill_d0a16_6 rfl rfl ?_
  refine s_iload E dJ7_fill_d0a16_7 rfl ?_
  refine s_icmp_ge (tgt := 22) E dJ7_fill_d0a16_9 (by decide) (fun hh => absurd hh (by decide)) (fun _ => ?_)
  refine s_aload_n E dJ7_fill_d0a16_12 rfl rfl ?_
  refine s_iload_n E dJ7_fill_d0a16_13 rfl rfl ?_
  refine s_lload_n E dJ7_fill_d0a16_14 rfl rfl ?_
  refine s_last E rfl (ltn hg_22_0.1 (by decide)) (vp_c (by decide)) dJ7_fill_d0a16_15 ?_
  refine s_gen (P := fun v => RfC v ∧ FrM v ∧ RfM v) ⟨(fc_upL hg_22_0), (fc_upL hg_22_1), (fc_upL hg_22_2)⟩ (fun g_23 hp => ?_)
  obtain ⟨hg_23_0, hg_23_1, hg_23_2⟩ := hp
  refine s_iinc (v := 23) (L2 := [some (AR 68), some (AL x1), none, some (AI 23), some (AI 60)]) E dJ7_fill_d0a16_16 rfl (by decide) (by decide) rfl ?_
  refine s_goto (tgt := 6) E dJ7_fill_d0a16_19 (by decide) ?_
  refine s_iload_n E dJ7_fill_d0a16_6 rfl rfl ?_
  refine s_iload E dJ7_fill_d0a16_7 rfl ?_
  refine s_icmp_ge (tgt := 22) E dJ7_fill_d0a16_9 (by decide) (fun hh => absurd hh (by decide)) (fun _ => ?_)
  refine s_aload_n E dJ7_fill_d0a16_12 rfl rfl ?_
  refine s_iload_n E dJ7_fill_d0a16_13 rfl rfl ?_
  refine s_lload_n E dJ7_fill_d0a16_14 rfl rfl ?_
  refine s_last E rfl (ltn hg_23_0.1 (by decide)) (vp_c (by decide)) dJ7_fill_d0a16_15 ?_
  refine s_gen (P := fun v => RfC v ∧ FrM v ∧ RfM v) ⟨(fc_upL hg_23_0), (fc_upL hg_23_1), (fc_upL hg_23_2)⟩ (fun g_24 hp => ?_)
  obtain ⟨hg_24_0, hg_24_1, hg_24_2⟩ := hp
  refine s_iinc (v := 24) (L2 := [some (AR 68), some (AL x1), none, some (AI 24), some (AI 60)]) E dJ7_fill_d0a16_16 rfl (by decide) (by decide) rfl ?_
  refine s_goto (tgt := 6) E dJ7_fill_d0a16_19 (by decide) ?_
  refine s_iload_n E dJ7_fill_d0a16_6 rfl rfl ?_
  refine s_iload E dJ7_fill_d0a16_7 rfl ?_
  refine s_icmp_ge (tgt := 22) E dJ7_fill_d0a16_9 (by decide) (fun hh => absurd hh (by decide)) (fun _ => ?_)
  refine s_aload_n E dJ7_fill_d0a16_12 rfl rfl ?_
  refine s_iload_n E dJ7_fill_d0a16_13 rfl rfl ?_
  refine s_lload_n E dJ7_fill_d0a16_14 rfl rfl ?_
  refine s_last E rfl (ltn hg_24_0.1 (by decide)) (vp_c (by decide)) dJ7_fill_d0a16_15 ?_
  refine s_gen (P := fun v => RfC v ∧ FrM v ∧ RfM v) ⟨(fc_upL hg_24_0), (fc_upL hg_24_1), (fc_upL hg_24_2)⟩ (fun g_25 hp => ?_)
  obtain ⟨hg_25_0, hg_25_1, hg_25_2⟩ := hp
  refine s_iinc (v := 25) (L2 := [some (AR 68), some (AL x1), none, some (AI 25), some (AI 60)]) E dJ7_fill_d0a16_16 rfl (by decide) (by decide) rfl ?_
  refine s_goto (tgt := 6) E dJ7_fill_d0a16_19 (by decide) ?_
  refine s_iload_n E dJ7_fill_d0a16_6 rfl rfl ?_
  refine s_iload E dJ7_fill_d0a16_7 rfl ?_
  refine s_icmp_ge (tgt := 22) E dJ7_fill_d0a16_9 (by decide) (fun hh => absurd hh (by decide)) (fun _ => ?_)
  refine s_aload_n E dJ7_fill_d0a16_12 rfl rfl ?_
  refine s_iload_n E dJ7_fill_d0a16_13 rfl rfl ?_
  refine s_lload_n E dJ7_fill_d0a16_14 rfl rfl ?_
  refine s_last E rfl (ltn hg_25_0.1 (by decide)) (vp_c (by decide)) dJ7_fill_d0a16_15 ?_
  refine s_gen (P := fun v => RfC v ∧ FrM v ∧ RfM v) ⟨(fc_upL hg_25_0), (fc_upL hg_25_1), (fc_upL hg_25_2)⟩ (fun g_26 hp => ?_)
  obtain ⟨hg_26_0, hg_26_1, hg_26_2⟩ := hp
  refine s_iinc (v := 26) (L2 := [some (AR 68), some (AL x1), none, some (AI 26), some (AI 60)]) E dJ7_fill_d0a16_16 rfl (by decide) (by decide) rfl ?_
  refine s_goto (tgt := 6) E dJ7_fill_d0a16_19 (by decide) ?_
  refine s_iload_n E dJ7_fill_d0a16_6 rfl rfl ?_
  refine s_iload E dJ7_fill_d0a16_7 rfl ?_
  refine s_icmp_ge (tgt := 22) E dJ7_fill_d0a16_9 (by decide) (fun hh => absurd hh (by decide)) (fun _ => ?_)
  refine s_aload_n E dJ7_fill_d0a16_12 rfl rfl ?_
  refine s_iload_n E dJ7_fill_d0a16_13 rfl rfl ?_
  refine s_lload_n E dJ7_fill_d0a16_14 rfl rfl ?_
  refine s_last E rfl (ltn hg_26_0.1 (by decide)) (vp_c (by decide)) dJ7_fill_d0a16_15 ?_
  refine s_gen (P := fun v => RfC v ∧ FrM v ∧ RfM v) ⟨(fc_upL hg_26_0), (fc_upL hg_26_1), (fc_upL hg_26_2)⟩ (fun g_27 hp => ?_)
  obtain ⟨hg_27_0, hg_27_1, hg_27_2⟩ := hp
  refine s_iinc (v := 27) (L2 := [some (AR 68), some (AL x1), none, some (AI 27), some (AI 60)]) E dJ7_fill_d0a16_16 rfl (by decide) (by decide) rfl ?_
  refine s_goto (tgt := 6) E dJ7_fill_d0a16_19 (by decide) ?_
  refine s_iload_n E dJ7_fill_d0a16_6 rfl rfl ?_
  refine s_iload E dJ7_fill_d0a16_7 rfl ?_
  refine s_icmp_ge (tgt := 22) E dJ7_fill_d0a16_9 (by decide) (fun hh => absurd hh (by decide)) (fun _ => ?_)
  refine s_aload_n E dJ7_fill_d0a16_12 rfl rfl ?_
  refine s_iload_n E dJ7_fill_d0a16_13 rfl rfl ?_
  refine s_lload_n E dJ7_fill_d0a16_14 rfl rfl ?_
  refine s_last E rfl (ltn hg_27_0.1 (by decide)) (vp_c (by decide)) dJ7_fill_d0a16_15 ?_
  refine s_gen (P := fun v => RfC v ∧ FrM v ∧ RfM v) ⟨(fc_upL hg_27_0), (fc_upL hg_27_1), (fc_upL hg_27_2)⟩ (fun g_28 hp => ?_)
  obtain ⟨hg_28_0, hg_28_1, hg_28_2⟩ := hp
  refine s_iinc (v := 28) (L2 := [some (AR 68), some (AL x1), none, some (AI 28), some (AI 60)]) E dJ7_fill_d0a16_16 rfl (by decide) (by decide) rfl ?_
  refine s_goto (tgt := 6) E dJ7_fill_d0a16_19 (by decide) ?_
  refine s_iload_n E dJ7_fill_d0a16_6 rfl rfl ?_
  refine s_iload E dJ7_fill_d0a16_7 rfl ?_
  refine s_icmp_ge (tgt := 22) E dJ7_fill_d0a16_9 (by decide) (fun hh => absurd hh (by decide)) (fun _ => ?_)
  refine s_aload_n E dJ7_fill_d0a16_12 rfl rfl ?_
  refine s_iload_n E dJ7_fill_d0a16_13 rfl rfl ?_
  refine s_lload_n E dJ7_fill_d0a16_14 rfl rfl ?_
  refine s_last E rfl (ltn hg_28_0.1 (by decide)) (vp_c (by decide)) dJ7_fill_d0a16_15 ?_
  refine s_gen (P := fun v => RfC v ∧ FrM v ∧ RfM v) ⟨(fc_upL hg_28_0), (fc_upL hg_28_1), (fc_upL hg_28_2)⟩ (fun g_29 hp => ?_)
  obtain ⟨hg_29_0, hg_29_1, hg_29_2⟩ := hp
  refine s_iinc (v := 29) (L2 := [some (AR 68), some (AL x1), none, some (AI 29), some (AI 60)]) E dJ7_fill_d0a16_16 rfl (by decide) (by decide) rfl ?_
  refine s_goto (tgt := 6) E dJ7_fill_d0a16_19 (by decide) ?_
  refine s_iload_n E dJ7_fill_d0a16_6 rfl rfl ?_
  refine s_iload E dJ7_fill_d0a16_7 rfl ?_
  refine s_icmp_ge (tgt := 22) E dJ7_fill_d0a16_9 (by decide) (fun hh => absurd hh (by decide)) (fun _ => ?_)
  refine s_aload_n E dJ7_fill_d0a16_12 rfl rfl ?_
  refine s_iload_n E dJ7_fill_d0a16_13 rfl rfl ?_
  refine s_lload_n E dJ7_fill_d0a16_14 rfl rfl ?_
  refine s_last E rfl (ltn hg_29_0.1 (by decide)) (vp_c (by decide)) dJ7_fill_d0a16_15 ?_
  refine s_gen (P := fun v => RfC v ∧ FrM v ∧ RfM v) ⟨(fc_upL hg_29_0), (fc_upL hg_29_1), (fc_upL hg_29_2)⟩ (fun g_30 hp => ?_)
  obtain ⟨hg_30_0, hg_30_1, hg_30_2⟩ := hp
  refine s_iinc (v := 30) (L2 := [some (AR 68), some (AL x1), none, some (AI 30), some (AI 60)]) E dJ7_fill_d0a16_16 rfl (by decide) (by decide) rfl ?_
  refine s_goto (tgt := 6) E dJ7_fill_d0a16_19 (by decide) ?_
  refine s_iload_n E dJ7_fill_d0a16_6 rfl rfl ?_
  refine s_iload E dJ7_fill_d0a16_7 rfl ?_
  refine s_icmp_ge (tgt := 22) E dJ7_fill_d0a16_9 (by decide) (fun hh => absurd hh (by decide)) (fun _ => ?_)
  refine s_aload_n E dJ7_fill_d0a16_12 rfl rfl ?_
  refine s_iload_n E dJ7_fill_d0a16_13 rfl rfl ?_
  refine s_lload_n E dJ7_fill_d0a16_14 rfl rfl ?_
  refine s_last E rfl (ltn hg_30_0.1 (by decide)) (vp_c (by decide)) dJ7_fill_d0a16_15 ?_
  refine s_gen (P := fun v => RfC v ∧ FrM v ∧ RfM v) ⟨(fc_upL hg_30_0), (fc_upL hg_30_1), (fc_upL hg_30_2)⟩ (fun g_31 hp => ?_)
  obtain ⟨hg_31_0, hg_31_1, hg_31_2⟩ := hp
  refine s_iinc (v := 31) (L2 := [some (AR 68), some (AL x1), none, some (AI 31), some (AI 60)]) E dJ7_fill_d0a16_16 rfl (by decide) (by decide) rfl ?_
  refine s_goto (tgt := 6) E dJ7_fill_d0a16_19 (by decide) ?_
  refine s_iload_n E dJ7_fill_d0a16_6 rfl rfl ?_
  refine s_iload E dJ7_fill_d0a16_7 rfl ?_
  refine s_icmp_ge (tgt := 22) E dJ7_fill_d0a16_9 (by decide) (fun hh => absurd hh (by decide)) (fun _ => ?_)
  refine s_aload_n E dJ7_fill_d0a16_12 rfl rfl ?_
  refine s_iload_n E dJ7_fill_d0a16_13 rfl rfl ?_
  refine s_lload_n E dJ7_fill_d0a16_14 rfl rfl ?_
  refine s_last E rfl (ltn hg_31_0.1 (by decide)) (vp_c (by decide)) dJ7_fill_d0a16_15 ?_
  refine s_gen (P := fun v => RfC v ∧ FrM v ∧ RfM v) ⟨(fc_upL hg_31_0), (fc_upL hg_31_1), (fc_upL hg_31_2)⟩ (fun g_32 hp => ?_)
  obtain ⟨hg_32_0, hg_32_1, hg_32_2⟩ := hp
  refine s_iinc (v := 32) (L2 := [some (AR 68), some (AL x1), none, some (AI 32), some (AI 60)]) E dJ7_fill_d0a16_16 rfl (by decide) (by decide) rfl ?_
  refine s_goto (tgt := 6) E dJ7_fill_d0a16_19 (by decide) ?_
  refine s_iload_n E dJ7_fill_d0a16_6 rfl rfl ?_
  refine s_iload E dJ7_fill_d0a16_7 rfl ?_
  refine s_icmp_ge (tgt := 22) E dJ7_fill_d0a16_9 (by decide) (fun hh => absurd hh (by decide)) (fun _ => ?_)
  refine s_aload_n E dJ7_fill_d0a16_12 rfl rfl ?_
  refine s_iload_n E dJ7_fill_d0a16_13 rfl rfl ?_
  refine s_lload_n E dJ7_fill_d0a16_14 rfl rfl ?_
  refine s_last E rfl (ltn hg_32_0.1 (by decide)) (vp_c (by decide)) dJ7_fill_d0a16_15 ?_
  refine s_gen (P := fun v => RfC v ∧ FrM v ∧ RfM v) ⟨(fc_upL hg_32_0), (fc_upL hg_32_1), (fc_upL hg_32_2)⟩ (fun g_33 hp => ?_)
  obtain ⟨hg_33_0, hg_33_1, hg_33_2⟩ := hp
  refine s_iinc (v := 33) (L2 := [some (AR 68), some (AL x1), none, some (AI 33), some (AI 60)]) E dJ7_fill_d0a16_16 rfl (by decide) (by decide) rfl ?_
  refine s_goto (tgt := 6) E dJ7_fill_d0a16_19 (by decide) ?_
  refine s_iload_n E dJ7_fill_d0a16_6 rfl rfl ?_
  refine s_iload E dJ7_fill_d0a16_7 rfl ?_
  refine s_icmp_ge (tgt := 22) E dJ7_fill_d0a16_9 (by decide) (fun hh => absurd hh (by decide)) (fun _ => ?_)
  refine s_aload_n E dJ7_fill_d0a16_12 rfl rfl ?_
  refine s_iload_n E dJ7_fill_d0a16_13 rfl rfl ?_
  refine s_lload_n E dJ7_fill_d0a16_14 rfl rfl ?_
  refine s_last E rfl (ltn hg_33_0.1 (by decide)) (vp_c (by decide)) dJ7_fill_d0a16_15 ?_
  refine s_gen (P := fun v => RfC v ∧ FrM v ∧ RfM v) ⟨(fc_upL hg_33_0), (fc_upL hg_33_1), (fc_upL hg_33_2)⟩ (fun g_34 hp => ?_)
  obtain ⟨hg_34_0, hg_34_1, hg_34_2⟩ := hp
  refine s_iinc (v := 34) (L2 := [some (AR 68), some (AL x1), none, some (AI 34), some (AI 60)]) E dJ7_fill_d0a16_16 rfl (by decide) (by decide) rfl ?_
  refine s_goto (tgt := 6) E dJ7_fill_d0a16_19 (by decide) ?_
  refine s_iload_n E dJ7_fill_d0a16_6 rfl rfl ?_
  refine s_iload E dJ7_fill_d0a16_7 rfl ?_
  refine s_icmp_ge (tgt := 22) E dJ7_fill_d0a16_9 (by decide) (fun hh => absurd hh (by decide)) (fun _ => ?_)
  refine s_aload_n E dJ7_fill_d0a16_12 rfl rfl ?_
  refine s_iload_n E dJ7_fill_d0a16_13 rfl rfl ?_
  refine s_lload_n E dJ7_fill_d0a16_14 rfl rfl ?_
  refine s_last E rfl (ltn hg_34_0.1 (by decide)) (vp_c (by decide)) dJ7_fill_d0a16_15 ?_
  refine s_gen (P := fun v => RfC v ∧ FrM v ∧ RfM v) ⟨(fc_upL hg_34_0), (fc_upL hg_34_1), (fc_upL hg_34_2)⟩ (fun g_35 hp => ?_)
  obtain ⟨hg_35_0, hg_35_1, hg_35_2⟩ := hp
  refine s_iinc (v := 35) (L2 := [some (AR 68), some (AL x1), none, some (AI 35), some (AI 60)]) E dJ7_fill_d0a16_16 rfl (by decide) (by decide) rfl ?_
  refine s_goto (tgt := 6) E dJ7_fill_d0a16_19 (by decide) ?_
  refine s_iload_n E dJ7_fill_d0a16_6 rfl rfl ?_
  refine s_iload E dJ7_fill_d0a16_7 rfl ?_
  refine s_icmp_ge (tgt := 22) E dJ7_fill_d0a16_9 (by decide) (fun hh => absurd hh (by decide)) (fun _ => ?_)
  refine s_aload_n E dJ7_fill_d0a16_12 rfl rfl ?_
  refine s_iload_n E dJ7_fill_d0a16_13 rfl rfl ?_
  refine s_lload_n E dJ7_fill_d0a16_14 rfl rfl ?_
  refine s_last E rfl (ltn hg_35_0.1 (by decide)) (vp_c (by decide)) dJ7_fill_d0a16_15 ?_
  refine s_gen (P := fun v => RfC v ∧ FrM v ∧ RfM v) ⟨(fc_upL hg_35_0), (fc_upL hg_35_1), (fc_upL hg_35_2)⟩ (fun g_36 hp => ?_)
  obtain ⟨hg_36_0, hg_36_1, hg_36_2⟩ := hp
  refine s_iinc (v := 36) (L2 := [some (AR 68), some (AL x1), none, some (AI 36), some (AI 60)]) E dJ7_fill_d0a16_16 rfl (by decide) (by decide) rfl ?_
  refine s_goto (tgt := 6) E dJ7_fill_d0a16_19 (by decide) ?_
  refine s_iload_n E dJ7_fill_d0a16_6 rfl rfl ?_
  refine s_iload E dJ7_fill_d0a16_7 rfl ?_
  refine s_icmp_ge (tgt := 22) E dJ7_fill_d0a16_9 (by decide) (fun hh => absurd hh (by decide)) (fun _ => ?_)
  refine s_aload_n E dJ7_fill_d0a16_12 rfl rfl ?_
  refine s_iload_n E dJ7_fill_d0a16_13 rfl rfl ?_
  refine s_lload_n E dJ7_fill_d0a16_14 rfl rfl ?_
  refine s_last E rfl (ltn hg_36_0.1 (by decide)) (vp_c (by decide)) dJ7_fill_d0a16_15 ?_
  refine s_gen (P := fun v => RfC v ∧ FrM v ∧ RfM v) ⟨(fc_upL hg_36_0), (fc_upL hg_36_1), (fc_upL hg_36_2)⟩ (fun g_37 hp => ?_)
  obtain ⟨hg_37_0, hg_37_1, hg_37_2⟩ := hp
  refine s_iinc (v := 37) (L2 := [some (AR 68), some (AL x1), none, some (AI 37), some (AI 60)]) E dJ7_fill_d0a16_16 rfl (by decide) (by decide) rfl ?_
  refine s_goto (tgt := 6) E dJ7_fill_d0a16_19 (by decide) ?_
  refine s_iload_n E dJ7_fill_d0a16_6 rfl rfl ?_
  refine s_iload E dJ7_fill_d0a16_7 rfl ?_
  refine s_icmp_ge (tgt := 22) E dJ7_fill_d0a16_9 (by decide) (fun hh => absurd hh (by decide)) (fun _ => ?_)
  refine s_aload_n E dJ7_fill_d0a16_12 rfl rfl ?_
  refine s_iload_n E dJ7_fill_d0a16_13 rfl rfl ?_
  refine s_lload_n E dJ7_fill_d0a16_14 rfl rfl ?_
  refine s_last E rfl (ltn hg_37_0.1 (by decide)) (vp_c (by decide)) dJ7_fill_d0a16_15 ?_
  refine s_gen (P := fun v => RfC v ∧ FrM v ∧ RfM v) ⟨(fc_upL hg_37_0), (fc_upL hg_37_1), (fc_upL hg_37_2)⟩ (fun g_38 hp => ?_)
  obtain ⟨hg_38_0, hg_38_1, hg_38_2⟩ := hp
  refine s_iinc (v := 38) (L2 := [some (AR 68), some (AL x1), none, some (AI 38), some (AI 60)]) E dJ7_fill_d0a16_16 rfl (by decide) (by decide) rfl ?_
  refine s_goto (tgt := 6) E dJ7_fill_d0a16_19 (by decide) ?_
  refine s_iload_n E dJ7_fill_d0a16_6 rfl rfl ?_
  refine s_iload E dJ7_fill_d0a16_7 rfl ?_
  refine s_icmp_ge (tgt := 22) E dJ7_fill_d0a16_9 (by decide) (fun hh => absurd hh (by decide)) (fun _ => ?_)
  refine s_aload_n E dJ7_fill_d0a16_12 rfl rfl ?_
  refine s_iload_n E dJ7_fill_d0a16_13 rfl rfl ?_
  refine s_lload_n E dJ7_fill_d0a16_14 rfl rfl ?_
  refine s_last E rfl (ltn hg_38_0.1 (by decide)) (vp_c (by decide)) dJ7_fill_d0a16_15 ?_
  refine s_gen (P := fun v => RfC v ∧ FrM v ∧ RfM v) ⟨(fc_upL hg_38_0), (fc_upL hg_38_1), (fc_upL hg_38_2)⟩ (fun g_39 hp => ?_)
  obtain ⟨hg_39_0, hg_39_1, hg_39_2⟩ := hp
  refine s_iinc (v := 39) (L2 := [some (AR 68), some (AL x1), none, some (AI 39), some (AI 60)]) E dJ7_fill_d0a16_16 rfl (by decide) (by decide) rfl ?_
  refine s_goto (tgt := 6) E dJ7_fill_d0a16_19 (by decide) ?_
  refine s_iload_n E dJ7_fill_d0a16_6 rfl rfl ?_
  refine s_iload E dJ7_fill_d0a16_7 rfl ?_
  refine s_icmp_ge (tgt := 22) E dJ7_fill_d0a16_9 (by decide) (fun hh => absurd hh (by decide)) (fun _ => ?_)
  refine s_aload_n E dJ7_fill_d0a16_12 rfl rfl ?_
  refine s_iload_n E dJ7_fill_d0a16_13 rfl rfl ?_
  refine s_lload_n E dJ7_fill_d0a16_14 rfl rfl ?_
  refine s_last E rfl (ltn hg_39_0.1 (by decide)) (vp_c (by decide)) dJ7_fill_d0a16_15 ?_
  refine s_gen (P := fun v => RfC v ∧ FrM v ∧ RfM v) ⟨(fc_upL hg_39_0), (fc_upL hg_39_1), (fc_upL hg_39_2)⟩ (fun g_40 hp => ?_)
  obtain ⟨hg_40_0, hg_40_1, hg_40_2⟩ := hp
  refine s_iinc (v := 40) (L2 := [some (AR 68), some (AL x1), none, some (AI 40), some (AI 60)]) E dJ7_fill_d0a16_16 rfl (by decide) (by decide) rfl ?_
  refine s_goto (tgt := 6) E dJ7_fill_d0a16_19 (by decide) ?_
  refine s_iload_n E dJ7_fill_d0a16_6 rfl rfl ?_
  refine s_iload E dJ7_fill_d0a16_7 rfl ?_
  refine s_icmp_ge (tgt := 22) E dJ7_fill_d0a16_9 (by decide) (fun hh => absurd hh (by decide)) (fun _ => ?_)
  refine s_aload_n E dJ7_fill_d0a16_12 rfl rfl ?_
  refine s_iload_n E dJ7_fill_d0a16_13 rfl rfl ?_
  refine s_lload_n E dJ7_fill_d0a16_14 rfl rfl ?_
  refine s_last E rfl (ltn hg_40_0.1 (by decide)) (vp_c (by decide)) dJ7_fill_d0a16_15 ?_
  refine s_gen (P := fun v => RfC v ∧ FrM v ∧ RfM v) ⟨(fc_upL hg_40_0), (fc_upL hg_40_1), (fc_upL hg_40_2)⟩ (fun g_41 hp => ?_)
  obtain ⟨hg_41_0, hg_41_1, hg_41_2⟩ := hp
  refine s_iinc (v := 41) (L2 := [some (AR 68), some (AL x1), none, some (AI 41), some (AI 60)]) E dJ7_fill_d0a16_16 rfl (by decide) (by decide) rfl ?_
  refine s_goto (tgt := 6) E dJ7_fill_d0a16_19 (by decide) ?_
  refine s_iload_n E dJ7_fill_d0a16_6 rfl rfl ?_
  refine s_iload E dJ7_fill_d0a16_7 rfl ?_
  refine s_icmp_ge (tgt := 22) E dJ7_fill_d0a16_9 (by decide) (fun hh => absurd hh (by decide)) (fun _ => ?_)
  refine s_aload_n E dJ7_fill_d0a16_12 rfl rfl ?_
  refine s_iload_n E dJ7_fill_d0a16_13 rfl rfl ?_
  refine s_lload_n E dJ7_fill_d0a16_14 rfl rfl ?_
  refine s_last E rfl (ltn hg_41_0.1 (by decide)) (vp_c (by decide)) dJ7_fill_d0a16_15 ?_
  refine s_gen (P := fun v => RfC v ∧ FrM v ∧ RfM v) ⟨(fc_upL hg_41_0), (fc_upL hg_41_1), (fc_upL hg_41_2)⟩ (fun g_42 hp => ?_)
  obtain ⟨hg_42_0, hg_42_1, hg_42_2⟩ := hp
  refine s_iinc (v := 42) (L2 := [some (AR 68), some (AL x1), none, some (AI 42), some (AI 60)]) E dJ7_fill_d0a16_16 rfl (by decide) (by decide) rfl ?_
  refine s_goto (tgt := 6) E dJ7_fill_d0a16_19 (by decide) ?_
  refine s_iload_n E dJ7_fill_d0a16_6 rfl rfl ?_
  refine s_iload E dJ7_fill_d0a16_7 rfl ?_
  refine s_icmp_ge (tgt := 22) E dJ7_fill_d0a16_9 (by decide) (fun hh => absurd hh (by decide)) (fun _ => ?_)
  refine s_aload_n E dJ7_fill_d0a16_12 rfl rfl ?_
  refine s_iload_n E dJ7_fill_d0a16_13 rfl rfl ?_
  refine s_lload_n E dJ7_fill_d0a16_14 rfl rfl ?_
  refine s_last E rfl (ltn hg_42_0.1 (by decide)) (vp_c (by decide)) dJ7_fill_d0a16_15 ?_
  refine s_gen (P := fun v => RfC v ∧ FrM v ∧ RfM v) ⟨(fc_upL hg_42_0), (fc_upL hg_42_1), (fc_upL hg_42_2)⟩ (fun g_43 hp => ?_)
  obtain ⟨hg_43_0, hg_43_1, hg_43_2⟩ := hp
  refine s_iinc (v := 43) (L2 := [some (AR 68), some (AL x1), none, some (AI 43), some (AI 60)]) E dJ7_fill_d0a16_16 rfl (by decide) (by decide) rfl ?_
  refine s_goto (tgt := 6) E dJ7_fill_d0a16_19 (by decide) ?_
  refine s_iload_n E dJ7_fill_d0a16_6 rfl rfl ?_
  refine s_iload E dJ7_fill_d0a16_7 rfl ?_
  refine s_icmp_ge (tgt := 22) E dJ7_fill_d0a16_9 (by decide) (fun hh => absurd hh (by decide)) (fun _ => ?_)
  refine s_aload_n E dJ7_fill_d0a16_12 rfl rfl ?_
  refine s_iload_n E dJ7_fill_d0a16_13 rfl rfl ?_
  refine s_lload_n E dJ7_fill_d0a16_14 rfl rfl ?_
  refine s_last E rfl (ltn hg_43_0.1 (by decide)) (vp_c (by decide)) dJ7_fill_d0a16_15 ?_
  refine s_gen (P := fun v => RfC v ∧ FrM v ∧ RfM v) ⟨(fc_upL hg_43_0), (fc_upL hg_43_1), (fc_upL hg_43_2)⟩ (fun g_44 hp => ?_)
  obtain ⟨hg_44_0, hg_44_1, hg_44_2⟩ := hp
  refine s_iinc (v := 44) (L2 := [some (AR 68), some (AL x1), none, some (AI 44), some (AI 60)]) E dJ7_fill_d0a16_16 rfl (by decide) (by decide) rfl ?_
  refine s_goto (tgt := 6) E dJ7_fill_d0a16_19 (by decide) ?_
  refine s_iload_n E dJ7_fill_d0a16_6 rfl rfl ?_
  refine s_iload E dJ7_fill_d0a16_7 rfl ?_
  refine s_icmp_ge (tgt := 22) E dJ7_fill_d0a16_9 (by decide) (fun hh => absurd hh (by decide)) (fun _ => ?_)
  refine s_aload_n E dJ7_fill_d0a16_12 rfl rfl ?_
  refine s_iload_n E dJ7_fill_d0a16_13 rfl rfl ?_
  refine s_lload_n E dJ7_fill_d0a16_14 rfl rfl ?_
  refine s_last E rfl (ltn hg_44_0.1 (by decide)) (vp_c (by decide)) dJ7_fill_d0a16_15 ?_
  refine s_gen (P := fun v => RfC v ∧ FrM v ∧ RfM v) ⟨(fc_upL hg_44_0), (fc_upL hg_44_1), (fc_upL hg_44_2)⟩ (fun g_45 hp => ?_)
  obtain ⟨hg_45_0, hg_45_1, hg_45_2⟩ := hp
  refine s_iinc (v := 45) (L2 := [some (AR 68), some (AL x1), none, some (AI 45), some (AI 60)]) E dJ7_fill_d0a16_16 rfl (by decide) (by decide) rfl ?_
  refine s_goto (tgt := 6) E dJ7_fill_d0a16_19 (by decide) ?_
  refine s_iload_n E dJ7_fill_d0a16_6 rfl rfl ?_
  refine s_iload E dJ7_fill_d0a16_7 rfl ?_
  refine s_icmp_ge (tgt := 22) E dJ7_fill_d0a16_9 (by decide) (fun hh => absurd hh (by decide)) (fun _ => ?_)
  refine s_aload_n E dJ7_fill_d0a16_12 rfl rfl ?_
  refine s_iload_n E dJ7_fill_d0a16_13 rfl rfl ?_
  refine s_lload_n E dJ7_fill_d0a16_14 rfl rfl ?_
  refine s_last E rfl (ltn hg_45_0.1 (by decide)) (vp_c (by decide)) dJ7_fill_d0a16_15 ?_
  refine s_gen (P := fun v => RfC v ∧ FrM v ∧ RfM v) ⟨(fc_upL hg_45_0), (fc_upL hg_45_1), (fc_upL hg_45_2)⟩ (fun g_46 hp => ?_)
  obtain ⟨hg_46_0, hg_46_1, hg_46_2⟩ := hp
  refine s_iinc (v := 46) (L2 := [some (AR 68), some (AL x1), none, some (AI 46), some (AI 60)]) E dJ7_fill_d0a16_16 rfl (by decide) (by decide) rfl ?_
  refine s_goto (tgt := 6) E dJ7_fill_d0a16_19 (by decide) ?_
  refine s_iload_n E dJ7_fill_d0a16_6 rfl rfl ?_
  refine s_iload E dJ7_fill_d0a16_7 rfl ?_
  refine s_icmp_ge (tgt := 22) E dJ7_fill_d0a16_9 (by decide) (fun hh => absurd hh (by decide)) (fun _ => ?_)
  refine s_aload_n E dJ7_fill_d0a16_12 rfl rfl ?_
  refine s_iload_n E dJ7_fill_d0a16_13 rfl rfl ?_
  refine s_lload_n E dJ7_fill_d0a16_14 rfl rfl ?_
  refine s_last E rfl (ltn hg_46_0.1 (by decide)) (vp_c (by decide)) dJ7_fill_d0a16_15 ?_
  refine s_gen (P := fun v => RfC v ∧ FrM v ∧ RfM v) ⟨(fc_upL hg_46_0), (fc_upL hg_46_1), (fc_upL hg_46_2)⟩ (fun g_47 hp => ?_)
  obtain ⟨hg_47_0, hg_47_1, hg_47_2⟩ := hp
  refine s_iinc (v := 47) (L2 := [some (AR 68), some (AL x1), none, some (AI 47), some (AI 60)]) E dJ7_fill_d0a16_16 rfl (by decide) (by decide) rfl ?_
  refine s_goto (tgt := 6) E dJ7_fill_d0a16_19 (by decide) ?_
  refine s_iload_n E dJ7_fill_d0a16_6 rfl rfl ?_
  refine s_iload E dJ7_fill_d0a16_7 rfl ?_
  refine s_icmp_ge (tgt := 22) E dJ7_fill_d0a16_9 (by decide) (fun hh => absurd hh (by decide)) (fun _ => ?_)
  refine s_aload_n E dJ7_fill_d0a16_12 rfl rfl ?_
  refine s_iload_n E dJ7_fill_d0a16_13 rfl rfl ?_
  refine s_lload_n E dJ7_fill_d0a16_14 rfl rfl ?_
  refine s_last E rfl (ltn hg_47_0.1 (by decide)) (vp_c (by decide)) dJ7_fill_d0a16_15 ?_
  refine s_gen (P := fun v => RfC v ∧ FrM v ∧ RfM v) ⟨(fc_upL hg_47_0), (fc_upL hg_47_1), (fc_upL hg_47_2)⟩ (fun g_48 hp => ?_)
  obtain ⟨hg_48_0, hg_48_1, hg_48_2⟩ := hp
  refine s_iinc (v := 48) (L2 := [some (AR 68), some (AL x1), none, some (AI 48), some (AI 60)]) E dJ7_fill_d0a16_16 rfl (by decide) (by decide) rfl ?_
  refine s_goto (tgt := 6) E dJ7_fill_d0a16_19 (by decide) ?_
  refine s_iload_n E dJ7_fill_d0a16_6 rfl rfl ?_
  refine s_iload E dJ7_fill_d0a16_7 rfl ?_
  refine s_icmp_ge (tgt := 22) E dJ7_fill_d0a16_9 (by decide) (fun hh => absurd hh (by decide)) (fun _ => ?_)
  refine s_aload_n E dJ7_fill_d0a16_12 rfl rfl ?_
  refine s_iload_n E dJ7_fill_d0a16_13 rfl rfl ?_
  refine s_lload_n E dJ7_fill_d0a16_14 rfl rfl ?_
  refine s_last E rfl (ltn hg_48_0.1 (by decide)) (vp_c (by decide)) dJ7_fill_d0a16_15 ?_
  refine s_gen (P := fun v => RfC v ∧ FrM v ∧ RfM v) ⟨(fc_upL hg_48_0), (fc_upL hg_48_1), (fc_upL hg_48_2)⟩ (fun g_49 hp => ?_)
  obtain ⟨hg_49_0, hg_49_1, hg_49_2⟩ := hp
  refine s_iinc (v := 49) (L2 := [some (AR 68), some (AL x1), none, some (AI 49), some (AI 60)]) E dJ7_fill_d0a16_16 rfl (by decide) (by decide) rfl ?_
  refine s_goto (tgt := 6) E dJ7_fill_d0a16_19 (by decide) ?_
  refine s_iload_n E dJ7_fill_d0a16_6 rfl rfl ?_
  refine s_iload E dJ7_fill_d0a16_7 rfl ?_
  refine s_icmp_ge (tgt := 22) E dJ7_fill_d0a16_9 (by decide) (fun hh => absurd hh (by decide)) (fun _ => ?_)
  refine s_aload_n E dJ7_fill_d0a16_12 rfl rfl ?_
  refine s_iload_n E dJ7_fill_d0a16_13 rfl rfl ?_
  refine s_lload_n E dJ7_fill_d0a16_14 rfl rfl ?_
  refine s_last E rfl (ltn hg_49_0.1 (by decide)) (vp_c (by decide)) dJ7_fill_d0a16_15 ?_
  refine s_gen (P := fun v => RfC v ∧ FrM v ∧ RfM v) ⟨(fc_upL hg_49_0), (fc_upL hg_49_1), (fc_upL hg_49_2)⟩ (fun g_50 hp => ?_)
  obtain ⟨hg_50_0, hg_50_1, hg_50_2⟩ := hp
  refine s_iinc (v := 50) (L2 := [some (AR 68), some (AL x1), none, some (AI 50), some (AI 60)]) E dJ7_fill_d0a16_16 rfl (by decide) (by decide) rfl ?_
  refine s_goto (tgt := 6) E dJ7_fill_d0a16_19 (by decide) ?_
  refine s_iload_n E dJ7_fill_d0a16_6 rfl rfl ?_
  refine s_iload E dJ7_fill_d0a16_7 rfl ?_
  refine s_icmp_ge (tgt := 22) E dJ7_fill_d0a16_9 (by decide) (fun hh => absurd hh (by decide)) (fun _ => ?_)
  refine s_aload_n E dJ7_fill_d0a16_12 rfl rfl ?_
  refine s_iload_n E dJ7_fill_d0a16_13 rfl rfl ?_
  refine s_lload_n E dJ7_fill_d0a16_14 rfl rfl ?_
  refine s_last E rfl (ltn hg_50_0.1 (by decide)) (vp_c (by decide)) dJ7_fill_d0a16_15 ?_
  refine s_gen (P := fun v => RfC v ∧ FrM v ∧ RfM v) ⟨(fc_upL hg_50_0), (fc_upL hg_50_1), (fc_upL hg_50_2)⟩ (fun g_51 hp => ?_)
  obtain ⟨hg_51_0, hg_51_1, hg_51_2⟩ := hp
  refine s_iinc (v := 51) (L2 := [some (AR 68), some (AL x1), none, some (AI 51), some (AI 60)]) E dJ7_fill_d0a16_16 rfl (by decide) (by decide) rfl ?_
  refine s_goto (tgt := 6) E dJ7_fill_d0a16_19 (by decide) ?_
  refine s_iload_n E dJ7_fill_d0a16_6 rfl rfl ?_
  refine s_iload E dJ7_fill_d0a16_7 rfl ?_
  refine s_icmp_ge (tgt := 22) E dJ7_fill_d0a16_9 (by decide) (fun hh => absurd hh (by decide)) (fun _ => ?_)
  refine s_aload_n E dJ7_fill_d0a16_12 rfl rfl ?_
  refine s_iload_n E dJ7_fill_d0a16_13 rfl rfl ?_
  refine s_lload_n E dJ7_fill_d0a16_14 rfl rfl ?_
  refine s_last E rfl (ltn hg_51_0.1 (by decide)) (vp_c (by decide)) dJ7_fill_d0a16_15 ?_
  refine s_gen (P := fun v => RfC v ∧ FrM v ∧ RfM v) ⟨(fc_upL hg_51_0), (fc_upL hg_51_1), (fc_upL hg_51_2)⟩ (fun g_52 hp => ?_)
  obtain ⟨hg_52_0, hg_52_1, hg_52_2⟩ := hp
  refine s_iinc (v := 52) (L2 := [some (AR 68), some (AL x1), none, some (AI 52), some (AI 60)]) E dJ7_fill_d0a16_16 rfl (by decide) (by decide) rfl ?_
  refine s_goto (tgt := 6) E dJ7_fill_d0a16_19 (by decide) ?_
  refine s_iload_n E dJ7_fill_d0a16_6 rfl rfl ?_
  refine s_iload E dJ7_fill_d0a16_7 rfl ?_
  refine s_icmp_ge (tgt := 22) E dJ7_fill_d0a16_9 (by decide) (fun hh => absurd hh (by decide)) (fun _ => ?_)
  refine s_aload_n E dJ7_fill_d0a16_12 rfl rfl ?_
  refine s_iload_n E dJ7_fill_d0a16_13 rfl rfl ?_
  refine s_lload_n E dJ7_fill_d0a16_14 rfl rfl ?_
  refine s_last E rfl (ltn hg_52_0.1 (by decide)) (vp_c (by decide)) dJ7_fill_d0a16_15 ?_
  refine s_gen (P := fun v => RfC v ∧ FrM v ∧ RfM v) ⟨(fc_upL hg_52_0), (fc_upL hg_52_1), (fc_upL hg_52_2)⟩ (fun g_53 hp => ?_)
  obtain ⟨hg_53_0, hg_53_1, hg_53_2⟩ := hp
  refine s_iinc (v := 53) (L2 := [some (AR 68), some (AL x1), none, some (AI 53), some (AI 60)]) E dJ7_fill_d0a16_16 rfl (by decide) (by decide) rfl ?_
  refine s_goto (tgt := 6) E dJ7_fill_d0a16_19 (by decide) ?_
  refine s_iload_n E dJ7_fill_d0a16_6 rfl rfl ?_
  refine s_iload E dJ7_fill_d0a16_7 rfl ?_
  refine s_icmp_ge (tgt := 22) E dJ7_fill_d0a16_9 (by decide) (fun hh => absurd hh (by decide)) (fun _ => ?_)
  refine s_aload_n E dJ7_fill_d0a16_12 rfl rfl ?_
  refine s_iload_n E dJ7_fill_d0a16_13 rfl rfl ?_
  refine s_lload_n E dJ7_fill_d0a16_14 rfl rfl ?_
  refine s_last E rfl (ltn hg_53_0.1 (by decide)) (vp_c (by decide)) dJ7_fill_d0a16_15 ?_
  refine s_gen (P := fun v => RfC v ∧ FrM v ∧ RfM v) ⟨(fc_upL hg_53_0), (fc_upL hg_53_1), (fc_upL hg_53_2)⟩ (fun g_54 hp => ?_)
  obtain ⟨hg_54_0, hg_54_1, hg_54_2⟩ := hp
  refine s_iinc (v := 54) (L2 := [some (AR 68), some (AL x1), none, some (AI 54), some (AI 60)]) E dJ7_fill_d0a16_16 rfl (by decide) (by decide) rfl ?_
  refine s_goto (tgt := 6) E dJ7_fill_d0a16_19 (by decide) ?_
  refine s_iload_n E dJ7_fill_d0a16_6 rfl rfl ?_
  refine s_iload E dJ7_fill_d0a16_7 rfl ?_
  refine s_icmp_ge (tgt := 22) E dJ7_fill_d0a16_9 (by decide) (fun hh => absurd hh (by decide)) (fun _ => ?_)
  refine s_aload_n E dJ7_fill_d0a16_12 rfl rfl ?_
  refine s_iload_n E dJ7_fill_d0a16_13 rfl rfl ?_
  refine s_lload_n E dJ7_fill_d0a16_14 rfl rfl ?_
  refine s_last E rfl (ltn hg_54_0.1 (by decide)) (vp_c (by decide)) dJ7_fill_d0a16_15 ?_
  refine s_gen (P := fun v => RfC v ∧ FrM v ∧ RfM v) ⟨(fc_upL hg_54_0), (fc_upL hg_54_1), (fc_upL hg_54_2)⟩ (fun g_55 hp => ?_)
  obtain ⟨hg_55_0, hg_55_1, hg_55_2⟩ := hp
  refine s_iinc (v := 55) (L2 := [some (AR 68), some (AL x1), none, some (AI 55), some (AI 60)]) E dJ7_fill_d0a16_16 rfl (by decide) (by decide) rfl ?_
  refine s_goto (tgt := 6) E dJ7_fill_d0a16_19 (by decide) ?_
  refine s_iload_n E dJ7_fill_d0a16_6 rfl rfl ?_
  refine s_iload E dJ7_fill_d0a16_7 rfl ?_
  refine s_icmp_ge (tgt := 22) E dJ7_fill_d0a16_9 (by decide) (fun hh => absurd hh (by decide)) (fun _ => ?_)
  refine s_aload_n E dJ7_fill_d0a16_12 rfl rfl ?_
  refine s_iload_n E dJ7_fill_d0a16_13 rfl rfl ?_
  refine s_lload_n E dJ7_fill_d0a16_14 rfl rfl ?_
  refine s_last E rfl (ltn hg_55_0.1 (by decide)) (vp_c (by decide)) dJ7_fill_d0a16_15 ?_
  refine s_gen (P := fun v => RfC v ∧ FrM v ∧ RfM v) ⟨(fc_upL hg_55_0), (fc_upL hg_55_1), (fc_upL hg_55_2)⟩ (fun g_56 hp => ?_)
  obtain ⟨hg_56_0, hg_56_1, hg_56_2⟩ := hp
  refine s_iinc (v := 56) (L2 := [some (AR 68), some (AL x1), none, some (AI 56), some (AI 60)]) E dJ7_fill_d0a16_16 rfl (by decide) (by decide) rfl ?_
  refine s_goto (tgt := 6) E dJ7_fill_d0a16_19 (by decide) ?_
  refine s_iload_n E dJ7_fill_d0a16_6 rfl rfl ?_
  refine s_iload E dJ7_fill_d0a16_7 rfl ?_
  refine s_icmp_ge (tgt := 22) E dJ7_fill_d0a16_9 (by decide) (fun hh => absurd hh (by decide)) (fun _ => ?_)
  refine s_aload_n E dJ7_fill_d0a16_12 rfl rfl ?_
  refine s_iload_n E dJ7_fill_d0a16_13 rfl rfl ?_
  refine s_lload_n E dJ7_fill_d0a16_14 rfl rfl ?_
  refine s_last E rfl (ltn hg_56_0.1 (by decide)) (vp_c (by decide)) dJ7_fill_d0a16_15 ?_
  refine s_gen (P := fun v => RfC v ∧ FrM v ∧ RfM v) ⟨(fc_upL hg_56_0), (fc_upL hg_56_1), (fc_upL hg_56_2)⟩ (fun g_57 hp => ?_)
  obtain ⟨hg_57_0, hg_57_1, hg_57_2⟩ := hp
  refine s_iinc (v := 57) (L2 := [some (AR 68), some (AL x1), none, some (AI 57), some (AI 60)]) E dJ7_fill_d0a16_16 rfl (by decide) (by decide) rfl ?_
  refine s_goto (tgt := 6) E dJ7_fill_d0a16_19 (by decide) ?_
  refine s_iload_n E dJ7_fill_d0a16_6 rfl rfl ?_
  refine s_iload E dJ7_fill_d0a16_7 rfl ?_
  refine s_icmp_ge (tgt := 22) E dJ7_fill_d0a16_9 (by decide) (fun hh => absurd hh (by decide)) (fun _ => ?_)
  refine s_aload_n E dJ7_fill_d0a16_12 rfl rfl ?_
  refine s_iload_n E dJ7_fill_d0a16_13 rfl rfl ?_
  refine s_lload_n E dJ7_fill_d0a16_14 rfl rfl ?_
  refine s_last E rfl (ltn hg_57_0.1 (by decide)) (vp_c (by decide)) dJ7_fill_d0a16_15 ?_
  refine s_gen (P := fun v => RfC v ∧ FrM v ∧ RfM v) ⟨(fc_upL hg_57_0), (fc_upL hg_57_1), (fc_upL hg_57_2)⟩ (fun g_58 hp => ?_)
  obtain ⟨hg_58_0, hg_58_1, hg_58_2⟩ := hp
  refine s_iinc (v := 58) (L2 := [some (AR 68), some (AL x1), none, some (AI 58), some (AI 60)]) E dJ7_fill_d0a16_16 rfl (by decide) (by decide) rfl ?_
  refine s_goto (tgt := 6) E dJ7_fill_d0a16_19 (by decide) ?_
  refine s_iload_n E dJ7_fill_d0a16_6 rfl rfl ?_
  refine s_iload E dJ7_fill_d0a16_7 rfl ?_
  refine s_icmp_ge (tgt := 22) E dJ7_fill_d0a16_9 (by decide) (fun hh => absurd hh (by decide)) (fun _ => ?_)
  refine s_aload_n E dJ7_fill_d0a16_12 rfl rfl ?_
  refine s_iload_n E dJ7_fill_d0a16_13 rfl rfl ?_
  refine s_lload_n E dJ7_fill_d0a16_14 rfl rfl ?_
  refine s_last E rfl (ltn hg_58_0.1 (by decide)) (vp_c (by decide)) dJ7_fill_d0a16_15 ?_
  refine s_gen (P := fun v => RfC v ∧ FrM v ∧ RfM v) ⟨(fc_upL hg_58_0), (fc_upL hg_58_1), (fc_upL hg_58_2)⟩ (fun g_59 hp => ?_)
  obtain ⟨hg_59_0, hg_59_1, hg_59_2⟩ := hp
  refine s_iinc (v := 59) (L2 := [some (AR 68), some (AL x1), none, some (AI 59), some (AI 60)]) E dJ7_fill_d0a16_16 rfl (by decide) (by decide) rfl ?_
  refine s_goto (tgt := 6) E dJ7_fill_d0a16_19 (by decide) ?_
  refine s_iload_n E dJ7_fill_d0a16_6 rfl rfl ?_
  refine s_iload E dJ7_fill_d0a16_7 rfl ?_
  refine s_icmp_ge (tgt := 22) E dJ7_fill_d0a16_9 (by decide) (fun hh => absurd hh (by decide)) (fun _ => ?_)
  refine s_aload_n E dJ7_fill_d0a16_12 rfl rfl ?_
  refine s_iload_n E dJ7_fill_d0a16_13 rfl rfl ?_
  refine s_lload_n E dJ7_fill_d0a16_14 rfl rfl ?_
  refine s_last E rfl (ltn hg_59_0.1 (by decide)) (vp_c (by decide)) dJ7_fill_d0a16_15 ?_
  refine s_gen (P := fun v => RfC v ∧ FrM v ∧ RfM v) ⟨(fc_upL hg_59_0), (fc_upL hg_59_1), (fc_upL hg_59_2)⟩ (fun g_60 hp => ?_)
  obtain ⟨hg_60_0, hg_60_1, hg_60_2⟩ := hp
  refine s_iinc (v := 60) (L2 := [some (AR 68), some (AL x1), none, some (AI 60), some (AI 60)]) E dJ7_fill_d0a16_16 rfl (by decide) (by decide) rfl ?_
  refine s_goto (tgt := 6) E dJ7_fill_d0a16_19 (by decide) ?_
  refine s_iload_n E dJ7_fill_d0a16_6 rfl rfl ?_
  refine s_iload E dJ7_fill_d0a16_7 rfl ?_
  refine s_icmp_ge (tgt := 22) E dJ7_fill_d0a16_9 (by decide) (fun _ => ?_) (fun hh => absurd (by decide) hh)
  exact r_void E dJ7_fill_d0a16_22 ⟨hg_60_0, hg_60_1, hg_60_2⟩
set_option maxRecDepth 20000 in
set_option maxHeartbeats 2000000 in
theorem K_X7_start_67_CRMS (l : Launch) (D : va_G) (aC : Nat → ClassId) (b : Nat) (w : XW) (x1 : Int32) (x2 : Int32) (hw0 : FrC w) (hw1 : RfC w) (hw2 : FrM w) (hw3 : RfM w) : CnV l D aC b M_X7_start 1 24 0 0 [AR 67, AI x1, AI x2] w (fun u => RfC u ∧ FrM u ∧ RfM u) := by
  refine cn_V (own := RX7) (nm := "start") (L0 := [some (AR 67), some (AI x1), some (AI x2)]) (by decide +kernel) rfl rfl (Nat.le_of_ble_eq_true rfl) rfl ?_
  intro p e s m args below meth c E hin
  refine s_aload_n E dX7_start_0 rfl rfl ?_
  refine s_iload_n E dX7_start_1 rfl rfl ?_
  refine s_pI E fp_X7_19 (Or.inl rfl) rfl (ltn hw0.1 (by decide)) dX7_start_2 ?_
  refine s_aload_n E dX7_start_5 rfl rfl ?_
  refine s_bipush (v := 60) E dX7_start_6 (by decide) ?_
  refine s_iload_n E dX7_start_8 rfl rfl ?_
  refine s_min (v := (if x2 < 60 then x2 else 60)) E ⟨k_1212, k_369, k_4, k_370⟩ (Nat.le_of_ble_eq_true rfl) (Nat.le_of_ble_eq_true rfl) (Nat.le_of_ble_eq_true rfl) (Nat.le_of_ble_eq_true rfl) dX7_start_9 rfl ?_
  refine s_pI E fp_X7_15 (Or.inl rfl) rfl (ltn hw0.1 (by decide)) dX7_start_12 ?_
  refine s_aload_n E dX7_start_15 rfl rfl ?_
  refine s_gR (r := 68) E fg_X7_11 rfl rfl (ltn hw0.1 (by decide)) (fc_r hw0 (by decide +kernel)) dX7_start_16 ?_
  refine s_lconst (v := 0) E dX7_start_19 (by decide) ?_
  refine s_sV (As := [AR 68, AL 0]) (S := []) E (K_J7_fill_d0a16_r68_RMS l D aC b (upI (upI w 67 1 x1) 67 2 (if x2 < 60 then x2 else 60)) 0 (fc_upC (fc_upC hw1 (by decide +kernel)) (by decide +kernel)) (fc_upC (fc_upC hw2 (by decide +kernel)) (by decide +kernel)) (fc_upC (fc_upC hw3 (by decide +kernel)) (by decide +kernel))) cs_X7_28 rfl rfl (Nat.le_of_ble_eq_true rfl) (Nat.le_of_ble_eq_true rfl) ⟨(Nat.le_of_ble_eq_true rfl), (Nat.le_of_ble_eq_true rfl)⟩ (Nat.le_of_ble_eq_true rfl) dX7_start_20 (fun u_1 hp => ?_)
  obtain ⟨hu_1, hu_2, hu_3⟩ := hp
  exact r_void E dX7_start_23 ⟨hu_1, hu_2, hu_3⟩
set_option maxRecDepth 20000 in
set_option maxHeartbeats 2000000 in
theorem K_X9_row_0_CRMS (l : Launch) (D : va_G) (aC : Nat → ClassId) (b : Nat) (w : XW) (x1 : Int32) (x2 : Int32) (x3 : Int32) (hw0 : FrC w) (hw1 : RfC w) (hw2 : FrM w) (hw3 : RfM w) : CnI l D aC b M_X9_row 2 46 0 0 [AR 0, AI x1, AI x2, AI x3] w (fun r u => r = sp_row x1 x2 x3 ∧ RfC u ∧ FrM u ∧ RfM u) := by
  refine cn_I (own := RX9) (nm := "row") (L0 := [some (AR 0), some (AI x1), some (AI x2), some (AI x3)]) (by decide +kernel) rfl rfl (Nat.le_of_ble_eq_true rfl) rfl ?_
  intro p e s m args below meth c E hin
  refine s_iload_n E dX9_row_0 rfl rfl ?_
  refine s_sI (As := [AI x1]) (S := []) E (K_X9_isSlot_CRMS l D aC b w x1 hw0 hw1 hw2 hw3) cs_X9_276 rfl rfl (Nat.le_of_ble_eq_true rfl) (Nat.le_of_ble_eq_true rfl) ⟨(Nat.le_of_ble_eq_true rfl), (Nat.le_of_ble_eq_true rfl)⟩ (Nat.le_of_ble_eq_true rfl) dX9_row_1 (fun r u hp => ?_)
  rcases hp with ⟨rfl, h_1, h_2, rfl⟩ | ⟨rfl, h_3, rfl⟩
  ·
    refine s_if_eq (tgt := 22) E dX9_row_4 (by decide) (fun hh => absurd hh (by decide)) (fun _ => ?_)
    refine s_iload_n E dX9_row_7 rfl rfl ?_
    refine s_if_lt (tgt := 22) E dX9_row_8 (by decide) (fun h_4 => ?_) (fun h_4 => ?_)
    ·
      refine s_bipush (v := (-2)) E dX9_row_22 (by decide) ?_
      exact r_int E dX9_row_24 ⟨(by have q0 := h_1; have q1 := h_2; have q2 := h_4; (try simp only [lg_cmp_lt, lg_cmp_le, lg_cmp_ge, lg_cmp_gt] at q0 q1 q2); (try simp only [Int32.lt_iff_toInt_lt, Int32.le_iff_toInt_le, Int64.lt_iff_toInt_lt, Int64.le_iff_toInt_le, ← Int32.toInt_inj, ← Int64.toInt_inj, Int32.toInt_toInt64] at q0 q1 q2); have e0 : (0 : Int32).toInt = 0 := (by decide); have e1 : (1 : Int32).toInt = 1 := (by decide); have e2 : (2 : Int32).toInt = 2 := (by decide); have e3 : (3 : Int32).toInt = 3 := (by decide); have e4 : (4 : Int32).toInt = 4 := (by decide); have e5 : (0 : Int64).toInt = 0 := (by decide); (try simp only [e0, e1, e2, e3, e4, e5] at q0 q1 q2); first | decide | (unfold sp_row; (repeat' split) <;> first | rfl | (exfalso; omega))), ⟨hw1, hw2, hw3⟩⟩
    ·
      refine s_iload_n E dX9_row_11 rfl rfl ?_
      refine s_iconst (v := 3) E dX9_row_12 (by decide) ?_
      refine s_icmp_gt (tgt := 22) E dX9_row_13 (by decide) (fun h_5 => ?_) (fun h_5 => ?_)
      ·
        refine s_bipush (v := (-2)) E dX9_row_22 (by decide) ?_
        exact r_int E dX9_row_24 ⟨(by have q0 := h_1; have q1 := h_2; have q2 := h_4; have q3 := h_5; (try simp only [lg_cmp_lt, lg_cmp_le, lg_cmp_ge, lg_cmp_gt] at q0 q1 q2 q3); (try simp only [Int32.lt_iff_toInt_lt, Int32.le_iff_toInt_le, Int64.lt_iff_toInt_lt, Int64.le_iff_toInt_le, ← Int32.toInt_inj, ← Int64.toInt_inj, Int32.toInt_toInt64] at q0 q1 q2 q3); have e0 : (0 : Int32).toInt = 0 := (by decide); have e1 : (1 : Int32).toInt = 1 := (by decide); have e2 : (2 : Int32).toInt = 2 := (by decide); have e3 : (3 : Int32).toInt = 3 := (by decide); have e4 : (4 : Int32).toInt = 4 := (by decide); have e5 : (0 : Int64).toInt = 0 := (by decide); (try simp only [e0, e1, e2, e3, e4, e5] at q0 q1 q2 q3); first | decide | (unfold sp_row; (repeat' split) <;> first | rfl | (exfalso; omega))), ⟨hw1, hw2, hw3⟩⟩
      ·
        refine s_iload_n E dX9_row_16 rfl rfl ?_
        refine s_bipush (v := 60) E dX9_row_17 (by decide) ?_
        refine s_icmp_le (tgt := 25) E dX9_row_19 (by decide) (fun h_6 => ?_) (fun h_6 => ?_)
        ·
          refine s_iload_n E dX9_row_25 rfl rfl ?_
          refine s_if_ge (tgt := 32) E dX9_row_26 (by decide) (fun h_7 => ?_) (fun h_7 => ?_)
          ·
            refine s_aload_n E dX9_row_32 rfl rfl ?_
            refine s_gR (r := 60) E fg_X9_46 rfl rfl (ltn hw0.1 (by decide)) (fc_r hw0 (by decide +kernel)) dX9_row_33 ?_
            refine s_iload_n E dX9_row_36 rfl rfl ?_
            rcases (show x1 = 0 ∨ x1 = 1 ∨ x1 = 2 ∨ x1 = 3 from (by have q0 := h_1; have q1 := h_2; have q2 := h_4; have q3 := h_5; have q4 := h_6; have q5 := h_7; (try simp only [lg_cmp_lt, lg_cmp_le, lg_cmp_ge, lg_cmp_gt] at q0 q1 q2 q3 q4 q5); (try simp only [Int32.lt_iff_toInt_lt, Int32.le_iff_toInt_le, Int64.lt_iff_toInt_lt, Int64.le_iff_toInt_le, ← Int32.toInt_inj, ← Int64.toInt_inj, Int32.toInt_toInt64] at q0 q1 q2 q3 q4 q5); have e0 : (0 : Int32).toInt = 0 := (by decide); have e1 : (3 : Int32).toInt = 3 := (by decide); have e2 : (60 : Int32).toInt = 60 := (by decide); have e3 : (0 : Int64).toInt = 0 := (by decide); (try simp only [e0, e1, e2, e3] at q0 q1 q2 q3 q4 q5); have z0 : (0 : Int32).toInt = 0 := (by decide); have z1 : (1 : Int32).toInt = 1 := (by decide); have z2 : (2 : Int32).toInt = 2 := (by decide); have z3 : (3 : Int32).toInt = 3 := (by decide); (simp only [← Int32.toInt_inj, z0, z1, z2, z3]); omega)) with rfl | rfl | rfl | rfl
            ·
              refine s_aald105 (r := 61) E rfl (ltn hw0.1 (by decide)) (vp_c (by decide)) (fc_r hw0 (by decide +kernel)) dX9_row_37 ?_
              refine s_iload_n E dX9_row_38 rfl rfl ?_
              refine s_iload_n E dX9_row_39 rfl rfl ?_
              refine s_vV (As := [AI x2, AI x3]) (S := []) E (K_X7_start_61_CRMS l D aC b w x2 x3 hw0 hw1 hw2 hw3) cv_X9_426 rfl rfl rfl (ltn hw0.1 (by decide)) (Nat.le_of_ble_eq_true rfl) (Nat.le_of_ble_eq_true rfl) ⟨(Nat.le_of_ble_eq_true rfl), (Nat.le_of_ble_eq_true rfl)⟩ (Nat.le_of_ble_eq_true rfl) dX9_row_40 (fun u_1 hp => ?_)
              obtain ⟨hu_8, hu_9, hu_10⟩ := hp
              refine s_iconst (v := 0) E dX9_row_43 (by decide) ?_
              exact r_int E dX9_row_44 ⟨(by have q0 := h_4; have q1 := h_5; have q2 := h_6; have q3 := h_7; (try simp only [lg_cmp_lt, lg_cmp_le, lg_cmp_ge, lg_cmp_gt] at q0 q1 q2 q3); (try simp only [Int32.lt_iff_toInt_lt, Int32.le_iff_toInt_le, Int64.lt_iff_toInt_lt, Int64.le_iff_toInt_le, ← Int32.toInt_inj, ← Int64.toInt_inj, Int32.toInt_toInt64] at q0 q1 q2 q3); have e0 : (0 : Int32).toInt = 0 := (by decide); have e1 : (1 : Int32).toInt = 1 := (by decide); have e2 : (2 : Int32).toInt = 2 := (by decide); have e3 : (3 : Int32).toInt = 3 := (by decide); have e4 : (4 : Int32).toInt = 4 := (by decide); have e5 : (60 : Int32).toInt = 60 := (by decide); have e6 : (0 : Int64).toInt = 0 := (by decide); (try simp only [e0, e1, e2, e3, e4, e5, e6] at q0 q1 q2 q3); first | decide | (unfold sp_row; (repeat' split) <;> first | rfl | (exfalso; omega))), ⟨hu_8, hu_9, hu_10⟩⟩
            ·
              refine s_aald105 (r := 63) E rfl (ltn hw0.1 (by decide)) (vp_c (by decide)) (fc_r hw0 (by decide +kernel)) dX9_row_37 ?_
              refine s_iload_n E dX9_row_38 rfl rfl ?_
              refine s_iload_n E dX9_row_39 rfl rfl ?_
              refine s_vV (As := [AI x2, AI x3]) (S := []) E (K_X7_start_63_CRMS l D aC b w x2 x3 hw0 hw1 hw2 hw3) cv_X9_426 rfl rfl rfl (ltn hw0.1 (by decide)) (Nat.le_of_ble_eq_true rfl) (Nat.le_of_ble_eq_true rfl) ⟨(Nat.le_of_ble_eq_true rfl), (Nat.le_of_ble_eq_true rfl)⟩ (Nat.le_of_ble_eq_true rfl) dX9_row_40 (fun u_2 hp => ?_)
              obtain ⟨hu_11, hu_12, hu_13⟩ := hp
              refine s_iconst (v := 0) E dX9_row_43 (by decide) ?_
              exact r_int E dX9_row_44 ⟨(by have q0 := h_4; have q1 := h_5; have q2 := h_6; have q3 := h_7; (try simp only [lg_cmp_lt, lg_cmp_le, lg_cmp_ge, lg_cmp_gt] at q0 q1 q2 q3); (try simp only [Int32.lt_iff_toInt_lt, Int32.le_iff_toInt_le, Int64.lt_iff_toInt_lt, Int64.le_iff_toInt_le, ← Int32.toInt_inj, ← Int64.toInt_inj, Int32.toInt_toInt64] at q0 q1 q2 q3); have e0 : (0 : Int32).toInt = 0 := (by decide); have e1 : (1 : Int32).toInt = 1 := (by decide); have e2 : (2 : Int32).toInt = 2 := (by decide); have e3 : (3 : Int32).toInt = 3 := (by decide); have e4 : (4 : Int32).toInt = 4 := (by decide); have e5 : (60 : Int32).toInt = 60 := (by decide); have e6 : (0 : Int64).toInt = 0 := (by decide); (try simp only [e0, e1, e2, e3, e4, e5, e6] at q0 q1 q2 q3); first | decide | (unfold sp_row; (repeat' split) <;> first | rfl | (exfalso; omega))), ⟨hu_11, hu_12, hu_13⟩⟩
            ·
              refine s_aald105 (r := 65) E rfl (ltn hw0.1 (by decide)) (vp_c (by decide)) (fc_r hw0 (by decide +kernel)) dX9_row_37 ?_
              refine s_iload_n E dX9_row_38 rfl rfl ?_
              refine s_iload_n E dX9_row_39 rfl rfl ?_
              refine s_vV (As := [AI x2, AI x3]) (S := []) E (K_X7_start_65_CRMS l D aC b w x2 x3 hw0 hw1 hw2 hw3) cv_X9_426 rfl rfl rfl (ltn hw0.1 (by decide)) (Nat.le_of_ble_eq_true rfl) (Nat.le_of_ble_eq_true rfl) ⟨(Nat.le_of_ble_eq_true rfl), (Nat.le_of_ble_eq_true rfl)⟩ (Nat.le_of_ble_eq_true rfl) dX9_row_40 (fun u_3 hp => ?_)
              obtain ⟨hu_14, hu_15, hu_16⟩ := hp
              refine s_iconst (v := 0) E dX9_row_43 (by decide) ?_
              exact r_int E dX9_row_44 ⟨(by have q0 := h_4; have q1 := h_5; have q2 := h_6; have q3 := h_7; (try simp only [lg_cmp_lt, lg_cmp_le, lg_cmp_ge, lg_cmp_gt] at q0 q1 q2 q3); (try simp only [Int32.lt_iff_toInt_lt, Int32.le_iff_toInt_le, Int64.lt_iff_toInt_lt, Int64.le_iff_toInt_le, ← Int32.toInt_inj, ← Int64.toInt_inj, Int32.toInt_toInt64] at q0 q1 q2 q3); have e0 : (0 : Int32).toInt = 0 := (by decide); have e1 : (1 : Int32).toInt = 1 := (by decide); have e2 : (2 : Int32).toInt = 2 := (by decide); have e3 : (3 : Int32).toInt = 3 := (by decide); have e4 : (4 : Int32).toInt = 4 := (by decide); have e5 : (60 : Int32).toInt = 60 := (by decide); have e6 : (0 : Int64).toInt = 0 := (by decide); (try simp only [e0, e1, e2, e3, e4, e5, e6] at q0 q1 q2 q3); first | decide | (unfold sp_row; (repeat' split) <;> first | rfl | (exfalso; omega))), ⟨hu_14, hu_15, hu_16⟩⟩
            ·
              refine s_aald105 (r := 67) E rfl (ltn hw0.1 (by decide)) (vp_c (by decide)) (fc_r hw0 (by decide +kernel)) dX9_row_37 ?_
              refine s_iload_n E dX9_row_38 rfl rfl ?_
              refine s_iload_n E dX9_row_39 rfl rfl ?_
              refine s_vV (As := [AI x2, AI x3]) (S := []) E (K_X7_start_67_CRMS l D aC b w x2 x3 hw0 hw1 hw2 hw3) cv_X9_426 rfl rfl rfl (ltn hw0.1 (by decide)) (Nat.le_of_ble_eq_true rfl) (Nat.le_of_ble_eq_true rfl) ⟨(Nat.le_of_ble_eq_true rfl), (Nat.le_of_ble_eq_true rfl)⟩ (Nat.le_of_ble_eq_true rfl) dX9_row_40 (fun u_4 hp => ?_)
              obtain ⟨hu_17, hu_18, hu_19⟩ := hp
              refine s_iconst (v := 0) E dX9_row_43 (by decide) ?_
              exact r_int E dX9_row_44 ⟨(by have q0 := h_4; have q1 := h_5; have q2 := h_6; have q3 := h_7; (try simp only [lg_cmp_lt, lg_cmp_le, lg_cmp_ge, lg_cmp_gt] at q0 q1 q2 q3); (try simp only [Int32.lt_iff_toInt_lt, Int32.le_iff_toInt_le, Int64.lt_iff_toInt_lt, Int64.le_iff_toInt_le, ← Int32.toInt_inj, ← Int64.toInt_inj, Int32.toInt_toInt64] at q0 q1 q2 q3); have e0 : (0 : Int32).toInt = 0 := (by decide); have e1 : (1 : Int32).toInt = 1 := (by decide); have e2 : (2 : Int32).toInt = 2 := (by decide); have e3 : (3 : Int32).toInt = 3 := (by decide); have e4 : (4 : Int32).toInt = 4 := (by decide); have e5 : (60 : Int32).toInt = 60 := (by decide); have e6 : (0 : Int64).toInt = 0 := (by decide); (try simp only [e0, e1, e2, e3, e4, e5, e6] at q0 q1 q2 q3); first | decide | (unfold sp_row; (repeat' split) <;> first | rfl | (exfalso; omega))), ⟨hu_17, hu_18, hu_19⟩⟩
          ·
            refine s_bipush (v := (-3)) E dX9_row_29 (by decide) ?_
            exact r_int E dX9_row_31 ⟨(by have q0 := h_1; have q1 := h_2; have q2 := h_4; have q3 := h_5; have q4 := h_6; have q5 := h_7; (try simp only [lg_cmp_lt, lg_cmp_le, lg_cmp_ge, lg_cmp_gt] at q0 q1 q2 q3 q4 q5); (try simp only [Int32.lt_iff_toInt_lt, Int32.le_iff_toInt_le, Int64.lt_iff_toInt_lt, Int64.le_iff_toInt_le, ← Int32.toInt_inj, ← Int64.toInt_inj, Int32.toInt_toInt64] at q0 q1 q2 q3 q4 q5); have e0 : (0 : Int32).toInt = 0 := (by decide); have e1 : (1 : Int32).toInt = 1 := (by decide); have e2 : (2 : Int32).toInt = 2 := (by decide); have e3 : (3 : Int32).toInt = 3 := (by decide); have e4 : (4 : Int32).toInt = 4 := (by decide); have e5 : (60 : Int32).toInt = 60 := (by decide); have e6 : (0 : Int64).toInt = 0 := (by decide); (try simp only [e0, e1, e2, e3, e4, e5, e6] at q0 q1 q2 q3 q4 q5); first | decide | (unfold sp_row; (repeat' split) <;> first | rfl | (exfalso; omega))), ⟨hw1, hw2, hw3⟩⟩
        ·
          refine s_bipush (v := (-2)) E dX9_row_22 (by decide) ?_
          exact r_int E dX9_row_24 ⟨(by have q0 := h_1; have q1 := h_2; have q2 := h_4; have q3 := h_5; have q4 := h_6; (try simp only [lg_cmp_lt, lg_cmp_le, lg_cmp_ge, lg_cmp_gt] at q0 q1 q2 q3 q4); (try simp only [Int32.lt_iff_toInt_lt, Int32.le_iff_toInt_le, Int64.lt_iff_toInt_lt, Int64.le_iff_toInt_le, ← Int32.toInt_inj, ← Int64.toInt_inj, Int32.toInt_toInt64] at q0 q1 q2 q3 q4); have e0 : (0 : Int32).toInt = 0 := (by decide); have e1 : (1 : Int32).toInt = 1 := (by decide); have e2 : (2 : Int32).toInt = 2 := (by decide); have e3 : (3 : Int32).toInt = 3 := (by decide); have e4 : (4 : Int32).toInt = 4 := (by decide); have e5 : (60 : Int32).toInt = 60 := (by decide); have e6 : (0 : Int64).toInt = 0 := (by decide); (try simp only [e0, e1, e2, e3, e4, e5, e6] at q0 q1 q2 q3 q4); first | decide | (unfold sp_row; (repeat' split) <;> first | rfl | (exfalso; omega))), ⟨hw1, hw2, hw3⟩⟩
  ·
    refine s_if_eq (tgt := 22) E dX9_row_4 (by decide) (fun _ => ?_) (fun hh => absurd (by decide) hh)
    refine s_bipush (v := (-2)) E dX9_row_22 (by decide) ?_
    exact r_int E dX9_row_24 ⟨(by have q0 := h_3; (try simp only [lg_cmp_lt, lg_cmp_le, lg_cmp_ge, lg_cmp_gt] at q0); (try simp only [Int32.lt_iff_toInt_lt, Int32.le_iff_toInt_le, Int64.lt_iff_toInt_lt, Int64.le_iff_toInt_le, ← Int32.toInt_inj, ← Int64.toInt_inj, Int32.toInt_toInt64] at q0); have e0 : (0 : Int32).toInt = 0 := (by decide); have e1 : (1 : Int32).toInt = 1 := (by decide); have e2 : (2 : Int32).toInt = 2 := (by decide); have e3 : (3 : Int32).toInt = 3 := (by decide); have e4 : (4 : Int32).toInt = 4 := (by decide); have e5 : (0 : Int64).toInt = 0 := (by decide); (try simp only [e0, e1, e2, e3, e4, e5] at q0); first | decide | (unfold sp_row; (repeat' split) <;> first | rfl | (exfalso; omega))), ⟨hw1, hw2, hw3⟩⟩
set_option maxRecDepth 20000 in
set_option maxHeartbeats 2000000 in
theorem K_X9_write_0_CRMS (l : Launch) (D : va_G) (aC : Nat → ClassId) (b : Nat) (w : XW) (x1 : Int32) (x2 : Int32) (x3 : Int64) (hw0 : FrC w) (hw1 : RfC w) (hw2 : FrM w) (hw3 : RfM w) : CnI l D aC b M_X9_write 1 20 0 0 [AR 0, AI x1, AI x2, AL x3] w (fun r u => r = sp_write x1 x2 x3 ∧ w = u) := by
  refine cn_I (own := RX9) (nm := "write") (L0 := [some (AR 0), some (AI x1), some (AI x2), some (AL x3), none]) (by decide +kernel) rfl rfl (Nat.le_of_ble_eq_true rfl) rfl ?_
  intro p e s m args below meth c E hin
  refine s_iload_n E dX9_write_0 rfl rfl ?_
  refine s_sI (As := [AI x1]) (S := []) E (K_X9_isSlot_CRMS l D aC b w x1 hw0 hw1 hw2 hw3) cs_X9_276 rfl rfl (Nat.le_of_ble_eq_true rfl) (Nat.le_of_ble_eq_true rfl) ⟨(Nat.le_of_ble_eq_true rfl), (Nat.le_of_ble_eq_true rfl)⟩ (Nat.le_of_ble_eq_true rfl) dX9_write_1 (fun r u hp => ?_)
  rcases hp with ⟨rfl, h_1, h_2, rfl⟩ | ⟨rfl, h_3, rfl⟩
  ·
    refine s_if_ne (tgt := 10) E dX9_write_4 (by decide) (fun _ => ?_) (fun hh => absurd hh (by decide))
    refine s_aload_n E dX9_write_10 rfl rfl ?_
    refine s_gR (r := 60) E fg_X9_46 rfl rfl (ltn hw0.1 (by decide)) (fc_r hw0 (by decide +kernel)) dX9_write_11 ?_
    refine s_iload_n E dX9_write_14 rfl rfl ?_
    rcases (show x1 = 0 ∨ x1 = 1 ∨ x1 = 2 ∨ x1 = 3 from (by have q0 := h_1; have q1 := h_2; (try simp only [lg_cmp_lt, lg_cmp_le, lg_cmp_ge, lg_cmp_gt] at q0 q1); (try simp only [Int32.lt_iff_toInt_lt, Int32.le_iff_toInt_le, Int64.lt_iff_toInt_lt, Int64.le_iff_toInt_le, ← Int32.toInt_inj, ← Int64.toInt_inj, Int32.toInt_toInt64] at q0 q1); have e0 : (0 : Int32).toInt = 0 := (by decide); have e1 : (3 : Int32).toInt = 3 := (by decide); have e2 : (0 : Int64).toInt = 0 := (by decide); (try simp only [e0, e1, e2] at q0 q1); have z0 : (0 : Int32).toInt = 0 := (by decide); have z1 : (1 : Int32).toInt = 1 := (by decide); have z2 : (2 : Int32).toInt = 2 := (by decide); have z3 : (3 : Int32).toInt = 3 := (by decide); (simp only [← Int32.toInt_inj, z0, z1, z2, z3]); omega)) with rfl | rfl | rfl | rfl
    ·
      refine s_aald105 (r := 61) E rfl (ltn hw0.1 (by decide)) (vp_c (by decide)) (fc_r hw0 (by decide +kernel)) dX9_write_15 ?_
      refine s_vI (As := []) (S := []) E (K_X7_isBare_61_CRMS l D aC b w  hw0 hw1 hw2 hw3) cv_X9_279 rfl rfl rfl (ltn hw0.1 (by decide)) (Nat.le_of_ble_eq_true rfl) (Nat.le_of_ble_eq_true rfl) ⟨(Nat.le_of_ble_eq_true rfl), (Nat.le_of_ble_eq_true rfl)⟩ (Nat.le_of_ble_eq_true rfl) dX9_write_16 (fun r u hp => ?_)
      obtain ⟨rfl, rfl⟩ := hp
      refine s_if_eq (tgt := 25) E dX9_write_19 (by decide) (fun hh => absurd hh (by decide)) (fun _ => ?_)
      refine s_bipush (v := (-6)) E dX9_write_22 (by decide) ?_
      exact r_int E dX9_write_24 ⟨(by have e0 : (0 : Int32).toInt = 0 := (by decide); have e1 : (1 : Int32).toInt = 1 := (by decide); have e2 : (2 : Int32).toInt = 2 := (by decide); have e3 : (3 : Int32).toInt = 3 := (by decide); have e4 : (4 : Int32).toInt = 4 := (by decide); have e5 : (0 : Int64).toInt = 0 := (by decide); first | decide | (unfold sp_write; (repeat' split) <;> first | rfl | (exfalso; omega))), rfl⟩
    ·
      refine s_aald105 (r := 63) E rfl (ltn hw0.1 (by decide)) (vp_c (by decide)) (fc_r hw0 (by decide +kernel)) dX9_write_15 ?_
      refine s_vI (As := []) (S := []) E (K_X7_isBare_63_CRMS l D aC b w  hw0 hw1 hw2 hw3) cv_X9_279 rfl rfl rfl (ltn hw0.1 (by decide)) (Nat.le_of_ble_eq_true rfl) (Nat.le_of_ble_eq_true rfl) ⟨(Nat.le_of_ble_eq_true rfl), (Nat.le_of_ble_eq_true rfl)⟩ (Nat.le_of_ble_eq_true rfl) dX9_write_16 (fun r u hp => ?_)
      obtain ⟨rfl, rfl⟩ := hp
      refine s_if_eq (tgt := 25) E dX9_write_19 (by decide) (fun hh => absurd hh (by decide)) (fun _ => ?_)
      refine s_bipush (v := (-6)) E dX9_write_22 (by decide) ?_
      exact r_int E dX9_write_24 ⟨(by have e0 : (0 : Int32).toInt = 0 := (by decide); have e1 : (1 : Int32).toInt = 1 := (by decide); have e2 : (2 : Int32).toInt = 2 := (by decide); have e3 : (3 : Int32).toInt = 3 := (by decide); have e4 : (4 : Int32).toInt = 4 := (by decide); have e5 : (0 : Int64).toInt = 0 := (by decide); first | decide | (unfold sp_write; (repeat' split) <;> first | rfl | (exfalso; omega))), rfl⟩
    ·
      refine s_aald105 (r := 65) E rfl (ltn hw0.1 (by decide)) (vp_c (by decide)) (fc_r hw0 (by decide +kernel)) dX9_write_15 ?_
      refine s_vI (As := []) (S := []) E (K_X7_isBare_65_CRMS l D aC b w  hw0 hw1 hw2 hw3) cv_X9_279 rfl rfl rfl (ltn hw0.1 (by decide)) (Nat.le_of_ble_eq_true rfl) (Nat.le_of_ble_eq_true rfl) ⟨(Nat.le_of_ble_eq_true rfl), (Nat.le_of_ble_eq_true rfl)⟩ (Nat.le_of_ble_eq_true rfl) dX9_write_16 (fun r u hp => ?_)
      obtain ⟨rfl, rfl⟩ := hp
      refine s_if_eq (tgt := 25) E dX9_write_19 (by decide) (fun hh => absurd hh (by decide)) (fun _ => ?_)
      refine s_bipush (v := (-6)) E dX9_write_22 (by decide) ?_
      exact r_int E dX9_write_24 ⟨(by have e0 : (0 : Int32).toInt = 0 := (by decide); have e1 : (1 : Int32).toInt = 1 := (by decide); have e2 : (2 : Int32).toInt = 2 := (by decide); have e3 : (3 : Int32).toInt = 3 := (by decide); have e4 : (4 : Int32).toInt = 4 := (by decide); have e5 : (0 : Int64).toInt = 0 := (by decide); first | decide | (unfold sp_write; (repeat' split) <;> first | rfl | (exfalso; omega))), rfl⟩
    ·
      refine s_aald105 (r := 67) E rfl (ltn hw0.1 (by decide)) (vp_c (by decide)) (fc_r hw0 (by decide +kernel)) dX9_write_15 ?_
      refine s_vI (As := []) (S := []) E (K_X7_isBare_67_CRMS l D aC b w  hw0 hw1 hw2 hw3) cv_X9_279 rfl rfl rfl (ltn hw0.1 (by decide)) (Nat.le_of_ble_eq_true rfl) (Nat.le_of_ble_eq_true rfl) ⟨(Nat.le_of_ble_eq_true rfl), (Nat.le_of_ble_eq_true rfl)⟩ (Nat.le_of_ble_eq_true rfl) dX9_write_16 (fun r u hp => ?_)
      obtain ⟨rfl, rfl⟩ := hp
      refine s_if_eq (tgt := 25) E dX9_write_19 (by decide) (fun hh => absurd hh (by decide)) (fun _ => ?_)
      refine s_bipush (v := (-6)) E dX9_write_22 (by decide) ?_
      exact r_int E dX9_write_24 ⟨(by have e0 : (0 : Int32).toInt = 0 := (by decide); have e1 : (1 : Int32).toInt = 1 := (by decide); have e2 : (2 : Int32).toInt = 2 := (by decide); have e3 : (3 : Int32).toInt = 3 := (by decide); have e4 : (4 : Int32).toInt = 4 := (by decide); have e5 : (0 : Int64).toInt = 0 := (by decide); first | decide | (unfold sp_write; (repeat' split) <;> first | rfl | (exfalso; omega))), rfl⟩
  ·
    refine s_if_ne (tgt := 10) E dX9_write_4 (by decide) (fun hh => absurd (by decide) hh) (fun _ => ?_)
    refine s_bipush (v := (-2)) E dX9_write_7 (by decide) ?_
    exact r_int E dX9_write_9 ⟨(by have q0 := h_3; (try simp only [lg_cmp_lt, lg_cmp_le, lg_cmp_ge, lg_cmp_gt] at q0); (try simp only [Int32.lt_iff_toInt_lt, Int32.le_iff_toInt_le, Int64.lt_iff_toInt_lt, Int64.le_iff_toInt_le, ← Int32.toInt_inj, ← Int64.toInt_inj, Int32.toInt_toInt64] at q0); have e0 : (0 : Int32).toInt = 0 := (by decide); have e1 : (1 : Int32).toInt = 1 := (by decide); have e2 : (2 : Int32).toInt = 2 := (by decide); have e3 : (3 : Int32).toInt = 3 := (by decide); have e4 : (4 : Int32).toInt = 4 := (by decide); have e5 : (0 : Int64).toInt = 0 := (by decide); (try simp only [e0, e1, e2, e3, e4, e5] at q0); first | decide | (unfold sp_write; (repeat' split) <;> first | rfl | (exfalso; omega))), rfl⟩
set_option maxRecDepth 20000 in
set_option maxHeartbeats 2000000 in
theorem K_X9_paste_0_CRMS (l : Launch) (D : va_G) (aC : Nat → ClassId) (b : Nat) (w : XW) (x1 : Int32) (x2 : Int32) (x3 : Int32) (x4 : Int32) (x5 : Int32) (hw0 : FrC w) (hw1 : RfC w) (hw2 : FrM w) (hw3 : RfM w) : CnI l D aC b M_X9_paste 1 20 0 0 [AR 0, AI x1, AI x2, AI x3, AI x4, AI x5] w (fun r u => r = sp_paste x1 x2 x3 x4 x5 ∧ w = u) := by
  refine cn_I (own := RX9) (nm := "paste") (L0 := [some (AR 0), some (AI x1), some (AI x2), some (AI x3), some (AI x4), some (AI x5), none, none]) (by decide +kernel) rfl rfl (Nat.le_of_ble_eq_true rfl) rfl ?_
  intro p e s m args below meth c E hin
  refine s_iload_n E dX9_paste_0 rfl rfl ?_
  refine s_sI (As := [AI x1]) (S := []) E (K_X9_isSlot_CRMS l D aC b w x1 hw0 hw1 hw2 hw3) cs_X9_276 rfl rfl (Nat.le_of_ble_eq_true rfl) (Nat.le_of_ble_eq_true rfl) ⟨(Nat.le_of_ble_eq_true rfl), (Nat.le_of_ble_eq_true rfl)⟩ (Nat.le_of_ble_eq_true rfl) dX9_paste_1 (fun r u hp => ?_)
  rcases hp with ⟨rfl, h_1, h_2, rfl⟩ | ⟨rfl, h_3, rfl⟩
  ·
    refine s_if_eq (tgt := 14) E dX9_paste_4 (by decide) (fun hh => absurd hh (by decide)) (fun _ => ?_)
    refine s_iload_n E dX9_paste_7 rfl rfl ?_
    refine s_sI (As := [AI x3]) (S := []) E (K_X9_isSlot_CRMS l D aC b w x3 hw0 hw1 hw2 hw3) cs_X9_276 rfl rfl (Nat.le_of_ble_eq_true rfl) (Nat.le_of_ble_eq_true rfl) ⟨(Nat.le_of_ble_eq_true rfl), (Nat.le_of_ble_eq_true rfl)⟩ (Nat.le_of_ble_eq_true rfl) dX9_paste_8 (fun r u hp => ?_)
    rcases hp with ⟨rfl, h_4, h_5, rfl⟩ | ⟨rfl, h_6, rfl⟩
    ·
      refine s_if_ne (tgt := 17) E dX9_paste_11 (by decide) (fun _ => ?_) (fun hh => absurd hh (by decide))
      refine s_aload_n E dX9_paste_17 rfl rfl ?_
      refine s_gR (r := 60) E fg_X9_46 rfl rfl (ltn hw0.1 (by decide)) (fc_r hw0 (by decide +kernel)) dX9_paste_18 ?_
      refine s_iload_n E dX9_paste_21 rfl rfl ?_
      rcases (show x1 = 0 ∨ x1 = 1 ∨ x1 = 2 ∨ x1 = 3 from (by have q0 := h_1; have q1 := h_2; have q2 := h_4; have q3 := h_5; (try simp only [lg_cmp_lt, lg_cmp_le, lg_cmp_ge, lg_cmp_gt] at q0 q1 q2 q3); (try simp only [Int32.lt_iff_toInt_lt, Int32.le_iff_toInt_le, Int64.lt_iff_toInt_lt, Int64.le_iff_toInt_le, ← Int32.toInt_inj, ← Int64.toInt_inj, Int32.toInt_toInt64] at q0 q1 q2 q3); have e0 : (0 : Int32).toInt = 0 := (by decide); have e1 : (3 : Int32).toInt = 3 := (by decide); have e2 : (0 : Int64).toInt = 0 := (by decide); (try simp only [e0, e1, e2] at q0 q1 q2 q3); have z0 : (0 : Int32).toInt = 0 := (by decide); have z1 : (1 : Int32).toInt = 1 := (by decide); have z2 : (2 : Int32).toInt = 2 := (by decide); have z3 : (3 : Int32).toInt = 3 := (by decide); (simp only [← Int32.toInt_inj, z0, z1, z2, z3]); omega)) with rfl | rfl | rfl | rfl
      ·
        refine s_aald105 (r := 61) E rfl (ltn hw0.1 (by decide)) (vp_c (by decide)) (fc_r hw0 (by decide +kernel)) dX9_paste_22 ?_
        refine s_astore (L2 := [some (AR 0), some (AI 0), some (AI x2), some (AI x3), some (AI x4), some (AI x5), some (AR 61), none]) E dX9_paste_23 (by decide) rfl ?_
        refine s_aload_n E dX9_paste_25 rfl rfl ?_
        refine s_gR (r := 60) E fg_X9_46 rfl rfl (ltn hw0.1 (by decide)) (fc_r hw0 (by decide +kernel)) dX9_paste_26 ?_
        refine s_iload_n E dX9_paste_29 rfl rfl ?_
        rcases (show x3 = 0 ∨ x3 = 1 ∨ x3 = 2 ∨ x3 = 3 from (by have q0 := h_4; have q1 := h_5; (try simp only [lg_cmp_lt, lg_cmp_le, lg_cmp_ge, lg_cmp_gt] at q0 q1); (try simp only [Int32.lt_iff_toInt_lt, Int32.le_iff_toInt_le, Int64.lt_iff_toInt_lt, Int64.le_iff_toInt_le, ← Int32.toInt_inj, ← Int64.toInt_inj, Int32.toInt_toInt64] at q0 q1); have e0 : (0 : Int32).toInt = 0 := (by decide); have e1 : (3 : Int32).toInt = 3 := (by decide); have e2 : (0 : Int64).toInt = 0 := (by decide); (try simp only [e0, e1, e2] at q0 q1); have z0 : (0 : Int32).toInt = 0 := (by decide); have z1 : (1 : Int32).toInt = 1 := (by decide); have z2 : (2 : Int32).toInt = 2 := (by decide); have z3 : (3 : Int32).toInt = 3 := (by decide); (simp only [← Int32.toInt_inj, z0, z1, z2, z3]); omega)) with rfl | rfl | rfl | rfl
        ·
          refine s_aald105 (r := 61) E rfl (ltn hw0.1 (by decide)) (vp_c (by decide)) (fc_r hw0 (by decide +kernel)) dX9_paste_30 ?_
          refine s_astore (L2 := [some (AR 0), some (AI 0), some (AI x2), some (AI 0), some (AI x4), some (AI x5), some (AR 61), some (AR 61)]) E dX9_paste_31 (by decide) rfl ?_
          refine s_aload E dX9_paste_33 rfl ?_
          refine s_vI (As := []) (S := []) E (K_X7_isBare_61_CRMS l D aC b w  hw0 hw1 hw2 hw3) cv_X9_279 rfl rfl rfl (ltn hw0.1 (by decide)) (Nat.le_of_ble_eq_true rfl) (Nat.le_of_ble_eq_true rfl) ⟨(Nat.le_of_ble_eq_true rfl), (Nat.le_of_ble_eq_true rfl)⟩ (Nat.le_of_ble_eq_true rfl) dX9_paste_35 (fun r u hp => ?_)
          obtain ⟨rfl, rfl⟩ := hp
          refine s_if_ne (tgt := 49) E dX9_paste_38 (by decide) (fun _ => ?_) (fun hh => absurd hh (by decide))
          refine s_bipush (v := (-6)) E dX9_paste_49 (by decide) ?_
          exact r_int E dX9_paste_51 ⟨(by have e0 : (0 : Int32).toInt = 0 := (by decide); have e1 : (1 : Int32).toInt = 1 := (by decide); have e2 : (2 : Int32).toInt = 2 := (by decide); have e3 : (3 : Int32).toInt = 3 := (by decide); have e4 : (4 : Int32).toInt = 4 := (by decide); have e5 : (0 : Int64).toInt = 0 := (by decide); first | decide | (unfold sp_paste; (repeat' split) <;> first | rfl | (exfalso; omega))), rfl⟩
        ·
          refine s_aald105 (r := 63) E rfl (ltn hw0.1 (by decide)) (vp_c (by decide)) (fc_r hw0 (by decide +kernel)) dX9_paste_30 ?_
          refine s_astore (L2 := [some (AR 0), some (AI 0), some (AI x2), some (AI 1), some (AI x4), some (AI x5), some (AR 61), some (AR 63)]) E dX9_paste_31 (by decide) rfl ?_
          refine s_aload E dX9_paste_33 rfl ?_
          refine s_vI (As := []) (S := []) E (K_X7_isBare_61_CRMS l D aC b w  hw0 hw1 hw2 hw3) cv_X9_279 rfl rfl rfl (ltn hw0.1 (by decide)) (Nat.le_of_ble_eq_true rfl) (Nat.le_of_ble_eq_true rfl) ⟨(Nat.le_of_ble_eq_true rfl), (Nat.le_of_ble_eq_true rfl)⟩ (Nat.le_of_ble_eq_true rfl) dX9_paste_35 (fun r u hp => ?_)
          obtain ⟨rfl, rfl⟩ := hp
          refine s_if_ne (tgt := 49) E dX9_paste_38 (by decide) (fun _ => ?_) (fun hh => absurd hh (by decide))
          refine s_bipush (v := (-6)) E dX9_paste_49 (by decide) ?_
          exact r_int E dX9_paste_51 ⟨(by have e0 : (0 : Int32).toInt = 0 := (by decide); have e1 : (1 : Int32).toInt = 1 := (by decide); have e2 : (2 : Int32).toInt = 2 := (by decide); have e3 : (3 : Int32).toInt = 3 := (by decide); have e4 : (4 : Int32).toInt = 4 := (by decide); have e5 : (0 : Int64).toInt = 0 := (by decide); first | decide | (unfold sp_paste; (repeat' split) <;> first | rfl | (exfalso; omega))), rfl⟩
        ·
          refine s_aald105 (r := 65) E rfl (ltn hw0.1 (by decide)) (vp_c (by decide)) (fc_r hw0 (by decide +kernel)) dX9_paste_30 ?_
          refine s_astore (L2 := [some (AR 0), some (AI 0), some (AI x2), some (AI 2), some (AI x4), some (AI x5), some (AR 61), some (AR 65)]) E dX9_paste_31 (by decide) rfl ?_
          refine s_aload E dX9_paste_33 rfl ?_
          refine s_vI (As := []) (S := []) E (K_X7_isBare_61_CRMS l D aC b w  hw0 hw1 hw2 hw3) cv_X9_279 rfl rfl rfl (ltn hw0.1 (by decide)) (Nat.le_of_ble_eq_true rfl) (Nat.le_of_ble_eq_true rfl) ⟨(Nat.le_of_ble_eq_true rfl), (Nat.le_of_ble_eq_true rfl)⟩ (Nat.le_of_ble_eq_true rfl) dX9_paste_35 (fun r u hp => ?_)
          obtain ⟨rfl, rfl⟩ := hp
          refine s_if_ne (tgt := 49) E dX9_paste_38 (by decide) (fun _ => ?_) (fun hh => absurd hh (by decide))
          refine s_bipush (v := (-6)) E dX9_paste_49 (by decide) ?_
          exact r_int E dX9_paste_51 ⟨(by have e0 : (0 : Int32).toInt = 0 := (by decide); have e1 : (1 : Int32).toInt = 1 := (by decide); have e2 : (2 : Int32).toInt = 2 := (by decide); have e3 : (3 : Int32).toInt = 3 := (by decide); have e4 : (4 : Int32).toInt = 4 := (by decide); have e5 : (0 : Int64).toInt = 0 := (by decide); first | decide | (unfold sp_paste; (repeat' split) <;> first | rfl | (exfalso; omega))), rfl⟩
        ·
          refine s_aald105 (r := 67) E rfl (ltn hw0.1 (by decide)) (vp_c (by decide)) (fc_r hw0 (by decide +kernel)) dX9_paste_30 ?_
          refine s_astore (L2 := [some (AR 0), some (AI 0), some (AI x2), some (AI 3), some (AI x4), some (AI x5), some (AR 61), some (AR 67)]) E dX9_paste_31 (by decide) rfl ?_
          refine s_aload E dX9_paste_33 rfl ?_
          refine s_vI (As := []) (S := []) E (K_X7_isBare_61_CRMS l D aC b w  hw0 hw1 hw2 hw3) cv_X9_279 rfl rfl rfl (ltn hw0.1 (by decide)) (Nat.le_of_ble_eq_true rfl) (Nat.le_of_ble_eq_true rfl) ⟨(Nat.le_of_ble_eq_true rfl), (Nat.le_of_ble_eq_true rfl)⟩ (Nat.le_of_ble_eq_true rfl) dX9_paste_35 (fun r u hp => ?_)
          obtain ⟨rfl, rfl⟩ := hp
          refine s_if_ne (tgt := 49) E dX9_paste_38 (by decide) (fun _ => ?_) (fun hh => absurd hh (by decide))
          refine s_bipush (v := (-6)) E dX9_paste_49 (by decide) ?_
          exact r_int E dX9_paste_51 ⟨(by have e0 : (0 : Int32).toInt = 0 := (by decide); have e1 : (1 : Int32).toInt = 1 := (by decide); have e2 : (2 : Int32).toInt = 2 := (by decide); have e3 : (3 : Int32).toInt = 3 := (by decide); have e4 : (4 : Int32).toInt = 4 := (by decide); have e5 : (0 : Int64).toInt = 0 := (by decide); first | decide | (unfold sp_paste; (repeat' split) <;> first | rfl | (exfalso; omega))), rfl⟩
      ·
        refine s_aald105 (r := 63) E rfl (ltn hw0.1 (by decide)) (vp_c (by decide)) (fc_r hw0 (by decide +kernel)) dX9_paste_22 ?_
        refine s_astore (L2 := [some (AR 0), some (AI 1), some (AI x2), some (AI x3), some (AI x4), some (AI x5), some (AR 63), none]) E dX9_paste_23 (by decide) rfl ?_
        refine s_aload_n E dX9_paste_25 rfl rfl ?_
        refine s_gR (r := 60) E fg_X9_46 rfl rfl (ltn hw0.1 (by decide)) (fc_r hw0 (by decide +kernel)) dX9_paste_26 ?_
        refine s_iload_n E dX9_paste_29 rfl rfl ?_
        rcases (show x3 = 0 ∨ x3 = 1 ∨ x3 = 2 ∨ x3 = 3 from (by have q0 := h_4; have q1 := h_5; (try simp only [lg_cmp_lt, lg_cmp_le, lg_cmp_ge, lg_cmp_gt] at q0 q1); (try simp only [Int32.lt_iff_toInt_lt, Int32.le_iff_toInt_le, Int64.lt_iff_toInt_lt, Int64.le_iff_toInt_le, ← Int32.toInt_inj, ← Int64.toInt_inj, Int32.toInt_toInt64] at q0 q1); have e0 : (0 : Int32).toInt = 0 := (by decide); have e1 : (3 : Int32).toInt = 3 := (by decide); have e2 : (0 : Int64).toInt = 0 := (by decide); (try simp only [e0, e1, e2] at q0 q1); have z0 : (0 : Int32).toInt = 0 := (by decide); have z1 : (1 : Int32).toInt = 1 := (by decide); have z2 : (2 : Int32).toInt = 2 := (by decide); have z3 : (3 : Int32).toInt = 3 := (by decide); (simp only [← Int32.toInt_inj, z0, z1, z2, z3]); omega)) with rfl | rfl | rfl | rfl
        ·
          refine s_aald105 (r := 61) E rfl (ltn hw0.1 (by decide)) (vp_c (by decide)) (fc_r hw0 (by decide +kernel)) dX9_paste_30 ?_
          refine s_astore (L2 := [some (AR 0), some (AI 1), some (AI x2), some (AI 0), some (AI x4), some (AI x5), some (AR 63), some (AR 61)]) E dX9_paste_31 (by decide) rfl ?_
          refine s_aload E dX9_paste_33 rfl ?_
          refine s_vI (As := []) (S := []) E (K_X7_isBare_63_CRMS l D aC b w  hw0 hw1 hw2 hw3) cv_X9_279 rfl rfl rfl (ltn hw0.1 (by decide)) (Nat.le_of_ble_eq_true rfl) (Nat.le_of_ble_eq_true rfl) ⟨(Nat.le_of_ble_eq_true rfl), (Nat.le_of_ble_eq_true rfl)⟩ (Nat.le_of_ble_eq_true rfl) dX9_paste_35 (fun r u hp => ?_)
          obtain ⟨rfl, rfl⟩ := hp
          refine s_if_ne (tgt := 49) E dX9_paste_38 (by decide) (fun _ => ?_) (fun hh => absurd hh (by decide))
          refine s_bipush (v := (-6)) E dX9_paste_49 (by decide) ?_
          exact r_int E dX9_paste_51 ⟨(by have e0 : (0 : Int32).toInt = 0 := (by decide); have e1 : (1 : Int32).toInt = 1 := (by decide); have e2 : (2 : Int32).toInt = 2 := (by decide); have e3 : (3 : Int32).toInt = 3 := (by decide); have e4 : (4 : Int32).toInt = 4 := (by decide); have e5 : (0 : Int64).toInt = 0 := (by decide); first | decide | (unfold sp_paste; (repeat' split) <;> first | rfl | (exfalso; omega))), rfl⟩
        ·
          refine s_aald105 (r := 63) E rfl (ltn hw0.1 (by decide)) (vp_c (by decide)) (fc_r hw0 (by decide +kernel)) dX9_paste_30 ?_
          refine s_astore (L2 := [some (AR 0), some (AI 1), some (AI x2), some (AI 1), some (AI x4), some (AI x5), some (AR 63), some (AR 63)]) E dX9_paste_31 (by decide) rfl ?_
          refine s_aload E dX9_paste_33 rfl ?_
          refine s_vI (As := []) (S := []) E (K_X7_isBare_63_CRMS l D aC b w  hw0 hw1 hw2 hw3) cv_X9_279 rfl rfl rfl (ltn hw0.1 (by decide)) (Nat.le_of_ble_eq_true rfl) (Nat.le_of_ble_eq_true rfl) ⟨(Nat.le_of_ble_eq_true rfl), (Nat.le_of_ble_eq_true rfl)⟩ (Nat.le_of_ble_eq_true rfl) dX9_paste_35 (fun r u hp => ?_)
          obtain ⟨rfl, rfl⟩ := hp
          refine s_if_ne (tgt := 49) E dX9_paste_38 (by decide) (fun _ => ?_) (fun hh => absurd hh (by decide))
          refine s_bipush (v := (-6)) E dX9_paste_49 (by decide) ?_
          exact r_int E dX9_paste_51 ⟨(by have e0 : (0 : Int32).toInt = 0 := (by decide); have e1 : (1 : Int32).toInt = 1 := (by decide); have e2 : (2 : Int32).toInt = 2 := (by decide); have e3 : (3 : Int32).toInt = 3 := (by decide); have e4 : (4 : Int32).toInt = 4 := (by decide); have e5 : (0 : Int64).toInt = 0 := (by decide); first | decide | (unfold sp_paste; (repeat' split) <;> first | rfl | (exfalso; omega))), rfl⟩
        ·
          refine s_aald105 (r := 65) E rfl (ltn hw0.1 (by decide)) (vp_c (by decide)) (fc_r hw0 (by decide +kernel)) dX9_paste_30 ?_
          refine s_astore (L2 := [some (AR 0), some (AI 1), some (AI x2), some (AI 2), some (AI x4), some (AI x5), some (AR 63), some (AR 65)]) E dX9_paste_31 (by decide) rfl ?_
          refine s_aload E dX9_paste_33 rfl ?_
          refine s_vI (As := []) (S := []) E (K_X7_isBare_63_CRMS l D aC b w  hw0 hw1 hw2 hw3) cv_X9_279 rfl rfl rfl (ltn hw0.1 (by decide)) (Nat.le_of_ble_eq_true rfl) (Nat.le_of_ble_eq_true rfl) ⟨(Nat.le_of_ble_eq_true rfl), (Nat.le_of_ble_eq_true rfl)⟩ (Nat.le_of_ble_eq_true rfl) dX9_paste_35 (fun r u hp => ?_)
          obtain ⟨rfl, rfl⟩ := hp
          refine s_if_ne (tgt := 49) E dX9_paste_38 (by decide) (fun _ => ?_) (fun hh => absurd hh (by decide))
          refine s_bipush (v := (-6)) E dX9_paste_49 (by decide) ?_
          exact r_int E dX9_paste_51 ⟨(by have e0 : (0 : Int32).toInt = 0 := (by decide); have e1 : (1 : Int32).toInt = 1 := (by decide); have e2 : (2 : Int32).toInt = 2 := (by decide); have e3 : (3 : Int32).toInt = 3 := (by decide); have e4 : (4 : Int32).toInt = 4 := (by decide); have e5 : (0 : Int64).toInt = 0 := (by decide); first | decide | (unfold sp_paste; (repeat' split) <;> first | rfl | (exfalso; omega))), rfl⟩
        ·
          refine s_aald105 (r := 67) E rfl (ltn hw0.1 (by decide)) (vp_c (by decide)) (fc_r hw0 (by decide +kernel)) dX9_paste_30 ?_
          refine s_astore (L2 := [some (AR 0), some (AI 1), some (AI x2), some (AI 3), some (AI x4), some (AI x5), some (AR 63), some (AR 67)]) E dX9_paste_31 (by decide) rfl ?_
          refine s_aload E dX9_paste_33 rfl ?_
          refine s_vI (As := []) (S := []) E (K_X7_isBare_63_CRMS l D aC b w  hw0 hw1 hw2 hw3) cv_X9_279 rfl rfl rfl (ltn hw0.1 (by decide)) (Nat.le_of_ble_eq_true rfl) (Nat.le_of_ble_eq_true rfl) ⟨(Nat.le_of_ble_eq_true rfl), (Nat.le_of_ble_eq_true rfl)⟩ (Nat.le_of_ble_eq_true rfl) dX9_paste_35 (fun r u hp => ?_)
          obtain ⟨rfl, rfl⟩ := hp
          refine s_if_ne (tgt := 49) E dX9_paste_38 (by decide) (fun _ => ?_) (fun hh => absurd hh (by decide))
          refine s_bipush (v := (-6)) E dX9_paste_49 (by decide) ?_
          exact r_int E dX9_paste_51 ⟨(by have e0 : (0 : Int32).toInt = 0 := (by decide); have e1 : (1 : Int32).toInt = 1 := (by decide); have e2 : (2 : Int32).toInt = 2 := (by decide); have e3 : (3 : Int32).toInt = 3 := (by decide); have e4 : (4 : Int32).toInt = 4 := (by decide); have e5 : (0 : Int64).toInt = 0 := (by decide); first | decide | (unfold sp_paste; (repeat' split) <;> first | rfl | (exfalso; omega))), rfl⟩
      ·
        refine s_aald105 (r := 65) E rfl (ltn hw0.1 (by decide)) (vp_c (by decide)) (fc_r hw0 (by decide +kernel)) dX9_paste_22 ?_
        refine s_astore (L2 := [some (AR 0), some (AI 2), some (AI x2), some (AI x3), some (AI x4), some (AI x5), some (AR 65), none]) E dX9_paste_23 (by decide) rfl ?_
        refine s_aload_n E dX9_paste_25 rfl rfl ?_
        refine s_gR (r := 60) E fg_X9_46 rfl rfl (ltn hw0.1 (by decide)) (fc_r hw0 (by decide +kernel)) dX9_paste_26 ?_
        refine s_iload_n E dX9_paste_29 rfl rfl ?_
        rcases (show x3 = 0 ∨ x3 = 1 ∨ x3 = 2 ∨ x3 = 3 from (by have q0 := h_4; have q1 := h_5; (try simp only [lg_cmp_lt, lg_cmp_le, lg_cmp_ge, lg_cmp_gt] at q0 q1); (try simp only [Int32.lt_iff_toInt_lt, Int32.le_iff_toInt_le, Int64.lt_iff_toInt_lt, Int64.le_iff_toInt_le, ← Int32.toInt_inj, ← Int64.toInt_inj, Int32.toInt_toInt64] at q0 q1); have e0 : (0 : Int32).toInt = 0 := (by decide); have e1 : (3 : Int32).toInt = 3 := (by decide); have e2 : (0 : Int64).toInt = 0 := (by decide); (try simp only [e0, e1, e2] at q0 q1); have z0 : (0 : Int32).toInt = 0 := (by decide); have z1 : (1 : Int32).toInt = 1 := (by decide); have z2 : (2 : Int32).toInt = 2 := (by decide); have z3 : (3 : Int32).toInt = 3 := (by decide); (simp only [← Int32.toInt_inj, z0, z1, z2, z3]); omega)) with rfl | rfl | rfl | rfl
        ·
          refine s_aald105 (r := 61) E rfl (ltn hw0.1 (by decide)) (vp_c (by decide)) (fc_r hw0 (by decide +kernel)) dX9_paste_30 ?_
          refine s_astore (L2 := [some (AR 0), some (AI 2), some (AI x2), some (AI 0), some (AI x4), some (AI x5), some (AR 65), some (AR 61)]) E dX9_paste_31 (by decide) rfl ?_
          refine s_aload E dX9_paste_33 rfl ?_
          refine s_vI (As := []) (S := []) E (K_X7_isBare_65_CRMS l D aC b w  hw0 hw1 hw2 hw3) cv_X9_279 rfl rfl rfl (ltn hw0.1 (by decide)) (Nat.le_of_ble_eq_true rfl) (Nat.le_of_ble_eq_true rfl) ⟨(Nat.le_of_ble_eq_true rfl), (Nat.le_of_ble_eq_true rfl)⟩ (Nat.le_of_ble_eq_true rfl) dX9_paste_35 (fun r u hp => ?_)
          obtain ⟨rfl, rfl⟩ := hp
          refine s_if_ne (tgt := 49) E dX9_paste_38 (by decide) (fun _ => ?_) (fun hh => absurd hh (by decide))
          refine s_bipush (v := (-6)) E dX9_paste_49 (by decide) ?_
          exact r_int E dX9_paste_51 ⟨(by have e0 : (0 : Int32).toInt = 0 := (by decide); have e1 : (1 : Int32).toInt = 1 := (by decide); have e2 : (2 : Int32).toInt = 2 := (by decide); have e3 : (3 : Int32).toInt = 3 := (by decide); have e4 : (4 : Int32).toInt = 4 := (by decide); have e5 : (0 : Int64).toInt = 0 := (by decide); first | decide | (unfold sp_paste; (repeat' split) <;> first | rfl | (exfalso; omega))), rfl⟩
        ·
          refine s_aald105 (r := 63) E rfl (ltn hw0.1 (by decide)) (vp_c (by decide)) (fc_r hw0 (by decide +kernel)) dX9_paste_30 ?_
          refine s_astore (L2 := [some (AR 0), some (AI 2), some (AI x2), some (AI 1), some (AI x4), some (AI x5), some (AR 65), some (AR 63)]) E dX9_paste_31 (by decide) rfl ?_
          refine s_aload E dX9_paste_33 rfl ?_
          refine s_vI (As := []) (S := []) E (K_X7_isBare_65_CRMS l D aC b w  hw0 hw1 hw2 hw3) cv_X9_279 rfl rfl rfl (ltn hw0.1 (by decide)) (Nat.le_of_ble_eq_true rfl) (Nat.le_of_ble_eq_true rfl) ⟨(Nat.le_of_ble_eq_true rfl), (Nat.le_of_ble_eq_true rfl)⟩ (Nat.le_of_ble_eq_true rfl) dX9_paste_35 (fun r u hp => ?_)
          obtain ⟨rfl, rfl⟩ := hp
          refine s_if_ne (tgt := 49) E dX9_paste_38 (by decide) (fun _ => ?_) (fun hh => absurd hh (by decide))
          refine s_bipush (v := (-6)) E dX9_paste_49 (by decide) ?_
          exact r_int E dX9_paste_51 ⟨(by have e0 : (0 : Int32).toInt = 0 := (by decide); have e1 : (1 : Int32).toInt = 1 := (by decide); have e2 : (2 : Int32).toInt = 2 := (by decide); have e3 : (3 : Int32).toInt = 3 := (by decide); have e4 : (4 : Int32).toInt = 4 := (by decide); have e5 : (0 : Int64).toInt = 0 := (by decide); first | decide | (unfold sp_paste; (repeat' split) <;> first | rfl | (exfalso; omega))), rfl⟩
        ·
          refine s_aald105 (r := 65) E rfl (ltn hw0.1 (by decide)) (vp_c (by decide)) (fc_r hw0 (by decide +kernel)) dX9_paste_30 ?_
          refine s_astore (L2 := [some (AR 0), some (AI 2), some (AI x2), some (AI 2), some (AI x4), some (AI x5), some (AR 65), some (AR 65)]) E dX9_paste_31 (by decide) rfl ?_
          refine s_aload E dX9_paste_33 rfl ?_
          refine s_vI (As := []) (S := []) E (K_X7_isBare_65_CRMS l D aC b w  hw0 hw1 hw2 hw3) cv_X9_279 rfl rfl rfl (ltn hw0.1 (by decide)) (Nat.le_of_ble_eq_true rfl) (Nat.le_of_ble_eq_true rfl) ⟨(Nat.le_of_ble_eq_true rfl), (Nat.le_of_ble_eq_true rfl)⟩ (Nat.le_of_ble_eq_true rfl) dX9_paste_35 (fun r u hp => ?_)
          obtain ⟨rfl, rfl⟩ := hp
          refine s_if_ne (tgt := 49) E dX9_paste_38 (by decide) (fun _ => ?_) (fun hh => absurd hh (by decide))
          refine s_bipush (v := (-6)) E dX9_paste_49 (by decide) ?_
          exact r_int E dX9_paste_51 ⟨(by have e0 : (0 : Int32).toInt = 0 := (by decide); have e1 : (1 : Int32).toInt = 1 := (by decide); have e2 : (2 : Int32).toInt = 2 := (by decide); have e3 : (3 : Int32).toInt = 3 := (by decide); have e4 : (4 : Int32).toInt = 4 := (by decide); have e5 : (0 : Int64).toInt = 0 := (by decide); first | decide | (unfold sp_paste; (repeat' split) <;> first | rfl | (exfalso; omega))), rfl⟩
        ·
          refine s_aald105 (r := 67) E rfl (ltn hw0.1 (by decide)) (vp_c (by decide)) (fc_r hw0 (by decide +kernel)) dX9_paste_30 ?_
          refine s_astore (L2 := [some (AR 0), some (AI 2), some (AI x2), some (AI 3), some (AI x4), some (AI x5), some (AR 65), some (AR 67)]) E dX9_paste_31 (by decide) rfl ?_
          refine s_aload E dX9_paste_33 rfl ?_
          refine s_vI (As := []) (S := []) E (K_X7_isBare_65_CRMS l D aC b w  hw0 hw1 hw2 hw3) cv_X9_279 rfl rfl rfl (ltn hw0.1 (by decide)) (Nat.le_of_ble_eq_true rfl) (Nat.le_of_ble_eq_true rfl) ⟨(Nat.le_of_ble_eq_true rfl), (Nat.le_of_ble_eq_true rfl)⟩ (Nat.le_of_ble_eq_true rfl) dX9_paste_35 (fun r u hp => ?_)
          obtain ⟨rfl, rfl⟩ := hp
          refine s_if_ne (tgt := 49) E dX9_paste_38 (by decide) (fun _ => ?_) (fun hh => absurd hh (by decide))
          refine s_bipush (v := (-6)) E dX9_paste_49 (by decide) ?_
          exact r_int E dX9_paste_51 ⟨(by have e0 : (0 : Int32).toInt = 0 := (by decide); have e1 : (1 : Int32).toInt = 1 := (by decide); have e2 : (2 : Int32).toInt = 2 := (by decide); have e3 : (3 : Int32).toInt = 3 := (by decide); have e4 : (4 : Int32).toInt = 4 := (by decide); have e5 : (0 : Int64).toInt = 0 := (by decide); first | decide | (unfold sp_paste; (repeat' split) <;> first | rfl | (exfalso; omega))), rfl⟩
      ·
        refine s_aald105 (r := 67) E rfl (ltn hw0.1 (by decide)) (vp_c (by decide)) (fc_r hw0 (by decide +kernel)) dX9_paste_22 ?_
        refine s_astore (L2 := [some (AR 0), some (AI 3), some (AI x2), some (AI x3), some (AI x4), some (AI x5), some (AR 67), none]) E dX9_paste_23 (by decide) rfl ?_
        refine s_aload_n E dX9_paste_25 rfl rfl ?_
        refine s_gR (r := 60) E fg_X9_46 rfl rfl (ltn hw0.1 (by decide)) (fc_r hw0 (by decide +kernel)) dX9_paste_26 ?_
        refine s_iload_n E dX9_paste_29 rfl rfl ?_
        rcases (show x3 = 0 ∨ x3 = 1 ∨ x3 = 2 ∨ x3 = 3 from (by have q0 := h_4; have q1 := h_5; (try simp only [lg_cmp_lt, lg_cmp_le, lg_cmp_ge, lg_cmp_gt] at q0 q1); (try simp only [Int32.lt_iff_toInt_lt, Int32.le_iff_toInt_le, Int64.lt_iff_toInt_lt, Int64.le_iff_toInt_le, ← Int32.toInt_inj, ← Int64.toInt_inj, Int32.toInt_toInt64] at q0 q1); have e0 : (0 : Int32).toInt = 0 := (by decide); have e1 : (3 : Int32).toInt = 3 := (by decide); have e2 : (0 : Int64).toInt = 0 := (by decide); (try simp only [e0, e1, e2] at q0 q1); have z0 : (0 : Int32).toInt = 0 := (by decide); have z1 : (1 : Int32).toInt = 1 := (by decide); have z2 : (2 : Int32).toInt = 2 := (by decide); have z3 : (3 : Int32).toInt = 3 := (by decide); (simp only [← Int32.toInt_inj, z0, z1, z2, z3]); omega)) with rfl | rfl | rfl | rfl
        ·
          refine s_aald105 (r := 61) E rfl (ltn hw0.1 (by decide)) (vp_c (by decide)) (fc_r hw0 (by decide +kernel)) dX9_paste_30 ?_
          refine s_astore (L2 := [some (AR 0), some (AI 3), some (AI x2), some (AI 0), some (AI x4), some (AI x5), some (AR 67), some (AR 61)]) E dX9_paste_31 (by decide) rfl ?_
          refine s_aload E dX9_paste_33 rfl ?_
          refine s_vI (As := []) (S := []) E (K_X7_isBare_67_CRMS l D aC b w  hw0 hw1 hw2 hw3) cv_X9_279 rfl rfl rfl (ltn hw0.1 (by decide)) (Nat.le_of_ble_eq_true rfl) (Nat.le_of_ble_eq_true rfl) ⟨(Nat.le_of_ble_eq_true rfl), (Nat.le_of_ble_eq_true rfl)⟩ (Nat.le_of_ble_eq_true rfl) dX9_paste_35 (fun r u hp => ?_)
          obtain ⟨rfl, rfl⟩ := hp
          refine s_if_ne (tgt := 49) E dX9_paste_38 (by decide) (fun _ => ?_) (fun hh => absurd hh (by decide))
          refine s_bipush (v := (-6)) E dX9_paste_49 (by decide) ?_
          exact r_int E dX9_paste_51 ⟨(by have e0 : (0 : Int32).toInt = 0 := (by decide); have e1 : (1 : Int32).toInt = 1 := (by decide); have e2 : (2 : Int32).toInt = 2 := (by decide); have e3 : (3 : Int32).toInt = 3 := (by decide); have e4 : (4 : Int32).toInt = 4 := (by decide); have e5 : (0 : Int64).toInt = 0 := (by decide); first | decide | (unfold sp_paste; (repeat' split) <;> first | rfl | (exfalso; omega))), rfl⟩
        ·
          refine s_aald105 (r := 63) E rfl (ltn hw0.1 (by decide)) (vp_c (by decide)) (fc_r hw0 (by decide +kernel)) dX9_paste_30 ?_
          refine s_astore (L2 := [some (AR 0), some (AI 3), some (AI x2), some (AI 1), some (AI x4), some (AI x5), some (AR 67), some (AR 63)]) E dX9_paste_31 (by decide) rfl ?_
          refine s_aload E dX9_paste_33 rfl ?_
          refine s_vI (As := []) (S := []) E (K_X7_isBare_67_CRMS l D aC b w  hw0 hw1 hw2 hw3) cv_X9_279 rfl rfl rfl (ltn hw0.1 (by decide)) (Nat.le_of_ble_eq_true rfl) (Nat.le_of_ble_eq_true rfl) ⟨(Nat.le_of_ble_eq_true rfl), (Nat.le_of_ble_eq_true rfl)⟩ (Nat.le_of_ble_eq_true rfl) dX9_paste_35 (fun r u hp => ?_)
          obtain ⟨rfl, rfl⟩ := hp
          refine s_if_ne (tgt := 49) E dX9_paste_38 (by decide) (fun _ => ?_) (fun hh => absurd hh (by decide))
          refine s_bipush (v := (-6)) E dX9_paste_49 (by decide) ?_
          exact r_int E dX9_paste_51 ⟨(by have e0 : (0 : Int32).toInt = 0 := (by decide); have e1 : (1 : Int32).toInt = 1 := (by decide); have e2 : (2 : Int32).toInt = 2 := (by decide); have e3 : (3 : Int32).toInt = 3 := (by decide); have e4 : (4 : Int32).toInt = 4 := (by decide); have e5 : (0 : Int64).toInt = 0 := (by decide); first | decide | (unfold sp_paste; (repeat' split) <;> first | rfl | (exfalso; omega))), rfl⟩
        ·
          refine s_aald105 (r := 65) E rfl (ltn hw0.1 (by decide)) (vp_c (by decide)) (fc_r hw0 (by decide +kernel)) dX9_paste_30 ?_
          refine s_astore (L2 := [some (AR 0), some (AI 3), some (AI x2), some (AI 2), some (AI x4), some (AI x5), some (AR 67), some (AR 65)]) E dX9_paste_31 (by decide) rfl ?_
          refine s_aload E dX9_paste_33 rfl ?_
          refine s_vI (As := []) (S := []) E (K_X7_isBare_67_CRMS l D aC b w  hw0 hw1 hw2 hw3) cv_X9_279 rfl rfl rfl (ltn hw0.1 (by decide)) (Nat.le_of_ble_eq_true rfl) (Nat.le_of_ble_eq_true rfl) ⟨(Nat.le_of_ble_eq_true rfl), (Nat.le_of_ble_eq_true rfl)⟩ (Nat.le_of_ble_eq_true rfl) dX9_paste_35 (fun r u hp => ?_)
          obtain ⟨rfl, rfl⟩ := hp
          refine s_if_ne (tgt := 49) E dX9_paste_38 (by decide) (fun _ => ?_) (fun hh => absurd hh (by decide))
          refine s_bipush (v := (-6)) E dX9_paste_49 (by decide) ?_
          exact r_int E dX9_paste_51 ⟨(by have e0 : (0 : Int32).toInt = 0 := (by decide); have e1 : (1 : Int32).toInt = 1 := (by decide); have e2 : (2 : Int32).toInt = 2 := (by decide); have e3 : (3 : Int32).toInt = 3 := (by decide); have e4 : (4 : Int32).toInt = 4 := (by decide); have e5 : (0 : Int64).toInt = 0 := (by decide); first | decide | (unfold sp_paste; (repeat' split) <;> first | rfl | (exfalso; omega))), rfl⟩
        ·
          refine s_aald105 (r := 67) E rfl (ltn hw0.1 (by decide)) (vp_c (by decide)) (fc_r hw0 (by decide +kernel)) dX9_paste_30 ?_
          refine s_astore (L2 := [some (AR 0), some (AI 3), some (AI x2), some (AI 3), some (AI x4), some (AI x5), some (AR 67), some (AR 67)]) E dX9_paste_31 (by decide) rfl ?_
          refine s_aload E dX9_paste_33 rfl ?_
          refine s_vI (As := []) (S := []) E (K_X7_isBare_67_CRMS l D aC b w  hw0 hw1 hw2 hw3) cv_X9_279 rfl rfl rfl (ltn hw0.1 (by decide)) (Nat.le_of_ble_eq_true rfl) (Nat.le_of_ble_eq_true rfl) ⟨(Nat.le_of_ble_eq_true rfl), (Nat.le_of_ble_eq_true rfl)⟩ (Nat.le_of_ble_eq_true rfl) dX9_paste_35 (fun r u hp => ?_)
          obtain ⟨rfl, rfl⟩ := hp
          refine s_if_ne (tgt := 49) E dX9_paste_38 (by decide) (fun _ => ?_) (fun hh => absurd hh (by decide))
          refine s_bipush (v := (-6)) E dX9_paste_49 (by decide) ?_
          exact r_int E dX9_paste_51 ⟨(by have e0 : (0 : Int32).toInt = 0 := (by decide); have e1 : (1 : Int32).toInt = 1 := (by decide); have e2 : (2 : Int32).toInt = 2 := (by decide); have e3 : (3 : Int32).toInt = 3 := (by decide); have e4 : (4 : Int32).toInt = 4 := (by decide); have e5 : (0 : Int64).toInt = 0 := (by decide); first | decide | (unfold sp_paste; (repeat' split) <;> first | rfl | (exfalso; omega))), rfl⟩
    ·
      refine s_if_ne (tgt := 17) E dX9_paste_11 (by decide) (fun hh => absurd (by decide) hh) (fun _ => ?_)
      refine s_bipush (v := (-2)) E dX9_paste_14 (by decide) ?_
      exact r_int E dX9_paste_16 ⟨(by have q0 := h_1; have q1 := h_2; have q2 := h_6; (try simp only [lg_cmp_lt, lg_cmp_le, lg_cmp_ge, lg_cmp_gt] at q0 q1 q2); (try simp only [Int32.lt_iff_toInt_lt, Int32.le_iff_toInt_le, Int64.lt_iff_toInt_lt, Int64.le_iff_toInt_le, ← Int32.toInt_inj, ← Int64.toInt_inj, Int32.toInt_toInt64] at q0 q1 q2); have e0 : (0 : Int32).toInt = 0 := (by decide); have e1 : (1 : Int32).toInt = 1 := (by decide); have e2 : (2 : Int32).toInt = 2 := (by decide); have e3 : (3 : Int32).toInt = 3 := (by decide); have e4 : (4 : Int32).toInt = 4 := (by decide); have e5 : (0 : Int64).toInt = 0 := (by decide); (try simp only [e0, e1, e2, e3, e4, e5] at q0 q1 q2); first | decide | (unfold sp_paste; (repeat' split) <;> first | rfl | (exfalso; omega))), rfl⟩
  ·
    refine s_if_eq (tgt := 14) E dX9_paste_4 (by decide) (fun _ => ?_) (fun hh => absurd (by decide) hh)
    refine s_bipush (v := (-2)) E dX9_paste_14 (by decide) ?_
    exact r_int E dX9_paste_16 ⟨(by have q0 := h_3; (try simp only [lg_cmp_lt, lg_cmp_le, lg_cmp_ge, lg_cmp_gt] at q0); (try simp only [Int32.lt_iff_toInt_lt, Int32.le_iff_toInt_le, Int64.lt_iff_toInt_lt, Int64.le_iff_toInt_le, ← Int32.toInt_inj, ← Int64.toInt_inj, Int32.toInt_toInt64] at q0); have e0 : (0 : Int32).toInt = 0 := (by decide); have e1 : (1 : Int32).toInt = 1 := (by decide); have e2 : (2 : Int32).toInt = 2 := (by decide); have e3 : (3 : Int32).toInt = 3 := (by decide); have e4 : (4 : Int32).toInt = 4 := (by decide); have e5 : (0 : Int64).toInt = 0 := (by decide); (try simp only [e0, e1, e2, e3, e4, e5] at q0); first | decide | (unfold sp_paste; (repeat' split) <;> first | rfl | (exfalso; omega))), rfl⟩
set_option maxRecDepth 20000 in
set_option maxHeartbeats 2000000 in
theorem K_X10_feed_95_MS (l : Launch) (D : va_G) (aC : Nat → ClassId) (b : Nat) (w : XW) (x1 : Int32) (x2 : Int32) (x3 : Int32) (x4 : Int32) (x5 : Int32) (hw0 : FrM w) (hw1 : RfM w) : CnI l D aC b M_X10_feed 0 0 0 0 [AR 95, AI x1, AI x2, AI x3, AI x4, AI x5] w (fun r u => r = 20 ∧ RfM u) := by
  refine cn_I (own := RX10) (nm := "feed") (L0 := [some (AR 95), some (AI x1), some (AI x2), some (AI x3), some (AI x4), some (AI x5), none]) (by decide +kernel) rfl rfl (Nat.le_of_ble_eq_true rfl) rfl ?_
  intro p e s m args below meth c E hin
  refine s_aload_n E dX10_feed_0 rfl rfl ?_
  refine s_gI E fg_X10_90 rfl rfl (ltn hw0.1 (by decide)) dX10_feed_1 ?_
  refine s_top (y := 0) (fc_i hw0 (by decide +kernel)) ?_
  refine s_bipush (v := 20) E dX10_feed_4 (by decide) ?_
  refine s_iadd E dX10_feed_6 ?_
  refine s_top (y := 20) (by decide) ?_
  refine s_sipush (v := 1000) E dX10_feed_7 (by decide) ?_
  refine s_icmp_le (tgt := 15) E dX10_feed_10 (by decide) (fun _ => ?_) (fun hh => absurd (by decide) hh)
  refine s_aload_n E dX10_feed_15 rfl rfl ?_
  refine s_gR (r := 100) E fg_X10_24 rfl rfl (ltn hw0.1 (by decide)) (fc_r hw0 (by decide +kernel)) dX10_feed_16 ?_
  refine s_iconst (v := 0) E dX10_feed_19 (by decide) ?_
  refine s_iload_n E dX10_feed_20 rfl rfl ?_
  refine s_iast E rfl (ltn hw0.1 (by decide)) (vp_c (by decide)) dX10_feed_21 ?_
  refine s_gen (P := fun v => FrM v ∧ RfM v) ⟨(fc_upC hw0 (by decide +kernel)), (fc_upC hw1 (by decide +kernel))⟩ (fun g_1 hp => ?_)
  obtain ⟨hg_1_0, hg_1_1⟩ := hp
  refine s_aload_n E dX10_feed_22 rfl rfl ?_
  refine s_gR (r := 100) E fg_X10_24 rfl rfl (ltn hg_1_0.1 (by decide)) (fc_r hg_1_0 (by decide +kernel)) dX10_feed_23 ?_
  refine s_iconst (v := 1) E dX10_feed_26 (by decide) ?_
  refine s_iload_n E dX10_feed_27 rfl rfl ?_
  refine s_iast E rfl (ltn hg_1_0.1 (by decide)) (vp_c (by decide)) dX10_feed_28 ?_
  refine s_gen (P := fun v => FrM v ∧ RfM v) ⟨(fc_upC hg_1_0 (by decide +kernel)), (fc_upC hg_1_1 (by decide +kernel))⟩ (fun g_2 hp => ?_)
  obtain ⟨hg_2_0, hg_2_1⟩ := hp
  refine s_aload_n E dX10_feed_29 rfl rfl ?_
  refine s_gR (r := 100) E fg_X10_24 rfl rfl (ltn hg_2_0.1 (by decide)) (fc_r hg_2_0 (by decide +kernel)) dX10_feed_30 ?_
  refine s_iconst (v := 2) E dX10_feed_33 (by decide) ?_
  refine s_iload_n E dX10_feed_34 rfl rfl ?_
  refine s_iast E rfl (ltn hg_2_0.1 (by decide)) (vp_c (by decide)) dX10_feed_35 ?_
  refine s_gen (P := fun v => FrM v ∧ RfM v) ⟨(fc_upC hg_2_0 (by decide +kernel)), (fc_upC hg_2_1 (by decide +kernel))⟩ (fun g_3 hp => ?_)
  obtain ⟨hg_3_0, hg_3_1⟩ := hp
  refine s_aload_n E dX10_feed_36 rfl rfl ?_
  refine s_gR (r := 100) E fg_X10_24 rfl rfl (ltn hg_3_0.1 (by decide)) (fc_r hg_3_0 (by decide +kernel)) dX10_feed_37 ?_
  refine s_iconst (v := 3) E dX10_feed_40 (by decide) ?_
  refine s_iload E dX10_feed_41 rfl ?_
  refine s_iast E rfl (ltn hg_3_0.1 (by decide)) (vp_c (by decide)) dX10_feed_43 ?_
  refine s_gen (P := fun v => FrM v ∧ RfM v) ⟨(fc_upC hg_3_0 (by decide +kernel)), (fc_upC hg_3_1 (by decide +kernel))⟩ (fun g_4 hp => ?_)
  obtain ⟨hg_4_0, hg_4_1⟩ := hp
  refine s_aload_n E dX10_feed_44 rfl rfl ?_
  refine s_gR (r := 100) E fg_X10_24 rfl rfl (ltn hg_4_0.1 (by decide)) (fc_r hg_4_0 (by decide +kernel)) dX10_feed_45 ?_
  refine s_iconst (v := 4) E dX10_feed_48 (by decide) ?_
  refine s_iload E dX10_feed_49 rfl ?_
  refine s_iast E rfl (ltn hg_4_0.1 (by decide)) (vp_c (by decide)) dX10_feed_51 ?_
  refine s_gen (P := fun v => FrM v ∧ RfM v) ⟨(fc_upC hg_4_0 (by decide +kernel)), (fc_upC hg_4_1 (by decide +kernel))⟩ (fun g_5 hp => ?_)
  obtain ⟨hg_5_0, hg_5_1⟩ := hp
  refine s_iconst (v := 0) E dX10_feed_52 (by decide) ?_
  refine s_istore (L2 := [some (AR 95), some (AI x1), some (AI x2), some (AI x3), some (AI x4), some (AI x5), some (AI 0)]) E dX10_feed_53 (by decide) rfl ?_
  refine s_iload E dX10_feed_55 rfl ?_
  refine s_bipush (v := 20) E dX10_feed_57 (by decide) ?_
  refine s_icmp_ge (tgt := 101) E dX10_feed_59 (by decide) (fun hh => absurd hh (by decide)) (fun _ => ?_)
  refine s_aload_n E dX10_feed_62 rfl rfl ?_
  refine s_gR (r := 99) E fg_X10_20 rfl rfl (ltn hg_5_0.1 (by decide)) (fc_r hg_5_0 (by decide +kernel)) dX10_feed_63 ?_
  refine s_aload_n E dX10_feed_66 rfl rfl ?_
  refine s_gI E fg_X10_90 rfl rfl (ltn hg_5_0.1 (by decide)) dX10_feed_67 ?_
  refine s_top (y := 0) (fc_i hg_5_0 (by decide +kernel)) ?_
  refine s_iload E dX10_feed_70 rfl ?_
  refine s_iadd E dX10_feed_72 ?_
  refine s_top (y := 0) (by decide) ?_
  refine s_aload_n E dX10_feed_73 rfl rfl ?_
  refine s_gR (r := 100) E fg_X10_24 rfl rfl (ltn hg_5_0.1 (by decide)) (fc_r hg_5_0 (by decide +kernel)) dX10_feed_74 ?_
  refine s_iload E dX10_feed_77 rfl ?_
  refine s_iconst (v := 4) E dX10_feed_79 (by decide) ?_
  refine s_idiv E dX10_feed_80 (by decide) ?_
  refine s_top (y := 0) (by decide) ?_
  refine s_iald E rfl (ltn hg_5_0.1 (by decide)) (vp_c (by decide)) dX10_feed_81 ?_
  refine s_bipush (v := 24) E dX10_feed_82 (by decide) ?_
  refine s_bipush (v := 8) E dX10_feed_84 (by decide) ?_
  refine s_iload E dX10_feed_86 rfl ?_
  refine s_iconst (v := 4) E dX10_feed_88 (by decide) ?_
  refine s_irem E dX10_feed_89 (by decide) ?_
  refine s_top (y := 0) (by decide) ?_
  refine s_imul E dX10_feed_90 ?_
  refine s_top (y := 0) (by decide) ?_
  refine s_isub E dX10_feed_91 ?_
  refine s_top (y := 24) (by decide) ?_
  refine s_ishr E dX10_feed_92 ?_
  refine s_i2b E dX10_feed_93 ?_
  refine s_bast E rfl (ltn hg_5_0.1 (by decide)) (vp_c (by decide)) dX10_feed_94 ?_
  refine s_gen (P := fun v => FrM v ∧ RfM v) ⟨(fc_upC hg_5_0 (by decide +kernel)), (fc_upC hg_5_1 (by decide +kernel))⟩ (fun g_6 hp => ?_)
  obtain ⟨hg_6_0, hg_6_1⟩ := hp
  refine s_iinc (v := 1) (L2 := [some (AR 95), some (AI x1), some (AI x2), some (AI x3), some (AI x4), some (AI x5), some (AI 1)]) E dX10_feed_95 rfl (by decide) (by decide) rfl ?_
  refine s_goto (tgt := 55) E dX10_feed_98 (by decide) ?_
  refine s_iload E dX10_feed_55 rfl ?_
  refine s_bipush (v := 20) E dX10_feed_57 (by decide) ?_
  refine s_icmp_ge (tgt := 101) E dX10_feed_59 (by decide) (fun hh => absurd hh (by decide)) (fun _ => ?_)
  refine s_aload_n E dX10_feed_62 rfl rfl ?_
  refine s_gR (r := 99) E fg_X10_20 rfl rfl (ltn hg_6_0.1 (by decide)) (fc_r hg_6_0 (by decide +kernel)) dX10_feed_63 ?_
  refine s_aload_n E dX10_feed_66 rfl rfl ?_
  refine s_gI E fg_X10_90 rfl rfl (ltn hg_6_0.1 (by decide)) dX10_feed_67 ?_
  refine s_top (y := 0) (fc_i hg_6_0 (by decide +kernel)) ?_
  refine s_iload E dX10_feed_70 rfl ?_
  refine s_iadd E dX10_feed_72 ?_
  refine s_top (y := 1) (by decide) ?_
  refine s_aload_n E dX10_feed_73 rfl rfl ?_
  refine s_gR (r := 100) E fg_X10_24 rfl rfl (ltn hg_6_0.1 (by decide)) (fc_r hg_6_0 (by decide +kernel)) dX10_feed_74 ?_
  refine s_iload E dX10_feed_77 rfl ?_
  refine s_iconst (v := 4) E dX10_feed_79 (by decide) ?_
  refine s_idiv E dX10_feed_80 (by decide) ?_
  refine s_top (y := 0) (by decide) ?_
  refine s_iald E rfl (ltn hg_6_0.1 (by decide)) (vp_c (by decide)) dX10_feed_81 ?_
  refine s_bipush (v := 24) E dX10_feed_82 (by decide) ?_
  refine s_bipush (v := 8) E dX10_feed_84 (by decide) ?_
  refine s_iload E dX10_feed_86 rfl ?_
  refine s_iconst (v := 4) E dX10_feed_88 (by decide) ?_
  refine s_irem E dX10_feed_89 (by decide) ?_
  refine s_top (y := 1) (by decide) ?_
  refine s_imul E dX10_feed_90 ?_
  refine s_top (y := 8) (by decide) ?_
  refine s_isub E dX10_feed_91 ?_
  refine s_top (y := 16) (by decide) ?_
  refine s_ishr E dX10_feed_92 ?_
  refine s_i2b E dX10_feed_93 ?_
  refine s_bast E rfl (ltn hg_6_0.1 (by decide)) (vp_c (by decide)) dX10_feed_94 ?_
  refine s_gen (P := fun v => FrM v ∧ RfM v) ⟨(fc_upC hg_6_0 (by decide +kernel)), (fc_upC hg_6_1 (by decide +kernel))⟩ (fun g_7 hp => ?_)
  obtain ⟨hg_7_0, hg_7_1⟩ := hp
  refine s_iinc (v := 2) (L2 := [some (AR 95), some (AI x1), some (AI x2), some (AI x3), some (AI x4), some (AI x5), some (AI 2)]) E dX10_feed_95 rfl (by decide) (by decide) rfl ?_
  refine s_goto (tgt := 55) E dX10_feed_98 (by decide) ?_
  refine s_iload E dX10_feed_55 rfl ?_
  refine s_bipush (v := 20) E dX10_feed_57 (by decide) ?_
  refine s_icmp_ge (tgt := 101) E dX10_feed_59 (by decide) (fun hh => absurd hh (by decide)) (fun _ => ?_)
  refine s_aload_n E dX10_feed_62 rfl rfl ?_
  refine s_gR (r := 99) E fg_X10_20 rfl rfl (ltn hg_7_0.1 (by decide)) (fc_r hg_7_0 (by decide +kernel)) dX10_feed_63 ?_
  refine s_aload_n E dX10_feed_66 rfl rfl ?_
  refine s_gI E fg_X10_90 rfl rfl (ltn hg_7_0.1 (by decide)) dX10_feed_67 ?_
  refine s_top (y := 0) (fc_i hg_7_0 (by decide +kernel)) ?_
  refine s_iload E dX10_feed_70 rfl ?_
  refine s_iadd E dX10_feed_72 ?_
  refine s_top (y := 2) (by decide) ?_
  refine s_aload_n E dX10_feed_73 rfl rfl ?_
  refine s_gR (r := 100) E fg_X10_24 rfl rfl (ltn hg_7_0.1 (by decide)) (fc_r hg_7_0 (by decide +kernel)) dX10_feed_74 ?_
  refine s_iload E dX10_feed_77 rfl ?_
  refine s_iconst (v := 4) E dX10_feed_79 (by decide) ?_
  refine s_idiv E dX10_feed_80 (by decide) ?_
  refine s_top (y := 0) (by decide) ?_
  refine s_iald E rfl (ltn hg_7_0.1 (by decide)) (vp_c (by decide)) dX10_feed_81 ?_
  refine s_bipush (v := 24) E dX10_feed_82 (by decide) ?_
  refine s_bipush (v := 8) E dX10_feed_84 (by decide) ?_
  refine s_iload E dX10_feed_86 rfl ?_
  refine s_iconst (v := 4) E dX10_feed_88 (by decide) ?_
  refine s_irem E dX10_feed_89 (by decide) ?_
  refine s_top (y := 2) (by decide) ?_
  refine s_imul E dX10_feed_90 ?_
  refine s_top (y := 16) (by decide) ?_
  refine s_isub E dX10_feed_91 ?_
  refine s_top (y := 8) (by decide) ?_
  refine s_ishr E dX10_feed_92 ?_
  refine s_i2b E dX10_feed_93 ?_
  refine s_bast E rfl (ltn hg_7_0.1 (by decide)) (vp_c (by decide)) dX10_feed_94 ?_
  refine s_gen (P := fun v => FrM v ∧ RfM v) ⟨(fc_upC hg_7_0 (by decide +kernel)), (fc_upC hg_7_1 (by decide +kernel))⟩ (fun g_8 hp => ?_)
  obtain ⟨hg_8_0, hg_8_1⟩ := hp
  refine s_iinc (v := 3) (L2 := [some (AR 95), some (AI x1), some (AI x2), some (AI x3), some (AI x4), some (AI x5), some (AI 3)]) E dX10_feed_95 rfl (by decide) (by decide) rfl ?_
  refine s_goto (tgt := 55) E dX10_feed_98 (by decide) ?_
  refine s_iload E dX10_feed_55 rfl ?_
  refine s_bipush (v := 20) E dX10_feed_57 (by decide) ?_
  refine s_icmp_ge (tgt := 101) E dX10_feed_59 (by decide) (fun hh => absurd hh (by decide)) (fun _ => ?_)
  refine s_aload_n E dX10_feed_62 rfl rfl ?_
  refine s_gR (r := 99) E fg_X10_20 rfl rfl (ltn hg_8_0.1 (by decide)) (fc_r hg_8_0 (by decide +kernel)) dX10_feed_63 ?_
  refine s_aload_n E dX10_feed_66 rfl rfl ?_
  refine s_gI E fg_X10_90 rfl rfl (ltn hg_8_0.1 (by decide)) dX10_feed_67 ?_
  refine s_top (y := 0) (fc_i hg_8_0 (by decide +kernel)) ?_
  refine s_iload E dX10_feed_70 rfl ?_
  refine s_iadd E dX10_feed_72 ?_
  refine s_top (y := 3) (by decide) ?_
  refine s_aload_n E dX10_feed_73 rfl rfl ?_
  refine s_gR (r := 100) E fg_X10_24 rfl rfl (ltn hg_8_0.1 (by decide)) (fc_r hg_8_0 (by decide +kernel)) dX10_feed_74 ?_
  refine s_iload E dX10_feed_77 rfl ?_
  refine s_iconst (v := 4) E dX10_feed_79 (by decide) ?_
  refine s_idiv E dX10_feed_80 (by decide) ?_
  refine s_top (y := 0) (by decide) ?_
  refine s_iald E rfl (ltn hg_8_0.1 (by decide)) (vp_c (by decide)) dX10_feed_81 ?_
  refine s_bipush (v := 24) E dX10_feed_82 (by decide) ?_
  refine s_bipush (v := 8) E dX10_feed_84 (by decide) ?_
  refine s_iload E dX10_feed_86 rfl ?_
  refine s_iconst (v := 4) E dX10_feed_88 (by decide) ?_
  refine s_irem E dX10_feed_89 (by decide) ?_
  refine s_top (y := 3) (by decide) ?_
  refine s_imul E dX10_feed_90 ?_
  refine s_top (y := 24) (by decide) ?_
  refine s_isub E dX10_feed_91 ?_
  refine s_top (y := 0) (by decide) ?_
  refine s_ishr E dX10_feed_92 ?_
  refine s_i2b E dX10_feed_93 ?_
  refine s_bast E rfl (ltn hg_8_0.1 (by decide)) (vp_c (by decide)) dX10_feed_94 ?_
  refine s_gen (P := fun v => FrM v ∧ RfM v) ⟨(fc_upC hg_8_0 (by decide +kernel)), (fc_upC hg_8_1 (by decide +kernel))⟩ (fun g_9 hp => ?_)
  obtain ⟨hg_9_0, hg_9_1⟩ := hp
  refine s_iinc (v := 4) (L2 := [some (AR 95), some (AI x1), some (AI x2), some (AI x3), some (AI x4), some (AI x5), some (AI 4)]) E dX10_feed_95 rfl (by decide) (by decide) rfl ?_
  refine s_goto (tgt := 55) E dX10_feed_98 (by decide) ?_
  refine s_iload E dX10_feed_55 rfl ?_
  refine s_bipush (v := 20) E dX10_feed_57 (by decide) ?_
  refine s_icmp_ge (tgt := 101) E dX10_feed_59 (by decide) (fun hh => absurd hh (by decide)) (fun _ => ?_)
  refine s_aload_n E dX10_feed_62 rfl rfl ?_
  refine s_gR (r := 99) E fg_X10_20 rfl rfl (ltn hg_9_0.1 (by decide)) (fc_r hg_9_0 (by decide +kernel)) dX10_feed_63 ?_
  refine s_aload_n E dX10_feed_66 rfl rfl ?_
  refine s_gI E fg_X10_90 rfl rfl (ltn hg_9_0.1 (by decide)) dX10_feed_67 ?_
  refine s_top (y := 0) (fc_i hg_9_0 (by decide +kernel)) ?_
  refine s_iload E dX10_feed_70 rfl ?_
  refine s_iadd E dX10_feed_72 ?_
  refine s_top (y := 4) (by decide) ?_
  refine s_aload_n E dX10_feed_73 rfl rfl ?_
  refine s_gR (r := 100) E fg_X10_24 rfl rfl (ltn hg_9_0.1 (by decide)) (fc_r hg_9_0 (by decide +kernel)) dX10_feed_74 ?_
  refine s_iload E dX10_feed_77 rfl ?_
  refine s_iconst (v := 4) E dX10_feed_79 (by decide) ?_
  refine s_idiv E dX10_feed_80 (by decide) ?_
  refine s_top (y := 1) (by decide) ?_
  refine s_iald E rfl (ltn hg_9_0.1 (by decide)) (vp_c (by decide)) dX10_feed_81 ?_
  refine s_bipush (v := 24) E dX10_feed_82 (by decide) ?_
  refine s_bipush (v := 8) E dX10_feed_84 (by decide) ?_
  refine s_iload E dX10_feed_86 rfl ?_
  refine s_iconst (v := 4) E dX10_feed_88 (by decide) ?_
  refine s_irem E dX10_feed_89 (by decide) ?_
  refine s_top (y := 0) (by decide) ?_
  refine s_imul E dX10_feed_90 ?_
  refine s_top (y := 0) (by decide) ?_
  refine s_isub E dX10_feed_91 ?_
  refine s_top (y := 24) (by decide) ?_
  refine s_ishr E dX10_feed_92 ?_
  refine s_i2b E dX10_feed_93 ?_
  refine s_bast E rfl (ltn hg_9_0.1 (by decide)) (vp_c (by decide)) dX10_feed_94 ?_
  refine s_gen (P := fun v => FrM v ∧ RfM v) ⟨(fc_upC hg_9_0 (by decide +kernel)), (fc_upC hg_9_1 (by decide +kernel))⟩ (fun g_10 hp => ?_)
  obtain ⟨hg_10_0, hg_10_1⟩ := hp
  refine s_iinc (v := 5) (L2 := [some (AR 95), some (AI x1), some (AI x2), some (AI x3), some (AI x4), some (AI x5), some (AI 5)]) E dX10_feed_95 rfl (by decide) (by decide) rfl ?_
  refine s_goto (tgt := 55) E dX10_feed_98 (by decide) ?_
  refine s_iload E dX10_feed_55 rfl ?_
  refine s_bipush (v := 20) E dX10_feed_57 (by decide) ?_
  refine s_icmp_ge (tgt := 101) E dX10_feed_59 (by decide) (fun hh => absurd hh (by decide)) (fun _ => ?_)
  refine s_aload_n E dX10_feed_62 rfl rfl ?_
  refine s_gR (r := 99) E fg_X10_20 rfl rfl (ltn hg_10_0.1 (by decide)) (fc_r hg_10_0 (by decide +kernel)) dX10_feed_63 ?_
  refine s_aload_n E dX10_feed_66 rfl rfl ?_
  refine s_gI E fg_X10_90 rfl rfl (ltn hg_10_0.1 (by decide)) dX10_feed_67 ?_
  refine s_top (y := 0) (fc_i hg_10_0 (by decide +kernel)) ?_
  refine s_iload E dX10_feed_70 rfl ?_
  refine s_iadd E dX10_feed_72 ?_
  refine s_top (y := 5) (by decide) ?_
  refine s_aload_n E dX10_feed_73 rfl rfl ?_
  refine s_gR (r := 100) E fg_X10_24 rfl rfl (ltn hg_10_0.1 (by decide)) (fc_r hg_10_0 (by decide +kernel)) dX10_feed_74 ?_
  refine s_iload E dX10_feed_77 rfl ?_
  refine s_iconst (v := 4) E dX10_feed_79 (by decide) ?_
  refine s_idiv E dX10_feed_80 (by decide) ?_
  refine s_top (y := 1) (by decide) ?_
  refine s_iald E rfl (ltn hg_10_0.1 (by decide)) (vp_c (by decide)) dX10_feed_81 ?_
  refine s_bipush (v := 24) E dX10_feed_82 (by decide) ?_
  refine s_bipush (v := 8) E dX10_feed_84 (by decide) ?_
  refine s_iload E dX10_feed_86 rfl ?_
  refine s_iconst (v := 4) E dX10_feed_88 (by decide) ?_
  refine s_irem E dX10_feed_89 (by decide) ?_
  refine s_top (y := 1) (by decide) ?_
  refine s_imul E dX10_feed_90 ?_
  refine s_top (y := 8) (by decide) ?_
  refine s_isub E dX10_feed_91 ?_
  refine s_top (y := 16) (by decide) ?_
  refine s_ishr E dX10_feed_92 ?_
  refine s_i2b E dX10_feed_93 ?_
  refine s_bast E rfl (ltn hg_10_0.1 (by decide)) (vp_c (by decide)) dX10_feed_94 ?_
  refine s_gen (P := fun v => FrM v ∧ RfM v) ⟨(fc_upC hg_10_0 (by decide +kernel)), (fc_upC hg_10_1 (by decide +kernel))⟩ (fun g_11 hp => ?_)
  obtain ⟨hg_11_0, hg_11_1⟩ := hp
  refine s_iinc (v := 6) (L2 := [some (AR 95), some (AI x1), some (AI x2), some (AI x3), some (AI x4), some (AI x5), some (AI 6)]) E dX10_feed_95 rfl (by decide) (by decide) rfl ?_
  refine s_goto (tgt := 55) E dX10_feed_98 (by decide) ?_
  refine s_iload E dX10_feed_55 rfl ?_
  refine s_bipush (v := 20) E dX10_feed_57 (by decide) ?_
  refine s_icmp_ge (tgt := 101) E dX10_feed_59 (by decide) (fun hh => absurd hh (by decide)) (fun _ => ?_)
  refine s_aload_n E dX10_feed_62 rfl rfl ?_
  refine s_gR (r := 99) E fg_X10_20 rfl rfl (ltn hg_11_0.1 (by decide)) (fc_r hg_11_0 (by decide +kernel)) dX10_feed_63 ?_
  refine s_aload_n E dX10_feed_66 rfl rfl ?_
  refine s_gI E fg_X10_90 rfl rfl (ltn hg_11_0.1 (by decide)) dX10_feed_67 ?_
  refine s_top (y := 0) (fc_i hg_11_0 (by decide +kernel)) ?_
  refine s_iload E dX10_feed_70 rfl ?_
  refine s_iadd E dX10_feed_72 ?_
  refine s_top (y := 6) (by decide) ?_
  refine s_aload_n E dX10_feed_73 rfl rfl ?_
  refine s_gR (r := 100) E fg_X10_24 rfl rfl (ltn hg_11_0.1 (by decide)) (fc_r hg_11_0 (by decide +kernel)) dX10_feed_74 ?_
  refine s_iload E dX10_feed_77 rfl ?_
  refine s_iconst (v := 4) E dX10_feed_79 (by decide) ?_
  refine s_idiv E dX10_feed_80 (by decide) ?_
  refine s_top (y := 1) (by decide) ?_
  refine s_iald E rfl (ltn hg_11_0.1 (by decide)) (vp_c (by decide)) dX10_feed_81 ?_
  refine s_bipush (v := 24) E dX10_feed_82 (by decide) ?_
  refine s_bipush (v := 8) E dX10_feed_84 (by decide) ?_
  refine s_iload E dX10_feed_86 rfl ?_
  refine s_iconst (v := 4) E dX10_feed_88 (by decide) ?_
  refine s_irem E dX10_feed_89 (by decide) ?_
  refine s_top (y := 2) (by decide) ?_
  refine s_imul E dX10_feed_90 ?_
  refine s_top (y := 16) (by decide) ?_
  refine s_isub E dX10_feed_91 ?_
  refine s_top (y := 8) (by decide) ?_
  refine s_ishr E dX10_feed_92 ?_
  refine s_i2b E dX10_feed_93 ?_
  refine s_bast E rfl (ltn hg_11_0.1 (by decide)) (vp_c (by decide)) dX10_feed_94 ?_
  refine s_gen (P := fun v => FrM v ∧ RfM v) ⟨(fc_upC hg_11_0 (by decide +kernel)), (fc_upC hg_11_1 (by decide +kernel))⟩ (fun g_12 hp => ?_)
  obtain ⟨hg_12_0, hg_12_1⟩ := hp
  refine s_iinc (v := 7) (L2 := [some (AR 95), some (AI x1), some (AI x2), some (AI x3), some (AI x4), some (AI x5), some (AI 7)]) E dX10_feed_95 rfl (by decide) (by decide) rfl ?_
  refine s_goto (tgt := 55) E dX10_feed_98 (by decide) ?_
  refine s_iload E dX10_feed_55 rfl ?_
  refine s_bipush (v := 20) E dX10_feed_57 (by decide) ?_
  refine s_icmp_ge (tgt := 101) E dX10_feed_59 (by decide) (fun hh => absurd hh (by decide)) (fun _ => ?_)
  refine s_aload_n E dX10_feed_62 rfl rfl ?_
  refine s_gR (r := 99) E fg_X10_20 rfl rfl (ltn hg_12_0.1 (by decide)) (fc_r hg_12_0 (by decide +kernel)) dX10_feed_63 ?_
  refine s_aload_n E dX10_feed_66 rfl rfl ?_
  refine s_gI E fg_X10_90 rfl rfl (ltn hg_12_0.1 (by decide)) dX10_feed_67 ?_
  refine s_top (y := 0) (fc_i hg_12_0 (by decide +kernel)) ?_
  refine s_iload E dX10_feed_70 rfl ?_
  refine s_iadd E dX10_feed_72 ?_
  refine s_top (y := 7) (by decide) ?_
  refine s_aload_n E dX10_feed_73 rfl rfl ?_
  refine s_gR (r := 100) E fg_X10_24 rfl rfl (ltn hg_12_0.1 (by decide)) (fc_r hg_12_0 (by decide +kernel)) dX10_feed_74 ?_
  refine s_iload E dX10_feed_77 rfl ?_
  refine s_iconst (v := 4) E dX10_feed_79 (by decide) ?_
  refine s_idiv E dX10_feed_80 (by decide) ?_
  refine s_top (y := 1) (by decide) ?_
  refine s_iald E rfl (ltn hg_12_0.1 (by decide)) (vp_c (by decide)) dX10_feed_81 ?_
  refine s_bipush (v := 24) E dX10_feed_82 (by decide) ?_
  refine s_bipush (v := 8) E dX10_feed_84 (by decide) ?_
  refine s_iload E dX10_feed_86 rfl ?_
  refine s_iconst (v := 4) E dX10_feed_88 (by decide) ?_
  refine s_irem E dX10_feed_89 (by decide) ?_
  refine s_top (y := 3) (by decide) ?_
  refine s_imul E dX10_feed_90 ?_
  refine s_top (y := 24) (by decide) ?_
  refine s_isub E dX10_feed_91 ?_
  refine s_top (y := 0) (by decide) ?_
  refine s_ishr E dX10_feed_92 ?_
  refine s_i2b E dX10_feed_93 ?_
  refine s_bast E rfl (ltn hg_12_0.1 (by decide)) (vp_c (by decide)) dX10_feed_94 ?_
  refine s_gen (P := fun v => FrM v ∧ RfM v) ⟨(fc_upC hg_12_0 (by decide +kernel)), (fc_upC hg_12_1 (by decide +kernel))⟩ (fun g_13 hp => ?_)
  obtain ⟨hg_13_0, hg_13_1⟩ := hp
  refine s_iinc (v := 8) (L2 := [some (AR 95), some (AI x1), some (AI x2), some (AI x3), some (AI x4), some (AI x5), some (AI 8)]) E dX10_feed_95 rfl (by decide) (by decide) rfl ?_
  refine s_goto (tgt := 55) E dX10_feed_98 (by decide) ?_
  refine s_iload E dX10_feed_55 rfl ?_
  refine s_bipush (v := 20) E dX10_feed_57 (by decide) ?_
  refine s_icmp_ge (tgt := 101) E dX10_feed_59 (by decide) (fun hh => absurd hh (by decide)) (fun _ => ?_)
  refine s_aload_n E dX10_feed_62 rfl rfl ?_
  refine s_gR (r := 99) E fg_X10_20 rfl rfl (ltn hg_13_0.1 (by decide)) (fc_r hg_13_0 (by decide +kernel)) dX10_feed_63 ?_
  refine s_aload_n E dX10_feed_66 rfl rfl ?_
  refine s_gI E fg_X10_90 rfl rfl (ltn hg_13_0.1 (by decide)) dX10_feed_67 ?_
  refine s_top (y := 0) (fc_i hg_13_0 (by decide +kernel)) ?_
  refine s_iload E dX10_feed_70 rfl ?_
  refine s_iadd E dX10_feed_72 ?_
  refine s_top (y := 8) (by decide) ?_
  refine s_aload_n E dX10_feed_73 rfl rfl ?_
  refine s_gR (r := 100) E fg_X10_24 rfl rfl (ltn hg_13_0.1 (by decide)) (fc_r hg_13_0 (by decide +kernel)) dX10_feed_74 ?_
  refine s_iload E dX10_feed_77 rfl ?_
  refine s_iconst (v := 4) E dX10_feed_79 (by decide) ?_
  refine s_idiv E dX10_feed_80 (by decide) ?_
  refine s_top (y := 2) (by decide) ?_
  refine s_iald E rfl (ltn hg_13_0.1 (by decide)) (vp_c (by decide)) dX10_feed_81 ?_
  refine s_bipush (v := 24) E dX10_feed_82 (by decide) ?_
  refine s_bipush (v := 8) E dX10_feed_84 (by decide) ?_
  refine s_iload E dX10_feed_86 rfl ?_
  refine s_iconst (v := 4) E dX10_feed_88 (by decide) ?_
  refine s_irem E dX10_feed_89 (by decide) ?_
  refine s_top (y := 0) (by decide) ?_
  refine s_imul E dX10_feed_90 ?_
  refine s_top (y := 0) (by decide) ?_
  refine s_isub E dX10_feed_91 ?_
  refine s_top (y := 24) (by decide) ?_
  refine s_ishr E dX10_feed_92 ?_
  refine s_i2b E dX10_feed_93 ?_
  refine s_bast E rfl (ltn hg_13_0.1 (by decide)) (vp_c (by decide)) dX10_feed_94 ?_
  refine s_gen (P := fun v => FrM v ∧ RfM v) ⟨(fc_upC hg_13_0 (by decide +kernel)), (fc_upC hg_13_1 (by decide +kernel))⟩ (fun g_14 hp => ?_)
  obtain ⟨hg_14_0, hg_14_1⟩ := hp
  refine s_iinc (v := 9) (L2 := [some (AR 95), some (AI x1), some (AI x2), some (AI x3), some (AI x4), some (AI x5), some (AI 9)]) E dX10_feed_95 rfl (by decide) (by decide) rfl ?_
  refine s_goto (tgt := 55) E dX10_feed_98 (by decide) ?_
  refine s_iload E dX10_feed_55 rfl ?_
  refine s_bipush (v := 20) E dX10_feed_57 (by decide) ?_
  refine s_icmp_ge (tgt := 101) E dX10_feed_59 (by decide) (fun hh => absurd hh (by decide)) (fun _ => ?_)
  refine s_aload_n E dX10_feed_62 rfl rfl ?_
  refine s_gR (r := 99) E fg_X10_20 rfl rfl (ltn hg_14_0.1 (by decide)) (fc_r hg_14_0 (by decide +kernel)) dX10_feed_63 ?_
  refine s_aload_n E dX10_feed_66 rfl rfl ?_
  refine s_gI E fg_X10_90 rfl rfl (ltn hg_14_0.1 (by decide)) dX10_feed_67 ?_
  refine s_top (y := 0) (fc_i hg_14_0 (by decide +kernel)) ?_
  refine s_iload E dX10_feed_70 rfl ?_
  refine s_iadd E dX10_feed_72 ?_
  refine s_top (y := 9) (by decide) ?_
  refine s_aload_n E dX10_feed_73 rfl rfl ?_
  refine s_gR (r := 100) E fg_X10_24 rfl rfl (ltn hg_14_0.1 (by decide)) (fc_r hg_14_0 (by decide +kernel)) dX10_feed_74 ?_
  refine s_iload E dX10_feed_77 rfl ?_
  refine s_iconst (v := 4) E dX10_feed_79 (by decide) ?_
  refine s_idiv E dX10_feed_80 (by decide) ?_
  refine s_top (y := 2) (by decide) ?_
  refine s_iald E rfl (ltn hg_14_0.1 (by decide)) (vp_c (by decide)) dX10_feed_81 ?_
  refine s_bipush (v := 24) E dX10_feed_82 (by decide) ?_
  refine s_bipush (v := 8) E dX10_feed_84 (by decide) ?_
  refine s_iload E dX10_feed_86 rfl ?_
  refine s_iconst (v := 4) E dX10_feed_88 (by decide) ?_
  refine s_irem E dX10_feed_89 (by decide) ?_
  refine s_top (y := 1) (by decide) ?_
  refine s_imul E dX10_feed_90 ?_
  refine s_top (y := 8) (by decide) ?_
  refine s_isub E dX10_feed_91 ?_
  refine s_top (y := 16) (by decide) ?_
  refine s_ishr E dX10_feed_92 ?_
  refine s_i2b E dX10_feed_93 ?_
  refine s_bast E rfl (ltn hg_14_0.1 (by decide)) (vp_c (by decide)) dX10_feed_94 ?_
  refine s_gen (P := fun v => FrM v ∧ RfM v) ⟨(fc_upC hg_14_0 (by decide +kernel)), (fc_upC hg_14_1 (by decide +kernel))⟩ (fun g_15 hp => ?_)
  obtain ⟨hg_15_0, hg_15_1⟩ := hp
  refine s_iinc (v := 10) (L2 := [some (AR 95), some (AI x1), some (AI x2), some (AI x3), some (AI x4), some (AI x5), some (AI 10)]) E dX10_feed_95 rfl (by decide) (by decide) rfl ?_
  refine s_goto (tgt := 55) E dX10_feed_98 (by decide) ?_
  refine s_iload E dX10_feed_55 rfl ?_
  refine s_bipush (v := 20) E dX10_feed_57 (by decide) ?_
  refine s_icmp_ge (tgt := 101) E dX10_feed_59 (by decide) (fun hh => absurd hh (by decide)) (fun _ => ?_)
  refine s_aload_n E dX10_feed_62 rfl rfl ?_
  refine s_gR (r := 99) E fg_X10_20 rfl rfl (ltn hg_15_0.1 (by decide)) (fc_r hg_15_0 (by decide +kernel)) dX10_feed_63 ?_
  refine s_aload_n E dX10_feed_66 rfl rfl ?_
  refine s_gI E fg_X10_90 rfl rfl (ltn hg_15_0.1 (by decide)) dX10_feed_67 ?_
  refine s_top (y := 0) (fc_i hg_15_0 (by decide +kernel)) ?_
  refine s_iload E dX10_feed_70 rfl ?_
  refine s_iadd E dX10_feed_72 ?_
  refine s_top (y := 10) (by decide) ?_
  refine s_aload_n E dX10_feed_73 rfl rfl ?_
  refine s_gR (r := 100) E fg_X10_24 rfl rfl (ltn hg_15_0.1 (by decide)) (fc_r hg_15_0 (by decide +kernel)) dX10_feed_74 ?_
  refine s_iload E dX10_feed_77 rfl ?_
  refine s_iconst (v := 4) E dX10_feed_79 (by decide) ?_
  refine s_idiv E dX10_feed_80 (by decide) ?_
  refine s_top (y := 2) (by decide) ?_
  refine s_iald E rfl (ltn hg_15_0.1 (by decide)) (vp_c (by decide)) dX10_feed_81 ?_
  refine s_bipush (v := 24) E dX10_feed_82 (by decide) ?_
  refine s_bipush (v := 8) E dX10_feed_84 (by decide) ?_
  refine s_iload E dX10_feed_86 rfl ?_
  refine s_iconst (v := 4) E dX10_feed_88 (by decide) ?_
  refine s_irem E dX10_feed_89 (by decide) ?_
  refine s_top (y := 2) (by decide) ?_
  refine s_imul E dX10_feed_90 ?_
  refine s_top (y := 16) (by decide) ?_
  refine s_isub E dX10_feed_91 ?_
  refine s_top (y := 8) (by decide) ?_
  refine s_ishr E dX10_feed_92 ?_
  refine s_i2b E dX10_feed_93 ?_
  refine s_bast E rfl (ltn hg_15_0.1 (by decide)) (vp_c (by decide)) dX10_feed_94 ?_
  refine s_gen (P := fun v => FrM v ∧ RfM v) ⟨(fc_upC hg_15_0 (by decide +kernel)), (fc_upC hg_15_1 (by decide +kernel))⟩ (fun g_16 hp => ?_)
  obtain ⟨hg_16_0, hg_16_1⟩ := hp
  refine s_iinc (v := 11) (L2 := [some (AR 95), some (AI x1), some (AI x2), some (AI x3), some (AI x4), some (AI x5), some (AI 11)]) E dX10_feed_95 rfl (by decide) (by decide) rfl ?_
  refine s_goto (tgt := 55) E dX10_feed_98 (by decide) ?_
  refine s_iload E dX10_feed_55 rfl ?_
  refine s_bipush (v := 20) E dX10_feed_57 (by decide) ?_
  refine s_icmp_ge (tgt := 101) E dX10_feed_59 (by decide) (fun hh => absurd hh (by decide)) (fun _ => ?_)
  refine s_aload_n E dX10_feed_62 rfl rfl ?_
  refine s_gR (r := 99) E fg_X10_20 rfl rfl (ltn hg_16_0.1 (by decide)) (fc_r hg_16_0 (by decide +kernel)) dX10_feed_63 ?_
  refine s_aload_n E dX10_feed_66 rfl rfl ?_
  refine s_gI E fg_X10_90 rfl rfl (ltn hg_16_0.1 (by decide)) dX10_feed_67 ?_
  refine s_top (y := 0) (fc_i hg_16_0 (by decide +kernel)) ?_
  refine s_iload E dX10_feed_70 rfl ?_
  refine s_iadd E dX10_feed_72 ?_
  refine s_top (y := 11) (by decide) ?_
  refine s_aload_n E dX10_feed_73 rfl rfl ?_
  refine s_gR (r := 100) E fg_X10_24 rfl rfl (ltn hg_16_0.1 (by decide)) (fc_r hg_16_0 (by decide +kernel)) dX10_feed_74 ?_
  refine s_iload E dX10_feed_77 rfl ?_
  refine s_iconst (v := 4) E dX10_feed_79 (by decide) ?_
  refine s_idiv E dX10_feed_80 (by decide) ?_
  refine s_top (y := 2) (by decide) ?_
  refine s_iald E rfl (ltn hg_16_0.1 (by decide)) (vp_c (by decide)) dX10_feed_81 ?_
  refine s_bipush (v := 24) E dX10_feed_82 (by decide) ?_
  refine s_bipush (v := 8) E dX10_feed_84 (by decide) ?_
  refine s_iload E dX10_feed_86 rfl ?_
  refine s_iconst (v := 4) E dX10_feed_88 (by decide) ?_
  refine s_irem E dX10_feed_89 (by decide) ?_
  refine s_top (y := 3) (by decide) ?_
  refine s_imul E dX10_feed_90 ?_
  refine s_top (y := 24) (by decide) ?_
  refine s_isub E dX10_feed_91 ?_
  refine s_top (y := 0) (by decide) ?_
  refine s_ishr E dX10_feed_92 ?_
  refine s_i2b E dX10_feed_93 ?_
  refine s_bast E rfl (ltn hg_16_0.1 (by decide)) (vp_c (by decide)) dX10_feed_94 ?_
  refine s_gen (P := fun v => FrM v ∧ RfM v) ⟨(fc_upC hg_16_0 (by decide +kernel)), (fc_upC hg_16_1 (by decide +kernel))⟩ (fun g_17 hp => ?_)
  obtain ⟨hg_17_0, hg_17_1⟩ := hp
  refine s_iinc (v := 12) (L2 := [some (AR 95), some (AI x1), some (AI x2), some (AI x3), some (AI x4), some (AI x5), some (AI 12)]) E dX10_feed_95 rfl (by decide) (by decide) rfl ?_
  refine s_goto (tgt := 55) E dX10_feed_98 (by decide) ?_
  refine s_iload E dX10_feed_55 rfl ?_
  refine s_bipush (v := 20) E dX10_feed_57 (by decide) ?_
  refine s_icmp_ge (tgt := 101) E dX10_feed_59 (by decide) (fun hh => absurd hh (by decide)) (fun _ => ?_)
  refine s_aload_n E dX10_feed_62 rfl rfl ?_
  refine s_gR (r := 99) E fg_X10_20 rfl rfl (ltn hg_17_0.1 (by decide)) (fc_r hg_17_0 (by decide +kernel)) dX10_feed_63 ?_
  refine s_aload_n E dX10_feed_66 rfl rfl ?_
  refine s_gI E fg_X10_90 rfl rfl (ltn hg_17_0.1 (by decide)) dX10_feed_67 ?_
  refine s_top (y := 0) (fc_i hg_17_0 (by decide +kernel)) ?_
  refine s_iload E dX10_feed_70 rfl ?_
  refine s_iadd E dX10_feed_72 ?_
  refine s_top (y := 12) (by decide) ?_
  refine s_aload_n E dX10_feed_73 rfl rfl ?_
  refine s_gR (r := 100) E fg_X10_24 rfl rfl (ltn hg_17_0.1 (by decide)) (fc_r hg_17_0 (by decide +kernel)) dX10_feed_74 ?_
  refine s_iload E dX10_feed_77 rfl ?_
  refine s_iconst (v := 4) E dX10_feed_79 (by decide) ?_
  refine s_idiv E dX10_feed_80 (by decide) ?_
  refine s_top (y := 3) (by decide) ?_
  refine s_iald E rfl (ltn hg_17_0.1 (by decide)) (vp_c (by decide)) dX10_feed_81 ?_
  refine s_bipush (v := 24) E dX10_feed_82 (by decide) ?_
  refine s_bipush (v := 8) E dX10_feed_84 (by decide) ?_
  refine s_iload E dX10_feed_86 rfl ?_
  refine s_iconst (v := 4) E dX10_feed_88 (by decide) ?_
  refine s_irem E dX10_feed_89 (by decide) ?_
  refine s_top (y := 0) (by decide) ?_
  refine s_imul E dX10_feed_90 ?_
  refine s_top (y := 0) (by decide) ?_
  refine s_isub E dX10_feed_91 ?_
  refine s_top (y := 24) (by decide) ?_
  refine s_ishr E dX10_feed_92 ?_
  refine s_i2b E dX10_feed_93 ?_
  refine s_bast E rfl (ltn hg_17_0.1 (by decide)) (vp_c (by decide)) dX10_feed_94 ?_
  refine s_gen (P := fun v => FrM v ∧ RfM v) ⟨(fc_upC hg_17_0 (by decide +kernel)), (fc_upC hg_17_1 (by decide +kernel))⟩ (fun g_18 hp => ?_)
  obtain ⟨hg_18_0, hg_18_1⟩ := hp
  refine s_iinc (v := 13) (L2 := [some (AR 95), some (AI x1), some (AI x2), some (AI x3), some (AI x4), some (AI x5), some (AI 13)]) E dX10_feed_95 rfl (by decide) (by decide) rfl ?_
  refine s_goto (tgt := 55) E dX10_feed_98 (by decide) ?_
  refine s_iload E dX10_feed_55 rfl ?_
  refine s_bipush (v := 20) E dX10_feed_57 (by decide) ?_
  refine s_icmp_ge (tgt := 101) E dX10_feed_59 (by decide) (fun hh => absurd hh (by decide)) (fun _ => ?_)
  refine s_aload_n E dX10_feed_62 rfl rfl ?_
  refine s_gR (r := 99) E fg_X10_20 rfl rfl (ltn hg_18_0.1 (by decide)) (fc_r hg_18_0 (by decide +kernel)) dX10_feed_63 ?_
  refine s_aload_n E dX10_feed_66 rfl rfl ?_
  refine s_gI E fg_X10_90 rfl rfl (ltn hg_18_0.1 (by decide)) dX10_feed_67 ?_
  refine s_top (y := 0) (fc_i hg_18_0 (by decide +kernel)) ?_
  refine s_iload E dX10_feed_70 rfl ?_
  refine s_iadd E dX10_feed_72 ?_
  refine s_top (y := 13) (by decide) ?_
  refine s_aload_n E dX10_feed_73 rfl rfl ?_
  refine s_gR (r := 100) E fg_X10_24 rfl rfl (ltn hg_18_0.1 (by decide)) (fc_r hg_18_0 (by decide +kernel)) dX10_feed_74 ?_
  refine s_iload E dX10_feed_77 rfl ?_
  refine s_iconst (v := 4) E dX10_feed_79 (by decide) ?_
  refine s_idiv E dX10_feed_80 (by decide) ?_
  refine s_top (y := 3) (by decide) ?_
  refine s_iald E rfl (ltn hg_18_0.1 (by decide)) (vp_c (by decide)) dX10_feed_81 ?_
  refine s_bipush (v := 24) E dX10_feed_82 (by decide) ?_
  refine s_bipush (v := 8) E dX10_feed_84 (by decide) ?_
  refine s_iload E dX10_feed_86 rfl ?_
  refine s_iconst (v := 4) E dX10_feed_88 (by decide) ?_
  refine s_irem E dX10_feed_89 (by decide) ?_
  refine s_top (y := 1) (by decide) ?_
  refine s_imul E dX10_feed_90 ?_
  refine s_top (y := 8) (by decide) ?_
  refine s_isub E dX10_feed_91 ?_
  refine s_top (y := 16) (by decide) ?_
  refine s_ishr E dX10_feed_92 ?_
  refine s_i2b E dX10_feed_93 ?_
  refine s_bast E rfl (ltn hg_18_0.1 (by decide)) (vp_c (by decide)) dX10_feed_94 ?_
  refine s_gen (P := fun v => FrM v ∧ RfM v) ⟨(fc_upC hg_18_0 (by decide +kernel)), (fc_upC hg_18_1 (by decide +kernel))⟩ (fun g_19 hp => ?_)
  obtain ⟨hg_19_0, hg_19_1⟩ := hp
  refine s_iinc (v := 14) (L2 := [some (AR 95), some (AI x1), some (AI x2), some (AI x3), some (AI x4), some (AI x5), some (AI 14)]) E dX10_feed_95 rfl (by decide) (by decide) rfl ?_
  refine s_goto (tgt := 55) E dX10_feed_98 (by decide) ?_
  refine s_iload E dX10_feed_55 rfl ?_
  refine s_bipush (v := 20) E dX10_feed_57 (by decide) ?_
  refine s_icmp_ge (tgt := 101) E dX10_feed_59 (by decide) (fun hh => absurd hh (by decide)) (fun _ => ?_)
  refine s_aload_n E dX10_feed_62 rfl rfl ?_
  refine s_gR (r := 99) E fg_X10_20 rfl rfl (ltn hg_19_0.1 (by decide)) (fc_r hg_19_0 (by decide +kernel)) dX10_feed_63 ?_
  refine s_aload_n E dX10_feed_66 rfl rfl ?_
  refine s_gI E fg_X10_90 rfl rfl (ltn hg_19_0.1 (by decide)) dX10_feed_67 ?_
  refine s_top (y := 0) (fc_i hg_19_0 (by decide +kernel)) ?_
  refine s_iload E dX10_feed_70 rfl ?_
  refine s_iadd E dX10_feed_72 ?_
  refine s_top (y := 14) (by decide) ?_
  refine s_aload_n E dX10_feed_73 rfl rfl ?_
  refine s_gR (r := 100) E fg_X10_24 rfl rfl (ltn hg_19_0.1 (by decide)) (fc_r hg_19_0 (by decide +kernel)) dX10_feed_74 ?_
  refine s_iload E dX10_feed_77 rfl ?_
  refine s_iconst (v := 4) E dX10_feed_79 (by decide) ?_
  refine s_idiv E dX10_feed_80 (by decide) ?_
  refine s_top (y := 3) (by decide) ?_
  refine s_iald E rfl (ltn hg_19_0.1 (by decide)) (vp_c (by decide)) dX10_feed_81 ?_
  refine s_bipush (v := 24) E dX10_feed_82 (by decide) ?_
  refine s_bipush (v := 8) E dX10_feed_84 (by decide) ?_
  refine s_iload E dX10_feed_86 rfl ?_
  refine s_iconst (v := 4) E dX10_feed_88 (by decide) ?_
  refine s_irem E dX10_feed_89 (by decide) ?_
  refine s_top (y := 2) (by decide) ?_
  refine s_imul E dX10_feed_90 ?_
  refine s_top (y := 16) (by decide) ?_
  refine s_isub E dX10_feed_91 ?_
  refine s_top (y := 8) (by decide) ?_
  refine s_ishr E dX10_feed_92 ?_
  refine s_i2b E dX10_feed_93 ?_
  refine s_bast E rfl (ltn hg_19_0.1 (by decide)) (vp_c (by decide)) dX10_feed_94 ?_
  refine s_gen (P := fun v => FrM v ∧ RfM v) ⟨(fc_upC hg_19_0 (by decide +kernel)), (fc_upC hg_19_1 (by decide +kernel))⟩ (fun g_20 hp => ?_)
  obtain ⟨hg_20_0, hg_20_1⟩ := hp
  refine s_iinc (v := 15) (L2 := [some (AR 95), some (AI x1), some (AI x2), some (AI x3), some (AI x4), some (AI x5), some (AI 15)]) E dX10_feed_95 rfl (by decide) (by decide) rfl ?_
  refine s_goto (tgt := 55) E dX10_feed_98 (by decide) ?_
  refine s_iload E dX10_feed_55 rfl ?_
  refine s_bipush (v := 20) E dX10_feed_57 (by decide) ?_
  refine s_icmp_ge (tgt := 101) E dX10_feed_59 (by decide) (fun hh => absurd hh (by decide)) (fun _ => ?_)
  refine s_aload_n E dX10_feed_62 rfl rfl ?_
  refine s_gR (r := 99) E fg_X10_20 rfl rfl (ltn hg_20_0.1 (by decide)) (fc_r hg_20_0 (by decide +kernel)) dX10_feed_63 ?_
  refine s_aload_n E dX10_feed_66 rfl rfl ?_
  refine s_gI E fg_X10_90 rfl rfl (ltn hg_20_0.1 (by decide)) dX10_feed_67 ?_
  refine s_top (y := 0) (fc_i hg_20_0 (by decide +kernel)) ?_
  refine s_iload E dX10_feed_70 rfl ?_
  refine s_iadd E dX10_feed_72 ?_
  refine s_top (y := 15) (by decide) ?_
  refine s_aload_n E dX10_feed_73 rfl rfl ?_
  refine s_gR (r := 100) E fg_X10_24 rfl rfl (ltn hg_20_0.1 (by decide)) (fc_r hg_20_0 (by decide +kernel)) dX10_feed_74 ?_
  refine s_iload E dX10_feed_77 rfl ?_
  refine s_iconst (v := 4) E dX10_feed_79 (by decide) ?_
  refine s_idiv E dX10_feed_80 (by decide) ?_
  refine s_top (y := 3) (by decide) ?_
  refine s_iald E rfl (ltn hg_20_0.1 (by decide)) (vp_c (by decide)) dX10_feed_81 ?_
  refine s_bipush (v := 24) E dX10_feed_82 (by decide) ?_
  refine s_bipush (v := 8) E dX10_feed_84 (by decide) ?_
  refine s_iload E dX10_feed_86 rfl ?_
  refine s_iconst (v := 4) E dX10_feed_88 (by decide) ?_
  refine s_irem E dX10_feed_89 (by decide) ?_
  refine s_top (y := 3) (by decide) ?_
  refine s_imul E dX10_feed_90 ?_
  refine s_top (y := 24) (by decide) ?_
  refine s_isub E dX10_feed_91 ?_
  refine s_top (y := 0) (by decide) ?_
  refine s_ishr E dX10_feed_92 ?_
  refine s_i2b E dX10_feed_93 ?_
  refine s_bast E rfl (ltn hg_20_0.1 (by decide)) (vp_c (by decide)) dX10_feed_94 ?_
  refine s_gen (P := fun v => FrM v ∧ RfM v) ⟨(fc_upC hg_20_0 (by decide +kernel)), (fc_upC hg_20_1 (by decide +kernel))⟩ (fun g_21 hp => ?_)
  obtain ⟨hg_21_0, hg_21_1⟩ := hp
  refine s_iinc (v := 16) (L2 := [some (AR 95), some (AI x1), some (AI x2), some (AI x3), some (AI x4), some (AI x5), some (AI 16)]) E dX10_feed_95 rfl (by decide) (by decide) rfl ?_
  refine s_goto (tgt := 55) E dX10_feed_98 (by decide) ?_
  refine s_iload E dX10_feed_55 rfl ?_
  refine s_bipush (v := 20) E dX10_feed_57 (by decide) ?_
  refine s_icmp_ge (tgt := 101) E dX10_feed_59 (by decide) (fun hh => absurd hh (by decide)) (fun _ => ?_)
  refine s_aload_n E dX10_feed_62 rfl rfl ?_
  refine s_gR (r := 99) E fg_X10_20 rfl rfl (ltn hg_21_0.1 (by decide)) (fc_r hg_21_0 (by decide +kernel)) dX10_feed_63 ?_
  refine s_aload_n E dX10_feed_66 rfl rfl ?_
  refine s_gI E fg_X10_90 rfl rfl (ltn hg_21_0.1 (by decide)) dX10_feed_67 ?_
  refine s_top (y := 0) (fc_i hg_21_0 (by decide +kernel)) ?_
  refine s_iload E dX10_feed_70 rfl ?_
  refine s_iadd E dX10_feed_72 ?_
  refine s_top (y := 16) (by decide) ?_
  refine s_aload_n E dX10_feed_73 rfl rfl ?_
  refine s_gR (r := 100) E fg_X10_24 rfl rfl (ltn hg_21_0.1 (by decide)) (fc_r hg_21_0 (by decide +kernel)) dX10_feed_74 ?_
  refine s_iload E dX10_feed_77 rfl ?_
  refine s_iconst (v := 4) E dX10_feed_79 (by decide) ?_
  refine s_idiv E dX10_feed_80 (by decide) ?_
  refine s_top (y := 4) (by decide) ?_
  refine s_iald E rfl (ltn hg_21_0.1 (by decide)) (vp_c (by decide)) dX10_feed_81 ?_
  refine s_bipush (v := 24) E dX10_feed_82 (by decide) ?_
  refine s_bipush (v := 8) E dX10_feed_84 (by decide) ?_
  refine s_iload E dX10_feed_86 rfl ?_
  refine s_iconst (v := 4) E dX10_feed_88 (by decide) ?_
  refine s_irem E dX10_feed_89 (by decide) ?_
  refine s_top (y := 0) (by decide) ?_
  refine s_imul E dX10_feed_90 ?_
  refine s_top (y := 0) (by decide) ?_
  refine s_isub E dX10_feed_91 ?_
  refine s_top (y := 24) (by decide) ?_
  refine s_ishr E dX10_feed_92 ?_
  refine s_i2b E dX10_feed_93 ?_
  refine s_bast E rfl (ltn hg_21_0.1 (by decide)) (vp_c (by decide)) dX10_feed_94 ?_
  refine s_gen (P := fun v => FrM v ∧ RfM v) ⟨(fc_upC hg_21_0 (by decide +kernel)), (fc_upC hg_21_1 (by decide +kernel))⟩ (fun g_22 hp => ?_)
  obtain ⟨hg_22_0, hg_22_1⟩ := hp
  refine s_iinc (v := 17) (L2 := [some (AR 95), some (AI x1), some (AI x2), some (AI x3), some (AI x4), some (AI x5), some (AI 17)]) E dX10_feed_95 rfl (by decide) (by decide) rfl ?_
  refine s_goto (tgt := 55) E dX10_feed_98 (by decide) ?_
  refine s_iload E dX10_feed_55 rfl ?_
  refine s_bipush (v := 20) E dX10_feed_57 (by decide) ?_
  refine s_icmp_ge (tgt := 101) E dX10_feed_59 (by decide) (fun hh => absurd hh (by decide)) (fun _ => ?_)
  refine s_aload_n E dX10_feed_62 rfl rfl ?_
  refine s_gR (r := 99) E fg_X10_20 rfl rfl (ltn hg_22_0.1 (by decide)) (fc_r hg_22_0 (by decide +kernel)) dX10_feed_63 ?_
  refine s_aload_n E dX10_feed_66 rfl rfl ?_
  refine s_gI E fg_X10_90 rfl rfl (ltn hg_22_0.1 (by decide)) dX10_feed_67 ?_
  refine s_top (y := 0) (fc_i hg_22_0 (by decide +kernel)) ?_
  refine s_iload E dX10_feed_70 rfl ?_
  refine s_iadd E dX10_feed_72 ?_
  refine s_top (y := 17) (by decide) ?_
  refine s_aload_n E dX10_feed_73 rfl rfl ?_
  refine s_gR (r := 100) E fg_X10_24 rfl rfl (ltn hg_22_0.1 (by decide)) (fc_r hg_22_0 (by decide +kernel)) dX10_feed_74 ?_
  refine s_iload E dX10_feed_77 rfl ?_
  refine s_iconst (v := 4) E dX10_feed_79 (by decide) ?_
  refine s_idiv E dX10_feed_80 (by decide) ?_
  refine s_top (y := 4) (by decide) ?_
  refine s_iald E rfl (ltn hg_22_0.1 (by decide)) (vp_c (by decide)) dX10_feed_81 ?_
  refine s_bipush (v := 24) E dX10_feed_82 (by decide) ?_
  refine s_bipush (v := 8) E dX10_feed_84 (by decide) ?_
  refine s_iload E dX10_feed_86 rfl ?_
  refine s_iconst (v := 4) E dX10_feed_88 (by decide) ?_
  refine s_irem E dX10_feed_89 (by decide) ?_
  refine s_top (y := 1) (by decide) ?_
  refine s_imul E dX10_feed_90 ?_
  refine s_top (y := 8) (by decide) ?_
  refine s_isub E dX10_feed_91 ?_
  refine s_top (y := 16) (by decide) ?_
  refine s_ishr E dX10_feed_92 ?_
  refine s_i2b E dX10_feed_93 ?_
  refine s_bast E rfl (ltn hg_22_0.1 (by decide)) (vp_c (by decide)) dX10_feed_94 ?_
  refine s_gen (P := fun v => FrM v ∧ RfM v) ⟨(fc_upC hg_22_0 (by decide +kernel)), (fc_upC hg_22_1 (by decide +kernel))⟩ (fun g_23 hp => ?_)
  obtain ⟨hg_23_0, hg_23_1⟩ := hp
  refine s_iinc (v := 18) (L2 := [some (AR 95), some (AI x1), some (AI x2), some (AI x3), some (AI x4), some (AI x5), some (AI 18)]) E dX10_feed_95 rfl (by decide) (by decide) rfl ?_
  refine s_goto (tgt := 55) E dX10_feed_98 (by decide) ?_
  refine s_iload E dX10_feed_55 rfl ?_
  refine s_bipush (v := 20) E dX10_feed_57 (by decide) ?_
  refine s_icmp_ge (tgt := 101) E dX10_feed_59 (by decide) (fun hh => absurd hh (by decide)) (fun _ => ?_)
  refine s_aload_n E dX10_feed_62 rfl rfl ?_
  refine s_gR (r := 99) E fg_X10_20 rfl rfl (ltn hg_23_0.1 (by decide)) (fc_r hg_23_0 (by decide +kernel)) dX10_feed_63 ?_
  refine s_aload_n E dX10_feed_66 rfl rfl ?_
  refine s_gI E fg_X10_90 rfl rfl (ltn hg_23_0.1 (by decide)) dX10_feed_67 ?_
  refine s_top (y := 0) (fc_i hg_23_0 (by decide +kernel)) ?_
  refine s_iload E dX10_feed_70 rfl ?_
  refine s_iadd E dX10_feed_72 ?_
  refine s_top (y := 18) (by decide) ?_
  refine s_aload_n E dX10_feed_73 rfl rfl ?_
  refine s_gR (r := 100) E fg_X10_24 rfl rfl (ltn hg_23_0.1 (by decide)) (fc_r hg_23_0 (by decide +kernel)) dX10_feed_74 ?_
  refine s_iload E dX10_feed_77 rfl ?_
  refine s_iconst (v := 4) E dX10_feed_79 (by decide) ?_
  refine s_idiv E dX10_feed_80 (by decide) ?_
  refine s_top (y := 4) (by decide) ?_
  refine s_iald E rfl (ltn hg_23_0.1 (by decide)) (vp_c (by decide)) dX10_feed_81 ?_
  refine s_bipush (v := 24) E dX10_feed_82 (by decide) ?_
  refine s_bipush (v := 8) E dX10_feed_84 (by decide) ?_
  refine s_iload E dX10_feed_86 rfl ?_
  refine s_iconst (v := 4) E dX10_feed_88 (by decide) ?_
  refine s_irem E dX10_feed_89 (by decide) ?_
  refine s_top (y := 2) (by decide) ?_
  refine s_imul E dX10_feed_90 ?_
  refine s_top (y := 16) (by decide) ?_
  refine s_isub E dX10_feed_91 ?_
  refine s_top (y := 8) (by decide) ?_
  refine s_ishr E dX10_feed_92 ?_
  refine s_i2b E dX10_feed_93 ?_
  refine s_bast E rfl (ltn hg_23_0.1 (by decide)) (vp_c (by decide)) dX10_feed_94 ?_
  refine s_gen (P := fun v => FrM v ∧ RfM v) ⟨(fc_upC hg_23_0 (by decide +kernel)), (fc_upC hg_23_1 (by decide +kernel))⟩ (fun g_24 hp => ?_)
  obtain ⟨hg_24_0, hg_24_1⟩ := hp
  refine s_iinc (v := 19) (L2 := [some (AR 95), some (AI x1), some (AI x2), some (AI x3), some (AI x4), some (AI x5), some (AI 19)]) E dX10_feed_95 rfl (by decide) (by decide) rfl ?_
  refine s_goto (tgt := 55) E dX10_feed_98 (by decide) ?_
  refine s_iload E dX10_feed_55 rfl ?_
  refine s_bipush (v := 20) E dX10_feed_57 (by decide) ?_
  refine s_icmp_ge (tgt := 101) E dX10_feed_59 (by decide) (fun hh => absurd hh (by decide)) (fun _ => ?_)
  refine s_aload_n E dX10_feed_62 rfl rfl ?_
  refine s_gR (r := 99) E fg_X10_20 rfl rfl (ltn hg_24_0.1 (by decide)) (fc_r hg_24_0 (by decide +kernel)) dX10_feed_63 ?_
  refine s_aload_n E dX10_feed_66 rfl rfl ?_
  refine s_gI E fg_X10_90 rfl rfl (ltn hg_24_0.1 (by decide)) dX10_feed_67 ?_
  refine s_top (y := 0) (fc_i hg_24_0 (by decide +kernel)) ?_
  refine s_iload E dX10_feed_70 rfl ?_
  refine s_iadd E dX10_feed_72 ?_
  refine s_top (y := 19) (by decide) ?_
  refine s_aload_n E dX10_feed_73 rfl rfl ?_
  refine s_gR (r := 100) E fg_X10_24 rfl rfl (ltn hg_24_0.1 (by decide)) (fc_r hg_24_0 (by decide +kernel)) dX10_feed_74 ?_
  refine s_iload E dX10_feed_77 rfl ?_
  refine s_iconst (v := 4) E dX10_feed_79 (by decide) ?_
  refine s_idiv E dX10_feed_80 (by decide) ?_
  refine s_top (y := 4) (by decide) ?_
  refine s_iald E rfl (ltn hg_24_0.1 (by decide)) (vp_c (by decide)) dX10_feed_81 ?_
  refine s_bipush (v := 24) E dX10_feed_82 (by decide) ?_
  refine s_bipush (v := 8) E dX10_feed_84 (by decide) ?_
  refine s_iload E dX10_feed_86 rfl ?_
  refine s_iconst (v := 4) E dX10_feed_88 (by decide) ?_
  refine s_irem E dX10_feed_89 (by decide) ?_
  refine s_top (y := 3) (by decide) ?_
  refine s_imul E dX10_feed_90 ?_
  refine s_top (y := 24) (by decide) ?_
  refine s_isub E dX10_feed_91 ?_
  refine s_top (y := 0) (by decide) ?_
  refine s_ishr E dX10_feed_92 ?_
  refine s_i2b E dX10_feed_93 ?_
  refine s_bast E rfl (ltn hg_24_0.1 (by decide)) (vp_c (by decide)) dX10_feed_94 ?_
  refine s_gen (P := fun v => FrM v ∧ RfM v) ⟨(fc_upC hg_24_0 (by decide +kernel)), (fc_upC hg_24_1 (by decide +kernel))⟩ (fun g_25 hp => ?_)
  obtain ⟨hg_25_0, hg_25_1⟩ := hp
  refine s_iinc (v := 20) (L2 := [some (AR 95), some (AI x1), some (AI x2), some (AI x3), some (AI x4), some (AI x5), some (AI 20)]) E dX10_feed_95 rfl (by decide) (by decide) rfl ?_
  refine s_goto (tgt := 55) E dX10_feed_98 (by decide) ?_
  refine s_iload E dX10_feed_55 rfl ?_
  refine s_bipush (v := 20) E dX10_feed_57 (by decide) ?_
  refine s_icmp_ge (tgt := 101) E dX10_feed_59 (by decide) (fun _ => ?_) (fun hh => absurd (by decide) hh)
  refine s_aload_n E dX10_feed_101 rfl rfl ?_
  refine s_dupR E dX10_feed_102 ?_
  refine s_gI E fg_X10_90 rfl rfl (ltn hg_25_0.1 (by decide)) dX10_feed_103 ?_
  refine s_top (y := 0) (fc_i hg_25_0 (by decide +kernel)) ?_
  refine s_bipush (v := 20) E dX10_feed_106 (by decide) ?_
  refine s_iadd E dX10_feed_108 ?_
  refine s_top (y := 20) (by decide) ?_
  refine s_pI E fp_X10_90 (Or.inl rfl) rfl (ltn hg_25_0.1 (by decide)) dX10_feed_109 ?_
  refine s_aload_n E dX10_feed_112 rfl rfl ?_
  refine s_gI E fg_X10_90 rfl rfl (ltn hg_25_0.1 (by decide)) dX10_feed_113 ?_
  refine s_top (y := 20) rfl ?_
  exact r_int E dX10_feed_116 ⟨rfl, (fc_upC hg_25_1 (by decide +kernel))⟩
set_option maxRecDepth 20000 in
set_option maxHeartbeats 2000000 in
theorem K_X10_in_MS (l : Launch) (D : va_G) (aC : Nat → ClassId) (b : Nat) (w : XW) (x1 : Int64) (x2 : Int64) (x3 : Int64) (hw0 : FrM w) (hw1 : RfM w) : CnI l D aC b M_X10_in 0 0 0 0 [AL x1, AL x2, AL x3] w (fun r u => (r = 1 ∧ x2.toInt ≤ x1.toInt ∧ x1.toInt ≤ x3.toInt ∧ w = u) ∨ (r = 0 ∧ (x1.toInt < x2.toInt ∨ x3.toInt < x1.toInt) ∧ w = u)) := by
  refine cn_I (own := RX10) (nm := "in") (L0 := [some (AL x1), none, some (AL x2), none, some (AL x3), none]) (by decide +kernel) rfl rfl (Nat.le_of_ble_eq_true rfl) rfl ?_
  intro p e s m args below meth c E hin
  refine s_lload_n E dX10_in_0 rfl rfl ?_
  refine s_lload_n E dX10_in_1 rfl rfl ?_
  refine s_lcmp E dX10_in_2 ?_
  refine s_if_lt (tgt := 17) E dX10_in_3 (by decide) (fun h_1 => ?_) (fun h_1 => ?_)
  ·
    refine s_iconst (v := 0) E dX10_in_17 (by decide) ?_
    exact r_bool E dX10_in_18 (Or.inl rfl) (by have q0 := h_1; (try simp only [lg_cmp_lt, lg_cmp_le, lg_cmp_ge, lg_cmp_gt] at q0); (try simp only [Int32.lt_iff_toInt_lt, Int32.le_iff_toInt_le, Int64.lt_iff_toInt_lt, Int64.le_iff_toInt_le, ← Int32.toInt_inj, ← Int64.toInt_inj, Int32.toInt_toInt64] at q0); have e0 : (0 : Int32).toInt = 0 := (by decide); have e1 : (0 : Int64).toInt = 0 := (by decide); (try simp only [e0, e1] at q0); exact Or.inr ⟨rfl, by omega, rfl⟩)
  ·
    refine s_lload_n E dX10_in_6 rfl rfl ?_
    refine s_lload E dX10_in_7 rfl ?_
    refine s_lcmp E dX10_in_9 ?_
    refine s_if_gt (tgt := 17) E dX10_in_10 (by decide) (fun h_2 => ?_) (fun h_2 => ?_)
    ·
      refine s_iconst (v := 0) E dX10_in_17 (by decide) ?_
      exact r_bool E dX10_in_18 (Or.inl rfl) (by have q0 := h_1; have q1 := h_2; (try simp only [lg_cmp_lt, lg_cmp_le, lg_cmp_ge, lg_cmp_gt] at q0 q1); (try simp only [Int32.lt_iff_toInt_lt, Int32.le_iff_toInt_le, Int64.lt_iff_toInt_lt, Int64.le_iff_toInt_le, ← Int32.toInt_inj, ← Int64.toInt_inj, Int32.toInt_toInt64] at q0 q1); have e0 : (0 : Int32).toInt = 0 := (by decide); have e1 : (0 : Int64).toInt = 0 := (by decide); (try simp only [e0, e1] at q0 q1); exact Or.inr ⟨rfl, by omega, rfl⟩)
    ·
      refine s_iconst (v := 1) E dX10_in_13 (by decide) ?_
      refine s_goto (tgt := 18) E dX10_in_14 (by decide) ?_
      exact r_bool E dX10_in_18 (Or.inr rfl) (by have q0 := h_1; have q1 := h_2; (try simp only [lg_cmp_lt, lg_cmp_le, lg_cmp_ge, lg_cmp_gt] at q0 q1); (try simp only [Int32.lt_iff_toInt_lt, Int32.le_iff_toInt_le, Int64.lt_iff_toInt_lt, Int64.le_iff_toInt_le, ← Int32.toInt_inj, ← Int64.toInt_inj, Int32.toInt_toInt64] at q0 q1); have e0 : (0 : Int32).toInt = 0 := (by decide); have e1 : (0 : Int64).toInt = 0 := (by decide); (try simp only [e0, e1] at q0 q1); exact Or.inl ⟨rfl, by omega, by omega, rfl⟩)
set_option maxRecDepth 20000 in
set_option maxHeartbeats 2000000 in
theorem K_X10_end_95_MS (l : Launch) (D : va_G) (aC : Nat → ClassId) (b : Nat) (w : XW) (x1 : Int32) (hw0 : FrM w) (hw1 : RfM w) : CnI l D aC b M_X10_end 1 25 0 0 [AR 95, AI x1] w (fun r u => r = sp_end x1 ∧ RfM u) := by
  refine cn_I (own := RX10) (nm := "end") (L0 := [some (AR 95), some (AI x1)]) (by decide +kernel) rfl rfl (Nat.le_of_ble_eq_true rfl) rfl ?_
  intro p e s m args below meth c E hin
  refine s_iload_n E dX10_end_0 rfl rfl ?_
  refine s_i2l E dX10_end_1 ?_
  refine s_lconst (v := 0) E dX10_end_2 (by decide) ?_
  refine s_aload_n E dX10_end_3 rfl rfl ?_
  refine s_gI E fg_X10_90 rfl rfl (ltn hw0.1 (by decide)) dX10_end_4 ?_
  refine s_top (y := 0) (fc_i hw0 (by decide +kernel)) ?_
  refine s_i2l E dX10_end_7 ?_
  refine s_topL (y := 0) (by decide) ?_
  refine s_sI (As := [AL ((x1 : Int32).toInt64), AL 0, AL 0]) (S := []) E (K_X10_in_MS l D aC b w (((x1 : Int32).toInt64)) 0 0 hw0 hw1) cs_X10_82 rfl rfl (Nat.le_of_ble_eq_true rfl) (Nat.le_of_ble_eq_true rfl) ⟨(Nat.le_of_ble_eq_true rfl), (Nat.le_of_ble_eq_true rfl)⟩ (Nat.le_of_ble_eq_true rfl) dX10_end_8 (fun r u hp => ?_)
  rcases hp with ⟨rfl, h_1, h_2, rfl⟩ | ⟨rfl, h_3, rfl⟩
  ·
    refine s_if_ne (tgt := 16) E dX10_end_11 (by decide) (fun _ => ?_) (fun hh => absurd hh (by decide))
    refine s_aload_n E dX10_end_16 rfl rfl ?_
    refine s_iload_n E dX10_end_17 rfl rfl ?_
    refine s_pI E fp_X10_90 (Or.inl rfl) rfl (ltn hw0.1 (by decide)) dX10_end_18 ?_
    refine s_iload_n E dX10_end_21 rfl rfl ?_
    rcases (show x1 = 0 from (by have q0 := h_1; have q1 := h_2; (try simp only [lg_cmp_lt, lg_cmp_le, lg_cmp_ge, lg_cmp_gt] at q0 q1); (try simp only [Int32.lt_iff_toInt_lt, Int32.le_iff_toInt_le, Int64.lt_iff_toInt_lt, Int64.le_iff_toInt_le, ← Int32.toInt_inj, ← Int64.toInt_inj, Int32.toInt_toInt64] at q0 q1); have e0 : (0 : Int32).toInt = 0 := (by decide); have e1 : (0 : Int64).toInt = 0 := (by decide); (try simp only [e0, e1] at q0 q1); have z0 : (0 : Int32).toInt = 0 := (by decide); (simp only [← Int32.toInt_inj, z0]); omega)) with rfl
    exact r_int E dX10_end_22 ⟨(by have e0 : (0 : Int32).toInt = 0 := (by decide); have e1 : (1 : Int32).toInt = 1 := (by decide); have e2 : (2 : Int32).toInt = 2 := (by decide); have e3 : (3 : Int32).toInt = 3 := (by decide); have e4 : (4 : Int32).toInt = 4 := (by decide); have e5 : (0 : Int64).toInt = 0 := (by decide); first | decide | (unfold sp_end; (repeat' split) <;> first | rfl | (exfalso; omega))), (fc_upC hw1 (by decide +kernel))⟩
  ·
    refine s_if_ne (tgt := 16) E dX10_end_11 (by decide) (fun hh => absurd (by decide) hh) (fun _ => ?_)
    refine s_iconst (v := (-1)) E dX10_end_14 (by decide) ?_
    exact r_int E dX10_end_15 ⟨(by have q0 := h_3; (try simp only [lg_cmp_lt, lg_cmp_le, lg_cmp_ge, lg_cmp_gt] at q0); (try simp only [Int32.lt_iff_toInt_lt, Int32.le_iff_toInt_le, Int64.lt_iff_toInt_lt, Int64.le_iff_toInt_le, ← Int32.toInt_inj, ← Int64.toInt_inj, Int32.toInt_toInt64] at q0); have e0 : (0 : Int32).toInt = 0 := (by decide); have e1 : (1 : Int32).toInt = 1 := (by decide); have e2 : (2 : Int32).toInt = 2 := (by decide); have e3 : (3 : Int32).toInt = 3 := (by decide); have e4 : (4 : Int32).toInt = 4 := (by decide); have e5 : (0 : Int64).toInt = 0 := (by decide); (try simp only [e0, e1, e2, e3, e4, e5] at q0); first | decide | (unfold sp_end; (repeat' split) <;> first | rfl | (exfalso; omega))), hw1⟩
set_option maxRecDepth 20000 in
set_option maxHeartbeats 2000000 in
theorem K_X10_fault_95_MS (l : Launch) (D : va_G) (aC : Nat → ClassId) (b : Nat) (w : XW) (x1 : Int32) (hw0 : FrM w) (hw1 : RfM w) : CnI l D aC b M_X10_fault 0 0 0 0 [AR 95, AI x1] w (fun r u => r = sp_fault x1 ∧ w = u) := by
  refine cn_I (own := RX10) (nm := "fault") (L0 := [some (AR 95), some (AI x1)]) (by decide +kernel) rfl rfl (Nat.le_of_ble_eq_true rfl) rfl ?_
  intro p e s m args below meth c E hin
  refine s_iload_n E dX10_fault_0 rfl rfl ?_
  refine s_if_ne (tgt := 11) E dX10_fault_1 (by decide) (fun h_1 => ?_) (fun h_1 => ?_)
  ·
    refine s_iload_n E dX10_fault_11 rfl rfl ?_
    refine s_iconst (v := 1) E dX10_fault_12 (by decide) ?_
    refine s_icmp_ne (tgt := 23) E dX10_fault_13 (by decide) (fun h_2 => ?_) (fun h_2 => ?_)
    ·
      refine s_iconst (v := (-1)) E dX10_fault_23 (by decide) ?_
      exact r_int E dX10_fault_24 ⟨(by have q0 := h_1; have q1 := h_2; (try simp only [lg_cmp_lt, lg_cmp_le, lg_cmp_ge, lg_cmp_gt] at q0 q1); (try simp only [Int32.lt_iff_toInt_lt, Int32.le_iff_toInt_le, Int64.lt_iff_toInt_lt, Int64.le_iff_toInt_le, ← Int32.toInt_inj, ← Int64.toInt_inj, Int32.toInt_toInt64] at q0 q1); have e0 : (0 : Int32).toInt = 0 := (by decide); have e1 : (1 : Int32).toInt = 1 := (by decide); have e2 : (2 : Int32).toInt = 2 := (by decide); have e3 : (3 : Int32).toInt = 3 := (by decide); have e4 : (4 : Int32).toInt = 4 := (by decide); have e5 : (0 : Int64).toInt = 0 := (by decide); (try simp only [e0, e1, e2, e3, e4, e5] at q0 q1); first | decide | (unfold sp_fault; (repeat' split) <;> first | rfl | (exfalso; omega))), rfl⟩
    ·
      refine s_aload_n E dX10_fault_16 rfl rfl ?_
      refine s_gI E fg_X10_27 rfl rfl (ltn hw0.1 (by decide)) dX10_fault_17 ?_
      refine s_top (y := (-1)) (fc_i hw0 (by decide +kernel)) ?_
      refine s_goto (tgt := 24) E dX10_fault_20 (by decide) ?_
      exact r_int E dX10_fault_24 ⟨(by have q0 := h_1; have q1 := h_2; (try simp only [lg_cmp_lt, lg_cmp_le, lg_cmp_ge, lg_cmp_gt] at q0 q1); (try simp only [Int32.lt_iff_toInt_lt, Int32.le_iff_toInt_le, Int64.lt_iff_toInt_lt, Int64.le_iff_toInt_le, ← Int32.toInt_inj, ← Int64.toInt_inj, Int32.toInt_toInt64] at q0 q1); have e0 : (0 : Int32).toInt = 0 := (by decide); have e1 : (1 : Int32).toInt = 1 := (by decide); have e2 : (2 : Int32).toInt = 2 := (by decide); have e3 : (3 : Int32).toInt = 3 := (by decide); have e4 : (4 : Int32).toInt = 4 := (by decide); have e5 : (0 : Int64).toInt = 0 := (by decide); (try simp only [e0, e1, e2, e3, e4, e5] at q0 q1); first | decide | (unfold sp_fault; (repeat' split) <;> first | rfl | (exfalso; omega))), rfl⟩
  ·
    refine s_aload_n E dX10_fault_4 rfl rfl ?_
    refine s_gI E fg_X10_127 rfl rfl (ltn hw0.1 (by decide)) dX10_fault_5 ?_
    refine s_top (y := 0) (fc_i hw0 (by decide +kernel)) ?_
    refine s_goto (tgt := 24) E dX10_fault_8 (by decide) ?_
    exact r_int E dX10_fault_24 ⟨(by have q0 := h_1; (try simp only [lg_cmp_lt, lg_cmp_le, lg_cmp_ge, lg_cmp_gt] at q0); (try simp only [Int32.lt_iff_toInt_lt, Int32.le_iff_toInt_le, Int64.lt_iff_toInt_lt, Int64.le_iff_toInt_le, ← Int32.toInt_inj, ← Int64.toInt_inj, Int32.toInt_toInt64] at q0); have e0 : (0 : Int32).toInt = 0 := (by decide); have e1 : (1 : Int32).toInt = 1 := (by decide); have e2 : (2 : Int32).toInt = 2 := (by decide); have e3 : (3 : Int32).toInt = 3 := (by decide); have e4 : (4 : Int32).toInt = 4 := (by decide); have e5 : (0 : Int64).toInt = 0 := (by decide); (try simp only [e0, e1, e2, e3, e4, e5] at q0); first | decide | (unfold sp_fault; (repeat' split) <;> first | rfl | (exfalso; omega))), rfl⟩
set_option maxRecDepth 20000 in
set_option maxHeartbeats 2000000 in
theorem K_X10_isDoor_95_MS (l : Launch) (D : va_G) (aC : Nat → ClassId) (b : Nat) (w : XW) (x1 : Int32) (hw0 : FrM w) (hw1 : RfM w) : CnI l D aC b M_X10_isDoor 1 25 0 0 [AR 95, AI x1] w (fun r u => r = 0 ∧ w = u) := by
  refine cn_I (own := RX10) (nm := "isDoor") (L0 := [some (AR 95), some (AI x1)]) (by decide +kernel) rfl rfl (Nat.le_of_ble_eq_true rfl) rfl ?_
  intro p e s m args below meth c E hin
  refine s_iload_n E dX10_isDoor_0 rfl rfl ?_
  refine s_i2l E dX10_isDoor_1 ?_
  refine s_lconst (v := 0) E dX10_isDoor_2 (by decide) ?_
  refine s_aload_n E dX10_isDoor_3 rfl rfl ?_
  refine s_gR (r := 96) E fg_X10_9 rfl rfl (ltn hw0.1 (by decide)) (fc_r hw0 (by decide +kernel)) dX10_isDoor_4 ?_
  refine s_iconst (v := 4) E dX10_isDoor_7 (by decide) ?_
  refine s_iald E rfl (ltn hw0.1 (by decide)) (vp_c (by decide)) dX10_isDoor_8 ?_
  refine s_top (y := 0) (fc_z hw0 (q := (96, 134)) (by decide +kernel) (by decide)) ?_
  refine s_iconst (v := 1) E dX10_isDoor_9 (by decide) ?_
  refine s_isub E dX10_isDoor_10 ?_
  refine s_top (y := (-1)) (by decide) ?_
  refine s_i2l E dX10_isDoor_11 ?_
  refine s_topL (y := (-1)) (by decide) ?_
  refine s_sI (As := [AL ((x1 : Int32).toInt64), AL 0, AL (-1)]) (S := []) E (K_X10_in_MS l D aC b w (((x1 : Int32).toInt64)) 0 (-1) hw0 hw1) cs_X10_82 rfl rfl (Nat.le_of_ble_eq_true rfl) (Nat.le_of_ble_eq_true rfl) ⟨(Nat.le_of_ble_eq_true rfl), (Nat.le_of_ble_eq_true rfl)⟩ (Nat.le_of_ble_eq_true rfl) dX10_isDoor_12 (fun r u hp => ?_)
  rcases hp with ⟨rfl, h_1, h_2, rfl⟩ | ⟨rfl, h_3, rfl⟩
  · exact (by have q0 := h_1; have q1 := h_2; (try simp only [lg_cmp_lt, lg_cmp_le, lg_cmp_ge, lg_cmp_gt] at q0 q1); (try simp only [Int32.lt_iff_toInt_lt, Int32.le_iff_toInt_le, Int64.lt_iff_toInt_lt, Int64.le_iff_toInt_le, ← Int32.toInt_inj, ← Int64.toInt_inj, Int32.toInt_toInt64] at q0 q1); have e0 : (0 : Int32).toInt = 0 := (by decide); have e1 : ((-1) : Int64).toInt = (-1) := (by decide); have e2 : (0 : Int64).toInt = 0 := (by decide); (try simp only [e0, e1, e2] at q0 q1); omega)
  ·
    exact r_bool E dX10_isDoor_15 (Or.inl rfl) ⟨rfl, rfl⟩
set_option maxRecDepth 20000 in
set_option maxHeartbeats 2000000 in
theorem K_X10_door_95_MS (l : Launch) (D : va_G) (aC : Nat → ClassId) (b : Nat) (w : XW) (x1 : Int32) (x2 : Int32) (hw0 : FrM w) (hw1 : RfM w) : CnI l D aC b M_X10_door 2 46 0 0 [AR 95, AI x1, AI x2] w (fun r u => r = (-2) ∧ w = u) := by
  refine cn_I (own := RX10) (nm := "door") (L0 := [some (AR 95), some (AI x1), some (AI x2)]) (by decide +kernel) rfl rfl (Nat.le_of_ble_eq_true rfl) rfl ?_
  intro p e s m args below meth c E hin
  refine s_aload_n E dX10_door_0 rfl rfl ?_
  refine s_iload_n E dX10_door_1 rfl rfl ?_
  refine s_vI (As := [AI x1]) (S := []) E (K_X10_isDoor_95_MS l D aC b w x1 hw0 hw1) cv_X10_218 rfl rfl rfl (ltn hw0.1 (by decide)) (Nat.le_of_ble_eq_true rfl) (Nat.le_of_ble_eq_true rfl) ⟨(Nat.le_of_ble_eq_true rfl), (Nat.le_of_ble_eq_true rfl)⟩ (Nat.le_of_ble_eq_true rfl) dX10_door_2 (fun r u hp => ?_)
  obtain ⟨rfl, rfl⟩ := hp
  refine s_if_eq (tgt := 36) E dX10_door_5 (by decide) (fun _ => ?_) (fun hh => absurd (by decide) hh)
  refine s_bipush (v := (-2)) E dX10_door_36 (by decide) ?_
  exact r_int E dX10_door_38 ⟨rfl, rfl⟩
set_option maxRecDepth 20000 in
set_option maxHeartbeats 2000000 in
theorem K_X10_isLady_95_MS (l : Launch) (D : va_G) (aC : Nat → ClassId) (b : Nat) (w : XW) (x1 : Int64) (hw0 : FrM w) (hw1 : RfM w) : CnI l D aC b M_X10_isLady 1 25 0 0 [AR 95, AL x1] w (fun r u => r = 0 ∧ w = u) := by
  refine cn_I (own := RX10) (nm := "isLady") (L0 := [some (AR 95), some (AL x1), none]) (by decide +kernel) rfl rfl (Nat.le_of_ble_eq_true rfl) rfl ?_
  intro p e s m args below meth c E hin
  refine s_lload_n E dX10_isLady_0 rfl rfl ?_
  refine s_lconst (v := 0) E dX10_isLady_1 (by decide) ?_
  refine s_aload_n E dX10_isLady_2 rfl rfl ?_
  refine s_gR (r := 96) E fg_X10_9 rfl rfl (ltn hw0.1 (by decide)) (fc_r hw0 (by decide +kernel)) dX10_isLady_3 ?_
  refine s_iconst (v := 5) E dX10_isLady_6 (by decide) ?_
  refine s_iald E rfl (ltn hw0.1 (by decide)) (vp_c (by decide)) dX10_isLady_7 ?_
  refine s_top (y := 0) (fc_z hw0 (q := (96, 134)) (by decide +kernel) (by decide)) ?_
  refine s_iconst (v := 1) E dX10_isLady_8 (by decide) ?_
  refine s_isub E dX10_isLady_9 ?_
  refine s_top (y := (-1)) (by decide) ?_
  refine s_i2l E dX10_isLady_10 ?_
  refine s_topL (y := (-1)) (by decide) ?_
  refine s_sI (As := [AL x1, AL 0, AL (-1)]) (S := []) E (K_X10_in_MS l D aC b w x1 0 (-1) hw0 hw1) cs_X10_82 rfl rfl (Nat.le_of_ble_eq_true rfl) (Nat.le_of_ble_eq_true rfl) ⟨(Nat.le_of_ble_eq_true rfl), (Nat.le_of_ble_eq_true rfl)⟩ (Nat.le_of_ble_eq_true rfl) dX10_isLady_11 (fun r u hp => ?_)
  rcases hp with ⟨rfl, h_1, h_2, rfl⟩ | ⟨rfl, h_3, rfl⟩
  · exact (by have q0 := h_1; have q1 := h_2; (try simp only [lg_cmp_lt, lg_cmp_le, lg_cmp_ge, lg_cmp_gt] at q0 q1); (try simp only [Int32.lt_iff_toInt_lt, Int32.le_iff_toInt_le, Int64.lt_iff_toInt_lt, Int64.le_iff_toInt_le, ← Int32.toInt_inj, ← Int64.toInt_inj, Int32.toInt_toInt64] at q0 q1); have e0 : (0 : Int32).toInt = 0 := (by decide); have e1 : ((-1) : Int64).toInt = (-1) := (by decide); have e2 : (0 : Int64).toInt = 0 := (by decide); (try simp only [e0, e1, e2] at q0 q1); omega)
  ·
    exact r_bool E dX10_isLady_14 (Or.inl rfl) ⟨rfl, rfl⟩
set_option maxRecDepth 20000 in
set_option maxHeartbeats 2000000 in
theorem K_X10_lady_95_MS (l : Launch) (D : va_G) (aC : Nat → ClassId) (b : Nat) (w : XW) (x1 : Int32) (x2 : Int32) (hw0 : FrM w) (hw1 : RfM w) : CnI l D aC b M_X10_lady 2 47 0 0 [AR 95, AI x1, AI x2] w (fun r u => r = (-2) ∧ w = u) := by
  refine cn_I (own := RX10) (nm := "lady") (L0 := [some (AR 95), some (AI x1), some (AI x2)]) (by decide +kernel) rfl rfl (Nat.le_of_ble_eq_true rfl) rfl ?_
  intro p e s m args below meth c E hin
  refine s_aload_n E dX10_lady_0 rfl rfl ?_
  refine s_iload_n E dX10_lady_1 rfl rfl ?_
  refine s_i2l E dX10_lady_2 ?_
  refine s_vI (As := [AL ((x1 : Int32).toInt64)]) (S := []) E (K_X10_isLady_95_MS l D aC b w (((x1 : Int32).toInt64)) hw0 hw1) cv_X10_222 rfl rfl rfl (ltn hw0.1 (by decide)) (Nat.le_of_ble_eq_true rfl) (Nat.le_of_ble_eq_true rfl) ⟨(Nat.le_of_ble_eq_true rfl), (Nat.le_of_ble_eq_true rfl)⟩ (Nat.le_of_ble_eq_true rfl) dX10_lady_3 (fun r u hp => ?_)
  obtain ⟨rfl, rfl⟩ := hp
  refine s_if_eq (tgt := 35) E dX10_lady_6 (by decide) (fun _ => ?_) (fun hh => absurd (by decide) hh)
  refine s_bipush (v := (-2)) E dX10_lady_35 (by decide) ?_
  exact r_int E dX10_lady_37 ⟨rfl, rfl⟩
set_option maxRecDepth 20000 in
set_option maxHeartbeats 2000000 in
theorem K_X10_layMinisters_95_MS (l : Launch) (D : va_G) (aC : Nat → ClassId) (b : Nat) (w : XW)  (hw0 : FrM w) (hw1 : RfM w) : CnV l D aC b M_X10_layMinisters 0 0 0 0 [AR 95] w (fun u => FrM u ∧ RfM u) := by
  refine cn_V (own := RX10) (nm := "layMinisters") (L0 := [some (AR 95), none, none]) (by decide +kernel) rfl rfl (Nat.le_of_ble_eq_true rfl) rfl ?_
  intro p e s m args below meth c E hin
  refine s_iconst (v := 0) E dX10_layMinisters_0 (by decide) ?_
  refine s_istore_n (L2 := [some (AR 95), some (AI 0), none]) E dX10_layMinisters_1 rfl (by decide) rfl ?_
  refine s_iload_n E dX10_layMinisters_2 rfl rfl ?_
  refine s_aload_n E dX10_layMinisters_3 rfl rfl ?_
  refine s_gR (r := 96) E fg_X10_9 rfl rfl (ltn hw0.1 (by decide)) (fc_r hw0 (by decide +kernel)) dX10_layMinisters_4 ?_
  refine s_bipush (v := 6) E dX10_layMinisters_7 (by decide) ?_
  refine s_iald E rfl (ltn hw0.1 (by decide)) (vp_c (by decide)) dX10_layMinisters_9 ?_
  refine s_top (y := 0) (fc_z hw0 (q := (96, 134)) (by decide +kernel) (by decide)) ?_
  refine s_icmp_ge (tgt := 36) E dX10_layMinisters_10 (by decide) (fun _ => ?_) (fun hh => absurd (by decide) hh)
  refine s_iconst (v := 0) E dX10_layMinisters_36 (by decide) ?_
  refine s_istore_n (L2 := [some (AR 95), some (AI 0), none]) E dX10_layMinisters_37 rfl (by decide) rfl ?_
  refine s_iload_n E dX10_layMinisters_38 rfl rfl ?_
  refine s_aload_n E dX10_layMinisters_39 rfl rfl ?_
  refine s_gR (r := 96) E fg_X10_9 rfl rfl (ltn hw0.1 (by decide)) (fc_r hw0 (by decide +kernel)) dX10_layMinisters_40 ?_
  refine s_bipush (v := 8) E dX10_layMinisters_43 (by decide) ?_
  refine s_iald E rfl (ltn hw0.1 (by decide)) (vp_c (by decide)) dX10_layMinisters_45 ?_
  refine s_top (y := 0) (fc_z hw0 (q := (96, 134)) (by decide +kernel) (by decide)) ?_
  refine s_icmp_ge (tgt := 85) E dX10_layMinisters_46 (by decide) (fun _ => ?_) (fun hh => absurd (by decide) hh)
  refine s_iconst (v := 0) E dX10_layMinisters_85 (by decide) ?_
  refine s_istore_n (L2 := [some (AR 95), some (AI 0), none]) E dX10_layMinisters_86 rfl (by decide) rfl ?_
  refine s_iload_n E dX10_layMinisters_87 rfl rfl ?_
  refine s_bipush (v := 6) E dX10_layMinisters_88 (by decide) ?_
  refine s_icmp_ge (tgt := 106) E dX10_layMinisters_90 (by decide) (fun hh => absurd hh (by decide)) (fun _ => ?_)
  refine s_aload_n E dX10_layMinisters_93 rfl rfl ?_
  refine s_gR (r := 105) E fg_X10_43 rfl rfl (ltn hw0.1 (by decide)) (fc_r hw0 (by decide +kernel)) dX10_layMinisters_94 ?_
  refine s_iload_n E dX10_layMinisters_97 rfl rfl ?_
  refine s_iconst (v := 0) E dX10_layMinisters_98 (by decide) ?_
  refine s_iast E rfl (ltn hw0.1 (by decide)) (vp_c (by decide)) dX10_layMinisters_99 ?_
  refine s_gen (P := fun v => FrM v ∧ RfM v) ⟨(fc_upC hw0 (by decide +kernel)), (fc_upC hw1 (by decide +kernel))⟩ (fun g_1 hp => ?_)
  obtain ⟨hg_1_0, hg_1_1⟩ := hp
  refine s_iinc (v := 1) (L2 := [some (AR 95), some (AI 1), none]) E dX10_layMinisters_100 rfl (by decide) (by decide) rfl ?_
  refine s_goto (tgt := 87) E dX10_layMinisters_103 (by decide) ?_
  refine s_iload_n E dX10_layMinisters_87 rfl rfl ?_
  refine s_bipush (v := 6) E dX10_layMinisters_88 (by decide) ?_
  refine s_icmp_ge (tgt := 106) E dX10_layMinisters_90 (by decide) (fun hh => absurd hh (by decide)) (fun _ => ?_)
  refine s_aload_n E dX10_layMinisters_93 rfl rfl ?_
  refine s_gR (r := 105) E fg_X10_43 rfl rfl (ltn hg_1_0.1 (by decide)) (fc_r hg_1_0 (by decide +kernel)) dX10_layMinisters_94 ?_
  refine s_iload_n E dX10_layMinisters_97 rfl rfl ?_
  refine s_iconst (v := 0) E dX10_layMinisters_98 (by decide) ?_
  refine s_iast E rfl (ltn hg_1_0.1 (by decide)) (vp_c (by decide)) dX10_layMinisters_99 ?_
  refine s_gen (P := fun v => FrM v ∧ RfM v) ⟨(fc_upC hg_1_0 (by decide +kernel)), (fc_upC hg_1_1 (by decide +kernel))⟩ (fun g_2 hp => ?_)
  obtain ⟨hg_2_0, hg_2_1⟩ := hp
  refine s_iinc (v := 2) (L2 := [some (AR 95), some (AI 2), none]) E dX10_layMinisters_100 rfl (by decide) (by decide) rfl ?_
  refine s_goto (tgt := 87) E dX10_layMinisters_103 (by decide) ?_
  refine s_iload_n E dX10_layMinisters_87 rfl rfl ?_
  refine s_bipush (v := 6) E dX10_layMinisters_88 (by decide) ?_
  refine s_icmp_ge (tgt := 106) E dX10_layMinisters_90 (by decide) (fun hh => absurd hh (by decide)) (fun _ => ?_)
  refine s_aload_n E dX10_layMinisters_93 rfl rfl ?_
  refine s_gR (r := 105) E fg_X10_43 rfl rfl (ltn hg_2_0.1 (by decide)) (fc_r hg_2_0 (by decide +kernel)) dX10_layMinisters_94 ?_
  refine s_iload_n E dX10_layMinisters_97 rfl rfl ?_
  refine s_iconst (v := 0) E dX10_layMinisters_98 (by decide) ?_
  refine s_iast E rfl (ltn hg_2_0.1 (by decide)) (vp_c (by decide)) dX10_layMinisters_99 ?_
  refine s_gen (P := fun v => FrM v ∧ RfM v) ⟨(fc_upC hg_2_0 (by decide +kernel)), (fc_upC hg_2_1 (by decide +kernel))⟩ (fun g_3 hp => ?_)
  obtain ⟨hg_3_0, hg_3_1⟩ := hp
  refine s_iinc (v := 3) (L2 := [some (AR 95), some (AI 3), none]) E dX10_layMinisters_100 rfl (by decide) (by decide) rfl ?_
  refine s_goto (tgt := 87) E dX10_layMinisters_103 (by decide) ?_
  refine s_iload_n E dX10_layMinisters_87 rfl rfl ?_
  refine s_bipush (v := 6) E dX10_layMinisters_88 (by decide) ?_
  refine s_icmp_ge (tgt := 106) E dX10_layMinisters_90 (by decide) (fun hh => absurd hh (by decide)) (fun _ => ?_)
  refine s_aload_n E dX10_layMinisters_93 rfl rfl ?_
  refine s_gR (r := 105) E fg_X10_43 rfl rfl (ltn hg_3_0.1 (by decide)) (fc_r hg_3_0 (by decide +kernel)) dX10_layMinisters_94 ?_
  refine s_iload_n E dX10_layMinisters_97 rfl rfl ?_
  refine s_iconst (v := 0) E dX10_layMinisters_98 (by decide) ?_
  refine s_iast E rfl (ltn hg_3_0.1 (by decide)) (vp_c (by decide)) dX10_layMinisters_99 ?_
  refine s_gen (P := fun v => FrM v ∧ RfM v) ⟨(fc_upC hg_3_0 (by decide +kernel)), (fc_upC hg_3_1 (by decide +kernel))⟩ (fun g_4 hp => ?_)
  obtain ⟨hg_4_0, hg_4_1⟩ := hp
  refine s_iinc (v := 4) (L2 := [some (AR 95), some (AI 4), none]) E dX10_layMinisters_100 rfl (by decide) (by decide) rfl ?_
  refine s_goto (tgt := 87) E dX10_layMinisters_103 (by decide) ?_
  refine s_iload_n E dX10_layMinisters_87 rfl rfl ?_
  refine s_bipush (v := 6) E dX10_layMinisters_88 (by decide) ?_
  refine s_icmp_ge (tgt := 106) E dX10_layMinisters_90 (by decide) (fun hh => absurd hh (by decide)) (fun _ => ?_)
  refine s_aload_n E dX10_layMinisters_93 rfl rfl ?_
  refine s_gR (r := 105) E fg_X10_43 rfl rfl (ltn hg_4_0.1 (by decide)) (fc_r hg_4_0 (by decide +kernel)) dX10_layMinisters_94 ?_
  refine s_iload_n E dX10_layMinisters_97 rfl rfl ?_
  refine s_iconst (v := 0) E dX10_layMinisters_98 (by decide) ?_
  refine s_iast E rfl (ltn hg_4_0.1 (by decide)) (vp_c (by decide)) dX10_layMinisters_99 ?_
  refine s_gen (P := fun v => FrM v ∧ RfM v) ⟨(fc_upC hg_4_0 (by decide +kernel)), (fc_upC hg_4_1 (by decide +kernel))⟩ (fun g_5 hp => ?_)
  obtain ⟨hg_5_0, hg_5_1⟩ := hp
  refine s_iinc (v := 5) (L2 := [some (AR 95), some (AI 5), none]) E dX10_layMinisters_100 rfl (by decide) (by decide) rfl ?_
  refine s_goto (tgt := 87) E dX10_layMinisters_103 (by decide) ?_
  refine s_iload_n E dX10_layMinisters_87 rfl rfl ?_
  refine s_bipush (v := 6) E dX10_layMinisters_88 (by decide) ?_
  refine s_icmp_ge (tgt := 106) E dX10_layMinisters_90 (by decide) (fun hh => absurd hh (by decide)) (fun _ => ?_)
  refine s_aload_n E dX10_layMinisters_93 rfl rfl ?_
  refine s_gR (r := 105) E fg_X10_43 rfl rfl (ltn hg_5_0.1 (by decide)) (fc_r hg_5_0 (by decide +kernel)) dX10_layMinisters_94 ?_
  refine s_iload_n E dX10_layMinisters_97 rfl rfl ?_
  refine s_iconst (v := 0) E dX10_layMinisters_98 (by decide) ?_
  refine s_iast E rfl (ltn hg_5_0.1 (by decide)) (vp_c (by decide)) dX10_layMinisters_99 ?_
  refine s_gen (P := fun v => FrM v ∧ RfM v) ⟨(fc_upC hg_5_0 (by decide +kernel)), (fc_upC hg_5_1 (by decide +kernel))⟩ (fun g_6 hp => ?_)
  obtain ⟨hg_6_0, hg_6_1⟩ := hp
  refine s_iinc (v := 6) (L2 := [some (AR 95), some (AI 6), none]) E dX10_layMinisters_100 rfl (by decide) (by decide) rfl ?_
  refine s_goto (tgt := 87) E dX10_layMinisters_103 (by decide) ?_
  refine s_iload_n E dX10_layMinisters_87 rfl rfl ?_
  refine s_bipush (v := 6) E dX10_layMinisters_88 (by decide) ?_
  refine s_icmp_ge (tgt := 106) E dX10_layMinisters_90 (by decide) (fun _ => ?_) (fun hh => absurd (by decide) hh)
  refine s_iconst (v := 0) E dX10_layMinisters_106 (by decide) ?_
  refine s_istore_n (L2 := [some (AR 95), some (AI 0), none]) E dX10_layMinisters_107 rfl (by decide) rfl ?_
  refine s_iload_n E dX10_layMinisters_108 rfl rfl ?_
  refine s_aload_n E dX10_layMinisters_109 rfl rfl ?_
  refine s_gR (r := 96) E fg_X10_9 rfl rfl (ltn hg_6_0.1 (by decide)) (fc_r hg_6_0 (by decide +kernel)) dX10_layMinisters_110 ?_
  refine s_bipush (v := 6) E dX10_layMinisters_113 (by decide) ?_
  refine s_iald E rfl (ltn hg_6_0.1 (by decide)) (vp_c (by decide)) dX10_layMinisters_115 ?_
  refine s_top (y := 0) (fc_z hg_6_0 (q := (96, 134)) (by decide +kernel) (by decide)) ?_
  refine s_icmp_ge (tgt := 152) E dX10_layMinisters_116 (by decide) (fun _ => ?_) (fun hh => absurd (by decide) hh)
  exact r_void E dX10_layMinisters_152 ⟨hg_6_0, hg_6_1⟩
set_option maxRecDepth 20000 in
set_option maxHeartbeats 2000000 in
theorem K_X10_layWays_95_MS (l : Launch) (D : va_G) (aC : Nat → ClassId) (b : Nat) (w : XW)  (hw0 : FrM w) (hw1 : RfM w) : CnV l D aC b M_X10_layWays 0 0 0 0 [AR 95] w (fun u => FrM u ∧ RfM u) := by
  refine cn_V (own := RX10) (nm := "layWays") (L0 := [some (AR 95), none, none, none, none, none, none, none]) (by decide +kernel) rfl rfl (Nat.le_of_ble_eq_true rfl) rfl ?_
  intro p e s m args below meth c E hin
  refine s_aload_n E dX10_layWays_0 rfl rfl ?_
  refine s_gR (r := 96) E fg_X10_9 rfl rfl (ltn hw0.1 (by decide)) (fc_r hw0 (by decide +kernel)) dX10_layWays_1 ?_
  refine s_iconst (v := 0) E dX10_layWays_4 (by decide) ?_
  refine s_iald E rfl (ltn hw0.1 (by decide)) (vp_c (by decide)) dX10_layWays_5 ?_
  refine s_top (y := 0) (fc_z hw0 (q := (96, 134)) (by decide +kernel) (by decide)) ?_
  refine s_istore_n (L2 := [some (AR 95), some (AI 0), none, none, none, none, none, none]) E dX10_layWays_6 rfl (by decide) rfl ?_
  refine s_iconst (v := 1) E dX10_layWays_7 (by decide) ?_
  refine s_istore_n (L2 := [some (AR 95), some (AI 0), some (AI 1), none, none, none, none, none]) E dX10_layWays_8 rfl (by decide) rfl ?_
  refine s_loop (P := fun v9 => FrM v9 ∧ RfM v9) (Lf := fun i9 => [some (AR 95), some (AI 0), some (AI (nI i9)), none, none, none, none, none]) 1 10 ⟨hw0, hw1⟩ ?_ ?_ (by decide)
  · intro i9 v9 hj9 hk9 hv9 ih9
    obtain ⟨hv9_0, hv9_1⟩ := hv9
    refine s_loc (L2 := [some (AR 95), some (AI 0), some (AI (nI i9)), none, none, none, none, none]) rfl ?_
    refine s_iload_n E dX10_layWays_9 rfl rfl ?_
    refine s_bipush (v := 9) E dX10_layWays_10 (by decide) ?_
    refine s_icmp_gt (tgt := 286) E dX10_layWays_12 (by decide) (fun hh => (by have q0 := hh; have q1 := (nI_toInt (n := i9) (by omega)); (try simp only [lg_cmp_lt, lg_cmp_le, lg_cmp_ge, lg_cmp_gt] at q0 q1); (try simp only [Int32.lt_iff_toInt_lt, Int32.le_iff_toInt_le, Int64.lt_iff_toInt_lt, Int64.le_iff_toInt_le, ← Int32.toInt_inj, ← Int64.toInt_inj, Int32.toInt_toInt64] at q0 q1); have e0 : (0 : Int32).toInt = 0 := (by decide); have e1 : (9 : Int32).toInt = 9 := (by decide); have e2 : (0 : Int64).toInt = 0 := (by decide); (try simp only [e0, e1, e2] at q0 q1); omega)) (fun _ => ?_)
    refine s_iload_n E dX10_layWays_15 rfl rfl ?_
    refine s_bipush (v := 8) E dX10_layWays_16 (by decide) ?_
    refine s_imul E dX10_layWays_18 ?_
    refine s_top (y := (nI ((i9) * 8))) (nI_mulc (i9) (8)) ?_
    refine s_bipush (v := 8) E dX10_layWays_19 (by decide) ?_
    refine s_imul E dX10_layWays_21 ?_
    refine s_top (y := (nI (((i9) * 8) * 8))) (nI_mulc ((i9) * 8) (8)) ?_
    refine s_istore_n (L2 := [some (AR 95), some (AI 0), some (AI (nI i9)), some (AI (nI (((i9) * 8) * 8))), none, none, none, none]) E dX10_layWays_22 rfl (by decide) rfl ?_
    refine s_iconst (v := 0) E dX10_layWays_23 (by decide) ?_
    refine s_istore (L2 := [some (AR 95), some (AI 0), some (AI (nI i9)), some (AI (nI (((i9) * 8) * 8))), some (AI 0), none, none, none]) E dX10_layWays_24 (by decide) rfl ?_
    refine s_loop (P := fun v26 => FrM v26 ∧ RfM v26) (Lf := fun i26 => [some (AR 95), some (AI 0), some (AI (nI i9)), some (AI (nI (((i9) * 8) * 8))), some (AI (nI i26)), none, none, none]) 0 64 ⟨hv9_0, hv9_1⟩ ?_ ?_ (by decide)
    · intro i26 v26 hj26 hk26 hv26 ih26
      obtain ⟨hv26_0, hv26_1⟩ := hv26
      refine s_loc (L2 := [some (AR 95), some (AI 0), some (AI (nI i9)), some (AI (nI (((i9) * 8) * 8))), some (AI (nI i26)), none, none, none]) rfl ?_
      refine s_iload E dX10_layWays_26 rfl ?_
      refine s_bipush (v := 64) E dX10_layWays_28 (by decide) ?_
      refine s_icmp_ge (tgt := 67) E dX10_layWays_30 (by decide) (fun hh => (by have q0 := hh; have q1 := (nI_toInt (n := i26) (by omega)); (try simp only [lg_cmp_lt, lg_cmp_le, lg_cmp_ge, lg_cmp_gt] at q0 q1); (try simp only [Int32.lt_iff_toInt_lt, Int32.le_iff_toInt_le, Int64.lt_iff_toInt_lt, Int64.le_iff_toInt_le, ← Int32.toInt_inj, ← Int64.toInt_inj, Int32.toInt_toInt64] at q0 q1); have e0 : (0 : Int32).toInt = 0 := (by decide); have e1 : (64 : Int32).toInt = 64 := (by decide); have e2 : (0 : Int64).toInt = 0 := (by decide); (try simp only [e0, e1, e2] at q0 q1); omega)) (fun _ => ?_)
      refine s_aload_n E dX10_layWays_33 rfl rfl ?_
      refine s_gR (r := 102) E fg_X10_34 rfl rfl (ltn hv26_0.1 (by decide)) (fc_r hv26_0 (by decide +kernel)) dX10_layWays_34 ?_
      refine s_iload_n E dX10_layWays_37 rfl rfl ?_
      refine s_iload E dX10_layWays_38 rfl ?_
      refine s_iadd E dX10_layWays_40 ?_
      refine s_top (y := (nI (((i9) * 8) * 8 + i26))) (nI_add (((i9) * 8) * 8) (i26)) ?_
      refine s_iload E dX10_layWays_41 rfl ?_
      refine s_bipush (v := 8) E dX10_layWays_43 (by decide) ?_
      refine s_idiv E dX10_layWays_45 (by decide) ?_
      refine s_iload E dX10_layWays_46 rfl ?_
      refine s_bipush (v := 8) E dX10_layWays_48 (by decide) ?_
      refine s_irem E dX10_layWays_50 (by decide) ?_
      refine s_icmp_ne (tgt := 58) E dX10_layWays_51 (by decide) (fun h_1 => ?_) (fun h_1 => ?_)
      ·
        refine s_ldc E k_1513 rfl dX10_layWays_58 ?_
        refine s_iast E rfl (ltn hv26_0.1 (by decide)) (vp_in_nI (n := ((i9) * 8) * 8 + i26) (by omega) (by decide)) dX10_layWays_60 ?_
        refine s_iinc (v := (nI (i26 + 1))) (L2 := [some (AR 95), some (AI 0), some (AI (nI i9)), some (AI (nI (((i9) * 8) * 8))), some (AI (nI (i26 + 1))), none, none, none]) E dX10_layWays_61 rfl (nI_1 (i26)) (by decide) rfl ?_
        refine s_goto (tgt := 26) E dX10_layWays_64 (by decide) ?_
        exact ih26 (upI v26 102 (nI (((i9) * 8) * 8 + i26)).toNatClampNeg 1000000000) ⟨(fc_upC hv26_0 (by decide +kernel)), (fc_upC hv26_1 (by decide +kernel))⟩
      ·
        refine s_iconst (v := 0) E dX10_layWays_54 (by decide) ?_
        refine s_goto (tgt := 60) E dX10_layWays_55 (by decide) ?_
        refine s_iast E rfl (ltn hv26_0.1 (by decide)) (vp_in_nI (n := ((i9) * 8) * 8 + i26) (by omega) (by decide)) dX10_layWays_60 ?_
        refine s_iinc (v := (nI (i26 + 1))) (L2 := [some (AR 95), some (AI 0), some (AI (nI i9)), some (AI (nI (((i9) * 8) * 8))), some (AI (nI (i26 + 1))), none, none, none]) E dX10_layWays_61 rfl (nI_1 (i26)) (by decide) rfl ?_
        refine s_goto (tgt := 26) E dX10_layWays_64 (by decide) ?_
        exact ih26 (upI v26 102 (nI (((i9) * 8) * 8 + i26)).toNatClampNeg 0) ⟨(fc_upC hv26_0 (by decide +kernel)), (fc_upC hv26_1 (by decide +kernel))⟩
    · intro v26 hv26
      obtain ⟨hv26_0, hv26_1⟩ := hv26
      refine s_loc (L2 := [some (AR 95), some (AI 0), some (AI (nI i9)), some (AI (nI (((i9) * 8) * 8))), some (AI 64), none, none, none]) rfl ?_
      refine s_iload E dX10_layWays_26 rfl ?_
      refine s_bipush (v := 64) E dX10_layWays_28 (by decide) ?_
      refine s_icmp_ge (tgt := 67) E dX10_layWays_30 (by decide) (fun _ => ?_) (fun hh => absurd (by decide) hh)
      refine s_iconst (v := 0) E dX10_layWays_67 (by decide) ?_
      refine s_istore (L2 := [some (AR 95), some (AI 0), some (AI (nI i9)), some (AI (nI (((i9) * 8) * 8))), some (AI 0), none, none, none]) E dX10_layWays_68 (by decide) rfl ?_
      refine s_iload E dX10_layWays_70 rfl ?_
      refine s_aload_n E dX10_layWays_72 rfl rfl ?_
      refine s_gR (r := 96) E fg_X10_9 rfl rfl (ltn hv26_0.1 (by decide)) (fc_r hv26_0 (by decide +kernel)) dX10_layWays_73 ?_
      refine s_iconst (v := 4) E dX10_layWays_76 (by decide) ?_
      refine s_iald E rfl (ltn hv26_0.1 (by decide)) (vp_c (by decide)) dX10_layWays_77 ?_
      refine s_top (y := 0) (fc_z hv26_0 (q := (96, 134)) (by decide +kernel) (by decide)) ?_
      refine s_icmp_ge (tgt := 190) E dX10_layWays_78 (by decide) (fun _ => ?_) (fun hh => absurd (by decide) hh)
      refine s_iconst (v := 0) E dX10_layWays_190 (by decide) ?_
      refine s_istore (L2 := [some (AR 95), some (AI 0), some (AI (nI i9)), some (AI (nI (((i9) * 8) * 8))), some (AI 0), none, none, none]) E dX10_layWays_191 (by decide) rfl ?_
      refine s_iload E dX10_layWays_193 rfl ?_
      refine s_iload_n E dX10_layWays_195 rfl rfl ?_
      refine s_icmp_ge (tgt := 280) E dX10_layWays_196 (by decide) (fun _ => ?_) (fun hh => absurd (by decide) hh)
      refine s_iinc (v := (nI (i9 + 1))) (L2 := [some (AR 95), some (AI 0), some (AI (nI (i9 + 1))), some (AI (nI (((i9) * 8) * 8))), some (AI 0), none, none, none]) E dX10_layWays_280 rfl (nI_1 (i9)) (by decide) rfl ?_
      refine s_goto (tgt := 9) E dX10_layWays_283 (by decide) ?_
      refine s_drop (i := 3) (L2 := [some (AR 95), some (AI 0), some (AI (nI (i9 + 1))), none, some (AI 0), none, none, none]) rfl ?_
      refine s_drop (i := 4) (L2 := [some (AR 95), some (AI 0), some (AI (nI (i9 + 1))), none, none, none, none, none]) rfl ?_
      exact ih9 v26 ⟨hv26_0, hv26_1⟩
  · intro v9 hv9
    obtain ⟨hv9_0, hv9_1⟩ := hv9
    refine s_loc (L2 := [some (AR 95), some (AI 0), some (AI 10), none, none, none, none, none]) rfl ?_
    refine s_iload_n E dX10_layWays_9 rfl rfl ?_
    refine s_bipush (v := 9) E dX10_layWays_10 (by decide) ?_
    refine s_icmp_gt (tgt := 286) E dX10_layWays_12 (by decide) (fun _ => ?_) (fun hh => absurd (by decide) hh)
    exact r_void E dX10_layWays_286 ⟨hv9_0, hv9_1⟩
set_option maxRecDepth 20000 in
set_option maxHeartbeats 2000000 in
theorem K_X10_ladies_95_MS (l : Launch) (D : va_G) (aC : Nat → ClassId) (b : Nat) (w : XW)  (hw0 : FrM w) (hw1 : RfM w) : CnI l D aC b M_X10_ladies 0 0 0 0 [AR 95] w (fun r u => r = 0 ∧ w = u) := by
  refine cn_I (own := RX10) (nm := "ladies") (L0 := [some (AR 95)]) (by decide +kernel) rfl rfl (Nat.le_of_ble_eq_true rfl) rfl ?_
  intro p e s m args below meth c E hin
  refine s_aload_n E dX10_ladies_0 rfl rfl ?_
  refine s_gR (r := 96) E fg_X10_9 rfl rfl (ltn hw0.1 (by decide)) (fc_r hw0 (by decide +kernel)) dX10_ladies_1 ?_
  refine s_iconst (v := 5) E dX10_ladies_4 (by decide) ?_
  refine s_iald E rfl (ltn hw0.1 (by decide)) (vp_c (by decide)) dX10_ladies_5 ?_
  refine s_top (y := 0) (fc_z hw0 (q := (96, 134)) (by decide +kernel) (by decide)) ?_
  exact r_int E dX10_ladies_6 ⟨rfl, rfl⟩
set_option maxRecDepth 20000 in
set_option maxHeartbeats 2000000 in
theorem K_X10_layPlaces_95_MS (l : Launch) (D : va_G) (aC : Nat → ClassId) (b : Nat) (w : XW)  (hw0 : FrM w) (hw1 : RfM w) : CnV l D aC b M_X10_layPlaces 1 27 0 0 [AR 95] w (fun u => FrM u ∧ RfM u) := by
  refine cn_V (own := RX10) (nm := "layPlaces") (L0 := [some (AR 95), none, none]) (by decide +kernel) rfl rfl (Nat.le_of_ble_eq_true rfl) rfl ?_
  intro p e s m args below meth c E hin
  refine s_aload_n E dX10_layPlaces_0 rfl rfl ?_
  refine s_vV (As := []) (S := []) E (K_X10_layWays_95_MS l D aC b w  hw0 hw1) cv_X10_241 rfl rfl rfl (ltn hw0.1 (by decide)) (Nat.le_of_ble_eq_true rfl) (Nat.le_of_ble_eq_true rfl) ⟨(Nat.le_of_ble_eq_true rfl), (Nat.le_of_ble_eq_true rfl)⟩ (Nat.le_of_ble_eq_true rfl) dX10_layPlaces_1 (fun u_1 hp => ?_)
  obtain ⟨hu_1, hu_2⟩ := hp
  refine s_iconst (v := 0) E dX10_layPlaces_4 (by decide) ?_
  refine s_istore_n (L2 := [some (AR 95), some (AI 0), none]) E dX10_layPlaces_5 rfl (by decide) rfl ?_
  refine s_iload_n E dX10_layPlaces_6 rfl rfl ?_
  refine s_aload_n E dX10_layPlaces_7 rfl rfl ?_
  refine s_vI (As := []) (S := [AI 0]) E (K_X10_ladies_95_MS l D aC b u_1  hu_1 hu_2) cv_X10_244 rfl rfl rfl (ltn hu_1.1 (by decide)) (Nat.le_of_ble_eq_true rfl) (Nat.le_of_ble_eq_true rfl) ⟨(Nat.le_of_ble_eq_true rfl), (Nat.le_of_ble_eq_true rfl)⟩ (Nat.le_of_ble_eq_true rfl) dX10_layPlaces_8 (fun r u hp => ?_)
  obtain ⟨rfl, rfl⟩ := hp
  refine s_icmp_ge (tgt := 104) E dX10_layPlaces_11 (by decide) (fun _ => ?_) (fun hh => absurd (by decide) hh)
  exact r_void E dX10_layPlaces_104 ⟨hu_1, hu_2⟩
set_option maxRecDepth 20000 in
set_option maxHeartbeats 2000000 in
theorem K_X10_asItIs_95_MS (l : Launch) (D : va_G) (aC : Nat → ClassId) (b : Nat) (w : XW)  (hw0 : FrM w) (hw1 : RfM w) : CnV l D aC b M_X10_asItIs 2 49 0 0 [AR 95] w (fun u => FrM u ∧ RfM u) := by
  refine cn_V (own := RX10) (nm := "asItIs") (L0 := [some (AR 95)]) (by decide +kernel) rfl rfl (Nat.le_of_ble_eq_true rfl) rfl ?_
  intro p e s m args below meth c E hin
  refine s_aload_n E dX10_asItIs_0 rfl rfl ?_
  refine s_iconst (v := (-1)) E dX10_asItIs_1 (by decide) ?_
  refine s_pI E fp_X10_227 (Or.inl rfl) rfl (ltn hw0.1 (by decide)) dX10_asItIs_2 ?_
  refine s_aload_n E dX10_asItIs_5 rfl rfl ?_
  refine s_iconst (v := 0) E dX10_asItIs_6 (by decide) ?_
  refine s_pI E fp_X10_230 (Or.inl rfl) rfl (ltn hw0.1 (by decide)) dX10_asItIs_7 ?_
  refine s_aload_n E dX10_asItIs_10 rfl rfl ?_
  refine s_iconst (v := 0) E dX10_asItIs_11 (by decide) ?_
  refine s_pI E fp_X10_264 (Or.inl rfl) rfl (ltn hw0.1 (by decide)) dX10_asItIs_12 ?_
  refine s_aload_n E dX10_asItIs_15 rfl rfl ?_
  refine s_iconst (v := 0) E dX10_asItIs_16 (by decide) ?_
  refine s_pI E fp_X10_249 (Or.inl rfl) rfl (ltn hw0.1 (by decide)) dX10_asItIs_17 ?_
  refine s_aload_n E dX10_asItIs_20 rfl rfl ?_
  refine s_aload_n E dX10_asItIs_21 rfl rfl ?_
  refine s_gR (r := 96) E fg_X10_9 rfl rfl (ltn hw0.1 (by decide)) (fc_r hw0 (by decide +kernel)) dX10_asItIs_22 ?_
  refine s_iconst (v := 2) E dX10_asItIs_25 (by decide) ?_
  refine s_iald E rfl (ltn hw0.1 (by decide)) (vp_c (by decide)) dX10_asItIs_26 ?_
  refine s_top (y := 0) (fc_z hw0 (q := (96, 134)) (by decide +kernel) (by decide)) ?_
  refine s_pI E fp_X10_267 (Or.inl rfl) rfl (ltn hw0.1 (by decide)) dX10_asItIs_27 ?_
  refine s_aload_n E dX10_asItIs_30 rfl rfl ?_
  refine s_iconst (v := 0) E dX10_asItIs_31 (by decide) ?_
  refine s_pI E fp_X10_270 (Or.inl rfl) rfl (ltn hw0.1 (by decide)) dX10_asItIs_32 ?_
  refine s_aload_n E dX10_asItIs_35 rfl rfl ?_
  refine s_vV (As := []) (S := []) E (K_X10_layMinisters_95_MS l D aC b (upI (upI (upI (upI (upI (upI w 95 16 (-1)) 95 17 0) 95 21 0) 95 22 0) 95 23 0) 95 24 0)  (fc_upI (fc_upI (fc_upI (fc_upI (fc_upI (fc_upI hw0 (by decide +kernel)) (by decide +kernel)) (by decide +kernel)) (by decide +kernel)) (by decide +kernel)) (by decide +kernel)) (fc_upC (fc_upC (fc_upC (fc_upC (fc_upC (fc_upC hw1 (by decide +kernel)) (by decide +kernel)) (by decide +kernel)) (by decide +kernel)) (by decide +kernel)) (by decide +kernel))) cv_X10_273 rfl rfl rfl (ltn hw0.1 (by decide)) (Nat.le_of_ble_eq_true rfl) (Nat.le_of_ble_eq_true rfl) ⟨(Nat.le_of_ble_eq_true rfl), (Nat.le_of_ble_eq_true rfl)⟩ (Nat.le_of_ble_eq_true rfl) dX10_asItIs_36 (fun u_1 hp => ?_)
  obtain ⟨hu_1, hu_2⟩ := hp
  refine s_aload_n E dX10_asItIs_39 rfl rfl ?_
  refine s_vV (As := []) (S := []) E (K_X10_layPlaces_95_MS l D aC b u_1  hu_1 hu_2) cv_X10_276 rfl rfl rfl (ltn hu_1.1 (by decide)) (Nat.le_of_ble_eq_true rfl) (Nat.le_of_ble_eq_true rfl) ⟨(Nat.le_of_ble_eq_true rfl), (Nat.le_of_ble_eq_true rfl)⟩ (Nat.le_of_ble_eq_true rfl) dX10_asItIs_40 (fun u_2 hp => ?_)
  obtain ⟨hu_3, hu_4⟩ := hp
  exact r_void E dX10_asItIs_43 ⟨hu_3, hu_4⟩
set_option maxRecDepth 20000 in
set_option maxHeartbeats 2000000 in
theorem K_X10_isMinister_95_MS (l : Launch) (D : va_G) (aC : Nat → ClassId) (b : Nat) (w : XW) (x1 : Int32) (hw0 : FrM w) (hw1 : RfM w) : CnI l D aC b M_X10_isMinister 1 25 0 0 [AR 95, AI x1] w (fun r u => r = 0 ∧ w = u) := by
  refine cn_I (own := RX10) (nm := "isMinister") (L0 := [some (AR 95), some (AI x1)]) (by decide +kernel) rfl rfl (Nat.le_of_ble_eq_true rfl) rfl ?_
  intro p e s m args below meth c E hin
  refine s_iload_n E dX10_isMinister_0 rfl rfl ?_
  refine s_i2l E dX10_isMinister_1 ?_
  refine s_lconst (v := 0) E dX10_isMinister_2 (by decide) ?_
  refine s_aload_n E dX10_isMinister_3 rfl rfl ?_
  refine s_gR (r := 96) E fg_X10_9 rfl rfl (ltn hw0.1 (by decide)) (fc_r hw0 (by decide +kernel)) dX10_isMinister_4 ?_
  refine s_bipush (v := 6) E dX10_isMinister_7 (by decide) ?_
  refine s_iald E rfl (ltn hw0.1 (by decide)) (vp_c (by decide)) dX10_isMinister_9 ?_
  refine s_top (y := 0) (fc_z hw0 (q := (96, 134)) (by decide +kernel) (by decide)) ?_
  refine s_iconst (v := 1) E dX10_isMinister_10 (by decide) ?_
  refine s_isub E dX10_isMinister_11 ?_
  refine s_top (y := (-1)) (by decide) ?_
  refine s_i2l E dX10_isMinister_12 ?_
  refine s_topL (y := (-1)) (by decide) ?_
  refine s_sI (As := [AL ((x1 : Int32).toInt64), AL 0, AL (-1)]) (S := []) E (K_X10_in_MS l D aC b w (((x1 : Int32).toInt64)) 0 (-1) hw0 hw1) cs_X10_82 rfl rfl (Nat.le_of_ble_eq_true rfl) (Nat.le_of_ble_eq_true rfl) ⟨(Nat.le_of_ble_eq_true rfl), (Nat.le_of_ble_eq_true rfl)⟩ (Nat.le_of_ble_eq_true rfl) dX10_isMinister_13 (fun r u hp => ?_)
  rcases hp with ⟨rfl, h_1, h_2, rfl⟩ | ⟨rfl, h_3, rfl⟩
  · exact (by have q0 := h_1; have q1 := h_2; (try simp only [lg_cmp_lt, lg_cmp_le, lg_cmp_ge, lg_cmp_gt] at q0 q1); (try simp only [Int32.lt_iff_toInt_lt, Int32.le_iff_toInt_le, Int64.lt_iff_toInt_lt, Int64.le_iff_toInt_le, ← Int32.toInt_inj, ← Int64.toInt_inj, Int32.toInt_toInt64] at q0 q1); have e0 : (0 : Int32).toInt = 0 := (by decide); have e1 : ((-1) : Int64).toInt = (-1) := (by decide); have e2 : (0 : Int64).toInt = 0 := (by decide); (try simp only [e0, e1, e2] at q0 q1); omega)
  ·
    exact r_bool E dX10_isMinister_16 (Or.inl rfl) ⟨rfl, rfl⟩
