set_option maxRecDepth 20000 in
set_option maxHeartbeats 2000000 in
theorem Z_X10_move_95 (l : Launch) (D : va_G) (aC : Nat → ClassId) (b : Nat) (w : XW) (x1 : Int32) (x2 : Int32) (hI : Iv w)  : CnI l D aC b M_X10_move 4 92 0 0 [AR 95, AI x1, AI x2] w (fun r u => ((-5) ≤ r.toInt ∧ r.toInt ≤ 5 ∧ (¬ r.toInt = 0 ∨ (0 ≤ x1.toInt ∧ x1.toInt ≤ 7)) ∧ (¬ r.toInt = 0 ∨ (0 ≤ x2.toInt ∧ x2.toInt ≤ 5)) ∧ (¬ r.toInt = 0 ∨ (0 ≤ (w.2.2.1 96 6).toInt ∧ (w.2.2.1 96 6).toInt ≤ 8)) ∧ (¬ r.toInt = 0 ∨ (0 ≤ (w.2.2.1 96 5).toInt ∧ (w.2.2.1 96 5).toInt ≤ 6)) ∧ (r.toInt = 0 ∨ (0 ≤ (w.2.2.1 96 6).toInt ∧ (w.2.2.1 96 6).toInt ≤ 8))) ∧ Jv w u) := by
  refine cn_I (own := RX10) (nm := "move") (L0 := [some (AR 95), some (AI x1), some (AI x2), none]) (by decide +kernel) rfl rfl (Nat.le_of_ble_eq_true rfl) rfl ?_
  intro p e s m args below meth c E hin
  have hJ : Jv w w := jv_rfl hI
  have hb_x1 := z32 x1
  have hb_x2 := z32 x2
  refine s_aload_n E dX10_move_0 rfl rfl ?_
  refine s_iload_n E dX10_move_1 rfl rfl ?_
  refine s_vI (As := [AI x1]) (S := []) E (Z_X10_isMinister_95 l D aC b w x1 hJ.1 ) cv_X10_285 rfl rfl rfl (jv_lt hJ (by decide)) (Nat.le_of_ble_eq_true rfl) (Nat.le_of_ble_eq_true rfl) ⟨(Nat.le_of_ble_eq_true rfl), (Nat.le_of_ble_eq_true rfl)⟩ (Nat.le_of_ble_eq_true rfl) dX10_move_2 (fun z_3 u_1 hp_2 => ?_)
  obtain ⟨hz_3, hp_2⟩ := hp_2
  subst hp_2
  refine z_if_eq (tgt := 17) (u := z_3.toInt) E dX10_move_5 (by decide) rfl (fun h_5 => ?_) (fun h_5 => ?_)
  ·
    refine s_bipush (v := (-2)) E dX10_move_17 (by decide) ?_
    exact r_int E dX10_move_19 ⟨⟨by decide, by decide, by first | (left; decide) | (right; decide) | (right; have hb_ := z32 x1; omega), by first | (left; decide) | (right; decide) | (right; have hb_ := z32 x2; omega), by first | (left; decide) | (right; decide) | (right; have hb_ := z32 (w.2.2.1 96 6); omega), by first | (left; decide) | (right; decide) | (right; have hb_ := z32 (w.2.2.1 96 5); omega), by first | (left; decide) | (right; decide) | (right; have hb_ := z32 (w.2.2.1 96 6); omega)⟩, hJ⟩
  ·
    refine s_aload_n E dX10_move_8 rfl rfl ?_
    refine s_iload_n E dX10_move_9 rfl rfl ?_
    refine z_i2l (u := x2.toInt) E dX10_move_10 rfl (fun z_6 hz_6 => ?_)
    refine s_vI (As := [AL z_6]) (S := []) E (Z_X10_isLady_95 l D aC b w z_6 hJ.1 ) cv_X10_222 rfl rfl rfl (jv_lt hJ (by decide)) (Nat.le_of_ble_eq_true rfl) (Nat.le_of_ble_eq_true rfl) ⟨(Nat.le_of_ble_eq_true rfl), (Nat.le_of_ble_eq_true rfl)⟩ (Nat.le_of_ble_eq_true rfl) dX10_move_11 (fun z_9 u_7 hp_8 => ?_)
    obtain ⟨hz_9, hxz_9, hp_8⟩ := hp_8
    subst hp_8
    refine z_if_ne (tgt := 20) (u := z_9.toInt) E dX10_move_14 (by decide) rfl (fun h_11 => ?_) (fun h_11 => ?_)
    ·
      refine s_aload_n E dX10_move_20 rfl rfl ?_
      refine s_vV (As := []) (S := []) E (Z_X10_asItIs_95 l D aC b w  hJ.1 ) cv_X10_279 rfl rfl rfl (jv_lt hJ (by decide)) (Nat.le_of_ble_eq_true rfl) (Nat.le_of_ble_eq_true rfl) ⟨(Nat.le_of_ble_eq_true rfl), (Nat.le_of_ble_eq_true rfl)⟩ (Nat.le_of_ble_eq_true rfl) dX10_move_21 (fun u_12 hp_13 => ?_)
      have hj_14 := jv_trans hJ hp_13
      refine s_aload_n E dX10_move_24 rfl rfl ?_
      refine s_gR (r := 104) E fg_X10_40 rfl rfl (jv_lt hj_14 (by decide)) (jv_r hj_14 (by decide +kernel)) dX10_move_25 ?_
      refine s_iload_n E dX10_move_28 rfl rfl ?_
      refine s_iald E rfl (jv_lt hj_14 (by decide)) (z_in (u := x1.toInt) rfl (by omega) (by omega)) dX10_move_29 ?_
      refine z_nm (P := fun z => z.toInt = (u_12.2.2.1 104 x1.toNatClampNeg).toInt ∧ 0 ≤ z.toInt ∧ z.toInt ≤ 5) ⟨rfl, (ra_104 hj_14 _)⟩ (fun z_15 hz_15 => ?_)
      refine s_istore_n (L2 := [some (AR 95), some (AI x1), some (AI x2), some (AI z_15)]) E dX10_move_30 rfl (by decide) rfl ?_
      refine s_aload_n E dX10_move_31 rfl rfl ?_
      refine s_ldc E k_1504 rfl dX10_move_32 ?_
      refine s_bipush (v := 10) E dX10_move_34 (by decide) ?_
      refine s_iload_n E dX10_move_36 rfl rfl ?_
      refine z_imul (u := 10) (v := x1.toInt) E dX10_move_37 (by decide) rfl (by omega) (by omega) (fun z_16 hz_16 => ?_)
      refine z_iadd (u := 100000) (v := z_16.toInt) E dX10_move_38 (by decide) rfl (by omega) (by omega) (fun z_17 hz_17 => ?_)
      refine s_iload_n E dX10_move_39 rfl rfl ?_
      refine z_iadd (u := z_17.toInt) (v := x2.toInt) E dX10_move_40 rfl rfl (by omega) (by omega) (fun z_18 hz_18 => ?_)
      refine s_vI (As := [AI z_18]) (S := []) E (Z_X10_keepAct_95 l D aC b u_12 z_18 hj_14.1 ⟨by have hb_ := z32 z_18; omega, by have hb_ := z32 z_18; omega⟩ (by unfold okA; omega)) cv_X10_446 rfl rfl rfl (jv_lt hj_14 (by decide)) (Nat.le_of_ble_eq_true rfl) (Nat.le_of_ble_eq_true rfl) ⟨(Nat.le_of_ble_eq_true rfl), (Nat.le_of_ble_eq_true rfl)⟩ (Nat.le_of_ble_eq_true rfl) dX10_move_41 (fun z_21 u_19 hp_20 => ?_)
      obtain ⟨hz_21, hp_20⟩ := hp_20
      have hj_22 := jv_trans hj_14 hp_20
      refine z_if_ge (tgt := 52) (u := z_21.toInt) E dX10_move_44 (by decide) rfl (fun h_23 => ?_) (fun h_23 => ?_)
      ·
        refine s_iload_n E dX10_move_52 rfl rfl ?_
        exact r_int E dX10_move_53 ⟨⟨by have hb_ := z32 z_15; omega, by have hb_ := z32 z_15; omega, by first | (right; decide) | (have hb_ := z32 z_15; omega) | (have hb_ := z32 z_15; have hc_ := z32 x1; omega), by first | (right; decide) | (have hb_ := z32 z_15; omega) | (have hb_ := z32 z_15; have hc_ := z32 x2; omega), by first | (right; decide) | (have hb_ := z32 z_15; omega) | (have hb_ := z32 z_15; have hc_ := z32 (w.2.2.1 96 6); omega), by first | (right; decide) | (have hb_ := z32 z_15; omega) | (have hb_ := z32 z_15; have hc_ := z32 (w.2.2.1 96 5); omega), by first | (right; decide) | (have hb_ := z32 z_15; omega) | (have hb_ := z32 z_15; have hc_ := z32 (w.2.2.1 96 6); omega)⟩, hj_22⟩
      ·
        refine s_bipush (v := (-5)) E dX10_move_47 (by decide) ?_
        refine s_goto (tgt := 53) E dX10_move_49 (by decide) ?_
        exact r_int E dX10_move_53 ⟨⟨by decide, by decide, by first | (left; decide) | (right; decide) | (right; have hb_ := z32 x1; omega), by first | (left; decide) | (right; decide) | (right; have hb_ := z32 x2; omega), by first | (left; decide) | (right; decide) | (right; have hb_ := z32 (w.2.2.1 96 6); omega), by first | (left; decide) | (right; decide) | (right; have hb_ := z32 (w.2.2.1 96 5); omega), by first | (left; decide) | (right; decide) | (right; have hb_ := z32 (w.2.2.1 96 6); omega)⟩, hj_22⟩
    ·
      refine s_bipush (v := (-2)) E dX10_move_17 (by decide) ?_
      exact r_int E dX10_move_19 ⟨⟨by decide, by decide, by first | (left; decide) | (right; decide) | (right; have hb_ := z32 x1; omega), by first | (left; decide) | (right; decide) | (right; have hb_ := z32 x2; omega), by first | (left; decide) | (right; decide) | (right; have hb_ := z32 (w.2.2.1 96 6); omega), by first | (left; decide) | (right; decide) | (right; have hb_ := z32 (w.2.2.1 96 5); omega), by first | (left; decide) | (right; decide) | (right; have hb_ := z32 (w.2.2.1 96 6); omega)⟩, hJ⟩
set_option maxRecDepth 20000 in
set_option maxHeartbeats 2000000 in
theorem Z_X10_undo_95 (l : Launch) (D : va_G) (aC : Nat → ClassId) (b : Nat) (w : XW)  (hI : Iv w)  : CnI l D aC b M_X10_undo 1 20 0 0 [AR 95] w (fun r u => ((-5) ≤ r.toInt ∧ r.toInt ≤ 30 ∧ (¬ r.toInt = 0 ∨ (1 ≤ (w.2.2.1 96 9).toInt ∧ (w.2.2.1 96 9).toInt ≤ 2147483647)) ∧ (¬ r.toInt = 0 ∨ (1 ≤ (w.2.2.1 96 8).toInt ∧ (w.2.2.1 96 8).toInt ≤ 30)) ∧ (r.toInt = 0 ∨ (0 ≤ (w.2.2.1 96 9).toInt ∧ (w.2.2.1 96 9).toInt ≤ 2147483647))) ∧ Jv w u) := by
  refine cn_I (own := RX10) (nm := "undo") (L0 := [some (AR 95)]) (by decide +kernel) rfl rfl (Nat.le_of_ble_eq_true rfl) rfl ?_
  intro p e s m args below meth c E hin
  have hJ : Jv w w := jv_rfl hI
  refine s_aload_n E dX10_undo_0 rfl rfl ?_
  refine s_vI (As := []) (S := []) E (Z_X10_isBall_95 l D aC b w  hJ.1 ) cv_X10_86 rfl rfl rfl (jv_lt hJ (by decide)) (Nat.le_of_ble_eq_true rfl) (Nat.le_of_ble_eq_true rfl) ⟨(Nat.le_of_ble_eq_true rfl), (Nat.le_of_ble_eq_true rfl)⟩ (Nat.le_of_ble_eq_true rfl) dX10_undo_1 (fun z_3 u_1 hp_2 => ?_)
  obtain ⟨hz_3, hp_2⟩ := hp_2
  subst hp_2
  refine z_if_ne (tgt := 10) (u := z_3.toInt) E dX10_undo_4 (by decide) rfl (fun h_5 => ?_) (fun h_5 => ?_)
  ·
    refine s_aload_n E dX10_undo_10 rfl rfl ?_
    refine s_gR (r := 96) E fg_X10_9 rfl rfl (jv_lt hJ (by decide)) (jv_r hJ (by decide +kernel)) dX10_undo_11 ?_
    refine s_bipush (v := 8) E dX10_undo_14 (by decide) ?_
    refine s_iald E rfl (jv_lt hJ (by decide)) (z_in (u := 8) (by decide) (by omega) (by omega)) dX10_undo_16 ?_
    refine z_nm (P := fun z => z.toInt = (w.2.2.1 96 8).toInt ∧ 0 ≤ z.toInt ∧ z.toInt ≤ 30) ⟨rfl, (rw_96_8 hJ)⟩ (fun z_6 hz_6 => ?_)
    refine z_if_ne (tgt := 23) (u := z_6.toInt) E dX10_undo_17 (by decide) rfl (fun h_7 => ?_) (fun h_7 => ?_)
    ·
      refine s_aload_n E dX10_undo_23 rfl rfl ?_
      refine s_gR (r := 96) E fg_X10_9 rfl rfl (jv_lt hJ (by decide)) (jv_r hJ (by decide +kernel)) dX10_undo_24 ?_
      refine s_bipush (v := 8) E dX10_undo_27 (by decide) ?_
      refine s_dup2 E dX10_undo_29 ?_
      refine s_iald E rfl (jv_lt hJ (by decide)) (z_in (u := 8) (by decide) (by omega) (by omega)) dX10_undo_30 ?_
      refine z_nm (P := fun z => z.toInt = (w.2.2.1 96 8).toInt ∧ 0 ≤ z.toInt ∧ z.toInt ≤ 30) ⟨rfl, (rw_96_8 hJ)⟩ (fun z_8 hz_8 => ?_)
      refine s_iconst (v := 1) E dX10_undo_31 (by decide) ?_
      refine z_isub (u := z_8.toInt) (v := 1) E dX10_undo_32 rfl (by decide) (by omega) (by omega) (fun z_9 hz_9 => ?_)
      refine s_iast E rfl (jv_lt hJ (by decide)) (z_in (u := 8) (by decide) (by omega) (by omega)) dX10_undo_33 ?_
      refine s_gen (P := fun v => Jv w v ∧ (v.2.2.1 96 9).toInt = (w.2.2.1 96 9).toInt) ⟨(jv_a_96 (i := 8) (x := z_9) hJ 0 30 8 8 1 8 (by decide +kernel) (by decide) (by decide) (by omega) (by omega) (by omega) (by have hb_ := z32 z_9; omega) (by have hb_ := z32 z_9; omega) (fun h0_ => by unfold okA; omega)), rfl⟩ (fun v_10 hj_11 => ?_)
      obtain ⟨hj_11, hk_12k0⟩ := hj_11
      refine s_aload_n E dX10_undo_34 rfl rfl ?_
      refine s_gR (r := 96) E fg_X10_9 rfl rfl (jv_lt hj_11 (by decide)) (jv_r hj_11 (by decide +kernel)) dX10_undo_35 ?_
      refine s_bipush (v := 8) E dX10_undo_38 (by decide) ?_
      refine s_iald E rfl (jv_lt hj_11 (by decide)) (z_in (u := 8) (by decide) (by omega) (by omega)) dX10_undo_40 ?_
      refine z_nm (P := fun z => z.toInt = (v_10.2.2.1 96 8).toInt ∧ 0 ≤ z.toInt ∧ z.toInt ≤ 30) ⟨rfl, (rw_96_8 hj_11)⟩ (fun z_13 hz_13 => ?_)
      exact r_int E dX10_undo_41 ⟨⟨by have hb_ := z32 z_13; omega, by have hb_ := z32 z_13; omega, by first | (right; decide) | (have hb_ := z32 z_13; omega) | (have hb_ := z32 z_13; have hc_ := z32 (w.2.2.1 96 9); omega), by first | (right; decide) | (have hb_ := z32 z_13; omega) | (have hb_ := z32 z_13; have hc_ := z32 (w.2.2.1 96 8); omega), by first | (right; decide) | (have hb_ := z32 z_13; omega) | (have hb_ := z32 z_13; have hc_ := z32 (w.2.2.1 96 9); omega)⟩, hj_11⟩
    ·
      refine s_bipush (v := (-5)) E dX10_undo_20 (by decide) ?_
      exact r_int E dX10_undo_22 ⟨⟨by decide, by decide, by first | (left; decide) | (right; decide) | (right; have hb_ := z32 (w.2.2.1 96 9); omega), by first | (left; decide) | (right; decide) | (right; have hb_ := z32 (w.2.2.1 96 8); omega), by first | (left; decide) | (right; decide) | (right; have hb_ := z32 (w.2.2.1 96 9); omega)⟩, hJ⟩
  ·
    refine s_bipush (v := (-2)) E dX10_undo_7 (by decide) ?_
    exact r_int E dX10_undo_9 ⟨⟨by decide, by decide, by first | (left; decide) | (right; decide) | (right; have hb_ := z32 (w.2.2.1 96 9); omega), by first | (left; decide) | (right; decide) | (right; have hb_ := z32 (w.2.2.1 96 8); omega), by first | (left; decide) | (right; decide) | (right; have hb_ := z32 (w.2.2.1 96 9); omega)⟩, hJ⟩
set_option maxRecDepth 20000 in
set_option maxHeartbeats 2000000 in
theorem Z_X10_anew_95 (l : Launch) (D : va_G) (aC : Nat → ClassId) (b : Nat) (w : XW)  (hI : Iv w)  : CnI l D aC b M_X10_anew 1 20 0 0 [AR 95] w (fun r u => ((-2) ≤ r.toInt ∧ r.toInt ≤ 30 ∧ (¬ r.toInt = 0 ∨ (1 ≤ (w.2.2.1 96 9).toInt ∧ (w.2.2.1 96 9).toInt ≤ 2147483647)) ∧ (¬ r.toInt = 0 ∨ (0 ≤ (w.2.2.1 96 8).toInt ∧ (w.2.2.1 96 8).toInt ≤ 30)) ∧ (r.toInt = 0 ∨ (0 ≤ (w.2.2.1 96 9).toInt ∧ (w.2.2.1 96 9).toInt ≤ 2147483647))) ∧ Jv w u) := by
  refine cn_I (own := RX10) (nm := "anew") (L0 := [some (AR 95), none]) (by decide +kernel) rfl rfl (Nat.le_of_ble_eq_true rfl) rfl ?_
  intro p e s m args below meth c E hin
  have hJ : Jv w w := jv_rfl hI
  refine s_aload_n E dX10_anew_0 rfl rfl ?_
  refine s_vI (As := []) (S := []) E (Z_X10_isBall_95 l D aC b w  hJ.1 ) cv_X10_86 rfl rfl rfl (jv_lt hJ (by decide)) (Nat.le_of_ble_eq_true rfl) (Nat.le_of_ble_eq_true rfl) ⟨(Nat.le_of_ble_eq_true rfl), (Nat.le_of_ble_eq_true rfl)⟩ (Nat.le_of_ble_eq_true rfl) dX10_anew_1 (fun z_3 u_1 hp_2 => ?_)
  obtain ⟨hz_3, hp_2⟩ := hp_2
  subst hp_2
  refine z_if_ne (tgt := 10) (u := z_3.toInt) E dX10_anew_4 (by decide) rfl (fun h_5 => ?_) (fun h_5 => ?_)
  ·
    refine s_aload_n E dX10_anew_10 rfl rfl ?_
    refine s_gR (r := 96) E fg_X10_9 rfl rfl (jv_lt hJ (by decide)) (jv_r hJ (by decide +kernel)) dX10_anew_11 ?_
    refine s_bipush (v := 8) E dX10_anew_14 (by decide) ?_
    refine s_iald E rfl (jv_lt hJ (by decide)) (z_in (u := 8) (by decide) (by omega) (by omega)) dX10_anew_16 ?_
    refine z_nm (P := fun z => z.toInt = (w.2.2.1 96 8).toInt ∧ 0 ≤ z.toInt ∧ z.toInt ≤ 30) ⟨rfl, (rw_96_8 hJ)⟩ (fun z_6 hz_6 => ?_)
    refine s_istore_n (L2 := [some (AR 95), some (AI z_6)]) E dX10_anew_17 rfl (by decide) rfl ?_
    refine s_aload_n E dX10_anew_18 rfl rfl ?_
    refine s_gR (r := 96) E fg_X10_9 rfl rfl (jv_lt hJ (by decide)) (jv_r hJ (by decide +kernel)) dX10_anew_19 ?_
    refine s_bipush (v := 8) E dX10_anew_22 (by decide) ?_
    refine s_iconst (v := 0) E dX10_anew_24 (by decide) ?_
    refine s_iast E rfl (jv_lt hJ (by decide)) (z_in (u := 8) (by decide) (by omega) (by omega)) dX10_anew_25 ?_
    refine s_gen (P := fun v => Jv w v ∧ (v.2.2.1 96 9).toInt = (w.2.2.1 96 9).toInt) ⟨(jv_a_96 (i := 8) (x := 0) hJ 0 30 8 8 1 8 (by decide +kernel) (by decide) (by decide) (by omega) (by omega) (by omega) (by decide) (by decide) (fun h0_ => by unfold okA; omega)), rfl⟩ (fun v_7 hj_8 => ?_)
    obtain ⟨hj_8, hk_9k0⟩ := hj_8
    refine s_iload_n E dX10_anew_26 rfl rfl ?_
    exact r_int E dX10_anew_27 ⟨⟨by have hb_ := z32 z_6; omega, by have hb_ := z32 z_6; omega, by first | (right; decide) | (have hb_ := z32 z_6; omega) | (have hb_ := z32 z_6; have hc_ := z32 (w.2.2.1 96 9); omega), by first | (right; decide) | (have hb_ := z32 z_6; omega) | (have hb_ := z32 z_6; have hc_ := z32 (w.2.2.1 96 8); omega), by first | (right; decide) | (have hb_ := z32 z_6; omega) | (have hb_ := z32 z_6; have hc_ := z32 (w.2.2.1 96 9); omega)⟩, hj_8⟩
  ·
    refine s_bipush (v := (-2)) E dX10_anew_7 (by decide) ?_
    exact r_int E dX10_anew_9 ⟨⟨by decide, by decide, by first | (left; decide) | (right; decide) | (right; have hb_ := z32 (w.2.2.1 96 9); omega), by first | (left; decide) | (right; decide) | (right; have hb_ := z32 (w.2.2.1 96 8); omega), by first | (left; decide) | (right; decide) | (right; have hb_ := z32 (w.2.2.1 96 9); omega)⟩, hJ⟩
set_option maxRecDepth 20000 in
set_option maxHeartbeats 2000000 in
theorem Z_X10_isSeed (l : Launch) (D : va_G) (aC : Nat → ClassId) (b : Nat) (w : XW) (x1 : Int32) (hI : Iv w)  : CnI l D aC b M_X10_isSeed 1 25 0 0 [AI x1] w (fun r u => (0 ≤ r.toInt ∧ r.toInt ≤ 1 ∧ (r.toInt = 0 ∨ (0 ≤ x1.toInt ∧ x1.toInt ≤ 2000000000))) ∧ w = u) := by
  refine cn_I (own := RX10) (nm := "isSeed") (L0 := [some (AI x1)]) (by decide +kernel) rfl rfl (Nat.le_of_ble_eq_true rfl) rfl ?_
  intro p e s m args below meth c E hin
  have hJ : Jv w w := jv_rfl hI
  have hb_x1 := z32 x1
  refine s_iload_n E dX10_isSeed_0 rfl rfl ?_
  refine z_i2l (u := x1.toInt) E dX10_isSeed_1 rfl (fun z_1 hz_1 => ?_)
  refine s_lconst (v := 0) E dX10_isSeed_2 (by decide) ?_
  refine s_ldc2 E k_1956 rfl dX10_isSeed_3 ?_
  refine s_sI (As := [AL z_1, AL 0, AL 2000000000]) (S := []) E (Z_X10_in l D aC b w z_1 0 2000000000) cs_X10_82 rfl rfl (Nat.le_of_ble_eq_true rfl) (Nat.le_of_ble_eq_true rfl) ⟨(Nat.le_of_ble_eq_true rfl), (Nat.le_of_ble_eq_true rfl)⟩ (Nat.le_of_ble_eq_true rfl) dX10_isSeed_6 (fun z_2 u_3 hp_4 => ?_)
  obtain ⟨hz_2, hp_4⟩ := hp_4
  subst hp_4
  have hcL_ : (0 : Int64).toInt = 0 := (by decide)
  have hcL_ : (2000000000 : Int64).toInt = 2000000000 := (by decide)
  exact r_bool E dX10_isSeed_9 (z_bool (by omega) (by omega)) ⟨⟨by have hb_ := z32 z_2; omega, by have hb_ := z32 z_2; omega, by first | (right; decide) | (have hb_ := z32 z_2; omega) | (have hb_ := z32 z_2; have hc_ := z32 x1; omega)⟩, rfl⟩
set_option maxRecDepth 20000 in
set_option maxHeartbeats 2000000 in
theorem Z_X10_goDrawn_95 (l : Launch) (D : va_G) (aC : Nat → ClassId) (b : Nat) (w : XW) (x1 : Int64) (x2 : Int32) (hI : Iv w) (hx2 : 0 ≤ x2.toInt ∧ x2.toInt ≤ 5) : CnI l D aC b M_X10_goDrawn 5 117 0 0 [AR 95, AL x1, AI x2] w (fun r u => ((-2147483648) ≤ r.toInt ∧ r.toInt ≤ 2147483647) ∧ Jv w u) := by
  refine cn_I (own := RX10) (nm := "goDrawn") (L0 := [some (AR 95), some (AL x1), none, some (AI x2), none, none, none]) (by decide +kernel) rfl rfl (Nat.le_of_ble_eq_true rfl) rfl ?_
  intro p e s m args below meth c E hin
  have hJ : Jv w w := jv_rfl hI
  refine s_aload_n E dX10_goDrawn_0 rfl rfl ?_
  refine s_vV (As := []) (S := []) E (Z_X10_asItIs_95 l D aC b w  hJ.1 ) cv_X10_279 rfl rfl rfl (jv_lt hJ (by decide)) (Nat.le_of_ble_eq_true rfl) (Nat.le_of_ble_eq_true rfl) ⟨(Nat.le_of_ble_eq_true rfl), (Nat.le_of_ble_eq_true rfl)⟩ (Nat.le_of_ble_eq_true rfl) dX10_goDrawn_1 (fun u_1 hp_2 => ?_)
  have hj_3 := jv_trans hJ hp_2
  refine s_lload_n E dX10_goDrawn_4 rfl rfl ?_
  refine s_lstore (L2 := [some (AR 95), some (AL x1), none, some (AI x2), some (AL x1), none, none]) E dX10_goDrawn_5 (by decide) rfl ?_
  refine s_iconst (v := 0) E dX10_goDrawn_7 (by decide) ?_
  refine s_istore (L2 := [some (AR 95), some (AL x1), none, some (AI x2), some (AL x1), none, some (AI 0)]) E dX10_goDrawn_8 (by decide) rfl ?_
  refine z_loop (St := Int64 × Int32) (Pi := fun ⟨q10_4_3, q10_6_3⟩ v10 => (0 ≤ q10_6_3.toInt ∧ q10_6_3.toInt ≤ 15) ∧ Jv w v10) (Lf := fun ⟨q10_4_3, q10_6_3⟩ => [some (AR 95), some (AL x1), none, some (AI x2), some (AL q10_4_3), none, some (AI q10_6_3)]) (fun ⟨q10_4_3, q10_6_3⟩ _ => (16 - q10_6_3.toInt).toNat) ⟨x1, 0⟩ ⟨⟨by decide, by decide⟩, hj_3⟩ ?_
  rintro ⟨q10_4_3, q10_6_3⟩ v10 ⟨hq10_6, hj_4⟩ ih10
  have hbq10_4 := z64 q10_4_3
  refine s_loc (L2 := [some (AR 95), some (AL x1), none, some (AI x2), some (AL q10_4_3), none, some (AI q10_6_3)]) rfl ?_
  refine s_iload E dX10_goDrawn_10 rfl ?_
  refine s_aload_n E dX10_goDrawn_12 rfl rfl ?_
  refine s_vI (As := []) (S := [AI q10_6_3]) E (Z_X10_dances_95 l D aC b v10  hj_4.1 ) cv_X10_247 rfl rfl rfl (jv_lt hj_4 (by decide)) (Nat.le_of_ble_eq_true rfl) (Nat.le_of_ble_eq_true rfl) ⟨(Nat.le_of_ble_eq_true rfl), (Nat.le_of_ble_eq_true rfl)⟩ (Nat.le_of_ble_eq_true rfl) dX10_goDrawn_13 (fun z_7 u_5 hp_6 => ?_)
  obtain ⟨hz_7, hxz_7, hp_6⟩ := hp_6
  subst hp_6
  refine z_icmp_gt (tgt := 79) (u := q10_6_3.toInt) (v := z_7.toInt) E dX10_goDrawn_16 (by decide) rfl rfl (fun h_9 => ?_) (fun h_9 => ?_)
  ·
    refine s_aload_n E dX10_goDrawn_79 rfl rfl ?_
    refine s_iload_n E dX10_goDrawn_80 rfl rfl ?_
    refine s_vI (As := [AI x2]) (S := []) E (Z_X10_goNote__95 l D aC b v10 x2 hj_4.1 ⟨by have hb_ := z32 x2; omega, by have hb_ := z32 x2; omega⟩) cv_X10_338 rfl rfl rfl (jv_lt hj_4 (by decide)) (Nat.le_of_ble_eq_true rfl) (Nat.le_of_ble_eq_true rfl) ⟨(Nat.le_of_ble_eq_true rfl), (Nat.le_of_ble_eq_true rfl)⟩ (Nat.le_of_ble_eq_true rfl) dX10_goDrawn_81 (fun z_12 u_10 hp_11 => ?_)
    obtain ⟨hz_12, hxz_12, hf_u_10_96, hp_11⟩ := hp_11
    have hj_13 := jv_trans hj_4 hp_11
    exact r_int E dX10_goDrawn_84 ⟨⟨by have hb_ := z32 z_12; omega, by have hb_ := z32 z_12; omega⟩, hj_13⟩
  ·
    refine s_ldc2 E k_1961 rfl dX10_goDrawn_19 ?_
    refine s_lload E dX10_goDrawn_22 rfl ?_
    refine s_lmul E dX10_goDrawn_24 ?_
    refine z_anyL (fun z_14 => ?_)
    refine s_ldc2 E k_1962 rfl dX10_goDrawn_25 ?_
    refine s_ladd E dX10_goDrawn_28 ?_
    refine z_anyL (fun z_15 => ?_)
    refine s_ldc2 E k_1963 rfl dX10_goDrawn_29 ?_
    refine s_lrem E dX10_goDrawn_32 (z_neL (u := 2147483648) (by decide) (by omega)) ?_
    refine z_anyL (fun z_16 => ?_)
    refine s_lstore (L2 := [some (AR 95), some (AL x1), none, some (AI x2), some (AL z_16), none, some (AI q10_6_3)]) E dX10_goDrawn_33 (by decide) rfl ?_
    refine s_aload_n E dX10_goDrawn_35 rfl rfl ?_
    refine s_dupR E dX10_goDrawn_36 ?_
    refine s_gI E fg_X10_270 rfl rfl (jv_lt hj_4 (by decide)) dX10_goDrawn_37 ?_
    refine z_nm (P := fun z => z.toInt = (v10.2.2.1 95 24).toInt ∧ (-2147483648) ≤ z.toInt ∧ z.toInt ≤ 2147483647) ⟨rfl, z32 _⟩ (fun z_17 hz_17 => ?_)
    refine s_lload E dX10_goDrawn_40 rfl ?_
    refine s_ldc2 E k_1964 rfl dX10_goDrawn_42 ?_
    refine s_ldiv E dX10_goDrawn_45 (z_neL (u := 65536) (by decide) (by omega)) ?_
    refine z_anyL (fun z_18 => ?_)
    refine s_ldc2 E k_1965 rfl dX10_goDrawn_46 ?_
    refine s_lrem E dX10_goDrawn_49 (z_neL (u := 10) (by decide) (by omega)) ?_
    refine z_anyL (fun z_19 => ?_)
    refine s_aload_n E dX10_goDrawn_50 rfl rfl ?_
    refine s_gR (r := 96) E fg_X10_9 rfl rfl (jv_lt hj_4 (by decide)) (jv_r hj_4 (by decide +kernel)) dX10_goDrawn_51 ?_
    refine s_iconst (v := 3) E dX10_goDrawn_54 (by decide) ?_
    refine s_iald E rfl (jv_lt hj_4 (by decide)) (z_in (u := 3) (by decide) (by omega) (by omega)) dX10_goDrawn_55 ?_
    refine z_nm (P := fun z => z.toInt = (v10.2.2.1 96 3).toInt ∧ 0 ≤ z.toInt ∧ z.toInt ≤ 10) ⟨rfl, (rw_96_3 hj_4)⟩ (fun z_20 hz_20 => ?_)
    refine z_i2l (u := z_20.toInt) E dX10_goDrawn_56 rfl (fun z_21 hz_21 => ?_)
    refine z_lcmp (u := z_19.toInt) (v := z_21.toInt) E dX10_goDrawn_57 rfl rfl (fun z_22 hz_22 => ?_)
    refine z_if_ge (tgt := 68) (u := z_22.toInt) E dX10_goDrawn_58 (by decide) rfl (fun h_23 => ?_) (fun h_23 => ?_)
    ·
      refine s_iconst (v := 0) E dX10_goDrawn_68 (by decide) ?_
      refine s_ior E dX10_goDrawn_69 ?_
      refine z_nm (P := fun z => (-2147483648) ≤ z.toInt ∧ z.toInt ≤ 2147483647) (z32 _) (fun z_24 hz_24 => ?_)
      refine s_pI E fp_X10_270 (Or.inl rfl) rfl (jv_lt hj_4 (by decide)) dX10_goDrawn_70 ?_
      refine s_gen (P := Jv w) (jv_f_95_24 hj_4 (by have hb_ := z32 z_24; omega) (by have hb_ := z32 z_24; omega)) (fun v_25 hj_26 => ?_)
      refine z_iinc (u := q10_6_3.toInt) (L2 := fun z_27 => [some (AR 95), some (AL x1), none, some (AI x2), some (AL z_16), none, some (AI z_27)]) E dX10_goDrawn_73 rfl rfl (by decide) (fun _ => rfl) (by decide) (by omega) (by omega) (fun z_27 hz_27 => ?_)
      refine s_goto (tgt := 10) E dX10_goDrawn_76 (by decide) ?_
      exact ih10 ⟨z_16, z_27⟩ v_25 ⟨⟨by have hb_ := z32 z_27; omega, by have hb_ := z32 z_27; omega⟩, hj_26⟩ (by first | omega | decide | (dsimp only; omega) | (dsimp only; decide))
    ·
      refine s_iconst (v := 1) E dX10_goDrawn_61 (by decide) ?_
      refine s_iload E dX10_goDrawn_62 rfl ?_
      refine z_shl1 14 (u := q10_6_3.toInt) (B := 16384) E dX10_goDrawn_64 rfl (by omega) (by omega) (by decide) (by decide) (fun z_28 hz_28 => ?_)
      refine s_goto (tgt := 69) E dX10_goDrawn_65 (by decide) ?_
      refine s_ior E dX10_goDrawn_69 ?_
      refine z_nm (P := fun z => (-2147483648) ≤ z.toInt ∧ z.toInt ≤ 2147483647) (z32 _) (fun z_29 hz_29 => ?_)
      refine s_pI E fp_X10_270 (Or.inl rfl) rfl (jv_lt hj_4 (by decide)) dX10_goDrawn_70 ?_
      refine s_gen (P := Jv w) (jv_f_95_24 hj_4 (by have hb_ := z32 z_29; omega) (by have hb_ := z32 z_29; omega)) (fun v_30 hj_31 => ?_)
      refine z_iinc (u := q10_6_3.toInt) (L2 := fun z_32 => [some (AR 95), some (AL x1), none, some (AI x2), some (AL z_16), none, some (AI z_32)]) E dX10_goDrawn_73 rfl rfl (by decide) (fun _ => rfl) (by decide) (by omega) (by omega) (fun z_32 hz_32 => ?_)
      refine s_goto (tgt := 10) E dX10_goDrawn_76 (by decide) ?_
      exact ih10 ⟨z_16, z_32⟩ v_30 ⟨⟨by have hb_ := z32 z_32; omega, by have hb_ := z32 z_32; omega⟩, hj_31⟩ (by first | omega | decide | (dsimp only; omega) | (dsimp only; decide))
set_option maxRecDepth 20000 in
set_option maxHeartbeats 2000000 in
theorem Z_X10_drawn_95 (l : Launch) (D : va_G) (aC : Nat → ClassId) (b : Nat) (w : XW) (x1 : Int32) (x2 : Int32) (x3 : Int32) (hI : Iv w)  : CnI l D aC b M_X10_drawn 6 143 0 0 [AR 95, AI x1, AI x2, AI x3] w (fun r u => ((-2147483648) ≤ r.toInt ∧ r.toInt ≤ 2147483647 ∧ (¬ r.toInt = 0 ∨ (0 ≤ x1.toInt ∧ x1.toInt ≤ 2000000000)) ∧ (¬ r.toInt = 0 ∨ (0 ≤ x2.toInt ∧ x2.toInt ≤ 5)) ∧ (¬ r.toInt = 0 ∨ (0 ≤ x3.toInt ∧ x3.toInt ≤ 1)) ∧ (¬ r.toInt = 0 ∨ (0 ≤ (w.2.2.1 96 5).toInt ∧ (w.2.2.1 96 5).toInt ≤ 6))) ∧ Jv w u) := by
  refine cn_I (own := RX10) (nm := "drawn") (L0 := [some (AR 95), some (AI x1), some (AI x2), some (AI x3), none]) (by decide +kernel) rfl rfl (Nat.le_of_ble_eq_true rfl) rfl ?_
  intro p e s m args below meth c E hin
  have hJ : Jv w w := jv_rfl hI
  have hb_x1 := z32 x1
  have hb_x2 := z32 x2
  have hb_x3 := z32 x3
  refine s_iload_n E dX10_drawn_0 rfl rfl ?_
  refine s_sI (As := [AI x1]) (S := []) E (Z_X10_isSeed l D aC b w x1 hJ.1 ) cs_X10_461 rfl rfl (Nat.le_of_ble_eq_true rfl) (Nat.le_of_ble_eq_true rfl) ⟨(Nat.le_of_ble_eq_true rfl), (Nat.le_of_ble_eq_true rfl)⟩ (Nat.le_of_ble_eq_true rfl) dX10_drawn_1 (fun z_3 u_1 hp_2 => ?_)
  obtain ⟨hz_3, hp_2⟩ := hp_2
  subst hp_2
  refine z_if_eq (tgt := 26) (u := z_3.toInt) E dX10_drawn_4 (by decide) rfl (fun h_5 => ?_) (fun h_5 => ?_)
  ·
    refine s_bipush (v := (-2)) E dX10_drawn_26 (by decide) ?_
    exact r_int E dX10_drawn_28 ⟨⟨by decide, by decide, by first | (left; decide) | (right; decide) | (right; have hb_ := z32 x1; omega), by first | (left; decide) | (right; decide) | (right; have hb_ := z32 x2; omega), by first | (left; decide) | (right; decide) | (right; have hb_ := z32 x3; omega), by first | (left; decide) | (right; decide) | (right; have hb_ := z32 (w.2.2.1 96 5); omega)⟩, hJ⟩
  ·
    refine s_aload_n E dX10_drawn_7 rfl rfl ?_
    refine s_iload_n E dX10_drawn_8 rfl rfl ?_
    refine z_i2l (u := x2.toInt) E dX10_drawn_9 rfl (fun z_6 hz_6 => ?_)
    refine s_vI (As := [AL z_6]) (S := []) E (Z_X10_isLady_95 l D aC b w z_6 hJ.1 ) cv_X10_222 rfl rfl rfl (jv_lt hJ (by decide)) (Nat.le_of_ble_eq_true rfl) (Nat.le_of_ble_eq_true rfl) ⟨(Nat.le_of_ble_eq_true rfl), (Nat.le_of_ble_eq_true rfl)⟩ (Nat.le_of_ble_eq_true rfl) dX10_drawn_10 (fun z_9 u_7 hp_8 => ?_)
    obtain ⟨hz_9, hxz_9, hp_8⟩ := hp_8
    subst hp_8
    refine z_if_eq (tgt := 26) (u := z_9.toInt) E dX10_drawn_13 (by decide) rfl (fun h_11 => ?_) (fun h_11 => ?_)
    ·
      refine s_bipush (v := (-2)) E dX10_drawn_26 (by decide) ?_
      exact r_int E dX10_drawn_28 ⟨⟨by decide, by decide, by first | (left; decide) | (right; decide) | (right; have hb_ := z32 x1; omega), by first | (left; decide) | (right; decide) | (right; have hb_ := z32 x2; omega), by first | (left; decide) | (right; decide) | (right; have hb_ := z32 x3; omega), by first | (left; decide) | (right; decide) | (right; have hb_ := z32 (w.2.2.1 96 5); omega)⟩, hJ⟩
    ·
      refine s_iload_n E dX10_drawn_16 rfl rfl ?_
      refine z_i2l (u := x3.toInt) E dX10_drawn_17 rfl (fun z_12 hz_12 => ?_)
      refine s_lconst (v := 0) E dX10_drawn_18 (by decide) ?_
      refine s_lconst (v := 1) E dX10_drawn_19 (by decide) ?_
      refine s_sI (As := [AL z_12, AL 0, AL 1]) (S := []) E (Z_X10_in l D aC b w z_12 0 1) cs_X10_82 rfl rfl (Nat.le_of_ble_eq_true rfl) (Nat.le_of_ble_eq_true rfl) ⟨(Nat.le_of_ble_eq_true rfl), (Nat.le_of_ble_eq_true rfl)⟩ (Nat.le_of_ble_eq_true rfl) dX10_drawn_20 (fun z_13 u_14 hp_15 => ?_)
      obtain ⟨hz_13, hp_15⟩ := hp_15
      subst hp_15
      have hcL_ : (0 : Int64).toInt = 0 := (by decide)
      have hcL_ : (1 : Int64).toInt = 1 := (by decide)
      refine z_if_ne (tgt := 29) (u := z_13.toInt) E dX10_drawn_23 (by decide) rfl (fun h_16 => ?_) (fun h_16 => ?_)
      ·
        refine s_aload_n E dX10_drawn_29 rfl rfl ?_
        refine s_iload_n E dX10_drawn_30 rfl rfl ?_
        refine z_i2l (u := x1.toInt) E dX10_drawn_31 rfl (fun z_17 hz_17 => ?_)
        refine s_iload_n E dX10_drawn_32 rfl rfl ?_
        refine s_vI (As := [AL z_17, AI x2]) (S := []) E (Z_X10_goDrawn_95 l D aC b w z_17 x2 hJ.1 ⟨by have hb_ := z32 x2; omega, by have hb_ := z32 x2; omega⟩) cv_X10_464 rfl rfl rfl (jv_lt hJ (by decide)) (Nat.le_of_ble_eq_true rfl) (Nat.le_of_ble_eq_true rfl) ⟨(Nat.le_of_ble_eq_true rfl), (Nat.le_of_ble_eq_true rfl)⟩ (Nat.le_of_ble_eq_true rfl) dX10_drawn_33 (fun z_20 u_18 hp_19 => ?_)
        obtain ⟨hz_20, hp_19⟩ := hp_19
        have hj_21 := jv_trans hJ hp_19
        refine s_istore (L2 := [some (AR 95), some (AI x1), some (AI x2), some (AI x3), some (AI z_20)]) E dX10_drawn_36 (by decide) rfl ?_
        refine s_iload_n E dX10_drawn_38 rfl rfl ?_
        refine z_if_ne (tgt := 49) (u := x3.toInt) E dX10_drawn_39 (by decide) rfl (fun h_22 => ?_) (fun h_22 => ?_)
        ·
          refine s_iload E dX10_drawn_49 rfl ?_
          exact r_int E dX10_drawn_51 ⟨⟨by have hb_ := z32 z_20; omega, by have hb_ := z32 z_20; omega, by first | (right; decide) | (have hb_ := z32 z_20; omega) | (have hb_ := z32 z_20; have hc_ := z32 x1; omega), by first | (right; decide) | (have hb_ := z32 z_20; omega) | (have hb_ := z32 z_20; have hc_ := z32 x2; omega), by first | (right; decide) | (have hb_ := z32 z_20; omega) | (have hb_ := z32 z_20; have hc_ := z32 x3; omega), by first | (right; decide) | (have hb_ := z32 z_20; omega) | (have hb_ := z32 z_20; have hc_ := z32 (w.2.2.1 96 5); omega)⟩, hj_21⟩
        ·
          refine s_aload_n E dX10_drawn_42 rfl rfl ?_
          refine s_gI E fg_X10_270 rfl rfl (jv_lt hj_21 (by decide)) dX10_drawn_43 ?_
          refine z_nm (P := fun z => z.toInt = (u_18.2.2.1 95 24).toInt ∧ (-2147483648) ≤ z.toInt ∧ z.toInt ≤ 2147483647) ⟨rfl, z32 _⟩ (fun z_23 hz_23 => ?_)
          refine s_goto (tgt := 51) E dX10_drawn_46 (by decide) ?_
          exact r_int E dX10_drawn_51 ⟨⟨by have hb_ := z32 z_23; omega, by have hb_ := z32 z_23; omega, by first | (right; decide) | (have hb_ := z32 z_23; omega) | (have hb_ := z32 z_23; have hc_ := z32 x1; omega), by first | (right; decide) | (have hb_ := z32 z_23; omega) | (have hb_ := z32 z_23; have hc_ := z32 x2; omega), by first | (right; decide) | (have hb_ := z32 z_23; omega) | (have hb_ := z32 z_23; have hc_ := z32 x3; omega), by first | (right; decide) | (have hb_ := z32 z_23; omega) | (have hb_ := z32 z_23; have hc_ := z32 (w.2.2.1 96 5); omega)⟩, hj_21⟩
      ·
        refine s_bipush (v := (-2)) E dX10_drawn_26 (by decide) ?_
        exact r_int E dX10_drawn_28 ⟨⟨by decide, by decide, by first | (left; decide) | (right; decide) | (right; have hb_ := z32 x1; omega), by first | (left; decide) | (right; decide) | (right; have hb_ := z32 x2; omega), by first | (left; decide) | (right; decide) | (right; have hb_ := z32 x3; omega), by first | (left; decide) | (right; decide) | (right; have hb_ := z32 (w.2.2.1 96 5); omega)⟩, hJ⟩
set_option maxRecDepth 20000 in
set_option maxHeartbeats 2000000 in
theorem Z_X10_luck_95 (l : Launch) (D : va_G) (aC : Nat → ClassId) (b : Nat) (w : XW) (x1 : Int32) (x2 : Int32) (x3 : Int32) (x4 : Int32) (hI : Iv w)  : CnI l D aC b M_X10_luck 6 143 0 0 [AR 95, AI x1, AI x2, AI x3, AI x4] w (fun r u => ((-2147483648) ≤ r.toInt ∧ r.toInt ≤ 2147483647 ∧ (¬ r.toInt = 0 ∨ (0 ≤ x1.toInt ∧ x1.toInt ≤ 2000000000)) ∧ (¬ r.toInt = 0 ∨ (1 ≤ x2.toInt ∧ x2.toInt ≤ 20)) ∧ (¬ r.toInt = 0 ∨ (0 ≤ x3.toInt ∧ x3.toInt ≤ 5)) ∧ (¬ r.toInt = 0 ∨ (0 ≤ x4.toInt ∧ x4.toInt ≤ 5)) ∧ (¬ r.toInt = 0 ∨ (0 ≤ (w.2.2.1 96 5).toInt ∧ (w.2.2.1 96 5).toInt ≤ 6))) ∧ Jv w u) := by
  refine cn_I (own := RX10) (nm := "luck") (L0 := [some (AR 95), some (AI x1), some (AI x2), some (AI x3), some (AI x4), none, none]) (by decide +kernel) rfl rfl (Nat.le_of_ble_eq_true rfl) rfl ?_
  intro p e s m args below meth c E hin
  have hJ : Jv w w := jv_rfl hI
  have hb_x1 := z32 x1
  have hb_x2 := z32 x2
  have hb_x3 := z32 x3
  have hb_x4 := z32 x4
  refine s_iload_n E dX10_luck_0 rfl rfl ?_
  refine s_sI (As := [AI x1]) (S := []) E (Z_X10_isSeed l D aC b w x1 hJ.1 ) cs_X10_461 rfl rfl (Nat.le_of_ble_eq_true rfl) (Nat.le_of_ble_eq_true rfl) ⟨(Nat.le_of_ble_eq_true rfl), (Nat.le_of_ble_eq_true rfl)⟩ (Nat.le_of_ble_eq_true rfl) dX10_luck_1 (fun z_3 u_1 hp_2 => ?_)
  obtain ⟨hz_3, hp_2⟩ := hp_2
  subst hp_2
  refine z_if_eq (tgt := 38) (u := z_3.toInt) E dX10_luck_4 (by decide) rfl (fun h_5 => ?_) (fun h_5 => ?_)
  ·
    refine s_bipush (v := (-2)) E dX10_luck_38 (by decide) ?_
    exact r_int E dX10_luck_40 ⟨⟨by decide, by decide, by first | (left; decide) | (right; decide) | (right; have hb_ := z32 x1; omega), by first | (left; decide) | (right; decide) | (right; have hb_ := z32 x2; omega), by first | (left; decide) | (right; decide) | (right; have hb_ := z32 x3; omega), by first | (left; decide) | (right; decide) | (right; have hb_ := z32 x4; omega), by first | (left; decide) | (right; decide) | (right; have hb_ := z32 (w.2.2.1 96 5); omega)⟩, hJ⟩
  ·
    refine s_iload_n E dX10_luck_7 rfl rfl ?_
    refine z_i2l (u := x2.toInt) E dX10_luck_8 rfl (fun z_6 hz_6 => ?_)
    refine s_lconst (v := 1) E dX10_luck_9 (by decide) ?_
    refine s_ldc2 E k_1970 rfl dX10_luck_10 ?_
    refine s_sI (As := [AL z_6, AL 1, AL 20]) (S := []) E (Z_X10_in l D aC b w z_6 1 20) cs_X10_82 rfl rfl (Nat.le_of_ble_eq_true rfl) (Nat.le_of_ble_eq_true rfl) ⟨(Nat.le_of_ble_eq_true rfl), (Nat.le_of_ble_eq_true rfl)⟩ (Nat.le_of_ble_eq_true rfl) dX10_luck_13 (fun z_7 u_8 hp_9 => ?_)
    obtain ⟨hz_7, hp_9⟩ := hp_9
    subst hp_9
    have hcL_ : (1 : Int64).toInt = 1 := (by decide)
    have hcL_ : (20 : Int64).toInt = 20 := (by decide)
    refine z_if_eq (tgt := 38) (u := z_7.toInt) E dX10_luck_16 (by decide) rfl (fun h_10 => ?_) (fun h_10 => ?_)
    ·
      refine s_bipush (v := (-2)) E dX10_luck_38 (by decide) ?_
      exact r_int E dX10_luck_40 ⟨⟨by decide, by decide, by first | (left; decide) | (right; decide) | (right; have hb_ := z32 x1; omega), by first | (left; decide) | (right; decide) | (right; have hb_ := z32 x2; omega), by first | (left; decide) | (right; decide) | (right; have hb_ := z32 x3; omega), by first | (left; decide) | (right; decide) | (right; have hb_ := z32 x4; omega), by first | (left; decide) | (right; decide) | (right; have hb_ := z32 (w.2.2.1 96 5); omega)⟩, hJ⟩
    ·
      refine s_aload_n E dX10_luck_19 rfl rfl ?_
      refine s_iload_n E dX10_luck_20 rfl rfl ?_
      refine z_i2l (u := x3.toInt) E dX10_luck_21 rfl (fun z_11 hz_11 => ?_)
      refine s_vI (As := [AL z_11]) (S := []) E (Z_X10_isLady_95 l D aC b w z_11 hJ.1 ) cv_X10_222 rfl rfl rfl (jv_lt hJ (by decide)) (Nat.le_of_ble_eq_true rfl) (Nat.le_of_ble_eq_true rfl) ⟨(Nat.le_of_ble_eq_true rfl), (Nat.le_of_ble_eq_true rfl)⟩ (Nat.le_of_ble_eq_true rfl) dX10_luck_22 (fun z_14 u_12 hp_13 => ?_)
      obtain ⟨hz_14, hxz_14, hp_13⟩ := hp_13
      subst hp_13
      refine z_if_eq (tgt := 38) (u := z_14.toInt) E dX10_luck_25 (by decide) rfl (fun h_16 => ?_) (fun h_16 => ?_)
      ·
        refine s_bipush (v := (-2)) E dX10_luck_38 (by decide) ?_
        exact r_int E dX10_luck_40 ⟨⟨by decide, by decide, by first | (left; decide) | (right; decide) | (right; have hb_ := z32 x1; omega), by first | (left; decide) | (right; decide) | (right; have hb_ := z32 x2; omega), by first | (left; decide) | (right; decide) | (right; have hb_ := z32 x3; omega), by first | (left; decide) | (right; decide) | (right; have hb_ := z32 x4; omega), by first | (left; decide) | (right; decide) | (right; have hb_ := z32 (w.2.2.1 96 5); omega)⟩, hJ⟩
      ·
        refine s_aload_n E dX10_luck_28 rfl rfl ?_
        refine s_iload E dX10_luck_29 rfl ?_
        refine z_i2l (u := x4.toInt) E dX10_luck_31 rfl (fun z_17 hz_17 => ?_)
        refine s_vI (As := [AL z_17]) (S := []) E (Z_X10_isLady_95 l D aC b w z_17 hJ.1 ) cv_X10_222 rfl rfl rfl (jv_lt hJ (by decide)) (Nat.le_of_ble_eq_true rfl) (Nat.le_of_ble_eq_true rfl) ⟨(Nat.le_of_ble_eq_true rfl), (Nat.le_of_ble_eq_true rfl)⟩ (Nat.le_of_ble_eq_true rfl) dX10_luck_32 (fun z_20 u_18 hp_19 => ?_)
        obtain ⟨hz_20, hxz_20, hp_19⟩ := hp_19
        subst hp_19
        refine z_if_ne (tgt := 41) (u := z_20.toInt) E dX10_luck_35 (by decide) rfl (fun h_22 => ?_) (fun h_22 => ?_)
        ·
          refine s_iconst (v := 0) E dX10_luck_41 (by decide) ?_
          refine s_istore (L2 := [some (AR 95), some (AI x1), some (AI x2), some (AI x3), some (AI x4), some (AI 0), none]) E dX10_luck_42 (by decide) rfl ?_
          refine s_iconst (v := 0) E dX10_luck_44 (by decide) ?_
          refine s_istore (L2 := [some (AR 95), some (AI x1), some (AI x2), some (AI x3), some (AI x4), some (AI 0), some (AI 0)]) E dX10_luck_45 (by decide) rfl ?_
          refine z_loop (St := Int32 × Int32) (Pi := fun ⟨q47_5_22, q47_6_22⟩ v47 => (0 ≤ q47_6_22.toInt ∧ q47_6_22.toInt ≤ 20) ∧ Jv w v47) (Lf := fun ⟨q47_5_22, q47_6_22⟩ => [some (AR 95), some (AI x1), some (AI x2), some (AI x3), some (AI x4), some (AI q47_5_22), some (AI q47_6_22)]) (fun ⟨q47_5_22, q47_6_22⟩ _ => (21 - q47_6_22.toInt).toNat) ⟨0, 0⟩ ⟨⟨by decide, by decide⟩, hJ⟩ ?_
          rintro ⟨q47_5_22, q47_6_22⟩ v47 ⟨hq47_6, hj_23⟩ ih47
          have hbq47_5 := z32 q47_5_22
          refine s_loc (L2 := [some (AR 95), some (AI x1), some (AI x2), some (AI x3), some (AI x4), some (AI q47_5_22), some (AI q47_6_22)]) rfl ?_
          refine s_iload E dX10_luck_47 rfl ?_
          refine s_iload_n E dX10_luck_49 rfl rfl ?_
          refine z_icmp_ge (tgt := 80) (u := q47_6_22.toInt) (v := x2.toInt) E dX10_luck_50 (by decide) rfl rfl (fun h_24 => ?_) (fun h_24 => ?_)
          ·
            refine s_iload E dX10_luck_80 rfl ?_
            exact r_int E dX10_luck_82 ⟨⟨by have hb_ := z32 q47_5_22; omega, by have hb_ := z32 q47_5_22; omega, by first | (right; decide) | (have hb_ := z32 q47_5_22; omega) | (have hb_ := z32 q47_5_22; have hc_ := z32 x1; omega), by first | (right; decide) | (have hb_ := z32 q47_5_22; omega) | (have hb_ := z32 q47_5_22; have hc_ := z32 x2; omega), by first | (right; decide) | (have hb_ := z32 q47_5_22; omega) | (have hb_ := z32 q47_5_22; have hc_ := z32 x3; omega), by first | (right; decide) | (have hb_ := z32 q47_5_22; omega) | (have hb_ := z32 q47_5_22; have hc_ := z32 x4; omega), by first | (right; decide) | (have hb_ := z32 q47_5_22; omega) | (have hb_ := z32 q47_5_22; have hc_ := z32 (w.2.2.1 96 5); omega)⟩, hj_23⟩
          ·
            refine s_iload E dX10_luck_53 rfl ?_
            refine s_aload_n E dX10_luck_55 rfl rfl ?_
            refine s_iload_n E dX10_luck_56 rfl rfl ?_
            refine z_i2l (u := x1.toInt) E dX10_luck_57 rfl (fun z_25 hz_25 => ?_)
            refine s_iload E dX10_luck_58 rfl ?_
            refine z_i2l (u := q47_6_22.toInt) E dX10_luck_60 rfl (fun z_26 hz_26 => ?_)
            refine z_ladd (u := z_25.toInt) (v := z_26.toInt) E dX10_luck_61 rfl rfl (by omega) (by omega) (fun z_27 hz_27 => ?_)
            refine s_iload_n E dX10_luck_62 rfl rfl ?_
            refine s_vI (As := [AL z_27, AI x3]) (S := [AI q47_5_22]) E (Z_X10_goDrawn_95 l D aC b v47 z_27 x3 hj_23.1 ⟨by have hb_ := z32 x3; omega, by have hb_ := z32 x3; omega⟩) cv_X10_464 rfl rfl rfl (jv_lt hj_23 (by decide)) (Nat.le_of_ble_eq_true rfl) (Nat.le_of_ble_eq_true rfl) ⟨(Nat.le_of_ble_eq_true rfl), (Nat.le_of_ble_eq_true rfl)⟩ (Nat.le_of_ble_eq_true rfl) dX10_luck_63 (fun z_30 u_28 hp_29 => ?_)
            obtain ⟨hz_30, hp_29⟩ := hp_29
            have hj_31 := jv_trans hj_23 hp_29
            refine s_iload E dX10_luck_66 rfl ?_
            refine s_sI (As := [AI z_30, AI x4]) (S := [AI q47_5_22]) E (Z_X10_bit l D aC b u_28 z_30 x4 hj_31.1 ) cs_X10_252 rfl rfl (Nat.le_of_ble_eq_true rfl) (Nat.le_of_ble_eq_true rfl) ⟨(Nat.le_of_ble_eq_true rfl), (Nat.le_of_ble_eq_true rfl)⟩ (Nat.le_of_ble_eq_true rfl) dX10_luck_68 (fun z_34 u_32 hp_33 => ?_)
            obtain ⟨hz_34, hxz_34, hp_33⟩ := hp_33
            subst hp_33
            refine s_iadd E dX10_luck_71 ?_
            refine z_nm (P := fun z => (-2147483648) ≤ z.toInt ∧ z.toInt ≤ 2147483647) (z32 _) (fun z_36 hz_36 => ?_)
            refine s_istore (L2 := [some (AR 95), some (AI x1), some (AI x2), some (AI x3), some (AI x4), some (AI z_36), some (AI q47_6_22)]) E dX10_luck_72 (by decide) rfl ?_
            refine z_iinc (u := q47_6_22.toInt) (L2 := fun z_37 => [some (AR 95), some (AI x1), some (AI x2), some (AI x3), some (AI x4), some (AI z_36), some (AI z_37)]) E dX10_luck_74 rfl rfl (by decide) (fun _ => rfl) (by decide) (by omega) (by omega) (fun z_37 hz_37 => ?_)
            refine s_goto (tgt := 47) E dX10_luck_77 (by decide) ?_
            exact ih47 ⟨z_36, z_37⟩ u_28 ⟨⟨by have hb_ := z32 z_37; omega, by have hb_ := z32 z_37; omega⟩, hj_31⟩ (by first | omega | decide | (dsimp only; omega) | (dsimp only; decide))
        ·
          refine s_bipush (v := (-2)) E dX10_luck_38 (by decide) ?_
          exact r_int E dX10_luck_40 ⟨⟨by decide, by decide, by first | (left; decide) | (right; decide) | (right; have hb_ := z32 x1; omega), by first | (left; decide) | (right; decide) | (right; have hb_ := z32 x2; omega), by first | (left; decide) | (right; decide) | (right; have hb_ := z32 x3; omega), by first | (left; decide) | (right; decide) | (right; have hb_ := z32 x4; omega), by first | (left; decide) | (right; decide) | (right; have hb_ := z32 (w.2.2.1 96 5); omega)⟩, hJ⟩
