set_option maxRecDepth 20000 in
set_option maxHeartbeats 2000000 in
theorem Z_X10_isDance_95 (l : Launch) (D : va_G) (aC : Nat → ClassId) (b : Nat) (w : XW) (x1 : Int64) (hI : Iv w)  : CnI l D aC b M_X10_isDance 1 25 0 0 [AR 95, AL x1] w (fun r u => (0 ≤ r.toInt ∧ r.toInt ≤ 1 ∧ (¬ r.toInt = 0 ∨ (0 ≤ (w.2.2.1 96 9).toInt ∧ (w.2.2.1 96 9).toInt ≤ 2147483647)) ∧ (r.toInt = 0 ∨ (0 ≤ x1.toInt ∧ x1.toInt ≤ 14)) ∧ (r.toInt = 0 ∨ (1 ≤ (w.2.2.1 96 9).toInt ∧ (w.2.2.1 96 9).toInt ≤ 2147483647)) ∧ (r.toInt = 0 ∨ (0 ≤ (w.2.2.1 96 1).toInt ∧ (w.2.2.1 96 1).toInt ≤ 14))) ∧ w = u) := by
  refine cn_I (own := RX10) (nm := "isDance") (L0 := [some (AR 95), some (AL x1), none]) (by decide +kernel) rfl rfl (Nat.le_of_ble_eq_true rfl) rfl ?_
  intro p e s m args below meth c E hin
  have hJ : Jv w w := jv_rfl hI
  refine s_aload_n E dX10_isDance_0 rfl rfl ?_
  refine s_vI (As := []) (S := []) E (Z_X10_isBall_95 l D aC b w  hJ.1 ) cv_X10_86 rfl rfl rfl (jv_lt hJ (by decide)) (Nat.le_of_ble_eq_true rfl) (Nat.le_of_ble_eq_true rfl) ⟨(Nat.le_of_ble_eq_true rfl), (Nat.le_of_ble_eq_true rfl)⟩ (Nat.le_of_ble_eq_true rfl) dX10_isDance_1 (fun z_3 u_1 hp_2 => ?_)
  obtain ⟨hz_3, hp_2⟩ := hp_2
  subst hp_2
  refine z_if_eq (tgt := 26) (u := z_3.toInt) E dX10_isDance_4 (by decide) rfl (fun h_5 => ?_) (fun h_5 => ?_)
  ·
    refine s_iconst (v := 0) E dX10_isDance_26 (by decide) ?_
    exact r_bool E dX10_isDance_27 (Or.inl rfl) ⟨⟨by decide, by decide, by first | (left; decide) | (right; decide) | (right; have hb_ := z32 (w.2.2.1 96 9); omega), by first | (left; decide) | (right; decide) | (right; have hb_ := z64 x1; omega), by first | (left; decide) | (right; decide) | (right; have hb_ := z32 (w.2.2.1 96 9); omega), by first | (left; decide) | (right; decide) | (right; have hb_ := z32 (w.2.2.1 96 1); omega)⟩, rfl⟩
  ·
    refine s_lload_n E dX10_isDance_7 rfl rfl ?_
    refine s_lconst (v := 0) E dX10_isDance_8 (by decide) ?_
    refine s_aload_n E dX10_isDance_9 rfl rfl ?_
    refine s_gR (r := 96) E fg_X10_9 rfl rfl (jv_lt hJ (by decide)) (jv_r hJ (by decide +kernel)) dX10_isDance_10 ?_
    refine s_iconst (v := 1) E dX10_isDance_13 (by decide) ?_
    refine s_iald E rfl (jv_lt hJ (by decide)) (z_in (u := 1) (by decide) (by omega) (by omega)) dX10_isDance_14 ?_
    refine z_nm (P := fun z => z.toInt = (w.2.2.1 96 1).toInt ∧ 0 ≤ z.toInt ∧ z.toInt ≤ 14) ⟨rfl, (rw_96_1 hJ)⟩ (fun z_6 hz_6 => ?_)
    refine z_i2l (u := z_6.toInt) E dX10_isDance_15 rfl (fun z_7 hz_7 => ?_)
    refine s_sI (As := [AL x1, AL 0, AL z_7]) (S := []) E (Z_X10_in l D aC b w x1 0 z_7) cs_X10_82 rfl rfl (Nat.le_of_ble_eq_true rfl) (Nat.le_of_ble_eq_true rfl) ⟨(Nat.le_of_ble_eq_true rfl), (Nat.le_of_ble_eq_true rfl)⟩ (Nat.le_of_ble_eq_true rfl) dX10_isDance_16 (fun z_8 u_9 hp_10 => ?_)
    obtain ⟨hz_8, hp_10⟩ := hp_10
    subst hp_10
    refine z_if_eq (tgt := 26) (u := z_8.toInt) E dX10_isDance_19 (by decide) rfl (fun h_11 => ?_) (fun h_11 => ?_)
    ·
      refine s_iconst (v := 0) E dX10_isDance_26 (by decide) ?_
      exact r_bool E dX10_isDance_27 (Or.inl rfl) ⟨⟨by decide, by decide, by first | (left; decide) | (right; decide) | (right; have hb_ := z32 (w.2.2.1 96 9); omega), by first | (left; decide) | (right; decide) | (right; have hb_ := z64 x1; omega), by first | (left; decide) | (right; decide) | (right; have hb_ := z32 (w.2.2.1 96 9); omega), by first | (left; decide) | (right; decide) | (right; have hb_ := z32 (w.2.2.1 96 1); omega)⟩, rfl⟩
    ·
      refine s_iconst (v := 1) E dX10_isDance_22 (by decide) ?_
      refine s_goto (tgt := 27) E dX10_isDance_23 (by decide) ?_
      exact r_bool E dX10_isDance_27 (Or.inr rfl) ⟨⟨by decide, by decide, by first | (left; decide) | (right; decide) | (right; have hb_ := z32 (w.2.2.1 96 9); omega), by first | (left; decide) | (right; decide) | (right; have hb_ := z64 x1; omega), by first | (left; decide) | (right; decide) | (right; have hb_ := z32 (w.2.2.1 96 9); omega), by first | (left; decide) | (right; decide) | (right; have hb_ := z32 (w.2.2.1 96 1); omega)⟩, rfl⟩
set_option maxRecDepth 20000 in
set_option maxHeartbeats 2000000 in
theorem Z_X10_bidden_95 (l : Launch) (D : va_G) (aC : Nat → ClassId) (b : Nat) (w : XW) (x1 : Int32) (x2 : Int32) (hI : Iv w)  : CnI l D aC b M_X10_bidden 2 47 0 0 [AR 95, AI x1, AI x2] w (fun r u => ((-2) ≤ r.toInt ∧ r.toInt ≤ 7 ∧ (¬ r.toInt = 0 ∨ (0 ≤ x1.toInt ∧ x1.toInt ≤ 5)) ∧ (¬ r.toInt = 0 ∨ (0 ≤ x2.toInt ∧ x2.toInt ≤ 14)) ∧ (¬ r.toInt = 0 ∨ (0 ≤ (w.2.2.1 96 5).toInt ∧ (w.2.2.1 96 5).toInt ≤ 6)) ∧ (¬ r.toInt = 0 ∨ (1 ≤ (w.2.2.1 96 9).toInt ∧ (w.2.2.1 96 9).toInt ≤ 2147483647)) ∧ (¬ r.toInt = 0 ∨ (0 ≤ (w.2.2.1 96 1).toInt ∧ (w.2.2.1 96 1).toInt ≤ 14)) ∧ (¬ r.toInt = 0 ∨ (0 ≤ (w.2.2.1 96 7).toInt ∧ (w.2.2.1 96 7).toInt ≤ 10)) ∧ (¬ r.toInt = 0 ∨ (0 ≤ (w.2.2.1 96 8).toInt ∧ (w.2.2.1 96 8).toInt ≤ 30)) ∧ (r.toInt = 0 ∨ (0 ≤ (w.2.2.1 96 5).toInt ∧ (w.2.2.1 96 5).toInt ≤ 6))) ∧ w = u) := by
  refine cn_I (own := RX10) (nm := "bidden") (L0 := [some (AR 95), some (AI x1), some (AI x2)]) (by decide +kernel) rfl rfl (Nat.le_of_ble_eq_true rfl) rfl ?_
  intro p e s m args below meth c E hin
  have hJ : Jv w w := jv_rfl hI
  have hb_x1 := z32 x1
  have hb_x2 := z32 x2
  refine s_aload_n E dX10_bidden_0 rfl rfl ?_
  refine s_iload_n E dX10_bidden_1 rfl rfl ?_
  refine z_i2l (u := x1.toInt) E dX10_bidden_2 rfl (fun z_1 hz_1 => ?_)
  refine s_vI (As := [AL z_1]) (S := []) E (Z_X10_isLady_95 l D aC b w z_1 hJ.1 ) cv_X10_222 rfl rfl rfl (jv_lt hJ (by decide)) (Nat.le_of_ble_eq_true rfl) (Nat.le_of_ble_eq_true rfl) ⟨(Nat.le_of_ble_eq_true rfl), (Nat.le_of_ble_eq_true rfl)⟩ (Nat.le_of_ble_eq_true rfl) dX10_bidden_3 (fun z_4 u_2 hp_3 => ?_)
  obtain ⟨hz_4, hp_3⟩ := hp_3
  subst hp_3
  refine z_if_eq (tgt := 27) (u := z_4.toInt) E dX10_bidden_6 (by decide) rfl (fun h_6 => ?_) (fun h_6 => ?_)
  ·
    refine s_bipush (v := (-2)) E dX10_bidden_27 (by decide) ?_
    exact r_int E dX10_bidden_29 ⟨⟨by decide, by decide, by first | (left; decide) | (right; decide) | (right; have hb_ := z32 x1; omega), by first | (left; decide) | (right; decide) | (right; have hb_ := z32 x2; omega), by first | (left; decide) | (right; decide) | (right; have hb_ := z32 (w.2.2.1 96 5); omega), by first | (left; decide) | (right; decide) | (right; have hb_ := z32 (w.2.2.1 96 9); omega), by first | (left; decide) | (right; decide) | (right; have hb_ := z32 (w.2.2.1 96 1); omega), by first | (left; decide) | (right; decide) | (right; have hb_ := z32 (w.2.2.1 96 7); omega), by first | (left; decide) | (right; decide) | (right; have hb_ := z32 (w.2.2.1 96 8); omega), by first | (left; decide) | (right; decide) | (right; have hb_ := z32 (w.2.2.1 96 5); omega)⟩, rfl⟩
  ·
    refine s_aload_n E dX10_bidden_9 rfl rfl ?_
    refine s_iload_n E dX10_bidden_10 rfl rfl ?_
    refine z_i2l (u := x2.toInt) E dX10_bidden_11 rfl (fun z_7 hz_7 => ?_)
    refine s_vI (As := [AL z_7]) (S := []) E (Z_X10_isDance_95 l D aC b w z_7 hJ.1 ) cv_X10_282 rfl rfl rfl (jv_lt hJ (by decide)) (Nat.le_of_ble_eq_true rfl) (Nat.le_of_ble_eq_true rfl) ⟨(Nat.le_of_ble_eq_true rfl), (Nat.le_of_ble_eq_true rfl)⟩ (Nat.le_of_ble_eq_true rfl) dX10_bidden_12 (fun z_10 u_8 hp_9 => ?_)
    obtain ⟨hz_10, hp_9⟩ := hp_9
    subst hp_9
    refine z_if_eq (tgt := 27) (u := z_10.toInt) E dX10_bidden_15 (by decide) rfl (fun h_12 => ?_) (fun h_12 => ?_)
    ·
      refine s_bipush (v := (-2)) E dX10_bidden_27 (by decide) ?_
      exact r_int E dX10_bidden_29 ⟨⟨by decide, by decide, by first | (left; decide) | (right; decide) | (right; have hb_ := z32 x1; omega), by first | (left; decide) | (right; decide) | (right; have hb_ := z32 x2; omega), by first | (left; decide) | (right; decide) | (right; have hb_ := z32 (w.2.2.1 96 5); omega), by first | (left; decide) | (right; decide) | (right; have hb_ := z32 (w.2.2.1 96 9); omega), by first | (left; decide) | (right; decide) | (right; have hb_ := z32 (w.2.2.1 96 1); omega), by first | (left; decide) | (right; decide) | (right; have hb_ := z32 (w.2.2.1 96 7); omega), by first | (left; decide) | (right; decide) | (right; have hb_ := z32 (w.2.2.1 96 8); omega), by first | (left; decide) | (right; decide) | (right; have hb_ := z32 (w.2.2.1 96 5); omega)⟩, rfl⟩
    ·
      refine s_aload_n E dX10_bidden_18 rfl rfl ?_
      refine s_iload_n E dX10_bidden_19 rfl rfl ?_
      refine s_iload_n E dX10_bidden_20 rfl rfl ?_
      refine s_vI (As := [AI x1, AI x2]) (S := []) E (Z_X10_biddenOf_95 l D aC b w x1 x2 hJ.1 ⟨by have hb_ := z32 x1; omega, by have hb_ := z32 x1; omega⟩ ⟨by have hb_ := z32 x2; omega, by have hb_ := z32 x2; omega⟩) cv_X10_258 rfl rfl rfl (jv_lt hJ (by decide)) (Nat.le_of_ble_eq_true rfl) (Nat.le_of_ble_eq_true rfl) ⟨(Nat.le_of_ble_eq_true rfl), (Nat.le_of_ble_eq_true rfl)⟩ (Nat.le_of_ble_eq_true rfl) dX10_bidden_21 (fun z_15 u_13 hp_14 => ?_)
      obtain ⟨hz_15, hp_14⟩ := hp_14
      subst hp_14
      refine s_goto (tgt := 29) E dX10_bidden_24 (by decide) ?_
      exact r_int E dX10_bidden_29 ⟨⟨by have hb_ := z32 z_15; omega, by have hb_ := z32 z_15; omega, by first | (right; decide) | (have hb_ := z32 z_15; omega) | (have hb_ := z32 z_15; have hc_ := z32 x1; omega), by first | (right; decide) | (have hb_ := z32 z_15; omega) | (have hb_ := z32 z_15; have hc_ := z32 x2; omega), by first | (right; decide) | (have hb_ := z32 z_15; omega) | (have hb_ := z32 z_15; have hc_ := z32 (w.2.2.1 96 5); omega), by first | (right; decide) | (have hb_ := z32 z_15; omega) | (have hb_ := z32 z_15; have hc_ := z32 (w.2.2.1 96 9); omega), by first | (right; decide) | (have hb_ := z32 z_15; omega) | (have hb_ := z32 z_15; have hc_ := z32 (w.2.2.1 96 1); omega), by first | (right; decide) | (have hb_ := z32 z_15; omega) | (have hb_ := z32 z_15; have hc_ := z32 (w.2.2.1 96 7); omega), by first | (right; decide) | (have hb_ := z32 z_15; omega) | (have hb_ := z32 z_15; have hc_ := z32 (w.2.2.1 96 8); omega), by first | (right; decide) | (have hb_ := z32 z_15; omega) | (have hb_ := z32 z_15; have hc_ := z32 (w.2.2.1 96 5); omega)⟩, rfl⟩
set_option maxRecDepth 20000 in
set_option maxHeartbeats 2000000 in
theorem Z_X10_asksDance_95 (l : Launch) (D : va_G) (aC : Nat → ClassId) (b : Nat) (w : XW) (x1 : Int32) (hI : Iv w)  : CnI l D aC b M_X10_asksDance 4 92 0 0 [AR 95, AI x1] w (fun r u => (0 ≤ r.toInt ∧ r.toInt ≤ 1 ∧ (r.toInt = 0 ∨ (0 ≤ x1.toInt ∧ x1.toInt ≤ 14))) ∧ Jv w u) := by
  refine cn_I (own := RX10) (nm := "asksDance") (L0 := [some (AR 95), some (AI x1)]) (by decide +kernel) rfl rfl (Nat.le_of_ble_eq_true rfl) rfl ?_
  intro p e s m args below meth c E hin
  have hJ : Jv w w := jv_rfl hI
  have hb_x1 := z32 x1
  refine s_aload_n E dX10_asksDance_0 rfl rfl ?_
  refine s_vV (As := []) (S := []) E (Z_X10_asItIs_95 l D aC b w  hJ.1 ) cv_X10_279 rfl rfl rfl (jv_lt hJ (by decide)) (Nat.le_of_ble_eq_true rfl) (Nat.le_of_ble_eq_true rfl) ⟨(Nat.le_of_ble_eq_true rfl), (Nat.le_of_ble_eq_true rfl)⟩ (Nat.le_of_ble_eq_true rfl) dX10_asksDance_1 (fun u_1 hp_2 => ?_)
  have hj_3 := jv_trans hJ hp_2
  refine s_aload_n E dX10_asksDance_4 rfl rfl ?_
  refine s_iload_n E dX10_asksDance_5 rfl rfl ?_
  refine z_i2l (u := x1.toInt) E dX10_asksDance_6 rfl (fun z_4 hz_4 => ?_)
  refine s_vI (As := [AL z_4]) (S := []) E (Z_X10_isDance_95 l D aC b u_1 z_4 hj_3.1 ) cv_X10_282 rfl rfl rfl (jv_lt hj_3 (by decide)) (Nat.le_of_ble_eq_true rfl) (Nat.le_of_ble_eq_true rfl) ⟨(Nat.le_of_ble_eq_true rfl), (Nat.le_of_ble_eq_true rfl)⟩ (Nat.le_of_ble_eq_true rfl) dX10_asksDance_7 (fun z_7 u_5 hp_6 => ?_)
  obtain ⟨hz_7, hp_6⟩ := hp_6
  subst hp_6
  exact r_bool E dX10_asksDance_10 (z_bool (by omega) (by omega)) ⟨⟨by have hb_ := z32 z_7; omega, by have hb_ := z32 z_7; omega, by first | (right; decide) | (have hb_ := z32 z_7; omega) | (have hb_ := z32 z_7; have hc_ := z32 x1; omega)⟩, hj_3⟩
set_option maxRecDepth 20000 in
set_option maxHeartbeats 2000000 in
theorem Z_X10_at_95 (l : Launch) (D : va_G) (aC : Nat → ClassId) (b : Nat) (w : XW) (x1 : Int32) (x2 : Int32) (hI : Iv w)  : CnI l D aC b M_X10_at 5 113 0 0 [AR 95, AI x1, AI x2] w (fun r u => ((-2) ≤ r.toInt ∧ r.toInt ≤ 7 ∧ (¬ r.toInt = 0 ∨ (0 ≤ x1.toInt ∧ x1.toInt ≤ 5)) ∧ (¬ r.toInt = 0 ∨ (0 ≤ x2.toInt ∧ x2.toInt ≤ 14))) ∧ Jv w u) := by
  refine cn_I (own := RX10) (nm := "at") (L0 := [some (AR 95), some (AI x1), some (AI x2)]) (by decide +kernel) rfl rfl (Nat.le_of_ble_eq_true rfl) rfl ?_
  intro p e s m args below meth c E hin
  have hJ : Jv w w := jv_rfl hI
  have hb_x1 := z32 x1
  have hb_x2 := z32 x2
  refine s_aload_n E dX10_at_0 rfl rfl ?_
  refine s_iload_n E dX10_at_1 rfl rfl ?_
  refine s_vI (As := [AI x2]) (S := []) E (Z_X10_asksDance_95 l D aC b w x2 hJ.1 ) cv_X10_294 rfl rfl rfl (jv_lt hJ (by decide)) (Nat.le_of_ble_eq_true rfl) (Nat.le_of_ble_eq_true rfl) ⟨(Nat.le_of_ble_eq_true rfl), (Nat.le_of_ble_eq_true rfl)⟩ (Nat.le_of_ble_eq_true rfl) dX10_at_2 (fun z_3 u_1 hp_2 => ?_)
  obtain ⟨hz_3, hp_2⟩ := hp_2
  have hj_4 := jv_trans hJ hp_2
  refine z_if_eq (tgt := 26) (u := z_3.toInt) E dX10_at_5 (by decide) rfl (fun h_5 => ?_) (fun h_5 => ?_)
  ·
    refine s_bipush (v := (-2)) E dX10_at_26 (by decide) ?_
    exact r_int E dX10_at_28 ⟨⟨by decide, by decide, by first | (left; decide) | (right; decide) | (right; have hb_ := z32 x1; omega), by first | (left; decide) | (right; decide) | (right; have hb_ := z32 x2; omega)⟩, hj_4⟩
  ·
    refine s_aload_n E dX10_at_8 rfl rfl ?_
    refine s_iload_n E dX10_at_9 rfl rfl ?_
    refine z_i2l (u := x1.toInt) E dX10_at_10 rfl (fun z_6 hz_6 => ?_)
    refine s_vI (As := [AL z_6]) (S := []) E (Z_X10_isLady_95 l D aC b u_1 z_6 hj_4.1 ) cv_X10_222 rfl rfl rfl (jv_lt hj_4 (by decide)) (Nat.le_of_ble_eq_true rfl) (Nat.le_of_ble_eq_true rfl) ⟨(Nat.le_of_ble_eq_true rfl), (Nat.le_of_ble_eq_true rfl)⟩ (Nat.le_of_ble_eq_true rfl) dX10_at_11 (fun z_9 u_7 hp_8 => ?_)
    obtain ⟨hz_9, hp_8⟩ := hp_8
    subst hp_8
    refine z_if_eq (tgt := 26) (u := z_9.toInt) E dX10_at_14 (by decide) rfl (fun h_11 => ?_) (fun h_11 => ?_)
    ·
      refine s_bipush (v := (-2)) E dX10_at_26 (by decide) ?_
      exact r_int E dX10_at_28 ⟨⟨by decide, by decide, by first | (left; decide) | (right; decide) | (right; have hb_ := z32 x1; omega), by first | (left; decide) | (right; decide) | (right; have hb_ := z32 x2; omega)⟩, hj_4⟩
    ·
      refine s_aload_n E dX10_at_17 rfl rfl ?_
      refine s_iload_n E dX10_at_18 rfl rfl ?_
      refine s_iload_n E dX10_at_19 rfl rfl ?_
      refine s_vI (As := [AI x1, AI x2]) (S := []) E (Z_X10_atOf_95 l D aC b u_1 x1 x2 hj_4.1 ⟨by have hb_ := z32 x1; omega, by have hb_ := z32 x1; omega⟩ ⟨by have hb_ := z32 x2; omega, by have hb_ := z32 x2; omega⟩) cv_X10_255 rfl rfl rfl (jv_lt hj_4 (by decide)) (Nat.le_of_ble_eq_true rfl) (Nat.le_of_ble_eq_true rfl) ⟨(Nat.le_of_ble_eq_true rfl), (Nat.le_of_ble_eq_true rfl)⟩ (Nat.le_of_ble_eq_true rfl) dX10_at_20 (fun z_14 u_12 hp_13 => ?_)
      obtain ⟨hz_14, hp_13⟩ := hp_13
      subst hp_13
      refine s_goto (tgt := 28) E dX10_at_23 (by decide) ?_
      exact r_int E dX10_at_28 ⟨⟨by have hb_ := z32 z_14; omega, by have hb_ := z32 z_14; omega, by first | (right; decide) | (have hb_ := z32 z_14; omega) | (have hb_ := z32 z_14; have hc_ := z32 x1; omega), by first | (right; decide) | (have hb_ := z32 z_14; omega) | (have hb_ := z32 z_14; have hc_ := z32 x2; omega)⟩, hj_4⟩
set_option maxRecDepth 20000 in
set_option maxHeartbeats 2000000 in
theorem Z_X10_withinOf_95 (l : Launch) (D : va_G) (aC : Nat → ClassId) (b : Nat) (w : XW) (x1 : Int32) (x2 : Int32) (hI : Iv w) (hx2 : 0 ≤ x2.toInt ∧ x2.toInt ≤ 14) : CnI l D aC b M_X10_withinOf 1 22 0 0 [AR 95, AI x1, AI x2] w (fun r u => ((-2147483648) ≤ r.toInt ∧ r.toInt ≤ 2147483647) ∧ w = u) := by
  refine cn_I (own := RX10) (nm := "withinOf") (L0 := [some (AR 95), some (AI x1), some (AI x2), none, none]) (by decide +kernel) rfl rfl (Nat.le_of_ble_eq_true rfl) rfl ?_
  intro p e s m args below meth c E hin
  have hJ : Jv w w := jv_rfl hI
  have hb_x1 := z32 x1
  refine s_iconst (v := 0) E dX10_withinOf_0 (by decide) ?_
  refine s_istore_n (L2 := [some (AR 95), some (AI x1), some (AI x2), some (AI 0), none]) E dX10_withinOf_1 rfl (by decide) rfl ?_
  refine s_iconst (v := 0) E dX10_withinOf_2 (by decide) ?_
  refine s_istore (L2 := [some (AR 95), some (AI x1), some (AI x2), some (AI 0), some (AI 0)]) E dX10_withinOf_3 (by decide) rfl ?_
  refine z_loop (St := Int32 × Int32) (Pi := fun ⟨q5_3_0, q5_4_0⟩ v5 => (0 ≤ q5_4_0.toInt ∧ q5_4_0.toInt ≤ 6) ∧ w = v5) (Lf := fun ⟨q5_3_0, q5_4_0⟩ => [some (AR 95), some (AI x1), some (AI x2), some (AI q5_3_0), some (AI q5_4_0)]) (fun ⟨q5_3_0, q5_4_0⟩ _ => (7 - q5_4_0.toInt).toNat) ⟨0, 0⟩ ⟨⟨by decide, by decide⟩, rfl⟩ ?_
  rintro ⟨q5_3_0, q5_4_0⟩ v5 ⟨hq5_4, hv_⟩ ih5
  subst hv_
  have hbq5_3 := z32 q5_3_0
  refine s_loc (L2 := [some (AR 95), some (AI x1), some (AI x2), some (AI q5_3_0), some (AI q5_4_0)]) rfl ?_
  refine s_iload E dX10_withinOf_5 rfl ?_
  refine s_aload_n E dX10_withinOf_7 rfl rfl ?_
  refine s_vI (As := []) (S := [AI q5_4_0]) E (Z_X10_ladies_95 l D aC b w  hJ.1 ) cv_X10_244 rfl rfl rfl (jv_lt hJ (by decide)) (Nat.le_of_ble_eq_true rfl) (Nat.le_of_ble_eq_true rfl) ⟨(Nat.le_of_ble_eq_true rfl), (Nat.le_of_ble_eq_true rfl)⟩ (Nat.le_of_ble_eq_true rfl) dX10_withinOf_8 (fun z_4 u_2 hp_3 => ?_)
  obtain ⟨hz_4, hxz_4, hp_3⟩ := hp_3
  subst hp_3
  refine z_icmp_ge (tgt := 42) (u := q5_4_0.toInt) (v := z_4.toInt) E dX10_withinOf_11 (by decide) rfl rfl (fun h_6 => ?_) (fun h_6 => ?_)
  ·
    refine s_iload_n E dX10_withinOf_42 rfl rfl ?_
    exact r_int E dX10_withinOf_43 ⟨⟨by have hb_ := z32 q5_3_0; omega, by have hb_ := z32 q5_3_0; omega⟩, rfl⟩
  ·
    refine s_iload_n E dX10_withinOf_14 rfl rfl ?_
    refine s_aload_n E dX10_withinOf_15 rfl rfl ?_
    refine s_iload E dX10_withinOf_16 rfl ?_
    refine s_iload_n E dX10_withinOf_18 rfl rfl ?_
    refine s_vI (As := [AI q5_4_0, AI x2]) (S := [AI q5_3_0]) E (Z_X10_atOf_95 l D aC b w q5_4_0 x2 hJ.1 ⟨by have hb_ := z32 q5_4_0; omega, by have hb_ := z32 q5_4_0; omega⟩ ⟨by have hb_ := z32 x2; omega, by have hb_ := z32 x2; omega⟩) cv_X10_255 rfl rfl rfl (jv_lt hJ (by decide)) (Nat.le_of_ble_eq_true rfl) (Nat.le_of_ble_eq_true rfl) ⟨(Nat.le_of_ble_eq_true rfl), (Nat.le_of_ble_eq_true rfl)⟩ (Nat.le_of_ble_eq_true rfl) dX10_withinOf_19 (fun z_9 u_7 hp_8 => ?_)
    obtain ⟨hz_9, hp_8⟩ := hp_8
    subst hp_8
    refine s_iload_n E dX10_withinOf_22 rfl rfl ?_
    refine z_icmp_ne (tgt := 33) (u := z_9.toInt) (v := x1.toInt) E dX10_withinOf_23 (by decide) rfl rfl (fun h_11 => ?_) (fun h_11 => ?_)
    ·
      refine s_iconst (v := 0) E dX10_withinOf_33 (by decide) ?_
      refine s_ior E dX10_withinOf_34 ?_
      refine z_nm (P := fun z => (-2147483648) ≤ z.toInt ∧ z.toInt ≤ 2147483647) (z32 _) (fun z_12 hz_12 => ?_)
      refine s_istore_n (L2 := [some (AR 95), some (AI x1), some (AI x2), some (AI z_12), some (AI q5_4_0)]) E dX10_withinOf_35 rfl (by decide) rfl ?_
      refine z_iinc (u := q5_4_0.toInt) (L2 := fun z_13 => [some (AR 95), some (AI x1), some (AI x2), some (AI z_12), some (AI z_13)]) E dX10_withinOf_36 rfl rfl (by decide) (fun _ => rfl) (by decide) (by omega) (by omega) (fun z_13 hz_13 => ?_)
      refine s_goto (tgt := 5) E dX10_withinOf_39 (by decide) ?_
      exact ih5 ⟨z_12, z_13⟩ w ⟨⟨by have hb_ := z32 z_13; omega, by have hb_ := z32 z_13; omega⟩, rfl⟩ (by first | omega | decide | (dsimp only; omega) | (dsimp only; decide))
    ·
      refine s_iconst (v := 1) E dX10_withinOf_26 (by decide) ?_
      refine s_iload E dX10_withinOf_27 rfl ?_
      refine z_shl1 5 (u := q5_4_0.toInt) (B := 32) E dX10_withinOf_29 rfl (by omega) (by omega) (by decide) (by decide) (fun z_14 hz_14 => ?_)
      refine s_goto (tgt := 34) E dX10_withinOf_30 (by decide) ?_
      refine s_ior E dX10_withinOf_34 ?_
      refine z_nm (P := fun z => (-2147483648) ≤ z.toInt ∧ z.toInt ≤ 2147483647) (z32 _) (fun z_15 hz_15 => ?_)
      refine s_istore_n (L2 := [some (AR 95), some (AI x1), some (AI x2), some (AI z_15), some (AI q5_4_0)]) E dX10_withinOf_35 rfl (by decide) rfl ?_
      refine z_iinc (u := q5_4_0.toInt) (L2 := fun z_16 => [some (AR 95), some (AI x1), some (AI x2), some (AI z_15), some (AI z_16)]) E dX10_withinOf_36 rfl rfl (by decide) (fun _ => rfl) (by decide) (by omega) (by omega) (fun z_16 hz_16 => ?_)
      refine s_goto (tgt := 5) E dX10_withinOf_39 (by decide) ?_
      exact ih5 ⟨z_15, z_16⟩ w ⟨⟨by have hb_ := z32 z_16; omega, by have hb_ := z32 z_16; omega⟩, rfl⟩ (by first | omega | decide | (dsimp only; omega) | (dsimp only; decide))
set_option maxRecDepth 20000 in
set_option maxHeartbeats 2000000 in
theorem Z_X10_within_95 (l : Launch) (D : va_G) (aC : Nat → ClassId) (b : Nat) (w : XW) (x1 : Int32) (x2 : Int32) (hI : Iv w)  : CnI l D aC b M_X10_within 5 113 0 0 [AR 95, AI x1, AI x2] w (fun r u => ((-2147483648) ≤ r.toInt ∧ r.toInt ≤ 2147483647 ∧ (¬ r.toInt = 0 ∨ (0 ≤ x1.toInt ∧ x1.toInt ≤ 7)) ∧ (¬ r.toInt = 0 ∨ (0 ≤ x2.toInt ∧ x2.toInt ≤ 14))) ∧ Jv w u) := by
  refine cn_I (own := RX10) (nm := "within") (L0 := [some (AR 95), some (AI x1), some (AI x2)]) (by decide +kernel) rfl rfl (Nat.le_of_ble_eq_true rfl) rfl ?_
  intro p e s m args below meth c E hin
  have hJ : Jv w w := jv_rfl hI
  have hb_x1 := z32 x1
  have hb_x2 := z32 x2
  refine s_aload_n E dX10_within_0 rfl rfl ?_
  refine s_iload_n E dX10_within_1 rfl rfl ?_
  refine s_vI (As := [AI x2]) (S := []) E (Z_X10_asksDance_95 l D aC b w x2 hJ.1 ) cv_X10_294 rfl rfl rfl (jv_lt hJ (by decide)) (Nat.le_of_ble_eq_true rfl) (Nat.le_of_ble_eq_true rfl) ⟨(Nat.le_of_ble_eq_true rfl), (Nat.le_of_ble_eq_true rfl)⟩ (Nat.le_of_ble_eq_true rfl) dX10_within_2 (fun z_3 u_1 hp_2 => ?_)
  obtain ⟨hz_3, hp_2⟩ := hp_2
  have hj_4 := jv_trans hJ hp_2
  refine z_if_eq (tgt := 25) (u := z_3.toInt) E dX10_within_5 (by decide) rfl (fun h_5 => ?_) (fun h_5 => ?_)
  ·
    refine s_bipush (v := (-2)) E dX10_within_25 (by decide) ?_
    exact r_int E dX10_within_27 ⟨⟨by decide, by decide, by first | (left; decide) | (right; decide) | (right; have hb_ := z32 x1; omega), by first | (left; decide) | (right; decide) | (right; have hb_ := z32 x2; omega)⟩, hj_4⟩
  ·
    refine s_aload_n E dX10_within_8 rfl rfl ?_
    refine s_iload_n E dX10_within_9 rfl rfl ?_
    refine s_vI (As := [AI x1]) (S := []) E (Z_X10_isRoom_95 l D aC b u_1 x1 hj_4.1 ) cv_X10_291 rfl rfl rfl (jv_lt hj_4 (by decide)) (Nat.le_of_ble_eq_true rfl) (Nat.le_of_ble_eq_true rfl) ⟨(Nat.le_of_ble_eq_true rfl), (Nat.le_of_ble_eq_true rfl)⟩ (Nat.le_of_ble_eq_true rfl) dX10_within_10 (fun z_8 u_6 hp_7 => ?_)
    obtain ⟨hz_8, hp_7⟩ := hp_7
    subst hp_7
    refine z_if_eq (tgt := 25) (u := z_8.toInt) E dX10_within_13 (by decide) rfl (fun h_10 => ?_) (fun h_10 => ?_)
    ·
      refine s_bipush (v := (-2)) E dX10_within_25 (by decide) ?_
      exact r_int E dX10_within_27 ⟨⟨by decide, by decide, by first | (left; decide) | (right; decide) | (right; have hb_ := z32 x1; omega), by first | (left; decide) | (right; decide) | (right; have hb_ := z32 x2; omega)⟩, hj_4⟩
    ·
      refine s_aload_n E dX10_within_16 rfl rfl ?_
      refine s_iload_n E dX10_within_17 rfl rfl ?_
      refine s_iload_n E dX10_within_18 rfl rfl ?_
      refine s_vI (As := [AI x1, AI x2]) (S := []) E (Z_X10_withinOf_95 l D aC b u_1 x1 x2 hj_4.1 ⟨by have hb_ := z32 x2; omega, by have hb_ := z32 x2; omega⟩) cv_X10_297 rfl rfl rfl (jv_lt hj_4 (by decide)) (Nat.le_of_ble_eq_true rfl) (Nat.le_of_ble_eq_true rfl) ⟨(Nat.le_of_ble_eq_true rfl), (Nat.le_of_ble_eq_true rfl)⟩ (Nat.le_of_ble_eq_true rfl) dX10_within_19 (fun z_13 u_11 hp_12 => ?_)
      obtain ⟨hz_13, hp_12⟩ := hp_12
      subst hp_12
      refine s_goto (tgt := 27) E dX10_within_22 (by decide) ?_
      exact r_int E dX10_within_27 ⟨⟨by have hb_ := z32 z_13; omega, by have hb_ := z32 z_13; omega, by first | (right; decide) | (have hb_ := z32 z_13; omega) | (have hb_ := z32 z_13; have hc_ := z32 x1; omega), by first | (right; decide) | (have hb_ := z32 z_13; omega) | (have hb_ := z32 z_13; have hc_ := z32 x2; omega)⟩, hj_4⟩
set_option maxRecDepth 20000 in
set_option maxHeartbeats 2000000 in
theorem Z_X10_stepsOf_95 (l : Launch) (D : va_G) (aC : Nat → ClassId) (b : Nat) (w : XW) (x1 : Int32) (hI : Iv w) (hx1 : 0 ≤ x1.toInt ∧ x1.toInt ≤ 5) : CnI l D aC b M_X10_stepsOf 1 22 0 0 [AR 95, AI x1] w (fun r u => ((-2147483648) ≤ r.toInt ∧ r.toInt ≤ 2147483647) ∧ w = u) := by
  refine cn_I (own := RX10) (nm := "stepsOf") (L0 := [some (AR 95), some (AI x1), none, none]) (by decide +kernel) rfl rfl (Nat.le_of_ble_eq_true rfl) rfl ?_
  intro p e s m args below meth c E hin
  have hJ : Jv w w := jv_rfl hI
  refine s_iconst (v := 0) E dX10_stepsOf_0 (by decide) ?_
  refine s_istore_n (L2 := [some (AR 95), some (AI x1), some (AI 0), none]) E dX10_stepsOf_1 rfl (by decide) rfl ?_
  refine s_iconst (v := 0) E dX10_stepsOf_2 (by decide) ?_
  refine s_istore_n (L2 := [some (AR 95), some (AI x1), some (AI 0), some (AI 0)]) E dX10_stepsOf_3 rfl (by decide) rfl ?_
  refine z_loop (St := Int32 × Int32) (Pi := fun ⟨q4_2_0, q4_3_0⟩ v4 => (0 ≤ q4_3_0.toInt ∧ q4_3_0.toInt ≤ 14) ∧ w = v4) (Lf := fun ⟨q4_2_0, q4_3_0⟩ => [some (AR 95), some (AI x1), some (AI q4_2_0), some (AI q4_3_0)]) (fun ⟨q4_2_0, q4_3_0⟩ _ => (15 - q4_3_0.toInt).toNat) ⟨0, 0⟩ ⟨⟨by decide, by decide⟩, rfl⟩ ?_
  rintro ⟨q4_2_0, q4_3_0⟩ v4 ⟨hq4_3, hv_⟩ ih4
  subst hv_
  have hbq4_2 := z32 q4_2_0
  refine s_loc (L2 := [some (AR 95), some (AI x1), some (AI q4_2_0), some (AI q4_3_0)]) rfl ?_
  refine s_iload_n E dX10_stepsOf_4 rfl rfl ?_
  refine s_aload_n E dX10_stepsOf_5 rfl rfl ?_
  refine s_vI (As := []) (S := [AI q4_3_0]) E (Z_X10_dances_95 l D aC b w  hJ.1 ) cv_X10_247 rfl rfl rfl (jv_lt hJ (by decide)) (Nat.le_of_ble_eq_true rfl) (Nat.le_of_ble_eq_true rfl) ⟨(Nat.le_of_ble_eq_true rfl), (Nat.le_of_ble_eq_true rfl)⟩ (Nat.le_of_ble_eq_true rfl) dX10_stepsOf_6 (fun z_4 u_2 hp_3 => ?_)
  obtain ⟨hz_4, hxz_4, hp_3⟩ := hp_3
  subst hp_3
  refine z_icmp_ge (tgt := 43) (u := q4_3_0.toInt) (v := z_4.toInt) E dX10_stepsOf_9 (by decide) rfl rfl (fun h_6 => ?_) (fun h_6 => ?_)
  ·
    refine s_iload_n E dX10_stepsOf_43 rfl rfl ?_
    exact r_int E dX10_stepsOf_44 ⟨⟨by have hb_ := z32 q4_2_0; omega, by have hb_ := z32 q4_2_0; omega⟩, rfl⟩
  ·
    refine s_iload_n E dX10_stepsOf_12 rfl rfl ?_
    refine s_aload_n E dX10_stepsOf_13 rfl rfl ?_
    refine s_iload_n E dX10_stepsOf_14 rfl rfl ?_
    refine s_iload_n E dX10_stepsOf_15 rfl rfl ?_
    refine s_vI (As := [AI x1, AI q4_3_0]) (S := [AI q4_2_0]) E (Z_X10_atOf_95 l D aC b w x1 q4_3_0 hJ.1 ⟨by have hb_ := z32 x1; omega, by have hb_ := z32 x1; omega⟩ ⟨by have hb_ := z32 q4_3_0; omega, by have hb_ := z32 q4_3_0; omega⟩) cv_X10_255 rfl rfl rfl (jv_lt hJ (by decide)) (Nat.le_of_ble_eq_true rfl) (Nat.le_of_ble_eq_true rfl) ⟨(Nat.le_of_ble_eq_true rfl), (Nat.le_of_ble_eq_true rfl)⟩ (Nat.le_of_ble_eq_true rfl) dX10_stepsOf_16 (fun z_9 u_7 hp_8 => ?_)
    obtain ⟨hz_9, hp_8⟩ := hp_8
    subst hp_8
    refine s_aload_n E dX10_stepsOf_19 rfl rfl ?_
    refine s_iload_n E dX10_stepsOf_20 rfl rfl ?_
    refine s_iload_n E dX10_stepsOf_21 rfl rfl ?_
    refine s_iconst (v := 1) E dX10_stepsOf_22 (by decide) ?_
    refine z_iadd (u := q4_3_0.toInt) (v := 1) E dX10_stepsOf_23 rfl (by decide) (by omega) (by omega) (fun z_11 hz_11 => ?_)
    refine s_vI (As := [AI x1, AI z_11]) (S := [AI z_9, AI q4_2_0]) E (Z_X10_atOf_95 l D aC b w x1 z_11 hJ.1 ⟨by have hb_ := z32 x1; omega, by have hb_ := z32 x1; omega⟩ ⟨by have hb_ := z32 z_11; omega, by have hb_ := z32 z_11; omega⟩) cv_X10_255 rfl rfl rfl (jv_lt hJ (by decide)) (Nat.le_of_ble_eq_true rfl) (Nat.le_of_ble_eq_true rfl) ⟨(Nat.le_of_ble_eq_true rfl), (Nat.le_of_ble_eq_true rfl)⟩ (Nat.le_of_ble_eq_true rfl) dX10_stepsOf_24 (fun z_14 u_12 hp_13 => ?_)
    obtain ⟨hz_14, hp_13⟩ := hp_13
    subst hp_13
    refine z_icmp_ne (tgt := 34) (u := z_9.toInt) (v := z_14.toInt) E dX10_stepsOf_27 (by decide) rfl rfl (fun h_16 => ?_) (fun h_16 => ?_)
    ·
      refine s_iconst (v := 1) E dX10_stepsOf_34 (by decide) ?_
      refine s_iadd E dX10_stepsOf_35 ?_
      refine z_nm (P := fun z => (-2147483648) ≤ z.toInt ∧ z.toInt ≤ 2147483647) (z32 _) (fun z_17 hz_17 => ?_)
      refine s_istore_n (L2 := [some (AR 95), some (AI x1), some (AI z_17), some (AI q4_3_0)]) E dX10_stepsOf_36 rfl (by decide) rfl ?_
      refine z_iinc (u := q4_3_0.toInt) (L2 := fun z_18 => [some (AR 95), some (AI x1), some (AI z_17), some (AI z_18)]) E dX10_stepsOf_37 rfl rfl (by decide) (fun _ => rfl) (by decide) (by omega) (by omega) (fun z_18 hz_18 => ?_)
      refine s_goto (tgt := 4) E dX10_stepsOf_40 (by decide) ?_
      exact ih4 ⟨z_17, z_18⟩ w ⟨⟨by have hb_ := z32 z_18; omega, by have hb_ := z32 z_18; omega⟩, rfl⟩ (by first | omega | decide | (dsimp only; omega) | (dsimp only; decide))
    ·
      refine s_iconst (v := 0) E dX10_stepsOf_30 (by decide) ?_
      refine s_goto (tgt := 35) E dX10_stepsOf_31 (by decide) ?_
      refine z_iadd (u := q4_2_0.toInt) (v := 0) E dX10_stepsOf_35 rfl (by decide) (by omega) (by omega) (fun z_19 hz_19 => ?_)
      refine s_istore_n (L2 := [some (AR 95), some (AI x1), some (AI z_19), some (AI q4_3_0)]) E dX10_stepsOf_36 rfl (by decide) rfl ?_
      refine z_iinc (u := q4_3_0.toInt) (L2 := fun z_20 => [some (AR 95), some (AI x1), some (AI z_19), some (AI z_20)]) E dX10_stepsOf_37 rfl rfl (by decide) (fun _ => rfl) (by decide) (by omega) (by omega) (fun z_20 hz_20 => ?_)
      refine s_goto (tgt := 4) E dX10_stepsOf_40 (by decide) ?_
      exact ih4 ⟨z_19, z_20⟩ w ⟨⟨by have hb_ := z32 z_20; omega, by have hb_ := z32 z_20; omega⟩, rfl⟩ (by first | omega | decide | (dsimp only; omega) | (dsimp only; decide))
set_option maxRecDepth 20000 in
set_option maxHeartbeats 2000000 in
theorem Z_X10_steps_95 (l : Launch) (D : va_G) (aC : Nat → ClassId) (b : Nat) (w : XW) (x1 : Int32) (hI : Iv w)  : CnI l D aC b M_X10_steps 5 113 0 0 [AR 95, AI x1] w (fun r u => ((-2147483648) ≤ r.toInt ∧ r.toInt ≤ 2147483647 ∧ (¬ r.toInt = 0 ∨ (0 ≤ x1.toInt ∧ x1.toInt ≤ 5))) ∧ Jv w u) := by
  refine cn_I (own := RX10) (nm := "steps") (L0 := [some (AR 95), some (AI x1)]) (by decide +kernel) rfl rfl (Nat.le_of_ble_eq_true rfl) rfl ?_
  intro p e s m args below meth c E hin
  have hJ : Jv w w := jv_rfl hI
  have hb_x1 := z32 x1
  refine s_aload_n E dX10_steps_0 rfl rfl ?_
  refine s_iload_n E dX10_steps_1 rfl rfl ?_
  refine s_vI (As := [AI x1]) (S := []) E (Z_X10_asksLady_95 l D aC b w x1 hJ.1 ) cv_X10_288 rfl rfl rfl (jv_lt hJ (by decide)) (Nat.le_of_ble_eq_true rfl) (Nat.le_of_ble_eq_true rfl) ⟨(Nat.le_of_ble_eq_true rfl), (Nat.le_of_ble_eq_true rfl)⟩ (Nat.le_of_ble_eq_true rfl) dX10_steps_2 (fun z_3 u_1 hp_2 => ?_)
  obtain ⟨hz_3, hp_2⟩ := hp_2
  have hj_4 := jv_trans hJ hp_2
  refine z_if_eq (tgt := 16) (u := z_3.toInt) E dX10_steps_5 (by decide) rfl (fun h_5 => ?_) (fun h_5 => ?_)
  ·
    refine s_bipush (v := (-2)) E dX10_steps_16 (by decide) ?_
    exact r_int E dX10_steps_18 ⟨⟨by decide, by decide, by first | (left; decide) | (right; decide) | (right; have hb_ := z32 x1; omega)⟩, hj_4⟩
  ·
    refine s_aload_n E dX10_steps_8 rfl rfl ?_
    refine s_iload_n E dX10_steps_9 rfl rfl ?_
    refine s_vI (As := [AI x1]) (S := []) E (Z_X10_stepsOf_95 l D aC b u_1 x1 hj_4.1 ⟨by have hb_ := z32 x1; omega, by have hb_ := z32 x1; omega⟩) cv_X10_300 rfl rfl rfl (jv_lt hj_4 (by decide)) (Nat.le_of_ble_eq_true rfl) (Nat.le_of_ble_eq_true rfl) ⟨(Nat.le_of_ble_eq_true rfl), (Nat.le_of_ble_eq_true rfl)⟩ (Nat.le_of_ble_eq_true rfl) dX10_steps_10 (fun z_8 u_6 hp_7 => ?_)
    obtain ⟨hz_8, hp_7⟩ := hp_7
    subst hp_7
    refine s_goto (tgt := 18) E dX10_steps_13 (by decide) ?_
    exact r_int E dX10_steps_18 ⟨⟨by have hb_ := z32 z_8; omega, by have hb_ := z32 z_8; omega, by first | (right; decide) | (have hb_ := z32 z_8; omega) | (have hb_ := z32 z_8; have hc_ := z32 x1; omega)⟩, hj_4⟩
set_option maxRecDepth 20000 in
set_option maxHeartbeats 2000000 in
theorem Z_X10_sees_95 (l : Launch) (D : va_G) (aC : Nat → ClassId) (b : Nat) (w : XW) (x1 : Int32) (hI : Iv w)  : CnI l D aC b M_X10_sees 5 113 0 0 [AR 95, AI x1] w (fun r u => ((-2147483648) ≤ r.toInt ∧ r.toInt ≤ 2147483647 ∧ (¬ r.toInt = 0 ∨ (0 ≤ x1.toInt ∧ x1.toInt ≤ 5))) ∧ Jv w u) := by
  refine cn_I (own := RX10) (nm := "sees") (L0 := [some (AR 95), some (AI x1), none, none]) (by decide +kernel) rfl rfl (Nat.le_of_ble_eq_true rfl) rfl ?_
  intro p e s m args below meth c E hin
  have hJ : Jv w w := jv_rfl hI
  have hb_x1 := z32 x1
  refine s_aload_n E dX10_sees_0 rfl rfl ?_
  refine s_iload_n E dX10_sees_1 rfl rfl ?_
  refine s_vI (As := [AI x1]) (S := []) E (Z_X10_asksLady_95 l D aC b w x1 hJ.1 ) cv_X10_288 rfl rfl rfl (jv_lt hJ (by decide)) (Nat.le_of_ble_eq_true rfl) (Nat.le_of_ble_eq_true rfl) ⟨(Nat.le_of_ble_eq_true rfl), (Nat.le_of_ble_eq_true rfl)⟩ (Nat.le_of_ble_eq_true rfl) dX10_sees_2 (fun z_3 u_1 hp_2 => ?_)
  obtain ⟨hz_3, hp_2⟩ := hp_2
  have hj_4 := jv_trans hJ hp_2
  refine z_if_ne (tgt := 11) (u := z_3.toInt) E dX10_sees_5 (by decide) rfl (fun h_5 => ?_) (fun h_5 => ?_)
  ·
    refine s_iconst (v := 0) E dX10_sees_11 (by decide) ?_
    refine s_istore_n (L2 := [some (AR 95), some (AI x1), some (AI 0), none]) E dX10_sees_12 rfl (by decide) rfl ?_
    refine s_iconst (v := 0) E dX10_sees_13 (by decide) ?_
    refine s_istore_n (L2 := [some (AR 95), some (AI x1), some (AI 0), some (AI 0)]) E dX10_sees_14 rfl (by decide) rfl ?_
    refine z_loop (St := Int32 × Int32) (Pi := fun ⟨q15_2_5, q15_3_5⟩ v15 => (0 ≤ q15_3_5.toInt ∧ q15_3_5.toInt ≤ 15) ∧ u_1 = v15) (Lf := fun ⟨q15_2_5, q15_3_5⟩ => [some (AR 95), some (AI x1), some (AI q15_2_5), some (AI q15_3_5)]) (fun ⟨q15_2_5, q15_3_5⟩ _ => (16 - q15_3_5.toInt).toNat) ⟨0, 0⟩ ⟨⟨by decide, by decide⟩, rfl⟩ ?_
    rintro ⟨q15_2_5, q15_3_5⟩ v15 ⟨hq15_3, hv_⟩ ih15
    subst hv_
    have hbq15_2 := z32 q15_2_5
    refine s_loc (L2 := [some (AR 95), some (AI x1), some (AI q15_2_5), some (AI q15_3_5)]) rfl ?_
    refine s_iload_n E dX10_sees_15 rfl rfl ?_
    refine s_aload_n E dX10_sees_16 rfl rfl ?_
    refine s_vI (As := []) (S := [AI q15_3_5]) E (Z_X10_dances_95 l D aC b u_1  hj_4.1 ) cv_X10_247 rfl rfl rfl (jv_lt hj_4 (by decide)) (Nat.le_of_ble_eq_true rfl) (Nat.le_of_ble_eq_true rfl) ⟨(Nat.le_of_ble_eq_true rfl), (Nat.le_of_ble_eq_true rfl)⟩ (Nat.le_of_ble_eq_true rfl) dX10_sees_17 (fun z_9 u_7 hp_8 => ?_)
    obtain ⟨hz_9, hxz_9, hp_8⟩ := hp_8
    subst hp_8
    refine z_icmp_gt (tgt := 40) (u := q15_3_5.toInt) (v := z_9.toInt) E dX10_sees_20 (by decide) rfl rfl (fun h_11 => ?_) (fun h_11 => ?_)
    ·
      refine s_iload_n E dX10_sees_40 rfl rfl ?_
      exact r_int E dX10_sees_41 ⟨⟨by have hb_ := z32 q15_2_5; omega, by have hb_ := z32 q15_2_5; omega, by first | (right; decide) | (have hb_ := z32 q15_2_5; omega) | (have hb_ := z32 q15_2_5; have hc_ := z32 x1; omega)⟩, hj_4⟩
    ·
      refine s_iload_n E dX10_sees_23 rfl rfl ?_
      refine s_iconst (v := 1) E dX10_sees_24 (by decide) ?_
      refine s_aload_n E dX10_sees_25 rfl rfl ?_
      refine s_iload_n E dX10_sees_26 rfl rfl ?_
      refine s_iload_n E dX10_sees_27 rfl rfl ?_
      refine s_vI (As := [AI x1, AI q15_3_5]) (S := [AI 1, AI q15_2_5]) E (Z_X10_atOf_95 l D aC b u_1 x1 q15_3_5 hj_4.1 ⟨by have hb_ := z32 x1; omega, by have hb_ := z32 x1; omega⟩ ⟨by have hb_ := z32 q15_3_5; omega, by have hb_ := z32 q15_3_5; omega⟩) cv_X10_255 rfl rfl rfl (jv_lt hj_4 (by decide)) (Nat.le_of_ble_eq_true rfl) (Nat.le_of_ble_eq_true rfl) ⟨(Nat.le_of_ble_eq_true rfl), (Nat.le_of_ble_eq_true rfl)⟩ (Nat.le_of_ble_eq_true rfl) dX10_sees_28 (fun z_14 u_12 hp_13 => ?_)
      obtain ⟨hz_14, hp_13⟩ := hp_13
      subst hp_13
      refine z_shl1 7 (u := z_14.toInt) (B := 128) E dX10_sees_31 rfl (by omega) (by omega) (by decide) (by decide) (fun z_16 hz_16 => ?_)
      refine s_ior E dX10_sees_32 ?_
      refine z_nm (P := fun z => (-2147483648) ≤ z.toInt ∧ z.toInt ≤ 2147483647) (z32 _) (fun z_17 hz_17 => ?_)
      refine s_istore_n (L2 := [some (AR 95), some (AI x1), some (AI z_17), some (AI q15_3_5)]) E dX10_sees_33 rfl (by decide) rfl ?_
      refine z_iinc (u := q15_3_5.toInt) (L2 := fun z_18 => [some (AR 95), some (AI x1), some (AI z_17), some (AI z_18)]) E dX10_sees_34 rfl rfl (by decide) (fun _ => rfl) (by decide) (by omega) (by omega) (fun z_18 hz_18 => ?_)
      refine s_goto (tgt := 15) E dX10_sees_37 (by decide) ?_
      exact ih15 ⟨z_17, z_18⟩ u_1 ⟨⟨by have hb_ := z32 z_18; omega, by have hb_ := z32 z_18; omega⟩, rfl⟩ (by first | omega | decide | (dsimp only; omega) | (dsimp only; decide))
  ·
    refine s_bipush (v := (-2)) E dX10_sees_8 (by decide) ?_
    exact r_int E dX10_sees_10 ⟨⟨by decide, by decide, by first | (left; decide) | (right; decide) | (right; have hb_ := z32 x1; omega)⟩, hj_4⟩
set_option maxRecDepth 20000 in
set_option maxHeartbeats 2000000 in
theorem Z_X10_doMeet_95 (l : Launch) (D : va_G) (aC : Nat → ClassId) (b : Nat) (w : XW) (x1 : Int32) (x2 : Int32) (x3 : Int32) (hI : Iv w) (hx1 : 0 ≤ x1.toInt ∧ x1.toInt ≤ 5) (hx2 : 0 ≤ x2.toInt ∧ x2.toInt ≤ 5) (hx3 : 0 ≤ x3.toInt ∧ x3.toInt ≤ 14) : CnI l D aC b M_X10_doMeet 1 22 0 0 [AR 95, AI x1, AI x2, AI x3] w (fun r u => (0 ≤ r.toInt ∧ r.toInt ≤ 1) ∧ w = u) := by
  refine cn_I (own := RX10) (nm := "doMeet") (L0 := [some (AR 95), some (AI x1), some (AI x2), some (AI x3)]) (by decide +kernel) rfl rfl (Nat.le_of_ble_eq_true rfl) rfl ?_
  intro p e s m args below meth c E hin
  have hJ : Jv w w := jv_rfl hI
  refine s_aload_n E dX10_doMeet_0 rfl rfl ?_
  refine s_iload_n E dX10_doMeet_1 rfl rfl ?_
  refine s_iload_n E dX10_doMeet_2 rfl rfl ?_
  refine s_vI (As := [AI x1, AI x3]) (S := []) E (Z_X10_atOf_95 l D aC b w x1 x3 hJ.1 ⟨by have hb_ := z32 x1; omega, by have hb_ := z32 x1; omega⟩ ⟨by have hb_ := z32 x3; omega, by have hb_ := z32 x3; omega⟩) cv_X10_255 rfl rfl rfl (jv_lt hJ (by decide)) (Nat.le_of_ble_eq_true rfl) (Nat.le_of_ble_eq_true rfl) ⟨(Nat.le_of_ble_eq_true rfl), (Nat.le_of_ble_eq_true rfl)⟩ (Nat.le_of_ble_eq_true rfl) dX10_doMeet_3 (fun z_3 u_1 hp_2 => ?_)
  obtain ⟨hz_3, hp_2⟩ := hp_2
  subst hp_2
  refine s_aload_n E dX10_doMeet_6 rfl rfl ?_
  refine s_iload_n E dX10_doMeet_7 rfl rfl ?_
  refine s_iload_n E dX10_doMeet_8 rfl rfl ?_
  refine s_vI (As := [AI x2, AI x3]) (S := [AI z_3]) E (Z_X10_atOf_95 l D aC b w x2 x3 hJ.1 ⟨by have hb_ := z32 x2; omega, by have hb_ := z32 x2; omega⟩ ⟨by have hb_ := z32 x3; omega, by have hb_ := z32 x3; omega⟩) cv_X10_255 rfl rfl rfl (jv_lt hJ (by decide)) (Nat.le_of_ble_eq_true rfl) (Nat.le_of_ble_eq_true rfl) ⟨(Nat.le_of_ble_eq_true rfl), (Nat.le_of_ble_eq_true rfl)⟩ (Nat.le_of_ble_eq_true rfl) dX10_doMeet_9 (fun z_7 u_5 hp_6 => ?_)
  obtain ⟨hz_7, hp_6⟩ := hp_6
  subst hp_6
  refine z_icmp_ne (tgt := 19) (u := z_3.toInt) (v := z_7.toInt) E dX10_doMeet_12 (by decide) rfl rfl (fun h_9 => ?_) (fun h_9 => ?_)
  ·
    refine s_iconst (v := 0) E dX10_doMeet_19 (by decide) ?_
    exact r_bool E dX10_doMeet_20 (Or.inl rfl) ⟨(by decide), rfl⟩
  ·
    refine s_iconst (v := 1) E dX10_doMeet_15 (by decide) ?_
    refine s_goto (tgt := 20) E dX10_doMeet_16 (by decide) ?_
    exact r_bool E dX10_doMeet_20 (Or.inr rfl) ⟨(by decide), rfl⟩
set_option maxRecDepth 20000 in
set_option maxHeartbeats 2000000 in
theorem Z_X10_firstMeet_95 (l : Launch) (D : va_G) (aC : Nat → ClassId) (b : Nat) (w : XW) (x1 : Int32) (x2 : Int32) (hI : Iv w) (hx1 : 0 ≤ x1.toInt ∧ x1.toInt ≤ 5) (hx2 : 0 ≤ x2.toInt ∧ x2.toInt ≤ 5) : CnI l D aC b M_X10_firstMeet 2 45 0 0 [AR 95, AI x1, AI x2] w (fun r u => ((-1) ≤ r.toInt ∧ r.toInt ≤ 14) ∧ w = u) := by
  refine cn_I (own := RX10) (nm := "firstMeet") (L0 := [some (AR 95), some (AI x1), some (AI x2), none]) (by decide +kernel) rfl rfl (Nat.le_of_ble_eq_true rfl) rfl ?_
  intro p e s m args below meth c E hin
  have hJ : Jv w w := jv_rfl hI
  refine s_iconst (v := 0) E dX10_firstMeet_0 (by decide) ?_
  refine s_istore_n (L2 := [some (AR 95), some (AI x1), some (AI x2), some (AI 0)]) E dX10_firstMeet_1 rfl (by decide) rfl ?_
  refine z_loop (St := Int32) (Pi := fun q2_3_0 v2 => (0 ≤ q2_3_0.toInt ∧ q2_3_0.toInt ≤ 15) ∧ w = v2) (Lf := fun q2_3_0 => [some (AR 95), some (AI x1), some (AI x2), some (AI q2_3_0)]) (fun q2_3_0 _ => (16 - q2_3_0.toInt).toNat) 0 ⟨⟨by decide, by decide⟩, rfl⟩ ?_
  rintro q2_3_0 v2 ⟨hq2_3, hv_⟩ ih2
  subst hv_
  refine s_loc (L2 := [some (AR 95), some (AI x1), some (AI x2), some (AI q2_3_0)]) rfl ?_
  refine s_iload_n E dX10_firstMeet_2 rfl rfl ?_
  refine s_aload_n E dX10_firstMeet_3 rfl rfl ?_
  refine s_vI (As := []) (S := [AI q2_3_0]) E (Z_X10_dances_95 l D aC b w  hJ.1 ) cv_X10_247 rfl rfl rfl (jv_lt hJ (by decide)) (Nat.le_of_ble_eq_true rfl) (Nat.le_of_ble_eq_true rfl) ⟨(Nat.le_of_ble_eq_true rfl), (Nat.le_of_ble_eq_true rfl)⟩ (Nat.le_of_ble_eq_true rfl) dX10_firstMeet_4 (fun z_4 u_2 hp_3 => ?_)
  obtain ⟨hz_4, hxz_4, hp_3⟩ := hp_3
  subst hp_3
  refine z_icmp_gt (tgt := 28) (u := q2_3_0.toInt) (v := z_4.toInt) E dX10_firstMeet_7 (by decide) rfl rfl (fun h_6 => ?_) (fun h_6 => ?_)
  ·
    refine s_iconst (v := (-1)) E dX10_firstMeet_28 (by decide) ?_
    exact r_int E dX10_firstMeet_29 ⟨(by decide), rfl⟩
  ·
    refine s_aload_n E dX10_firstMeet_10 rfl rfl ?_
    refine s_iload_n E dX10_firstMeet_11 rfl rfl ?_
    refine s_iload_n E dX10_firstMeet_12 rfl rfl ?_
    refine s_iload_n E dX10_firstMeet_13 rfl rfl ?_
    refine s_vI (As := [AI x1, AI x2, AI q2_3_0]) (S := []) E (Z_X10_doMeet_95 l D aC b w x1 x2 q2_3_0 hJ.1 ⟨by have hb_ := z32 x1; omega, by have hb_ := z32 x1; omega⟩ ⟨by have hb_ := z32 x2; omega, by have hb_ := z32 x2; omega⟩ ⟨by have hb_ := z32 q2_3_0; omega, by have hb_ := z32 q2_3_0; omega⟩) cv_X10_303 rfl rfl rfl (jv_lt hJ (by decide)) (Nat.le_of_ble_eq_true rfl) (Nat.le_of_ble_eq_true rfl) ⟨(Nat.le_of_ble_eq_true rfl), (Nat.le_of_ble_eq_true rfl)⟩ (Nat.le_of_ble_eq_true rfl) dX10_firstMeet_14 (fun z_9 u_7 hp_8 => ?_)
    obtain ⟨hz_9, hp_8⟩ := hp_8
    subst hp_8
    refine z_if_eq (tgt := 22) (u := z_9.toInt) E dX10_firstMeet_17 (by decide) rfl (fun h_11 => ?_) (fun h_11 => ?_)
    ·
      refine z_iinc (u := q2_3_0.toInt) (L2 := fun z_12 => [some (AR 95), some (AI x1), some (AI x2), some (AI z_12)]) E dX10_firstMeet_22 rfl rfl (by decide) (fun _ => rfl) (by decide) (by omega) (by omega) (fun z_12 hz_12 => ?_)
      refine s_goto (tgt := 2) E dX10_firstMeet_25 (by decide) ?_
      exact ih2 z_12 w ⟨⟨by have hb_ := z32 z_12; omega, by have hb_ := z32 z_12; omega⟩, rfl⟩ (by first | omega | decide | (dsimp only; omega) | (dsimp only; decide))
    ·
      refine s_iload_n E dX10_firstMeet_20 rfl rfl ?_
      exact r_int E dX10_firstMeet_21 ⟨⟨by have hb_ := z32 q2_3_0; omega, by have hb_ := z32 q2_3_0; omega⟩, rfl⟩
set_option maxRecDepth 20000 in
set_option maxHeartbeats 2000000 in
theorem Z_X10_meets_95 (l : Launch) (D : va_G) (aC : Nat → ClassId) (b : Nat) (w : XW) (x1 : Int32) (x2 : Int32) (hI : Iv w)  : CnI l D aC b M_X10_meets 5 113 0 0 [AR 95, AI x1, AI x2] w (fun r u => ((-2) ≤ r.toInt ∧ r.toInt ≤ 14 ∧ (¬ r.toInt = 0 ∨ (0 ≤ x1.toInt ∧ x1.toInt ≤ 5)) ∧ (¬ r.toInt = 0 ∨ (0 ≤ x2.toInt ∧ x2.toInt ≤ 5))) ∧ Jv w u) := by
  refine cn_I (own := RX10) (nm := "meets") (L0 := [some (AR 95), some (AI x1), some (AI x2)]) (by decide +kernel) rfl rfl (Nat.le_of_ble_eq_true rfl) rfl ?_
  intro p e s m args below meth c E hin
  have hJ : Jv w w := jv_rfl hI
  have hb_x1 := z32 x1
  have hb_x2 := z32 x2
  refine s_aload_n E dX10_meets_0 rfl rfl ?_
  refine s_iload_n E dX10_meets_1 rfl rfl ?_
  refine s_vI (As := [AI x1]) (S := []) E (Z_X10_asksLady_95 l D aC b w x1 hJ.1 ) cv_X10_288 rfl rfl rfl (jv_lt hJ (by decide)) (Nat.le_of_ble_eq_true rfl) (Nat.le_of_ble_eq_true rfl) ⟨(Nat.le_of_ble_eq_true rfl), (Nat.le_of_ble_eq_true rfl)⟩ (Nat.le_of_ble_eq_true rfl) dX10_meets_2 (fun z_3 u_1 hp_2 => ?_)
  obtain ⟨hz_3, hp_2⟩ := hp_2
  have hj_4 := jv_trans hJ hp_2
  refine z_if_eq (tgt := 26) (u := z_3.toInt) E dX10_meets_5 (by decide) rfl (fun h_5 => ?_) (fun h_5 => ?_)
  ·
    refine s_bipush (v := (-2)) E dX10_meets_26 (by decide) ?_
    exact r_int E dX10_meets_28 ⟨⟨by decide, by decide, by first | (left; decide) | (right; decide) | (right; have hb_ := z32 x1; omega), by first | (left; decide) | (right; decide) | (right; have hb_ := z32 x2; omega)⟩, hj_4⟩
  ·
    refine s_aload_n E dX10_meets_8 rfl rfl ?_
    refine s_iload_n E dX10_meets_9 rfl rfl ?_
    refine z_i2l (u := x2.toInt) E dX10_meets_10 rfl (fun z_6 hz_6 => ?_)
    refine s_vI (As := [AL z_6]) (S := []) E (Z_X10_isLady_95 l D aC b u_1 z_6 hj_4.1 ) cv_X10_222 rfl rfl rfl (jv_lt hj_4 (by decide)) (Nat.le_of_ble_eq_true rfl) (Nat.le_of_ble_eq_true rfl) ⟨(Nat.le_of_ble_eq_true rfl), (Nat.le_of_ble_eq_true rfl)⟩ (Nat.le_of_ble_eq_true rfl) dX10_meets_11 (fun z_9 u_7 hp_8 => ?_)
    obtain ⟨hz_9, hp_8⟩ := hp_8
    subst hp_8
    refine z_if_eq (tgt := 26) (u := z_9.toInt) E dX10_meets_14 (by decide) rfl (fun h_11 => ?_) (fun h_11 => ?_)
    ·
      refine s_bipush (v := (-2)) E dX10_meets_26 (by decide) ?_
      exact r_int E dX10_meets_28 ⟨⟨by decide, by decide, by first | (left; decide) | (right; decide) | (right; have hb_ := z32 x1; omega), by first | (left; decide) | (right; decide) | (right; have hb_ := z32 x2; omega)⟩, hj_4⟩
    ·
      refine s_aload_n E dX10_meets_17 rfl rfl ?_
      refine s_iload_n E dX10_meets_18 rfl rfl ?_
      refine s_iload_n E dX10_meets_19 rfl rfl ?_
      refine s_vI (As := [AI x1, AI x2]) (S := []) E (Z_X10_firstMeet_95 l D aC b u_1 x1 x2 hj_4.1 ⟨by have hb_ := z32 x1; omega, by have hb_ := z32 x1; omega⟩ ⟨by have hb_ := z32 x2; omega, by have hb_ := z32 x2; omega⟩) cv_X10_307 rfl rfl rfl (jv_lt hj_4 (by decide)) (Nat.le_of_ble_eq_true rfl) (Nat.le_of_ble_eq_true rfl) ⟨(Nat.le_of_ble_eq_true rfl), (Nat.le_of_ble_eq_true rfl)⟩ (Nat.le_of_ble_eq_true rfl) dX10_meets_20 (fun z_14 u_12 hp_13 => ?_)
      obtain ⟨hz_14, hp_13⟩ := hp_13
      subst hp_13
      refine s_goto (tgt := 28) E dX10_meets_23 (by decide) ?_
      exact r_int E dX10_meets_28 ⟨⟨by have hb_ := z32 z_14; omega, by have hb_ := z32 z_14; omega, by first | (right; decide) | (have hb_ := z32 z_14; omega) | (have hb_ := z32 z_14; have hc_ := z32 x1; omega), by first | (right; decide) | (have hb_ := z32 z_14; omega) | (have hb_ := z32 z_14; have hc_ := z32 x2; omega)⟩, hj_4⟩
set_option maxRecDepth 20000 in
set_option maxHeartbeats 2000000 in
theorem Z_X10_oftenMeet_95 (l : Launch) (D : va_G) (aC : Nat → ClassId) (b : Nat) (w : XW) (x1 : Int32) (x2 : Int32) (hI : Iv w) (hx1 : 0 ≤ x1.toInt ∧ x1.toInt ≤ 5) (hx2 : 0 ≤ x2.toInt ∧ x2.toInt ≤ 5) : CnI l D aC b M_X10_oftenMeet 2 45 0 0 [AR 95, AI x1, AI x2] w (fun r u => ((-2147483648) ≤ r.toInt ∧ r.toInt ≤ 2147483647) ∧ w = u) := by
  refine cn_I (own := RX10) (nm := "oftenMeet") (L0 := [some (AR 95), some (AI x1), some (AI x2), none, none]) (by decide +kernel) rfl rfl (Nat.le_of_ble_eq_true rfl) rfl ?_
  intro p e s m args below meth c E hin
  have hJ : Jv w w := jv_rfl hI
  refine s_iconst (v := 0) E dX10_oftenMeet_0 (by decide) ?_
  refine s_istore_n (L2 := [some (AR 95), some (AI x1), some (AI x2), some (AI 0), none]) E dX10_oftenMeet_1 rfl (by decide) rfl ?_
  refine s_iconst (v := 0) E dX10_oftenMeet_2 (by decide) ?_
  refine s_istore (L2 := [some (AR 95), some (AI x1), some (AI x2), some (AI 0), some (AI 0)]) E dX10_oftenMeet_3 (by decide) rfl ?_
  refine z_loop (St := Int32 × Int32) (Pi := fun ⟨q5_3_0, q5_4_0⟩ v5 => (0 ≤ q5_4_0.toInt ∧ q5_4_0.toInt ≤ 15) ∧ w = v5) (Lf := fun ⟨q5_3_0, q5_4_0⟩ => [some (AR 95), some (AI x1), some (AI x2), some (AI q5_3_0), some (AI q5_4_0)]) (fun ⟨q5_3_0, q5_4_0⟩ _ => (16 - q5_4_0.toInt).toNat) ⟨0, 0⟩ ⟨⟨by decide, by decide⟩, rfl⟩ ?_
  rintro ⟨q5_3_0, q5_4_0⟩ v5 ⟨hq5_4, hv_⟩ ih5
  subst hv_
  have hbq5_3 := z32 q5_3_0
  refine s_loc (L2 := [some (AR 95), some (AI x1), some (AI x2), some (AI q5_3_0), some (AI q5_4_0)]) rfl ?_
  refine s_iload E dX10_oftenMeet_5 rfl ?_
  refine s_aload_n E dX10_oftenMeet_7 rfl rfl ?_
  refine s_vI (As := []) (S := [AI q5_4_0]) E (Z_X10_dances_95 l D aC b w  hJ.1 ) cv_X10_247 rfl rfl rfl (jv_lt hJ (by decide)) (Nat.le_of_ble_eq_true rfl) (Nat.le_of_ble_eq_true rfl) ⟨(Nat.le_of_ble_eq_true rfl), (Nat.le_of_ble_eq_true rfl)⟩ (Nat.le_of_ble_eq_true rfl) dX10_oftenMeet_8 (fun z_4 u_2 hp_3 => ?_)
  obtain ⟨hz_4, hxz_4, hp_3⟩ := hp_3
  subst hp_3
  refine z_icmp_gt (tgt := 39) (u := q5_4_0.toInt) (v := z_4.toInt) E dX10_oftenMeet_11 (by decide) rfl rfl (fun h_6 => ?_) (fun h_6 => ?_)
  ·
    refine s_iload_n E dX10_oftenMeet_39 rfl rfl ?_
    exact r_int E dX10_oftenMeet_40 ⟨⟨by have hb_ := z32 q5_3_0; omega, by have hb_ := z32 q5_3_0; omega⟩, rfl⟩
  ·
    refine s_iload_n E dX10_oftenMeet_14 rfl rfl ?_
    refine s_aload_n E dX10_oftenMeet_15 rfl rfl ?_
    refine s_iload_n E dX10_oftenMeet_16 rfl rfl ?_
    refine s_iload_n E dX10_oftenMeet_17 rfl rfl ?_
    refine s_iload E dX10_oftenMeet_18 rfl ?_
    refine s_vI (As := [AI x1, AI x2, AI q5_4_0]) (S := [AI q5_3_0]) E (Z_X10_doMeet_95 l D aC b w x1 x2 q5_4_0 hJ.1 ⟨by have hb_ := z32 x1; omega, by have hb_ := z32 x1; omega⟩ ⟨by have hb_ := z32 x2; omega, by have hb_ := z32 x2; omega⟩ ⟨by have hb_ := z32 q5_4_0; omega, by have hb_ := z32 q5_4_0; omega⟩) cv_X10_303 rfl rfl rfl (jv_lt hJ (by decide)) (Nat.le_of_ble_eq_true rfl) (Nat.le_of_ble_eq_true rfl) ⟨(Nat.le_of_ble_eq_true rfl), (Nat.le_of_ble_eq_true rfl)⟩ (Nat.le_of_ble_eq_true rfl) dX10_oftenMeet_20 (fun z_9 u_7 hp_8 => ?_)
    obtain ⟨hz_9, hp_8⟩ := hp_8
    subst hp_8
    refine z_if_eq (tgt := 30) (u := z_9.toInt) E dX10_oftenMeet_23 (by decide) rfl (fun h_11 => ?_) (fun h_11 => ?_)
    ·
      refine s_iconst (v := 0) E dX10_oftenMeet_30 (by decide) ?_
      refine z_iadd (u := q5_3_0.toInt) (v := 0) E dX10_oftenMeet_31 rfl (by decide) (by omega) (by omega) (fun z_12 hz_12 => ?_)
      refine s_istore_n (L2 := [some (AR 95), some (AI x1), some (AI x2), some (AI z_12), some (AI q5_4_0)]) E dX10_oftenMeet_32 rfl (by decide) rfl ?_
      refine z_iinc (u := q5_4_0.toInt) (L2 := fun z_13 => [some (AR 95), some (AI x1), some (AI x2), some (AI z_12), some (AI z_13)]) E dX10_oftenMeet_33 rfl rfl (by decide) (fun _ => rfl) (by decide) (by omega) (by omega) (fun z_13 hz_13 => ?_)
      refine s_goto (tgt := 5) E dX10_oftenMeet_36 (by decide) ?_
      exact ih5 ⟨z_12, z_13⟩ w ⟨⟨by have hb_ := z32 z_13; omega, by have hb_ := z32 z_13; omega⟩, rfl⟩ (by first | omega | decide | (dsimp only; omega) | (dsimp only; decide))
    ·
      refine s_iconst (v := 1) E dX10_oftenMeet_26 (by decide) ?_
      refine s_goto (tgt := 31) E dX10_oftenMeet_27 (by decide) ?_
      refine s_iadd E dX10_oftenMeet_31 ?_
      refine z_nm (P := fun z => (-2147483648) ≤ z.toInt ∧ z.toInt ≤ 2147483647) (z32 _) (fun z_14 hz_14 => ?_)
      refine s_istore_n (L2 := [some (AR 95), some (AI x1), some (AI x2), some (AI z_14), some (AI q5_4_0)]) E dX10_oftenMeet_32 rfl (by decide) rfl ?_
      refine z_iinc (u := q5_4_0.toInt) (L2 := fun z_15 => [some (AR 95), some (AI x1), some (AI x2), some (AI z_14), some (AI z_15)]) E dX10_oftenMeet_33 rfl rfl (by decide) (fun _ => rfl) (by decide) (by omega) (by omega) (fun z_15 hz_15 => ?_)
      refine s_goto (tgt := 5) E dX10_oftenMeet_36 (by decide) ?_
      exact ih5 ⟨z_14, z_15⟩ w ⟨⟨by have hb_ := z32 z_15; omega, by have hb_ := z32 z_15; omega⟩, rfl⟩ (by first | omega | decide | (dsimp only; omega) | (dsimp only; decide))
set_option maxRecDepth 20000 in
set_option maxHeartbeats 2000000 in
theorem Z_X10_often_95 (l : Launch) (D : va_G) (aC : Nat → ClassId) (b : Nat) (w : XW) (x1 : Int32) (x2 : Int32) (hI : Iv w)  : CnI l D aC b M_X10_often 5 113 0 0 [AR 95, AI x1, AI x2] w (fun r u => ((-2147483648) ≤ r.toInt ∧ r.toInt ≤ 2147483647 ∧ (¬ r.toInt = 0 ∨ (0 ≤ x1.toInt ∧ x1.toInt ≤ 5)) ∧ (¬ r.toInt = 0 ∨ (0 ≤ x2.toInt ∧ x2.toInt ≤ 5))) ∧ Jv w u) := by
  refine cn_I (own := RX10) (nm := "often") (L0 := [some (AR 95), some (AI x1), some (AI x2)]) (by decide +kernel) rfl rfl (Nat.le_of_ble_eq_true rfl) rfl ?_
  intro p e s m args below meth c E hin
  have hJ : Jv w w := jv_rfl hI
  have hb_x1 := z32 x1
  have hb_x2 := z32 x2
  refine s_aload_n E dX10_often_0 rfl rfl ?_
  refine s_iload_n E dX10_often_1 rfl rfl ?_
  refine s_vI (As := [AI x1]) (S := []) E (Z_X10_asksLady_95 l D aC b w x1 hJ.1 ) cv_X10_288 rfl rfl rfl (jv_lt hJ (by decide)) (Nat.le_of_ble_eq_true rfl) (Nat.le_of_ble_eq_true rfl) ⟨(Nat.le_of_ble_eq_true rfl), (Nat.le_of_ble_eq_true rfl)⟩ (Nat.le_of_ble_eq_true rfl) dX10_often_2 (fun z_3 u_1 hp_2 => ?_)
  obtain ⟨hz_3, hp_2⟩ := hp_2
  have hj_4 := jv_trans hJ hp_2
  refine z_if_eq (tgt := 26) (u := z_3.toInt) E dX10_often_5 (by decide) rfl (fun h_5 => ?_) (fun h_5 => ?_)
  ·
    refine s_bipush (v := (-2)) E dX10_often_26 (by decide) ?_
    exact r_int E dX10_often_28 ⟨⟨by decide, by decide, by first | (left; decide) | (right; decide) | (right; have hb_ := z32 x1; omega), by first | (left; decide) | (right; decide) | (right; have hb_ := z32 x2; omega)⟩, hj_4⟩
  ·
    refine s_aload_n E dX10_often_8 rfl rfl ?_
    refine s_iload_n E dX10_often_9 rfl rfl ?_
    refine z_i2l (u := x2.toInt) E dX10_often_10 rfl (fun z_6 hz_6 => ?_)
    refine s_vI (As := [AL z_6]) (S := []) E (Z_X10_isLady_95 l D aC b u_1 z_6 hj_4.1 ) cv_X10_222 rfl rfl rfl (jv_lt hj_4 (by decide)) (Nat.le_of_ble_eq_true rfl) (Nat.le_of_ble_eq_true rfl) ⟨(Nat.le_of_ble_eq_true rfl), (Nat.le_of_ble_eq_true rfl)⟩ (Nat.le_of_ble_eq_true rfl) dX10_often_11 (fun z_9 u_7 hp_8 => ?_)
    obtain ⟨hz_9, hp_8⟩ := hp_8
    subst hp_8
    refine z_if_eq (tgt := 26) (u := z_9.toInt) E dX10_often_14 (by decide) rfl (fun h_11 => ?_) (fun h_11 => ?_)
    ·
      refine s_bipush (v := (-2)) E dX10_often_26 (by decide) ?_
      exact r_int E dX10_often_28 ⟨⟨by decide, by decide, by first | (left; decide) | (right; decide) | (right; have hb_ := z32 x1; omega), by first | (left; decide) | (right; decide) | (right; have hb_ := z32 x2; omega)⟩, hj_4⟩
    ·
      refine s_aload_n E dX10_often_17 rfl rfl ?_
      refine s_iload_n E dX10_often_18 rfl rfl ?_
      refine s_iload_n E dX10_often_19 rfl rfl ?_
      refine s_vI (As := [AI x1, AI x2]) (S := []) E (Z_X10_oftenMeet_95 l D aC b u_1 x1 x2 hj_4.1 ⟨by have hb_ := z32 x1; omega, by have hb_ := z32 x1; omega⟩ ⟨by have hb_ := z32 x2; omega, by have hb_ := z32 x2; omega⟩) cv_X10_310 rfl rfl rfl (jv_lt hj_4 (by decide)) (Nat.le_of_ble_eq_true rfl) (Nat.le_of_ble_eq_true rfl) ⟨(Nat.le_of_ble_eq_true rfl), (Nat.le_of_ble_eq_true rfl)⟩ (Nat.le_of_ble_eq_true rfl) dX10_often_20 (fun z_14 u_12 hp_13 => ?_)
      obtain ⟨hz_14, hp_13⟩ := hp_13
      subst hp_13
      refine s_goto (tgt := 28) E dX10_often_23 (by decide) ?_
      exact r_int E dX10_often_28 ⟨⟨by have hb_ := z32 z_14; omega, by have hb_ := z32 z_14; omega, by first | (right; decide) | (have hb_ := z32 z_14; omega) | (have hb_ := z32 z_14; have hc_ := z32 x1; omega), by first | (right; decide) | (have hb_ := z32 z_14; omega) | (have hb_ := z32 z_14; have hc_ := z32 x2; omega)⟩, hj_4⟩
set_option maxRecDepth 20000 in
set_option maxHeartbeats 2000000 in
theorem Z_X10_friendsOf_95 (l : Launch) (D : va_G) (aC : Nat → ClassId) (b : Nat) (w : XW) (x1 : Int32) (hI : Iv w) (hx1 : 0 ≤ x1.toInt ∧ x1.toInt ≤ 5) : CnI l D aC b M_X10_friendsOf 3 68 0 0 [AR 95, AI x1] w (fun r u => ((-2147483648) ≤ r.toInt ∧ r.toInt ≤ 2147483647) ∧ w = u) := by
  refine cn_I (own := RX10) (nm := "friendsOf") (L0 := [some (AR 95), some (AI x1), none, none]) (by decide +kernel) rfl rfl (Nat.le_of_ble_eq_true rfl) rfl ?_
  intro p e s m args below meth c E hin
  have hJ : Jv w w := jv_rfl hI
  refine s_iconst (v := 0) E dX10_friendsOf_0 (by decide) ?_
  refine s_istore_n (L2 := [some (AR 95), some (AI x1), some (AI 0), none]) E dX10_friendsOf_1 rfl (by decide) rfl ?_
  refine s_iconst (v := 0) E dX10_friendsOf_2 (by decide) ?_
  refine s_istore_n (L2 := [some (AR 95), some (AI x1), some (AI 0), some (AI 0)]) E dX10_friendsOf_3 rfl (by decide) rfl ?_
  refine z_loop (St := Int32 × Int32) (Pi := fun ⟨q4_2_0, q4_3_0⟩ v4 => (0 ≤ q4_3_0.toInt ∧ q4_3_0.toInt ≤ 6) ∧ w = v4) (Lf := fun ⟨q4_2_0, q4_3_0⟩ => [some (AR 95), some (AI x1), some (AI q4_2_0), some (AI q4_3_0)]) (fun ⟨q4_2_0, q4_3_0⟩ _ => (7 - q4_3_0.toInt).toNat) ⟨0, 0⟩ ⟨⟨by decide, by decide⟩, rfl⟩ ?_
  rintro ⟨q4_2_0, q4_3_0⟩ v4 ⟨hq4_3, hv_⟩ ih4
  subst hv_
  have hbq4_2 := z32 q4_2_0
  refine s_loc (L2 := [some (AR 95), some (AI x1), some (AI q4_2_0), some (AI q4_3_0)]) rfl ?_
  refine s_iload_n E dX10_friendsOf_4 rfl rfl ?_
  refine s_aload_n E dX10_friendsOf_5 rfl rfl ?_
  refine s_vI (As := []) (S := [AI q4_3_0]) E (Z_X10_ladies_95 l D aC b w  hJ.1 ) cv_X10_244 rfl rfl rfl (jv_lt hJ (by decide)) (Nat.le_of_ble_eq_true rfl) (Nat.le_of_ble_eq_true rfl) ⟨(Nat.le_of_ble_eq_true rfl), (Nat.le_of_ble_eq_true rfl)⟩ (Nat.le_of_ble_eq_true rfl) dX10_friendsOf_6 (fun z_4 u_2 hp_3 => ?_)
  obtain ⟨hz_4, hxz_4, hp_3⟩ := hp_3
  subst hp_3
  refine z_icmp_ge (tgt := 43) (u := q4_3_0.toInt) (v := z_4.toInt) E dX10_friendsOf_9 (by decide) rfl rfl (fun h_6 => ?_) (fun h_6 => ?_)
  ·
    refine s_iload_n E dX10_friendsOf_43 rfl rfl ?_
    exact r_int E dX10_friendsOf_44 ⟨⟨by have hb_ := z32 q4_2_0; omega, by have hb_ := z32 q4_2_0; omega⟩, rfl⟩
  ·
    refine s_iload_n E dX10_friendsOf_12 rfl rfl ?_
    refine s_iload_n E dX10_friendsOf_13 rfl rfl ?_
    refine s_iload_n E dX10_friendsOf_14 rfl rfl ?_
    refine z_icmp_eq (tgt := 34) (u := q4_3_0.toInt) (v := x1.toInt) E dX10_friendsOf_15 (by decide) rfl rfl (fun h_7 => ?_) (fun h_7 => ?_)
    ·
      refine s_iconst (v := 0) E dX10_friendsOf_34 (by decide) ?_
      refine s_ior E dX10_friendsOf_35 ?_
      refine z_nm (P := fun z => (-2147483648) ≤ z.toInt ∧ z.toInt ≤ 2147483647) (z32 _) (fun z_8 hz_8 => ?_)
      refine s_istore_n (L2 := [some (AR 95), some (AI x1), some (AI z_8), some (AI q4_3_0)]) E dX10_friendsOf_36 rfl (by decide) rfl ?_
      refine z_iinc (u := q4_3_0.toInt) (L2 := fun z_9 => [some (AR 95), some (AI x1), some (AI z_8), some (AI z_9)]) E dX10_friendsOf_37 rfl rfl (by decide) (fun _ => rfl) (by decide) (by omega) (by omega) (fun z_9 hz_9 => ?_)
      refine s_goto (tgt := 4) E dX10_friendsOf_40 (by decide) ?_
      exact ih4 ⟨z_8, z_9⟩ w ⟨⟨by have hb_ := z32 z_9; omega, by have hb_ := z32 z_9; omega⟩, rfl⟩ (by first | omega | decide | (dsimp only; omega) | (dsimp only; decide))
    ·
      refine s_aload_n E dX10_friendsOf_18 rfl rfl ?_
      refine s_iload_n E dX10_friendsOf_19 rfl rfl ?_
      refine s_iload_n E dX10_friendsOf_20 rfl rfl ?_
      refine s_vI (As := [AI x1, AI q4_3_0]) (S := [AI q4_2_0]) E (Z_X10_firstMeet_95 l D aC b w x1 q4_3_0 hJ.1 ⟨by have hb_ := z32 x1; omega, by have hb_ := z32 x1; omega⟩ ⟨by have hb_ := z32 q4_3_0; omega, by have hb_ := z32 q4_3_0; omega⟩) cv_X10_307 rfl rfl rfl (jv_lt hJ (by decide)) (Nat.le_of_ble_eq_true rfl) (Nat.le_of_ble_eq_true rfl) ⟨(Nat.le_of_ble_eq_true rfl), (Nat.le_of_ble_eq_true rfl)⟩ (Nat.le_of_ble_eq_true rfl) dX10_friendsOf_21 (fun z_12 u_10 hp_11 => ?_)
      obtain ⟨hz_12, hp_11⟩ := hp_11
      subst hp_11
      refine s_iconst (v := (-1)) E dX10_friendsOf_24 (by decide) ?_
      refine z_icmp_eq (tgt := 34) (u := z_12.toInt) (v := (-1)) E dX10_friendsOf_25 (by decide) rfl (by decide) (fun h_14 => ?_) (fun h_14 => ?_)
      ·
        refine s_iconst (v := 0) E dX10_friendsOf_34 (by decide) ?_
        refine s_ior E dX10_friendsOf_35 ?_
        refine z_nm (P := fun z => (-2147483648) ≤ z.toInt ∧ z.toInt ≤ 2147483647) (z32 _) (fun z_15 hz_15 => ?_)
        refine s_istore_n (L2 := [some (AR 95), some (AI x1), some (AI z_15), some (AI q4_3_0)]) E dX10_friendsOf_36 rfl (by decide) rfl ?_
        refine z_iinc (u := q4_3_0.toInt) (L2 := fun z_16 => [some (AR 95), some (AI x1), some (AI z_15), some (AI z_16)]) E dX10_friendsOf_37 rfl rfl (by decide) (fun _ => rfl) (by decide) (by omega) (by omega) (fun z_16 hz_16 => ?_)
        refine s_goto (tgt := 4) E dX10_friendsOf_40 (by decide) ?_
        exact ih4 ⟨z_15, z_16⟩ w ⟨⟨by have hb_ := z32 z_16; omega, by have hb_ := z32 z_16; omega⟩, rfl⟩ (by first | omega | decide | (dsimp only; omega) | (dsimp only; decide))
      ·
        refine s_iconst (v := 1) E dX10_friendsOf_28 (by decide) ?_
        refine s_iload_n E dX10_friendsOf_29 rfl rfl ?_
        refine z_shl1 5 (u := q4_3_0.toInt) (B := 32) E dX10_friendsOf_30 rfl (by omega) (by omega) (by decide) (by decide) (fun z_17 hz_17 => ?_)
        refine s_goto (tgt := 35) E dX10_friendsOf_31 (by decide) ?_
        refine s_ior E dX10_friendsOf_35 ?_
        refine z_nm (P := fun z => (-2147483648) ≤ z.toInt ∧ z.toInt ≤ 2147483647) (z32 _) (fun z_18 hz_18 => ?_)
        refine s_istore_n (L2 := [some (AR 95), some (AI x1), some (AI z_18), some (AI q4_3_0)]) E dX10_friendsOf_36 rfl (by decide) rfl ?_
        refine z_iinc (u := q4_3_0.toInt) (L2 := fun z_19 => [some (AR 95), some (AI x1), some (AI z_18), some (AI z_19)]) E dX10_friendsOf_37 rfl rfl (by decide) (fun _ => rfl) (by decide) (by omega) (by omega) (fun z_19 hz_19 => ?_)
        refine s_goto (tgt := 4) E dX10_friendsOf_40 (by decide) ?_
        exact ih4 ⟨z_18, z_19⟩ w ⟨⟨by have hb_ := z32 z_19; omega, by have hb_ := z32 z_19; omega⟩, rfl⟩ (by first | omega | decide | (dsimp only; omega) | (dsimp only; decide))
set_option maxRecDepth 20000 in
set_option maxHeartbeats 2000000 in
theorem Z_X10_friends_95 (l : Launch) (D : va_G) (aC : Nat → ClassId) (b : Nat) (w : XW) (x1 : Int32) (hI : Iv w)  : CnI l D aC b M_X10_friends 5 113 0 0 [AR 95, AI x1] w (fun r u => ((-2147483648) ≤ r.toInt ∧ r.toInt ≤ 2147483647 ∧ (¬ r.toInt = 0 ∨ (0 ≤ x1.toInt ∧ x1.toInt ≤ 5))) ∧ Jv w u) := by
  refine cn_I (own := RX10) (nm := "friends") (L0 := [some (AR 95), some (AI x1)]) (by decide +kernel) rfl rfl (Nat.le_of_ble_eq_true rfl) rfl ?_
  intro p e s m args below meth c E hin
  have hJ : Jv w w := jv_rfl hI
  have hb_x1 := z32 x1
  refine s_aload_n E dX10_friends_0 rfl rfl ?_
  refine s_iload_n E dX10_friends_1 rfl rfl ?_
  refine s_vI (As := [AI x1]) (S := []) E (Z_X10_asksLady_95 l D aC b w x1 hJ.1 ) cv_X10_288 rfl rfl rfl (jv_lt hJ (by decide)) (Nat.le_of_ble_eq_true rfl) (Nat.le_of_ble_eq_true rfl) ⟨(Nat.le_of_ble_eq_true rfl), (Nat.le_of_ble_eq_true rfl)⟩ (Nat.le_of_ble_eq_true rfl) dX10_friends_2 (fun z_3 u_1 hp_2 => ?_)
  obtain ⟨hz_3, hp_2⟩ := hp_2
  have hj_4 := jv_trans hJ hp_2
  refine z_if_eq (tgt := 16) (u := z_3.toInt) E dX10_friends_5 (by decide) rfl (fun h_5 => ?_) (fun h_5 => ?_)
  ·
    refine s_bipush (v := (-2)) E dX10_friends_16 (by decide) ?_
    exact r_int E dX10_friends_18 ⟨⟨by decide, by decide, by first | (left; decide) | (right; decide) | (right; have hb_ := z32 x1; omega)⟩, hj_4⟩
  ·
    refine s_aload_n E dX10_friends_8 rfl rfl ?_
    refine s_iload_n E dX10_friends_9 rfl rfl ?_
    refine s_vI (As := [AI x1]) (S := []) E (Z_X10_friendsOf_95 l D aC b u_1 x1 hj_4.1 ⟨by have hb_ := z32 x1; omega, by have hb_ := z32 x1; omega⟩) cv_X10_313 rfl rfl rfl (jv_lt hj_4 (by decide)) (Nat.le_of_ble_eq_true rfl) (Nat.le_of_ble_eq_true rfl) ⟨(Nat.le_of_ble_eq_true rfl), (Nat.le_of_ble_eq_true rfl)⟩ (Nat.le_of_ble_eq_true rfl) dX10_friends_10 (fun z_8 u_6 hp_7 => ?_)
    obtain ⟨hz_8, hp_7⟩ := hp_7
    subst hp_7
    refine s_goto (tgt := 18) E dX10_friends_13 (by decide) ?_
    exact r_int E dX10_friends_18 ⟨⟨by have hb_ := z32 z_8; omega, by have hb_ := z32 z_8; omega, by first | (right; decide) | (have hb_ := z32 z_8; omega) | (have hb_ := z32 z_8; have hc_ := z32 x1; omega)⟩, hj_4⟩
set_option maxRecDepth 20000 in
set_option maxHeartbeats 2000000 in
theorem Z_X10_asksBall_95 (l : Launch) (D : va_G) (aC : Nat → ClassId) (b : Nat) (w : XW)  (hI : Iv w)  : CnI l D aC b M_X10_asksBall 4 92 0 0 [AR 95] w (fun r u => (0 ≤ r.toInt ∧ r.toInt ≤ 1) ∧ Jv w u) := by
  refine cn_I (own := RX10) (nm := "asksBall") (L0 := [some (AR 95)]) (by decide +kernel) rfl rfl (Nat.le_of_ble_eq_true rfl) rfl ?_
  intro p e s m args below meth c E hin
  have hJ : Jv w w := jv_rfl hI
  refine s_aload_n E dX10_asksBall_0 rfl rfl ?_
  refine s_vV (As := []) (S := []) E (Z_X10_asItIs_95 l D aC b w  hJ.1 ) cv_X10_279 rfl rfl rfl (jv_lt hJ (by decide)) (Nat.le_of_ble_eq_true rfl) (Nat.le_of_ble_eq_true rfl) ⟨(Nat.le_of_ble_eq_true rfl), (Nat.le_of_ble_eq_true rfl)⟩ (Nat.le_of_ble_eq_true rfl) dX10_asksBall_1 (fun u_1 hp_2 => ?_)
  have hj_3 := jv_trans hJ hp_2
  refine s_aload_n E dX10_asksBall_4 rfl rfl ?_
  refine s_vI (As := []) (S := []) E (Z_X10_isBall_95 l D aC b u_1  hj_3.1 ) cv_X10_86 rfl rfl rfl (jv_lt hj_3 (by decide)) (Nat.le_of_ble_eq_true rfl) (Nat.le_of_ble_eq_true rfl) ⟨(Nat.le_of_ble_eq_true rfl), (Nat.le_of_ble_eq_true rfl)⟩ (Nat.le_of_ble_eq_true rfl) dX10_asksBall_5 (fun z_6 u_4 hp_5 => ?_)
  obtain ⟨hz_6, hp_5⟩ := hp_5
  subst hp_5
  exact r_bool E dX10_asksBall_8 (z_bool (by omega) (by omega)) ⟨⟨by have hb_ := z32 z_6; omega, by have hb_ := z32 z_6; omega⟩, hj_3⟩
set_option maxRecDepth 20000 in
set_option maxHeartbeats 2000000 in
theorem Z_X10_bits (l : Launch) (D : va_G) (aC : Nat → ClassId) (b : Nat) (w : XW) (x1 : Int32) (hI : Iv w)  : CnI l D aC b M_X10_bits 0 0 0 0 [AI x1] w (fun r u => ((-2147483648) ≤ r.toInt ∧ r.toInt ≤ 2147483647) ∧ w = u) := by
  refine cn_I (own := RX10) (nm := "bits") (L0 := [some (AI x1), none, none]) (by decide +kernel) rfl rfl (Nat.le_of_ble_eq_true rfl) rfl ?_
  intro p e s m args below meth c E hin
  have hJ : Jv w w := jv_rfl hI
  have hb_x1 := z32 x1
  refine s_iconst (v := 0) E dX10_bits_0 (by decide) ?_
  refine s_istore_n (L2 := [some (AI x1), some (AI 0), none]) E dX10_bits_1 rfl (by decide) rfl ?_
  refine s_iconst (v := 0) E dX10_bits_2 (by decide) ?_
  refine s_istore_n (L2 := [some (AI x1), some (AI 0), some (AI 0)]) E dX10_bits_3 rfl (by decide) rfl ?_
  refine z_loop (St := Int32 × Int32) (Pi := fun ⟨q4_1_0, q4_2_0⟩ v4 => (0 ≤ q4_2_0.toInt ∧ q4_2_0.toInt ≤ 16) ∧ w = v4) (Lf := fun ⟨q4_1_0, q4_2_0⟩ => [some (AI x1), some (AI q4_1_0), some (AI q4_2_0)]) (fun ⟨q4_1_0, q4_2_0⟩ _ => (17 - q4_2_0.toInt).toNat) ⟨0, 0⟩ ⟨⟨by decide, by decide⟩, rfl⟩ ?_
  rintro ⟨q4_1_0, q4_2_0⟩ v4 ⟨hq4_2, hv_⟩ ih4
  subst hv_
  have hbq4_1 := z32 q4_1_0
  refine s_loc (L2 := [some (AI x1), some (AI q4_1_0), some (AI q4_2_0)]) rfl ?_
  refine s_iload_n E dX10_bits_4 rfl rfl ?_
  refine s_bipush (v := 16) E dX10_bits_5 (by decide) ?_
  refine z_icmp_ge (tgt := 24) (u := q4_2_0.toInt) (v := 16) E dX10_bits_7 (by decide) rfl (by decide) (fun h_2 => ?_) (fun h_2 => ?_)
  ·
    refine s_iload_n E dX10_bits_24 rfl rfl ?_
    exact r_int E dX10_bits_25 ⟨⟨by have hb_ := z32 q4_1_0; omega, by have hb_ := z32 q4_1_0; omega⟩, rfl⟩
  ·
    refine s_iload_n E dX10_bits_10 rfl rfl ?_
    refine s_iload_n E dX10_bits_11 rfl rfl ?_
    refine s_iload_n E dX10_bits_12 rfl rfl ?_
    refine s_ishr E dX10_bits_13 ?_
    refine z_nm (P := fun z => (-2147483648) ≤ z.toInt ∧ z.toInt ≤ 2147483647) (z32 _) (fun z_3 hz_3 => ?_)
    refine s_iconst (v := 1) E dX10_bits_14 (by decide) ?_
    refine z_mask (v := 1) E dX10_bits_15 (by decide) (by decide) (fun z_4 hz_4 => ?_)
    refine s_iadd E dX10_bits_16 ?_
    refine z_nm (P := fun z => (-2147483648) ≤ z.toInt ∧ z.toInt ≤ 2147483647) (z32 _) (fun z_5 hz_5 => ?_)
    refine s_istore_n (L2 := [some (AI x1), some (AI z_5), some (AI q4_2_0)]) E dX10_bits_17 rfl (by decide) rfl ?_
    refine z_iinc (u := q4_2_0.toInt) (L2 := fun z_6 => [some (AI x1), some (AI z_5), some (AI z_6)]) E dX10_bits_18 rfl rfl (by decide) (fun _ => rfl) (by decide) (by omega) (by omega) (fun z_6 hz_6 => ?_)
    refine s_goto (tgt := 4) E dX10_bits_21 (by decide) ?_
    exact ih4 ⟨z_5, z_6⟩ w ⟨⟨by have hb_ := z32 z_6; omega, by have hb_ := z32 z_6; omega⟩, rfl⟩ (by first | omega | decide | (dsimp only; omega) | (dsimp only; decide))
set_option maxRecDepth 20000 in
set_option maxHeartbeats 2000000 in
theorem Z_X10_crushOf_95 (l : Launch) (D : va_G) (aC : Nat → ClassId) (b : Nat) (w : XW)  (hI : Iv w)  : CnI l D aC b M_X10_crushOf 2 46 0 0 [AR 95] w (fun r u => (0 ≤ r.toInt ∧ r.toInt ≤ 64) ∧ Jv w u) := by
  refine cn_I (own := RX10) (nm := "crushOf") (L0 := [some (AR 95), none, none, none, none]) (by decide +kernel) rfl rfl (Nat.le_of_ble_eq_true rfl) rfl ?_
  intro p e s m args below meth c E hin
  have hJ : Jv w w := jv_rfl hI
  refine s_aload_n E dX10_crushOf_0 rfl rfl ?_
  refine s_iconst (v := 0) E dX10_crushOf_1 (by decide) ?_
  refine s_pI E fp_X10_316 (Or.inl rfl) rfl (jv_lt hJ (by decide)) dX10_crushOf_2 ?_
  refine s_gen (P := Jv w) (jv_f_95_25 hJ (by decide) (by decide)) (fun v_1 hj_2 => ?_)
  refine s_iconst (v := 0) E dX10_crushOf_5 (by decide) ?_
  refine s_istore_n (L2 := [some (AR 95), some (AI 0), none, none, none]) E dX10_crushOf_6 rfl (by decide) rfl ?_
  refine s_iconst (v := 0) E dX10_crushOf_7 (by decide) ?_
  refine s_istore_n (L2 := [some (AR 95), some (AI 0), some (AI 0), none, none]) E dX10_crushOf_8 rfl (by decide) rfl ?_
  refine z_loop (St := Int32 × Int32) (Pi := fun ⟨q9_1_2, q9_2_2⟩ v9 => (0 ≤ q9_1_2.toInt ∧ q9_1_2.toInt ≤ 64) ∧ (0 ≤ q9_2_2.toInt ∧ q9_2_2.toInt ≤ 15) ∧ Jv w v9) (Lf := fun ⟨q9_1_2, q9_2_2⟩ => [some (AR 95), some (AI q9_1_2), some (AI q9_2_2), none, none]) (fun ⟨q9_1_2, q9_2_2⟩ _ => (16 - q9_2_2.toInt).toNat) ⟨0, 0⟩ ⟨⟨by decide, by decide⟩, ⟨by decide, by decide⟩, hj_2⟩ ?_
  rintro ⟨q9_1_2, q9_2_2⟩ v9 ⟨hq9_1, hq9_2, hj_3⟩ ih9
  refine s_loc (L2 := [some (AR 95), some (AI q9_1_2), some (AI q9_2_2), none, none]) rfl ?_
  refine s_iload_n E dX10_crushOf_9 rfl rfl ?_
  refine s_aload_n E dX10_crushOf_10 rfl rfl ?_
  refine s_vI (As := []) (S := [AI q9_2_2]) E (Z_X10_dances_95 l D aC b v9  hj_3.1 ) cv_X10_247 rfl rfl rfl (jv_lt hj_3 (by decide)) (Nat.le_of_ble_eq_true rfl) (Nat.le_of_ble_eq_true rfl) ⟨(Nat.le_of_ble_eq_true rfl), (Nat.le_of_ble_eq_true rfl)⟩ (Nat.le_of_ble_eq_true rfl) dX10_crushOf_11 (fun z_6 u_4 hp_5 => ?_)
  obtain ⟨hz_6, hxz_6, hp_5⟩ := hp_5
  subst hp_5
  refine z_icmp_gt (tgt := 72) (u := q9_2_2.toInt) (v := z_6.toInt) E dX10_crushOf_14 (by decide) rfl rfl (fun h_8 => ?_) (fun h_8 => ?_)
  ·
    refine s_iload_n E dX10_crushOf_72 rfl rfl ?_
    exact r_int E dX10_crushOf_73 ⟨⟨by have hb_ := z32 q9_1_2; omega, by have hb_ := z32 q9_1_2; omega⟩, hj_3⟩
  ·
    refine s_iconst (v := 0) E dX10_crushOf_17 (by decide) ?_
    refine s_istore_n (L2 := [some (AR 95), some (AI q9_1_2), some (AI q9_2_2), some (AI 0), none]) E dX10_crushOf_18 rfl (by decide) rfl ?_
    refine z_loop (St := Int32 × Int32) (Pi := fun ⟨q19_1_8, q19_3_8⟩ v19 => (0 ≤ q19_1_8.toInt ∧ q19_1_8.toInt ≤ 64) ∧ (0 ≤ q19_3_8.toInt ∧ q19_3_8.toInt ≤ 8) ∧ Jv w v19) (Lf := fun ⟨q19_1_8, q19_3_8⟩ => [some (AR 95), some (AI q19_1_8), some (AI q9_2_2), some (AI q19_3_8), none]) (fun ⟨q19_1_8, q19_3_8⟩ _ => (9 - q19_3_8.toInt).toNat) ⟨q9_1_2, 0⟩ ⟨⟨by have hb_ := z32 q9_1_2; omega, by have hb_ := z32 q9_1_2; omega⟩, ⟨by decide, by decide⟩, hj_3⟩ ?_
    rintro ⟨q19_1_8, q19_3_8⟩ v19 ⟨hq19_1, hq19_3, hj_9⟩ ih19
    refine s_loc (L2 := [some (AR 95), some (AI q19_1_8), some (AI q9_2_2), some (AI q19_3_8), none]) rfl ?_
    refine s_iload_n E dX10_crushOf_19 rfl rfl ?_
    refine s_aload_n E dX10_crushOf_20 rfl rfl ?_
    refine s_gR (r := 96) E fg_X10_9 rfl rfl (jv_lt hj_9 (by decide)) (jv_r hj_9 (by decide +kernel)) dX10_crushOf_21 ?_
    refine s_iconst (v := 0) E dX10_crushOf_24 (by decide) ?_
    refine s_iald E rfl (jv_lt hj_9 (by decide)) (z_in (u := 0) (by decide) (by omega) (by omega)) dX10_crushOf_25 ?_
    refine z_nm (P := fun z => z.toInt = (v19.2.2.1 96 0).toInt ∧ 0 ≤ z.toInt ∧ z.toInt ≤ 8) ⟨rfl, (rw_96_0 hj_9)⟩ (fun z_10 hz_10 => ?_)
    refine z_icmp_ge (tgt := 66) (u := q19_3_8.toInt) (v := z_10.toInt) E dX10_crushOf_26 (by decide) rfl rfl (fun h_11 => ?_) (fun h_11 => ?_)
    ·
      refine z_iinc (u := q9_2_2.toInt) (L2 := fun z_12 => [some (AR 95), some (AI q19_1_8), some (AI z_12), some (AI q19_3_8), none]) E dX10_crushOf_66 rfl rfl (by decide) (fun _ => rfl) (by decide) (by omega) (by omega) (fun z_12 hz_12 => ?_)
      refine s_goto (tgt := 9) E dX10_crushOf_69 (by decide) ?_
      refine s_drop (i := 3) (L2 := [some (AR 95), some (AI q19_1_8), some (AI z_12), none, none]) rfl ?_
      exact ih9 ⟨q19_1_8, z_12⟩ v19 ⟨⟨by have hb_ := z32 q19_1_8; omega, by have hb_ := z32 q19_1_8; omega⟩, ⟨by have hb_ := z32 z_12; omega, by have hb_ := z32 z_12; omega⟩, hj_9⟩ (by first | omega | decide | (dsimp only; omega) | (dsimp only; decide))
    ·
      refine s_aload_n E dX10_crushOf_29 rfl rfl ?_
      refine s_iload_n E dX10_crushOf_30 rfl rfl ?_
      refine s_iload_n E dX10_crushOf_31 rfl rfl ?_
      refine s_vI (As := [AI q19_3_8, AI q9_2_2]) (S := []) E (Z_X10_withinOf_95 l D aC b v19 q19_3_8 q9_2_2 hj_9.1 ⟨by have hb_ := z32 q9_2_2; omega, by have hb_ := z32 q9_2_2; omega⟩) cv_X10_297 rfl rfl rfl (jv_lt hj_9 (by decide)) (Nat.le_of_ble_eq_true rfl) (Nat.le_of_ble_eq_true rfl) ⟨(Nat.le_of_ble_eq_true rfl), (Nat.le_of_ble_eq_true rfl)⟩ (Nat.le_of_ble_eq_true rfl) dX10_crushOf_32 (fun z_15 u_13 hp_14 => ?_)
      obtain ⟨hz_15, hp_14⟩ := hp_14
      subst hp_14
      refine s_sI (As := [AI z_15]) (S := []) E (Z_X10_bits l D aC b v19 z_15 hj_9.1 ) cs_X10_319 rfl rfl (Nat.le_of_ble_eq_true rfl) (Nat.le_of_ble_eq_true rfl) ⟨(Nat.le_of_ble_eq_true rfl), (Nat.le_of_ble_eq_true rfl)⟩ (Nat.le_of_ble_eq_true rfl) dX10_crushOf_35 (fun z_19 u_17 hp_18 => ?_)
      obtain ⟨hz_19, hp_18⟩ := hp_18
      subst hp_18
      refine s_istore (L2 := [some (AR 95), some (AI q19_1_8), some (AI q9_2_2), some (AI q19_3_8), some (AI z_19)]) E dX10_crushOf_38 (by decide) rfl ?_
      refine s_iload E dX10_crushOf_40 rfl ?_
      refine s_aload_n E dX10_crushOf_42 rfl rfl ?_
      refine s_gI E fg_X10_316 rfl rfl (jv_lt hj_9 (by decide)) dX10_crushOf_43 ?_
      refine z_nm (P := fun z => z.toInt = (v19.2.2.1 95 25).toInt ∧ (-2147483648) ≤ z.toInt ∧ z.toInt ≤ 2147483647) ⟨rfl, z32 _⟩ (fun z_21 hz_21 => ?_)
      refine z_icmp_gt (tgt := 52) (u := z_19.toInt) (v := z_21.toInt) E dX10_crushOf_46 (by decide) rfl rfl (fun h_22 => ?_) (fun h_22 => ?_)
      ·
        refine s_aload_n E dX10_crushOf_52 rfl rfl ?_
        refine s_iload E dX10_crushOf_53 rfl ?_
        refine s_pI E fp_X10_316 (Or.inl rfl) rfl (jv_lt hj_9 (by decide)) dX10_crushOf_55 ?_
        refine s_gen (P := fun v => Jv w v ∧ (v.2.2.1 96 0).toInt = (v19.2.2.1 96 0).toInt) ⟨(jv_f_95_25 hj_9 (by have hb_ := z32 z_19; omega) (by have hb_ := z32 z_19; omega)), rfl⟩ (fun v_23 hj_24 => ?_)
        obtain ⟨hj_24, hk_25k0⟩ := hj_24
        refine s_iload_n E dX10_crushOf_58 rfl rfl ?_
        refine s_istore_n (L2 := [some (AR 95), some (AI q9_2_2), some (AI q9_2_2), some (AI q19_3_8), some (AI z_19)]) E dX10_crushOf_59 rfl (by decide) rfl ?_
        refine z_iinc (u := q19_3_8.toInt) (L2 := fun z_26 => [some (AR 95), some (AI q9_2_2), some (AI q9_2_2), some (AI z_26), some (AI z_19)]) E dX10_crushOf_60 rfl rfl (by decide) (fun _ => rfl) (by decide) (by omega) (by omega) (fun z_26 hz_26 => ?_)
        refine s_goto (tgt := 19) E dX10_crushOf_63 (by decide) ?_
        refine s_drop (i := 4) (L2 := [some (AR 95), some (AI q9_2_2), some (AI q9_2_2), some (AI z_26), none]) rfl ?_
        exact ih19 ⟨q9_2_2, z_26⟩ v_23 ⟨⟨by have hb_ := z32 q9_2_2; omega, by have hb_ := z32 q9_2_2; omega⟩, ⟨by have hb_ := z32 z_26; omega, by have hb_ := z32 z_26; omega⟩, hj_24⟩ (by first | omega | decide | (dsimp only; omega) | (dsimp only; decide))
      ·
        refine s_goto (tgt := 60) E dX10_crushOf_49 (by decide) ?_
        refine z_iinc (u := q19_3_8.toInt) (L2 := fun z_27 => [some (AR 95), some (AI q19_1_8), some (AI q9_2_2), some (AI z_27), some (AI z_19)]) E dX10_crushOf_60 rfl rfl (by decide) (fun _ => rfl) (by decide) (by omega) (by omega) (fun z_27 hz_27 => ?_)
        refine s_goto (tgt := 19) E dX10_crushOf_63 (by decide) ?_
        refine s_drop (i := 4) (L2 := [some (AR 95), some (AI q19_1_8), some (AI q9_2_2), some (AI z_27), none]) rfl ?_
        exact ih19 ⟨q19_1_8, z_27⟩ v19 ⟨⟨by have hb_ := z32 q19_1_8; omega, by have hb_ := z32 q19_1_8; omega⟩, ⟨by have hb_ := z32 z_27; omega, by have hb_ := z32 z_27; omega⟩, hj_9⟩ (by first | omega | decide | (dsimp only; omega) | (dsimp only; decide))
set_option maxRecDepth 20000 in
set_option maxHeartbeats 2000000 in
theorem Z_X10_crush_95 (l : Launch) (D : va_G) (aC : Nat → ClassId) (b : Nat) (w : XW)  (hI : Iv w)  : CnI l D aC b M_X10_crush 5 112 0 0 [AR 95] w (fun r u => ((-2147483648) ≤ r.toInt ∧ r.toInt ≤ 2147483647) ∧ Jv w u) := by
  refine cn_I (own := RX10) (nm := "crush") (L0 := [some (AR 95)]) (by decide +kernel) rfl rfl (Nat.le_of_ble_eq_true rfl) rfl ?_
  intro p e s m args below meth c E hin
  have hJ : Jv w w := jv_rfl hI
  refine s_aload_n E dX10_crush_0 rfl rfl ?_
  refine s_vI (As := []) (S := []) E (Z_X10_asksBall_95 l D aC b w  hJ.1 ) cv_X10_322 rfl rfl rfl (jv_lt hJ (by decide)) (Nat.le_of_ble_eq_true rfl) (Nat.le_of_ble_eq_true rfl) ⟨(Nat.le_of_ble_eq_true rfl), (Nat.le_of_ble_eq_true rfl)⟩ (Nat.le_of_ble_eq_true rfl) dX10_crush_1 (fun z_3 u_1 hp_2 => ?_)
  obtain ⟨hz_3, hp_2⟩ := hp_2
  have hj_4 := jv_trans hJ hp_2
  refine z_if_ne (tgt := 10) (u := z_3.toInt) E dX10_crush_4 (by decide) rfl (fun h_5 => ?_) (fun h_5 => ?_)
  ·
    refine s_aload_n E dX10_crush_10 rfl rfl ?_
    refine s_vI (As := []) (S := []) E (Z_X10_crushOf_95 l D aC b u_1  hj_4.1 ) cv_X10_325 rfl rfl rfl (jv_lt hj_4 (by decide)) (Nat.le_of_ble_eq_true rfl) (Nat.le_of_ble_eq_true rfl) ⟨(Nat.le_of_ble_eq_true rfl), (Nat.le_of_ble_eq_true rfl)⟩ (Nat.le_of_ble_eq_true rfl) dX10_crush_11 (fun z_8 u_6 hp_7 => ?_)
    obtain ⟨hz_8, hp_7⟩ := hp_7
    have hj_9 := jv_trans hj_4 hp_7
    refine s_popI E dX10_crush_14 ?_
    refine s_aload_n E dX10_crush_15 rfl rfl ?_
    refine s_gI E fg_X10_316 rfl rfl (jv_lt hj_9 (by decide)) dX10_crush_16 ?_
    refine z_nm (P := fun z => z.toInt = (u_6.2.2.1 95 25).toInt ∧ (-2147483648) ≤ z.toInt ∧ z.toInt ≤ 2147483647) ⟨rfl, z32 _⟩ (fun z_10 hz_10 => ?_)
    exact r_int E dX10_crush_19 ⟨⟨by have hb_ := z32 z_10; omega, by have hb_ := z32 z_10; omega⟩, hj_9⟩
  ·
    refine s_bipush (v := (-2)) E dX10_crush_7 (by decide) ?_
    exact r_int E dX10_crush_9 ⟨(by decide), hj_4⟩
set_option maxRecDepth 20000 in
set_option maxHeartbeats 2000000 in
theorem Z_X10_crushed_95 (l : Launch) (D : va_G) (aC : Nat → ClassId) (b : Nat) (w : XW)  (hI : Iv w)  : CnI l D aC b M_X10_crushed 5 112 0 0 [AR 95] w (fun r u => ((-2) ≤ r.toInt ∧ r.toInt ≤ 64) ∧ Jv w u) := by
  refine cn_I (own := RX10) (nm := "crushed") (L0 := [some (AR 95)]) (by decide +kernel) rfl rfl (Nat.le_of_ble_eq_true rfl) rfl ?_
  intro p e s m args below meth c E hin
  have hJ : Jv w w := jv_rfl hI
  refine s_aload_n E dX10_crushed_0 rfl rfl ?_
  refine s_vI (As := []) (S := []) E (Z_X10_asksBall_95 l D aC b w  hJ.1 ) cv_X10_322 rfl rfl rfl (jv_lt hJ (by decide)) (Nat.le_of_ble_eq_true rfl) (Nat.le_of_ble_eq_true rfl) ⟨(Nat.le_of_ble_eq_true rfl), (Nat.le_of_ble_eq_true rfl)⟩ (Nat.le_of_ble_eq_true rfl) dX10_crushed_1 (fun z_3 u_1 hp_2 => ?_)
  obtain ⟨hz_3, hp_2⟩ := hp_2
  have hj_4 := jv_trans hJ hp_2
  refine z_if_eq (tgt := 14) (u := z_3.toInt) E dX10_crushed_4 (by decide) rfl (fun h_5 => ?_) (fun h_5 => ?_)
  ·
    refine s_bipush (v := (-2)) E dX10_crushed_14 (by decide) ?_
    exact r_int E dX10_crushed_16 ⟨(by decide), hj_4⟩
  ·
    refine s_aload_n E dX10_crushed_7 rfl rfl ?_
    refine s_vI (As := []) (S := []) E (Z_X10_crushOf_95 l D aC b u_1  hj_4.1 ) cv_X10_325 rfl rfl rfl (jv_lt hj_4 (by decide)) (Nat.le_of_ble_eq_true rfl) (Nat.le_of_ble_eq_true rfl) ⟨(Nat.le_of_ble_eq_true rfl), (Nat.le_of_ble_eq_true rfl)⟩ (Nat.le_of_ble_eq_true rfl) dX10_crushed_8 (fun z_8 u_6 hp_7 => ?_)
    obtain ⟨hz_8, hp_7⟩ := hp_7
    have hj_9 := jv_trans hj_4 hp_7
    refine s_goto (tgt := 16) E dX10_crushed_11 (by decide) ?_
    exact r_int E dX10_crushed_16 ⟨⟨by have hb_ := z32 z_8; omega, by have hb_ := z32 z_8; omega⟩, hj_9⟩
set_option maxRecDepth 20000 in
set_option maxHeartbeats 2000000 in
theorem Z_X10_likes_95 (l : Launch) (D : va_G) (aC : Nat → ClassId) (b : Nat) (w : XW) (x1 : Int32) (hI : Iv w)  : CnI l D aC b M_X10_likes 5 113 0 0 [AR 95, AI x1] w (fun r u => ((-2) ≤ r.toInt ∧ r.toInt ≤ 64 ∧ (¬ r.toInt = 0 ∨ (0 ≤ x1.toInt ∧ x1.toInt ≤ 5))) ∧ Jv w u) := by
  refine cn_I (own := RX10) (nm := "likes") (L0 := [some (AR 95), some (AI x1), none, none, none, none, none]) (by decide +kernel) rfl rfl (Nat.le_of_ble_eq_true rfl) rfl ?_
  intro p e s m args below meth c E hin
  have hJ : Jv w w := jv_rfl hI
  have hb_x1 := z32 x1
  refine s_aload_n E dX10_likes_0 rfl rfl ?_
  refine s_iload_n E dX10_likes_1 rfl rfl ?_
  refine s_vI (As := [AI x1]) (S := []) E (Z_X10_asksLady_95 l D aC b w x1 hJ.1 ) cv_X10_288 rfl rfl rfl (jv_lt hJ (by decide)) (Nat.le_of_ble_eq_true rfl) (Nat.le_of_ble_eq_true rfl) ⟨(Nat.le_of_ble_eq_true rfl), (Nat.le_of_ble_eq_true rfl)⟩ (Nat.le_of_ble_eq_true rfl) dX10_likes_2 (fun z_3 u_1 hp_2 => ?_)
  obtain ⟨hz_3, hp_2⟩ := hp_2
  have hj_4 := jv_trans hJ hp_2
  refine z_if_ne (tgt := 11) (u := z_3.toInt) E dX10_likes_5 (by decide) rfl (fun h_5 => ?_) (fun h_5 => ?_)
  ·
    refine s_iconst (v := 0) E dX10_likes_11 (by decide) ?_
    refine s_istore_n (L2 := [some (AR 95), some (AI x1), some (AI 0), none, none, none, none]) E dX10_likes_12 rfl (by decide) rfl ?_
    refine s_iconst (v := 0) E dX10_likes_13 (by decide) ?_
    refine s_istore_n (L2 := [some (AR 95), some (AI x1), some (AI 0), some (AI 0), none, none, none]) E dX10_likes_14 rfl (by decide) rfl ?_
    refine s_iconst (v := 0) E dX10_likes_15 (by decide) ?_
    refine s_istore (L2 := [some (AR 95), some (AI x1), some (AI 0), some (AI 0), some (AI 0), none, none]) E dX10_likes_16 (by decide) rfl ?_
    refine z_loop (St := Int32 × Int32 × Int32) (Pi := fun ⟨q18_2_5, q18_3_5, q18_4_5⟩ v18 => (0 ≤ q18_2_5.toInt ∧ q18_2_5.toInt ≤ 64) ∧ (0 ≤ q18_3_5.toInt ∧ q18_3_5.toInt ≤ 2147483647) ∧ (0 ≤ q18_4_5.toInt ∧ q18_4_5.toInt ≤ 8) ∧ u_1 = v18) (Lf := fun ⟨q18_2_5, q18_3_5, q18_4_5⟩ => [some (AR 95), some (AI x1), some (AI q18_2_5), some (AI q18_3_5), some (AI q18_4_5), none, none]) (fun ⟨q18_2_5, q18_3_5, q18_4_5⟩ _ => (9 - q18_4_5.toInt).toNat) ⟨0, 0, 0⟩ ⟨⟨by decide, by decide⟩, ⟨by decide, by decide⟩, ⟨by decide, by decide⟩, rfl⟩ ?_
    rintro ⟨q18_2_5, q18_3_5, q18_4_5⟩ v18 ⟨hq18_2, hq18_3, hq18_4, hv_⟩ ih18
    subst hv_
    refine s_loc (L2 := [some (AR 95), some (AI x1), some (AI q18_2_5), some (AI q18_3_5), some (AI q18_4_5), none, none]) rfl ?_
    refine s_iload E dX10_likes_18 rfl ?_
    refine s_aload_n E dX10_likes_20 rfl rfl ?_
    refine s_gR (r := 96) E fg_X10_9 rfl rfl (jv_lt hj_4 (by decide)) (jv_r hj_4 (by decide +kernel)) dX10_likes_21 ?_
    refine s_iconst (v := 0) E dX10_likes_24 (by decide) ?_
    refine s_iald E rfl (jv_lt hj_4 (by decide)) (z_in (u := 0) (by decide) (by omega) (by omega)) dX10_likes_25 ?_
    refine z_nm (P := fun z => z.toInt = (u_1.2.2.1 96 0).toInt ∧ 0 ≤ z.toInt ∧ z.toInt ≤ 8) ⟨rfl, (rw_96_0 hj_4)⟩ (fun z_7 hz_7 => ?_)
    refine z_icmp_ge (tgt := 93) (u := q18_4_5.toInt) (v := z_7.toInt) E dX10_likes_26 (by decide) rfl rfl (fun h_8 => ?_) (fun h_8 => ?_)
    ·
      refine s_iload_n E dX10_likes_93 rfl rfl ?_
      exact r_int E dX10_likes_94 ⟨⟨by have hb_ := z32 q18_2_5; omega, by have hb_ := z32 q18_2_5; omega, by first | (right; decide) | (have hb_ := z32 q18_2_5; omega) | (have hb_ := z32 q18_2_5; have hc_ := z32 x1; omega)⟩, hj_4⟩
    ·
      refine s_iconst (v := 0) E dX10_likes_29 (by decide) ?_
      refine s_istore (L2 := [some (AR 95), some (AI x1), some (AI q18_2_5), some (AI q18_3_5), some (AI q18_4_5), some (AI 0), none]) E dX10_likes_30 (by decide) rfl ?_
      refine s_iconst (v := 0) E dX10_likes_32 (by decide) ?_
      refine s_istore (L2 := [some (AR 95), some (AI x1), some (AI q18_2_5), some (AI q18_3_5), some (AI q18_4_5), some (AI 0), some (AI 0)]) E dX10_likes_33 (by decide) rfl ?_
      refine z_loop (St := Int32 × Int32) (Pi := fun ⟨q35_5_8, q35_6_8⟩ v35 => (0 ≤ q35_6_8.toInt ∧ q35_6_8.toInt ≤ 15) ∧ u_1 = v35) (Lf := fun ⟨q35_5_8, q35_6_8⟩ => [some (AR 95), some (AI x1), some (AI q18_2_5), some (AI q18_3_5), some (AI q18_4_5), some (AI q35_5_8), some (AI q35_6_8)]) (fun ⟨q35_5_8, q35_6_8⟩ _ => (16 - q35_6_8.toInt).toNat) ⟨0, 0⟩ ⟨⟨by decide, by decide⟩, rfl⟩ ?_
      rintro ⟨q35_5_8, q35_6_8⟩ v35 ⟨hq35_6, hv_⟩ ih35
      subst hv_
      have hbq35_5 := z32 q35_5_8
      refine s_loc (L2 := [some (AR 95), some (AI x1), some (AI q18_2_5), some (AI q18_3_5), some (AI q18_4_5), some (AI q35_5_8), some (AI q35_6_8)]) rfl ?_
      refine s_iload E dX10_likes_35 rfl ?_
      refine s_aload_n E dX10_likes_37 rfl rfl ?_
      refine s_vI (As := []) (S := [AI q35_6_8]) E (Z_X10_dances_95 l D aC b u_1  hj_4.1 ) cv_X10_247 rfl rfl rfl (jv_lt hj_4 (by decide)) (Nat.le_of_ble_eq_true rfl) (Nat.le_of_ble_eq_true rfl) ⟨(Nat.le_of_ble_eq_true rfl), (Nat.le_of_ble_eq_true rfl)⟩ (Nat.le_of_ble_eq_true rfl) dX10_likes_38 (fun z_12 u_10 hp_11 => ?_)
      obtain ⟨hz_12, hxz_12, hp_11⟩ := hp_11
      subst hp_11
      refine z_icmp_gt (tgt := 72) (u := q35_6_8.toInt) (v := z_12.toInt) E dX10_likes_41 (by decide) rfl rfl (fun h_14 => ?_) (fun h_14 => ?_)
      ·
        refine s_iload E dX10_likes_72 rfl ?_
        refine s_iload_n E dX10_likes_74 rfl rfl ?_
        refine z_icmp_gt (tgt := 81) (u := q35_5_8.toInt) (v := q18_3_5.toInt) E dX10_likes_75 (by decide) rfl rfl (fun h_15 => ?_) (fun h_15 => ?_)
        ·
          refine s_iload E dX10_likes_81 rfl ?_
          refine s_istore_n (L2 := [some (AR 95), some (AI x1), some (AI q18_2_5), some (AI q35_5_8), some (AI q18_4_5), some (AI q35_5_8), some (AI q35_6_8)]) E dX10_likes_83 rfl (by decide) rfl ?_
          refine s_iload E dX10_likes_84 rfl ?_
          refine s_istore_n (L2 := [some (AR 95), some (AI x1), some (AI q18_4_5), some (AI q35_5_8), some (AI q18_4_5), some (AI q35_5_8), some (AI q35_6_8)]) E dX10_likes_86 rfl (by decide) rfl ?_
          refine z_iinc (u := q18_4_5.toInt) (L2 := fun z_16 => [some (AR 95), some (AI x1), some (AI q18_4_5), some (AI q35_5_8), some (AI z_16), some (AI q35_5_8), some (AI q35_6_8)]) E dX10_likes_87 rfl rfl (by decide) (fun _ => rfl) (by decide) (by omega) (by omega) (fun z_16 hz_16 => ?_)
          refine s_goto (tgt := 18) E dX10_likes_90 (by decide) ?_
          refine s_drop (i := 5) (L2 := [some (AR 95), some (AI x1), some (AI q18_4_5), some (AI q35_5_8), some (AI z_16), none, some (AI q35_6_8)]) rfl ?_
          refine s_drop (i := 6) (L2 := [some (AR 95), some (AI x1), some (AI q18_4_5), some (AI q35_5_8), some (AI z_16), none, none]) rfl ?_
          exact ih18 ⟨q18_4_5, q35_5_8, z_16⟩ u_1 ⟨⟨by have hb_ := z32 q18_4_5; omega, by have hb_ := z32 q18_4_5; omega⟩, ⟨by have hb_ := z32 q35_5_8; omega, by have hb_ := z32 q35_5_8; omega⟩, ⟨by have hb_ := z32 z_16; omega, by have hb_ := z32 z_16; omega⟩, rfl⟩ (by first | omega | decide | (dsimp only; omega) | (dsimp only; decide))
        ·
          refine s_goto (tgt := 87) E dX10_likes_78 (by decide) ?_
          refine z_iinc (u := q18_4_5.toInt) (L2 := fun z_17 => [some (AR 95), some (AI x1), some (AI q18_2_5), some (AI q18_3_5), some (AI z_17), some (AI q35_5_8), some (AI q35_6_8)]) E dX10_likes_87 rfl rfl (by decide) (fun _ => rfl) (by decide) (by omega) (by omega) (fun z_17 hz_17 => ?_)
          refine s_goto (tgt := 18) E dX10_likes_90 (by decide) ?_
          refine s_drop (i := 5) (L2 := [some (AR 95), some (AI x1), some (AI q18_2_5), some (AI q18_3_5), some (AI z_17), none, some (AI q35_6_8)]) rfl ?_
          refine s_drop (i := 6) (L2 := [some (AR 95), some (AI x1), some (AI q18_2_5), some (AI q18_3_5), some (AI z_17), none, none]) rfl ?_
          exact ih18 ⟨q18_2_5, q18_3_5, z_17⟩ u_1 ⟨⟨by have hb_ := z32 q18_2_5; omega, by have hb_ := z32 q18_2_5; omega⟩, ⟨by have hb_ := z32 q18_3_5; omega, by have hb_ := z32 q18_3_5; omega⟩, ⟨by have hb_ := z32 z_17; omega, by have hb_ := z32 z_17; omega⟩, rfl⟩ (by first | omega | decide | (dsimp only; omega) | (dsimp only; decide))
      ·
        refine s_iload E dX10_likes_44 rfl ?_
        refine s_aload_n E dX10_likes_46 rfl rfl ?_
        refine s_iload_n E dX10_likes_47 rfl rfl ?_
        refine s_iload E dX10_likes_48 rfl ?_
        refine s_vI (As := [AI x1, AI q35_6_8]) (S := [AI q35_5_8]) E (Z_X10_atOf_95 l D aC b u_1 x1 q35_6_8 hj_4.1 ⟨by have hb_ := z32 x1; omega, by have hb_ := z32 x1; omega⟩ ⟨by have hb_ := z32 q35_6_8; omega, by have hb_ := z32 q35_6_8; omega⟩) cv_X10_255 rfl rfl rfl (jv_lt hj_4 (by decide)) (Nat.le_of_ble_eq_true rfl) (Nat.le_of_ble_eq_true rfl) ⟨(Nat.le_of_ble_eq_true rfl), (Nat.le_of_ble_eq_true rfl)⟩ (Nat.le_of_ble_eq_true rfl) dX10_likes_50 (fun z_20 u_18 hp_19 => ?_)
        obtain ⟨hz_20, hp_19⟩ := hp_19
        subst hp_19
        refine s_iload E dX10_likes_53 rfl ?_
        refine z_icmp_ne (tgt := 62) (u := z_20.toInt) (v := q18_4_5.toInt) E dX10_likes_55 (by decide) rfl rfl (fun h_22 => ?_) (fun h_22 => ?_)
        ·
          refine s_iconst (v := 0) E dX10_likes_62 (by decide) ?_
          refine z_iadd (u := q35_5_8.toInt) (v := 0) E dX10_likes_63 rfl (by decide) (by omega) (by omega) (fun z_23 hz_23 => ?_)
          refine s_istore (L2 := [some (AR 95), some (AI x1), some (AI q18_2_5), some (AI q18_3_5), some (AI q18_4_5), some (AI z_23), some (AI q35_6_8)]) E dX10_likes_64 (by decide) rfl ?_
          refine z_iinc (u := q35_6_8.toInt) (L2 := fun z_24 => [some (AR 95), some (AI x1), some (AI q18_2_5), some (AI q18_3_5), some (AI q18_4_5), some (AI z_23), some (AI z_24)]) E dX10_likes_66 rfl rfl (by decide) (fun _ => rfl) (by decide) (by omega) (by omega) (fun z_24 hz_24 => ?_)
          refine s_goto (tgt := 35) E dX10_likes_69 (by decide) ?_
          exact ih35 ⟨z_23, z_24⟩ u_1 ⟨⟨by have hb_ := z32 z_24; omega, by have hb_ := z32 z_24; omega⟩, rfl⟩ (by first | omega | decide | (dsimp only; omega) | (dsimp only; decide))
        ·
          refine s_iconst (v := 1) E dX10_likes_58 (by decide) ?_
          refine s_goto (tgt := 63) E dX10_likes_59 (by decide) ?_
          refine s_iadd E dX10_likes_63 ?_
          refine z_nm (P := fun z => (-2147483648) ≤ z.toInt ∧ z.toInt ≤ 2147483647) (z32 _) (fun z_25 hz_25 => ?_)
          refine s_istore (L2 := [some (AR 95), some (AI x1), some (AI q18_2_5), some (AI q18_3_5), some (AI q18_4_5), some (AI z_25), some (AI q35_6_8)]) E dX10_likes_64 (by decide) rfl ?_
          refine z_iinc (u := q35_6_8.toInt) (L2 := fun z_26 => [some (AR 95), some (AI x1), some (AI q18_2_5), some (AI q18_3_5), some (AI q18_4_5), some (AI z_25), some (AI z_26)]) E dX10_likes_66 rfl rfl (by decide) (fun _ => rfl) (by decide) (by omega) (by omega) (fun z_26 hz_26 => ?_)
          refine s_goto (tgt := 35) E dX10_likes_69 (by decide) ?_
          exact ih35 ⟨z_25, z_26⟩ u_1 ⟨⟨by have hb_ := z32 z_26; omega, by have hb_ := z32 z_26; omega⟩, rfl⟩ (by first | omega | decide | (dsimp only; omega) | (dsimp only; decide))
  ·
    refine s_bipush (v := (-2)) E dX10_likes_8 (by decide) ?_
    exact r_int E dX10_likes_10 ⟨⟨by decide, by decide, by first | (left; decide) | (right; decide) | (right; have hb_ := z32 x1; omega)⟩, hj_4⟩
set_option maxRecDepth 20000 in
set_option maxHeartbeats 2000000 in
theorem Z_X10_apart_95 (l : Launch) (D : va_G) (aC : Nat → ClassId) (b : Nat) (w : XW) (x1 : Int32) (x2 : Int32) (x3 : Int32) (hI : Iv w)  : CnI l D aC b M_X10_apart 5 113 0 0 [AR 95, AI x1, AI x2, AI x3] w (fun r u => ((-2) ≤ r.toInt ∧ r.toInt ≤ 999999999 ∧ (¬ r.toInt = 0 ∨ (0 ≤ x1.toInt ∧ x1.toInt ≤ 5)) ∧ (¬ r.toInt = 0 ∨ (0 ≤ x2.toInt ∧ x2.toInt ≤ 5)) ∧ (¬ r.toInt = 0 ∨ (0 ≤ x3.toInt ∧ x3.toInt ≤ 14))) ∧ Jv w u) := by
  refine cn_I (own := RX10) (nm := "apart") (L0 := [some (AR 95), some (AI x1), some (AI x2), some (AI x3), none]) (by decide +kernel) rfl rfl (Nat.le_of_ble_eq_true rfl) rfl ?_
  intro p e s m args below meth c E hin
  have hJ : Jv w w := jv_rfl hI
  have hb_x1 := z32 x1
  have hb_x2 := z32 x2
  have hb_x3 := z32 x3
  refine s_aload_n E dX10_apart_0 rfl rfl ?_
  refine s_iload_n E dX10_apart_1 rfl rfl ?_
  refine s_vI (As := [AI x3]) (S := []) E (Z_X10_asksDance_95 l D aC b w x3 hJ.1 ) cv_X10_294 rfl rfl rfl (jv_lt hJ (by decide)) (Nat.le_of_ble_eq_true rfl) (Nat.le_of_ble_eq_true rfl) ⟨(Nat.le_of_ble_eq_true rfl), (Nat.le_of_ble_eq_true rfl)⟩ (Nat.le_of_ble_eq_true rfl) dX10_apart_2 (fun z_3 u_1 hp_2 => ?_)
  obtain ⟨hz_3, hp_2⟩ := hp_2
  have hj_4 := jv_trans hJ hp_2
  refine z_if_eq (tgt := 26) (u := z_3.toInt) E dX10_apart_5 (by decide) rfl (fun h_5 => ?_) (fun h_5 => ?_)
  ·
    refine s_bipush (v := (-2)) E dX10_apart_26 (by decide) ?_
    exact r_int E dX10_apart_28 ⟨⟨by decide, by decide, by first | (left; decide) | (right; decide) | (right; have hb_ := z32 x1; omega), by first | (left; decide) | (right; decide) | (right; have hb_ := z32 x2; omega), by first | (left; decide) | (right; decide) | (right; have hb_ := z32 x3; omega)⟩, hj_4⟩
  ·
    refine s_aload_n E dX10_apart_8 rfl rfl ?_
    refine s_iload_n E dX10_apart_9 rfl rfl ?_
    refine z_i2l (u := x1.toInt) E dX10_apart_10 rfl (fun z_6 hz_6 => ?_)
    refine s_vI (As := [AL z_6]) (S := []) E (Z_X10_isLady_95 l D aC b u_1 z_6 hj_4.1 ) cv_X10_222 rfl rfl rfl (jv_lt hj_4 (by decide)) (Nat.le_of_ble_eq_true rfl) (Nat.le_of_ble_eq_true rfl) ⟨(Nat.le_of_ble_eq_true rfl), (Nat.le_of_ble_eq_true rfl)⟩ (Nat.le_of_ble_eq_true rfl) dX10_apart_11 (fun z_9 u_7 hp_8 => ?_)
    obtain ⟨hz_9, hp_8⟩ := hp_8
    subst hp_8
    refine z_if_eq (tgt := 26) (u := z_9.toInt) E dX10_apart_14 (by decide) rfl (fun h_11 => ?_) (fun h_11 => ?_)
    ·
      refine s_bipush (v := (-2)) E dX10_apart_26 (by decide) ?_
      exact r_int E dX10_apart_28 ⟨⟨by decide, by decide, by first | (left; decide) | (right; decide) | (right; have hb_ := z32 x1; omega), by first | (left; decide) | (right; decide) | (right; have hb_ := z32 x2; omega), by first | (left; decide) | (right; decide) | (right; have hb_ := z32 x3; omega)⟩, hj_4⟩
    ·
      refine s_aload_n E dX10_apart_17 rfl rfl ?_
      refine s_iload_n E dX10_apart_18 rfl rfl ?_
      refine z_i2l (u := x2.toInt) E dX10_apart_19 rfl (fun z_12 hz_12 => ?_)
      refine s_vI (As := [AL z_12]) (S := []) E (Z_X10_isLady_95 l D aC b u_1 z_12 hj_4.1 ) cv_X10_222 rfl rfl rfl (jv_lt hj_4 (by decide)) (Nat.le_of_ble_eq_true rfl) (Nat.le_of_ble_eq_true rfl) ⟨(Nat.le_of_ble_eq_true rfl), (Nat.le_of_ble_eq_true rfl)⟩ (Nat.le_of_ble_eq_true rfl) dX10_apart_20 (fun z_15 u_13 hp_14 => ?_)
      obtain ⟨hz_15, hp_14⟩ := hp_14
      subst hp_14
      refine z_if_ne (tgt := 29) (u := z_15.toInt) E dX10_apart_23 (by decide) rfl (fun h_17 => ?_) (fun h_17 => ?_)
      ·
        refine s_aload_n E dX10_apart_29 rfl rfl ?_
        refine s_aload_n E dX10_apart_30 rfl rfl ?_
        refine s_iload_n E dX10_apart_31 rfl rfl ?_
        refine s_vI (As := [AI x1]) (S := [AR 95]) E (Z_X10_wideOf_95 l D aC b u_1 x1 hj_4.1 ⟨by have hb_ := z32 x1; omega, by have hb_ := z32 x1; omega⟩) cv_X10_238 rfl rfl rfl (jv_lt hj_4 (by decide)) (Nat.le_of_ble_eq_true rfl) (Nat.le_of_ble_eq_true rfl) ⟨(Nat.le_of_ble_eq_true rfl), (Nat.le_of_ble_eq_true rfl)⟩ (Nat.le_of_ble_eq_true rfl) dX10_apart_32 (fun z_20 u_18 hp_19 => ?_)
        obtain ⟨hz_20, hxz_20, hp_19⟩ := hp_19
        subst hp_19
        refine s_aload_n E dX10_apart_35 rfl rfl ?_
        refine s_iload_n E dX10_apart_36 rfl rfl ?_
        refine s_iload_n E dX10_apart_37 rfl rfl ?_
        refine s_vI (As := [AI x1, AI x3]) (S := [AI z_20, AR 95]) E (Z_X10_atOf_95 l D aC b u_1 x1 x3 hj_4.1 ⟨by have hb_ := z32 x1; omega, by have hb_ := z32 x1; omega⟩ ⟨by have hb_ := z32 x3; omega, by have hb_ := z32 x3; omega⟩) cv_X10_255 rfl rfl rfl (jv_lt hj_4 (by decide)) (Nat.le_of_ble_eq_true rfl) (Nat.le_of_ble_eq_true rfl) ⟨(Nat.le_of_ble_eq_true rfl), (Nat.le_of_ble_eq_true rfl)⟩ (Nat.le_of_ble_eq_true rfl) dX10_apart_38 (fun z_24 u_22 hp_23 => ?_)
        obtain ⟨hz_24, hp_23⟩ := hp_23
        subst hp_23
        refine s_aload_n E dX10_apart_41 rfl rfl ?_
        refine s_iload_n E dX10_apart_42 rfl rfl ?_
        refine s_iload_n E dX10_apart_43 rfl rfl ?_
        refine s_vI (As := [AI x2, AI x3]) (S := [AI z_24, AI z_20, AR 95]) E (Z_X10_atOf_95 l D aC b u_1 x2 x3 hj_4.1 ⟨by have hb_ := z32 x2; omega, by have hb_ := z32 x2; omega⟩ ⟨by have hb_ := z32 x3; omega, by have hb_ := z32 x3; omega⟩) cv_X10_255 rfl rfl rfl (jv_lt hj_4 (by decide)) (Nat.le_of_ble_eq_true rfl) (Nat.le_of_ble_eq_true rfl) ⟨(Nat.le_of_ble_eq_true rfl), (Nat.le_of_ble_eq_true rfl)⟩ (Nat.le_of_ble_eq_true rfl) dX10_apart_44 (fun z_28 u_26 hp_27 => ?_)
        obtain ⟨hz_28, hp_27⟩ := hp_27
        subst hp_27
        refine s_vI (As := [AI z_20, AI z_24, AI z_28]) (S := []) E (Z_X10_wayOf_95 l D aC b u_1 z_20 z_24 z_28 hj_4.1 ⟨by have hb_ := z32 z_20; omega, by have hb_ := z32 z_20; omega⟩ ⟨by have hb_ := z32 z_24; omega, by have hb_ := z32 z_24; omega⟩ ⟨by have hb_ := z32 z_28; omega, by have hb_ := z32 z_28; omega⟩) cv_X10_233 rfl rfl rfl (jv_lt hj_4 (by decide)) (Nat.le_of_ble_eq_true rfl) (Nat.le_of_ble_eq_true rfl) ⟨(Nat.le_of_ble_eq_true rfl), (Nat.le_of_ble_eq_true rfl)⟩ (Nat.le_of_ble_eq_true rfl) dX10_apart_47 (fun z_32 u_30 hp_31 => ?_)
        obtain ⟨hz_32, hxz_32, hp_31⟩ := hp_31
        subst hp_31
        refine s_istore (L2 := [some (AR 95), some (AI x1), some (AI x2), some (AI x3), some (AI z_32)]) E dX10_apart_50 (by decide) rfl ?_
        refine s_iload E dX10_apart_52 rfl ?_
        refine s_ldc E k_1513 rfl dX10_apart_54 ?_
        refine z_icmp_lt (tgt := 63) (u := z_32.toInt) (v := 1000000000) E dX10_apart_56 (by decide) rfl (by decide) (fun h_34 => ?_) (fun h_34 => ?_)
        ·
          refine s_iload E dX10_apart_63 rfl ?_
          exact r_int E dX10_apart_65 ⟨⟨by have hb_ := z32 z_32; omega, by have hb_ := z32 z_32; omega, by first | (right; decide) | (have hb_ := z32 z_32; omega) | (have hb_ := z32 z_32; have hc_ := z32 x1; omega), by first | (right; decide) | (have hb_ := z32 z_32; omega) | (have hb_ := z32 z_32; have hc_ := z32 x2; omega), by first | (right; decide) | (have hb_ := z32 z_32; omega) | (have hb_ := z32 z_32; have hc_ := z32 x3; omega)⟩, hj_4⟩
        ·
          refine s_iconst (v := (-1)) E dX10_apart_59 (by decide) ?_
          refine s_goto (tgt := 65) E dX10_apart_60 (by decide) ?_
          exact r_int E dX10_apart_65 ⟨⟨by decide, by decide, by first | (left; decide) | (right; decide) | (right; have hb_ := z32 x1; omega), by first | (left; decide) | (right; decide) | (right; have hb_ := z32 x2; omega), by first | (left; decide) | (right; decide) | (right; have hb_ := z32 x3; omega)⟩, hj_4⟩
      ·
        refine s_bipush (v := (-2)) E dX10_apart_26 (by decide) ?_
        exact r_int E dX10_apart_28 ⟨⟨by decide, by decide, by first | (left; decide) | (right; decide) | (right; have hb_ := z32 x1; omega), by first | (left; decide) | (right; decide) | (right; have hb_ := z32 x2; omega), by first | (left; decide) | (right; decide) | (right; have hb_ := z32 x3; omega)⟩, hj_4⟩
set_option maxRecDepth 20000 in
set_option maxHeartbeats 2000000 in
theorem Z_X10_alone_95 (l : Launch) (D : va_G) (aC : Nat → ClassId) (b : Nat) (w : XW) (x1 : Int32) (hI : Iv w)  : CnI l D aC b M_X10_alone 5 113 0 0 [AR 95, AI x1] w (fun r u => ((-2147483648) ≤ r.toInt ∧ r.toInt ≤ 2147483647 ∧ (¬ r.toInt = 0 ∨ (0 ≤ x1.toInt ∧ x1.toInt ≤ 14))) ∧ Jv w u) := by
  refine cn_I (own := RX10) (nm := "alone") (L0 := [some (AR 95), some (AI x1), none, none]) (by decide +kernel) rfl rfl (Nat.le_of_ble_eq_true rfl) rfl ?_
  intro p e s m args below meth c E hin
  have hJ : Jv w w := jv_rfl hI
  have hb_x1 := z32 x1
  refine s_aload_n E dX10_alone_0 rfl rfl ?_
  refine s_iload_n E dX10_alone_1 rfl rfl ?_
  refine s_vI (As := [AI x1]) (S := []) E (Z_X10_asksDance_95 l D aC b w x1 hJ.1 ) cv_X10_294 rfl rfl rfl (jv_lt hJ (by decide)) (Nat.le_of_ble_eq_true rfl) (Nat.le_of_ble_eq_true rfl) ⟨(Nat.le_of_ble_eq_true rfl), (Nat.le_of_ble_eq_true rfl)⟩ (Nat.le_of_ble_eq_true rfl) dX10_alone_2 (fun z_3 u_1 hp_2 => ?_)
  obtain ⟨hz_3, hp_2⟩ := hp_2
  have hj_4 := jv_trans hJ hp_2
  refine z_if_ne (tgt := 11) (u := z_3.toInt) E dX10_alone_5 (by decide) rfl (fun h_5 => ?_) (fun h_5 => ?_)
  ·
    refine s_iconst (v := 0) E dX10_alone_11 (by decide) ?_
    refine s_istore_n (L2 := [some (AR 95), some (AI x1), some (AI 0), none]) E dX10_alone_12 rfl (by decide) rfl ?_
    refine s_iconst (v := 0) E dX10_alone_13 (by decide) ?_
    refine s_istore_n (L2 := [some (AR 95), some (AI x1), some (AI 0), some (AI 0)]) E dX10_alone_14 rfl (by decide) rfl ?_
    refine z_loop (St := Int32 × Int32) (Pi := fun ⟨q15_2_5, q15_3_5⟩ v15 => (0 ≤ q15_3_5.toInt ∧ q15_3_5.toInt ≤ 6) ∧ u_1 = v15) (Lf := fun ⟨q15_2_5, q15_3_5⟩ => [some (AR 95), some (AI x1), some (AI q15_2_5), some (AI q15_3_5)]) (fun ⟨q15_2_5, q15_3_5⟩ _ => (7 - q15_3_5.toInt).toNat) ⟨0, 0⟩ ⟨⟨by decide, by decide⟩, rfl⟩ ?_
    rintro ⟨q15_2_5, q15_3_5⟩ v15 ⟨hq15_3, hv_⟩ ih15
    subst hv_
    have hbq15_2 := z32 q15_2_5
    refine s_loc (L2 := [some (AR 95), some (AI x1), some (AI q15_2_5), some (AI q15_3_5)]) rfl ?_
    refine s_iload_n E dX10_alone_15 rfl rfl ?_
    refine s_aload_n E dX10_alone_16 rfl rfl ?_
    refine s_vI (As := []) (S := [AI q15_3_5]) E (Z_X10_ladies_95 l D aC b u_1  hj_4.1 ) cv_X10_244 rfl rfl rfl (jv_lt hj_4 (by decide)) (Nat.le_of_ble_eq_true rfl) (Nat.le_of_ble_eq_true rfl) ⟨(Nat.le_of_ble_eq_true rfl), (Nat.le_of_ble_eq_true rfl)⟩ (Nat.le_of_ble_eq_true rfl) dX10_alone_17 (fun z_9 u_7 hp_8 => ?_)
    obtain ⟨hz_9, hxz_9, hp_8⟩ := hp_8
    subst hp_8
    refine z_icmp_ge (tgt := 57) (u := q15_3_5.toInt) (v := z_9.toInt) E dX10_alone_20 (by decide) rfl rfl (fun h_11 => ?_) (fun h_11 => ?_)
    ·
      refine s_iload_n E dX10_alone_57 rfl rfl ?_
      exact r_int E dX10_alone_58 ⟨⟨by have hb_ := z32 q15_2_5; omega, by have hb_ := z32 q15_2_5; omega, by first | (right; decide) | (have hb_ := z32 q15_2_5; omega) | (have hb_ := z32 q15_2_5; have hc_ := z32 x1; omega)⟩, hj_4⟩
    ·
      refine s_iload_n E dX10_alone_23 rfl rfl ?_
      refine s_aload_n E dX10_alone_24 rfl rfl ?_
      refine s_aload_n E dX10_alone_25 rfl rfl ?_
      refine s_iload_n E dX10_alone_26 rfl rfl ?_
      refine s_iload_n E dX10_alone_27 rfl rfl ?_
      refine s_vI (As := [AI q15_3_5, AI x1]) (S := [AR 95, AI q15_2_5]) E (Z_X10_atOf_95 l D aC b u_1 q15_3_5 x1 hj_4.1 ⟨by have hb_ := z32 q15_3_5; omega, by have hb_ := z32 q15_3_5; omega⟩ ⟨by have hb_ := z32 x1; omega, by have hb_ := z32 x1; omega⟩) cv_X10_255 rfl rfl rfl (jv_lt hj_4 (by decide)) (Nat.le_of_ble_eq_true rfl) (Nat.le_of_ble_eq_true rfl) ⟨(Nat.le_of_ble_eq_true rfl), (Nat.le_of_ble_eq_true rfl)⟩ (Nat.le_of_ble_eq_true rfl) dX10_alone_28 (fun z_14 u_12 hp_13 => ?_)
      obtain ⟨hz_14, hp_13⟩ := hp_13
      subst hp_13
      refine s_iload_n E dX10_alone_31 rfl rfl ?_
      refine s_vI (As := [AI z_14, AI x1]) (S := [AI q15_2_5]) E (Z_X10_withinOf_95 l D aC b u_1 z_14 x1 hj_4.1 ⟨by have hb_ := z32 x1; omega, by have hb_ := z32 x1; omega⟩) cv_X10_297 rfl rfl rfl (jv_lt hj_4 (by decide)) (Nat.le_of_ble_eq_true rfl) (Nat.le_of_ble_eq_true rfl) ⟨(Nat.le_of_ble_eq_true rfl), (Nat.le_of_ble_eq_true rfl)⟩ (Nat.le_of_ble_eq_true rfl) dX10_alone_32 (fun z_18 u_16 hp_17 => ?_)
      obtain ⟨hz_18, hp_17⟩ := hp_17
      subst hp_17
      refine s_sI (As := [AI z_18]) (S := [AI q15_2_5]) E (Z_X10_bits l D aC b u_1 z_18 hj_4.1 ) cs_X10_319 rfl rfl (Nat.le_of_ble_eq_true rfl) (Nat.le_of_ble_eq_true rfl) ⟨(Nat.le_of_ble_eq_true rfl), (Nat.le_of_ble_eq_true rfl)⟩ (Nat.le_of_ble_eq_true rfl) dX10_alone_35 (fun z_22 u_20 hp_21 => ?_)
      obtain ⟨hz_22, hp_21⟩ := hp_21
      subst hp_21
      refine s_iconst (v := 1) E dX10_alone_38 (by decide) ?_
      refine z_icmp_ne (tgt := 48) (u := z_22.toInt) (v := 1) E dX10_alone_39 (by decide) rfl (by decide) (fun h_24 => ?_) (fun h_24 => ?_)
      ·
        refine s_iconst (v := 0) E dX10_alone_48 (by decide) ?_
        refine s_ior E dX10_alone_49 ?_
        refine z_nm (P := fun z => (-2147483648) ≤ z.toInt ∧ z.toInt ≤ 2147483647) (z32 _) (fun z_25 hz_25 => ?_)
        refine s_istore_n (L2 := [some (AR 95), some (AI x1), some (AI z_25), some (AI q15_3_5)]) E dX10_alone_50 rfl (by decide) rfl ?_
        refine z_iinc (u := q15_3_5.toInt) (L2 := fun z_26 => [some (AR 95), some (AI x1), some (AI z_25), some (AI z_26)]) E dX10_alone_51 rfl rfl (by decide) (fun _ => rfl) (by decide) (by omega) (by omega) (fun z_26 hz_26 => ?_)
        refine s_goto (tgt := 15) E dX10_alone_54 (by decide) ?_
        exact ih15 ⟨z_25, z_26⟩ u_1 ⟨⟨by have hb_ := z32 z_26; omega, by have hb_ := z32 z_26; omega⟩, rfl⟩ (by first | omega | decide | (dsimp only; omega) | (dsimp only; decide))
      ·
        refine s_iconst (v := 1) E dX10_alone_42 (by decide) ?_
        refine s_iload_n E dX10_alone_43 rfl rfl ?_
        refine z_shl1 5 (u := q15_3_5.toInt) (B := 32) E dX10_alone_44 rfl (by omega) (by omega) (by decide) (by decide) (fun z_27 hz_27 => ?_)
        refine s_goto (tgt := 49) E dX10_alone_45 (by decide) ?_
        refine s_ior E dX10_alone_49 ?_
        refine z_nm (P := fun z => (-2147483648) ≤ z.toInt ∧ z.toInt ≤ 2147483647) (z32 _) (fun z_28 hz_28 => ?_)
        refine s_istore_n (L2 := [some (AR 95), some (AI x1), some (AI z_28), some (AI q15_3_5)]) E dX10_alone_50 rfl (by decide) rfl ?_
        refine z_iinc (u := q15_3_5.toInt) (L2 := fun z_29 => [some (AR 95), some (AI x1), some (AI z_28), some (AI z_29)]) E dX10_alone_51 rfl rfl (by decide) (fun _ => rfl) (by decide) (by omega) (by omega) (fun z_29 hz_29 => ?_)
        refine s_goto (tgt := 15) E dX10_alone_54 (by decide) ?_
        exact ih15 ⟨z_28, z_29⟩ u_1 ⟨⟨by have hb_ := z32 z_29; omega, by have hb_ := z32 z_29; omega⟩, rfl⟩ (by first | omega | decide | (dsimp only; omega) | (dsimp only; decide))
  ·
    refine s_bipush (v := (-2)) E dX10_alone_8 (by decide) ?_
    exact r_int E dX10_alone_10 ⟨⟨by decide, by decide, by first | (left; decide) | (right; decide) | (right; have hb_ := z32 x1; omega)⟩, hj_4⟩
set_option maxRecDepth 20000 in
set_option maxHeartbeats 2000000 in
theorem Z_X10_empty_95 (l : Launch) (D : va_G) (aC : Nat → ClassId) (b : Nat) (w : XW) (x1 : Int32) (hI : Iv w)  : CnI l D aC b M_X10_empty 5 113 0 0 [AR 95, AI x1] w (fun r u => ((-2147483648) ≤ r.toInt ∧ r.toInt ≤ 2147483647 ∧ (¬ r.toInt = 0 ∨ (0 ≤ x1.toInt ∧ x1.toInt ≤ 14))) ∧ Jv w u) := by
  refine cn_I (own := RX10) (nm := "empty") (L0 := [some (AR 95), some (AI x1), none, none]) (by decide +kernel) rfl rfl (Nat.le_of_ble_eq_true rfl) rfl ?_
  intro p e s m args below meth c E hin
  have hJ : Jv w w := jv_rfl hI
  have hb_x1 := z32 x1
  refine s_aload_n E dX10_empty_0 rfl rfl ?_
  refine s_iload_n E dX10_empty_1 rfl rfl ?_
  refine s_vI (As := [AI x1]) (S := []) E (Z_X10_asksDance_95 l D aC b w x1 hJ.1 ) cv_X10_294 rfl rfl rfl (jv_lt hJ (by decide)) (Nat.le_of_ble_eq_true rfl) (Nat.le_of_ble_eq_true rfl) ⟨(Nat.le_of_ble_eq_true rfl), (Nat.le_of_ble_eq_true rfl)⟩ (Nat.le_of_ble_eq_true rfl) dX10_empty_2 (fun z_3 u_1 hp_2 => ?_)
  obtain ⟨hz_3, hp_2⟩ := hp_2
  have hj_4 := jv_trans hJ hp_2
  refine z_if_ne (tgt := 11) (u := z_3.toInt) E dX10_empty_5 (by decide) rfl (fun h_5 => ?_) (fun h_5 => ?_)
  ·
    refine s_iconst (v := 0) E dX10_empty_11 (by decide) ?_
    refine s_istore_n (L2 := [some (AR 95), some (AI x1), some (AI 0), none]) E dX10_empty_12 rfl (by decide) rfl ?_
    refine s_iconst (v := 0) E dX10_empty_13 (by decide) ?_
    refine s_istore_n (L2 := [some (AR 95), some (AI x1), some (AI 0), some (AI 0)]) E dX10_empty_14 rfl (by decide) rfl ?_
    refine z_loop (St := Int32 × Int32) (Pi := fun ⟨q15_2_5, q15_3_5⟩ v15 => (0 ≤ q15_3_5.toInt ∧ q15_3_5.toInt ≤ 8) ∧ u_1 = v15) (Lf := fun ⟨q15_2_5, q15_3_5⟩ => [some (AR 95), some (AI x1), some (AI q15_2_5), some (AI q15_3_5)]) (fun ⟨q15_2_5, q15_3_5⟩ _ => (9 - q15_3_5.toInt).toNat) ⟨0, 0⟩ ⟨⟨by decide, by decide⟩, rfl⟩ ?_
    rintro ⟨q15_2_5, q15_3_5⟩ v15 ⟨hq15_3, hv_⟩ ih15
    subst hv_
    have hbq15_2 := z32 q15_2_5
    refine s_loc (L2 := [some (AR 95), some (AI x1), some (AI q15_2_5), some (AI q15_3_5)]) rfl ?_
    refine s_iload_n E dX10_empty_15 rfl rfl ?_
    refine s_aload_n E dX10_empty_16 rfl rfl ?_
    refine s_gR (r := 96) E fg_X10_9 rfl rfl (jv_lt hj_4 (by decide)) (jv_r hj_4 (by decide +kernel)) dX10_empty_17 ?_
    refine s_iconst (v := 0) E dX10_empty_20 (by decide) ?_
    refine s_iald E rfl (jv_lt hj_4 (by decide)) (z_in (u := 0) (by decide) (by omega) (by omega)) dX10_empty_21 ?_
    refine z_nm (P := fun z => z.toInt = (u_1.2.2.1 96 0).toInt ∧ 0 ≤ z.toInt ∧ z.toInt ≤ 8) ⟨rfl, (rw_96_0 hj_4)⟩ (fun z_7 hz_7 => ?_)
    refine z_icmp_ge (tgt := 50) (u := q15_3_5.toInt) (v := z_7.toInt) E dX10_empty_22 (by decide) rfl rfl (fun h_8 => ?_) (fun h_8 => ?_)
    ·
      refine s_iload_n E dX10_empty_50 rfl rfl ?_
      exact r_int E dX10_empty_51 ⟨⟨by have hb_ := z32 q15_2_5; omega, by have hb_ := z32 q15_2_5; omega, by first | (right; decide) | (have hb_ := z32 q15_2_5; omega) | (have hb_ := z32 q15_2_5; have hc_ := z32 x1; omega)⟩, hj_4⟩
    ·
      refine s_iload_n E dX10_empty_25 rfl rfl ?_
      refine s_aload_n E dX10_empty_26 rfl rfl ?_
      refine s_iload_n E dX10_empty_27 rfl rfl ?_
      refine s_iload_n E dX10_empty_28 rfl rfl ?_
      refine s_vI (As := [AI q15_3_5, AI x1]) (S := [AI q15_2_5]) E (Z_X10_withinOf_95 l D aC b u_1 q15_3_5 x1 hj_4.1 ⟨by have hb_ := z32 x1; omega, by have hb_ := z32 x1; omega⟩) cv_X10_297 rfl rfl rfl (jv_lt hj_4 (by decide)) (Nat.le_of_ble_eq_true rfl) (Nat.le_of_ble_eq_true rfl) ⟨(Nat.le_of_ble_eq_true rfl), (Nat.le_of_ble_eq_true rfl)⟩ (Nat.le_of_ble_eq_true rfl) dX10_empty_29 (fun z_11 u_9 hp_10 => ?_)
      obtain ⟨hz_11, hp_10⟩ := hp_10
      subst hp_10
      refine z_if_ne (tgt := 41) (u := z_11.toInt) E dX10_empty_32 (by decide) rfl (fun h_13 => ?_) (fun h_13 => ?_)
      ·
        refine s_iconst (v := 0) E dX10_empty_41 (by decide) ?_
        refine s_ior E dX10_empty_42 ?_
        refine z_nm (P := fun z => (-2147483648) ≤ z.toInt ∧ z.toInt ≤ 2147483647) (z32 _) (fun z_14 hz_14 => ?_)
        refine s_istore_n (L2 := [some (AR 95), some (AI x1), some (AI z_14), some (AI q15_3_5)]) E dX10_empty_43 rfl (by decide) rfl ?_
        refine z_iinc (u := q15_3_5.toInt) (L2 := fun z_15 => [some (AR 95), some (AI x1), some (AI z_14), some (AI z_15)]) E dX10_empty_44 rfl rfl (by decide) (fun _ => rfl) (by decide) (by omega) (by omega) (fun z_15 hz_15 => ?_)
        refine s_goto (tgt := 15) E dX10_empty_47 (by decide) ?_
        exact ih15 ⟨z_14, z_15⟩ u_1 ⟨⟨by have hb_ := z32 z_15; omega, by have hb_ := z32 z_15; omega⟩, rfl⟩ (by first | omega | decide | (dsimp only; omega) | (dsimp only; decide))
      ·
        refine s_iconst (v := 1) E dX10_empty_35 (by decide) ?_
        refine s_iload_n E dX10_empty_36 rfl rfl ?_
        refine z_shl1 7 (u := q15_3_5.toInt) (B := 128) E dX10_empty_37 rfl (by omega) (by omega) (by decide) (by decide) (fun z_16 hz_16 => ?_)
        refine s_goto (tgt := 42) E dX10_empty_38 (by decide) ?_
        refine s_ior E dX10_empty_42 ?_
        refine z_nm (P := fun z => (-2147483648) ≤ z.toInt ∧ z.toInt ≤ 2147483647) (z32 _) (fun z_17 hz_17 => ?_)
        refine s_istore_n (L2 := [some (AR 95), some (AI x1), some (AI z_17), some (AI q15_3_5)]) E dX10_empty_43 rfl (by decide) rfl ?_
        refine z_iinc (u := q15_3_5.toInt) (L2 := fun z_18 => [some (AR 95), some (AI x1), some (AI z_17), some (AI z_18)]) E dX10_empty_44 rfl rfl (by decide) (fun _ => rfl) (by decide) (by omega) (by omega) (fun z_18 hz_18 => ?_)
        refine s_goto (tgt := 15) E dX10_empty_47 (by decide) ?_
        exact ih15 ⟨z_17, z_18⟩ u_1 ⟨⟨by have hb_ := z32 z_18; omega, by have hb_ := z32 z_18; omega⟩, rfl⟩ (by first | omega | decide | (dsimp only; omega) | (dsimp only; decide))
  ·
    refine s_bipush (v := (-2)) E dX10_empty_8 (by decide) ?_
    exact r_int E dX10_empty_10 ⟨⟨by decide, by decide, by first | (left; decide) | (right; decide) | (right; have hb_ := z32 x1; omega)⟩, hj_4⟩
