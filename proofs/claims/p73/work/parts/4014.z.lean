set_option maxRecDepth 20000 in
set_option maxHeartbeats 2000000 in
theorem Z_X10_isDance_95 (l : Launch) (D : va_G) (aC : Nat → ClassId) (b : Nat) (w : XW) (x1 : Int64) (hI : Iv w)  : CnI l D aC b M_X10_isDance 1 25 0 0 [AR 95, AL x1] w (fun r u => (0 ≤ r.toInt ∧ r.toInt ≤ 1 ∧ (¬ r.toInt = 0 ∨ (0 ≤ (w.2.2.1 96 9).toInt ∧ (w.2.2.1 96 9).toInt ≤ 2147483647)) ∧ (r.toInt = 0 ∨ (0 ≤ x1.toInt ∧ x1.toInt ≤ 14)) ∧ (r.toInt = 0 ∨ (1 ≤ (w.2.2.1 96 9).toInt ∧ (w.2.2.1 96 9).toInt ≤ 2147483647)) ∧ (r.toInt = 0 ∨ (0 ≤ (w.2.2.1 96 1).toInt ∧ (w.2.2.1 96 1).toInt ≤ 14))) ∧ w = u) := by
  refine cn_I (own := RX10) (nm := "isDance") (L0 := [some (AR 95), some (AL x1), none]) (by decide +kernel) rfl rfl (Nat.le_of_ble_eq_true rfl) rfl ?_
  intro p e s m args below meth c E hin
  have hJ : Jv w w := jv_rfl hI
  refine s_aload_n E dX10_isDance_0 rfl rfl ?_
  refine s_vI (As := []) (S := []) E (Z_X10_isBall_95 l D aC b w  hJ.1 ) cv_X10_86 rfl rfl rfl (jv_lt hJ (by decide)) (Nat.le_of_ble_eq_true rfl) (Nat.le_of_ble_eq_true rfl) ⟨(Nat.le_of_ble_eq_true rfl), (Nat.le_of_ble_eq_true rfl)⟩ (Nat.le_of_ble_eq_true rfl) dX10_isDance_1 (fun z_3 u_1 hp_2 => ?_)
  obtain ⟨hz_3, hp_2⟩ := hp_2
  subst hp_2
  refine z_if_eq (tgt := 26) (u := z_3.toInt) E dX10_isDance_4 (by decide) rfl (fun h_5 => ?_) (fun h_5 => ?_)
  ·
    refine s_iconst (v := 0) E dX10_isDance_26 (by decide) ?_
    exact r_bool E dX10_isDance_27 (Or.inl rfl) ⟨⟨by decide, by decide, by first | (left; decide) | (right; decide) | (right; have hb_ := z32 (w.2.2.1 96 9); omega), by first | (left; decide) | (right; decide) | (right; have hb_ := z64 x1; omega), by first | (left; decide) | (right; decide) | (right; have hb_ := z32 (w.2.2.1 96 9); omega), by first | (left; decide) | (right; decide) | (right; have hb_ := z32 (w.2.2.1 96 1); omega)⟩, rfl⟩
  ·
    refine s_lload_n E dX10_isDance_7 rfl rfl ?_
    refine s_lconst (v := 0) E dX10_isDance_8 (by decide) ?_
    refine s_aload_n E dX10_isDance_9 rfl rfl ?_
    refine s_gR (r := 96) E fg_X10_9 rfl rfl (jv_lt hJ (by decide)) (jv_r hJ (by decide +kernel)) dX10_isDance_10 ?_
    refine s_iconst (v := 1) E dX10_isDance_13 (by decide) ?_
    refine s_iald E rfl (jv_lt hJ (by decide)) (z_in (u := 1) (by decide) (by omega) (by omega)) dX10_isDance_14 ?_
    refine z_nm (P := fun z => z.toInt = (w.2.2.1 96 1).toInt ∧ 0 ≤ z.toInt ∧ z.toInt ≤ 14) ⟨rfl, (rw_96_1 hJ)⟩ (fun z_6 hz_6 => ?_)
    refine z_i2l (u := z_6.toInt) E dX10_isDance_15 rfl (fun z_7 hz_7 => ?_)
    refine s_sI (As := [AL x1, AL 0, AL z_7]) (S := []) E (Z_X10_in l D aC b w x1 0 z_7) cs_X10_82 rfl rfl (Nat.le_of_ble_eq_true rfl) (Nat.le_of_ble_eq_true rfl) ⟨(Nat.le_of_ble_eq_true rfl), (Nat.le_of_ble_eq_true rfl)⟩ (Nat.le_of_ble_eq_true rfl) dX10_isDance_16 (fun z_8 u_9 hp_10 => ?_)
    obtain ⟨hz_8, hp_10⟩ := hp_10
    subst hp_10
    have hcL_ : (0 : Int64).toInt = 0 := (by decide)
    refine z_if_eq (tgt := 26) (u := z_8.toInt) E dX10_isDance_19 (by decide) rfl (fun h_11 => ?_) (fun h_11 => ?_)
    ·
      refine s_iconst (v := 0) E dX10_isDance_26 (by decide) ?_
      exact r_bool E dX10_isDance_27 (Or.inl rfl) ⟨⟨by decide, by decide, by first | (left; decide) | (right; decide) | (right; have hb_ := z32 (w.2.2.1 96 9); omega), by first | (left; decide) | (right; decide) | (right; have hb_ := z64 x1; omega), by first | (left; decide) | (right; decide) | (right; have hb_ := z32 (w.2.2.1 96 9); omega), by first | (left; decide) | (right; decide) | (right; have hb_ := z32 (w.2.2.1 96 1); omega)⟩, rfl⟩
    ·
      refine s_iconst (v := 1) E dX10_isDance_22 (by decide) ?_
      refine s_goto (tgt := 27) E dX10_isDance_23 (by decide) ?_
      exact r_bool E dX10_isDance_27 (Or.inr rfl) ⟨⟨by decide, by decide, by first | (left; decide) | (right; decide) | (right; have hb_ := z32 (w.2.2.1 96 9); omega), by first | (left; decide) | (right; decide) | (right; have hb_ := z64 x1; omega), by first | (left; decide) | (right; decide) | (right; have hb_ := z32 (w.2.2.1 96 9); omega), by first | (left; decide) | (right; decide) | (right; have hb_ := z32 (w.2.2.1 96 1); omega)⟩, rfl⟩
set_option maxRecDepth 20000 in
set_option maxHeartbeats 2000000 in
theorem Z_X10_bidden_95 (l : Launch) (D : va_G) (aC : Nat → ClassId) (b : Nat) (w : XW) (x1 : Int32) (x2 : Int32) (hI : Iv w)  : CnI l D aC b M_X10_bidden 2 47 0 0 [AR 95, AI x1, AI x2] w (fun r u => ((-2) ≤ r.toInt ∧ r.toInt ≤ 7 ∧ (¬ r.toInt = 0 ∨ (0 ≤ x1.toInt ∧ x1.toInt ≤ 5)) ∧ (¬ r.toInt = 0 ∨ (0 ≤ x2.toInt ∧ x2.toInt ≤ 14)) ∧ (¬ r.toInt = 0 ∨ (0 ≤ (w.2.2.1 96 5).toInt ∧ (w.2.2.1 96 5).toInt ≤ 6)) ∧ (¬ r.toInt = 0 ∨ (1 ≤ (w.2.2.1 96 9).toInt ∧ (w.2.2.1 96 9).toInt ≤ 2147483647)) ∧ (¬ r.toInt = 0 ∨ (0 ≤ (w.2.2.1 96 1).toInt ∧ (w.2.2.1 96 1).toInt ≤ 14)) ∧ (¬ r.toInt = 0 ∨ (0 ≤ (w.2.2.1 96 7).toInt ∧ (w.2.2.1 96 7).toInt ≤ 10)) ∧ (¬ r.toInt = 0 ∨ (0 ≤ (w.2.2.1 96 8).toInt ∧ (w.2.2.1 96 8).toInt ≤ 30)) ∧ (r.toInt = 0 ∨ (0 ≤ (w.2.2.1 96 5).toInt ∧ (w.2.2.1 96 5).toInt ≤ 6))) ∧ w = u) := by
  refine cn_I (own := RX10) (nm := "bidden") (L0 := [some (AR 95), some (AI x1), some (AI x2)]) (by decide +kernel) rfl rfl (Nat.le_of_ble_eq_true rfl) rfl ?_
  intro p e s m args below meth c E hin
  have hJ : Jv w w := jv_rfl hI
  have hb_x1 := z32 x1
  have hb_x2 := z32 x2
  refine s_aload_n E dX10_bidden_0 rfl rfl ?_
  refine s_iload_n E dX10_bidden_1 rfl rfl ?_
  refine z_i2l (u := x1.toInt) E dX10_bidden_2 rfl (fun z_1 hz_1 => ?_)
  refine s_vI (As := [AL z_1]) (S := []) E (Z_X10_isLady_95 l D aC b w z_1 hJ.1 ) cv_X10_222 rfl rfl rfl (jv_lt hJ (by decide)) (Nat.le_of_ble_eq_true rfl) (Nat.le_of_ble_eq_true rfl) ⟨(Nat.le_of_ble_eq_true rfl), (Nat.le_of_ble_eq_true rfl)⟩ (Nat.le_of_ble_eq_true rfl) dX10_bidden_3 (fun z_4 u_2 hp_3 => ?_)
  obtain ⟨hz_4, hxz_4, hp_3⟩ := hp_3
  subst hp_3
  refine z_if_eq (tgt := 27) (u := z_4.toInt) E dX10_bidden_6 (by decide) rfl (fun h_6 => ?_) (fun h_6 => ?_)
  ·
    refine s_bipush (v := (-2)) E dX10_bidden_27 (by decide) ?_
    exact r_int E dX10_bidden_29 ⟨⟨by decide, by decide, by first | (left; decide) | (right; decide) | (right; have hb_ := z32 x1; omega), by first | (left; decide) | (right; decide) | (right; have hb_ := z32 x2; omega), by first | (left; decide) | (right; decide) | (right; have hb_ := z32 (w.2.2.1 96 5); omega), by first | (left; decide) | (right; decide) | (right; have hb_ := z32 (w.2.2.1 96 9); omega), by first | (left; decide) | (right; decide) | (right; have hb_ := z32 (w.2.2.1 96 1); omega), by first | (left; decide) | (right; decide) | (right; have hb_ := z32 (w.2.2.1 96 7); omega), by first | (left; decide) | (right; decide) | (right; have hb_ := z32 (w.2.2.1 96 8); omega), by first | (left; decide) | (right; decide) | (right; have hb_ := z32 (w.2.2.1 96 5); omega)⟩, rfl⟩
  ·
    refine s_aload_n E dX10_bidden_9 rfl rfl ?_
    refine s_iload_n E dX10_bidden_10 rfl rfl ?_
    refine z_i2l (u := x2.toInt) E dX10_bidden_11 rfl (fun z_7 hz_7 => ?_)
    refine s_vI (As := [AL z_7]) (S := []) E (Z_X10_isDance_95 l D aC b w z_7 hJ.1 ) cv_X10_282 rfl rfl rfl (jv_lt hJ (by decide)) (Nat.le_of_ble_eq_true rfl) (Nat.le_of_ble_eq_true rfl) ⟨(Nat.le_of_ble_eq_true rfl), (Nat.le_of_ble_eq_true rfl)⟩ (Nat.le_of_ble_eq_true rfl) dX10_bidden_12 (fun z_10 u_8 hp_9 => ?_)
    obtain ⟨hz_10, hp_9⟩ := hp_9
    subst hp_9
    refine z_if_eq (tgt := 27) (u := z_10.toInt) E dX10_bidden_15 (by decide) rfl (fun h_12 => ?_) (fun h_12 => ?_)
    ·
      refine s_bipush (v := (-2)) E dX10_bidden_27 (by decide) ?_
      exact r_int E dX10_bidden_29 ⟨⟨by decide, by decide, by first | (left; decide) | (right; decide) | (right; have hb_ := z32 x1; omega), by first | (left; decide) | (right; decide) | (right; have hb_ := z32 x2; omega), by first | (left; decide) | (right; decide) | (right; have hb_ := z32 (w.2.2.1 96 5); omega), by first | (left; decide) | (right; decide) | (right; have hb_ := z32 (w.2.2.1 96 9); omega), by first | (left; decide) | (right; decide) | (right; have hb_ := z32 (w.2.2.1 96 1); omega), by first | (left; decide) | (right; decide) | (right; have hb_ := z32 (w.2.2.1 96 7); omega), by first | (left; decide) | (right; decide) | (right; have hb_ := z32 (w.2.2.1 96 8); omega), by first | (left; decide) | (right; decide) | (right; have hb_ := z32 (w.2.2.1 96 5); omega)⟩, rfl⟩
    ·
      refine s_aload_n E dX10_bidden_18 rfl rfl ?_
      refine s_iload_n E dX10_bidden_19 rfl rfl ?_
      refine s_iload_n E dX10_bidden_20 rfl rfl ?_
      refine s_vI (As := [AI x1, AI x2]) (S := []) E (Z_X10_biddenOf_95 l D aC b w x1 x2 hJ.1 ⟨by have hb_ := z32 x1; omega, by have hb_ := z32 x1; omega⟩ ⟨by have hb_ := z32 x2; omega, by have hb_ := z32 x2; omega⟩) cv_X10_258 rfl rfl rfl (jv_lt hJ (by decide)) (Nat.le_of_ble_eq_true rfl) (Nat.le_of_ble_eq_true rfl) ⟨(Nat.le_of_ble_eq_true rfl), (Nat.le_of_ble_eq_true rfl)⟩ (Nat.le_of_ble_eq_true rfl) dX10_bidden_21 (fun z_15 u_13 hp_14 => ?_)
      obtain ⟨hz_15, hp_14⟩ := hp_14
      subst hp_14
      refine s_goto (tgt := 29) E dX10_bidden_24 (by decide) ?_
      exact r_int E dX10_bidden_29 ⟨⟨by have hb_ := z32 z_15; omega, by have hb_ := z32 z_15; omega, by first | (right; decide) | (have hb_ := z32 z_15; omega) | (have hb_ := z32 z_15; have hc_ := z32 x1; omega), by first | (right; decide) | (have hb_ := z32 z_15; omega) | (have hb_ := z32 z_15; have hc_ := z32 x2; omega), by first | (right; decide) | (have hb_ := z32 z_15; omega) | (have hb_ := z32 z_15; have hc_ := z32 (w.2.2.1 96 5); omega), by first | (right; decide) | (have hb_ := z32 z_15; omega) | (have hb_ := z32 z_15; have hc_ := z32 (w.2.2.1 96 9); omega), by first | (right; decide) | (have hb_ := z32 z_15; omega) | (have hb_ := z32 z_15; have hc_ := z32 (w.2.2.1 96 1); omega), by first | (right; decide) | (have hb_ := z32 z_15; omega) | (have hb_ := z32 z_15; have hc_ := z32 (w.2.2.1 96 7); omega), by first | (right; decide) | (have hb_ := z32 z_15; omega) | (have hb_ := z32 z_15; have hc_ := z32 (w.2.2.1 96 8); omega), by first | (right; decide) | (have hb_ := z32 z_15; omega) | (have hb_ := z32 z_15; have hc_ := z32 (w.2.2.1 96 5); omega)⟩, rfl⟩
set_option maxRecDepth 20000 in
set_option maxHeartbeats 2000000 in
theorem Z_X10_asksDance_95 (l : Launch) (D : va_G) (aC : Nat → ClassId) (b : Nat) (w : XW) (x1 : Int32) (hI : Iv w)  : CnI l D aC b M_X10_asksDance 4 92 0 0 [AR 95, AI x1] w (fun r u => (0 ≤ r.toInt ∧ r.toInt ≤ 1 ∧ (r.toInt = 0 ∨ (0 ≤ x1.toInt ∧ x1.toInt ≤ 14))) ∧ Jv w u) := by
  refine cn_I (own := RX10) (nm := "asksDance") (L0 := [some (AR 95), some (AI x1)]) (by decide +kernel) rfl rfl (Nat.le_of_ble_eq_true rfl) rfl ?_
  intro p e s m args below meth c E hin
  have hJ : Jv w w := jv_rfl hI
  have hb_x1 := z32 x1
  refine s_aload_n E dX10_asksDance_0 rfl rfl ?_
  refine s_vV (As := []) (S := []) E (Z_X10_asItIs_95 l D aC b w  hJ.1 ) cv_X10_279 rfl rfl rfl (jv_lt hJ (by decide)) (Nat.le_of_ble_eq_true rfl) (Nat.le_of_ble_eq_true rfl) ⟨(Nat.le_of_ble_eq_true rfl), (Nat.le_of_ble_eq_true rfl)⟩ (Nat.le_of_ble_eq_true rfl) dX10_asksDance_1 (fun u_1 hp_2 => ?_)
  have hj_3 := jv_trans hJ hp_2
  refine s_aload_n E dX10_asksDance_4 rfl rfl ?_
  refine s_iload_n E dX10_asksDance_5 rfl rfl ?_
  refine z_i2l (u := x1.toInt) E dX10_asksDance_6 rfl (fun z_4 hz_4 => ?_)
  refine s_vI (As := [AL z_4]) (S := []) E (Z_X10_isDance_95 l D aC b u_1 z_4 hj_3.1 ) cv_X10_282 rfl rfl rfl (jv_lt hj_3 (by decide)) (Nat.le_of_ble_eq_true rfl) (Nat.le_of_ble_eq_true rfl) ⟨(Nat.le_of_ble_eq_true rfl), (Nat.le_of_ble_eq_true rfl)⟩ (Nat.le_of_ble_eq_true rfl) dX10_asksDance_7 (fun z_7 u_5 hp_6 => ?_)
  obtain ⟨hz_7, hp_6⟩ := hp_6
  subst hp_6
  exact r_bool E dX10_asksDance_10 (z_bool (by omega) (by omega)) ⟨⟨by have hb_ := z32 z_7; omega, by have hb_ := z32 z_7; omega, by first | (right; decide) | (have hb_ := z32 z_7; omega) | (have hb_ := z32 z_7; have hc_ := z32 x1; omega)⟩, hj_3⟩
set_option maxRecDepth 20000 in
set_option maxHeartbeats 2000000 in
theorem Z_X10_at_95 (l : Launch) (D : va_G) (aC : Nat → ClassId) (b : Nat) (w : XW) (x1 : Int32) (x2 : Int32) (hI : Iv w)  : CnI l D aC b M_X10_at 5 113 0 0 [AR 95, AI x1, AI x2] w (fun r u => ((-2) ≤ r.toInt ∧ r.toInt ≤ 7 ∧ (¬ r.toInt = 0 ∨ (0 ≤ x1.toInt ∧ x1.toInt ≤ 5)) ∧ (¬ r.toInt = 0 ∨ (0 ≤ x2.toInt ∧ x2.toInt ≤ 14))) ∧ Jv w u) := by
  refine cn_I (own := RX10) (nm := "at") (L0 := [some (AR 95), some (AI x1), some (AI x2)]) (by decide +kernel) rfl rfl (Nat.le_of_ble_eq_true rfl) rfl ?_
  intro p e s m args below meth c E hin
  have hJ : Jv w w := jv_rfl hI
  have hb_x1 := z32 x1
  have hb_x2 := z32 x2
  refine s_aload_n E dX10_at_0 rfl rfl ?_
  refine s_iload_n E dX10_at_1 rfl rfl ?_
  refine s_vI (As := [AI x2]) (S := []) E (Z_X10_asksDance_95 l D aC b w x2 hJ.1 ) cv_X10_294 rfl rfl rfl (jv_lt hJ (by decide)) (Nat.le_of_ble_eq_true rfl) (Nat.le_of_ble_eq_true rfl) ⟨(Nat.le_of_ble_eq_true rfl), (Nat.le_of_ble_eq_true rfl)⟩ (Nat.le_of_ble_eq_true rfl) dX10_at_2 (fun z_3 u_1 hp_2 => ?_)
  obtain ⟨hz_3, hp_2⟩ := hp_2
  have hj_4 := jv_trans hJ hp_2
  refine z_if_eq (tgt := 26) (u := z_3.toInt) E dX10_at_5 (by decide) rfl (fun h_5 => ?_) (fun h_5 => ?_)
  ·
    refine s_bipush (v := (-2)) E dX10_at_26 (by decide) ?_
    exact r_int E dX10_at_28 ⟨⟨by decide, by decide, by first | (left; decide) | (right; decide) | (right; have hb_ := z32 x1; omega), by first | (left; decide) | (right; decide) | (right; have hb_ := z32 x2; omega)⟩, hj_4⟩
  ·
    refine s_aload_n E dX10_at_8 rfl rfl ?_
    refine s_iload_n E dX10_at_9 rfl rfl ?_
    refine z_i2l (u := x1.toInt) E dX10_at_10 rfl (fun z_6 hz_6 => ?_)
    refine s_vI (As := [AL z_6]) (S := []) E (Z_X10_isLady_95 l D aC b u_1 z_6 hj_4.1 ) cv_X10_222 rfl rfl rfl (jv_lt hj_4 (by decide)) (Nat.le_of_ble_eq_true rfl) (Nat.le_of_ble_eq_true rfl) ⟨(Nat.le_of_ble_eq_true rfl), (Nat.le_of_ble_eq_true rfl)⟩ (Nat.le_of_ble_eq_true rfl) dX10_at_11 (fun z_9 u_7 hp_8 => ?_)
    obtain ⟨hz_9, hxz_9, hp_8⟩ := hp_8
    subst hp_8
    refine z_if_eq (tgt := 26) (u := z_9.toInt) E dX10_at_14 (by decide) rfl (fun h_11 => ?_) (fun h_11 => ?_)
    ·
      refine s_bipush (v := (-2)) E dX10_at_26 (by decide) ?_
      exact r_int E dX10_at_28 ⟨⟨by decide, by decide, by first | (left; decide) | (right; decide) | (right; have hb_ := z32 x1; omega), by first | (left; decide) | (right; decide) | (right; have hb_ := z32 x2; omega)⟩, hj_4⟩
    ·
      refine s_aload_n E dX10_at_17 rfl rfl ?_
      refine s_iload_n E dX10_at_18 rfl rfl ?_
      refine s_iload_n E dX10_at_19 rfl rfl ?_
      refine s_vI (As := [AI x1, AI x2]) (S := []) E (Z_X10_atOf_95 l D aC b u_1 x1 x2 hj_4.1 ⟨by have hb_ := z32 x1; omega, by have hb_ := z32 x1; omega⟩ ⟨by have hb_ := z32 x2; omega, by have hb_ := z32 x2; omega⟩) cv_X10_255 rfl rfl rfl (jv_lt hj_4 (by decide)) (Nat.le_of_ble_eq_true rfl) (Nat.le_of_ble_eq_true rfl) ⟨(Nat.le_of_ble_eq_true rfl), (Nat.le_of_ble_eq_true rfl)⟩ (Nat.le_of_ble_eq_true rfl) dX10_at_20 (fun z_14 u_12 hp_13 => ?_)
      obtain ⟨hz_14, hxz_14, hp_13⟩ := hp_13
      subst hp_13
      refine s_goto (tgt := 28) E dX10_at_23 (by decide) ?_
      exact r_int E dX10_at_28 ⟨⟨by have hb_ := z32 z_14; omega, by have hb_ := z32 z_14; omega, by first | (right; decide) | (have hb_ := z32 z_14; omega) | (have hb_ := z32 z_14; have hc_ := z32 x1; omega), by first | (right; decide) | (have hb_ := z32 z_14; omega) | (have hb_ := z32 z_14; have hc_ := z32 x2; omega)⟩, hj_4⟩
set_option maxRecDepth 20000 in
set_option maxHeartbeats 2000000 in
theorem Z_X10_withinOf_95 (l : Launch) (D : va_G) (aC : Nat → ClassId) (b : Nat) (w : XW) (x1 : Int32) (x2 : Int32) (hI : Iv w) (hx2 : 0 ≤ x2.toInt ∧ x2.toInt ≤ 14) : CnI l D aC b M_X10_withinOf 1 22 0 0 [AR 95, AI x1, AI x2] w (fun r u => ((-2147483648) ≤ r.toInt ∧ r.toInt ≤ 2147483647) ∧ (r = wIn (w.2.2.1 103) x1.toInt x2.toInt.toNat (w.2.2.1 96 5).toInt.toNat) ∧ w = u) := by
  refine cn_I (own := RX10) (nm := "withinOf") (L0 := [some (AR 95), some (AI x1), some (AI x2), none, none]) (by decide +kernel) rfl rfl (Nat.le_of_ble_eq_true rfl) rfl ?_
  intro p e s m args below meth c E hin
  have hJ : Jv w w := jv_rfl hI
  have hb_x1 := z32 x1
  refine s_iconst (v := 0) E dX10_withinOf_0 (by decide) ?_
  refine s_istore_n (L2 := [some (AR 95), some (AI x1), some (AI x2), some (AI 0), none]) E dX10_withinOf_1 rfl (by decide) rfl ?_
  refine s_iconst (v := 0) E dX10_withinOf_2 (by decide) ?_
  refine s_istore (L2 := [some (AR 95), some (AI x1), some (AI x2), some (AI 0), some (AI 0)]) E dX10_withinOf_3 (by decide) rfl ?_
  refine z_loop (St := Int32 × Int32) (Pi := fun ⟨q5_3_0, q5_4_0⟩ v5 => (0 ≤ q5_4_0.toInt ∧ q5_4_0.toInt ≤ 6) ∧ (q5_3_0 = wIn (w.2.2.1 103) x1.toInt x2.toInt.toNat q5_4_0.toInt.toNat ∧ q5_4_0.toInt ≤ (w.2.2.1 96 5).toInt) ∧ w = v5) (Lf := fun ⟨q5_3_0, q5_4_0⟩ => [some (AR 95), some (AI x1), some (AI x2), some (AI q5_3_0), some (AI q5_4_0)]) (fun ⟨q5_3_0, q5_4_0⟩ _ => (7 - q5_4_0.toInt).toNat) ⟨0, 0⟩ ⟨⟨by decide, by decide⟩, (⟨by rw [show (0 : Int32).toInt.toNat = 0 by decide]; rfl, by have h0_ : (0 : Int32).toInt = 0 := (by decide); have h5_ := rw_96_5 hJ; omega⟩), rfl⟩ ?_
  rintro ⟨q5_3_0, q5_4_0⟩ v5 ⟨hq5_4, hl5, hv_⟩ ih5
  subst hv_
  have hbq5_3 := z32 q5_3_0
  refine s_loc (L2 := [some (AR 95), some (AI x1), some (AI x2), some (AI q5_3_0), some (AI q5_4_0)]) rfl ?_
  refine s_iload E dX10_withinOf_5 rfl ?_
  refine s_aload_n E dX10_withinOf_7 rfl rfl ?_
  refine s_vI (As := []) (S := [AI q5_4_0]) E (Z_X10_ladies_95 l D aC b w  hJ.1 ) cv_X10_244 rfl rfl rfl (jv_lt hJ (by decide)) (Nat.le_of_ble_eq_true rfl) (Nat.le_of_ble_eq_true rfl) ⟨(Nat.le_of_ble_eq_true rfl), (Nat.le_of_ble_eq_true rfl)⟩ (Nat.le_of_ble_eq_true rfl) dX10_withinOf_8 (fun z_4 u_2 hp_3 => ?_)
  obtain ⟨hz_4, hxz_4, hp_3⟩ := hp_3
  subst hp_3
  refine z_icmp_ge (tgt := 42) (u := q5_4_0.toInt) (v := z_4.toInt) E dX10_withinOf_11 (by decide) rfl rfl (fun h_6 => ?_) (fun h_6 => ?_)
  ·
    refine s_iload_n E dX10_withinOf_42 rfl rfl ?_
    exact r_int E dX10_withinOf_43 ⟨⟨by have hb_ := z32 q5_3_0; omega, by have hb_ := z32 q5_3_0; omega⟩, (wIn_e hl5.1 (by omega)), rfl⟩
  ·
    refine s_iload_n E dX10_withinOf_14 rfl rfl ?_
    refine s_aload_n E dX10_withinOf_15 rfl rfl ?_
    refine s_iload E dX10_withinOf_16 rfl ?_
    refine s_iload_n E dX10_withinOf_18 rfl rfl ?_
    refine s_vI (As := [AI q5_4_0, AI x2]) (S := [AI q5_3_0]) E (Z_X10_atOf_95 l D aC b w q5_4_0 x2 hJ.1 ⟨by have hb_ := z32 q5_4_0; omega, by have hb_ := z32 q5_4_0; omega⟩ ⟨by have hb_ := z32 x2; omega, by have hb_ := z32 x2; omega⟩) cv_X10_255 rfl rfl rfl (jv_lt hJ (by decide)) (Nat.le_of_ble_eq_true rfl) (Nat.le_of_ble_eq_true rfl) ⟨(Nat.le_of_ble_eq_true rfl), (Nat.le_of_ble_eq_true rfl)⟩ (Nat.le_of_ble_eq_true rfl) dX10_withinOf_19 (fun z_9 u_7 hp_8 => ?_)
    obtain ⟨hz_9, hxz_9, hp_8⟩ := hp_8
    subst hp_8
    have hA_ := hxz_9
    refine s_iload_n E dX10_withinOf_22 rfl rfl ?_
    refine z_icmp_ne (tgt := 33) (u := z_9.toInt) (v := x1.toInt) E dX10_withinOf_23 (by decide) rfl rfl (fun h_11 => ?_) (fun h_11 => ?_)
    ·
      refine s_iconst (v := 0) E dX10_withinOf_33 (by decide) ?_
      refine s_ior E dX10_withinOf_34 ?_
      refine z_nm (P := fun z => z = q5_3_0 ||| 0 ∧ (-2147483648) ≤ z.toInt ∧ z.toInt ≤ 2147483647) ⟨rfl, z32 _⟩ (fun z_12 hz_12 => ?_)
      refine s_istore_n (L2 := [some (AR 95), some (AI x1), some (AI x2), some (AI z_12), some (AI q5_4_0)]) E dX10_withinOf_35 rfl (by decide) rfl ?_
      refine z_iinc (u := q5_4_0.toInt) (L2 := fun z_13 => [some (AR 95), some (AI x1), some (AI x2), some (AI z_12), some (AI z_13)]) E dX10_withinOf_36 rfl rfl (by decide) (fun _ => rfl) (by decide) (by omega) (by omega) (fun z_13 hz_13 => ?_)
      refine s_goto (tgt := 5) E dX10_withinOf_39 (by decide) ?_
      exact ih5 ⟨z_12, z_13⟩ w ⟨⟨by have hb_ := z32 z_13; omega, by have hb_ := z32 z_13; omega⟩, (⟨by first | exact wIn_1 hl5.1 hA_ (by omega) (by omega) (by omega) (And.left (by assumption)) (And.left (by assumption)) | exact wIn_0 hl5.1 hA_ (by omega) (by omega) (by omega) (And.left (by assumption)), by omega⟩), rfl⟩ (by first | omega | decide | (dsimp only; omega) | (dsimp only; decide))
    ·
      refine s_iconst (v := 1) E dX10_withinOf_26 (by decide) ?_
      refine s_iload E dX10_withinOf_27 rfl ?_
      refine s_ishl E dX10_withinOf_29 ?_
      refine z_nm (P := fun z => z = 1 <<< (q5_4_0 &&& 31) ∧ 1 ≤ z.toInt ∧ z.toInt ≤ 32) ⟨rfl, y_shl1 5 (by omega) (by omega) (by decide) (by decide)⟩ (fun z_14 hz_14 => ?_)
      refine s_goto (tgt := 34) E dX10_withinOf_30 (by decide) ?_
      refine s_ior E dX10_withinOf_34 ?_
      refine z_nm (P := fun z => z = q5_3_0 ||| z_14 ∧ (-2147483648) ≤ z.toInt ∧ z.toInt ≤ 2147483647) ⟨rfl, z32 _⟩ (fun z_15 hz_15 => ?_)
      refine s_istore_n (L2 := [some (AR 95), some (AI x1), some (AI x2), some (AI z_15), some (AI q5_4_0)]) E dX10_withinOf_35 rfl (by decide) rfl ?_
      refine z_iinc (u := q5_4_0.toInt) (L2 := fun z_16 => [some (AR 95), some (AI x1), some (AI x2), some (AI z_15), some (AI z_16)]) E dX10_withinOf_36 rfl rfl (by decide) (fun _ => rfl) (by decide) (by omega) (by omega) (fun z_16 hz_16 => ?_)
      refine s_goto (tgt := 5) E dX10_withinOf_39 (by decide) ?_
      exact ih5 ⟨z_15, z_16⟩ w ⟨⟨by have hb_ := z32 z_16; omega, by have hb_ := z32 z_16; omega⟩, (⟨by first | exact wIn_1 hl5.1 hA_ (by omega) (by omega) (by omega) (And.left (by assumption)) (And.left (by assumption)) | exact wIn_0 hl5.1 hA_ (by omega) (by omega) (by omega) (And.left (by assumption)), by omega⟩), rfl⟩ (by first | omega | decide | (dsimp only; omega) | (dsimp only; decide))
set_option maxRecDepth 20000 in
set_option maxHeartbeats 2000000 in
theorem Z_X10_within_95 (l : Launch) (D : va_G) (aC : Nat → ClassId) (b : Nat) (w : XW) (x1 : Int32) (x2 : Int32) (hI : Iv w)  : CnI l D aC b M_X10_within 5 113 0 0 [AR 95, AI x1, AI x2] w (fun r u => ((-2147483648) ≤ r.toInt ∧ r.toInt ≤ 2147483647 ∧ (¬ r.toInt = 0 ∨ (0 ≤ x1.toInt ∧ x1.toInt ≤ 7)) ∧ (¬ r.toInt = 0 ∨ (0 ≤ x2.toInt ∧ x2.toInt ≤ 14))) ∧ Jv w u) := by
  refine cn_I (own := RX10) (nm := "within") (L0 := [some (AR 95), some (AI x1), some (AI x2)]) (by decide +kernel) rfl rfl (Nat.le_of_ble_eq_true rfl) rfl ?_
  intro p e s m args below meth c E hin
  have hJ : Jv w w := jv_rfl hI
  have hb_x1 := z32 x1
  have hb_x2 := z32 x2
  refine s_aload_n E dX10_within_0 rfl rfl ?_
  refine s_iload_n E dX10_within_1 rfl rfl ?_
  refine s_vI (As := [AI x2]) (S := []) E (Z_X10_asksDance_95 l D aC b w x2 hJ.1 ) cv_X10_294 rfl rfl rfl (jv_lt hJ (by decide)) (Nat.le_of_ble_eq_true rfl) (Nat.le_of_ble_eq_true rfl) ⟨(Nat.le_of_ble_eq_true rfl), (Nat.le_of_ble_eq_true rfl)⟩ (Nat.le_of_ble_eq_true rfl) dX10_within_2 (fun z_3 u_1 hp_2 => ?_)
  obtain ⟨hz_3, hp_2⟩ := hp_2
  have hj_4 := jv_trans hJ hp_2
  refine z_if_eq (tgt := 25) (u := z_3.toInt) E dX10_within_5 (by decide) rfl (fun h_5 => ?_) (fun h_5 => ?_)
  ·
    refine s_bipush (v := (-2)) E dX10_within_25 (by decide) ?_
    exact r_int E dX10_within_27 ⟨⟨by decide, by decide, by first | (left; decide) | (right; decide) | (right; have hb_ := z32 x1; omega), by first | (left; decide) | (right; decide) | (right; have hb_ := z32 x2; omega)⟩, hj_4⟩
  ·
    refine s_aload_n E dX10_within_8 rfl rfl ?_
    refine s_iload_n E dX10_within_9 rfl rfl ?_
    refine s_vI (As := [AI x1]) (S := []) E (Z_X10_isRoom_95 l D aC b u_1 x1 hj_4.1 ) cv_X10_291 rfl rfl rfl (jv_lt hj_4 (by decide)) (Nat.le_of_ble_eq_true rfl) (Nat.le_of_ble_eq_true rfl) ⟨(Nat.le_of_ble_eq_true rfl), (Nat.le_of_ble_eq_true rfl)⟩ (Nat.le_of_ble_eq_true rfl) dX10_within_10 (fun z_8 u_6 hp_7 => ?_)
    obtain ⟨hz_8, hp_7⟩ := hp_7
    subst hp_7
    refine z_if_eq (tgt := 25) (u := z_8.toInt) E dX10_within_13 (by decide) rfl (fun h_10 => ?_) (fun h_10 => ?_)
    ·
      refine s_bipush (v := (-2)) E dX10_within_25 (by decide) ?_
      exact r_int E dX10_within_27 ⟨⟨by decide, by decide, by first | (left; decide) | (right; decide) | (right; have hb_ := z32 x1; omega), by first | (left; decide) | (right; decide) | (right; have hb_ := z32 x2; omega)⟩, hj_4⟩
    ·
      refine s_aload_n E dX10_within_16 rfl rfl ?_
      refine s_iload_n E dX10_within_17 rfl rfl ?_
      refine s_iload_n E dX10_within_18 rfl rfl ?_
      refine s_vI (As := [AI x1, AI x2]) (S := []) E (Z_X10_withinOf_95 l D aC b u_1 x1 x2 hj_4.1 ⟨by have hb_ := z32 x2; omega, by have hb_ := z32 x2; omega⟩) cv_X10_297 rfl rfl rfl (jv_lt hj_4 (by decide)) (Nat.le_of_ble_eq_true rfl) (Nat.le_of_ble_eq_true rfl) ⟨(Nat.le_of_ble_eq_true rfl), (Nat.le_of_ble_eq_true rfl)⟩ (Nat.le_of_ble_eq_true rfl) dX10_within_19 (fun z_13 u_11 hp_12 => ?_)
      obtain ⟨hz_13, hxz_13, hp_12⟩ := hp_12
      subst hp_12
      refine s_goto (tgt := 27) E dX10_within_22 (by decide) ?_
      exact r_int E dX10_within_27 ⟨⟨by have hb_ := z32 z_13; omega, by have hb_ := z32 z_13; omega, by first | (right; decide) | (have hb_ := z32 z_13; omega) | (have hb_ := z32 z_13; have hc_ := z32 x1; omega), by first | (right; decide) | (have hb_ := z32 z_13; omega) | (have hb_ := z32 z_13; have hc_ := z32 x2; omega)⟩, hj_4⟩
set_option maxRecDepth 20000 in
set_option maxHeartbeats 2000000 in
theorem Z_X10_stepsOf_95 (l : Launch) (D : va_G) (aC : Nat → ClassId) (b : Nat) (w : XW) (x1 : Int32) (hI : Iv w) (hx1 : 0 ≤ x1.toInt ∧ x1.toInt ≤ 5) : CnI l D aC b M_X10_stepsOf 1 22 0 0 [AR 95, AI x1] w (fun r u => ((-2147483648) ≤ r.toInt ∧ r.toInt ≤ 2147483647) ∧ w = u) := by
  refine cn_I (own := RX10) (nm := "stepsOf") (L0 := [some (AR 95), some (AI x1), none, none]) (by decide +kernel) rfl rfl (Nat.le_of_ble_eq_true rfl) rfl ?_
  intro p e s m args below meth c E hin
  have hJ : Jv w w := jv_rfl hI
  refine s_iconst (v := 0) E dX10_stepsOf_0 (by decide) ?_
  refine s_istore_n (L2 := [some (AR 95), some (AI x1), some (AI 0), none]) E dX10_stepsOf_1 rfl (by decide) rfl ?_
  refine s_iconst (v := 0) E dX10_stepsOf_2 (by decide) ?_
  refine s_istore_n (L2 := [some (AR 95), some (AI x1), some (AI 0), some (AI 0)]) E dX10_stepsOf_3 rfl (by decide) rfl ?_
  refine z_loop (St := Int32 × Int32) (Pi := fun ⟨q4_2_0, q4_3_0⟩ v4 => (0 ≤ q4_3_0.toInt ∧ q4_3_0.toInt ≤ 14) ∧ w = v4) (Lf := fun ⟨q4_2_0, q4_3_0⟩ => [some (AR 95), some (AI x1), some (AI q4_2_0), some (AI q4_3_0)]) (fun ⟨q4_2_0, q4_3_0⟩ _ => (15 - q4_3_0.toInt).toNat) ⟨0, 0⟩ ⟨⟨by decide, by decide⟩, rfl⟩ ?_
  rintro ⟨q4_2_0, q4_3_0⟩ v4 ⟨hq4_3, hv_⟩ ih4
  subst hv_
  have hbq4_2 := z32 q4_2_0
  refine s_loc (L2 := [some (AR 95), some (AI x1), some (AI q4_2_0), some (AI q4_3_0)]) rfl ?_
  refine s_iload_n E dX10_stepsOf_4 rfl rfl ?_
  refine s_aload_n E dX10_stepsOf_5 rfl rfl ?_
  refine s_vI (As := []) (S := [AI q4_3_0]) E (Z_X10_dances_95 l D aC b w  hJ.1 ) cv_X10_247 rfl rfl rfl (jv_lt hJ (by decide)) (Nat.le_of_ble_eq_true rfl) (Nat.le_of_ble_eq_true rfl) ⟨(Nat.le_of_ble_eq_true rfl), (Nat.le_of_ble_eq_true rfl)⟩ (Nat.le_of_ble_eq_true rfl) dX10_stepsOf_6 (fun z_4 u_2 hp_3 => ?_)
  obtain ⟨hz_4, hxz_4, hp_3⟩ := hp_3
  subst hp_3
  refine z_icmp_ge (tgt := 43) (u := q4_3_0.toInt) (v := z_4.toInt) E dX10_stepsOf_9 (by decide) rfl rfl (fun h_6 => ?_) (fun h_6 => ?_)
  ·
    refine s_iload_n E dX10_stepsOf_43 rfl rfl ?_
    exact r_int E dX10_stepsOf_44 ⟨⟨by have hb_ := z32 q4_2_0; omega, by have hb_ := z32 q4_2_0; omega⟩, rfl⟩
  ·
    refine s_iload_n E dX10_stepsOf_12 rfl rfl ?_
    refine s_aload_n E dX10_stepsOf_13 rfl rfl ?_
    refine s_iload_n E dX10_stepsOf_14 rfl rfl ?_
    refine s_iload_n E dX10_stepsOf_15 rfl rfl ?_
    refine s_vI (As := [AI x1, AI q4_3_0]) (S := [AI q4_2_0]) E (Z_X10_atOf_95 l D aC b w x1 q4_3_0 hJ.1 ⟨by have hb_ := z32 x1; omega, by have hb_ := z32 x1; omega⟩ ⟨by have hb_ := z32 q4_3_0; omega, by have hb_ := z32 q4_3_0; omega⟩) cv_X10_255 rfl rfl rfl (jv_lt hJ (by decide)) (Nat.le_of_ble_eq_true rfl) (Nat.le_of_ble_eq_true rfl) ⟨(Nat.le_of_ble_eq_true rfl), (Nat.le_of_ble_eq_true rfl)⟩ (Nat.le_of_ble_eq_true rfl) dX10_stepsOf_16 (fun z_9 u_7 hp_8 => ?_)
    obtain ⟨hz_9, hxz_9, hp_8⟩ := hp_8
    subst hp_8
    refine s_aload_n E dX10_stepsOf_19 rfl rfl ?_
    refine s_iload_n E dX10_stepsOf_20 rfl rfl ?_
    refine s_iload_n E dX10_stepsOf_21 rfl rfl ?_
    refine s_iconst (v := 1) E dX10_stepsOf_22 (by decide) ?_
    refine z_iadd (u := q4_3_0.toInt) (v := 1) E dX10_stepsOf_23 rfl (by decide) (by omega) (by omega) (fun z_11 hz_11 => ?_)
    refine s_vI (As := [AI x1, AI z_11]) (S := [AI z_9, AI q4_2_0]) E (Z_X10_atOf_95 l D aC b w x1 z_11 hJ.1 ⟨by have hb_ := z32 x1; omega, by have hb_ := z32 x1; omega⟩ ⟨by have hb_ := z32 z_11; omega, by have hb_ := z32 z_11; omega⟩) cv_X10_255 rfl rfl rfl (jv_lt hJ (by decide)) (Nat.le_of_ble_eq_true rfl) (Nat.le_of_ble_eq_true rfl) ⟨(Nat.le_of_ble_eq_true rfl), (Nat.le_of_ble_eq_true rfl)⟩ (Nat.le_of_ble_eq_true rfl) dX10_stepsOf_24 (fun z_14 u_12 hp_13 => ?_)
    obtain ⟨hz_14, hxz_14, hp_13⟩ := hp_13
    subst hp_13
    refine z_icmp_ne (tgt := 34) (u := z_9.toInt) (v := z_14.toInt) E dX10_stepsOf_27 (by decide) rfl rfl (fun h_16 => ?_) (fun h_16 => ?_)
    ·
      refine s_iconst (v := 1) E dX10_stepsOf_34 (by decide) ?_
      refine s_iadd E dX10_stepsOf_35 ?_
      refine z_nm (P := fun z => (-2147483648) ≤ z.toInt ∧ z.toInt ≤ 2147483647) (z32 _) (fun z_17 hz_17 => ?_)
      refine s_istore_n (L2 := [some (AR 95), some (AI x1), some (AI z_17), some (AI q4_3_0)]) E dX10_stepsOf_36 rfl (by decide) rfl ?_
      refine z_iinc (u := q4_3_0.toInt) (L2 := fun z_18 => [some (AR 95), some (AI x1), some (AI z_17), some (AI z_18)]) E dX10_stepsOf_37 rfl rfl (by decide) (fun _ => rfl) (by decide) (by omega) (by omega) (fun z_18 hz_18 => ?_)
      refine s_goto (tgt := 4) E dX10_stepsOf_40 (by decide) ?_
      exact ih4 ⟨z_17, z_18⟩ w ⟨⟨by have hb_ := z32 z_18; omega, by have hb_ := z32 z_18; omega⟩, rfl⟩ (by first | omega | decide | (dsimp only; omega) | (dsimp only; decide))
    ·
      refine s_iconst (v := 0) E dX10_stepsOf_30 (by decide) ?_
      refine s_goto (tgt := 35) E dX10_stepsOf_31 (by decide) ?_
      refine z_iadd (u := q4_2_0.toInt) (v := 0) E dX10_stepsOf_35 rfl (by decide) (by omega) (by omega) (fun z_19 hz_19 => ?_)
      refine s_istore_n (L2 := [some (AR 95), some (AI x1), some (AI z_19), some (AI q4_3_0)]) E dX10_stepsOf_36 rfl (by decide) rfl ?_
      refine z_iinc (u := q4_3_0.toInt) (L2 := fun z_20 => [some (AR 95), some (AI x1), some (AI z_19), some (AI z_20)]) E dX10_stepsOf_37 rfl rfl (by decide) (fun _ => rfl) (by decide) (by omega) (by omega) (fun z_20 hz_20 => ?_)
      refine s_goto (tgt := 4) E dX10_stepsOf_40 (by decide) ?_
      exact ih4 ⟨z_19, z_20⟩ w ⟨⟨by have hb_ := z32 z_20; omega, by have hb_ := z32 z_20; omega⟩, rfl⟩ (by first | omega | decide | (dsimp only; omega) | (dsimp only; decide))
set_option maxRecDepth 20000 in
set_option maxHeartbeats 2000000 in
theorem Z_X10_steps_95 (l : Launch) (D : va_G) (aC : Nat → ClassId) (b : Nat) (w : XW) (x1 : Int32) (hI : Iv w)  : CnI l D aC b M_X10_steps 5 113 0 0 [AR 95, AI x1] w (fun r u => ((-2147483648) ≤ r.toInt ∧ r.toInt ≤ 2147483647 ∧ (¬ r.toInt = 0 ∨ (0 ≤ x1.toInt ∧ x1.toInt ≤ 5))) ∧ Jv w u) := by
  refine cn_I (own := RX10) (nm := "steps") (L0 := [some (AR 95), some (AI x1)]) (by decide +kernel) rfl rfl (Nat.le_of_ble_eq_true rfl) rfl ?_
  intro p e s m args below meth c E hin
  have hJ : Jv w w := jv_rfl hI
  have hb_x1 := z32 x1
  refine s_aload_n E dX10_steps_0 rfl rfl ?_
  refine s_iload_n E dX10_steps_1 rfl rfl ?_
  refine s_vI (As := [AI x1]) (S := []) E (Z_X10_asksLady_95 l D aC b w x1 hJ.1 ) cv_X10_288 rfl rfl rfl (jv_lt hJ (by decide)) (Nat.le_of_ble_eq_true rfl) (Nat.le_of_ble_eq_true rfl) ⟨(Nat.le_of_ble_eq_true rfl), (Nat.le_of_ble_eq_true rfl)⟩ (Nat.le_of_ble_eq_true rfl) dX10_steps_2 (fun z_3 u_1 hp_2 => ?_)
  obtain ⟨hz_3, hxz_3, hp_2⟩ := hp_2
  have hj_4 := jv_trans hJ hp_2
  refine z_if_eq (tgt := 16) (u := z_3.toInt) E dX10_steps_5 (by decide) rfl (fun h_5 => ?_) (fun h_5 => ?_)
  ·
    refine s_bipush (v := (-2)) E dX10_steps_16 (by decide) ?_
    exact r_int E dX10_steps_18 ⟨⟨by decide, by decide, by first | (left; decide) | (right; decide) | (right; have hb_ := z32 x1; omega)⟩, hj_4⟩
  ·
    refine s_aload_n E dX10_steps_8 rfl rfl ?_
    refine s_iload_n E dX10_steps_9 rfl rfl ?_
    refine s_vI (As := [AI x1]) (S := []) E (Z_X10_stepsOf_95 l D aC b u_1 x1 hj_4.1 ⟨by have hb_ := z32 x1; omega, by have hb_ := z32 x1; omega⟩) cv_X10_300 rfl rfl rfl (jv_lt hj_4 (by decide)) (Nat.le_of_ble_eq_true rfl) (Nat.le_of_ble_eq_true rfl) ⟨(Nat.le_of_ble_eq_true rfl), (Nat.le_of_ble_eq_true rfl)⟩ (Nat.le_of_ble_eq_true rfl) dX10_steps_10 (fun z_8 u_6 hp_7 => ?_)
    obtain ⟨hz_8, hp_7⟩ := hp_7
    subst hp_7
    refine s_goto (tgt := 18) E dX10_steps_13 (by decide) ?_
    exact r_int E dX10_steps_18 ⟨⟨by have hb_ := z32 z_8; omega, by have hb_ := z32 z_8; omega, by first | (right; decide) | (have hb_ := z32 z_8; omega) | (have hb_ := z32 z_8; have hc_ := z32 x1; omega)⟩, hj_4⟩
set_option maxRecDepth 20000 in
set_option maxHeartbeats 2000000 in
theorem Z_X10_sees_95 (l : Launch) (D : va_G) (aC : Nat → ClassId) (b : Nat) (w : XW) (x1 : Int32) (hI : Iv w)  : CnI l D aC b M_X10_sees 5 113 0 0 [AR 95, AI x1] w (fun r u => ((-2147483648) ≤ r.toInt ∧ r.toInt ≤ 2147483647 ∧ (¬ r.toInt = 0 ∨ (0 ≤ x1.toInt ∧ x1.toInt ≤ 5))) ∧ Jv w u) := by
  refine cn_I (own := RX10) (nm := "sees") (L0 := [some (AR 95), some (AI x1), none, none]) (by decide +kernel) rfl rfl (Nat.le_of_ble_eq_true rfl) rfl ?_
  intro p e s m args below meth c E hin
  have hJ : Jv w w := jv_rfl hI
  have hb_x1 := z32 x1
  refine s_aload_n E dX10_sees_0 rfl rfl ?_
  refine s_iload_n E dX10_sees_1 rfl rfl ?_
  refine s_vI (As := [AI x1]) (S := []) E (Z_X10_asksLady_95 l D aC b w x1 hJ.1 ) cv_X10_288 rfl rfl rfl (jv_lt hJ (by decide)) (Nat.le_of_ble_eq_true rfl) (Nat.le_of_ble_eq_true rfl) ⟨(Nat.le_of_ble_eq_true rfl), (Nat.le_of_ble_eq_true rfl)⟩ (Nat.le_of_ble_eq_true rfl) dX10_sees_2 (fun z_3 u_1 hp_2 => ?_)
  obtain ⟨hz_3, hxz_3, hp_2⟩ := hp_2
  have hj_4 := jv_trans hJ hp_2
  refine z_if_ne (tgt := 11) (u := z_3.toInt) E dX10_sees_5 (by decide) rfl (fun h_5 => ?_) (fun h_5 => ?_)
  ·
    refine s_iconst (v := 0) E dX10_sees_11 (by decide) ?_
    refine s_istore_n (L2 := [some (AR 95), some (AI x1), some (AI 0), none]) E dX10_sees_12 rfl (by decide) rfl ?_
    refine s_iconst (v := 0) E dX10_sees_13 (by decide) ?_
    refine s_istore_n (L2 := [some (AR 95), some (AI x1), some (AI 0), some (AI 0)]) E dX10_sees_14 rfl (by decide) rfl ?_
    refine z_loop (St := Int32 × Int32) (Pi := fun ⟨q15_2_5, q15_3_5⟩ v15 => (0 ≤ q15_3_5.toInt ∧ q15_3_5.toInt ≤ 15) ∧ u_1 = v15) (Lf := fun ⟨q15_2_5, q15_3_5⟩ => [some (AR 95), some (AI x1), some (AI q15_2_5), some (AI q15_3_5)]) (fun ⟨q15_2_5, q15_3_5⟩ _ => (16 - q15_3_5.toInt).toNat) ⟨0, 0⟩ ⟨⟨by decide, by decide⟩, rfl⟩ ?_
    rintro ⟨q15_2_5, q15_3_5⟩ v15 ⟨hq15_3, hv_⟩ ih15
    subst hv_
    have hbq15_2 := z32 q15_2_5
    refine s_loc (L2 := [some (AR 95), some (AI x1), some (AI q15_2_5), some (AI q15_3_5)]) rfl ?_
    refine s_iload_n E dX10_sees_15 rfl rfl ?_
    refine s_aload_n E dX10_sees_16 rfl rfl ?_
    refine s_vI (As := []) (S := [AI q15_3_5]) E (Z_X10_dances_95 l D aC b u_1  hj_4.1 ) cv_X10_247 rfl rfl rfl (jv_lt hj_4 (by decide)) (Nat.le_of_ble_eq_true rfl) (Nat.le_of_ble_eq_true rfl) ⟨(Nat.le_of_ble_eq_true rfl), (Nat.le_of_ble_eq_true rfl)⟩ (Nat.le_of_ble_eq_true rfl) dX10_sees_17 (fun z_9 u_7 hp_8 => ?_)
    obtain ⟨hz_9, hxz_9, hp_8⟩ := hp_8
    subst hp_8
    refine z_icmp_gt (tgt := 40) (u := q15_3_5.toInt) (v := z_9.toInt) E dX10_sees_20 (by decide) rfl rfl (fun h_11 => ?_) (fun h_11 => ?_)
    ·
      refine s_iload_n E dX10_sees_40 rfl rfl ?_
      exact r_int E dX10_sees_41 ⟨⟨by have hb_ := z32 q15_2_5; omega, by have hb_ := z32 q15_2_5; omega, by first | (right; decide) | (have hb_ := z32 q15_2_5; omega) | (have hb_ := z32 q15_2_5; have hc_ := z32 x1; omega)⟩, hj_4⟩
    ·
      refine s_iload_n E dX10_sees_23 rfl rfl ?_
      refine s_iconst (v := 1) E dX10_sees_24 (by decide) ?_
      refine s_aload_n E dX10_sees_25 rfl rfl ?_
      refine s_iload_n E dX10_sees_26 rfl rfl ?_
      refine s_iload_n E dX10_sees_27 rfl rfl ?_
      refine s_vI (As := [AI x1, AI q15_3_5]) (S := [AI 1, AI q15_2_5]) E (Z_X10_atOf_95 l D aC b u_1 x1 q15_3_5 hj_4.1 ⟨by have hb_ := z32 x1; omega, by have hb_ := z32 x1; omega⟩ ⟨by have hb_ := z32 q15_3_5; omega, by have hb_ := z32 q15_3_5; omega⟩) cv_X10_255 rfl rfl rfl (jv_lt hj_4 (by decide)) (Nat.le_of_ble_eq_true rfl) (Nat.le_of_ble_eq_true rfl) ⟨(Nat.le_of_ble_eq_true rfl), (Nat.le_of_ble_eq_true rfl)⟩ (Nat.le_of_ble_eq_true rfl) dX10_sees_28 (fun z_14 u_12 hp_13 => ?_)
      obtain ⟨hz_14, hxz_14, hp_13⟩ := hp_13
      subst hp_13
      refine z_shl1 7 (u := z_14.toInt) (B := 128) E dX10_sees_31 rfl (by omega) (by omega) (by decide) (by decide) (fun z_16 hz_16 => ?_)
      refine s_ior E dX10_sees_32 ?_
      refine z_nm (P := fun z => (-2147483648) ≤ z.toInt ∧ z.toInt ≤ 2147483647) (z32 _) (fun z_17 hz_17 => ?_)
      refine s_istore_n (L2 := [some (AR 95), some (AI x1), some (AI z_17), some (AI q15_3_5)]) E dX10_sees_33 rfl (by decide) rfl ?_
      refine z_iinc (u := q15_3_5.toInt) (L2 := fun z_18 => [some (AR 95), some (AI x1), some (AI z_17), some (AI z_18)]) E dX10_sees_34 rfl rfl (by decide) (fun _ => rfl) (by decide) (by omega) (by omega) (fun z_18 hz_18 => ?_)
      refine s_goto (tgt := 15) E dX10_sees_37 (by decide) ?_
      exact ih15 ⟨z_17, z_18⟩ u_1 ⟨⟨by have hb_ := z32 z_18; omega, by have hb_ := z32 z_18; omega⟩, rfl⟩ (by first | omega | decide | (dsimp only; omega) | (dsimp only; decide))
  ·
    refine s_bipush (v := (-2)) E dX10_sees_8 (by decide) ?_
    exact r_int E dX10_sees_10 ⟨⟨by decide, by decide, by first | (left; decide) | (right; decide) | (right; have hb_ := z32 x1; omega)⟩, hj_4⟩
set_option maxRecDepth 20000 in
set_option maxHeartbeats 2000000 in
theorem Z_X10_doMeet_95 (l : Launch) (D : va_G) (aC : Nat → ClassId) (b : Nat) (w : XW) (x1 : Int32) (x2 : Int32) (x3 : Int32) (hI : Iv w) (hx1 : 0 ≤ x1.toInt ∧ x1.toInt ≤ 5) (hx2 : 0 ≤ x2.toInt ∧ x2.toInt ≤ 5) (hx3 : 0 ≤ x3.toInt ∧ x3.toInt ≤ 14) : CnI l D aC b M_X10_doMeet 1 22 0 0 [AR 95, AI x1, AI x2, AI x3] w (fun r u => (0 ≤ r.toInt ∧ r.toInt ≤ 1) ∧ w = u) := by
  refine cn_I (own := RX10) (nm := "doMeet") (L0 := [some (AR 95), some (AI x1), some (AI x2), some (AI x3)]) (by decide +kernel) rfl rfl (Nat.le_of_ble_eq_true rfl) rfl ?_
  intro p e s m args below meth c E hin
  have hJ : Jv w w := jv_rfl hI
  refine s_aload_n E dX10_doMeet_0 rfl rfl ?_
  refine s_iload_n E dX10_doMeet_1 rfl rfl ?_
  refine s_iload_n E dX10_doMeet_2 rfl rfl ?_
  refine s_vI (As := [AI x1, AI x3]) (S := []) E (Z_X10_atOf_95 l D aC b w x1 x3 hJ.1 ⟨by have hb_ := z32 x1; omega, by have hb_ := z32 x1; omega⟩ ⟨by have hb_ := z32 x3; omega, by have hb_ := z32 x3; omega⟩) cv_X10_255 rfl rfl rfl (jv_lt hJ (by decide)) (Nat.le_of_ble_eq_true rfl) (Nat.le_of_ble_eq_true rfl) ⟨(Nat.le_of_ble_eq_true rfl), (Nat.le_of_ble_eq_true rfl)⟩ (Nat.le_of_ble_eq_true rfl) dX10_doMeet_3 (fun z_3 u_1 hp_2 => ?_)
  obtain ⟨hz_3, hxz_3, hp_2⟩ := hp_2
  subst hp_2
  refine s_aload_n E dX10_doMeet_6 rfl rfl ?_
  refine s_iload_n E dX10_doMeet_7 rfl rfl ?_
  refine s_iload_n E dX10_doMeet_8 rfl rfl ?_
  refine s_vI (As := [AI x2, AI x3]) (S := [AI z_3]) E (Z_X10_atOf_95 l D aC b w x2 x3 hJ.1 ⟨by have hb_ := z32 x2; omega, by have hb_ := z32 x2; omega⟩ ⟨by have hb_ := z32 x3; omega, by have hb_ := z32 x3; omega⟩) cv_X10_255 rfl rfl rfl (jv_lt hJ (by decide)) (Nat.le_of_ble_eq_true rfl) (Nat.le_of_ble_eq_true rfl) ⟨(Nat.le_of_ble_eq_true rfl), (Nat.le_of_ble_eq_true rfl)⟩ (Nat.le_of_ble_eq_true rfl) dX10_doMeet_9 (fun z_7 u_5 hp_6 => ?_)
  obtain ⟨hz_7, hxz_7, hp_6⟩ := hp_6
  subst hp_6
  refine z_icmp_ne (tgt := 19) (u := z_3.toInt) (v := z_7.toInt) E dX10_doMeet_12 (by decide) rfl rfl (fun h_9 => ?_) (fun h_9 => ?_)
  ·
    refine s_iconst (v := 0) E dX10_doMeet_19 (by decide) ?_
    exact r_bool E dX10_doMeet_20 (Or.inl rfl) ⟨(by decide), rfl⟩
  ·
    refine s_iconst (v := 1) E dX10_doMeet_15 (by decide) ?_
    refine s_goto (tgt := 20) E dX10_doMeet_16 (by decide) ?_
    exact r_bool E dX10_doMeet_20 (Or.inr rfl) ⟨(by decide), rfl⟩
set_option maxRecDepth 20000 in
set_option maxHeartbeats 2000000 in
theorem Z_X10_firstMeet_95 (l : Launch) (D : va_G) (aC : Nat → ClassId) (b : Nat) (w : XW) (x1 : Int32) (x2 : Int32) (hI : Iv w) (hx1 : 0 ≤ x1.toInt ∧ x1.toInt ≤ 5) (hx2 : 0 ≤ x2.toInt ∧ x2.toInt ≤ 5) : CnI l D aC b M_X10_firstMeet 2 45 0 0 [AR 95, AI x1, AI x2] w (fun r u => ((-1) ≤ r.toInt ∧ r.toInt ≤ 14) ∧ w = u) := by
  refine cn_I (own := RX10) (nm := "firstMeet") (L0 := [some (AR 95), some (AI x1), some (AI x2), none]) (by decide +kernel) rfl rfl (Nat.le_of_ble_eq_true rfl) rfl ?_
  intro p e s m args below meth c E hin
  have hJ : Jv w w := jv_rfl hI
  refine s_iconst (v := 0) E dX10_firstMeet_0 (by decide) ?_
  refine s_istore_n (L2 := [some (AR 95), some (AI x1), some (AI x2), some (AI 0)]) E dX10_firstMeet_1 rfl (by decide) rfl ?_
  refine z_loop (St := Int32) (Pi := fun q2_3_0 v2 => (0 ≤ q2_3_0.toInt ∧ q2_3_0.toInt ≤ 15) ∧ w = v2) (Lf := fun q2_3_0 => [some (AR 95), some (AI x1), some (AI x2), some (AI q2_3_0)]) (fun q2_3_0 _ => (16 - q2_3_0.toInt).toNat) 0 ⟨⟨by decide, by decide⟩, rfl⟩ ?_
  rintro q2_3_0 v2 ⟨hq2_3, hv_⟩ ih2
  subst hv_
  refine s_loc (L2 := [some (AR 95), some (AI x1), some (AI x2), some (AI q2_3_0)]) rfl ?_
  refine s_iload_n E dX10_firstMeet_2 rfl rfl ?_
  refine s_aload_n E dX10_firstMeet_3 rfl rfl ?_
  refine s_vI (As := []) (S := [AI q2_3_0]) E (Z_X10_dances_95 l D aC b w  hJ.1 ) cv_X10_247 rfl rfl rfl (jv_lt hJ (by decide)) (Nat.le_of_ble_eq_true rfl) (Nat.le_of_ble_eq_true rfl) ⟨(Nat.le_of_ble_eq_true rfl), (Nat.le_of_ble_eq_true rfl)⟩ (Nat.le_of_ble_eq_true rfl) dX10_firstMeet_4 (fun z_4 u_2 hp_3 => ?_)
  obtain ⟨hz_4, hxz_4, hp_3⟩ := hp_3
  subst hp_3
  refine z_icmp_gt (tgt := 28) (u := q2_3_0.toInt) (v := z_4.toInt) E dX10_firstMeet_7 (by decide) rfl rfl (fun h_6 => ?_) (fun h_6 => ?_)
  ·
    refine s_iconst (v := (-1)) E dX10_firstMeet_28 (by decide) ?_
    exact r_int E dX10_firstMeet_29 ⟨(by decide), rfl⟩
  ·
    refine s_aload_n E dX10_firstMeet_10 rfl rfl ?_
    refine s_iload_n E dX10_firstMeet_11 rfl rfl ?_
    refine s_iload_n E dX10_firstMeet_12 rfl rfl ?_
    refine s_iload_n E dX10_firstMeet_13 rfl rfl ?_
    refine s_vI (As := [AI x1, AI x2, AI q2_3_0]) (S := []) E (Z_X10_doMeet_95 l D aC b w x1 x2 q2_3_0 hJ.1 ⟨by have hb_ := z32 x1; omega, by have hb_ := z32 x1; omega⟩ ⟨by have hb_ := z32 x2; omega, by have hb_ := z32 x2; omega⟩ ⟨by have hb_ := z32 q2_3_0; omega, by have hb_ := z32 q2_3_0; omega⟩) cv_X10_303 rfl rfl rfl (jv_lt hJ (by decide)) (Nat.le_of_ble_eq_true rfl) (Nat.le_of_ble_eq_true rfl) ⟨(Nat.le_of_ble_eq_true rfl), (Nat.le_of_ble_eq_true rfl)⟩ (Nat.le_of_ble_eq_true rfl) dX10_firstMeet_14 (fun z_9 u_7 hp_8 => ?_)
    obtain ⟨hz_9, hp_8⟩ := hp_8
    subst hp_8
    refine z_if_eq (tgt := 22) (u := z_9.toInt) E dX10_firstMeet_17 (by decide) rfl (fun h_11 => ?_) (fun h_11 => ?_)
    ·
      refine z_iinc (u := q2_3_0.toInt) (L2 := fun z_12 => [some (AR 95), some (AI x1), some (AI x2), some (AI z_12)]) E dX10_firstMeet_22 rfl rfl (by decide) (fun _ => rfl) (by decide) (by omega) (by omega) (fun z_12 hz_12 => ?_)
      refine s_goto (tgt := 2) E dX10_firstMeet_25 (by decide) ?_
      exact ih2 z_12 w ⟨⟨by have hb_ := z32 z_12; omega, by have hb_ := z32 z_12; omega⟩, rfl⟩ (by first | omega | decide | (dsimp only; omega) | (dsimp only; decide))
    ·
      refine s_iload_n E dX10_firstMeet_20 rfl rfl ?_
      exact r_int E dX10_firstMeet_21 ⟨⟨by have hb_ := z32 q2_3_0; omega, by have hb_ := z32 q2_3_0; omega⟩, rfl⟩
