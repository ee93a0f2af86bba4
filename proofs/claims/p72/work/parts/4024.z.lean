set_option maxRecDepth 20000 in
set_option maxHeartbeats 2000000 in
theorem Z_X10_carry_95 (l : Launch) (D : va_G) (aC : Nat → ClassId) (b : Nat) (w : XW) (x1 : Int32) (x2 : Int32) (x3 : Int32) (hI : Iv w)  : CnI l D aC b M_X10_carry 6 145 0 0 [AR 95, AI x1, AI x2, AI x3] w (fun r u => ((-2) ≤ r.toInt ∧ r.toInt ≤ 14 ∧ (¬ r.toInt = 0 ∨ (0 ≤ x1.toInt ∧ x1.toInt ≤ 5)) ∧ (¬ r.toInt = 0 ∨ (0 ≤ x2.toInt ∧ x2.toInt ≤ 5)) ∧ (¬ r.toInt = 0 ∨ (0 ≤ x3.toInt ∧ x3.toInt ≤ 5))) ∧ Jv w u) := by
  refine cn_I (own := RX10) (nm := "carry") (L0 := [some (AR 95), some (AI x1), some (AI x2), some (AI x3)]) (by decide +kernel) rfl rfl (Nat.le_of_ble_eq_true rfl) rfl ?_
  intro p e s m args below meth c E hin
  have hJ : Jv w w := jv_rfl hI
  have hb_x1 := z32 x1
  have hb_x2 := z32 x2
  have hb_x3 := z32 x3
  refine s_aload_n E dX10_carry_0 rfl rfl ?_
  refine s_iload_n E dX10_carry_1 rfl rfl ?_
  refine s_iload_n E dX10_carry_2 rfl rfl ?_
  refine s_iload_n E dX10_carry_3 rfl rfl ?_
  refine s_vI (As := [AI x1, AI x2, AI x3]) (S := []) E (Z_X10_asksCarry_95 l D aC b w x1 x2 x3 hJ.1 ) cv_X10_362 rfl rfl rfl (jv_lt hJ (by decide)) (Nat.le_of_ble_eq_true rfl) (Nat.le_of_ble_eq_true rfl) ⟨(Nat.le_of_ble_eq_true rfl), (Nat.le_of_ble_eq_true rfl)⟩ (Nat.le_of_ble_eq_true rfl) dX10_carry_4 (fun z_3 u_1 hp_2 => ?_)
  obtain ⟨hz_3, hxz_3, hp_2⟩ := hp_2
  have hj_4 := jv_trans hJ hp_2
  refine z_if_eq (tgt := 20) (u := z_3.toInt) E dX10_carry_7 (by decide) rfl (fun h_5 => ?_) (fun h_5 => ?_)
  ·
    refine s_bipush (v := (-2)) E dX10_carry_20 (by decide) ?_
    exact r_int E dX10_carry_22 ⟨⟨by decide, by decide, by first | (left; decide) | (right; decide) | (right; have hb_ := z32 x1; omega), by first | (left; decide) | (right; decide) | (right; have hb_ := z32 x2; omega), by first | (left; decide) | (right; decide) | (right; have hb_ := z32 x3; omega)⟩, hj_4⟩
  ·
    refine s_aload_n E dX10_carry_10 rfl rfl ?_
    refine s_iload_n E dX10_carry_11 rfl rfl ?_
    refine s_iload_n E dX10_carry_12 rfl rfl ?_
    refine s_iload_n E dX10_carry_13 rfl rfl ?_
    refine s_vI (As := [AI x1, AI x2, AI x3]) (S := []) E (Z_X10_layWalk_95 l D aC b u_1 x1 x2 x3 hj_4.1 ⟨by have hb_ := z32 x1; omega, by have hb_ := z32 x1; omega⟩ ⟨by have hb_ := z32 x2; omega, by have hb_ := z32 x2; omega⟩ ⟨by have hb_ := z32 x3; omega, by have hb_ := z32 x3; omega⟩ (by omega)) cv_X10_365 rfl rfl rfl (jv_lt hj_4 (by decide)) (Nat.le_of_ble_eq_true rfl) (Nat.le_of_ble_eq_true rfl) ⟨(Nat.le_of_ble_eq_true rfl), (Nat.le_of_ble_eq_true rfl)⟩ (Nat.le_of_ble_eq_true rfl) dX10_carry_14 (fun z_8 u_6 hp_7 => ?_)
    obtain ⟨hz_8, hp_7⟩ := hp_7
    have hj_9 := jv_trans hj_4 hp_7
    refine s_goto (tgt := 22) E dX10_carry_17 (by decide) ?_
    exact r_int E dX10_carry_22 ⟨⟨by have hb_ := z32 z_8; omega, by have hb_ := z32 z_8; omega, by first | (right; decide) | (have hb_ := z32 z_8; omega) | (have hb_ := z32 z_8; have hc_ := z32 x1; omega), by first | (right; decide) | (have hb_ := z32 z_8; omega) | (have hb_ := z32 z_8; have hc_ := z32 x2; omega), by first | (right; decide) | (have hb_ := z32 z_8; omega) | (have hb_ := z32 z_8; have hc_ := z32 x3; omega)⟩, hj_9⟩
set_option maxRecDepth 20000 in
set_option maxHeartbeats 2000000 in
theorem Z_X10_walk_95 (l : Launch) (D : va_G) (aC : Nat → ClassId) (b : Nat) (w : XW) (x1 : Int32) (x2 : Int32) (x3 : Int32) (x4 : Int32) (hI : Iv w)  : CnI l D aC b M_X10_walk 6 145 0 0 [AR 95, AI x1, AI x2, AI x3, AI x4] w (fun r u => ((-2) ≤ r.toInt ∧ r.toInt ≤ 7 ∧ (¬ r.toInt = 0 ∨ (0 ≤ x1.toInt ∧ x1.toInt ≤ 5)) ∧ (¬ r.toInt = 0 ∨ (0 ≤ x2.toInt ∧ x2.toInt ≤ 5)) ∧ (¬ r.toInt = 0 ∨ (0 ≤ x3.toInt ∧ x3.toInt ≤ 5)) ∧ (¬ r.toInt = 0 ∨ (0 ≤ x4.toInt ∧ x4.toInt ≤ 14))) ∧ Jv w u) := by
  refine cn_I (own := RX10) (nm := "walk") (L0 := [some (AR 95), some (AI x1), some (AI x2), some (AI x3), some (AI x4)]) (by decide +kernel) rfl rfl (Nat.le_of_ble_eq_true rfl) rfl ?_
  intro p e s m args below meth c E hin
  have hJ : Jv w w := jv_rfl hI
  have hb_x1 := z32 x1
  have hb_x2 := z32 x2
  have hb_x3 := z32 x3
  have hb_x4 := z32 x4
  refine s_aload_n E dX10_walk_0 rfl rfl ?_
  refine s_iload_n E dX10_walk_1 rfl rfl ?_
  refine s_iload_n E dX10_walk_2 rfl rfl ?_
  refine s_iload_n E dX10_walk_3 rfl rfl ?_
  refine s_vI (As := [AI x1, AI x2, AI x3]) (S := []) E (Z_X10_asksCarry_95 l D aC b w x1 x2 x3 hJ.1 ) cv_X10_362 rfl rfl rfl (jv_lt hJ (by decide)) (Nat.le_of_ble_eq_true rfl) (Nat.le_of_ble_eq_true rfl) ⟨(Nat.le_of_ble_eq_true rfl), (Nat.le_of_ble_eq_true rfl)⟩ (Nat.le_of_ble_eq_true rfl) dX10_walk_4 (fun z_3 u_1 hp_2 => ?_)
  obtain ⟨hz_3, hxz_3, hp_2⟩ := hp_2
  have hj_4 := jv_trans hJ hp_2
  refine z_if_eq (tgt := 20) (u := z_3.toInt) E dX10_walk_7 (by decide) rfl (fun h_5 => ?_) (fun h_5 => ?_)
  ·
    refine s_bipush (v := (-2)) E dX10_walk_20 (by decide) ?_
    exact r_int E dX10_walk_22 ⟨⟨by decide, by decide, by first | (left; decide) | (right; decide) | (right; have hb_ := z32 x1; omega), by first | (left; decide) | (right; decide) | (right; have hb_ := z32 x2; omega), by first | (left; decide) | (right; decide) | (right; have hb_ := z32 x3; omega), by first | (left; decide) | (right; decide) | (right; have hb_ := z32 x4; omega)⟩, hj_4⟩
  ·
    refine s_aload_n E dX10_walk_10 rfl rfl ?_
    refine s_iload E dX10_walk_11 rfl ?_
    refine z_i2l (u := x4.toInt) E dX10_walk_13 rfl (fun z_6 hz_6 => ?_)
    refine s_vI (As := [AL z_6]) (S := []) E (Z_X10_isDance_95 l D aC b u_1 z_6 hj_4.1 ) cv_X10_282 rfl rfl rfl (jv_lt hj_4 (by decide)) (Nat.le_of_ble_eq_true rfl) (Nat.le_of_ble_eq_true rfl) ⟨(Nat.le_of_ble_eq_true rfl), (Nat.le_of_ble_eq_true rfl)⟩ (Nat.le_of_ble_eq_true rfl) dX10_walk_14 (fun z_9 u_7 hp_8 => ?_)
    obtain ⟨hz_9, hp_8⟩ := hp_8
    subst hp_8
    refine z_if_ne (tgt := 23) (u := z_9.toInt) E dX10_walk_17 (by decide) rfl (fun h_11 => ?_) (fun h_11 => ?_)
    ·
      refine s_aload_n E dX10_walk_23 rfl rfl ?_
      refine s_iload_n E dX10_walk_24 rfl rfl ?_
      refine s_iload_n E dX10_walk_25 rfl rfl ?_
      refine s_iload_n E dX10_walk_26 rfl rfl ?_
      refine s_vI (As := [AI x1, AI x2, AI x3]) (S := []) E (Z_X10_layWalk_95 l D aC b u_1 x1 x2 x3 hj_4.1 ⟨by have hb_ := z32 x1; omega, by have hb_ := z32 x1; omega⟩ ⟨by have hb_ := z32 x2; omega, by have hb_ := z32 x2; omega⟩ ⟨by have hb_ := z32 x3; omega, by have hb_ := z32 x3; omega⟩ (by omega)) cv_X10_365 rfl rfl rfl (jv_lt hj_4 (by decide)) (Nat.le_of_ble_eq_true rfl) (Nat.le_of_ble_eq_true rfl) ⟨(Nat.le_of_ble_eq_true rfl), (Nat.le_of_ble_eq_true rfl)⟩ (Nat.le_of_ble_eq_true rfl) dX10_walk_27 (fun z_14 u_12 hp_13 => ?_)
      obtain ⟨hz_14, hp_13⟩ := hp_13
      have hj_15 := jv_trans hj_4 hp_13
      refine s_iconst (v := (-1)) E dX10_walk_30 (by decide) ?_
      refine z_icmp_ne (tgt := 38) (u := z_14.toInt) (v := (-1)) E dX10_walk_31 (by decide) rfl (by decide) (fun h_16 => ?_) (fun h_16 => ?_)
      ·
        refine s_aload_n E dX10_walk_38 rfl rfl ?_
        refine s_gR (r := 110) E fg_X10_58 rfl rfl (jv_lt hj_15 (by decide)) (jv_r hj_15 (by decide +kernel)) dX10_walk_39 ?_
        refine s_iload E dX10_walk_42 rfl ?_
        refine s_iald E rfl (jv_lt hj_15 (by decide)) (z_in (u := x4.toInt) rfl (by omega) (by omega)) dX10_walk_44 ?_
        refine z_nm (P := fun z => z.toInt = (u_12.2.2.1 110 x4.toNatClampNeg).toInt ∧ 0 ≤ z.toInt ∧ z.toInt ≤ 7) ⟨rfl, (ra_110 hj_15 _)⟩ (fun z_17 hz_17 => ?_)
        exact r_int E dX10_walk_45 ⟨⟨by have hb_ := z32 z_17; omega, by have hb_ := z32 z_17; omega, by first | (right; decide) | (have hb_ := z32 z_17; omega) | (have hb_ := z32 z_17; have hc_ := z32 x1; omega), by first | (right; decide) | (have hb_ := z32 z_17; omega) | (have hb_ := z32 z_17; have hc_ := z32 x2; omega), by first | (right; decide) | (have hb_ := z32 z_17; omega) | (have hb_ := z32 z_17; have hc_ := z32 x3; omega), by first | (right; decide) | (have hb_ := z32 z_17; omega) | (have hb_ := z32 z_17; have hc_ := z32 x4; omega)⟩, hj_15⟩
      ·
        refine s_iconst (v := (-1)) E dX10_walk_34 (by decide) ?_
        refine s_goto (tgt := 45) E dX10_walk_35 (by decide) ?_
        exact r_int E dX10_walk_45 ⟨⟨by decide, by decide, by first | (left; decide) | (right; decide) | (right; have hb_ := z32 x1; omega), by first | (left; decide) | (right; decide) | (right; have hb_ := z32 x2; omega), by first | (left; decide) | (right; decide) | (right; have hb_ := z32 x3; omega), by first | (left; decide) | (right; decide) | (right; have hb_ := z32 x4; omega)⟩, hj_15⟩
    ·
      refine s_bipush (v := (-2)) E dX10_walk_20 (by decide) ?_
      exact r_int E dX10_walk_22 ⟨⟨by decide, by decide, by first | (left; decide) | (right; decide) | (right; have hb_ := z32 x1; omega), by first | (left; decide) | (right; decide) | (right; have hb_ := z32 x2; omega), by first | (left; decide) | (right; decide) | (right; have hb_ := z32 x3; omega), by first | (left; decide) | (right; decide) | (right; have hb_ := z32 x4; omega)⟩, hj_4⟩
set_option maxRecDepth 20000 in
set_option maxHeartbeats 2000000 in
theorem Z_X10_haveWith_95 (l : Launch) (D : va_G) (aC : Nat → ClassId) (b : Nat) (w : XW) (x1 : Int32) (x2 : Int32) (x3 : Int32) (hI : Iv w) (hx1 : 0 ≤ x1.toInt ∧ x1.toInt ≤ 5) : CnI l D aC b M_X10_haveWith 5 117 0 0 [AR 95, AI x1, AI x2, AI x3] w (fun r u => ((-2147483648) ≤ r.toInt ∧ r.toInt ≤ 2147483647) ∧ Jv w u) := by
  refine cn_I (own := RX10) (nm := "haveWith") (L0 := [some (AR 95), some (AI x1), some (AI x2), some (AI x3)]) (by decide +kernel) rfl rfl (Nat.le_of_ble_eq_true rfl) rfl ?_
  intro p e s m args below meth c E hin
  have hJ : Jv w w := jv_rfl hI
  have hb_x2 := z32 x2
  have hb_x3 := z32 x3
  refine s_aload_n E dX10_haveWith_0 rfl rfl ?_
  refine s_iload_n E dX10_haveWith_1 rfl rfl ?_
  refine s_pI E fp_X10_227 (Or.inl rfl) rfl (jv_lt hJ (by decide)) dX10_haveWith_2 ?_
  refine s_gen (P := Jv w) (jv_f_95_16 hJ (by have hb_ := z32 x2; omega) (by have hb_ := z32 x2; omega)) (fun v_1 hj_2 => ?_)
  refine s_aload_n E dX10_haveWith_5 rfl rfl ?_
  refine s_iload_n E dX10_haveWith_6 rfl rfl ?_
  refine s_pI E fp_X10_230 (Or.inl rfl) rfl (jv_lt hj_2 (by decide)) dX10_haveWith_7 ?_
  refine s_gen (P := Jv w) (jv_f_95_17 hj_2 (by have hb_ := z32 x3; omega) (by have hb_ := z32 x3; omega)) (fun v_3 hj_4 => ?_)
  refine s_aload_n E dX10_haveWith_10 rfl rfl ?_
  refine s_vV (As := []) (S := []) E (Z_X10_layPlaces_95 l D aC b v_3  hj_4.1 ) cv_X10_276 rfl rfl rfl (jv_lt hj_4 (by decide)) (Nat.le_of_ble_eq_true rfl) (Nat.le_of_ble_eq_true rfl) ⟨(Nat.le_of_ble_eq_true rfl), (Nat.le_of_ble_eq_true rfl)⟩ (Nat.le_of_ble_eq_true rfl) dX10_haveWith_11 (fun u_5 hp_6 => ?_)
  have hj_7 := jv_trans hj_4 hp_6
  refine s_aload_n E dX10_haveWith_14 rfl rfl ?_
  refine s_iload_n E dX10_haveWith_15 rfl rfl ?_
  refine s_vI (As := [AI x1]) (S := []) E (Z_X10_goNote__95 l D aC b u_5 x1 hj_7.1 ⟨by have hb_ := z32 x1; omega, by have hb_ := z32 x1; omega⟩) cv_X10_338 rfl rfl rfl (jv_lt hj_7 (by decide)) (Nat.le_of_ble_eq_true rfl) (Nat.le_of_ble_eq_true rfl) ⟨(Nat.le_of_ble_eq_true rfl), (Nat.le_of_ble_eq_true rfl)⟩ (Nat.le_of_ble_eq_true rfl) dX10_haveWith_16 (fun z_10 u_8 hp_9 => ?_)
  obtain ⟨hz_10, hxz_10, hf_u_8_96, hp_9⟩ := hp_9
  have hj_11 := jv_trans hj_7 hp_9
  exact r_int E dX10_haveWith_19 ⟨⟨by have hb_ := z32 z_10; omega, by have hb_ := z32 z_10; omega⟩, hj_11⟩
set_option maxRecDepth 20000 in
set_option maxHeartbeats 2000000 in
theorem Z_X10_widen_95 (l : Launch) (D : va_G) (aC : Nat → ClassId) (b : Nat) (w : XW) (x1 : Int32) (x2 : Int32) (hI : Iv w)  : CnI l D aC b M_X10_widen 6 140 0 0 [AR 95, AI x1, AI x2] w (fun r u => ((-2) ≤ r.toInt ∧ r.toInt ≤ 64) ∧ Jv w u) := by
  refine cn_I (own := RX10) (nm := "widen") (L0 := [some (AR 95), some (AI x1), some (AI x2), none, none, none, none]) (by decide +kernel) rfl rfl (Nat.le_of_ble_eq_true rfl) rfl ?_
  intro p e s m args below meth c E hin
  have hJ : Jv w w := jv_rfl hI
  have hb_x1 := z32 x1
  have hb_x2 := z32 x2
  refine s_aload_n E dX10_widen_0 rfl rfl ?_
  refine s_iload_n E dX10_widen_1 rfl rfl ?_
  refine s_vI (As := [AI x1]) (S := []) E (Z_X10_asksLady_95 l D aC b w x1 hJ.1 ) cv_X10_288 rfl rfl rfl (jv_lt hJ (by decide)) (Nat.le_of_ble_eq_true rfl) (Nat.le_of_ble_eq_true rfl) ⟨(Nat.le_of_ble_eq_true rfl), (Nat.le_of_ble_eq_true rfl)⟩ (Nat.le_of_ble_eq_true rfl) dX10_widen_2 (fun z_3 u_1 hp_2 => ?_)
  obtain ⟨hz_3, hxz_3, hp_2⟩ := hp_2
  have hj_4 := jv_trans hJ hp_2
  refine z_if_eq (tgt := 16) (u := z_3.toInt) E dX10_widen_5 (by decide) rfl (fun h_5 => ?_) (fun h_5 => ?_)
  ·
    refine s_bipush (v := (-2)) E dX10_widen_16 (by decide) ?_
    exact r_int E dX10_widen_18 ⟨(by decide), hj_4⟩
  ·
    refine s_aload_n E dX10_widen_8 rfl rfl ?_
    refine s_iload_n E dX10_widen_9 rfl rfl ?_
    refine s_vI (As := [AI x2]) (S := []) E (Z_X10_isDoor_95 l D aC b u_1 x2 hj_4.1 ) cv_X10_218 rfl rfl rfl (jv_lt hj_4 (by decide)) (Nat.le_of_ble_eq_true rfl) (Nat.le_of_ble_eq_true rfl) ⟨(Nat.le_of_ble_eq_true rfl), (Nat.le_of_ble_eq_true rfl)⟩ (Nat.le_of_ble_eq_true rfl) dX10_widen_10 (fun z_8 u_6 hp_7 => ?_)
    obtain ⟨hz_8, hp_7⟩ := hp_7
    subst hp_7
    refine z_if_ne (tgt := 19) (u := z_8.toInt) E dX10_widen_13 (by decide) rfl (fun h_10 => ?_) (fun h_10 => ?_)
    ·
      refine s_iconst (v := 1) E dX10_widen_19 (by decide) ?_
      refine s_istore_n (L2 := [some (AR 95), some (AI x1), some (AI x2), some (AI 1), none, none, none]) E dX10_widen_20 rfl (by decide) rfl ?_
      refine s_iconst (v := 0) E dX10_widen_21 (by decide) ?_
      refine s_istore (L2 := [some (AR 95), some (AI x1), some (AI x2), some (AI 1), some (AI 0), none, none]) E dX10_widen_22 (by decide) rfl ?_
      refine s_iconst (v := 1) E dX10_widen_24 (by decide) ?_
      refine s_istore (L2 := [some (AR 95), some (AI x1), some (AI x2), some (AI 1), some (AI 0), some (AI 1), none]) E dX10_widen_25 (by decide) rfl ?_
      refine z_loop (St := Int32 × Int32 × Int32) (Pi := fun ⟨q27_3_10, q27_4_10, q27_5_10⟩ v27 => (1 ≤ q27_3_10.toInt ∧ q27_3_10.toInt ≤ 64) ∧ (0 ≤ q27_4_10.toInt ∧ q27_4_10.toInt ≤ 2147483647) ∧ (1 ≤ q27_5_10.toInt ∧ q27_5_10.toInt ≤ 10) ∧ Jv w v27) (Lf := fun ⟨q27_3_10, q27_4_10, q27_5_10⟩ => [some (AR 95), some (AI x1), some (AI x2), some (AI q27_3_10), some (AI q27_4_10), some (AI q27_5_10), none]) (fun ⟨q27_3_10, q27_4_10, q27_5_10⟩ _ => (11 - q27_5_10.toInt).toNat) ⟨1, 0, 1⟩ ⟨⟨by decide, by decide⟩, ⟨by decide, by decide⟩, ⟨by decide, by decide⟩, hj_4⟩ ?_
      rintro ⟨q27_3_10, q27_4_10, q27_5_10⟩ v27 ⟨hq27_3, hq27_4, hq27_5, hj_11⟩ ih27
      refine s_loc (L2 := [some (AR 95), some (AI x1), some (AI x2), some (AI q27_3_10), some (AI q27_4_10), some (AI q27_5_10), none]) rfl ?_
      refine s_iload E dX10_widen_27 rfl ?_
      refine s_bipush (v := 9) E dX10_widen_29 (by decide) ?_
      refine z_icmp_gt (tgt := 70) (u := q27_5_10.toInt) (v := 9) E dX10_widen_31 (by decide) rfl (by decide) (fun h_12 => ?_) (fun h_12 => ?_)
      ·
        refine s_iload_n E dX10_widen_70 rfl rfl ?_
        exact r_int E dX10_widen_71 ⟨⟨by have hb_ := z32 q27_3_10; omega, by have hb_ := z32 q27_3_10; omega⟩, hj_11⟩
      ·
        refine s_aload_n E dX10_widen_34 rfl rfl ?_
        refine s_iload_n E dX10_widen_35 rfl rfl ?_
        refine s_iload_n E dX10_widen_36 rfl rfl ?_
        refine s_iload E dX10_widen_37 rfl ?_
        refine s_vI (As := [AI x1, AI x2, AI q27_5_10]) (S := []) E (Z_X10_haveWith_95 l D aC b v27 x1 x2 q27_5_10 hj_11.1 ⟨by have hb_ := z32 x1; omega, by have hb_ := z32 x1; omega⟩) cv_X10_368 rfl rfl rfl (jv_lt hj_11 (by decide)) (Nat.le_of_ble_eq_true rfl) (Nat.le_of_ble_eq_true rfl) ⟨(Nat.le_of_ble_eq_true rfl), (Nat.le_of_ble_eq_true rfl)⟩ (Nat.le_of_ble_eq_true rfl) dX10_widen_39 (fun z_15 u_13 hp_14 => ?_)
        obtain ⟨hz_15, hp_14⟩ := hp_14
        have hj_16 := jv_trans hj_11 hp_14
        refine s_sI (As := [AI z_15]) (S := []) E (Z_X10_bits l D aC b u_13 z_15 hj_16.1 ) cs_X10_319 rfl rfl (Nat.le_of_ble_eq_true rfl) (Nat.le_of_ble_eq_true rfl) ⟨(Nat.le_of_ble_eq_true rfl), (Nat.le_of_ble_eq_true rfl)⟩ (Nat.le_of_ble_eq_true rfl) dX10_widen_42 (fun z_19 u_17 hp_18 => ?_)
        obtain ⟨hz_19, hp_18⟩ := hp_18
        subst hp_18
        refine s_istore (L2 := [some (AR 95), some (AI x1), some (AI x2), some (AI q27_3_10), some (AI q27_4_10), some (AI q27_5_10), some (AI z_19)]) E dX10_widen_45 (by decide) rfl ?_
        refine s_iload E dX10_widen_47 rfl ?_
        refine s_iload E dX10_widen_49 rfl ?_
        refine z_icmp_gt (tgt := 57) (u := z_19.toInt) (v := q27_4_10.toInt) E dX10_widen_51 (by decide) rfl rfl (fun h_21 => ?_) (fun h_21 => ?_)
        ·
          refine s_iload E dX10_widen_57 rfl ?_
          refine s_istore (L2 := [some (AR 95), some (AI x1), some (AI x2), some (AI q27_3_10), some (AI z_19), some (AI q27_5_10), some (AI z_19)]) E dX10_widen_59 (by decide) rfl ?_
          refine s_iload E dX10_widen_61 rfl ?_
          refine s_istore_n (L2 := [some (AR 95), some (AI x1), some (AI x2), some (AI q27_5_10), some (AI z_19), some (AI q27_5_10), some (AI z_19)]) E dX10_widen_63 rfl (by decide) rfl ?_
          refine z_iinc (u := q27_5_10.toInt) (L2 := fun z_22 => [some (AR 95), some (AI x1), some (AI x2), some (AI q27_5_10), some (AI z_19), some (AI z_22), some (AI z_19)]) E dX10_widen_64 rfl rfl (by decide) (fun _ => rfl) (by decide) (by omega) (by omega) (fun z_22 hz_22 => ?_)
          refine s_goto (tgt := 27) E dX10_widen_67 (by decide) ?_
          refine s_drop (i := 6) (L2 := [some (AR 95), some (AI x1), some (AI x2), some (AI q27_5_10), some (AI z_19), some (AI z_22), none]) rfl ?_
          exact ih27 ⟨q27_5_10, z_19, z_22⟩ u_13 ⟨⟨by have hb_ := z32 q27_5_10; omega, by have hb_ := z32 q27_5_10; omega⟩, ⟨by have hb_ := z32 z_19; omega, by have hb_ := z32 z_19; omega⟩, ⟨by have hb_ := z32 z_22; omega, by have hb_ := z32 z_22; omega⟩, hj_16⟩ (by first | omega | decide | (dsimp only; omega) | (dsimp only; decide))
        ·
          refine s_goto (tgt := 64) E dX10_widen_54 (by decide) ?_
          refine z_iinc (u := q27_5_10.toInt) (L2 := fun z_23 => [some (AR 95), some (AI x1), some (AI x2), some (AI q27_3_10), some (AI q27_4_10), some (AI z_23), some (AI z_19)]) E dX10_widen_64 rfl rfl (by decide) (fun _ => rfl) (by decide) (by omega) (by omega) (fun z_23 hz_23 => ?_)
          refine s_goto (tgt := 27) E dX10_widen_67 (by decide) ?_
          refine s_drop (i := 6) (L2 := [some (AR 95), some (AI x1), some (AI x2), some (AI q27_3_10), some (AI q27_4_10), some (AI z_23), none]) rfl ?_
          exact ih27 ⟨q27_3_10, q27_4_10, z_23⟩ u_13 ⟨⟨by have hb_ := z32 q27_3_10; omega, by have hb_ := z32 q27_3_10; omega⟩, ⟨by have hb_ := z32 q27_4_10; omega, by have hb_ := z32 q27_4_10; omega⟩, ⟨by have hb_ := z32 z_23; omega, by have hb_ := z32 z_23; omega⟩, hj_16⟩ (by first | omega | decide | (dsimp only; omega) | (dsimp only; decide))
    ·
      refine s_bipush (v := (-2)) E dX10_widen_16 (by decide) ?_
      exact r_int E dX10_widen_18 ⟨(by decide), hj_4⟩
set_option maxRecDepth 20000 in
set_option maxHeartbeats 2000000 in
theorem Z_X10_shut_95 (l : Launch) (D : va_G) (aC : Nat → ClassId) (b : Nat) (w : XW) (x1 : Int32) (x2 : Int32) (hI : Iv w)  : CnI l D aC b M_X10_shut 6 140 0 0 [AR 95, AI x1, AI x2] w (fun r u => ((-2147483648) ≤ r.toInt ∧ r.toInt ≤ 2147483647 ∧ (¬ r.toInt = 0 ∨ (0 ≤ x1.toInt ∧ x1.toInt ≤ 5)) ∧ (¬ r.toInt = 0 ∨ (0 ≤ x2.toInt ∧ x2.toInt ≤ 11))) ∧ Jv w u) := by
  refine cn_I (own := RX10) (nm := "shut") (L0 := [some (AR 95), some (AI x1), some (AI x2)]) (by decide +kernel) rfl rfl (Nat.le_of_ble_eq_true rfl) rfl ?_
  intro p e s m args below meth c E hin
  have hJ : Jv w w := jv_rfl hI
  have hb_x1 := z32 x1
  have hb_x2 := z32 x2
  refine s_aload_n E dX10_shut_0 rfl rfl ?_
  refine s_iload_n E dX10_shut_1 rfl rfl ?_
  refine s_vI (As := [AI x1]) (S := []) E (Z_X10_asksLady_95 l D aC b w x1 hJ.1 ) cv_X10_288 rfl rfl rfl (jv_lt hJ (by decide)) (Nat.le_of_ble_eq_true rfl) (Nat.le_of_ble_eq_true rfl) ⟨(Nat.le_of_ble_eq_true rfl), (Nat.le_of_ble_eq_true rfl)⟩ (Nat.le_of_ble_eq_true rfl) dX10_shut_2 (fun z_3 u_1 hp_2 => ?_)
  obtain ⟨hz_3, hxz_3, hp_2⟩ := hp_2
  have hj_4 := jv_trans hJ hp_2
  refine z_if_eq (tgt := 26) (u := z_3.toInt) E dX10_shut_5 (by decide) rfl (fun h_5 => ?_) (fun h_5 => ?_)
  ·
    refine s_bipush (v := (-2)) E dX10_shut_26 (by decide) ?_
    exact r_int E dX10_shut_28 ⟨⟨by decide, by decide, by first | (left; decide) | (right; decide) | (right; have hb_ := z32 x1; omega), by first | (left; decide) | (right; decide) | (right; have hb_ := z32 x2; omega)⟩, hj_4⟩
  ·
    refine s_aload_n E dX10_shut_8 rfl rfl ?_
    refine s_iload_n E dX10_shut_9 rfl rfl ?_
    refine s_vI (As := [AI x2]) (S := []) E (Z_X10_isDoor_95 l D aC b u_1 x2 hj_4.1 ) cv_X10_218 rfl rfl rfl (jv_lt hj_4 (by decide)) (Nat.le_of_ble_eq_true rfl) (Nat.le_of_ble_eq_true rfl) ⟨(Nat.le_of_ble_eq_true rfl), (Nat.le_of_ble_eq_true rfl)⟩ (Nat.le_of_ble_eq_true rfl) dX10_shut_10 (fun z_8 u_6 hp_7 => ?_)
    obtain ⟨hz_8, hp_7⟩ := hp_7
    subst hp_7
    refine z_if_eq (tgt := 26) (u := z_8.toInt) E dX10_shut_13 (by decide) rfl (fun h_10 => ?_) (fun h_10 => ?_)
    ·
      refine s_bipush (v := (-2)) E dX10_shut_26 (by decide) ?_
      exact r_int E dX10_shut_28 ⟨⟨by decide, by decide, by first | (left; decide) | (right; decide) | (right; have hb_ := z32 x1; omega), by first | (left; decide) | (right; decide) | (right; have hb_ := z32 x2; omega)⟩, hj_4⟩
    ·
      refine s_aload_n E dX10_shut_16 rfl rfl ?_
      refine s_iload_n E dX10_shut_17 rfl rfl ?_
      refine s_iload_n E dX10_shut_18 rfl rfl ?_
      refine s_iconst (v := 0) E dX10_shut_19 (by decide) ?_
      refine s_vI (As := [AI x1, AI x2, AI 0]) (S := []) E (Z_X10_haveWith_95 l D aC b u_1 x1 x2 0 hj_4.1 ⟨by have hb_ := z32 x1; omega, by have hb_ := z32 x1; omega⟩) cv_X10_368 rfl rfl rfl (jv_lt hj_4 (by decide)) (Nat.le_of_ble_eq_true rfl) (Nat.le_of_ble_eq_true rfl) ⟨(Nat.le_of_ble_eq_true rfl), (Nat.le_of_ble_eq_true rfl)⟩ (Nat.le_of_ble_eq_true rfl) dX10_shut_20 (fun z_13 u_11 hp_12 => ?_)
      obtain ⟨hz_13, hp_12⟩ := hp_12
      have hj_14 := jv_trans hj_4 hp_12
      refine s_goto (tgt := 28) E dX10_shut_23 (by decide) ?_
      exact r_int E dX10_shut_28 ⟨⟨by have hb_ := z32 z_13; omega, by have hb_ := z32 z_13; omega, by first | (right; decide) | (have hb_ := z32 z_13; omega) | (have hb_ := z32 z_13; have hc_ := z32 x1; omega), by first | (right; decide) | (have hb_ := z32 z_13; omega) | (have hb_ := z32 z_13; have hc_ := z32 x2; omega)⟩, hj_14⟩
set_option maxRecDepth 20000 in
set_option maxHeartbeats 2000000 in
theorem Z_X10_bars_95 (l : Launch) (D : va_G) (aC : Nat → ClassId) (b : Nat) (w : XW) (x1 : Int32) (x2 : Int32) (x3 : Int32) (hI : Iv w)  : CnI l D aC b M_X10_bars 4 92 0 0 [AR 95, AI x1, AI x2, AI x3] w (fun r u => ((-2) ≤ r.toInt ∧ r.toInt ≤ 9 ∧ (¬ r.toInt = 0 ∨ (0 ≤ x1.toInt ∧ x1.toInt ≤ 5)) ∧ (¬ r.toInt = 0 ∨ (0 ≤ x2.toInt ∧ x2.toInt ≤ 7)) ∧ (¬ r.toInt = 0 ∨ (0 ≤ x3.toInt ∧ x3.toInt ≤ 7)) ∧ (¬ r.toInt = 0 ∨ (0 ≤ (w.2.2.1 96 5).toInt ∧ (w.2.2.1 96 5).toInt ≤ 6)) ∧ (¬ r.toInt = 0 ∨ (0 ≤ (w.2.2.1 96 0).toInt ∧ (w.2.2.1 96 0).toInt ≤ 8)) ∧ (r.toInt = 0 ∨ (0 ≤ (w.2.2.1 96 5).toInt ∧ (w.2.2.1 96 5).toInt ≤ 6))) ∧ Jv w u) := by
  refine cn_I (own := RX10) (nm := "bars") (L0 := [some (AR 95), some (AI x1), some (AI x2), some (AI x3)]) (by decide +kernel) rfl rfl (Nat.le_of_ble_eq_true rfl) rfl ?_
  intro p e s m args below meth c E hin
  have hJ : Jv w w := jv_rfl hI
  have hb_x1 := z32 x1
  have hb_x2 := z32 x2
  have hb_x3 := z32 x3
  refine s_aload_n E dX10_bars_0 rfl rfl ?_
  refine s_iload_n E dX10_bars_1 rfl rfl ?_
  refine z_i2l (u := x1.toInt) E dX10_bars_2 rfl (fun z_1 hz_1 => ?_)
  refine s_vI (As := [AL z_1]) (S := []) E (Z_X10_isLady_95 l D aC b w z_1 hJ.1 ) cv_X10_222 rfl rfl rfl (jv_lt hJ (by decide)) (Nat.le_of_ble_eq_true rfl) (Nat.le_of_ble_eq_true rfl) ⟨(Nat.le_of_ble_eq_true rfl), (Nat.le_of_ble_eq_true rfl)⟩ (Nat.le_of_ble_eq_true rfl) dX10_bars_3 (fun z_4 u_2 hp_3 => ?_)
  obtain ⟨hz_4, hxz_4, hp_3⟩ := hp_3
  subst hp_3
  refine z_if_eq (tgt := 25) (u := z_4.toInt) E dX10_bars_6 (by decide) rfl (fun h_6 => ?_) (fun h_6 => ?_)
  ·
    refine s_bipush (v := (-2)) E dX10_bars_25 (by decide) ?_
    exact r_int E dX10_bars_27 ⟨⟨by decide, by decide, by first | (left; decide) | (right; decide) | (right; have hb_ := z32 x1; omega), by first | (left; decide) | (right; decide) | (right; have hb_ := z32 x2; omega), by first | (left; decide) | (right; decide) | (right; have hb_ := z32 x3; omega), by first | (left; decide) | (right; decide) | (right; have hb_ := z32 (w.2.2.1 96 5); omega), by first | (left; decide) | (right; decide) | (right; have hb_ := z32 (w.2.2.1 96 0); omega), by first | (left; decide) | (right; decide) | (right; have hb_ := z32 (w.2.2.1 96 5); omega)⟩, hJ⟩
  ·
    refine s_aload_n E dX10_bars_9 rfl rfl ?_
    refine s_iload_n E dX10_bars_10 rfl rfl ?_
    refine s_vI (As := [AI x2]) (S := []) E (Z_X10_isRoom_95 l D aC b w x2 hJ.1 ) cv_X10_291 rfl rfl rfl (jv_lt hJ (by decide)) (Nat.le_of_ble_eq_true rfl) (Nat.le_of_ble_eq_true rfl) ⟨(Nat.le_of_ble_eq_true rfl), (Nat.le_of_ble_eq_true rfl)⟩ (Nat.le_of_ble_eq_true rfl) dX10_bars_11 (fun z_9 u_7 hp_8 => ?_)
    obtain ⟨hz_9, hp_8⟩ := hp_8
    subst hp_8
    refine z_if_eq (tgt := 25) (u := z_9.toInt) E dX10_bars_14 (by decide) rfl (fun h_11 => ?_) (fun h_11 => ?_)
    ·
      refine s_bipush (v := (-2)) E dX10_bars_25 (by decide) ?_
      exact r_int E dX10_bars_27 ⟨⟨by decide, by decide, by first | (left; decide) | (right; decide) | (right; have hb_ := z32 x1; omega), by first | (left; decide) | (right; decide) | (right; have hb_ := z32 x2; omega), by first | (left; decide) | (right; decide) | (right; have hb_ := z32 x3; omega), by first | (left; decide) | (right; decide) | (right; have hb_ := z32 (w.2.2.1 96 5); omega), by first | (left; decide) | (right; decide) | (right; have hb_ := z32 (w.2.2.1 96 0); omega), by first | (left; decide) | (right; decide) | (right; have hb_ := z32 (w.2.2.1 96 5); omega)⟩, hJ⟩
    ·
      refine s_aload_n E dX10_bars_17 rfl rfl ?_
      refine s_iload_n E dX10_bars_18 rfl rfl ?_
      refine s_vI (As := [AI x3]) (S := []) E (Z_X10_isRoom_95 l D aC b w x3 hJ.1 ) cv_X10_291 rfl rfl rfl (jv_lt hJ (by decide)) (Nat.le_of_ble_eq_true rfl) (Nat.le_of_ble_eq_true rfl) ⟨(Nat.le_of_ble_eq_true rfl), (Nat.le_of_ble_eq_true rfl)⟩ (Nat.le_of_ble_eq_true rfl) dX10_bars_19 (fun z_14 u_12 hp_13 => ?_)
      obtain ⟨hz_14, hp_13⟩ := hp_13
      subst hp_13
      refine z_if_ne (tgt := 28) (u := z_14.toInt) E dX10_bars_22 (by decide) rfl (fun h_16 => ?_) (fun h_16 => ?_)
      ·
        refine s_iload_n E dX10_bars_28 rfl rfl ?_
        refine s_iload_n E dX10_bars_29 rfl rfl ?_
        refine z_icmp_ne (tgt := 35) (u := x2.toInt) (v := x3.toInt) E dX10_bars_30 (by decide) rfl rfl (fun h_17 => ?_) (fun h_17 => ?_)
        ·
          refine s_aload_n E dX10_bars_35 rfl rfl ?_
          refine s_vV (As := []) (S := []) E (Z_X10_asItIs_95 l D aC b w  hJ.1 ) cv_X10_279 rfl rfl rfl (jv_lt hJ (by decide)) (Nat.le_of_ble_eq_true rfl) (Nat.le_of_ble_eq_true rfl) ⟨(Nat.le_of_ble_eq_true rfl), (Nat.le_of_ble_eq_true rfl)⟩ (Nat.le_of_ble_eq_true rfl) dX10_bars_36 (fun u_18 hp_19 => ?_)
          have hj_20 := jv_trans hJ hp_19
          refine s_aload_n E dX10_bars_39 rfl rfl ?_
          refine s_iconst (v := 1) E dX10_bars_40 (by decide) ?_
          refine s_iload_n E dX10_bars_41 rfl rfl ?_
          refine s_iload_n E dX10_bars_42 rfl rfl ?_
          refine s_vI (As := [AI 1, AI x2, AI x3]) (S := []) E (Z_X10_wayOf_95 l D aC b u_18 1 x2 x3 hj_20.1 (by decide) ⟨by have hb_ := z32 x2; omega, by have hb_ := z32 x2; omega⟩ ⟨by have hb_ := z32 x3; omega, by have hb_ := z32 x3; omega⟩) cv_X10_233 rfl rfl rfl (jv_lt hj_20 (by decide)) (Nat.le_of_ble_eq_true rfl) (Nat.le_of_ble_eq_true rfl) ⟨(Nat.le_of_ble_eq_true rfl), (Nat.le_of_ble_eq_true rfl)⟩ (Nat.le_of_ble_eq_true rfl) dX10_bars_43 (fun z_23 u_21 hp_22 => ?_)
          obtain ⟨hz_23, hxz_23, hp_22⟩ := hp_22
          have hc_ : (1 : Int32).toInt = 1 := by decide
          subst hp_22
          refine s_ldc E k_1513 rfl dX10_bars_46 ?_
          refine z_icmp_lt (tgt := 55) (u := z_23.toInt) (v := 1000000000) E dX10_bars_48 (by decide) rfl (by decide) (fun h_25 => ?_) (fun h_25 => ?_)
          ·
            refine s_aload_n E dX10_bars_55 rfl rfl ?_
            refine s_iload_n E dX10_bars_56 rfl rfl ?_
            refine s_vI (As := [AI x1]) (S := []) E (Z_X10_wideOf_95 l D aC b u_18 x1 hj_20.1 ⟨by have hb_ := z32 x1; omega, by have hb_ := z32 x1; omega⟩) cv_X10_238 rfl rfl rfl (jv_lt hj_20 (by decide)) (Nat.le_of_ble_eq_true rfl) (Nat.le_of_ble_eq_true rfl) ⟨(Nat.le_of_ble_eq_true rfl), (Nat.le_of_ble_eq_true rfl)⟩ (Nat.le_of_ble_eq_true rfl) dX10_bars_57 (fun z_28 u_26 hp_27 => ?_)
            obtain ⟨hz_28, hxz_28, hp_27⟩ := hp_27
            subst hp_27
            exact r_int E dX10_bars_60 ⟨⟨by have hb_ := z32 z_28; omega, by have hb_ := z32 z_28; omega, by first | (right; decide) | (have hb_ := z32 z_28; omega) | (have hb_ := z32 z_28; have hc_ := z32 x1; omega), by first | (right; decide) | (have hb_ := z32 z_28; omega) | (have hb_ := z32 z_28; have hc_ := z32 x2; omega), by first | (right; decide) | (have hb_ := z32 z_28; omega) | (have hb_ := z32 z_28; have hc_ := z32 x3; omega), by first | (right; decide) | (have hb_ := z32 z_28; omega) | (have hb_ := z32 z_28; have hc_ := z32 (w.2.2.1 96 5); omega), by first | (right; decide) | (have hb_ := z32 z_28; omega) | (have hb_ := z32 z_28; have hc_ := z32 (w.2.2.1 96 0); omega), by first | (right; decide) | (have hb_ := z32 z_28; omega) | (have hb_ := z32 z_28; have hc_ := z32 (w.2.2.1 96 5); omega)⟩, hj_20⟩
          ·
            refine s_iconst (v := (-1)) E dX10_bars_51 (by decide) ?_
            refine s_goto (tgt := 60) E dX10_bars_52 (by decide) ?_
            exact r_int E dX10_bars_60 ⟨⟨by decide, by decide, by first | (left; decide) | (right; decide) | (right; have hb_ := z32 x1; omega), by first | (left; decide) | (right; decide) | (right; have hb_ := z32 x2; omega), by first | (left; decide) | (right; decide) | (right; have hb_ := z32 x3; omega), by first | (left; decide) | (right; decide) | (right; have hb_ := z32 (w.2.2.1 96 5); omega), by first | (left; decide) | (right; decide) | (right; have hb_ := z32 (w.2.2.1 96 0); omega), by first | (left; decide) | (right; decide) | (right; have hb_ := z32 (w.2.2.1 96 5); omega)⟩, hj_20⟩
        ·
          refine s_iconst (v := 1) E dX10_bars_33 (by decide) ?_
          exact r_int E dX10_bars_34 ⟨⟨by decide, by decide, by first | (left; decide) | (right; decide) | (right; have hb_ := z32 x1; omega), by first | (left; decide) | (right; decide) | (right; have hb_ := z32 x2; omega), by first | (left; decide) | (right; decide) | (right; have hb_ := z32 x3; omega), by first | (left; decide) | (right; decide) | (right; have hb_ := z32 (w.2.2.1 96 5); omega), by first | (left; decide) | (right; decide) | (right; have hb_ := z32 (w.2.2.1 96 0); omega), by first | (left; decide) | (right; decide) | (right; have hb_ := z32 (w.2.2.1 96 5); omega)⟩, hJ⟩
      ·
        refine s_bipush (v := (-2)) E dX10_bars_25 (by decide) ?_
        exact r_int E dX10_bars_27 ⟨⟨by decide, by decide, by first | (left; decide) | (right; decide) | (right; have hb_ := z32 x1; omega), by first | (left; decide) | (right; decide) | (right; have hb_ := z32 x2; omega), by first | (left; decide) | (right; decide) | (right; have hb_ := z32 x3; omega), by first | (left; decide) | (right; decide) | (right; have hb_ := z32 (w.2.2.1 96 5); omega), by first | (left; decide) | (right; decide) | (right; have hb_ := z32 (w.2.2.1 96 0); omega), by first | (left; decide) | (right; decide) | (right; have hb_ := z32 (w.2.2.1 96 5); omega)⟩, hJ⟩
set_option maxRecDepth 20000 in
set_option maxHeartbeats 2000000 in
theorem Z_X10_isSlot (l : Launch) (D : va_G) (aC : Nat → ClassId) (b : Nat) (w : XW) (x1 : Int32) (hI : Iv w)  : CnI l D aC b M_X10_isSlot 1 25 0 0 [AI x1] w (fun r u => (0 ≤ r.toInt ∧ r.toInt ≤ 1 ∧ (r.toInt = 0 ∨ (0 ≤ x1.toInt ∧ x1.toInt ≤ 3))) ∧ ((r.toInt = 1 ∧ 0 ≤ x1.toInt ∧ x1.toInt ≤ 3) ∨ (r.toInt = 0 ∧ ¬ (0 ≤ x1.toInt ∧ x1.toInt ≤ 3))) ∧ w = u) := by
  refine cn_I (own := RX10) (nm := "isSlot") (L0 := [some (AI x1)]) (by decide +kernel) rfl rfl (Nat.le_of_ble_eq_true rfl) rfl ?_
  intro p e s m args below meth c E hin
  have hJ : Jv w w := jv_rfl hI
  have hb_x1 := z32 x1
  refine s_iload_n E dX10_isSlot_0 rfl rfl ?_
  refine z_i2l (u := x1.toInt) E dX10_isSlot_1 rfl (fun z_1 hz_1 => ?_)
  refine s_lconst (v := 0) E dX10_isSlot_2 (by decide) ?_
  refine s_ldc2 E k_1737 rfl dX10_isSlot_3 ?_
  refine s_sI (As := [AL z_1, AL 0, AL 3]) (S := []) E (Z_X10_in l D aC b w z_1 0 3) cs_X10_82 rfl rfl (Nat.le_of_ble_eq_true rfl) (Nat.le_of_ble_eq_true rfl) ⟨(Nat.le_of_ble_eq_true rfl), (Nat.le_of_ble_eq_true rfl)⟩ (Nat.le_of_ble_eq_true rfl) dX10_isSlot_6 (fun z_2 u_3 hp_4 => ?_)
  obtain ⟨hz_2, hp_4⟩ := hp_4
  subst hp_4
  have hcL_ : (0 : Int64).toInt = 0 := (by decide)
  have hcL_ : (3 : Int64).toInt = 3 := (by decide)
  exact r_bool E dX10_isSlot_9 (z_bool (by omega) (by omega)) ⟨⟨by have hb_ := z32 z_2; omega, by have hb_ := z32 z_2; omega, by first | (right; decide) | (have hb_ := z32 z_2; omega) | (have hb_ := z32 z_2; have hc_ := z32 x1; omega)⟩, (by omega), rfl⟩
set_option maxRecDepth 20000 in
set_option maxHeartbeats 2000000 in
theorem Z_X10_numberAt_95 (l : Launch) (D : va_G) (aC : Nat → ClassId) (b : Nat) (w : XW) (x1 : Int32) (x2 : Int32) (hI : Iv w) (hx1 : 0 ≤ x1.toInt ∧ x1.toInt ≤ 3) (hx2 : 0 ≤ x2.toInt ∧ x2.toInt ≤ 59) : CnL l D aC b M_X10_numberAt 0 0 0 0 [AR 95, AI x1, AI x2] w (fun r u => ((-9223372036854775808) ≤ r.toInt ∧ r.toInt ≤ 9223372036854775807) ∧ (r.toInt = (w.2.2.2 114 (60 * x1.toInt + x2.toInt).toNat).toInt) ∧ w = u) := by
  refine cn_L (own := RX10) (nm := "numberAt") (L0 := [some (AR 95), some (AI x1), some (AI x2)]) (by decide +kernel) rfl rfl (Nat.le_of_ble_eq_true rfl) rfl ?_
  intro p e s m args below meth c E hin
  have hJ : Jv w w := jv_rfl hI
  refine s_aload_n E dX10_numberAt_0 rfl rfl ?_
  refine s_gR (r := 114) E fg_X10_70 rfl rfl (jv_lt hJ (by decide)) (jv_r hJ (by decide +kernel)) dX10_numberAt_1 ?_
  refine s_bipush (v := 60) E dX10_numberAt_4 (by decide) ?_
  refine s_iload_n E dX10_numberAt_6 rfl rfl ?_
  refine z_imul (u := 60) (v := x1.toInt) E dX10_numberAt_7 (by decide) rfl (by omega) (by omega) (fun z_1 hz_1 => ?_)
  refine s_iload_n E dX10_numberAt_8 rfl rfl ?_
  refine z_iadd (u := z_1.toInt) (v := x2.toInt) E dX10_numberAt_9 rfl rfl (by omega) (by omega) (fun z_2 hz_2 => ?_)
  have hi_ : z_2.toNatClampNeg = (60 * x1.toInt + x2.toInt).toNat := by have e_ : z_2.toNatClampNeg = z_2.toInt.toNat := rfl; omega
  refine s_lald E rfl (jv_lt hJ (by decide)) (z_in (u := z_2.toInt) rfl (by omega) (by omega)) dX10_numberAt_10 ?_
  refine z_nmL (P := fun z => z.toInt = (w.2.2.2 114 z_2.toNatClampNeg).toInt) rfl (fun z_3 hz_3 => ?_)
  exact r_long E dX10_numberAt_11 ⟨⟨by have hb_ := z64 z_3; omega, by have hb_ := z64 z_3; omega⟩, (by rw [← hi_]; omega), rfl⟩
set_option maxRecDepth 20000 in
set_option maxHeartbeats 2000000 in
theorem Z_X10_isThree_95 (l : Launch) (D : va_G) (aC : Nat → ClassId) (b : Nat) (w : XW) (x1 : Int32) (x2 : Int32) (hI : Iv w) (hx1 : 0 ≤ x1.toInt ∧ x1.toInt ≤ 3) (hx2 : 0 ≤ x2.toInt ∧ x2.toInt ≤ 57) : CnI l D aC b M_X10_isThree 2 47 0 0 [AR 95, AI x1, AI x2] w (fun r u => (0 ≤ r.toInt ∧ r.toInt ≤ 1 ∧ (¬ r.toInt = 0 ∨ (0 ≤ (w.2.2.1 96 5).toInt ∧ (w.2.2.1 96 5).toInt ≤ 6)) ∧ (r.toInt = 0 ∨ (0 ≤ (w.2.2.1 96 5).toInt ∧ (w.2.2.1 96 5).toInt ≤ 6)) ∧ (r.toInt = 0 ∨ (1 ≤ (w.2.2.1 96 9).toInt ∧ (w.2.2.1 96 9).toInt ≤ 2147483647)) ∧ (r.toInt = 0 ∨ (0 ≤ (w.2.2.1 96 1).toInt ∧ (w.2.2.1 96 1).toInt ≤ 14))) ∧ (r.toInt = 0 ∨ (0 ≤ (w.2.2.2 114 (60 * x1.toInt + x2.toInt + 1).toNat).toInt ∧ (w.2.2.2 114 (60 * x1.toInt + x2.toInt + 1).toNat).toInt ≤ 14)) ∧ w = u) := by
  refine cn_I (own := RX10) (nm := "isThree") (L0 := [some (AR 95), some (AI x1), some (AI x2)]) (by decide +kernel) rfl rfl (Nat.le_of_ble_eq_true rfl) rfl ?_
  intro p e s m args below meth c E hin
  have hJ : Jv w w := jv_rfl hI
  refine s_aload_n E dX10_isThree_0 rfl rfl ?_
  refine s_aload_n E dX10_isThree_1 rfl rfl ?_
  refine s_iload_n E dX10_isThree_2 rfl rfl ?_
  refine s_iload_n E dX10_isThree_3 rfl rfl ?_
  refine s_vL (As := [AI x1, AI x2]) (S := [AR 95]) E (Z_X10_numberAt_95 l D aC b w x1 x2 hJ.1 ⟨by have hb_ := z32 x1; omega, by have hb_ := z32 x1; omega⟩ ⟨by have hb_ := z32 x2; omega, by have hb_ := z32 x2; omega⟩) cv_X10_371 rfl rfl rfl (jv_lt hJ (by decide)) (Nat.le_of_ble_eq_true rfl) (Nat.le_of_ble_eq_true rfl) ⟨(Nat.le_of_ble_eq_true rfl), (Nat.le_of_ble_eq_true rfl)⟩ (Nat.le_of_ble_eq_true rfl) dX10_isThree_4 (fun z_3 u_1 hp_2 => ?_)
  obtain ⟨hz_3, hxz_3, hp_2⟩ := hp_2
  subst hp_2
  refine s_vI (As := [AL z_3]) (S := []) E (Z_X10_isLady_95 l D aC b w z_3 hJ.1 ) cv_X10_222 rfl rfl rfl (jv_lt hJ (by decide)) (Nat.le_of_ble_eq_true rfl) (Nat.le_of_ble_eq_true rfl) ⟨(Nat.le_of_ble_eq_true rfl), (Nat.le_of_ble_eq_true rfl)⟩ (Nat.le_of_ble_eq_true rfl) dX10_isThree_7 (fun z_7 u_5 hp_6 => ?_)
  obtain ⟨hz_7, hxz_7, hp_6⟩ := hp_6
  subst hp_6
  refine z_if_eq (tgt := 48) (u := z_7.toInt) E dX10_isThree_10 (by decide) rfl (fun h_9 => ?_) (fun h_9 => ?_)
  ·
    refine s_iconst (v := 0) E dX10_isThree_48 (by decide) ?_
    exact r_bool E dX10_isThree_49 (Or.inl rfl) ⟨⟨by decide, by decide, by first | (left; decide) | (right; decide) | (right; have hb_ := z32 (w.2.2.1 96 5); omega), by first | (left; decide) | (right; decide) | (right; have hb_ := z32 (w.2.2.1 96 5); omega), by first | (left; decide) | (right; decide) | (right; have hb_ := z32 (w.2.2.1 96 9); omega), by first | (left; decide) | (right; decide) | (right; have hb_ := z32 (w.2.2.1 96 1); omega)⟩, (by have hrc_ : (0 : Int32).toInt = 0 := (by decide); (first | exact Or.inl (by decide) | exact Or.inr (by omega))), rfl⟩
  ·
    refine s_aload_n E dX10_isThree_13 rfl rfl ?_
    refine s_aload_n E dX10_isThree_14 rfl rfl ?_
    refine s_iload_n E dX10_isThree_15 rfl rfl ?_
    refine s_iload_n E dX10_isThree_16 rfl rfl ?_
    refine s_iconst (v := 1) E dX10_isThree_17 (by decide) ?_
    refine z_iadd (u := x2.toInt) (v := 1) E dX10_isThree_18 rfl (by decide) (by omega) (by omega) (fun z_10 hz_10 => ?_)
    refine s_vL (As := [AI x1, AI z_10]) (S := [AR 95]) E (Z_X10_numberAt_95 l D aC b w x1 z_10 hJ.1 ⟨by have hb_ := z32 x1; omega, by have hb_ := z32 x1; omega⟩ ⟨by have hb_ := z32 z_10; omega, by have hb_ := z32 z_10; omega⟩) cv_X10_371 rfl rfl rfl (jv_lt hJ (by decide)) (Nat.le_of_ble_eq_true rfl) (Nat.le_of_ble_eq_true rfl) ⟨(Nat.le_of_ble_eq_true rfl), (Nat.le_of_ble_eq_true rfl)⟩ (Nat.le_of_ble_eq_true rfl) dX10_isThree_19 (fun z_13 u_11 hp_12 => ?_)
    obtain ⟨hz_13, hxz_13, hp_12⟩ := hp_12
    subst hp_12
    have hN_ : z_13.toInt = (w.2.2.2 114 (60 * x1.toInt + x2.toInt + 1).toNat).toInt := by rw [hxz_13, show 60 * x1.toInt + z_10.toInt = 60 * x1.toInt + x2.toInt + 1 by omega]
    refine s_vI (As := [AL z_13]) (S := []) E (Z_X10_isDance_95 l D aC b w z_13 hJ.1 ) cv_X10_282 rfl rfl rfl (jv_lt hJ (by decide)) (Nat.le_of_ble_eq_true rfl) (Nat.le_of_ble_eq_true rfl) ⟨(Nat.le_of_ble_eq_true rfl), (Nat.le_of_ble_eq_true rfl)⟩ (Nat.le_of_ble_eq_true rfl) dX10_isThree_22 (fun z_17 u_15 hp_16 => ?_)
    obtain ⟨hz_17, hp_16⟩ := hp_16
    subst hp_16
    refine z_if_eq (tgt := 48) (u := z_17.toInt) E dX10_isThree_25 (by decide) rfl (fun h_19 => ?_) (fun h_19 => ?_)
    ·
      refine s_iconst (v := 0) E dX10_isThree_48 (by decide) ?_
      exact r_bool E dX10_isThree_49 (Or.inl rfl) ⟨⟨by decide, by decide, by first | (left; decide) | (right; decide) | (right; have hb_ := z32 (w.2.2.1 96 5); omega), by first | (left; decide) | (right; decide) | (right; have hb_ := z32 (w.2.2.1 96 5); omega), by first | (left; decide) | (right; decide) | (right; have hb_ := z32 (w.2.2.1 96 9); omega), by first | (left; decide) | (right; decide) | (right; have hb_ := z32 (w.2.2.1 96 1); omega)⟩, (by have hrc_ : (0 : Int32).toInt = 0 := (by decide); (first | exact Or.inl (by decide) | exact Or.inr (by omega))), rfl⟩
    ·
      refine s_aload_n E dX10_isThree_28 rfl rfl ?_
      refine s_iload_n E dX10_isThree_29 rfl rfl ?_
      refine s_iload_n E dX10_isThree_30 rfl rfl ?_
      refine s_iconst (v := 2) E dX10_isThree_31 (by decide) ?_
      refine z_iadd (u := x2.toInt) (v := 2) E dX10_isThree_32 rfl (by decide) (by omega) (by omega) (fun z_20 hz_20 => ?_)
      refine s_vL (As := [AI x1, AI z_20]) (S := []) E (Z_X10_numberAt_95 l D aC b w x1 z_20 hJ.1 ⟨by have hb_ := z32 x1; omega, by have hb_ := z32 x1; omega⟩ ⟨by have hb_ := z32 z_20; omega, by have hb_ := z32 z_20; omega⟩) cv_X10_371 rfl rfl rfl (jv_lt hJ (by decide)) (Nat.le_of_ble_eq_true rfl) (Nat.le_of_ble_eq_true rfl) ⟨(Nat.le_of_ble_eq_true rfl), (Nat.le_of_ble_eq_true rfl)⟩ (Nat.le_of_ble_eq_true rfl) dX10_isThree_33 (fun z_23 u_21 hp_22 => ?_)
      obtain ⟨hz_23, hxz_23, hp_22⟩ := hp_22
      subst hp_22
      refine s_lconst (v := 0) E dX10_isThree_36 (by decide) ?_
      refine s_lconst (v := 1) E dX10_isThree_37 (by decide) ?_
      refine s_sI (As := [AL z_23, AL 0, AL 1]) (S := []) E (Z_X10_in l D aC b w z_23 0 1) cs_X10_82 rfl rfl (Nat.le_of_ble_eq_true rfl) (Nat.le_of_ble_eq_true rfl) ⟨(Nat.le_of_ble_eq_true rfl), (Nat.le_of_ble_eq_true rfl)⟩ (Nat.le_of_ble_eq_true rfl) dX10_isThree_38 (fun z_25 u_26 hp_27 => ?_)
      obtain ⟨hz_25, hp_27⟩ := hp_27
      subst hp_27
      have hcL_ : (0 : Int64).toInt = 0 := (by decide)
      have hcL_ : (1 : Int64).toInt = 1 := (by decide)
      refine z_if_eq (tgt := 48) (u := z_25.toInt) E dX10_isThree_41 (by decide) rfl (fun h_28 => ?_) (fun h_28 => ?_)
      ·
        refine s_iconst (v := 0) E dX10_isThree_48 (by decide) ?_
        exact r_bool E dX10_isThree_49 (Or.inl rfl) ⟨⟨by decide, by decide, by first | (left; decide) | (right; decide) | (right; have hb_ := z32 (w.2.2.1 96 5); omega), by first | (left; decide) | (right; decide) | (right; have hb_ := z32 (w.2.2.1 96 5); omega), by first | (left; decide) | (right; decide) | (right; have hb_ := z32 (w.2.2.1 96 9); omega), by first | (left; decide) | (right; decide) | (right; have hb_ := z32 (w.2.2.1 96 1); omega)⟩, (by have hrc_ : (0 : Int32).toInt = 0 := (by decide); (first | exact Or.inl (by decide) | exact Or.inr (by omega))), rfl⟩
      ·
        refine s_iconst (v := 1) E dX10_isThree_44 (by decide) ?_
        refine s_goto (tgt := 49) E dX10_isThree_45 (by decide) ?_
        exact r_bool E dX10_isThree_49 (Or.inr rfl) ⟨⟨by decide, by decide, by first | (left; decide) | (right; decide) | (right; have hb_ := z32 (w.2.2.1 96 5); omega), by first | (left; decide) | (right; decide) | (right; have hb_ := z32 (w.2.2.1 96 5); omega), by first | (left; decide) | (right; decide) | (right; have hb_ := z32 (w.2.2.1 96 9); omega), by first | (left; decide) | (right; decide) | (right; have hb_ := z32 (w.2.2.1 96 1); omega)⟩, (by have hrc_ : (1 : Int32).toInt = 1 := (by decide); (first | exact Or.inl (by decide) | exact Or.inr (by omega))), rfl⟩
