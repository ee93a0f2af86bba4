set_option maxRecDepth 20000 in
set_option maxHeartbeats 2000000 in
theorem Z_X10_blocks_95 (l : Launch) (D : va_G) (aC : Nat → ClassId) (b : Nat) (w : XW) (x1 : Int32) (hI : Iv w)  : CnI l D aC b M_X10_blocks 4 92 0 0 [AR 95, AI x1] w (fun r u => ((-2) ≤ r.toInt ∧ r.toInt ≤ 1 ∧ (¬ r.toInt = 0 ∨ (0 ≤ x1.toInt ∧ x1.toInt ≤ 63))) ∧ Jv w u) := by
  refine cn_I (own := RX10) (nm := "blocks") (L0 := [some (AR 95), some (AI x1)]) (by decide +kernel) rfl rfl (Nat.le_of_ble_eq_true rfl) rfl ?_
  intro p e s m args below meth c E hin
  have hJ : Jv w w := jv_rfl hI
  have hb_x1 := z32 x1
  refine s_aload_n E dX10_blocks_0 rfl rfl ?_
  refine s_vV (As := []) (S := []) E (Z_X10_asItIs_95 l D aC b w  hJ.1 ) cv_X10_279 rfl rfl rfl (jv_lt hJ (by decide)) (Nat.le_of_ble_eq_true rfl) (Nat.le_of_ble_eq_true rfl) ⟨(Nat.le_of_ble_eq_true rfl), (Nat.le_of_ble_eq_true rfl)⟩ (Nat.le_of_ble_eq_true rfl) dX10_blocks_1 (fun u_1 hp_2 => ?_)
  have hj_3 := jv_trans hJ hp_2
  refine s_aload_n E dX10_blocks_4 rfl rfl ?_
  refine s_iload_n E dX10_blocks_5 rfl rfl ?_
  refine s_vI (As := [AI x1]) (S := []) E (Z_X10_isSet_95 l D aC b u_1 x1 hj_3.1 ) cv_X10_399 rfl rfl rfl (jv_lt hj_3 (by decide)) (Nat.le_of_ble_eq_true rfl) (Nat.le_of_ble_eq_true rfl) ⟨(Nat.le_of_ble_eq_true rfl), (Nat.le_of_ble_eq_true rfl)⟩ (Nat.le_of_ble_eq_true rfl) dX10_blocks_6 (fun z_6 u_4 hp_5 => ?_)
  obtain ⟨hz_6, hp_5⟩ := hp_5
  subst hp_5
  refine z_if_eq (tgt := 35) (u := z_6.toInt) E dX10_blocks_9 (by decide) rfl (fun h_8 => ?_) (fun h_8 => ?_)
  ·
    refine s_bipush (v := (-2)) E dX10_blocks_35 (by decide) ?_
    exact r_int E dX10_blocks_37 ⟨⟨by decide, by decide, by first | (left; decide) | (right; decide) | (right; have hb_ := z32 x1; omega)⟩, hj_3⟩
  ·
    refine s_aload_n E dX10_blocks_12 rfl rfl ?_
    refine s_aload_n E dX10_blocks_13 rfl rfl ?_
    refine s_vI (As := []) (S := [AR 95]) E (Z_X10_allLadies_95 l D aC b u_1  hj_3.1 ) cv_X10_393 rfl rfl rfl (jv_lt hj_3 (by decide)) (Nat.le_of_ble_eq_true rfl) (Nat.le_of_ble_eq_true rfl) ⟨(Nat.le_of_ble_eq_true rfl), (Nat.le_of_ble_eq_true rfl)⟩ (Nat.le_of_ble_eq_true rfl) dX10_blocks_14 (fun z_11 u_9 hp_10 => ?_)
    obtain ⟨hz_11, hp_10⟩ := hp_10
    subst hp_10
    refine s_iload_n E dX10_blocks_17 rfl rfl ?_
    refine s_iconst (v := (-1)) E dX10_blocks_18 (by decide) ?_
    refine s_ixor E dX10_blocks_19 ?_
    refine z_nm (P := fun z => (-2147483648) ≤ z.toInt ∧ z.toInt ≤ 2147483647) (z32 _) (fun z_13 hz_13 => ?_)
    refine s_iand E dX10_blocks_20 ?_
    refine z_nm (P := fun z => (-2147483648) ≤ z.toInt ∧ z.toInt ≤ 2147483647) (z32 _) (fun z_14 hz_14 => ?_)
    refine s_vI (As := [AI z_14]) (S := []) E (Z_X10_doesHold_95 l D aC b u_1 z_14 hj_3.1 ) cv_X10_396 rfl rfl rfl (jv_lt hj_3 (by decide)) (Nat.le_of_ble_eq_true rfl) (Nat.le_of_ble_eq_true rfl) ⟨(Nat.le_of_ble_eq_true rfl), (Nat.le_of_ble_eq_true rfl)⟩ (Nat.le_of_ble_eq_true rfl) dX10_blocks_21 (fun z_17 u_15 hp_16 => ?_)
    obtain ⟨hz_17, hp_16⟩ := hp_16
    subst hp_16
    refine z_if_eq (tgt := 31) (u := z_17.toInt) E dX10_blocks_24 (by decide) rfl (fun h_19 => ?_) (fun h_19 => ?_)
    ·
      refine s_iconst (v := 1) E dX10_blocks_31 (by decide) ?_
      refine s_goto (tgt := 37) E dX10_blocks_32 (by decide) ?_
      exact r_int E dX10_blocks_37 ⟨⟨by decide, by decide, by first | (left; decide) | (right; decide) | (right; have hb_ := z32 x1; omega)⟩, hj_3⟩
    ·
      refine s_iconst (v := 0) E dX10_blocks_27 (by decide) ?_
      refine s_goto (tgt := 37) E dX10_blocks_28 (by decide) ?_
      exact r_int E dX10_blocks_37 ⟨⟨by decide, by decide, by first | (left; decide) | (right; decide) | (right; have hb_ := z32 x1; omega)⟩, hj_3⟩
set_option maxRecDepth 20000 in
set_option maxHeartbeats 2000000 in
theorem Z_X10_strongest_95 (l : Launch) (D : va_G) (aC : Nat → ClassId) (b : Nat) (w : XW)  (hI : Iv w)  : CnI l D aC b M_X10_strongest 5 112 0 0 [AR 95] w (fun r u => ((-2) ≤ r.toInt ∧ r.toInt ≤ 64) ∧ Jv w u) := by
  refine cn_I (own := RX10) (nm := "strongest") (L0 := [some (AR 95), none, none, none]) (by decide +kernel) rfl rfl (Nat.le_of_ble_eq_true rfl) rfl ?_
  intro p e s m args below meth c E hin
  have hJ : Jv w w := jv_rfl hI
  refine s_aload_n E dX10_strongest_0 rfl rfl ?_
  refine s_vI (As := []) (S := []) E (Z_X10_asksBall_95 l D aC b w  hJ.1 ) cv_X10_322 rfl rfl rfl (jv_lt hJ (by decide)) (Nat.le_of_ble_eq_true rfl) (Nat.le_of_ble_eq_true rfl) ⟨(Nat.le_of_ble_eq_true rfl), (Nat.le_of_ble_eq_true rfl)⟩ (Nat.le_of_ble_eq_true rfl) dX10_strongest_1 (fun z_3 u_1 hp_2 => ?_)
  obtain ⟨hz_3, hp_2⟩ := hp_2
  have hj_4 := jv_trans hJ hp_2
  refine z_if_ne (tgt := 10) (u := z_3.toInt) E dX10_strongest_4 (by decide) rfl (fun h_5 => ?_) (fun h_5 => ?_)
  ·
    refine s_iconst (v := (-1)) E dX10_strongest_10 (by decide) ?_
    refine s_istore_n (L2 := [some (AR 95), some (AI (-1)), none, none]) E dX10_strongest_11 rfl (by decide) rfl ?_
    refine s_iconst (v := 0) E dX10_strongest_12 (by decide) ?_
    refine s_istore_n (L2 := [some (AR 95), some (AI (-1)), some (AI 0), none]) E dX10_strongest_13 rfl (by decide) rfl ?_
    refine s_iconst (v := 0) E dX10_strongest_14 (by decide) ?_
    refine s_istore_n (L2 := [some (AR 95), some (AI (-1)), some (AI 0), some (AI 0)]) E dX10_strongest_15 rfl (by decide) rfl ?_
    refine z_loop (St := Int32 × Int32 × Int32) (Pi := fun ⟨q16_1_5, q16_2_5, q16_3_5⟩ v16 => ((-1) ≤ q16_1_5.toInt ∧ q16_1_5.toInt ≤ 64) ∧ (0 ≤ q16_3_5.toInt ∧ q16_3_5.toInt ≤ 6) ∧ u_1 = v16) (Lf := fun ⟨q16_1_5, q16_2_5, q16_3_5⟩ => [some (AR 95), some (AI q16_1_5), some (AI q16_2_5), some (AI q16_3_5)]) (fun ⟨q16_1_5, q16_2_5, q16_3_5⟩ _ => (7 - q16_3_5.toInt).toNat) ⟨(-1), 0, 0⟩ ⟨⟨by decide, by decide⟩, ⟨by decide, by decide⟩, rfl⟩ ?_
    rintro ⟨q16_1_5, q16_2_5, q16_3_5⟩ v16 ⟨hq16_1, hq16_3, hv_⟩ ih16
    subst hv_
    have hbq16_2 := z32 q16_2_5
    refine s_loc (L2 := [some (AR 95), some (AI q16_1_5), some (AI q16_2_5), some (AI q16_3_5)]) rfl ?_
    refine s_iload_n E dX10_strongest_16 rfl rfl ?_
    refine s_aload_n E dX10_strongest_17 rfl rfl ?_
    refine s_vI (As := []) (S := [AI q16_3_5]) E (Z_X10_ladies_95 l D aC b u_1  hj_4.1 ) cv_X10_244 rfl rfl rfl (jv_lt hj_4 (by decide)) (Nat.le_of_ble_eq_true rfl) (Nat.le_of_ble_eq_true rfl) ⟨(Nat.le_of_ble_eq_true rfl), (Nat.le_of_ble_eq_true rfl)⟩ (Nat.le_of_ble_eq_true rfl) dX10_strongest_18 (fun z_9 u_7 hp_8 => ?_)
    obtain ⟨hz_9, hxz_9, hp_8⟩ := hp_8
    subst hp_8
    refine z_icmp_ge (tgt := 50) (u := q16_3_5.toInt) (v := z_9.toInt) E dX10_strongest_21 (by decide) rfl rfl (fun h_11 => ?_) (fun h_11 => ?_)
    ·
      refine s_iload_n E dX10_strongest_50 rfl rfl ?_
      exact r_int E dX10_strongest_51 ⟨⟨by have hb_ := z32 q16_1_5; omega, by have hb_ := z32 q16_1_5; omega⟩, hj_4⟩
    ·
      refine s_aload_n E dX10_strongest_24 rfl rfl ?_
      refine s_iload_n E dX10_strongest_25 rfl rfl ?_
      refine s_vI (As := [AI q16_3_5]) (S := []) E (Z_X10_powerOf_95 l D aC b u_1 q16_3_5 hj_4.1 ⟨by have hb_ := z32 q16_3_5; omega, by have hb_ := z32 q16_3_5; omega⟩) cv_X10_402 rfl rfl rfl (jv_lt hj_4 (by decide)) (Nat.le_of_ble_eq_true rfl) (Nat.le_of_ble_eq_true rfl) ⟨(Nat.le_of_ble_eq_true rfl), (Nat.le_of_ble_eq_true rfl)⟩ (Nat.le_of_ble_eq_true rfl) dX10_strongest_26 (fun z_14 u_12 hp_13 => ?_)
      obtain ⟨hz_14, hp_13⟩ := hp_13
      subst hp_13
      refine s_iload_n E dX10_strongest_29 rfl rfl ?_
      refine z_icmp_gt (tgt := 36) (u := z_14.toInt) (v := q16_2_5.toInt) E dX10_strongest_30 (by decide) rfl rfl (fun h_16 => ?_) (fun h_16 => ?_)
      ·
        refine s_aload_n E dX10_strongest_36 rfl rfl ?_
        refine s_iload_n E dX10_strongest_37 rfl rfl ?_
        refine s_vI (As := [AI q16_3_5]) (S := []) E (Z_X10_powerOf_95 l D aC b u_1 q16_3_5 hj_4.1 ⟨by have hb_ := z32 q16_3_5; omega, by have hb_ := z32 q16_3_5; omega⟩) cv_X10_402 rfl rfl rfl (jv_lt hj_4 (by decide)) (Nat.le_of_ble_eq_true rfl) (Nat.le_of_ble_eq_true rfl) ⟨(Nat.le_of_ble_eq_true rfl), (Nat.le_of_ble_eq_true rfl)⟩ (Nat.le_of_ble_eq_true rfl) dX10_strongest_38 (fun z_19 u_17 hp_18 => ?_)
        obtain ⟨hz_19, hp_18⟩ := hp_18
        subst hp_18
        refine s_istore_n (L2 := [some (AR 95), some (AI q16_1_5), some (AI z_19), some (AI q16_3_5)]) E dX10_strongest_41 rfl (by decide) rfl ?_
        refine s_iload_n E dX10_strongest_42 rfl rfl ?_
        refine s_istore_n (L2 := [some (AR 95), some (AI q16_3_5), some (AI z_19), some (AI q16_3_5)]) E dX10_strongest_43 rfl (by decide) rfl ?_
        refine z_iinc (u := q16_3_5.toInt) (L2 := fun z_21 => [some (AR 95), some (AI q16_3_5), some (AI z_19), some (AI z_21)]) E dX10_strongest_44 rfl rfl (by decide) (fun _ => rfl) (by decide) (by omega) (by omega) (fun z_21 hz_21 => ?_)
        refine s_goto (tgt := 16) E dX10_strongest_47 (by decide) ?_
        exact ih16 ⟨q16_3_5, z_19, z_21⟩ u_1 ⟨⟨by have hb_ := z32 q16_3_5; omega, by have hb_ := z32 q16_3_5; omega⟩, ⟨by have hb_ := z32 z_21; omega, by have hb_ := z32 z_21; omega⟩, rfl⟩ (by first | omega | decide | (dsimp only; omega) | (dsimp only; decide))
      ·
        refine s_goto (tgt := 44) E dX10_strongest_33 (by decide) ?_
        refine z_iinc (u := q16_3_5.toInt) (L2 := fun z_22 => [some (AR 95), some (AI q16_1_5), some (AI q16_2_5), some (AI z_22)]) E dX10_strongest_44 rfl rfl (by decide) (fun _ => rfl) (by decide) (by omega) (by omega) (fun z_22 hz_22 => ?_)
        refine s_goto (tgt := 16) E dX10_strongest_47 (by decide) ?_
        exact ih16 ⟨q16_1_5, q16_2_5, z_22⟩ u_1 ⟨⟨by have hb_ := z32 q16_1_5; omega, by have hb_ := z32 q16_1_5; omega⟩, ⟨by have hb_ := z32 z_22; omega, by have hb_ := z32 z_22; omega⟩, rfl⟩ (by first | omega | decide | (dsimp only; omega) | (dsimp only; decide))
  ·
    refine s_bipush (v := (-2)) E dX10_strongest_7 (by decide) ?_
    exact r_int E dX10_strongest_9 ⟨(by decide), hj_4⟩
set_option maxRecDepth 20000 in
set_option maxHeartbeats 2000000 in
theorem Z_X10_have_95 (l : Launch) (D : va_G) (aC : Nat → ClassId) (b : Nat) (w : XW) (x1 : Int32) (x2 : Int32) (hI : Iv w)  : CnI l D aC b M_X10_have 5 113 0 0 [AR 95, AI x1, AI x2] w (fun r u => ((-2147483648) ≤ r.toInt ∧ r.toInt ≤ 2147483647 ∧ (¬ r.toInt = 0 ∨ (0 ≤ x1.toInt ∧ x1.toInt ≤ 5)) ∧ (¬ r.toInt = 0 ∨ (0 ≤ x2.toInt ∧ x2.toInt ≤ 14))) ∧ Jv w u) := by
  refine cn_I (own := RX10) (nm := "have") (L0 := [some (AR 95), some (AI x1), some (AI x2)]) (by decide +kernel) rfl rfl (Nat.le_of_ble_eq_true rfl) rfl ?_
  intro p e s m args below meth c E hin
  have hJ : Jv w w := jv_rfl hI
  have hb_x1 := z32 x1
  have hb_x2 := z32 x2
  refine s_aload_n E dX10_have_0 rfl rfl ?_
  refine s_iload_n E dX10_have_1 rfl rfl ?_
  refine s_vI (As := [AI x2]) (S := []) E (Z_X10_asksDance_95 l D aC b w x2 hJ.1 ) cv_X10_294 rfl rfl rfl (jv_lt hJ (by decide)) (Nat.le_of_ble_eq_true rfl) (Nat.le_of_ble_eq_true rfl) ⟨(Nat.le_of_ble_eq_true rfl), (Nat.le_of_ble_eq_true rfl)⟩ (Nat.le_of_ble_eq_true rfl) dX10_have_2 (fun z_3 u_1 hp_2 => ?_)
  obtain ⟨hz_3, hp_2⟩ := hp_2
  have hj_4 := jv_trans hJ hp_2
  refine z_if_eq (tgt := 26) (u := z_3.toInt) E dX10_have_5 (by decide) rfl (fun h_5 => ?_) (fun h_5 => ?_)
  ·
    refine s_bipush (v := (-2)) E dX10_have_26 (by decide) ?_
    exact r_int E dX10_have_28 ⟨⟨by decide, by decide, by first | (left; decide) | (right; decide) | (right; have hb_ := z32 x1; omega), by first | (left; decide) | (right; decide) | (right; have hb_ := z32 x2; omega)⟩, hj_4⟩
  ·
    refine s_aload_n E dX10_have_8 rfl rfl ?_
    refine s_iload_n E dX10_have_9 rfl rfl ?_
    refine z_i2l (u := x1.toInt) E dX10_have_10 rfl (fun z_6 hz_6 => ?_)
    refine s_vI (As := [AL z_6]) (S := []) E (Z_X10_isLady_95 l D aC b u_1 z_6 hj_4.1 ) cv_X10_222 rfl rfl rfl (jv_lt hj_4 (by decide)) (Nat.le_of_ble_eq_true rfl) (Nat.le_of_ble_eq_true rfl) ⟨(Nat.le_of_ble_eq_true rfl), (Nat.le_of_ble_eq_true rfl)⟩ (Nat.le_of_ble_eq_true rfl) dX10_have_11 (fun z_9 u_7 hp_8 => ?_)
    obtain ⟨hz_9, hxz_9, hp_8⟩ := hp_8
    subst hp_8
    refine z_if_eq (tgt := 26) (u := z_9.toInt) E dX10_have_14 (by decide) rfl (fun h_11 => ?_) (fun h_11 => ?_)
    ·
      refine s_bipush (v := (-2)) E dX10_have_26 (by decide) ?_
      exact r_int E dX10_have_28 ⟨⟨by decide, by decide, by first | (left; decide) | (right; decide) | (right; have hb_ := z32 x1; omega), by first | (left; decide) | (right; decide) | (right; have hb_ := z32 x2; omega)⟩, hj_4⟩
    ·
      refine s_aload_n E dX10_have_17 rfl rfl ?_
      refine s_iload_n E dX10_have_18 rfl rfl ?_
      refine s_iload_n E dX10_have_19 rfl rfl ?_
      refine s_vI (As := [AI x1, AI x2]) (S := []) E (Z_X10_goNote_95 l D aC b u_1 x1 x2 hj_4.1 ⟨by have hb_ := z32 x1; omega, by have hb_ := z32 x1; omega⟩ ⟨by have hb_ := z32 x2; omega, by have hb_ := z32 x2; omega⟩) cv_X10_335 rfl rfl rfl (jv_lt hj_4 (by decide)) (Nat.le_of_ble_eq_true rfl) (Nat.le_of_ble_eq_true rfl) ⟨(Nat.le_of_ble_eq_true rfl), (Nat.le_of_ble_eq_true rfl)⟩ (Nat.le_of_ble_eq_true rfl) dX10_have_20 (fun z_14 u_12 hp_13 => ?_)
      obtain ⟨hz_14, hxz_14, hf_u_12_95, hf_u_12_96, hf_u_12_L, hp_13⟩ := hp_13
      have hj_15 := jv_trans hj_4 hp_13
      refine s_goto (tgt := 28) E dX10_have_23 (by decide) ?_
      exact r_int E dX10_have_28 ⟨⟨by have hb_ := z32 z_14; omega, by have hb_ := z32 z_14; omega, by first | (right; decide) | (have hb_ := z32 z_14; omega) | (have hb_ := z32 z_14; have hc_ := z32 x1; omega), by first | (right; decide) | (have hb_ := z32 z_14; omega) | (have hb_ := z32 z_14; have hc_ := z32 x2; omega)⟩, hj_15⟩
set_option maxRecDepth 20000 in
set_option maxHeartbeats 2000000 in
theorem Z_X10_gets_95 (l : Launch) (D : va_G) (aC : Nat → ClassId) (b : Nat) (w : XW) (x1 : Int32) (x2 : Int32) (hI : Iv w)  : CnI l D aC b M_X10_gets 6 139 0 0 [AR 95, AI x1, AI x2] w (fun r u => ((-2) ≤ r.toInt ∧ r.toInt ≤ 14 ∧ (¬ r.toInt = 0 ∨ (0 ≤ x1.toInt ∧ x1.toInt ≤ 5)) ∧ (¬ r.toInt = 0 ∨ (0 ≤ x2.toInt ∧ x2.toInt ≤ 5))) ∧ Jv w u) := by
  refine cn_I (own := RX10) (nm := "gets") (L0 := [some (AR 95), some (AI x1), some (AI x2)]) (by decide +kernel) rfl rfl (Nat.le_of_ble_eq_true rfl) rfl ?_
  intro p e s m args below meth c E hin
  have hJ : Jv w w := jv_rfl hI
  have hb_x1 := z32 x1
  have hb_x2 := z32 x2
  refine s_aload_n E dX10_gets_0 rfl rfl ?_
  refine s_iload_n E dX10_gets_1 rfl rfl ?_
  refine s_iload_n E dX10_gets_2 rfl rfl ?_
  refine s_vI (As := [AI x1, AI x2]) (S := []) E (Z_X10_asksNote_95 l D aC b w x1 x2 hJ.1 ) cv_X10_340 rfl rfl rfl (jv_lt hJ (by decide)) (Nat.le_of_ble_eq_true rfl) (Nat.le_of_ble_eq_true rfl) ⟨(Nat.le_of_ble_eq_true rfl), (Nat.le_of_ble_eq_true rfl)⟩ (Nat.le_of_ble_eq_true rfl) dX10_gets_3 (fun z_3 u_1 hp_2 => ?_)
  obtain ⟨hz_3, hxz_3, hp_2⟩ := hp_2
  have hj_4 := jv_trans hJ hp_2
  refine z_if_eq (tgt := 18) (u := z_3.toInt) E dX10_gets_6 (by decide) rfl (fun h_5 => ?_) (fun h_5 => ?_)
  ·
    refine s_bipush (v := (-2)) E dX10_gets_18 (by decide) ?_
    exact r_int E dX10_gets_20 ⟨⟨by decide, by decide, by first | (left; decide) | (right; decide) | (right; have hb_ := z32 x1; omega), by first | (left; decide) | (right; decide) | (right; have hb_ := z32 x2; omega)⟩, hj_4⟩
  ·
    refine s_aload_n E dX10_gets_9 rfl rfl ?_
    refine s_gR (r := 107) E fg_X10_49 rfl rfl (jv_lt hj_4 (by decide)) (jv_r hj_4 (by decide +kernel)) dX10_gets_10 ?_
    refine s_iload_n E dX10_gets_13 rfl rfl ?_
    refine s_iald E rfl (jv_lt hj_4 (by decide)) (z_in (u := x2.toInt) rfl (by omega) (by omega)) dX10_gets_14 ?_
    refine z_nm (P := fun z => z.toInt = (u_1.2.2.1 107 x2.toNatClampNeg).toInt ∧ (-1) ≤ z.toInt ∧ z.toInt ≤ 14) ⟨rfl, (ra_107 hj_4 _)⟩ (fun z_6 hz_6 => ?_)
    refine s_goto (tgt := 20) E dX10_gets_15 (by decide) ?_
    exact r_int E dX10_gets_20 ⟨⟨by have hb_ := z32 z_6; omega, by have hb_ := z32 z_6; omega, by first | (right; decide) | (have hb_ := z32 z_6; omega) | (have hb_ := z32 z_6; have hc_ := z32 x1; omega), by first | (right; decide) | (have hb_ := z32 z_6; omega) | (have hb_ := z32 z_6; have hc_ := z32 x2; omega)⟩, hj_4⟩
set_option maxRecDepth 20000 in
set_option maxHeartbeats 2000000 in
theorem Z_X10_from_95 (l : Launch) (D : va_G) (aC : Nat → ClassId) (b : Nat) (w : XW) (x1 : Int32) (x2 : Int32) (hI : Iv w)  : CnI l D aC b M_X10_from 6 139 0 0 [AR 95, AI x1, AI x2] w (fun r u => ((-2) ≤ r.toInt ∧ r.toInt ≤ 5 ∧ (¬ r.toInt = 0 ∨ (0 ≤ x1.toInt ∧ x1.toInt ≤ 5)) ∧ (¬ r.toInt = 0 ∨ (0 ≤ x2.toInt ∧ x2.toInt ≤ 5))) ∧ Jv w u) := by
  refine cn_I (own := RX10) (nm := "from") (L0 := [some (AR 95), some (AI x1), some (AI x2)]) (by decide +kernel) rfl rfl (Nat.le_of_ble_eq_true rfl) rfl ?_
  intro p e s m args below meth c E hin
  have hJ : Jv w w := jv_rfl hI
  have hb_x1 := z32 x1
  have hb_x2 := z32 x2
  refine s_aload_n E dX10_from_0 rfl rfl ?_
  refine s_iload_n E dX10_from_1 rfl rfl ?_
  refine s_iload_n E dX10_from_2 rfl rfl ?_
  refine s_vI (As := [AI x1, AI x2]) (S := []) E (Z_X10_asksNote_95 l D aC b w x1 x2 hJ.1 ) cv_X10_340 rfl rfl rfl (jv_lt hJ (by decide)) (Nat.le_of_ble_eq_true rfl) (Nat.le_of_ble_eq_true rfl) ⟨(Nat.le_of_ble_eq_true rfl), (Nat.le_of_ble_eq_true rfl)⟩ (Nat.le_of_ble_eq_true rfl) dX10_from_3 (fun z_3 u_1 hp_2 => ?_)
  obtain ⟨hz_3, hxz_3, hp_2⟩ := hp_2
  have hj_4 := jv_trans hJ hp_2
  refine z_if_eq (tgt := 18) (u := z_3.toInt) E dX10_from_6 (by decide) rfl (fun h_5 => ?_) (fun h_5 => ?_)
  ·
    refine s_bipush (v := (-2)) E dX10_from_18 (by decide) ?_
    exact r_int E dX10_from_20 ⟨⟨by decide, by decide, by first | (left; decide) | (right; decide) | (right; have hb_ := z32 x1; omega), by first | (left; decide) | (right; decide) | (right; have hb_ := z32 x2; omega)⟩, hj_4⟩
  ·
    refine s_aload_n E dX10_from_9 rfl rfl ?_
    refine s_gR (r := 108) E fg_X10_52 rfl rfl (jv_lt hj_4 (by decide)) (jv_r hj_4 (by decide +kernel)) dX10_from_10 ?_
    refine s_iload_n E dX10_from_13 rfl rfl ?_
    refine s_iald E rfl (jv_lt hj_4 (by decide)) (z_in (u := x2.toInt) rfl (by omega) (by omega)) dX10_from_14 ?_
    refine z_nm (P := fun z => z.toInt = (u_1.2.2.1 108 x2.toNatClampNeg).toInt ∧ (-1) ≤ z.toInt ∧ z.toInt ≤ 5) ⟨rfl, (ra_108 hj_4 _)⟩ (fun z_6 hz_6 => ?_)
    refine s_goto (tgt := 20) E dX10_from_15 (by decide) ?_
    exact r_int E dX10_from_20 ⟨⟨by have hb_ := z32 z_6; omega, by have hb_ := z32 z_6; omega, by first | (right; decide) | (have hb_ := z32 z_6; omega) | (have hb_ := z32 z_6; have hc_ := z32 x1; omega), by first | (right; decide) | (have hb_ := z32 z_6; omega) | (have hb_ := z32 z_6; have hc_ := z32 x2; omega)⟩, hj_4⟩
set_option maxRecDepth 20000 in
set_option maxHeartbeats 2000000 in
theorem Z_X10_all_95 (l : Launch) (D : va_G) (aC : Nat → ClassId) (b : Nat) (w : XW) (x1 : Int32) (hI : Iv w)  : CnI l D aC b M_X10_all 5 117 0 0 [AR 95, AI x1] w (fun r u => ((-2) ≤ r.toInt ∧ r.toInt ≤ 14 ∧ (¬ r.toInt = 0 ∨ (0 ≤ x1.toInt ∧ x1.toInt ≤ 5))) ∧ Jv w u) := by
  refine cn_I (own := RX10) (nm := "all") (L0 := [some (AR 95), some (AI x1), none]) (by decide +kernel) rfl rfl (Nat.le_of_ble_eq_true rfl) rfl ?_
  intro p e s m args below meth c E hin
  have hJ : Jv w w := jv_rfl hI
  have hb_x1 := z32 x1
  refine s_aload_n E dX10_all_0 rfl rfl ?_
  refine s_iload_n E dX10_all_1 rfl rfl ?_
  refine s_vI (As := [AI x1]) (S := []) E (Z_X10_asksLady_95 l D aC b w x1 hJ.1 ) cv_X10_288 rfl rfl rfl (jv_lt hJ (by decide)) (Nat.le_of_ble_eq_true rfl) (Nat.le_of_ble_eq_true rfl) ⟨(Nat.le_of_ble_eq_true rfl), (Nat.le_of_ble_eq_true rfl)⟩ (Nat.le_of_ble_eq_true rfl) dX10_all_2 (fun z_3 u_1 hp_2 => ?_)
  obtain ⟨hz_3, hxz_3, hp_2⟩ := hp_2
  have hj_4 := jv_trans hJ hp_2
  refine z_if_ne (tgt := 11) (u := z_3.toInt) E dX10_all_5 (by decide) rfl (fun h_5 => ?_) (fun h_5 => ?_)
  ·
    refine s_aload_n E dX10_all_11 rfl rfl ?_
    refine s_iload_n E dX10_all_12 rfl rfl ?_
    refine s_vI (As := [AI x1]) (S := []) E (Z_X10_goNote__95 l D aC b u_1 x1 hj_4.1 ⟨by have hb_ := z32 x1; omega, by have hb_ := z32 x1; omega⟩) cv_X10_338 rfl rfl rfl (jv_lt hj_4 (by decide)) (Nat.le_of_ble_eq_true rfl) (Nat.le_of_ble_eq_true rfl) ⟨(Nat.le_of_ble_eq_true rfl), (Nat.le_of_ble_eq_true rfl)⟩ (Nat.le_of_ble_eq_true rfl) dX10_all_13 (fun z_8 u_6 hp_7 => ?_)
    obtain ⟨hz_8, hxz_8, hf_u_6_96, hp_7⟩ := hp_7
    have hj_9 := jv_trans hj_4 hp_7
    refine s_popI E dX10_all_16 ?_
    refine s_iconst (v := 0) E dX10_all_17 (by decide) ?_
    refine s_istore_n (L2 := [some (AR 95), some (AI x1), some (AI 0)]) E dX10_all_18 rfl (by decide) rfl ?_
    refine z_loop (St := Int32) (Pi := fun q19_2_9 v19 => (0 ≤ q19_2_9.toInt ∧ q19_2_9.toInt ≤ 15) ∧ u_6 = v19) (Lf := fun q19_2_9 => [some (AR 95), some (AI x1), some (AI q19_2_9)]) (fun q19_2_9 _ => (16 - q19_2_9.toInt).toNat) 0 ⟨⟨by decide, by decide⟩, rfl⟩ ?_
    rintro q19_2_9 v19 ⟨hq19_2, hv_⟩ ih19
    subst hv_
    refine s_loc (L2 := [some (AR 95), some (AI x1), some (AI q19_2_9)]) rfl ?_
    refine s_iload_n E dX10_all_19 rfl rfl ?_
    refine s_aload_n E dX10_all_20 rfl rfl ?_
    refine s_vI (As := []) (S := [AI q19_2_9]) E (Z_X10_dances_95 l D aC b u_6  hj_9.1 ) cv_X10_247 rfl rfl rfl (jv_lt hj_9 (by decide)) (Nat.le_of_ble_eq_true rfl) (Nat.le_of_ble_eq_true rfl) ⟨(Nat.le_of_ble_eq_true rfl), (Nat.le_of_ble_eq_true rfl)⟩ (Nat.le_of_ble_eq_true rfl) dX10_all_21 (fun z_13 u_11 hp_12 => ?_)
    obtain ⟨hz_13, hxz_13, hp_12⟩ := hp_12
    subst hp_12
    refine z_icmp_gt (tgt := 52) (u := q19_2_9.toInt) (v := z_13.toInt) E dX10_all_24 (by decide) rfl rfl (fun h_15 => ?_) (fun h_15 => ?_)
    ·
      refine s_iconst (v := (-1)) E dX10_all_52 (by decide) ?_
      exact r_int E dX10_all_53 ⟨⟨by decide, by decide, by first | (left; decide) | (right; decide) | (right; have hb_ := z32 x1; omega)⟩, hj_9⟩
    ·
      refine s_aload_n E dX10_all_27 rfl rfl ?_
      refine s_gR (r := 106) E fg_X10_46 rfl rfl (jv_lt hj_9 (by decide)) (jv_r hj_9 (by decide +kernel)) dX10_all_28 ?_
      refine s_iload_n E dX10_all_31 rfl rfl ?_
      refine s_iald E rfl (jv_lt hj_9 (by decide)) (z_in (u := q19_2_9.toInt) rfl (by omega) (by omega)) dX10_all_32 ?_
      refine z_nm (P := fun z => (-2147483648) ≤ z.toInt ∧ z.toInt ≤ 2147483647) (z32 _) (fun z_16 hz_16 => ?_)
      refine s_iconst (v := 1) E dX10_all_33 (by decide) ?_
      refine s_aload_n E dX10_all_34 rfl rfl ?_
      refine s_vI (As := []) (S := [AI 1, AI z_16]) E (Z_X10_ladies_95 l D aC b u_6  hj_9.1 ) cv_X10_244 rfl rfl rfl (jv_lt hj_9 (by decide)) (Nat.le_of_ble_eq_true rfl) (Nat.le_of_ble_eq_true rfl) ⟨(Nat.le_of_ble_eq_true rfl), (Nat.le_of_ble_eq_true rfl)⟩ (Nat.le_of_ble_eq_true rfl) dX10_all_35 (fun z_19 u_17 hp_18 => ?_)
      obtain ⟨hz_19, hxz_19, hp_18⟩ := hp_18
      subst hp_18
      refine z_shl1 6 (u := z_19.toInt) (B := 64) E dX10_all_38 rfl (by omega) (by omega) (by decide) (by decide) (fun z_21 hz_21 => ?_)
      refine s_iconst (v := 1) E dX10_all_39 (by decide) ?_
      refine z_isub (u := z_21.toInt) (v := 1) E dX10_all_40 rfl (by decide) (by omega) (by omega) (fun z_22 hz_22 => ?_)
      refine z_icmp_ne (tgt := 46) (u := z_16.toInt) (v := z_22.toInt) E dX10_all_41 (by decide) rfl rfl (fun h_23 => ?_) (fun h_23 => ?_)
      ·
        refine z_iinc (u := q19_2_9.toInt) (L2 := fun z_24 => [some (AR 95), some (AI x1), some (AI z_24)]) E dX10_all_46 rfl rfl (by decide) (fun _ => rfl) (by decide) (by omega) (by omega) (fun z_24 hz_24 => ?_)
        refine s_goto (tgt := 19) E dX10_all_49 (by decide) ?_
        exact ih19 z_24 u_6 ⟨⟨by have hb_ := z32 z_24; omega, by have hb_ := z32 z_24; omega⟩, rfl⟩ (by first | omega | decide | (dsimp only; omega) | (dsimp only; decide))
      ·
        refine s_iload_n E dX10_all_44 rfl rfl ?_
        exact r_int E dX10_all_45 ⟨⟨by have hb_ := z32 q19_2_9; omega, by have hb_ := z32 q19_2_9; omega, by first | (right; decide) | (have hb_ := z32 q19_2_9; omega) | (have hb_ := z32 q19_2_9; have hc_ := z32 x1; omega)⟩, hj_9⟩
  ·
    refine s_bipush (v := (-2)) E dX10_all_8 (by decide) ?_
    exact r_int E dX10_all_10 ⟨⟨by decide, by decide, by first | (left; decide) | (right; decide) | (right; have hb_ := z32 x1; omega)⟩, hj_4⟩
set_option maxRecDepth 20000 in
set_option maxHeartbeats 2000000 in
theorem Z_X10_best_95 (l : Launch) (D : va_G) (aC : Nat → ClassId) (b : Nat) (w : XW)  (hI : Iv w)  : CnI l D aC b M_X10_best 5 117 0 0 [AR 95] w (fun r u => ((-2) ≤ r.toInt ∧ r.toInt ≤ 64) ∧ Jv w u) := by
  refine cn_I (own := RX10) (nm := "best") (L0 := [some (AR 95), none, none, none, none]) (by decide +kernel) rfl rfl (Nat.le_of_ble_eq_true rfl) rfl ?_
  intro p e s m args below meth c E hin
  have hJ : Jv w w := jv_rfl hI
  refine s_aload_n E dX10_best_0 rfl rfl ?_
  refine s_vI (As := []) (S := []) E (Z_X10_asksBall_95 l D aC b w  hJ.1 ) cv_X10_322 rfl rfl rfl (jv_lt hJ (by decide)) (Nat.le_of_ble_eq_true rfl) (Nat.le_of_ble_eq_true rfl) ⟨(Nat.le_of_ble_eq_true rfl), (Nat.le_of_ble_eq_true rfl)⟩ (Nat.le_of_ble_eq_true rfl) dX10_best_1 (fun z_3 u_1 hp_2 => ?_)
  obtain ⟨hz_3, hp_2⟩ := hp_2
  have hj_4 := jv_trans hJ hp_2
  refine z_if_ne (tgt := 10) (u := z_3.toInt) E dX10_best_4 (by decide) rfl (fun h_5 => ?_) (fun h_5 => ?_)
  ·
    refine s_iconst (v := (-1)) E dX10_best_10 (by decide) ?_
    refine s_istore_n (L2 := [some (AR 95), some (AI (-1)), none, none, none]) E dX10_best_11 rfl (by decide) rfl ?_
    refine s_iconst (v := 0) E dX10_best_12 (by decide) ?_
    refine s_istore_n (L2 := [some (AR 95), some (AI (-1)), some (AI 0), none, none]) E dX10_best_13 rfl (by decide) rfl ?_
    refine s_iconst (v := 0) E dX10_best_14 (by decide) ?_
    refine s_istore_n (L2 := [some (AR 95), some (AI (-1)), some (AI 0), some (AI 0), none]) E dX10_best_15 rfl (by decide) rfl ?_
    refine z_loop (St := Int32 × Int32 × Int32) (Pi := fun ⟨q16_1_5, q16_2_5, q16_3_5⟩ v16 => ((-1) ≤ q16_1_5.toInt ∧ q16_1_5.toInt ≤ 64) ∧ (0 ≤ q16_2_5.toInt ∧ q16_2_5.toInt ≤ 2147483647) ∧ (0 ≤ q16_3_5.toInt ∧ q16_3_5.toInt ≤ 6) ∧ Jv w v16) (Lf := fun ⟨q16_1_5, q16_2_5, q16_3_5⟩ => [some (AR 95), some (AI q16_1_5), some (AI q16_2_5), some (AI q16_3_5), none]) (fun ⟨q16_1_5, q16_2_5, q16_3_5⟩ _ => (7 - q16_3_5.toInt).toNat) ⟨(-1), 0, 0⟩ ⟨⟨by decide, by decide⟩, ⟨by decide, by decide⟩, ⟨by decide, by decide⟩, hj_4⟩ ?_
    rintro ⟨q16_1_5, q16_2_5, q16_3_5⟩ v16 ⟨hq16_1, hq16_2, hq16_3, hj_6⟩ ih16
    refine s_loc (L2 := [some (AR 95), some (AI q16_1_5), some (AI q16_2_5), some (AI q16_3_5), none]) rfl ?_
    refine s_iload_n E dX10_best_16 rfl rfl ?_
    refine s_aload_n E dX10_best_17 rfl rfl ?_
    refine s_vI (As := []) (S := [AI q16_3_5]) E (Z_X10_ladies_95 l D aC b v16  hj_6.1 ) cv_X10_244 rfl rfl rfl (jv_lt hj_6 (by decide)) (Nat.le_of_ble_eq_true rfl) (Nat.le_of_ble_eq_true rfl) ⟨(Nat.le_of_ble_eq_true rfl), (Nat.le_of_ble_eq_true rfl)⟩ (Nat.le_of_ble_eq_true rfl) dX10_best_18 (fun z_9 u_7 hp_8 => ?_)
    obtain ⟨hz_9, hxz_9, hp_8⟩ := hp_8
    subst hp_8
    refine z_icmp_ge (tgt := 54) (u := q16_3_5.toInt) (v := z_9.toInt) E dX10_best_21 (by decide) rfl rfl (fun h_11 => ?_) (fun h_11 => ?_)
    ·
      refine s_iload_n E dX10_best_54 rfl rfl ?_
      exact r_int E dX10_best_55 ⟨⟨by have hb_ := z32 q16_1_5; omega, by have hb_ := z32 q16_1_5; omega⟩, hj_6⟩
    ·
      refine s_aload_n E dX10_best_24 rfl rfl ?_
      refine s_iload_n E dX10_best_25 rfl rfl ?_
      refine s_vI (As := [AI q16_3_5]) (S := []) E (Z_X10_goNote__95 l D aC b v16 q16_3_5 hj_6.1 ⟨by have hb_ := z32 q16_3_5; omega, by have hb_ := z32 q16_3_5; omega⟩) cv_X10_338 rfl rfl rfl (jv_lt hj_6 (by decide)) (Nat.le_of_ble_eq_true rfl) (Nat.le_of_ble_eq_true rfl) ⟨(Nat.le_of_ble_eq_true rfl), (Nat.le_of_ble_eq_true rfl)⟩ (Nat.le_of_ble_eq_true rfl) dX10_best_26 (fun z_14 u_12 hp_13 => ?_)
      obtain ⟨hz_14, hxz_14, hf_u_12_96, hp_13⟩ := hp_13
      have hj_15 := jv_trans hj_6 hp_13
      refine s_sI (As := [AI z_14]) (S := []) E (Z_X10_bits l D aC b u_12 z_14 hj_15.1 ) cs_X10_319 rfl rfl (Nat.le_of_ble_eq_true rfl) (Nat.le_of_ble_eq_true rfl) ⟨(Nat.le_of_ble_eq_true rfl), (Nat.le_of_ble_eq_true rfl)⟩ (Nat.le_of_ble_eq_true rfl) dX10_best_29 (fun z_18 u_16 hp_17 => ?_)
      obtain ⟨hz_18, hp_17⟩ := hp_17
      subst hp_17
      refine s_istore (L2 := [some (AR 95), some (AI q16_1_5), some (AI q16_2_5), some (AI q16_3_5), some (AI z_18)]) E dX10_best_32 (by decide) rfl ?_
      refine s_iload E dX10_best_34 rfl ?_
      refine s_iload_n E dX10_best_36 rfl rfl ?_
      refine z_icmp_gt (tgt := 43) (u := z_18.toInt) (v := q16_2_5.toInt) E dX10_best_37 (by decide) rfl rfl (fun h_20 => ?_) (fun h_20 => ?_)
      ·
        refine s_iload E dX10_best_43 rfl ?_
        refine s_istore_n (L2 := [some (AR 95), some (AI q16_1_5), some (AI z_18), some (AI q16_3_5), some (AI z_18)]) E dX10_best_45 rfl (by decide) rfl ?_
        refine s_iload_n E dX10_best_46 rfl rfl ?_
        refine s_istore_n (L2 := [some (AR 95), some (AI q16_3_5), some (AI z_18), some (AI q16_3_5), some (AI z_18)]) E dX10_best_47 rfl (by decide) rfl ?_
        refine z_iinc (u := q16_3_5.toInt) (L2 := fun z_21 => [some (AR 95), some (AI q16_3_5), some (AI z_18), some (AI z_21), some (AI z_18)]) E dX10_best_48 rfl rfl (by decide) (fun _ => rfl) (by decide) (by omega) (by omega) (fun z_21 hz_21 => ?_)
        refine s_goto (tgt := 16) E dX10_best_51 (by decide) ?_
        refine s_drop (i := 4) (L2 := [some (AR 95), some (AI q16_3_5), some (AI z_18), some (AI z_21), none]) rfl ?_
        exact ih16 ⟨q16_3_5, z_18, z_21⟩ u_12 ⟨⟨by have hb_ := z32 q16_3_5; omega, by have hb_ := z32 q16_3_5; omega⟩, ⟨by have hb_ := z32 z_18; omega, by have hb_ := z32 z_18; omega⟩, ⟨by have hb_ := z32 z_21; omega, by have hb_ := z32 z_21; omega⟩, hj_15⟩ (by first | omega | decide | (dsimp only; omega) | (dsimp only; decide))
      ·
        refine s_goto (tgt := 48) E dX10_best_40 (by decide) ?_
        refine z_iinc (u := q16_3_5.toInt) (L2 := fun z_22 => [some (AR 95), some (AI q16_1_5), some (AI q16_2_5), some (AI z_22), some (AI z_18)]) E dX10_best_48 rfl rfl (by decide) (fun _ => rfl) (by decide) (by omega) (by omega) (fun z_22 hz_22 => ?_)
        refine s_goto (tgt := 16) E dX10_best_51 (by decide) ?_
        refine s_drop (i := 4) (L2 := [some (AR 95), some (AI q16_1_5), some (AI q16_2_5), some (AI z_22), none]) rfl ?_
        exact ih16 ⟨q16_1_5, q16_2_5, z_22⟩ u_12 ⟨⟨by have hb_ := z32 q16_1_5; omega, by have hb_ := z32 q16_1_5; omega⟩, ⟨by have hb_ := z32 q16_2_5; omega, by have hb_ := z32 q16_2_5; omega⟩, ⟨by have hb_ := z32 z_22; omega, by have hb_ := z32 z_22; omega⟩, hj_15⟩ (by first | omega | decide | (dsimp only; omega) | (dsimp only; decide))
  ·
    refine s_bipush (v := (-2)) E dX10_best_7 (by decide) ?_
    exact r_int E dX10_best_9 ⟨(by decide), hj_4⟩
set_option maxRecDepth 20000 in
set_option maxHeartbeats 2000000 in
theorem Z_X10_lasts_95 (l : Launch) (D : va_G) (aC : Nat → ClassId) (b : Nat) (w : XW) (x1 : Int32) (hI : Iv w)  : CnI l D aC b M_X10_lasts 5 117 0 0 [AR 95, AI x1] w (fun r u => ((-2) ≤ r.toInt ∧ r.toInt ≤ 14 ∧ (¬ r.toInt = 0 ∨ (0 ≤ x1.toInt ∧ x1.toInt ≤ 5))) ∧ Jv w u) := by
  refine cn_I (own := RX10) (nm := "lasts") (L0 := [some (AR 95), some (AI x1), none, none]) (by decide +kernel) rfl rfl (Nat.le_of_ble_eq_true rfl) rfl ?_
  intro p e s m args below meth c E hin
  have hJ : Jv w w := jv_rfl hI
  have hb_x1 := z32 x1
  refine s_aload_n E dX10_lasts_0 rfl rfl ?_
  refine s_iload_n E dX10_lasts_1 rfl rfl ?_
  refine s_vI (As := [AI x1]) (S := []) E (Z_X10_asksLady_95 l D aC b w x1 hJ.1 ) cv_X10_288 rfl rfl rfl (jv_lt hJ (by decide)) (Nat.le_of_ble_eq_true rfl) (Nat.le_of_ble_eq_true rfl) ⟨(Nat.le_of_ble_eq_true rfl), (Nat.le_of_ble_eq_true rfl)⟩ (Nat.le_of_ble_eq_true rfl) dX10_lasts_2 (fun z_3 u_1 hp_2 => ?_)
  obtain ⟨hz_3, hxz_3, hp_2⟩ := hp_2
  have hj_4 := jv_trans hJ hp_2
  refine z_if_ne (tgt := 11) (u := z_3.toInt) E dX10_lasts_5 (by decide) rfl (fun h_5 => ?_) (fun h_5 => ?_)
  ·
    refine s_aload_n E dX10_lasts_11 rfl rfl ?_
    refine s_iload_n E dX10_lasts_12 rfl rfl ?_
    refine s_vI (As := [AI x1]) (S := []) E (Z_X10_goNote__95 l D aC b u_1 x1 hj_4.1 ⟨by have hb_ := z32 x1; omega, by have hb_ := z32 x1; omega⟩) cv_X10_338 rfl rfl rfl (jv_lt hj_4 (by decide)) (Nat.le_of_ble_eq_true rfl) (Nat.le_of_ble_eq_true rfl) ⟨(Nat.le_of_ble_eq_true rfl), (Nat.le_of_ble_eq_true rfl)⟩ (Nat.le_of_ble_eq_true rfl) dX10_lasts_13 (fun z_8 u_6 hp_7 => ?_)
    obtain ⟨hz_8, hxz_8, hf_u_6_96, hp_7⟩ := hp_7
    have hj_9 := jv_trans hj_4 hp_7
    refine s_popI E dX10_lasts_16 ?_
    refine s_iconst (v := (-1)) E dX10_lasts_17 (by decide) ?_
    refine s_istore_n (L2 := [some (AR 95), some (AI x1), some (AI (-1)), none]) E dX10_lasts_18 rfl (by decide) rfl ?_
    refine s_iconst (v := 0) E dX10_lasts_19 (by decide) ?_
    refine s_istore_n (L2 := [some (AR 95), some (AI x1), some (AI (-1)), some (AI 0)]) E dX10_lasts_20 rfl (by decide) rfl ?_
    refine z_loop (St := Int32 × Int32) (Pi := fun ⟨q21_2_9, q21_3_9⟩ v21 => ((-1) ≤ q21_2_9.toInt ∧ q21_2_9.toInt ≤ 14) ∧ (0 ≤ q21_3_9.toInt ∧ q21_3_9.toInt ≤ 6) ∧ u_6 = v21) (Lf := fun ⟨q21_2_9, q21_3_9⟩ => [some (AR 95), some (AI x1), some (AI q21_2_9), some (AI q21_3_9)]) (fun ⟨q21_2_9, q21_3_9⟩ _ => (7 - q21_3_9.toInt).toNat) ⟨(-1), 0⟩ ⟨⟨by decide, by decide⟩, ⟨by decide, by decide⟩, rfl⟩ ?_
    rintro ⟨q21_2_9, q21_3_9⟩ v21 ⟨hq21_2, hq21_3, hv_⟩ ih21
    subst hv_
    refine s_loc (L2 := [some (AR 95), some (AI x1), some (AI q21_2_9), some (AI q21_3_9)]) rfl ?_
    refine s_iload_n E dX10_lasts_21 rfl rfl ?_
    refine s_aload_n E dX10_lasts_22 rfl rfl ?_
    refine s_vI (As := []) (S := [AI q21_3_9]) E (Z_X10_ladies_95 l D aC b u_6  hj_9.1 ) cv_X10_244 rfl rfl rfl (jv_lt hj_9 (by decide)) (Nat.le_of_ble_eq_true rfl) (Nat.le_of_ble_eq_true rfl) ⟨(Nat.le_of_ble_eq_true rfl), (Nat.le_of_ble_eq_true rfl)⟩ (Nat.le_of_ble_eq_true rfl) dX10_lasts_23 (fun z_13 u_11 hp_12 => ?_)
    obtain ⟨hz_13, hxz_13, hp_12⟩ := hp_12
    subst hp_12
    refine z_icmp_ge (tgt := 55) (u := q21_3_9.toInt) (v := z_13.toInt) E dX10_lasts_26 (by decide) rfl rfl (fun h_15 => ?_) (fun h_15 => ?_)
    ·
      refine s_iload_n E dX10_lasts_55 rfl rfl ?_
      exact r_int E dX10_lasts_56 ⟨⟨by have hb_ := z32 q21_2_9; omega, by have hb_ := z32 q21_2_9; omega, by first | (right; decide) | (have hb_ := z32 q21_2_9; omega) | (have hb_ := z32 q21_2_9; have hc_ := z32 x1; omega)⟩, hj_9⟩
    ·
      refine s_iload_n E dX10_lasts_29 rfl rfl ?_
      refine s_iload_n E dX10_lasts_30 rfl rfl ?_
      refine z_icmp_ne (tgt := 38) (u := q21_3_9.toInt) (v := x1.toInt) E dX10_lasts_31 (by decide) rfl rfl (fun h_16 => ?_) (fun h_16 => ?_)
      ·
        refine s_iload_n E dX10_lasts_38 rfl rfl ?_
        refine s_aload_n E dX10_lasts_39 rfl rfl ?_
        refine s_gR (r := 107) E fg_X10_49 rfl rfl (jv_lt hj_9 (by decide)) (jv_r hj_9 (by decide +kernel)) dX10_lasts_40 ?_
        refine s_iload_n E dX10_lasts_43 rfl rfl ?_
        refine s_iald E rfl (jv_lt hj_9 (by decide)) (z_in (u := q21_3_9.toInt) rfl (by omega) (by omega)) dX10_lasts_44 ?_
        refine z_nm (P := fun z => z.toInt = (u_6.2.2.1 107 q21_3_9.toNatClampNeg).toInt ∧ (-1) ≤ z.toInt ∧ z.toInt ≤ 14) ⟨rfl, (ra_107 hj_9 _)⟩ (fun z_17 hz_17 => ?_)
        refine z_max (u := q21_2_9.toInt) (v := z_17.toInt) E ⟨k_1728, k_41, k_4, k_42⟩ (Nat.le_of_ble_eq_true rfl) (Nat.le_of_ble_eq_true rfl) (Nat.le_of_ble_eq_true rfl) (Nat.le_of_ble_eq_true rfl) dX10_lasts_45 rfl rfl (fun z_18 hz_18 => ?_)
        refine s_istore_n (L2 := [some (AR 95), some (AI x1), some (AI z_18), some (AI q21_3_9)]) E dX10_lasts_48 rfl (by decide) rfl ?_
        refine z_iinc (u := q21_3_9.toInt) (L2 := fun z_19 => [some (AR 95), some (AI x1), some (AI z_18), some (AI z_19)]) E dX10_lasts_49 rfl rfl (by decide) (fun _ => rfl) (by decide) (by omega) (by omega) (fun z_19 hz_19 => ?_)
        refine s_goto (tgt := 21) E dX10_lasts_52 (by decide) ?_
        exact ih21 ⟨z_18, z_19⟩ u_6 ⟨⟨by have hb_ := z32 z_18; omega, by have hb_ := z32 z_18; omega⟩, ⟨by have hb_ := z32 z_19; omega, by have hb_ := z32 z_19; omega⟩, rfl⟩ (by first | omega | decide | (dsimp only; omega) | (dsimp only; decide))
      ·
        refine s_iload_n E dX10_lasts_34 rfl rfl ?_
        refine s_goto (tgt := 48) E dX10_lasts_35 (by decide) ?_
        refine s_istore_n (L2 := [some (AR 95), some (AI x1), some (AI q21_2_9), some (AI q21_3_9)]) E dX10_lasts_48 rfl (by decide) rfl ?_
        refine z_iinc (u := q21_3_9.toInt) (L2 := fun z_20 => [some (AR 95), some (AI x1), some (AI q21_2_9), some (AI z_20)]) E dX10_lasts_49 rfl rfl (by decide) (fun _ => rfl) (by decide) (by omega) (by omega) (fun z_20 hz_20 => ?_)
        refine s_goto (tgt := 21) E dX10_lasts_52 (by decide) ?_
        exact ih21 ⟨q21_2_9, z_20⟩ u_6 ⟨⟨by have hb_ := z32 q21_2_9; omega, by have hb_ := z32 q21_2_9; omega⟩, ⟨by have hb_ := z32 z_20; omega, by have hb_ := z32 z_20; omega⟩, rfl⟩ (by first | omega | decide | (dsimp only; omega) | (dsimp only; decide))
  ·
    refine s_bipush (v := (-2)) E dX10_lasts_8 (by decide) ?_
    exact r_int E dX10_lasts_10 ⟨⟨by decide, by decide, by first | (left; decide) | (right; decide) | (right; have hb_ := z32 x1; omega)⟩, hj_4⟩
