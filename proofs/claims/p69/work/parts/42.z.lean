set_option maxRecDepth 20000 in
set_option maxHeartbeats 2000000 in
theorem Z_X10_sees_95 (l : Launch) (D : va_G) (aC : Nat → ClassId) (b : Nat) (w : XW) (x1 : Int32) (hI : Iv w)  : CnI l D aC b M_X10_sees 5 113 0 0 [AR 95, AI x1] w (fun r u => ((-2147483648) ≤ r.toInt ∧ r.toInt ≤ 2147483647 ∧ (¬ r.toInt = 0 ∨ (0 ≤ x1.toInt ∧ x1.toInt ≤ 5))) ∧ Jv w u) := by
  refine cn_I (own := RX10) (nm := "sees") (L0 := [some (AR 95), some (AI x1), none, none]) (by decide +kernel) rfl rfl (Nat.le_of_ble_eq_true rfl) rfl ?_
  intro p e s m args below meth c E hin
  have hJ : Jv w w := jv_rfl hI
  have hb_x1 := z32 x1
  refine s_aload_n E dX10_sees_0 rfl rfl ?_
  refine s_iload_n E dX10_sees_1 rfl rfl ?_
  refine s_vI (As := [AI x1]) (S := []) E (Z_X10_asksLady_95 l D aC b w x1 hJ.1 ) cv_X10_288 rfl rfl rfl (jv_lt hJ (by decide)) (Nat.le_of_ble_eq_true rfl) (Nat.le_of_ble_eq_true rfl) ⟨(Nat.le_of_ble_eq_true rfl), (Nat.le_of_ble_eq_true rfl)⟩ (Nat.le_of_ble_eq_true rfl) dX10_sees_2 (fun z_3 u_1 hp_2 => ?_)
  obtain ⟨hz_3, hp_2⟩ := hp_2
  have hj_4 := jv_trans hJ hp_2
  refine z_if_ne (tgt := 11) (u := z_3.toInt) E dX10_sees_5 (by decide) rfl (fun h_5 => ?_) (fun h_5 => ?_)
  ·
    refine s_iconst (v := 0) E dX10_sees_11 (by decide) ?_
    refine s_istore_n (L2 := [some (AR 95), some (AI x1), some (AI 0), none]) E dX10_sees_12 rfl (by decide) rfl ?_
    refine s_iconst (v := 0) E dX10_sees_13 (by decide) ?_
    refine s_istore_n (L2 := [some (AR 95), some (AI x1), some (AI 0), some (AI 0)]) E dX10_sees_14 rfl (by decide) rfl ?_
    refine z_loop (St := Int32 × Int32) (Pi := fun ⟨q15_2_5, q15_3_5⟩ v15 => (0 ≤ q15_3_5.toInt ∧ q15_3_5.toInt ≤ 15) ∧ u_1 = v15) (Lf := fun ⟨q15_2_5, q15_3_5⟩ => [some (AR 95), some (AI x1), some (AI q15_2_5), some (AI q15_3_5)]) (fun ⟨q15_2_5, q15_3_5⟩ _ => (16 - q15_3_5.toInt).toNat) ⟨0, 0⟩ ⟨⟨by decide, by decide⟩, rfl⟩ ?_
    rintro ⟨q15_2_5, q15_3_5⟩ v15 ⟨hq15_3, hv_⟩ ih15
    subst hv_
    have hbq15_2 := z32 q15_2_5
    refine s_loc (L2 := [some (AR 95), some (AI x1), some (AI q15_2_5), some (AI q15_3_5)]) rfl ?_
    refine s_iload_n E dX10_sees_15 rfl rfl ?_
    refine s_aload_n E dX10_sees_16 rfl rfl ?_
    refine s_vI (As := []) (S := [AI q15_3_5]) E (Z_X10_dances_95 l D aC b u_1  hj_4.1 ) cv_X10_247 rfl rfl rfl (jv_lt hj_4 (by decide)) (Nat.le_of_ble_eq_true rfl) (Nat.le_of_ble_eq_true rfl) ⟨(Nat.le_of_ble_eq_true rfl), (Nat.le_of_ble_eq_true rfl)⟩ (Nat.le_of_ble_eq_true rfl) dX10_sees_17 (fun z_9 u_7 hp_8 => ?_)
    obtain ⟨hz_9, hxz_9, hp_8⟩ := hp_8
    subst hp_8
    refine z_icmp_gt (tgt := 40) (u := q15_3_5.toInt) (v := z_9.toInt) E dX10_sees_20 (by decide) rfl rfl (fun h_11 => ?_) (fun h_11 => ?_)
    ·
      refine s_iload_n E dX10_sees_40 rfl rfl ?_
      exact r_int E dX10_sees_41 ⟨⟨by have hb_ := z32 q15_2_5; omega, by have hb_ := z32 q15_2_5; omega, by first | (right; decide) | (have hb_ := z32 q15_2_5; omega) | (have hb_ := z32 q15_2_5; have hc_ := z32 x1; omega)⟩, hj_4⟩
    ·
      refine s_iload_n E dX10_sees_23 rfl rfl ?_
      refine s_iconst (v := 1) E dX10_sees_24 (by decide) ?_
      refine s_aload_n E dX10_sees_25 rfl rfl ?_
      refine s_iload_n E dX10_sees_26 rfl rfl ?_
      refine s_iload_n E dX10_sees_27 rfl rfl ?_
      refine s_vI (As := [AI x1, AI q15_3_5]) (S := [AI 1, AI q15_2_5]) E (Z_X10_atOf_95 l D aC b u_1 x1 q15_3_5 hj_4.1 ⟨by have hb_ := z32 x1; omega, by have hb_ := z32 x1; omega⟩ ⟨by have hb_ := z32 q15_3_5; omega, by have hb_ := z32 q15_3_5; omega⟩) cv_X10_255 rfl rfl rfl (jv_lt hj_4 (by decide)) (Nat.le_of_ble_eq_true rfl) (Nat.le_of_ble_eq_true rfl) ⟨(Nat.le_of_ble_eq_true rfl), (Nat.le_of_ble_eq_true rfl)⟩ (Nat.le_of_ble_eq_true rfl) dX10_sees_28 (fun z_14 u_12 hp_13 => ?_)
      obtain ⟨hz_14, hp_13⟩ := hp_13
      subst hp_13
      refine z_shl1 7 (u := z_14.toInt) (B := 128) E dX10_sees_31 rfl (by omega) (by omega) (by decide) (by decide) (fun z_16 hz_16 => ?_)
      refine s_ior E dX10_sees_32 ?_
      refine z_nm (P := fun z => (-2147483648) ≤ z.toInt ∧ z.toInt ≤ 2147483647) (z32 _) (fun z_17 hz_17 => ?_)
      refine s_istore_n (L2 := [some (AR 95), some (AI x1), some (AI z_17), some (AI q15_3_5)]) E dX10_sees_33 rfl (by decide) rfl ?_
      refine z_iinc (u := q15_3_5.toInt) (L2 := fun z_18 => [some (AR 95), some (AI x1), some (AI z_17), some (AI z_18)]) E dX10_sees_34 rfl rfl (by decide) (fun _ => rfl) (by decide) (by omega) (by omega) (fun z_18 hz_18 => ?_)
      refine s_goto (tgt := 15) E dX10_sees_37 (by decide) ?_
      exact ih15 ⟨z_17, z_18⟩ u_1 ⟨⟨by have hb_ := z32 z_18; omega, by have hb_ := z32 z_18; omega⟩, rfl⟩ (by first | omega | decide | (dsimp only; omega) | (dsimp only; decide))
  ·
    refine s_bipush (v := (-2)) E dX10_sees_8 (by decide) ?_
    exact r_int E dX10_sees_10 ⟨⟨by decide, by decide, by first | (left; decide) | (right; decide) | (right; have hb_ := z32 x1; omega)⟩, hj_4⟩
set_option maxRecDepth 20000 in
set_option maxHeartbeats 2000000 in
theorem Z_X10_doMeet_95 (l : Launch) (D : va_G) (aC : Nat → ClassId) (b : Nat) (w : XW) (x1 : Int32) (x2 : Int32) (x3 : Int32) (hI : Iv w) (hx1 : 0 ≤ x1.toInt ∧ x1.toInt ≤ 5) (hx2 : 0 ≤ x2.toInt ∧ x2.toInt ≤ 5) (hx3 : 0 ≤ x3.toInt ∧ x3.toInt ≤ 14) : CnI l D aC b M_X10_doMeet 1 22 0 0 [AR 95, AI x1, AI x2, AI x3] w (fun r u => (0 ≤ r.toInt ∧ r.toInt ≤ 1) ∧ w = u) := by
  refine cn_I (own := RX10) (nm := "doMeet") (L0 := [some (AR 95), some (AI x1), some (AI x2), some (AI x3)]) (by decide +kernel) rfl rfl (Nat.le_of_ble_eq_true rfl) rfl ?_
  intro p e s m args below meth c E hin
  have hJ : Jv w w := jv_rfl hI
  refine s_aload_n E dX10_doMeet_0 rfl rfl ?_
  refine s_iload_n E dX10_doMeet_1 rfl rfl ?_
  refine s_iload_n E dX10_doMeet_2 rfl rfl ?_
  refine s_vI (As := [AI x1, AI x3]) (S := []) E (Z_X10_atOf_95 l D aC b w x1 x3 hJ.1 ⟨by have hb_ := z32 x1; omega, by have hb_ := z32 x1; omega⟩ ⟨by have hb_ := z32 x3; omega, by have hb_ := z32 x3; omega⟩) cv_X10_255 rfl rfl rfl (jv_lt hJ (by decide)) (Nat.le_of_ble_eq_true rfl) (Nat.le_of_ble_eq_true rfl) ⟨(Nat.le_of_ble_eq_true rfl), (Nat.le_of_ble_eq_true rfl)⟩ (Nat.le_of_ble_eq_true rfl) dX10_doMeet_3 (fun z_3 u_1 hp_2 => ?_)
  obtain ⟨hz_3, hp_2⟩ := hp_2
  subst hp_2
  refine s_aload_n E dX10_doMeet_6 rfl rfl ?_
  refine s_iload_n E dX10_doMeet_7 rfl rfl ?_
  refine s_iload_n E dX10_doMeet_8 rfl rfl ?_
  refine s_vI (As := [AI x2, AI x3]) (S := [AI z_3]) E (Z_X10_atOf_95 l D aC b w x2 x3 hJ.1 ⟨by have hb_ := z32 x2; omega, by have hb_ := z32 x2; omega⟩ ⟨by have hb_ := z32 x3; omega, by have hb_ := z32 x3; omega⟩) cv_X10_255 rfl rfl rfl (jv_lt hJ (by decide)) (Nat.le_of_ble_eq_true rfl) (Nat.le_of_ble_eq_true rfl) ⟨(Nat.le_of_ble_eq_true rfl), (Nat.le_of_ble_eq_true rfl)⟩ (Nat.le_of_ble_eq_true rfl) dX10_doMeet_9 (fun z_7 u_5 hp_6 => ?_)
  obtain ⟨hz_7, hp_6⟩ := hp_6
  subst hp_6
  refine z_icmp_ne (tgt := 19) (u := z_3.toInt) (v := z_7.toInt) E dX10_doMeet_12 (by decide) rfl rfl (fun h_9 => ?_) (fun h_9 => ?_)
  ·
    refine s_iconst (v := 0) E dX10_doMeet_19 (by decide) ?_
    exact r_bool E dX10_doMeet_20 (Or.inl rfl) ⟨(by decide), rfl⟩
  ·
    refine s_iconst (v := 1) E dX10_doMeet_15 (by decide) ?_
    refine s_goto (tgt := 20) E dX10_doMeet_16 (by decide) ?_
    exact r_bool E dX10_doMeet_20 (Or.inr rfl) ⟨(by decide), rfl⟩
set_option maxRecDepth 20000 in
set_option maxHeartbeats 2000000 in
theorem Z_X10_firstMeet_95 (l : Launch) (D : va_G) (aC : Nat → ClassId) (b : Nat) (w : XW) (x1 : Int32) (x2 : Int32) (hI : Iv w) (hx1 : 0 ≤ x1.toInt ∧ x1.toInt ≤ 5) (hx2 : 0 ≤ x2.toInt ∧ x2.toInt ≤ 5) : CnI l D aC b M_X10_firstMeet 2 45 0 0 [AR 95, AI x1, AI x2] w (fun r u => ((-1) ≤ r.toInt ∧ r.toInt ≤ 14) ∧ w = u) := by
  refine cn_I (own := RX10) (nm := "firstMeet") (L0 := [some (AR 95), some (AI x1), some (AI x2), none]) (by decide +kernel) rfl rfl (Nat.le_of_ble_eq_true rfl) rfl ?_
  intro p e s m args below meth c E hin
  have hJ : Jv w w := jv_rfl hI
  refine s_iconst (v := 0) E dX10_firstMeet_0 (by decide) ?_
  refine s_istore_n (L2 := [some (AR 95), some (AI x1), some (AI x2), some (AI 0)]) E dX10_firstMeet_1 rfl (by decide) rfl ?_
  refine z_loop (St := Int32) (Pi := fun q2_3_0 v2 => (0 ≤ q2_3_0.toInt ∧ q2_3_0.toInt ≤ 15) ∧ w = v2) (Lf := fun q2_3_0 => [some (AR 95), some (AI x1), some (AI x2), some (AI q2_3_0)]) (fun q2_3_0 _ => (16 - q2_3_0.toInt).toNat) 0 ⟨⟨by decide, by decide⟩, rfl⟩ ?_
  rintro q2_3_0 v2 ⟨hq2_3, hv_⟩ ih2
  subst hv_
  refine s_loc (L2 := [some (AR 95), some (AI x1), some (AI x2), some (AI q2_3_0)]) rfl ?_
  refine s_iload_n E dX10_firstMeet_2 rfl rfl ?_
  refine s_aload_n E dX10_firstMeet_3 rfl rfl ?_
  refine s_vI (As := []) (S := [AI q2_3_0]) E (Z_X10_dances_95 l D aC b w  hJ.1 ) cv_X10_247 rfl rfl rfl (jv_lt hJ (by decide)) (Nat.le_of_ble_eq_true rfl) (Nat.le_of_ble_eq_true rfl) ⟨(Nat.le_of_ble_eq_true rfl), (Nat.le_of_ble_eq_true rfl)⟩ (Nat.le_of_ble_eq_true rfl) dX10_firstMeet_4 (fun z_4 u_2 hp_3 => ?_)
  obtain ⟨hz_4, hxz_4, hp_3⟩ := hp_3
  subst hp_3
  refine z_icmp_gt (tgt := 28) (u := q2_3_0.toInt) (v := z_4.toInt) E dX10_firstMeet_7 (by decide) rfl rfl (fun h_6 => ?_) (fun h_6 => ?_)
  ·
    refine s_iconst (v := (-1)) E dX10_firstMeet_28 (by decide) ?_
    exact r_int E dX10_firstMeet_29 ⟨(by decide), rfl⟩
  ·
    refine s_aload_n E dX10_firstMeet_10 rfl rfl ?_
    refine s_iload_n E dX10_firstMeet_11 rfl rfl ?_
    refine s_iload_n E dX10_firstMeet_12 rfl rfl ?_
    refine s_iload_n E dX10_firstMeet_13 rfl rfl ?_
    refine s_vI (As := [AI x1, AI x2, AI q2_3_0]) (S := []) E (Z_X10_doMeet_95 l D aC b w x1 x2 q2_3_0 hJ.1 ⟨by have hb_ := z32 x1; omega, by have hb_ := z32 x1; omega⟩ ⟨by have hb_ := z32 x2; omega, by have hb_ := z32 x2; omega⟩ ⟨by have hb_ := z32 q2_3_0; omega, by have hb_ := z32 q2_3_0; omega⟩) cv_X10_303 rfl rfl rfl (jv_lt hJ (by decide)) (Nat.le_of_ble_eq_true rfl) (Nat.le_of_ble_eq_true rfl) ⟨(Nat.le_of_ble_eq_true rfl), (Nat.le_of_ble_eq_true rfl)⟩ (Nat.le_of_ble_eq_true rfl) dX10_firstMeet_14 (fun z_9 u_7 hp_8 => ?_)
    obtain ⟨hz_9, hp_8⟩ := hp_8
    subst hp_8
    refine z_if_eq (tgt := 22) (u := z_9.toInt) E dX10_firstMeet_17 (by decide) rfl (fun h_11 => ?_) (fun h_11 => ?_)
    ·
      refine z_iinc (u := q2_3_0.toInt) (L2 := fun z_12 => [some (AR 95), some (AI x1), some (AI x2), some (AI z_12)]) E dX10_firstMeet_22 rfl rfl (by decide) (fun _ => rfl) (by decide) (by omega) (by omega) (fun z_12 hz_12 => ?_)
      refine s_goto (tgt := 2) E dX10_firstMeet_25 (by decide) ?_
      exact ih2 z_12 w ⟨⟨by have hb_ := z32 z_12; omega, by have hb_ := z32 z_12; omega⟩, rfl⟩ (by first | omega | decide | (dsimp only; omega) | (dsimp only; decide))
    ·
      refine s_iload_n E dX10_firstMeet_20 rfl rfl ?_
      exact r_int E dX10_firstMeet_21 ⟨⟨by have hb_ := z32 q2_3_0; omega, by have hb_ := z32 q2_3_0; omega⟩, rfl⟩
set_option maxRecDepth 20000 in
set_option maxHeartbeats 2000000 in
theorem Z_X10_meets_95 (l : Launch) (D : va_G) (aC : Nat → ClassId) (b : Nat) (w : XW) (x1 : Int32) (x2 : Int32) (hI : Iv w)  : CnI l D aC b M_X10_meets 5 113 0 0 [AR 95, AI x1, AI x2] w (fun r u => ((-2) ≤ r.toInt ∧ r.toInt ≤ 14 ∧ (¬ r.toInt = 0 ∨ (0 ≤ x1.toInt ∧ x1.toInt ≤ 5)) ∧ (¬ r.toInt = 0 ∨ (0 ≤ x2.toInt ∧ x2.toInt ≤ 5))) ∧ Jv w u) := by
  refine cn_I (own := RX10) (nm := "meets") (L0 := [some (AR 95), some (AI x1), some (AI x2)]) (by decide +kernel) rfl rfl (Nat.le_of_ble_eq_true rfl) rfl ?_
  intro p e s m args below meth c E hin
  have hJ : Jv w w := jv_rfl hI
  have hb_x1 := z32 x1
  have hb_x2 := z32 x2
  refine s_aload_n E dX10_meets_0 rfl rfl ?_
  refine s_iload_n E dX10_meets_1 rfl rfl ?_
  refine s_vI (As := [AI x1]) (S := []) E (Z_X10_asksLady_95 l D aC b w x1 hJ.1 ) cv_X10_288 rfl rfl rfl (jv_lt hJ (by decide)) (Nat.le_of_ble_eq_true rfl) (Nat.le_of_ble_eq_true rfl) ⟨(Nat.le_of_ble_eq_true rfl), (Nat.le_of_ble_eq_true rfl)⟩ (Nat.le_of_ble_eq_true rfl) dX10_meets_2 (fun z_3 u_1 hp_2 => ?_)
  obtain ⟨hz_3, hp_2⟩ := hp_2
  have hj_4 := jv_trans hJ hp_2
  refine z_if_eq (tgt := 26) (u := z_3.toInt) E dX10_meets_5 (by decide) rfl (fun h_5 => ?_) (fun h_5 => ?_)
  ·
    refine s_bipush (v := (-2)) E dX10_meets_26 (by decide) ?_
    exact r_int E dX10_meets_28 ⟨⟨by decide, by decide, by first | (left; decide) | (right; decide) | (right; have hb_ := z32 x1; omega), by first | (left; decide) | (right; decide) | (right; have hb_ := z32 x2; omega)⟩, hj_4⟩
  ·
    refine s_aload_n E dX10_meets_8 rfl rfl ?_
    refine s_iload_n E dX10_meets_9 rfl rfl ?_
    refine z_i2l (u := x2.toInt) E dX10_meets_10 rfl (fun z_6 hz_6 => ?_)
    refine s_vI (As := [AL z_6]) (S := []) E (Z_X10_isLady_95 l D aC b u_1 z_6 hj_4.1 ) cv_X10_222 rfl rfl rfl (jv_lt hj_4 (by decide)) (Nat.le_of_ble_eq_true rfl) (Nat.le_of_ble_eq_true rfl) ⟨(Nat.le_of_ble_eq_true rfl), (Nat.le_of_ble_eq_true rfl)⟩ (Nat.le_of_ble_eq_true rfl) dX10_meets_11 (fun z_9 u_7 hp_8 => ?_)
    obtain ⟨hz_9, hp_8⟩ := hp_8
    subst hp_8
    refine z_if_eq (tgt := 26) (u := z_9.toInt) E dX10_meets_14 (by decide) rfl (fun h_11 => ?_) (fun h_11 => ?_)
    ·
      refine s_bipush (v := (-2)) E dX10_meets_26 (by decide) ?_
      exact r_int E dX10_meets_28 ⟨⟨by decide, by decide, by first | (left; decide) | (right; decide) | (right; have hb_ := z32 x1; omega), by first | (left; decide) | (right; decide) | (right; have hb_ := z32 x2; omega)⟩, hj_4⟩
    ·
      refine s_aload_n E dX10_meets_17 rfl rfl ?_
      refine s_iload_n E dX10_meets_18 rfl rfl ?_
      refine s_iload_n E dX10_meets_19 rfl rfl ?_
      refine s_vI (As := [AI x1, AI x2]) (S := []) E (Z_X10_firstMeet_95 l D aC b u_1 x1 x2 hj_4.1 ⟨by have hb_ := z32 x1; omega, by have hb_ := z32 x1; omega⟩ ⟨by have hb_ := z32 x2; omega, by have hb_ := z32 x2; omega⟩) cv_X10_307 rfl rfl rfl (jv_lt hj_4 (by decide)) (Nat.le_of_ble_eq_true rfl) (Nat.le_of_ble_eq_true rfl) ⟨(Nat.le_of_ble_eq_true rfl), (Nat.le_of_ble_eq_true rfl)⟩ (Nat.le_of_ble_eq_true rfl) dX10_meets_20 (fun z_14 u_12 hp_13 => ?_)
      obtain ⟨hz_14, hp_13⟩ := hp_13
      subst hp_13
      refine s_goto (tgt := 28) E dX10_meets_23 (by decide) ?_
      exact r_int E dX10_meets_28 ⟨⟨by have hb_ := z32 z_14; omega, by have hb_ := z32 z_14; omega, by first | (right; decide) | (have hb_ := z32 z_14; omega) | (have hb_ := z32 z_14; have hc_ := z32 x1; omega), by first | (right; decide) | (have hb_ := z32 z_14; omega) | (have hb_ := z32 z_14; have hc_ := z32 x2; omega)⟩, hj_4⟩
set_option maxRecDepth 20000 in
set_option maxHeartbeats 2000000 in
theorem Z_X10_oftenMeet_95 (l : Launch) (D : va_G) (aC : Nat → ClassId) (b : Nat) (w : XW) (x1 : Int32) (x2 : Int32) (hI : Iv w) (hx1 : 0 ≤ x1.toInt ∧ x1.toInt ≤ 5) (hx2 : 0 ≤ x2.toInt ∧ x2.toInt ≤ 5) : CnI l D aC b M_X10_oftenMeet 2 45 0 0 [AR 95, AI x1, AI x2] w (fun r u => ((-2147483648) ≤ r.toInt ∧ r.toInt ≤ 2147483647) ∧ w = u) := by
  refine cn_I (own := RX10) (nm := "oftenMeet") (L0 := [some (AR 95), some (AI x1), some (AI x2), none, none]) (by decide +kernel) rfl rfl (Nat.le_of_ble_eq_true rfl) rfl ?_
  intro p e s m args below meth c E hin
  have hJ : Jv w w := jv_rfl hI
  refine s_iconst (v := 0) E dX10_oftenMeet_0 (by decide) ?_
  refine s_istore_n (L2 := [some (AR 95), some (AI x1), some (AI x2), some (AI 0), none]) E dX10_oftenMeet_1 rfl (by decide) rfl ?_
  refine s_iconst (v := 0) E dX10_oftenMeet_2 (by decide) ?_
  refine s_istore (L2 := [some (AR 95), some (AI x1), some (AI x2), some (AI 0), some (AI 0)]) E dX10_oftenMeet_3 (by decide) rfl ?_
  refine z_loop (St := Int32 × Int32) (Pi := fun ⟨q5_3_0, q5_4_0⟩ v5 => (0 ≤ q5_4_0.toInt ∧ q5_4_0.toInt ≤ 15) ∧ w = v5) (Lf := fun ⟨q5_3_0, q5_4_0⟩ => [some (AR 95), some (AI x1), some (AI x2), some (AI q5_3_0), some (AI q5_4_0)]) (fun ⟨q5_3_0, q5_4_0⟩ _ => (16 - q5_4_0.toInt).toNat) ⟨0, 0⟩ ⟨⟨by decide, by decide⟩, rfl⟩ ?_
  rintro ⟨q5_3_0, q5_4_0⟩ v5 ⟨hq5_4, hv_⟩ ih5
  subst hv_
  have hbq5_3 := z32 q5_3_0
  refine s_loc (L2 := [some (AR 95), some (AI x1), some (AI x2), some (AI q5_3_0), some (AI q5_4_0)]) rfl ?_
  refine s_iload E dX10_oftenMeet_5 rfl ?_
  refine s_aload_n E dX10_oftenMeet_7 rfl rfl ?_
  refine s_vI (As := []) (S := [AI q5_4_0]) E (Z_X10_dances_95 l D aC b w  hJ.1 ) cv_X10_247 rfl rfl rfl (jv_lt hJ (by decide)) (Nat.le_of_ble_eq_true rfl) (Nat.le_of_ble_eq_true rfl) ⟨(Nat.le_of_ble_eq_true rfl), (Nat.le_of_ble_eq_true rfl)⟩ (Nat.le_of_ble_eq_true rfl) dX10_oftenMeet_8 (fun z_4 u_2 hp_3 => ?_)
  obtain ⟨hz_4, hxz_4, hp_3⟩ := hp_3
  subst hp_3
  refine z_icmp_gt (tgt := 39) (u := q5_4_0.toInt) (v := z_4.toInt) E dX10_oftenMeet_11 (by decide) rfl rfl (fun h_6 => ?_) (fun h_6 => ?_)
  ·
    refine s_iload_n E dX10_oftenMeet_39 rfl rfl ?_
    exact r_int E dX10_oftenMeet_40 ⟨⟨by have hb_ := z32 q5_3_0; omega, by have hb_ := z32 q5_3_0; omega⟩, rfl⟩
  ·
    refine s_iload_n E dX10_oftenMeet_14 rfl rfl ?_
    refine s_aload_n E dX10_oftenMeet_15 rfl rfl ?_
    refine s_iload_n E dX10_oftenMeet_16 rfl rfl ?_
    refine s_iload_n E dX10_oftenMeet_17 rfl rfl ?_
    refine s_iload E dX10_oftenMeet_18 rfl ?_
    refine s_vI (As := [AI x1, AI x2, AI q5_4_0]) (S := [AI q5_3_0]) E (Z_X10_doMeet_95 l D aC b w x1 x2 q5_4_0 hJ.1 ⟨by have hb_ := z32 x1; omega, by have hb_ := z32 x1; omega⟩ ⟨by have hb_ := z32 x2; omega, by have hb_ := z32 x2; omega⟩ ⟨by have hb_ := z32 q5_4_0; omega, by have hb_ := z32 q5_4_0; omega⟩) cv_X10_303 rfl rfl rfl (jv_lt hJ (by decide)) (Nat.le_of_ble_eq_true rfl) (Nat.le_of_ble_eq_true rfl) ⟨(Nat.le_of_ble_eq_true rfl), (Nat.le_of_ble_eq_true rfl)⟩ (Nat.le_of_ble_eq_true rfl) dX10_oftenMeet_20 (fun z_9 u_7 hp_8 => ?_)
    obtain ⟨hz_9, hp_8⟩ := hp_8
    subst hp_8
    refine z_if_eq (tgt := 30) (u := z_9.toInt) E dX10_oftenMeet_23 (by decide) rfl (fun h_11 => ?_) (fun h_11 => ?_)
    ·
      refine s_iconst (v := 0) E dX10_oftenMeet_30 (by decide) ?_
      refine z_iadd (u := q5_3_0.toInt) (v := 0) E dX10_oftenMeet_31 rfl (by decide) (by omega) (by omega) (fun z_12 hz_12 => ?_)
      refine s_istore_n (L2 := [some (AR 95), some (AI x1), some (AI x2), some (AI z_12), some (AI q5_4_0)]) E dX10_oftenMeet_32 rfl (by decide) rfl ?_
      refine z_iinc (u := q5_4_0.toInt) (L2 := fun z_13 => [some (AR 95), some (AI x1), some (AI x2), some (AI z_12), some (AI z_13)]) E dX10_oftenMeet_33 rfl rfl (by decide) (fun _ => rfl) (by decide) (by omega) (by omega) (fun z_13 hz_13 => ?_)
      refine s_goto (tgt := 5) E dX10_oftenMeet_36 (by decide) ?_
      exact ih5 ⟨z_12, z_13⟩ w ⟨⟨by have hb_ := z32 z_13; omega, by have hb_ := z32 z_13; omega⟩, rfl⟩ (by first | omega | decide | (dsimp only; omega) | (dsimp only; decide))
    ·
      refine s_iconst (v := 1) E dX10_oftenMeet_26 (by decide) ?_
      refine s_goto (tgt := 31) E dX10_oftenMeet_27 (by decide) ?_
      refine s_iadd E dX10_oftenMeet_31 ?_
      refine z_nm (P := fun z => (-2147483648) ≤ z.toInt ∧ z.toInt ≤ 2147483647) (z32 _) (fun z_14 hz_14 => ?_)
      refine s_istore_n (L2 := [some (AR 95), some (AI x1), some (AI x2), some (AI z_14), some (AI q5_4_0)]) E dX10_oftenMeet_32 rfl (by decide) rfl ?_
      refine z_iinc (u := q5_4_0.toInt) (L2 := fun z_15 => [some (AR 95), some (AI x1), some (AI x2), some (AI z_14), some (AI z_15)]) E dX10_oftenMeet_33 rfl rfl (by decide) (fun _ => rfl) (by decide) (by omega) (by omega) (fun z_15 hz_15 => ?_)
      refine s_goto (tgt := 5) E dX10_oftenMeet_36 (by decide) ?_
      exact ih5 ⟨z_14, z_15⟩ w ⟨⟨by have hb_ := z32 z_15; omega, by have hb_ := z32 z_15; omega⟩, rfl⟩ (by first | omega | decide | (dsimp only; omega) | (dsimp only; decide))
set_option maxRecDepth 20000 in
set_option maxHeartbeats 2000000 in
theorem Z_X10_often_95 (l : Launch) (D : va_G) (aC : Nat → ClassId) (b : Nat) (w : XW) (x1 : Int32) (x2 : Int32) (hI : Iv w)  : CnI l D aC b M_X10_often 5 113 0 0 [AR 95, AI x1, AI x2] w (fun r u => ((-2147483648) ≤ r.toInt ∧ r.toInt ≤ 2147483647 ∧ (¬ r.toInt = 0 ∨ (0 ≤ x1.toInt ∧ x1.toInt ≤ 5)) ∧ (¬ r.toInt = 0 ∨ (0 ≤ x2.toInt ∧ x2.toInt ≤ 5))) ∧ Jv w u) := by
  refine cn_I (own := RX10) (nm := "often") (L0 := [some (AR 95), some (AI x1), some (AI x2)]) (by decide +kernel) rfl rfl (Nat.le_of_ble_eq_true rfl) rfl ?_
  intro p e s m args below meth c E hin
  have hJ : Jv w w := jv_rfl hI
  have hb_x1 := z32 x1
  have hb_x2 := z32 x2
  refine s_aload_n E dX10_often_0 rfl rfl ?_
  refine s_iload_n E dX10_often_1 rfl rfl ?_
  refine s_vI (As := [AI x1]) (S := []) E (Z_X10_asksLady_95 l D aC b w x1 hJ.1 ) cv_X10_288 rfl rfl rfl (jv_lt hJ (by decide)) (Nat.le_of_ble_eq_true rfl) (Nat.le_of_ble_eq_true rfl) ⟨(Nat.le_of_ble_eq_true rfl), (Nat.le_of_ble_eq_true rfl)⟩ (Nat.le_of_ble_eq_true rfl) dX10_often_2 (fun z_3 u_1 hp_2 => ?_)
  obtain ⟨hz_3, hp_2⟩ := hp_2
  have hj_4 := jv_trans hJ hp_2
  refine z_if_eq (tgt := 26) (u := z_3.toInt) E dX10_often_5 (by decide) rfl (fun h_5 => ?_) (fun h_5 => ?_)
  ·
    refine s_bipush (v := (-2)) E dX10_often_26 (by decide) ?_
    exact r_int E dX10_often_28 ⟨⟨by decide, by decide, by first | (left; decide) | (right; decide) | (right; have hb_ := z32 x1; omega), by first | (left; decide) | (right; decide) | (right; have hb_ := z32 x2; omega)⟩, hj_4⟩
  ·
    refine s_aload_n E dX10_often_8 rfl rfl ?_
    refine s_iload_n E dX10_often_9 rfl rfl ?_
    refine z_i2l (u := x2.toInt) E dX10_often_10 rfl (fun z_6 hz_6 => ?_)
    refine s_vI (As := [AL z_6]) (S := []) E (Z_X10_isLady_95 l D aC b u_1 z_6 hj_4.1 ) cv_X10_222 rfl rfl rfl (jv_lt hj_4 (by decide)) (Nat.le_of_ble_eq_true rfl) (Nat.le_of_ble_eq_true rfl) ⟨(Nat.le_of_ble_eq_true rfl), (Nat.le_of_ble_eq_true rfl)⟩ (Nat.le_of_ble_eq_true rfl) dX10_often_11 (fun z_9 u_7 hp_8 => ?_)
    obtain ⟨hz_9, hp_8⟩ := hp_8
    subst hp_8
    refine z_if_eq (tgt := 26) (u := z_9.toInt) E dX10_often_14 (by decide) rfl (fun h_11 => ?_) (fun h_11 => ?_)
    ·
      refine s_bipush (v := (-2)) E dX10_often_26 (by decide) ?_
      exact r_int E dX10_often_28 ⟨⟨by decide, by decide, by first | (left; decide) | (right; decide) | (right; have hb_ := z32 x1; omega), by first | (left; decide) | (right; decide) | (right; have hb_ := z32 x2; omega)⟩, hj_4⟩
    ·
      refine s_aload_n E dX10_often_17 rfl rfl ?_
      refine s_iload_n E dX10_often_18 rfl rfl ?_
      refine s_iload_n E dX10_often_19 rfl rfl ?_
      refine s_vI (As := [AI x1, AI x2]) (S := []) E (Z_X10_oftenMeet_95 l D aC b u_1 x1 x2 hj_4.1 ⟨by have hb_ := z32 x1; omega, by have hb_ := z32 x1; omega⟩ ⟨by have hb_ := z32 x2; omega, by have hb_ := z32 x2; omega⟩) cv_X10_310 rfl rfl rfl (jv_lt hj_4 (by decide)) (Nat.le_of_ble_eq_true rfl) (Nat.le_of_ble_eq_true rfl) ⟨(Nat.le_of_ble_eq_true rfl), (Nat.le_of_ble_eq_true rfl)⟩ (Nat.le_of_ble_eq_true rfl) dX10_often_20 (fun z_14 u_12 hp_13 => ?_)
      obtain ⟨hz_14, hp_13⟩ := hp_13
      subst hp_13
      refine s_goto (tgt := 28) E dX10_often_23 (by decide) ?_
      exact r_int E dX10_often_28 ⟨⟨by have hb_ := z32 z_14; omega, by have hb_ := z32 z_14; omega, by first | (right; decide) | (have hb_ := z32 z_14; omega) | (have hb_ := z32 z_14; have hc_ := z32 x1; omega), by first | (right; decide) | (have hb_ := z32 z_14; omega) | (have hb_ := z32 z_14; have hc_ := z32 x2; omega)⟩, hj_4⟩
set_option maxRecDepth 20000 in
set_option maxHeartbeats 2000000 in
theorem Z_X10_friendsOf_95 (l : Launch) (D : va_G) (aC : Nat → ClassId) (b : Nat) (w : XW) (x1 : Int32) (hI : Iv w) (hx1 : 0 ≤ x1.toInt ∧ x1.toInt ≤ 5) : CnI l D aC b M_X10_friendsOf 3 68 0 0 [AR 95, AI x1] w (fun r u => ((-2147483648) ≤ r.toInt ∧ r.toInt ≤ 2147483647) ∧ w = u) := by
  refine cn_I (own := RX10) (nm := "friendsOf") (L0 := [some (AR 95), some (AI x1), none, none]) (by decide +kernel) rfl rfl (Nat.le_of_ble_eq_true rfl) rfl ?_
  intro p e s m args below meth c E hin
  have hJ : Jv w w := jv_rfl hI
  refine s_iconst (v := 0) E dX10_friendsOf_0 (by decide) ?_
  refine s_istore_n (L2 := [some (AR 95), some (AI x1), some (AI 0), none]) E dX10_friendsOf_1 rfl (by decide) rfl ?_
  refine s_iconst (v := 0) E dX10_friendsOf_2 (by decide) ?_
  refine s_istore_n (L2 := [some (AR 95), some (AI x1), some (AI 0), some (AI 0)]) E dX10_friendsOf_3 rfl (by decide) rfl ?_
  refine z_loop (St := Int32 × Int32) (Pi := fun ⟨q4_2_0, q4_3_0⟩ v4 => (0 ≤ q4_3_0.toInt ∧ q4_3_0.toInt ≤ 6) ∧ w = v4) (Lf := fun ⟨q4_2_0, q4_3_0⟩ => [some (AR 95), some (AI x1), some (AI q4_2_0), some (AI q4_3_0)]) (fun ⟨q4_2_0, q4_3_0⟩ _ => (7 - q4_3_0.toInt).toNat) ⟨0, 0⟩ ⟨⟨by decide, by decide⟩, rfl⟩ ?_
  rintro ⟨q4_2_0, q4_3_0⟩ v4 ⟨hq4_3, hv_⟩ ih4
  subst hv_
  have hbq4_2 := z32 q4_2_0
  refine s_loc (L2 := [some (AR 95), some (AI x1), some (AI q4_2_0), some (AI q4_3_0)]) rfl ?_
  refine s_iload_n E dX10_friendsOf_4 rfl rfl ?_
  refine s_aload_n E dX10_friendsOf_5 rfl rfl ?_
  refine s_vI (As := []) (S := [AI q4_3_0]) E (Z_X10_ladies_95 l D aC b w  hJ.1 ) cv_X10_244 rfl rfl rfl (jv_lt hJ (by decide)) (Nat.le_of_ble_eq_true rfl) (Nat.le_of_ble_eq_true rfl) ⟨(Nat.le_of_ble_eq_true rfl), (Nat.le_of_ble_eq_true rfl)⟩ (Nat.le_of_ble_eq_true rfl) dX10_friendsOf_6 (fun z_4 u_2 hp_3 => ?_)
  obtain ⟨hz_4, hxz_4, hp_3⟩ := hp_3
  subst hp_3
  refine z_icmp_ge (tgt := 43) (u := q4_3_0.toInt) (v := z_4.toInt) E dX10_friendsOf_9 (by decide) rfl rfl (fun h_6 => ?_) (fun h_6 => ?_)
  ·
    refine s_iload_n E dX10_friendsOf_43 rfl rfl ?_
    exact r_int E dX10_friendsOf_44 ⟨⟨by have hb_ := z32 q4_2_0; omega, by have hb_ := z32 q4_2_0; omega⟩, rfl⟩
  ·
    refine s_iload_n E dX10_friendsOf_12 rfl rfl ?_
    refine s_iload_n E dX10_friendsOf_13 rfl rfl ?_
    refine s_iload_n E dX10_friendsOf_14 rfl rfl ?_
    refine z_icmp_eq (tgt := 34) (u := q4_3_0.toInt) (v := x1.toInt) E dX10_friendsOf_15 (by decide) rfl rfl (fun h_7 => ?_) (fun h_7 => ?_)
    ·
      refine s_iconst (v := 0) E dX10_friendsOf_34 (by decide) ?_
      refine s_ior E dX10_friendsOf_35 ?_
      refine z_nm (P := fun z => (-2147483648) ≤ z.toInt ∧ z.toInt ≤ 2147483647) (z32 _) (fun z_8 hz_8 => ?_)
      refine s_istore_n (L2 := [some (AR 95), some (AI x1), some (AI z_8), some (AI q4_3_0)]) E dX10_friendsOf_36 rfl (by decide) rfl ?_
      refine z_iinc (u := q4_3_0.toInt) (L2 := fun z_9 => [some (AR 95), some (AI x1), some (AI z_8), some (AI z_9)]) E dX10_friendsOf_37 rfl rfl (by decide) (fun _ => rfl) (by decide) (by omega) (by omega) (fun z_9 hz_9 => ?_)
      refine s_goto (tgt := 4) E dX10_friendsOf_40 (by decide) ?_
      exact ih4 ⟨z_8, z_9⟩ w ⟨⟨by have hb_ := z32 z_9; omega, by have hb_ := z32 z_9; omega⟩, rfl⟩ (by first | omega | decide | (dsimp only; omega) | (dsimp only; decide))
    ·
      refine s_aload_n E dX10_friendsOf_18 rfl rfl ?_
      refine s_iload_n E dX10_friendsOf_19 rfl rfl ?_
      refine s_iload_n E dX10_friendsOf_20 rfl rfl ?_
      refine s_vI (As := [AI x1, AI q4_3_0]) (S := [AI q4_2_0]) E (Z_X10_firstMeet_95 l D aC b w x1 q4_3_0 hJ.1 ⟨by have hb_ := z32 x1; omega, by have hb_ := z32 x1; omega⟩ ⟨by have hb_ := z32 q4_3_0; omega, by have hb_ := z32 q4_3_0; omega⟩) cv_X10_307 rfl rfl rfl (jv_lt hJ (by decide)) (Nat.le_of_ble_eq_true rfl) (Nat.le_of_ble_eq_true rfl) ⟨(Nat.le_of_ble_eq_true rfl), (Nat.le_of_ble_eq_true rfl)⟩ (Nat.le_of_ble_eq_true rfl) dX10_friendsOf_21 (fun z_12 u_10 hp_11 => ?_)
      obtain ⟨hz_12, hp_11⟩ := hp_11
      subst hp_11
      refine s_iconst (v := (-1)) E dX10_friendsOf_24 (by decide) ?_
      refine z_icmp_eq (tgt := 34) (u := z_12.toInt) (v := (-1)) E dX10_friendsOf_25 (by decide) rfl (by decide) (fun h_14 => ?_) (fun h_14 => ?_)
      ·
        refine s_iconst (v := 0) E dX10_friendsOf_34 (by decide) ?_
        refine s_ior E dX10_friendsOf_35 ?_
        refine z_nm (P := fun z => (-2147483648) ≤ z.toInt ∧ z.toInt ≤ 2147483647) (z32 _) (fun z_15 hz_15 => ?_)
        refine s_istore_n (L2 := [some (AR 95), some (AI x1), some (AI z_15), some (AI q4_3_0)]) E dX10_friendsOf_36 rfl (by decide) rfl ?_
        refine z_iinc (u := q4_3_0.toInt) (L2 := fun z_16 => [some (AR 95), some (AI x1), some (AI z_15), some (AI z_16)]) E dX10_friendsOf_37 rfl rfl (by decide) (fun _ => rfl) (by decide) (by omega) (by omega) (fun z_16 hz_16 => ?_)
        refine s_goto (tgt := 4) E dX10_friendsOf_40 (by decide) ?_
        exact ih4 ⟨z_15, z_16⟩ w ⟨⟨by have hb_ := z32 z_16; omega, by have hb_ := z32 z_16; omega⟩, rfl⟩ (by first | omega | decide | (dsimp only; omega) | (dsimp only; decide))
      ·
        refine s_iconst (v := 1) E dX10_friendsOf_28 (by decide) ?_
        refine s_iload_n E dX10_friendsOf_29 rfl rfl ?_
        refine z_shl1 5 (u := q4_3_0.toInt) (B := 32) E dX10_friendsOf_30 rfl (by omega) (by omega) (by decide) (by decide) (fun z_17 hz_17 => ?_)
        refine s_goto (tgt := 35) E dX10_friendsOf_31 (by decide) ?_
        refine s_ior E dX10_friendsOf_35 ?_
        refine z_nm (P := fun z => (-2147483648) ≤ z.toInt ∧ z.toInt ≤ 2147483647) (z32 _) (fun z_18 hz_18 => ?_)
        refine s_istore_n (L2 := [some (AR 95), some (AI x1), some (AI z_18), some (AI q4_3_0)]) E dX10_friendsOf_36 rfl (by decide) rfl ?_
        refine z_iinc (u := q4_3_0.toInt) (L2 := fun z_19 => [some (AR 95), some (AI x1), some (AI z_18), some (AI z_19)]) E dX10_friendsOf_37 rfl rfl (by decide) (fun _ => rfl) (by decide) (by omega) (by omega) (fun z_19 hz_19 => ?_)
        refine s_goto (tgt := 4) E dX10_friendsOf_40 (by decide) ?_
        exact ih4 ⟨z_18, z_19⟩ w ⟨⟨by have hb_ := z32 z_19; omega, by have hb_ := z32 z_19; omega⟩, rfl⟩ (by first | omega | decide | (dsimp only; omega) | (dsimp only; decide))
set_option maxRecDepth 20000 in
set_option maxHeartbeats 2000000 in
theorem Z_X10_friends_95 (l : Launch) (D : va_G) (aC : Nat → ClassId) (b : Nat) (w : XW) (x1 : Int32) (hI : Iv w)  : CnI l D aC b M_X10_friends 5 113 0 0 [AR 95, AI x1] w (fun r u => ((-2147483648) ≤ r.toInt ∧ r.toInt ≤ 2147483647 ∧ (¬ r.toInt = 0 ∨ (0 ≤ x1.toInt ∧ x1.toInt ≤ 5))) ∧ Jv w u) := by
  refine cn_I (own := RX10) (nm := "friends") (L0 := [some (AR 95), some (AI x1)]) (by decide +kernel) rfl rfl (Nat.le_of_ble_eq_true rfl) rfl ?_
  intro p e s m args below meth c E hin
  have hJ : Jv w w := jv_rfl hI
  have hb_x1 := z32 x1
  refine s_aload_n E dX10_friends_0 rfl rfl ?_
  refine s_iload_n E dX10_friends_1 rfl rfl ?_
  refine s_vI (As := [AI x1]) (S := []) E (Z_X10_asksLady_95 l D aC b w x1 hJ.1 ) cv_X10_288 rfl rfl rfl (jv_lt hJ (by decide)) (Nat.le_of_ble_eq_true rfl) (Nat.le_of_ble_eq_true rfl) ⟨(Nat.le_of_ble_eq_true rfl), (Nat.le_of_ble_eq_true rfl)⟩ (Nat.le_of_ble_eq_true rfl) dX10_friends_2 (fun z_3 u_1 hp_2 => ?_)
  obtain ⟨hz_3, hp_2⟩ := hp_2
  have hj_4 := jv_trans hJ hp_2
  refine z_if_eq (tgt := 16) (u := z_3.toInt) E dX10_friends_5 (by decide) rfl (fun h_5 => ?_) (fun h_5 => ?_)
  ·
    refine s_bipush (v := (-2)) E dX10_friends_16 (by decide) ?_
    exact r_int E dX10_friends_18 ⟨⟨by decide, by decide, by first | (left; decide) | (right; decide) | (right; have hb_ := z32 x1; omega)⟩, hj_4⟩
  ·
    refine s_aload_n E dX10_friends_8 rfl rfl ?_
    refine s_iload_n E dX10_friends_9 rfl rfl ?_
    refine s_vI (As := [AI x1]) (S := []) E (Z_X10_friendsOf_95 l D aC b u_1 x1 hj_4.1 ⟨by have hb_ := z32 x1; omega, by have hb_ := z32 x1; omega⟩) cv_X10_313 rfl rfl rfl (jv_lt hj_4 (by decide)) (Nat.le_of_ble_eq_true rfl) (Nat.le_of_ble_eq_true rfl) ⟨(Nat.le_of_ble_eq_true rfl), (Nat.le_of_ble_eq_true rfl)⟩ (Nat.le_of_ble_eq_true rfl) dX10_friends_10 (fun z_8 u_6 hp_7 => ?_)
    obtain ⟨hz_8, hp_7⟩ := hp_7
    subst hp_7
    refine s_goto (tgt := 18) E dX10_friends_13 (by decide) ?_
    exact r_int E dX10_friends_18 ⟨⟨by have hb_ := z32 z_8; omega, by have hb_ := z32 z_8; omega, by first | (right; decide) | (have hb_ := z32 z_8; omega) | (have hb_ := z32 z_8; have hc_ := z32 x1; omega)⟩, hj_4⟩
set_option maxRecDepth 20000 in
set_option maxHeartbeats 2000000 in
theorem Z_X10_asksBall_95 (l : Launch) (D : va_G) (aC : Nat → ClassId) (b : Nat) (w : XW)  (hI : Iv w)  : CnI l D aC b M_X10_asksBall 4 92 0 0 [AR 95] w (fun r u => (0 ≤ r.toInt ∧ r.toInt ≤ 1) ∧ Jv w u) := by
  refine cn_I (own := RX10) (nm := "asksBall") (L0 := [some (AR 95)]) (by decide +kernel) rfl rfl (Nat.le_of_ble_eq_true rfl) rfl ?_
  intro p e s m args below meth c E hin
  have hJ : Jv w w := jv_rfl hI
  refine s_aload_n E dX10_asksBall_0 rfl rfl ?_
  refine s_vV (As := []) (S := []) E (Z_X10_asItIs_95 l D aC b w  hJ.1 ) cv_X10_279 rfl rfl rfl (jv_lt hJ (by decide)) (Nat.le_of_ble_eq_true rfl) (Nat.le_of_ble_eq_true rfl) ⟨(Nat.le_of_ble_eq_true rfl), (Nat.le_of_ble_eq_true rfl)⟩ (Nat.le_of_ble_eq_true rfl) dX10_asksBall_1 (fun u_1 hp_2 => ?_)
  have hj_3 := jv_trans hJ hp_2
  refine s_aload_n E dX10_asksBall_4 rfl rfl ?_
  refine s_vI (As := []) (S := []) E (Z_X10_isBall_95 l D aC b u_1  hj_3.1 ) cv_X10_86 rfl rfl rfl (jv_lt hj_3 (by decide)) (Nat.le_of_ble_eq_true rfl) (Nat.le_of_ble_eq_true rfl) ⟨(Nat.le_of_ble_eq_true rfl), (Nat.le_of_ble_eq_true rfl)⟩ (Nat.le_of_ble_eq_true rfl) dX10_asksBall_5 (fun z_6 u_4 hp_5 => ?_)
  obtain ⟨hz_6, hp_5⟩ := hp_5
  subst hp_5
  exact r_bool E dX10_asksBall_8 (z_bool (by omega) (by omega)) ⟨⟨by have hb_ := z32 z_6; omega, by have hb_ := z32 z_6; omega⟩, hj_3⟩
set_option maxRecDepth 20000 in
set_option maxHeartbeats 2000000 in
theorem Z_X10_bits (l : Launch) (D : va_G) (aC : Nat → ClassId) (b : Nat) (w : XW) (x1 : Int32) (hI : Iv w)  : CnI l D aC b M_X10_bits 0 0 0 0 [AI x1] w (fun r u => ((-2147483648) ≤ r.toInt ∧ r.toInt ≤ 2147483647) ∧ w = u) := by
  refine cn_I (own := RX10) (nm := "bits") (L0 := [some (AI x1), none, none]) (by decide +kernel) rfl rfl (Nat.le_of_ble_eq_true rfl) rfl ?_
  intro p e s m args below meth c E hin
  have hJ : Jv w w := jv_rfl hI
  have hb_x1 := z32 x1
  refine s_iconst (v := 0) E dX10_bits_0 (by decide) ?_
  refine s_istore_n (L2 := [some (AI x1), some (AI 0), none]) E dX10_bits_1 rfl (by decide) rfl ?_
  refine s_iconst (v := 0) E dX10_bits_2 (by decide) ?_
  refine s_istore_n (L2 := [some (AI x1), some (AI 0), some (AI 0)]) E dX10_bits_3 rfl (by decide) rfl ?_
  refine z_loop (St := Int32 × Int32) (Pi := fun ⟨q4_1_0, q4_2_0⟩ v4 => (0 ≤ q4_2_0.toInt ∧ q4_2_0.toInt ≤ 16) ∧ w = v4) (Lf := fun ⟨q4_1_0, q4_2_0⟩ => [some (AI x1), some (AI q4_1_0), some (AI q4_2_0)]) (fun ⟨q4_1_0, q4_2_0⟩ _ => (17 - q4_2_0.toInt).toNat) ⟨0, 0⟩ ⟨⟨by decide, by decide⟩, rfl⟩ ?_
  rintro ⟨q4_1_0, q4_2_0⟩ v4 ⟨hq4_2, hv_⟩ ih4
  subst hv_
  have hbq4_1 := z32 q4_1_0
  refine s_loc (L2 := [some (AI x1), some (AI q4_1_0), some (AI q4_2_0)]) rfl ?_
  refine s_iload_n E dX10_bits_4 rfl rfl ?_
  refine s_bipush (v := 16) E dX10_bits_5 (by decide) ?_
  refine z_icmp_ge (tgt := 24) (u := q4_2_0.toInt) (v := 16) E dX10_bits_7 (by decide) rfl (by decide) (fun h_2 => ?_) (fun h_2 => ?_)
  ·
    refine s_iload_n E dX10_bits_24 rfl rfl ?_
    exact r_int E dX10_bits_25 ⟨⟨by have hb_ := z32 q4_1_0; omega, by have hb_ := z32 q4_1_0; omega⟩, rfl⟩
  ·
    refine s_iload_n E dX10_bits_10 rfl rfl ?_
    refine s_iload_n E dX10_bits_11 rfl rfl ?_
    refine s_iload_n E dX10_bits_12 rfl rfl ?_
    refine s_ishr E dX10_bits_13 ?_
    refine z_nm (P := fun z => (-2147483648) ≤ z.toInt ∧ z.toInt ≤ 2147483647) (z32 _) (fun z_3 hz_3 => ?_)
    refine s_iconst (v := 1) E dX10_bits_14 (by decide) ?_
    refine z_mask (v := 1) E dX10_bits_15 (by decide) (by decide) (fun z_4 hz_4 => ?_)
    refine s_iadd E dX10_bits_16 ?_
    refine z_nm (P := fun z => (-2147483648) ≤ z.toInt ∧ z.toInt ≤ 2147483647) (z32 _) (fun z_5 hz_5 => ?_)
    refine s_istore_n (L2 := [some (AI x1), some (AI z_5), some (AI q4_2_0)]) E dX10_bits_17 rfl (by decide) rfl ?_
    refine z_iinc (u := q4_2_0.toInt) (L2 := fun z_6 => [some (AI x1), some (AI z_5), some (AI z_6)]) E dX10_bits_18 rfl rfl (by decide) (fun _ => rfl) (by decide) (by omega) (by omega) (fun z_6 hz_6 => ?_)
    refine s_goto (tgt := 4) E dX10_bits_21 (by decide) ?_
    exact ih4 ⟨z_5, z_6⟩ w ⟨⟨by have hb_ := z32 z_6; omega, by have hb_ := z32 z_6; omega⟩, rfl⟩ (by first | omega | decide | (dsimp only; omega) | (dsimp only; decide))
set_option maxRecDepth 20000 in
set_option maxHeartbeats 2000000 in
theorem Z_X10_crushOf_95 (l : Launch) (D : va_G) (aC : Nat → ClassId) (b : Nat) (w : XW)  (hI : Iv w)  : CnI l D aC b M_X10_crushOf 2 46 0 0 [AR 95] w (fun r u => (0 ≤ r.toInt ∧ r.toInt ≤ 64) ∧ Jv w u) := by
  refine cn_I (own := RX10) (nm := "crushOf") (L0 := [some (AR 95), none, none, none, none]) (by decide +kernel) rfl rfl (Nat.le_of_ble_eq_true rfl) rfl ?_
  intro p e s m args below meth c E hin
  have hJ : Jv w w := jv_rfl hI
  refine s_aload_n E dX10_crushOf_0 rfl rfl ?_
  refine s_iconst (v := 0) E dX10_crushOf_1 (by decide) ?_
  refine s_pI E fp_X10_316 (Or.inl rfl) rfl (jv_lt hJ (by decide)) dX10_crushOf_2 ?_
  refine s_gen (P := Jv w) (jv_f_95_25 hJ (by decide) (by decide)) (fun v_1 hj_2 => ?_)
  refine s_iconst (v := 0) E dX10_crushOf_5 (by decide) ?_
  refine s_istore_n (L2 := [some (AR 95), some (AI 0), none, none, none]) E dX10_crushOf_6 rfl (by decide) rfl ?_
  refine s_iconst (v := 0) E dX10_crushOf_7 (by decide) ?_
  refine s_istore_n (L2 := [some (AR 95), some (AI 0), some (AI 0), none, none]) E dX10_crushOf_8 rfl (by decide) rfl ?_
  refine z_loop (St := Int32 × Int32) (Pi := fun ⟨q9_1_2, q9_2_2⟩ v9 => (0 ≤ q9_1_2.toInt ∧ q9_1_2.toInt ≤ 64) ∧ (0 ≤ q9_2_2.toInt ∧ q9_2_2.toInt ≤ 15) ∧ Jv w v9) (Lf := fun ⟨q9_1_2, q9_2_2⟩ => [some (AR 95), some (AI q9_1_2), some (AI q9_2_2), none, none]) (fun ⟨q9_1_2, q9_2_2⟩ _ => (16 - q9_2_2.toInt).toNat) ⟨0, 0⟩ ⟨⟨by decide, by decide⟩, ⟨by decide, by decide⟩, hj_2⟩ ?_
  rintro ⟨q9_1_2, q9_2_2⟩ v9 ⟨hq9_1, hq9_2, hj_3⟩ ih9
  refine s_loc (L2 := [some (AR 95), some (AI q9_1_2), some (AI q9_2_2), none, none]) rfl ?_
  refine s_iload_n E dX10_crushOf_9 rfl rfl ?_
  refine s_aload_n E dX10_crushOf_10 rfl rfl ?_
  refine s_vI (As := []) (S := [AI q9_2_2]) E (Z_X10_dances_95 l D aC b v9  hj_3.1 ) cv_X10_247 rfl rfl rfl (jv_lt hj_3 (by decide)) (Nat.le_of_ble_eq_true rfl) (Nat.le_of_ble_eq_true rfl) ⟨(Nat.le_of_ble_eq_true rfl), (Nat.le_of_ble_eq_true rfl)⟩ (Nat.le_of_ble_eq_true rfl) dX10_crushOf_11 (fun z_6 u_4 hp_5 => ?_)
  obtain ⟨hz_6, hxz_6, hp_5⟩ := hp_5
  subst hp_5
  refine z_icmp_gt (tgt := 72) (u := q9_2_2.toInt) (v := z_6.toInt) E dX10_crushOf_14 (by decide) rfl rfl (fun h_8 => ?_) (fun h_8 => ?_)
  ·
    refine s_iload_n E dX10_crushOf_72 rfl rfl ?_
    exact r_int E dX10_crushOf_73 ⟨⟨by have hb_ := z32 q9_1_2; omega, by have hb_ := z32 q9_1_2; omega⟩, hj_3⟩
  ·
    refine s_iconst (v := 0) E dX10_crushOf_17 (by decide) ?_
    refine s_istore_n (L2 := [some (AR 95), some (AI q9_1_2), some (AI q9_2_2), some (AI 0), none]) E dX10_crushOf_18 rfl (by decide) rfl ?_
    refine z_loop (St := Int32 × Int32) (Pi := fun ⟨q19_1_8, q19_3_8⟩ v19 => (0 ≤ q19_1_8.toInt ∧ q19_1_8.toInt ≤ 64) ∧ (0 ≤ q19_3_8.toInt ∧ q19_3_8.toInt ≤ 8) ∧ Jv w v19) (Lf := fun ⟨q19_1_8, q19_3_8⟩ => [some (AR 95), some (AI q19_1_8), some (AI q9_2_2), some (AI q19_3_8), none]) (fun ⟨q19_1_8, q19_3_8⟩ _ => (9 - q19_3_8.toInt).toNat) ⟨q9_1_2, 0⟩ ⟨⟨by have hb_ := z32 q9_1_2; omega, by have hb_ := z32 q9_1_2; omega⟩, ⟨by decide, by decide⟩, hj_3⟩ ?_
    rintro ⟨q19_1_8, q19_3_8⟩ v19 ⟨hq19_1, hq19_3, hj_9⟩ ih19
    refine s_loc (L2 := [some (AR 95), some (AI q19_1_8), some (AI q9_2_2), some (AI q19_3_8), none]) rfl ?_
    refine s_iload_n E dX10_crushOf_19 rfl rfl ?_
    refine s_aload_n E dX10_crushOf_20 rfl rfl ?_
    refine s_gR (r := 96) E fg_X10_9 rfl rfl (jv_lt hj_9 (by decide)) (jv_r hj_9 (by decide +kernel)) dX10_crushOf_21 ?_
    refine s_iconst (v := 0) E dX10_crushOf_24 (by decide) ?_
    refine s_iald E rfl (jv_lt hj_9 (by decide)) (z_in (u := 0) (by decide) (by omega) (by omega)) dX10_crushOf_25 ?_
    refine z_nm (P := fun z => z.toInt = (v19.2.2.1 96 0).toInt ∧ 0 ≤ z.toInt ∧ z.toInt ≤ 8) ⟨rfl, (rw_96_0 hj_9)⟩ (fun z_10 hz_10 => ?_)
    refine z_icmp_ge (tgt := 66) (u := q19_3_8.toInt) (v := z_10.toInt) E dX10_crushOf_26 (by decide) rfl rfl (fun h_11 => ?_) (fun h_11 => ?_)
    ·
      refine z_iinc (u := q9_2_2.toInt) (L2 := fun z_12 => [some (AR 95), some (AI q19_1_8), some (AI z_12), some (AI q19_3_8), none]) E dX10_crushOf_66 rfl rfl (by decide) (fun _ => rfl) (by decide) (by omega) (by omega) (fun z_12 hz_12 => ?_)
      refine s_goto (tgt := 9) E dX10_crushOf_69 (by decide) ?_
      refine s_drop (i := 3) (L2 := [some (AR 95), some (AI q19_1_8), some (AI z_12), none, none]) rfl ?_
      exact ih9 ⟨q19_1_8, z_12⟩ v19 ⟨⟨by have hb_ := z32 q19_1_8; omega, by have hb_ := z32 q19_1_8; omega⟩, ⟨by have hb_ := z32 z_12; omega, by have hb_ := z32 z_12; omega⟩, hj_9⟩ (by first | omega | decide | (dsimp only; omega) | (dsimp only; decide))
    ·
      refine s_aload_n E dX10_crushOf_29 rfl rfl ?_
      refine s_iload_n E dX10_crushOf_30 rfl rfl ?_
      refine s_iload_n E dX10_crushOf_31 rfl rfl ?_
      refine s_vI (As := [AI q19_3_8, AI q9_2_2]) (S := []) E (Z_X10_withinOf_95 l D aC b v19 q19_3_8 q9_2_2 hj_9.1 ⟨by have hb_ := z32 q9_2_2; omega, by have hb_ := z32 q9_2_2; omega⟩) cv_X10_297 rfl rfl rfl (jv_lt hj_9 (by decide)) (Nat.le_of_ble_eq_true rfl) (Nat.le_of_ble_eq_true rfl) ⟨(Nat.le_of_ble_eq_true rfl), (Nat.le_of_ble_eq_true rfl)⟩ (Nat.le_of_ble_eq_true rfl) dX10_crushOf_32 (fun z_15 u_13 hp_14 => ?_)
      obtain ⟨hz_15, hp_14⟩ := hp_14
      subst hp_14
      refine s_sI (As := [AI z_15]) (S := []) E (Z_X10_bits l D aC b v19 z_15 hj_9.1 ) cs_X10_319 rfl rfl (Nat.le_of_ble_eq_true rfl) (Nat.le_of_ble_eq_true rfl) ⟨(Nat.le_of_ble_eq_true rfl), (Nat.le_of_ble_eq_true rfl)⟩ (Nat.le_of_ble_eq_true rfl) dX10_crushOf_35 (fun z_19 u_17 hp_18 => ?_)
      obtain ⟨hz_19, hp_18⟩ := hp_18
      subst hp_18
      refine s_istore (L2 := [some (AR 95), some (AI q19_1_8), some (AI q9_2_2), some (AI q19_3_8), some (AI z_19)]) E dX10_crushOf_38 (by decide) rfl ?_
      refine s_iload E dX10_crushOf_40 rfl ?_
      refine s_aload_n E dX10_crushOf_42 rfl rfl ?_
      refine s_gI E fg_X10_316 rfl rfl (jv_lt hj_9 (by decide)) dX10_crushOf_43 ?_
      refine z_nm (P := fun z => z.toInt = (v19.2.2.1 95 25).toInt ∧ (-2147483648) ≤ z.toInt ∧ z.toInt ≤ 2147483647) ⟨rfl, z32 _⟩ (fun z_21 hz_21 => ?_)
      refine z_icmp_gt (tgt := 52) (u := z_19.toInt) (v := z_21.toInt) E dX10_crushOf_46 (by decide) rfl rfl (fun h_22 => ?_) (fun h_22 => ?_)
      ·
        refine s_aload_n E dX10_crushOf_52 rfl rfl ?_
        refine s_iload E dX10_crushOf_53 rfl ?_
        refine s_pI E fp_X10_316 (Or.inl rfl) rfl (jv_lt hj_9 (by decide)) dX10_crushOf_55 ?_
        refine s_gen (P := fun v => Jv w v ∧ (v.2.2.1 96 0).toInt = (v19.2.2.1 96 0).toInt) ⟨(jv_f_95_25 hj_9 (by have hb_ := z32 z_19; omega) (by have hb_ := z32 z_19; omega)), rfl⟩ (fun v_23 hj_24 => ?_)
        obtain ⟨hj_24, hk_25k0⟩ := hj_24
        refine s_iload_n E dX10_crushOf_58 rfl rfl ?_
        refine s_istore_n (L2 := [some (AR 95), some (AI q9_2_2), some (AI q9_2_2), some (AI q19_3_8), some (AI z_19)]) E dX10_crushOf_59 rfl (by decide) rfl ?_
        refine z_iinc (u := q19_3_8.toInt) (L2 := fun z_26 => [some (AR 95), some (AI q9_2_2), some (AI q9_2_2), some (AI z_26), some (AI z_19)]) E dX10_crushOf_60 rfl rfl (by decide) (fun _ => rfl) (by decide) (by omega) (by omega) (fun z_26 hz_26 => ?_)
        refine s_goto (tgt := 19) E dX10_crushOf_63 (by decide) ?_
        refine s_drop (i := 4) (L2 := [some (AR 95), some (AI q9_2_2), some (AI q9_2_2), some (AI z_26), none]) rfl ?_
        exact ih19 ⟨q9_2_2, z_26⟩ v_23 ⟨⟨by have hb_ := z32 q9_2_2; omega, by have hb_ := z32 q9_2_2; omega⟩, ⟨by have hb_ := z32 z_26; omega, by have hb_ := z32 z_26; omega⟩, hj_24⟩ (by first | omega | decide | (dsimp only; omega) | (dsimp only; decide))
      ·
        refine s_goto (tgt := 60) E dX10_crushOf_49 (by decide) ?_
        refine z_iinc (u := q19_3_8.toInt) (L2 := fun z_27 => [some (AR 95), some (AI q19_1_8), some (AI q9_2_2), some (AI z_27), some (AI z_19)]) E dX10_crushOf_60 rfl rfl (by decide) (fun _ => rfl) (by decide) (by omega) (by omega) (fun z_27 hz_27 => ?_)
        refine s_goto (tgt := 19) E dX10_crushOf_63 (by decide) ?_
        refine s_drop (i := 4) (L2 := [some (AR 95), some (AI q19_1_8), some (AI q9_2_2), some (AI z_27), none]) rfl ?_
        exact ih19 ⟨q19_1_8, z_27⟩ v19 ⟨⟨by have hb_ := z32 q19_1_8; omega, by have hb_ := z32 q19_1_8; omega⟩, ⟨by have hb_ := z32 z_27; omega, by have hb_ := z32 z_27; omega⟩, hj_9⟩ (by first | omega | decide | (dsimp only; omega) | (dsimp only; decide))
set_option maxRecDepth 20000 in
set_option maxHeartbeats 2000000 in
theorem Z_X10_crush_95 (l : Launch) (D : va_G) (aC : Nat → ClassId) (b : Nat) (w : XW)  (hI : Iv w)  : CnI l D aC b M_X10_crush 5 112 0 0 [AR 95] w (fun r u => ((-2147483648) ≤ r.toInt ∧ r.toInt ≤ 2147483647) ∧ Jv w u) := by
  refine cn_I (own := RX10) (nm := "crush") (L0 := [some (AR 95)]) (by decide +kernel) rfl rfl (Nat.le_of_ble_eq_true rfl) rfl ?_
  intro p e s m args below meth c E hin
  have hJ : Jv w w := jv_rfl hI
  refine s_aload_n E dX10_crush_0 rfl rfl ?_
  refine s_vI (As := []) (S := []) E (Z_X10_asksBall_95 l D aC b w  hJ.1 ) cv_X10_322 rfl rfl rfl (jv_lt hJ (by decide)) (Nat.le_of_ble_eq_true rfl) (Nat.le_of_ble_eq_true rfl) ⟨(Nat.le_of_ble_eq_true rfl), (Nat.le_of_ble_eq_true rfl)⟩ (Nat.le_of_ble_eq_true rfl) dX10_crush_1 (fun z_3 u_1 hp_2 => ?_)
  obtain ⟨hz_3, hp_2⟩ := hp_2
  have hj_4 := jv_trans hJ hp_2
  refine z_if_ne (tgt := 10) (u := z_3.toInt) E dX10_crush_4 (by decide) rfl (fun h_5 => ?_) (fun h_5 => ?_)
  ·
    refine s_aload_n E dX10_crush_10 rfl rfl ?_
    refine s_vI (As := []) (S := []) E (Z_X10_crushOf_95 l D aC b u_1  hj_4.1 ) cv_X10_325 rfl rfl rfl (jv_lt hj_4 (by decide)) (Nat.le_of_ble_eq_true rfl) (Nat.le_of_ble_eq_true rfl) ⟨(Nat.le_of_ble_eq_true rfl), (Nat.le_of_ble_eq_true rfl)⟩ (Nat.le_of_ble_eq_true rfl) dX10_crush_11 (fun z_8 u_6 hp_7 => ?_)
    obtain ⟨hz_8, hp_7⟩ := hp_7
    have hj_9 := jv_trans hj_4 hp_7
    refine s_popI E dX10_crush_14 ?_
    refine s_aload_n E dX10_crush_15 rfl rfl ?_
    refine s_gI E fg_X10_316 rfl rfl (jv_lt hj_9 (by decide)) dX10_crush_16 ?_
    refine z_nm (P := fun z => z.toInt = (u_6.2.2.1 95 25).toInt ∧ (-2147483648) ≤ z.toInt ∧ z.toInt ≤ 2147483647) ⟨rfl, z32 _⟩ (fun z_10 hz_10 => ?_)
    exact r_int E dX10_crush_19 ⟨⟨by have hb_ := z32 z_10; omega, by have hb_ := z32 z_10; omega⟩, hj_9⟩
  ·
    refine s_bipush (v := (-2)) E dX10_crush_7 (by decide) ?_
    exact r_int E dX10_crush_9 ⟨(by decide), hj_4⟩
set_option maxRecDepth 20000 in
set_option maxHeartbeats 2000000 in
theorem Z_X10_crushed_95 (l : Launch) (D : va_G) (aC : Nat → ClassId) (b : Nat) (w : XW)  (hI : Iv w)  : CnI l D aC b M_X10_crushed 5 112 0 0 [AR 95] w (fun r u => ((-2) ≤ r.toInt ∧ r.toInt ≤ 64) ∧ Jv w u) := by
  refine cn_I (own := RX10) (nm := "crushed") (L0 := [some (AR 95)]) (by decide +kernel) rfl rfl (Nat.le_of_ble_eq_true rfl) rfl ?_
  intro p e s m args below meth c E hin
  have hJ : Jv w w := jv_rfl hI
  refine s_aload_n E dX10_crushed_0 rfl rfl ?_
  refine s_vI (As := []) (S := []) E (Z_X10_asksBall_95 l D aC b w  hJ.1 ) cv_X10_322 rfl rfl rfl (jv_lt hJ (by decide)) (Nat.le_of_ble_eq_true rfl) (Nat.le_of_ble_eq_true rfl) ⟨(Nat.le_of_ble_eq_true rfl), (Nat.le_of_ble_eq_true rfl)⟩ (Nat.le_of_ble_eq_true rfl) dX10_crushed_1 (fun z_3 u_1 hp_2 => ?_)
  obtain ⟨hz_3, hp_2⟩ := hp_2
  have hj_4 := jv_trans hJ hp_2
  refine z_if_eq (tgt := 14) (u := z_3.toInt) E dX10_crushed_4 (by decide) rfl (fun h_5 => ?_) (fun h_5 => ?_)
  ·
    refine s_bipush (v := (-2)) E dX10_crushed_14 (by decide) ?_
    exact r_int E dX10_crushed_16 ⟨(by decide), hj_4⟩
  ·
    refine s_aload_n E dX10_crushed_7 rfl rfl ?_
    refine s_vI (As := []) (S := []) E (Z_X10_crushOf_95 l D aC b u_1  hj_4.1 ) cv_X10_325 rfl rfl rfl (jv_lt hj_4 (by decide)) (Nat.le_of_ble_eq_true rfl) (Nat.le_of_ble_eq_true rfl) ⟨(Nat.le_of_ble_eq_true rfl), (Nat.le_of_ble_eq_true rfl)⟩ (Nat.le_of_ble_eq_true rfl) dX10_crushed_8 (fun z_8 u_6 hp_7 => ?_)
    obtain ⟨hz_8, hp_7⟩ := hp_7
    have hj_9 := jv_trans hj_4 hp_7
    refine s_goto (tgt := 16) E dX10_crushed_11 (by decide) ?_
    exact r_int E dX10_crushed_16 ⟨⟨by have hb_ := z32 z_8; omega, by have hb_ := z32 z_8; omega⟩, hj_9⟩
set_option maxRecDepth 20000 in
set_option maxHeartbeats 2000000 in
theorem Z_X10_likes_95 (l : Launch) (D : va_G) (aC : Nat → ClassId) (b : Nat) (w : XW) (x1 : Int32) (hI : Iv w)  : CnI l D aC b M_X10_likes 5 113 0 0 [AR 95, AI x1] w (fun r u => ((-2) ≤ r.toInt ∧ r.toInt ≤ 64 ∧ (¬ r.toInt = 0 ∨ (0 ≤ x1.toInt ∧ x1.toInt ≤ 5))) ∧ Jv w u) := by
  refine cn_I (own := RX10) (nm := "likes") (L0 := [some (AR 95), some (AI x1), none, none, none, none, none]) (by decide +kernel) rfl rfl (Nat.le_of_ble_eq_true rfl) rfl ?_
  intro p e s m args below meth c E hin
  have hJ : Jv w w := jv_rfl hI
  have hb_x1 := z32 x1
  refine s_aload_n E dX10_likes_0 rfl rfl ?_
  refine s_iload_n E dX10_likes_1 rfl rfl ?_
  refine s_vI (As := [AI x1]) (S := []) E (Z_X10_asksLady_95 l D aC b w x1 hJ.1 ) cv_X10_288 rfl rfl rfl (jv_lt hJ (by decide)) (Nat.le_of_ble_eq_true rfl) (Nat.le_of_ble_eq_true rfl) ⟨(Nat.le_of_ble_eq_true rfl), (Nat.le_of_ble_eq_true rfl)⟩ (Nat.le_of_ble_eq_true rfl) dX10_likes_2 (fun z_3 u_1 hp_2 => ?_)
  obtain ⟨hz_3, hp_2⟩ := hp_2
  have hj_4 := jv_trans hJ hp_2
  refine z_if_ne (tgt := 11) (u := z_3.toInt) E dX10_likes_5 (by decide) rfl (fun h_5 => ?_) (fun h_5 => ?_)
  ·
    refine s_iconst (v := 0) E dX10_likes_11 (by decide) ?_
    refine s_istore_n (L2 := [some (AR 95), some (AI x1), some (AI 0), none, none, none, none]) E dX10_likes_12 rfl (by decide) rfl ?_
    refine s_iconst (v := 0) E dX10_likes_13 (by decide) ?_
    refine s_istore_n (L2 := [some (AR 95), some (AI x1), some (AI 0), some (AI 0), none, none, none]) E dX10_likes_14 rfl (by decide) rfl ?_
    refine s_iconst (v := 0) E dX10_likes_15 (by decide) ?_
    refine s_istore (L2 := [some (AR 95), some (AI x1), some (AI 0), some (AI 0), some (AI 0), none, none]) E dX10_likes_16 (by decide) rfl ?_
    refine z_loop (St := Int32 × Int32 × Int32) (Pi := fun ⟨q18_2_5, q18_3_5, q18_4_5⟩ v18 => (0 ≤ q18_2_5.toInt ∧ q18_2_5.toInt ≤ 64) ∧ (0 ≤ q18_3_5.toInt ∧ q18_3_5.toInt ≤ 2147483647) ∧ (0 ≤ q18_4_5.toInt ∧ q18_4_5.toInt ≤ 8) ∧ u_1 = v18) (Lf := fun ⟨q18_2_5, q18_3_5, q18_4_5⟩ => [some (AR 95), some (AI x1), some (AI q18_2_5), some (AI q18_3_5), some (AI q18_4_5), none, none]) (fun ⟨q18_2_5, q18_3_5, q18_4_5⟩ _ => (9 - q18_4_5.toInt).toNat) ⟨0, 0, 0⟩ ⟨⟨by decide, by decide⟩, ⟨by decide, by decide⟩, ⟨by decide, by decide⟩, rfl⟩ ?_
    rintro ⟨q18_2_5, q18_3_5, q18_4_5⟩ v18 ⟨hq18_2, hq18_3, hq18_4, hv_⟩ ih18
    subst hv_
    refine s_loc (L2 := [some (AR 95), some (AI x1), some (AI q18_2_5), some (AI q18_3_5), some (AI q18_4_5), none, none]) rfl ?_
    refine s_iload E dX10_likes_18 rfl ?_
    refine s_aload_n E dX10_likes_20 rfl rfl ?_
    refine s_gR (r := 96) E fg_X10_9 rfl rfl (jv_lt hj_4 (by decide)) (jv_r hj_4 (by decide +kernel)) dX10_likes_21 ?_
    refine s_iconst (v := 0) E dX10_likes_24 (by decide) ?_
    refine s_iald E rfl (jv_lt hj_4 (by decide)) (z_in (u := 0) (by decide) (by omega) (by omega)) dX10_likes_25 ?_
    refine z_nm (P := fun z => z.toInt = (u_1.2.2.1 96 0).toInt ∧ 0 ≤ z.toInt ∧ z.toInt ≤ 8) ⟨rfl, (rw_96_0 hj_4)⟩ (fun z_7 hz_7 => ?_)
    refine z_icmp_ge (tgt := 93) (u := q18_4_5.toInt) (v := z_7.toInt) E dX10_likes_26 (by decide) rfl rfl (fun h_8 => ?_) (fun h_8 => ?_)
    ·
      refine s_iload_n E dX10_likes_93 rfl rfl ?_
      exact r_int E dX10_likes_94 ⟨⟨by have hb_ := z32 q18_2_5; omega, by have hb_ := z32 q18_2_5; omega, by first | (right; decide) | (have hb_ := z32 q18_2_5; omega) | (have hb_ := z32 q18_2_5; have hc_ := z32 x1; omega)⟩, hj_4⟩
    ·
      refine s_iconst (v := 0) E dX10_likes_29 (by decide) ?_
      refine s_istore (L2 := [some (AR 95), some (AI x1), some (AI q18_2_5), some (AI q18_3_5), some (AI q18_4_5), some (AI 0), none]) E dX10_likes_30 (by decide) rfl ?_
      refine s_iconst (v := 0) E dX10_likes_32 (by decide) ?_
      refine s_istore (L2 := [some (AR 95), some (AI x1), some (AI q18_2_5), some (AI q18_3_5), some (AI q18_4_5), some (AI 0), some (AI 0)]) E dX10_likes_33 (by decide) rfl ?_
      refine z_loop (St := Int32 × Int32) (Pi := fun ⟨q35_5_8, q35_6_8⟩ v35 => (0 ≤ q35_6_8.toInt ∧ q35_6_8.toInt ≤ 15) ∧ u_1 = v35) (Lf := fun ⟨q35_5_8, q35_6_8⟩ => [some (AR 95), some (AI x1), some (AI q18_2_5), some (AI q18_3_5), some (AI q18_4_5), some (AI q35_5_8), some (AI q35_6_8)]) (fun ⟨q35_5_8, q35_6_8⟩ _ => (16 - q35_6_8.toInt).toNat) ⟨0, 0⟩ ⟨⟨by decide, by decide⟩, rfl⟩ ?_
      rintro ⟨q35_5_8, q35_6_8⟩ v35 ⟨hq35_6, hv_⟩ ih35
      subst hv_
      have hbq35_5 := z32 q35_5_8
      refine s_loc (L2 := [some (AR 95), some (AI x1), some (AI q18_2_5), some (AI q18_3_5), some (AI q18_4_5), some (AI q35_5_8), some (AI q35_6_8)]) rfl ?_
      refine s_iload E dX10_likes_35 rfl ?_
      refine s_aload_n E dX10_likes_37 rfl rfl ?_
      refine s_vI (As := []) (S := [AI q35_6_8]) E (Z_X10_dances_95 l D aC b u_1  hj_4.1 ) cv_X10_247 rfl rfl rfl (jv_lt hj_4 (by decide)) (Nat.le_of_ble_eq_true rfl) (Nat.le_of_ble_eq_true rfl) ⟨(Nat.le_of_ble_eq_true rfl), (Nat.le_of_ble_eq_true rfl)⟩ (Nat.le_of_ble_eq_true rfl) dX10_likes_38 (fun z_12 u_10 hp_11 => ?_)
      obtain ⟨hz_12, hxz_12, hp_11⟩ := hp_11
      subst hp_11
      refine z_icmp_gt (tgt := 72) (u := q35_6_8.toInt) (v := z_12.toInt) E dX10_likes_41 (by decide) rfl rfl (fun h_14 => ?_) (fun h_14 => ?_)
      ·
        refine s_iload E dX10_likes_72 rfl ?_
        refine s_iload_n E dX10_likes_74 rfl rfl ?_
        refine z_icmp_gt (tgt := 81) (u := q35_5_8.toInt) (v := q18_3_5.toInt) E dX10_likes_75 (by decide) rfl rfl (fun h_15 => ?_) (fun h_15 => ?_)
        ·
          refine s_iload E dX10_likes_81 rfl ?_
          refine s_istore_n (L2 := [some (AR 95), some (AI x1), some (AI q18_2_5), some (AI q35_5_8), some (AI q18_4_5), some (AI q35_5_8), some (AI q35_6_8)]) E dX10_likes_83 rfl (by decide) rfl ?_
          refine s_iload E dX10_likes_84 rfl ?_
          refine s_istore_n (L2 := [some (AR 95), some (AI x1), some (AI q18_4_5), some (AI q35_5_8), some (AI q18_4_5), some (AI q35_5_8), some (AI q35_6_8)]) E dX10_likes_86 rfl (by decide) rfl ?_
          refine z_iinc (u := q18_4_5.toInt) (L2 := fun z_16 => [some (AR 95), some (AI x1), some (AI q18_4_5), some (AI q35_5_8), some (AI z_16), some (AI q35_5_8), some (AI q35_6_8)]) E dX10_likes_87 rfl rfl (by decide) (fun _ => rfl) (by decide) (by omega) (by omega) (fun z_16 hz_16 => ?_)
          refine s_goto (tgt := 18) E dX10_likes_90 (by decide) ?_
          refine s_drop (i := 5) (L2 := [some (AR 95), some (AI x1), some (AI q18_4_5), some (AI q35_5_8), some (AI z_16), none, some (AI q35_6_8)]) rfl ?_
          refine s_drop (i := 6) (L2 := [some (AR 95), some (AI x1), some (AI q18_4_5), some (AI q35_5_8), some (AI z_16), none, none]) rfl ?_
          exact ih18 ⟨q18_4_5, q35_5_8, z_16⟩ u_1 ⟨⟨by have hb_ := z32 q18_4_5; omega, by have hb_ := z32 q18_4_5; omega⟩, ⟨by have hb_ := z32 q35_5_8; omega, by have hb_ := z32 q35_5_8; omega⟩, ⟨by have hb_ := z32 z_16; omega, by have hb_ := z32 z_16; omega⟩, rfl⟩ (by first | omega | decide | (dsimp only; omega) | (dsimp only; decide))
        ·
          refine s_goto (tgt := 87) E dX10_likes_78 (by decide) ?_
          refine z_iinc (u := q18_4_5.toInt) (L2 := fun z_17 => [some (AR 95), some (AI x1), some (AI q18_2_5), some (AI q18_3_5), some (AI z_17), some (AI q35_5_8), some (AI q35_6_8)]) E dX10_likes_87 rfl rfl (by decide) (fun _ => rfl) (by decide) (by omega) (by omega) (fun z_17 hz_17 => ?_)
          refine s_goto (tgt := 18) E dX10_likes_90 (by decide) ?_
          refine s_drop (i := 5) (L2 := [some (AR 95), some (AI x1), some (AI q18_2_5), some (AI q18_3_5), some (AI z_17), none, some (AI q35_6_8)]) rfl ?_
          refine s_drop (i := 6) (L2 := [some (AR 95), some (AI x1), some (AI q18_2_5), some (AI q18_3_5), some (AI z_17), none, none]) rfl ?_
          exact ih18 ⟨q18_2_5, q18_3_5, z_17⟩ u_1 ⟨⟨by have hb_ := z32 q18_2_5; omega, by have hb_ := z32 q18_2_5; omega⟩, ⟨by have hb_ := z32 q18_3_5; omega, by have hb_ := z32 q18_3_5; omega⟩, ⟨by have hb_ := z32 z_17; omega, by have hb_ := z32 z_17; omega⟩, rfl⟩ (by first | omega | decide | (dsimp only; omega) | (dsimp only; decide))
      ·
        refine s_iload E dX10_likes_44 rfl ?_
        refine s_aload_n E dX10_likes_46 rfl rfl ?_
        refine s_iload_n E dX10_likes_47 rfl rfl ?_
        refine s_iload E dX10_likes_48 rfl ?_
        refine s_vI (As := [AI x1, AI q35_6_8]) (S := [AI q35_5_8]) E (Z_X10_atOf_95 l D aC b u_1 x1 q35_6_8 hj_4.1 ⟨by have hb_ := z32 x1; omega, by have hb_ := z32 x1; omega⟩ ⟨by have hb_ := z32 q35_6_8; omega, by have hb_ := z32 q35_6_8; omega⟩) cv_X10_255 rfl rfl rfl (jv_lt hj_4 (by decide)) (Nat.le_of_ble_eq_true rfl) (Nat.le_of_ble_eq_true rfl) ⟨(Nat.le_of_ble_eq_true rfl), (Nat.le_of_ble_eq_true rfl)⟩ (Nat.le_of_ble_eq_true rfl) dX10_likes_50 (fun z_20 u_18 hp_19 => ?_)
        obtain ⟨hz_20, hp_19⟩ := hp_19
        subst hp_19
        refine s_iload E dX10_likes_53 rfl ?_
        refine z_icmp_ne (tgt := 62) (u := z_20.toInt) (v := q18_4_5.toInt) E dX10_likes_55 (by decide) rfl rfl (fun h_22 => ?_) (fun h_22 => ?_)
        ·
          refine s_iconst (v := 0) E dX10_likes_62 (by decide) ?_
          refine z_iadd (u := q35_5_8.toInt) (v := 0) E dX10_likes_63 rfl (by decide) (by omega) (by omega) (fun z_23 hz_23 => ?_)
          refine s_istore (L2 := [some (AR 95), some (AI x1), some (AI q18_2_5), some (AI q18_3_5), some (AI q18_4_5), some (AI z_23), some (AI q35_6_8)]) E dX10_likes_64 (by decide) rfl ?_
          refine z_iinc (u := q35_6_8.toInt) (L2 := fun z_24 => [some (AR 95), some (AI x1), some (AI q18_2_5), some (AI q18_3_5), some (AI q18_4_5), some (AI z_23), some (AI z_24)]) E dX10_likes_66 rfl rfl (by decide) (fun _ => rfl) (by decide) (by omega) (by omega) (fun z_24 hz_24 => ?_)
          refine s_goto (tgt := 35) E dX10_likes_69 (by decide) ?_
          exact ih35 ⟨z_23, z_24⟩ u_1 ⟨⟨by have hb_ := z32 z_24; omega, by have hb_ := z32 z_24; omega⟩, rfl⟩ (by first | omega | decide | (dsimp only; omega) | (dsimp only; decide))
        ·
          refine s_iconst (v := 1) E dX10_likes_58 (by decide) ?_
          refine s_goto (tgt := 63) E dX10_likes_59 (by decide) ?_
          refine s_iadd E dX10_likes_63 ?_
          refine z_nm (P := fun z => (-2147483648) ≤ z.toInt ∧ z.toInt ≤ 2147483647) (z32 _) (fun z_25 hz_25 => ?_)
          refine s_istore (L2 := [some (AR 95), some (AI x1), some (AI q18_2_5), some (AI q18_3_5), some (AI q18_4_5), some (AI z_25), some (AI q35_6_8)]) E dX10_likes_64 (by decide) rfl ?_
          refine z_iinc (u := q35_6_8.toInt) (L2 := fun z_26 => [some (AR 95), some (AI x1), some (AI q18_2_5), some (AI q18_3_5), some (AI q18_4_5), some (AI z_25), some (AI z_26)]) E dX10_likes_66 rfl rfl (by decide) (fun _ => rfl) (by decide) (by omega) (by omega) (fun z_26 hz_26 => ?_)
          refine s_goto (tgt := 35) E dX10_likes_69 (by decide) ?_
          exact ih35 ⟨z_25, z_26⟩ u_1 ⟨⟨by have hb_ := z32 z_26; omega, by have hb_ := z32 z_26; omega⟩, rfl⟩ (by first | omega | decide | (dsimp only; omega) | (dsimp only; decide))
  ·
    refine s_bipush (v := (-2)) E dX10_likes_8 (by decide) ?_
    exact r_int E dX10_likes_10 ⟨⟨by decide, by decide, by first | (left; decide) | (right; decide) | (right; have hb_ := z32 x1; omega)⟩, hj_4⟩
set_option maxRecDepth 20000 in
set_option maxHeartbeats 2000000 in
theorem Z_X10_apart_95 (l : Launch) (D : va_G) (aC : Nat → ClassId) (b : Nat) (w : XW) (x1 : Int32) (x2 : Int32) (x3 : Int32) (hI : Iv w)  : CnI l D aC b M_X10_apart 5 113 0 0 [AR 95, AI x1, AI x2, AI x3] w (fun r u => ((-2) ≤ r.toInt ∧ r.toInt ≤ 999999999 ∧ (¬ r.toInt = 0 ∨ (0 ≤ x1.toInt ∧ x1.toInt ≤ 5)) ∧ (¬ r.toInt = 0 ∨ (0 ≤ x2.toInt ∧ x2.toInt ≤ 5)) ∧ (¬ r.toInt = 0 ∨ (0 ≤ x3.toInt ∧ x3.toInt ≤ 14))) ∧ Jv w u) := by
  refine cn_I (own := RX10) (nm := "apart") (L0 := [some (AR 95), some (AI x1), some (AI x2), some (AI x3), none]) (by decide +kernel) rfl rfl (Nat.le_of_ble_eq_true rfl) rfl ?_
  intro p e s m args below meth c E hin
  have hJ : Jv w w := jv_rfl hI
  have hb_x1 := z32 x1
  have hb_x2 := z32 x2
  have hb_x3 := z32 x3
  refine s_aload_n E dX10_apart_0 rfl rfl ?_
  refine s_iload_n E dX10_apart_1 rfl rfl ?_
  refine s_vI (As := [AI x3]) (S := []) E (Z_X10_asksDance_95 l D aC b w x3 hJ.1 ) cv_X10_294 rfl rfl rfl (jv_lt hJ (by decide)) (Nat.le_of_ble_eq_true rfl) (Nat.le_of_ble_eq_true rfl) ⟨(Nat.le_of_ble_eq_true rfl), (Nat.le_of_ble_eq_true rfl)⟩ (Nat.le_of_ble_eq_true rfl) dX10_apart_2 (fun z_3 u_1 hp_2 => ?_)
  obtain ⟨hz_3, hp_2⟩ := hp_2
  have hj_4 := jv_trans hJ hp_2
  refine z_if_eq (tgt := 26) (u := z_3.toInt) E dX10_apart_5 (by decide) rfl (fun h_5 => ?_) (fun h_5 => ?_)
  ·
    refine s_bipush (v := (-2)) E dX10_apart_26 (by decide) ?_
    exact r_int E dX10_apart_28 ⟨⟨by decide, by decide, by first | (left; decide) | (right; decide) | (right; have hb_ := z32 x1; omega), by first | (left; decide) | (right; decide) | (right; have hb_ := z32 x2; omega), by first | (left; decide) | (right; decide) | (right; have hb_ := z32 x3; omega)⟩, hj_4⟩
  ·
    refine s_aload_n E dX10_apart_8 rfl rfl ?_
    refine s_iload_n E dX10_apart_9 rfl rfl ?_
    refine z_i2l (u := x1.toInt) E dX10_apart_10 rfl (fun z_6 hz_6 => ?_)
    refine s_vI (As := [AL z_6]) (S := []) E (Z_X10_isLady_95 l D aC b u_1 z_6 hj_4.1 ) cv_X10_222 rfl rfl rfl (jv_lt hj_4 (by decide)) (Nat.le_of_ble_eq_true rfl) (Nat.le_of_ble_eq_true rfl) ⟨(Nat.le_of_ble_eq_true rfl), (Nat.le_of_ble_eq_true rfl)⟩ (Nat.le_of_ble_eq_true rfl) dX10_apart_11 (fun z_9 u_7 hp_8 => ?_)
    obtain ⟨hz_9, hp_8⟩ := hp_8
    subst hp_8
    refine z_if_eq (tgt := 26) (u := z_9.toInt) E dX10_apart_14 (by decide) rfl (fun h_11 => ?_) (fun h_11 => ?_)
    ·
      refine s_bipush (v := (-2)) E dX10_apart_26 (by decide) ?_
      exact r_int E dX10_apart_28 ⟨⟨by decide, by decide, by first | (left; decide) | (right; decide) | (right; have hb_ := z32 x1; omega), by first | (left; decide) | (right; decide) | (right; have hb_ := z32 x2; omega), by first | (left; decide) | (right; decide) | (right; have hb_ := z32 x3; omega)⟩, hj_4⟩
    ·
      refine s_aload_n E dX10_apart_17 rfl rfl ?_
      refine s_iload_n E dX10_apart_18 rfl rfl ?_
      refine z_i2l (u := x2.toInt) E dX10_apart_19 rfl (fun z_12 hz_12 => ?_)
      refine s_vI (As := [AL z_12]) (S := []) E (Z_X10_isLady_95 l D aC b u_1 z_12 hj_4.1 ) cv_X10_222 rfl rfl rfl (jv_lt hj_4 (by decide)) (Nat.le_of_ble_eq_true rfl) (Nat.le_of_ble_eq_true rfl) ⟨(Nat.le_of_ble_eq_true rfl), (Nat.le_of_ble_eq_true rfl)⟩ (Nat.le_of_ble_eq_true rfl) dX10_apart_20 (fun z_15 u_13 hp_14 => ?_)
      obtain ⟨hz_15, hp_14⟩ := hp_14
      subst hp_14
      refine z_if_ne (tgt := 29) (u := z_15.toInt) E dX10_apart_23 (by decide) rfl (fun h_17 => ?_) (fun h_17 => ?_)
      ·
        refine s_aload_n E dX10_apart_29 rfl rfl ?_
        refine s_aload_n E dX10_apart_30 rfl rfl ?_
        refine s_iload_n E dX10_apart_31 rfl rfl ?_
        refine s_vI (As := [AI x1]) (S := [AR 95]) E (Z_X10_wideOf_95 l D aC b u_1 x1 hj_4.1 ⟨by have hb_ := z32 x1; omega, by have hb_ := z32 x1; omega⟩) cv_X10_238 rfl rfl rfl (jv_lt hj_4 (by decide)) (Nat.le_of_ble_eq_true rfl) (Nat.le_of_ble_eq_true rfl) ⟨(Nat.le_of_ble_eq_true rfl), (Nat.le_of_ble_eq_true rfl)⟩ (Nat.le_of_ble_eq_true rfl) dX10_apart_32 (fun z_20 u_18 hp_19 => ?_)
        obtain ⟨hz_20, hxz_20, hp_19⟩ := hp_19
        subst hp_19
        refine s_aload_n E dX10_apart_35 rfl rfl ?_
        refine s_iload_n E dX10_apart_36 rfl rfl ?_
        refine s_iload_n E dX10_apart_37 rfl rfl ?_
        refine s_vI (As := [AI x1, AI x3]) (S := [AI z_20, AR 95]) E (Z_X10_atOf_95 l D aC b u_1 x1 x3 hj_4.1 ⟨by have hb_ := z32 x1; omega, by have hb_ := z32 x1; omega⟩ ⟨by have hb_ := z32 x3; omega, by have hb_ := z32 x3; omega⟩) cv_X10_255 rfl rfl rfl (jv_lt hj_4 (by decide)) (Nat.le_of_ble_eq_true rfl) (Nat.le_of_ble_eq_true rfl) ⟨(Nat.le_of_ble_eq_true rfl), (Nat.le_of_ble_eq_true rfl)⟩ (Nat.le_of_ble_eq_true rfl) dX10_apart_38 (fun z_24 u_22 hp_23 => ?_)
        obtain ⟨hz_24, hp_23⟩ := hp_23
        subst hp_23
        refine s_aload_n E dX10_apart_41 rfl rfl ?_
        refine s_iload_n E dX10_apart_42 rfl rfl ?_
        refine s_iload_n E dX10_apart_43 rfl rfl ?_
        refine s_vI (As := [AI x2, AI x3]) (S := [AI z_24, AI z_20, AR 95]) E (Z_X10_atOf_95 l D aC b u_1 x2 x3 hj_4.1 ⟨by have hb_ := z32 x2; omega, by have hb_ := z32 x2; omega⟩ ⟨by have hb_ := z32 x3; omega, by have hb_ := z32 x3; omega⟩) cv_X10_255 rfl rfl rfl (jv_lt hj_4 (by decide)) (Nat.le_of_ble_eq_true rfl) (Nat.le_of_ble_eq_true rfl) ⟨(Nat.le_of_ble_eq_true rfl), (Nat.le_of_ble_eq_true rfl)⟩ (Nat.le_of_ble_eq_true rfl) dX10_apart_44 (fun z_28 u_26 hp_27 => ?_)
        obtain ⟨hz_28, hp_27⟩ := hp_27
        subst hp_27
        refine s_vI (As := [AI z_20, AI z_24, AI z_28]) (S := []) E (Z_X10_wayOf_95 l D aC b u_1 z_20 z_24 z_28 hj_4.1 ⟨by have hb_ := z32 z_20; omega, by have hb_ := z32 z_20; omega⟩ ⟨by have hb_ := z32 z_24; omega, by have hb_ := z32 z_24; omega⟩ ⟨by have hb_ := z32 z_28; omega, by have hb_ := z32 z_28; omega⟩) cv_X10_233 rfl rfl rfl (jv_lt hj_4 (by decide)) (Nat.le_of_ble_eq_true rfl) (Nat.le_of_ble_eq_true rfl) ⟨(Nat.le_of_ble_eq_true rfl), (Nat.le_of_ble_eq_true rfl)⟩ (Nat.le_of_ble_eq_true rfl) dX10_apart_47 (fun z_32 u_30 hp_31 => ?_)
        obtain ⟨hz_32, hxz_32, hp_31⟩ := hp_31
        subst hp_31
        refine s_istore (L2 := [some (AR 95), some (AI x1), some (AI x2), some (AI x3), some (AI z_32)]) E dX10_apart_50 (by decide) rfl ?_
        refine s_iload E dX10_apart_52 rfl ?_
        refine s_ldc E k_1513 rfl dX10_apart_54 ?_
        refine z_icmp_lt (tgt := 63) (u := z_32.toInt) (v := 1000000000) E dX10_apart_56 (by decide) rfl (by decide) (fun h_34 => ?_) (fun h_34 => ?_)
        ·
          refine s_iload E dX10_apart_63 rfl ?_
          exact r_int E dX10_apart_65 ⟨⟨by have hb_ := z32 z_32; omega, by have hb_ := z32 z_32; omega, by first | (right; decide) | (have hb_ := z32 z_32; omega) | (have hb_ := z32 z_32; have hc_ := z32 x1; omega), by first | (right; decide) | (have hb_ := z32 z_32; omega) | (have hb_ := z32 z_32; have hc_ := z32 x2; omega), by first | (right; decide) | (have hb_ := z32 z_32; omega) | (have hb_ := z32 z_32; have hc_ := z32 x3; omega)⟩, hj_4⟩
        ·
          refine s_iconst (v := (-1)) E dX10_apart_59 (by decide) ?_
          refine s_goto (tgt := 65) E dX10_apart_60 (by decide) ?_
          exact r_int E dX10_apart_65 ⟨⟨by decide, by decide, by first | (left; decide) | (right; decide) | (right; have hb_ := z32 x1; omega), by first | (left; decide) | (right; decide) | (right; have hb_ := z32 x2; omega), by first | (left; decide) | (right; decide) | (right; have hb_ := z32 x3; omega)⟩, hj_4⟩
      ·
        refine s_bipush (v := (-2)) E dX10_apart_26 (by decide) ?_
        exact r_int E dX10_apart_28 ⟨⟨by decide, by decide, by first | (left; decide) | (right; decide) | (right; have hb_ := z32 x1; omega), by first | (left; decide) | (right; decide) | (right; have hb_ := z32 x2; omega), by first | (left; decide) | (right; decide) | (right; have hb_ := z32 x3; omega)⟩, hj_4⟩
set_option maxRecDepth 20000 in
set_option maxHeartbeats 2000000 in
theorem Z_X10_alone_95 (l : Launch) (D : va_G) (aC : Nat → ClassId) (b : Nat) (w : XW) (x1 : Int32) (hI : Iv w)  : CnI l D aC b M_X10_alone 5 113 0 0 [AR 95, AI x1] w (fun r u => ((-2147483648) ≤ r.toInt ∧ r.toInt ≤ 2147483647 ∧ (¬ r.toInt = 0 ∨ (0 ≤ x1.toInt ∧ x1.toInt ≤ 14))) ∧ Jv w u) := by
  refine cn_I (own := RX10) (nm := "alone") (L0 := [some (AR 95), some (AI x1), none, none]) (by decide +kernel) rfl rfl (Nat.le_of_ble_eq_true rfl) rfl ?_
  intro p e s m args below meth c E hin
  have hJ : Jv w w := jv_rfl hI
  have hb_x1 := z32 x1
  refine s_aload_n E dX10_alone_0 rfl rfl ?_
  refine s_iload_n E dX10_alone_1 rfl rfl ?_
  refine s_vI (As := [AI x1]) (S := []) E (Z_X10_asksDance_95 l D aC b w x1 hJ.1 ) cv_X10_294 rfl rfl rfl (jv_lt hJ (by decide)) (Nat.le_of_ble_eq_true rfl) (Nat.le_of_ble_eq_true rfl) ⟨(Nat.le_of_ble_eq_true rfl), (Nat.le_of_ble_eq_true rfl)⟩ (Nat.le_of_ble_eq_true rfl) dX10_alone_2 (fun z_3 u_1 hp_2 => ?_)
  obtain ⟨hz_3, hp_2⟩ := hp_2
  have hj_4 := jv_trans hJ hp_2
  refine z_if_ne (tgt := 11) (u := z_3.toInt) E dX10_alone_5 (by decide) rfl (fun h_5 => ?_) (fun h_5 => ?_)
  ·
    refine s_iconst (v := 0) E dX10_alone_11 (by decide) ?_
    refine s_istore_n (L2 := [some (AR 95), some (AI x1), some (AI 0), none]) E dX10_alone_12 rfl (by decide) rfl ?_
    refine s_iconst (v := 0) E dX10_alone_13 (by decide) ?_
    refine s_istore_n (L2 := [some (AR 95), some (AI x1), some (AI 0), some (AI 0)]) E dX10_alone_14 rfl (by decide) rfl ?_
    refine z_loop (St := Int32 × Int32) (Pi := fun ⟨q15_2_5, q15_3_5⟩ v15 => (0 ≤ q15_3_5.toInt ∧ q15_3_5.toInt ≤ 6) ∧ u_1 = v15) (Lf := fun ⟨q15_2_5, q15_3_5⟩ => [some (AR 95), some (AI x1), some (AI q15_2_5), some (AI q15_3_5)]) (fun ⟨q15_2_5, q15_3_5⟩ _ => (7 - q15_3_5.toInt).toNat) ⟨0, 0⟩ ⟨⟨by decide, by decide⟩, rfl⟩ ?_
    rintro ⟨q15_2_5, q15_3_5⟩ v15 ⟨hq15_3, hv_⟩ ih15
    subst hv_
    have hbq15_2 := z32 q15_2_5
    refine s_loc (L2 := [some (AR 95), some (AI x1), some (AI q15_2_5), some (AI q15_3_5)]) rfl ?_
    refine s_iload_n E dX10_alone_15 rfl rfl ?_
    refine s_aload_n E dX10_alone_16 rfl rfl ?_
    refine s_vI (As := []) (S := [AI q15_3_5]) E (Z_X10_ladies_95 l D aC b u_1  hj_4.1 ) cv_X10_244 rfl rfl rfl (jv_lt hj_4 (by decide)) (Nat.le_of_ble_eq_true rfl) (Nat.le_of_ble_eq_true rfl) ⟨(Nat.le_of_ble_eq_true rfl), (Nat.le_of_ble_eq_true rfl)⟩ (Nat.le_of_ble_eq_true rfl) dX10_alone_17 (fun z_9 u_7 hp_8 => ?_)
    obtain ⟨hz_9, hxz_9, hp_8⟩ := hp_8
    subst hp_8
    refine z_icmp_ge (tgt := 57) (u := q15_3_5.toInt) (v := z_9.toInt) E dX10_alone_20 (by decide) rfl rfl (fun h_11 => ?_) (fun h_11 => ?_)
    ·
      refine s_iload_n E dX10_alone_57 rfl rfl ?_
      exact r_int E dX10_alone_58 ⟨⟨by have hb_ := z32 q15_2_5; omega, by have hb_ := z32 q15_2_5; omega, by first | (right; decide) | (have hb_ := z32 q15_2_5; omega) | (have hb_ := z32 q15_2_5; have hc_ := z32 x1; omega)⟩, hj_4⟩
    ·
      refine s_iload_n E dX10_alone_23 rfl rfl ?_
      refine s_aload_n E dX10_alone_24 rfl rfl ?_
      refine s_aload_n E dX10_alone_25 rfl rfl ?_
      refine s_iload_n E dX10_alone_26 rfl rfl ?_
      refine s_iload_n E dX10_alone_27 rfl rfl ?_
      refine s_vI (As := [AI q15_3_5, AI x1]) (S := [AR 95, AI q15_2_5]) E (Z_X10_atOf_95 l D aC b u_1 q15_3_5 x1 hj_4.1 ⟨by have hb_ := z32 q15_3_5; omega, by have hb_ := z32 q15_3_5; omega⟩ ⟨by have hb_ := z32 x1; omega, by have hb_ := z32 x1; omega⟩) cv_X10_255 rfl rfl rfl (jv_lt hj_4 (by decide)) (Nat.le_of_ble_eq_true rfl) (Nat.le_of_ble_eq_true rfl) ⟨(Nat.le_of_ble_eq_true rfl), (Nat.le_of_ble_eq_true rfl)⟩ (Nat.le_of_ble_eq_true rfl) dX10_alone_28 (fun z_14 u_12 hp_13 => ?_)
      obtain ⟨hz_14, hp_13⟩ := hp_13
      subst hp_13
      refine s_iload_n E dX10_alone_31 rfl rfl ?_
      refine s_vI (As := [AI z_14, AI x1]) (S := [AI q15_2_5]) E (Z_X10_withinOf_95 l D aC b u_1 z_14 x1 hj_4.1 ⟨by have hb_ := z32 x1; omega, by have hb_ := z32 x1; omega⟩) cv_X10_297 rfl rfl rfl (jv_lt hj_4 (by decide)) (Nat.le_of_ble_eq_true rfl) (Nat.le_of_ble_eq_true rfl) ⟨(Nat.le_of_ble_eq_true rfl), (Nat.le_of_ble_eq_true rfl)⟩ (Nat.le_of_ble_eq_true rfl) dX10_alone_32 (fun z_18 u_16 hp_17 => ?_)
      obtain ⟨hz_18, hp_17⟩ := hp_17
      subst hp_17
      refine s_sI (As := [AI z_18]) (S := [AI q15_2_5]) E (Z_X10_bits l D aC b u_1 z_18 hj_4.1 ) cs_X10_319 rfl rfl (Nat.le_of_ble_eq_true rfl) (Nat.le_of_ble_eq_true rfl) ⟨(Nat.le_of_ble_eq_true rfl), (Nat.le_of_ble_eq_true rfl)⟩ (Nat.le_of_ble_eq_true rfl) dX10_alone_35 (fun z_22 u_20 hp_21 => ?_)
      obtain ⟨hz_22, hp_21⟩ := hp_21
      subst hp_21
      refine s_iconst (v := 1) E dX10_alone_38 (by decide) ?_
      refine z_icmp_ne (tgt := 48) (u := z_22.toInt) (v := 1) E dX10_alone_39 (by decide) rfl (by decide) (fun h_24 => ?_) (fun h_24 => ?_)
      ·
        refine s_iconst (v := 0) E dX10_alone_48 (by decide) ?_
        refine s_ior E dX10_alone_49 ?_
        refine z_nm (P := fun z => (-2147483648) ≤ z.toInt ∧ z.toInt ≤ 2147483647) (z32 _) (fun z_25 hz_25 => ?_)
        refine s_istore_n (L2 := [some (AR 95), some (AI x1), some (AI z_25), some (AI q15_3_5)]) E dX10_alone_50 rfl (by decide) rfl ?_
        refine z_iinc (u := q15_3_5.toInt) (L2 := fun z_26 => [some (AR 95), some (AI x1), some (AI z_25), some (AI z_26)]) E dX10_alone_51 rfl rfl (by decide) (fun _ => rfl) (by decide) (by omega) (by omega) (fun z_26 hz_26 => ?_)
        refine s_goto (tgt := 15) E dX10_alone_54 (by decide) ?_
        exact ih15 ⟨z_25, z_26⟩ u_1 ⟨⟨by have hb_ := z32 z_26; omega, by have hb_ := z32 z_26; omega⟩, rfl⟩ (by first | omega | decide | (dsimp only; omega) | (dsimp only; decide))
      ·
        refine s_iconst (v := 1) E dX10_alone_42 (by decide) ?_
        refine s_iload_n E dX10_alone_43 rfl rfl ?_
        refine z_shl1 5 (u := q15_3_5.toInt) (B := 32) E dX10_alone_44 rfl (by omega) (by omega) (by decide) (by decide) (fun z_27 hz_27 => ?_)
        refine s_goto (tgt := 49) E dX10_alone_45 (by decide) ?_
        refine s_ior E dX10_alone_49 ?_
        refine z_nm (P := fun z => (-2147483648) ≤ z.toInt ∧ z.toInt ≤ 2147483647) (z32 _) (fun z_28 hz_28 => ?_)
        refine s_istore_n (L2 := [some (AR 95), some (AI x1), some (AI z_28), some (AI q15_3_5)]) E dX10_alone_50 rfl (by decide) rfl ?_
        refine z_iinc (u := q15_3_5.toInt) (L2 := fun z_29 => [some (AR 95), some (AI x1), some (AI z_28), some (AI z_29)]) E dX10_alone_51 rfl rfl (by decide) (fun _ => rfl) (by decide) (by omega) (by omega) (fun z_29 hz_29 => ?_)
        refine s_goto (tgt := 15) E dX10_alone_54 (by decide) ?_
        exact ih15 ⟨z_28, z_29⟩ u_1 ⟨⟨by have hb_ := z32 z_29; omega, by have hb_ := z32 z_29; omega⟩, rfl⟩ (by first | omega | decide | (dsimp only; omega) | (dsimp only; decide))
  ·
    refine s_bipush (v := (-2)) E dX10_alone_8 (by decide) ?_
    exact r_int E dX10_alone_10 ⟨⟨by decide, by decide, by first | (left; decide) | (right; decide) | (right; have hb_ := z32 x1; omega)⟩, hj_4⟩
set_option maxRecDepth 20000 in
set_option maxHeartbeats 2000000 in
theorem Z_X10_empty_95 (l : Launch) (D : va_G) (aC : Nat → ClassId) (b : Nat) (w : XW) (x1 : Int32) (hI : Iv w)  : CnI l D aC b M_X10_empty 5 113 0 0 [AR 95, AI x1] w (fun r u => ((-2147483648) ≤ r.toInt ∧ r.toInt ≤ 2147483647 ∧ (¬ r.toInt = 0 ∨ (0 ≤ x1.toInt ∧ x1.toInt ≤ 14))) ∧ Jv w u) := by
  refine cn_I (own := RX10) (nm := "empty") (L0 := [some (AR 95), some (AI x1), none, none]) (by decide +kernel) rfl rfl (Nat.le_of_ble_eq_true rfl) rfl ?_
  intro p e s m args below meth c E hin
  have hJ : Jv w w := jv_rfl hI
  have hb_x1 := z32 x1
  refine s_aload_n E dX10_empty_0 rfl rfl ?_
  refine s_iload_n E dX10_empty_1 rfl rfl ?_
  refine s_vI (As := [AI x1]) (S := []) E (Z_X10_asksDance_95 l D aC b w x1 hJ.1 ) cv_X10_294 rfl rfl rfl (jv_lt hJ (by decide)) (Nat.le_of_ble_eq_true rfl) (Nat.le_of_ble_eq_true rfl) ⟨(Nat.le_of_ble_eq_true rfl), (Nat.le_of_ble_eq_true rfl)⟩ (Nat.le_of_ble_eq_true rfl) dX10_empty_2 (fun z_3 u_1 hp_2 => ?_)
  obtain ⟨hz_3, hp_2⟩ := hp_2
  have hj_4 := jv_trans hJ hp_2
  refine z_if_ne (tgt := 11) (u := z_3.toInt) E dX10_empty_5 (by decide) rfl (fun h_5 => ?_) (fun h_5 => ?_)
  ·
    refine s_iconst (v := 0) E dX10_empty_11 (by decide) ?_
    refine s_istore_n (L2 := [some (AR 95), some (AI x1), some (AI 0), none]) E dX10_empty_12 rfl (by decide) rfl ?_
    refine s_iconst (v := 0) E dX10_empty_13 (by decide) ?_
    refine s_istore_n (L2 := [some (AR 95), some (AI x1), some (AI 0), some (AI 0)]) E dX10_empty_14 rfl (by decide) rfl ?_
    refine z_loop (St := Int32 × Int32) (Pi := fun ⟨q15_2_5, q15_3_5⟩ v15 => (0 ≤ q15_3_5.toInt ∧ q15_3_5.toInt ≤ 8) ∧ u_1 = v15) (Lf := fun ⟨q15_2_5, q15_3_5⟩ => [some (AR 95), some (AI x1), some (AI q15_2_5), some (AI q15_3_5)]) (fun ⟨q15_2_5, q15_3_5⟩ _ => (9 - q15_3_5.toInt).toNat) ⟨0, 0⟩ ⟨⟨by decide, by decide⟩, rfl⟩ ?_
    rintro ⟨q15_2_5, q15_3_5⟩ v15 ⟨hq15_3, hv_⟩ ih15
    subst hv_
    have hbq15_2 := z32 q15_2_5
    refine s_loc (L2 := [some (AR 95), some (AI x1), some (AI q15_2_5), some (AI q15_3_5)]) rfl ?_
    refine s_iload_n E dX10_empty_15 rfl rfl ?_
    refine s_aload_n E dX10_empty_16 rfl rfl ?_
    refine s_gR (r := 96) E fg_X10_9 rfl rfl (jv_lt hj_4 (by decide)) (jv_r hj_4 (by decide +kernel)) dX10_empty_17 ?_
    refine s_iconst (v := 0) E dX10_empty_20 (by decide) ?_
    refine s_iald E rfl (jv_lt hj_4 (by decide)) (z_in (u := 0) (by decide) (by omega) (by omega)) dX10_empty_21 ?_
    refine z_nm (P := fun z => z.toInt = (u_1.2.2.1 96 0).toInt ∧ 0 ≤ z.toInt ∧ z.toInt ≤ 8) ⟨rfl, (rw_96_0 hj_4)⟩ (fun z_7 hz_7 => ?_)
    refine z_icmp_ge (tgt := 50) (u := q15_3_5.toInt) (v := z_7.toInt) E dX10_empty_22 (by decide) rfl rfl (fun h_8 => ?_) (fun h_8 => ?_)
    ·
      refine s_iload_n E dX10_empty_50 rfl rfl ?_
      exact r_int E dX10_empty_51 ⟨⟨by have hb_ := z32 q15_2_5; omega, by have hb_ := z32 q15_2_5; omega, by first | (right; decide) | (have hb_ := z32 q15_2_5; omega) | (have hb_ := z32 q15_2_5; have hc_ := z32 x1; omega)⟩, hj_4⟩
    ·
      refine s_iload_n E dX10_empty_25 rfl rfl ?_
      refine s_aload_n E dX10_empty_26 rfl rfl ?_
      refine s_iload_n E dX10_empty_27 rfl rfl ?_
      refine s_iload_n E dX10_empty_28 rfl rfl ?_
      refine s_vI (As := [AI q15_3_5, AI x1]) (S := [AI q15_2_5]) E (Z_X10_withinOf_95 l D aC b u_1 q15_3_5 x1 hj_4.1 ⟨by have hb_ := z32 x1; omega, by have hb_ := z32 x1; omega⟩) cv_X10_297 rfl rfl rfl (jv_lt hj_4 (by decide)) (Nat.le_of_ble_eq_true rfl) (Nat.le_of_ble_eq_true rfl) ⟨(Nat.le_of_ble_eq_true rfl), (Nat.le_of_ble_eq_true rfl)⟩ (Nat.le_of_ble_eq_true rfl) dX10_empty_29 (fun z_11 u_9 hp_10 => ?_)
      obtain ⟨hz_11, hp_10⟩ := hp_10
      subst hp_10
      refine z_if_ne (tgt := 41) (u := z_11.toInt) E dX10_empty_32 (by decide) rfl (fun h_13 => ?_) (fun h_13 => ?_)
      ·
        refine s_iconst (v := 0) E dX10_empty_41 (by decide) ?_
        refine s_ior E dX10_empty_42 ?_
        refine z_nm (P := fun z => (-2147483648) ≤ z.toInt ∧ z.toInt ≤ 2147483647) (z32 _) (fun z_14 hz_14 => ?_)
        refine s_istore_n (L2 := [some (AR 95), some (AI x1), some (AI z_14), some (AI q15_3_5)]) E dX10_empty_43 rfl (by decide) rfl ?_
        refine z_iinc (u := q15_3_5.toInt) (L2 := fun z_15 => [some (AR 95), some (AI x1), some (AI z_14), some (AI z_15)]) E dX10_empty_44 rfl rfl (by decide) (fun _ => rfl) (by decide) (by omega) (by omega) (fun z_15 hz_15 => ?_)
        refine s_goto (tgt := 15) E dX10_empty_47 (by decide) ?_
        exact ih15 ⟨z_14, z_15⟩ u_1 ⟨⟨by have hb_ := z32 z_15; omega, by have hb_ := z32 z_15; omega⟩, rfl⟩ (by first | omega | decide | (dsimp only; omega) | (dsimp only; decide))
      ·
        refine s_iconst (v := 1) E dX10_empty_35 (by decide) ?_
        refine s_iload_n E dX10_empty_36 rfl rfl ?_
        refine z_shl1 7 (u := q15_3_5.toInt) (B := 128) E dX10_empty_37 rfl (by omega) (by omega) (by decide) (by decide) (fun z_16 hz_16 => ?_)
        refine s_goto (tgt := 42) E dX10_empty_38 (by decide) ?_
        refine s_ior E dX10_empty_42 ?_
        refine z_nm (P := fun z => (-2147483648) ≤ z.toInt ∧ z.toInt ≤ 2147483647) (z32 _) (fun z_17 hz_17 => ?_)
        refine s_istore_n (L2 := [some (AR 95), some (AI x1), some (AI z_17), some (AI q15_3_5)]) E dX10_empty_43 rfl (by decide) rfl ?_
        refine z_iinc (u := q15_3_5.toInt) (L2 := fun z_18 => [some (AR 95), some (AI x1), some (AI z_17), some (AI z_18)]) E dX10_empty_44 rfl rfl (by decide) (fun _ => rfl) (by decide) (by omega) (by omega) (fun z_18 hz_18 => ?_)
        refine s_goto (tgt := 15) E dX10_empty_47 (by decide) ?_
        exact ih15 ⟨z_17, z_18⟩ u_1 ⟨⟨by have hb_ := z32 z_18; omega, by have hb_ := z32 z_18; omega⟩, rfl⟩ (by first | omega | decide | (dsimp only; omega) | (dsimp only; decide))
  ·
    refine s_bipush (v := (-2)) E dX10_empty_8 (by decide) ?_
    exact r_int E dX10_empty_10 ⟨⟨by decide, by decide, by first | (left; decide) | (right; decide) | (right; have hb_ := z32 x1; omega)⟩, hj_4⟩
set_option maxRecDepth 20000 in
set_option maxHeartbeats 2000000 in
theorem Z_X10_late_95 (l : Launch) (D : va_G) (aC : Nat → ClassId) (b : Nat) (w : XW) (x1 : Int32) (hI : Iv w)  : CnI l D aC b M_X10_late 5 113 0 0 [AR 95, AI x1] w (fun r u => ((-2) ≤ r.toInt ∧ r.toInt ≤ 64 ∧ (¬ r.toInt = 0 ∨ (0 ≤ x1.toInt ∧ x1.toInt ≤ 5))) ∧ Jv w u) := by
  refine cn_I (own := RX10) (nm := "late") (L0 := [some (AR 95), some (AI x1), none, none]) (by decide +kernel) rfl rfl (Nat.le_of_ble_eq_true rfl) rfl ?_
  intro p e s m args below meth c E hin
  have hJ : Jv w w := jv_rfl hI
  have hb_x1 := z32 x1
  refine s_aload_n E dX10_late_0 rfl rfl ?_
  refine s_iload_n E dX10_late_1 rfl rfl ?_
  refine s_vI (As := [AI x1]) (S := []) E (Z_X10_asksLady_95 l D aC b w x1 hJ.1 ) cv_X10_288 rfl rfl rfl (jv_lt hJ (by decide)) (Nat.le_of_ble_eq_true rfl) (Nat.le_of_ble_eq_true rfl) ⟨(Nat.le_of_ble_eq_true rfl), (Nat.le_of_ble_eq_true rfl)⟩ (Nat.le_of_ble_eq_true rfl) dX10_late_2 (fun z_3 u_1 hp_2 => ?_)
  obtain ⟨hz_3, hp_2⟩ := hp_2
  have hj_4 := jv_trans hJ hp_2
  refine z_if_ne (tgt := 11) (u := z_3.toInt) E dX10_late_5 (by decide) rfl (fun h_5 => ?_) (fun h_5 => ?_)
  ·
    refine s_iconst (v := (-1)) E dX10_late_11 (by decide) ?_
    refine s_istore_n (L2 := [some (AR 95), some (AI x1), some (AI (-1)), none]) E dX10_late_12 rfl (by decide) rfl ?_
    refine s_iconst (v := 1) E dX10_late_13 (by decide) ?_
    refine s_istore_n (L2 := [some (AR 95), some (AI x1), some (AI (-1)), some (AI 1)]) E dX10_late_14 rfl (by decide) rfl ?_
    refine z_loop (St := Int32 × Int32) (Pi := fun ⟨q15_2_5, q15_3_5⟩ v15 => ((-1) ≤ q15_2_5.toInt ∧ q15_2_5.toInt ≤ 64) ∧ (1 ≤ q15_3_5.toInt ∧ q15_3_5.toInt ≤ 15) ∧ u_1 = v15) (Lf := fun ⟨q15_2_5, q15_3_5⟩ => [some (AR 95), some (AI x1), some (AI q15_2_5), some (AI q15_3_5)]) (fun ⟨q15_2_5, q15_3_5⟩ _ => (16 - q15_3_5.toInt).toNat) ⟨(-1), 1⟩ ⟨⟨by decide, by decide⟩, ⟨by decide, by decide⟩, rfl⟩ ?_
    rintro ⟨q15_2_5, q15_3_5⟩ v15 ⟨hq15_2, hq15_3, hv_⟩ ih15
    subst hv_
    refine s_loc (L2 := [some (AR 95), some (AI x1), some (AI q15_2_5), some (AI q15_3_5)]) rfl ?_
    refine s_iload_n E dX10_late_15 rfl rfl ?_
    refine s_aload_n E dX10_late_16 rfl rfl ?_
    refine s_vI (As := []) (S := [AI q15_3_5]) E (Z_X10_dances_95 l D aC b u_1  hj_4.1 ) cv_X10_247 rfl rfl rfl (jv_lt hj_4 (by decide)) (Nat.le_of_ble_eq_true rfl) (Nat.le_of_ble_eq_true rfl) ⟨(Nat.le_of_ble_eq_true rfl), (Nat.le_of_ble_eq_true rfl)⟩ (Nat.le_of_ble_eq_true rfl) dX10_late_17 (fun z_9 u_7 hp_8 => ?_)
    obtain ⟨hz_9, hxz_9, hp_8⟩ := hp_8
    subst hp_8
    refine z_icmp_gt (tgt := 52) (u := q15_3_5.toInt) (v := z_9.toInt) E dX10_late_20 (by decide) rfl rfl (fun h_11 => ?_) (fun h_11 => ?_)
    ·
      refine s_iload_n E dX10_late_52 rfl rfl ?_
      exact r_int E dX10_late_53 ⟨⟨by have hb_ := z32 q15_2_5; omega, by have hb_ := z32 q15_2_5; omega, by first | (right; decide) | (have hb_ := z32 q15_2_5; omega) | (have hb_ := z32 q15_2_5; have hc_ := z32 x1; omega)⟩, hj_4⟩
    ·
      refine s_aload_n E dX10_late_23 rfl rfl ?_
      refine s_iload_n E dX10_late_24 rfl rfl ?_
      refine s_iload_n E dX10_late_25 rfl rfl ?_
      refine s_vI (As := [AI x1, AI q15_3_5]) (S := []) E (Z_X10_atOf_95 l D aC b u_1 x1 q15_3_5 hj_4.1 ⟨by have hb_ := z32 x1; omega, by have hb_ := z32 x1; omega⟩ ⟨by have hb_ := z32 q15_3_5; omega, by have hb_ := z32 q15_3_5; omega⟩) cv_X10_255 rfl rfl rfl (jv_lt hj_4 (by decide)) (Nat.le_of_ble_eq_true rfl) (Nat.le_of_ble_eq_true rfl) ⟨(Nat.le_of_ble_eq_true rfl), (Nat.le_of_ble_eq_true rfl)⟩ (Nat.le_of_ble_eq_true rfl) dX10_late_26 (fun z_14 u_12 hp_13 => ?_)
      obtain ⟨hz_14, hp_13⟩ := hp_13
      subst hp_13
      refine s_aload_n E dX10_late_29 rfl rfl ?_
      refine s_iload_n E dX10_late_30 rfl rfl ?_
      refine s_iload_n E dX10_late_31 rfl rfl ?_
      refine s_iconst (v := 1) E dX10_late_32 (by decide) ?_
      refine z_isub (u := q15_3_5.toInt) (v := 1) E dX10_late_33 rfl (by decide) (by omega) (by omega) (fun z_16 hz_16 => ?_)
      refine s_vI (As := [AI x1, AI z_16]) (S := [AI z_14]) E (Z_X10_atOf_95 l D aC b u_1 x1 z_16 hj_4.1 ⟨by have hb_ := z32 x1; omega, by have hb_ := z32 x1; omega⟩ ⟨by have hb_ := z32 z_16; omega, by have hb_ := z32 z_16; omega⟩) cv_X10_255 rfl rfl rfl (jv_lt hj_4 (by decide)) (Nat.le_of_ble_eq_true rfl) (Nat.le_of_ble_eq_true rfl) ⟨(Nat.le_of_ble_eq_true rfl), (Nat.le_of_ble_eq_true rfl)⟩ (Nat.le_of_ble_eq_true rfl) dX10_late_34 (fun z_19 u_17 hp_18 => ?_)
      obtain ⟨hz_19, hp_18⟩ := hp_18
      subst hp_18
      refine z_icmp_eq (tgt := 44) (u := z_14.toInt) (v := z_19.toInt) E dX10_late_37 (by decide) rfl rfl (fun h_21 => ?_) (fun h_21 => ?_)
      ·
        refine s_iload_n E dX10_late_44 rfl rfl ?_
        refine s_istore_n (L2 := [some (AR 95), some (AI x1), some (AI q15_2_5), some (AI q15_3_5)]) E dX10_late_45 rfl (by decide) rfl ?_
        refine z_iinc (u := q15_3_5.toInt) (L2 := fun z_22 => [some (AR 95), some (AI x1), some (AI q15_2_5), some (AI z_22)]) E dX10_late_46 rfl rfl (by decide) (fun _ => rfl) (by decide) (by omega) (by omega) (fun z_22 hz_22 => ?_)
        refine s_goto (tgt := 15) E dX10_late_49 (by decide) ?_
        exact ih15 ⟨q15_2_5, z_22⟩ u_1 ⟨⟨by have hb_ := z32 q15_2_5; omega, by have hb_ := z32 q15_2_5; omega⟩, ⟨by have hb_ := z32 z_22; omega, by have hb_ := z32 z_22; omega⟩, rfl⟩ (by first | omega | decide | (dsimp only; omega) | (dsimp only; decide))
      ·
        refine s_iload_n E dX10_late_40 rfl rfl ?_
        refine s_goto (tgt := 45) E dX10_late_41 (by decide) ?_
        refine s_istore_n (L2 := [some (AR 95), some (AI x1), some (AI q15_3_5), some (AI q15_3_5)]) E dX10_late_45 rfl (by decide) rfl ?_
        refine z_iinc (u := q15_3_5.toInt) (L2 := fun z_23 => [some (AR 95), some (AI x1), some (AI q15_3_5), some (AI z_23)]) E dX10_late_46 rfl rfl (by decide) (fun _ => rfl) (by decide) (by omega) (by omega) (fun z_23 hz_23 => ?_)
        refine s_goto (tgt := 15) E dX10_late_49 (by decide) ?_
        exact ih15 ⟨q15_3_5, z_23⟩ u_1 ⟨⟨by have hb_ := z32 q15_3_5; omega, by have hb_ := z32 q15_3_5; omega⟩, ⟨by have hb_ := z32 z_23; omega, by have hb_ := z32 z_23; omega⟩, rfl⟩ (by first | omega | decide | (dsimp only; omega) | (dsimp only; decide))
  ·
    refine s_bipush (v := (-2)) E dX10_late_8 (by decide) ?_
    exact r_int E dX10_late_10 ⟨⟨by decide, by decide, by first | (left; decide) | (right; decide) | (right; have hb_ := z32 x1; omega)⟩, hj_4⟩
set_option maxRecDepth 20000 in
set_option maxHeartbeats 2000000 in
theorem Z_X10_waits_95 (l : Launch) (D : va_G) (aC : Nat → ClassId) (b : Nat) (w : XW) (x1 : Int32) (hI : Iv w)  : CnI l D aC b M_X10_waits 5 113 0 0 [AR 95, AI x1] w (fun r u => ((-2147483648) ≤ r.toInt ∧ r.toInt ≤ 2147483647 ∧ (¬ r.toInt = 0 ∨ (0 ≤ x1.toInt ∧ x1.toInt ≤ 5))) ∧ Jv w u) := by
  refine cn_I (own := RX10) (nm := "waits") (L0 := [some (AR 95), some (AI x1), none, none]) (by decide +kernel) rfl rfl (Nat.le_of_ble_eq_true rfl) rfl ?_
  intro p e s m args below meth c E hin
  have hJ : Jv w w := jv_rfl hI
  have hb_x1 := z32 x1
  refine s_aload_n E dX10_waits_0 rfl rfl ?_
  refine s_iload_n E dX10_waits_1 rfl rfl ?_
  refine s_vI (As := [AI x1]) (S := []) E (Z_X10_asksLady_95 l D aC b w x1 hJ.1 ) cv_X10_288 rfl rfl rfl (jv_lt hJ (by decide)) (Nat.le_of_ble_eq_true rfl) (Nat.le_of_ble_eq_true rfl) ⟨(Nat.le_of_ble_eq_true rfl), (Nat.le_of_ble_eq_true rfl)⟩ (Nat.le_of_ble_eq_true rfl) dX10_waits_2 (fun z_3 u_1 hp_2 => ?_)
  obtain ⟨hz_3, hp_2⟩ := hp_2
  have hj_4 := jv_trans hJ hp_2
  refine z_if_ne (tgt := 11) (u := z_3.toInt) E dX10_waits_5 (by decide) rfl (fun h_5 => ?_) (fun h_5 => ?_)
  ·
    refine s_iconst (v := 0) E dX10_waits_11 (by decide) ?_
    refine s_istore_n (L2 := [some (AR 95), some (AI x1), some (AI 0), none]) E dX10_waits_12 rfl (by decide) rfl ?_
    refine s_iconst (v := 0) E dX10_waits_13 (by decide) ?_
    refine s_istore_n (L2 := [some (AR 95), some (AI x1), some (AI 0), some (AI 0)]) E dX10_waits_14 rfl (by decide) rfl ?_
    refine z_loop (St := Int32 × Int32) (Pi := fun ⟨q15_2_5, q15_3_5⟩ v15 => (0 ≤ q15_3_5.toInt ∧ q15_3_5.toInt ≤ 14) ∧ u_1 = v15) (Lf := fun ⟨q15_2_5, q15_3_5⟩ => [some (AR 95), some (AI x1), some (AI q15_2_5), some (AI q15_3_5)]) (fun ⟨q15_2_5, q15_3_5⟩ _ => (15 - q15_3_5.toInt).toNat) ⟨0, 0⟩ ⟨⟨by decide, by decide⟩, rfl⟩ ?_
    rintro ⟨q15_2_5, q15_3_5⟩ v15 ⟨hq15_3, hv_⟩ ih15
    subst hv_
    have hbq15_2 := z32 q15_2_5
    refine s_loc (L2 := [some (AR 95), some (AI x1), some (AI q15_2_5), some (AI q15_3_5)]) rfl ?_
    refine s_iload_n E dX10_waits_15 rfl rfl ?_
    refine s_aload_n E dX10_waits_16 rfl rfl ?_
    refine s_vI (As := []) (S := [AI q15_3_5]) E (Z_X10_dances_95 l D aC b u_1  hj_4.1 ) cv_X10_247 rfl rfl rfl (jv_lt hj_4 (by decide)) (Nat.le_of_ble_eq_true rfl) (Nat.le_of_ble_eq_true rfl) ⟨(Nat.le_of_ble_eq_true rfl), (Nat.le_of_ble_eq_true rfl)⟩ (Nat.le_of_ble_eq_true rfl) dX10_waits_17 (fun z_9 u_7 hp_8 => ?_)
    obtain ⟨hz_9, hxz_9, hp_8⟩ := hp_8
    subst hp_8
    refine z_icmp_ge (tgt := 79) (u := q15_3_5.toInt) (v := z_9.toInt) E dX10_waits_20 (by decide) rfl rfl (fun h_11 => ?_) (fun h_11 => ?_)
    ·
      refine s_iload_n E dX10_waits_79 rfl rfl ?_
      exact r_int E dX10_waits_80 ⟨⟨by have hb_ := z32 q15_2_5; omega, by have hb_ := z32 q15_2_5; omega, by first | (right; decide) | (have hb_ := z32 q15_2_5; omega) | (have hb_ := z32 q15_2_5; have hc_ := z32 x1; omega)⟩, hj_4⟩
    ·
      refine s_iload_n E dX10_waits_23 rfl rfl ?_
      refine s_aload_n E dX10_waits_24 rfl rfl ?_
      refine s_iload_n E dX10_waits_25 rfl rfl ?_
      refine s_iload_n E dX10_waits_26 rfl rfl ?_
      refine s_vI (As := [AI x1, AI q15_3_5]) (S := [AI q15_2_5]) E (Z_X10_biddenOf_95 l D aC b u_1 x1 q15_3_5 hj_4.1 ⟨by have hb_ := z32 x1; omega, by have hb_ := z32 x1; omega⟩ ⟨by have hb_ := z32 q15_3_5; omega, by have hb_ := z32 q15_3_5; omega⟩) cv_X10_258 rfl rfl rfl (jv_lt hj_4 (by decide)) (Nat.le_of_ble_eq_true rfl) (Nat.le_of_ble_eq_true rfl) ⟨(Nat.le_of_ble_eq_true rfl), (Nat.le_of_ble_eq_true rfl)⟩ (Nat.le_of_ble_eq_true rfl) dX10_waits_27 (fun z_14 u_12 hp_13 => ?_)
      obtain ⟨hz_14, hp_13⟩ := hp_13
      subst hp_13
      refine s_iconst (v := (-1)) E dX10_waits_30 (by decide) ?_
      refine z_icmp_eq (tgt := 70) (u := z_14.toInt) (v := (-1)) E dX10_waits_31 (by decide) rfl (by decide) (fun h_16 => ?_) (fun h_16 => ?_)
      ·
        refine s_iconst (v := 0) E dX10_waits_70 (by decide) ?_
        refine z_iadd (u := q15_2_5.toInt) (v := 0) E dX10_waits_71 rfl (by decide) (by omega) (by omega) (fun z_17 hz_17 => ?_)
        refine s_istore_n (L2 := [some (AR 95), some (AI x1), some (AI z_17), some (AI q15_3_5)]) E dX10_waits_72 rfl (by decide) rfl ?_
        refine z_iinc (u := q15_3_5.toInt) (L2 := fun z_18 => [some (AR 95), some (AI x1), some (AI z_17), some (AI z_18)]) E dX10_waits_73 rfl rfl (by decide) (fun _ => rfl) (by decide) (by omega) (by omega) (fun z_18 hz_18 => ?_)
        refine s_goto (tgt := 15) E dX10_waits_76 (by decide) ?_
        exact ih15 ⟨z_17, z_18⟩ u_1 ⟨⟨by have hb_ := z32 z_18; omega, by have hb_ := z32 z_18; omega⟩, rfl⟩ (by first | omega | decide | (dsimp only; omega) | (dsimp only; decide))
      ·
        refine s_aload_n E dX10_waits_34 rfl rfl ?_
        refine s_iload_n E dX10_waits_35 rfl rfl ?_
        refine s_iload_n E dX10_waits_36 rfl rfl ?_
        refine s_vI (As := [AI x1, AI q15_3_5]) (S := [AI q15_2_5]) E (Z_X10_biddenOf_95 l D aC b u_1 x1 q15_3_5 hj_4.1 ⟨by have hb_ := z32 x1; omega, by have hb_ := z32 x1; omega⟩ ⟨by have hb_ := z32 q15_3_5; omega, by have hb_ := z32 q15_3_5; omega⟩) cv_X10_258 rfl rfl rfl (jv_lt hj_4 (by decide)) (Nat.le_of_ble_eq_true rfl) (Nat.le_of_ble_eq_true rfl) ⟨(Nat.le_of_ble_eq_true rfl), (Nat.le_of_ble_eq_true rfl)⟩ (Nat.le_of_ble_eq_true rfl) dX10_waits_37 (fun z_21 u_19 hp_20 => ?_)
        obtain ⟨hz_21, hp_20⟩ := hp_20
        subst hp_20
        refine s_aload_n E dX10_waits_40 rfl rfl ?_
        refine s_iload_n E dX10_waits_41 rfl rfl ?_
        refine s_iload_n E dX10_waits_42 rfl rfl ?_
        refine s_vI (As := [AI x1, AI q15_3_5]) (S := [AI z_21, AI q15_2_5]) E (Z_X10_atOf_95 l D aC b u_1 x1 q15_3_5 hj_4.1 ⟨by have hb_ := z32 x1; omega, by have hb_ := z32 x1; omega⟩ ⟨by have hb_ := z32 q15_3_5; omega, by have hb_ := z32 q15_3_5; omega⟩) cv_X10_255 rfl rfl rfl (jv_lt hj_4 (by decide)) (Nat.le_of_ble_eq_true rfl) (Nat.le_of_ble_eq_true rfl) ⟨(Nat.le_of_ble_eq_true rfl), (Nat.le_of_ble_eq_true rfl)⟩ (Nat.le_of_ble_eq_true rfl) dX10_waits_43 (fun z_25 u_23 hp_24 => ?_)
        obtain ⟨hz_25, hp_24⟩ := hp_24
        subst hp_24
        refine z_icmp_eq (tgt := 70) (u := z_21.toInt) (v := z_25.toInt) E dX10_waits_46 (by decide) rfl rfl (fun h_27 => ?_) (fun h_27 => ?_)
        ·
          refine s_iconst (v := 0) E dX10_waits_70 (by decide) ?_
          refine z_iadd (u := q15_2_5.toInt) (v := 0) E dX10_waits_71 rfl (by decide) (by omega) (by omega) (fun z_28 hz_28 => ?_)
          refine s_istore_n (L2 := [some (AR 95), some (AI x1), some (AI z_28), some (AI q15_3_5)]) E dX10_waits_72 rfl (by decide) rfl ?_
          refine z_iinc (u := q15_3_5.toInt) (L2 := fun z_29 => [some (AR 95), some (AI x1), some (AI z_28), some (AI z_29)]) E dX10_waits_73 rfl rfl (by decide) (fun _ => rfl) (by decide) (by omega) (by omega) (fun z_29 hz_29 => ?_)
          refine s_goto (tgt := 15) E dX10_waits_76 (by decide) ?_
          exact ih15 ⟨z_28, z_29⟩ u_1 ⟨⟨by have hb_ := z32 z_29; omega, by have hb_ := z32 z_29; omega⟩, rfl⟩ (by first | omega | decide | (dsimp only; omega) | (dsimp only; decide))
        ·
          refine s_aload_n E dX10_waits_49 rfl rfl ?_
          refine s_iload_n E dX10_waits_50 rfl rfl ?_
          refine s_iload_n E dX10_waits_51 rfl rfl ?_
          refine s_iconst (v := 1) E dX10_waits_52 (by decide) ?_
          refine z_iadd (u := q15_3_5.toInt) (v := 1) E dX10_waits_53 rfl (by decide) (by omega) (by omega) (fun z_30 hz_30 => ?_)
          refine s_vI (As := [AI x1, AI z_30]) (S := [AI q15_2_5]) E (Z_X10_atOf_95 l D aC b u_1 x1 z_30 hj_4.1 ⟨by have hb_ := z32 x1; omega, by have hb_ := z32 x1; omega⟩ ⟨by have hb_ := z32 z_30; omega, by have hb_ := z32 z_30; omega⟩) cv_X10_255 rfl rfl rfl (jv_lt hj_4 (by decide)) (Nat.le_of_ble_eq_true rfl) (Nat.le_of_ble_eq_true rfl) ⟨(Nat.le_of_ble_eq_true rfl), (Nat.le_of_ble_eq_true rfl)⟩ (Nat.le_of_ble_eq_true rfl) dX10_waits_54 (fun z_33 u_31 hp_32 => ?_)
          obtain ⟨hz_33, hp_32⟩ := hp_32
          subst hp_32
          refine s_aload_n E dX10_waits_57 rfl rfl ?_
          refine s_iload_n E dX10_waits_58 rfl rfl ?_
          refine s_iload_n E dX10_waits_59 rfl rfl ?_
          refine s_vI (As := [AI x1, AI q15_3_5]) (S := [AI z_33, AI q15_2_5]) E (Z_X10_atOf_95 l D aC b u_1 x1 q15_3_5 hj_4.1 ⟨by have hb_ := z32 x1; omega, by have hb_ := z32 x1; omega⟩ ⟨by have hb_ := z32 q15_3_5; omega, by have hb_ := z32 q15_3_5; omega⟩) cv_X10_255 rfl rfl rfl (jv_lt hj_4 (by decide)) (Nat.le_of_ble_eq_true rfl) (Nat.le_of_ble_eq_true rfl) ⟨(Nat.le_of_ble_eq_true rfl), (Nat.le_of_ble_eq_true rfl)⟩ (Nat.le_of_ble_eq_true rfl) dX10_waits_60 (fun z_37 u_35 hp_36 => ?_)
          obtain ⟨hz_37, hp_36⟩ := hp_36
          subst hp_36
          refine z_icmp_ne (tgt := 70) (u := z_33.toInt) (v := z_37.toInt) E dX10_waits_63 (by decide) rfl rfl (fun h_39 => ?_) (fun h_39 => ?_)
          ·
            refine s_iconst (v := 0) E dX10_waits_70 (by decide) ?_
            refine z_iadd (u := q15_2_5.toInt) (v := 0) E dX10_waits_71 rfl (by decide) (by omega) (by omega) (fun z_40 hz_40 => ?_)
            refine s_istore_n (L2 := [some (AR 95), some (AI x1), some (AI z_40), some (AI q15_3_5)]) E dX10_waits_72 rfl (by decide) rfl ?_
            refine z_iinc (u := q15_3_5.toInt) (L2 := fun z_41 => [some (AR 95), some (AI x1), some (AI z_40), some (AI z_41)]) E dX10_waits_73 rfl rfl (by decide) (fun _ => rfl) (by decide) (by omega) (by omega) (fun z_41 hz_41 => ?_)
            refine s_goto (tgt := 15) E dX10_waits_76 (by decide) ?_
            exact ih15 ⟨z_40, z_41⟩ u_1 ⟨⟨by have hb_ := z32 z_41; omega, by have hb_ := z32 z_41; omega⟩, rfl⟩ (by first | omega | decide | (dsimp only; omega) | (dsimp only; decide))
          ·
            refine s_iconst (v := 1) E dX10_waits_66 (by decide) ?_
            refine s_goto (tgt := 71) E dX10_waits_67 (by decide) ?_
            refine s_iadd E dX10_waits_71 ?_
            refine z_nm (P := fun z => (-2147483648) ≤ z.toInt ∧ z.toInt ≤ 2147483647) (z32 _) (fun z_42 hz_42 => ?_)
            refine s_istore_n (L2 := [some (AR 95), some (AI x1), some (AI z_42), some (AI q15_3_5)]) E dX10_waits_72 rfl (by decide) rfl ?_
            refine z_iinc (u := q15_3_5.toInt) (L2 := fun z_43 => [some (AR 95), some (AI x1), some (AI z_42), some (AI z_43)]) E dX10_waits_73 rfl rfl (by decide) (fun _ => rfl) (by decide) (by omega) (by omega) (fun z_43 hz_43 => ?_)
            refine s_goto (tgt := 15) E dX10_waits_76 (by decide) ?_
            exact ih15 ⟨z_42, z_43⟩ u_1 ⟨⟨by have hb_ := z32 z_43; omega, by have hb_ := z32 z_43; omega⟩, rfl⟩ (by first | omega | decide | (dsimp only; omega) | (dsimp only; decide))
  ·
    refine s_bipush (v := (-2)) E dX10_waits_8 (by decide) ?_
    exact r_int E dX10_waits_10 ⟨⟨by decide, by decide, by first | (left; decide) | (right; decide) | (right; have hb_ := z32 x1; omega)⟩, hj_4⟩
set_option maxRecDepth 20000 in
set_option maxHeartbeats 2000000 in
theorem Z_X10_mate_95 (l : Launch) (D : va_G) (aC : Nat → ClassId) (b : Nat) (w : XW) (x1 : Int32) (hI : Iv w)  : CnI l D aC b M_X10_mate 5 113 0 0 [AR 95, AI x1] w (fun r u => ((-2) ≤ r.toInt ∧ r.toInt ≤ 64 ∧ (¬ r.toInt = 0 ∨ (0 ≤ x1.toInt ∧ x1.toInt ≤ 5))) ∧ Jv w u) := by
  refine cn_I (own := RX10) (nm := "mate") (L0 := [some (AR 95), some (AI x1), none, none, none]) (by decide +kernel) rfl rfl (Nat.le_of_ble_eq_true rfl) rfl ?_
  intro p e s m args below meth c E hin
  have hJ : Jv w w := jv_rfl hI
  have hb_x1 := z32 x1
  refine s_aload_n E dX10_mate_0 rfl rfl ?_
  refine s_iload_n E dX10_mate_1 rfl rfl ?_
  refine s_vI (As := [AI x1]) (S := []) E (Z_X10_asksLady_95 l D aC b w x1 hJ.1 ) cv_X10_288 rfl rfl rfl (jv_lt hJ (by decide)) (Nat.le_of_ble_eq_true rfl) (Nat.le_of_ble_eq_true rfl) ⟨(Nat.le_of_ble_eq_true rfl), (Nat.le_of_ble_eq_true rfl)⟩ (Nat.le_of_ble_eq_true rfl) dX10_mate_2 (fun z_3 u_1 hp_2 => ?_)
  obtain ⟨hz_3, hp_2⟩ := hp_2
  have hj_4 := jv_trans hJ hp_2
  refine z_if_ne (tgt := 11) (u := z_3.toInt) E dX10_mate_5 (by decide) rfl (fun h_5 => ?_) (fun h_5 => ?_)
  ·
    refine s_iconst (v := (-1)) E dX10_mate_11 (by decide) ?_
    refine s_istore_n (L2 := [some (AR 95), some (AI x1), some (AI (-1)), none, none]) E dX10_mate_12 rfl (by decide) rfl ?_
    refine s_iconst (v := 0) E dX10_mate_13 (by decide) ?_
    refine s_istore_n (L2 := [some (AR 95), some (AI x1), some (AI (-1)), some (AI 0), none]) E dX10_mate_14 rfl (by decide) rfl ?_
    refine s_iconst (v := 0) E dX10_mate_15 (by decide) ?_
    refine s_istore (L2 := [some (AR 95), some (AI x1), some (AI (-1)), some (AI 0), some (AI 0)]) E dX10_mate_16 (by decide) rfl ?_
    refine z_loop (St := Int32 × Int32 × Int32) (Pi := fun ⟨q18_2_5, q18_3_5, q18_4_5⟩ v18 => ((-1) ≤ q18_2_5.toInt ∧ q18_2_5.toInt ≤ 64) ∧ (0 ≤ q18_4_5.toInt ∧ q18_4_5.toInt ≤ 6) ∧ u_1 = v18) (Lf := fun ⟨q18_2_5, q18_3_5, q18_4_5⟩ => [some (AR 95), some (AI x1), some (AI q18_2_5), some (AI q18_3_5), some (AI q18_4_5)]) (fun ⟨q18_2_5, q18_3_5, q18_4_5⟩ _ => (7 - q18_4_5.toInt).toNat) ⟨(-1), 0, 0⟩ ⟨⟨by decide, by decide⟩, ⟨by decide, by decide⟩, rfl⟩ ?_
    rintro ⟨q18_2_5, q18_3_5, q18_4_5⟩ v18 ⟨hq18_2, hq18_4, hv_⟩ ih18
    subst hv_
    have hbq18_3 := z32 q18_3_5
    refine s_loc (L2 := [some (AR 95), some (AI x1), some (AI q18_2_5), some (AI q18_3_5), some (AI q18_4_5)]) rfl ?_
    refine s_iload E dX10_mate_18 rfl ?_
    refine s_aload_n E dX10_mate_20 rfl rfl ?_
    refine s_vI (As := []) (S := [AI q18_4_5]) E (Z_X10_ladies_95 l D aC b u_1  hj_4.1 ) cv_X10_244 rfl rfl rfl (jv_lt hj_4 (by decide)) (Nat.le_of_ble_eq_true rfl) (Nat.le_of_ble_eq_true rfl) ⟨(Nat.le_of_ble_eq_true rfl), (Nat.le_of_ble_eq_true rfl)⟩ (Nat.le_of_ble_eq_true rfl) dX10_mate_21 (fun z_9 u_7 hp_8 => ?_)
    obtain ⟨hz_9, hxz_9, hp_8⟩ := hp_8
    subst hp_8
    refine z_icmp_ge (tgt := 64) (u := q18_4_5.toInt) (v := z_9.toInt) E dX10_mate_24 (by decide) rfl rfl (fun h_11 => ?_) (fun h_11 => ?_)
    ·
      refine s_iload_n E dX10_mate_64 rfl rfl ?_
      exact r_int E dX10_mate_65 ⟨⟨by have hb_ := z32 q18_2_5; omega, by have hb_ := z32 q18_2_5; omega, by first | (right; decide) | (have hb_ := z32 q18_2_5; omega) | (have hb_ := z32 q18_2_5; have hc_ := z32 x1; omega)⟩, hj_4⟩
    ·
      refine s_iload E dX10_mate_27 rfl ?_
      refine s_iload_n E dX10_mate_29 rfl rfl ?_
      refine z_icmp_eq (tgt := 58) (u := q18_4_5.toInt) (v := x1.toInt) E dX10_mate_30 (by decide) rfl rfl (fun h_12 => ?_) (fun h_12 => ?_)
      ·
        refine z_iinc (u := q18_4_5.toInt) (L2 := fun z_13 => [some (AR 95), some (AI x1), some (AI q18_2_5), some (AI q18_3_5), some (AI z_13)]) E dX10_mate_58 rfl rfl (by decide) (fun _ => rfl) (by decide) (by omega) (by omega) (fun z_13 hz_13 => ?_)
        refine s_goto (tgt := 18) E dX10_mate_61 (by decide) ?_
        exact ih18 ⟨q18_2_5, q18_3_5, z_13⟩ u_1 ⟨⟨by have hb_ := z32 q18_2_5; omega, by have hb_ := z32 q18_2_5; omega⟩, ⟨by have hb_ := z32 z_13; omega, by have hb_ := z32 z_13; omega⟩, rfl⟩ (by first | omega | decide | (dsimp only; omega) | (dsimp only; decide))
      ·
        refine s_aload_n E dX10_mate_33 rfl rfl ?_
        refine s_iload_n E dX10_mate_34 rfl rfl ?_
        refine s_iload E dX10_mate_35 rfl ?_
        refine s_vI (As := [AI x1, AI q18_4_5]) (S := []) E (Z_X10_oftenMeet_95 l D aC b u_1 x1 q18_4_5 hj_4.1 ⟨by have hb_ := z32 x1; omega, by have hb_ := z32 x1; omega⟩ ⟨by have hb_ := z32 q18_4_5; omega, by have hb_ := z32 q18_4_5; omega⟩) cv_X10_310 rfl rfl rfl (jv_lt hj_4 (by decide)) (Nat.le_of_ble_eq_true rfl) (Nat.le_of_ble_eq_true rfl) ⟨(Nat.le_of_ble_eq_true rfl), (Nat.le_of_ble_eq_true rfl)⟩ (Nat.le_of_ble_eq_true rfl) dX10_mate_37 (fun z_16 u_14 hp_15 => ?_)
        obtain ⟨hz_16, hp_15⟩ := hp_15
        subst hp_15
        refine s_iload_n E dX10_mate_40 rfl rfl ?_
        refine z_icmp_gt (tgt := 47) (u := z_16.toInt) (v := q18_3_5.toInt) E dX10_mate_41 (by decide) rfl rfl (fun h_18 => ?_) (fun h_18 => ?_)
        ·
          refine s_aload_n E dX10_mate_47 rfl rfl ?_
          refine s_iload_n E dX10_mate_48 rfl rfl ?_
          refine s_iload E dX10_mate_49 rfl ?_
          refine s_vI (As := [AI x1, AI q18_4_5]) (S := []) E (Z_X10_oftenMeet_95 l D aC b u_1 x1 q18_4_5 hj_4.1 ⟨by have hb_ := z32 x1; omega, by have hb_ := z32 x1; omega⟩ ⟨by have hb_ := z32 q18_4_5; omega, by have hb_ := z32 q18_4_5; omega⟩) cv_X10_310 rfl rfl rfl (jv_lt hj_4 (by decide)) (Nat.le_of_ble_eq_true rfl) (Nat.le_of_ble_eq_true rfl) ⟨(Nat.le_of_ble_eq_true rfl), (Nat.le_of_ble_eq_true rfl)⟩ (Nat.le_of_ble_eq_true rfl) dX10_mate_51 (fun z_21 u_19 hp_20 => ?_)
          obtain ⟨hz_21, hp_20⟩ := hp_20
          subst hp_20
          refine s_istore_n (L2 := [some (AR 95), some (AI x1), some (AI q18_2_5), some (AI z_21), some (AI q18_4_5)]) E dX10_mate_54 rfl (by decide) rfl ?_
          refine s_iload E dX10_mate_55 rfl ?_
          refine s_istore_n (L2 := [some (AR 95), some (AI x1), some (AI q18_4_5), some (AI z_21), some (AI q18_4_5)]) E dX10_mate_57 rfl (by decide) rfl ?_
          refine z_iinc (u := q18_4_5.toInt) (L2 := fun z_23 => [some (AR 95), some (AI x1), some (AI q18_4_5), some (AI z_21), some (AI z_23)]) E dX10_mate_58 rfl rfl (by decide) (fun _ => rfl) (by decide) (by omega) (by omega) (fun z_23 hz_23 => ?_)
          refine s_goto (tgt := 18) E dX10_mate_61 (by decide) ?_
          exact ih18 ⟨q18_4_5, z_21, z_23⟩ u_1 ⟨⟨by have hb_ := z32 q18_4_5; omega, by have hb_ := z32 q18_4_5; omega⟩, ⟨by have hb_ := z32 z_23; omega, by have hb_ := z32 z_23; omega⟩, rfl⟩ (by first | omega | decide | (dsimp only; omega) | (dsimp only; decide))
        ·
          refine s_goto (tgt := 58) E dX10_mate_44 (by decide) ?_
          refine z_iinc (u := q18_4_5.toInt) (L2 := fun z_24 => [some (AR 95), some (AI x1), some (AI q18_2_5), some (AI q18_3_5), some (AI z_24)]) E dX10_mate_58 rfl rfl (by decide) (fun _ => rfl) (by decide) (by omega) (by omega) (fun z_24 hz_24 => ?_)
          refine s_goto (tgt := 18) E dX10_mate_61 (by decide) ?_
          exact ih18 ⟨q18_2_5, q18_3_5, z_24⟩ u_1 ⟨⟨by have hb_ := z32 q18_2_5; omega, by have hb_ := z32 q18_2_5; omega⟩, ⟨by have hb_ := z32 z_24; omega, by have hb_ := z32 z_24; omega⟩, rfl⟩ (by first | omega | decide | (dsimp only; omega) | (dsimp only; decide))
  ·
    refine s_bipush (v := (-2)) E dX10_mate_8 (by decide) ?_
    exact r_int E dX10_mate_10 ⟨⟨by decide, by decide, by first | (left; decide) | (right; decide) | (right; have hb_ := z32 x1; omega)⟩, hj_4⟩
set_option maxRecDepth 20000 in
set_option maxHeartbeats 2000000 in
theorem Z_X10_doesGive_95 (l : Launch) (D : va_G) (aC : Nat → ClassId) (b : Nat) (w : XW) (x1 : Int32) (x2 : Int32) (hI : Iv w) (hx1 : 0 ≤ x1.toInt ∧ x1.toInt ≤ 5) (hx2 : 0 ≤ x2.toInt ∧ x2.toInt ≤ 5) : CnI l D aC b M_X10_doesGive 1 21 0 0 [AR 95, AI x1, AI x2] w (fun r u => (0 ≤ r.toInt ∧ r.toInt ≤ 1 ∧ (r.toInt = 0 ∨ (0 ≤ (w.2.2.1 95 23).toInt ∧ (w.2.2.1 95 23).toInt ≤ 3))) ∧ w = u) := by
  refine cn_I (own := RX10) (nm := "doesGive") (L0 := [some (AR 95), some (AI x1), some (AI x2), none]) (by decide +kernel) rfl rfl (Nat.le_of_ble_eq_true rfl) rfl ?_
  intro p e s m args below meth c E hin
  have hJ : Jv w w := jv_rfl hI
  refine s_aload_n E dX10_doesGive_0 rfl rfl ?_
  refine s_gI E fg_X10_267 rfl rfl (jv_lt hJ (by decide)) dX10_doesGive_1 ?_
  refine z_nm (P := fun z => z.toInt = (w.2.2.1 95 23).toInt ∧ (-2147483648) ≤ z.toInt ∧ z.toInt ≤ 2147483647) ⟨rfl, z32 _⟩ (fun z_1 hz_1 => ?_)
  refine s_iconst (v := 1) E dX10_doesGive_4 (by decide) ?_
  refine z_icmp_ne (tgt := 41) (u := z_1.toInt) (v := 1) E dX10_doesGive_5 (by decide) rfl (by decide) (fun h_2 => ?_) (fun h_2 => ?_)
  ·
    refine s_aload_n E dX10_doesGive_41 rfl rfl ?_
    refine s_gI E fg_X10_267 rfl rfl (jv_lt hJ (by decide)) dX10_doesGive_42 ?_
    refine z_nm (P := fun z => z.toInt = (w.2.2.1 95 23).toInt ∧ (-2147483648) ≤ z.toInt ∧ z.toInt ≤ 2147483647) ⟨rfl, z32 _⟩ (fun z_3 hz_3 => ?_)
    refine z_if_eq (tgt := 92) (u := z_3.toInt) E dX10_doesGive_45 (by decide) rfl (fun h_4 => ?_) (fun h_4 => ?_)
    ·
      refine s_iconst (v := 1) E dX10_doesGive_92 (by decide) ?_
      refine s_goto (tgt := 97) E dX10_doesGive_93 (by decide) ?_
      exact r_bool E dX10_doesGive_97 (Or.inr rfl) ⟨⟨by decide, by decide, by first | (left; decide) | (right; decide) | (right; have hb_ := z32 (w.2.2.1 95 23); omega)⟩, rfl⟩
    ·
      refine s_aload_n E dX10_doesGive_48 rfl rfl ?_
      refine s_gI E fg_X10_267 rfl rfl (jv_lt hJ (by decide)) dX10_doesGive_49 ?_
      refine z_nm (P := fun z => z.toInt = (w.2.2.1 95 23).toInt ∧ (-2147483648) ≤ z.toInt ∧ z.toInt ≤ 2147483647) ⟨rfl, z32 _⟩ (fun z_5 hz_5 => ?_)
      refine s_iconst (v := 2) E dX10_doesGive_52 (by decide) ?_
      refine z_icmp_ne (tgt := 69) (u := z_5.toInt) (v := 2) E dX10_doesGive_53 (by decide) rfl (by decide) (fun h_6 => ?_) (fun h_6 => ?_)
      ·
        refine s_aload_n E dX10_doesGive_69 rfl rfl ?_
        refine s_gI E fg_X10_267 rfl rfl (jv_lt hJ (by decide)) dX10_doesGive_70 ?_
        refine z_nm (P := fun z => z.toInt = (w.2.2.1 95 23).toInt ∧ (-2147483648) ≤ z.toInt ∧ z.toInt ≤ 2147483647) ⟨rfl, z32 _⟩ (fun z_7 hz_7 => ?_)
        refine s_iconst (v := 3) E dX10_doesGive_73 (by decide) ?_
        refine z_icmp_ne (tgt := 96) (u := z_7.toInt) (v := 3) E dX10_doesGive_74 (by decide) rfl (by decide) (fun h_8 => ?_) (fun h_8 => ?_)
        ·
          refine s_iconst (v := 0) E dX10_doesGive_96 (by decide) ?_
          exact r_bool E dX10_doesGive_97 (Or.inl rfl) ⟨⟨by decide, by decide, by first | (left; decide) | (right; decide) | (right; have hb_ := z32 (w.2.2.1 95 23); omega)⟩, rfl⟩
        ·
          refine s_aload_n E dX10_doesGive_77 rfl rfl ?_
          refine s_gR (r := 105) E fg_X10_43 rfl rfl (jv_lt hJ (by decide)) (jv_r hJ (by decide +kernel)) dX10_doesGive_78 ?_
          refine s_iload_n E dX10_doesGive_81 rfl rfl ?_
          refine s_iald E rfl (jv_lt hJ (by decide)) (z_in (u := x2.toInt) rfl (by omega) (by omega)) dX10_doesGive_82 ?_
          refine z_nm (P := fun z => (-2147483648) ≤ z.toInt ∧ z.toInt ≤ 2147483647) (z32 _) (fun z_9 hz_9 => ?_)
          refine s_aload_n E dX10_doesGive_83 rfl rfl ?_
          refine s_gR (r := 105) E fg_X10_43 rfl rfl (jv_lt hJ (by decide)) (jv_r hJ (by decide +kernel)) dX10_doesGive_84 ?_
          refine s_iload_n E dX10_doesGive_87 rfl rfl ?_
          refine s_iald E rfl (jv_lt hJ (by decide)) (z_in (u := x1.toInt) rfl (by omega) (by omega)) dX10_doesGive_88 ?_
          refine z_nm (P := fun z => (-2147483648) ≤ z.toInt ∧ z.toInt ≤ 2147483647) (z32 _) (fun z_10 hz_10 => ?_)
          refine z_icmp_ge (tgt := 96) (u := z_9.toInt) (v := z_10.toInt) E dX10_doesGive_89 (by decide) rfl rfl (fun h_11 => ?_) (fun h_11 => ?_)
          ·
            refine s_iconst (v := 0) E dX10_doesGive_96 (by decide) ?_
            exact r_bool E dX10_doesGive_97 (Or.inl rfl) ⟨⟨by decide, by decide, by first | (left; decide) | (right; decide) | (right; have hb_ := z32 (w.2.2.1 95 23); omega)⟩, rfl⟩
          ·
            refine s_iconst (v := 1) E dX10_doesGive_92 (by decide) ?_
            refine s_goto (tgt := 97) E dX10_doesGive_93 (by decide) ?_
            exact r_bool E dX10_doesGive_97 (Or.inr rfl) ⟨⟨by decide, by decide, by first | (left; decide) | (right; decide) | (right; have hb_ := z32 (w.2.2.1 95 23); omega)⟩, rfl⟩
      ·
        refine s_aload_n E dX10_doesGive_56 rfl rfl ?_
        refine s_iload_n E dX10_doesGive_57 rfl rfl ?_
        refine s_vI (As := [AI x2]) (S := []) E (Z_X10_wideOf_95 l D aC b w x2 hJ.1 ⟨by have hb_ := z32 x2; omega, by have hb_ := z32 x2; omega⟩) cv_X10_238 rfl rfl rfl (jv_lt hJ (by decide)) (Nat.le_of_ble_eq_true rfl) (Nat.le_of_ble_eq_true rfl) ⟨(Nat.le_of_ble_eq_true rfl), (Nat.le_of_ble_eq_true rfl)⟩ (Nat.le_of_ble_eq_true rfl) dX10_doesGive_58 (fun z_14 u_12 hp_13 => ?_)
        obtain ⟨hz_14, hxz_14, hp_13⟩ := hp_13
        subst hp_13
        refine s_aload_n E dX10_doesGive_61 rfl rfl ?_
        refine s_iload_n E dX10_doesGive_62 rfl rfl ?_
        refine s_vI (As := [AI x1]) (S := [AI z_14]) E (Z_X10_wideOf_95 l D aC b w x1 hJ.1 ⟨by have hb_ := z32 x1; omega, by have hb_ := z32 x1; omega⟩) cv_X10_238 rfl rfl rfl (jv_lt hJ (by decide)) (Nat.le_of_ble_eq_true rfl) (Nat.le_of_ble_eq_true rfl) ⟨(Nat.le_of_ble_eq_true rfl), (Nat.le_of_ble_eq_true rfl)⟩ (Nat.le_of_ble_eq_true rfl) dX10_doesGive_63 (fun z_18 u_16 hp_17 => ?_)
        obtain ⟨hz_18, hxz_18, hp_17⟩ := hp_17
        subst hp_17
        refine z_icmp_le (tgt := 92) (u := z_14.toInt) (v := z_18.toInt) E dX10_doesGive_66 (by decide) rfl rfl (fun h_20 => ?_) (fun h_20 => ?_)
        ·
          refine s_iconst (v := 1) E dX10_doesGive_92 (by decide) ?_
          refine s_goto (tgt := 97) E dX10_doesGive_93 (by decide) ?_
          exact r_bool E dX10_doesGive_97 (Or.inr rfl) ⟨⟨by decide, by decide, by first | (left; decide) | (right; decide) | (right; have hb_ := z32 (w.2.2.1 95 23); omega)⟩, rfl⟩
        ·
          refine s_aload_n E dX10_doesGive_69 rfl rfl ?_
          refine s_gI E fg_X10_267 rfl rfl (jv_lt hJ (by decide)) dX10_doesGive_70 ?_
          refine z_nm (P := fun z => z.toInt = (w.2.2.1 95 23).toInt ∧ (-2147483648) ≤ z.toInt ∧ z.toInt ≤ 2147483647) ⟨rfl, z32 _⟩ (fun z_21 hz_21 => ?_)
          refine s_iconst (v := 3) E dX10_doesGive_73 (by decide) ?_
          refine z_icmp_ne (tgt := 96) (u := z_21.toInt) (v := 3) E dX10_doesGive_74 (by decide) rfl (by decide) (fun h_22 => ?_) (fun h_22 => absurd h_22 (by omega))
          refine s_iconst (v := 0) E dX10_doesGive_96 (by decide) ?_
          exact r_bool E dX10_doesGive_97 (Or.inl rfl) ⟨⟨by decide, by decide, by first | (left; decide) | (right; decide) | (right; have hb_ := z32 (w.2.2.1 95 23); omega)⟩, rfl⟩
  ·
    refine s_iconst (v := 0) E dX10_doesGive_8 (by decide) ?_
    refine s_istore_n (L2 := [some (AR 95), some (AI x1), some (AI x2), some (AI 0)]) E dX10_doesGive_9 rfl (by decide) rfl ?_
    refine z_loop (St := Int32) (Pi := fun q10_3_22 v10 => (0 ≤ q10_3_22.toInt ∧ q10_3_22.toInt ≤ 8) ∧ w = v10) (Lf := fun q10_3_22 => [some (AR 95), some (AI x1), some (AI x2), some (AI q10_3_22)]) (fun q10_3_22 _ => (9 - q10_3_22.toInt).toNat) 0 ⟨⟨by decide, by decide⟩, rfl⟩ ?_
    rintro q10_3_22 v10 ⟨hq10_3, hv_⟩ ih10
    subst hv_
    refine s_loc (L2 := [some (AR 95), some (AI x1), some (AI x2), some (AI q10_3_22)]) rfl ?_
    refine s_iload_n E dX10_doesGive_10 rfl rfl ?_
    refine s_aload_n E dX10_doesGive_11 rfl rfl ?_
    refine s_gR (r := 96) E fg_X10_9 rfl rfl (jv_lt hJ (by decide)) (jv_r hJ (by decide +kernel)) dX10_doesGive_12 ?_
    refine s_bipush (v := 6) E dX10_doesGive_15 (by decide) ?_
    refine s_iald E rfl (jv_lt hJ (by decide)) (z_in (u := 6) (by decide) (by omega) (by omega)) dX10_doesGive_17 ?_
    refine z_nm (P := fun z => z.toInt = (w.2.2.1 96 6).toInt ∧ 0 ≤ z.toInt ∧ z.toInt ≤ 8) ⟨rfl, (rw_96_6 hJ)⟩ (fun z_24 hz_24 => ?_)
    refine z_icmp_ge (tgt := 39) (u := q10_3_22.toInt) (v := z_24.toInt) E dX10_doesGive_18 (by decide) rfl rfl (fun h_25 => ?_) (fun h_25 => ?_)
    ·
      refine s_iconst (v := 0) E dX10_doesGive_39 (by decide) ?_
      exact r_bool E dX10_doesGive_40 (Or.inl rfl) ⟨⟨by decide, by decide, by first | (left; decide) | (right; decide) | (right; have hb_ := z32 (w.2.2.1 95 23); omega)⟩, rfl⟩
    ·
      refine s_aload_n E dX10_doesGive_21 rfl rfl ?_
      refine s_gR (r := 104) E fg_X10_40 rfl rfl (jv_lt hJ (by decide)) (jv_r hJ (by decide +kernel)) dX10_doesGive_22 ?_
      refine s_iload_n E dX10_doesGive_25 rfl rfl ?_
      refine s_iald E rfl (jv_lt hJ (by decide)) (z_in (u := q10_3_22.toInt) rfl (by omega) (by omega)) dX10_doesGive_26 ?_
      refine z_nm (P := fun z => z.toInt = (w.2.2.1 104 q10_3_22.toNatClampNeg).toInt ∧ 0 ≤ z.toInt ∧ z.toInt ≤ 5) ⟨rfl, (ra_104 hJ _)⟩ (fun z_26 hz_26 => ?_)
      refine s_iload_n E dX10_doesGive_27 rfl rfl ?_
      refine z_icmp_ne (tgt := 33) (u := z_26.toInt) (v := x2.toInt) E dX10_doesGive_28 (by decide) rfl rfl (fun h_27 => ?_) (fun h_27 => ?_)
      ·
        refine z_iinc (u := q10_3_22.toInt) (L2 := fun z_28 => [some (AR 95), some (AI x1), some (AI x2), some (AI z_28)]) E dX10_doesGive_33 rfl rfl (by decide) (fun _ => rfl) (by decide) (by omega) (by omega) (fun z_28 hz_28 => ?_)
        refine s_goto (tgt := 10) E dX10_doesGive_36 (by decide) ?_
        exact ih10 z_28 w ⟨⟨by have hb_ := z32 z_28; omega, by have hb_ := z32 z_28; omega⟩, rfl⟩ (by first | omega | decide | (dsimp only; omega) | (dsimp only; decide))
      ·
        refine s_iconst (v := 1) E dX10_doesGive_31 (by decide) ?_
        exact r_bool E dX10_doesGive_32 (Or.inr rfl) ⟨⟨by decide, by decide, by first | (left; decide) | (right; decide) | (right; have hb_ := z32 (w.2.2.1 95 23); omega)⟩, rfl⟩
set_option maxRecDepth 20000 in
set_option maxHeartbeats 2000000 in
theorem Z_X10_giverTo_95 (l : Launch) (D : va_G) (aC : Nat → ClassId) (b : Nat) (w : XW) (x1 : Int32) (x2 : Int32) (x3 : Int32) (hI : Iv w) (hx1 : 0 ≤ x1.toInt ∧ x1.toInt ≤ 5) (hx3 : 0 ≤ x3.toInt ∧ x3.toInt ≤ 14) : CnI l D aC b M_X10_giverTo 2 45 0 0 [AR 95, AI x1, AI x2, AI x3] w (fun r u => ((-1) ≤ r.toInt ∧ r.toInt ≤ 5 ∧ (¬ r.toInt = 0 ∨ (0 ≤ (w.2.2.1 95 23).toInt ∧ (w.2.2.1 95 23).toInt ≤ 3))) ∧ (r.toInt = -1 ∨ (0 ≤ r.toInt ∧ r.toInt ≤ 5 ∧ bt x2 r.toInt.toNat = true)) ∧ w = u) := by
  refine cn_I (own := RX10) (nm := "giverTo") (L0 := [some (AR 95), some (AI x1), some (AI x2), some (AI x3), none]) (by decide +kernel) rfl rfl (Nat.le_of_ble_eq_true rfl) rfl ?_
  intro p e s m args below meth c E hin
  have hJ : Jv w w := jv_rfl hI
  have hb_x2 := z32 x2
  refine s_iconst (v := 0) E dX10_giverTo_0 (by decide) ?_
  refine s_istore (L2 := [some (AR 95), some (AI x1), some (AI x2), some (AI x3), some (AI 0)]) E dX10_giverTo_1 (by decide) rfl ?_
  refine z_loop (St := Int32) (Pi := fun q3_4_0 v3 => (0 ≤ q3_4_0.toInt ∧ q3_4_0.toInt ≤ 6) ∧ w = v3) (Lf := fun q3_4_0 => [some (AR 95), some (AI x1), some (AI x2), some (AI x3), some (AI q3_4_0)]) (fun q3_4_0 _ => (7 - q3_4_0.toInt).toNat) 0 ⟨⟨by decide, by decide⟩, rfl⟩ ?_
  rintro q3_4_0 v3 ⟨hq3_4, hv_⟩ ih3
  subst hv_
  refine s_loc (L2 := [some (AR 95), some (AI x1), some (AI x2), some (AI x3), some (AI q3_4_0)]) rfl ?_
  refine s_iload E dX10_giverTo_3 rfl ?_
  refine s_aload_n E dX10_giverTo_5 rfl rfl ?_
  refine s_vI (As := []) (S := [AI q3_4_0]) E (Z_X10_ladies_95 l D aC b w  hJ.1 ) cv_X10_244 rfl rfl rfl (jv_lt hJ (by decide)) (Nat.le_of_ble_eq_true rfl) (Nat.le_of_ble_eq_true rfl) ⟨(Nat.le_of_ble_eq_true rfl), (Nat.le_of_ble_eq_true rfl)⟩ (Nat.le_of_ble_eq_true rfl) dX10_giverTo_6 (fun z_4 u_2 hp_3 => ?_)
  obtain ⟨hz_4, hxz_4, hp_3⟩ := hp_3
  subst hp_3
  refine z_icmp_ge (tgt := 58) (u := q3_4_0.toInt) (v := z_4.toInt) E dX10_giverTo_9 (by decide) rfl rfl (fun h_6 => ?_) (fun h_6 => ?_)
  ·
    refine s_iconst (v := (-1)) E dX10_giverTo_58 (by decide) ?_
    exact r_int E dX10_giverTo_59 ⟨⟨by decide, by decide, by first | (left; decide) | (right; decide) | (right; have hb_ := z32 (w.2.2.1 95 23); omega)⟩, (Or.inl (by decide)), rfl⟩
  ·
    refine s_iload E dX10_giverTo_12 rfl ?_
    refine s_iload_n E dX10_giverTo_14 rfl rfl ?_
    refine z_icmp_eq (tgt := 52) (u := q3_4_0.toInt) (v := x1.toInt) E dX10_giverTo_15 (by decide) rfl rfl (fun h_7 => ?_) (fun h_7 => ?_)
    ·
      refine z_iinc (u := q3_4_0.toInt) (L2 := fun z_8 => [some (AR 95), some (AI x1), some (AI x2), some (AI x3), some (AI z_8)]) E dX10_giverTo_52 rfl rfl (by decide) (fun _ => rfl) (by decide) (by omega) (by omega) (fun z_8 hz_8 => ?_)
      refine s_goto (tgt := 3) E dX10_giverTo_55 (by decide) ?_
      exact ih3 z_8 w ⟨⟨by have hb_ := z32 z_8; omega, by have hb_ := z32 z_8; omega⟩, rfl⟩ (by first | omega | decide | (dsimp only; omega) | (dsimp only; decide))
    ·
      refine s_iload_n E dX10_giverTo_18 rfl rfl ?_
      refine s_iload E dX10_giverTo_19 rfl ?_
      refine s_sI (As := [AI x2, AI q3_4_0]) (S := []) E (Z_X10_bit l D aC b w x2 q3_4_0 hJ.1 ) cs_X10_252 rfl rfl (Nat.le_of_ble_eq_true rfl) (Nat.le_of_ble_eq_true rfl) ⟨(Nat.le_of_ble_eq_true rfl), (Nat.le_of_ble_eq_true rfl)⟩ (Nat.le_of_ble_eq_true rfl) dX10_giverTo_21 (fun z_11 u_9 hp_10 => ?_)
      obtain ⟨hz_11, hxz_11, hp_10⟩ := hp_10
      subst hp_10
      have hb21 := hxz_11 (by omega) (by omega)
      refine s_iconst (v := 1) E dX10_giverTo_24 (by decide) ?_
      refine z_icmp_ne (tgt := 52) (u := z_11.toInt) (v := 1) E dX10_giverTo_25 (by decide) rfl (by decide) (fun h_13 => ?_) (fun h_13 => ?_)
      ·
        refine z_iinc (u := q3_4_0.toInt) (L2 := fun z_14 => [some (AR 95), some (AI x1), some (AI x2), some (AI x3), some (AI z_14)]) E dX10_giverTo_52 rfl rfl (by decide) (fun _ => rfl) (by decide) (by omega) (by omega) (fun z_14 hz_14 => ?_)
        refine s_goto (tgt := 3) E dX10_giverTo_55 (by decide) ?_
        exact ih3 z_14 w ⟨⟨by have hb_ := z32 z_14; omega, by have hb_ := z32 z_14; omega⟩, rfl⟩ (by first | omega | decide | (dsimp only; omega) | (dsimp only; decide))
      ·
        refine s_aload_n E dX10_giverTo_28 rfl rfl ?_
        refine s_iload E dX10_giverTo_29 rfl ?_
        refine s_iload_n E dX10_giverTo_31 rfl rfl ?_
        refine s_iload_n E dX10_giverTo_32 rfl rfl ?_
        refine s_vI (As := [AI q3_4_0, AI x1, AI x3]) (S := []) E (Z_X10_doMeet_95 l D aC b w q3_4_0 x1 x3 hJ.1 ⟨by have hb_ := z32 q3_4_0; omega, by have hb_ := z32 q3_4_0; omega⟩ ⟨by have hb_ := z32 x1; omega, by have hb_ := z32 x1; omega⟩ ⟨by have hb_ := z32 x3; omega, by have hb_ := z32 x3; omega⟩) cv_X10_303 rfl rfl rfl (jv_lt hJ (by decide)) (Nat.le_of_ble_eq_true rfl) (Nat.le_of_ble_eq_true rfl) ⟨(Nat.le_of_ble_eq_true rfl), (Nat.le_of_ble_eq_true rfl)⟩ (Nat.le_of_ble_eq_true rfl) dX10_giverTo_33 (fun z_17 u_15 hp_16 => ?_)
        obtain ⟨hz_17, hp_16⟩ := hp_16
        subst hp_16
        refine z_if_eq (tgt := 52) (u := z_17.toInt) E dX10_giverTo_36 (by decide) rfl (fun h_19 => ?_) (fun h_19 => ?_)
        ·
          refine z_iinc (u := q3_4_0.toInt) (L2 := fun z_20 => [some (AR 95), some (AI x1), some (AI x2), some (AI x3), some (AI z_20)]) E dX10_giverTo_52 rfl rfl (by decide) (fun _ => rfl) (by decide) (by omega) (by omega) (fun z_20 hz_20 => ?_)
          refine s_goto (tgt := 3) E dX10_giverTo_55 (by decide) ?_
          exact ih3 z_20 w ⟨⟨by have hb_ := z32 z_20; omega, by have hb_ := z32 z_20; omega⟩, rfl⟩ (by first | omega | decide | (dsimp only; omega) | (dsimp only; decide))
        ·
          refine s_aload_n E dX10_giverTo_39 rfl rfl ?_
          refine s_iload E dX10_giverTo_40 rfl ?_
          refine s_iload_n E dX10_giverTo_42 rfl rfl ?_
          refine s_vI (As := [AI q3_4_0, AI x1]) (S := []) E (Z_X10_doesGive_95 l D aC b w q3_4_0 x1 hJ.1 ⟨by have hb_ := z32 q3_4_0; omega, by have hb_ := z32 q3_4_0; omega⟩ ⟨by have hb_ := z32 x1; omega, by have hb_ := z32 x1; omega⟩) cv_X10_328 rfl rfl rfl (jv_lt hJ (by decide)) (Nat.le_of_ble_eq_true rfl) (Nat.le_of_ble_eq_true rfl) ⟨(Nat.le_of_ble_eq_true rfl), (Nat.le_of_ble_eq_true rfl)⟩ (Nat.le_of_ble_eq_true rfl) dX10_giverTo_43 (fun z_23 u_21 hp_22 => ?_)
          obtain ⟨hz_23, hp_22⟩ := hp_22
          subst hp_22
          refine z_if_eq (tgt := 52) (u := z_23.toInt) E dX10_giverTo_46 (by decide) rfl (fun h_25 => ?_) (fun h_25 => ?_)
          ·
            refine z_iinc (u := q3_4_0.toInt) (L2 := fun z_26 => [some (AR 95), some (AI x1), some (AI x2), some (AI x3), some (AI z_26)]) E dX10_giverTo_52 rfl rfl (by decide) (fun _ => rfl) (by decide) (by omega) (by omega) (fun z_26 hz_26 => ?_)
            refine s_goto (tgt := 3) E dX10_giverTo_55 (by decide) ?_
            exact ih3 z_26 w ⟨⟨by have hb_ := z32 z_26; omega, by have hb_ := z32 z_26; omega⟩, rfl⟩ (by first | omega | decide | (dsimp only; omega) | (dsimp only; decide))
          ·
            refine s_iload E dX10_giverTo_49 rfl ?_
            exact r_int E dX10_giverTo_51 ⟨⟨by have hb_ := z32 q3_4_0; omega, by have hb_ := z32 q3_4_0; omega, by first | (right; decide) | (have hb_ := z32 q3_4_0; omega) | (have hb_ := z32 q3_4_0; have hc_ := z32 (w.2.2.1 95 23); omega)⟩, (Or.inr ⟨by omega, by omega, hb21.mp (by omega)⟩), rfl⟩
set_option maxRecDepth 20000 in
set_option maxHeartbeats 2000000 in
theorem Z_X10_goNote_95 (l : Launch) (D : va_G) (aC : Nat → ClassId) (b : Nat) (w : XW) (x1 : Int32) (x2 : Int32) (hI : Iv w) (hx1 : 0 ≤ x1.toInt ∧ x1.toInt ≤ 5) (hx2 : 0 ≤ x2.toInt ∧ x2.toInt ≤ 14) : CnI l D aC b M_X10_goNote 3 69 0 0 [AR 95, AI x1, AI x2] w (fun r u => ((-2147483648) ≤ r.toInt ∧ r.toInt ≤ 2147483647) ∧ (HN (u.2.2.1 107) (u.2.2.1 108) x1.toInt) ∧ ((u.2.2.1 95) = (w.2.2.1 95)) ∧ ((u.2.2.1 96) = (w.2.2.1 96)) ∧ ((u.2.2.2) = (w.2.2.2)) ∧ Jv w u) := by
  refine cn_I (own := RX10) (nm := "goNote") (L0 := [some (AR 95), some (AI x1), some (AI x2), none, none, none, none, none]) (by decide +kernel) rfl rfl (Nat.le_of_ble_eq_true rfl) rfl ?_
  intro p e s m args below meth c E hin
  have hJ : Jv w w := jv_rfl hI
  refine s_aload_n E dX10_goNote_0 rfl rfl ?_
  refine s_gI E fg_X10_264 rfl rfl (jv_lt hJ (by decide)) dX10_goNote_1 ?_
  refine z_nm (P := fun z => z.toInt = (w.2.2.1 95 21).toInt ∧ (-2147483648) ≤ z.toInt ∧ z.toInt ≤ 2147483647) ⟨rfl, z32 _⟩ (fun z_1 hz_1 => ?_)
  refine s_iload_n E dX10_goNote_4 rfl rfl ?_
  refine s_sI (As := [AI z_1, AI x1]) (S := []) E (Z_X10_bit l D aC b w z_1 x1 hJ.1 ) cs_X10_252 rfl rfl (Nat.le_of_ble_eq_true rfl) (Nat.le_of_ble_eq_true rfl) ⟨(Nat.le_of_ble_eq_true rfl), (Nat.le_of_ble_eq_true rfl)⟩ (Nat.le_of_ble_eq_true rfl) dX10_goNote_5 (fun z_4 u_2 hp_3 => ?_)
  obtain ⟨hz_4, hxz_4, hp_3⟩ := hp_3
  subst hp_3
  refine s_iconst (v := 1) E dX10_goNote_8 (by decide) ?_
  refine z_icmp_ne (tgt := 16) (u := z_4.toInt) (v := 1) E dX10_goNote_9 (by decide) rfl (by decide) (fun h_6 => ?_) (fun h_6 => ?_)
  ·
    refine s_iconst (v := 1) E dX10_goNote_16 (by decide) ?_
    refine s_iload_n E dX10_goNote_17 rfl rfl ?_
    refine s_ishl E dX10_goNote_18 ?_
    refine z_nm (P := fun z => z = 1 <<< (x1 &&& 31) ∧ 1 ≤ z.toInt ∧ z.toInt ≤ 32) ⟨rfl, y_shl1 5 (by omega) (by omega) (by decide) (by decide)⟩ (fun z_7 hz_7 => ?_)
    refine s_istore_n (L2 := [some (AR 95), some (AI x1), some (AI x2), some (AI z_7), none, none, none, none]) E dX10_goNote_19 rfl (by decide) rfl ?_
    refine s_iconst (v := 0) E dX10_goNote_20 (by decide) ?_
    refine s_istore (L2 := [some (AR 95), some (AI x1), some (AI x2), some (AI z_7), some (AI 0), none, none, none]) E dX10_goNote_21 (by decide) rfl ?_
    refine z_loop (St := Int32) (Pi := fun q23_4_7 v23 => (0 ≤ q23_4_7.toInt ∧ q23_4_7.toInt ≤ 6) ∧ (GN0 (v23.2.2.1 107) x1.toInt q23_4_7.toInt) ∧ ((v23.2.2.1 95) = (w.2.2.1 95)) ∧ ((v23.2.2.1 96) = (w.2.2.1 96)) ∧ ((v23.2.2.2) = (w.2.2.2)) ∧ Jv w v23) (Lf := fun q23_4_7 => [some (AR 95), some (AI x1), some (AI x2), some (AI z_7), some (AI q23_4_7), none, none, none]) (fun q23_4_7 _ => (7 - q23_4_7.toInt).toNat) 0 ⟨⟨by decide, by decide⟩, (fun o h1_ => by have h0_ : (0 : Int32).toInt = 0 := (by decide); omega), rfl, rfl, rfl, hJ⟩ ?_
    rintro q23_4_7 v23 ⟨hq23_4, hl23, hf23_95, hf23_96, hf23_L, hj_8⟩ ih23
    refine s_loc (L2 := [some (AR 95), some (AI x1), some (AI x2), some (AI z_7), some (AI q23_4_7), none, none, none]) rfl ?_
    refine s_iload E dX10_goNote_23 rfl ?_
    refine s_bipush (v := 6) E dX10_goNote_25 (by decide) ?_
    refine z_icmp_ge (tgt := 62) (u := q23_4_7.toInt) (v := 6) E dX10_goNote_27 (by decide) rfl (by decide) (fun h_9 => ?_) (fun h_9 => ?_)
    ·
      refine s_iconst (v := 0) E dX10_goNote_62 (by decide) ?_
      refine s_istore (L2 := [some (AR 95), some (AI x1), some (AI x2), some (AI z_7), some (AI 0), none, none, none]) E dX10_goNote_63 (by decide) rfl ?_
      refine z_loop (St := Int32 × Int32) (Pi := fun ⟨q65_3_9, q65_4_9⟩ v65 => (0 ≤ q65_4_9.toInt ∧ q65_4_9.toInt ≤ 15) ∧ (GN (v65.2.2.1 107) (v65.2.2.1 108) q65_3_9 x1.toInt q65_4_9.toInt) ∧ ((v65.2.2.1 95) = (w.2.2.1 95)) ∧ ((v65.2.2.1 96) = (w.2.2.1 96)) ∧ ((v65.2.2.2) = (w.2.2.2)) ∧ Jv w v65) (Lf := fun ⟨q65_3_9, q65_4_9⟩ => [some (AR 95), some (AI x1), some (AI x2), some (AI q65_3_9), some (AI q65_4_9), none, none, none]) (fun ⟨q65_3_9, q65_4_9⟩ _ => (16 - q65_4_9.toInt).toNat) ⟨z_7, 0⟩ ⟨⟨by decide, by decide⟩, (gn_start hl23 (by omega) (by first | exact fun o_ ho_ hh_ => absurd hh_ (by rw [b_0]; decide) | exact y_shlF (by omega) (by omega) (by assumption)) _), hf23_95, hf23_96, hf23_L, hj_8⟩ ?_
      rintro ⟨q65_3_9, q65_4_9⟩ v65 ⟨hq65_4, hl65, hf65_95, hf65_96, hf65_L, hj_10⟩ ih65
      have hbq65_3 := z32 q65_3_9
      refine s_loc (L2 := [some (AR 95), some (AI x1), some (AI x2), some (AI q65_3_9), some (AI q65_4_9), none, none, none]) rfl ?_
      refine s_iload E dX10_goNote_65 rfl ?_
      refine s_iload_n E dX10_goNote_67 rfl rfl ?_
      refine z_icmp_gt (tgt := 186) (u := q65_4_9.toInt) (v := x2.toInt) E dX10_goNote_68 (by decide) rfl rfl (fun h_11 => ?_) (fun h_11 => ?_)
      ·
        refine s_iload_n E dX10_goNote_186 rfl rfl ?_
        exact r_int E dX10_goNote_187 ⟨⟨by have hb_ := z32 q65_3_9; omega, by have hb_ := z32 q65_3_9; omega⟩, (gn_end hl65), hf65_95, hf65_96, hf65_L, hj_10⟩
      ·
        refine s_iload_n E dX10_goNote_71 rfl rfl ?_
        refine s_istore (L2 := [some (AR 95), some (AI x1), some (AI x2), some (AI q65_3_9), some (AI q65_4_9), some (AI q65_3_9), none, none]) E dX10_goNote_72 (by decide) rfl ?_
        refine s_iconst (v := 0) E dX10_goNote_74 (by decide) ?_
        refine s_istore (L2 := [some (AR 95), some (AI x1), some (AI x2), some (AI q65_3_9), some (AI q65_4_9), some (AI q65_3_9), some (AI 0), none]) E dX10_goNote_75 (by decide) rfl ?_
        refine z_loop (St := Int32 × Int32) (Pi := fun ⟨q77_5_11, q77_6_11⟩ v77 => (0 ≤ q77_6_11.toInt ∧ q77_6_11.toInt ≤ 6) ∧ (GI (v77.2.2.1 107) (v77.2.2.1 108) q65_3_9 q77_5_11 x1.toInt q65_4_9.toInt) ∧ ((v77.2.2.1 95) = (w.2.2.1 95)) ∧ ((v77.2.2.1 96) = (w.2.2.1 96)) ∧ ((v77.2.2.2) = (w.2.2.2)) ∧ Jv w v77) (Lf := fun ⟨q77_5_11, q77_6_11⟩ => [some (AR 95), some (AI x1), some (AI x2), some (AI q65_3_9), some (AI q65_4_9), some (AI q77_5_11), some (AI q77_6_11), none]) (fun ⟨q77_5_11, q77_6_11⟩ _ => (7 - q77_6_11.toInt).toNat) ⟨q65_3_9, 0⟩ ⟨⟨by decide, by decide⟩, (gi_start hl65), hf65_95, hf65_96, hf65_L, hj_10⟩ ?_
        rintro ⟨q77_5_11, q77_6_11⟩ v77 ⟨hq77_6, hl77, hf77_95, hf77_96, hf77_L, hj_12⟩ ih77
        have hbq77_5 := z32 q77_5_11
        refine s_loc (L2 := [some (AR 95), some (AI x1), some (AI x2), some (AI q65_3_9), some (AI q65_4_9), some (AI q77_5_11), some (AI q77_6_11), none]) rfl ?_
        refine s_iload E dX10_goNote_77 rfl ?_
        refine s_aload_n E dX10_goNote_79 rfl rfl ?_
        refine s_vI (As := []) (S := [AI q77_6_11]) E (Z_X10_ladies_95 l D aC b v77  hj_12.1 ) cv_X10_244 rfl rfl rfl (jv_lt hj_12 (by decide)) (Nat.le_of_ble_eq_true rfl) (Nat.le_of_ble_eq_true rfl) ⟨(Nat.le_of_ble_eq_true rfl), (Nat.le_of_ble_eq_true rfl)⟩ (Nat.le_of_ble_eq_true rfl) dX10_goNote_80 (fun z_15 u_13 hp_14 => ?_)
        obtain ⟨hz_15, hxz_15, hp_14⟩ := hp_14
        subst hp_14
        refine z_icmp_ge (tgt := 169) (u := q77_6_11.toInt) (v := z_15.toInt) E dX10_goNote_83 (by decide) rfl rfl (fun h_17 => ?_) (fun h_17 => ?_)
        ·
          refine s_iload E dX10_goNote_169 rfl ?_
          refine s_istore_n (L2 := [some (AR 95), some (AI x1), some (AI x2), some (AI q77_5_11), some (AI q65_4_9), some (AI q77_5_11), some (AI q77_6_11), none]) E dX10_goNote_171 rfl (by decide) rfl ?_
          refine s_aload_n E dX10_goNote_172 rfl rfl ?_
          refine s_gR (r := 106) E fg_X10_46 rfl rfl (jv_lt hj_12 (by decide)) (jv_r hj_12 (by decide +kernel)) dX10_goNote_173 ?_
          refine s_iload E dX10_goNote_176 rfl ?_
          refine s_iload_n E dX10_goNote_178 rfl rfl ?_
          refine s_iast E rfl (jv_lt hj_12 (by decide)) (z_in (u := q65_4_9.toInt) rfl (by omega) (by omega)) dX10_goNote_179 ?_
          have hj_19 : Jv w (upI v77 106 q65_4_9.toNatClampNeg q77_5_11) := (jv_a_106 hj_12 (by have hb_ := z32 q77_5_11; omega) (by have hb_ := z32 q77_5_11; omega))
          refine z_iinc (u := q65_4_9.toInt) (L2 := fun z_20 => [some (AR 95), some (AI x1), some (AI x2), some (AI q77_5_11), some (AI z_20), some (AI q77_5_11), some (AI q77_6_11), none]) E dX10_goNote_180 rfl rfl (by decide) (fun _ => rfl) (by decide) (by omega) (by omega) (fun z_20 hz_20 => ?_)
          refine s_goto (tgt := 65) E dX10_goNote_183 (by decide) ?_
          refine s_drop (i := 5) (L2 := [some (AR 95), some (AI x1), some (AI x2), some (AI q77_5_11), some (AI z_20), none, some (AI q77_6_11), none]) rfl ?_
          refine s_drop (i := 6) (L2 := [some (AR 95), some (AI x1), some (AI x2), some (AI q77_5_11), some (AI z_20), none, none, none]) rfl ?_
          exact ih65 ⟨q77_5_11, z_20⟩ (upI v77 106 q65_4_9.toNatClampNeg q77_5_11) ⟨⟨by have hb_ := z32 z_20; omega, by have hb_ := z32 z_20; omega⟩, (gn_nextW hl77 (by omega)), ((upI_ne (show 95 ≠ 106 by decide)).trans hf77_95), ((upI_ne (show 96 ≠ 106 by decide)).trans hf77_96), (show ((upI v77 106 q65_4_9.toNatClampNeg q77_5_11).2.2.2) = (w.2.2.2) from hf77_L), hj_19⟩ (by first | omega | decide | (dsimp only; omega) | (dsimp only; decide))
        ·
          refine s_aload_n E dX10_goNote_86 rfl rfl ?_
          refine s_gI E fg_X10_270 rfl rfl (jv_lt hj_12 (by decide)) dX10_goNote_87 ?_
          refine z_nm (P := fun z => z.toInt = (v77.2.2.1 95 24).toInt ∧ (-2147483648) ≤ z.toInt ∧ z.toInt ≤ 2147483647) ⟨rfl, z32 _⟩ (fun z_21 hz_21 => ?_)
          refine s_iload E dX10_goNote_90 rfl ?_
          refine s_sI (As := [AI z_21, AI q65_4_9]) (S := []) E (Z_X10_bit l D aC b v77 z_21 q65_4_9 hj_12.1 ) cs_X10_252 rfl rfl (Nat.le_of_ble_eq_true rfl) (Nat.le_of_ble_eq_true rfl) ⟨(Nat.le_of_ble_eq_true rfl), (Nat.le_of_ble_eq_true rfl)⟩ (Nat.le_of_ble_eq_true rfl) dX10_goNote_92 (fun z_24 u_22 hp_23 => ?_)
          obtain ⟨hz_24, hxz_24, hp_23⟩ := hp_23
          subst hp_23
          refine z_if_ne (tgt := 169) (u := z_24.toInt) E dX10_goNote_95 (by decide) rfl (fun h_26 => ?_) (fun h_26 => ?_)
          ·
            refine s_iload E dX10_goNote_169 rfl ?_
            refine s_istore_n (L2 := [some (AR 95), some (AI x1), some (AI x2), some (AI q77_5_11), some (AI q65_4_9), some (AI q77_5_11), some (AI q77_6_11), none]) E dX10_goNote_171 rfl (by decide) rfl ?_
            refine s_aload_n E dX10_goNote_172 rfl rfl ?_
            refine s_gR (r := 106) E fg_X10_46 rfl rfl (jv_lt hj_12 (by decide)) (jv_r hj_12 (by decide +kernel)) dX10_goNote_173 ?_
            refine s_iload E dX10_goNote_176 rfl ?_
            refine s_iload_n E dX10_goNote_178 rfl rfl ?_
            refine s_iast E rfl (jv_lt hj_12 (by decide)) (z_in (u := q65_4_9.toInt) rfl (by omega) (by omega)) dX10_goNote_179 ?_
            have hj_28 : Jv w (upI v77 106 q65_4_9.toNatClampNeg q77_5_11) := (jv_a_106 hj_12 (by have hb_ := z32 q77_5_11; omega) (by have hb_ := z32 q77_5_11; omega))
            refine z_iinc (u := q65_4_9.toInt) (L2 := fun z_29 => [some (AR 95), some (AI x1), some (AI x2), some (AI q77_5_11), some (AI z_29), some (AI q77_5_11), some (AI q77_6_11), none]) E dX10_goNote_180 rfl rfl (by decide) (fun _ => rfl) (by decide) (by omega) (by omega) (fun z_29 hz_29 => ?_)
            refine s_goto (tgt := 65) E dX10_goNote_183 (by decide) ?_
            refine s_drop (i := 5) (L2 := [some (AR 95), some (AI x1), some (AI x2), some (AI q77_5_11), some (AI z_29), none, some (AI q77_6_11), none]) rfl ?_
            refine s_drop (i := 6) (L2 := [some (AR 95), some (AI x1), some (AI x2), some (AI q77_5_11), some (AI z_29), none, none, none]) rfl ?_
            exact ih65 ⟨q77_5_11, z_29⟩ (upI v77 106 q65_4_9.toNatClampNeg q77_5_11) ⟨⟨by have hb_ := z32 z_29; omega, by have hb_ := z32 z_29; omega⟩, (gn_nextW hl77 (by omega)), ((upI_ne (show 95 ≠ 106 by decide)).trans hf77_95), ((upI_ne (show 96 ≠ 106 by decide)).trans hf77_96), (show ((upI v77 106 q65_4_9.toNatClampNeg q77_5_11).2.2.2) = (w.2.2.2) from hf77_L), hj_28⟩ (by first | omega | decide | (dsimp only; omega) | (dsimp only; decide))
          ·
            refine s_iload_n E dX10_goNote_98 rfl rfl ?_
            refine s_aload_n E dX10_goNote_99 rfl rfl ?_
            refine s_gI E fg_X10_264 rfl rfl (jv_lt hj_12 (by decide)) dX10_goNote_100 ?_
            refine z_nm (P := fun z => z.toInt = (v77.2.2.1 95 21).toInt ∧ (-2147483648) ≤ z.toInt ∧ z.toInt ≤ 2147483647) ⟨rfl, z32 _⟩ (fun z_30 hz_30 => ?_)
            refine s_ior E dX10_goNote_103 ?_
            refine z_nm (P := fun z => z = q65_3_9 ||| z_30 ∧ (-2147483648) ≤ z.toInt ∧ z.toInt ≤ 2147483647) ⟨rfl, z32 _⟩ (fun z_31 hz_31 => ?_)
            refine s_iload E dX10_goNote_104 rfl ?_
            refine s_sI (As := [AI z_31, AI q77_6_11]) (S := []) E (Z_X10_bit l D aC b v77 z_31 q77_6_11 hj_12.1 ) cs_X10_252 rfl rfl (Nat.le_of_ble_eq_true rfl) (Nat.le_of_ble_eq_true rfl) ⟨(Nat.le_of_ble_eq_true rfl), (Nat.le_of_ble_eq_true rfl)⟩ (Nat.le_of_ble_eq_true rfl) dX10_goNote_106 (fun z_34 u_32 hp_33 => ?_)
            obtain ⟨hz_34, hxz_34, hp_33⟩ := hp_33
            subst hp_33
            have hb106 := hxz_34 (by omega) (by omega)
            refine s_iconst (v := 1) E dX10_goNote_109 (by decide) ?_
            refine z_icmp_ne (tgt := 116) (u := z_34.toInt) (v := 1) E dX10_goNote_110 (by decide) rfl (by decide) (fun h_36 => ?_) (fun h_36 => ?_)
            ·
              replace hb106 : ¬ bt q65_3_9 q77_6_11.toInt.toNat = true := y_nb hb106 (by omega) (by assumption)
              refine s_aload_n E dX10_goNote_116 rfl rfl ?_
              refine s_iload E dX10_goNote_117 rfl ?_
              refine s_iload_n E dX10_goNote_119 rfl rfl ?_
              refine s_iload E dX10_goNote_120 rfl ?_
              refine s_vI (As := [AI q77_6_11, AI q65_3_9, AI q65_4_9]) (S := []) E (Z_X10_giverTo_95 l D aC b v77 q77_6_11 q65_3_9 q65_4_9 hj_12.1 ⟨by have hb_ := z32 q77_6_11; omega, by have hb_ := z32 q77_6_11; omega⟩ ⟨by have hb_ := z32 q65_4_9; omega, by have hb_ := z32 q65_4_9; omega⟩) cv_X10_332 rfl rfl rfl (jv_lt hj_12 (by decide)) (Nat.le_of_ble_eq_true rfl) (Nat.le_of_ble_eq_true rfl) ⟨(Nat.le_of_ble_eq_true rfl), (Nat.le_of_ble_eq_true rfl)⟩ (Nat.le_of_ble_eq_true rfl) dX10_goNote_122 (fun z_39 u_37 hp_38 => ?_)
              obtain ⟨hz_39, hxz_39, hp_38⟩ := hp_38
              subst hp_38
              have hx122 := hxz_39
              refine s_istore (L2 := [some (AR 95), some (AI x1), some (AI x2), some (AI q65_3_9), some (AI q65_4_9), some (AI q77_5_11), some (AI q77_6_11), some (AI z_39)]) E dX10_goNote_125 (by decide) rfl ?_
              refine s_iload E dX10_goNote_127 rfl ?_
              refine s_iconst (v := (-1)) E dX10_goNote_129 (by decide) ?_
              refine z_icmp_ne (tgt := 136) (u := z_39.toInt) (v := (-1)) E dX10_goNote_130 (by decide) rfl (by decide) (fun h_41 => ?_) (fun h_41 => ?_)
              ·
                have hg122 : 0 ≤ z_39.toInt ∧ z_39.toInt ≤ 5 ∧ bt q65_3_9 z_39.toInt.toNat = true := hx122.resolve_left (by omega)
                refine s_iload E dX10_goNote_136 rfl ?_
                refine s_iconst (v := 1) E dX10_goNote_138 (by decide) ?_
                refine s_iload E dX10_goNote_139 rfl ?_
                refine s_ishl E dX10_goNote_141 ?_
                refine z_nm (P := fun z => z = 1 <<< (q77_6_11 &&& 31) ∧ 1 ≤ z.toInt ∧ z.toInt ≤ 32) ⟨rfl, y_shl1 5 (by omega) (by omega) (by decide) (by decide)⟩ (fun z_42 hz_42 => ?_)
                refine s_ior E dX10_goNote_142 ?_
                refine z_nm (P := fun z => z = q77_5_11 ||| z_42 ∧ (-2147483648) ≤ z.toInt ∧ z.toInt ≤ 2147483647) ⟨rfl, z32 _⟩ (fun z_43 hz_43 => ?_)
                refine s_istore (L2 := [some (AR 95), some (AI x1), some (AI x2), some (AI q65_3_9), some (AI q65_4_9), some (AI z_43), some (AI q77_6_11), some (AI z_39)]) E dX10_goNote_143 (by decide) rfl ?_
                refine s_aload_n E dX10_goNote_145 rfl rfl ?_
                refine s_gR (r := 107) E fg_X10_49 rfl rfl (jv_lt hj_12 (by decide)) (jv_r hj_12 (by decide +kernel)) dX10_goNote_146 ?_
                refine s_iload E dX10_goNote_149 rfl ?_
                refine s_iload E dX10_goNote_151 rfl ?_
                refine s_iast E rfl (jv_lt hj_12 (by decide)) (z_in (u := q77_6_11.toInt) rfl (by omega) (by omega)) dX10_goNote_153 ?_
                have hj_45 : Jv w (upI v77 107 q77_6_11.toNatClampNeg q65_4_9) := (jv_a_107 hj_12 (by have hb_ := z32 q65_4_9; omega) (by have hb_ := z32 q65_4_9; omega))
                refine s_aload_n E dX10_goNote_154 rfl rfl ?_
                refine s_gR (r := 108) E fg_X10_52 rfl rfl (jv_lt hj_45 (by decide)) (jv_r hj_45 (by decide +kernel)) dX10_goNote_155 ?_
                refine s_iload E dX10_goNote_158 rfl ?_
                refine s_iload E dX10_goNote_160 rfl ?_
                refine s_iast E rfl (jv_lt hj_45 (by decide)) (z_in (u := q77_6_11.toInt) rfl (by omega) (by omega)) dX10_goNote_162 ?_
                have hj_47 : Jv w (upI (upI v77 107 q77_6_11.toNatClampNeg q65_4_9) 108 q77_6_11.toNatClampNeg z_39) := (jv_a_108 hj_45 (by have hb_ := z32 z_39; omega) (by have hb_ := z32 z_39; omega))
                refine z_iinc (u := q77_6_11.toInt) (L2 := fun z_48 => [some (AR 95), some (AI x1), some (AI x2), some (AI q65_3_9), some (AI q65_4_9), some (AI z_43), some (AI z_48), some (AI z_39)]) E dX10_goNote_163 rfl rfl (by decide) (fun _ => rfl) (by decide) (by omega) (by omega) (fun z_48 hz_48 => ?_)
                refine s_goto (tgt := 77) E dX10_goNote_166 (by decide) ?_
                refine s_drop (i := 7) (L2 := [some (AR 95), some (AI x1), some (AI x2), some (AI q65_3_9), some (AI q65_4_9), some (AI z_43), some (AI z_48), none]) rfl ?_
                exact ih77 ⟨z_43, z_48⟩ (upI (upI v77 107 q77_6_11.toNatClampNeg q65_4_9) 108 q77_6_11.toNatClampNeg z_39) ⟨⟨by have hb_ := z32 z_48; omega, by have hb_ := z32 z_48; omega⟩, (by first | exact hl77 | exact gi_upW hl77 (by omega) (by omega) (by omega) hb106 hg122 (by assumption) (by assumption)), ((upI_ne (show 95 ≠ 108 by decide)).trans ((upI_ne (show 95 ≠ 107 by decide)).trans hf77_95)), ((upI_ne (show 96 ≠ 108 by decide)).trans ((upI_ne (show 96 ≠ 107 by decide)).trans hf77_96)), (show ((upI (upI v77 107 q77_6_11.toNatClampNeg q65_4_9) 108 q77_6_11.toNatClampNeg z_39).2.2.2) = (w.2.2.2) from (show ((upI v77 107 q77_6_11.toNatClampNeg q65_4_9).2.2.2) = (w.2.2.2) from hf77_L)), hj_47⟩ (by first | omega | decide | (dsimp only; omega) | (dsimp only; decide))
              ·
                refine s_goto (tgt := 163) E dX10_goNote_133 (by decide) ?_
                refine z_iinc (u := q77_6_11.toInt) (L2 := fun z_49 => [some (AR 95), some (AI x1), some (AI x2), some (AI q65_3_9), some (AI q65_4_9), some (AI q77_5_11), some (AI z_49), some (AI z_39)]) E dX10_goNote_163 rfl rfl (by decide) (fun _ => rfl) (by decide) (by omega) (by omega) (fun z_49 hz_49 => ?_)
                refine s_goto (tgt := 77) E dX10_goNote_166 (by decide) ?_
                refine s_drop (i := 7) (L2 := [some (AR 95), some (AI x1), some (AI x2), some (AI q65_3_9), some (AI q65_4_9), some (AI q77_5_11), some (AI z_49), none]) rfl ?_
                exact ih77 ⟨q77_5_11, z_49⟩ v77 ⟨⟨by have hb_ := z32 z_49; omega, by have hb_ := z32 z_49; omega⟩, (by first | exact hl77 | exact gi_upW hl77 (by omega) (by omega) (by omega) hb106 hg122 (by assumption) (by assumption)), hf77_95, hf77_96, hf77_L, hj_12⟩ (by first | omega | decide | (dsimp only; omega) | (dsimp only; decide))
            ·
              refine s_goto (tgt := 163) E dX10_goNote_113 (by decide) ?_
              refine z_iinc (u := q77_6_11.toInt) (L2 := fun z_50 => [some (AR 95), some (AI x1), some (AI x2), some (AI q65_3_9), some (AI q65_4_9), some (AI q77_5_11), some (AI z_50), none]) E dX10_goNote_163 rfl rfl (by decide) (fun _ => rfl) (by decide) (by omega) (by omega) (fun z_50 hz_50 => ?_)
              refine s_goto (tgt := 77) E dX10_goNote_166 (by decide) ?_
              exact ih77 ⟨q77_5_11, z_50⟩ v77 ⟨⟨by have hb_ := z32 z_50; omega, by have hb_ := z32 z_50; omega⟩, (by first | exact hl77 | exact gi_upW hl77 (by omega) (by omega) (by omega) hb106 hg122 (by assumption) (by assumption)), hf77_95, hf77_96, hf77_L, hj_12⟩ (by first | omega | decide | (dsimp only; omega) | (dsimp only; decide))
    ·
      refine s_aload_n E dX10_goNote_30 rfl rfl ?_
      refine s_gR (r := 107) E fg_X10_49 rfl rfl (jv_lt hj_8 (by decide)) (jv_r hj_8 (by decide +kernel)) dX10_goNote_31 ?_
      refine s_iload E dX10_goNote_34 rfl ?_
      refine s_iload E dX10_goNote_36 rfl ?_
      refine s_iload_n E dX10_goNote_38 rfl rfl ?_
      refine z_icmp_ne (tgt := 46) (u := q23_4_7.toInt) (v := x1.toInt) E dX10_goNote_39 (by decide) rfl rfl (fun h_51 => ?_) (fun h_51 => ?_)
      ·
        refine s_iconst (v := (-1)) E dX10_goNote_46 (by decide) ?_
        refine s_iast E rfl (jv_lt hj_8 (by decide)) (z_in (u := q23_4_7.toInt) rfl (by omega) (by omega)) dX10_goNote_47 ?_
        have hj_53 : Jv w (upI v23 107 q23_4_7.toNatClampNeg (-1)) := (jv_a_107 hj_8 (by decide) (by decide))
        refine s_aload_n E dX10_goNote_48 rfl rfl ?_
        refine s_gR (r := 108) E fg_X10_52 rfl rfl (jv_lt hj_53 (by decide)) (jv_r hj_53 (by decide +kernel)) dX10_goNote_49 ?_
        refine s_iload E dX10_goNote_52 rfl ?_
        refine s_iconst (v := (-1)) E dX10_goNote_54 (by decide) ?_
        refine s_iast E rfl (jv_lt hj_53 (by decide)) (z_in (u := q23_4_7.toInt) rfl (by omega) (by omega)) dX10_goNote_55 ?_
        have hj_55 : Jv w (upI (upI v23 107 q23_4_7.toNatClampNeg (-1)) 108 q23_4_7.toNatClampNeg (-1)) := (jv_a_108 hj_53 (by decide) (by decide))
        refine z_iinc (u := q23_4_7.toInt) (L2 := fun z_56 => [some (AR 95), some (AI x1), some (AI x2), some (AI z_7), some (AI z_56), none, none, none]) E dX10_goNote_56 rfl rfl (by decide) (fun _ => rfl) (by decide) (by omega) (by omega) (fun z_56 hz_56 => ?_)
        refine s_goto (tgt := 23) E dX10_goNote_59 (by decide) ?_
        exact ih23 z_56 (upI (upI v23 107 q23_4_7.toNatClampNeg (-1)) 108 q23_4_7.toNatClampNeg (-1)) ⟨⟨by have hb_ := z32 z_56; omega, by have hb_ := z32 z_56; omega⟩, (gn0_W hl23 (by omega) (by first | exact Or.inl (by omega) | exact Or.inr (by decide)) (by omega)), ((upI_ne (show 95 ≠ 108 by decide)).trans ((upI_ne (show 95 ≠ 107 by decide)).trans hf23_95)), ((upI_ne (show 96 ≠ 108 by decide)).trans ((upI_ne (show 96 ≠ 107 by decide)).trans hf23_96)), (show ((upI (upI v23 107 q23_4_7.toNatClampNeg (-1)) 108 q23_4_7.toNatClampNeg (-1)).2.2.2) = (w.2.2.2) from (show ((upI v23 107 q23_4_7.toNatClampNeg (-1)).2.2.2) = (w.2.2.2) from hf23_L)), hj_55⟩ (by first | omega | decide | (dsimp only; omega) | (dsimp only; decide))
      ·
        refine s_iconst (v := 0) E dX10_goNote_42 (by decide) ?_
        refine s_goto (tgt := 47) E dX10_goNote_43 (by decide) ?_
        refine s_iast E rfl (jv_lt hj_8 (by decide)) (z_in (u := q23_4_7.toInt) rfl (by omega) (by omega)) dX10_goNote_47 ?_
        have hj_58 : Jv w (upI v23 107 q23_4_7.toNatClampNeg 0) := (jv_a_107 hj_8 (by decide) (by decide))
        refine s_aload_n E dX10_goNote_48 rfl rfl ?_
        refine s_gR (r := 108) E fg_X10_52 rfl rfl (jv_lt hj_58 (by decide)) (jv_r hj_58 (by decide +kernel)) dX10_goNote_49 ?_
        refine s_iload E dX10_goNote_52 rfl ?_
        refine s_iconst (v := (-1)) E dX10_goNote_54 (by decide) ?_
        refine s_iast E rfl (jv_lt hj_58 (by decide)) (z_in (u := q23_4_7.toInt) rfl (by omega) (by omega)) dX10_goNote_55 ?_
        have hj_60 : Jv w (upI (upI v23 107 q23_4_7.toNatClampNeg 0) 108 q23_4_7.toNatClampNeg (-1)) := (jv_a_108 hj_58 (by decide) (by decide))
        refine z_iinc (u := q23_4_7.toInt) (L2 := fun z_61 => [some (AR 95), some (AI x1), some (AI x2), some (AI z_7), some (AI z_61), none, none, none]) E dX10_goNote_56 rfl rfl (by decide) (fun _ => rfl) (by decide) (by omega) (by omega) (fun z_61 hz_61 => ?_)
        refine s_goto (tgt := 23) E dX10_goNote_59 (by decide) ?_
        exact ih23 z_61 (upI (upI v23 107 q23_4_7.toNatClampNeg 0) 108 q23_4_7.toNatClampNeg (-1)) ⟨⟨by have hb_ := z32 z_61; omega, by have hb_ := z32 z_61; omega⟩, (gn0_W hl23 (by omega) (by first | exact Or.inl (by omega) | exact Or.inr (by decide)) (by omega)), ((upI_ne (show 95 ≠ 108 by decide)).trans ((upI_ne (show 95 ≠ 107 by decide)).trans hf23_95)), ((upI_ne (show 96 ≠ 108 by decide)).trans ((upI_ne (show 96 ≠ 107 by decide)).trans hf23_96)), (show ((upI (upI v23 107 q23_4_7.toNatClampNeg 0) 108 q23_4_7.toNatClampNeg (-1)).2.2.2) = (w.2.2.2) from (show ((upI v23 107 q23_4_7.toNatClampNeg 0).2.2.2) = (w.2.2.2) from hf23_L)), hj_60⟩ (by first | omega | decide | (dsimp only; omega) | (dsimp only; decide))
  ·
    refine s_iconst (v := 0) E dX10_goNote_12 (by decide) ?_
    refine s_goto (tgt := 19) E dX10_goNote_13 (by decide) ?_
    refine s_istore_n (L2 := [some (AR 95), some (AI x1), some (AI x2), some (AI 0), none, none, none, none]) E dX10_goNote_19 rfl (by decide) rfl ?_
    refine s_iconst (v := 0) E dX10_goNote_20 (by decide) ?_
    refine s_istore (L2 := [some (AR 95), some (AI x1), some (AI x2), some (AI 0), some (AI 0), none, none, none]) E dX10_goNote_21 (by decide) rfl ?_
    refine z_loop (St := Int32) (Pi := fun q23_4_61 v23 => (0 ≤ q23_4_61.toInt ∧ q23_4_61.toInt ≤ 6) ∧ (GN0 (v23.2.2.1 107) x1.toInt q23_4_61.toInt) ∧ ((v23.2.2.1 95) = (w.2.2.1 95)) ∧ ((v23.2.2.1 96) = (w.2.2.1 96)) ∧ ((v23.2.2.2) = (w.2.2.2)) ∧ Jv w v23) (Lf := fun q23_4_61 => [some (AR 95), some (AI x1), some (AI x2), some (AI 0), some (AI q23_4_61), none, none, none]) (fun q23_4_61 _ => (7 - q23_4_61.toInt).toNat) 0 ⟨⟨by decide, by decide⟩, (fun o h1_ => by have h0_ : (0 : Int32).toInt = 0 := (by decide); omega), rfl, rfl, rfl, hJ⟩ ?_
    rintro q23_4_61 v23 ⟨hq23_4, hl23, hf23_95, hf23_96, hf23_L, hj_62⟩ ih23
    refine s_loc (L2 := [some (AR 95), some (AI x1), some (AI x2), some (AI 0), some (AI q23_4_61), none, none, none]) rfl ?_
    refine s_iload E dX10_goNote_23 rfl ?_
    refine s_bipush (v := 6) E dX10_goNote_25 (by decide) ?_
    refine z_icmp_ge (tgt := 62) (u := q23_4_61.toInt) (v := 6) E dX10_goNote_27 (by decide) rfl (by decide) (fun h_63 => ?_) (fun h_63 => ?_)
    ·
      refine s_iconst (v := 0) E dX10_goNote_62 (by decide) ?_
      refine s_istore (L2 := [some (AR 95), some (AI x1), some (AI x2), some (AI 0), some (AI 0), none, none, none]) E dX10_goNote_63 (by decide) rfl ?_
      refine z_loop (St := Int32 × Int32) (Pi := fun ⟨q65_3_63, q65_4_63⟩ v65 => (0 ≤ q65_4_63.toInt ∧ q65_4_63.toInt ≤ 15) ∧ (GN (v65.2.2.1 107) (v65.2.2.1 108) q65_3_63 x1.toInt q65_4_63.toInt) ∧ ((v65.2.2.1 95) = (w.2.2.1 95)) ∧ ((v65.2.2.1 96) = (w.2.2.1 96)) ∧ ((v65.2.2.2) = (w.2.2.2)) ∧ Jv w v65) (Lf := fun ⟨q65_3_63, q65_4_63⟩ => [some (AR 95), some (AI x1), some (AI x2), some (AI q65_3_63), some (AI q65_4_63), none, none, none]) (fun ⟨q65_3_63, q65_4_63⟩ _ => (16 - q65_4_63.toInt).toNat) ⟨0, 0⟩ ⟨⟨by decide, by decide⟩, (gn_start hl23 (by omega) (by first | exact fun o_ ho_ hh_ => absurd hh_ (by rw [b_0]; decide) | exact y_shlF (by omega) (by omega) (by assumption)) _), hf23_95, hf23_96, hf23_L, hj_62⟩ ?_
      rintro ⟨q65_3_63, q65_4_63⟩ v65 ⟨hq65_4, hl65, hf65_95, hf65_96, hf65_L, hj_64⟩ ih65
      have hbq65_3 := z32 q65_3_63
      refine s_loc (L2 := [some (AR 95), some (AI x1), some (AI x2), some (AI q65_3_63), some (AI q65_4_63), none, none, none]) rfl ?_
      refine s_iload E dX10_goNote_65 rfl ?_
      refine s_iload_n E dX10_goNote_67 rfl rfl ?_
      refine z_icmp_gt (tgt := 186) (u := q65_4_63.toInt) (v := x2.toInt) E dX10_goNote_68 (by decide) rfl rfl (fun h_65 => ?_) (fun h_65 => ?_)
      ·
        refine s_iload_n E dX10_goNote_186 rfl rfl ?_
        exact r_int E dX10_goNote_187 ⟨⟨by have hb_ := z32 q65_3_63; omega, by have hb_ := z32 q65_3_63; omega⟩, (gn_end hl65), hf65_95, hf65_96, hf65_L, hj_64⟩
      ·
        refine s_iload_n E dX10_goNote_71 rfl rfl ?_
        refine s_istore (L2 := [some (AR 95), some (AI x1), some (AI x2), some (AI q65_3_63), some (AI q65_4_63), some (AI q65_3_63), none, none]) E dX10_goNote_72 (by decide) rfl ?_
        refine s_iconst (v := 0) E dX10_goNote_74 (by decide) ?_
        refine s_istore (L2 := [some (AR 95), some (AI x1), some (AI x2), some (AI q65_3_63), some (AI q65_4_63), some (AI q65_3_63), some (AI 0), none]) E dX10_goNote_75 (by decide) rfl ?_
        refine z_loop (St := Int32 × Int32) (Pi := fun ⟨q77_5_65, q77_6_65⟩ v77 => (0 ≤ q77_6_65.toInt ∧ q77_6_65.toInt ≤ 6) ∧ (GI (v77.2.2.1 107) (v77.2.2.1 108) q65_3_63 q77_5_65 x1.toInt q65_4_63.toInt) ∧ ((v77.2.2.1 95) = (w.2.2.1 95)) ∧ ((v77.2.2.1 96) = (w.2.2.1 96)) ∧ ((v77.2.2.2) = (w.2.2.2)) ∧ Jv w v77) (Lf := fun ⟨q77_5_65, q77_6_65⟩ => [some (AR 95), some (AI x1), some (AI x2), some (AI q65_3_63), some (AI q65_4_63), some (AI q77_5_65), some (AI q77_6_65), none]) (fun ⟨q77_5_65, q77_6_65⟩ _ => (7 - q77_6_65.toInt).toNat) ⟨q65_3_63, 0⟩ ⟨⟨by decide, by decide⟩, (gi_start hl65), hf65_95, hf65_96, hf65_L, hj_64⟩ ?_
        rintro ⟨q77_5_65, q77_6_65⟩ v77 ⟨hq77_6, hl77, hf77_95, hf77_96, hf77_L, hj_66⟩ ih77
        have hbq77_5 := z32 q77_5_65
        refine s_loc (L2 := [some (AR 95), some (AI x1), some (AI x2), some (AI q65_3_63), some (AI q65_4_63), some (AI q77_5_65), some (AI q77_6_65), none]) rfl ?_
        refine s_iload E dX10_goNote_77 rfl ?_
        refine s_aload_n E dX10_goNote_79 rfl rfl ?_
        refine s_vI (As := []) (S := [AI q77_6_65]) E (Z_X10_ladies_95 l D aC b v77  hj_66.1 ) cv_X10_244 rfl rfl rfl (jv_lt hj_66 (by decide)) (Nat.le_of_ble_eq_true rfl) (Nat.le_of_ble_eq_true rfl) ⟨(Nat.le_of_ble_eq_true rfl), (Nat.le_of_ble_eq_true rfl)⟩ (Nat.le_of_ble_eq_true rfl) dX10_goNote_80 (fun z_69 u_67 hp_68 => ?_)
        obtain ⟨hz_69, hxz_69, hp_68⟩ := hp_68
        subst hp_68
        refine z_icmp_ge (tgt := 169) (u := q77_6_65.toInt) (v := z_69.toInt) E dX10_goNote_83 (by decide) rfl rfl (fun h_71 => ?_) (fun h_71 => ?_)
        ·
          refine s_iload E dX10_goNote_169 rfl ?_
          refine s_istore_n (L2 := [some (AR 95), some (AI x1), some (AI x2), some (AI q77_5_65), some (AI q65_4_63), some (AI q77_5_65), some (AI q77_6_65), none]) E dX10_goNote_171 rfl (by decide) rfl ?_
          refine s_aload_n E dX10_goNote_172 rfl rfl ?_
          refine s_gR (r := 106) E fg_X10_46 rfl rfl (jv_lt hj_66 (by decide)) (jv_r hj_66 (by decide +kernel)) dX10_goNote_173 ?_
          refine s_iload E dX10_goNote_176 rfl ?_
          refine s_iload_n E dX10_goNote_178 rfl rfl ?_
          refine s_iast E rfl (jv_lt hj_66 (by decide)) (z_in (u := q65_4_63.toInt) rfl (by omega) (by omega)) dX10_goNote_179 ?_
          have hj_73 : Jv w (upI v77 106 q65_4_63.toNatClampNeg q77_5_65) := (jv_a_106 hj_66 (by have hb_ := z32 q77_5_65; omega) (by have hb_ := z32 q77_5_65; omega))
          refine z_iinc (u := q65_4_63.toInt) (L2 := fun z_74 => [some (AR 95), some (AI x1), some (AI x2), some (AI q77_5_65), some (AI z_74), some (AI q77_5_65), some (AI q77_6_65), none]) E dX10_goNote_180 rfl rfl (by decide) (fun _ => rfl) (by decide) (by omega) (by omega) (fun z_74 hz_74 => ?_)
          refine s_goto (tgt := 65) E dX10_goNote_183 (by decide) ?_
          refine s_drop (i := 5) (L2 := [some (AR 95), some (AI x1), some (AI x2), some (AI q77_5_65), some (AI z_74), none, some (AI q77_6_65), none]) rfl ?_
          refine s_drop (i := 6) (L2 := [some (AR 95), some (AI x1), some (AI x2), some (AI q77_5_65), some (AI z_74), none, none, none]) rfl ?_
          exact ih65 ⟨q77_5_65, z_74⟩ (upI v77 106 q65_4_63.toNatClampNeg q77_5_65) ⟨⟨by have hb_ := z32 z_74; omega, by have hb_ := z32 z_74; omega⟩, (gn_nextW hl77 (by omega)), ((upI_ne (show 95 ≠ 106 by decide)).trans hf77_95), ((upI_ne (show 96 ≠ 106 by decide)).trans hf77_96), (show ((upI v77 106 q65_4_63.toNatClampNeg q77_5_65).2.2.2) = (w.2.2.2) from hf77_L), hj_73⟩ (by first | omega | decide | (dsimp only; omega) | (dsimp only; decide))
        ·
          refine s_aload_n E dX10_goNote_86 rfl rfl ?_
          refine s_gI E fg_X10_270 rfl rfl (jv_lt hj_66 (by decide)) dX10_goNote_87 ?_
          refine z_nm (P := fun z => z.toInt = (v77.2.2.1 95 24).toInt ∧ (-2147483648) ≤ z.toInt ∧ z.toInt ≤ 2147483647) ⟨rfl, z32 _⟩ (fun z_75 hz_75 => ?_)
          refine s_iload E dX10_goNote_90 rfl ?_
          refine s_sI (As := [AI z_75, AI q65_4_63]) (S := []) E (Z_X10_bit l D aC b v77 z_75 q65_4_63 hj_66.1 ) cs_X10_252 rfl rfl (Nat.le_of_ble_eq_true rfl) (Nat.le_of_ble_eq_true rfl) ⟨(Nat.le_of_ble_eq_true rfl), (Nat.le_of_ble_eq_true rfl)⟩ (Nat.le_of_ble_eq_true rfl) dX10_goNote_92 (fun z_78 u_76 hp_77 => ?_)
          obtain ⟨hz_78, hxz_78, hp_77⟩ := hp_77
          subst hp_77
          refine z_if_ne (tgt := 169) (u := z_78.toInt) E dX10_goNote_95 (by decide) rfl (fun h_80 => ?_) (fun h_80 => ?_)
          ·
            refine s_iload E dX10_goNote_169 rfl ?_
            refine s_istore_n (L2 := [some (AR 95), some (AI x1), some (AI x2), some (AI q77_5_65), some (AI q65_4_63), some (AI q77_5_65), some (AI q77_6_65), none]) E dX10_goNote_171 rfl (by decide) rfl ?_
            refine s_aload_n E dX10_goNote_172 rfl rfl ?_
            refine s_gR (r := 106) E fg_X10_46 rfl rfl (jv_lt hj_66 (by decide)) (jv_r hj_66 (by decide +kernel)) dX10_goNote_173 ?_
            refine s_iload E dX10_goNote_176 rfl ?_
            refine s_iload_n E dX10_goNote_178 rfl rfl ?_
            refine s_iast E rfl (jv_lt hj_66 (by decide)) (z_in (u := q65_4_63.toInt) rfl (by omega) (by omega)) dX10_goNote_179 ?_
            have hj_82 : Jv w (upI v77 106 q65_4_63.toNatClampNeg q77_5_65) := (jv_a_106 hj_66 (by have hb_ := z32 q77_5_65; omega) (by have hb_ := z32 q77_5_65; omega))
            refine z_iinc (u := q65_4_63.toInt) (L2 := fun z_83 => [some (AR 95), some (AI x1), some (AI x2), some (AI q77_5_65), some (AI z_83), some (AI q77_5_65), some (AI q77_6_65), none]) E dX10_goNote_180 rfl rfl (by decide) (fun _ => rfl) (by decide) (by omega) (by omega) (fun z_83 hz_83 => ?_)
            refine s_goto (tgt := 65) E dX10_goNote_183 (by decide) ?_
            refine s_drop (i := 5) (L2 := [some (AR 95), some (AI x1), some (AI x2), some (AI q77_5_65), some (AI z_83), none, some (AI q77_6_65), none]) rfl ?_
            refine s_drop (i := 6) (L2 := [some (AR 95), some (AI x1), some (AI x2), some (AI q77_5_65), some (AI z_83), none, none, none]) rfl ?_
            exact ih65 ⟨q77_5_65, z_83⟩ (upI v77 106 q65_4_63.toNatClampNeg q77_5_65) ⟨⟨by have hb_ := z32 z_83; omega, by have hb_ := z32 z_83; omega⟩, (gn_nextW hl77 (by omega)), ((upI_ne (show 95 ≠ 106 by decide)).trans hf77_95), ((upI_ne (show 96 ≠ 106 by decide)).trans hf77_96), (show ((upI v77 106 q65_4_63.toNatClampNeg q77_5_65).2.2.2) = (w.2.2.2) from hf77_L), hj_82⟩ (by first | omega | decide | (dsimp only; omega) | (dsimp only; decide))
          ·
            refine s_iload_n E dX10_goNote_98 rfl rfl ?_
            refine s_aload_n E dX10_goNote_99 rfl rfl ?_
            refine s_gI E fg_X10_264 rfl rfl (jv_lt hj_66 (by decide)) dX10_goNote_100 ?_
            refine z_nm (P := fun z => z.toInt = (v77.2.2.1 95 21).toInt ∧ (-2147483648) ≤ z.toInt ∧ z.toInt ≤ 2147483647) ⟨rfl, z32 _⟩ (fun z_84 hz_84 => ?_)
            refine s_ior E dX10_goNote_103 ?_
            refine z_nm (P := fun z => z = q65_3_63 ||| z_84 ∧ (-2147483648) ≤ z.toInt ∧ z.toInt ≤ 2147483647) ⟨rfl, z32 _⟩ (fun z_85 hz_85 => ?_)
            refine s_iload E dX10_goNote_104 rfl ?_
            refine s_sI (As := [AI z_85, AI q77_6_65]) (S := []) E (Z_X10_bit l D aC b v77 z_85 q77_6_65 hj_66.1 ) cs_X10_252 rfl rfl (Nat.le_of_ble_eq_true rfl) (Nat.le_of_ble_eq_true rfl) ⟨(Nat.le_of_ble_eq_true rfl), (Nat.le_of_ble_eq_true rfl)⟩ (Nat.le_of_ble_eq_true rfl) dX10_goNote_106 (fun z_88 u_86 hp_87 => ?_)
            obtain ⟨hz_88, hxz_88, hp_87⟩ := hp_87
            subst hp_87
            have hb106 := hxz_88 (by omega) (by omega)
            refine s_iconst (v := 1) E dX10_goNote_109 (by decide) ?_
            refine z_icmp_ne (tgt := 116) (u := z_88.toInt) (v := 1) E dX10_goNote_110 (by decide) rfl (by decide) (fun h_90 => ?_) (fun h_90 => ?_)
            ·
              replace hb106 : ¬ bt q65_3_63 q77_6_65.toInt.toNat = true := y_nb hb106 (by omega) (by assumption)
              refine s_aload_n E dX10_goNote_116 rfl rfl ?_
              refine s_iload E dX10_goNote_117 rfl ?_
              refine s_iload_n E dX10_goNote_119 rfl rfl ?_
              refine s_iload E dX10_goNote_120 rfl ?_
              refine s_vI (As := [AI q77_6_65, AI q65_3_63, AI q65_4_63]) (S := []) E (Z_X10_giverTo_95 l D aC b v77 q77_6_65 q65_3_63 q65_4_63 hj_66.1 ⟨by have hb_ := z32 q77_6_65; omega, by have hb_ := z32 q77_6_65; omega⟩ ⟨by have hb_ := z32 q65_4_63; omega, by have hb_ := z32 q65_4_63; omega⟩) cv_X10_332 rfl rfl rfl (jv_lt hj_66 (by decide)) (Nat.le_of_ble_eq_true rfl) (Nat.le_of_ble_eq_true rfl) ⟨(Nat.le_of_ble_eq_true rfl), (Nat.le_of_ble_eq_true rfl)⟩ (Nat.le_of_ble_eq_true rfl) dX10_goNote_122 (fun z_93 u_91 hp_92 => ?_)
              obtain ⟨hz_93, hxz_93, hp_92⟩ := hp_92
              subst hp_92
              have hx122 := hxz_93
              refine s_istore (L2 := [some (AR 95), some (AI x1), some (AI x2), some (AI q65_3_63), some (AI q65_4_63), some (AI q77_5_65), some (AI q77_6_65), some (AI z_93)]) E dX10_goNote_125 (by decide) rfl ?_
              refine s_iload E dX10_goNote_127 rfl ?_
              refine s_iconst (v := (-1)) E dX10_goNote_129 (by decide) ?_
              refine z_icmp_ne (tgt := 136) (u := z_93.toInt) (v := (-1)) E dX10_goNote_130 (by decide) rfl (by decide) (fun h_95 => ?_) (fun h_95 => ?_)
              ·
                have hg122 : 0 ≤ z_93.toInt ∧ z_93.toInt ≤ 5 ∧ bt q65_3_63 z_93.toInt.toNat = true := hx122.resolve_left (by omega)
                refine s_iload E dX10_goNote_136 rfl ?_
                refine s_iconst (v := 1) E dX10_goNote_138 (by decide) ?_
                refine s_iload E dX10_goNote_139 rfl ?_
                refine s_ishl E dX10_goNote_141 ?_
                refine z_nm (P := fun z => z = 1 <<< (q77_6_65 &&& 31) ∧ 1 ≤ z.toInt ∧ z.toInt ≤ 32) ⟨rfl, y_shl1 5 (by omega) (by omega) (by decide) (by decide)⟩ (fun z_96 hz_96 => ?_)
                refine s_ior E dX10_goNote_142 ?_
                refine z_nm (P := fun z => z = q77_5_65 ||| z_96 ∧ (-2147483648) ≤ z.toInt ∧ z.toInt ≤ 2147483647) ⟨rfl, z32 _⟩ (fun z_97 hz_97 => ?_)
                refine s_istore (L2 := [some (AR 95), some (AI x1), some (AI x2), some (AI q65_3_63), some (AI q65_4_63), some (AI z_97), some (AI q77_6_65), some (AI z_93)]) E dX10_goNote_143 (by decide) rfl ?_
                refine s_aload_n E dX10_goNote_145 rfl rfl ?_
                refine s_gR (r := 107) E fg_X10_49 rfl rfl (jv_lt hj_66 (by decide)) (jv_r hj_66 (by decide +kernel)) dX10_goNote_146 ?_
                refine s_iload E dX10_goNote_149 rfl ?_
                refine s_iload E dX10_goNote_151 rfl ?_
                refine s_iast E rfl (jv_lt hj_66 (by decide)) (z_in (u := q77_6_65.toInt) rfl (by omega) (by omega)) dX10_goNote_153 ?_
                have hj_99 : Jv w (upI v77 107 q77_6_65.toNatClampNeg q65_4_63) := (jv_a_107 hj_66 (by have hb_ := z32 q65_4_63; omega) (by have hb_ := z32 q65_4_63; omega))
                refine s_aload_n E dX10_goNote_154 rfl rfl ?_
                refine s_gR (r := 108) E fg_X10_52 rfl rfl (jv_lt hj_99 (by decide)) (jv_r hj_99 (by decide +kernel)) dX10_goNote_155 ?_
                refine s_iload E dX10_goNote_158 rfl ?_
                refine s_iload E dX10_goNote_160 rfl ?_
                refine s_iast E rfl (jv_lt hj_99 (by decide)) (z_in (u := q77_6_65.toInt) rfl (by omega) (by omega)) dX10_goNote_162 ?_
                have hj_101 : Jv w (upI (upI v77 107 q77_6_65.toNatClampNeg q65_4_63) 108 q77_6_65.toNatClampNeg z_93) := (jv_a_108 hj_99 (by have hb_ := z32 z_93; omega) (by have hb_ := z32 z_93; omega))
                refine z_iinc (u := q77_6_65.toInt) (L2 := fun z_102 => [some (AR 95), some (AI x1), some (AI x2), some (AI q65_3_63), some (AI q65_4_63), some (AI z_97), some (AI z_102), some (AI z_93)]) E dX10_goNote_163 rfl rfl (by decide) (fun _ => rfl) (by decide) (by omega) (by omega) (fun z_102 hz_102 => ?_)
                refine s_goto (tgt := 77) E dX10_goNote_166 (by decide) ?_
                refine s_drop (i := 7) (L2 := [some (AR 95), some (AI x1), some (AI x2), some (AI q65_3_63), some (AI q65_4_63), some (AI z_97), some (AI z_102), none]) rfl ?_
                exact ih77 ⟨z_97, z_102⟩ (upI (upI v77 107 q77_6_65.toNatClampNeg q65_4_63) 108 q77_6_65.toNatClampNeg z_93) ⟨⟨by have hb_ := z32 z_102; omega, by have hb_ := z32 z_102; omega⟩, (by first | exact hl77 | exact gi_upW hl77 (by omega) (by omega) (by omega) hb106 hg122 (by assumption) (by assumption)), ((upI_ne (show 95 ≠ 108 by decide)).trans ((upI_ne (show 95 ≠ 107 by decide)).trans hf77_95)), ((upI_ne (show 96 ≠ 108 by decide)).trans ((upI_ne (show 96 ≠ 107 by decide)).trans hf77_96)), (show ((upI (upI v77 107 q77_6_65.toNatClampNeg q65_4_63) 108 q77_6_65.toNatClampNeg z_93).2.2.2) = (w.2.2.2) from (show ((upI v77 107 q77_6_65.toNatClampNeg q65_4_63).2.2.2) = (w.2.2.2) from hf77_L)), hj_101⟩ (by first | omega | decide | (dsimp only; omega) | (dsimp only; decide))
              ·
                refine s_goto (tgt := 163) E dX10_goNote_133 (by decide) ?_
                refine z_iinc (u := q77_6_65.toInt) (L2 := fun z_103 => [some (AR 95), some (AI x1), some (AI x2), some (AI q65_3_63), some (AI q65_4_63), some (AI q77_5_65), some (AI z_103), some (AI z_93)]) E dX10_goNote_163 rfl rfl (by decide) (fun _ => rfl) (by decide) (by omega) (by omega) (fun z_103 hz_103 => ?_)
                refine s_goto (tgt := 77) E dX10_goNote_166 (by decide) ?_
                refine s_drop (i := 7) (L2 := [some (AR 95), some (AI x1), some (AI x2), some (AI q65_3_63), some (AI q65_4_63), some (AI q77_5_65), some (AI z_103), none]) rfl ?_
                exact ih77 ⟨q77_5_65, z_103⟩ v77 ⟨⟨by have hb_ := z32 z_103; omega, by have hb_ := z32 z_103; omega⟩, (by first | exact hl77 | exact gi_upW hl77 (by omega) (by omega) (by omega) hb106 hg122 (by assumption) (by assumption)), hf77_95, hf77_96, hf77_L, hj_66⟩ (by first | omega | decide | (dsimp only; omega) | (dsimp only; decide))
            ·
              refine s_goto (tgt := 163) E dX10_goNote_113 (by decide) ?_
              refine z_iinc (u := q77_6_65.toInt) (L2 := fun z_104 => [some (AR 95), some (AI x1), some (AI x2), some (AI q65_3_63), some (AI q65_4_63), some (AI q77_5_65), some (AI z_104), none]) E dX10_goNote_163 rfl rfl (by decide) (fun _ => rfl) (by decide) (by omega) (by omega) (fun z_104 hz_104 => ?_)
              refine s_goto (tgt := 77) E dX10_goNote_166 (by decide) ?_
              exact ih77 ⟨q77_5_65, z_104⟩ v77 ⟨⟨by have hb_ := z32 z_104; omega, by have hb_ := z32 z_104; omega⟩, (by first | exact hl77 | exact gi_upW hl77 (by omega) (by omega) (by omega) hb106 hg122 (by assumption) (by assumption)), hf77_95, hf77_96, hf77_L, hj_66⟩ (by first | omega | decide | (dsimp only; omega) | (dsimp only; decide))
    ·
      refine s_aload_n E dX10_goNote_30 rfl rfl ?_
      refine s_gR (r := 107) E fg_X10_49 rfl rfl (jv_lt hj_62 (by decide)) (jv_r hj_62 (by decide +kernel)) dX10_goNote_31 ?_
      refine s_iload E dX10_goNote_34 rfl ?_
      refine s_iload E dX10_goNote_36 rfl ?_
      refine s_iload_n E dX10_goNote_38 rfl rfl ?_
      refine z_icmp_ne (tgt := 46) (u := q23_4_61.toInt) (v := x1.toInt) E dX10_goNote_39 (by decide) rfl rfl (fun h_105 => ?_) (fun h_105 => ?_)
      ·
        refine s_iconst (v := (-1)) E dX10_goNote_46 (by decide) ?_
        refine s_iast E rfl (jv_lt hj_62 (by decide)) (z_in (u := q23_4_61.toInt) rfl (by omega) (by omega)) dX10_goNote_47 ?_
        have hj_107 : Jv w (upI v23 107 q23_4_61.toNatClampNeg (-1)) := (jv_a_107 hj_62 (by decide) (by decide))
        refine s_aload_n E dX10_goNote_48 rfl rfl ?_
        refine s_gR (r := 108) E fg_X10_52 rfl rfl (jv_lt hj_107 (by decide)) (jv_r hj_107 (by decide +kernel)) dX10_goNote_49 ?_
        refine s_iload E dX10_goNote_52 rfl ?_
        refine s_iconst (v := (-1)) E dX10_goNote_54 (by decide) ?_
        refine s_iast E rfl (jv_lt hj_107 (by decide)) (z_in (u := q23_4_61.toInt) rfl (by omega) (by omega)) dX10_goNote_55 ?_
        have hj_109 : Jv w (upI (upI v23 107 q23_4_61.toNatClampNeg (-1)) 108 q23_4_61.toNatClampNeg (-1)) := (jv_a_108 hj_107 (by decide) (by decide))
        refine z_iinc (u := q23_4_61.toInt) (L2 := fun z_110 => [some (AR 95), some (AI x1), some (AI x2), some (AI 0), some (AI z_110), none, none, none]) E dX10_goNote_56 rfl rfl (by decide) (fun _ => rfl) (by decide) (by omega) (by omega) (fun z_110 hz_110 => ?_)
        refine s_goto (tgt := 23) E dX10_goNote_59 (by decide) ?_
        exact ih23 z_110 (upI (upI v23 107 q23_4_61.toNatClampNeg (-1)) 108 q23_4_61.toNatClampNeg (-1)) ⟨⟨by have hb_ := z32 z_110; omega, by have hb_ := z32 z_110; omega⟩, (gn0_W hl23 (by omega) (by first | exact Or.inl (by omega) | exact Or.inr (by decide)) (by omega)), ((upI_ne (show 95 ≠ 108 by decide)).trans ((upI_ne (show 95 ≠ 107 by decide)).trans hf23_95)), ((upI_ne (show 96 ≠ 108 by decide)).trans ((upI_ne (show 96 ≠ 107 by decide)).trans hf23_96)), (show ((upI (upI v23 107 q23_4_61.toNatClampNeg (-1)) 108 q23_4_61.toNatClampNeg (-1)).2.2.2) = (w.2.2.2) from (show ((upI v23 107 q23_4_61.toNatClampNeg (-1)).2.2.2) = (w.2.2.2) from hf23_L)), hj_109⟩ (by first | omega | decide | (dsimp only; omega) | (dsimp only; decide))
      ·
        refine s_iconst (v := 0) E dX10_goNote_42 (by decide) ?_
        refine s_goto (tgt := 47) E dX10_goNote_43 (by decide) ?_
        refine s_iast E rfl (jv_lt hj_62 (by decide)) (z_in (u := q23_4_61.toInt) rfl (by omega) (by omega)) dX10_goNote_47 ?_
        have hj_112 : Jv w (upI v23 107 q23_4_61.toNatClampNeg 0) := (jv_a_107 hj_62 (by decide) (by decide))
        refine s_aload_n E dX10_goNote_48 rfl rfl ?_
        refine s_gR (r := 108) E fg_X10_52 rfl rfl (jv_lt hj_112 (by decide)) (jv_r hj_112 (by decide +kernel)) dX10_goNote_49 ?_
        refine s_iload E dX10_goNote_52 rfl ?_
        refine s_iconst (v := (-1)) E dX10_goNote_54 (by decide) ?_
        refine s_iast E rfl (jv_lt hj_112 (by decide)) (z_in (u := q23_4_61.toInt) rfl (by omega) (by omega)) dX10_goNote_55 ?_
        have hj_114 : Jv w (upI (upI v23 107 q23_4_61.toNatClampNeg 0) 108 q23_4_61.toNatClampNeg (-1)) := (jv_a_108 hj_112 (by decide) (by decide))
        refine z_iinc (u := q23_4_61.toInt) (L2 := fun z_115 => [some (AR 95), some (AI x1), some (AI x2), some (AI 0), some (AI z_115), none, none, none]) E dX10_goNote_56 rfl rfl (by decide) (fun _ => rfl) (by decide) (by omega) (by omega) (fun z_115 hz_115 => ?_)
        refine s_goto (tgt := 23) E dX10_goNote_59 (by decide) ?_
        exact ih23 z_115 (upI (upI v23 107 q23_4_61.toNatClampNeg 0) 108 q23_4_61.toNatClampNeg (-1)) ⟨⟨by have hb_ := z32 z_115; omega, by have hb_ := z32 z_115; omega⟩, (gn0_W hl23 (by omega) (by first | exact Or.inl (by omega) | exact Or.inr (by decide)) (by omega)), ((upI_ne (show 95 ≠ 108 by decide)).trans ((upI_ne (show 95 ≠ 107 by decide)).trans hf23_95)), ((upI_ne (show 96 ≠ 108 by decide)).trans ((upI_ne (show 96 ≠ 107 by decide)).trans hf23_96)), (show ((upI (upI v23 107 q23_4_61.toNatClampNeg 0) 108 q23_4_61.toNatClampNeg (-1)).2.2.2) = (w.2.2.2) from (show ((upI v23 107 q23_4_61.toNatClampNeg 0).2.2.2) = (w.2.2.2) from hf23_L)), hj_114⟩ (by first | omega | decide | (dsimp only; omega) | (dsimp only; decide))
set_option maxRecDepth 20000 in
set_option maxHeartbeats 2000000 in
theorem Z_X10_goNote__95 (l : Launch) (D : va_G) (aC : Nat → ClassId) (b : Nat) (w : XW) (x1 : Int32) (hI : Iv w) (hx1 : 0 ≤ x1.toInt ∧ x1.toInt ≤ 5) : CnI l D aC b M_X10_goNote_ 4 96 0 0 [AR 95, AI x1] w (fun r u => ((-2147483648) ≤ r.toInt ∧ r.toInt ≤ 2147483647) ∧ (HN (u.2.2.1 107) (u.2.2.1 108) x1.toInt) ∧ Jv w u) := by
  refine cn_I (own := RX10) (nm := "goNote") (L0 := [some (AR 95), some (AI x1)]) (by decide +kernel) rfl rfl (Nat.le_of_ble_eq_true rfl) rfl ?_
  intro p e s m args below meth c E hin
  have hJ : Jv w w := jv_rfl hI
  refine s_aload_n E dX10_goNote__0 rfl rfl ?_
  refine s_iload_n E dX10_goNote__1 rfl rfl ?_
  refine s_aload_n E dX10_goNote__2 rfl rfl ?_
  refine s_vI (As := []) (S := [AI x1, AR 95]) E (Z_X10_dances_95 l D aC b w  hJ.1 ) cv_X10_247 rfl rfl rfl (jv_lt hJ (by decide)) (Nat.le_of_ble_eq_true rfl) (Nat.le_of_ble_eq_true rfl) ⟨(Nat.le_of_ble_eq_true rfl), (Nat.le_of_ble_eq_true rfl)⟩ (Nat.le_of_ble_eq_true rfl) dX10_goNote__3 (fun z_3 u_1 hp_2 => ?_)
  obtain ⟨hz_3, hxz_3, hp_2⟩ := hp_2
  subst hp_2
  refine s_vI (As := [AI x1, AI z_3]) (S := []) E (Z_X10_goNote_95 l D aC b w x1 z_3 hJ.1 ⟨by have hb_ := z32 x1; omega, by have hb_ := z32 x1; omega⟩ ⟨by have hb_ := z32 z_3; omega, by have hb_ := z32 z_3; omega⟩) cv_X10_335 rfl rfl rfl (jv_lt hJ (by decide)) (Nat.le_of_ble_eq_true rfl) (Nat.le_of_ble_eq_true rfl) ⟨(Nat.le_of_ble_eq_true rfl), (Nat.le_of_ble_eq_true rfl)⟩ (Nat.le_of_ble_eq_true rfl) dX10_goNote__6 (fun z_7 u_5 hp_6 => ?_)
  obtain ⟨hz_7, hxz_7, hf_u_5_95, hf_u_5_96, hf_u_5_L, hp_6⟩ := hp_6
  have hj_8 := jv_trans hJ hp_6
  have hxn_ := hxz_7
  exact r_int E dX10_goNote__9 ⟨⟨by have hb_ := z32 z_7; omega, by have hb_ := z32 z_7; omega⟩, (hxn_), hj_8⟩
set_option maxRecDepth 20000 in
set_option maxHeartbeats 2000000 in
theorem Z_X10_hears_95 (l : Launch) (D : va_G) (aC : Nat → ClassId) (b : Nat) (w : XW) (x1 : Int32) (hI : Iv w)  : CnI l D aC b M_X10_hears 5 117 0 0 [AR 95, AI x1] w (fun r u => ((-2147483648) ≤ r.toInt ∧ r.toInt ≤ 2147483647 ∧ (¬ r.toInt = 0 ∨ (0 ≤ x1.toInt ∧ x1.toInt ≤ 5))) ∧ Jv w u) := by
  refine cn_I (own := RX10) (nm := "hears") (L0 := [some (AR 95), some (AI x1), none, none]) (by decide +kernel) rfl rfl (Nat.le_of_ble_eq_true rfl) rfl ?_
  intro p e s m args below meth c E hin
  have hJ : Jv w w := jv_rfl hI
  have hb_x1 := z32 x1
  refine s_aload_n E dX10_hears_0 rfl rfl ?_
  refine s_iload_n E dX10_hears_1 rfl rfl ?_
  refine s_vI (As := [AI x1]) (S := []) E (Z_X10_asksLady_95 l D aC b w x1 hJ.1 ) cv_X10_288 rfl rfl rfl (jv_lt hJ (by decide)) (Nat.le_of_ble_eq_true rfl) (Nat.le_of_ble_eq_true rfl) ⟨(Nat.le_of_ble_eq_true rfl), (Nat.le_of_ble_eq_true rfl)⟩ (Nat.le_of_ble_eq_true rfl) dX10_hears_2 (fun z_3 u_1 hp_2 => ?_)
  obtain ⟨hz_3, hp_2⟩ := hp_2
  have hj_4 := jv_trans hJ hp_2
  refine z_if_ne (tgt := 11) (u := z_3.toInt) E dX10_hears_5 (by decide) rfl (fun h_5 => ?_) (fun h_5 => ?_)
  ·
    refine s_iconst (v := 0) E dX10_hears_11 (by decide) ?_
    refine s_istore_n (L2 := [some (AR 95), some (AI x1), some (AI 0), none]) E dX10_hears_12 rfl (by decide) rfl ?_
    refine s_iconst (v := 0) E dX10_hears_13 (by decide) ?_
    refine s_istore_n (L2 := [some (AR 95), some (AI x1), some (AI 0), some (AI 0)]) E dX10_hears_14 rfl (by decide) rfl ?_
    refine z_loop (St := Int32 × Int32) (Pi := fun ⟨q15_2_5, q15_3_5⟩ v15 => (0 ≤ q15_3_5.toInt ∧ q15_3_5.toInt ≤ 6) ∧ Jv w v15) (Lf := fun ⟨q15_2_5, q15_3_5⟩ => [some (AR 95), some (AI x1), some (AI q15_2_5), some (AI q15_3_5)]) (fun ⟨q15_2_5, q15_3_5⟩ _ => (7 - q15_3_5.toInt).toNat) ⟨0, 0⟩ ⟨⟨by decide, by decide⟩, hj_4⟩ ?_
    rintro ⟨q15_2_5, q15_3_5⟩ v15 ⟨hq15_3, hj_6⟩ ih15
    have hbq15_2 := z32 q15_2_5
    refine s_loc (L2 := [some (AR 95), some (AI x1), some (AI q15_2_5), some (AI q15_3_5)]) rfl ?_
    refine s_iload_n E dX10_hears_15 rfl rfl ?_
    refine s_aload_n E dX10_hears_16 rfl rfl ?_
    refine s_vI (As := []) (S := [AI q15_3_5]) E (Z_X10_ladies_95 l D aC b v15  hj_6.1 ) cv_X10_244 rfl rfl rfl (jv_lt hj_6 (by decide)) (Nat.le_of_ble_eq_true rfl) (Nat.le_of_ble_eq_true rfl) ⟨(Nat.le_of_ble_eq_true rfl), (Nat.le_of_ble_eq_true rfl)⟩ (Nat.le_of_ble_eq_true rfl) dX10_hears_17 (fun z_9 u_7 hp_8 => ?_)
    obtain ⟨hz_9, hxz_9, hp_8⟩ := hp_8
    subst hp_8
    refine z_icmp_ge (tgt := 43) (u := q15_3_5.toInt) (v := z_9.toInt) E dX10_hears_20 (by decide) rfl rfl (fun h_11 => ?_) (fun h_11 => ?_)
    ·
      refine s_iload_n E dX10_hears_43 rfl rfl ?_
      exact r_int E dX10_hears_44 ⟨⟨by have hb_ := z32 q15_2_5; omega, by have hb_ := z32 q15_2_5; omega, by first | (right; decide) | (have hb_ := z32 q15_2_5; omega) | (have hb_ := z32 q15_2_5; have hc_ := z32 x1; omega)⟩, hj_6⟩
    ·
      refine s_iload_n E dX10_hears_23 rfl rfl ?_
      refine s_aload_n E dX10_hears_24 rfl rfl ?_
      refine s_iload_n E dX10_hears_25 rfl rfl ?_
      refine s_vI (As := [AI q15_3_5]) (S := [AI q15_2_5]) E (Z_X10_goNote__95 l D aC b v15 q15_3_5 hj_6.1 ⟨by have hb_ := z32 q15_3_5; omega, by have hb_ := z32 q15_3_5; omega⟩) cv_X10_338 rfl rfl rfl (jv_lt hj_6 (by decide)) (Nat.le_of_ble_eq_true rfl) (Nat.le_of_ble_eq_true rfl) ⟨(Nat.le_of_ble_eq_true rfl), (Nat.le_of_ble_eq_true rfl)⟩ (Nat.le_of_ble_eq_true rfl) dX10_hears_26 (fun z_14 u_12 hp_13 => ?_)
      obtain ⟨hz_14, hxz_14, hp_13⟩ := hp_13
      have hj_15 := jv_trans hj_6 hp_13
      refine s_iload_n E dX10_hears_29 rfl rfl ?_
      refine s_sI (As := [AI z_14, AI x1]) (S := [AI q15_2_5]) E (Z_X10_bit l D aC b u_12 z_14 x1 hj_15.1 ) cs_X10_252 rfl rfl (Nat.le_of_ble_eq_true rfl) (Nat.le_of_ble_eq_true rfl) ⟨(Nat.le_of_ble_eq_true rfl), (Nat.le_of_ble_eq_true rfl)⟩ (Nat.le_of_ble_eq_true rfl) dX10_hears_30 (fun z_18 u_16 hp_17 => ?_)
      obtain ⟨hz_18, hxz_18, hp_17⟩ := hp_17
      subst hp_17
      refine s_iload_n E dX10_hears_33 rfl rfl ?_
      refine s_ishl E dX10_hears_34 ?_
      refine z_nm (P := fun z => (-2147483648) ≤ z.toInt ∧ z.toInt ≤ 2147483647) (z32 _) (fun z_20 hz_20 => ?_)
      refine s_ior E dX10_hears_35 ?_
      refine z_nm (P := fun z => (-2147483648) ≤ z.toInt ∧ z.toInt ≤ 2147483647) (z32 _) (fun z_21 hz_21 => ?_)
      refine s_istore_n (L2 := [some (AR 95), some (AI x1), some (AI z_21), some (AI q15_3_5)]) E dX10_hears_36 rfl (by decide) rfl ?_
      refine z_iinc (u := q15_3_5.toInt) (L2 := fun z_22 => [some (AR 95), some (AI x1), some (AI z_21), some (AI z_22)]) E dX10_hears_37 rfl rfl (by decide) (fun _ => rfl) (by decide) (by omega) (by omega) (fun z_22 hz_22 => ?_)
      refine s_goto (tgt := 15) E dX10_hears_40 (by decide) ?_
      exact ih15 ⟨z_21, z_22⟩ u_12 ⟨⟨by have hb_ := z32 z_22; omega, by have hb_ := z32 z_22; omega⟩, hj_15⟩ (by first | omega | decide | (dsimp only; omega) | (dsimp only; decide))
  ·
    refine s_bipush (v := (-2)) E dX10_hears_8 (by decide) ?_
    exact r_int E dX10_hears_10 ⟨⟨by decide, by decide, by first | (left; decide) | (right; decide) | (right; have hb_ := z32 x1; omega)⟩, hj_4⟩
