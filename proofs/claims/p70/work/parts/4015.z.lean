set_option maxRecDepth 20000 in
set_option maxHeartbeats 2000000 in
theorem Z_X10_meets_95 (l : Launch) (D : va_G) (aC : Nat → ClassId) (b : Nat) (w : XW) (x1 : Int32) (x2 : Int32) (hI : Iv w)  : CnI l D aC b M_X10_meets 5 113 0 0 [AR 95, AI x1, AI x2] w (fun r u => ((-2) ≤ r.toInt ∧ r.toInt ≤ 14 ∧ (¬ r.toInt = 0 ∨ (0 ≤ x1.toInt ∧ x1.toInt ≤ 5)) ∧ (¬ r.toInt = 0 ∨ (0 ≤ x2.toInt ∧ x2.toInt ≤ 5))) ∧ Jv w u) := by
  refine cn_I (own := RX10) (nm := "meets") (L0 := [some (AR 95), some (AI x1), some (AI x2)]) (by decide +kernel) rfl rfl (Nat.le_of_ble_eq_true rfl) rfl ?_
  intro p e s m args below meth c E hin
  have hJ : Jv w w := jv_rfl hI
  have hb_x1 := z32 x1
  have hb_x2 := z32 x2
  refine s_aload_n E dX10_meets_0 rfl rfl ?_
  refine s_iload_n E dX10_meets_1 rfl rfl ?_
  refine s_vI (As := [AI x1]) (S := []) E (Z_X10_asksLady_95 l D aC b w x1 hJ.1 ) cv_X10_288 rfl rfl rfl (jv_lt hJ (by decide)) (Nat.le_of_ble_eq_true rfl) (Nat.le_of_ble_eq_true rfl) ⟨(Nat.le_of_ble_eq_true rfl), (Nat.le_of_ble_eq_true rfl)⟩ (Nat.le_of_ble_eq_true rfl) dX10_meets_2 (fun z_3 u_1 hp_2 => ?_)
  obtain ⟨hz_3, hxz_3, hp_2⟩ := hp_2
  have hj_4 := jv_trans hJ hp_2
  refine z_if_eq (tgt := 26) (u := z_3.toInt) E dX10_meets_5 (by decide) rfl (fun h_5 => ?_) (fun h_5 => ?_)
  ·
    refine s_bipush (v := (-2)) E dX10_meets_26 (by decide) ?_
    exact r_int E dX10_meets_28 ⟨⟨by decide, by decide, by first | (left; decide) | (right; decide) | (right; have hb_ := z32 x1; omega), by first | (left; decide) | (right; decide) | (right; have hb_ := z32 x2; omega)⟩, hj_4⟩
  ·
    refine s_aload_n E dX10_meets_8 rfl rfl ?_
    refine s_iload_n E dX10_meets_9 rfl rfl ?_
    refine z_i2l (u := x2.toInt) E dX10_meets_10 rfl (fun z_6 hz_6 => ?_)
    refine s_vI (As := [AL z_6]) (S := []) E (Z_X10_isLady_95 l D aC b u_1 z_6 hj_4.1 ) cv_X10_222 rfl rfl rfl (jv_lt hj_4 (by decide)) (Nat.le_of_ble_eq_true rfl) (Nat.le_of_ble_eq_true rfl) ⟨(Nat.le_of_ble_eq_true rfl), (Nat.le_of_ble_eq_true rfl)⟩ (Nat.le_of_ble_eq_true rfl) dX10_meets_11 (fun z_9 u_7 hp_8 => ?_)
    obtain ⟨hz_9, hxz_9, hp_8⟩ := hp_8
    subst hp_8
    refine z_if_eq (tgt := 26) (u := z_9.toInt) E dX10_meets_14 (by decide) rfl (fun h_11 => ?_) (fun h_11 => ?_)
    ·
      refine s_bipush (v := (-2)) E dX10_meets_26 (by decide) ?_
      exact r_int E dX10_meets_28 ⟨⟨by decide, by decide, by first | (left; decide) | (right; decide) | (right; have hb_ := z32 x1; omega), by first | (left; decide) | (right; decide) | (right; have hb_ := z32 x2; omega)⟩, hj_4⟩
    ·
      refine s_aload_n E dX10_meets_17 rfl rfl ?_
      refine s_iload_n E dX10_meets_18 rfl rfl ?_
      refine s_iload_n E dX10_meets_19 rfl rfl ?_
      refine s_vI (As := [AI x1, AI x2]) (S := []) E (Z_X10_firstMeet_95 l D aC b u_1 x1 x2 hj_4.1 ⟨by have hb_ := z32 x1; omega, by have hb_ := z32 x1; omega⟩ ⟨by have hb_ := z32 x2; omega, by have hb_ := z32 x2; omega⟩) cv_X10_307 rfl rfl rfl (jv_lt hj_4 (by decide)) (Nat.le_of_ble_eq_true rfl) (Nat.le_of_ble_eq_true rfl) ⟨(Nat.le_of_ble_eq_true rfl), (Nat.le_of_ble_eq_true rfl)⟩ (Nat.le_of_ble_eq_true rfl) dX10_meets_20 (fun z_14 u_12 hp_13 => ?_)
      obtain ⟨hz_14, hp_13⟩ := hp_13
      subst hp_13
      refine s_goto (tgt := 28) E dX10_meets_23 (by decide) ?_
      exact r_int E dX10_meets_28 ⟨⟨by have hb_ := z32 z_14; omega, by have hb_ := z32 z_14; omega, by first | (right; decide) | (have hb_ := z32 z_14; omega) | (have hb_ := z32 z_14; have hc_ := z32 x1; omega), by first | (right; decide) | (have hb_ := z32 z_14; omega) | (have hb_ := z32 z_14; have hc_ := z32 x2; omega)⟩, hj_4⟩
set_option maxRecDepth 20000 in
set_option maxHeartbeats 2000000 in
theorem Z_X10_oftenMeet_95 (l : Launch) (D : va_G) (aC : Nat → ClassId) (b : Nat) (w : XW) (x1 : Int32) (x2 : Int32) (hI : Iv w) (hx1 : 0 ≤ x1.toInt ∧ x1.toInt ≤ 5) (hx2 : 0 ≤ x2.toInt ∧ x2.toInt ≤ 5) : CnI l D aC b M_X10_oftenMeet 2 45 0 0 [AR 95, AI x1, AI x2] w (fun r u => ((-2147483648) ≤ r.toInt ∧ r.toInt ≤ 2147483647) ∧ w = u) := by
  refine cn_I (own := RX10) (nm := "oftenMeet") (L0 := [some (AR 95), some (AI x1), some (AI x2), none, none]) (by decide +kernel) rfl rfl (Nat.le_of_ble_eq_true rfl) rfl ?_
  intro p e s m args below meth c E hin
  have hJ : Jv w w := jv_rfl hI
  refine s_iconst (v := 0) E dX10_oftenMeet_0 (by decide) ?_
  refine s_istore_n (L2 := [some (AR 95), some (AI x1), some (AI x2), some (AI 0), none]) E dX10_oftenMeet_1 rfl (by decide) rfl ?_
  refine s_iconst (v := 0) E dX10_oftenMeet_2 (by decide) ?_
  refine s_istore (L2 := [some (AR 95), some (AI x1), some (AI x2), some (AI 0), some (AI 0)]) E dX10_oftenMeet_3 (by decide) rfl ?_
  refine z_loop (St := Int32 × Int32) (Pi := fun ⟨q5_3_0, q5_4_0⟩ v5 => (0 ≤ q5_4_0.toInt ∧ q5_4_0.toInt ≤ 15) ∧ w = v5) (Lf := fun ⟨q5_3_0, q5_4_0⟩ => [some (AR 95), some (AI x1), some (AI x2), some (AI q5_3_0), some (AI q5_4_0)]) (fun ⟨q5_3_0, q5_4_0⟩ _ => (16 - q5_4_0.toInt).toNat) ⟨0, 0⟩ ⟨⟨by decide, by decide⟩, rfl⟩ ?_
  rintro ⟨q5_3_0, q5_4_0⟩ v5 ⟨hq5_4, hv_⟩ ih5
  subst hv_
  have hbq5_3 := z32 q5_3_0
  refine s_loc (L2 := [some (AR 95), some (AI x1), some (AI x2), some (AI q5_3_0), some (AI q5_4_0)]) rfl ?_
  refine s_iload E dX10_oftenMeet_5 rfl ?_
  refine s_aload_n E dX10_oftenMeet_7 rfl rfl ?_
  refine s_vI (As := []) (S := [AI q5_4_0]) E (Z_X10_dances_95 l D aC b w  hJ.1 ) cv_X10_247 rfl rfl rfl (jv_lt hJ (by decide)) (Nat.le_of_ble_eq_true rfl) (Nat.le_of_ble_eq_true rfl) ⟨(Nat.le_of_ble_eq_true rfl), (Nat.le_of_ble_eq_true rfl)⟩ (Nat.le_of_ble_eq_true rfl) dX10_oftenMeet_8 (fun z_4 u_2 hp_3 => ?_)
  obtain ⟨hz_4, hxz_4, hp_3⟩ := hp_3
  subst hp_3
  refine z_icmp_gt (tgt := 39) (u := q5_4_0.toInt) (v := z_4.toInt) E dX10_oftenMeet_11 (by decide) rfl rfl (fun h_6 => ?_) (fun h_6 => ?_)
  ·
    refine s_iload_n E dX10_oftenMeet_39 rfl rfl ?_
    exact r_int E dX10_oftenMeet_40 ⟨⟨by have hb_ := z32 q5_3_0; omega, by have hb_ := z32 q5_3_0; omega⟩, rfl⟩
  ·
    refine s_iload_n E dX10_oftenMeet_14 rfl rfl ?_
    refine s_aload_n E dX10_oftenMeet_15 rfl rfl ?_
    refine s_iload_n E dX10_oftenMeet_16 rfl rfl ?_
    refine s_iload_n E dX10_oftenMeet_17 rfl rfl ?_
    refine s_iload E dX10_oftenMeet_18 rfl ?_
    refine s_vI (As := [AI x1, AI x2, AI q5_4_0]) (S := [AI q5_3_0]) E (Z_X10_doMeet_95 l D aC b w x1 x2 q5_4_0 hJ.1 ⟨by have hb_ := z32 x1; omega, by have hb_ := z32 x1; omega⟩ ⟨by have hb_ := z32 x2; omega, by have hb_ := z32 x2; omega⟩ ⟨by have hb_ := z32 q5_4_0; omega, by have hb_ := z32 q5_4_0; omega⟩) cv_X10_303 rfl rfl rfl (jv_lt hJ (by decide)) (Nat.le_of_ble_eq_true rfl) (Nat.le_of_ble_eq_true rfl) ⟨(Nat.le_of_ble_eq_true rfl), (Nat.le_of_ble_eq_true rfl)⟩ (Nat.le_of_ble_eq_true rfl) dX10_oftenMeet_20 (fun z_9 u_7 hp_8 => ?_)
    obtain ⟨hz_9, hp_8⟩ := hp_8
    subst hp_8
    refine z_if_eq (tgt := 30) (u := z_9.toInt) E dX10_oftenMeet_23 (by decide) rfl (fun h_11 => ?_) (fun h_11 => ?_)
    ·
      refine s_iconst (v := 0) E dX10_oftenMeet_30 (by decide) ?_
      refine z_iadd (u := q5_3_0.toInt) (v := 0) E dX10_oftenMeet_31 rfl (by decide) (by omega) (by omega) (fun z_12 hz_12 => ?_)
      refine s_istore_n (L2 := [some (AR 95), some (AI x1), some (AI x2), some (AI z_12), some (AI q5_4_0)]) E dX10_oftenMeet_32 rfl (by decide) rfl ?_
      refine z_iinc (u := q5_4_0.toInt) (L2 := fun z_13 => [some (AR 95), some (AI x1), some (AI x2), some (AI z_12), some (AI z_13)]) E dX10_oftenMeet_33 rfl rfl (by decide) (fun _ => rfl) (by decide) (by omega) (by omega) (fun z_13 hz_13 => ?_)
      refine s_goto (tgt := 5) E dX10_oftenMeet_36 (by decide) ?_
      exact ih5 ⟨z_12, z_13⟩ w ⟨⟨by have hb_ := z32 z_13; omega, by have hb_ := z32 z_13; omega⟩, rfl⟩ (by first | omega | decide | (dsimp only; omega) | (dsimp only; decide))
    ·
      refine s_iconst (v := 1) E dX10_oftenMeet_26 (by decide) ?_
      refine s_goto (tgt := 31) E dX10_oftenMeet_27 (by decide) ?_
      refine s_iadd E dX10_oftenMeet_31 ?_
      refine z_nm (P := fun z => (-2147483648) ≤ z.toInt ∧ z.toInt ≤ 2147483647) (z32 _) (fun z_14 hz_14 => ?_)
      refine s_istore_n (L2 := [some (AR 95), some (AI x1), some (AI x2), some (AI z_14), some (AI q5_4_0)]) E dX10_oftenMeet_32 rfl (by decide) rfl ?_
      refine z_iinc (u := q5_4_0.toInt) (L2 := fun z_15 => [some (AR 95), some (AI x1), some (AI x2), some (AI z_14), some (AI z_15)]) E dX10_oftenMeet_33 rfl rfl (by decide) (fun _ => rfl) (by decide) (by omega) (by omega) (fun z_15 hz_15 => ?_)
      refine s_goto (tgt := 5) E dX10_oftenMeet_36 (by decide) ?_
      exact ih5 ⟨z_14, z_15⟩ w ⟨⟨by have hb_ := z32 z_15; omega, by have hb_ := z32 z_15; omega⟩, rfl⟩ (by first | omega | decide | (dsimp only; omega) | (dsimp only; decide))
set_option maxRecDepth 20000 in
set_option maxHeartbeats 2000000 in
theorem Z_X10_often_95 (l : Launch) (D : va_G) (aC : Nat → ClassId) (b : Nat) (w : XW) (x1 : Int32) (x2 : Int32) (hI : Iv w)  : CnI l D aC b M_X10_often 5 113 0 0 [AR 95, AI x1, AI x2] w (fun r u => ((-2147483648) ≤ r.toInt ∧ r.toInt ≤ 2147483647 ∧ (¬ r.toInt = 0 ∨ (0 ≤ x1.toInt ∧ x1.toInt ≤ 5)) ∧ (¬ r.toInt = 0 ∨ (0 ≤ x2.toInt ∧ x2.toInt ≤ 5))) ∧ Jv w u) := by
  refine cn_I (own := RX10) (nm := "often") (L0 := [some (AR 95), some (AI x1), some (AI x2)]) (by decide +kernel) rfl rfl (Nat.le_of_ble_eq_true rfl) rfl ?_
  intro p e s m args below meth c E hin
  have hJ : Jv w w := jv_rfl hI
  have hb_x1 := z32 x1
  have hb_x2 := z32 x2
  refine s_aload_n E dX10_often_0 rfl rfl ?_
  refine s_iload_n E dX10_often_1 rfl rfl ?_
  refine s_vI (As := [AI x1]) (S := []) E (Z_X10_asksLady_95 l D aC b w x1 hJ.1 ) cv_X10_288 rfl rfl rfl (jv_lt hJ (by decide)) (Nat.le_of_ble_eq_true rfl) (Nat.le_of_ble_eq_true rfl) ⟨(Nat.le_of_ble_eq_true rfl), (Nat.le_of_ble_eq_true rfl)⟩ (Nat.le_of_ble_eq_true rfl) dX10_often_2 (fun z_3 u_1 hp_2 => ?_)
  obtain ⟨hz_3, hxz_3, hp_2⟩ := hp_2
  have hj_4 := jv_trans hJ hp_2
  refine z_if_eq (tgt := 26) (u := z_3.toInt) E dX10_often_5 (by decide) rfl (fun h_5 => ?_) (fun h_5 => ?_)
  ·
    refine s_bipush (v := (-2)) E dX10_often_26 (by decide) ?_
    exact r_int E dX10_often_28 ⟨⟨by decide, by decide, by first | (left; decide) | (right; decide) | (right; have hb_ := z32 x1; omega), by first | (left; decide) | (right; decide) | (right; have hb_ := z32 x2; omega)⟩, hj_4⟩
  ·
    refine s_aload_n E dX10_often_8 rfl rfl ?_
    refine s_iload_n E dX10_often_9 rfl rfl ?_
    refine z_i2l (u := x2.toInt) E dX10_often_10 rfl (fun z_6 hz_6 => ?_)
    refine s_vI (As := [AL z_6]) (S := []) E (Z_X10_isLady_95 l D aC b u_1 z_6 hj_4.1 ) cv_X10_222 rfl rfl rfl (jv_lt hj_4 (by decide)) (Nat.le_of_ble_eq_true rfl) (Nat.le_of_ble_eq_true rfl) ⟨(Nat.le_of_ble_eq_true rfl), (Nat.le_of_ble_eq_true rfl)⟩ (Nat.le_of_ble_eq_true rfl) dX10_often_11 (fun z_9 u_7 hp_8 => ?_)
    obtain ⟨hz_9, hxz_9, hp_8⟩ := hp_8
    subst hp_8
    refine z_if_eq (tgt := 26) (u := z_9.toInt) E dX10_often_14 (by decide) rfl (fun h_11 => ?_) (fun h_11 => ?_)
    ·
      refine s_bipush (v := (-2)) E dX10_often_26 (by decide) ?_
      exact r_int E dX10_often_28 ⟨⟨by decide, by decide, by first | (left; decide) | (right; decide) | (right; have hb_ := z32 x1; omega), by first | (left; decide) | (right; decide) | (right; have hb_ := z32 x2; omega)⟩, hj_4⟩
    ·
      refine s_aload_n E dX10_often_17 rfl rfl ?_
      refine s_iload_n E dX10_often_18 rfl rfl ?_
      refine s_iload_n E dX10_often_19 rfl rfl ?_
      refine s_vI (As := [AI x1, AI x2]) (S := []) E (Z_X10_oftenMeet_95 l D aC b u_1 x1 x2 hj_4.1 ⟨by have hb_ := z32 x1; omega, by have hb_ := z32 x1; omega⟩ ⟨by have hb_ := z32 x2; omega, by have hb_ := z32 x2; omega⟩) cv_X10_310 rfl rfl rfl (jv_lt hj_4 (by decide)) (Nat.le_of_ble_eq_true rfl) (Nat.le_of_ble_eq_true rfl) ⟨(Nat.le_of_ble_eq_true rfl), (Nat.le_of_ble_eq_true rfl)⟩ (Nat.le_of_ble_eq_true rfl) dX10_often_20 (fun z_14 u_12 hp_13 => ?_)
      obtain ⟨hz_14, hp_13⟩ := hp_13
      subst hp_13
      refine s_goto (tgt := 28) E dX10_often_23 (by decide) ?_
      exact r_int E dX10_often_28 ⟨⟨by have hb_ := z32 z_14; omega, by have hb_ := z32 z_14; omega, by first | (right; decide) | (have hb_ := z32 z_14; omega) | (have hb_ := z32 z_14; have hc_ := z32 x1; omega), by first | (right; decide) | (have hb_ := z32 z_14; omega) | (have hb_ := z32 z_14; have hc_ := z32 x2; omega)⟩, hj_4⟩
set_option maxRecDepth 20000 in
set_option maxHeartbeats 2000000 in
theorem Z_X10_friendsOf_95 (l : Launch) (D : va_G) (aC : Nat → ClassId) (b : Nat) (w : XW) (x1 : Int32) (hI : Iv w) (hx1 : 0 ≤ x1.toInt ∧ x1.toInt ≤ 5) : CnI l D aC b M_X10_friendsOf 3 68 0 0 [AR 95, AI x1] w (fun r u => ((-2147483648) ≤ r.toInt ∧ r.toInt ≤ 2147483647) ∧ w = u) := by
  refine cn_I (own := RX10) (nm := "friendsOf") (L0 := [some (AR 95), some (AI x1), none, none]) (by decide +kernel) rfl rfl (Nat.le_of_ble_eq_true rfl) rfl ?_
  intro p e s m args below meth c E hin
  have hJ : Jv w w := jv_rfl hI
  refine s_iconst (v := 0) E dX10_friendsOf_0 (by decide) ?_
  refine s_istore_n (L2 := [some (AR 95), some (AI x1), some (AI 0), none]) E dX10_friendsOf_1 rfl (by decide) rfl ?_
  refine s_iconst (v := 0) E dX10_friendsOf_2 (by decide) ?_
  refine s_istore_n (L2 := [some (AR 95), some (AI x1), some (AI 0), some (AI 0)]) E dX10_friendsOf_3 rfl (by decide) rfl ?_
  refine z_loop (St := Int32 × Int32) (Pi := fun ⟨q4_2_0, q4_3_0⟩ v4 => (0 ≤ q4_3_0.toInt ∧ q4_3_0.toInt ≤ 6) ∧ w = v4) (Lf := fun ⟨q4_2_0, q4_3_0⟩ => [some (AR 95), some (AI x1), some (AI q4_2_0), some (AI q4_3_0)]) (fun ⟨q4_2_0, q4_3_0⟩ _ => (7 - q4_3_0.toInt).toNat) ⟨0, 0⟩ ⟨⟨by decide, by decide⟩, rfl⟩ ?_
  rintro ⟨q4_2_0, q4_3_0⟩ v4 ⟨hq4_3, hv_⟩ ih4
  subst hv_
  have hbq4_2 := z32 q4_2_0
  refine s_loc (L2 := [some (AR 95), some (AI x1), some (AI q4_2_0), some (AI q4_3_0)]) rfl ?_
  refine s_iload_n E dX10_friendsOf_4 rfl rfl ?_
  refine s_aload_n E dX10_friendsOf_5 rfl rfl ?_
  refine s_vI (As := []) (S := [AI q4_3_0]) E (Z_X10_ladies_95 l D aC b w  hJ.1 ) cv_X10_244 rfl rfl rfl (jv_lt hJ (by decide)) (Nat.le_of_ble_eq_true rfl) (Nat.le_of_ble_eq_true rfl) ⟨(Nat.le_of_ble_eq_true rfl), (Nat.le_of_ble_eq_true rfl)⟩ (Nat.le_of_ble_eq_true rfl) dX10_friendsOf_6 (fun z_4 u_2 hp_3 => ?_)
  obtain ⟨hz_4, hxz_4, hp_3⟩ := hp_3
  subst hp_3
  refine z_icmp_ge (tgt := 43) (u := q4_3_0.toInt) (v := z_4.toInt) E dX10_friendsOf_9 (by decide) rfl rfl (fun h_6 => ?_) (fun h_6 => ?_)
  ·
    refine s_iload_n E dX10_friendsOf_43 rfl rfl ?_
    exact r_int E dX10_friendsOf_44 ⟨⟨by have hb_ := z32 q4_2_0; omega, by have hb_ := z32 q4_2_0; omega⟩, rfl⟩
  ·
    refine s_iload_n E dX10_friendsOf_12 rfl rfl ?_
    refine s_iload_n E dX10_friendsOf_13 rfl rfl ?_
    refine s_iload_n E dX10_friendsOf_14 rfl rfl ?_
    refine z_icmp_eq (tgt := 34) (u := q4_3_0.toInt) (v := x1.toInt) E dX10_friendsOf_15 (by decide) rfl rfl (fun h_7 => ?_) (fun h_7 => ?_)
    ·
      refine s_iconst (v := 0) E dX10_friendsOf_34 (by decide) ?_
      refine s_ior E dX10_friendsOf_35 ?_
      refine z_nm (P := fun z => (-2147483648) ≤ z.toInt ∧ z.toInt ≤ 2147483647) (z32 _) (fun z_8 hz_8 => ?_)
      refine s_istore_n (L2 := [some (AR 95), some (AI x1), some (AI z_8), some (AI q4_3_0)]) E dX10_friendsOf_36 rfl (by decide) rfl ?_
      refine z_iinc (u := q4_3_0.toInt) (L2 := fun z_9 => [some (AR 95), some (AI x1), some (AI z_8), some (AI z_9)]) E dX10_friendsOf_37 rfl rfl (by decide) (fun _ => rfl) (by decide) (by omega) (by omega) (fun z_9 hz_9 => ?_)
      refine s_goto (tgt := 4) E dX10_friendsOf_40 (by decide) ?_
      exact ih4 ⟨z_8, z_9⟩ w ⟨⟨by have hb_ := z32 z_9; omega, by have hb_ := z32 z_9; omega⟩, rfl⟩ (by first | omega | decide | (dsimp only; omega) | (dsimp only; decide))
    ·
      refine s_aload_n E dX10_friendsOf_18 rfl rfl ?_
      refine s_iload_n E dX10_friendsOf_19 rfl rfl ?_
      refine s_iload_n E dX10_friendsOf_20 rfl rfl ?_
      refine s_vI (As := [AI x1, AI q4_3_0]) (S := [AI q4_2_0]) E (Z_X10_firstMeet_95 l D aC b w x1 q4_3_0 hJ.1 ⟨by have hb_ := z32 x1; omega, by have hb_ := z32 x1; omega⟩ ⟨by have hb_ := z32 q4_3_0; omega, by have hb_ := z32 q4_3_0; omega⟩) cv_X10_307 rfl rfl rfl (jv_lt hJ (by decide)) (Nat.le_of_ble_eq_true rfl) (Nat.le_of_ble_eq_true rfl) ⟨(Nat.le_of_ble_eq_true rfl), (Nat.le_of_ble_eq_true rfl)⟩ (Nat.le_of_ble_eq_true rfl) dX10_friendsOf_21 (fun z_12 u_10 hp_11 => ?_)
      obtain ⟨hz_12, hp_11⟩ := hp_11
      subst hp_11
      refine s_iconst (v := (-1)) E dX10_friendsOf_24 (by decide) ?_
      refine z_icmp_eq (tgt := 34) (u := z_12.toInt) (v := (-1)) E dX10_friendsOf_25 (by decide) rfl (by decide) (fun h_14 => ?_) (fun h_14 => ?_)
      ·
        refine s_iconst (v := 0) E dX10_friendsOf_34 (by decide) ?_
        refine s_ior E dX10_friendsOf_35 ?_
        refine z_nm (P := fun z => (-2147483648) ≤ z.toInt ∧ z.toInt ≤ 2147483647) (z32 _) (fun z_15 hz_15 => ?_)
        refine s_istore_n (L2 := [some (AR 95), some (AI x1), some (AI z_15), some (AI q4_3_0)]) E dX10_friendsOf_36 rfl (by decide) rfl ?_
        refine z_iinc (u := q4_3_0.toInt) (L2 := fun z_16 => [some (AR 95), some (AI x1), some (AI z_15), some (AI z_16)]) E dX10_friendsOf_37 rfl rfl (by decide) (fun _ => rfl) (by decide) (by omega) (by omega) (fun z_16 hz_16 => ?_)
        refine s_goto (tgt := 4) E dX10_friendsOf_40 (by decide) ?_
        exact ih4 ⟨z_15, z_16⟩ w ⟨⟨by have hb_ := z32 z_16; omega, by have hb_ := z32 z_16; omega⟩, rfl⟩ (by first | omega | decide | (dsimp only; omega) | (dsimp only; decide))
      ·
        refine s_iconst (v := 1) E dX10_friendsOf_28 (by decide) ?_
        refine s_iload_n E dX10_friendsOf_29 rfl rfl ?_
        refine z_shl1 5 (u := q4_3_0.toInt) (B := 32) E dX10_friendsOf_30 rfl (by omega) (by omega) (by decide) (by decide) (fun z_17 hz_17 => ?_)
        refine s_goto (tgt := 35) E dX10_friendsOf_31 (by decide) ?_
        refine s_ior E dX10_friendsOf_35 ?_
        refine z_nm (P := fun z => (-2147483648) ≤ z.toInt ∧ z.toInt ≤ 2147483647) (z32 _) (fun z_18 hz_18 => ?_)
        refine s_istore_n (L2 := [some (AR 95), some (AI x1), some (AI z_18), some (AI q4_3_0)]) E dX10_friendsOf_36 rfl (by decide) rfl ?_
        refine z_iinc (u := q4_3_0.toInt) (L2 := fun z_19 => [some (AR 95), some (AI x1), some (AI z_18), some (AI z_19)]) E dX10_friendsOf_37 rfl rfl (by decide) (fun _ => rfl) (by decide) (by omega) (by omega) (fun z_19 hz_19 => ?_)
        refine s_goto (tgt := 4) E dX10_friendsOf_40 (by decide) ?_
        exact ih4 ⟨z_18, z_19⟩ w ⟨⟨by have hb_ := z32 z_19; omega, by have hb_ := z32 z_19; omega⟩, rfl⟩ (by first | omega | decide | (dsimp only; omega) | (dsimp only; decide))
set_option maxRecDepth 20000 in
set_option maxHeartbeats 2000000 in
theorem Z_X10_friends_95 (l : Launch) (D : va_G) (aC : Nat → ClassId) (b : Nat) (w : XW) (x1 : Int32) (hI : Iv w)  : CnI l D aC b M_X10_friends 5 113 0 0 [AR 95, AI x1] w (fun r u => ((-2147483648) ≤ r.toInt ∧ r.toInt ≤ 2147483647 ∧ (¬ r.toInt = 0 ∨ (0 ≤ x1.toInt ∧ x1.toInt ≤ 5))) ∧ Jv w u) := by
  refine cn_I (own := RX10) (nm := "friends") (L0 := [some (AR 95), some (AI x1)]) (by decide +kernel) rfl rfl (Nat.le_of_ble_eq_true rfl) rfl ?_
  intro p e s m args below meth c E hin
  have hJ : Jv w w := jv_rfl hI
  have hb_x1 := z32 x1
  refine s_aload_n E dX10_friends_0 rfl rfl ?_
  refine s_iload_n E dX10_friends_1 rfl rfl ?_
  refine s_vI (As := [AI x1]) (S := []) E (Z_X10_asksLady_95 l D aC b w x1 hJ.1 ) cv_X10_288 rfl rfl rfl (jv_lt hJ (by decide)) (Nat.le_of_ble_eq_true rfl) (Nat.le_of_ble_eq_true rfl) ⟨(Nat.le_of_ble_eq_true rfl), (Nat.le_of_ble_eq_true rfl)⟩ (Nat.le_of_ble_eq_true rfl) dX10_friends_2 (fun z_3 u_1 hp_2 => ?_)
  obtain ⟨hz_3, hxz_3, hp_2⟩ := hp_2
  have hj_4 := jv_trans hJ hp_2
  refine z_if_eq (tgt := 16) (u := z_3.toInt) E dX10_friends_5 (by decide) rfl (fun h_5 => ?_) (fun h_5 => ?_)
  ·
    refine s_bipush (v := (-2)) E dX10_friends_16 (by decide) ?_
    exact r_int E dX10_friends_18 ⟨⟨by decide, by decide, by first | (left; decide) | (right; decide) | (right; have hb_ := z32 x1; omega)⟩, hj_4⟩
  ·
    refine s_aload_n E dX10_friends_8 rfl rfl ?_
    refine s_iload_n E dX10_friends_9 rfl rfl ?_
    refine s_vI (As := [AI x1]) (S := []) E (Z_X10_friendsOf_95 l D aC b u_1 x1 hj_4.1 ⟨by have hb_ := z32 x1; omega, by have hb_ := z32 x1; omega⟩) cv_X10_313 rfl rfl rfl (jv_lt hj_4 (by decide)) (Nat.le_of_ble_eq_true rfl) (Nat.le_of_ble_eq_true rfl) ⟨(Nat.le_of_ble_eq_true rfl), (Nat.le_of_ble_eq_true rfl)⟩ (Nat.le_of_ble_eq_true rfl) dX10_friends_10 (fun z_8 u_6 hp_7 => ?_)
    obtain ⟨hz_8, hp_7⟩ := hp_7
    subst hp_7
    refine s_goto (tgt := 18) E dX10_friends_13 (by decide) ?_
    exact r_int E dX10_friends_18 ⟨⟨by have hb_ := z32 z_8; omega, by have hb_ := z32 z_8; omega, by first | (right; decide) | (have hb_ := z32 z_8; omega) | (have hb_ := z32 z_8; have hc_ := z32 x1; omega)⟩, hj_4⟩
set_option maxRecDepth 20000 in
set_option maxHeartbeats 2000000 in
theorem Z_X10_asksBall_95 (l : Launch) (D : va_G) (aC : Nat → ClassId) (b : Nat) (w : XW)  (hI : Iv w)  : CnI l D aC b M_X10_asksBall 4 92 0 0 [AR 95] w (fun r u => (0 ≤ r.toInt ∧ r.toInt ≤ 1) ∧ Jv w u) := by
  refine cn_I (own := RX10) (nm := "asksBall") (L0 := [some (AR 95)]) (by decide +kernel) rfl rfl (Nat.le_of_ble_eq_true rfl) rfl ?_
  intro p e s m args below meth c E hin
  have hJ : Jv w w := jv_rfl hI
  refine s_aload_n E dX10_asksBall_0 rfl rfl ?_
  refine s_vV (As := []) (S := []) E (Z_X10_asItIs_95 l D aC b w  hJ.1 ) cv_X10_279 rfl rfl rfl (jv_lt hJ (by decide)) (Nat.le_of_ble_eq_true rfl) (Nat.le_of_ble_eq_true rfl) ⟨(Nat.le_of_ble_eq_true rfl), (Nat.le_of_ble_eq_true rfl)⟩ (Nat.le_of_ble_eq_true rfl) dX10_asksBall_1 (fun u_1 hp_2 => ?_)
  have hj_3 := jv_trans hJ hp_2
  refine s_aload_n E dX10_asksBall_4 rfl rfl ?_
  refine s_vI (As := []) (S := []) E (Z_X10_isBall_95 l D aC b u_1  hj_3.1 ) cv_X10_86 rfl rfl rfl (jv_lt hj_3 (by decide)) (Nat.le_of_ble_eq_true rfl) (Nat.le_of_ble_eq_true rfl) ⟨(Nat.le_of_ble_eq_true rfl), (Nat.le_of_ble_eq_true rfl)⟩ (Nat.le_of_ble_eq_true rfl) dX10_asksBall_5 (fun z_6 u_4 hp_5 => ?_)
  obtain ⟨hz_6, hp_5⟩ := hp_5
  subst hp_5
  exact r_bool E dX10_asksBall_8 (z_bool (by omega) (by omega)) ⟨⟨by have hb_ := z32 z_6; omega, by have hb_ := z32 z_6; omega⟩, hj_3⟩
set_option maxRecDepth 20000 in
set_option maxHeartbeats 2000000 in
theorem Z_X10_bits (l : Launch) (D : va_G) (aC : Nat → ClassId) (b : Nat) (w : XW) (x1 : Int32) (hI : Iv w)  : CnI l D aC b M_X10_bits 0 0 0 0 [AI x1] w (fun r u => ((-2147483648) ≤ r.toInt ∧ r.toInt ≤ 2147483647) ∧ w = u) := by
  refine cn_I (own := RX10) (nm := "bits") (L0 := [some (AI x1), none, none]) (by decide +kernel) rfl rfl (Nat.le_of_ble_eq_true rfl) rfl ?_
  intro p e s m args below meth c E hin
  have hJ : Jv w w := jv_rfl hI
  have hb_x1 := z32 x1
  refine s_iconst (v := 0) E dX10_bits_0 (by decide) ?_
  refine s_istore_n (L2 := [some (AI x1), some (AI 0), none]) E dX10_bits_1 rfl (by decide) rfl ?_
  refine s_iconst (v := 0) E dX10_bits_2 (by decide) ?_
  refine s_istore_n (L2 := [some (AI x1), some (AI 0), some (AI 0)]) E dX10_bits_3 rfl (by decide) rfl ?_
  refine z_loop (St := Int32 × Int32) (Pi := fun ⟨q4_1_0, q4_2_0⟩ v4 => (0 ≤ q4_2_0.toInt ∧ q4_2_0.toInt ≤ 16) ∧ w = v4) (Lf := fun ⟨q4_1_0, q4_2_0⟩ => [some (AI x1), some (AI q4_1_0), some (AI q4_2_0)]) (fun ⟨q4_1_0, q4_2_0⟩ _ => (17 - q4_2_0.toInt).toNat) ⟨0, 0⟩ ⟨⟨by decide, by decide⟩, rfl⟩ ?_
  rintro ⟨q4_1_0, q4_2_0⟩ v4 ⟨hq4_2, hv_⟩ ih4
  subst hv_
  have hbq4_1 := z32 q4_1_0
  refine s_loc (L2 := [some (AI x1), some (AI q4_1_0), some (AI q4_2_0)]) rfl ?_
  refine s_iload_n E dX10_bits_4 rfl rfl ?_
  refine s_bipush (v := 16) E dX10_bits_5 (by decide) ?_
  refine z_icmp_ge (tgt := 24) (u := q4_2_0.toInt) (v := 16) E dX10_bits_7 (by decide) rfl (by decide) (fun h_2 => ?_) (fun h_2 => ?_)
  ·
    refine s_iload_n E dX10_bits_24 rfl rfl ?_
    exact r_int E dX10_bits_25 ⟨⟨by have hb_ := z32 q4_1_0; omega, by have hb_ := z32 q4_1_0; omega⟩, rfl⟩
  ·
    refine s_iload_n E dX10_bits_10 rfl rfl ?_
    refine s_iload_n E dX10_bits_11 rfl rfl ?_
    refine s_iload_n E dX10_bits_12 rfl rfl ?_
    refine s_ishr E dX10_bits_13 ?_
    refine z_nm (P := fun z => (-2147483648) ≤ z.toInt ∧ z.toInt ≤ 2147483647) (z32 _) (fun z_3 hz_3 => ?_)
    refine s_iconst (v := 1) E dX10_bits_14 (by decide) ?_
    refine z_mask (v := 1) E dX10_bits_15 (by decide) (by decide) (fun z_4 hz_4 => ?_)
    refine s_iadd E dX10_bits_16 ?_
    refine z_nm (P := fun z => (-2147483648) ≤ z.toInt ∧ z.toInt ≤ 2147483647) (z32 _) (fun z_5 hz_5 => ?_)
    refine s_istore_n (L2 := [some (AI x1), some (AI z_5), some (AI q4_2_0)]) E dX10_bits_17 rfl (by decide) rfl ?_
    refine z_iinc (u := q4_2_0.toInt) (L2 := fun z_6 => [some (AI x1), some (AI z_5), some (AI z_6)]) E dX10_bits_18 rfl rfl (by decide) (fun _ => rfl) (by decide) (by omega) (by omega) (fun z_6 hz_6 => ?_)
    refine s_goto (tgt := 4) E dX10_bits_21 (by decide) ?_
    exact ih4 ⟨z_5, z_6⟩ w ⟨⟨by have hb_ := z32 z_6; omega, by have hb_ := z32 z_6; omega⟩, rfl⟩ (by first | omega | decide | (dsimp only; omega) | (dsimp only; decide))
set_option maxRecDepth 20000 in
set_option maxHeartbeats 2000000 in
theorem Z_X10_crushOf_95 (l : Launch) (D : va_G) (aC : Nat → ClassId) (b : Nat) (w : XW)  (hI : Iv w)  : CnI l D aC b M_X10_crushOf 2 46 0 0 [AR 95] w (fun r u => (0 ≤ r.toInt ∧ r.toInt ≤ 64) ∧ Jv w u) := by
  refine cn_I (own := RX10) (nm := "crushOf") (L0 := [some (AR 95), none, none, none, none]) (by decide +kernel) rfl rfl (Nat.le_of_ble_eq_true rfl) rfl ?_
  intro p e s m args below meth c E hin
  have hJ : Jv w w := jv_rfl hI
  refine s_aload_n E dX10_crushOf_0 rfl rfl ?_
  refine s_iconst (v := 0) E dX10_crushOf_1 (by decide) ?_
  refine s_pI E fp_X10_316 (Or.inl rfl) rfl (jv_lt hJ (by decide)) dX10_crushOf_2 ?_
  refine s_gen (P := Jv w) (jv_f_95_25 hJ (by decide) (by decide)) (fun v_1 hj_2 => ?_)
  refine s_iconst (v := 0) E dX10_crushOf_5 (by decide) ?_
  refine s_istore_n (L2 := [some (AR 95), some (AI 0), none, none, none]) E dX10_crushOf_6 rfl (by decide) rfl ?_
  refine s_iconst (v := 0) E dX10_crushOf_7 (by decide) ?_
  refine s_istore_n (L2 := [some (AR 95), some (AI 0), some (AI 0), none, none]) E dX10_crushOf_8 rfl (by decide) rfl ?_
  refine z_loop (St := Int32 × Int32) (Pi := fun ⟨q9_1_2, q9_2_2⟩ v9 => (0 ≤ q9_1_2.toInt ∧ q9_1_2.toInt ≤ 64) ∧ (0 ≤ q9_2_2.toInt ∧ q9_2_2.toInt ≤ 15) ∧ Jv w v9) (Lf := fun ⟨q9_1_2, q9_2_2⟩ => [some (AR 95), some (AI q9_1_2), some (AI q9_2_2), none, none]) (fun ⟨q9_1_2, q9_2_2⟩ _ => (16 - q9_2_2.toInt).toNat) ⟨0, 0⟩ ⟨⟨by decide, by decide⟩, ⟨by decide, by decide⟩, hj_2⟩ ?_
  rintro ⟨q9_1_2, q9_2_2⟩ v9 ⟨hq9_1, hq9_2, hj_3⟩ ih9
  refine s_loc (L2 := [some (AR 95), some (AI q9_1_2), some (AI q9_2_2), none, none]) rfl ?_
  refine s_iload_n E dX10_crushOf_9 rfl rfl ?_
  refine s_aload_n E dX10_crushOf_10 rfl rfl ?_
  refine s_vI (As := []) (S := [AI q9_2_2]) E (Z_X10_dances_95 l D aC b v9  hj_3.1 ) cv_X10_247 rfl rfl rfl (jv_lt hj_3 (by decide)) (Nat.le_of_ble_eq_true rfl) (Nat.le_of_ble_eq_true rfl) ⟨(Nat.le_of_ble_eq_true rfl), (Nat.le_of_ble_eq_true rfl)⟩ (Nat.le_of_ble_eq_true rfl) dX10_crushOf_11 (fun z_6 u_4 hp_5 => ?_)
  obtain ⟨hz_6, hxz_6, hp_5⟩ := hp_5
  subst hp_5
  refine z_icmp_gt (tgt := 72) (u := q9_2_2.toInt) (v := z_6.toInt) E dX10_crushOf_14 (by decide) rfl rfl (fun h_8 => ?_) (fun h_8 => ?_)
  ·
    refine s_iload_n E dX10_crushOf_72 rfl rfl ?_
    exact r_int E dX10_crushOf_73 ⟨⟨by have hb_ := z32 q9_1_2; omega, by have hb_ := z32 q9_1_2; omega⟩, hj_3⟩
  ·
    refine s_iconst (v := 0) E dX10_crushOf_17 (by decide) ?_
    refine s_istore_n (L2 := [some (AR 95), some (AI q9_1_2), some (AI q9_2_2), some (AI 0), none]) E dX10_crushOf_18 rfl (by decide) rfl ?_
    refine z_loop (St := Int32 × Int32) (Pi := fun ⟨q19_1_8, q19_3_8⟩ v19 => (0 ≤ q19_1_8.toInt ∧ q19_1_8.toInt ≤ 64) ∧ (0 ≤ q19_3_8.toInt ∧ q19_3_8.toInt ≤ 8) ∧ Jv w v19) (Lf := fun ⟨q19_1_8, q19_3_8⟩ => [some (AR 95), some (AI q19_1_8), some (AI q9_2_2), some (AI q19_3_8), none]) (fun ⟨q19_1_8, q19_3_8⟩ _ => (9 - q19_3_8.toInt).toNat) ⟨q9_1_2, 0⟩ ⟨⟨by have hb_ := z32 q9_1_2; omega, by have hb_ := z32 q9_1_2; omega⟩, ⟨by decide, by decide⟩, hj_3⟩ ?_
    rintro ⟨q19_1_8, q19_3_8⟩ v19 ⟨hq19_1, hq19_3, hj_9⟩ ih19
    refine s_loc (L2 := [some (AR 95), some (AI q19_1_8), some (AI q9_2_2), some (AI q19_3_8), none]) rfl ?_
    refine s_iload_n E dX10_crushOf_19 rfl rfl ?_
    refine s_aload_n E dX10_crushOf_20 rfl rfl ?_
    refine s_gR (r := 96) E fg_X10_9 rfl rfl (jv_lt hj_9 (by decide)) (jv_r hj_9 (by decide +kernel)) dX10_crushOf_21 ?_
    refine s_iconst (v := 0) E dX10_crushOf_24 (by decide) ?_
    refine s_iald E rfl (jv_lt hj_9 (by decide)) (z_in (u := 0) (by decide) (by omega) (by omega)) dX10_crushOf_25 ?_
    refine z_nm (P := fun z => z.toInt = (v19.2.2.1 96 0).toInt ∧ 0 ≤ z.toInt ∧ z.toInt ≤ 8) ⟨rfl, (rw_96_0 hj_9)⟩ (fun z_10 hz_10 => ?_)
    refine z_icmp_ge (tgt := 66) (u := q19_3_8.toInt) (v := z_10.toInt) E dX10_crushOf_26 (by decide) rfl rfl (fun h_11 => ?_) (fun h_11 => ?_)
    ·
      refine z_iinc (u := q9_2_2.toInt) (L2 := fun z_12 => [some (AR 95), some (AI q19_1_8), some (AI z_12), some (AI q19_3_8), none]) E dX10_crushOf_66 rfl rfl (by decide) (fun _ => rfl) (by decide) (by omega) (by omega) (fun z_12 hz_12 => ?_)
      refine s_goto (tgt := 9) E dX10_crushOf_69 (by decide) ?_
      refine s_drop (i := 3) (L2 := [some (AR 95), some (AI q19_1_8), some (AI z_12), none, none]) rfl ?_
      exact ih9 ⟨q19_1_8, z_12⟩ v19 ⟨⟨by have hb_ := z32 q19_1_8; omega, by have hb_ := z32 q19_1_8; omega⟩, ⟨by have hb_ := z32 z_12; omega, by have hb_ := z32 z_12; omega⟩, hj_9⟩ (by first | omega | decide | (dsimp only; omega) | (dsimp only; decide))
    ·
      refine s_aload_n E dX10_crushOf_29 rfl rfl ?_
      refine s_iload_n E dX10_crushOf_30 rfl rfl ?_
      refine s_iload_n E dX10_crushOf_31 rfl rfl ?_
      refine s_vI (As := [AI q19_3_8, AI q9_2_2]) (S := []) E (Z_X10_withinOf_95 l D aC b v19 q19_3_8 q9_2_2 hj_9.1 ⟨by have hb_ := z32 q9_2_2; omega, by have hb_ := z32 q9_2_2; omega⟩) cv_X10_297 rfl rfl rfl (jv_lt hj_9 (by decide)) (Nat.le_of_ble_eq_true rfl) (Nat.le_of_ble_eq_true rfl) ⟨(Nat.le_of_ble_eq_true rfl), (Nat.le_of_ble_eq_true rfl)⟩ (Nat.le_of_ble_eq_true rfl) dX10_crushOf_32 (fun z_15 u_13 hp_14 => ?_)
      obtain ⟨hz_15, hxz_15, hp_14⟩ := hp_14
      subst hp_14
      refine s_sI (As := [AI z_15]) (S := []) E (Z_X10_bits l D aC b v19 z_15 hj_9.1 ) cs_X10_319 rfl rfl (Nat.le_of_ble_eq_true rfl) (Nat.le_of_ble_eq_true rfl) ⟨(Nat.le_of_ble_eq_true rfl), (Nat.le_of_ble_eq_true rfl)⟩ (Nat.le_of_ble_eq_true rfl) dX10_crushOf_35 (fun z_19 u_17 hp_18 => ?_)
      obtain ⟨hz_19, hp_18⟩ := hp_18
      subst hp_18
      refine s_istore (L2 := [some (AR 95), some (AI q19_1_8), some (AI q9_2_2), some (AI q19_3_8), some (AI z_19)]) E dX10_crushOf_38 (by decide) rfl ?_
      refine s_iload E dX10_crushOf_40 rfl ?_
      refine s_aload_n E dX10_crushOf_42 rfl rfl ?_
      refine s_gI E fg_X10_316 rfl rfl (jv_lt hj_9 (by decide)) dX10_crushOf_43 ?_
      refine z_nm (P := fun z => z.toInt = (v19.2.2.1 95 25).toInt ∧ (-2147483648) ≤ z.toInt ∧ z.toInt ≤ 2147483647) ⟨rfl, z32 _⟩ (fun z_21 hz_21 => ?_)
      refine z_icmp_gt (tgt := 52) (u := z_19.toInt) (v := z_21.toInt) E dX10_crushOf_46 (by decide) rfl rfl (fun h_22 => ?_) (fun h_22 => ?_)
      ·
        refine s_aload_n E dX10_crushOf_52 rfl rfl ?_
        refine s_iload E dX10_crushOf_53 rfl ?_
        refine s_pI E fp_X10_316 (Or.inl rfl) rfl (jv_lt hj_9 (by decide)) dX10_crushOf_55 ?_
        refine s_gen (P := fun v => Jv w v ∧ (v.2.2.1 96 0).toInt = (v19.2.2.1 96 0).toInt) ⟨(jv_f_95_25 hj_9 (by have hb_ := z32 z_19; omega) (by have hb_ := z32 z_19; omega)), rfl⟩ (fun v_23 hj_24 => ?_)
        obtain ⟨hj_24, hk_25k0⟩ := hj_24
        refine s_iload_n E dX10_crushOf_58 rfl rfl ?_
        refine s_istore_n (L2 := [some (AR 95), some (AI q9_2_2), some (AI q9_2_2), some (AI q19_3_8), some (AI z_19)]) E dX10_crushOf_59 rfl (by decide) rfl ?_
        refine z_iinc (u := q19_3_8.toInt) (L2 := fun z_26 => [some (AR 95), some (AI q9_2_2), some (AI q9_2_2), some (AI z_26), some (AI z_19)]) E dX10_crushOf_60 rfl rfl (by decide) (fun _ => rfl) (by decide) (by omega) (by omega) (fun z_26 hz_26 => ?_)
        refine s_goto (tgt := 19) E dX10_crushOf_63 (by decide) ?_
        refine s_drop (i := 4) (L2 := [some (AR 95), some (AI q9_2_2), some (AI q9_2_2), some (AI z_26), none]) rfl ?_
        exact ih19 ⟨q9_2_2, z_26⟩ v_23 ⟨⟨by have hb_ := z32 q9_2_2; omega, by have hb_ := z32 q9_2_2; omega⟩, ⟨by have hb_ := z32 z_26; omega, by have hb_ := z32 z_26; omega⟩, hj_24⟩ (by first | omega | decide | (dsimp only; omega) | (dsimp only; decide))
      ·
        refine s_goto (tgt := 60) E dX10_crushOf_49 (by decide) ?_
        refine z_iinc (u := q19_3_8.toInt) (L2 := fun z_27 => [some (AR 95), some (AI q19_1_8), some (AI q9_2_2), some (AI z_27), some (AI z_19)]) E dX10_crushOf_60 rfl rfl (by decide) (fun _ => rfl) (by decide) (by omega) (by omega) (fun z_27 hz_27 => ?_)
        refine s_goto (tgt := 19) E dX10_crushOf_63 (by decide) ?_
        refine s_drop (i := 4) (L2 := [some (AR 95), some (AI q19_1_8), some (AI q9_2_2), some (AI z_27), none]) rfl ?_
        exact ih19 ⟨q19_1_8, z_27⟩ v19 ⟨⟨by have hb_ := z32 q19_1_8; omega, by have hb_ := z32 q19_1_8; omega⟩, ⟨by have hb_ := z32 z_27; omega, by have hb_ := z32 z_27; omega⟩, hj_9⟩ (by first | omega | decide | (dsimp only; omega) | (dsimp only; decide))
set_option maxRecDepth 20000 in
set_option maxHeartbeats 2000000 in
theorem Z_X10_crush_95 (l : Launch) (D : va_G) (aC : Nat → ClassId) (b : Nat) (w : XW)  (hI : Iv w)  : CnI l D aC b M_X10_crush 5 112 0 0 [AR 95] w (fun r u => ((-2147483648) ≤ r.toInt ∧ r.toInt ≤ 2147483647) ∧ Jv w u) := by
  refine cn_I (own := RX10) (nm := "crush") (L0 := [some (AR 95)]) (by decide +kernel) rfl rfl (Nat.le_of_ble_eq_true rfl) rfl ?_
  intro p e s m args below meth c E hin
  have hJ : Jv w w := jv_rfl hI
  refine s_aload_n E dX10_crush_0 rfl rfl ?_
  refine s_vI (As := []) (S := []) E (Z_X10_asksBall_95 l D aC b w  hJ.1 ) cv_X10_322 rfl rfl rfl (jv_lt hJ (by decide)) (Nat.le_of_ble_eq_true rfl) (Nat.le_of_ble_eq_true rfl) ⟨(Nat.le_of_ble_eq_true rfl), (Nat.le_of_ble_eq_true rfl)⟩ (Nat.le_of_ble_eq_true rfl) dX10_crush_1 (fun z_3 u_1 hp_2 => ?_)
  obtain ⟨hz_3, hp_2⟩ := hp_2
  have hj_4 := jv_trans hJ hp_2
  refine z_if_ne (tgt := 10) (u := z_3.toInt) E dX10_crush_4 (by decide) rfl (fun h_5 => ?_) (fun h_5 => ?_)
  ·
    refine s_aload_n E dX10_crush_10 rfl rfl ?_
    refine s_vI (As := []) (S := []) E (Z_X10_crushOf_95 l D aC b u_1  hj_4.1 ) cv_X10_325 rfl rfl rfl (jv_lt hj_4 (by decide)) (Nat.le_of_ble_eq_true rfl) (Nat.le_of_ble_eq_true rfl) ⟨(Nat.le_of_ble_eq_true rfl), (Nat.le_of_ble_eq_true rfl)⟩ (Nat.le_of_ble_eq_true rfl) dX10_crush_11 (fun z_8 u_6 hp_7 => ?_)
    obtain ⟨hz_8, hp_7⟩ := hp_7
    have hj_9 := jv_trans hj_4 hp_7
    refine s_popI E dX10_crush_14 ?_
    refine s_aload_n E dX10_crush_15 rfl rfl ?_
    refine s_gI E fg_X10_316 rfl rfl (jv_lt hj_9 (by decide)) dX10_crush_16 ?_
    refine z_nm (P := fun z => z.toInt = (u_6.2.2.1 95 25).toInt ∧ (-2147483648) ≤ z.toInt ∧ z.toInt ≤ 2147483647) ⟨rfl, z32 _⟩ (fun z_10 hz_10 => ?_)
    exact r_int E dX10_crush_19 ⟨⟨by have hb_ := z32 z_10; omega, by have hb_ := z32 z_10; omega⟩, hj_9⟩
  ·
    refine s_bipush (v := (-2)) E dX10_crush_7 (by decide) ?_
    exact r_int E dX10_crush_9 ⟨(by decide), hj_4⟩
set_option maxRecDepth 20000 in
set_option maxHeartbeats 2000000 in
theorem Z_X10_crushed_95 (l : Launch) (D : va_G) (aC : Nat → ClassId) (b : Nat) (w : XW)  (hI : Iv w)  : CnI l D aC b M_X10_crushed 5 112 0 0 [AR 95] w (fun r u => ((-2) ≤ r.toInt ∧ r.toInt ≤ 64) ∧ Jv w u) := by
  refine cn_I (own := RX10) (nm := "crushed") (L0 := [some (AR 95)]) (by decide +kernel) rfl rfl (Nat.le_of_ble_eq_true rfl) rfl ?_
  intro p e s m args below meth c E hin
  have hJ : Jv w w := jv_rfl hI
  refine s_aload_n E dX10_crushed_0 rfl rfl ?_
  refine s_vI (As := []) (S := []) E (Z_X10_asksBall_95 l D aC b w  hJ.1 ) cv_X10_322 rfl rfl rfl (jv_lt hJ (by decide)) (Nat.le_of_ble_eq_true rfl) (Nat.le_of_ble_eq_true rfl) ⟨(Nat.le_of_ble_eq_true rfl), (Nat.le_of_ble_eq_true rfl)⟩ (Nat.le_of_ble_eq_true rfl) dX10_crushed_1 (fun z_3 u_1 hp_2 => ?_)
  obtain ⟨hz_3, hp_2⟩ := hp_2
  have hj_4 := jv_trans hJ hp_2
  refine z_if_eq (tgt := 14) (u := z_3.toInt) E dX10_crushed_4 (by decide) rfl (fun h_5 => ?_) (fun h_5 => ?_)
  ·
    refine s_bipush (v := (-2)) E dX10_crushed_14 (by decide) ?_
    exact r_int E dX10_crushed_16 ⟨(by decide), hj_4⟩
  ·
    refine s_aload_n E dX10_crushed_7 rfl rfl ?_
    refine s_vI (As := []) (S := []) E (Z_X10_crushOf_95 l D aC b u_1  hj_4.1 ) cv_X10_325 rfl rfl rfl (jv_lt hj_4 (by decide)) (Nat.le_of_ble_eq_true rfl) (Nat.le_of_ble_eq_true rfl) ⟨(Nat.le_of_ble_eq_true rfl), (Nat.le_of_ble_eq_true rfl)⟩ (Nat.le_of_ble_eq_true rfl) dX10_crushed_8 (fun z_8 u_6 hp_7 => ?_)
    obtain ⟨hz_8, hp_7⟩ := hp_7
    have hj_9 := jv_trans hj_4 hp_7
    refine s_goto (tgt := 16) E dX10_crushed_11 (by decide) ?_
    exact r_int E dX10_crushed_16 ⟨⟨by have hb_ := z32 z_8; omega, by have hb_ := z32 z_8; omega⟩, hj_9⟩
