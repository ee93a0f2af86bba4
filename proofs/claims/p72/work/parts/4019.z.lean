set_option maxRecDepth 20000 in
set_option maxHeartbeats 2000000 in
theorem Z_X10_goNote__95 (l : Launch) (D : va_G) (aC : Nat → ClassId) (b : Nat) (w : XW) (x1 : Int32) (hI : Iv w) (hx1 : 0 ≤ x1.toInt ∧ x1.toInt ≤ 5) : CnI l D aC b M_X10_goNote_ 4 96 0 0 [AR 95, AI x1] w (fun r u => ((-2147483648) ≤ r.toInt ∧ r.toInt ≤ 2147483647) ∧ (HN (u.2.2.1 107) (u.2.2.1 108) x1.toInt) ∧ ((u.2.2.1 96) = (w.2.2.1 96)) ∧ Jv w u) := by
  refine cn_I (own := RX10) (nm := "goNote") (L0 := [some (AR 95), some (AI x1)]) (by decide +kernel) rfl rfl (Nat.le_of_ble_eq_true rfl) rfl ?_
  intro p e s m args below meth c E hin
  have hJ : Jv w w := jv_rfl hI
  refine s_aload_n E dX10_goNote__0 rfl rfl ?_
  refine s_iload_n E dX10_goNote__1 rfl rfl ?_
  refine s_aload_n E dX10_goNote__2 rfl rfl ?_
  refine s_vI (As := []) (S := [AI x1, AR 95]) E (Z_X10_dances_95 l D aC b w  hJ.1 ) cv_X10_247 rfl rfl rfl (jv_lt hJ (by decide)) (Nat.le_of_ble_eq_true rfl) (Nat.le_of_ble_eq_true rfl) ⟨(Nat.le_of_ble_eq_true rfl), (Nat.le_of_ble_eq_true rfl)⟩ (Nat.le_of_ble_eq_true rfl) dX10_goNote__3 (fun z_3 u_1 hp_2 => ?_)
  obtain ⟨hz_3, hxz_3, hp_2⟩ := hp_2
  subst hp_2
  refine s_vI (As := [AI x1, AI z_3]) (S := []) E (Z_X10_goNote_95 l D aC b w x1 z_3 hJ.1 ⟨by have hb_ := z32 x1; omega, by have hb_ := z32 x1; omega⟩ ⟨by have hb_ := z32 z_3; omega, by have hb_ := z32 z_3; omega⟩) cv_X10_335 rfl rfl rfl (jv_lt hJ (by decide)) (Nat.le_of_ble_eq_true rfl) (Nat.le_of_ble_eq_true rfl) ⟨(Nat.le_of_ble_eq_true rfl), (Nat.le_of_ble_eq_true rfl)⟩ (Nat.le_of_ble_eq_true rfl) dX10_goNote__6 (fun z_7 u_5 hp_6 => ?_)
  obtain ⟨hz_7, hxz_7, hf_u_5_95, hf_u_5_96, hf_u_5_L, hp_6⟩ := hp_6
  have hj_8 := jv_trans hJ hp_6
  have hxn_ := hxz_7
  exact r_int E dX10_goNote__9 ⟨⟨by have hb_ := z32 z_7; omega, by have hb_ := z32 z_7; omega⟩, (hxn_), hf_u_5_96, hj_8⟩
set_option maxRecDepth 20000 in
set_option maxHeartbeats 2000000 in
theorem Z_X10_hears_95 (l : Launch) (D : va_G) (aC : Nat → ClassId) (b : Nat) (w : XW) (x1 : Int32) (hI : Iv w)  : CnI l D aC b M_X10_hears 5 117 0 0 [AR 95, AI x1] w (fun r u => ((-2147483648) ≤ r.toInt ∧ r.toInt ≤ 2147483647 ∧ (¬ r.toInt = 0 ∨ (0 ≤ x1.toInt ∧ x1.toInt ≤ 5))) ∧ Jv w u) := by
  refine cn_I (own := RX10) (nm := "hears") (L0 := [some (AR 95), some (AI x1), none, none]) (by decide +kernel) rfl rfl (Nat.le_of_ble_eq_true rfl) rfl ?_
  intro p e s m args below meth c E hin
  have hJ : Jv w w := jv_rfl hI
  have hb_x1 := z32 x1
  refine s_aload_n E dX10_hears_0 rfl rfl ?_
  refine s_iload_n E dX10_hears_1 rfl rfl ?_
  refine s_vI (As := [AI x1]) (S := []) E (Z_X10_asksLady_95 l D aC b w x1 hJ.1 ) cv_X10_288 rfl rfl rfl (jv_lt hJ (by decide)) (Nat.le_of_ble_eq_true rfl) (Nat.le_of_ble_eq_true rfl) ⟨(Nat.le_of_ble_eq_true rfl), (Nat.le_of_ble_eq_true rfl)⟩ (Nat.le_of_ble_eq_true rfl) dX10_hears_2 (fun z_3 u_1 hp_2 => ?_)
  obtain ⟨hz_3, hxz_3, hp_2⟩ := hp_2
  have hj_4 := jv_trans hJ hp_2
  refine z_if_ne (tgt := 11) (u := z_3.toInt) E dX10_hears_5 (by decide) rfl (fun h_5 => ?_) (fun h_5 => ?_)
  ·
    refine s_iconst (v := 0) E dX10_hears_11 (by decide) ?_
    refine s_istore_n (L2 := [some (AR 95), some (AI x1), some (AI 0), none]) E dX10_hears_12 rfl (by decide) rfl ?_
    refine s_iconst (v := 0) E dX10_hears_13 (by decide) ?_
    refine s_istore_n (L2 := [some (AR 95), some (AI x1), some (AI 0), some (AI 0)]) E dX10_hears_14 rfl (by decide) rfl ?_
    refine z_loop (St := Int32 × Int32) (Pi := fun ⟨q15_2_5, q15_3_5⟩ v15 => (0 ≤ q15_3_5.toInt ∧ q15_3_5.toInt ≤ 6) ∧ Jv w v15) (Lf := fun ⟨q15_2_5, q15_3_5⟩ => [some (AR 95), some (AI x1), some (AI q15_2_5), some (AI q15_3_5)]) (fun ⟨q15_2_5, q15_3_5⟩ _ => (7 - q15_3_5.toInt).toNat) ⟨0, 0⟩ ⟨⟨by decide, by decide⟩, hj_4⟩ ?_
    rintro ⟨q15_2_5, q15_3_5⟩ v15 ⟨hq15_3, hj_6⟩ ih15
    have hbq15_2 := z32 q15_2_5
    refine s_loc (L2 := [some (AR 95), some (AI x1), some (AI q15_2_5), some (AI q15_3_5)]) rfl ?_
    refine s_iload_n E dX10_hears_15 rfl rfl ?_
    refine s_aload_n E dX10_hears_16 rfl rfl ?_
    refine s_vI (As := []) (S := [AI q15_3_5]) E (Z_X10_ladies_95 l D aC b v15  hj_6.1 ) cv_X10_244 rfl rfl rfl (jv_lt hj_6 (by decide)) (Nat.le_of_ble_eq_true rfl) (Nat.le_of_ble_eq_true rfl) ⟨(Nat.le_of_ble_eq_true rfl), (Nat.le_of_ble_eq_true rfl)⟩ (Nat.le_of_ble_eq_true rfl) dX10_hears_17 (fun z_9 u_7 hp_8 => ?_)
    obtain ⟨hz_9, hxz_9, hp_8⟩ := hp_8
    subst hp_8
    refine z_icmp_ge (tgt := 43) (u := q15_3_5.toInt) (v := z_9.toInt) E dX10_hears_20 (by decide) rfl rfl (fun h_11 => ?_) (fun h_11 => ?_)
    ·
      refine s_iload_n E dX10_hears_43 rfl rfl ?_
      exact r_int E dX10_hears_44 ⟨⟨by have hb_ := z32 q15_2_5; omega, by have hb_ := z32 q15_2_5; omega, by first | (right; decide) | (have hb_ := z32 q15_2_5; omega) | (have hb_ := z32 q15_2_5; have hc_ := z32 x1; omega)⟩, hj_6⟩
    ·
      refine s_iload_n E dX10_hears_23 rfl rfl ?_
      refine s_aload_n E dX10_hears_24 rfl rfl ?_
      refine s_iload_n E dX10_hears_25 rfl rfl ?_
      refine s_vI (As := [AI q15_3_5]) (S := [AI q15_2_5]) E (Z_X10_goNote__95 l D aC b v15 q15_3_5 hj_6.1 ⟨by have hb_ := z32 q15_3_5; omega, by have hb_ := z32 q15_3_5; omega⟩) cv_X10_338 rfl rfl rfl (jv_lt hj_6 (by decide)) (Nat.le_of_ble_eq_true rfl) (Nat.le_of_ble_eq_true rfl) ⟨(Nat.le_of_ble_eq_true rfl), (Nat.le_of_ble_eq_true rfl)⟩ (Nat.le_of_ble_eq_true rfl) dX10_hears_26 (fun z_14 u_12 hp_13 => ?_)
      obtain ⟨hz_14, hxz_14, hf_u_12_96, hp_13⟩ := hp_13
      have hj_15 := jv_trans hj_6 hp_13
      refine s_iload_n E dX10_hears_29 rfl rfl ?_
      refine s_sI (As := [AI z_14, AI x1]) (S := [AI q15_2_5]) E (Z_X10_bit l D aC b u_12 z_14 x1 hj_15.1 ) cs_X10_252 rfl rfl (Nat.le_of_ble_eq_true rfl) (Nat.le_of_ble_eq_true rfl) ⟨(Nat.le_of_ble_eq_true rfl), (Nat.le_of_ble_eq_true rfl)⟩ (Nat.le_of_ble_eq_true rfl) dX10_hears_30 (fun z_18 u_16 hp_17 => ?_)
      obtain ⟨hz_18, hxz_18, hp_17⟩ := hp_17
      subst hp_17
      refine s_iload_n E dX10_hears_33 rfl rfl ?_
      refine s_ishl E dX10_hears_34 ?_
      refine z_nm (P := fun z => (-2147483648) ≤ z.toInt ∧ z.toInt ≤ 2147483647) (z32 _) (fun z_20 hz_20 => ?_)
      refine s_ior E dX10_hears_35 ?_
      refine z_nm (P := fun z => (-2147483648) ≤ z.toInt ∧ z.toInt ≤ 2147483647) (z32 _) (fun z_21 hz_21 => ?_)
      refine s_istore_n (L2 := [some (AR 95), some (AI x1), some (AI z_21), some (AI q15_3_5)]) E dX10_hears_36 rfl (by decide) rfl ?_
      refine z_iinc (u := q15_3_5.toInt) (L2 := fun z_22 => [some (AR 95), some (AI x1), some (AI z_21), some (AI z_22)]) E dX10_hears_37 rfl rfl (by decide) (fun _ => rfl) (by decide) (by omega) (by omega) (fun z_22 hz_22 => ?_)
      refine s_goto (tgt := 15) E dX10_hears_40 (by decide) ?_
      exact ih15 ⟨z_21, z_22⟩ u_12 ⟨⟨by have hb_ := z32 z_22; omega, by have hb_ := z32 z_22; omega⟩, hj_15⟩ (by first | omega | decide | (dsimp only; omega) | (dsimp only; decide))
  ·
    refine s_bipush (v := (-2)) E dX10_hears_8 (by decide) ?_
    exact r_int E dX10_hears_10 ⟨⟨by decide, by decide, by first | (left; decide) | (right; decide) | (right; have hb_ := z32 x1; omega)⟩, hj_4⟩
set_option maxRecDepth 20000 in
set_option maxHeartbeats 2000000 in
theorem Z_X10_asksNote_95 (l : Launch) (D : va_G) (aC : Nat → ClassId) (b : Nat) (w : XW) (x1 : Int32) (x2 : Int32) (hI : Iv w)  : CnI l D aC b M_X10_asksNote 5 117 0 0 [AR 95, AI x1, AI x2] w (fun r u => (0 ≤ r.toInt ∧ r.toInt ≤ 1 ∧ (r.toInt = 0 ∨ (0 ≤ x1.toInt ∧ x1.toInt ≤ 5)) ∧ (r.toInt = 0 ∨ (0 ≤ x2.toInt ∧ x2.toInt ≤ 5))) ∧ (r.toInt = 0 ∨ HN (u.2.2.1 107) (u.2.2.1 108) x1.toInt) ∧ Jv w u) := by
  refine cn_I (own := RX10) (nm := "asksNote") (L0 := [some (AR 95), some (AI x1), some (AI x2)]) (by decide +kernel) rfl rfl (Nat.le_of_ble_eq_true rfl) rfl ?_
  intro p e s m args below meth c E hin
  have hJ : Jv w w := jv_rfl hI
  have hb_x1 := z32 x1
  have hb_x2 := z32 x2
  refine s_aload_n E dX10_asksNote_0 rfl rfl ?_
  refine s_iload_n E dX10_asksNote_1 rfl rfl ?_
  refine s_vI (As := [AI x1]) (S := []) E (Z_X10_asksLady_95 l D aC b w x1 hJ.1 ) cv_X10_288 rfl rfl rfl (jv_lt hJ (by decide)) (Nat.le_of_ble_eq_true rfl) (Nat.le_of_ble_eq_true rfl) ⟨(Nat.le_of_ble_eq_true rfl), (Nat.le_of_ble_eq_true rfl)⟩ (Nat.le_of_ble_eq_true rfl) dX10_asksNote_2 (fun z_3 u_1 hp_2 => ?_)
  obtain ⟨hz_3, hxz_3, hp_2⟩ := hp_2
  have hj_4 := jv_trans hJ hp_2
  refine z_if_eq (tgt := 17) (u := z_3.toInt) E dX10_asksNote_5 (by decide) rfl (fun h_5 => ?_) (fun h_5 => ?_)
  ·
    refine s_iconst (v := 0) E dX10_asksNote_17 (by decide) ?_
    exact r_bool E dX10_asksNote_18 (Or.inl rfl) ⟨⟨by decide, by decide, by first | (left; decide) | (right; decide) | (right; have hb_ := z32 x1; omega), by first | (left; decide) | (right; decide) | (right; have hb_ := z32 x2; omega)⟩, (Or.inl (by decide)), hj_4⟩
  ·
    refine s_aload_n E dX10_asksNote_8 rfl rfl ?_
    refine s_iload_n E dX10_asksNote_9 rfl rfl ?_
    refine z_i2l (u := x2.toInt) E dX10_asksNote_10 rfl (fun z_6 hz_6 => ?_)
    refine s_vI (As := [AL z_6]) (S := []) E (Z_X10_isLady_95 l D aC b u_1 z_6 hj_4.1 ) cv_X10_222 rfl rfl rfl (jv_lt hj_4 (by decide)) (Nat.le_of_ble_eq_true rfl) (Nat.le_of_ble_eq_true rfl) ⟨(Nat.le_of_ble_eq_true rfl), (Nat.le_of_ble_eq_true rfl)⟩ (Nat.le_of_ble_eq_true rfl) dX10_asksNote_11 (fun z_9 u_7 hp_8 => ?_)
    obtain ⟨hz_9, hxz_9, hp_8⟩ := hp_8
    subst hp_8
    refine z_if_ne (tgt := 19) (u := z_9.toInt) E dX10_asksNote_14 (by decide) rfl (fun h_11 => ?_) (fun h_11 => ?_)
    ·
      refine s_aload_n E dX10_asksNote_19 rfl rfl ?_
      refine s_iload_n E dX10_asksNote_20 rfl rfl ?_
      refine s_vI (As := [AI x1]) (S := []) E (Z_X10_goNote__95 l D aC b u_1 x1 hj_4.1 ⟨by have hb_ := z32 x1; omega, by have hb_ := z32 x1; omega⟩) cv_X10_338 rfl rfl rfl (jv_lt hj_4 (by decide)) (Nat.le_of_ble_eq_true rfl) (Nat.le_of_ble_eq_true rfl) ⟨(Nat.le_of_ble_eq_true rfl), (Nat.le_of_ble_eq_true rfl)⟩ (Nat.le_of_ble_eq_true rfl) dX10_asksNote_21 (fun z_14 u_12 hp_13 => ?_)
      obtain ⟨hz_14, hxz_14, hf_u_12_96, hp_13⟩ := hp_13
      have hj_15 := jv_trans hj_4 hp_13
      have hn_ := hxz_14
      refine s_popI E dX10_asksNote_24 ?_
      refine s_iconst (v := 1) E dX10_asksNote_25 (by decide) ?_
      exact r_bool E dX10_asksNote_26 (Or.inr rfl) ⟨⟨by decide, by decide, by first | (left; decide) | (right; decide) | (right; have hb_ := z32 x1; omega), by first | (left; decide) | (right; decide) | (right; have hb_ := z32 x2; omega)⟩, (Or.inr hn_), hj_15⟩
    ·
      refine s_iconst (v := 0) E dX10_asksNote_17 (by decide) ?_
      exact r_bool E dX10_asksNote_18 (Or.inl rfl) ⟨⟨by decide, by decide, by first | (left; decide) | (right; decide) | (right; have hb_ := z32 x1; omega), by first | (left; decide) | (right; decide) | (right; have hb_ := z32 x2; omega)⟩, (Or.inl (by decide)), hj_4⟩
set_option maxRecDepth 20000 in
set_option maxHeartbeats 2000000 in
theorem Z_X10_hands_95 (l : Launch) (D : va_G) (aC : Nat → ClassId) (b : Nat) (w : XW) (x1 : Int32) (x2 : Int32) (hI : Iv w)  : CnI l D aC b M_X10_hands 6 139 0 0 [AR 95, AI x1, AI x2] w (fun r u => ((-2147483648) ≤ r.toInt ∧ r.toInt ≤ 2147483647 ∧ (¬ r.toInt = 0 ∨ (0 ≤ x1.toInt ∧ x1.toInt ≤ 5)) ∧ (¬ r.toInt = 0 ∨ (0 ≤ x2.toInt ∧ x2.toInt ≤ 5))) ∧ Jv w u) := by
  refine cn_I (own := RX10) (nm := "hands") (L0 := [some (AR 95), some (AI x1), some (AI x2), none, none]) (by decide +kernel) rfl rfl (Nat.le_of_ble_eq_true rfl) rfl ?_
  intro p e s m args below meth c E hin
  have hJ : Jv w w := jv_rfl hI
  have hb_x1 := z32 x1
  have hb_x2 := z32 x2
  refine s_aload_n E dX10_hands_0 rfl rfl ?_
  refine s_iload_n E dX10_hands_1 rfl rfl ?_
  refine s_iload_n E dX10_hands_2 rfl rfl ?_
  refine s_vI (As := [AI x1, AI x2]) (S := []) E (Z_X10_asksNote_95 l D aC b w x1 x2 hJ.1 ) cv_X10_340 rfl rfl rfl (jv_lt hJ (by decide)) (Nat.le_of_ble_eq_true rfl) (Nat.le_of_ble_eq_true rfl) ⟨(Nat.le_of_ble_eq_true rfl), (Nat.le_of_ble_eq_true rfl)⟩ (Nat.le_of_ble_eq_true rfl) dX10_hands_3 (fun z_3 u_1 hp_2 => ?_)
  obtain ⟨hz_3, hxz_3, hp_2⟩ := hp_2
  have hj_4 := jv_trans hJ hp_2
  have hn_ := hxz_3
  refine z_if_ne (tgt := 12) (u := z_3.toInt) E dX10_hands_6 (by decide) rfl (fun h_5 => ?_) (fun h_5 => ?_)
  ·
    replace hn_ := hn_.resolve_left (by omega)
    refine s_aload_n E dX10_hands_12 rfl rfl ?_
    refine s_gR (r := 107) E fg_X10_49 rfl rfl (jv_lt hj_4 (by decide)) (jv_r hj_4 (by decide +kernel)) dX10_hands_13 ?_
    refine s_iload_n E dX10_hands_16 rfl rfl ?_
    refine s_iald E rfl (jv_lt hj_4 (by decide)) (z_in (u := x2.toInt) rfl (by omega) (by omega)) dX10_hands_17 ?_
    refine z_nm (P := fun z => z.toInt = (u_1.2.2.1 107 x2.toNatClampNeg).toInt ∧ (-1) ≤ z.toInt ∧ z.toInt ≤ 14) ⟨rfl, (ra_107 hj_4 _)⟩ (fun z_6 hz_6 => ?_)
    refine s_iconst (v := (-1)) E dX10_hands_18 (by decide) ?_
    refine z_icmp_ne (tgt := 24) (u := z_6.toInt) (v := (-1)) E dX10_hands_19 (by decide) rfl (by decide) (fun h_7 => ?_) (fun h_7 => ?_)
    ·
      refine s_iconst (v := 0) E dX10_hands_24 (by decide) ?_
      refine s_istore_n (L2 := [some (AR 95), some (AI x1), some (AI x2), some (AI 0), none]) E dX10_hands_25 rfl (by decide) rfl ?_
      refine s_iload_n E dX10_hands_26 rfl rfl ?_
      refine s_istore (L2 := [some (AR 95), some (AI x1), some (AI x2), some (AI 0), some (AI x2)]) E dX10_hands_27 (by decide) rfl ?_
      refine z_loop (St := Int32 × Int32) (Pi := fun ⟨q29_3_7, q29_4_7⟩ v29 => (0 ≤ q29_4_7.toInt ∧ q29_4_7.toInt ≤ 5) ∧ (q29_4_7.toInt = x1.toInt ∨ ¬ (u_1.2.2.1 107 q29_4_7.toNatClampNeg).toInt = -1) ∧ u_1 = v29) (Lf := fun ⟨q29_3_7, q29_4_7⟩ => [some (AR 95), some (AI x1), some (AI x2), some (AI q29_3_7), some (AI q29_4_7)]) (fun ⟨q29_3_7, q29_4_7⟩ v29 => (if q29_4_7.toInt = x1.toInt then 0 else ((v29.2.2.1 107 q29_4_7.toNatClampNeg).toInt + 2).toNat)) ⟨0, x2⟩ ⟨⟨by have hb_ := z32 x2; omega, by have hb_ := z32 x2; omega⟩, (Or.inr (by omega)), rfl⟩ ?_
      rintro ⟨q29_3_7, q29_4_7⟩ v29 ⟨hq29_4, hl29, hv_⟩ ih29
      subst hv_
      have hbq29_3 := z32 q29_3_7
      refine s_loc (L2 := [some (AR 95), some (AI x1), some (AI x2), some (AI q29_3_7), some (AI q29_4_7)]) rfl ?_
      refine s_iload E dX10_hands_29 rfl ?_
      refine s_iload_n E dX10_hands_31 rfl rfl ?_
      refine z_icmp_eq (tgt := 50) (u := q29_4_7.toInt) (v := x1.toInt) E dX10_hands_32 (by decide) rfl rfl (fun h_9 => ?_) (fun h_9 => ?_)
      ·
        refine s_iload_n E dX10_hands_50 rfl rfl ?_
        exact r_int E dX10_hands_51 ⟨⟨by have hb_ := z32 q29_3_7; omega, by have hb_ := z32 q29_3_7; omega, by first | (right; decide) | (have hb_ := z32 q29_3_7; omega) | (have hb_ := z32 q29_3_7; have hc_ := z32 x1; omega), by first | (right; decide) | (have hb_ := z32 q29_3_7; omega) | (have hb_ := z32 q29_3_7; have hc_ := z32 x2; omega)⟩, hj_4⟩
      ·
        obtain ⟨g1_, g2_, g3_⟩ := hn_ q29_4_7.toNatClampNeg (by have e_ : q29_4_7.toNatClampNeg = q29_4_7.toInt.toNat := rfl; omega) (by have e_ : q29_4_7.toNatClampNeg = q29_4_7.toInt.toNat := rfl; omega) (hl29.resolve_left (by omega))
        have gr_ := ra_107 hj_4 q29_4_7.toNatClampNeg
        refine z_iincW (L2 := fun z_10 => [some (AR 95), some (AI x1), some (AI x2), some (AI z_10), some (AI q29_4_7)]) E dX10_hands_35 rfl (by decide) (fun _ => rfl) (fun z_10 => ?_)
        refine s_aload_n E dX10_hands_38 rfl rfl ?_
        refine s_gR (r := 108) E fg_X10_52 rfl rfl (jv_lt hj_4 (by decide)) (jv_r hj_4 (by decide +kernel)) dX10_hands_39 ?_
        refine s_iload E dX10_hands_42 rfl ?_
        refine s_iald E rfl (jv_lt hj_4 (by decide)) (z_in (u := q29_4_7.toInt) rfl (by omega) (by omega)) dX10_hands_44 ?_
        refine z_nm (P := fun z => z.toInt = (u_1.2.2.1 108 q29_4_7.toNatClampNeg).toInt ∧ (-1) ≤ z.toInt ∧ z.toInt ≤ 5) ⟨rfl, (ra_108 hj_4 _)⟩ (fun z_11 hz_11 => ?_)
        have hO_ : z_11.toInt = x1.toInt ∨ (¬ (u_1.2.2.1 107 z_11.toNatClampNeg).toInt = -1 ∧ (u_1.2.2.1 107 z_11.toNatClampNeg).toInt < (u_1.2.2.1 107 q29_4_7.toNatClampNeg).toInt) := by have e_ : z_11.toNatClampNeg = (u_1.2.2.1 108 q29_4_7.toNatClampNeg).toInt.toNat := (by have e2_ : z_11.toNatClampNeg = z_11.toInt.toNat := rfl; omega); rw [e_]; omega
        refine s_istore (L2 := [some (AR 95), some (AI x1), some (AI x2), some (AI z_10), some (AI z_11)]) E dX10_hands_45 (by decide) rfl ?_
        refine s_goto (tgt := 29) E dX10_hands_47 (by decide) ?_
        exact ih29 ⟨z_10, z_11⟩ u_1 ⟨⟨by have hb_ := z32 z_11; omega, by have hb_ := z32 z_11; omega⟩, (hO_.elim Or.inl (fun h_ => Or.inr h_.1)), rfl⟩ (by (try dsimp only); split <;> (try split) <;> omega)
    ·
      refine s_iconst (v := (-1)) E dX10_hands_22 (by decide) ?_
      exact r_int E dX10_hands_23 ⟨⟨by decide, by decide, by first | (left; decide) | (right; decide) | (right; have hb_ := z32 x1; omega), by first | (left; decide) | (right; decide) | (right; have hb_ := z32 x2; omega)⟩, hj_4⟩
  ·
    refine s_bipush (v := (-2)) E dX10_hands_9 (by decide) ?_
    exact r_int E dX10_hands_11 ⟨⟨by decide, by decide, by first | (left; decide) | (right; decide) | (right; have hb_ := z32 x1; omega), by first | (left; decide) | (right; decide) | (right; have hb_ := z32 x2; omega)⟩, hj_4⟩
set_option maxRecDepth 20000 in
set_option maxHeartbeats 2000000 in
theorem Z_X10_allLadies_95 (l : Launch) (D : va_G) (aC : Nat → ClassId) (b : Nat) (w : XW)  (hI : Iv w)  : CnI l D aC b M_X10_allLadies 1 20 0 0 [AR 95] w (fun r u => (0 ≤ r.toInt ∧ r.toInt ≤ 63) ∧ w = u) := by
  refine cn_I (own := RX10) (nm := "allLadies") (L0 := [some (AR 95)]) (by decide +kernel) rfl rfl (Nat.le_of_ble_eq_true rfl) rfl ?_
  intro p e s m args below meth c E hin
  have hJ : Jv w w := jv_rfl hI
  refine s_iconst (v := 1) E dX10_allLadies_0 (by decide) ?_
  refine s_aload_n E dX10_allLadies_1 rfl rfl ?_
  refine s_vI (As := []) (S := [AI 1]) E (Z_X10_ladies_95 l D aC b w  hJ.1 ) cv_X10_244 rfl rfl rfl (jv_lt hJ (by decide)) (Nat.le_of_ble_eq_true rfl) (Nat.le_of_ble_eq_true rfl) ⟨(Nat.le_of_ble_eq_true rfl), (Nat.le_of_ble_eq_true rfl)⟩ (Nat.le_of_ble_eq_true rfl) dX10_allLadies_2 (fun z_3 u_1 hp_2 => ?_)
  obtain ⟨hz_3, hxz_3, hp_2⟩ := hp_2
  subst hp_2
  refine z_shl1 6 (u := z_3.toInt) (B := 64) E dX10_allLadies_5 rfl (by omega) (by omega) (by decide) (by decide) (fun z_5 hz_5 => ?_)
  refine s_iconst (v := 1) E dX10_allLadies_6 (by decide) ?_
  refine z_isub (u := z_5.toInt) (v := 1) E dX10_allLadies_7 rfl (by decide) (by omega) (by omega) (fun z_6 hz_6 => ?_)
  exact r_int E dX10_allLadies_8 ⟨⟨by have hb_ := z32 z_6; omega, by have hb_ := z32 z_6; omega⟩, rfl⟩
set_option maxRecDepth 20000 in
set_option maxHeartbeats 2000000 in
theorem Z_X10_seatsIn_95 (l : Launch) (D : va_G) (aC : Nat → ClassId) (b : Nat) (w : XW) (x1 : Int32) (hI : Iv w)  : CnI l D aC b M_X10_seatsIn 1 21 0 0 [AR 95, AI x1] w (fun r u => ((-2147483648) ≤ r.toInt ∧ r.toInt ≤ 2147483647) ∧ w = u) := by
  refine cn_I (own := RX10) (nm := "seatsIn") (L0 := [some (AR 95), some (AI x1), none, none]) (by decide +kernel) rfl rfl (Nat.le_of_ble_eq_true rfl) rfl ?_
  intro p e s m args below meth c E hin
  have hJ : Jv w w := jv_rfl hI
  have hb_x1 := z32 x1
  refine s_iconst (v := 0) E dX10_seatsIn_0 (by decide) ?_
  refine s_istore_n (L2 := [some (AR 95), some (AI x1), some (AI 0), none]) E dX10_seatsIn_1 rfl (by decide) rfl ?_
  refine s_iconst (v := 0) E dX10_seatsIn_2 (by decide) ?_
  refine s_istore_n (L2 := [some (AR 95), some (AI x1), some (AI 0), some (AI 0)]) E dX10_seatsIn_3 rfl (by decide) rfl ?_
  refine z_loop (St := Int32 × Int32) (Pi := fun ⟨q4_2_0, q4_3_0⟩ v4 => (0 ≤ q4_3_0.toInt ∧ q4_3_0.toInt ≤ 6) ∧ w = v4) (Lf := fun ⟨q4_2_0, q4_3_0⟩ => [some (AR 95), some (AI x1), some (AI q4_2_0), some (AI q4_3_0)]) (fun ⟨q4_2_0, q4_3_0⟩ _ => (7 - q4_3_0.toInt).toNat) ⟨0, 0⟩ ⟨⟨by decide, by decide⟩, rfl⟩ ?_
  rintro ⟨q4_2_0, q4_3_0⟩ v4 ⟨hq4_3, hv_⟩ ih4
  subst hv_
  have hbq4_2 := z32 q4_2_0
  refine s_loc (L2 := [some (AR 95), some (AI x1), some (AI q4_2_0), some (AI q4_3_0)]) rfl ?_
  refine s_iload_n E dX10_seatsIn_4 rfl rfl ?_
  refine s_aload_n E dX10_seatsIn_5 rfl rfl ?_
  refine s_vI (As := []) (S := [AI q4_3_0]) E (Z_X10_ladies_95 l D aC b w  hJ.1 ) cv_X10_244 rfl rfl rfl (jv_lt hJ (by decide)) (Nat.le_of_ble_eq_true rfl) (Nat.le_of_ble_eq_true rfl) ⟨(Nat.le_of_ble_eq_true rfl), (Nat.le_of_ble_eq_true rfl)⟩ (Nat.le_of_ble_eq_true rfl) dX10_seatsIn_6 (fun z_4 u_2 hp_3 => ?_)
  obtain ⟨hz_4, hxz_4, hp_3⟩ := hp_3
  subst hp_3
  refine z_icmp_ge (tgt := 33) (u := q4_3_0.toInt) (v := z_4.toInt) E dX10_seatsIn_9 (by decide) rfl rfl (fun h_6 => ?_) (fun h_6 => ?_)
  ·
    refine s_iload_n E dX10_seatsIn_33 rfl rfl ?_
    exact r_int E dX10_seatsIn_34 ⟨⟨by have hb_ := z32 q4_2_0; omega, by have hb_ := z32 q4_2_0; omega⟩, rfl⟩
  ·
    refine s_iload_n E dX10_seatsIn_12 rfl rfl ?_
    refine s_iload_n E dX10_seatsIn_13 rfl rfl ?_
    refine s_iload_n E dX10_seatsIn_14 rfl rfl ?_
    refine s_sI (As := [AI x1, AI q4_3_0]) (S := [AI q4_2_0]) E (Z_X10_bit l D aC b w x1 q4_3_0 hJ.1 ) cs_X10_252 rfl rfl (Nat.le_of_ble_eq_true rfl) (Nat.le_of_ble_eq_true rfl) ⟨(Nat.le_of_ble_eq_true rfl), (Nat.le_of_ble_eq_true rfl)⟩ (Nat.le_of_ble_eq_true rfl) dX10_seatsIn_15 (fun z_9 u_7 hp_8 => ?_)
    obtain ⟨hz_9, hxz_9, hp_8⟩ := hp_8
    subst hp_8
    refine s_aload_n E dX10_seatsIn_18 rfl rfl ?_
    refine s_gR (r := 105) E fg_X10_43 rfl rfl (jv_lt hJ (by decide)) (jv_r hJ (by decide +kernel)) dX10_seatsIn_19 ?_
    refine s_iload_n E dX10_seatsIn_22 rfl rfl ?_
    refine s_iald E rfl (jv_lt hJ (by decide)) (z_in (u := q4_3_0.toInt) rfl (by omega) (by omega)) dX10_seatsIn_23 ?_
    refine z_nm (P := fun z => (-2147483648) ≤ z.toInt ∧ z.toInt ≤ 2147483647) (z32 _) (fun z_11 hz_11 => ?_)
    refine s_imul E dX10_seatsIn_24 ?_
    refine z_nm (P := fun z => (-2147483648) ≤ z.toInt ∧ z.toInt ≤ 2147483647) (z32 _) (fun z_12 hz_12 => ?_)
    refine s_iadd E dX10_seatsIn_25 ?_
    refine z_nm (P := fun z => (-2147483648) ≤ z.toInt ∧ z.toInt ≤ 2147483647) (z32 _) (fun z_13 hz_13 => ?_)
    refine s_istore_n (L2 := [some (AR 95), some (AI x1), some (AI z_13), some (AI q4_3_0)]) E dX10_seatsIn_26 rfl (by decide) rfl ?_
    refine z_iinc (u := q4_3_0.toInt) (L2 := fun z_14 => [some (AR 95), some (AI x1), some (AI z_13), some (AI z_14)]) E dX10_seatsIn_27 rfl rfl (by decide) (fun _ => rfl) (by decide) (by omega) (by omega) (fun z_14 hz_14 => ?_)
    refine s_goto (tgt := 4) E dX10_seatsIn_30 (by decide) ?_
    exact ih4 ⟨z_13, z_14⟩ w ⟨⟨by have hb_ := z32 z_14; omega, by have hb_ := z32 z_14; omega⟩, rfl⟩ (by first | omega | decide | (dsimp only; omega) | (dsimp only; decide))
set_option maxRecDepth 20000 in
set_option maxHeartbeats 2000000 in
theorem Z_X10_doesHold_95 (l : Launch) (D : va_G) (aC : Nat → ClassId) (b : Nat) (w : XW) (x1 : Int32) (hI : Iv w)  : CnI l D aC b M_X10_doesHold 2 44 0 0 [AR 95, AI x1] w (fun r u => (0 ≤ r.toInt ∧ r.toInt ≤ 1) ∧ w = u) := by
  refine cn_I (own := RX10) (nm := "doesHold") (L0 := [some (AR 95), some (AI x1)]) (by decide +kernel) rfl rfl (Nat.le_of_ble_eq_true rfl) rfl ?_
  intro p e s m args below meth c E hin
  have hJ : Jv w w := jv_rfl hI
  have hb_x1 := z32 x1
  refine s_iconst (v := 2) E dX10_doesHold_0 (by decide) ?_
  refine s_aload_n E dX10_doesHold_1 rfl rfl ?_
  refine s_iload_n E dX10_doesHold_2 rfl rfl ?_
  refine s_vI (As := [AI x1]) (S := [AI 2]) E (Z_X10_seatsIn_95 l D aC b w x1 hJ.1 ) cv_X10_390 rfl rfl rfl (jv_lt hJ (by decide)) (Nat.le_of_ble_eq_true rfl) (Nat.le_of_ble_eq_true rfl) ⟨(Nat.le_of_ble_eq_true rfl), (Nat.le_of_ble_eq_true rfl)⟩ (Nat.le_of_ble_eq_true rfl) dX10_doesHold_3 (fun z_3 u_1 hp_2 => ?_)
  obtain ⟨hz_3, hp_2⟩ := hp_2
  subst hp_2
  refine s_imul E dX10_doesHold_6 ?_
  refine z_nm (P := fun z => (-2147483648) ≤ z.toInt ∧ z.toInt ≤ 2147483647) (z32 _) (fun z_5 hz_5 => ?_)
  refine s_aload_n E dX10_doesHold_7 rfl rfl ?_
  refine s_aload_n E dX10_doesHold_8 rfl rfl ?_
  refine s_vI (As := []) (S := [AR 95, AI z_5]) E (Z_X10_allLadies_95 l D aC b w  hJ.1 ) cv_X10_393 rfl rfl rfl (jv_lt hJ (by decide)) (Nat.le_of_ble_eq_true rfl) (Nat.le_of_ble_eq_true rfl) ⟨(Nat.le_of_ble_eq_true rfl), (Nat.le_of_ble_eq_true rfl)⟩ (Nat.le_of_ble_eq_true rfl) dX10_doesHold_9 (fun z_8 u_6 hp_7 => ?_)
  obtain ⟨hz_8, hp_7⟩ := hp_7
  subst hp_7
  refine s_vI (As := [AI z_8]) (S := [AI z_5]) E (Z_X10_seatsIn_95 l D aC b w z_8 hJ.1 ) cv_X10_390 rfl rfl rfl (jv_lt hJ (by decide)) (Nat.le_of_ble_eq_true rfl) (Nat.le_of_ble_eq_true rfl) ⟨(Nat.le_of_ble_eq_true rfl), (Nat.le_of_ble_eq_true rfl)⟩ (Nat.le_of_ble_eq_true rfl) dX10_doesHold_12 (fun z_12 u_10 hp_11 => ?_)
  obtain ⟨hz_12, hp_11⟩ := hp_11
  subst hp_11
  refine z_icmp_le (tgt := 22) (u := z_5.toInt) (v := z_12.toInt) E dX10_doesHold_15 (by decide) rfl rfl (fun h_14 => ?_) (fun h_14 => ?_)
  ·
    refine s_iconst (v := 0) E dX10_doesHold_22 (by decide) ?_
    exact r_bool E dX10_doesHold_23 (Or.inl rfl) ⟨(by decide), rfl⟩
  ·
    refine s_iconst (v := 1) E dX10_doesHold_18 (by decide) ?_
    refine s_goto (tgt := 23) E dX10_doesHold_19 (by decide) ?_
    exact r_bool E dX10_doesHold_23 (Or.inr rfl) ⟨(by decide), rfl⟩
set_option maxRecDepth 20000 in
set_option maxHeartbeats 2000000 in
theorem Z_X10_powerOf_95 (l : Launch) (D : va_G) (aC : Nat → ClassId) (b : Nat) (w : XW) (x1 : Int32) (hI : Iv w) (hx1 : 0 ≤ x1.toInt ∧ x1.toInt ≤ 5) : CnI l D aC b M_X10_powerOf 3 65 0 0 [AR 95, AI x1] w (fun r u => ((-2147483648) ≤ r.toInt ∧ r.toInt ≤ 2147483647) ∧ w = u) := by
  refine cn_I (own := RX10) (nm := "powerOf") (L0 := [some (AR 95), some (AI x1), none, none]) (by decide +kernel) rfl rfl (Nat.le_of_ble_eq_true rfl) rfl ?_
  intro p e s m args below meth c E hin
  have hJ : Jv w w := jv_rfl hI
  refine s_iconst (v := 0) E dX10_powerOf_0 (by decide) ?_
  refine s_istore_n (L2 := [some (AR 95), some (AI x1), some (AI 0), none]) E dX10_powerOf_1 rfl (by decide) rfl ?_
  refine s_iconst (v := 0) E dX10_powerOf_2 (by decide) ?_
  refine s_istore_n (L2 := [some (AR 95), some (AI x1), some (AI 0), some (AI 0)]) E dX10_powerOf_3 rfl (by decide) rfl ?_
  refine z_loop (St := Int32 × Int32) (Pi := fun ⟨q4_2_0, q4_3_0⟩ v4 => (0 ≤ q4_3_0.toInt ∧ q4_3_0.toInt ≤ 64) ∧ w = v4) (Lf := fun ⟨q4_2_0, q4_3_0⟩ => [some (AR 95), some (AI x1), some (AI q4_2_0), some (AI q4_3_0)]) (fun ⟨q4_2_0, q4_3_0⟩ _ => (65 - q4_3_0.toInt).toNat) ⟨0, 0⟩ ⟨⟨by decide, by decide⟩, rfl⟩ ?_
  rintro ⟨q4_2_0, q4_3_0⟩ v4 ⟨hq4_3, hv_⟩ ih4
  subst hv_
  have hbq4_2 := z32 q4_2_0
  refine s_loc (L2 := [some (AR 95), some (AI x1), some (AI q4_2_0), some (AI q4_3_0)]) rfl ?_
  refine s_iload_n E dX10_powerOf_4 rfl rfl ?_
  refine s_aload_n E dX10_powerOf_5 rfl rfl ?_
  refine s_vI (As := []) (S := [AI q4_3_0]) E (Z_X10_allLadies_95 l D aC b w  hJ.1 ) cv_X10_393 rfl rfl rfl (jv_lt hJ (by decide)) (Nat.le_of_ble_eq_true rfl) (Nat.le_of_ble_eq_true rfl) ⟨(Nat.le_of_ble_eq_true rfl), (Nat.le_of_ble_eq_true rfl)⟩ (Nat.le_of_ble_eq_true rfl) dX10_powerOf_6 (fun z_4 u_2 hp_3 => ?_)
  obtain ⟨hz_4, hp_3⟩ := hp_3
  subst hp_3
  refine z_icmp_gt (tgt := 57) (u := q4_3_0.toInt) (v := z_4.toInt) E dX10_powerOf_9 (by decide) rfl rfl (fun h_6 => ?_) (fun h_6 => ?_)
  ·
    refine s_iload_n E dX10_powerOf_57 rfl rfl ?_
    exact r_int E dX10_powerOf_58 ⟨⟨by have hb_ := z32 q4_2_0; omega, by have hb_ := z32 q4_2_0; omega⟩, rfl⟩
  ·
    refine s_iload_n E dX10_powerOf_12 rfl rfl ?_
    refine s_iload_n E dX10_powerOf_13 rfl rfl ?_
    refine s_iload_n E dX10_powerOf_14 rfl rfl ?_
    refine s_sI (As := [AI q4_3_0, AI x1]) (S := [AI q4_2_0]) E (Z_X10_bit l D aC b w q4_3_0 x1 hJ.1 ) cs_X10_252 rfl rfl (Nat.le_of_ble_eq_true rfl) (Nat.le_of_ble_eq_true rfl) ⟨(Nat.le_of_ble_eq_true rfl), (Nat.le_of_ble_eq_true rfl)⟩ (Nat.le_of_ble_eq_true rfl) dX10_powerOf_15 (fun z_9 u_7 hp_8 => ?_)
    obtain ⟨hz_9, hxz_9, hp_8⟩ := hp_8
    subst hp_8
    refine s_iconst (v := 1) E dX10_powerOf_18 (by decide) ?_
    refine z_icmp_ne (tgt := 48) (u := z_9.toInt) (v := 1) E dX10_powerOf_19 (by decide) rfl (by decide) (fun h_11 => ?_) (fun h_11 => ?_)
    ·
      refine s_iconst (v := 0) E dX10_powerOf_48 (by decide) ?_
      refine z_iadd (u := q4_2_0.toInt) (v := 0) E dX10_powerOf_49 rfl (by decide) (by omega) (by omega) (fun z_12 hz_12 => ?_)
      refine s_istore_n (L2 := [some (AR 95), some (AI x1), some (AI z_12), some (AI q4_3_0)]) E dX10_powerOf_50 rfl (by decide) rfl ?_
      refine z_iinc (u := q4_3_0.toInt) (L2 := fun z_13 => [some (AR 95), some (AI x1), some (AI z_12), some (AI z_13)]) E dX10_powerOf_51 rfl rfl (by decide) (fun _ => rfl) (by decide) (by omega) (by omega) (fun z_13 hz_13 => ?_)
      refine s_goto (tgt := 4) E dX10_powerOf_54 (by decide) ?_
      exact ih4 ⟨z_12, z_13⟩ w ⟨⟨by have hb_ := z32 z_13; omega, by have hb_ := z32 z_13; omega⟩, rfl⟩ (by first | omega | decide | (dsimp only; omega) | (dsimp only; decide))
    ·
      refine s_aload_n E dX10_powerOf_22 rfl rfl ?_
      refine s_iload_n E dX10_powerOf_23 rfl rfl ?_
      refine s_vI (As := [AI q4_3_0]) (S := [AI q4_2_0]) E (Z_X10_doesHold_95 l D aC b w q4_3_0 hJ.1 ) cv_X10_396 rfl rfl rfl (jv_lt hJ (by decide)) (Nat.le_of_ble_eq_true rfl) (Nat.le_of_ble_eq_true rfl) ⟨(Nat.le_of_ble_eq_true rfl), (Nat.le_of_ble_eq_true rfl)⟩ (Nat.le_of_ble_eq_true rfl) dX10_powerOf_24 (fun z_16 u_14 hp_15 => ?_)
      obtain ⟨hz_16, hp_15⟩ := hp_15
      subst hp_15
      refine z_if_eq (tgt := 48) (u := z_16.toInt) E dX10_powerOf_27 (by decide) rfl (fun h_18 => ?_) (fun h_18 => ?_)
      ·
        refine s_iconst (v := 0) E dX10_powerOf_48 (by decide) ?_
        refine z_iadd (u := q4_2_0.toInt) (v := 0) E dX10_powerOf_49 rfl (by decide) (by omega) (by omega) (fun z_19 hz_19 => ?_)
        refine s_istore_n (L2 := [some (AR 95), some (AI x1), some (AI z_19), some (AI q4_3_0)]) E dX10_powerOf_50 rfl (by decide) rfl ?_
        refine z_iinc (u := q4_3_0.toInt) (L2 := fun z_20 => [some (AR 95), some (AI x1), some (AI z_19), some (AI z_20)]) E dX10_powerOf_51 rfl rfl (by decide) (fun _ => rfl) (by decide) (by omega) (by omega) (fun z_20 hz_20 => ?_)
        refine s_goto (tgt := 4) E dX10_powerOf_54 (by decide) ?_
        exact ih4 ⟨z_19, z_20⟩ w ⟨⟨by have hb_ := z32 z_20; omega, by have hb_ := z32 z_20; omega⟩, rfl⟩ (by first | omega | decide | (dsimp only; omega) | (dsimp only; decide))
      ·
        refine s_aload_n E dX10_powerOf_30 rfl rfl ?_
        refine s_iload_n E dX10_powerOf_31 rfl rfl ?_
        refine s_iconst (v := 1) E dX10_powerOf_32 (by decide) ?_
        refine s_iload_n E dX10_powerOf_33 rfl rfl ?_
        refine z_shl1 5 (u := x1.toInt) (B := 32) E dX10_powerOf_34 rfl (by omega) (by omega) (by decide) (by decide) (fun z_21 hz_21 => ?_)
        refine s_iconst (v := (-1)) E dX10_powerOf_35 (by decide) ?_
        refine s_ixor E dX10_powerOf_36 ?_
        refine z_nm (P := fun z => (-2147483648) ≤ z.toInt ∧ z.toInt ≤ 2147483647) (z32 _) (fun z_22 hz_22 => ?_)
        refine s_iand E dX10_powerOf_37 ?_
        refine z_nm (P := fun z => (-2147483648) ≤ z.toInt ∧ z.toInt ≤ 2147483647) (z32 _) (fun z_23 hz_23 => ?_)
        refine s_vI (As := [AI z_23]) (S := [AI q4_2_0]) E (Z_X10_doesHold_95 l D aC b w z_23 hJ.1 ) cv_X10_396 rfl rfl rfl (jv_lt hJ (by decide)) (Nat.le_of_ble_eq_true rfl) (Nat.le_of_ble_eq_true rfl) ⟨(Nat.le_of_ble_eq_true rfl), (Nat.le_of_ble_eq_true rfl)⟩ (Nat.le_of_ble_eq_true rfl) dX10_powerOf_38 (fun z_26 u_24 hp_25 => ?_)
        obtain ⟨hz_26, hp_25⟩ := hp_25
        subst hp_25
        refine z_if_ne (tgt := 48) (u := z_26.toInt) E dX10_powerOf_41 (by decide) rfl (fun h_28 => ?_) (fun h_28 => ?_)
        ·
          refine s_iconst (v := 0) E dX10_powerOf_48 (by decide) ?_
          refine z_iadd (u := q4_2_0.toInt) (v := 0) E dX10_powerOf_49 rfl (by decide) (by omega) (by omega) (fun z_29 hz_29 => ?_)
          refine s_istore_n (L2 := [some (AR 95), some (AI x1), some (AI z_29), some (AI q4_3_0)]) E dX10_powerOf_50 rfl (by decide) rfl ?_
          refine z_iinc (u := q4_3_0.toInt) (L2 := fun z_30 => [some (AR 95), some (AI x1), some (AI z_29), some (AI z_30)]) E dX10_powerOf_51 rfl rfl (by decide) (fun _ => rfl) (by decide) (by omega) (by omega) (fun z_30 hz_30 => ?_)
          refine s_goto (tgt := 4) E dX10_powerOf_54 (by decide) ?_
          exact ih4 ⟨z_29, z_30⟩ w ⟨⟨by have hb_ := z32 z_30; omega, by have hb_ := z32 z_30; omega⟩, rfl⟩ (by first | omega | decide | (dsimp only; omega) | (dsimp only; decide))
        ·
          refine s_iconst (v := 1) E dX10_powerOf_44 (by decide) ?_
          refine s_goto (tgt := 49) E dX10_powerOf_45 (by decide) ?_
          refine s_iadd E dX10_powerOf_49 ?_
          refine z_nm (P := fun z => (-2147483648) ≤ z.toInt ∧ z.toInt ≤ 2147483647) (z32 _) (fun z_31 hz_31 => ?_)
          refine s_istore_n (L2 := [some (AR 95), some (AI x1), some (AI z_31), some (AI q4_3_0)]) E dX10_powerOf_50 rfl (by decide) rfl ?_
          refine z_iinc (u := q4_3_0.toInt) (L2 := fun z_32 => [some (AR 95), some (AI x1), some (AI z_31), some (AI z_32)]) E dX10_powerOf_51 rfl rfl (by decide) (fun _ => rfl) (by decide) (by omega) (by omega) (fun z_32 hz_32 => ?_)
          refine s_goto (tgt := 4) E dX10_powerOf_54 (by decide) ?_
          exact ih4 ⟨z_31, z_32⟩ w ⟨⟨by have hb_ := z32 z_32; omega, by have hb_ := z32 z_32; omega⟩, rfl⟩ (by first | omega | decide | (dsimp only; omega) | (dsimp only; decide))
set_option maxRecDepth 20000 in
set_option maxHeartbeats 2000000 in
theorem Z_X10_dummies_95 (l : Launch) (D : va_G) (aC : Nat → ClassId) (b : Nat) (w : XW)  (hI : Iv w)  : CnI l D aC b M_X10_dummies 5 112 0 0 [AR 95] w (fun r u => ((-2147483648) ≤ r.toInt ∧ r.toInt ≤ 2147483647) ∧ Jv w u) := by
  refine cn_I (own := RX10) (nm := "dummies") (L0 := [some (AR 95), none, none]) (by decide +kernel) rfl rfl (Nat.le_of_ble_eq_true rfl) rfl ?_
  intro p e s m args below meth c E hin
  have hJ : Jv w w := jv_rfl hI
  refine s_aload_n E dX10_dummies_0 rfl rfl ?_
  refine s_vI (As := []) (S := []) E (Z_X10_asksBall_95 l D aC b w  hJ.1 ) cv_X10_322 rfl rfl rfl (jv_lt hJ (by decide)) (Nat.le_of_ble_eq_true rfl) (Nat.le_of_ble_eq_true rfl) ⟨(Nat.le_of_ble_eq_true rfl), (Nat.le_of_ble_eq_true rfl)⟩ (Nat.le_of_ble_eq_true rfl) dX10_dummies_1 (fun z_3 u_1 hp_2 => ?_)
  obtain ⟨hz_3, hp_2⟩ := hp_2
  have hj_4 := jv_trans hJ hp_2
  refine z_if_ne (tgt := 10) (u := z_3.toInt) E dX10_dummies_4 (by decide) rfl (fun h_5 => ?_) (fun h_5 => ?_)
  ·
    refine s_iconst (v := 0) E dX10_dummies_10 (by decide) ?_
    refine s_istore_n (L2 := [some (AR 95), some (AI 0), none]) E dX10_dummies_11 rfl (by decide) rfl ?_
    refine s_iconst (v := 0) E dX10_dummies_12 (by decide) ?_
    refine s_istore_n (L2 := [some (AR 95), some (AI 0), some (AI 0)]) E dX10_dummies_13 rfl (by decide) rfl ?_
    refine z_loop (St := Int32 × Int32) (Pi := fun ⟨q14_1_5, q14_2_5⟩ v14 => (0 ≤ q14_2_5.toInt ∧ q14_2_5.toInt ≤ 6) ∧ u_1 = v14) (Lf := fun ⟨q14_1_5, q14_2_5⟩ => [some (AR 95), some (AI q14_1_5), some (AI q14_2_5)]) (fun ⟨q14_1_5, q14_2_5⟩ _ => (7 - q14_2_5.toInt).toNat) ⟨0, 0⟩ ⟨⟨by decide, by decide⟩, rfl⟩ ?_
    rintro ⟨q14_1_5, q14_2_5⟩ v14 ⟨hq14_2, hv_⟩ ih14
    subst hv_
    have hbq14_1 := z32 q14_1_5
    refine s_loc (L2 := [some (AR 95), some (AI q14_1_5), some (AI q14_2_5)]) rfl ?_
    refine s_iload_n E dX10_dummies_14 rfl rfl ?_
    refine s_aload_n E dX10_dummies_15 rfl rfl ?_
    refine s_vI (As := []) (S := [AI q14_2_5]) E (Z_X10_ladies_95 l D aC b u_1  hj_4.1 ) cv_X10_244 rfl rfl rfl (jv_lt hj_4 (by decide)) (Nat.le_of_ble_eq_true rfl) (Nat.le_of_ble_eq_true rfl) ⟨(Nat.le_of_ble_eq_true rfl), (Nat.le_of_ble_eq_true rfl)⟩ (Nat.le_of_ble_eq_true rfl) dX10_dummies_16 (fun z_9 u_7 hp_8 => ?_)
    obtain ⟨hz_9, hxz_9, hp_8⟩ := hp_8
    subst hp_8
    refine z_icmp_ge (tgt := 46) (u := q14_2_5.toInt) (v := z_9.toInt) E dX10_dummies_19 (by decide) rfl rfl (fun h_11 => ?_) (fun h_11 => ?_)
    ·
      refine s_iload_n E dX10_dummies_46 rfl rfl ?_
      exact r_int E dX10_dummies_47 ⟨⟨by have hb_ := z32 q14_1_5; omega, by have hb_ := z32 q14_1_5; omega⟩, hj_4⟩
    ·
      refine s_iload_n E dX10_dummies_22 rfl rfl ?_
      refine s_aload_n E dX10_dummies_23 rfl rfl ?_
      refine s_iload_n E dX10_dummies_24 rfl rfl ?_
      refine s_vI (As := [AI q14_2_5]) (S := [AI q14_1_5]) E (Z_X10_powerOf_95 l D aC b u_1 q14_2_5 hj_4.1 ⟨by have hb_ := z32 q14_2_5; omega, by have hb_ := z32 q14_2_5; omega⟩) cv_X10_402 rfl rfl rfl (jv_lt hj_4 (by decide)) (Nat.le_of_ble_eq_true rfl) (Nat.le_of_ble_eq_true rfl) ⟨(Nat.le_of_ble_eq_true rfl), (Nat.le_of_ble_eq_true rfl)⟩ (Nat.le_of_ble_eq_true rfl) dX10_dummies_25 (fun z_14 u_12 hp_13 => ?_)
      obtain ⟨hz_14, hp_13⟩ := hp_13
      subst hp_13
      refine z_if_ne (tgt := 37) (u := z_14.toInt) E dX10_dummies_28 (by decide) rfl (fun h_16 => ?_) (fun h_16 => ?_)
      ·
        refine s_iconst (v := 0) E dX10_dummies_37 (by decide) ?_
        refine s_ior E dX10_dummies_38 ?_
        refine z_nm (P := fun z => (-2147483648) ≤ z.toInt ∧ z.toInt ≤ 2147483647) (z32 _) (fun z_17 hz_17 => ?_)
        refine s_istore_n (L2 := [some (AR 95), some (AI z_17), some (AI q14_2_5)]) E dX10_dummies_39 rfl (by decide) rfl ?_
        refine z_iinc (u := q14_2_5.toInt) (L2 := fun z_18 => [some (AR 95), some (AI z_17), some (AI z_18)]) E dX10_dummies_40 rfl rfl (by decide) (fun _ => rfl) (by decide) (by omega) (by omega) (fun z_18 hz_18 => ?_)
        refine s_goto (tgt := 14) E dX10_dummies_43 (by decide) ?_
        exact ih14 ⟨z_17, z_18⟩ u_1 ⟨⟨by have hb_ := z32 z_18; omega, by have hb_ := z32 z_18; omega⟩, rfl⟩ (by first | omega | decide | (dsimp only; omega) | (dsimp only; decide))
      ·
        refine s_iconst (v := 1) E dX10_dummies_31 (by decide) ?_
        refine s_iload_n E dX10_dummies_32 rfl rfl ?_
        refine z_shl1 5 (u := q14_2_5.toInt) (B := 32) E dX10_dummies_33 rfl (by omega) (by omega) (by decide) (by decide) (fun z_19 hz_19 => ?_)
        refine s_goto (tgt := 38) E dX10_dummies_34 (by decide) ?_
        refine s_ior E dX10_dummies_38 ?_
        refine z_nm (P := fun z => (-2147483648) ≤ z.toInt ∧ z.toInt ≤ 2147483647) (z32 _) (fun z_20 hz_20 => ?_)
        refine s_istore_n (L2 := [some (AR 95), some (AI z_20), some (AI q14_2_5)]) E dX10_dummies_39 rfl (by decide) rfl ?_
        refine z_iinc (u := q14_2_5.toInt) (L2 := fun z_21 => [some (AR 95), some (AI z_20), some (AI z_21)]) E dX10_dummies_40 rfl rfl (by decide) (fun _ => rfl) (by decide) (by omega) (by omega) (fun z_21 hz_21 => ?_)
        refine s_goto (tgt := 14) E dX10_dummies_43 (by decide) ?_
        exact ih14 ⟨z_20, z_21⟩ u_1 ⟨⟨by have hb_ := z32 z_21; omega, by have hb_ := z32 z_21; omega⟩, rfl⟩ (by first | omega | decide | (dsimp only; omega) | (dsimp only; decide))
  ·
    refine s_bipush (v := (-2)) E dX10_dummies_7 (by decide) ?_
    exact r_int E dX10_dummies_9 ⟨(by decide), hj_4⟩
set_option maxRecDepth 20000 in
set_option maxHeartbeats 2000000 in
theorem Z_X10_isSet_95 (l : Launch) (D : va_G) (aC : Nat → ClassId) (b : Nat) (w : XW) (x1 : Int32) (hI : Iv w)  : CnI l D aC b M_X10_isSet 1 25 0 0 [AR 95, AI x1] w (fun r u => (0 ≤ r.toInt ∧ r.toInt ≤ 1 ∧ (¬ r.toInt = 0 ∨ (0 ≤ (w.2.2.1 96 9).toInt ∧ (w.2.2.1 96 9).toInt ≤ 2147483647)) ∧ (r.toInt = 0 ∨ (0 ≤ x1.toInt ∧ x1.toInt ≤ 63)) ∧ (r.toInt = 0 ∨ (1 ≤ (w.2.2.1 96 9).toInt ∧ (w.2.2.1 96 9).toInt ≤ 2147483647)) ∧ (r.toInt = 0 ∨ (0 ≤ (w.2.2.1 96 5).toInt ∧ (w.2.2.1 96 5).toInt ≤ 6))) ∧ w = u) := by
  refine cn_I (own := RX10) (nm := "isSet") (L0 := [some (AR 95), some (AI x1)]) (by decide +kernel) rfl rfl (Nat.le_of_ble_eq_true rfl) rfl ?_
  intro p e s m args below meth c E hin
  have hJ : Jv w w := jv_rfl hI
  have hb_x1 := z32 x1
  refine s_aload_n E dX10_isSet_0 rfl rfl ?_
  refine s_vI (As := []) (S := []) E (Z_X10_isBall_95 l D aC b w  hJ.1 ) cv_X10_86 rfl rfl rfl (jv_lt hJ (by decide)) (Nat.le_of_ble_eq_true rfl) (Nat.le_of_ble_eq_true rfl) ⟨(Nat.le_of_ble_eq_true rfl), (Nat.le_of_ble_eq_true rfl)⟩ (Nat.le_of_ble_eq_true rfl) dX10_isSet_1 (fun z_3 u_1 hp_2 => ?_)
  obtain ⟨hz_3, hp_2⟩ := hp_2
  subst hp_2
  refine z_if_eq (tgt := 31) (u := z_3.toInt) E dX10_isSet_4 (by decide) rfl (fun h_5 => ?_) (fun h_5 => ?_)
  ·
    refine s_iconst (v := 0) E dX10_isSet_31 (by decide) ?_
    exact r_bool E dX10_isSet_32 (Or.inl rfl) ⟨⟨by decide, by decide, by first | (left; decide) | (right; decide) | (right; have hb_ := z32 (w.2.2.1 96 9); omega), by first | (left; decide) | (right; decide) | (right; have hb_ := z32 x1; omega), by first | (left; decide) | (right; decide) | (right; have hb_ := z32 (w.2.2.1 96 9); omega), by first | (left; decide) | (right; decide) | (right; have hb_ := z32 (w.2.2.1 96 5); omega)⟩, rfl⟩
  ·
    refine s_iload_n E dX10_isSet_7 rfl rfl ?_
    refine z_i2l (u := x1.toInt) E dX10_isSet_8 rfl (fun z_6 hz_6 => ?_)
    refine s_lconst (v := 0) E dX10_isSet_9 (by decide) ?_
    refine s_iconst (v := 1) E dX10_isSet_10 (by decide) ?_
    refine s_aload_n E dX10_isSet_11 rfl rfl ?_
    refine s_gR (r := 96) E fg_X10_9 rfl rfl (jv_lt hJ (by decide)) (jv_r hJ (by decide +kernel)) dX10_isSet_12 ?_
    refine s_iconst (v := 5) E dX10_isSet_15 (by decide) ?_
    refine s_iald E rfl (jv_lt hJ (by decide)) (z_in (u := 5) (by decide) (by omega) (by omega)) dX10_isSet_16 ?_
    refine z_nm (P := fun z => z.toInt = (w.2.2.1 96 5).toInt ∧ 0 ≤ z.toInt ∧ z.toInt ≤ 6) ⟨rfl, (rw_96_5 hJ)⟩ (fun z_7 hz_7 => ?_)
    refine z_shl1 6 (u := z_7.toInt) (B := 64) E dX10_isSet_17 rfl (by omega) (by omega) (by decide) (by decide) (fun z_8 hz_8 => ?_)
    refine s_iconst (v := 1) E dX10_isSet_18 (by decide) ?_
    refine z_isub (u := z_8.toInt) (v := 1) E dX10_isSet_19 rfl (by decide) (by omega) (by omega) (fun z_9 hz_9 => ?_)
    refine z_i2l (u := z_9.toInt) E dX10_isSet_20 rfl (fun z_10 hz_10 => ?_)
    refine s_sI (As := [AL z_6, AL 0, AL z_10]) (S := []) E (Z_X10_in l D aC b w z_6 0 z_10) cs_X10_82 rfl rfl (Nat.le_of_ble_eq_true rfl) (Nat.le_of_ble_eq_true rfl) ⟨(Nat.le_of_ble_eq_true rfl), (Nat.le_of_ble_eq_true rfl)⟩ (Nat.le_of_ble_eq_true rfl) dX10_isSet_21 (fun z_11 u_12 hp_13 => ?_)
    obtain ⟨hz_11, hp_13⟩ := hp_13
    subst hp_13
    have hcL_ : (0 : Int64).toInt = 0 := (by decide)
    refine z_if_eq (tgt := 31) (u := z_11.toInt) E dX10_isSet_24 (by decide) rfl (fun h_14 => ?_) (fun h_14 => ?_)
    ·
      refine s_iconst (v := 0) E dX10_isSet_31 (by decide) ?_
      exact r_bool E dX10_isSet_32 (Or.inl rfl) ⟨⟨by decide, by decide, by first | (left; decide) | (right; decide) | (right; have hb_ := z32 (w.2.2.1 96 9); omega), by first | (left; decide) | (right; decide) | (right; have hb_ := z32 x1; omega), by first | (left; decide) | (right; decide) | (right; have hb_ := z32 (w.2.2.1 96 9); omega), by first | (left; decide) | (right; decide) | (right; have hb_ := z32 (w.2.2.1 96 5); omega)⟩, rfl⟩
    ·
      refine s_iconst (v := 1) E dX10_isSet_27 (by decide) ?_
      refine s_goto (tgt := 32) E dX10_isSet_28 (by decide) ?_
      exact r_bool E dX10_isSet_32 (Or.inr rfl) ⟨⟨by decide, by decide, by first | (left; decide) | (right; decide) | (right; have hb_ := z32 (w.2.2.1 96 9); omega), by first | (left; decide) | (right; decide) | (right; have hb_ := z32 x1; omega), by first | (left; decide) | (right; decide) | (right; have hb_ := z32 (w.2.2.1 96 9); omega), by first | (left; decide) | (right; decide) | (right; have hb_ := z32 (w.2.2.1 96 5); omega)⟩, rfl⟩
