set_option maxRecDepth 20000 in
set_option maxHeartbeats 2000000 in
theorem Z_X10_asksNote_95 (l : Launch) (D : va_G) (aC : Nat → ClassId) (b : Nat) (w : XW) (x1 : Int32) (x2 : Int32) (hI : Iv w)  : CnI l D aC b M_X10_asksNote 5 117 0 0 [AR 95, AI x1, AI x2] w (fun r u => (0 ≤ r.toInt ∧ r.toInt ≤ 1 ∧ (r.toInt = 0 ∨ (0 ≤ x1.toInt ∧ x1.toInt ≤ 5)) ∧ (r.toInt = 0 ∨ (0 ≤ x2.toInt ∧ x2.toInt ≤ 5))) ∧ (r.toInt = 0 ∨ HN (u.2.2.1 107) (u.2.2.1 108) x1.toInt) ∧ Jv w u) := by
  refine cn_I (own := RX10) (nm := "asksNote") (L0 := [some (AR 95), some (AI x1), some (AI x2)]) (by decide +kernel) rfl rfl (Nat.le_of_ble_eq_true rfl) rfl ?_
  intro p e s m args below meth c E hin
  have hJ : Jv w w := jv_rfl hI
  have hb_x1 := z32 x1
  have hb_x2 := z32 x2
  refine s_aload_n E dX10_asksNote_0 rfl rfl ?_
  refine s_iload_n E dX10_asksNote_1 rfl rfl ?_
  refine s_vI (As := [AI x1]) (S := []) E (Z_X10_asksLady_95 l D aC b w x1 hJ.1 ) cv_X10_288 rfl rfl rfl (jv_lt hJ (by decide)) (Nat.le_of_ble_eq_true rfl) (Nat.le_of_ble_eq_true rfl) ⟨(Nat.le_of_ble_eq_true rfl), (Nat.le_of_ble_eq_true rfl)⟩ (Nat.le_of_ble_eq_true rfl) dX10_asksNote_2 (fun z_3 u_1 hp_2 => ?_)
  obtain ⟨hz_3, hp_2⟩ := hp_2
  have hj_4 := jv_trans hJ hp_2
  refine z_if_eq (tgt := 17) (u := z_3.toInt) E dX10_asksNote_5 (by decide) rfl (fun h_5 => ?_) (fun h_5 => ?_)
  ·
    refine s_iconst (v := 0) E dX10_asksNote_17 (by decide) ?_
    exact r_bool E dX10_asksNote_18 (Or.inl rfl) ⟨⟨by decide, by decide, by first | (left; decide) | (right; decide) | (right; have hb_ := z32 x1; omega), by first | (left; decide) | (right; decide) | (right; have hb_ := z32 x2; omega)⟩, (Or.inl (by decide)), hj_4⟩
  ·
    refine s_aload_n E dX10_asksNote_8 rfl rfl ?_
    refine s_iload_n E dX10_asksNote_9 rfl rfl ?_
    refine z_i2l (u := x2.toInt) E dX10_asksNote_10 rfl (fun z_6 hz_6 => ?_)
    refine s_vI (As := [AL z_6]) (S := []) E (Z_X10_isLady_95 l D aC b u_1 z_6 hj_4.1 ) cv_X10_222 rfl rfl rfl (jv_lt hj_4 (by decide)) (Nat.le_of_ble_eq_true rfl) (Nat.le_of_ble_eq_true rfl) ⟨(Nat.le_of_ble_eq_true rfl), (Nat.le_of_ble_eq_true rfl)⟩ (Nat.le_of_ble_eq_true rfl) dX10_asksNote_11 (fun z_9 u_7 hp_8 => ?_)
    obtain ⟨hz_9, hp_8⟩ := hp_8
    subst hp_8
    refine z_if_ne (tgt := 19) (u := z_9.toInt) E dX10_asksNote_14 (by decide) rfl (fun h_11 => ?_) (fun h_11 => ?_)
    ·
      refine s_aload_n E dX10_asksNote_19 rfl rfl ?_
      refine s_iload_n E dX10_asksNote_20 rfl rfl ?_
      refine s_vI (As := [AI x1]) (S := []) E (Z_X10_goNote__95 l D aC b u_1 x1 hj_4.1 ⟨by have hb_ := z32 x1; omega, by have hb_ := z32 x1; omega⟩) cv_X10_338 rfl rfl rfl (jv_lt hj_4 (by decide)) (Nat.le_of_ble_eq_true rfl) (Nat.le_of_ble_eq_true rfl) ⟨(Nat.le_of_ble_eq_true rfl), (Nat.le_of_ble_eq_true rfl)⟩ (Nat.le_of_ble_eq_true rfl) dX10_asksNote_21 (fun z_14 u_12 hp_13 => ?_)
      obtain ⟨hz_14, hxz_14, hp_13⟩ := hp_13
      have hj_15 := jv_trans hj_4 hp_13
      have hn_ := hxz_14
      refine s_popI E dX10_asksNote_24 ?_
      refine s_iconst (v := 1) E dX10_asksNote_25 (by decide) ?_
      exact r_bool E dX10_asksNote_26 (Or.inr rfl) ⟨⟨by decide, by decide, by first | (left; decide) | (right; decide) | (right; have hb_ := z32 x1; omega), by first | (left; decide) | (right; decide) | (right; have hb_ := z32 x2; omega)⟩, (Or.inr hn_), hj_15⟩
    ·
      refine s_iconst (v := 0) E dX10_asksNote_17 (by decide) ?_
      exact r_bool E dX10_asksNote_18 (Or.inl rfl) ⟨⟨by decide, by decide, by first | (left; decide) | (right; decide) | (right; have hb_ := z32 x1; omega), by first | (left; decide) | (right; decide) | (right; have hb_ := z32 x2; omega)⟩, (Or.inl (by decide)), hj_4⟩
set_option maxRecDepth 20000 in
set_option maxHeartbeats 2000000 in
theorem Z_X10_hands_95 (l : Launch) (D : va_G) (aC : Nat → ClassId) (b : Nat) (w : XW) (x1 : Int32) (x2 : Int32) (hI : Iv w)  : CnI l D aC b M_X10_hands 6 139 0 0 [AR 95, AI x1, AI x2] w (fun r u => ((-2147483648) ≤ r.toInt ∧ r.toInt ≤ 2147483647 ∧ (¬ r.toInt = 0 ∨ (0 ≤ x1.toInt ∧ x1.toInt ≤ 5)) ∧ (¬ r.toInt = 0 ∨ (0 ≤ x2.toInt ∧ x2.toInt ≤ 5))) ∧ Jv w u) := by
  refine cn_I (own := RX10) (nm := "hands") (L0 := [some (AR 95), some (AI x1), some (AI x2), none, none]) (by decide +kernel) rfl rfl (Nat.le_of_ble_eq_true rfl) rfl ?_
  intro p e s m args below meth c E hin
  have hJ : Jv w w := jv_rfl hI
  have hb_x1 := z32 x1
  have hb_x2 := z32 x2
  refine s_aload_n E dX10_hands_0 rfl rfl ?_
  refine s_iload_n E dX10_hands_1 rfl rfl ?_
  refine s_iload_n E dX10_hands_2 rfl rfl ?_
  refine s_vI (As := [AI x1, AI x2]) (S := []) E (Z_X10_asksNote_95 l D aC b w x1 x2 hJ.1 ) cv_X10_340 rfl rfl rfl (jv_lt hJ (by decide)) (Nat.le_of_ble_eq_true rfl) (Nat.le_of_ble_eq_true rfl) ⟨(Nat.le_of_ble_eq_true rfl), (Nat.le_of_ble_eq_true rfl)⟩ (Nat.le_of_ble_eq_true rfl) dX10_hands_3 (fun z_3 u_1 hp_2 => ?_)
  obtain ⟨hz_3, hxz_3, hp_2⟩ := hp_2
  have hj_4 := jv_trans hJ hp_2
  have hn_ := hxz_3
  refine z_if_ne (tgt := 12) (u := z_3.toInt) E dX10_hands_6 (by decide) rfl (fun h_5 => ?_) (fun h_5 => ?_)
  ·
    replace hn_ := hn_.resolve_left (by omega)
    refine s_aload_n E dX10_hands_12 rfl rfl ?_
    refine s_gR (r := 107) E fg_X10_49 rfl rfl (jv_lt hj_4 (by decide)) (jv_r hj_4 (by decide +kernel)) dX10_hands_13 ?_
    refine s_iload_n E dX10_hands_16 rfl rfl ?_
    refine s_iald E rfl (jv_lt hj_4 (by decide)) (z_in (u := x2.toInt) rfl (by omega) (by omega)) dX10_hands_17 ?_
    refine z_nm (P := fun z => z.toInt = (u_1.2.2.1 107 x2.toNatClampNeg).toInt ∧ (-1) ≤ z.toInt ∧ z.toInt ≤ 14) ⟨rfl, (ra_107 hj_4 _)⟩ (fun z_6 hz_6 => ?_)
    refine s_iconst (v := (-1)) E dX10_hands_18 (by decide) ?_
    refine z_icmp_ne (tgt := 24) (u := z_6.toInt) (v := (-1)) E dX10_hands_19 (by decide) rfl (by decide) (fun h_7 => ?_) (fun h_7 => ?_)
    ·
      refine s_iconst (v := 0) E dX10_hands_24 (by decide) ?_
      refine s_istore_n (L2 := [some (AR 95), some (AI x1), some (AI x2), some (AI 0), none]) E dX10_hands_25 rfl (by decide) rfl ?_
      refine s_iload_n E dX10_hands_26 rfl rfl ?_
      refine s_istore (L2 := [some (AR 95), some (AI x1), some (AI x2), some (AI 0), some (AI x2)]) E dX10_hands_27 (by decide) rfl ?_
      refine z_loop (St := Int32 × Int32) (Pi := fun ⟨q29_3_7, q29_4_7⟩ v29 => (0 ≤ q29_4_7.toInt ∧ q29_4_7.toInt ≤ 5) ∧ (q29_4_7.toInt = x1.toInt ∨ ¬ (u_1.2.2.1 107 q29_4_7.toNatClampNeg).toInt = -1) ∧ u_1 = v29) (Lf := fun ⟨q29_3_7, q29_4_7⟩ => [some (AR 95), some (AI x1), some (AI x2), some (AI q29_3_7), some (AI q29_4_7)]) (fun ⟨q29_3_7, q29_4_7⟩ v29 => (if q29_4_7.toInt = x1.toInt then 0 else ((v29.2.2.1 107 q29_4_7.toNatClampNeg).toInt + 2).toNat)) ⟨0, x2⟩ ⟨⟨by have hb_ := z32 x2; omega, by have hb_ := z32 x2; omega⟩, (Or.inr (by omega)), rfl⟩ ?_
      rintro ⟨q29_3_7, q29_4_7⟩ v29 ⟨hq29_4, hl29, hv_⟩ ih29
      subst hv_
      have hbq29_3 := z32 q29_3_7
      refine s_loc (L2 := [some (AR 95), some (AI x1), some (AI x2), some (AI q29_3_7), some (AI q29_4_7)]) rfl ?_
      refine s_iload E dX10_hands_29 rfl ?_
      refine s_iload_n E dX10_hands_31 rfl rfl ?_
      refine z_icmp_eq (tgt := 50) (u := q29_4_7.toInt) (v := x1.toInt) E dX10_hands_32 (by decide) rfl rfl (fun h_9 => ?_) (fun h_9 => ?_)
      ·
        refine s_iload_n E dX10_hands_50 rfl rfl ?_
        exact r_int E dX10_hands_51 ⟨⟨by have hb_ := z32 q29_3_7; omega, by have hb_ := z32 q29_3_7; omega, by first | (right; decide) | (have hb_ := z32 q29_3_7; omega) | (have hb_ := z32 q29_3_7; have hc_ := z32 x1; omega), by first | (right; decide) | (have hb_ := z32 q29_3_7; omega) | (have hb_ := z32 q29_3_7; have hc_ := z32 x2; omega)⟩, hj_4⟩
      ·
        obtain ⟨g1_, g2_, g3_⟩ := hn_ q29_4_7.toNatClampNeg (by have e_ : q29_4_7.toNatClampNeg = q29_4_7.toInt.toNat := rfl; omega) (by have e_ : q29_4_7.toNatClampNeg = q29_4_7.toInt.toNat := rfl; omega) (hl29.resolve_left (by omega))
        have gr_ := ra_107 hj_4 q29_4_7.toNatClampNeg
        refine z_iincW (L2 := fun z_10 => [some (AR 95), some (AI x1), some (AI x2), some (AI z_10), some (AI q29_4_7)]) E dX10_hands_35 rfl (by decide) (fun _ => rfl) (fun z_10 => ?_)
        refine s_aload_n E dX10_hands_38 rfl rfl ?_
        refine s_gR (r := 108) E fg_X10_52 rfl rfl (jv_lt hj_4 (by decide)) (jv_r hj_4 (by decide +kernel)) dX10_hands_39 ?_
        refine s_iload E dX10_hands_42 rfl ?_
        refine s_iald E rfl (jv_lt hj_4 (by decide)) (z_in (u := q29_4_7.toInt) rfl (by omega) (by omega)) dX10_hands_44 ?_
        refine z_nm (P := fun z => z.toInt = (u_1.2.2.1 108 q29_4_7.toNatClampNeg).toInt ∧ (-1) ≤ z.toInt ∧ z.toInt ≤ 5) ⟨rfl, (ra_108 hj_4 _)⟩ (fun z_11 hz_11 => ?_)
        have hO_ : z_11.toInt = x1.toInt ∨ (¬ (u_1.2.2.1 107 z_11.toNatClampNeg).toInt = -1 ∧ (u_1.2.2.1 107 z_11.toNatClampNeg).toInt < (u_1.2.2.1 107 q29_4_7.toNatClampNeg).toInt) := by have e_ : z_11.toNatClampNeg = (u_1.2.2.1 108 q29_4_7.toNatClampNeg).toInt.toNat := (by have e2_ : z_11.toNatClampNeg = z_11.toInt.toNat := rfl; omega); rw [e_]; omega
        refine s_istore (L2 := [some (AR 95), some (AI x1), some (AI x2), some (AI z_10), some (AI z_11)]) E dX10_hands_45 (by decide) rfl ?_
        refine s_goto (tgt := 29) E dX10_hands_47 (by decide) ?_
        exact ih29 ⟨z_10, z_11⟩ u_1 ⟨⟨by have hb_ := z32 z_11; omega, by have hb_ := z32 z_11; omega⟩, (hO_.elim Or.inl (fun h_ => Or.inr h_.1)), rfl⟩ (by dsimp only; split <;> split <;> omega)
    ·
      refine s_iconst (v := (-1)) E dX10_hands_22 (by decide) ?_
      exact r_int E dX10_hands_23 ⟨⟨by decide, by decide, by first | (left; decide) | (right; decide) | (right; have hb_ := z32 x1; omega), by first | (left; decide) | (right; decide) | (right; have hb_ := z32 x2; omega)⟩, hj_4⟩
  ·
    refine s_bipush (v := (-2)) E dX10_hands_9 (by decide) ?_
    exact r_int E dX10_hands_11 ⟨⟨by decide, by decide, by first | (left; decide) | (right; decide) | (right; have hb_ := z32 x1; omega), by first | (left; decide) | (right; decide) | (right; have hb_ := z32 x2; omega)⟩, hj_4⟩
set_option maxRecDepth 20000 in
set_option maxHeartbeats 2000000 in
theorem Z_X10_allLadies_95 (l : Launch) (D : va_G) (aC : Nat → ClassId) (b : Nat) (w : XW)  (hI : Iv w)  : CnI l D aC b M_X10_allLadies 1 20 0 0 [AR 95] w (fun r u => (0 ≤ r.toInt ∧ r.toInt ≤ 63) ∧ w = u) := by
  refine cn_I (own := RX10) (nm := "allLadies") (L0 := [some (AR 95)]) (by decide +kernel) rfl rfl (Nat.le_of_ble_eq_true rfl) rfl ?_
  intro p e s m args below meth c E hin
  have hJ : Jv w w := jv_rfl hI
  refine s_iconst (v := 1) E dX10_allLadies_0 (by decide) ?_
  refine s_aload_n E dX10_allLadies_1 rfl rfl ?_
  refine s_vI (As := []) (S := [AI 1]) E (Z_X10_ladies_95 l D aC b w  hJ.1 ) cv_X10_244 rfl rfl rfl (jv_lt hJ (by decide)) (Nat.le_of_ble_eq_true rfl) (Nat.le_of_ble_eq_true rfl) ⟨(Nat.le_of_ble_eq_true rfl), (Nat.le_of_ble_eq_true rfl)⟩ (Nat.le_of_ble_eq_true rfl) dX10_allLadies_2 (fun z_3 u_1 hp_2 => ?_)
  obtain ⟨hz_3, hxz_3, hp_2⟩ := hp_2
  subst hp_2
  refine z_shl1 6 (u := z_3.toInt) (B := 64) E dX10_allLadies_5 rfl (by omega) (by omega) (by decide) (by decide) (fun z_5 hz_5 => ?_)
  refine s_iconst (v := 1) E dX10_allLadies_6 (by decide) ?_
  refine z_isub (u := z_5.toInt) (v := 1) E dX10_allLadies_7 rfl (by decide) (by omega) (by omega) (fun z_6 hz_6 => ?_)
  exact r_int E dX10_allLadies_8 ⟨⟨by have hb_ := z32 z_6; omega, by have hb_ := z32 z_6; omega⟩, rfl⟩
set_option maxRecDepth 20000 in
set_option maxHeartbeats 2000000 in
theorem Z_X10_seatsIn_95 (l : Launch) (D : va_G) (aC : Nat → ClassId) (b : Nat) (w : XW) (x1 : Int32) (hI : Iv w)  : CnI l D aC b M_X10_seatsIn 1 21 0 0 [AR 95, AI x1] w (fun r u => ((-2147483648) ≤ r.toInt ∧ r.toInt ≤ 2147483647) ∧ w = u) := by
  refine cn_I (own := RX10) (nm := "seatsIn") (L0 := [some (AR 95), some (AI x1), none, none]) (by decide +kernel) rfl rfl (Nat.le_of_ble_eq_true rfl) rfl ?_
  intro p e s m args below meth c E hin
  have hJ : Jv w w := jv_rfl hI
  have hb_x1 := z32 x1
  refine s_iconst (v := 0) E dX10_seatsIn_0 (by decide) ?_
  refine s_istore_n (L2 := [some (AR 95), some (AI x1), some (AI 0), none]) E dX10_seatsIn_1 rfl (by decide) rfl ?_
  refine s_iconst (v := 0) E dX10_seatsIn_2 (by decide) ?_
  refine s_istore_n (L2 := [some (AR 95), some (AI x1), some (AI 0), some (AI 0)]) E dX10_seatsIn_3 rfl (by decide) rfl ?_
  refine z_loop (St := Int32 × Int32) (Pi := fun ⟨q4_2_0, q4_3_0⟩ v4 => (0 ≤ q4_3_0.toInt ∧ q4_3_0.toInt ≤ 6) ∧ w = v4) (Lf := fun ⟨q4_2_0, q4_3_0⟩ => [some (AR 95), some (AI x1), some (AI q4_2_0), some (AI q4_3_0)]) (fun ⟨q4_2_0, q4_3_0⟩ _ => (7 - q4_3_0.toInt).toNat) ⟨0, 0⟩ ⟨⟨by decide, by decide⟩, rfl⟩ ?_
  rintro ⟨q4_2_0, q4_3_0⟩ v4 ⟨hq4_3, hv_⟩ ih4
  subst hv_
  have hbq4_2 := z32 q4_2_0
  refine s_loc (L2 := [some (AR 95), some (AI x1), some (AI q4_2_0), some (AI q4_3_0)]) rfl ?_
  refine s_iload_n E dX10_seatsIn_4 rfl rfl ?_
  refine s_aload_n E dX10_seatsIn_5 rfl rfl ?_
  refine s_vI (As := []) (S := [AI q4_3_0]) E (Z_X10_ladies_95 l D aC b w  hJ.1 ) cv_X10_244 rfl rfl rfl (jv_lt hJ (by decide)) (Nat.le_of_ble_eq_true rfl) (Nat.le_of_ble_eq_true rfl) ⟨(Nat.le_of_ble_eq_true rfl), (Nat.le_of_ble_eq_true rfl)⟩ (Nat.le_of_ble_eq_true rfl) dX10_seatsIn_6 (fun z_4 u_2 hp_3 => ?_)
  obtain ⟨hz_4, hxz_4, hp_3⟩ := hp_3
  subst hp_3
  refine z_icmp_ge (tgt := 33) (u := q4_3_0.toInt) (v := z_4.toInt) E dX10_seatsIn_9 (by decide) rfl rfl (fun h_6 => ?_) (fun h_6 => ?_)
  ·
    refine s_iload_n E dX10_seatsIn_33 rfl rfl ?_
    exact r_int E dX10_seatsIn_34 ⟨⟨by have hb_ := z32 q4_2_0; omega, by have hb_ := z32 q4_2_0; omega⟩, rfl⟩
  ·
    refine s_iload_n E dX10_seatsIn_12 rfl rfl ?_
    refine s_iload_n E dX10_seatsIn_13 rfl rfl ?_
    refine s_iload_n E dX10_seatsIn_14 rfl rfl ?_
    refine s_sI (As := [AI x1, AI q4_3_0]) (S := [AI q4_2_0]) E (Z_X10_bit l D aC b w x1 q4_3_0 hJ.1 ) cs_X10_252 rfl rfl (Nat.le_of_ble_eq_true rfl) (Nat.le_of_ble_eq_true rfl) ⟨(Nat.le_of_ble_eq_true rfl), (Nat.le_of_ble_eq_true rfl)⟩ (Nat.le_of_ble_eq_true rfl) dX10_seatsIn_15 (fun z_9 u_7 hp_8 => ?_)
    obtain ⟨hz_9, hxz_9, hp_8⟩ := hp_8
    subst hp_8
    refine s_aload_n E dX10_seatsIn_18 rfl rfl ?_
    refine s_gR (r := 105) E fg_X10_43 rfl rfl (jv_lt hJ (by decide)) (jv_r hJ (by decide +kernel)) dX10_seatsIn_19 ?_
    refine s_iload_n E dX10_seatsIn_22 rfl rfl ?_
    refine s_iald E rfl (jv_lt hJ (by decide)) (z_in (u := q4_3_0.toInt) rfl (by omega) (by omega)) dX10_seatsIn_23 ?_
    refine z_nm (P := fun z => (-2147483648) ≤ z.toInt ∧ z.toInt ≤ 2147483647) (z32 _) (fun z_11 hz_11 => ?_)
    refine s_imul E dX10_seatsIn_24 ?_
    refine z_nm (P := fun z => (-2147483648) ≤ z.toInt ∧ z.toInt ≤ 2147483647) (z32 _) (fun z_12 hz_12 => ?_)
    refine s_iadd E dX10_seatsIn_25 ?_
    refine z_nm (P := fun z => (-2147483648) ≤ z.toInt ∧ z.toInt ≤ 2147483647) (z32 _) (fun z_13 hz_13 => ?_)
    refine s_istore_n (L2 := [some (AR 95), some (AI x1), some (AI z_13), some (AI q4_3_0)]) E dX10_seatsIn_26 rfl (by decide) rfl ?_
    refine z_iinc (u := q4_3_0.toInt) (L2 := fun z_14 => [some (AR 95), some (AI x1), some (AI z_13), some (AI z_14)]) E dX10_seatsIn_27 rfl rfl (by decide) (fun _ => rfl) (by decide) (by omega) (by omega) (fun z_14 hz_14 => ?_)
    refine s_goto (tgt := 4) E dX10_seatsIn_30 (by decide) ?_
    exact ih4 ⟨z_13, z_14⟩ w ⟨⟨by have hb_ := z32 z_14; omega, by have hb_ := z32 z_14; omega⟩, rfl⟩ (by first | omega | decide | (dsimp only; omega) | (dsimp only; decide))
set_option maxRecDepth 20000 in
set_option maxHeartbeats 2000000 in
theorem Z_X10_doesHold_95 (l : Launch) (D : va_G) (aC : Nat → ClassId) (b : Nat) (w : XW) (x1 : Int32) (hI : Iv w)  : CnI l D aC b M_X10_doesHold 2 44 0 0 [AR 95, AI x1] w (fun r u => (0 ≤ r.toInt ∧ r.toInt ≤ 1) ∧ w = u) := by
  refine cn_I (own := RX10) (nm := "doesHold") (L0 := [some (AR 95), some (AI x1)]) (by decide +kernel) rfl rfl (Nat.le_of_ble_eq_true rfl) rfl ?_
  intro p e s m args below meth c E hin
  have hJ : Jv w w := jv_rfl hI
  have hb_x1 := z32 x1
  refine s_iconst (v := 2) E dX10_doesHold_0 (by decide) ?_
  refine s_aload_n E dX10_doesHold_1 rfl rfl ?_
  refine s_iload_n E dX10_doesHold_2 rfl rfl ?_
  refine s_vI (As := [AI x1]) (S := [AI 2]) E (Z_X10_seatsIn_95 l D aC b w x1 hJ.1 ) cv_X10_390 rfl rfl rfl (jv_lt hJ (by decide)) (Nat.le_of_ble_eq_true rfl) (Nat.le_of_ble_eq_true rfl) ⟨(Nat.le_of_ble_eq_true rfl), (Nat.le_of_ble_eq_true rfl)⟩ (Nat.le_of_ble_eq_true rfl) dX10_doesHold_3 (fun z_3 u_1 hp_2 => ?_)
  obtain ⟨hz_3, hp_2⟩ := hp_2
  subst hp_2
  refine s_imul E dX10_doesHold_6 ?_
  refine z_nm (P := fun z => (-2147483648) ≤ z.toInt ∧ z.toInt ≤ 2147483647) (z32 _) (fun z_5 hz_5 => ?_)
  refine s_aload_n E dX10_doesHold_7 rfl rfl ?_
  refine s_aload_n E dX10_doesHold_8 rfl rfl ?_
  refine s_vI (As := []) (S := [AR 95, AI z_5]) E (Z_X10_allLadies_95 l D aC b w  hJ.1 ) cv_X10_393 rfl rfl rfl (jv_lt hJ (by decide)) (Nat.le_of_ble_eq_true rfl) (Nat.le_of_ble_eq_true rfl) ⟨(Nat.le_of_ble_eq_true rfl), (Nat.le_of_ble_eq_true rfl)⟩ (Nat.le_of_ble_eq_true rfl) dX10_doesHold_9 (fun z_8 u_6 hp_7 => ?_)
  obtain ⟨hz_8, hp_7⟩ := hp_7
  subst hp_7
  refine s_vI (As := [AI z_8]) (S := [AI z_5]) E (Z_X10_seatsIn_95 l D aC b w z_8 hJ.1 ) cv_X10_390 rfl rfl rfl (jv_lt hJ (by decide)) (Nat.le_of_ble_eq_true rfl) (Nat.le_of_ble_eq_true rfl) ⟨(Nat.le_of_ble_eq_true rfl), (Nat.le_of_ble_eq_true rfl)⟩ (Nat.le_of_ble_eq_true rfl) dX10_doesHold_12 (fun z_12 u_10 hp_11 => ?_)
  obtain ⟨hz_12, hp_11⟩ := hp_11
  subst hp_11
  refine z_icmp_le (tgt := 22) (u := z_5.toInt) (v := z_12.toInt) E dX10_doesHold_15 (by decide) rfl rfl (fun h_14 => ?_) (fun h_14 => ?_)
  ·
    refine s_iconst (v := 0) E dX10_doesHold_22 (by decide) ?_
    exact r_bool E dX10_doesHold_23 (Or.inl rfl) ⟨(by decide), rfl⟩
  ·
    refine s_iconst (v := 1) E dX10_doesHold_18 (by decide) ?_
    refine s_goto (tgt := 23) E dX10_doesHold_19 (by decide) ?_
    exact r_bool E dX10_doesHold_23 (Or.inr rfl) ⟨(by decide), rfl⟩
set_option maxRecDepth 20000 in
set_option maxHeartbeats 2000000 in
theorem Z_X10_powerOf_95 (l : Launch) (D : va_G) (aC : Nat → ClassId) (b : Nat) (w : XW) (x1 : Int32) (hI : Iv w) (hx1 : 0 ≤ x1.toInt ∧ x1.toInt ≤ 5) : CnI l D aC b M_X10_powerOf 3 65 0 0 [AR 95, AI x1] w (fun r u => ((-2147483648) ≤ r.toInt ∧ r.toInt ≤ 2147483647) ∧ w = u) := by
  refine cn_I (own := RX10) (nm := "powerOf") (L0 := [some (AR 95), some (AI x1), none, none]) (by decide +kernel) rfl rfl (Nat.le_of_ble_eq_true rfl) rfl ?_
  intro p e s m args below meth c E hin
  have hJ : Jv w w := jv_rfl hI
  refine s_iconst (v := 0) E dX10_powerOf_0 (by decide) ?_
  refine s_istore_n (L2 := [some (AR 95), some (AI x1), some (AI 0), none]) E dX10_powerOf_1 rfl (by decide) rfl ?_
  refine s_iconst (v := 0) E dX10_powerOf_2 (by decide) ?_
  refine s_istore_n (L2 := [some (AR 95), some (AI x1), some (AI 0), some (AI 0)]) E dX10_powerOf_3 rfl (by decide) rfl ?_
  refine z_loop (St := Int32 × Int32) (Pi := fun ⟨q4_2_0, q4_3_0⟩ v4 => (0 ≤ q4_3_0.toInt ∧ q4_3_0.toInt ≤ 64) ∧ w = v4) (Lf := fun ⟨q4_2_0, q4_3_0⟩ => [some (AR 95), some (AI x1), some (AI q4_2_0), some (AI q4_3_0)]) (fun ⟨q4_2_0, q4_3_0⟩ _ => (65 - q4_3_0.toInt).toNat) ⟨0, 0⟩ ⟨⟨by decide, by decide⟩, rfl⟩ ?_
  rintro ⟨q4_2_0, q4_3_0⟩ v4 ⟨hq4_3, hv_⟩ ih4
  subst hv_
  have hbq4_2 := z32 q4_2_0
  refine s_loc (L2 := [some (AR 95), some (AI x1), some (AI q4_2_0), some (AI q4_3_0)]) rfl ?_
  refine s_iload_n E dX10_powerOf_4 rfl rfl ?_
  refine s_aload_n E dX10_powerOf_5 rfl rfl ?_
  refine s_vI (As := []) (S := [AI q4_3_0]) E (Z_X10_allLadies_95 l D aC b w  hJ.1 ) cv_X10_393 rfl rfl rfl (jv_lt hJ (by decide)) (Nat.le_of_ble_eq_true rfl) (Nat.le_of_ble_eq_true rfl) ⟨(Nat.le_of_ble_eq_true rfl), (Nat.le_of_ble_eq_true rfl)⟩ (Nat.le_of_ble_eq_true rfl) dX10_powerOf_6 (fun z_4 u_2 hp_3 => ?_)
  obtain ⟨hz_4, hp_3⟩ := hp_3
  subst hp_3
  refine z_icmp_gt (tgt := 57) (u := q4_3_0.toInt) (v := z_4.toInt) E dX10_powerOf_9 (by decide) rfl rfl (fun h_6 => ?_) (fun h_6 => ?_)
  ·
    refine s_iload_n E dX10_powerOf_57 rfl rfl ?_
    exact r_int E dX10_powerOf_58 ⟨⟨by have hb_ := z32 q4_2_0; omega, by have hb_ := z32 q4_2_0; omega⟩, rfl⟩
  ·
    refine s_iload_n E dX10_powerOf_12 rfl rfl ?_
    refine s_iload_n E dX10_powerOf_13 rfl rfl ?_
    refine s_iload_n E dX10_powerOf_14 rfl rfl ?_
    refine s_sI (As := [AI q4_3_0, AI x1]) (S := [AI q4_2_0]) E (Z_X10_bit l D aC b w q4_3_0 x1 hJ.1 ) cs_X10_252 rfl rfl (Nat.le_of_ble_eq_true rfl) (Nat.le_of_ble_eq_true rfl) ⟨(Nat.le_of_ble_eq_true rfl), (Nat.le_of_ble_eq_true rfl)⟩ (Nat.le_of_ble_eq_true rfl) dX10_powerOf_15 (fun z_9 u_7 hp_8 => ?_)
    obtain ⟨hz_9, hxz_9, hp_8⟩ := hp_8
    subst hp_8
    refine s_iconst (v := 1) E dX10_powerOf_18 (by decide) ?_
    refine z_icmp_ne (tgt := 48) (u := z_9.toInt) (v := 1) E dX10_powerOf_19 (by decide) rfl (by decide) (fun h_11 => ?_) (fun h_11 => ?_)
    ·
      refine s_iconst (v := 0) E dX10_powerOf_48 (by decide) ?_
      refine z_iadd (u := q4_2_0.toInt) (v := 0) E dX10_powerOf_49 rfl (by decide) (by omega) (by omega) (fun z_12 hz_12 => ?_)
      refine s_istore_n (L2 := [some (AR 95), some (AI x1), some (AI z_12), some (AI q4_3_0)]) E dX10_powerOf_50 rfl (by decide) rfl ?_
      refine z_iinc (u := q4_3_0.toInt) (L2 := fun z_13 => [some (AR 95), some (AI x1), some (AI z_12), some (AI z_13)]) E dX10_powerOf_51 rfl rfl (by decide) (fun _ => rfl) (by decide) (by omega) (by omega) (fun z_13 hz_13 => ?_)
      refine s_goto (tgt := 4) E dX10_powerOf_54 (by decide) ?_
      exact ih4 ⟨z_12, z_13⟩ w ⟨⟨by have hb_ := z32 z_13; omega, by have hb_ := z32 z_13; omega⟩, rfl⟩ (by first | omega | decide | (dsimp only; omega) | (dsimp only; decide))
    ·
      refine s_aload_n E dX10_powerOf_22 rfl rfl ?_
      refine s_iload_n E dX10_powerOf_23 rfl rfl ?_
      refine s_vI (As := [AI q4_3_0]) (S := [AI q4_2_0]) E (Z_X10_doesHold_95 l D aC b w q4_3_0 hJ.1 ) cv_X10_396 rfl rfl rfl (jv_lt hJ (by decide)) (Nat.le_of_ble_eq_true rfl) (Nat.le_of_ble_eq_true rfl) ⟨(Nat.le_of_ble_eq_true rfl), (Nat.le_of_ble_eq_true rfl)⟩ (Nat.le_of_ble_eq_true rfl) dX10_powerOf_24 (fun z_16 u_14 hp_15 => ?_)
      obtain ⟨hz_16, hp_15⟩ := hp_15
      subst hp_15
      refine z_if_eq (tgt := 48) (u := z_16.toInt) E dX10_powerOf_27 (by decide) rfl (fun h_18 => ?_) (fun h_18 => ?_)
      ·
        refine s_iconst (v := 0) E dX10_powerOf_48 (by decide) ?_
        refine z_iadd (u := q4_2_0.toInt) (v := 0) E dX10_powerOf_49 rfl (by decide) (by omega) (by omega) (fun z_19 hz_19 => ?_)
        refine s_istore_n (L2 := [some (AR 95), some (AI x1), some (AI z_19), some (AI q4_3_0)]) E dX10_powerOf_50 rfl (by decide) rfl ?_
        refine z_iinc (u := q4_3_0.toInt) (L2 := fun z_20 => [some (AR 95), some (AI x1), some (AI z_19), some (AI z_20)]) E dX10_powerOf_51 rfl rfl (by decide) (fun _ => rfl) (by decide) (by omega) (by omega) (fun z_20 hz_20 => ?_)
        refine s_goto (tgt := 4) E dX10_powerOf_54 (by decide) ?_
        exact ih4 ⟨z_19, z_20⟩ w ⟨⟨by have hb_ := z32 z_20; omega, by have hb_ := z32 z_20; omega⟩, rfl⟩ (by first | omega | decide | (dsimp only; omega) | (dsimp only; decide))
      ·
        refine s_aload_n E dX10_powerOf_30 rfl rfl ?_
        refine s_iload_n E dX10_powerOf_31 rfl rfl ?_
        refine s_iconst (v := 1) E dX10_powerOf_32 (by decide) ?_
        refine s_iload_n E dX10_powerOf_33 rfl rfl ?_
        refine z_shl1 5 (u := x1.toInt) (B := 32) E dX10_powerOf_34 rfl (by omega) (by omega) (by decide) (by decide) (fun z_21 hz_21 => ?_)
        refine s_iconst (v := (-1)) E dX10_powerOf_35 (by decide) ?_
        refine s_ixor E dX10_powerOf_36 ?_
        refine z_nm (P := fun z => (-2147483648) ≤ z.toInt ∧ z.toInt ≤ 2147483647) (z32 _) (fun z_22 hz_22 => ?_)
        refine s_iand E dX10_powerOf_37 ?_
        refine z_nm (P := fun z => (-2147483648) ≤ z.toInt ∧ z.toInt ≤ 2147483647) (z32 _) (fun z_23 hz_23 => ?_)
        refine s_vI (As := [AI z_23]) (S := [AI q4_2_0]) E (Z_X10_doesHold_95 l D aC b w z_23 hJ.1 ) cv_X10_396 rfl rfl rfl (jv_lt hJ (by decide)) (Nat.le_of_ble_eq_true rfl) (Nat.le_of_ble_eq_true rfl) ⟨(Nat.le_of_ble_eq_true rfl), (Nat.le_of_ble_eq_true rfl)⟩ (Nat.le_of_ble_eq_true rfl) dX10_powerOf_38 (fun z_26 u_24 hp_25 => ?_)
        obtain ⟨hz_26, hp_25⟩ := hp_25
        subst hp_25
        refine z_if_ne (tgt := 48) (u := z_26.toInt) E dX10_powerOf_41 (by decide) rfl (fun h_28 => ?_) (fun h_28 => ?_)
        ·
          refine s_iconst (v := 0) E dX10_powerOf_48 (by decide) ?_
          refine z_iadd (u := q4_2_0.toInt) (v := 0) E dX10_powerOf_49 rfl (by decide) (by omega) (by omega) (fun z_29 hz_29 => ?_)
          refine s_istore_n (L2 := [some (AR 95), some (AI x1), some (AI z_29), some (AI q4_3_0)]) E dX10_powerOf_50 rfl (by decide) rfl ?_
          refine z_iinc (u := q4_3_0.toInt) (L2 := fun z_30 => [some (AR 95), some (AI x1), some (AI z_29), some (AI z_30)]) E dX10_powerOf_51 rfl rfl (by decide) (fun _ => rfl) (by decide) (by omega) (by omega) (fun z_30 hz_30 => ?_)
          refine s_goto (tgt := 4) E dX10_powerOf_54 (by decide) ?_
          exact ih4 ⟨z_29, z_30⟩ w ⟨⟨by have hb_ := z32 z_30; omega, by have hb_ := z32 z_30; omega⟩, rfl⟩ (by first | omega | decide | (dsimp only; omega) | (dsimp only; decide))
        ·
          refine s_iconst (v := 1) E dX10_powerOf_44 (by decide) ?_
          refine s_goto (tgt := 49) E dX10_powerOf_45 (by decide) ?_
          refine s_iadd E dX10_powerOf_49 ?_
          refine z_nm (P := fun z => (-2147483648) ≤ z.toInt ∧ z.toInt ≤ 2147483647) (z32 _) (fun z_31 hz_31 => ?_)
          refine s_istore_n (L2 := [some (AR 95), some (AI x1), some (AI z_31), some (AI q4_3_0)]) E dX10_powerOf_50 rfl (by decide) rfl ?_
          refine z_iinc (u := q4_3_0.toInt) (L2 := fun z_32 => [some (AR 95), some (AI x1), some (AI z_31), some (AI z_32)]) E dX10_powerOf_51 rfl rfl (by decide) (fun _ => rfl) (by decide) (by omega) (by omega) (fun z_32 hz_32 => ?_)
          refine s_goto (tgt := 4) E dX10_powerOf_54 (by decide) ?_
          exact ih4 ⟨z_31, z_32⟩ w ⟨⟨by have hb_ := z32 z_32; omega, by have hb_ := z32 z_32; omega⟩, rfl⟩ (by first | omega | decide | (dsimp only; omega) | (dsimp only; decide))
set_option maxRecDepth 20000 in
set_option maxHeartbeats 2000000 in
theorem Z_X10_dummies_95 (l : Launch) (D : va_G) (aC : Nat → ClassId) (b : Nat) (w : XW)  (hI : Iv w)  : CnI l D aC b M_X10_dummies 5 112 0 0 [AR 95] w (fun r u => ((-2147483648) ≤ r.toInt ∧ r.toInt ≤ 2147483647) ∧ Jv w u) := by
  refine cn_I (own := RX10) (nm := "dummies") (L0 := [some (AR 95), none, none]) (by decide +kernel) rfl rfl (Nat.le_of_ble_eq_true rfl) rfl ?_
  intro p e s m args below meth c E hin
  have hJ : Jv w w := jv_rfl hI
  refine s_aload_n E dX10_dummies_0 rfl rfl ?_
  refine s_vI (As := []) (S := []) E (Z_X10_asksBall_95 l D aC b w  hJ.1 ) cv_X10_322 rfl rfl rfl (jv_lt hJ (by decide)) (Nat.le_of_ble_eq_true rfl) (Nat.le_of_ble_eq_true rfl) ⟨(Nat.le_of_ble_eq_true rfl), (Nat.le_of_ble_eq_true rfl)⟩ (Nat.le_of_ble_eq_true rfl) dX10_dummies_1 (fun z_3 u_1 hp_2 => ?_)
  obtain ⟨hz_3, hp_2⟩ := hp_2
  have hj_4 := jv_trans hJ hp_2
  refine z_if_ne (tgt := 10) (u := z_3.toInt) E dX10_dummies_4 (by decide) rfl (fun h_5 => ?_) (fun h_5 => ?_)
  ·
    refine s_iconst (v := 0) E dX10_dummies_10 (by decide) ?_
    refine s_istore_n (L2 := [some (AR 95), some (AI 0), none]) E dX10_dummies_11 rfl (by decide) rfl ?_
    refine s_iconst (v := 0) E dX10_dummies_12 (by decide) ?_
    refine s_istore_n (L2 := [some (AR 95), some (AI 0), some (AI 0)]) E dX10_dummies_13 rfl (by decide) rfl ?_
    refine z_loop (St := Int32 × Int32) (Pi := fun ⟨q14_1_5, q14_2_5⟩ v14 => (0 ≤ q14_2_5.toInt ∧ q14_2_5.toInt ≤ 6) ∧ u_1 = v14) (Lf := fun ⟨q14_1_5, q14_2_5⟩ => [some (AR 95), some (AI q14_1_5), some (AI q14_2_5)]) (fun ⟨q14_1_5, q14_2_5⟩ _ => (7 - q14_2_5.toInt).toNat) ⟨0, 0⟩ ⟨⟨by decide, by decide⟩, rfl⟩ ?_
    rintro ⟨q14_1_5, q14_2_5⟩ v14 ⟨hq14_2, hv_⟩ ih14
    subst hv_
    have hbq14_1 := z32 q14_1_5
    refine s_loc (L2 := [some (AR 95), some (AI q14_1_5), some (AI q14_2_5)]) rfl ?_
    refine s_iload_n E dX10_dummies_14 rfl rfl ?_
    refine s_aload_n E dX10_dummies_15 rfl rfl ?_
    refine s_vI (As := []) (S := [AI q14_2_5]) E (Z_X10_ladies_95 l D aC b u_1  hj_4.1 ) cv_X10_244 rfl rfl rfl (jv_lt hj_4 (by decide)) (Nat.le_of_ble_eq_true rfl) (Nat.le_of_ble_eq_true rfl) ⟨(Nat.le_of_ble_eq_true rfl), (Nat.le_of_ble_eq_true rfl)⟩ (Nat.le_of_ble_eq_true rfl) dX10_dummies_16 (fun z_9 u_7 hp_8 => ?_)
    obtain ⟨hz_9, hxz_9, hp_8⟩ := hp_8
    subst hp_8
    refine z_icmp_ge (tgt := 46) (u := q14_2_5.toInt) (v := z_9.toInt) E dX10_dummies_19 (by decide) rfl rfl (fun h_11 => ?_) (fun h_11 => ?_)
    ·
      refine s_iload_n E dX10_dummies_46 rfl rfl ?_
      exact r_int E dX10_dummies_47 ⟨⟨by have hb_ := z32 q14_1_5; omega, by have hb_ := z32 q14_1_5; omega⟩, hj_4⟩
    ·
      refine s_iload_n E dX10_dummies_22 rfl rfl ?_
      refine s_aload_n E dX10_dummies_23 rfl rfl ?_
      refine s_iload_n E dX10_dummies_24 rfl rfl ?_
      refine s_vI (As := [AI q14_2_5]) (S := [AI q14_1_5]) E (Z_X10_powerOf_95 l D aC b u_1 q14_2_5 hj_4.1 ⟨by have hb_ := z32 q14_2_5; omega, by have hb_ := z32 q14_2_5; omega⟩) cv_X10_402 rfl rfl rfl (jv_lt hj_4 (by decide)) (Nat.le_of_ble_eq_true rfl) (Nat.le_of_ble_eq_true rfl) ⟨(Nat.le_of_ble_eq_true rfl), (Nat.le_of_ble_eq_true rfl)⟩ (Nat.le_of_ble_eq_true rfl) dX10_dummies_25 (fun z_14 u_12 hp_13 => ?_)
      obtain ⟨hz_14, hp_13⟩ := hp_13
      subst hp_13
      refine z_if_ne (tgt := 37) (u := z_14.toInt) E dX10_dummies_28 (by decide) rfl (fun h_16 => ?_) (fun h_16 => ?_)
      ·
        refine s_iconst (v := 0) E dX10_dummies_37 (by decide) ?_
        refine s_ior E dX10_dummies_38 ?_
        refine z_nm (P := fun z => (-2147483648) ≤ z.toInt ∧ z.toInt ≤ 2147483647) (z32 _) (fun z_17 hz_17 => ?_)
        refine s_istore_n (L2 := [some (AR 95), some (AI z_17), some (AI q14_2_5)]) E dX10_dummies_39 rfl (by decide) rfl ?_
        refine z_iinc (u := q14_2_5.toInt) (L2 := fun z_18 => [some (AR 95), some (AI z_17), some (AI z_18)]) E dX10_dummies_40 rfl rfl (by decide) (fun _ => rfl) (by decide) (by omega) (by omega) (fun z_18 hz_18 => ?_)
        refine s_goto (tgt := 14) E dX10_dummies_43 (by decide) ?_
        exact ih14 ⟨z_17, z_18⟩ u_1 ⟨⟨by have hb_ := z32 z_18; omega, by have hb_ := z32 z_18; omega⟩, rfl⟩ (by first | omega | decide | (dsimp only; omega) | (dsimp only; decide))
      ·
        refine s_iconst (v := 1) E dX10_dummies_31 (by decide) ?_
        refine s_iload_n E dX10_dummies_32 rfl rfl ?_
        refine z_shl1 5 (u := q14_2_5.toInt) (B := 32) E dX10_dummies_33 rfl (by omega) (by omega) (by decide) (by decide) (fun z_19 hz_19 => ?_)
        refine s_goto (tgt := 38) E dX10_dummies_34 (by decide) ?_
        refine s_ior E dX10_dummies_38 ?_
        refine z_nm (P := fun z => (-2147483648) ≤ z.toInt ∧ z.toInt ≤ 2147483647) (z32 _) (fun z_20 hz_20 => ?_)
        refine s_istore_n (L2 := [some (AR 95), some (AI z_20), some (AI q14_2_5)]) E dX10_dummies_39 rfl (by decide) rfl ?_
        refine z_iinc (u := q14_2_5.toInt) (L2 := fun z_21 => [some (AR 95), some (AI z_20), some (AI z_21)]) E dX10_dummies_40 rfl rfl (by decide) (fun _ => rfl) (by decide) (by omega) (by omega) (fun z_21 hz_21 => ?_)
        refine s_goto (tgt := 14) E dX10_dummies_43 (by decide) ?_
        exact ih14 ⟨z_20, z_21⟩ u_1 ⟨⟨by have hb_ := z32 z_21; omega, by have hb_ := z32 z_21; omega⟩, rfl⟩ (by first | omega | decide | (dsimp only; omega) | (dsimp only; decide))
  ·
    refine s_bipush (v := (-2)) E dX10_dummies_7 (by decide) ?_
    exact r_int E dX10_dummies_9 ⟨(by decide), hj_4⟩
set_option maxRecDepth 20000 in
set_option maxHeartbeats 2000000 in
theorem Z_X10_isSet_95 (l : Launch) (D : va_G) (aC : Nat → ClassId) (b : Nat) (w : XW) (x1 : Int32) (hI : Iv w)  : CnI l D aC b M_X10_isSet 1 25 0 0 [AR 95, AI x1] w (fun r u => (0 ≤ r.toInt ∧ r.toInt ≤ 1 ∧ (¬ r.toInt = 0 ∨ (0 ≤ (w.2.2.1 96 9).toInt ∧ (w.2.2.1 96 9).toInt ≤ 2147483647)) ∧ (r.toInt = 0 ∨ (0 ≤ x1.toInt ∧ x1.toInt ≤ 63)) ∧ (r.toInt = 0 ∨ (1 ≤ (w.2.2.1 96 9).toInt ∧ (w.2.2.1 96 9).toInt ≤ 2147483647)) ∧ (r.toInt = 0 ∨ (0 ≤ (w.2.2.1 96 5).toInt ∧ (w.2.2.1 96 5).toInt ≤ 6))) ∧ w = u) := by
  refine cn_I (own := RX10) (nm := "isSet") (L0 := [some (AR 95), some (AI x1)]) (by decide +kernel) rfl rfl (Nat.le_of_ble_eq_true rfl) rfl ?_
  intro p e s m args below meth c E hin
  have hJ : Jv w w := jv_rfl hI
  have hb_x1 := z32 x1
  refine s_aload_n E dX10_isSet_0 rfl rfl ?_
  refine s_vI (As := []) (S := []) E (Z_X10_isBall_95 l D aC b w  hJ.1 ) cv_X10_86 rfl rfl rfl (jv_lt hJ (by decide)) (Nat.le_of_ble_eq_true rfl) (Nat.le_of_ble_eq_true rfl) ⟨(Nat.le_of_ble_eq_true rfl), (Nat.le_of_ble_eq_true rfl)⟩ (Nat.le_of_ble_eq_true rfl) dX10_isSet_1 (fun z_3 u_1 hp_2 => ?_)
  obtain ⟨hz_3, hp_2⟩ := hp_2
  subst hp_2
  refine z_if_eq (tgt := 31) (u := z_3.toInt) E dX10_isSet_4 (by decide) rfl (fun h_5 => ?_) (fun h_5 => ?_)
  ·
    refine s_iconst (v := 0) E dX10_isSet_31 (by decide) ?_
    exact r_bool E dX10_isSet_32 (Or.inl rfl) ⟨⟨by decide, by decide, by first | (left; decide) | (right; decide) | (right; have hb_ := z32 (w.2.2.1 96 9); omega), by first | (left; decide) | (right; decide) | (right; have hb_ := z32 x1; omega), by first | (left; decide) | (right; decide) | (right; have hb_ := z32 (w.2.2.1 96 9); omega), by first | (left; decide) | (right; decide) | (right; have hb_ := z32 (w.2.2.1 96 5); omega)⟩, rfl⟩
  ·
    refine s_iload_n E dX10_isSet_7 rfl rfl ?_
    refine z_i2l (u := x1.toInt) E dX10_isSet_8 rfl (fun z_6 hz_6 => ?_)
    refine s_lconst (v := 0) E dX10_isSet_9 (by decide) ?_
    refine s_iconst (v := 1) E dX10_isSet_10 (by decide) ?_
    refine s_aload_n E dX10_isSet_11 rfl rfl ?_
    refine s_gR (r := 96) E fg_X10_9 rfl rfl (jv_lt hJ (by decide)) (jv_r hJ (by decide +kernel)) dX10_isSet_12 ?_
    refine s_iconst (v := 5) E dX10_isSet_15 (by decide) ?_
    refine s_iald E rfl (jv_lt hJ (by decide)) (z_in (u := 5) (by decide) (by omega) (by omega)) dX10_isSet_16 ?_
    refine z_nm (P := fun z => z.toInt = (w.2.2.1 96 5).toInt ∧ 0 ≤ z.toInt ∧ z.toInt ≤ 6) ⟨rfl, (rw_96_5 hJ)⟩ (fun z_7 hz_7 => ?_)
    refine z_shl1 6 (u := z_7.toInt) (B := 64) E dX10_isSet_17 rfl (by omega) (by omega) (by decide) (by decide) (fun z_8 hz_8 => ?_)
    refine s_iconst (v := 1) E dX10_isSet_18 (by decide) ?_
    refine z_isub (u := z_8.toInt) (v := 1) E dX10_isSet_19 rfl (by decide) (by omega) (by omega) (fun z_9 hz_9 => ?_)
    refine z_i2l (u := z_9.toInt) E dX10_isSet_20 rfl (fun z_10 hz_10 => ?_)
    refine s_sI (As := [AL z_6, AL 0, AL z_10]) (S := []) E (Z_X10_in l D aC b w z_6 0 z_10) cs_X10_82 rfl rfl (Nat.le_of_ble_eq_true rfl) (Nat.le_of_ble_eq_true rfl) ⟨(Nat.le_of_ble_eq_true rfl), (Nat.le_of_ble_eq_true rfl)⟩ (Nat.le_of_ble_eq_true rfl) dX10_isSet_21 (fun z_11 u_12 hp_13 => ?_)
    obtain ⟨hz_11, hp_13⟩ := hp_13
    subst hp_13
    refine z_if_eq (tgt := 31) (u := z_11.toInt) E dX10_isSet_24 (by decide) rfl (fun h_14 => ?_) (fun h_14 => ?_)
    ·
      refine s_iconst (v := 0) E dX10_isSet_31 (by decide) ?_
      exact r_bool E dX10_isSet_32 (Or.inl rfl) ⟨⟨by decide, by decide, by first | (left; decide) | (right; decide) | (right; have hb_ := z32 (w.2.2.1 96 9); omega), by first | (left; decide) | (right; decide) | (right; have hb_ := z32 x1; omega), by first | (left; decide) | (right; decide) | (right; have hb_ := z32 (w.2.2.1 96 9); omega), by first | (left; decide) | (right; decide) | (right; have hb_ := z32 (w.2.2.1 96 5); omega)⟩, rfl⟩
    ·
      refine s_iconst (v := 1) E dX10_isSet_27 (by decide) ?_
      refine s_goto (tgt := 32) E dX10_isSet_28 (by decide) ?_
      exact r_bool E dX10_isSet_32 (Or.inr rfl) ⟨⟨by decide, by decide, by first | (left; decide) | (right; decide) | (right; have hb_ := z32 (w.2.2.1 96 9); omega), by first | (left; decide) | (right; decide) | (right; have hb_ := z32 x1; omega), by first | (left; decide) | (right; decide) | (right; have hb_ := z32 (w.2.2.1 96 9); omega), by first | (left; decide) | (right; decide) | (right; have hb_ := z32 (w.2.2.1 96 5); omega)⟩, rfl⟩
set_option maxRecDepth 20000 in
set_option maxHeartbeats 2000000 in
theorem Z_X10_blocks_95 (l : Launch) (D : va_G) (aC : Nat → ClassId) (b : Nat) (w : XW) (x1 : Int32) (hI : Iv w)  : CnI l D aC b M_X10_blocks 4 92 0 0 [AR 95, AI x1] w (fun r u => ((-2) ≤ r.toInt ∧ r.toInt ≤ 1 ∧ (¬ r.toInt = 0 ∨ (0 ≤ x1.toInt ∧ x1.toInt ≤ 63))) ∧ Jv w u) := by
  refine cn_I (own := RX10) (nm := "blocks") (L0 := [some (AR 95), some (AI x1)]) (by decide +kernel) rfl rfl (Nat.le_of_ble_eq_true rfl) rfl ?_
  intro p e s m args below meth c E hin
  have hJ : Jv w w := jv_rfl hI
  have hb_x1 := z32 x1
  refine s_aload_n E dX10_blocks_0 rfl rfl ?_
  refine s_vV (As := []) (S := []) E (Z_X10_asItIs_95 l D aC b w  hJ.1 ) cv_X10_279 rfl rfl rfl (jv_lt hJ (by decide)) (Nat.le_of_ble_eq_true rfl) (Nat.le_of_ble_eq_true rfl) ⟨(Nat.le_of_ble_eq_true rfl), (Nat.le_of_ble_eq_true rfl)⟩ (Nat.le_of_ble_eq_true rfl) dX10_blocks_1 (fun u_1 hp_2 => ?_)
  have hj_3 := jv_trans hJ hp_2
  refine s_aload_n E dX10_blocks_4 rfl rfl ?_
  refine s_iload_n E dX10_blocks_5 rfl rfl ?_
  refine s_vI (As := [AI x1]) (S := []) E (Z_X10_isSet_95 l D aC b u_1 x1 hj_3.1 ) cv_X10_399 rfl rfl rfl (jv_lt hj_3 (by decide)) (Nat.le_of_ble_eq_true rfl) (Nat.le_of_ble_eq_true rfl) ⟨(Nat.le_of_ble_eq_true rfl), (Nat.le_of_ble_eq_true rfl)⟩ (Nat.le_of_ble_eq_true rfl) dX10_blocks_6 (fun z_6 u_4 hp_5 => ?_)
  obtain ⟨hz_6, hp_5⟩ := hp_5
  subst hp_5
  refine z_if_eq (tgt := 35) (u := z_6.toInt) E dX10_blocks_9 (by decide) rfl (fun h_8 => ?_) (fun h_8 => ?_)
  ·
    refine s_bipush (v := (-2)) E dX10_blocks_35 (by decide) ?_
    exact r_int E dX10_blocks_37 ⟨⟨by decide, by decide, by first | (left; decide) | (right; decide) | (right; have hb_ := z32 x1; omega)⟩, hj_3⟩
  ·
    refine s_aload_n E dX10_blocks_12 rfl rfl ?_
    refine s_aload_n E dX10_blocks_13 rfl rfl ?_
    refine s_vI (As := []) (S := [AR 95]) E (Z_X10_allLadies_95 l D aC b u_1  hj_3.1 ) cv_X10_393 rfl rfl rfl (jv_lt hj_3 (by decide)) (Nat.le_of_ble_eq_true rfl) (Nat.le_of_ble_eq_true rfl) ⟨(Nat.le_of_ble_eq_true rfl), (Nat.le_of_ble_eq_true rfl)⟩ (Nat.le_of_ble_eq_true rfl) dX10_blocks_14 (fun z_11 u_9 hp_10 => ?_)
    obtain ⟨hz_11, hp_10⟩ := hp_10
    subst hp_10
    refine s_iload_n E dX10_blocks_17 rfl rfl ?_
    refine s_iconst (v := (-1)) E dX10_blocks_18 (by decide) ?_
    refine s_ixor E dX10_blocks_19 ?_
    refine z_nm (P := fun z => (-2147483648) ≤ z.toInt ∧ z.toInt ≤ 2147483647) (z32 _) (fun z_13 hz_13 => ?_)
    refine s_iand E dX10_blocks_20 ?_
    refine z_nm (P := fun z => (-2147483648) ≤ z.toInt ∧ z.toInt ≤ 2147483647) (z32 _) (fun z_14 hz_14 => ?_)
    refine s_vI (As := [AI z_14]) (S := []) E (Z_X10_doesHold_95 l D aC b u_1 z_14 hj_3.1 ) cv_X10_396 rfl rfl rfl (jv_lt hj_3 (by decide)) (Nat.le_of_ble_eq_true rfl) (Nat.le_of_ble_eq_true rfl) ⟨(Nat.le_of_ble_eq_true rfl), (Nat.le_of_ble_eq_true rfl)⟩ (Nat.le_of_ble_eq_true rfl) dX10_blocks_21 (fun z_17 u_15 hp_16 => ?_)
    obtain ⟨hz_17, hp_16⟩ := hp_16
    subst hp_16
    refine z_if_eq (tgt := 31) (u := z_17.toInt) E dX10_blocks_24 (by decide) rfl (fun h_19 => ?_) (fun h_19 => ?_)
    ·
      refine s_iconst (v := 1) E dX10_blocks_31 (by decide) ?_
      refine s_goto (tgt := 37) E dX10_blocks_32 (by decide) ?_
      exact r_int E dX10_blocks_37 ⟨⟨by decide, by decide, by first | (left; decide) | (right; decide) | (right; have hb_ := z32 x1; omega)⟩, hj_3⟩
    ·
      refine s_iconst (v := 0) E dX10_blocks_27 (by decide) ?_
      refine s_goto (tgt := 37) E dX10_blocks_28 (by decide) ?_
      exact r_int E dX10_blocks_37 ⟨⟨by decide, by decide, by first | (left; decide) | (right; decide) | (right; have hb_ := z32 x1; omega)⟩, hj_3⟩
set_option maxRecDepth 20000 in
set_option maxHeartbeats 2000000 in
theorem Z_X10_strongest_95 (l : Launch) (D : va_G) (aC : Nat → ClassId) (b : Nat) (w : XW)  (hI : Iv w)  : CnI l D aC b M_X10_strongest 5 112 0 0 [AR 95] w (fun r u => ((-2) ≤ r.toInt ∧ r.toInt ≤ 64) ∧ Jv w u) := by
  refine cn_I (own := RX10) (nm := "strongest") (L0 := [some (AR 95), none, none, none]) (by decide +kernel) rfl rfl (Nat.le_of_ble_eq_true rfl) rfl ?_
  intro p e s m args below meth c E hin
  have hJ : Jv w w := jv_rfl hI
  refine s_aload_n E dX10_strongest_0 rfl rfl ?_
  refine s_vI (As := []) (S := []) E (Z_X10_asksBall_95 l D aC b w  hJ.1 ) cv_X10_322 rfl rfl rfl (jv_lt hJ (by decide)) (Nat.le_of_ble_eq_true rfl) (Nat.le_of_ble_eq_true rfl) ⟨(Nat.le_of_ble_eq_true rfl), (Nat.le_of_ble_eq_true rfl)⟩ (Nat.le_of_ble_eq_true rfl) dX10_strongest_1 (fun z_3 u_1 hp_2 => ?_)
  obtain ⟨hz_3, hp_2⟩ := hp_2
  have hj_4 := jv_trans hJ hp_2
  refine z_if_ne (tgt := 10) (u := z_3.toInt) E dX10_strongest_4 (by decide) rfl (fun h_5 => ?_) (fun h_5 => ?_)
  ·
    refine s_iconst (v := (-1)) E dX10_strongest_10 (by decide) ?_
    refine s_istore_n (L2 := [some (AR 95), some (AI (-1)), none, none]) E dX10_strongest_11 rfl (by decide) rfl ?_
    refine s_iconst (v := 0) E dX10_strongest_12 (by decide) ?_
    refine s_istore_n (L2 := [some (AR 95), some (AI (-1)), some (AI 0), none]) E dX10_strongest_13 rfl (by decide) rfl ?_
    refine s_iconst (v := 0) E dX10_strongest_14 (by decide) ?_
    refine s_istore_n (L2 := [some (AR 95), some (AI (-1)), some (AI 0), some (AI 0)]) E dX10_strongest_15 rfl (by decide) rfl ?_
    refine z_loop (St := Int32 × Int32 × Int32) (Pi := fun ⟨q16_1_5, q16_2_5, q16_3_5⟩ v16 => ((-1) ≤ q16_1_5.toInt ∧ q16_1_5.toInt ≤ 64) ∧ (0 ≤ q16_3_5.toInt ∧ q16_3_5.toInt ≤ 6) ∧ u_1 = v16) (Lf := fun ⟨q16_1_5, q16_2_5, q16_3_5⟩ => [some (AR 95), some (AI q16_1_5), some (AI q16_2_5), some (AI q16_3_5)]) (fun ⟨q16_1_5, q16_2_5, q16_3_5⟩ _ => (7 - q16_3_5.toInt).toNat) ⟨(-1), 0, 0⟩ ⟨⟨by decide, by decide⟩, ⟨by decide, by decide⟩, rfl⟩ ?_
    rintro ⟨q16_1_5, q16_2_5, q16_3_5⟩ v16 ⟨hq16_1, hq16_3, hv_⟩ ih16
    subst hv_
    have hbq16_2 := z32 q16_2_5
    refine s_loc (L2 := [some (AR 95), some (AI q16_1_5), some (AI q16_2_5), some (AI q16_3_5)]) rfl ?_
    refine s_iload_n E dX10_strongest_16 rfl rfl ?_
    refine s_aload_n E dX10_strongest_17 rfl rfl ?_
    refine s_vI (As := []) (S := [AI q16_3_5]) E (Z_X10_ladies_95 l D aC b u_1  hj_4.1 ) cv_X10_244 rfl rfl rfl (jv_lt hj_4 (by decide)) (Nat.le_of_ble_eq_true rfl) (Nat.le_of_ble_eq_true rfl) ⟨(Nat.le_of_ble_eq_true rfl), (Nat.le_of_ble_eq_true rfl)⟩ (Nat.le_of_ble_eq_true rfl) dX10_strongest_18 (fun z_9 u_7 hp_8 => ?_)
    obtain ⟨hz_9, hxz_9, hp_8⟩ := hp_8
    subst hp_8
    refine z_icmp_ge (tgt := 50) (u := q16_3_5.toInt) (v := z_9.toInt) E dX10_strongest_21 (by decide) rfl rfl (fun h_11 => ?_) (fun h_11 => ?_)
    ·
      refine s_iload_n E dX10_strongest_50 rfl rfl ?_
      exact r_int E dX10_strongest_51 ⟨⟨by have hb_ := z32 q16_1_5; omega, by have hb_ := z32 q16_1_5; omega⟩, hj_4⟩
    ·
      refine s_aload_n E dX10_strongest_24 rfl rfl ?_
      refine s_iload_n E dX10_strongest_25 rfl rfl ?_
      refine s_vI (As := [AI q16_3_5]) (S := []) E (Z_X10_powerOf_95 l D aC b u_1 q16_3_5 hj_4.1 ⟨by have hb_ := z32 q16_3_5; omega, by have hb_ := z32 q16_3_5; omega⟩) cv_X10_402 rfl rfl rfl (jv_lt hj_4 (by decide)) (Nat.le_of_ble_eq_true rfl) (Nat.le_of_ble_eq_true rfl) ⟨(Nat.le_of_ble_eq_true rfl), (Nat.le_of_ble_eq_true rfl)⟩ (Nat.le_of_ble_eq_true rfl) dX10_strongest_26 (fun z_14 u_12 hp_13 => ?_)
      obtain ⟨hz_14, hp_13⟩ := hp_13
      subst hp_13
      refine s_iload_n E dX10_strongest_29 rfl rfl ?_
      refine z_icmp_gt (tgt := 36) (u := z_14.toInt) (v := q16_2_5.toInt) E dX10_strongest_30 (by decide) rfl rfl (fun h_16 => ?_) (fun h_16 => ?_)
      ·
        refine s_aload_n E dX10_strongest_36 rfl rfl ?_
        refine s_iload_n E dX10_strongest_37 rfl rfl ?_
        refine s_vI (As := [AI q16_3_5]) (S := []) E (Z_X10_powerOf_95 l D aC b u_1 q16_3_5 hj_4.1 ⟨by have hb_ := z32 q16_3_5; omega, by have hb_ := z32 q16_3_5; omega⟩) cv_X10_402 rfl rfl rfl (jv_lt hj_4 (by decide)) (Nat.le_of_ble_eq_true rfl) (Nat.le_of_ble_eq_true rfl) ⟨(Nat.le_of_ble_eq_true rfl), (Nat.le_of_ble_eq_true rfl)⟩ (Nat.le_of_ble_eq_true rfl) dX10_strongest_38 (fun z_19 u_17 hp_18 => ?_)
        obtain ⟨hz_19, hp_18⟩ := hp_18
        subst hp_18
        refine s_istore_n (L2 := [some (AR 95), some (AI q16_1_5), some (AI z_19), some (AI q16_3_5)]) E dX10_strongest_41 rfl (by decide) rfl ?_
        refine s_iload_n E dX10_strongest_42 rfl rfl ?_
        refine s_istore_n (L2 := [some (AR 95), some (AI q16_3_5), some (AI z_19), some (AI q16_3_5)]) E dX10_strongest_43 rfl (by decide) rfl ?_
        refine z_iinc (u := q16_3_5.toInt) (L2 := fun z_21 => [some (AR 95), some (AI q16_3_5), some (AI z_19), some (AI z_21)]) E dX10_strongest_44 rfl rfl (by decide) (fun _ => rfl) (by decide) (by omega) (by omega) (fun z_21 hz_21 => ?_)
        refine s_goto (tgt := 16) E dX10_strongest_47 (by decide) ?_
        exact ih16 ⟨q16_3_5, z_19, z_21⟩ u_1 ⟨⟨by have hb_ := z32 q16_3_5; omega, by have hb_ := z32 q16_3_5; omega⟩, ⟨by have hb_ := z32 z_21; omega, by have hb_ := z32 z_21; omega⟩, rfl⟩ (by first | omega | decide | (dsimp only; omega) | (dsimp only; decide))
      ·
        refine s_goto (tgt := 44) E dX10_strongest_33 (by decide) ?_
        refine z_iinc (u := q16_3_5.toInt) (L2 := fun z_22 => [some (AR 95), some (AI q16_1_5), some (AI q16_2_5), some (AI z_22)]) E dX10_strongest_44 rfl rfl (by decide) (fun _ => rfl) (by decide) (by omega) (by omega) (fun z_22 hz_22 => ?_)
        refine s_goto (tgt := 16) E dX10_strongest_47 (by decide) ?_
        exact ih16 ⟨q16_1_5, q16_2_5, z_22⟩ u_1 ⟨⟨by have hb_ := z32 q16_1_5; omega, by have hb_ := z32 q16_1_5; omega⟩, ⟨by have hb_ := z32 z_22; omega, by have hb_ := z32 z_22; omega⟩, rfl⟩ (by first | omega | decide | (dsimp only; omega) | (dsimp only; decide))
  ·
    refine s_bipush (v := (-2)) E dX10_strongest_7 (by decide) ?_
    exact r_int E dX10_strongest_9 ⟨(by decide), hj_4⟩
set_option maxRecDepth 20000 in
set_option maxHeartbeats 2000000 in
theorem Z_X10_have_95 (l : Launch) (D : va_G) (aC : Nat → ClassId) (b : Nat) (w : XW) (x1 : Int32) (x2 : Int32) (hI : Iv w)  : CnI l D aC b M_X10_have 5 113 0 0 [AR 95, AI x1, AI x2] w (fun r u => ((-2147483648) ≤ r.toInt ∧ r.toInt ≤ 2147483647 ∧ (¬ r.toInt = 0 ∨ (0 ≤ x1.toInt ∧ x1.toInt ≤ 5)) ∧ (¬ r.toInt = 0 ∨ (0 ≤ x2.toInt ∧ x2.toInt ≤ 14))) ∧ Jv w u) := by
  refine cn_I (own := RX10) (nm := "have") (L0 := [some (AR 95), some (AI x1), some (AI x2)]) (by decide +kernel) rfl rfl (Nat.le_of_ble_eq_true rfl) rfl ?_
  intro p e s m args below meth c E hin
  have hJ : Jv w w := jv_rfl hI
  have hb_x1 := z32 x1
  have hb_x2 := z32 x2
  refine s_aload_n E dX10_have_0 rfl rfl ?_
  refine s_iload_n E dX10_have_1 rfl rfl ?_
  refine s_vI (As := [AI x2]) (S := []) E (Z_X10_asksDance_95 l D aC b w x2 hJ.1 ) cv_X10_294 rfl rfl rfl (jv_lt hJ (by decide)) (Nat.le_of_ble_eq_true rfl) (Nat.le_of_ble_eq_true rfl) ⟨(Nat.le_of_ble_eq_true rfl), (Nat.le_of_ble_eq_true rfl)⟩ (Nat.le_of_ble_eq_true rfl) dX10_have_2 (fun z_3 u_1 hp_2 => ?_)
  obtain ⟨hz_3, hp_2⟩ := hp_2
  have hj_4 := jv_trans hJ hp_2
  refine z_if_eq (tgt := 26) (u := z_3.toInt) E dX10_have_5 (by decide) rfl (fun h_5 => ?_) (fun h_5 => ?_)
  ·
    refine s_bipush (v := (-2)) E dX10_have_26 (by decide) ?_
    exact r_int E dX10_have_28 ⟨⟨by decide, by decide, by first | (left; decide) | (right; decide) | (right; have hb_ := z32 x1; omega), by first | (left; decide) | (right; decide) | (right; have hb_ := z32 x2; omega)⟩, hj_4⟩
  ·
    refine s_aload_n E dX10_have_8 rfl rfl ?_
    refine s_iload_n E dX10_have_9 rfl rfl ?_
    refine z_i2l (u := x1.toInt) E dX10_have_10 rfl (fun z_6 hz_6 => ?_)
    refine s_vI (As := [AL z_6]) (S := []) E (Z_X10_isLady_95 l D aC b u_1 z_6 hj_4.1 ) cv_X10_222 rfl rfl rfl (jv_lt hj_4 (by decide)) (Nat.le_of_ble_eq_true rfl) (Nat.le_of_ble_eq_true rfl) ⟨(Nat.le_of_ble_eq_true rfl), (Nat.le_of_ble_eq_true rfl)⟩ (Nat.le_of_ble_eq_true rfl) dX10_have_11 (fun z_9 u_7 hp_8 => ?_)
    obtain ⟨hz_9, hp_8⟩ := hp_8
    subst hp_8
    refine z_if_eq (tgt := 26) (u := z_9.toInt) E dX10_have_14 (by decide) rfl (fun h_11 => ?_) (fun h_11 => ?_)
    ·
      refine s_bipush (v := (-2)) E dX10_have_26 (by decide) ?_
      exact r_int E dX10_have_28 ⟨⟨by decide, by decide, by first | (left; decide) | (right; decide) | (right; have hb_ := z32 x1; omega), by first | (left; decide) | (right; decide) | (right; have hb_ := z32 x2; omega)⟩, hj_4⟩
    ·
      refine s_aload_n E dX10_have_17 rfl rfl ?_
      refine s_iload_n E dX10_have_18 rfl rfl ?_
      refine s_iload_n E dX10_have_19 rfl rfl ?_
      refine s_vI (As := [AI x1, AI x2]) (S := []) E (Z_X10_goNote_95 l D aC b u_1 x1 x2 hj_4.1 ⟨by have hb_ := z32 x1; omega, by have hb_ := z32 x1; omega⟩ ⟨by have hb_ := z32 x2; omega, by have hb_ := z32 x2; omega⟩) cv_X10_335 rfl rfl rfl (jv_lt hj_4 (by decide)) (Nat.le_of_ble_eq_true rfl) (Nat.le_of_ble_eq_true rfl) ⟨(Nat.le_of_ble_eq_true rfl), (Nat.le_of_ble_eq_true rfl)⟩ (Nat.le_of_ble_eq_true rfl) dX10_have_20 (fun z_14 u_12 hp_13 => ?_)
      obtain ⟨hz_14, hxz_14, hf_u_12_95, hf_u_12_96, hf_u_12_L, hp_13⟩ := hp_13
      have hj_15 := jv_trans hj_4 hp_13
      refine s_goto (tgt := 28) E dX10_have_23 (by decide) ?_
      exact r_int E dX10_have_28 ⟨⟨by have hb_ := z32 z_14; omega, by have hb_ := z32 z_14; omega, by first | (right; decide) | (have hb_ := z32 z_14; omega) | (have hb_ := z32 z_14; have hc_ := z32 x1; omega), by first | (right; decide) | (have hb_ := z32 z_14; omega) | (have hb_ := z32 z_14; have hc_ := z32 x2; omega)⟩, hj_15⟩
set_option maxRecDepth 20000 in
set_option maxHeartbeats 2000000 in
theorem Z_X10_gets_95 (l : Launch) (D : va_G) (aC : Nat → ClassId) (b : Nat) (w : XW) (x1 : Int32) (x2 : Int32) (hI : Iv w)  : CnI l D aC b M_X10_gets 6 139 0 0 [AR 95, AI x1, AI x2] w (fun r u => ((-2) ≤ r.toInt ∧ r.toInt ≤ 14 ∧ (¬ r.toInt = 0 ∨ (0 ≤ x1.toInt ∧ x1.toInt ≤ 5)) ∧ (¬ r.toInt = 0 ∨ (0 ≤ x2.toInt ∧ x2.toInt ≤ 5))) ∧ Jv w u) := by
  refine cn_I (own := RX10) (nm := "gets") (L0 := [some (AR 95), some (AI x1), some (AI x2)]) (by decide +kernel) rfl rfl (Nat.le_of_ble_eq_true rfl) rfl ?_
  intro p e s m args below meth c E hin
  have hJ : Jv w w := jv_rfl hI
  have hb_x1 := z32 x1
  have hb_x2 := z32 x2
  refine s_aload_n E dX10_gets_0 rfl rfl ?_
  refine s_iload_n E dX10_gets_1 rfl rfl ?_
  refine s_iload_n E dX10_gets_2 rfl rfl ?_
  refine s_vI (As := [AI x1, AI x2]) (S := []) E (Z_X10_asksNote_95 l D aC b w x1 x2 hJ.1 ) cv_X10_340 rfl rfl rfl (jv_lt hJ (by decide)) (Nat.le_of_ble_eq_true rfl) (Nat.le_of_ble_eq_true rfl) ⟨(Nat.le_of_ble_eq_true rfl), (Nat.le_of_ble_eq_true rfl)⟩ (Nat.le_of_ble_eq_true rfl) dX10_gets_3 (fun z_3 u_1 hp_2 => ?_)
  obtain ⟨hz_3, hxz_3, hp_2⟩ := hp_2
  have hj_4 := jv_trans hJ hp_2
  refine z_if_eq (tgt := 18) (u := z_3.toInt) E dX10_gets_6 (by decide) rfl (fun h_5 => ?_) (fun h_5 => ?_)
  ·
    refine s_bipush (v := (-2)) E dX10_gets_18 (by decide) ?_
    exact r_int E dX10_gets_20 ⟨⟨by decide, by decide, by first | (left; decide) | (right; decide) | (right; have hb_ := z32 x1; omega), by first | (left; decide) | (right; decide) | (right; have hb_ := z32 x2; omega)⟩, hj_4⟩
  ·
    refine s_aload_n E dX10_gets_9 rfl rfl ?_
    refine s_gR (r := 107) E fg_X10_49 rfl rfl (jv_lt hj_4 (by decide)) (jv_r hj_4 (by decide +kernel)) dX10_gets_10 ?_
    refine s_iload_n E dX10_gets_13 rfl rfl ?_
    refine s_iald E rfl (jv_lt hj_4 (by decide)) (z_in (u := x2.toInt) rfl (by omega) (by omega)) dX10_gets_14 ?_
    refine z_nm (P := fun z => z.toInt = (u_1.2.2.1 107 x2.toNatClampNeg).toInt ∧ (-1) ≤ z.toInt ∧ z.toInt ≤ 14) ⟨rfl, (ra_107 hj_4 _)⟩ (fun z_6 hz_6 => ?_)
    refine s_goto (tgt := 20) E dX10_gets_15 (by decide) ?_
    exact r_int E dX10_gets_20 ⟨⟨by have hb_ := z32 z_6; omega, by have hb_ := z32 z_6; omega, by first | (right; decide) | (have hb_ := z32 z_6; omega) | (have hb_ := z32 z_6; have hc_ := z32 x1; omega), by first | (right; decide) | (have hb_ := z32 z_6; omega) | (have hb_ := z32 z_6; have hc_ := z32 x2; omega)⟩, hj_4⟩
set_option maxRecDepth 20000 in
set_option maxHeartbeats 2000000 in
theorem Z_X10_from_95 (l : Launch) (D : va_G) (aC : Nat → ClassId) (b : Nat) (w : XW) (x1 : Int32) (x2 : Int32) (hI : Iv w)  : CnI l D aC b M_X10_from 6 139 0 0 [AR 95, AI x1, AI x2] w (fun r u => ((-2) ≤ r.toInt ∧ r.toInt ≤ 5 ∧ (¬ r.toInt = 0 ∨ (0 ≤ x1.toInt ∧ x1.toInt ≤ 5)) ∧ (¬ r.toInt = 0 ∨ (0 ≤ x2.toInt ∧ x2.toInt ≤ 5))) ∧ Jv w u) := by
  refine cn_I (own := RX10) (nm := "from") (L0 := [some (AR 95), some (AI x1), some (AI x2)]) (by decide +kernel) rfl rfl (Nat.le_of_ble_eq_true rfl) rfl ?_
  intro p e s m args below meth c E hin
  have hJ : Jv w w := jv_rfl hI
  have hb_x1 := z32 x1
  have hb_x2 := z32 x2
  refine s_aload_n E dX10_from_0 rfl rfl ?_
  refine s_iload_n E dX10_from_1 rfl rfl ?_
  refine s_iload_n E dX10_from_2 rfl rfl ?_
  refine s_vI (As := [AI x1, AI x2]) (S := []) E (Z_X10_asksNote_95 l D aC b w x1 x2 hJ.1 ) cv_X10_340 rfl rfl rfl (jv_lt hJ (by decide)) (Nat.le_of_ble_eq_true rfl) (Nat.le_of_ble_eq_true rfl) ⟨(Nat.le_of_ble_eq_true rfl), (Nat.le_of_ble_eq_true rfl)⟩ (Nat.le_of_ble_eq_true rfl) dX10_from_3 (fun z_3 u_1 hp_2 => ?_)
  obtain ⟨hz_3, hxz_3, hp_2⟩ := hp_2
  have hj_4 := jv_trans hJ hp_2
  refine z_if_eq (tgt := 18) (u := z_3.toInt) E dX10_from_6 (by decide) rfl (fun h_5 => ?_) (fun h_5 => ?_)
  ·
    refine s_bipush (v := (-2)) E dX10_from_18 (by decide) ?_
    exact r_int E dX10_from_20 ⟨⟨by decide, by decide, by first | (left; decide) | (right; decide) | (right; have hb_ := z32 x1; omega), by first | (left; decide) | (right; decide) | (right; have hb_ := z32 x2; omega)⟩, hj_4⟩
  ·
    refine s_aload_n E dX10_from_9 rfl rfl ?_
    refine s_gR (r := 108) E fg_X10_52 rfl rfl (jv_lt hj_4 (by decide)) (jv_r hj_4 (by decide +kernel)) dX10_from_10 ?_
    refine s_iload_n E dX10_from_13 rfl rfl ?_
    refine s_iald E rfl (jv_lt hj_4 (by decide)) (z_in (u := x2.toInt) rfl (by omega) (by omega)) dX10_from_14 ?_
    refine z_nm (P := fun z => z.toInt = (u_1.2.2.1 108 x2.toNatClampNeg).toInt ∧ (-1) ≤ z.toInt ∧ z.toInt ≤ 5) ⟨rfl, (ra_108 hj_4 _)⟩ (fun z_6 hz_6 => ?_)
    refine s_goto (tgt := 20) E dX10_from_15 (by decide) ?_
    exact r_int E dX10_from_20 ⟨⟨by have hb_ := z32 z_6; omega, by have hb_ := z32 z_6; omega, by first | (right; decide) | (have hb_ := z32 z_6; omega) | (have hb_ := z32 z_6; have hc_ := z32 x1; omega), by first | (right; decide) | (have hb_ := z32 z_6; omega) | (have hb_ := z32 z_6; have hc_ := z32 x2; omega)⟩, hj_4⟩
set_option maxRecDepth 20000 in
set_option maxHeartbeats 2000000 in
theorem Z_X10_all_95 (l : Launch) (D : va_G) (aC : Nat → ClassId) (b : Nat) (w : XW) (x1 : Int32) (hI : Iv w)  : CnI l D aC b M_X10_all 5 117 0 0 [AR 95, AI x1] w (fun r u => ((-2) ≤ r.toInt ∧ r.toInt ≤ 14 ∧ (¬ r.toInt = 0 ∨ (0 ≤ x1.toInt ∧ x1.toInt ≤ 5))) ∧ Jv w u) := by
  refine cn_I (own := RX10) (nm := "all") (L0 := [some (AR 95), some (AI x1), none]) (by decide +kernel) rfl rfl (Nat.le_of_ble_eq_true rfl) rfl ?_
  intro p e s m args below meth c E hin
  have hJ : Jv w w := jv_rfl hI
  have hb_x1 := z32 x1
  refine s_aload_n E dX10_all_0 rfl rfl ?_
  refine s_iload_n E dX10_all_1 rfl rfl ?_
  refine s_vI (As := [AI x1]) (S := []) E (Z_X10_asksLady_95 l D aC b w x1 hJ.1 ) cv_X10_288 rfl rfl rfl (jv_lt hJ (by decide)) (Nat.le_of_ble_eq_true rfl) (Nat.le_of_ble_eq_true rfl) ⟨(Nat.le_of_ble_eq_true rfl), (Nat.le_of_ble_eq_true rfl)⟩ (Nat.le_of_ble_eq_true rfl) dX10_all_2 (fun z_3 u_1 hp_2 => ?_)
  obtain ⟨hz_3, hp_2⟩ := hp_2
  have hj_4 := jv_trans hJ hp_2
  refine z_if_ne (tgt := 11) (u := z_3.toInt) E dX10_all_5 (by decide) rfl (fun h_5 => ?_) (fun h_5 => ?_)
  ·
    refine s_aload_n E dX10_all_11 rfl rfl ?_
    refine s_iload_n E dX10_all_12 rfl rfl ?_
    refine s_vI (As := [AI x1]) (S := []) E (Z_X10_goNote__95 l D aC b u_1 x1 hj_4.1 ⟨by have hb_ := z32 x1; omega, by have hb_ := z32 x1; omega⟩) cv_X10_338 rfl rfl rfl (jv_lt hj_4 (by decide)) (Nat.le_of_ble_eq_true rfl) (Nat.le_of_ble_eq_true rfl) ⟨(Nat.le_of_ble_eq_true rfl), (Nat.le_of_ble_eq_true rfl)⟩ (Nat.le_of_ble_eq_true rfl) dX10_all_13 (fun z_8 u_6 hp_7 => ?_)
    obtain ⟨hz_8, hxz_8, hp_7⟩ := hp_7
    have hj_9 := jv_trans hj_4 hp_7
    refine s_popI E dX10_all_16 ?_
    refine s_iconst (v := 0) E dX10_all_17 (by decide) ?_
    refine s_istore_n (L2 := [some (AR 95), some (AI x1), some (AI 0)]) E dX10_all_18 rfl (by decide) rfl ?_
    refine z_loop (St := Int32) (Pi := fun q19_2_9 v19 => (0 ≤ q19_2_9.toInt ∧ q19_2_9.toInt ≤ 15) ∧ u_6 = v19) (Lf := fun q19_2_9 => [some (AR 95), some (AI x1), some (AI q19_2_9)]) (fun q19_2_9 _ => (16 - q19_2_9.toInt).toNat) 0 ⟨⟨by decide, by decide⟩, rfl⟩ ?_
    rintro q19_2_9 v19 ⟨hq19_2, hv_⟩ ih19
    subst hv_
    refine s_loc (L2 := [some (AR 95), some (AI x1), some (AI q19_2_9)]) rfl ?_
    refine s_iload_n E dX10_all_19 rfl rfl ?_
    refine s_aload_n E dX10_all_20 rfl rfl ?_
    refine s_vI (As := []) (S := [AI q19_2_9]) E (Z_X10_dances_95 l D aC b u_6  hj_9.1 ) cv_X10_247 rfl rfl rfl (jv_lt hj_9 (by decide)) (Nat.le_of_ble_eq_true rfl) (Nat.le_of_ble_eq_true rfl) ⟨(Nat.le_of_ble_eq_true rfl), (Nat.le_of_ble_eq_true rfl)⟩ (Nat.le_of_ble_eq_true rfl) dX10_all_21 (fun z_13 u_11 hp_12 => ?_)
    obtain ⟨hz_13, hxz_13, hp_12⟩ := hp_12
    subst hp_12
    refine z_icmp_gt (tgt := 52) (u := q19_2_9.toInt) (v := z_13.toInt) E dX10_all_24 (by decide) rfl rfl (fun h_15 => ?_) (fun h_15 => ?_)
    ·
      refine s_iconst (v := (-1)) E dX10_all_52 (by decide) ?_
      exact r_int E dX10_all_53 ⟨⟨by decide, by decide, by first | (left; decide) | (right; decide) | (right; have hb_ := z32 x1; omega)⟩, hj_9⟩
    ·
      refine s_aload_n E dX10_all_27 rfl rfl ?_
      refine s_gR (r := 106) E fg_X10_46 rfl rfl (jv_lt hj_9 (by decide)) (jv_r hj_9 (by decide +kernel)) dX10_all_28 ?_
      refine s_iload_n E dX10_all_31 rfl rfl ?_
      refine s_iald E rfl (jv_lt hj_9 (by decide)) (z_in (u := q19_2_9.toInt) rfl (by omega) (by omega)) dX10_all_32 ?_
      refine z_nm (P := fun z => (-2147483648) ≤ z.toInt ∧ z.toInt ≤ 2147483647) (z32 _) (fun z_16 hz_16 => ?_)
      refine s_iconst (v := 1) E dX10_all_33 (by decide) ?_
      refine s_aload_n E dX10_all_34 rfl rfl ?_
      refine s_vI (As := []) (S := [AI 1, AI z_16]) E (Z_X10_ladies_95 l D aC b u_6  hj_9.1 ) cv_X10_244 rfl rfl rfl (jv_lt hj_9 (by decide)) (Nat.le_of_ble_eq_true rfl) (Nat.le_of_ble_eq_true rfl) ⟨(Nat.le_of_ble_eq_true rfl), (Nat.le_of_ble_eq_true rfl)⟩ (Nat.le_of_ble_eq_true rfl) dX10_all_35 (fun z_19 u_17 hp_18 => ?_)
      obtain ⟨hz_19, hxz_19, hp_18⟩ := hp_18
      subst hp_18
      refine z_shl1 6 (u := z_19.toInt) (B := 64) E dX10_all_38 rfl (by omega) (by omega) (by decide) (by decide) (fun z_21 hz_21 => ?_)
      refine s_iconst (v := 1) E dX10_all_39 (by decide) ?_
      refine z_isub (u := z_21.toInt) (v := 1) E dX10_all_40 rfl (by decide) (by omega) (by omega) (fun z_22 hz_22 => ?_)
      refine z_icmp_ne (tgt := 46) (u := z_16.toInt) (v := z_22.toInt) E dX10_all_41 (by decide) rfl rfl (fun h_23 => ?_) (fun h_23 => ?_)
      ·
        refine z_iinc (u := q19_2_9.toInt) (L2 := fun z_24 => [some (AR 95), some (AI x1), some (AI z_24)]) E dX10_all_46 rfl rfl (by decide) (fun _ => rfl) (by decide) (by omega) (by omega) (fun z_24 hz_24 => ?_)
        refine s_goto (tgt := 19) E dX10_all_49 (by decide) ?_
        exact ih19 z_24 u_6 ⟨⟨by have hb_ := z32 z_24; omega, by have hb_ := z32 z_24; omega⟩, rfl⟩ (by first | omega | decide | (dsimp only; omega) | (dsimp only; decide))
      ·
        refine s_iload_n E dX10_all_44 rfl rfl ?_
        exact r_int E dX10_all_45 ⟨⟨by have hb_ := z32 q19_2_9; omega, by have hb_ := z32 q19_2_9; omega, by first | (right; decide) | (have hb_ := z32 q19_2_9; omega) | (have hb_ := z32 q19_2_9; have hc_ := z32 x1; omega)⟩, hj_9⟩
  ·
    refine s_bipush (v := (-2)) E dX10_all_8 (by decide) ?_
    exact r_int E dX10_all_10 ⟨⟨by decide, by decide, by first | (left; decide) | (right; decide) | (right; have hb_ := z32 x1; omega)⟩, hj_4⟩
set_option maxRecDepth 20000 in
set_option maxHeartbeats 2000000 in
theorem Z_X10_best_95 (l : Launch) (D : va_G) (aC : Nat → ClassId) (b : Nat) (w : XW)  (hI : Iv w)  : CnI l D aC b M_X10_best 5 117 0 0 [AR 95] w (fun r u => ((-2) ≤ r.toInt ∧ r.toInt ≤ 64) ∧ Jv w u) := by
  refine cn_I (own := RX10) (nm := "best") (L0 := [some (AR 95), none, none, none, none]) (by decide +kernel) rfl rfl (Nat.le_of_ble_eq_true rfl) rfl ?_
  intro p e s m args below meth c E hin
  have hJ : Jv w w := jv_rfl hI
  refine s_aload_n E dX10_best_0 rfl rfl ?_
  refine s_vI (As := []) (S := []) E (Z_X10_asksBall_95 l D aC b w  hJ.1 ) cv_X10_322 rfl rfl rfl (jv_lt hJ (by decide)) (Nat.le_of_ble_eq_true rfl) (Nat.le_of_ble_eq_true rfl) ⟨(Nat.le_of_ble_eq_true rfl), (Nat.le_of_ble_eq_true rfl)⟩ (Nat.le_of_ble_eq_true rfl) dX10_best_1 (fun z_3 u_1 hp_2 => ?_)
  obtain ⟨hz_3, hp_2⟩ := hp_2
  have hj_4 := jv_trans hJ hp_2
  refine z_if_ne (tgt := 10) (u := z_3.toInt) E dX10_best_4 (by decide) rfl (fun h_5 => ?_) (fun h_5 => ?_)
  ·
    refine s_iconst (v := (-1)) E dX10_best_10 (by decide) ?_
    refine s_istore_n (L2 := [some (AR 95), some (AI (-1)), none, none, none]) E dX10_best_11 rfl (by decide) rfl ?_
    refine s_iconst (v := 0) E dX10_best_12 (by decide) ?_
    refine s_istore_n (L2 := [some (AR 95), some (AI (-1)), some (AI 0), none, none]) E dX10_best_13 rfl (by decide) rfl ?_
    refine s_iconst (v := 0) E dX10_best_14 (by decide) ?_
    refine s_istore_n (L2 := [some (AR 95), some (AI (-1)), some (AI 0), some (AI 0), none]) E dX10_best_15 rfl (by decide) rfl ?_
    refine z_loop (St := Int32 × Int32 × Int32) (Pi := fun ⟨q16_1_5, q16_2_5, q16_3_5⟩ v16 => ((-1) ≤ q16_1_5.toInt ∧ q16_1_5.toInt ≤ 64) ∧ (0 ≤ q16_2_5.toInt ∧ q16_2_5.toInt ≤ 2147483647) ∧ (0 ≤ q16_3_5.toInt ∧ q16_3_5.toInt ≤ 6) ∧ Jv w v16) (Lf := fun ⟨q16_1_5, q16_2_5, q16_3_5⟩ => [some (AR 95), some (AI q16_1_5), some (AI q16_2_5), some (AI q16_3_5), none]) (fun ⟨q16_1_5, q16_2_5, q16_3_5⟩ _ => (7 - q16_3_5.toInt).toNat) ⟨(-1), 0, 0⟩ ⟨⟨by decide, by decide⟩, ⟨by decide, by decide⟩, ⟨by decide, by decide⟩, hj_4⟩ ?_
    rintro ⟨q16_1_5, q16_2_5, q16_3_5⟩ v16 ⟨hq16_1, hq16_2, hq16_3, hj_6⟩ ih16
    refine s_loc (L2 := [some (AR 95), some (AI q16_1_5), some (AI q16_2_5), some (AI q16_3_5), none]) rfl ?_
    refine s_iload_n E dX10_best_16 rfl rfl ?_
    refine s_aload_n E dX10_best_17 rfl rfl ?_
    refine s_vI (As := []) (S := [AI q16_3_5]) E (Z_X10_ladies_95 l D aC b v16  hj_6.1 ) cv_X10_244 rfl rfl rfl (jv_lt hj_6 (by decide)) (Nat.le_of_ble_eq_true rfl) (Nat.le_of_ble_eq_true rfl) ⟨(Nat.le_of_ble_eq_true rfl), (Nat.le_of_ble_eq_true rfl)⟩ (Nat.le_of_ble_eq_true rfl) dX10_best_18 (fun z_9 u_7 hp_8 => ?_)
    obtain ⟨hz_9, hxz_9, hp_8⟩ := hp_8
    subst hp_8
    refine z_icmp_ge (tgt := 54) (u := q16_3_5.toInt) (v := z_9.toInt) E dX10_best_21 (by decide) rfl rfl (fun h_11 => ?_) (fun h_11 => ?_)
    ·
      refine s_iload_n E dX10_best_54 rfl rfl ?_
      exact r_int E dX10_best_55 ⟨⟨by have hb_ := z32 q16_1_5; omega, by have hb_ := z32 q16_1_5; omega⟩, hj_6⟩
    ·
      refine s_aload_n E dX10_best_24 rfl rfl ?_
      refine s_iload_n E dX10_best_25 rfl rfl ?_
      refine s_vI (As := [AI q16_3_5]) (S := []) E (Z_X10_goNote__95 l D aC b v16 q16_3_5 hj_6.1 ⟨by have hb_ := z32 q16_3_5; omega, by have hb_ := z32 q16_3_5; omega⟩) cv_X10_338 rfl rfl rfl (jv_lt hj_6 (by decide)) (Nat.le_of_ble_eq_true rfl) (Nat.le_of_ble_eq_true rfl) ⟨(Nat.le_of_ble_eq_true rfl), (Nat.le_of_ble_eq_true rfl)⟩ (Nat.le_of_ble_eq_true rfl) dX10_best_26 (fun z_14 u_12 hp_13 => ?_)
      obtain ⟨hz_14, hxz_14, hp_13⟩ := hp_13
      have hj_15 := jv_trans hj_6 hp_13
      refine s_sI (As := [AI z_14]) (S := []) E (Z_X10_bits l D aC b u_12 z_14 hj_15.1 ) cs_X10_319 rfl rfl (Nat.le_of_ble_eq_true rfl) (Nat.le_of_ble_eq_true rfl) ⟨(Nat.le_of_ble_eq_true rfl), (Nat.le_of_ble_eq_true rfl)⟩ (Nat.le_of_ble_eq_true rfl) dX10_best_29 (fun z_18 u_16 hp_17 => ?_)
      obtain ⟨hz_18, hp_17⟩ := hp_17
      subst hp_17
      refine s_istore (L2 := [some (AR 95), some (AI q16_1_5), some (AI q16_2_5), some (AI q16_3_5), some (AI z_18)]) E dX10_best_32 (by decide) rfl ?_
      refine s_iload E dX10_best_34 rfl ?_
      refine s_iload_n E dX10_best_36 rfl rfl ?_
      refine z_icmp_gt (tgt := 43) (u := z_18.toInt) (v := q16_2_5.toInt) E dX10_best_37 (by decide) rfl rfl (fun h_20 => ?_) (fun h_20 => ?_)
      ·
        refine s_iload E dX10_best_43 rfl ?_
        refine s_istore_n (L2 := [some (AR 95), some (AI q16_1_5), some (AI z_18), some (AI q16_3_5), some (AI z_18)]) E dX10_best_45 rfl (by decide) rfl ?_
        refine s_iload_n E dX10_best_46 rfl rfl ?_
        refine s_istore_n (L2 := [some (AR 95), some (AI q16_3_5), some (AI z_18), some (AI q16_3_5), some (AI z_18)]) E dX10_best_47 rfl (by decide) rfl ?_
        refine z_iinc (u := q16_3_5.toInt) (L2 := fun z_21 => [some (AR 95), some (AI q16_3_5), some (AI z_18), some (AI z_21), some (AI z_18)]) E dX10_best_48 rfl rfl (by decide) (fun _ => rfl) (by decide) (by omega) (by omega) (fun z_21 hz_21 => ?_)
        refine s_goto (tgt := 16) E dX10_best_51 (by decide) ?_
        refine s_drop (i := 4) (L2 := [some (AR 95), some (AI q16_3_5), some (AI z_18), some (AI z_21), none]) rfl ?_
        exact ih16 ⟨q16_3_5, z_18, z_21⟩ u_12 ⟨⟨by have hb_ := z32 q16_3_5; omega, by have hb_ := z32 q16_3_5; omega⟩, ⟨by have hb_ := z32 z_18; omega, by have hb_ := z32 z_18; omega⟩, ⟨by have hb_ := z32 z_21; omega, by have hb_ := z32 z_21; omega⟩, hj_15⟩ (by first | omega | decide | (dsimp only; omega) | (dsimp only; decide))
      ·
        refine s_goto (tgt := 48) E dX10_best_40 (by decide) ?_
        refine z_iinc (u := q16_3_5.toInt) (L2 := fun z_22 => [some (AR 95), some (AI q16_1_5), some (AI q16_2_5), some (AI z_22), some (AI z_18)]) E dX10_best_48 rfl rfl (by decide) (fun _ => rfl) (by decide) (by omega) (by omega) (fun z_22 hz_22 => ?_)
        refine s_goto (tgt := 16) E dX10_best_51 (by decide) ?_
        refine s_drop (i := 4) (L2 := [some (AR 95), some (AI q16_1_5), some (AI q16_2_5), some (AI z_22), none]) rfl ?_
        exact ih16 ⟨q16_1_5, q16_2_5, z_22⟩ u_12 ⟨⟨by have hb_ := z32 q16_1_5; omega, by have hb_ := z32 q16_1_5; omega⟩, ⟨by have hb_ := z32 q16_2_5; omega, by have hb_ := z32 q16_2_5; omega⟩, ⟨by have hb_ := z32 z_22; omega, by have hb_ := z32 z_22; omega⟩, hj_15⟩ (by first | omega | decide | (dsimp only; omega) | (dsimp only; decide))
  ·
    refine s_bipush (v := (-2)) E dX10_best_7 (by decide) ?_
    exact r_int E dX10_best_9 ⟨(by decide), hj_4⟩
set_option maxRecDepth 20000 in
set_option maxHeartbeats 2000000 in
theorem Z_X10_lasts_95 (l : Launch) (D : va_G) (aC : Nat → ClassId) (b : Nat) (w : XW) (x1 : Int32) (hI : Iv w)  : CnI l D aC b M_X10_lasts 5 117 0 0 [AR 95, AI x1] w (fun r u => ((-2) ≤ r.toInt ∧ r.toInt ≤ 14 ∧ (¬ r.toInt = 0 ∨ (0 ≤ x1.toInt ∧ x1.toInt ≤ 5))) ∧ Jv w u) := by
  refine cn_I (own := RX10) (nm := "lasts") (L0 := [some (AR 95), some (AI x1), none, none]) (by decide +kernel) rfl rfl (Nat.le_of_ble_eq_true rfl) rfl ?_
  intro p e s m args below meth c E hin
  have hJ : Jv w w := jv_rfl hI
  have hb_x1 := z32 x1
  refine s_aload_n E dX10_lasts_0 rfl rfl ?_
  refine s_iload_n E dX10_lasts_1 rfl rfl ?_
  refine s_vI (As := [AI x1]) (S := []) E (Z_X10_asksLady_95 l D aC b w x1 hJ.1 ) cv_X10_288 rfl rfl rfl (jv_lt hJ (by decide)) (Nat.le_of_ble_eq_true rfl) (Nat.le_of_ble_eq_true rfl) ⟨(Nat.le_of_ble_eq_true rfl), (Nat.le_of_ble_eq_true rfl)⟩ (Nat.le_of_ble_eq_true rfl) dX10_lasts_2 (fun z_3 u_1 hp_2 => ?_)
  obtain ⟨hz_3, hp_2⟩ := hp_2
  have hj_4 := jv_trans hJ hp_2
  refine z_if_ne (tgt := 11) (u := z_3.toInt) E dX10_lasts_5 (by decide) rfl (fun h_5 => ?_) (fun h_5 => ?_)
  ·
    refine s_aload_n E dX10_lasts_11 rfl rfl ?_
    refine s_iload_n E dX10_lasts_12 rfl rfl ?_
    refine s_vI (As := [AI x1]) (S := []) E (Z_X10_goNote__95 l D aC b u_1 x1 hj_4.1 ⟨by have hb_ := z32 x1; omega, by have hb_ := z32 x1; omega⟩) cv_X10_338 rfl rfl rfl (jv_lt hj_4 (by decide)) (Nat.le_of_ble_eq_true rfl) (Nat.le_of_ble_eq_true rfl) ⟨(Nat.le_of_ble_eq_true rfl), (Nat.le_of_ble_eq_true rfl)⟩ (Nat.le_of_ble_eq_true rfl) dX10_lasts_13 (fun z_8 u_6 hp_7 => ?_)
    obtain ⟨hz_8, hxz_8, hp_7⟩ := hp_7
    have hj_9 := jv_trans hj_4 hp_7
    refine s_popI E dX10_lasts_16 ?_
    refine s_iconst (v := (-1)) E dX10_lasts_17 (by decide) ?_
    refine s_istore_n (L2 := [some (AR 95), some (AI x1), some (AI (-1)), none]) E dX10_lasts_18 rfl (by decide) rfl ?_
    refine s_iconst (v := 0) E dX10_lasts_19 (by decide) ?_
    refine s_istore_n (L2 := [some (AR 95), some (AI x1), some (AI (-1)), some (AI 0)]) E dX10_lasts_20 rfl (by decide) rfl ?_
    refine z_loop (St := Int32 × Int32) (Pi := fun ⟨q21_2_9, q21_3_9⟩ v21 => ((-1) ≤ q21_2_9.toInt ∧ q21_2_9.toInt ≤ 14) ∧ (0 ≤ q21_3_9.toInt ∧ q21_3_9.toInt ≤ 6) ∧ u_6 = v21) (Lf := fun ⟨q21_2_9, q21_3_9⟩ => [some (AR 95), some (AI x1), some (AI q21_2_9), some (AI q21_3_9)]) (fun ⟨q21_2_9, q21_3_9⟩ _ => (7 - q21_3_9.toInt).toNat) ⟨(-1), 0⟩ ⟨⟨by decide, by decide⟩, ⟨by decide, by decide⟩, rfl⟩ ?_
    rintro ⟨q21_2_9, q21_3_9⟩ v21 ⟨hq21_2, hq21_3, hv_⟩ ih21
    subst hv_
    refine s_loc (L2 := [some (AR 95), some (AI x1), some (AI q21_2_9), some (AI q21_3_9)]) rfl ?_
    refine s_iload_n E dX10_lasts_21 rfl rfl ?_
    refine s_aload_n E dX10_lasts_22 rfl rfl ?_
    refine s_vI (As := []) (S := [AI q21_3_9]) E (Z_X10_ladies_95 l D aC b u_6  hj_9.1 ) cv_X10_244 rfl rfl rfl (jv_lt hj_9 (by decide)) (Nat.le_of_ble_eq_true rfl) (Nat.le_of_ble_eq_true rfl) ⟨(Nat.le_of_ble_eq_true rfl), (Nat.le_of_ble_eq_true rfl)⟩ (Nat.le_of_ble_eq_true rfl) dX10_lasts_23 (fun z_13 u_11 hp_12 => ?_)
    obtain ⟨hz_13, hxz_13, hp_12⟩ := hp_12
    subst hp_12
    refine z_icmp_ge (tgt := 55) (u := q21_3_9.toInt) (v := z_13.toInt) E dX10_lasts_26 (by decide) rfl rfl (fun h_15 => ?_) (fun h_15 => ?_)
    ·
      refine s_iload_n E dX10_lasts_55 rfl rfl ?_
      exact r_int E dX10_lasts_56 ⟨⟨by have hb_ := z32 q21_2_9; omega, by have hb_ := z32 q21_2_9; omega, by first | (right; decide) | (have hb_ := z32 q21_2_9; omega) | (have hb_ := z32 q21_2_9; have hc_ := z32 x1; omega)⟩, hj_9⟩
    ·
      refine s_iload_n E dX10_lasts_29 rfl rfl ?_
      refine s_iload_n E dX10_lasts_30 rfl rfl ?_
      refine z_icmp_ne (tgt := 38) (u := q21_3_9.toInt) (v := x1.toInt) E dX10_lasts_31 (by decide) rfl rfl (fun h_16 => ?_) (fun h_16 => ?_)
      ·
        refine s_iload_n E dX10_lasts_38 rfl rfl ?_
        refine s_aload_n E dX10_lasts_39 rfl rfl ?_
        refine s_gR (r := 107) E fg_X10_49 rfl rfl (jv_lt hj_9 (by decide)) (jv_r hj_9 (by decide +kernel)) dX10_lasts_40 ?_
        refine s_iload_n E dX10_lasts_43 rfl rfl ?_
        refine s_iald E rfl (jv_lt hj_9 (by decide)) (z_in (u := q21_3_9.toInt) rfl (by omega) (by omega)) dX10_lasts_44 ?_
        refine z_nm (P := fun z => z.toInt = (u_6.2.2.1 107 q21_3_9.toNatClampNeg).toInt ∧ (-1) ≤ z.toInt ∧ z.toInt ≤ 14) ⟨rfl, (ra_107 hj_9 _)⟩ (fun z_17 hz_17 => ?_)
        refine z_max (u := q21_2_9.toInt) (v := z_17.toInt) E ⟨k_1728, k_41, k_4, k_42⟩ (Nat.le_of_ble_eq_true rfl) (Nat.le_of_ble_eq_true rfl) (Nat.le_of_ble_eq_true rfl) (Nat.le_of_ble_eq_true rfl) dX10_lasts_45 rfl rfl (fun z_18 hz_18 => ?_)
        refine s_istore_n (L2 := [some (AR 95), some (AI x1), some (AI z_18), some (AI q21_3_9)]) E dX10_lasts_48 rfl (by decide) rfl ?_
        refine z_iinc (u := q21_3_9.toInt) (L2 := fun z_19 => [some (AR 95), some (AI x1), some (AI z_18), some (AI z_19)]) E dX10_lasts_49 rfl rfl (by decide) (fun _ => rfl) (by decide) (by omega) (by omega) (fun z_19 hz_19 => ?_)
        refine s_goto (tgt := 21) E dX10_lasts_52 (by decide) ?_
        exact ih21 ⟨z_18, z_19⟩ u_6 ⟨⟨by have hb_ := z32 z_18; omega, by have hb_ := z32 z_18; omega⟩, ⟨by have hb_ := z32 z_19; omega, by have hb_ := z32 z_19; omega⟩, rfl⟩ (by first | omega | decide | (dsimp only; omega) | (dsimp only; decide))
      ·
        refine s_iload_n E dX10_lasts_34 rfl rfl ?_
        refine s_goto (tgt := 48) E dX10_lasts_35 (by decide) ?_
        refine s_istore_n (L2 := [some (AR 95), some (AI x1), some (AI q21_2_9), some (AI q21_3_9)]) E dX10_lasts_48 rfl (by decide) rfl ?_
        refine z_iinc (u := q21_3_9.toInt) (L2 := fun z_20 => [some (AR 95), some (AI x1), some (AI q21_2_9), some (AI z_20)]) E dX10_lasts_49 rfl rfl (by decide) (fun _ => rfl) (by decide) (by omega) (by omega) (fun z_20 hz_20 => ?_)
        refine s_goto (tgt := 21) E dX10_lasts_52 (by decide) ?_
        exact ih21 ⟨q21_2_9, z_20⟩ u_6 ⟨⟨by have hb_ := z32 q21_2_9; omega, by have hb_ := z32 q21_2_9; omega⟩, ⟨by have hb_ := z32 z_20; omega, by have hb_ := z32 z_20; omega⟩, rfl⟩ (by first | omega | decide | (dsimp only; omega) | (dsimp only; decide))
  ·
    refine s_bipush (v := (-2)) E dX10_lasts_8 (by decide) ?_
    exact r_int E dX10_lasts_10 ⟨⟨by decide, by decide, by first | (left; decide) | (right; decide) | (right; have hb_ := z32 x1; omega)⟩, hj_4⟩
set_option maxRecDepth 20000 in
set_option maxHeartbeats 2000000 in
theorem Z_X10_needed_95 (l : Launch) (D : va_G) (aC : Nat → ClassId) (b : Nat) (w : XW) (x1 : Int32) (hI : Iv w)  : CnI l D aC b M_X10_needed 5 117 0 0 [AR 95, AI x1] w (fun r u => ((-2147483648) ≤ r.toInt ∧ r.toInt ≤ 2147483647 ∧ (¬ r.toInt = 0 ∨ (0 ≤ x1.toInt ∧ x1.toInt ≤ 5))) ∧ Jv w u) := by
  refine cn_I (own := RX10) (nm := "needed") (L0 := [some (AR 95), some (AI x1), none, none, none]) (by decide +kernel) rfl rfl (Nat.le_of_ble_eq_true rfl) rfl ?_
  intro p e s m args below meth c E hin
  have hJ : Jv w w := jv_rfl hI
  have hb_x1 := z32 x1
  refine s_aload_n E dX10_needed_0 rfl rfl ?_
  refine s_iload_n E dX10_needed_1 rfl rfl ?_
  refine s_vI (As := [AI x1]) (S := []) E (Z_X10_asksLady_95 l D aC b w x1 hJ.1 ) cv_X10_288 rfl rfl rfl (jv_lt hJ (by decide)) (Nat.le_of_ble_eq_true rfl) (Nat.le_of_ble_eq_true rfl) ⟨(Nat.le_of_ble_eq_true rfl), (Nat.le_of_ble_eq_true rfl)⟩ (Nat.le_of_ble_eq_true rfl) dX10_needed_2 (fun z_3 u_1 hp_2 => ?_)
  obtain ⟨hz_3, hp_2⟩ := hp_2
  have hj_4 := jv_trans hJ hp_2
  refine z_if_ne (tgt := 11) (u := z_3.toInt) E dX10_needed_5 (by decide) rfl (fun h_5 => ?_) (fun h_5 => ?_)
  ·
    refine s_aload_n E dX10_needed_11 rfl rfl ?_
    refine s_iload_n E dX10_needed_12 rfl rfl ?_
    refine s_vI (As := [AI x1]) (S := []) E (Z_X10_goNote__95 l D aC b u_1 x1 hj_4.1 ⟨by have hb_ := z32 x1; omega, by have hb_ := z32 x1; omega⟩) cv_X10_338 rfl rfl rfl (jv_lt hj_4 (by decide)) (Nat.le_of_ble_eq_true rfl) (Nat.le_of_ble_eq_true rfl) ⟨(Nat.le_of_ble_eq_true rfl), (Nat.le_of_ble_eq_true rfl)⟩ (Nat.le_of_ble_eq_true rfl) dX10_needed_13 (fun z_8 u_6 hp_7 => ?_)
    obtain ⟨hz_8, hxz_8, hp_7⟩ := hp_7
    have hj_9 := jv_trans hj_4 hp_7
    refine s_istore_n (L2 := [some (AR 95), some (AI x1), some (AI z_8), none, none]) E dX10_needed_16 rfl (by decide) rfl ?_
    refine s_iconst (v := 0) E dX10_needed_17 (by decide) ?_
    refine s_istore_n (L2 := [some (AR 95), some (AI x1), some (AI z_8), some (AI 0), none]) E dX10_needed_18 rfl (by decide) rfl ?_
    refine s_iconst (v := 0) E dX10_needed_19 (by decide) ?_
    refine s_istore (L2 := [some (AR 95), some (AI x1), some (AI z_8), some (AI 0), some (AI 0)]) E dX10_needed_20 (by decide) rfl ?_
    refine z_loop (St := Int32 × Int32) (Pi := fun ⟨q22_3_9, q22_4_9⟩ v22 => (0 ≤ q22_4_9.toInt ∧ q22_4_9.toInt ≤ 6) ∧ Jv w v22) (Lf := fun ⟨q22_3_9, q22_4_9⟩ => [some (AR 95), some (AI x1), some (AI z_8), some (AI q22_3_9), some (AI q22_4_9)]) (fun ⟨q22_3_9, q22_4_9⟩ _ => (7 - q22_4_9.toInt).toNat) ⟨0, 0⟩ ⟨⟨by decide, by decide⟩, hj_9⟩ ?_
    rintro ⟨q22_3_9, q22_4_9⟩ v22 ⟨hq22_4, hj_10⟩ ih22
    have hbq22_3 := z32 q22_3_9
    refine s_loc (L2 := [some (AR 95), some (AI x1), some (AI z_8), some (AI q22_3_9), some (AI q22_4_9)]) rfl ?_
    refine s_iload E dX10_needed_22 rfl ?_
    refine s_aload_n E dX10_needed_24 rfl rfl ?_
    refine s_vI (As := []) (S := [AI q22_4_9]) E (Z_X10_ladies_95 l D aC b v22  hj_10.1 ) cv_X10_244 rfl rfl rfl (jv_lt hj_10 (by decide)) (Nat.le_of_ble_eq_true rfl) (Nat.le_of_ble_eq_true rfl) ⟨(Nat.le_of_ble_eq_true rfl), (Nat.le_of_ble_eq_true rfl)⟩ (Nat.le_of_ble_eq_true rfl) dX10_needed_25 (fun z_13 u_11 hp_12 => ?_)
    obtain ⟨hz_13, hxz_13, hp_12⟩ := hp_12
    subst hp_12
    refine z_icmp_ge (tgt := 84) (u := q22_4_9.toInt) (v := z_13.toInt) E dX10_needed_28 (by decide) rfl rfl (fun h_15 => ?_) (fun h_15 => ?_)
    ·
      refine s_iload_n E dX10_needed_84 rfl rfl ?_
      exact r_int E dX10_needed_85 ⟨⟨by have hb_ := z32 q22_3_9; omega, by have hb_ := z32 q22_3_9; omega, by first | (right; decide) | (have hb_ := z32 q22_3_9; omega) | (have hb_ := z32 q22_3_9; have hc_ := z32 x1; omega)⟩, hj_10⟩
    ·
      refine s_iload E dX10_needed_31 rfl ?_
      refine s_iload_n E dX10_needed_33 rfl rfl ?_
      refine z_icmp_ne (tgt := 40) (u := q22_4_9.toInt) (v := x1.toInt) E dX10_needed_34 (by decide) rfl rfl (fun h_16 => ?_) (fun h_16 => ?_)
      ·
        refine s_aload_n E dX10_needed_40 rfl rfl ?_
        refine s_iconst (v := 1) E dX10_needed_41 (by decide) ?_
        refine s_iload E dX10_needed_42 rfl ?_
        refine z_shl1 5 (u := q22_4_9.toInt) (B := 32) E dX10_needed_44 rfl (by omega) (by omega) (by decide) (by decide) (fun z_17 hz_17 => ?_)
        refine s_pI E fp_X10_264 (Or.inl rfl) rfl (jv_lt hj_10 (by decide)) dX10_needed_45 ?_
        refine s_gen (P := Jv w) (jv_f_95_21 hj_10 (by have hb_ := z32 z_17; omega) (by have hb_ := z32 z_17; omega)) (fun v_18 hj_19 => ?_)
        refine s_iload_n E dX10_needed_48 rfl rfl ?_
        refine s_iload_n E dX10_needed_49 rfl rfl ?_
        refine s_aload_n E dX10_needed_50 rfl rfl ?_
        refine s_iload_n E dX10_needed_51 rfl rfl ?_
        refine s_vI (As := [AI x1]) (S := [AI z_8, AI q22_3_9]) E (Z_X10_goNote__95 l D aC b v_18 x1 hj_19.1 ⟨by have hb_ := z32 x1; omega, by have hb_ := z32 x1; omega⟩) cv_X10_338 rfl rfl rfl (jv_lt hj_19 (by decide)) (Nat.le_of_ble_eq_true rfl) (Nat.le_of_ble_eq_true rfl) ⟨(Nat.le_of_ble_eq_true rfl), (Nat.le_of_ble_eq_true rfl)⟩ (Nat.le_of_ble_eq_true rfl) dX10_needed_52 (fun z_22 u_20 hp_21 => ?_)
        obtain ⟨hz_22, hxz_22, hp_21⟩ := hp_21
        have hj_23 := jv_trans hj_19 hp_21
        refine s_iconst (v := (-1)) E dX10_needed_55 (by decide) ?_
        refine s_ixor E dX10_needed_56 ?_
        refine z_nm (P := fun z => (-2147483648) ≤ z.toInt ∧ z.toInt ≤ 2147483647) (z32 _) (fun z_24 hz_24 => ?_)
        refine s_iand E dX10_needed_57 ?_
        refine z_nm (P := fun z => (-2147483648) ≤ z.toInt ∧ z.toInt ≤ 2147483647) (z32 _) (fun z_25 hz_25 => ?_)
        refine s_aload_n E dX10_needed_58 rfl rfl ?_
        refine s_gI E fg_X10_264 rfl rfl (jv_lt hj_23 (by decide)) dX10_needed_59 ?_
        refine z_nm (P := fun z => z.toInt = (u_20.2.2.1 95 21).toInt ∧ (-2147483648) ≤ z.toInt ∧ z.toInt ≤ 2147483647) ⟨rfl, z32 _⟩ (fun z_26 hz_26 => ?_)
        refine s_iconst (v := (-1)) E dX10_needed_62 (by decide) ?_
        refine s_ixor E dX10_needed_63 ?_
        refine z_nm (P := fun z => (-2147483648) ≤ z.toInt ∧ z.toInt ≤ 2147483647) (z32 _) (fun z_27 hz_27 => ?_)
        refine s_iand E dX10_needed_64 ?_
        refine z_nm (P := fun z => (-2147483648) ≤ z.toInt ∧ z.toInt ≤ 2147483647) (z32 _) (fun z_28 hz_28 => ?_)
        refine z_if_eq (tgt := 75) (u := z_28.toInt) E dX10_needed_65 (by decide) rfl (fun h_29 => ?_) (fun h_29 => ?_)
        ·
          refine s_iconst (v := 0) E dX10_needed_75 (by decide) ?_
          refine s_ior E dX10_needed_76 ?_
          refine z_nm (P := fun z => (-2147483648) ≤ z.toInt ∧ z.toInt ≤ 2147483647) (z32 _) (fun z_30 hz_30 => ?_)
          refine s_istore_n (L2 := [some (AR 95), some (AI x1), some (AI z_8), some (AI z_30), some (AI q22_4_9)]) E dX10_needed_77 rfl (by decide) rfl ?_
          refine z_iinc (u := q22_4_9.toInt) (L2 := fun z_31 => [some (AR 95), some (AI x1), some (AI z_8), some (AI z_30), some (AI z_31)]) E dX10_needed_78 rfl rfl (by decide) (fun _ => rfl) (by decide) (by omega) (by omega) (fun z_31 hz_31 => ?_)
          refine s_goto (tgt := 22) E dX10_needed_81 (by decide) ?_
          exact ih22 ⟨z_30, z_31⟩ u_20 ⟨⟨by have hb_ := z32 z_31; omega, by have hb_ := z32 z_31; omega⟩, hj_23⟩ (by first | omega | decide | (dsimp only; omega) | (dsimp only; decide))
        ·
          refine s_iconst (v := 1) E dX10_needed_68 (by decide) ?_
          refine s_iload E dX10_needed_69 rfl ?_
          refine z_shl1 5 (u := q22_4_9.toInt) (B := 32) E dX10_needed_71 rfl (by omega) (by omega) (by decide) (by decide) (fun z_32 hz_32 => ?_)
          refine s_goto (tgt := 76) E dX10_needed_72 (by decide) ?_
          refine s_ior E dX10_needed_76 ?_
          refine z_nm (P := fun z => (-2147483648) ≤ z.toInt ∧ z.toInt ≤ 2147483647) (z32 _) (fun z_33 hz_33 => ?_)
          refine s_istore_n (L2 := [some (AR 95), some (AI x1), some (AI z_8), some (AI z_33), some (AI q22_4_9)]) E dX10_needed_77 rfl (by decide) rfl ?_
          refine z_iinc (u := q22_4_9.toInt) (L2 := fun z_34 => [some (AR 95), some (AI x1), some (AI z_8), some (AI z_33), some (AI z_34)]) E dX10_needed_78 rfl rfl (by decide) (fun _ => rfl) (by decide) (by omega) (by omega) (fun z_34 hz_34 => ?_)
          refine s_goto (tgt := 22) E dX10_needed_81 (by decide) ?_
          exact ih22 ⟨z_33, z_34⟩ u_20 ⟨⟨by have hb_ := z32 z_34; omega, by have hb_ := z32 z_34; omega⟩, hj_23⟩ (by first | omega | decide | (dsimp only; omega) | (dsimp only; decide))
      ·
        refine s_goto (tgt := 78) E dX10_needed_37 (by decide) ?_
        refine z_iinc (u := q22_4_9.toInt) (L2 := fun z_35 => [some (AR 95), some (AI x1), some (AI z_8), some (AI q22_3_9), some (AI z_35)]) E dX10_needed_78 rfl rfl (by decide) (fun _ => rfl) (by decide) (by omega) (by omega) (fun z_35 hz_35 => ?_)
        refine s_goto (tgt := 22) E dX10_needed_81 (by decide) ?_
        exact ih22 ⟨q22_3_9, z_35⟩ v22 ⟨⟨by have hb_ := z32 z_35; omega, by have hb_ := z32 z_35; omega⟩, hj_10⟩ (by first | omega | decide | (dsimp only; omega) | (dsimp only; decide))
  ·
    refine s_bipush (v := (-2)) E dX10_needed_8 (by decide) ?_
    exact r_int E dX10_needed_10 ⟨⟨by decide, by decide, by first | (left; decide) | (right; decide) | (right; have hb_ := z32 x1; omega)⟩, hj_4⟩
set_option maxRecDepth 20000 in
set_option maxHeartbeats 2000000 in
theorem Z_X10_by_95 (l : Launch) (D : va_G) (aC : Nat → ClassId) (b : Nat) (w : XW) (x1 : Int32) (x2 : Int32) (hI : Iv w)  : CnI l D aC b M_X10_by 5 117 0 0 [AR 95, AI x1, AI x2] w (fun r u => ((-2147483648) ≤ r.toInt ∧ r.toInt ≤ 2147483647 ∧ (¬ r.toInt = 0 ∨ (0 ≤ x1.toInt ∧ x1.toInt ≤ 5)) ∧ (¬ r.toInt = 0 ∨ (0 ≤ x2.toInt ∧ x2.toInt ≤ 3))) ∧ Jv w u) := by
  refine cn_I (own := RX10) (nm := "by") (L0 := [some (AR 95), some (AI x1), some (AI x2)]) (by decide +kernel) rfl rfl (Nat.le_of_ble_eq_true rfl) rfl ?_
  intro p e s m args below meth c E hin
  have hJ : Jv w w := jv_rfl hI
  have hb_x1 := z32 x1
  have hb_x2 := z32 x2
  refine s_aload_n E dX10_by_0 rfl rfl ?_
  refine s_iload_n E dX10_by_1 rfl rfl ?_
  refine s_vI (As := [AI x1]) (S := []) E (Z_X10_asksLady_95 l D aC b w x1 hJ.1 ) cv_X10_288 rfl rfl rfl (jv_lt hJ (by decide)) (Nat.le_of_ble_eq_true rfl) (Nat.le_of_ble_eq_true rfl) ⟨(Nat.le_of_ble_eq_true rfl), (Nat.le_of_ble_eq_true rfl)⟩ (Nat.le_of_ble_eq_true rfl) dX10_by_2 (fun z_3 u_1 hp_2 => ?_)
  obtain ⟨hz_3, hp_2⟩ := hp_2
  have hj_4 := jv_trans hJ hp_2
  refine z_if_eq (tgt := 20) (u := z_3.toInt) E dX10_by_5 (by decide) rfl (fun h_5 => ?_) (fun h_5 => ?_)
  ·
    refine s_bipush (v := (-2)) E dX10_by_20 (by decide) ?_
    exact r_int E dX10_by_22 ⟨⟨by decide, by decide, by first | (left; decide) | (right; decide) | (right; have hb_ := z32 x1; omega), by first | (left; decide) | (right; decide) | (right; have hb_ := z32 x2; omega)⟩, hj_4⟩
  ·
    refine s_iload_n E dX10_by_8 rfl rfl ?_
    refine z_i2l (u := x2.toInt) E dX10_by_9 rfl (fun z_6 hz_6 => ?_)
    refine s_lconst (v := 0) E dX10_by_10 (by decide) ?_
    refine s_ldc2 E k_1737 rfl dX10_by_11 ?_
    refine s_sI (As := [AL z_6, AL 0, AL 3]) (S := []) E (Z_X10_in l D aC b u_1 z_6 0 3) cs_X10_82 rfl rfl (Nat.le_of_ble_eq_true rfl) (Nat.le_of_ble_eq_true rfl) ⟨(Nat.le_of_ble_eq_true rfl), (Nat.le_of_ble_eq_true rfl)⟩ (Nat.le_of_ble_eq_true rfl) dX10_by_14 (fun z_7 u_8 hp_9 => ?_)
    obtain ⟨hz_7, hp_9⟩ := hp_9
    subst hp_9
    refine z_if_ne (tgt := 23) (u := z_7.toInt) E dX10_by_17 (by decide) rfl (fun h_10 => ?_) (fun h_10 => ?_)
    ·
      refine s_aload_n E dX10_by_23 rfl rfl ?_
      refine s_iload_n E dX10_by_24 rfl rfl ?_
      refine s_pI E fp_X10_267 (Or.inl rfl) rfl (jv_lt hj_4 (by decide)) dX10_by_25 ?_
      refine s_gen (P := Jv w) (jv_f_95_23 hj_4 (by have hb_ := z32 x2; omega) (by have hb_ := z32 x2; omega)) (fun v_11 hj_12 => ?_)
      refine s_aload_n E dX10_by_28 rfl rfl ?_
      refine s_iload_n E dX10_by_29 rfl rfl ?_
      refine s_vI (As := [AI x1]) (S := []) E (Z_X10_goNote__95 l D aC b v_11 x1 hj_12.1 ⟨by have hb_ := z32 x1; omega, by have hb_ := z32 x1; omega⟩) cv_X10_338 rfl rfl rfl (jv_lt hj_12 (by decide)) (Nat.le_of_ble_eq_true rfl) (Nat.le_of_ble_eq_true rfl) ⟨(Nat.le_of_ble_eq_true rfl), (Nat.le_of_ble_eq_true rfl)⟩ (Nat.le_of_ble_eq_true rfl) dX10_by_30 (fun z_15 u_13 hp_14 => ?_)
      obtain ⟨hz_15, hxz_15, hp_14⟩ := hp_14
      have hj_16 := jv_trans hj_12 hp_14
      exact r_int E dX10_by_33 ⟨⟨by have hb_ := z32 z_15; omega, by have hb_ := z32 z_15; omega, by first | (right; decide) | (have hb_ := z32 z_15; omega) | (have hb_ := z32 z_15; have hc_ := z32 x1; omega), by first | (right; decide) | (have hb_ := z32 z_15; omega) | (have hb_ := z32 z_15; have hc_ := z32 x2; omega)⟩, hj_16⟩
    ·
      refine s_bipush (v := (-2)) E dX10_by_20 (by decide) ?_
      exact r_int E dX10_by_22 ⟨⟨by decide, by decide, by first | (left; decide) | (right; decide) | (right; have hb_ := z32 x1; omega), by first | (left; decide) | (right; decide) | (right; have hb_ := z32 x2; omega)⟩, hj_4⟩
set_option maxRecDepth 20000 in
set_option maxHeartbeats 2000000 in
theorem Z_X10_haveWith_95 (l : Launch) (D : va_G) (aC : Nat → ClassId) (b : Nat) (w : XW) (x1 : Int32) (x2 : Int32) (x3 : Int32) (hI : Iv w) (hx1 : 0 ≤ x1.toInt ∧ x1.toInt ≤ 5) : CnI l D aC b M_X10_haveWith 5 117 0 0 [AR 95, AI x1, AI x2, AI x3] w (fun r u => ((-2147483648) ≤ r.toInt ∧ r.toInt ≤ 2147483647) ∧ Jv w u) := by
  refine cn_I (own := RX10) (nm := "haveWith") (L0 := [some (AR 95), some (AI x1), some (AI x2), some (AI x3)]) (by decide +kernel) rfl rfl (Nat.le_of_ble_eq_true rfl) rfl ?_
  intro p e s m args below meth c E hin
  have hJ : Jv w w := jv_rfl hI
  have hb_x2 := z32 x2
  have hb_x3 := z32 x3
  refine s_aload_n E dX10_haveWith_0 rfl rfl ?_
  refine s_iload_n E dX10_haveWith_1 rfl rfl ?_
  refine s_pI E fp_X10_227 (Or.inl rfl) rfl (jv_lt hJ (by decide)) dX10_haveWith_2 ?_
  refine s_gen (P := Jv w) (jv_f_95_16 hJ (by have hb_ := z32 x2; omega) (by have hb_ := z32 x2; omega)) (fun v_1 hj_2 => ?_)
  refine s_aload_n E dX10_haveWith_5 rfl rfl ?_
  refine s_iload_n E dX10_haveWith_6 rfl rfl ?_
  refine s_pI E fp_X10_230 (Or.inl rfl) rfl (jv_lt hj_2 (by decide)) dX10_haveWith_7 ?_
  refine s_gen (P := Jv w) (jv_f_95_17 hj_2 (by have hb_ := z32 x3; omega) (by have hb_ := z32 x3; omega)) (fun v_3 hj_4 => ?_)
  refine s_aload_n E dX10_haveWith_10 rfl rfl ?_
  refine s_vV (As := []) (S := []) E (Z_X10_layPlaces_95 l D aC b v_3  hj_4.1 ) cv_X10_276 rfl rfl rfl (jv_lt hj_4 (by decide)) (Nat.le_of_ble_eq_true rfl) (Nat.le_of_ble_eq_true rfl) ⟨(Nat.le_of_ble_eq_true rfl), (Nat.le_of_ble_eq_true rfl)⟩ (Nat.le_of_ble_eq_true rfl) dX10_haveWith_11 (fun u_5 hp_6 => ?_)
  have hj_7 := jv_trans hj_4 hp_6
  refine s_aload_n E dX10_haveWith_14 rfl rfl ?_
  refine s_iload_n E dX10_haveWith_15 rfl rfl ?_
  refine s_vI (As := [AI x1]) (S := []) E (Z_X10_goNote__95 l D aC b u_5 x1 hj_7.1 ⟨by have hb_ := z32 x1; omega, by have hb_ := z32 x1; omega⟩) cv_X10_338 rfl rfl rfl (jv_lt hj_7 (by decide)) (Nat.le_of_ble_eq_true rfl) (Nat.le_of_ble_eq_true rfl) ⟨(Nat.le_of_ble_eq_true rfl), (Nat.le_of_ble_eq_true rfl)⟩ (Nat.le_of_ble_eq_true rfl) dX10_haveWith_16 (fun z_10 u_8 hp_9 => ?_)
  obtain ⟨hz_10, hxz_10, hp_9⟩ := hp_9
  have hj_11 := jv_trans hj_7 hp_9
  exact r_int E dX10_haveWith_19 ⟨⟨by have hb_ := z32 z_10; omega, by have hb_ := z32 z_10; omega⟩, hj_11⟩
set_option maxRecDepth 20000 in
set_option maxHeartbeats 2000000 in
theorem Z_X10_widen_95 (l : Launch) (D : va_G) (aC : Nat → ClassId) (b : Nat) (w : XW) (x1 : Int32) (x2 : Int32) (hI : Iv w)  : CnI l D aC b M_X10_widen 6 140 0 0 [AR 95, AI x1, AI x2] w (fun r u => ((-2) ≤ r.toInt ∧ r.toInt ≤ 64) ∧ Jv w u) := by
  refine cn_I (own := RX10) (nm := "widen") (L0 := [some (AR 95), some (AI x1), some (AI x2), none, none, none, none]) (by decide +kernel) rfl rfl (Nat.le_of_ble_eq_true rfl) rfl ?_
  intro p e s m args below meth c E hin
  have hJ : Jv w w := jv_rfl hI
  have hb_x1 := z32 x1
  have hb_x2 := z32 x2
  refine s_aload_n E dX10_widen_0 rfl rfl ?_
  refine s_iload_n E dX10_widen_1 rfl rfl ?_
  refine s_vI (As := [AI x1]) (S := []) E (Z_X10_asksLady_95 l D aC b w x1 hJ.1 ) cv_X10_288 rfl rfl rfl (jv_lt hJ (by decide)) (Nat.le_of_ble_eq_true rfl) (Nat.le_of_ble_eq_true rfl) ⟨(Nat.le_of_ble_eq_true rfl), (Nat.le_of_ble_eq_true rfl)⟩ (Nat.le_of_ble_eq_true rfl) dX10_widen_2 (fun z_3 u_1 hp_2 => ?_)
  obtain ⟨hz_3, hp_2⟩ := hp_2
  have hj_4 := jv_trans hJ hp_2
  refine z_if_eq (tgt := 16) (u := z_3.toInt) E dX10_widen_5 (by decide) rfl (fun h_5 => ?_) (fun h_5 => ?_)
  ·
    refine s_bipush (v := (-2)) E dX10_widen_16 (by decide) ?_
    exact r_int E dX10_widen_18 ⟨(by decide), hj_4⟩
  ·
    refine s_aload_n E dX10_widen_8 rfl rfl ?_
    refine s_iload_n E dX10_widen_9 rfl rfl ?_
    refine s_vI (As := [AI x2]) (S := []) E (Z_X10_isDoor_95 l D aC b u_1 x2 hj_4.1 ) cv_X10_218 rfl rfl rfl (jv_lt hj_4 (by decide)) (Nat.le_of_ble_eq_true rfl) (Nat.le_of_ble_eq_true rfl) ⟨(Nat.le_of_ble_eq_true rfl), (Nat.le_of_ble_eq_true rfl)⟩ (Nat.le_of_ble_eq_true rfl) dX10_widen_10 (fun z_8 u_6 hp_7 => ?_)
    obtain ⟨hz_8, hp_7⟩ := hp_7
    subst hp_7
    refine z_if_ne (tgt := 19) (u := z_8.toInt) E dX10_widen_13 (by decide) rfl (fun h_10 => ?_) (fun h_10 => ?_)
    ·
      refine s_iconst (v := 1) E dX10_widen_19 (by decide) ?_
      refine s_istore_n (L2 := [some (AR 95), some (AI x1), some (AI x2), some (AI 1), none, none, none]) E dX10_widen_20 rfl (by decide) rfl ?_
      refine s_iconst (v := 0) E dX10_widen_21 (by decide) ?_
      refine s_istore (L2 := [some (AR 95), some (AI x1), some (AI x2), some (AI 1), some (AI 0), none, none]) E dX10_widen_22 (by decide) rfl ?_
      refine s_iconst (v := 1) E dX10_widen_24 (by decide) ?_
      refine s_istore (L2 := [some (AR 95), some (AI x1), some (AI x2), some (AI 1), some (AI 0), some (AI 1), none]) E dX10_widen_25 (by decide) rfl ?_
      refine z_loop (St := Int32 × Int32 × Int32) (Pi := fun ⟨q27_3_10, q27_4_10, q27_5_10⟩ v27 => (1 ≤ q27_3_10.toInt ∧ q27_3_10.toInt ≤ 64) ∧ (0 ≤ q27_4_10.toInt ∧ q27_4_10.toInt ≤ 2147483647) ∧ (1 ≤ q27_5_10.toInt ∧ q27_5_10.toInt ≤ 10) ∧ Jv w v27) (Lf := fun ⟨q27_3_10, q27_4_10, q27_5_10⟩ => [some (AR 95), some (AI x1), some (AI x2), some (AI q27_3_10), some (AI q27_4_10), some (AI q27_5_10), none]) (fun ⟨q27_3_10, q27_4_10, q27_5_10⟩ _ => (11 - q27_5_10.toInt).toNat) ⟨1, 0, 1⟩ ⟨⟨by decide, by decide⟩, ⟨by decide, by decide⟩, ⟨by decide, by decide⟩, hj_4⟩ ?_
      rintro ⟨q27_3_10, q27_4_10, q27_5_10⟩ v27 ⟨hq27_3, hq27_4, hq27_5, hj_11⟩ ih27
      refine s_loc (L2 := [some (AR 95), some (AI x1), some (AI x2), some (AI q27_3_10), some (AI q27_4_10), some (AI q27_5_10), none]) rfl ?_
      refine s_iload E dX10_widen_27 rfl ?_
      refine s_bipush (v := 9) E dX10_widen_29 (by decide) ?_
      refine z_icmp_gt (tgt := 70) (u := q27_5_10.toInt) (v := 9) E dX10_widen_31 (by decide) rfl (by decide) (fun h_12 => ?_) (fun h_12 => ?_)
      ·
        refine s_iload_n E dX10_widen_70 rfl rfl ?_
        exact r_int E dX10_widen_71 ⟨⟨by have hb_ := z32 q27_3_10; omega, by have hb_ := z32 q27_3_10; omega⟩, hj_11⟩
      ·
        refine s_aload_n E dX10_widen_34 rfl rfl ?_
        refine s_iload_n E dX10_widen_35 rfl rfl ?_
        refine s_iload_n E dX10_widen_36 rfl rfl ?_
        refine s_iload E dX10_widen_37 rfl ?_
        refine s_vI (As := [AI x1, AI x2, AI q27_5_10]) (S := []) E (Z_X10_haveWith_95 l D aC b v27 x1 x2 q27_5_10 hj_11.1 ⟨by have hb_ := z32 x1; omega, by have hb_ := z32 x1; omega⟩) cv_X10_368 rfl rfl rfl (jv_lt hj_11 (by decide)) (Nat.le_of_ble_eq_true rfl) (Nat.le_of_ble_eq_true rfl) ⟨(Nat.le_of_ble_eq_true rfl), (Nat.le_of_ble_eq_true rfl)⟩ (Nat.le_of_ble_eq_true rfl) dX10_widen_39 (fun z_15 u_13 hp_14 => ?_)
        obtain ⟨hz_15, hp_14⟩ := hp_14
        have hj_16 := jv_trans hj_11 hp_14
        refine s_sI (As := [AI z_15]) (S := []) E (Z_X10_bits l D aC b u_13 z_15 hj_16.1 ) cs_X10_319 rfl rfl (Nat.le_of_ble_eq_true rfl) (Nat.le_of_ble_eq_true rfl) ⟨(Nat.le_of_ble_eq_true rfl), (Nat.le_of_ble_eq_true rfl)⟩ (Nat.le_of_ble_eq_true rfl) dX10_widen_42 (fun z_19 u_17 hp_18 => ?_)
        obtain ⟨hz_19, hp_18⟩ := hp_18
        subst hp_18
        refine s_istore (L2 := [some (AR 95), some (AI x1), some (AI x2), some (AI q27_3_10), some (AI q27_4_10), some (AI q27_5_10), some (AI z_19)]) E dX10_widen_45 (by decide) rfl ?_
        refine s_iload E dX10_widen_47 rfl ?_
        refine s_iload E dX10_widen_49 rfl ?_
        refine z_icmp_gt (tgt := 57) (u := z_19.toInt) (v := q27_4_10.toInt) E dX10_widen_51 (by decide) rfl rfl (fun h_21 => ?_) (fun h_21 => ?_)
        ·
          refine s_iload E dX10_widen_57 rfl ?_
          refine s_istore (L2 := [some (AR 95), some (AI x1), some (AI x2), some (AI q27_3_10), some (AI z_19), some (AI q27_5_10), some (AI z_19)]) E dX10_widen_59 (by decide) rfl ?_
          refine s_iload E dX10_widen_61 rfl ?_
          refine s_istore_n (L2 := [some (AR 95), some (AI x1), some (AI x2), some (AI q27_5_10), some (AI z_19), some (AI q27_5_10), some (AI z_19)]) E dX10_widen_63 rfl (by decide) rfl ?_
          refine z_iinc (u := q27_5_10.toInt) (L2 := fun z_22 => [some (AR 95), some (AI x1), some (AI x2), some (AI q27_5_10), some (AI z_19), some (AI z_22), some (AI z_19)]) E dX10_widen_64 rfl rfl (by decide) (fun _ => rfl) (by decide) (by omega) (by omega) (fun z_22 hz_22 => ?_)
          refine s_goto (tgt := 27) E dX10_widen_67 (by decide) ?_
          refine s_drop (i := 6) (L2 := [some (AR 95), some (AI x1), some (AI x2), some (AI q27_5_10), some (AI z_19), some (AI z_22), none]) rfl ?_
          exact ih27 ⟨q27_5_10, z_19, z_22⟩ u_13 ⟨⟨by have hb_ := z32 q27_5_10; omega, by have hb_ := z32 q27_5_10; omega⟩, ⟨by have hb_ := z32 z_19; omega, by have hb_ := z32 z_19; omega⟩, ⟨by have hb_ := z32 z_22; omega, by have hb_ := z32 z_22; omega⟩, hj_16⟩ (by first | omega | decide | (dsimp only; omega) | (dsimp only; decide))
        ·
          refine s_goto (tgt := 64) E dX10_widen_54 (by decide) ?_
          refine z_iinc (u := q27_5_10.toInt) (L2 := fun z_23 => [some (AR 95), some (AI x1), some (AI x2), some (AI q27_3_10), some (AI q27_4_10), some (AI z_23), some (AI z_19)]) E dX10_widen_64 rfl rfl (by decide) (fun _ => rfl) (by decide) (by omega) (by omega) (fun z_23 hz_23 => ?_)
          refine s_goto (tgt := 27) E dX10_widen_67 (by decide) ?_
          refine s_drop (i := 6) (L2 := [some (AR 95), some (AI x1), some (AI x2), some (AI q27_3_10), some (AI q27_4_10), some (AI z_23), none]) rfl ?_
          exact ih27 ⟨q27_3_10, q27_4_10, z_23⟩ u_13 ⟨⟨by have hb_ := z32 q27_3_10; omega, by have hb_ := z32 q27_3_10; omega⟩, ⟨by have hb_ := z32 q27_4_10; omega, by have hb_ := z32 q27_4_10; omega⟩, ⟨by have hb_ := z32 z_23; omega, by have hb_ := z32 z_23; omega⟩, hj_16⟩ (by first | omega | decide | (dsimp only; omega) | (dsimp only; decide))
    ·
      refine s_bipush (v := (-2)) E dX10_widen_16 (by decide) ?_
      exact r_int E dX10_widen_18 ⟨(by decide), hj_4⟩
set_option maxRecDepth 20000 in
set_option maxHeartbeats 2000000 in
theorem Z_X10_shut_95 (l : Launch) (D : va_G) (aC : Nat → ClassId) (b : Nat) (w : XW) (x1 : Int32) (x2 : Int32) (hI : Iv w)  : CnI l D aC b M_X10_shut 6 140 0 0 [AR 95, AI x1, AI x2] w (fun r u => ((-2147483648) ≤ r.toInt ∧ r.toInt ≤ 2147483647 ∧ (¬ r.toInt = 0 ∨ (0 ≤ x1.toInt ∧ x1.toInt ≤ 5)) ∧ (¬ r.toInt = 0 ∨ (0 ≤ x2.toInt ∧ x2.toInt ≤ 11))) ∧ Jv w u) := by
  refine cn_I (own := RX10) (nm := "shut") (L0 := [some (AR 95), some (AI x1), some (AI x2)]) (by decide +kernel) rfl rfl (Nat.le_of_ble_eq_true rfl) rfl ?_
  intro p e s m args below meth c E hin
  have hJ : Jv w w := jv_rfl hI
  have hb_x1 := z32 x1
  have hb_x2 := z32 x2
  refine s_aload_n E dX10_shut_0 rfl rfl ?_
  refine s_iload_n E dX10_shut_1 rfl rfl ?_
  refine s_vI (As := [AI x1]) (S := []) E (Z_X10_asksLady_95 l D aC b w x1 hJ.1 ) cv_X10_288 rfl rfl rfl (jv_lt hJ (by decide)) (Nat.le_of_ble_eq_true rfl) (Nat.le_of_ble_eq_true rfl) ⟨(Nat.le_of_ble_eq_true rfl), (Nat.le_of_ble_eq_true rfl)⟩ (Nat.le_of_ble_eq_true rfl) dX10_shut_2 (fun z_3 u_1 hp_2 => ?_)
  obtain ⟨hz_3, hp_2⟩ := hp_2
  have hj_4 := jv_trans hJ hp_2
  refine z_if_eq (tgt := 26) (u := z_3.toInt) E dX10_shut_5 (by decide) rfl (fun h_5 => ?_) (fun h_5 => ?_)
  ·
    refine s_bipush (v := (-2)) E dX10_shut_26 (by decide) ?_
    exact r_int E dX10_shut_28 ⟨⟨by decide, by decide, by first | (left; decide) | (right; decide) | (right; have hb_ := z32 x1; omega), by first | (left; decide) | (right; decide) | (right; have hb_ := z32 x2; omega)⟩, hj_4⟩
  ·
    refine s_aload_n E dX10_shut_8 rfl rfl ?_
    refine s_iload_n E dX10_shut_9 rfl rfl ?_
    refine s_vI (As := [AI x2]) (S := []) E (Z_X10_isDoor_95 l D aC b u_1 x2 hj_4.1 ) cv_X10_218 rfl rfl rfl (jv_lt hj_4 (by decide)) (Nat.le_of_ble_eq_true rfl) (Nat.le_of_ble_eq_true rfl) ⟨(Nat.le_of_ble_eq_true rfl), (Nat.le_of_ble_eq_true rfl)⟩ (Nat.le_of_ble_eq_true rfl) dX10_shut_10 (fun z_8 u_6 hp_7 => ?_)
    obtain ⟨hz_8, hp_7⟩ := hp_7
    subst hp_7
    refine z_if_eq (tgt := 26) (u := z_8.toInt) E dX10_shut_13 (by decide) rfl (fun h_10 => ?_) (fun h_10 => ?_)
    ·
      refine s_bipush (v := (-2)) E dX10_shut_26 (by decide) ?_
      exact r_int E dX10_shut_28 ⟨⟨by decide, by decide, by first | (left; decide) | (right; decide) | (right; have hb_ := z32 x1; omega), by first | (left; decide) | (right; decide) | (right; have hb_ := z32 x2; omega)⟩, hj_4⟩
    ·
      refine s_aload_n E dX10_shut_16 rfl rfl ?_
      refine s_iload_n E dX10_shut_17 rfl rfl ?_
      refine s_iload_n E dX10_shut_18 rfl rfl ?_
      refine s_iconst (v := 0) E dX10_shut_19 (by decide) ?_
      refine s_vI (As := [AI x1, AI x2, AI 0]) (S := []) E (Z_X10_haveWith_95 l D aC b u_1 x1 x2 0 hj_4.1 ⟨by have hb_ := z32 x1; omega, by have hb_ := z32 x1; omega⟩) cv_X10_368 rfl rfl rfl (jv_lt hj_4 (by decide)) (Nat.le_of_ble_eq_true rfl) (Nat.le_of_ble_eq_true rfl) ⟨(Nat.le_of_ble_eq_true rfl), (Nat.le_of_ble_eq_true rfl)⟩ (Nat.le_of_ble_eq_true rfl) dX10_shut_20 (fun z_13 u_11 hp_12 => ?_)
      obtain ⟨hz_13, hp_12⟩ := hp_12
      have hj_14 := jv_trans hj_4 hp_12
      refine s_goto (tgt := 28) E dX10_shut_23 (by decide) ?_
      exact r_int E dX10_shut_28 ⟨⟨by have hb_ := z32 z_13; omega, by have hb_ := z32 z_13; omega, by first | (right; decide) | (have hb_ := z32 z_13; omega) | (have hb_ := z32 z_13; have hc_ := z32 x1; omega), by first | (right; decide) | (have hb_ := z32 z_13; omega) | (have hb_ := z32 z_13; have hc_ := z32 x2; omega)⟩, hj_14⟩
set_option maxRecDepth 20000 in
set_option maxHeartbeats 2000000 in
theorem Z_X10_bars_95 (l : Launch) (D : va_G) (aC : Nat → ClassId) (b : Nat) (w : XW) (x1 : Int32) (x2 : Int32) (x3 : Int32) (hI : Iv w)  : CnI l D aC b M_X10_bars 4 92 0 0 [AR 95, AI x1, AI x2, AI x3] w (fun r u => ((-2) ≤ r.toInt ∧ r.toInt ≤ 9 ∧ (¬ r.toInt = 0 ∨ (0 ≤ x1.toInt ∧ x1.toInt ≤ 5)) ∧ (¬ r.toInt = 0 ∨ (0 ≤ x2.toInt ∧ x2.toInt ≤ 7)) ∧ (¬ r.toInt = 0 ∨ (0 ≤ x3.toInt ∧ x3.toInt ≤ 7)) ∧ (¬ r.toInt = 0 ∨ (0 ≤ (w.2.2.1 96 5).toInt ∧ (w.2.2.1 96 5).toInt ≤ 6)) ∧ (¬ r.toInt = 0 ∨ (0 ≤ (w.2.2.1 96 0).toInt ∧ (w.2.2.1 96 0).toInt ≤ 8)) ∧ (r.toInt = 0 ∨ (0 ≤ (w.2.2.1 96 5).toInt ∧ (w.2.2.1 96 5).toInt ≤ 6))) ∧ Jv w u) := by
  refine cn_I (own := RX10) (nm := "bars") (L0 := [some (AR 95), some (AI x1), some (AI x2), some (AI x3)]) (by decide +kernel) rfl rfl (Nat.le_of_ble_eq_true rfl) rfl ?_
  intro p e s m args below meth c E hin
  have hJ : Jv w w := jv_rfl hI
  have hb_x1 := z32 x1
  have hb_x2 := z32 x2
  have hb_x3 := z32 x3
  refine s_aload_n E dX10_bars_0 rfl rfl ?_
  refine s_iload_n E dX10_bars_1 rfl rfl ?_
  refine z_i2l (u := x1.toInt) E dX10_bars_2 rfl (fun z_1 hz_1 => ?_)
  refine s_vI (As := [AL z_1]) (S := []) E (Z_X10_isLady_95 l D aC b w z_1 hJ.1 ) cv_X10_222 rfl rfl rfl (jv_lt hJ (by decide)) (Nat.le_of_ble_eq_true rfl) (Nat.le_of_ble_eq_true rfl) ⟨(Nat.le_of_ble_eq_true rfl), (Nat.le_of_ble_eq_true rfl)⟩ (Nat.le_of_ble_eq_true rfl) dX10_bars_3 (fun z_4 u_2 hp_3 => ?_)
  obtain ⟨hz_4, hp_3⟩ := hp_3
  subst hp_3
  refine z_if_eq (tgt := 25) (u := z_4.toInt) E dX10_bars_6 (by decide) rfl (fun h_6 => ?_) (fun h_6 => ?_)
  ·
    refine s_bipush (v := (-2)) E dX10_bars_25 (by decide) ?_
    exact r_int E dX10_bars_27 ⟨⟨by decide, by decide, by first | (left; decide) | (right; decide) | (right; have hb_ := z32 x1; omega), by first | (left; decide) | (right; decide) | (right; have hb_ := z32 x2; omega), by first | (left; decide) | (right; decide) | (right; have hb_ := z32 x3; omega), by first | (left; decide) | (right; decide) | (right; have hb_ := z32 (w.2.2.1 96 5); omega), by first | (left; decide) | (right; decide) | (right; have hb_ := z32 (w.2.2.1 96 0); omega), by first | (left; decide) | (right; decide) | (right; have hb_ := z32 (w.2.2.1 96 5); omega)⟩, hJ⟩
  ·
    refine s_aload_n E dX10_bars_9 rfl rfl ?_
    refine s_iload_n E dX10_bars_10 rfl rfl ?_
    refine s_vI (As := [AI x2]) (S := []) E (Z_X10_isRoom_95 l D aC b w x2 hJ.1 ) cv_X10_291 rfl rfl rfl (jv_lt hJ (by decide)) (Nat.le_of_ble_eq_true rfl) (Nat.le_of_ble_eq_true rfl) ⟨(Nat.le_of_ble_eq_true rfl), (Nat.le_of_ble_eq_true rfl)⟩ (Nat.le_of_ble_eq_true rfl) dX10_bars_11 (fun z_9 u_7 hp_8 => ?_)
    obtain ⟨hz_9, hp_8⟩ := hp_8
    subst hp_8
    refine z_if_eq (tgt := 25) (u := z_9.toInt) E dX10_bars_14 (by decide) rfl (fun h_11 => ?_) (fun h_11 => ?_)
    ·
      refine s_bipush (v := (-2)) E dX10_bars_25 (by decide) ?_
      exact r_int E dX10_bars_27 ⟨⟨by decide, by decide, by first | (left; decide) | (right; decide) | (right; have hb_ := z32 x1; omega), by first | (left; decide) | (right; decide) | (right; have hb_ := z32 x2; omega), by first | (left; decide) | (right; decide) | (right; have hb_ := z32 x3; omega), by first | (left; decide) | (right; decide) | (right; have hb_ := z32 (w.2.2.1 96 5); omega), by first | (left; decide) | (right; decide) | (right; have hb_ := z32 (w.2.2.1 96 0); omega), by first | (left; decide) | (right; decide) | (right; have hb_ := z32 (w.2.2.1 96 5); omega)⟩, hJ⟩
    ·
      refine s_aload_n E dX10_bars_17 rfl rfl ?_
      refine s_iload_n E dX10_bars_18 rfl rfl ?_
      refine s_vI (As := [AI x3]) (S := []) E (Z_X10_isRoom_95 l D aC b w x3 hJ.1 ) cv_X10_291 rfl rfl rfl (jv_lt hJ (by decide)) (Nat.le_of_ble_eq_true rfl) (Nat.le_of_ble_eq_true rfl) ⟨(Nat.le_of_ble_eq_true rfl), (Nat.le_of_ble_eq_true rfl)⟩ (Nat.le_of_ble_eq_true rfl) dX10_bars_19 (fun z_14 u_12 hp_13 => ?_)
      obtain ⟨hz_14, hp_13⟩ := hp_13
      subst hp_13
      refine z_if_ne (tgt := 28) (u := z_14.toInt) E dX10_bars_22 (by decide) rfl (fun h_16 => ?_) (fun h_16 => ?_)
      ·
        refine s_iload_n E dX10_bars_28 rfl rfl ?_
        refine s_iload_n E dX10_bars_29 rfl rfl ?_
        refine z_icmp_ne (tgt := 35) (u := x2.toInt) (v := x3.toInt) E dX10_bars_30 (by decide) rfl rfl (fun h_17 => ?_) (fun h_17 => ?_)
        ·
          refine s_aload_n E dX10_bars_35 rfl rfl ?_
          refine s_vV (As := []) (S := []) E (Z_X10_asItIs_95 l D aC b w  hJ.1 ) cv_X10_279 rfl rfl rfl (jv_lt hJ (by decide)) (Nat.le_of_ble_eq_true rfl) (Nat.le_of_ble_eq_true rfl) ⟨(Nat.le_of_ble_eq_true rfl), (Nat.le_of_ble_eq_true rfl)⟩ (Nat.le_of_ble_eq_true rfl) dX10_bars_36 (fun u_18 hp_19 => ?_)
          have hj_20 := jv_trans hJ hp_19
          refine s_aload_n E dX10_bars_39 rfl rfl ?_
          refine s_iconst (v := 1) E dX10_bars_40 (by decide) ?_
          refine s_iload_n E dX10_bars_41 rfl rfl ?_
          refine s_iload_n E dX10_bars_42 rfl rfl ?_
          refine s_vI (As := [AI 1, AI x2, AI x3]) (S := []) E (Z_X10_wayOf_95 l D aC b u_18 1 x2 x3 hj_20.1 (by decide) ⟨by have hb_ := z32 x2; omega, by have hb_ := z32 x2; omega⟩ ⟨by have hb_ := z32 x3; omega, by have hb_ := z32 x3; omega⟩) cv_X10_233 rfl rfl rfl (jv_lt hj_20 (by decide)) (Nat.le_of_ble_eq_true rfl) (Nat.le_of_ble_eq_true rfl) ⟨(Nat.le_of_ble_eq_true rfl), (Nat.le_of_ble_eq_true rfl)⟩ (Nat.le_of_ble_eq_true rfl) dX10_bars_43 (fun z_23 u_21 hp_22 => ?_)
          obtain ⟨hz_23, hxz_23, hp_22⟩ := hp_22
          have hc_ : (1 : Int32).toInt = 1 := by decide
          subst hp_22
          refine s_ldc E k_1513 rfl dX10_bars_46 ?_
          refine z_icmp_lt (tgt := 55) (u := z_23.toInt) (v := 1000000000) E dX10_bars_48 (by decide) rfl (by decide) (fun h_25 => ?_) (fun h_25 => ?_)
          ·
            refine s_aload_n E dX10_bars_55 rfl rfl ?_
            refine s_iload_n E dX10_bars_56 rfl rfl ?_
            refine s_vI (As := [AI x1]) (S := []) E (Z_X10_wideOf_95 l D aC b u_18 x1 hj_20.1 ⟨by have hb_ := z32 x1; omega, by have hb_ := z32 x1; omega⟩) cv_X10_238 rfl rfl rfl (jv_lt hj_20 (by decide)) (Nat.le_of_ble_eq_true rfl) (Nat.le_of_ble_eq_true rfl) ⟨(Nat.le_of_ble_eq_true rfl), (Nat.le_of_ble_eq_true rfl)⟩ (Nat.le_of_ble_eq_true rfl) dX10_bars_57 (fun z_28 u_26 hp_27 => ?_)
            obtain ⟨hz_28, hxz_28, hp_27⟩ := hp_27
            subst hp_27
            exact r_int E dX10_bars_60 ⟨⟨by have hb_ := z32 z_28; omega, by have hb_ := z32 z_28; omega, by first | (right; decide) | (have hb_ := z32 z_28; omega) | (have hb_ := z32 z_28; have hc_ := z32 x1; omega), by first | (right; decide) | (have hb_ := z32 z_28; omega) | (have hb_ := z32 z_28; have hc_ := z32 x2; omega), by first | (right; decide) | (have hb_ := z32 z_28; omega) | (have hb_ := z32 z_28; have hc_ := z32 x3; omega), by first | (right; decide) | (have hb_ := z32 z_28; omega) | (have hb_ := z32 z_28; have hc_ := z32 (w.2.2.1 96 5); omega), by first | (right; decide) | (have hb_ := z32 z_28; omega) | (have hb_ := z32 z_28; have hc_ := z32 (w.2.2.1 96 0); omega), by first | (right; decide) | (have hb_ := z32 z_28; omega) | (have hb_ := z32 z_28; have hc_ := z32 (w.2.2.1 96 5); omega)⟩, hj_20⟩
          ·
            refine s_iconst (v := (-1)) E dX10_bars_51 (by decide) ?_
            refine s_goto (tgt := 60) E dX10_bars_52 (by decide) ?_
            exact r_int E dX10_bars_60 ⟨⟨by decide, by decide, by first | (left; decide) | (right; decide) | (right; have hb_ := z32 x1; omega), by first | (left; decide) | (right; decide) | (right; have hb_ := z32 x2; omega), by first | (left; decide) | (right; decide) | (right; have hb_ := z32 x3; omega), by first | (left; decide) | (right; decide) | (right; have hb_ := z32 (w.2.2.1 96 5); omega), by first | (left; decide) | (right; decide) | (right; have hb_ := z32 (w.2.2.1 96 0); omega), by first | (left; decide) | (right; decide) | (right; have hb_ := z32 (w.2.2.1 96 5); omega)⟩, hj_20⟩
        ·
          refine s_iconst (v := 1) E dX10_bars_33 (by decide) ?_
          exact r_int E dX10_bars_34 ⟨⟨by decide, by decide, by first | (left; decide) | (right; decide) | (right; have hb_ := z32 x1; omega), by first | (left; decide) | (right; decide) | (right; have hb_ := z32 x2; omega), by first | (left; decide) | (right; decide) | (right; have hb_ := z32 x3; omega), by first | (left; decide) | (right; decide) | (right; have hb_ := z32 (w.2.2.1 96 5); omega), by first | (left; decide) | (right; decide) | (right; have hb_ := z32 (w.2.2.1 96 0); omega), by first | (left; decide) | (right; decide) | (right; have hb_ := z32 (w.2.2.1 96 5); omega)⟩, hJ⟩
      ·
        refine s_bipush (v := (-2)) E dX10_bars_25 (by decide) ?_
        exact r_int E dX10_bars_27 ⟨⟨by decide, by decide, by first | (left; decide) | (right; decide) | (right; have hb_ := z32 x1; omega), by first | (left; decide) | (right; decide) | (right; have hb_ := z32 x2; omega), by first | (left; decide) | (right; decide) | (right; have hb_ := z32 x3; omega), by first | (left; decide) | (right; decide) | (right; have hb_ := z32 (w.2.2.1 96 5); omega), by first | (left; decide) | (right; decide) | (right; have hb_ := z32 (w.2.2.1 96 0); omega), by first | (left; decide) | (right; decide) | (right; have hb_ := z32 (w.2.2.1 96 5); omega)⟩, hJ⟩
set_option maxRecDepth 20000 in
set_option maxHeartbeats 2000000 in
theorem Z_X10_isSlot (l : Launch) (D : va_G) (aC : Nat → ClassId) (b : Nat) (w : XW) (x1 : Int32) (hI : Iv w)  : CnI l D aC b M_X10_isSlot 1 25 0 0 [AI x1] w (fun r u => (0 ≤ r.toInt ∧ r.toInt ≤ 1 ∧ (r.toInt = 0 ∨ (0 ≤ x1.toInt ∧ x1.toInt ≤ 3))) ∧ w = u) := by
  refine cn_I (own := RX10) (nm := "isSlot") (L0 := [some (AI x1)]) (by decide +kernel) rfl rfl (Nat.le_of_ble_eq_true rfl) rfl ?_
  intro p e s m args below meth c E hin
  have hJ : Jv w w := jv_rfl hI
  have hb_x1 := z32 x1
  refine s_iload_n E dX10_isSlot_0 rfl rfl ?_
  refine z_i2l (u := x1.toInt) E dX10_isSlot_1 rfl (fun z_1 hz_1 => ?_)
  refine s_lconst (v := 0) E dX10_isSlot_2 (by decide) ?_
  refine s_ldc2 E k_1737 rfl dX10_isSlot_3 ?_
  refine s_sI (As := [AL z_1, AL 0, AL 3]) (S := []) E (Z_X10_in l D aC b w z_1 0 3) cs_X10_82 rfl rfl (Nat.le_of_ble_eq_true rfl) (Nat.le_of_ble_eq_true rfl) ⟨(Nat.le_of_ble_eq_true rfl), (Nat.le_of_ble_eq_true rfl)⟩ (Nat.le_of_ble_eq_true rfl) dX10_isSlot_6 (fun z_2 u_3 hp_4 => ?_)
  obtain ⟨hz_2, hp_4⟩ := hp_4
  subst hp_4
  exact r_bool E dX10_isSlot_9 (z_bool (by omega) (by omega)) ⟨⟨by have hb_ := z32 z_2; omega, by have hb_ := z32 z_2; omega, by first | (right; decide) | (have hb_ := z32 z_2; omega) | (have hb_ := z32 z_2; have hc_ := z32 x1; omega)⟩, rfl⟩
set_option maxRecDepth 20000 in
set_option maxHeartbeats 2000000 in
theorem Z_X10_numberAt_95 (l : Launch) (D : va_G) (aC : Nat → ClassId) (b : Nat) (w : XW) (x1 : Int32) (x2 : Int32) (hI : Iv w) (hx1 : 0 ≤ x1.toInt ∧ x1.toInt ≤ 3) (hx2 : 0 ≤ x2.toInt ∧ x2.toInt ≤ 59) : CnL l D aC b M_X10_numberAt 0 0 0 0 [AR 95, AI x1, AI x2] w (fun r u => ((-9223372036854775808) ≤ r.toInt ∧ r.toInt ≤ 9223372036854775807) ∧ (r.toInt = (w.2.2.2 114 (60 * x1.toInt + x2.toInt).toNat).toInt) ∧ w = u) := by
  refine cn_L (own := RX10) (nm := "numberAt") (L0 := [some (AR 95), some (AI x1), some (AI x2)]) (by decide +kernel) rfl rfl (Nat.le_of_ble_eq_true rfl) rfl ?_
  intro p e s m args below meth c E hin
  have hJ : Jv w w := jv_rfl hI
  refine s_aload_n E dX10_numberAt_0 rfl rfl ?_
  refine s_gR (r := 114) E fg_X10_70 rfl rfl (jv_lt hJ (by decide)) (jv_r hJ (by decide +kernel)) dX10_numberAt_1 ?_
  refine s_bipush (v := 60) E dX10_numberAt_4 (by decide) ?_
  refine s_iload_n E dX10_numberAt_6 rfl rfl ?_
  refine z_imul (u := 60) (v := x1.toInt) E dX10_numberAt_7 (by decide) rfl (by omega) (by omega) (fun z_1 hz_1 => ?_)
  refine s_iload_n E dX10_numberAt_8 rfl rfl ?_
  refine z_iadd (u := z_1.toInt) (v := x2.toInt) E dX10_numberAt_9 rfl rfl (by omega) (by omega) (fun z_2 hz_2 => ?_)
  have hi_ : z_2.toNatClampNeg = (60 * x1.toInt + x2.toInt).toNat := by have e_ : z_2.toNatClampNeg = z_2.toInt.toNat := rfl; omega
  refine s_lald E rfl (jv_lt hJ (by decide)) (z_in (u := z_2.toInt) rfl (by omega) (by omega)) dX10_numberAt_10 ?_
  refine z_nmL (P := fun z => z.toInt = (w.2.2.2 114 z_2.toNatClampNeg).toInt) rfl (fun z_3 hz_3 => ?_)
  exact r_long E dX10_numberAt_11 ⟨⟨by have hb_ := z64 z_3; omega, by have hb_ := z64 z_3; omega⟩, (by rw [← hi_]; omega), rfl⟩
set_option maxRecDepth 20000 in
set_option maxHeartbeats 2000000 in
theorem Z_X10_isThree_95 (l : Launch) (D : va_G) (aC : Nat → ClassId) (b : Nat) (w : XW) (x1 : Int32) (x2 : Int32) (hI : Iv w) (hx1 : 0 ≤ x1.toInt ∧ x1.toInt ≤ 3) (hx2 : 0 ≤ x2.toInt ∧ x2.toInt ≤ 57) : CnI l D aC b M_X10_isThree 2 47 0 0 [AR 95, AI x1, AI x2] w (fun r u => (0 ≤ r.toInt ∧ r.toInt ≤ 1 ∧ (¬ r.toInt = 0 ∨ (0 ≤ (w.2.2.1 96 5).toInt ∧ (w.2.2.1 96 5).toInt ≤ 6)) ∧ (r.toInt = 0 ∨ (0 ≤ (w.2.2.1 96 5).toInt ∧ (w.2.2.1 96 5).toInt ≤ 6)) ∧ (r.toInt = 0 ∨ (1 ≤ (w.2.2.1 96 9).toInt ∧ (w.2.2.1 96 9).toInt ≤ 2147483647)) ∧ (r.toInt = 0 ∨ (0 ≤ (w.2.2.1 96 1).toInt ∧ (w.2.2.1 96 1).toInt ≤ 14))) ∧ (r.toInt = 0 ∨ (0 ≤ (w.2.2.2 114 (60 * x1.toInt + x2.toInt + 1).toNat).toInt ∧ (w.2.2.2 114 (60 * x1.toInt + x2.toInt + 1).toNat).toInt ≤ 14)) ∧ w = u) := by
  refine cn_I (own := RX10) (nm := "isThree") (L0 := [some (AR 95), some (AI x1), some (AI x2)]) (by decide +kernel) rfl rfl (Nat.le_of_ble_eq_true rfl) rfl ?_
  intro p e s m args below meth c E hin
  have hJ : Jv w w := jv_rfl hI
  refine s_aload_n E dX10_isThree_0 rfl rfl ?_
  refine s_aload_n E dX10_isThree_1 rfl rfl ?_
  refine s_iload_n E dX10_isThree_2 rfl rfl ?_
  refine s_iload_n E dX10_isThree_3 rfl rfl ?_
  refine s_vL (As := [AI x1, AI x2]) (S := [AR 95]) E (Z_X10_numberAt_95 l D aC b w x1 x2 hJ.1 ⟨by have hb_ := z32 x1; omega, by have hb_ := z32 x1; omega⟩ ⟨by have hb_ := z32 x2; omega, by have hb_ := z32 x2; omega⟩) cv_X10_371 rfl rfl rfl (jv_lt hJ (by decide)) (Nat.le_of_ble_eq_true rfl) (Nat.le_of_ble_eq_true rfl) ⟨(Nat.le_of_ble_eq_true rfl), (Nat.le_of_ble_eq_true rfl)⟩ (Nat.le_of_ble_eq_true rfl) dX10_isThree_4 (fun z_3 u_1 hp_2 => ?_)
  obtain ⟨hz_3, hxz_3, hp_2⟩ := hp_2
  subst hp_2
  refine s_vI (As := [AL z_3]) (S := []) E (Z_X10_isLady_95 l D aC b w z_3 hJ.1 ) cv_X10_222 rfl rfl rfl (jv_lt hJ (by decide)) (Nat.le_of_ble_eq_true rfl) (Nat.le_of_ble_eq_true rfl) ⟨(Nat.le_of_ble_eq_true rfl), (Nat.le_of_ble_eq_true rfl)⟩ (Nat.le_of_ble_eq_true rfl) dX10_isThree_7 (fun z_7 u_5 hp_6 => ?_)
  obtain ⟨hz_7, hp_6⟩ := hp_6
  subst hp_6
  refine z_if_eq (tgt := 48) (u := z_7.toInt) E dX10_isThree_10 (by decide) rfl (fun h_9 => ?_) (fun h_9 => ?_)
  ·
    refine s_iconst (v := 0) E dX10_isThree_48 (by decide) ?_
    exact r_bool E dX10_isThree_49 (Or.inl rfl) ⟨⟨by decide, by decide, by first | (left; decide) | (right; decide) | (right; have hb_ := z32 (w.2.2.1 96 5); omega), by first | (left; decide) | (right; decide) | (right; have hb_ := z32 (w.2.2.1 96 5); omega), by first | (left; decide) | (right; decide) | (right; have hb_ := z32 (w.2.2.1 96 9); omega), by first | (left; decide) | (right; decide) | (right; have hb_ := z32 (w.2.2.1 96 1); omega)⟩, (by first | exact Or.inl (by decide) | exact Or.inr (by omega)), rfl⟩
  ·
    refine s_aload_n E dX10_isThree_13 rfl rfl ?_
    refine s_aload_n E dX10_isThree_14 rfl rfl ?_
    refine s_iload_n E dX10_isThree_15 rfl rfl ?_
    refine s_iload_n E dX10_isThree_16 rfl rfl ?_
    refine s_iconst (v := 1) E dX10_isThree_17 (by decide) ?_
    refine z_iadd (u := x2.toInt) (v := 1) E dX10_isThree_18 rfl (by decide) (by omega) (by omega) (fun z_10 hz_10 => ?_)
    refine s_vL (As := [AI x1, AI z_10]) (S := [AR 95]) E (Z_X10_numberAt_95 l D aC b w x1 z_10 hJ.1 ⟨by have hb_ := z32 x1; omega, by have hb_ := z32 x1; omega⟩ ⟨by have hb_ := z32 z_10; omega, by have hb_ := z32 z_10; omega⟩) cv_X10_371 rfl rfl rfl (jv_lt hJ (by decide)) (Nat.le_of_ble_eq_true rfl) (Nat.le_of_ble_eq_true rfl) ⟨(Nat.le_of_ble_eq_true rfl), (Nat.le_of_ble_eq_true rfl)⟩ (Nat.le_of_ble_eq_true rfl) dX10_isThree_19 (fun z_13 u_11 hp_12 => ?_)
    obtain ⟨hz_13, hxz_13, hp_12⟩ := hp_12
    subst hp_12
    have hN_ : z_13.toInt = (w.2.2.2 114 (60 * x1.toInt + x2.toInt + 1).toNat).toInt := by rw [hxz_13, show 60 * x1.toInt + z_10.toInt = 60 * x1.toInt + x2.toInt + 1 by omega]
    refine s_vI (As := [AL z_13]) (S := []) E (Z_X10_isDance_95 l D aC b w z_13 hJ.1 ) cv_X10_282 rfl rfl rfl (jv_lt hJ (by decide)) (Nat.le_of_ble_eq_true rfl) (Nat.le_of_ble_eq_true rfl) ⟨(Nat.le_of_ble_eq_true rfl), (Nat.le_of_ble_eq_true rfl)⟩ (Nat.le_of_ble_eq_true rfl) dX10_isThree_22 (fun z_17 u_15 hp_16 => ?_)
    obtain ⟨hz_17, hp_16⟩ := hp_16
    subst hp_16
    refine z_if_eq (tgt := 48) (u := z_17.toInt) E dX10_isThree_25 (by decide) rfl (fun h_19 => ?_) (fun h_19 => ?_)
    ·
      refine s_iconst (v := 0) E dX10_isThree_48 (by decide) ?_
      exact r_bool E dX10_isThree_49 (Or.inl rfl) ⟨⟨by decide, by decide, by first | (left; decide) | (right; decide) | (right; have hb_ := z32 (w.2.2.1 96 5); omega), by first | (left; decide) | (right; decide) | (right; have hb_ := z32 (w.2.2.1 96 5); omega), by first | (left; decide) | (right; decide) | (right; have hb_ := z32 (w.2.2.1 96 9); omega), by first | (left; decide) | (right; decide) | (right; have hb_ := z32 (w.2.2.1 96 1); omega)⟩, (by first | exact Or.inl (by decide) | exact Or.inr (by omega)), rfl⟩
    ·
      refine s_aload_n E dX10_isThree_28 rfl rfl ?_
      refine s_iload_n E dX10_isThree_29 rfl rfl ?_
      refine s_iload_n E dX10_isThree_30 rfl rfl ?_
      refine s_iconst (v := 2) E dX10_isThree_31 (by decide) ?_
      refine z_iadd (u := x2.toInt) (v := 2) E dX10_isThree_32 rfl (by decide) (by omega) (by omega) (fun z_20 hz_20 => ?_)
      refine s_vL (As := [AI x1, AI z_20]) (S := []) E (Z_X10_numberAt_95 l D aC b w x1 z_20 hJ.1 ⟨by have hb_ := z32 x1; omega, by have hb_ := z32 x1; omega⟩ ⟨by have hb_ := z32 z_20; omega, by have hb_ := z32 z_20; omega⟩) cv_X10_371 rfl rfl rfl (jv_lt hJ (by decide)) (Nat.le_of_ble_eq_true rfl) (Nat.le_of_ble_eq_true rfl) ⟨(Nat.le_of_ble_eq_true rfl), (Nat.le_of_ble_eq_true rfl)⟩ (Nat.le_of_ble_eq_true rfl) dX10_isThree_33 (fun z_23 u_21 hp_22 => ?_)
      obtain ⟨hz_23, hxz_23, hp_22⟩ := hp_22
      subst hp_22
      refine s_lconst (v := 0) E dX10_isThree_36 (by decide) ?_
      refine s_lconst (v := 1) E dX10_isThree_37 (by decide) ?_
      refine s_sI (As := [AL z_23, AL 0, AL 1]) (S := []) E (Z_X10_in l D aC b w z_23 0 1) cs_X10_82 rfl rfl (Nat.le_of_ble_eq_true rfl) (Nat.le_of_ble_eq_true rfl) ⟨(Nat.le_of_ble_eq_true rfl), (Nat.le_of_ble_eq_true rfl)⟩ (Nat.le_of_ble_eq_true rfl) dX10_isThree_38 (fun z_25 u_26 hp_27 => ?_)
      obtain ⟨hz_25, hp_27⟩ := hp_27
      subst hp_27
      refine z_if_eq (tgt := 48) (u := z_25.toInt) E dX10_isThree_41 (by decide) rfl (fun h_28 => ?_) (fun h_28 => ?_)
      ·
        refine s_iconst (v := 0) E dX10_isThree_48 (by decide) ?_
        exact r_bool E dX10_isThree_49 (Or.inl rfl) ⟨⟨by decide, by decide, by first | (left; decide) | (right; decide) | (right; have hb_ := z32 (w.2.2.1 96 5); omega), by first | (left; decide) | (right; decide) | (right; have hb_ := z32 (w.2.2.1 96 5); omega), by first | (left; decide) | (right; decide) | (right; have hb_ := z32 (w.2.2.1 96 9); omega), by first | (left; decide) | (right; decide) | (right; have hb_ := z32 (w.2.2.1 96 1); omega)⟩, (by first | exact Or.inl (by decide) | exact Or.inr (by omega)), rfl⟩
      ·
        refine s_iconst (v := 1) E dX10_isThree_44 (by decide) ?_
        refine s_goto (tgt := 49) E dX10_isThree_45 (by decide) ?_
        exact r_bool E dX10_isThree_49 (Or.inr rfl) ⟨⟨by decide, by decide, by first | (left; decide) | (right; decide) | (right; have hb_ := z32 (w.2.2.1 96 5); omega), by first | (left; decide) | (right; decide) | (right; have hb_ := z32 (w.2.2.1 96 5); omega), by first | (left; decide) | (right; decide) | (right; have hb_ := z32 (w.2.2.1 96 9); omega), by first | (left; decide) | (right; decide) | (right; have hb_ := z32 (w.2.2.1 96 1); omega)⟩, (by first | exact Or.inl (by decide) | exact Or.inr (by omega)), rfl⟩
