set_option maxRecDepth 20000 in
set_option maxHeartbeats 2000000 in
theorem Z_X10_needed_95 (l : Launch) (D : va_G) (aC : Nat → ClassId) (b : Nat) (w : XW) (x1 : Int32) (hI : Iv w)  : CnI l D aC b M_X10_needed 5 117 0 0 [AR 95, AI x1] w (fun r u => ((-2147483648) ≤ r.toInt ∧ r.toInt ≤ 2147483647 ∧ (¬ r.toInt = 0 ∨ (0 ≤ x1.toInt ∧ x1.toInt ≤ 5))) ∧ Jv w u) := by
  refine cn_I (own := RX10) (nm := "needed") (L0 := [some (AR 95), some (AI x1), none, none, none]) (by decide +kernel) rfl rfl (Nat.le_of_ble_eq_true rfl) rfl ?_
  intro p e s m args below meth c E hin
  have hJ : Jv w w := jv_rfl hI
  have hb_x1 := z32 x1
  refine s_aload_n E dX10_needed_0 rfl rfl ?_
  refine s_iload_n E dX10_needed_1 rfl rfl ?_
  refine s_vI (As := [AI x1]) (S := []) E (Z_X10_asksLady_95 l D aC b w x1 hJ.1 ) cv_X10_288 rfl rfl rfl (jv_lt hJ (by decide)) (Nat.le_of_ble_eq_true rfl) (Nat.le_of_ble_eq_true rfl) ⟨(Nat.le_of_ble_eq_true rfl), (Nat.le_of_ble_eq_true rfl)⟩ (Nat.le_of_ble_eq_true rfl) dX10_needed_2 (fun z_3 u_1 hp_2 => ?_)
  obtain ⟨hz_3, hxz_3, hp_2⟩ := hp_2
  have hj_4 := jv_trans hJ hp_2
  refine z_if_ne (tgt := 11) (u := z_3.toInt) E dX10_needed_5 (by decide) rfl (fun h_5 => ?_) (fun h_5 => ?_)
  ·
    refine s_aload_n E dX10_needed_11 rfl rfl ?_
    refine s_iload_n E dX10_needed_12 rfl rfl ?_
    refine s_vI (As := [AI x1]) (S := []) E (Z_X10_goNote__95 l D aC b u_1 x1 hj_4.1 ⟨by have hb_ := z32 x1; omega, by have hb_ := z32 x1; omega⟩) cv_X10_338 rfl rfl rfl (jv_lt hj_4 (by decide)) (Nat.le_of_ble_eq_true rfl) (Nat.le_of_ble_eq_true rfl) ⟨(Nat.le_of_ble_eq_true rfl), (Nat.le_of_ble_eq_true rfl)⟩ (Nat.le_of_ble_eq_true rfl) dX10_needed_13 (fun z_8 u_6 hp_7 => ?_)
    obtain ⟨hz_8, hxz_8, hf_u_6_96, hp_7⟩ := hp_7
    have hj_9 := jv_trans hj_4 hp_7
    refine s_istore_n (L2 := [some (AR 95), some (AI x1), some (AI z_8), none, none]) E dX10_needed_16 rfl (by decide) rfl ?_
    refine s_iconst (v := 0) E dX10_needed_17 (by decide) ?_
    refine s_istore_n (L2 := [some (AR 95), some (AI x1), some (AI z_8), some (AI 0), none]) E dX10_needed_18 rfl (by decide) rfl ?_
    refine s_iconst (v := 0) E dX10_needed_19 (by decide) ?_
    refine s_istore (L2 := [some (AR 95), some (AI x1), some (AI z_8), some (AI 0), some (AI 0)]) E dX10_needed_20 (by decide) rfl ?_
    refine z_loop (St := Int32 × Int32) (Pi := fun ⟨q22_3_9, q22_4_9⟩ v22 => (0 ≤ q22_4_9.toInt ∧ q22_4_9.toInt ≤ 6) ∧ Jv w v22) (Lf := fun ⟨q22_3_9, q22_4_9⟩ => [some (AR 95), some (AI x1), some (AI z_8), some (AI q22_3_9), some (AI q22_4_9)]) (fun ⟨q22_3_9, q22_4_9⟩ _ => (7 - q22_4_9.toInt).toNat) ⟨0, 0⟩ ⟨⟨by decide, by decide⟩, hj_9⟩ ?_
    rintro ⟨q22_3_9, q22_4_9⟩ v22 ⟨hq22_4, hj_10⟩ ih22
    have hbq22_3 := z32 q22_3_9
    refine s_loc (L2 := [some (AR 95), some (AI x1), some (AI z_8), some (AI q22_3_9), some (AI q22_4_9)]) rfl ?_
    refine s_iload E dX10_needed_22 rfl ?_
    refine s_aload_n E dX10_needed_24 rfl rfl ?_
    refine s_vI (As := []) (S := [AI q22_4_9]) E (Z_X10_ladies_95 l D aC b v22  hj_10.1 ) cv_X10_244 rfl rfl rfl (jv_lt hj_10 (by decide)) (Nat.le_of_ble_eq_true rfl) (Nat.le_of_ble_eq_true rfl) ⟨(Nat.le_of_ble_eq_true rfl), (Nat.le_of_ble_eq_true rfl)⟩ (Nat.le_of_ble_eq_true rfl) dX10_needed_25 (fun z_13 u_11 hp_12 => ?_)
    obtain ⟨hz_13, hxz_13, hp_12⟩ := hp_12
    subst hp_12
    refine z_icmp_ge (tgt := 84) (u := q22_4_9.toInt) (v := z_13.toInt) E dX10_needed_28 (by decide) rfl rfl (fun h_15 => ?_) (fun h_15 => ?_)
    ·
      refine s_iload_n E dX10_needed_84 rfl rfl ?_
      exact r_int E dX10_needed_85 ⟨⟨by have hb_ := z32 q22_3_9; omega, by have hb_ := z32 q22_3_9; omega, by first | (right; decide) | (have hb_ := z32 q22_3_9; omega) | (have hb_ := z32 q22_3_9; have hc_ := z32 x1; omega)⟩, hj_10⟩
    ·
      refine s_iload E dX10_needed_31 rfl ?_
      refine s_iload_n E dX10_needed_33 rfl rfl ?_
      refine z_icmp_ne (tgt := 40) (u := q22_4_9.toInt) (v := x1.toInt) E dX10_needed_34 (by decide) rfl rfl (fun h_16 => ?_) (fun h_16 => ?_)
      ·
        refine s_aload_n E dX10_needed_40 rfl rfl ?_
        refine s_iconst (v := 1) E dX10_needed_41 (by decide) ?_
        refine s_iload E dX10_needed_42 rfl ?_
        refine z_shl1 5 (u := q22_4_9.toInt) (B := 32) E dX10_needed_44 rfl (by omega) (by omega) (by decide) (by decide) (fun z_17 hz_17 => ?_)
        refine s_pI E fp_X10_264 (Or.inl rfl) rfl (jv_lt hj_10 (by decide)) dX10_needed_45 ?_
        refine s_gen (P := Jv w) (jv_f_95_21 hj_10 (by have hb_ := z32 z_17; omega) (by have hb_ := z32 z_17; omega)) (fun v_18 hj_19 => ?_)
        refine s_iload_n E dX10_needed_48 rfl rfl ?_
        refine s_iload_n E dX10_needed_49 rfl rfl ?_
        refine s_aload_n E dX10_needed_50 rfl rfl ?_
        refine s_iload_n E dX10_needed_51 rfl rfl ?_
        refine s_vI (As := [AI x1]) (S := [AI z_8, AI q22_3_9]) E (Z_X10_goNote__95 l D aC b v_18 x1 hj_19.1 ⟨by have hb_ := z32 x1; omega, by have hb_ := z32 x1; omega⟩) cv_X10_338 rfl rfl rfl (jv_lt hj_19 (by decide)) (Nat.le_of_ble_eq_true rfl) (Nat.le_of_ble_eq_true rfl) ⟨(Nat.le_of_ble_eq_true rfl), (Nat.le_of_ble_eq_true rfl)⟩ (Nat.le_of_ble_eq_true rfl) dX10_needed_52 (fun z_22 u_20 hp_21 => ?_)
        obtain ⟨hz_22, hxz_22, hf_u_20_96, hp_21⟩ := hp_21
        have hj_23 := jv_trans hj_19 hp_21
        refine s_iconst (v := (-1)) E dX10_needed_55 (by decide) ?_
        refine s_ixor E dX10_needed_56 ?_
        refine z_nm (P := fun z => (-2147483648) ≤ z.toInt ∧ z.toInt ≤ 2147483647) (z32 _) (fun z_24 hz_24 => ?_)
        refine s_iand E dX10_needed_57 ?_
        refine z_nm (P := fun z => (-2147483648) ≤ z.toInt ∧ z.toInt ≤ 2147483647) (z32 _) (fun z_25 hz_25 => ?_)
        refine s_aload_n E dX10_needed_58 rfl rfl ?_
        refine s_gI E fg_X10_264 rfl rfl (jv_lt hj_23 (by decide)) dX10_needed_59 ?_
        refine z_nm (P := fun z => z.toInt = (u_20.2.2.1 95 21).toInt ∧ (-2147483648) ≤ z.toInt ∧ z.toInt ≤ 2147483647) ⟨rfl, z32 _⟩ (fun z_26 hz_26 => ?_)
        refine s_iconst (v := (-1)) E dX10_needed_62 (by decide) ?_
        refine s_ixor E dX10_needed_63 ?_
        refine z_nm (P := fun z => (-2147483648) ≤ z.toInt ∧ z.toInt ≤ 2147483647) (z32 _) (fun z_27 hz_27 => ?_)
        refine s_iand E dX10_needed_64 ?_
        refine z_nm (P := fun z => (-2147483648) ≤ z.toInt ∧ z.toInt ≤ 2147483647) (z32 _) (fun z_28 hz_28 => ?_)
        refine z_if_eq (tgt := 75) (u := z_28.toInt) E dX10_needed_65 (by decide) rfl (fun h_29 => ?_) (fun h_29 => ?_)
        ·
          refine s_iconst (v := 0) E dX10_needed_75 (by decide) ?_
          refine s_ior E dX10_needed_76 ?_
          refine z_nm (P := fun z => (-2147483648) ≤ z.toInt ∧ z.toInt ≤ 2147483647) (z32 _) (fun z_30 hz_30 => ?_)
          refine s_istore_n (L2 := [some (AR 95), some (AI x1), some (AI z_8), some (AI z_30), some (AI q22_4_9)]) E dX10_needed_77 rfl (by decide) rfl ?_
          refine z_iinc (u := q22_4_9.toInt) (L2 := fun z_31 => [some (AR 95), some (AI x1), some (AI z_8), some (AI z_30), some (AI z_31)]) E dX10_needed_78 rfl rfl (by decide) (fun _ => rfl) (by decide) (by omega) (by omega) (fun z_31 hz_31 => ?_)
          refine s_goto (tgt := 22) E dX10_needed_81 (by decide) ?_
          exact ih22 ⟨z_30, z_31⟩ u_20 ⟨⟨by have hb_ := z32 z_31; omega, by have hb_ := z32 z_31; omega⟩, hj_23⟩ (by first | omega | decide | (dsimp only; omega) | (dsimp only; decide))
        ·
          refine s_iconst (v := 1) E dX10_needed_68 (by decide) ?_
          refine s_iload E dX10_needed_69 rfl ?_
          refine z_shl1 5 (u := q22_4_9.toInt) (B := 32) E dX10_needed_71 rfl (by omega) (by omega) (by decide) (by decide) (fun z_32 hz_32 => ?_)
          refine s_goto (tgt := 76) E dX10_needed_72 (by decide) ?_
          refine s_ior E dX10_needed_76 ?_
          refine z_nm (P := fun z => (-2147483648) ≤ z.toInt ∧ z.toInt ≤ 2147483647) (z32 _) (fun z_33 hz_33 => ?_)
          refine s_istore_n (L2 := [some (AR 95), some (AI x1), some (AI z_8), some (AI z_33), some (AI q22_4_9)]) E dX10_needed_77 rfl (by decide) rfl ?_
          refine z_iinc (u := q22_4_9.toInt) (L2 := fun z_34 => [some (AR 95), some (AI x1), some (AI z_8), some (AI z_33), some (AI z_34)]) E dX10_needed_78 rfl rfl (by decide) (fun _ => rfl) (by decide) (by omega) (by omega) (fun z_34 hz_34 => ?_)
          refine s_goto (tgt := 22) E dX10_needed_81 (by decide) ?_
          exact ih22 ⟨z_33, z_34⟩ u_20 ⟨⟨by have hb_ := z32 z_34; omega, by have hb_ := z32 z_34; omega⟩, hj_23⟩ (by first | omega | decide | (dsimp only; omega) | (dsimp only; decide))
      ·
        refine s_goto (tgt := 78) E dX10_needed_37 (by decide) ?_
        refine z_iinc (u := q22_4_9.toInt) (L2 := fun z_35 => [some (AR 95), some (AI x1), some (AI z_8), some (AI q22_3_9), some (AI z_35)]) E dX10_needed_78 rfl rfl (by decide) (fun _ => rfl) (by decide) (by omega) (by omega) (fun z_35 hz_35 => ?_)
        refine s_goto (tgt := 22) E dX10_needed_81 (by decide) ?_
        exact ih22 ⟨q22_3_9, z_35⟩ v22 ⟨⟨by have hb_ := z32 z_35; omega, by have hb_ := z32 z_35; omega⟩, hj_10⟩ (by first | omega | decide | (dsimp only; omega) | (dsimp only; decide))
  ·
    refine s_bipush (v := (-2)) E dX10_needed_8 (by decide) ?_
    exact r_int E dX10_needed_10 ⟨⟨by decide, by decide, by first | (left; decide) | (right; decide) | (right; have hb_ := z32 x1; omega)⟩, hj_4⟩
set_option maxRecDepth 20000 in
set_option maxHeartbeats 2000000 in
theorem Z_X10_by_95 (l : Launch) (D : va_G) (aC : Nat → ClassId) (b : Nat) (w : XW) (x1 : Int32) (x2 : Int32) (hI : Iv w)  : CnI l D aC b M_X10_by 5 117 0 0 [AR 95, AI x1, AI x2] w (fun r u => ((-2147483648) ≤ r.toInt ∧ r.toInt ≤ 2147483647 ∧ (¬ r.toInt = 0 ∨ (0 ≤ x1.toInt ∧ x1.toInt ≤ 5)) ∧ (¬ r.toInt = 0 ∨ (0 ≤ x2.toInt ∧ x2.toInt ≤ 3))) ∧ Jv w u) := by
  refine cn_I (own := RX10) (nm := "by") (L0 := [some (AR 95), some (AI x1), some (AI x2)]) (by decide +kernel) rfl rfl (Nat.le_of_ble_eq_true rfl) rfl ?_
  intro p e s m args below meth c E hin
  have hJ : Jv w w := jv_rfl hI
  have hb_x1 := z32 x1
  have hb_x2 := z32 x2
  refine s_aload_n E dX10_by_0 rfl rfl ?_
  refine s_iload_n E dX10_by_1 rfl rfl ?_
  refine s_vI (As := [AI x1]) (S := []) E (Z_X10_asksLady_95 l D aC b w x1 hJ.1 ) cv_X10_288 rfl rfl rfl (jv_lt hJ (by decide)) (Nat.le_of_ble_eq_true rfl) (Nat.le_of_ble_eq_true rfl) ⟨(Nat.le_of_ble_eq_true rfl), (Nat.le_of_ble_eq_true rfl)⟩ (Nat.le_of_ble_eq_true rfl) dX10_by_2 (fun z_3 u_1 hp_2 => ?_)
  obtain ⟨hz_3, hxz_3, hp_2⟩ := hp_2
  have hj_4 := jv_trans hJ hp_2
  refine z_if_eq (tgt := 20) (u := z_3.toInt) E dX10_by_5 (by decide) rfl (fun h_5 => ?_) (fun h_5 => ?_)
  ·
    refine s_bipush (v := (-2)) E dX10_by_20 (by decide) ?_
    exact r_int E dX10_by_22 ⟨⟨by decide, by decide, by first | (left; decide) | (right; decide) | (right; have hb_ := z32 x1; omega), by first | (left; decide) | (right; decide) | (right; have hb_ := z32 x2; omega)⟩, hj_4⟩
  ·
    refine s_iload_n E dX10_by_8 rfl rfl ?_
    refine z_i2l (u := x2.toInt) E dX10_by_9 rfl (fun z_6 hz_6 => ?_)
    refine s_lconst (v := 0) E dX10_by_10 (by decide) ?_
    refine s_ldc2 E k_1737 rfl dX10_by_11 ?_
    refine s_sI (As := [AL z_6, AL 0, AL 3]) (S := []) E (Z_X10_in l D aC b u_1 z_6 0 3) cs_X10_82 rfl rfl (Nat.le_of_ble_eq_true rfl) (Nat.le_of_ble_eq_true rfl) ⟨(Nat.le_of_ble_eq_true rfl), (Nat.le_of_ble_eq_true rfl)⟩ (Nat.le_of_ble_eq_true rfl) dX10_by_14 (fun z_7 u_8 hp_9 => ?_)
    obtain ⟨hz_7, hp_9⟩ := hp_9
    subst hp_9
    have hcL_ : (0 : Int64).toInt = 0 := (by decide)
    have hcL_ : (3 : Int64).toInt = 3 := (by decide)
    refine z_if_ne (tgt := 23) (u := z_7.toInt) E dX10_by_17 (by decide) rfl (fun h_10 => ?_) (fun h_10 => ?_)
    ·
      refine s_aload_n E dX10_by_23 rfl rfl ?_
      refine s_iload_n E dX10_by_24 rfl rfl ?_
      refine s_pI E fp_X10_267 (Or.inl rfl) rfl (jv_lt hj_4 (by decide)) dX10_by_25 ?_
      refine s_gen (P := Jv w) (jv_f_95_23 hj_4 (by have hb_ := z32 x2; omega) (by have hb_ := z32 x2; omega)) (fun v_11 hj_12 => ?_)
      refine s_aload_n E dX10_by_28 rfl rfl ?_
      refine s_iload_n E dX10_by_29 rfl rfl ?_
      refine s_vI (As := [AI x1]) (S := []) E (Z_X10_goNote__95 l D aC b v_11 x1 hj_12.1 ⟨by have hb_ := z32 x1; omega, by have hb_ := z32 x1; omega⟩) cv_X10_338 rfl rfl rfl (jv_lt hj_12 (by decide)) (Nat.le_of_ble_eq_true rfl) (Nat.le_of_ble_eq_true rfl) ⟨(Nat.le_of_ble_eq_true rfl), (Nat.le_of_ble_eq_true rfl)⟩ (Nat.le_of_ble_eq_true rfl) dX10_by_30 (fun z_15 u_13 hp_14 => ?_)
      obtain ⟨hz_15, hxz_15, hf_u_13_96, hp_14⟩ := hp_14
      have hj_16 := jv_trans hj_12 hp_14
      exact r_int E dX10_by_33 ⟨⟨by have hb_ := z32 z_15; omega, by have hb_ := z32 z_15; omega, by first | (right; decide) | (have hb_ := z32 z_15; omega) | (have hb_ := z32 z_15; have hc_ := z32 x1; omega), by first | (right; decide) | (have hb_ := z32 z_15; omega) | (have hb_ := z32 z_15; have hc_ := z32 x2; omega)⟩, hj_16⟩
    ·
      refine s_bipush (v := (-2)) E dX10_by_20 (by decide) ?_
      exact r_int E dX10_by_22 ⟨⟨by decide, by decide, by first | (left; decide) | (right; decide) | (right; have hb_ := z32 x1; omega), by first | (left; decide) | (right; decide) | (right; have hb_ := z32 x2; omega)⟩, hj_4⟩
set_option maxRecDepth 20000 in
set_option maxHeartbeats 2000000 in
theorem Z_X10_asksCarry_95 (l : Launch) (D : va_G) (aC : Nat → ClassId) (b : Nat) (w : XW) (x1 : Int32) (x2 : Int32) (x3 : Int32) (hI : Iv w)  : CnI l D aC b M_X10_asksCarry 5 113 0 0 [AR 95, AI x1, AI x2, AI x3] w (fun r u => (0 ≤ r.toInt ∧ r.toInt ≤ 1 ∧ (r.toInt = 0 ∨ (0 ≤ x1.toInt ∧ x1.toInt ≤ 5)) ∧ (r.toInt = 0 ∨ (0 ≤ x2.toInt ∧ x2.toInt ≤ 5)) ∧ (r.toInt = 0 ∨ (0 ≤ x3.toInt ∧ x3.toInt ≤ 5))) ∧ (r.toInt = 0 ∨ x2.toInt < (u.2.2.1 96 5).toInt) ∧ Jv w u) := by
  refine cn_I (own := RX10) (nm := "asksCarry") (L0 := [some (AR 95), some (AI x1), some (AI x2), some (AI x3)]) (by decide +kernel) rfl rfl (Nat.le_of_ble_eq_true rfl) rfl ?_
  intro p e s m args below meth c E hin
  have hJ : Jv w w := jv_rfl hI
  have hb_x1 := z32 x1
  have hb_x2 := z32 x2
  have hb_x3 := z32 x3
  refine s_aload_n E dX10_asksCarry_0 rfl rfl ?_
  refine s_iload_n E dX10_asksCarry_1 rfl rfl ?_
  refine s_vI (As := [AI x1]) (S := []) E (Z_X10_asksLady_95 l D aC b w x1 hJ.1 ) cv_X10_288 rfl rfl rfl (jv_lt hJ (by decide)) (Nat.le_of_ble_eq_true rfl) (Nat.le_of_ble_eq_true rfl) ⟨(Nat.le_of_ble_eq_true rfl), (Nat.le_of_ble_eq_true rfl)⟩ (Nat.le_of_ble_eq_true rfl) dX10_asksCarry_2 (fun z_3 u_1 hp_2 => ?_)
  obtain ⟨hz_3, hxz_3, hp_2⟩ := hp_2
  have hj_4 := jv_trans hJ hp_2
  refine z_if_eq (tgt := 35) (u := z_3.toInt) E dX10_asksCarry_5 (by decide) rfl (fun h_5 => ?_) (fun h_5 => ?_)
  ·
    refine s_iconst (v := 0) E dX10_asksCarry_35 (by decide) ?_
    exact r_bool E dX10_asksCarry_36 (Or.inl rfl) ⟨⟨by decide, by decide, by first | (left; decide) | (right; decide) | (right; have hb_ := z32 x1; omega), by first | (left; decide) | (right; decide) | (right; have hb_ := z32 x2; omega), by first | (left; decide) | (right; decide) | (right; have hb_ := z32 x3; omega)⟩, (by have hrc_ : (0 : Int32).toInt = 0 := (by decide); omega), hj_4⟩
  ·
    refine s_aload_n E dX10_asksCarry_8 rfl rfl ?_
    refine s_iload_n E dX10_asksCarry_9 rfl rfl ?_
    refine z_i2l (u := x2.toInt) E dX10_asksCarry_10 rfl (fun z_6 hz_6 => ?_)
    refine s_vI (As := [AL z_6]) (S := []) E (Z_X10_isLady_95 l D aC b u_1 z_6 hj_4.1 ) cv_X10_222 rfl rfl rfl (jv_lt hj_4 (by decide)) (Nat.le_of_ble_eq_true rfl) (Nat.le_of_ble_eq_true rfl) ⟨(Nat.le_of_ble_eq_true rfl), (Nat.le_of_ble_eq_true rfl)⟩ (Nat.le_of_ble_eq_true rfl) dX10_asksCarry_11 (fun z_9 u_7 hp_8 => ?_)
    obtain ⟨hz_9, hxz_9, hp_8⟩ := hp_8
    subst hp_8
    refine z_if_eq (tgt := 35) (u := z_9.toInt) E dX10_asksCarry_14 (by decide) rfl (fun h_11 => ?_) (fun h_11 => ?_)
    ·
      refine s_iconst (v := 0) E dX10_asksCarry_35 (by decide) ?_
      exact r_bool E dX10_asksCarry_36 (Or.inl rfl) ⟨⟨by decide, by decide, by first | (left; decide) | (right; decide) | (right; have hb_ := z32 x1; omega), by first | (left; decide) | (right; decide) | (right; have hb_ := z32 x2; omega), by first | (left; decide) | (right; decide) | (right; have hb_ := z32 x3; omega)⟩, (by have hrc_ : (0 : Int32).toInt = 0 := (by decide); omega), hj_4⟩
    ·
      refine s_aload_n E dX10_asksCarry_17 rfl rfl ?_
      refine s_iload_n E dX10_asksCarry_18 rfl rfl ?_
      refine z_i2l (u := x3.toInt) E dX10_asksCarry_19 rfl (fun z_12 hz_12 => ?_)
      refine s_vI (As := [AL z_12]) (S := []) E (Z_X10_isLady_95 l D aC b u_1 z_12 hj_4.1 ) cv_X10_222 rfl rfl rfl (jv_lt hj_4 (by decide)) (Nat.le_of_ble_eq_true rfl) (Nat.le_of_ble_eq_true rfl) ⟨(Nat.le_of_ble_eq_true rfl), (Nat.le_of_ble_eq_true rfl)⟩ (Nat.le_of_ble_eq_true rfl) dX10_asksCarry_20 (fun z_15 u_13 hp_14 => ?_)
      obtain ⟨hz_15, hxz_15, hp_14⟩ := hp_14
      subst hp_14
      refine z_if_eq (tgt := 35) (u := z_15.toInt) E dX10_asksCarry_23 (by decide) rfl (fun h_17 => ?_) (fun h_17 => ?_)
      ·
        refine s_iconst (v := 0) E dX10_asksCarry_35 (by decide) ?_
        exact r_bool E dX10_asksCarry_36 (Or.inl rfl) ⟨⟨by decide, by decide, by first | (left; decide) | (right; decide) | (right; have hb_ := z32 x1; omega), by first | (left; decide) | (right; decide) | (right; have hb_ := z32 x2; omega), by first | (left; decide) | (right; decide) | (right; have hb_ := z32 x3; omega)⟩, (by have hrc_ : (0 : Int32).toInt = 0 := (by decide); omega), hj_4⟩
      ·
        refine s_iload_n E dX10_asksCarry_26 rfl rfl ?_
        refine s_iload_n E dX10_asksCarry_27 rfl rfl ?_
        refine z_icmp_eq (tgt := 35) (u := x2.toInt) (v := x3.toInt) E dX10_asksCarry_28 (by decide) rfl rfl (fun h_18 => ?_) (fun h_18 => ?_)
        ·
          refine s_iconst (v := 0) E dX10_asksCarry_35 (by decide) ?_
          exact r_bool E dX10_asksCarry_36 (Or.inl rfl) ⟨⟨by decide, by decide, by first | (left; decide) | (right; decide) | (right; have hb_ := z32 x1; omega), by first | (left; decide) | (right; decide) | (right; have hb_ := z32 x2; omega), by first | (left; decide) | (right; decide) | (right; have hb_ := z32 x3; omega)⟩, (by have hrc_ : (0 : Int32).toInt = 0 := (by decide); omega), hj_4⟩
        ·
          refine s_iconst (v := 1) E dX10_asksCarry_31 (by decide) ?_
          refine s_goto (tgt := 36) E dX10_asksCarry_32 (by decide) ?_
          exact r_bool E dX10_asksCarry_36 (Or.inr rfl) ⟨⟨by decide, by decide, by first | (left; decide) | (right; decide) | (right; have hb_ := z32 x1; omega), by first | (left; decide) | (right; decide) | (right; have hb_ := z32 x2; omega), by first | (left; decide) | (right; decide) | (right; have hb_ := z32 x3; omega)⟩, (by have hrc_ : (1 : Int32).toInt = 1 := (by decide); omega), hj_4⟩
set_option maxRecDepth 20000 in
set_option maxHeartbeats 2000000 in
theorem Z_X10_takesIn_95 (l : Launch) (D : va_G) (aC : Nat → ClassId) (b : Nat) (w : XW) (x1 : Int32) (x2 : Int32) (x3 : Int32) (x4 : Int32) (hI : Iv w) (hx1 : 0 ≤ x1.toInt ∧ x1.toInt ≤ 5) (hx2 : 0 ≤ x2.toInt ∧ x2.toInt ≤ 5) (hx3 : 0 ≤ x3.toInt ∧ x3.toInt ≤ 7) (hx4 : 0 ≤ x4.toInt ∧ x4.toInt ≤ 14) : CnI l D aC b M_X10_takesIn 2 46 0 0 [AR 95, AI x1, AI x2, AI x3, AI x4] w (fun r u => (0 ≤ r.toInt ∧ r.toInt ≤ 1) ∧ (r.toInt = 1 ↔ TKs w x1 x2 x3.toInt x4.toInt.toNat) ∧ w = u) := by
  refine cn_I (own := RX10) (nm := "takesIn") (L0 := [some (AR 95), some (AI x1), some (AI x2), some (AI x3), some (AI x4), none]) (by decide +kernel) rfl rfl (Nat.le_of_ble_eq_true rfl) rfl ?_
  intro p e s m args below meth c E hin
  have hJ : Jv w w := jv_rfl hI
  refine s_iload E dX10_takesIn_0 rfl ?_
  refine z_if_ne (tgt := 27) (u := x4.toInt) E dX10_takesIn_2 (by decide) rfl (fun h_1 => ?_) (fun h_1 => ?_)
  ·
    refine s_aload_n E dX10_takesIn_27 rfl rfl ?_
    refine s_gR (r := 106) E fg_X10_46 rfl rfl (jv_lt hJ (by decide)) (jv_r hJ (by decide +kernel)) dX10_takesIn_28 ?_
    refine s_iload E dX10_takesIn_31 rfl ?_
    refine s_iconst (v := 1) E dX10_takesIn_33 (by decide) ?_
    refine z_isub (u := x4.toInt) (v := 1) E dX10_takesIn_34 rfl (by decide) (by omega) (by omega) (fun z_2 hz_2 => ?_)
    refine s_iald E rfl (jv_lt hJ (by decide)) (z_in (u := z_2.toInt) rfl (by omega) (by omega)) dX10_takesIn_35 ?_
    refine z_nm (P := fun z => z = w.2.2.1 106 z_2.toNatClampNeg ∧ (-2147483648) ≤ z.toInt ∧ z.toInt ≤ 2147483647) ⟨rfl, z32 _⟩ (fun z_3 hz_3 => ?_)
    refine s_istore (L2 := [some (AR 95), some (AI x1), some (AI x2), some (AI x3), some (AI x4), some (AI z_3)]) E dX10_takesIn_36 (by decide) rfl ?_
    have hv_ : (z_3 : Int32) = hvT (w.2.2.1 95 21) (w.2.2.1 106) x1 x4.toInt.toNat := by first | exact hvT_n (by omega) (And.left (by assumption)) (by omega) | exact hvT_0 (by omega) (hb10.mp (by omega)) (by omega) | exact hvT_1 (by omega) (fun h_ => absurd (hb10.mpr h_) (by omega)) (by omega) (And.left (by assumption))
    refine s_iload E dX10_takesIn_38 rfl ?_
    refine s_aload_n E dX10_takesIn_40 rfl rfl ?_
    refine s_iload_n E dX10_takesIn_41 rfl rfl ?_
    refine s_iload E dX10_takesIn_42 rfl ?_
    refine s_vI (As := [AI x3, AI x4]) (S := [AI z_3]) E (Z_X10_withinOf_95 l D aC b w x3 x4 hJ.1 ⟨by have hb_ := z32 x4; omega, by have hb_ := z32 x4; omega⟩) cv_X10_297 rfl rfl rfl (jv_lt hJ (by decide)) (Nat.le_of_ble_eq_true rfl) (Nat.le_of_ble_eq_true rfl) ⟨(Nat.le_of_ble_eq_true rfl), (Nat.le_of_ble_eq_true rfl)⟩ (Nat.le_of_ble_eq_true rfl) dX10_takesIn_44 (fun z_6 u_4 hp_5 => ?_)
    obtain ⟨hz_6, hxz_6, hp_5⟩ := hp_5
    subst hp_5
    have hW_ := hxz_6
    refine s_iand E dX10_takesIn_47 ?_
    refine z_nm (P := fun z => z = z_3 &&& z_6 ∧ (-2147483648) ≤ z.toInt ∧ z.toInt ≤ 2147483647) ⟨rfl, z32 _⟩ (fun z_8 hz_8 => ?_)
    refine s_iconst (v := 1) E dX10_takesIn_48 (by decide) ?_
    refine s_iload_n E dX10_takesIn_49 rfl rfl ?_
    refine s_ishl E dX10_takesIn_50 ?_
    refine z_nm (P := fun z => z = 1 <<< (x2 &&& 31) ∧ 1 ≤ z.toInt ∧ z.toInt ≤ 32) ⟨rfl, y_shl1 5 (by omega) (by omega) (by decide) (by decide)⟩ (fun z_9 hz_9 => ?_)
    refine s_iconst (v := (-1)) E dX10_takesIn_51 (by decide) ?_
    refine s_ixor E dX10_takesIn_52 ?_
    refine z_nm (P := fun z => z = z_9 ^^^ (-1) ∧ (-2147483648) ≤ z.toInt ∧ z.toInt ≤ 2147483647) ⟨rfl, z32 _⟩ (fun z_10 hz_10 => ?_)
    refine s_iand E dX10_takesIn_53 ?_
    refine z_nm (P := fun z => z = z_8 &&& z_10 ∧ (-2147483648) ≤ z.toInt ∧ z.toInt ≤ 2147483647) ⟨rfl, z32 _⟩ (fun z_11 hz_11 => ?_)
    have ht_ : z_11.toInt = 0 ↔ ¬ TKs w x1 x2 x3.toInt x4.toInt.toNat := tk_f hv_ hW_ (And.left (by assumption)) (And.left (by assumption)) (And.left (by assumption)) (And.left (by assumption))
    refine z_if_eq (tgt := 61) (u := z_11.toInt) E dX10_takesIn_54 (by decide) rfl (fun h_12 => ?_) (fun h_12 => ?_)
    ·
      refine s_iconst (v := 0) E dX10_takesIn_61 (by decide) ?_
      exact r_bool E dX10_takesIn_62 (Or.inl rfl) ⟨(by decide), (by have hrc_ : (0 : Int32).toInt = 0 := (by decide); (first | exact ⟨fun _ => Classical.byContradiction (fun h_ => absurd (ht_.mpr h_) (by omega)), fun _ => by decide⟩ | exact ⟨fun h_ => absurd h_ (by decide), fun h_ => absurd h_ (ht_.mp (by omega))⟩)), rfl⟩
    ·
      refine s_iconst (v := 1) E dX10_takesIn_57 (by decide) ?_
      refine s_goto (tgt := 62) E dX10_takesIn_58 (by decide) ?_
      exact r_bool E dX10_takesIn_62 (Or.inr rfl) ⟨(by decide), (by have hrc_ : (1 : Int32).toInt = 1 := (by decide); (first | exact ⟨fun _ => Classical.byContradiction (fun h_ => absurd (ht_.mpr h_) (by omega)), fun _ => by decide⟩ | exact ⟨fun h_ => absurd h_ (by decide), fun h_ => absurd h_ (ht_.mp (by omega))⟩)), rfl⟩
  ·
    refine s_aload_n E dX10_takesIn_5 rfl rfl ?_
    refine s_gI E fg_X10_264 rfl rfl (jv_lt hJ (by decide)) dX10_takesIn_6 ?_
    refine z_nm (P := fun z => z.toInt = (w.2.2.1 95 21).toInt ∧ (-2147483648) ≤ z.toInt ∧ z.toInt ≤ 2147483647) ⟨rfl, z32 _⟩ (fun z_13 hz_13 => ?_)
    refine s_iload_n E dX10_takesIn_9 rfl rfl ?_
    refine s_sI (As := [AI z_13, AI x1]) (S := []) E (Z_X10_bit l D aC b w z_13 x1 hJ.1 ) cs_X10_252 rfl rfl (Nat.le_of_ble_eq_true rfl) (Nat.le_of_ble_eq_true rfl) ⟨(Nat.le_of_ble_eq_true rfl), (Nat.le_of_ble_eq_true rfl)⟩ (Nat.le_of_ble_eq_true rfl) dX10_takesIn_10 (fun z_16 u_14 hp_15 => ?_)
    obtain ⟨hz_16, hxz_16, hp_15⟩ := hp_15
    subst hp_15
    have hb10 := hxz_16 (by omega) (by omega)
    refine s_iconst (v := 1) E dX10_takesIn_13 (by decide) ?_
    refine z_icmp_ne (tgt := 21) (u := z_16.toInt) (v := 1) E dX10_takesIn_14 (by decide) rfl (by decide) (fun h_18 => ?_) (fun h_18 => ?_)
    ·
      refine s_iconst (v := 1) E dX10_takesIn_21 (by decide) ?_
      refine s_iload_n E dX10_takesIn_22 rfl rfl ?_
      refine s_ishl E dX10_takesIn_23 ?_
      refine z_nm (P := fun z => z = 1 <<< (x1 &&& 31) ∧ 1 ≤ z.toInt ∧ z.toInt ≤ 32) ⟨rfl, y_shl1 5 (by omega) (by omega) (by decide) (by decide)⟩ (fun z_19 hz_19 => ?_)
      refine s_goto (tgt := 36) E dX10_takesIn_24 (by decide) ?_
      refine s_istore (L2 := [some (AR 95), some (AI x1), some (AI x2), some (AI x3), some (AI x4), some (AI z_19)]) E dX10_takesIn_36 (by decide) rfl ?_
      have hv_ : (z_19 : Int32) = hvT (w.2.2.1 95 21) (w.2.2.1 106) x1 x4.toInt.toNat := by first | exact hvT_n (by omega) (And.left (by assumption)) (by omega) | exact hvT_0 (by omega) (hb10.mp (by omega)) (by omega) | exact hvT_1 (by omega) (fun h_ => absurd (hb10.mpr h_) (by omega)) (by omega) (And.left (by assumption))
      refine s_iload E dX10_takesIn_38 rfl ?_
      refine s_aload_n E dX10_takesIn_40 rfl rfl ?_
      refine s_iload_n E dX10_takesIn_41 rfl rfl ?_
      refine s_iload E dX10_takesIn_42 rfl ?_
      refine s_vI (As := [AI x3, AI x4]) (S := [AI z_19]) E (Z_X10_withinOf_95 l D aC b w x3 x4 hJ.1 ⟨by have hb_ := z32 x4; omega, by have hb_ := z32 x4; omega⟩) cv_X10_297 rfl rfl rfl (jv_lt hJ (by decide)) (Nat.le_of_ble_eq_true rfl) (Nat.le_of_ble_eq_true rfl) ⟨(Nat.le_of_ble_eq_true rfl), (Nat.le_of_ble_eq_true rfl)⟩ (Nat.le_of_ble_eq_true rfl) dX10_takesIn_44 (fun z_22 u_20 hp_21 => ?_)
      obtain ⟨hz_22, hxz_22, hp_21⟩ := hp_21
      subst hp_21
      have hW_ := hxz_22
      refine s_iand E dX10_takesIn_47 ?_
      refine z_nm (P := fun z => z = z_19 &&& z_22 ∧ (-2147483648) ≤ z.toInt ∧ z.toInt ≤ 2147483647) ⟨rfl, z32 _⟩ (fun z_24 hz_24 => ?_)
      refine s_iconst (v := 1) E dX10_takesIn_48 (by decide) ?_
      refine s_iload_n E dX10_takesIn_49 rfl rfl ?_
      refine s_ishl E dX10_takesIn_50 ?_
      refine z_nm (P := fun z => z = 1 <<< (x2 &&& 31) ∧ 1 ≤ z.toInt ∧ z.toInt ≤ 32) ⟨rfl, y_shl1 5 (by omega) (by omega) (by decide) (by decide)⟩ (fun z_25 hz_25 => ?_)
      refine s_iconst (v := (-1)) E dX10_takesIn_51 (by decide) ?_
      refine s_ixor E dX10_takesIn_52 ?_
      refine z_nm (P := fun z => z = z_25 ^^^ (-1) ∧ (-2147483648) ≤ z.toInt ∧ z.toInt ≤ 2147483647) ⟨rfl, z32 _⟩ (fun z_26 hz_26 => ?_)
      refine s_iand E dX10_takesIn_53 ?_
      refine z_nm (P := fun z => z = z_24 &&& z_26 ∧ (-2147483648) ≤ z.toInt ∧ z.toInt ≤ 2147483647) ⟨rfl, z32 _⟩ (fun z_27 hz_27 => ?_)
      have ht_ : z_27.toInt = 0 ↔ ¬ TKs w x1 x2 x3.toInt x4.toInt.toNat := tk_f hv_ hW_ (And.left (by assumption)) (And.left (by assumption)) (And.left (by assumption)) (And.left (by assumption))
      refine z_if_eq (tgt := 61) (u := z_27.toInt) E dX10_takesIn_54 (by decide) rfl (fun h_28 => ?_) (fun h_28 => ?_)
      ·
        refine s_iconst (v := 0) E dX10_takesIn_61 (by decide) ?_
        exact r_bool E dX10_takesIn_62 (Or.inl rfl) ⟨(by decide), (by have hrc_ : (0 : Int32).toInt = 0 := (by decide); (first | exact ⟨fun _ => Classical.byContradiction (fun h_ => absurd (ht_.mpr h_) (by omega)), fun _ => by decide⟩ | exact ⟨fun h_ => absurd h_ (by decide), fun h_ => absurd h_ (ht_.mp (by omega))⟩)), rfl⟩
      ·
        refine s_iconst (v := 1) E dX10_takesIn_57 (by decide) ?_
        refine s_goto (tgt := 62) E dX10_takesIn_58 (by decide) ?_
        exact r_bool E dX10_takesIn_62 (Or.inr rfl) ⟨(by decide), (by have hrc_ : (1 : Int32).toInt = 1 := (by decide); (first | exact ⟨fun _ => Classical.byContradiction (fun h_ => absurd (ht_.mpr h_) (by omega)), fun _ => by decide⟩ | exact ⟨fun h_ => absurd h_ (by decide), fun h_ => absurd h_ (ht_.mp (by omega))⟩)), rfl⟩
    ·
      refine s_iconst (v := 0) E dX10_takesIn_17 (by decide) ?_
      refine s_goto (tgt := 36) E dX10_takesIn_18 (by decide) ?_
      refine s_istore (L2 := [some (AR 95), some (AI x1), some (AI x2), some (AI x3), some (AI x4), some (AI 0)]) E dX10_takesIn_36 (by decide) rfl ?_
      have hv_ : (0 : Int32) = hvT (w.2.2.1 95 21) (w.2.2.1 106) x1 x4.toInt.toNat := by first | exact hvT_n (by omega) (And.left (by assumption)) (by omega) | exact hvT_0 (by omega) (hb10.mp (by omega)) (by omega) | exact hvT_1 (by omega) (fun h_ => absurd (hb10.mpr h_) (by omega)) (by omega) (And.left (by assumption))
      refine s_iload E dX10_takesIn_38 rfl ?_
      refine s_aload_n E dX10_takesIn_40 rfl rfl ?_
      refine s_iload_n E dX10_takesIn_41 rfl rfl ?_
      refine s_iload E dX10_takesIn_42 rfl ?_
      refine s_vI (As := [AI x3, AI x4]) (S := [AI 0]) E (Z_X10_withinOf_95 l D aC b w x3 x4 hJ.1 ⟨by have hb_ := z32 x4; omega, by have hb_ := z32 x4; omega⟩) cv_X10_297 rfl rfl rfl (jv_lt hJ (by decide)) (Nat.le_of_ble_eq_true rfl) (Nat.le_of_ble_eq_true rfl) ⟨(Nat.le_of_ble_eq_true rfl), (Nat.le_of_ble_eq_true rfl)⟩ (Nat.le_of_ble_eq_true rfl) dX10_takesIn_44 (fun z_31 u_29 hp_30 => ?_)
      obtain ⟨hz_31, hxz_31, hp_30⟩ := hp_30
      subst hp_30
      have hW_ := hxz_31
      refine s_iand E dX10_takesIn_47 ?_
      refine z_nm (P := fun z => z = 0 &&& z_31 ∧ (-2147483648) ≤ z.toInt ∧ z.toInt ≤ 2147483647) ⟨rfl, z32 _⟩ (fun z_33 hz_33 => ?_)
      refine s_iconst (v := 1) E dX10_takesIn_48 (by decide) ?_
      refine s_iload_n E dX10_takesIn_49 rfl rfl ?_
      refine s_ishl E dX10_takesIn_50 ?_
      refine z_nm (P := fun z => z = 1 <<< (x2 &&& 31) ∧ 1 ≤ z.toInt ∧ z.toInt ≤ 32) ⟨rfl, y_shl1 5 (by omega) (by omega) (by decide) (by decide)⟩ (fun z_34 hz_34 => ?_)
      refine s_iconst (v := (-1)) E dX10_takesIn_51 (by decide) ?_
      refine s_ixor E dX10_takesIn_52 ?_
      refine z_nm (P := fun z => z = z_34 ^^^ (-1) ∧ (-2147483648) ≤ z.toInt ∧ z.toInt ≤ 2147483647) ⟨rfl, z32 _⟩ (fun z_35 hz_35 => ?_)
      refine s_iand E dX10_takesIn_53 ?_
      refine z_nm (P := fun z => z = z_33 &&& z_35 ∧ (-2147483648) ≤ z.toInt ∧ z.toInt ≤ 2147483647) ⟨rfl, z32 _⟩ (fun z_36 hz_36 => ?_)
      have ht_ : z_36.toInt = 0 ↔ ¬ TKs w x1 x2 x3.toInt x4.toInt.toNat := tk_f hv_ hW_ (And.left (by assumption)) (And.left (by assumption)) (And.left (by assumption)) (And.left (by assumption))
      refine z_if_eq (tgt := 61) (u := z_36.toInt) E dX10_takesIn_54 (by decide) rfl (fun h_37 => ?_) (fun h_37 => ?_)
      ·
        refine s_iconst (v := 0) E dX10_takesIn_61 (by decide) ?_
        exact r_bool E dX10_takesIn_62 (Or.inl rfl) ⟨(by decide), (by have hrc_ : (0 : Int32).toInt = 0 := (by decide); (first | exact ⟨fun _ => Classical.byContradiction (fun h_ => absurd (ht_.mpr h_) (by omega)), fun _ => by decide⟩ | exact ⟨fun h_ => absurd h_ (by decide), fun h_ => absurd h_ (ht_.mp (by omega))⟩)), rfl⟩
      ·
        refine s_iconst (v := 1) E dX10_takesIn_57 (by decide) ?_
        refine s_goto (tgt := 62) E dX10_takesIn_58 (by decide) ?_
        exact r_bool E dX10_takesIn_62 (Or.inr rfl) ⟨(by decide), (by have hrc_ : (1 : Int32).toInt = 1 := (by decide); (first | exact ⟨fun _ => Classical.byContradiction (fun h_ => absurd (ht_.mpr h_) (by omega)), fun _ => by decide⟩ | exact ⟨fun h_ => absurd h_ (by decide), fun h_ => absurd h_ (ht_.mp (by omega))⟩)), rfl⟩
set_option maxRecDepth 20000 in
set_option maxHeartbeats 2000000 in
theorem Z_X10_carryState (l : Launch) (D : va_G) (aC : Nat → ClassId) (b : Nat) (w : XW) (x1 : Int32) (x2 : Int32) (x3 : Int32) (hI : Iv w) (hx1 : 0 ≤ x1.toInt ∧ x1.toInt ≤ 15) (hx2 : 0 ≤ x2.toInt ∧ x2.toInt ≤ 7) (hx3 : 0 ≤ x3.toInt ∧ x3.toInt ≤ 1) : CnI l D aC b M_X10_carryState 0 0 0 0 [AI x1, AI x2, AI x3] w (fun r u => (0 ≤ r.toInt ∧ r.toInt ≤ 255) ∧ (r.toInt = 16 * x1.toInt + 2 * x2.toInt + x3.toInt) ∧ w = u) := by
  refine cn_I (own := RX10) (nm := "carryState") (L0 := [some (AI x1), some (AI x2), some (AI x3)]) (by decide +kernel) rfl rfl (Nat.le_of_ble_eq_true rfl) rfl ?_
  intro p e s m args below meth c E hin
  have hJ : Jv w w := jv_rfl hI
  refine s_iload_n E dX10_carryState_0 rfl rfl ?_
  refine s_bipush (v := 8) E dX10_carryState_1 (by decide) ?_
  refine z_imul (u := x1.toInt) (v := 8) E dX10_carryState_3 rfl (by decide) (by omega) (by omega) (fun z_1 hz_1 => ?_)
  refine s_iload_n E dX10_carryState_4 rfl rfl ?_
  refine z_iadd (u := z_1.toInt) (v := x2.toInt) E dX10_carryState_5 rfl rfl (by omega) (by omega) (fun z_2 hz_2 => ?_)
  refine s_iconst (v := 2) E dX10_carryState_6 (by decide) ?_
  refine z_imul (u := z_2.toInt) (v := 2) E dX10_carryState_7 rfl (by decide) (by omega) (by omega) (fun z_3 hz_3 => ?_)
  refine s_iload_n E dX10_carryState_8 rfl rfl ?_
  refine z_iadd (u := z_3.toInt) (v := x3.toInt) E dX10_carryState_9 rfl rfl (by omega) (by omega) (fun z_4 hz_4 => ?_)
  exact r_int E dX10_carryState_10 ⟨⟨by have hb_ := z32 z_4; omega, by have hb_ := z32 z_4; omega⟩, (by omega), rfl⟩
set_option maxRecDepth 20000 in
set_option maxHeartbeats 2000000 in
theorem Z_X10_isBeside_95 (l : Launch) (D : va_G) (aC : Nat → ClassId) (b : Nat) (w : XW) (x1 : Int32) (x2 : Int32) (x3 : Int32) (hI : Iv w) (hx1 : 0 ≤ x1.toInt ∧ x1.toInt ≤ 5) (hx2 : 0 ≤ x2.toInt ∧ x2.toInt ≤ 7) (hx3 : 0 ≤ x3.toInt ∧ x3.toInt ≤ 7) : CnI l D aC b M_X10_isBeside 1 23 0 0 [AR 95, AI x1, AI x2, AI x3] w (fun r u => (0 ≤ r.toInt ∧ r.toInt ≤ 1) ∧ (r.toInt = 1 ↔ bsd w x1.toInt.toNat x2.toInt.toNat x3.toInt.toNat) ∧ w = u) := by
  refine cn_I (own := RX10) (nm := "isBeside") (L0 := [some (AR 95), some (AI x1), some (AI x2), some (AI x3)]) (by decide +kernel) rfl rfl (Nat.le_of_ble_eq_true rfl) rfl ?_
  intro p e s m args below meth c E hin
  have hJ : Jv w w := jv_rfl hI
  refine s_aload_n E dX10_isBeside_0 rfl rfl ?_
  refine s_aload_n E dX10_isBeside_1 rfl rfl ?_
  refine s_iload_n E dX10_isBeside_2 rfl rfl ?_
  refine s_vI (As := [AI x1]) (S := [AR 95]) E (Z_X10_wideOf_95 l D aC b w x1 hJ.1 ⟨by have hb_ := z32 x1; omega, by have hb_ := z32 x1; omega⟩) cv_X10_238 rfl rfl rfl (jv_lt hJ (by decide)) (Nat.le_of_ble_eq_true rfl) (Nat.le_of_ble_eq_true rfl) ⟨(Nat.le_of_ble_eq_true rfl), (Nat.le_of_ble_eq_true rfl)⟩ (Nat.le_of_ble_eq_true rfl) dX10_isBeside_3 (fun z_3 u_1 hp_2 => ?_)
  obtain ⟨hz_3, hxz_3, hp_2⟩ := hp_2
  subst hp_2
  have hwd_ := hxz_3
  refine s_iload_n E dX10_isBeside_6 rfl rfl ?_
  refine s_iload_n E dX10_isBeside_7 rfl rfl ?_
  refine s_vI (As := [AI z_3, AI x2, AI x3]) (S := []) E (Z_X10_wayOf_95 l D aC b w z_3 x2 x3 hJ.1 ⟨by have hb_ := z32 z_3; omega, by have hb_ := z32 z_3; omega⟩ ⟨by have hb_ := z32 x2; omega, by have hb_ := z32 x2; omega⟩ ⟨by have hb_ := z32 x3; omega, by have hb_ := z32 x3; omega⟩) cv_X10_233 rfl rfl rfl (jv_lt hJ (by decide)) (Nat.le_of_ble_eq_true rfl) (Nat.le_of_ble_eq_true rfl) ⟨(Nat.le_of_ble_eq_true rfl), (Nat.le_of_ble_eq_true rfl)⟩ (Nat.le_of_ble_eq_true rfl) dX10_isBeside_8 (fun z_7 u_5 hp_6 => ?_)
  obtain ⟨hz_7, hxz_7, hp_6⟩ := hp_6
  subst hp_6
  have hg_ : z_7.toInt = gw (w.2.2.1 102) (w.2.2.1 96 (47 + 2 * x1.toInt.toNat)).toInt.toNat x2.toInt.toNat x3.toInt.toNat := by rw [hxz_7, hwd_]
  refine s_iconst (v := 1) E dX10_isBeside_11 (by decide) ?_
  refine z_icmp_gt (tgt := 19) (u := z_7.toInt) (v := 1) E dX10_isBeside_12 (by decide) rfl (by decide) (fun h_9 => ?_) (fun h_9 => ?_)
  ·
    refine s_iconst (v := 0) E dX10_isBeside_19 (by decide) ?_
    exact r_bool E dX10_isBeside_20 (Or.inl rfl) ⟨(by decide), (by have hrc_ : (0 : Int32).toInt = 0 := (by decide); unfold bsd; rw [← hg_]; have h0_ : (0 : Int32).toInt = 0 := (by decide); have h1_ : (1 : Int32).toInt = 1 := (by decide); omega), rfl⟩
  ·
    refine s_iconst (v := 1) E dX10_isBeside_15 (by decide) ?_
    refine s_goto (tgt := 20) E dX10_isBeside_16 (by decide) ?_
    exact r_bool E dX10_isBeside_20 (Or.inr rfl) ⟨(by decide), (by have hrc_ : (1 : Int32).toInt = 1 := (by decide); unfold bsd; rw [← hg_]; have h0_ : (0 : Int32).toInt = 0 := (by decide); have h1_ : (1 : Int32).toInt = 1 := (by decide); omega), rfl⟩
