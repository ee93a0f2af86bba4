set_option maxRecDepth 20000 in
set_option maxHeartbeats 2000000 in
theorem Z_X10_gainsBy_95 (l : Launch) (D : va_G) (aC : Nat → ClassId) (b : Nat) (w : XW) (x1 : Int32) (x2 : Int32) (x3 : Int32) (x4 : Int32) (x5 : Int32) (hI : Iv w) (hx1 : 0 ≤ x1.toInt ∧ x1.toInt ≤ 5) (hx2 : 0 ≤ x2.toInt ∧ x2.toInt ≤ 5) (hx5 : 0 ≤ x5.toInt ∧ x5.toInt ≤ 1) : CnI l D aC b M_X10_gainsBy 4 91 0 0 [AR 95, AI x1, AI x2, AI x3, AI x4, AI x5] w (fun r u => ((-2147483648) ≤ r.toInt ∧ r.toInt ≤ 2147483647) ∧ Jv w u) := by
  refine cn_I (own := RX10) (nm := "gainsBy") (L0 := [some (AR 95), some (AI x1), some (AI x2), some (AI x3), some (AI x4), some (AI x5), none, none]) (by decide +kernel) rfl rfl (Nat.le_of_ble_eq_true rfl) rfl ?_
  intro p e s m args below meth c E hin
  have hJ : Jv w w := jv_rfl hI
  have hb_x3 := z32 x3
  have hb_x4 := z32 x4
  refine s_aload_n E dX10_gainsBy_0 rfl rfl ?_
  refine s_iload_n E dX10_gainsBy_1 rfl rfl ?_
  refine s_iload_n E dX10_gainsBy_2 rfl rfl ?_
  refine s_ishl E dX10_gainsBy_3 ?_
  refine z_nm (P := fun z => (-2147483648) ≤ z.toInt ∧ z.toInt ≤ 2147483647) (z32 _) (fun z_1 hz_1 => ?_)
  refine s_iload E dX10_gainsBy_4 rfl ?_
  refine s_iload_n E dX10_gainsBy_6 rfl rfl ?_
  refine s_ishl E dX10_gainsBy_7 ?_
  refine z_nm (P := fun z => (-2147483648) ≤ z.toInt ∧ z.toInt ≤ 2147483647) (z32 _) (fun z_2 hz_2 => ?_)
  refine s_ior E dX10_gainsBy_8 ?_
  refine z_nm (P := fun z => (-2147483648) ≤ z.toInt ∧ z.toInt ≤ 2147483647) (z32 _) (fun z_3 hz_3 => ?_)
  refine s_pI E fp_X10_249 (Or.inl rfl) rfl (jv_lt hJ (by decide)) dX10_gainsBy_9 ?_
  refine s_gen (P := Jv w) (jv_f_95_22 hJ (by have hb_ := z32 z_3; omega) (by have hb_ := z32 z_3; omega)) (fun v_4 hj_5 => ?_)
  refine s_aload_n E dX10_gainsBy_12 rfl rfl ?_
  refine s_vV (As := []) (S := []) E (Z_X10_layPlaces_95 l D aC b v_4  hj_5.1 ) cv_X10_276 rfl rfl rfl (jv_lt hj_5 (by decide)) (Nat.le_of_ble_eq_true rfl) (Nat.le_of_ble_eq_true rfl) ⟨(Nat.le_of_ble_eq_true rfl), (Nat.le_of_ble_eq_true rfl)⟩ (Nat.le_of_ble_eq_true rfl) dX10_gainsBy_13 (fun u_6 hp_7 => ?_)
  have hj_8 := jv_trans hj_5 hp_7
  refine s_iload E dX10_gainsBy_16 rfl ?_
  refine z_if_ne (tgt := 25) (u := x5.toInt) E dX10_gainsBy_18 (by decide) rfl (fun h_9 => ?_) (fun h_9 => ?_)
  ·
    refine s_iload_n E dX10_gainsBy_25 rfl rfl ?_
    refine s_istore (L2 := [some (AR 95), some (AI x1), some (AI x2), some (AI x3), some (AI x4), some (AI x5), some (AI x2), none]) E dX10_gainsBy_26 (by decide) rfl ?_
    refine s_iconst (v := 2) E dX10_gainsBy_28 (by decide) ?_
    refine s_aload_n E dX10_gainsBy_29 rfl rfl ?_
    refine s_iload E dX10_gainsBy_30 rfl ?_
    refine s_vI (As := [AI x2]) (S := [AI 2]) E (Z_X10_friendsOf_95 l D aC b u_6 x2 hj_8.1 ⟨by have hb_ := z32 x2; omega, by have hb_ := z32 x2; omega⟩) cv_X10_313 rfl rfl rfl (jv_lt hj_8 (by decide)) (Nat.le_of_ble_eq_true rfl) (Nat.le_of_ble_eq_true rfl) ⟨(Nat.le_of_ble_eq_true rfl), (Nat.le_of_ble_eq_true rfl)⟩ (Nat.le_of_ble_eq_true rfl) dX10_gainsBy_32 (fun z_12 u_10 hp_11 => ?_)
    obtain ⟨hz_12, hp_11⟩ := hp_11
    subst hp_11
    refine s_sI (As := [AI z_12]) (S := [AI 2]) E (Z_X10_bits l D aC b u_6 z_12 hj_8.1 ) cs_X10_319 rfl rfl (Nat.le_of_ble_eq_true rfl) (Nat.le_of_ble_eq_true rfl) ⟨(Nat.le_of_ble_eq_true rfl), (Nat.le_of_ble_eq_true rfl)⟩ (Nat.le_of_ble_eq_true rfl) dX10_gainsBy_35 (fun z_16 u_14 hp_15 => ?_)
    obtain ⟨hz_16, hp_15⟩ := hp_15
    subst hp_15
    refine s_imul E dX10_gainsBy_38 ?_
    refine z_nm (P := fun z => (-2147483648) ≤ z.toInt ∧ z.toInt ≤ 2147483647) (z32 _) (fun z_18 hz_18 => ?_)
    refine s_aload_n E dX10_gainsBy_39 rfl rfl ?_
    refine s_iload E dX10_gainsBy_40 rfl ?_
    refine s_vI (As := [AI x2]) (S := [AI z_18]) E (Z_X10_stepsOf_95 l D aC b u_6 x2 hj_8.1 ⟨by have hb_ := z32 x2; omega, by have hb_ := z32 x2; omega⟩) cv_X10_300 rfl rfl rfl (jv_lt hj_8 (by decide)) (Nat.le_of_ble_eq_true rfl) (Nat.le_of_ble_eq_true rfl) ⟨(Nat.le_of_ble_eq_true rfl), (Nat.le_of_ble_eq_true rfl)⟩ (Nat.le_of_ble_eq_true rfl) dX10_gainsBy_42 (fun z_21 u_19 hp_20 => ?_)
    obtain ⟨hz_21, hp_20⟩ := hp_20
    subst hp_20
    refine s_isub E dX10_gainsBy_45 ?_
    refine z_nm (P := fun z => (-2147483648) ≤ z.toInt ∧ z.toInt ≤ 2147483647) (z32 _) (fun z_23 hz_23 => ?_)
    refine s_istore (L2 := [some (AR 95), some (AI x1), some (AI x2), some (AI x3), some (AI x4), some (AI x5), some (AI x2), some (AI z_23)]) E dX10_gainsBy_46 (by decide) rfl ?_
    refine s_aload_n E dX10_gainsBy_48 rfl rfl ?_
    refine s_iconst (v := 0) E dX10_gainsBy_49 (by decide) ?_
    refine s_pI E fp_X10_249 (Or.inl rfl) rfl (jv_lt hj_8 (by decide)) dX10_gainsBy_50 ?_
    refine s_gen (P := Jv w) (jv_f_95_22 hj_8 (by decide) (by decide)) (fun v_24 hj_25 => ?_)
    refine s_iload E dX10_gainsBy_53 rfl ?_
    exact r_int E dX10_gainsBy_55 ⟨⟨by have hb_ := z32 z_23; omega, by have hb_ := z32 z_23; omega⟩, hj_25⟩
  ·
    refine s_iload_n E dX10_gainsBy_21 rfl rfl ?_
    refine s_goto (tgt := 26) E dX10_gainsBy_22 (by decide) ?_
    refine s_istore (L2 := [some (AR 95), some (AI x1), some (AI x2), some (AI x3), some (AI x4), some (AI x5), some (AI x1), none]) E dX10_gainsBy_26 (by decide) rfl ?_
    refine s_iconst (v := 2) E dX10_gainsBy_28 (by decide) ?_
    refine s_aload_n E dX10_gainsBy_29 rfl rfl ?_
    refine s_iload E dX10_gainsBy_30 rfl ?_
    refine s_vI (As := [AI x1]) (S := [AI 2]) E (Z_X10_friendsOf_95 l D aC b u_6 x1 hj_8.1 ⟨by have hb_ := z32 x1; omega, by have hb_ := z32 x1; omega⟩) cv_X10_313 rfl rfl rfl (jv_lt hj_8 (by decide)) (Nat.le_of_ble_eq_true rfl) (Nat.le_of_ble_eq_true rfl) ⟨(Nat.le_of_ble_eq_true rfl), (Nat.le_of_ble_eq_true rfl)⟩ (Nat.le_of_ble_eq_true rfl) dX10_gainsBy_32 (fun z_28 u_26 hp_27 => ?_)
    obtain ⟨hz_28, hp_27⟩ := hp_27
    subst hp_27
    refine s_sI (As := [AI z_28]) (S := [AI 2]) E (Z_X10_bits l D aC b u_6 z_28 hj_8.1 ) cs_X10_319 rfl rfl (Nat.le_of_ble_eq_true rfl) (Nat.le_of_ble_eq_true rfl) ⟨(Nat.le_of_ble_eq_true rfl), (Nat.le_of_ble_eq_true rfl)⟩ (Nat.le_of_ble_eq_true rfl) dX10_gainsBy_35 (fun z_32 u_30 hp_31 => ?_)
    obtain ⟨hz_32, hp_31⟩ := hp_31
    subst hp_31
    refine s_imul E dX10_gainsBy_38 ?_
    refine z_nm (P := fun z => (-2147483648) ≤ z.toInt ∧ z.toInt ≤ 2147483647) (z32 _) (fun z_34 hz_34 => ?_)
    refine s_aload_n E dX10_gainsBy_39 rfl rfl ?_
    refine s_iload E dX10_gainsBy_40 rfl ?_
    refine s_vI (As := [AI x1]) (S := [AI z_34]) E (Z_X10_stepsOf_95 l D aC b u_6 x1 hj_8.1 ⟨by have hb_ := z32 x1; omega, by have hb_ := z32 x1; omega⟩) cv_X10_300 rfl rfl rfl (jv_lt hj_8 (by decide)) (Nat.le_of_ble_eq_true rfl) (Nat.le_of_ble_eq_true rfl) ⟨(Nat.le_of_ble_eq_true rfl), (Nat.le_of_ble_eq_true rfl)⟩ (Nat.le_of_ble_eq_true rfl) dX10_gainsBy_42 (fun z_37 u_35 hp_36 => ?_)
    obtain ⟨hz_37, hp_36⟩ := hp_36
    subst hp_36
    refine s_isub E dX10_gainsBy_45 ?_
    refine z_nm (P := fun z => (-2147483648) ≤ z.toInt ∧ z.toInt ≤ 2147483647) (z32 _) (fun z_39 hz_39 => ?_)
    refine s_istore (L2 := [some (AR 95), some (AI x1), some (AI x2), some (AI x3), some (AI x4), some (AI x5), some (AI x1), some (AI z_39)]) E dX10_gainsBy_46 (by decide) rfl ?_
    refine s_aload_n E dX10_gainsBy_48 rfl rfl ?_
    refine s_iconst (v := 0) E dX10_gainsBy_49 (by decide) ?_
    refine s_pI E fp_X10_249 (Or.inl rfl) rfl (jv_lt hj_8 (by decide)) dX10_gainsBy_50 ?_
    refine s_gen (P := Jv w) (jv_f_95_22 hj_8 (by decide) (by decide)) (fun v_40 hj_41 => ?_)
    refine s_iload E dX10_gainsBy_53 rfl ?_
    exact r_int E dX10_gainsBy_55 ⟨⟨by have hb_ := z32 z_39; omega, by have hb_ := z32 z_39; omega⟩, hj_41⟩
set_option maxRecDepth 20000 in
set_option maxHeartbeats 2000000 in
theorem Z_X10_rests_95 (l : Launch) (D : va_G) (aC : Nat → ClassId) (b : Nat) (w : XW) (x1 : Int32) (x2 : Int32) (hI : Iv w)  : CnI l D aC b M_X10_rests 6 135 0 0 [AR 95, AI x1, AI x2] w (fun r u => ((-2147483648) ≤ r.toInt ∧ r.toInt ≤ 2147483647 ∧ (¬ r.toInt = 0 ∨ (0 ≤ x1.toInt ∧ x1.toInt ≤ 5)) ∧ (¬ r.toInt = 0 ∨ (0 ≤ x2.toInt ∧ x2.toInt ≤ 5))) ∧ Jv w u) := by
  refine cn_I (own := RX10) (nm := "rests") (L0 := [some (AR 95), some (AI x1), some (AI x2), none, none, none, none, none]) (by decide +kernel) rfl rfl (Nat.le_of_ble_eq_true rfl) rfl ?_
  intro p e s m args below meth c E hin
  have hJ : Jv w w := jv_rfl hI
  have hb_x1 := z32 x1
  have hb_x2 := z32 x2
  refine s_aload_n E dX10_rests_0 rfl rfl ?_
  refine s_iload_n E dX10_rests_1 rfl rfl ?_
  refine s_iload_n E dX10_rests_2 rfl rfl ?_
  refine s_vI (As := [AI x1, AI x2]) (S := []) E (Z_X10_areTwo_95 l D aC b w x1 x2 hJ.1 ) cv_X10_416 rfl rfl rfl (jv_lt hJ (by decide)) (Nat.le_of_ble_eq_true rfl) (Nat.le_of_ble_eq_true rfl) ⟨(Nat.le_of_ble_eq_true rfl), (Nat.le_of_ble_eq_true rfl)⟩ (Nat.le_of_ble_eq_true rfl) dX10_rests_3 (fun z_3 u_1 hp_2 => ?_)
  obtain ⟨hz_3, hp_2⟩ := hp_2
  have hj_4 := jv_trans hJ hp_2
  refine z_if_ne (tgt := 12) (u := z_3.toInt) E dX10_rests_6 (by decide) rfl (fun h_5 => ?_) (fun h_5 => ?_)
  ·
    refine s_iconst (v := 0) E dX10_rests_12 (by decide) ?_
    refine s_istore_n (L2 := [some (AR 95), some (AI x1), some (AI x2), some (AI 0), none, none, none, none]) E dX10_rests_13 rfl (by decide) rfl ?_
    refine s_iconst (v := 0) E dX10_rests_14 (by decide) ?_
    refine s_istore (L2 := [some (AR 95), some (AI x1), some (AI x2), some (AI 0), some (AI 0), none, none, none]) E dX10_rests_15 (by decide) rfl ?_
    refine z_loop (St := Int32 × Int32) (Pi := fun ⟨q17_3_5, q17_4_5⟩ v17 => (0 ≤ q17_4_5.toInt ∧ q17_4_5.toInt ≤ 4) ∧ Jv w v17) (Lf := fun ⟨q17_3_5, q17_4_5⟩ => [some (AR 95), some (AI x1), some (AI x2), some (AI q17_3_5), some (AI q17_4_5), none, none, none]) (fun ⟨q17_3_5, q17_4_5⟩ _ => (5 - q17_4_5.toInt).toNat) ⟨0, 0⟩ ⟨⟨by decide, by decide⟩, hj_4⟩ ?_
    rintro ⟨q17_3_5, q17_4_5⟩ v17 ⟨hq17_4, hj_6⟩ ih17
    have hbq17_3 := z32 q17_3_5
    refine s_loc (L2 := [some (AR 95), some (AI x1), some (AI x2), some (AI q17_3_5), some (AI q17_4_5), none, none, none]) rfl ?_
    refine s_iload E dX10_rests_17 rfl ?_
    refine s_iconst (v := 4) E dX10_rests_19 (by decide) ?_
    refine z_icmp_ge (tgt := 118) (u := q17_4_5.toInt) (v := 4) E dX10_rests_20 (by decide) rfl (by decide) (fun h_7 => ?_) (fun h_7 => ?_)
    ·
      refine s_iload_n E dX10_rests_118 rfl rfl ?_
      exact r_int E dX10_rests_119 ⟨⟨by have hb_ := z32 q17_3_5; omega, by have hb_ := z32 q17_3_5; omega, by first | (right; decide) | (have hb_ := z32 q17_3_5; omega) | (have hb_ := z32 q17_3_5; have hc_ := z32 x1; omega), by first | (right; decide) | (have hb_ := z32 q17_3_5; omega) | (have hb_ := z32 q17_3_5; have hc_ := z32 x2; omega)⟩, hj_6⟩
    ·
      refine s_iload E dX10_rests_23 rfl ?_
      refine s_iconst (v := 1) E dX10_rests_25 (by decide) ?_
      refine z_mask (v := 1) E dX10_rests_26 (by decide) (by decide) (fun z_8 hz_8 => ?_)
      refine s_istore (L2 := [some (AR 95), some (AI x1), some (AI x2), some (AI q17_3_5), some (AI q17_4_5), some (AI z_8), none, none]) E dX10_rests_27 (by decide) rfl ?_
      refine s_iload E dX10_rests_29 rfl ?_
      refine s_iconst (v := 1) E dX10_rests_31 (by decide) ?_
      refine s_ishr E dX10_rests_32 ?_
      refine z_nm (P := fun z => (-2147483648) ≤ z.toInt ∧ z.toInt ≤ 2147483647) (z32 _) (fun z_9 hz_9 => ?_)
      refine s_istore (L2 := [some (AR 95), some (AI x1), some (AI x2), some (AI q17_3_5), some (AI q17_4_5), some (AI z_8), some (AI z_9), none]) E dX10_rests_33 (by decide) rfl ?_
      refine s_aload_n E dX10_rests_35 rfl rfl ?_
      refine s_iload_n E dX10_rests_36 rfl rfl ?_
      refine s_iload_n E dX10_rests_37 rfl rfl ?_
      refine s_iload E dX10_rests_38 rfl ?_
      refine s_iload E dX10_rests_40 rfl ?_
      refine s_iconst (v := 0) E dX10_rests_42 (by decide) ?_
      refine s_vI (As := [AI x1, AI x2, AI z_8, AI z_9, AI 0]) (S := []) E (Z_X10_gainsBy_95 l D aC b v17 x1 x2 z_8 z_9 0 hj_6.1 ⟨by have hb_ := z32 x1; omega, by have hb_ := z32 x1; omega⟩ ⟨by have hb_ := z32 x2; omega, by have hb_ := z32 x2; omega⟩ (by decide)) cv_X10_419 rfl rfl rfl (jv_lt hj_6 (by decide)) (Nat.le_of_ble_eq_true rfl) (Nat.le_of_ble_eq_true rfl) ⟨(Nat.le_of_ble_eq_true rfl), (Nat.le_of_ble_eq_true rfl)⟩ (Nat.le_of_ble_eq_true rfl) dX10_rests_43 (fun z_12 u_10 hp_11 => ?_)
      obtain ⟨hz_12, hp_11⟩ := hp_11
      have hj_13 := jv_trans hj_6 hp_11
      refine s_aload_n E dX10_rests_46 rfl rfl ?_
      refine s_iload_n E dX10_rests_47 rfl rfl ?_
      refine s_iload_n E dX10_rests_48 rfl rfl ?_
      refine s_iconst (v := 1) E dX10_rests_49 (by decide) ?_
      refine s_iload E dX10_rests_50 rfl ?_
      refine z_isub (u := 1) (v := z_8.toInt) E dX10_rests_52 (by decide) rfl (by omega) (by omega) (fun z_14 hz_14 => ?_)
      refine s_iload E dX10_rests_53 rfl ?_
      refine s_iconst (v := 0) E dX10_rests_55 (by decide) ?_
      refine s_vI (As := [AI x1, AI x2, AI z_14, AI z_9, AI 0]) (S := [AI z_12]) E (Z_X10_gainsBy_95 l D aC b u_10 x1 x2 z_14 z_9 0 hj_13.1 ⟨by have hb_ := z32 x1; omega, by have hb_ := z32 x1; omega⟩ ⟨by have hb_ := z32 x2; omega, by have hb_ := z32 x2; omega⟩ (by decide)) cv_X10_419 rfl rfl rfl (jv_lt hj_13 (by decide)) (Nat.le_of_ble_eq_true rfl) (Nat.le_of_ble_eq_true rfl) ⟨(Nat.le_of_ble_eq_true rfl), (Nat.le_of_ble_eq_true rfl)⟩ (Nat.le_of_ble_eq_true rfl) dX10_rests_56 (fun z_17 u_15 hp_16 => ?_)
      obtain ⟨hz_17, hp_16⟩ := hp_16
      have hj_18 := jv_trans hj_13 hp_16
      refine z_icmp_lt (tgt := 93) (u := z_12.toInt) (v := z_17.toInt) E dX10_rests_59 (by decide) rfl rfl (fun h_19 => ?_) (fun h_19 => ?_)
      ·
        refine s_iconst (v := 0) E dX10_rests_93 (by decide) ?_
        refine s_istore (L2 := [some (AR 95), some (AI x1), some (AI x2), some (AI q17_3_5), some (AI q17_4_5), some (AI z_8), some (AI z_9), some (AI 0)]) E dX10_rests_94 (by decide) rfl ?_
        refine s_iload_n E dX10_rests_96 rfl rfl ?_
        refine s_iload E dX10_rests_97 rfl ?_
        refine z_if_eq (tgt := 109) (u := 0) E dX10_rests_99 (by decide) (by decide) (fun h_20 => ?_) (fun h_20 => absurd h_20 (by omega))
        refine s_iconst (v := 0) E dX10_rests_109 (by decide) ?_
        refine s_ior E dX10_rests_110 ?_
        refine z_nm (P := fun z => (-2147483648) ≤ z.toInt ∧ z.toInt ≤ 2147483647) (z32 _) (fun z_21 hz_21 => ?_)
        refine s_istore_n (L2 := [some (AR 95), some (AI x1), some (AI x2), some (AI z_21), some (AI q17_4_5), some (AI z_8), some (AI z_9), some (AI 0)]) E dX10_rests_111 rfl (by decide) rfl ?_
        refine z_iinc (u := q17_4_5.toInt) (L2 := fun z_22 => [some (AR 95), some (AI x1), some (AI x2), some (AI z_21), some (AI z_22), some (AI z_8), some (AI z_9), some (AI 0)]) E dX10_rests_112 rfl rfl (by decide) (fun _ => rfl) (by decide) (by omega) (by omega) (fun z_22 hz_22 => ?_)
        refine s_goto (tgt := 17) E dX10_rests_115 (by decide) ?_
        refine s_drop (i := 5) (L2 := [some (AR 95), some (AI x1), some (AI x2), some (AI z_21), some (AI z_22), none, some (AI z_9), some (AI 0)]) rfl ?_
        refine s_drop (i := 6) (L2 := [some (AR 95), some (AI x1), some (AI x2), some (AI z_21), some (AI z_22), none, none, some (AI 0)]) rfl ?_
        refine s_drop (i := 7) (L2 := [some (AR 95), some (AI x1), some (AI x2), some (AI z_21), some (AI z_22), none, none, none]) rfl ?_
        exact ih17 ⟨z_21, z_22⟩ u_15 ⟨⟨by have hb_ := z32 z_22; omega, by have hb_ := z32 z_22; omega⟩, hj_18⟩ (by first | omega | decide | (dsimp only; omega) | (dsimp only; decide))
      ·
        refine s_aload_n E dX10_rests_62 rfl rfl ?_
        refine s_iload_n E dX10_rests_63 rfl rfl ?_
        refine s_iload_n E dX10_rests_64 rfl rfl ?_
        refine s_iload E dX10_rests_65 rfl ?_
        refine s_iload E dX10_rests_67 rfl ?_
        refine s_iconst (v := 1) E dX10_rests_69 (by decide) ?_
        refine s_vI (As := [AI x1, AI x2, AI z_8, AI z_9, AI 1]) (S := []) E (Z_X10_gainsBy_95 l D aC b u_15 x1 x2 z_8 z_9 1 hj_18.1 ⟨by have hb_ := z32 x1; omega, by have hb_ := z32 x1; omega⟩ ⟨by have hb_ := z32 x2; omega, by have hb_ := z32 x2; omega⟩ (by decide)) cv_X10_419 rfl rfl rfl (jv_lt hj_18 (by decide)) (Nat.le_of_ble_eq_true rfl) (Nat.le_of_ble_eq_true rfl) ⟨(Nat.le_of_ble_eq_true rfl), (Nat.le_of_ble_eq_true rfl)⟩ (Nat.le_of_ble_eq_true rfl) dX10_rests_70 (fun z_25 u_23 hp_24 => ?_)
        obtain ⟨hz_25, hp_24⟩ := hp_24
        have hj_26 := jv_trans hj_18 hp_24
        refine s_aload_n E dX10_rests_73 rfl rfl ?_
        refine s_iload_n E dX10_rests_74 rfl rfl ?_
        refine s_iload_n E dX10_rests_75 rfl rfl ?_
        refine s_iload E dX10_rests_76 rfl ?_
        refine s_iconst (v := 1) E dX10_rests_78 (by decide) ?_
        refine s_iload E dX10_rests_79 rfl ?_
        refine s_isub E dX10_rests_81 ?_
        refine z_nm (P := fun z => (-2147483648) ≤ z.toInt ∧ z.toInt ≤ 2147483647) (z32 _) (fun z_27 hz_27 => ?_)
        refine s_iconst (v := 1) E dX10_rests_82 (by decide) ?_
        refine s_vI (As := [AI x1, AI x2, AI z_8, AI z_27, AI 1]) (S := [AI z_25]) E (Z_X10_gainsBy_95 l D aC b u_23 x1 x2 z_8 z_27 1 hj_26.1 ⟨by have hb_ := z32 x1; omega, by have hb_ := z32 x1; omega⟩ ⟨by have hb_ := z32 x2; omega, by have hb_ := z32 x2; omega⟩ (by decide)) cv_X10_419 rfl rfl rfl (jv_lt hj_26 (by decide)) (Nat.le_of_ble_eq_true rfl) (Nat.le_of_ble_eq_true rfl) ⟨(Nat.le_of_ble_eq_true rfl), (Nat.le_of_ble_eq_true rfl)⟩ (Nat.le_of_ble_eq_true rfl) dX10_rests_83 (fun z_30 u_28 hp_29 => ?_)
        obtain ⟨hz_30, hp_29⟩ := hp_29
        have hj_31 := jv_trans hj_26 hp_29
        refine z_icmp_lt (tgt := 93) (u := z_25.toInt) (v := z_30.toInt) E dX10_rests_86 (by decide) rfl rfl (fun h_32 => ?_) (fun h_32 => ?_)
        ·
          refine s_iconst (v := 0) E dX10_rests_93 (by decide) ?_
          refine s_istore (L2 := [some (AR 95), some (AI x1), some (AI x2), some (AI q17_3_5), some (AI q17_4_5), some (AI z_8), some (AI z_9), some (AI 0)]) E dX10_rests_94 (by decide) rfl ?_
          refine s_iload_n E dX10_rests_96 rfl rfl ?_
          refine s_iload E dX10_rests_97 rfl ?_
          refine z_if_eq (tgt := 109) (u := 0) E dX10_rests_99 (by decide) (by decide) (fun h_33 => ?_) (fun h_33 => absurd h_33 (by omega))
          refine s_iconst (v := 0) E dX10_rests_109 (by decide) ?_
          refine s_ior E dX10_rests_110 ?_
          refine z_nm (P := fun z => (-2147483648) ≤ z.toInt ∧ z.toInt ≤ 2147483647) (z32 _) (fun z_34 hz_34 => ?_)
          refine s_istore_n (L2 := [some (AR 95), some (AI x1), some (AI x2), some (AI z_34), some (AI q17_4_5), some (AI z_8), some (AI z_9), some (AI 0)]) E dX10_rests_111 rfl (by decide) rfl ?_
          refine z_iinc (u := q17_4_5.toInt) (L2 := fun z_35 => [some (AR 95), some (AI x1), some (AI x2), some (AI z_34), some (AI z_35), some (AI z_8), some (AI z_9), some (AI 0)]) E dX10_rests_112 rfl rfl (by decide) (fun _ => rfl) (by decide) (by omega) (by omega) (fun z_35 hz_35 => ?_)
          refine s_goto (tgt := 17) E dX10_rests_115 (by decide) ?_
          refine s_drop (i := 5) (L2 := [some (AR 95), some (AI x1), some (AI x2), some (AI z_34), some (AI z_35), none, some (AI z_9), some (AI 0)]) rfl ?_
          refine s_drop (i := 6) (L2 := [some (AR 95), some (AI x1), some (AI x2), some (AI z_34), some (AI z_35), none, none, some (AI 0)]) rfl ?_
          refine s_drop (i := 7) (L2 := [some (AR 95), some (AI x1), some (AI x2), some (AI z_34), some (AI z_35), none, none, none]) rfl ?_
          exact ih17 ⟨z_34, z_35⟩ u_28 ⟨⟨by have hb_ := z32 z_35; omega, by have hb_ := z32 z_35; omega⟩, hj_31⟩ (by first | omega | decide | (dsimp only; omega) | (dsimp only; decide))
        ·
          refine s_iconst (v := 1) E dX10_rests_89 (by decide) ?_
          refine s_goto (tgt := 94) E dX10_rests_90 (by decide) ?_
          refine s_istore (L2 := [some (AR 95), some (AI x1), some (AI x2), some (AI q17_3_5), some (AI q17_4_5), some (AI z_8), some (AI z_9), some (AI 1)]) E dX10_rests_94 (by decide) rfl ?_
          refine s_iload_n E dX10_rests_96 rfl rfl ?_
          refine s_iload E dX10_rests_97 rfl ?_
          refine z_if_eq (tgt := 109) (u := 1) E dX10_rests_99 (by decide) (by decide) (fun h_36 => absurd h_36 (by omega)) (fun h_36 => ?_)
          refine s_iconst (v := 1) E dX10_rests_102 (by decide) ?_
          refine s_iload E dX10_rests_103 rfl ?_
          refine z_shl1 3 (u := q17_4_5.toInt) (B := 8) E dX10_rests_105 rfl (by omega) (by omega) (by decide) (by decide) (fun z_37 hz_37 => ?_)
          refine s_goto (tgt := 110) E dX10_rests_106 (by decide) ?_
          refine s_ior E dX10_rests_110 ?_
          refine z_nm (P := fun z => (-2147483648) ≤ z.toInt ∧ z.toInt ≤ 2147483647) (z32 _) (fun z_38 hz_38 => ?_)
          refine s_istore_n (L2 := [some (AR 95), some (AI x1), some (AI x2), some (AI z_38), some (AI q17_4_5), some (AI z_8), some (AI z_9), some (AI 1)]) E dX10_rests_111 rfl (by decide) rfl ?_
          refine z_iinc (u := q17_4_5.toInt) (L2 := fun z_39 => [some (AR 95), some (AI x1), some (AI x2), some (AI z_38), some (AI z_39), some (AI z_8), some (AI z_9), some (AI 1)]) E dX10_rests_112 rfl rfl (by decide) (fun _ => rfl) (by decide) (by omega) (by omega) (fun z_39 hz_39 => ?_)
          refine s_goto (tgt := 17) E dX10_rests_115 (by decide) ?_
          refine s_drop (i := 5) (L2 := [some (AR 95), some (AI x1), some (AI x2), some (AI z_38), some (AI z_39), none, some (AI z_9), some (AI 1)]) rfl ?_
          refine s_drop (i := 6) (L2 := [some (AR 95), some (AI x1), some (AI x2), some (AI z_38), some (AI z_39), none, none, some (AI 1)]) rfl ?_
          refine s_drop (i := 7) (L2 := [some (AR 95), some (AI x1), some (AI x2), some (AI z_38), some (AI z_39), none, none, none]) rfl ?_
          exact ih17 ⟨z_38, z_39⟩ u_28 ⟨⟨by have hb_ := z32 z_39; omega, by have hb_ := z32 z_39; omega⟩, hj_31⟩ (by first | omega | decide | (dsimp only; omega) | (dsimp only; decide))
  ·
    refine s_bipush (v := (-2)) E dX10_rests_9 (by decide) ?_
    exact r_int E dX10_rests_11 ⟨⟨by decide, by decide, by first | (left; decide) | (right; decide) | (right; have hb_ := z32 x1; omega), by first | (left; decide) | (right; decide) | (right; have hb_ := z32 x2; omega)⟩, hj_4⟩
set_option maxRecDepth 20000 in
set_option maxHeartbeats 2000000 in
theorem Z_X10_gains_95 (l : Launch) (D : va_G) (aC : Nat → ClassId) (b : Nat) (w : XW) (x1 : Int32) (x2 : Int32) (x3 : Int32) (x4 : Int32) (hI : Iv w)  : CnI l D aC b M_X10_gains 6 135 0 0 [AR 95, AI x1, AI x2, AI x3, AI x4] w (fun r u => ((-2147483648) ≤ r.toInt ∧ r.toInt ≤ 2147483647 ∧ (¬ r.toInt = 0 ∨ (0 ≤ x1.toInt ∧ x1.toInt ≤ 5)) ∧ (¬ r.toInt = 0 ∨ (0 ≤ x2.toInt ∧ x2.toInt ≤ 5)) ∧ (¬ r.toInt = 0 ∨ (0 ≤ x3.toInt ∧ x3.toInt ≤ 1)) ∧ (¬ r.toInt = 0 ∨ (0 ≤ x4.toInt ∧ x4.toInt ≤ 1))) ∧ Jv w u) := by
  refine cn_I (own := RX10) (nm := "gains") (L0 := [some (AR 95), some (AI x1), some (AI x2), some (AI x3), some (AI x4)]) (by decide +kernel) rfl rfl (Nat.le_of_ble_eq_true rfl) rfl ?_
  intro p e s m args below meth c E hin
  have hJ : Jv w w := jv_rfl hI
  have hb_x1 := z32 x1
  have hb_x2 := z32 x2
  have hb_x3 := z32 x3
  have hb_x4 := z32 x4
  refine s_aload_n E dX10_gains_0 rfl rfl ?_
  refine s_iload_n E dX10_gains_1 rfl rfl ?_
  refine s_iload_n E dX10_gains_2 rfl rfl ?_
  refine s_vI (As := [AI x1, AI x2]) (S := []) E (Z_X10_areTwo_95 l D aC b w x1 x2 hJ.1 ) cv_X10_416 rfl rfl rfl (jv_lt hJ (by decide)) (Nat.le_of_ble_eq_true rfl) (Nat.le_of_ble_eq_true rfl) ⟨(Nat.le_of_ble_eq_true rfl), (Nat.le_of_ble_eq_true rfl)⟩ (Nat.le_of_ble_eq_true rfl) dX10_gains_3 (fun z_3 u_1 hp_2 => ?_)
  obtain ⟨hz_3, hp_2⟩ := hp_2
  have hj_4 := jv_trans hJ hp_2
  refine z_if_eq (tgt := 43) (u := z_3.toInt) E dX10_gains_6 (by decide) rfl (fun h_5 => ?_) (fun h_5 => ?_)
  ·
    refine s_sipush (v := (-1000)) E dX10_gains_43 (by decide) ?_
    exact r_int E dX10_gains_46 ⟨⟨by decide, by decide, by first | (left; decide) | (right; decide) | (right; have hb_ := z32 x1; omega), by first | (left; decide) | (right; decide) | (right; have hb_ := z32 x2; omega), by first | (left; decide) | (right; decide) | (right; have hb_ := z32 x3; omega), by first | (left; decide) | (right; decide) | (right; have hb_ := z32 x4; omega)⟩, hj_4⟩
  ·
    refine s_iload_n E dX10_gains_9 rfl rfl ?_
    refine z_i2l (u := x3.toInt) E dX10_gains_10 rfl (fun z_6 hz_6 => ?_)
    refine s_lconst (v := 0) E dX10_gains_11 (by decide) ?_
    refine s_lconst (v := 1) E dX10_gains_12 (by decide) ?_
    refine s_sI (As := [AL z_6, AL 0, AL 1]) (S := []) E (Z_X10_in l D aC b u_1 z_6 0 1) cs_X10_82 rfl rfl (Nat.le_of_ble_eq_true rfl) (Nat.le_of_ble_eq_true rfl) ⟨(Nat.le_of_ble_eq_true rfl), (Nat.le_of_ble_eq_true rfl)⟩ (Nat.le_of_ble_eq_true rfl) dX10_gains_13 (fun z_7 u_8 hp_9 => ?_)
    obtain ⟨hz_7, hp_9⟩ := hp_9
    subst hp_9
    refine z_if_eq (tgt := 43) (u := z_7.toInt) E dX10_gains_16 (by decide) rfl (fun h_10 => ?_) (fun h_10 => ?_)
    ·
      refine s_sipush (v := (-1000)) E dX10_gains_43 (by decide) ?_
      exact r_int E dX10_gains_46 ⟨⟨by decide, by decide, by first | (left; decide) | (right; decide) | (right; have hb_ := z32 x1; omega), by first | (left; decide) | (right; decide) | (right; have hb_ := z32 x2; omega), by first | (left; decide) | (right; decide) | (right; have hb_ := z32 x3; omega), by first | (left; decide) | (right; decide) | (right; have hb_ := z32 x4; omega)⟩, hj_4⟩
    ·
      refine s_iload E dX10_gains_19 rfl ?_
      refine z_i2l (u := x4.toInt) E dX10_gains_21 rfl (fun z_11 hz_11 => ?_)
      refine s_lconst (v := 0) E dX10_gains_22 (by decide) ?_
      refine s_lconst (v := 1) E dX10_gains_23 (by decide) ?_
      refine s_sI (As := [AL z_11, AL 0, AL 1]) (S := []) E (Z_X10_in l D aC b u_1 z_11 0 1) cs_X10_82 rfl rfl (Nat.le_of_ble_eq_true rfl) (Nat.le_of_ble_eq_true rfl) ⟨(Nat.le_of_ble_eq_true rfl), (Nat.le_of_ble_eq_true rfl)⟩ (Nat.le_of_ble_eq_true rfl) dX10_gains_24 (fun z_12 u_13 hp_14 => ?_)
      obtain ⟨hz_12, hp_14⟩ := hp_14
      subst hp_14
      refine z_if_eq (tgt := 43) (u := z_12.toInt) E dX10_gains_27 (by decide) rfl (fun h_15 => ?_) (fun h_15 => ?_)
      ·
        refine s_sipush (v := (-1000)) E dX10_gains_43 (by decide) ?_
        exact r_int E dX10_gains_46 ⟨⟨by decide, by decide, by first | (left; decide) | (right; decide) | (right; have hb_ := z32 x1; omega), by first | (left; decide) | (right; decide) | (right; have hb_ := z32 x2; omega), by first | (left; decide) | (right; decide) | (right; have hb_ := z32 x3; omega), by first | (left; decide) | (right; decide) | (right; have hb_ := z32 x4; omega)⟩, hj_4⟩
      ·
        refine s_aload_n E dX10_gains_30 rfl rfl ?_
        refine s_iload_n E dX10_gains_31 rfl rfl ?_
        refine s_iload_n E dX10_gains_32 rfl rfl ?_
        refine s_iload_n E dX10_gains_33 rfl rfl ?_
        refine s_iload E dX10_gains_34 rfl ?_
        refine s_iconst (v := 0) E dX10_gains_36 (by decide) ?_
        refine s_vI (As := [AI x1, AI x2, AI x3, AI x4, AI 0]) (S := []) E (Z_X10_gainsBy_95 l D aC b u_1 x1 x2 x3 x4 0 hj_4.1 ⟨by have hb_ := z32 x1; omega, by have hb_ := z32 x1; omega⟩ ⟨by have hb_ := z32 x2; omega, by have hb_ := z32 x2; omega⟩ (by decide)) cv_X10_419 rfl rfl rfl (jv_lt hj_4 (by decide)) (Nat.le_of_ble_eq_true rfl) (Nat.le_of_ble_eq_true rfl) ⟨(Nat.le_of_ble_eq_true rfl), (Nat.le_of_ble_eq_true rfl)⟩ (Nat.le_of_ble_eq_true rfl) dX10_gains_37 (fun z_18 u_16 hp_17 => ?_)
        obtain ⟨hz_18, hp_17⟩ := hp_17
        have hj_19 := jv_trans hj_4 hp_17
        refine s_goto (tgt := 46) E dX10_gains_40 (by decide) ?_
        exact r_int E dX10_gains_46 ⟨⟨by have hb_ := z32 z_18; omega, by have hb_ := z32 z_18; omega, by first | (right; decide) | (have hb_ := z32 z_18; omega) | (have hb_ := z32 z_18; have hc_ := z32 x1; omega), by first | (right; decide) | (have hb_ := z32 z_18; omega) | (have hb_ := z32 z_18; have hc_ := z32 x2; omega), by first | (right; decide) | (have hb_ := z32 z_18; omega) | (have hb_ := z32 z_18; have hc_ := z32 x3; omega), by first | (right; decide) | (have hb_ := z32 z_18; omega) | (have hb_ := z32 z_18; have hc_ := z32 x4; omega)⟩, hj_19⟩
set_option maxRecDepth 20000 in
set_option maxHeartbeats 2000000 in
theorem Z_X10_asksMusic_95 (l : Launch) (D : va_G) (aC : Nat → ClassId) (b : Nat) (w : XW) (x1 : Int32) (x2 : Int32) (x3 : Int32) (hI : Iv w)  : CnI l D aC b M_X10_asksMusic 5 113 0 0 [AR 95, AI x1, AI x2, AI x3] w (fun r u => (0 ≤ r.toInt ∧ r.toInt ≤ 1 ∧ (r.toInt = 0 ∨ (0 ≤ x1.toInt ∧ x1.toInt ≤ 5)) ∧ (r.toInt = 0 ∨ (0 ≤ x2.toInt ∧ x2.toInt ≤ 8)) ∧ (r.toInt = 0 ∨ (0 ≤ x3.toInt ∧ x3.toInt ≤ 1))) ∧ Jv w u) := by
  refine cn_I (own := RX10) (nm := "asksMusic") (L0 := [some (AR 95), some (AI x1), some (AI x2), some (AI x3)]) (by decide +kernel) rfl rfl (Nat.le_of_ble_eq_true rfl) rfl ?_
  intro p e s m args below meth c E hin
  have hJ : Jv w w := jv_rfl hI
  have hb_x1 := z32 x1
  have hb_x2 := z32 x2
  have hb_x3 := z32 x3
  refine s_aload_n E dX10_asksMusic_0 rfl rfl ?_
  refine s_iload_n E dX10_asksMusic_1 rfl rfl ?_
  refine s_vI (As := [AI x1]) (S := []) E (Z_X10_asksLady_95 l D aC b w x1 hJ.1 ) cv_X10_288 rfl rfl rfl (jv_lt hJ (by decide)) (Nat.le_of_ble_eq_true rfl) (Nat.le_of_ble_eq_true rfl) ⟨(Nat.le_of_ble_eq_true rfl), (Nat.le_of_ble_eq_true rfl)⟩ (Nat.le_of_ble_eq_true rfl) dX10_asksMusic_2 (fun z_3 u_1 hp_2 => ?_)
  obtain ⟨hz_3, hp_2⟩ := hp_2
  have hj_4 := jv_trans hJ hp_2
  refine z_if_eq (tgt := 43) (u := z_3.toInt) E dX10_asksMusic_5 (by decide) rfl (fun h_5 => ?_) (fun h_5 => ?_)
  ·
    refine s_iconst (v := 0) E dX10_asksMusic_43 (by decide) ?_
    exact r_bool E dX10_asksMusic_44 (Or.inl rfl) ⟨⟨by decide, by decide, by first | (left; decide) | (right; decide) | (right; have hb_ := z32 x1; omega), by first | (left; decide) | (right; decide) | (right; have hb_ := z32 x2; omega), by first | (left; decide) | (right; decide) | (right; have hb_ := z32 x3; omega)⟩, hj_4⟩
  ·
    refine s_aload_n E dX10_asksMusic_8 rfl rfl ?_
    refine s_iload_n E dX10_asksMusic_9 rfl rfl ?_
    refine z_i2l (u := x2.toInt) E dX10_asksMusic_10 rfl (fun z_6 hz_6 => ?_)
    refine s_vI (As := [AL z_6]) (S := []) E (Z_X10_isDance_95 l D aC b u_1 z_6 hj_4.1 ) cv_X10_282 rfl rfl rfl (jv_lt hj_4 (by decide)) (Nat.le_of_ble_eq_true rfl) (Nat.le_of_ble_eq_true rfl) ⟨(Nat.le_of_ble_eq_true rfl), (Nat.le_of_ble_eq_true rfl)⟩ (Nat.le_of_ble_eq_true rfl) dX10_asksMusic_11 (fun z_9 u_7 hp_8 => ?_)
    obtain ⟨hz_9, hp_8⟩ := hp_8
    subst hp_8
    refine z_if_eq (tgt := 43) (u := z_9.toInt) E dX10_asksMusic_14 (by decide) rfl (fun h_11 => ?_) (fun h_11 => ?_)
    ·
      refine s_iconst (v := 0) E dX10_asksMusic_43 (by decide) ?_
      exact r_bool E dX10_asksMusic_44 (Or.inl rfl) ⟨⟨by decide, by decide, by first | (left; decide) | (right; decide) | (right; have hb_ := z32 x1; omega), by first | (left; decide) | (right; decide) | (right; have hb_ := z32 x2; omega), by first | (left; decide) | (right; decide) | (right; have hb_ := z32 x3; omega)⟩, hj_4⟩
    ·
      refine s_iload_n E dX10_asksMusic_17 rfl rfl ?_
      refine z_i2l (u := x2.toInt) E dX10_asksMusic_18 rfl (fun z_12 hz_12 => ?_)
      refine s_lconst (v := 0) E dX10_asksMusic_19 (by decide) ?_
      refine s_ldc2 E k_1918 rfl dX10_asksMusic_20 ?_
      refine s_sI (As := [AL z_12, AL 0, AL 8]) (S := []) E (Z_X10_in l D aC b u_1 z_12 0 8) cs_X10_82 rfl rfl (Nat.le_of_ble_eq_true rfl) (Nat.le_of_ble_eq_true rfl) ⟨(Nat.le_of_ble_eq_true rfl), (Nat.le_of_ble_eq_true rfl)⟩ (Nat.le_of_ble_eq_true rfl) dX10_asksMusic_23 (fun z_13 u_14 hp_15 => ?_)
      obtain ⟨hz_13, hp_15⟩ := hp_15
      subst hp_15
      refine z_if_eq (tgt := 43) (u := z_13.toInt) E dX10_asksMusic_26 (by decide) rfl (fun h_16 => ?_) (fun h_16 => ?_)
      ·
        refine s_iconst (v := 0) E dX10_asksMusic_43 (by decide) ?_
        exact r_bool E dX10_asksMusic_44 (Or.inl rfl) ⟨⟨by decide, by decide, by first | (left; decide) | (right; decide) | (right; have hb_ := z32 x1; omega), by first | (left; decide) | (right; decide) | (right; have hb_ := z32 x2; omega), by first | (left; decide) | (right; decide) | (right; have hb_ := z32 x3; omega)⟩, hj_4⟩
      ·
        refine s_iload_n E dX10_asksMusic_29 rfl rfl ?_
        refine z_i2l (u := x3.toInt) E dX10_asksMusic_30 rfl (fun z_17 hz_17 => ?_)
        refine s_lconst (v := 0) E dX10_asksMusic_31 (by decide) ?_
        refine s_lconst (v := 1) E dX10_asksMusic_32 (by decide) ?_
        refine s_sI (As := [AL z_17, AL 0, AL 1]) (S := []) E (Z_X10_in l D aC b u_1 z_17 0 1) cs_X10_82 rfl rfl (Nat.le_of_ble_eq_true rfl) (Nat.le_of_ble_eq_true rfl) ⟨(Nat.le_of_ble_eq_true rfl), (Nat.le_of_ble_eq_true rfl)⟩ (Nat.le_of_ble_eq_true rfl) dX10_asksMusic_33 (fun z_18 u_19 hp_20 => ?_)
        obtain ⟨hz_18, hp_20⟩ := hp_20
        subst hp_20
        refine z_if_eq (tgt := 43) (u := z_18.toInt) E dX10_asksMusic_36 (by decide) rfl (fun h_21 => ?_) (fun h_21 => ?_)
        ·
          refine s_iconst (v := 0) E dX10_asksMusic_43 (by decide) ?_
          exact r_bool E dX10_asksMusic_44 (Or.inl rfl) ⟨⟨by decide, by decide, by first | (left; decide) | (right; decide) | (right; have hb_ := z32 x1; omega), by first | (left; decide) | (right; decide) | (right; have hb_ := z32 x2; omega), by first | (left; decide) | (right; decide) | (right; have hb_ := z32 x3; omega)⟩, hj_4⟩
        ·
          refine s_iconst (v := 1) E dX10_asksMusic_39 (by decide) ?_
          refine s_goto (tgt := 44) E dX10_asksMusic_40 (by decide) ?_
          exact r_bool E dX10_asksMusic_44 (Or.inr rfl) ⟨⟨by decide, by decide, by first | (left; decide) | (right; decide) | (right; have hb_ := z32 x1; omega), by first | (left; decide) | (right; decide) | (right; have hb_ := z32 x2; omega), by first | (left; decide) | (right; decide) | (right; have hb_ := z32 x3; omega)⟩, hj_4⟩
set_option maxRecDepth 20000 in
set_option maxHeartbeats 2000000 in
theorem Z_X10_layMusic_95 (l : Launch) (D : va_G) (aC : Nat → ClassId) (b : Nat) (w : XW) (x1 : Int32) (x2 : Int32) (x3 : Int32) (hI : Iv w) (hx1 : 0 ≤ x1.toInt ∧ x1.toInt ≤ 5) (hx3 : 0 ≤ x3.toInt ∧ x3.toInt ≤ 8) : CnV l D aC b M_X10_layMusic 4 96 0 0 [AR 95, AI x1, AI x2, AI x3] w (fun u => (¬ (u.2.2.2 95 33).toInt = 0) ∧ Jv w u) := by
  refine cn_V (own := RX10) (nm := "layMusic") (L0 := [some (AR 95), some (AI x1), some (AI x2), some (AI x3), none, none, none]) (by decide +kernel) rfl rfl (Nat.le_of_ble_eq_true rfl) rfl ?_
  intro p e s m args below meth c E hin
  have hJ : Jv w w := jv_rfl hI
  have hb_x2 := z32 x2
  obtain ⟨T_, hT0_, hT1_, hT2_, hT3_⟩ := y_T x3 (by omega) (by omega)
  refine s_aload_n E dX10_layMusic_0 rfl rfl ?_
  refine s_lconst (v := 0) E dX10_layMusic_1 (by decide) ?_
  refine s_pL E fp_X10_423 rfl rfl (jv_lt hJ (by decide)) dX10_layMusic_2 ?_
  refine s_gen (P := fun v => Jv w v ∧ (v.2.2.2 95 33).toInt = 0 ∧ (v.2.2.1 95 24).toInt = (w.2.2.1 95 24).toInt ∧ (v.2.2.1 96 3).toInt = (w.2.2.1 96 3).toInt) ⟨(jv_L hJ (by decide)), rfl, rfl, rfl⟩ (fun v_1 hj_2 => ?_)
  obtain ⟨hj_2, hk_3k0, hk_3k1, hk_3k2⟩ := hj_2
  refine s_aload_n E dX10_layMusic_5 rfl rfl ?_
  refine s_lconst (v := 0) E dX10_layMusic_6 (by decide) ?_
  refine s_pL E fp_X10_427 rfl rfl (jv_lt hj_2 (by decide)) dX10_layMusic_7 ?_
  refine s_gen (P := fun v => Jv w v ∧ (v.2.2.2 95 33).toInt = (v_1.2.2.2 95 33).toInt ∧ (v.2.2.1 95 24).toInt = (v_1.2.2.1 95 24).toInt ∧ (v.2.2.1 96 3).toInt = (v_1.2.2.1 96 3).toInt) ⟨(jv_L hj_2 (by decide)), rfl, rfl, rfl⟩ (fun v_4 hj_5 => ?_)
  obtain ⟨hj_5, hk_6k0, hk_6k1, hk_6k2⟩ := hj_5
  refine s_aload_n E dX10_layMusic_10 rfl rfl ?_
  refine s_lconst (v := 0) E dX10_layMusic_11 (by decide) ?_
  refine s_pL E fp_X10_430 rfl rfl (jv_lt hj_5 (by decide)) dX10_layMusic_12 ?_
  refine s_gen (P := fun v => Jv w v ∧ (v.2.2.2 95 33).toInt = (v_4.2.2.2 95 33).toInt ∧ (v.2.2.1 95 24).toInt = (v_4.2.2.1 95 24).toInt ∧ (v.2.2.1 96 3).toInt = (v_4.2.2.1 96 3).toInt) ⟨(jv_L hj_5 (by decide)), rfl, rfl, rfl⟩ (fun v_7 hj_8 => ?_)
  obtain ⟨hj_8, hk_9k0, hk_9k1, hk_9k2⟩ := hj_8
  refine s_aload_n E dX10_layMusic_15 rfl rfl ?_
  refine s_iconst (v := 0) E dX10_layMusic_16 (by decide) ?_
  refine s_pI E fp_X10_270 (Or.inl rfl) rfl (jv_lt hj_8 (by decide)) dX10_layMusic_17 ?_
  refine s_gen (P := fun v => Jv w v ∧ (v.2.2.2 95 33).toInt = (v_7.2.2.2 95 33).toInt ∧ (v.2.2.1 95 24).toInt = 0 ∧ (v.2.2.1 96 3).toInt = (v_7.2.2.1 96 3).toInt) ⟨(jv_f_95_24 hj_8 (by decide) (by decide)), rfl, rfl, rfl⟩ (fun v_10 hj_11 => ?_)
  obtain ⟨hj_11, hk_12k0, hk_12k1, hk_12k2⟩ := hj_11
  refine z_loop (St := Unit) (Pi := fun () v20 => (0 ≤ (v20.2.2.1 95 24).toInt ∧ (v20.2.2.1 95 24).toInt ≤ T_ ∧ 0 ≤ (v20.2.2.2 95 33).toInt ∧ (v20.2.2.2 95 33).toInt ≤ (v20.2.2.1 95 24).toInt * 1000000000 ∧ ((v20.2.2.1 96 3).toInt ≤ 9 → 1 ≤ (v20.2.2.1 95 24).toInt → 1 ≤ (v20.2.2.2 95 33).toInt) ∧ ((v20.2.2.1 96 3).toInt = 10 → (v20.2.2.1 95 24).toInt = T_ → 1 ≤ (v20.2.2.2 95 33).toInt)) ∧ Jv w v20) (Lf := fun () => [some (AR 95), some (AI x1), some (AI x2), some (AI x3), none, none, none]) (fun () v20 => (T_ - (v20.2.2.1 95 24).toInt).toNat) () ⟨(by omega), hj_11⟩ ?_
  rintro () v20 ⟨hl20, hj_13⟩ ih20
  refine s_loc (L2 := [some (AR 95), some (AI x1), some (AI x2), some (AI x3), none, none, none]) rfl ?_
  refine s_aload_n E dX10_layMusic_20 rfl rfl ?_
  refine s_gI E fg_X10_270 rfl rfl (jv_lt hj_13 (by decide)) dX10_layMusic_21 ?_
  refine z_nm (P := fun z => z.toInt = (v20.2.2.1 95 24).toInt ∧ (-2147483648) ≤ z.toInt ∧ z.toInt ≤ 2147483647) ⟨rfl, z32 _⟩ (fun z_14 hz_14 => ?_)
  refine s_iconst (v := 2) E dX10_layMusic_24 (by decide) ?_
  refine s_iload_n E dX10_layMusic_25 rfl rfl ?_
  refine s_ishl E dX10_layMusic_26 ?_
  refine z_nm (P := fun z => z = 2 <<< (x3 &&& 31) ∧ (-2147483648) ≤ z.toInt ∧ z.toInt ≤ 2147483647) ⟨rfl, z32 _⟩ (fun z_15 hz_15 => ?_)
  have hT_ : z_15.toInt = T_ := by rw [hz_15.1]; exact hT0_
  refine z_icmp_ge (tgt := 165) (u := z_14.toInt) (v := z_15.toInt) E dX10_layMusic_27 (by decide) rfl rfl (fun h_16 => ?_) (fun h_16 => ?_)
  ·
    have ho_ := rw_96_3 hj_13
    exact r_void E dX10_layMusic_165 ⟨(by omega), hj_13⟩
  ·
    refine s_lconst (v := 1) E dX10_layMusic_30 (by decide) ?_
    refine s_lstore (L2 := [some (AR 95), some (AI x1), some (AI x2), some (AI x3), some (AL 1), none, none]) E dX10_layMusic_31 (by decide) rfl ?_
    refine s_iconst (v := 0) E dX10_layMusic_33 (by decide) ?_
    refine s_istore (L2 := [some (AR 95), some (AI x1), some (AI x2), some (AI x3), some (AL 1), none, some (AI 0)]) E dX10_layMusic_34 (by decide) rfl ?_
    refine z_loop (St := Int64 × Int32) (Pi := fun ⟨q36_4_16, q36_6_16⟩ v36 => (0 ≤ q36_6_16.toInt ∧ q36_6_16.toInt ≤ 9) ∧ (0 ≤ q36_4_16.toInt ∧ q36_4_16.toInt ≤ y_p q36_6_16.toInt.toNat ∧ ((v20.2.2.1 95 24).toInt = 0 → (v20.2.2.1 96 3).toInt ≤ 9 → 1 ≤ q36_4_16.toInt) ∧ ((v20.2.2.1 96 3).toInt = 10 → (v20.2.2.1 95 24).toInt = T_ - 1 → 1 ≤ q36_4_16.toInt)) ∧ v20 = v36) (Lf := fun ⟨q36_4_16, q36_6_16⟩ => [some (AR 95), some (AI x1), some (AI x2), some (AI x3), some (AL q36_4_16), none, some (AI q36_6_16)]) (fun ⟨q36_4_16, q36_6_16⟩ _ => (10 - q36_6_16.toInt).toNat) ⟨1, 0⟩ ⟨⟨by decide, by decide⟩, (⟨by decide, by decide, fun _ _ => by decide, fun _ _ => by decide⟩), rfl⟩ ?_
    rintro ⟨q36_4_16, q36_6_16⟩ v36 ⟨hq36_6, hl36, hv_⟩ ih36
    subst hv_
    have hbq36_4 := z64 q36_4_16
    refine s_loc (L2 := [some (AR 95), some (AI x1), some (AI x2), some (AI x3), some (AL q36_4_16), none, some (AI q36_6_16)]) rfl ?_
    refine s_iload E dX10_layMusic_36 rfl ?_
    refine s_iload_n E dX10_layMusic_38 rfl rfl ?_
    refine z_icmp_gt (tgt := 86) (u := q36_6_16.toInt) (v := x3.toInt) E dX10_layMusic_39 (by decide) rfl rfl (fun h_18 => ?_) (fun h_18 => ?_)
    ·
      have m5_ := y_p_le q36_6_16.toInt.toNat (by omega)
      refine s_lload E dX10_layMusic_86 rfl ?_
      have hh_88_4 : 0 ≤ q36_4_16.toInt ∧ q36_4_16.toInt ≤ 1000000000 := by omega
      refine s_lconst (v := 0) E dX10_layMusic_88 (by decide) ?_
      refine z_lcmp (u := q36_4_16.toInt) (v := 0) E dX10_layMusic_89 rfl (by decide) (fun z_19 hz_19 => ?_)
      refine z_if_ne (tgt := 96) (u := z_19.toInt) E dX10_layMusic_90 (by decide) rfl (fun h_20 => ?_) (fun h_20 => ?_)
      ·
        refine s_aload_n E dX10_layMusic_96 rfl rfl ?_
        refine s_iload_n E dX10_layMusic_97 rfl rfl ?_
        refine s_iload_n E dX10_layMusic_98 rfl rfl ?_
        refine s_vI (As := [AI x1, AI x3]) (S := []) E (Z_X10_goNote_95 l D aC b v20 x1 x3 hj_13.1 ⟨by have hb_ := z32 x1; omega, by have hb_ := z32 x1; omega⟩ ⟨by have hb_ := z32 x3; omega, by have hb_ := z32 x3; omega⟩) cv_X10_335 rfl rfl rfl (jv_lt hj_13 (by decide)) (Nat.le_of_ble_eq_true rfl) (Nat.le_of_ble_eq_true rfl) ⟨(Nat.le_of_ble_eq_true rfl), (Nat.le_of_ble_eq_true rfl)⟩ (Nat.le_of_ble_eq_true rfl) dX10_layMusic_99 (fun z_23 u_21 hp_22 => ?_)
        obtain ⟨hz_23, hxz_23, hf_u_21_95, hf_u_21_96, hf_u_21_L, hp_22⟩ := hp_22
        have hj_24 := jv_trans hj_13 hp_22
        have hfa_95_24 := congrArg Int32.toInt (congrFun hf_u_21_95 24)
        have hfa_96_3 := congrArg Int32.toInt (congrFun hf_u_21_96 3)
        have hfL_95_33 := congrArg Int64.toInt (congrFun (congrFun hf_u_21_L 95) 33)
        refine s_istore (L2 := [some (AR 95), some (AI x1), some (AI x2), some (AI x3), some (AL q36_4_16), none, some (AI z_23)]) E dX10_layMusic_102 (by decide) rfl ?_
        refine s_aload_n E dX10_layMusic_104 rfl rfl ?_
        refine s_dupR E dX10_layMusic_105 ?_
        refine s_gL E fg_X10_423 rfl rfl (jv_lt hj_24 (by decide)) dX10_layMusic_106 ?_
        refine z_nmL (P := fun z => z.toInt = (u_21.2.2.2 95 33).toInt) rfl (fun z_25 hz_25 => ?_)
        have hgz_25 : 0 ≤ z_25.toInt ∧ z_25.toInt ≤ 512000000000 := by omega
        refine s_lload E dX10_layMusic_109 rfl ?_
        refine z_ladd (u := z_25.toInt) (v := q36_4_16.toInt) E dX10_layMusic_111 rfl rfl (by omega) (by omega) (fun z_26 hz_26 => ?_)
        refine s_pL E fp_X10_423 rfl rfl (jv_lt hj_24 (by decide)) dX10_layMusic_112 ?_
        refine s_gen (P := fun v => Jv w v ∧ (v.2.2.2 95 33).toInt = z_26.toInt ∧ (v.2.2.1 95 24).toInt = (u_21.2.2.1 95 24).toInt ∧ (v.2.2.1 96 3).toInt = (u_21.2.2.1 96 3).toInt) ⟨(jv_L hj_24 (by decide)), rfl, rfl, rfl⟩ (fun v_27 hj_28 => ?_)
        obtain ⟨hj_28, hk_29k0, hk_29k1, hk_29k2⟩ := hj_28
        refine s_aload_n E dX10_layMusic_115 rfl rfl ?_
        refine s_dupR E dX10_layMusic_116 ?_
        refine s_gL E fg_X10_427 rfl rfl (jv_lt hj_28 (by decide)) dX10_layMusic_117 ?_
        refine z_anyL (fun z_30 => ?_)
        refine s_lload E dX10_layMusic_120 rfl ?_
        refine s_iload E dX10_layMusic_122 rfl ?_
        refine s_iload_n E dX10_layMusic_124 rfl rfl ?_
        refine s_sI (As := [AI z_23, AI x2]) (S := [AL q36_4_16, AL z_30, AR 95]) E (Z_X10_bit l D aC b v_27 z_23 x2 hj_28.1 ) cs_X10_252 rfl rfl (Nat.le_of_ble_eq_true rfl) (Nat.le_of_ble_eq_true rfl) ⟨(Nat.le_of_ble_eq_true rfl), (Nat.le_of_ble_eq_true rfl)⟩ (Nat.le_of_ble_eq_true rfl) dX10_layMusic_125 (fun z_33 u_31 hp_32 => ?_)
        obtain ⟨hz_33, hxz_33, hp_32⟩ := hp_32
        subst hp_32
        refine z_i2l (u := z_33.toInt) E dX10_layMusic_128 rfl (fun z_35 hz_35 => ?_)
        refine s_lmul E dX10_layMusic_129 ?_
        refine z_anyL (fun z_36 => ?_)
        refine s_ladd E dX10_layMusic_130 ?_
        refine z_anyL (fun z_37 => ?_)
        refine s_pL E fp_X10_427 rfl rfl (jv_lt hj_28 (by decide)) dX10_layMusic_131 ?_
        refine s_gen (P := fun v => Jv w v ∧ (v.2.2.2 95 33).toInt = (v_27.2.2.2 95 33).toInt ∧ (v.2.2.1 95 24).toInt = (v_27.2.2.1 95 24).toInt ∧ (v.2.2.1 96 3).toInt = (v_27.2.2.1 96 3).toInt) ⟨(jv_L hj_28 (by decide)), rfl, rfl, rfl⟩ (fun v_38 hj_39 => ?_)
        obtain ⟨hj_39, hk_40k0, hk_40k1, hk_40k2⟩ := hj_39
        refine s_aload_n E dX10_layMusic_134 rfl rfl ?_
        refine s_dupR E dX10_layMusic_135 ?_
        refine s_gL E fg_X10_430 rfl rfl (jv_lt hj_39 (by decide)) dX10_layMusic_136 ?_
        refine z_anyL (fun z_41 => ?_)
        refine s_lload E dX10_layMusic_139 rfl ?_
        refine s_iload E dX10_layMusic_141 rfl ?_
        refine s_sI (As := [AI z_23]) (S := [AL q36_4_16, AL z_41, AR 95]) E (Z_X10_bits l D aC b v_38 z_23 hj_39.1 ) cs_X10_319 rfl rfl (Nat.le_of_ble_eq_true rfl) (Nat.le_of_ble_eq_true rfl) ⟨(Nat.le_of_ble_eq_true rfl), (Nat.le_of_ble_eq_true rfl)⟩ (Nat.le_of_ble_eq_true rfl) dX10_layMusic_143 (fun z_44 u_42 hp_43 => ?_)
        obtain ⟨hz_44, hp_43⟩ := hp_43
        subst hp_43
        refine z_i2l (u := z_44.toInt) E dX10_layMusic_146 rfl (fun z_46 hz_46 => ?_)
        refine s_lmul E dX10_layMusic_147 ?_
        refine z_anyL (fun z_47 => ?_)
        refine s_ladd E dX10_layMusic_148 ?_
        refine z_anyL (fun z_48 => ?_)
        refine s_pL E fp_X10_430 rfl rfl (jv_lt hj_39 (by decide)) dX10_layMusic_149 ?_
        refine s_gen (P := fun v => Jv w v ∧ (v.2.2.2 95 33).toInt = (v_38.2.2.2 95 33).toInt ∧ (v.2.2.1 95 24).toInt = (v_38.2.2.1 95 24).toInt ∧ (v.2.2.1 96 3).toInt = (v_38.2.2.1 96 3).toInt) ⟨(jv_L hj_39 (by decide)), rfl, rfl, rfl⟩ (fun v_49 hj_50 => ?_)
        obtain ⟨hj_50, hk_51k0, hk_51k1, hk_51k2⟩ := hj_50
        refine s_aload_n E dX10_layMusic_152 rfl rfl ?_
        refine s_dupR E dX10_layMusic_153 ?_
        refine s_gI E fg_X10_270 rfl rfl (jv_lt hj_50 (by decide)) dX10_layMusic_154 ?_
        refine z_nm (P := fun z => z.toInt = (v_49.2.2.1 95 24).toInt ∧ (-2147483648) ≤ z.toInt ∧ z.toInt ≤ 2147483647) ⟨rfl, z32 _⟩ (fun z_52 hz_52 => ?_)
        have hgz_52 : 0 ≤ z_52.toInt ∧ z_52.toInt ≤ 511 := by omega
        refine s_iconst (v := 1) E dX10_layMusic_157 (by decide) ?_
        refine z_iadd (u := z_52.toInt) (v := 1) E dX10_layMusic_158 rfl (by decide) (by omega) (by omega) (fun z_53 hz_53 => ?_)
        refine s_pI E fp_X10_270 (Or.inl rfl) rfl (jv_lt hj_50 (by decide)) dX10_layMusic_159 ?_
        refine s_gen (P := fun v => Jv w v ∧ (v.2.2.2 95 33).toInt = (v_49.2.2.2 95 33).toInt ∧ (v.2.2.1 95 24).toInt = z_53.toInt ∧ (v.2.2.1 96 3).toInt = (v_49.2.2.1 96 3).toInt) ⟨(jv_f_95_24 hj_50 (by have hb_ := z32 z_53; omega) (by have hb_ := z32 z_53; omega)), rfl, rfl, rfl⟩ (fun v_54 hj_55 => ?_)
        obtain ⟨hj_55, hk_56k0, hk_56k1, hk_56k2⟩ := hj_55
        refine s_goto (tgt := 20) E dX10_layMusic_162 (by decide) ?_
        refine s_drop (i := 4) (L2 := [some (AR 95), some (AI x1), some (AI x2), some (AI x3), none, none, some (AI z_23)]) rfl ?_
        refine s_drop (i := 6) (L2 := [some (AR 95), some (AI x1), some (AI x2), some (AI x3), none, none, none]) rfl ?_
        exact ih20 () v_54 ⟨(by omega), hj_55⟩ (by first | omega | decide | (dsimp only; omega) | (dsimp only; decide))
      ·
        refine s_goto (tgt := 152) E dX10_layMusic_93 (by decide) ?_
        refine s_aload_n E dX10_layMusic_152 rfl rfl ?_
        refine s_dupR E dX10_layMusic_153 ?_
        refine s_gI E fg_X10_270 rfl rfl (jv_lt hj_13 (by decide)) dX10_layMusic_154 ?_
        refine z_nm (P := fun z => z.toInt = (v20.2.2.1 95 24).toInt ∧ (-2147483648) ≤ z.toInt ∧ z.toInt ≤ 2147483647) ⟨rfl, z32 _⟩ (fun z_57 hz_57 => ?_)
        have hgz_57 : 0 ≤ z_57.toInt ∧ z_57.toInt ≤ 511 := by omega
        refine s_iconst (v := 1) E dX10_layMusic_157 (by decide) ?_
        refine z_iadd (u := z_57.toInt) (v := 1) E dX10_layMusic_158 rfl (by decide) (by omega) (by omega) (fun z_58 hz_58 => ?_)
        refine s_pI E fp_X10_270 (Or.inl rfl) rfl (jv_lt hj_13 (by decide)) dX10_layMusic_159 ?_
        refine s_gen (P := fun v => Jv w v ∧ (v.2.2.2 95 33).toInt = (v20.2.2.2 95 33).toInt ∧ (v.2.2.1 95 24).toInt = z_58.toInt ∧ (v.2.2.1 96 3).toInt = (v20.2.2.1 96 3).toInt) ⟨(jv_f_95_24 hj_13 (by have hb_ := z32 z_58; omega) (by have hb_ := z32 z_58; omega)), rfl, rfl, rfl⟩ (fun v_59 hj_60 => ?_)
        obtain ⟨hj_60, hk_61k0, hk_61k1, hk_61k2⟩ := hj_60
        refine s_goto (tgt := 20) E dX10_layMusic_162 (by decide) ?_
        refine s_drop (i := 4) (L2 := [some (AR 95), some (AI x1), some (AI x2), some (AI x3), none, none, some (AI q36_6_16)]) rfl ?_
        refine s_drop (i := 6) (L2 := [some (AR 95), some (AI x1), some (AI x2), some (AI x3), none, none, none]) rfl ?_
        exact ih20 () v_59 ⟨(by omega), hj_60⟩ (by first | omega | decide | (dsimp only; omega) | (dsimp only; decide))
    ·
      refine s_lload E dX10_layMusic_42 rfl ?_
      refine s_aload_n E dX10_layMusic_44 rfl rfl ?_
      refine s_gI E fg_X10_270 rfl rfl (jv_lt hj_13 (by decide)) dX10_layMusic_45 ?_
      refine z_nm (P := fun z => z.toInt = (v20.2.2.1 95 24).toInt ∧ (-2147483648) ≤ z.toInt ∧ z.toInt ≤ 2147483647) ⟨rfl, z32 _⟩ (fun z_62 hz_62 => ?_)
      refine s_iload E dX10_layMusic_48 rfl ?_
      refine s_sI (As := [AI z_62, AI q36_6_16]) (S := [AL q36_4_16]) E (Z_X10_bit l D aC b v20 z_62 q36_6_16 hj_13.1 ) cs_X10_252 rfl rfl (Nat.le_of_ble_eq_true rfl) (Nat.le_of_ble_eq_true rfl) ⟨(Nat.le_of_ble_eq_true rfl), (Nat.le_of_ble_eq_true rfl)⟩ (Nat.le_of_ble_eq_true rfl) dX10_layMusic_50 (fun z_65 u_63 hp_64 => ?_)
      obtain ⟨hz_65, hxz_65, hp_64⟩ := hp_64
      subst hp_64
      have hb50 := hxz_65 (by omega) (by omega)
      refine s_iconst (v := 1) E dX10_layMusic_53 (by decide) ?_
      refine z_icmp_ne (tgt := 67) (u := z_65.toInt) (v := 1) E dX10_layMusic_54 (by decide) rfl (by decide) (fun h_67 => ?_) (fun h_67 => ?_)
      ·
        refine s_bipush (v := 10) E dX10_layMusic_67 (by decide) ?_
        refine s_aload_n E dX10_layMusic_69 rfl rfl ?_
        refine s_gR (r := 96) E fg_X10_9 rfl rfl (jv_lt hj_13 (by decide)) (jv_r hj_13 (by decide +kernel)) dX10_layMusic_70 ?_
        refine s_iconst (v := 3) E dX10_layMusic_73 (by decide) ?_
        refine s_iald E rfl (jv_lt hj_13 (by decide)) (z_in (u := 3) (by decide) (by omega) (by omega)) dX10_layMusic_74 ?_
        refine z_nm (P := fun z => z.toInt = (v20.2.2.1 96 3).toInt ∧ 0 ≤ z.toInt ∧ z.toInt ≤ 10) ⟨rfl, (rw_96_3 hj_13)⟩ (fun z_68 hz_68 => ?_)
        refine z_isub (u := 10) (v := z_68.toInt) E dX10_layMusic_75 (by decide) rfl (by omega) (by omega) (fun z_69 hz_69 => ?_)
        refine z_i2l (u := z_69.toInt) E dX10_layMusic_76 rfl (fun z_70 hz_70 => ?_)
        obtain ⟨m1_, m2_, m3_⟩ := y_mul (a := q36_4_16.toInt) (f := z_70.toInt) (n := q36_6_16.toInt.toNat) hl36.1 hl36.2.1 (by omega) (by omega)
        have m4_ := y_p_le (q36_6_16.toInt.toNat + 1) (by omega)
        have n1_ : (v20.2.2.1 95 24).toInt = 0 → (v20.2.2.1 96 3).toInt ≤ 9 → 1 ≤ z_70.toInt := by first | (intro _ _; omega) | (intro h_ _; exfalso; exact y_b0 (by omega) (hb50.mp (by omega)))
        have n2_ : (v20.2.2.1 96 3).toInt = 10 → (v20.2.2.1 95 24).toInt = T_ - 1 → 1 ≤ z_70.toInt := by first | (intro _ _; omega) | (intro _ h_; exfalso; exact absurd (hb50.mpr (hT3_ _ (by omega) _ (by omega))) (by omega))
        refine z_lmul (u := q36_4_16.toInt) (v := z_70.toInt) E dX10_layMusic_77 rfl rfl (by omega) (by omega) (fun z_71 hz_71 => ?_)
        refine s_lstore (L2 := [some (AR 95), some (AI x1), some (AI x2), some (AI x3), some (AL z_71), none, some (AI q36_6_16)]) E dX10_layMusic_78 (by decide) rfl ?_
        refine z_iinc (u := q36_6_16.toInt) (L2 := fun z_72 => [some (AR 95), some (AI x1), some (AI x2), some (AI x3), some (AL z_71), none, some (AI z_72)]) E dX10_layMusic_80 rfl rfl (by decide) (fun _ => rfl) (by decide) (by omega) (by omega) (fun z_72 hz_72 => ?_)
        refine s_goto (tgt := 36) E dX10_layMusic_83 (by decide) ?_
        exact ih36 ⟨z_71, z_72⟩ v20 ⟨⟨by have hb_ := z32 z_72; omega, by have hb_ := z32 z_72; omega⟩, (⟨by omega, y_pC m2_ (by omega) (by omega), fun h1_ h2_ => by have := n1_ h1_ h2_; have := hl36.2.2.1 h1_ h2_; omega, fun h1_ h2_ => by have := n2_ h1_ h2_; have := hl36.2.2.2 h1_ h2_; omega⟩), rfl⟩ (by first | omega | decide | (dsimp only; omega) | (dsimp only; decide))
      ·
        refine s_aload_n E dX10_layMusic_57 rfl rfl ?_
        refine s_gR (r := 96) E fg_X10_9 rfl rfl (jv_lt hj_13 (by decide)) (jv_r hj_13 (by decide +kernel)) dX10_layMusic_58 ?_
        refine s_iconst (v := 3) E dX10_layMusic_61 (by decide) ?_
        refine s_iald E rfl (jv_lt hj_13 (by decide)) (z_in (u := 3) (by decide) (by omega) (by omega)) dX10_layMusic_62 ?_
        refine z_nm (P := fun z => z.toInt = (v20.2.2.1 96 3).toInt ∧ 0 ≤ z.toInt ∧ z.toInt ≤ 10) ⟨rfl, (rw_96_3 hj_13)⟩ (fun z_73 hz_73 => ?_)
        refine z_i2l (u := z_73.toInt) E dX10_layMusic_63 rfl (fun z_74 hz_74 => ?_)
        refine s_goto (tgt := 77) E dX10_layMusic_64 (by decide) ?_
        obtain ⟨m1_, m2_, m3_⟩ := y_mul (a := q36_4_16.toInt) (f := z_74.toInt) (n := q36_6_16.toInt.toNat) hl36.1 hl36.2.1 (by omega) (by omega)
        have m4_ := y_p_le (q36_6_16.toInt.toNat + 1) (by omega)
        have n1_ : (v20.2.2.1 95 24).toInt = 0 → (v20.2.2.1 96 3).toInt ≤ 9 → 1 ≤ z_74.toInt := by first | (intro _ _; omega) | (intro h_ _; exfalso; exact y_b0 (by omega) (hb50.mp (by omega)))
        have n2_ : (v20.2.2.1 96 3).toInt = 10 → (v20.2.2.1 95 24).toInt = T_ - 1 → 1 ≤ z_74.toInt := by first | (intro _ _; omega) | (intro _ h_; exfalso; exact absurd (hb50.mpr (hT3_ _ (by omega) _ (by omega))) (by omega))
        refine z_lmul (u := q36_4_16.toInt) (v := z_74.toInt) E dX10_layMusic_77 rfl rfl (by omega) (by omega) (fun z_75 hz_75 => ?_)
        refine s_lstore (L2 := [some (AR 95), some (AI x1), some (AI x2), some (AI x3), some (AL z_75), none, some (AI q36_6_16)]) E dX10_layMusic_78 (by decide) rfl ?_
        refine z_iinc (u := q36_6_16.toInt) (L2 := fun z_76 => [some (AR 95), some (AI x1), some (AI x2), some (AI x3), some (AL z_75), none, some (AI z_76)]) E dX10_layMusic_80 rfl rfl (by decide) (fun _ => rfl) (by decide) (by omega) (by omega) (fun z_76 hz_76 => ?_)
        refine s_goto (tgt := 36) E dX10_layMusic_83 (by decide) ?_
        exact ih36 ⟨z_75, z_76⟩ v20 ⟨⟨by have hb_ := z32 z_76; omega, by have hb_ := z32 z_76; omega⟩, (⟨by omega, y_pC m2_ (by omega) (by omega), fun h1_ h2_ => by have := n1_ h1_ h2_; have := hl36.2.2.1 h1_ h2_; omega, fun h1_ h2_ => by have := n2_ h1_ h2_; have := hl36.2.2.2 h1_ h2_; omega⟩), rfl⟩ (by first | omega | decide | (dsimp only; omega) | (dsimp only; decide))
set_option maxRecDepth 20000 in
set_option maxHeartbeats 2000000 in
theorem Z_X10_chance_95 (l : Launch) (D : va_G) (aC : Nat → ClassId) (b : Nat) (w : XW) (x1 : Int32) (x2 : Int32) (x3 : Int32) (x4 : Int32) (hI : Iv w)  : CnL l D aC b M_X10_chance 6 136 0 0 [AR 95, AI x1, AI x2, AI x3, AI x4] w (fun r u => ((-9223372036854775808) ≤ r.toInt ∧ r.toInt ≤ 9223372036854775807) ∧ Jv w u) := by
  refine cn_L (own := RX10) (nm := "chance") (L0 := [some (AR 95), some (AI x1), some (AI x2), some (AI x3), some (AI x4)]) (by decide +kernel) rfl rfl (Nat.le_of_ble_eq_true rfl) rfl ?_
  intro p e s m args below meth c E hin
  have hJ : Jv w w := jv_rfl hI
  have hb_x1 := z32 x1
  have hb_x2 := z32 x2
  have hb_x3 := z32 x3
  have hb_x4 := z32 x4
  refine s_aload_n E dX10_chance_0 rfl rfl ?_
  refine s_iload_n E dX10_chance_1 rfl rfl ?_
  refine s_iload_n E dX10_chance_2 rfl rfl ?_
  refine s_iload E dX10_chance_3 rfl ?_
  refine s_vI (As := [AI x1, AI x3, AI x4]) (S := []) E (Z_X10_asksMusic_95 l D aC b w x1 x3 x4 hJ.1 ) cv_X10_435 rfl rfl rfl (jv_lt hJ (by decide)) (Nat.le_of_ble_eq_true rfl) (Nat.le_of_ble_eq_true rfl) ⟨(Nat.le_of_ble_eq_true rfl), (Nat.le_of_ble_eq_true rfl)⟩ (Nat.le_of_ble_eq_true rfl) dX10_chance_5 (fun z_3 u_1 hp_2 => ?_)
  obtain ⟨hz_3, hp_2⟩ := hp_2
  have hj_4 := jv_trans hJ hp_2
  refine z_if_eq (tgt := 20) (u := z_3.toInt) E dX10_chance_8 (by decide) rfl (fun h_5 => ?_) (fun h_5 => ?_)
  ·
    refine s_ldc2 E k_1919 rfl dX10_chance_20 ?_
    exact r_long E dX10_chance_23 ⟨(by decide), hj_4⟩
  ·
    refine s_aload_n E dX10_chance_11 rfl rfl ?_
    refine s_iload_n E dX10_chance_12 rfl rfl ?_
    refine z_i2l (u := x2.toInt) E dX10_chance_13 rfl (fun z_6 hz_6 => ?_)
    refine s_vI (As := [AL z_6]) (S := []) E (Z_X10_isLady_95 l D aC b u_1 z_6 hj_4.1 ) cv_X10_222 rfl rfl rfl (jv_lt hj_4 (by decide)) (Nat.le_of_ble_eq_true rfl) (Nat.le_of_ble_eq_true rfl) ⟨(Nat.le_of_ble_eq_true rfl), (Nat.le_of_ble_eq_true rfl)⟩ (Nat.le_of_ble_eq_true rfl) dX10_chance_14 (fun z_9 u_7 hp_8 => ?_)
    obtain ⟨hz_9, hp_8⟩ := hp_8
    subst hp_8
    refine z_if_ne (tgt := 24) (u := z_9.toInt) E dX10_chance_17 (by decide) rfl (fun h_11 => ?_) (fun h_11 => ?_)
    ·
      refine s_aload_n E dX10_chance_24 rfl rfl ?_
      refine s_iload_n E dX10_chance_25 rfl rfl ?_
      refine s_iload_n E dX10_chance_26 rfl rfl ?_
      refine s_iload_n E dX10_chance_27 rfl rfl ?_
      refine s_vV (As := [AI x1, AI x2, AI x3]) (S := []) E (Z_X10_layMusic_95 l D aC b u_1 x1 x2 x3 hj_4.1 ⟨by have hb_ := z32 x1; omega, by have hb_ := z32 x1; omega⟩ ⟨by have hb_ := z32 x3; omega, by have hb_ := z32 x3; omega⟩) cv_X10_440 rfl rfl rfl (jv_lt hj_4 (by decide)) (Nat.le_of_ble_eq_true rfl) (Nat.le_of_ble_eq_true rfl) ⟨(Nat.le_of_ble_eq_true rfl), (Nat.le_of_ble_eq_true rfl)⟩ (Nat.le_of_ble_eq_true rfl) dX10_chance_28 (fun u_12 hp_13 => ?_)
      obtain ⟨hx_hp_13, hp_13⟩ := hp_13
      have hj_14 := jv_trans hj_4 hp_13
      refine s_aload_n E dX10_chance_31 rfl rfl ?_
      refine s_gL E fg_X10_427 rfl rfl (jv_lt hj_14 (by decide)) dX10_chance_32 ?_
      refine z_anyL (fun z_15 => ?_)
      refine s_aload_n E dX10_chance_35 rfl rfl ?_
      refine s_gL E fg_X10_423 rfl rfl (jv_lt hj_14 (by decide)) dX10_chance_36 ?_
      refine z_nmL (P := fun z => z.toInt = (u_12.2.2.2 95 33).toInt) rfl (fun z_16 hz_16 => ?_)
      refine s_iload E dX10_chance_39 rfl ?_
      refine s_sL (As := [AL z_15, AL z_16, AI x4]) (S := []) E (Z_X10_lowest l D aC b u_12 z_15 z_16 x4 hj_14.1  (by omega)) cs_X10_409 rfl rfl (Nat.le_of_ble_eq_true rfl) (Nat.le_of_ble_eq_true rfl) ⟨(Nat.le_of_ble_eq_true rfl), (Nat.le_of_ble_eq_true rfl)⟩ (Nat.le_of_ble_eq_true rfl) dX10_chance_41 (fun z_19 u_17 hp_18 => ?_)
      obtain ⟨hz_19, hp_18⟩ := hp_18
      subst hp_18
      exact r_long E dX10_chance_44 ⟨⟨by have hb_ := z64 z_19; omega, by have hb_ := z64 z_19; omega⟩, hj_14⟩
    ·
      refine s_ldc2 E k_1919 rfl dX10_chance_20 ?_
      exact r_long E dX10_chance_23 ⟨(by decide), hj_4⟩
set_option maxRecDepth 20000 in
set_option maxHeartbeats 2000000 in
theorem Z_X10_mean_95 (l : Launch) (D : va_G) (aC : Nat → ClassId) (b : Nat) (w : XW) (x1 : Int32) (x2 : Int32) (x3 : Int32) (hI : Iv w)  : CnL l D aC b M_X10_mean 6 136 0 0 [AR 95, AI x1, AI x2, AI x3] w (fun r u => ((-9223372036854775808) ≤ r.toInt ∧ r.toInt ≤ 9223372036854775807) ∧ Jv w u) := by
  refine cn_L (own := RX10) (nm := "mean") (L0 := [some (AR 95), some (AI x1), some (AI x2), some (AI x3)]) (by decide +kernel) rfl rfl (Nat.le_of_ble_eq_true rfl) rfl ?_
  intro p e s m args below meth c E hin
  have hJ : Jv w w := jv_rfl hI
  have hb_x1 := z32 x1
  have hb_x2 := z32 x2
  have hb_x3 := z32 x3
  refine s_aload_n E dX10_mean_0 rfl rfl ?_
  refine s_iload_n E dX10_mean_1 rfl rfl ?_
  refine s_iload_n E dX10_mean_2 rfl rfl ?_
  refine s_iload_n E dX10_mean_3 rfl rfl ?_
  refine s_vI (As := [AI x1, AI x2, AI x3]) (S := []) E (Z_X10_asksMusic_95 l D aC b w x1 x2 x3 hJ.1 ) cv_X10_435 rfl rfl rfl (jv_lt hJ (by decide)) (Nat.le_of_ble_eq_true rfl) (Nat.le_of_ble_eq_true rfl) ⟨(Nat.le_of_ble_eq_true rfl), (Nat.le_of_ble_eq_true rfl)⟩ (Nat.le_of_ble_eq_true rfl) dX10_mean_4 (fun z_3 u_1 hp_2 => ?_)
  obtain ⟨hz_3, hp_2⟩ := hp_2
  have hj_4 := jv_trans hJ hp_2
  refine z_if_ne (tgt := 14) (u := z_3.toInt) E dX10_mean_7 (by decide) rfl (fun h_5 => ?_) (fun h_5 => ?_)
  ·
    refine s_aload_n E dX10_mean_14 rfl rfl ?_
    refine s_iload_n E dX10_mean_15 rfl rfl ?_
    refine s_iload_n E dX10_mean_16 rfl rfl ?_
    refine s_iload_n E dX10_mean_17 rfl rfl ?_
    refine s_vV (As := [AI x1, AI x1, AI x2]) (S := []) E (Z_X10_layMusic_95 l D aC b u_1 x1 x1 x2 hj_4.1 ⟨by have hb_ := z32 x1; omega, by have hb_ := z32 x1; omega⟩ ⟨by have hb_ := z32 x2; omega, by have hb_ := z32 x2; omega⟩) cv_X10_440 rfl rfl rfl (jv_lt hj_4 (by decide)) (Nat.le_of_ble_eq_true rfl) (Nat.le_of_ble_eq_true rfl) ⟨(Nat.le_of_ble_eq_true rfl), (Nat.le_of_ble_eq_true rfl)⟩ (Nat.le_of_ble_eq_true rfl) dX10_mean_18 (fun u_6 hp_7 => ?_)
    obtain ⟨hx_hp_7, hp_7⟩ := hp_7
    have hj_8 := jv_trans hj_4 hp_7
    refine s_aload_n E dX10_mean_21 rfl rfl ?_
    refine s_gL E fg_X10_430 rfl rfl (jv_lt hj_8 (by decide)) dX10_mean_22 ?_
    refine z_anyL (fun z_9 => ?_)
    refine s_aload_n E dX10_mean_25 rfl rfl ?_
    refine s_gL E fg_X10_423 rfl rfl (jv_lt hj_8 (by decide)) dX10_mean_26 ?_
    refine z_nmL (P := fun z => z.toInt = (u_6.2.2.2 95 33).toInt) rfl (fun z_10 hz_10 => ?_)
    refine s_iload_n E dX10_mean_29 rfl rfl ?_
    refine s_sL (As := [AL z_9, AL z_10, AI x3]) (S := []) E (Z_X10_lowest l D aC b u_6 z_9 z_10 x3 hj_8.1  (by omega)) cs_X10_409 rfl rfl (Nat.le_of_ble_eq_true rfl) (Nat.le_of_ble_eq_true rfl) ⟨(Nat.le_of_ble_eq_true rfl), (Nat.le_of_ble_eq_true rfl)⟩ (Nat.le_of_ble_eq_true rfl) dX10_mean_30 (fun z_13 u_11 hp_12 => ?_)
    obtain ⟨hz_13, hp_12⟩ := hp_12
    subst hp_12
    exact r_long E dX10_mean_33 ⟨⟨by have hb_ := z64 z_13; omega, by have hb_ := z64 z_13; omega⟩, hj_8⟩
  ·
    refine s_ldc2 E k_1919 rfl dX10_mean_10 ?_
    exact r_long E dX10_mean_13 ⟨(by decide), hj_4⟩
set_option maxRecDepth 20000 in
set_option maxHeartbeats 2000000 in
theorem Z_X10_keepAct_95 (l : Launch) (D : va_G) (aC : Nat → ClassId) (b : Nat) (w : XW) (x1 : Int32) (hI : Iv w) (hx1 : 0 ≤ x1.toInt ∧ x1.toInt ≤ 100075) : CnI l D aC b M_X10_keepAct 0 0 0 0 [AR 95, AI x1] w (fun r u => ((-5) ≤ r.toInt ∧ r.toInt ≤ 0 ∧ (¬ r.toInt = 0 ∨ (0 ≤ (w.2.2.1 96 8).toInt ∧ (w.2.2.1 96 8).toInt ≤ 29)) ∧ (r.toInt = 0 ∨ (30 ≤ (w.2.2.1 96 8).toInt ∧ (w.2.2.1 96 8).toInt ≤ 30))) ∧ Jv w u) := by
  refine cn_I (own := RX10) (nm := "keepAct") (L0 := [some (AR 95), some (AI x1)]) (by decide +kernel) rfl rfl (Nat.le_of_ble_eq_true rfl) rfl ?_
  intro p e s m args below meth c E hin
  have hJ : Jv w w := jv_rfl hI
  refine s_aload_n E dX10_keepAct_0 rfl rfl ?_
  refine s_gR (r := 96) E fg_X10_9 rfl rfl (jv_lt hJ (by decide)) (jv_r hJ (by decide +kernel)) dX10_keepAct_1 ?_
  refine s_bipush (v := 8) E dX10_keepAct_4 (by decide) ?_
  refine s_iald E rfl (jv_lt hJ (by decide)) (z_in (u := 8) (by decide) (by omega) (by omega)) dX10_keepAct_6 ?_
  refine z_nm (P := fun z => z.toInt = (w.2.2.1 96 8).toInt ∧ 0 ≤ z.toInt ∧ z.toInt ≤ 30) ⟨rfl, (rw_96_8 hJ)⟩ (fun z_1 hz_1 => ?_)
  refine s_bipush (v := 30) E dX10_keepAct_7 (by decide) ?_
  refine z_icmp_ne (tgt := 15) (u := z_1.toInt) (v := 30) E dX10_keepAct_9 (by decide) rfl (by decide) (fun h_2 => ?_) (fun h_2 => ?_)
  ·
    refine s_aload_n E dX10_keepAct_15 rfl rfl ?_
    refine s_gR (r := 96) E fg_X10_9 rfl rfl (jv_lt hJ (by decide)) (jv_r hJ (by decide +kernel)) dX10_keepAct_16 ?_
    refine s_bipush (v := 104) E dX10_keepAct_19 (by decide) ?_
    refine s_aload_n E dX10_keepAct_21 rfl rfl ?_
    refine s_gR (r := 96) E fg_X10_9 rfl rfl (jv_lt hJ (by decide)) (jv_r hJ (by decide +kernel)) dX10_keepAct_22 ?_
    refine s_bipush (v := 8) E dX10_keepAct_25 (by decide) ?_
    refine s_iald E rfl (jv_lt hJ (by decide)) (z_in (u := 8) (by decide) (by omega) (by omega)) dX10_keepAct_27 ?_
    refine z_nm (P := fun z => z.toInt = (w.2.2.1 96 8).toInt ∧ 0 ≤ z.toInt ∧ z.toInt ≤ 30) ⟨rfl, (rw_96_8 hJ)⟩ (fun z_3 hz_3 => ?_)
    refine z_iadd (u := 104) (v := z_3.toInt) E dX10_keepAct_28 (by decide) rfl (by omega) (by omega) (fun z_4 hz_4 => ?_)
    refine s_iload_n E dX10_keepAct_29 rfl rfl ?_
    refine s_iast E rfl (jv_lt hJ (by decide)) (z_in (u := z_4.toInt) rfl (by omega) (by omega)) dX10_keepAct_30 ?_
    refine s_gen (P := fun v => Jv w v ∧ (v.2.2.1 96 8).toInt = (w.2.2.1 96 8).toInt) ⟨(jv_a_96 (i := z_4) (x := x1) hJ 0 100075 104 133 1 z_4.toInt (by decide +kernel) (by decide) rfl (by omega) (by omega) (by omega) (by have hb_ := z32 x1; omega) (by have hb_ := z32 x1; omega) (fun h0_ => by unfold okA; omega)), (keep_ne (u := z_4.toInt) rfl (by omega) (by omega))⟩ (fun v_5 hj_6 => ?_)
    obtain ⟨hj_6, hk_7k0⟩ := hj_6
    refine s_aload_n E dX10_keepAct_31 rfl rfl ?_
    refine s_gR (r := 96) E fg_X10_9 rfl rfl (jv_lt hj_6 (by decide)) (jv_r hj_6 (by decide +kernel)) dX10_keepAct_32 ?_
    refine s_bipush (v := 8) E dX10_keepAct_35 (by decide) ?_
    refine s_dup2 E dX10_keepAct_37 ?_
    refine s_iald E rfl (jv_lt hj_6 (by decide)) (z_in (u := 8) (by decide) (by omega) (by omega)) dX10_keepAct_38 ?_
    refine z_nm (P := fun z => z.toInt = (v_5.2.2.1 96 8).toInt ∧ 0 ≤ z.toInt ∧ z.toInt ≤ 30) ⟨rfl, (rw_96_8 hj_6)⟩ (fun z_8 hz_8 => ?_)
    refine s_iconst (v := 1) E dX10_keepAct_39 (by decide) ?_
    refine z_iadd (u := z_8.toInt) (v := 1) E dX10_keepAct_40 rfl (by decide) (by omega) (by omega) (fun z_9 hz_9 => ?_)
    refine s_iast E rfl (jv_lt hj_6 (by decide)) (z_in (u := 8) (by decide) (by omega) (by omega)) dX10_keepAct_41 ?_
    refine s_gen (P := Jv w) (jv_a_96 (i := 8) (x := z_9) hj_6 0 30 8 8 1 8 (by decide +kernel) (by decide) (by decide) (by omega) (by omega) (by omega) (by have hb_ := z32 z_9; omega) (by have hb_ := z32 z_9; omega) (fun h0_ => by unfold okA; omega)) (fun v_10 hj_11 => ?_)
    refine s_iconst (v := 0) E dX10_keepAct_42 (by decide) ?_
    exact r_int E dX10_keepAct_43 ⟨⟨by decide, by decide, by first | (left; decide) | (right; decide) | (right; have hb_ := z32 (w.2.2.1 96 8); omega), by first | (left; decide) | (right; decide) | (right; have hb_ := z32 (w.2.2.1 96 8); omega)⟩, hj_11⟩
  ·
    refine s_bipush (v := (-5)) E dX10_keepAct_12 (by decide) ?_
    exact r_int E dX10_keepAct_14 ⟨⟨by decide, by decide, by first | (left; decide) | (right; decide) | (right; have hb_ := z32 (w.2.2.1 96 8); omega), by first | (left; decide) | (right; decide) | (right; have hb_ := z32 (w.2.2.1 96 8); omega)⟩, hJ⟩
set_option maxRecDepth 20000 in
set_option maxHeartbeats 2000000 in
theorem Z_X10_bid_95 (l : Launch) (D : va_G) (aC : Nat → ClassId) (b : Nat) (w : XW) (x1 : Int32) (x2 : Int32) (x3 : Int32) (hI : Iv w)  : CnI l D aC b M_X10_bid 4 92 0 0 [AR 95, AI x1, AI x2, AI x3] w (fun r u => ((-5) ≤ r.toInt ∧ r.toInt ≤ 7 ∧ (¬ r.toInt = 0 ∨ (0 ≤ x1.toInt ∧ x1.toInt ≤ 5)) ∧ (¬ r.toInt = 0 ∨ (0 ≤ x2.toInt ∧ x2.toInt ≤ 7)) ∧ (¬ r.toInt = 0 ∨ (0 ≤ x3.toInt ∧ x3.toInt ≤ 13)) ∧ (¬ r.toInt = 0 ∨ (0 ≤ (w.2.2.1 96 5).toInt ∧ (w.2.2.1 96 5).toInt ≤ 6)) ∧ (¬ r.toInt = 0 ∨ (0 ≤ (w.2.2.1 96 0).toInt ∧ (w.2.2.1 96 0).toInt ≤ 8)) ∧ (r.toInt = 0 ∨ (0 ≤ (w.2.2.1 96 5).toInt ∧ (w.2.2.1 96 5).toInt ≤ 6))) ∧ Jv w u) := by
  refine cn_I (own := RX10) (nm := "bid") (L0 := [some (AR 95), some (AI x1), some (AI x2), some (AI x3)]) (by decide +kernel) rfl rfl (Nat.le_of_ble_eq_true rfl) rfl ?_
  intro p e s m args below meth c E hin
  have hJ : Jv w w := jv_rfl hI
  have hb_x1 := z32 x1
  have hb_x2 := z32 x2
  have hb_x3 := z32 x3
  refine s_aload_n E dX10_bid_0 rfl rfl ?_
  refine s_iload_n E dX10_bid_1 rfl rfl ?_
  refine z_i2l (u := x1.toInt) E dX10_bid_2 rfl (fun z_1 hz_1 => ?_)
  refine s_vI (As := [AL z_1]) (S := []) E (Z_X10_isLady_95 l D aC b w z_1 hJ.1 ) cv_X10_222 rfl rfl rfl (jv_lt hJ (by decide)) (Nat.le_of_ble_eq_true rfl) (Nat.le_of_ble_eq_true rfl) ⟨(Nat.le_of_ble_eq_true rfl), (Nat.le_of_ble_eq_true rfl)⟩ (Nat.le_of_ble_eq_true rfl) dX10_bid_3 (fun z_4 u_2 hp_3 => ?_)
  obtain ⟨hz_4, hp_3⟩ := hp_3
  subst hp_3
  refine z_if_eq (tgt := 29) (u := z_4.toInt) E dX10_bid_6 (by decide) rfl (fun h_6 => ?_) (fun h_6 => ?_)
  ·
    refine s_bipush (v := (-2)) E dX10_bid_29 (by decide) ?_
    exact r_int E dX10_bid_31 ⟨⟨by decide, by decide, by first | (left; decide) | (right; decide) | (right; have hb_ := z32 x1; omega), by first | (left; decide) | (right; decide) | (right; have hb_ := z32 x2; omega), by first | (left; decide) | (right; decide) | (right; have hb_ := z32 x3; omega), by first | (left; decide) | (right; decide) | (right; have hb_ := z32 (w.2.2.1 96 5); omega), by first | (left; decide) | (right; decide) | (right; have hb_ := z32 (w.2.2.1 96 0); omega), by first | (left; decide) | (right; decide) | (right; have hb_ := z32 (w.2.2.1 96 5); omega)⟩, hJ⟩
  ·
    refine s_aload_n E dX10_bid_9 rfl rfl ?_
    refine s_iload_n E dX10_bid_10 rfl rfl ?_
    refine s_vI (As := [AI x2]) (S := []) E (Z_X10_isRoom_95 l D aC b w x2 hJ.1 ) cv_X10_291 rfl rfl rfl (jv_lt hJ (by decide)) (Nat.le_of_ble_eq_true rfl) (Nat.le_of_ble_eq_true rfl) ⟨(Nat.le_of_ble_eq_true rfl), (Nat.le_of_ble_eq_true rfl)⟩ (Nat.le_of_ble_eq_true rfl) dX10_bid_11 (fun z_9 u_7 hp_8 => ?_)
    obtain ⟨hz_9, hp_8⟩ := hp_8
    subst hp_8
    refine z_if_eq (tgt := 29) (u := z_9.toInt) E dX10_bid_14 (by decide) rfl (fun h_11 => ?_) (fun h_11 => ?_)
    ·
      refine s_bipush (v := (-2)) E dX10_bid_29 (by decide) ?_
      exact r_int E dX10_bid_31 ⟨⟨by decide, by decide, by first | (left; decide) | (right; decide) | (right; have hb_ := z32 x1; omega), by first | (left; decide) | (right; decide) | (right; have hb_ := z32 x2; omega), by first | (left; decide) | (right; decide) | (right; have hb_ := z32 x3; omega), by first | (left; decide) | (right; decide) | (right; have hb_ := z32 (w.2.2.1 96 5); omega), by first | (left; decide) | (right; decide) | (right; have hb_ := z32 (w.2.2.1 96 0); omega), by first | (left; decide) | (right; decide) | (right; have hb_ := z32 (w.2.2.1 96 5); omega)⟩, hJ⟩
    ·
      refine s_iload_n E dX10_bid_17 rfl rfl ?_
      refine z_i2l (u := x3.toInt) E dX10_bid_18 rfl (fun z_12 hz_12 => ?_)
      refine s_lconst (v := 0) E dX10_bid_19 (by decide) ?_
      refine s_ldc2 E k_1932 rfl dX10_bid_20 ?_
      refine s_sI (As := [AL z_12, AL 0, AL 13]) (S := []) E (Z_X10_in l D aC b w z_12 0 13) cs_X10_82 rfl rfl (Nat.le_of_ble_eq_true rfl) (Nat.le_of_ble_eq_true rfl) ⟨(Nat.le_of_ble_eq_true rfl), (Nat.le_of_ble_eq_true rfl)⟩ (Nat.le_of_ble_eq_true rfl) dX10_bid_23 (fun z_13 u_14 hp_15 => ?_)
      obtain ⟨hz_13, hp_15⟩ := hp_15
      subst hp_15
      refine z_if_ne (tgt := 32) (u := z_13.toInt) E dX10_bid_26 (by decide) rfl (fun h_16 => ?_) (fun h_16 => ?_)
      ·
        refine s_aload_n E dX10_bid_32 rfl rfl ?_
        refine s_sipush (v := 1000) E dX10_bid_33 (by decide) ?_
        refine s_iload_n E dX10_bid_36 rfl rfl ?_
        refine z_imul (u := 1000) (v := x1.toInt) E dX10_bid_37 (by decide) rfl (by omega) (by omega) (fun z_17 hz_17 => ?_)
        refine s_bipush (v := 100) E dX10_bid_38 (by decide) ?_
        refine s_iload_n E dX10_bid_40 rfl rfl ?_
        refine z_imul (u := 100) (v := x2.toInt) E dX10_bid_41 (by decide) rfl (by omega) (by omega) (fun z_18 hz_18 => ?_)
        refine z_iadd (u := z_17.toInt) (v := z_18.toInt) E dX10_bid_42 rfl rfl (by omega) (by omega) (fun z_19 hz_19 => ?_)
        refine s_iload_n E dX10_bid_43 rfl rfl ?_
        refine z_iadd (u := z_19.toInt) (v := x3.toInt) E dX10_bid_44 rfl rfl (by omega) (by omega) (fun z_20 hz_20 => ?_)
        refine s_vI (As := [AI z_20]) (S := []) E (Z_X10_keepAct_95 l D aC b w z_20 hJ.1 ⟨by have hb_ := z32 z_20; omega, by have hb_ := z32 z_20; omega⟩) cv_X10_446 rfl rfl rfl (jv_lt hJ (by decide)) (Nat.le_of_ble_eq_true rfl) (Nat.le_of_ble_eq_true rfl) ⟨(Nat.le_of_ble_eq_true rfl), (Nat.le_of_ble_eq_true rfl)⟩ (Nat.le_of_ble_eq_true rfl) dX10_bid_45 (fun z_23 u_21 hp_22 => ?_)
        obtain ⟨hz_23, hp_22⟩ := hp_22
        have hj_24 := jv_trans hJ hp_22
        refine z_if_ge (tgt := 54) (u := z_23.toInt) E dX10_bid_48 (by decide) rfl (fun h_25 => ?_) (fun h_25 => ?_)
        ·
          refine s_aload_n E dX10_bid_54 rfl rfl ?_
          refine s_vV (As := []) (S := []) E (Z_X10_asItIs_95 l D aC b u_21  hj_24.1 ) cv_X10_279 rfl rfl rfl (jv_lt hj_24 (by decide)) (Nat.le_of_ble_eq_true rfl) (Nat.le_of_ble_eq_true rfl) ⟨(Nat.le_of_ble_eq_true rfl), (Nat.le_of_ble_eq_true rfl)⟩ (Nat.le_of_ble_eq_true rfl) dX10_bid_55 (fun u_26 hp_27 => ?_)
          have hj_28 := jv_trans hj_24 hp_27
          refine s_aload_n E dX10_bid_58 rfl rfl ?_
          refine s_iload_n E dX10_bid_59 rfl rfl ?_
          refine s_aload_n E dX10_bid_60 rfl rfl ?_
          refine s_vI (As := []) (S := [AI x1, AR 95]) E (Z_X10_dances_95 l D aC b u_26  hj_28.1 ) cv_X10_247 rfl rfl rfl (jv_lt hj_28 (by decide)) (Nat.le_of_ble_eq_true rfl) (Nat.le_of_ble_eq_true rfl) ⟨(Nat.le_of_ble_eq_true rfl), (Nat.le_of_ble_eq_true rfl)⟩ (Nat.le_of_ble_eq_true rfl) dX10_bid_61 (fun z_31 u_29 hp_30 => ?_)
          obtain ⟨hz_31, hxz_31, hp_30⟩ := hp_30
          subst hp_30
          refine s_vI (As := [AI x1, AI z_31]) (S := []) E (Z_X10_atOf_95 l D aC b u_26 x1 z_31 hj_28.1 ⟨by have hb_ := z32 x1; omega, by have hb_ := z32 x1; omega⟩ ⟨by have hb_ := z32 z_31; omega, by have hb_ := z32 z_31; omega⟩) cv_X10_255 rfl rfl rfl (jv_lt hj_28 (by decide)) (Nat.le_of_ble_eq_true rfl) (Nat.le_of_ble_eq_true rfl) ⟨(Nat.le_of_ble_eq_true rfl), (Nat.le_of_ble_eq_true rfl)⟩ (Nat.le_of_ble_eq_true rfl) dX10_bid_64 (fun z_35 u_33 hp_34 => ?_)
          obtain ⟨hz_35, hp_34⟩ := hp_34
          subst hp_34
          exact r_int E dX10_bid_67 ⟨⟨by have hb_ := z32 z_35; omega, by have hb_ := z32 z_35; omega, by first | (right; decide) | (have hb_ := z32 z_35; omega) | (have hb_ := z32 z_35; have hc_ := z32 x1; omega), by first | (right; decide) | (have hb_ := z32 z_35; omega) | (have hb_ := z32 z_35; have hc_ := z32 x2; omega), by first | (right; decide) | (have hb_ := z32 z_35; omega) | (have hb_ := z32 z_35; have hc_ := z32 x3; omega), by first | (right; decide) | (have hb_ := z32 z_35; omega) | (have hb_ := z32 z_35; have hc_ := z32 (w.2.2.1 96 5); omega), by first | (right; decide) | (have hb_ := z32 z_35; omega) | (have hb_ := z32 z_35; have hc_ := z32 (w.2.2.1 96 0); omega), by first | (right; decide) | (have hb_ := z32 z_35; omega) | (have hb_ := z32 z_35; have hc_ := z32 (w.2.2.1 96 5); omega)⟩, hj_28⟩
        ·
          refine s_bipush (v := (-5)) E dX10_bid_51 (by decide) ?_
          exact r_int E dX10_bid_53 ⟨⟨by decide, by decide, by first | (left; decide) | (right; decide) | (right; have hb_ := z32 x1; omega), by first | (left; decide) | (right; decide) | (right; have hb_ := z32 x2; omega), by first | (left; decide) | (right; decide) | (right; have hb_ := z32 x3; omega), by first | (left; decide) | (right; decide) | (right; have hb_ := z32 (w.2.2.1 96 5); omega), by first | (left; decide) | (right; decide) | (right; have hb_ := z32 (w.2.2.1 96 0); omega), by first | (left; decide) | (right; decide) | (right; have hb_ := z32 (w.2.2.1 96 5); omega)⟩, hj_24⟩
      ·
        refine s_bipush (v := (-2)) E dX10_bid_29 (by decide) ?_
        exact r_int E dX10_bid_31 ⟨⟨by decide, by decide, by first | (left; decide) | (right; decide) | (right; have hb_ := z32 x1; omega), by first | (left; decide) | (right; decide) | (right; have hb_ := z32 x2; omega), by first | (left; decide) | (right; decide) | (right; have hb_ := z32 x3; omega), by first | (left; decide) | (right; decide) | (right; have hb_ := z32 (w.2.2.1 96 5); omega), by first | (left; decide) | (right; decide) | (right; have hb_ := z32 (w.2.2.1 96 0); omega), by first | (left; decide) | (right; decide) | (right; have hb_ := z32 (w.2.2.1 96 5); omega)⟩, hJ⟩
set_option maxRecDepth 20000 in
set_option maxHeartbeats 2000000 in
theorem Z_X10_move_95 (l : Launch) (D : va_G) (aC : Nat → ClassId) (b : Nat) (w : XW) (x1 : Int32) (x2 : Int32) (hI : Iv w)  : CnI l D aC b M_X10_move 4 92 0 0 [AR 95, AI x1, AI x2] w (fun r u => ((-5) ≤ r.toInt ∧ r.toInt ≤ 5 ∧ (¬ r.toInt = 0 ∨ (0 ≤ x1.toInt ∧ x1.toInt ≤ 7)) ∧ (¬ r.toInt = 0 ∨ (0 ≤ x2.toInt ∧ x2.toInt ≤ 5)) ∧ (¬ r.toInt = 0 ∨ (0 ≤ (w.2.2.1 96 6).toInt ∧ (w.2.2.1 96 6).toInt ≤ 8)) ∧ (¬ r.toInt = 0 ∨ (0 ≤ (w.2.2.1 96 5).toInt ∧ (w.2.2.1 96 5).toInt ≤ 6)) ∧ (r.toInt = 0 ∨ (0 ≤ (w.2.2.1 96 6).toInt ∧ (w.2.2.1 96 6).toInt ≤ 8))) ∧ Jv w u) := by
  refine cn_I (own := RX10) (nm := "move") (L0 := [some (AR 95), some (AI x1), some (AI x2), none]) (by decide +kernel) rfl rfl (Nat.le_of_ble_eq_true rfl) rfl ?_
  intro p e s m args below meth c E hin
  have hJ : Jv w w := jv_rfl hI
  have hb_x1 := z32 x1
  have hb_x2 := z32 x2
  refine s_aload_n E dX10_move_0 rfl rfl ?_
  refine s_iload_n E dX10_move_1 rfl rfl ?_
  refine s_vI (As := [AI x1]) (S := []) E (Z_X10_isMinister_95 l D aC b w x1 hJ.1 ) cv_X10_285 rfl rfl rfl (jv_lt hJ (by decide)) (Nat.le_of_ble_eq_true rfl) (Nat.le_of_ble_eq_true rfl) ⟨(Nat.le_of_ble_eq_true rfl), (Nat.le_of_ble_eq_true rfl)⟩ (Nat.le_of_ble_eq_true rfl) dX10_move_2 (fun z_3 u_1 hp_2 => ?_)
  obtain ⟨hz_3, hp_2⟩ := hp_2
  subst hp_2
  refine z_if_eq (tgt := 17) (u := z_3.toInt) E dX10_move_5 (by decide) rfl (fun h_5 => ?_) (fun h_5 => ?_)
  ·
    refine s_bipush (v := (-2)) E dX10_move_17 (by decide) ?_
    exact r_int E dX10_move_19 ⟨⟨by decide, by decide, by first | (left; decide) | (right; decide) | (right; have hb_ := z32 x1; omega), by first | (left; decide) | (right; decide) | (right; have hb_ := z32 x2; omega), by first | (left; decide) | (right; decide) | (right; have hb_ := z32 (w.2.2.1 96 6); omega), by first | (left; decide) | (right; decide) | (right; have hb_ := z32 (w.2.2.1 96 5); omega), by first | (left; decide) | (right; decide) | (right; have hb_ := z32 (w.2.2.1 96 6); omega)⟩, hJ⟩
  ·
    refine s_aload_n E dX10_move_8 rfl rfl ?_
    refine s_iload_n E dX10_move_9 rfl rfl ?_
    refine z_i2l (u := x2.toInt) E dX10_move_10 rfl (fun z_6 hz_6 => ?_)
    refine s_vI (As := [AL z_6]) (S := []) E (Z_X10_isLady_95 l D aC b w z_6 hJ.1 ) cv_X10_222 rfl rfl rfl (jv_lt hJ (by decide)) (Nat.le_of_ble_eq_true rfl) (Nat.le_of_ble_eq_true rfl) ⟨(Nat.le_of_ble_eq_true rfl), (Nat.le_of_ble_eq_true rfl)⟩ (Nat.le_of_ble_eq_true rfl) dX10_move_11 (fun z_9 u_7 hp_8 => ?_)
    obtain ⟨hz_9, hp_8⟩ := hp_8
    subst hp_8
    refine z_if_ne (tgt := 20) (u := z_9.toInt) E dX10_move_14 (by decide) rfl (fun h_11 => ?_) (fun h_11 => ?_)
    ·
      refine s_aload_n E dX10_move_20 rfl rfl ?_
      refine s_vV (As := []) (S := []) E (Z_X10_asItIs_95 l D aC b w  hJ.1 ) cv_X10_279 rfl rfl rfl (jv_lt hJ (by decide)) (Nat.le_of_ble_eq_true rfl) (Nat.le_of_ble_eq_true rfl) ⟨(Nat.le_of_ble_eq_true rfl), (Nat.le_of_ble_eq_true rfl)⟩ (Nat.le_of_ble_eq_true rfl) dX10_move_21 (fun u_12 hp_13 => ?_)
      have hj_14 := jv_trans hJ hp_13
      refine s_aload_n E dX10_move_24 rfl rfl ?_
      refine s_gR (r := 104) E fg_X10_40 rfl rfl (jv_lt hj_14 (by decide)) (jv_r hj_14 (by decide +kernel)) dX10_move_25 ?_
      refine s_iload_n E dX10_move_28 rfl rfl ?_
      refine s_iald E rfl (jv_lt hj_14 (by decide)) (z_in (u := x1.toInt) rfl (by omega) (by omega)) dX10_move_29 ?_
      refine z_nm (P := fun z => z.toInt = (u_12.2.2.1 104 x1.toNatClampNeg).toInt ∧ 0 ≤ z.toInt ∧ z.toInt ≤ 5) ⟨rfl, (ra_104 hj_14 _)⟩ (fun z_15 hz_15 => ?_)
      refine s_istore_n (L2 := [some (AR 95), some (AI x1), some (AI x2), some (AI z_15)]) E dX10_move_30 rfl (by decide) rfl ?_
      refine s_aload_n E dX10_move_31 rfl rfl ?_
      refine s_ldc E k_1504 rfl dX10_move_32 ?_
      refine s_bipush (v := 10) E dX10_move_34 (by decide) ?_
      refine s_iload_n E dX10_move_36 rfl rfl ?_
      refine z_imul (u := 10) (v := x1.toInt) E dX10_move_37 (by decide) rfl (by omega) (by omega) (fun z_16 hz_16 => ?_)
      refine z_iadd (u := 100000) (v := z_16.toInt) E dX10_move_38 (by decide) rfl (by omega) (by omega) (fun z_17 hz_17 => ?_)
      refine s_iload_n E dX10_move_39 rfl rfl ?_
      refine z_iadd (u := z_17.toInt) (v := x2.toInt) E dX10_move_40 rfl rfl (by omega) (by omega) (fun z_18 hz_18 => ?_)
      refine s_vI (As := [AI z_18]) (S := []) E (Z_X10_keepAct_95 l D aC b u_12 z_18 hj_14.1 ⟨by have hb_ := z32 z_18; omega, by have hb_ := z32 z_18; omega⟩) cv_X10_446 rfl rfl rfl (jv_lt hj_14 (by decide)) (Nat.le_of_ble_eq_true rfl) (Nat.le_of_ble_eq_true rfl) ⟨(Nat.le_of_ble_eq_true rfl), (Nat.le_of_ble_eq_true rfl)⟩ (Nat.le_of_ble_eq_true rfl) dX10_move_41 (fun z_21 u_19 hp_20 => ?_)
      obtain ⟨hz_21, hp_20⟩ := hp_20
      have hj_22 := jv_trans hj_14 hp_20
      refine z_if_ge (tgt := 52) (u := z_21.toInt) E dX10_move_44 (by decide) rfl (fun h_23 => ?_) (fun h_23 => ?_)
      ·
        refine s_iload_n E dX10_move_52 rfl rfl ?_
        exact r_int E dX10_move_53 ⟨⟨by have hb_ := z32 z_15; omega, by have hb_ := z32 z_15; omega, by first | (right; decide) | (have hb_ := z32 z_15; omega) | (have hb_ := z32 z_15; have hc_ := z32 x1; omega), by first | (right; decide) | (have hb_ := z32 z_15; omega) | (have hb_ := z32 z_15; have hc_ := z32 x2; omega), by first | (right; decide) | (have hb_ := z32 z_15; omega) | (have hb_ := z32 z_15; have hc_ := z32 (w.2.2.1 96 6); omega), by first | (right; decide) | (have hb_ := z32 z_15; omega) | (have hb_ := z32 z_15; have hc_ := z32 (w.2.2.1 96 5); omega), by first | (right; decide) | (have hb_ := z32 z_15; omega) | (have hb_ := z32 z_15; have hc_ := z32 (w.2.2.1 96 6); omega)⟩, hj_22⟩
      ·
        refine s_bipush (v := (-5)) E dX10_move_47 (by decide) ?_
        refine s_goto (tgt := 53) E dX10_move_49 (by decide) ?_
        exact r_int E dX10_move_53 ⟨⟨by decide, by decide, by first | (left; decide) | (right; decide) | (right; have hb_ := z32 x1; omega), by first | (left; decide) | (right; decide) | (right; have hb_ := z32 x2; omega), by first | (left; decide) | (right; decide) | (right; have hb_ := z32 (w.2.2.1 96 6); omega), by first | (left; decide) | (right; decide) | (right; have hb_ := z32 (w.2.2.1 96 5); omega), by first | (left; decide) | (right; decide) | (right; have hb_ := z32 (w.2.2.1 96 6); omega)⟩, hj_22⟩
    ·
      refine s_bipush (v := (-2)) E dX10_move_17 (by decide) ?_
      exact r_int E dX10_move_19 ⟨⟨by decide, by decide, by first | (left; decide) | (right; decide) | (right; have hb_ := z32 x1; omega), by first | (left; decide) | (right; decide) | (right; have hb_ := z32 x2; omega), by first | (left; decide) | (right; decide) | (right; have hb_ := z32 (w.2.2.1 96 6); omega), by first | (left; decide) | (right; decide) | (right; have hb_ := z32 (w.2.2.1 96 5); omega), by first | (left; decide) | (right; decide) | (right; have hb_ := z32 (w.2.2.1 96 6); omega)⟩, hJ⟩
set_option maxRecDepth 20000 in
set_option maxHeartbeats 2000000 in
theorem Z_X10_undo_95 (l : Launch) (D : va_G) (aC : Nat → ClassId) (b : Nat) (w : XW)  (hI : Iv w)  : CnI l D aC b M_X10_undo 1 20 0 0 [AR 95] w (fun r u => ((-5) ≤ r.toInt ∧ r.toInt ≤ 30 ∧ (¬ r.toInt = 0 ∨ (1 ≤ (w.2.2.1 96 9).toInt ∧ (w.2.2.1 96 9).toInt ≤ 2147483647)) ∧ (¬ r.toInt = 0 ∨ (1 ≤ (w.2.2.1 96 8).toInt ∧ (w.2.2.1 96 8).toInt ≤ 30)) ∧ (r.toInt = 0 ∨ (0 ≤ (w.2.2.1 96 9).toInt ∧ (w.2.2.1 96 9).toInt ≤ 2147483647))) ∧ Jv w u) := by
  refine cn_I (own := RX10) (nm := "undo") (L0 := [some (AR 95)]) (by decide +kernel) rfl rfl (Nat.le_of_ble_eq_true rfl) rfl ?_
  intro p e s m args below meth c E hin
  have hJ : Jv w w := jv_rfl hI
  refine s_aload_n E dX10_undo_0 rfl rfl ?_
  refine s_vI (As := []) (S := []) E (Z_X10_isBall_95 l D aC b w  hJ.1 ) cv_X10_86 rfl rfl rfl (jv_lt hJ (by decide)) (Nat.le_of_ble_eq_true rfl) (Nat.le_of_ble_eq_true rfl) ⟨(Nat.le_of_ble_eq_true rfl), (Nat.le_of_ble_eq_true rfl)⟩ (Nat.le_of_ble_eq_true rfl) dX10_undo_1 (fun z_3 u_1 hp_2 => ?_)
  obtain ⟨hz_3, hp_2⟩ := hp_2
  subst hp_2
  refine z_if_ne (tgt := 10) (u := z_3.toInt) E dX10_undo_4 (by decide) rfl (fun h_5 => ?_) (fun h_5 => ?_)
  ·
    refine s_aload_n E dX10_undo_10 rfl rfl ?_
    refine s_gR (r := 96) E fg_X10_9 rfl rfl (jv_lt hJ (by decide)) (jv_r hJ (by decide +kernel)) dX10_undo_11 ?_
    refine s_bipush (v := 8) E dX10_undo_14 (by decide) ?_
    refine s_iald E rfl (jv_lt hJ (by decide)) (z_in (u := 8) (by decide) (by omega) (by omega)) dX10_undo_16 ?_
    refine z_nm (P := fun z => z.toInt = (w.2.2.1 96 8).toInt ∧ 0 ≤ z.toInt ∧ z.toInt ≤ 30) ⟨rfl, (rw_96_8 hJ)⟩ (fun z_6 hz_6 => ?_)
    refine z_if_ne (tgt := 23) (u := z_6.toInt) E dX10_undo_17 (by decide) rfl (fun h_7 => ?_) (fun h_7 => ?_)
    ·
      refine s_aload_n E dX10_undo_23 rfl rfl ?_
      refine s_gR (r := 96) E fg_X10_9 rfl rfl (jv_lt hJ (by decide)) (jv_r hJ (by decide +kernel)) dX10_undo_24 ?_
      refine s_bipush (v := 8) E dX10_undo_27 (by decide) ?_
      refine s_dup2 E dX10_undo_29 ?_
      refine s_iald E rfl (jv_lt hJ (by decide)) (z_in (u := 8) (by decide) (by omega) (by omega)) dX10_undo_30 ?_
      refine z_nm (P := fun z => z.toInt = (w.2.2.1 96 8).toInt ∧ 0 ≤ z.toInt ∧ z.toInt ≤ 30) ⟨rfl, (rw_96_8 hJ)⟩ (fun z_8 hz_8 => ?_)
      refine s_iconst (v := 1) E dX10_undo_31 (by decide) ?_
      refine z_isub (u := z_8.toInt) (v := 1) E dX10_undo_32 rfl (by decide) (by omega) (by omega) (fun z_9 hz_9 => ?_)
      refine s_iast E rfl (jv_lt hJ (by decide)) (z_in (u := 8) (by decide) (by omega) (by omega)) dX10_undo_33 ?_
      refine s_gen (P := fun v => Jv w v ∧ (v.2.2.1 96 9).toInt = (w.2.2.1 96 9).toInt) ⟨(jv_a_96 (i := 8) (x := z_9) hJ 0 30 8 8 1 8 (by decide +kernel) (by decide) (by decide) (by omega) (by omega) (by omega) (by have hb_ := z32 z_9; omega) (by have hb_ := z32 z_9; omega) (fun h0_ => by unfold okA; omega)), rfl⟩ (fun v_10 hj_11 => ?_)
      obtain ⟨hj_11, hk_12k0⟩ := hj_11
      refine s_aload_n E dX10_undo_34 rfl rfl ?_
      refine s_gR (r := 96) E fg_X10_9 rfl rfl (jv_lt hj_11 (by decide)) (jv_r hj_11 (by decide +kernel)) dX10_undo_35 ?_
      refine s_bipush (v := 8) E dX10_undo_38 (by decide) ?_
      refine s_iald E rfl (jv_lt hj_11 (by decide)) (z_in (u := 8) (by decide) (by omega) (by omega)) dX10_undo_40 ?_
      refine z_nm (P := fun z => z.toInt = (v_10.2.2.1 96 8).toInt ∧ 0 ≤ z.toInt ∧ z.toInt ≤ 30) ⟨rfl, (rw_96_8 hj_11)⟩ (fun z_13 hz_13 => ?_)
      exact r_int E dX10_undo_41 ⟨⟨by have hb_ := z32 z_13; omega, by have hb_ := z32 z_13; omega, by first | (right; decide) | (have hb_ := z32 z_13; omega) | (have hb_ := z32 z_13; have hc_ := z32 (w.2.2.1 96 9); omega), by first | (right; decide) | (have hb_ := z32 z_13; omega) | (have hb_ := z32 z_13; have hc_ := z32 (w.2.2.1 96 8); omega), by first | (right; decide) | (have hb_ := z32 z_13; omega) | (have hb_ := z32 z_13; have hc_ := z32 (w.2.2.1 96 9); omega)⟩, hj_11⟩
    ·
      refine s_bipush (v := (-5)) E dX10_undo_20 (by decide) ?_
      exact r_int E dX10_undo_22 ⟨⟨by decide, by decide, by first | (left; decide) | (right; decide) | (right; have hb_ := z32 (w.2.2.1 96 9); omega), by first | (left; decide) | (right; decide) | (right; have hb_ := z32 (w.2.2.1 96 8); omega), by first | (left; decide) | (right; decide) | (right; have hb_ := z32 (w.2.2.1 96 9); omega)⟩, hJ⟩
  ·
    refine s_bipush (v := (-2)) E dX10_undo_7 (by decide) ?_
    exact r_int E dX10_undo_9 ⟨⟨by decide, by decide, by first | (left; decide) | (right; decide) | (right; have hb_ := z32 (w.2.2.1 96 9); omega), by first | (left; decide) | (right; decide) | (right; have hb_ := z32 (w.2.2.1 96 8); omega), by first | (left; decide) | (right; decide) | (right; have hb_ := z32 (w.2.2.1 96 9); omega)⟩, hJ⟩
set_option maxRecDepth 20000 in
set_option maxHeartbeats 2000000 in
theorem Z_X10_anew_95 (l : Launch) (D : va_G) (aC : Nat → ClassId) (b : Nat) (w : XW)  (hI : Iv w)  : CnI l D aC b M_X10_anew 1 20 0 0 [AR 95] w (fun r u => ((-2) ≤ r.toInt ∧ r.toInt ≤ 30 ∧ (¬ r.toInt = 0 ∨ (1 ≤ (w.2.2.1 96 9).toInt ∧ (w.2.2.1 96 9).toInt ≤ 2147483647)) ∧ (¬ r.toInt = 0 ∨ (0 ≤ (w.2.2.1 96 8).toInt ∧ (w.2.2.1 96 8).toInt ≤ 30)) ∧ (r.toInt = 0 ∨ (0 ≤ (w.2.2.1 96 9).toInt ∧ (w.2.2.1 96 9).toInt ≤ 2147483647))) ∧ Jv w u) := by
  refine cn_I (own := RX10) (nm := "anew") (L0 := [some (AR 95), none]) (by decide +kernel) rfl rfl (Nat.le_of_ble_eq_true rfl) rfl ?_
  intro p e s m args below meth c E hin
  have hJ : Jv w w := jv_rfl hI
  refine s_aload_n E dX10_anew_0 rfl rfl ?_
  refine s_vI (As := []) (S := []) E (Z_X10_isBall_95 l D aC b w  hJ.1 ) cv_X10_86 rfl rfl rfl (jv_lt hJ (by decide)) (Nat.le_of_ble_eq_true rfl) (Nat.le_of_ble_eq_true rfl) ⟨(Nat.le_of_ble_eq_true rfl), (Nat.le_of_ble_eq_true rfl)⟩ (Nat.le_of_ble_eq_true rfl) dX10_anew_1 (fun z_3 u_1 hp_2 => ?_)
  obtain ⟨hz_3, hp_2⟩ := hp_2
  subst hp_2
  refine z_if_ne (tgt := 10) (u := z_3.toInt) E dX10_anew_4 (by decide) rfl (fun h_5 => ?_) (fun h_5 => ?_)
  ·
    refine s_aload_n E dX10_anew_10 rfl rfl ?_
    refine s_gR (r := 96) E fg_X10_9 rfl rfl (jv_lt hJ (by decide)) (jv_r hJ (by decide +kernel)) dX10_anew_11 ?_
    refine s_bipush (v := 8) E dX10_anew_14 (by decide) ?_
    refine s_iald E rfl (jv_lt hJ (by decide)) (z_in (u := 8) (by decide) (by omega) (by omega)) dX10_anew_16 ?_
    refine z_nm (P := fun z => z.toInt = (w.2.2.1 96 8).toInt ∧ 0 ≤ z.toInt ∧ z.toInt ≤ 30) ⟨rfl, (rw_96_8 hJ)⟩ (fun z_6 hz_6 => ?_)
    refine s_istore_n (L2 := [some (AR 95), some (AI z_6)]) E dX10_anew_17 rfl (by decide) rfl ?_
    refine s_aload_n E dX10_anew_18 rfl rfl ?_
    refine s_gR (r := 96) E fg_X10_9 rfl rfl (jv_lt hJ (by decide)) (jv_r hJ (by decide +kernel)) dX10_anew_19 ?_
    refine s_bipush (v := 8) E dX10_anew_22 (by decide) ?_
    refine s_iconst (v := 0) E dX10_anew_24 (by decide) ?_
    refine s_iast E rfl (jv_lt hJ (by decide)) (z_in (u := 8) (by decide) (by omega) (by omega)) dX10_anew_25 ?_
    refine s_gen (P := fun v => Jv w v ∧ (v.2.2.1 96 9).toInt = (w.2.2.1 96 9).toInt) ⟨(jv_a_96 (i := 8) (x := 0) hJ 0 30 8 8 1 8 (by decide +kernel) (by decide) (by decide) (by omega) (by omega) (by omega) (by decide) (by decide) (fun h0_ => by unfold okA; omega)), rfl⟩ (fun v_7 hj_8 => ?_)
    obtain ⟨hj_8, hk_9k0⟩ := hj_8
    refine s_iload_n E dX10_anew_26 rfl rfl ?_
    exact r_int E dX10_anew_27 ⟨⟨by have hb_ := z32 z_6; omega, by have hb_ := z32 z_6; omega, by first | (right; decide) | (have hb_ := z32 z_6; omega) | (have hb_ := z32 z_6; have hc_ := z32 (w.2.2.1 96 9); omega), by first | (right; decide) | (have hb_ := z32 z_6; omega) | (have hb_ := z32 z_6; have hc_ := z32 (w.2.2.1 96 8); omega), by first | (right; decide) | (have hb_ := z32 z_6; omega) | (have hb_ := z32 z_6; have hc_ := z32 (w.2.2.1 96 9); omega)⟩, hj_8⟩
  ·
    refine s_bipush (v := (-2)) E dX10_anew_7 (by decide) ?_
    exact r_int E dX10_anew_9 ⟨⟨by decide, by decide, by first | (left; decide) | (right; decide) | (right; have hb_ := z32 (w.2.2.1 96 9); omega), by first | (left; decide) | (right; decide) | (right; have hb_ := z32 (w.2.2.1 96 8); omega), by first | (left; decide) | (right; decide) | (right; have hb_ := z32 (w.2.2.1 96 9); omega)⟩, hJ⟩
set_option maxRecDepth 20000 in
set_option maxHeartbeats 2000000 in
theorem Z_X10_isSeed (l : Launch) (D : va_G) (aC : Nat → ClassId) (b : Nat) (w : XW) (x1 : Int32) (hI : Iv w)  : CnI l D aC b M_X10_isSeed 1 25 0 0 [AI x1] w (fun r u => (0 ≤ r.toInt ∧ r.toInt ≤ 1 ∧ (r.toInt = 0 ∨ (0 ≤ x1.toInt ∧ x1.toInt ≤ 2000000000))) ∧ w = u) := by
  refine cn_I (own := RX10) (nm := "isSeed") (L0 := [some (AI x1)]) (by decide +kernel) rfl rfl (Nat.le_of_ble_eq_true rfl) rfl ?_
  intro p e s m args below meth c E hin
  have hJ : Jv w w := jv_rfl hI
  have hb_x1 := z32 x1
  refine s_iload_n E dX10_isSeed_0 rfl rfl ?_
  refine z_i2l (u := x1.toInt) E dX10_isSeed_1 rfl (fun z_1 hz_1 => ?_)
  refine s_lconst (v := 0) E dX10_isSeed_2 (by decide) ?_
  refine s_ldc2 E k_1956 rfl dX10_isSeed_3 ?_
  refine s_sI (As := [AL z_1, AL 0, AL 2000000000]) (S := []) E (Z_X10_in l D aC b w z_1 0 2000000000) cs_X10_82 rfl rfl (Nat.le_of_ble_eq_true rfl) (Nat.le_of_ble_eq_true rfl) ⟨(Nat.le_of_ble_eq_true rfl), (Nat.le_of_ble_eq_true rfl)⟩ (Nat.le_of_ble_eq_true rfl) dX10_isSeed_6 (fun z_2 u_3 hp_4 => ?_)
  obtain ⟨hz_2, hp_4⟩ := hp_4
  subst hp_4
  exact r_bool E dX10_isSeed_9 (z_bool (by omega) (by omega)) ⟨⟨by have hb_ := z32 z_2; omega, by have hb_ := z32 z_2; omega, by first | (right; decide) | (have hb_ := z32 z_2; omega) | (have hb_ := z32 z_2; have hc_ := z32 x1; omega)⟩, rfl⟩
set_option maxRecDepth 20000 in
set_option maxHeartbeats 2000000 in
theorem Z_X10_goDrawn_95 (l : Launch) (D : va_G) (aC : Nat → ClassId) (b : Nat) (w : XW) (x1 : Int64) (x2 : Int32) (hI : Iv w) (hx2 : 0 ≤ x2.toInt ∧ x2.toInt ≤ 5) : CnI l D aC b M_X10_goDrawn 5 117 0 0 [AR 95, AL x1, AI x2] w (fun r u => ((-2147483648) ≤ r.toInt ∧ r.toInt ≤ 2147483647) ∧ Jv w u) := by
  refine cn_I (own := RX10) (nm := "goDrawn") (L0 := [some (AR 95), some (AL x1), none, some (AI x2), none, none, none]) (by decide +kernel) rfl rfl (Nat.le_of_ble_eq_true rfl) rfl ?_
  intro p e s m args below meth c E hin
  have hJ : Jv w w := jv_rfl hI
  refine s_aload_n E dX10_goDrawn_0 rfl rfl ?_
  refine s_vV (As := []) (S := []) E (Z_X10_asItIs_95 l D aC b w  hJ.1 ) cv_X10_279 rfl rfl rfl (jv_lt hJ (by decide)) (Nat.le_of_ble_eq_true rfl) (Nat.le_of_ble_eq_true rfl) ⟨(Nat.le_of_ble_eq_true rfl), (Nat.le_of_ble_eq_true rfl)⟩ (Nat.le_of_ble_eq_true rfl) dX10_goDrawn_1 (fun u_1 hp_2 => ?_)
  have hj_3 := jv_trans hJ hp_2
  refine s_lload_n E dX10_goDrawn_4 rfl rfl ?_
  refine s_lstore (L2 := [some (AR 95), some (AL x1), none, some (AI x2), some (AL x1), none, none]) E dX10_goDrawn_5 (by decide) rfl ?_
  refine s_iconst (v := 0) E dX10_goDrawn_7 (by decide) ?_
  refine s_istore (L2 := [some (AR 95), some (AL x1), none, some (AI x2), some (AL x1), none, some (AI 0)]) E dX10_goDrawn_8 (by decide) rfl ?_
  refine z_loop (St := Int64 × Int32) (Pi := fun ⟨q10_4_3, q10_6_3⟩ v10 => (0 ≤ q10_6_3.toInt ∧ q10_6_3.toInt ≤ 15) ∧ Jv w v10) (Lf := fun ⟨q10_4_3, q10_6_3⟩ => [some (AR 95), some (AL x1), none, some (AI x2), some (AL q10_4_3), none, some (AI q10_6_3)]) (fun ⟨q10_4_3, q10_6_3⟩ _ => (16 - q10_6_3.toInt).toNat) ⟨x1, 0⟩ ⟨⟨by decide, by decide⟩, hj_3⟩ ?_
  rintro ⟨q10_4_3, q10_6_3⟩ v10 ⟨hq10_6, hj_4⟩ ih10
  have hbq10_4 := z64 q10_4_3
  refine s_loc (L2 := [some (AR 95), some (AL x1), none, some (AI x2), some (AL q10_4_3), none, some (AI q10_6_3)]) rfl ?_
  refine s_iload E dX10_goDrawn_10 rfl ?_
  refine s_aload_n E dX10_goDrawn_12 rfl rfl ?_
  refine s_vI (As := []) (S := [AI q10_6_3]) E (Z_X10_dances_95 l D aC b v10  hj_4.1 ) cv_X10_247 rfl rfl rfl (jv_lt hj_4 (by decide)) (Nat.le_of_ble_eq_true rfl) (Nat.le_of_ble_eq_true rfl) ⟨(Nat.le_of_ble_eq_true rfl), (Nat.le_of_ble_eq_true rfl)⟩ (Nat.le_of_ble_eq_true rfl) dX10_goDrawn_13 (fun z_7 u_5 hp_6 => ?_)
  obtain ⟨hz_7, hxz_7, hp_6⟩ := hp_6
  subst hp_6
  refine z_icmp_gt (tgt := 79) (u := q10_6_3.toInt) (v := z_7.toInt) E dX10_goDrawn_16 (by decide) rfl rfl (fun h_9 => ?_) (fun h_9 => ?_)
  ·
    refine s_aload_n E dX10_goDrawn_79 rfl rfl ?_
    refine s_iload_n E dX10_goDrawn_80 rfl rfl ?_
    refine s_vI (As := [AI x2]) (S := []) E (Z_X10_goNote__95 l D aC b v10 x2 hj_4.1 ⟨by have hb_ := z32 x2; omega, by have hb_ := z32 x2; omega⟩) cv_X10_338 rfl rfl rfl (jv_lt hj_4 (by decide)) (Nat.le_of_ble_eq_true rfl) (Nat.le_of_ble_eq_true rfl) ⟨(Nat.le_of_ble_eq_true rfl), (Nat.le_of_ble_eq_true rfl)⟩ (Nat.le_of_ble_eq_true rfl) dX10_goDrawn_81 (fun z_12 u_10 hp_11 => ?_)
    obtain ⟨hz_12, hxz_12, hp_11⟩ := hp_11
    have hj_13 := jv_trans hj_4 hp_11
    exact r_int E dX10_goDrawn_84 ⟨⟨by have hb_ := z32 z_12; omega, by have hb_ := z32 z_12; omega⟩, hj_13⟩
  ·
    refine s_ldc2 E k_1961 rfl dX10_goDrawn_19 ?_
    refine s_lload E dX10_goDrawn_22 rfl ?_
    refine s_lmul E dX10_goDrawn_24 ?_
    refine z_anyL (fun z_14 => ?_)
    refine s_ldc2 E k_1962 rfl dX10_goDrawn_25 ?_
    refine s_ladd E dX10_goDrawn_28 ?_
    refine z_anyL (fun z_15 => ?_)
    refine s_ldc2 E k_1963 rfl dX10_goDrawn_29 ?_
    refine s_lrem E dX10_goDrawn_32 (z_neL (u := 2147483648) (by decide) (by omega)) ?_
    refine z_anyL (fun z_16 => ?_)
    refine s_lstore (L2 := [some (AR 95), some (AL x1), none, some (AI x2), some (AL z_16), none, some (AI q10_6_3)]) E dX10_goDrawn_33 (by decide) rfl ?_
    refine s_aload_n E dX10_goDrawn_35 rfl rfl ?_
    refine s_dupR E dX10_goDrawn_36 ?_
    refine s_gI E fg_X10_270 rfl rfl (jv_lt hj_4 (by decide)) dX10_goDrawn_37 ?_
    refine z_nm (P := fun z => z.toInt = (v10.2.2.1 95 24).toInt ∧ (-2147483648) ≤ z.toInt ∧ z.toInt ≤ 2147483647) ⟨rfl, z32 _⟩ (fun z_17 hz_17 => ?_)
    refine s_lload E dX10_goDrawn_40 rfl ?_
    refine s_ldc2 E k_1964 rfl dX10_goDrawn_42 ?_
    refine s_ldiv E dX10_goDrawn_45 (z_neL (u := 65536) (by decide) (by omega)) ?_
    refine z_anyL (fun z_18 => ?_)
    refine s_ldc2 E k_1965 rfl dX10_goDrawn_46 ?_
    refine s_lrem E dX10_goDrawn_49 (z_neL (u := 10) (by decide) (by omega)) ?_
    refine z_anyL (fun z_19 => ?_)
    refine s_aload_n E dX10_goDrawn_50 rfl rfl ?_
    refine s_gR (r := 96) E fg_X10_9 rfl rfl (jv_lt hj_4 (by decide)) (jv_r hj_4 (by decide +kernel)) dX10_goDrawn_51 ?_
    refine s_iconst (v := 3) E dX10_goDrawn_54 (by decide) ?_
    refine s_iald E rfl (jv_lt hj_4 (by decide)) (z_in (u := 3) (by decide) (by omega) (by omega)) dX10_goDrawn_55 ?_
    refine z_nm (P := fun z => z.toInt = (v10.2.2.1 96 3).toInt ∧ 0 ≤ z.toInt ∧ z.toInt ≤ 10) ⟨rfl, (rw_96_3 hj_4)⟩ (fun z_20 hz_20 => ?_)
    refine z_i2l (u := z_20.toInt) E dX10_goDrawn_56 rfl (fun z_21 hz_21 => ?_)
    refine z_lcmp (u := z_19.toInt) (v := z_21.toInt) E dX10_goDrawn_57 rfl rfl (fun z_22 hz_22 => ?_)
    refine z_if_ge (tgt := 68) (u := z_22.toInt) E dX10_goDrawn_58 (by decide) rfl (fun h_23 => ?_) (fun h_23 => ?_)
    ·
      refine s_iconst (v := 0) E dX10_goDrawn_68 (by decide) ?_
      refine s_ior E dX10_goDrawn_69 ?_
      refine z_nm (P := fun z => (-2147483648) ≤ z.toInt ∧ z.toInt ≤ 2147483647) (z32 _) (fun z_24 hz_24 => ?_)
      refine s_pI E fp_X10_270 (Or.inl rfl) rfl (jv_lt hj_4 (by decide)) dX10_goDrawn_70 ?_
      refine s_gen (P := Jv w) (jv_f_95_24 hj_4 (by have hb_ := z32 z_24; omega) (by have hb_ := z32 z_24; omega)) (fun v_25 hj_26 => ?_)
      refine z_iinc (u := q10_6_3.toInt) (L2 := fun z_27 => [some (AR 95), some (AL x1), none, some (AI x2), some (AL z_16), none, some (AI z_27)]) E dX10_goDrawn_73 rfl rfl (by decide) (fun _ => rfl) (by decide) (by omega) (by omega) (fun z_27 hz_27 => ?_)
      refine s_goto (tgt := 10) E dX10_goDrawn_76 (by decide) ?_
      exact ih10 ⟨z_16, z_27⟩ v_25 ⟨⟨by have hb_ := z32 z_27; omega, by have hb_ := z32 z_27; omega⟩, hj_26⟩ (by first | omega | decide | (dsimp only; omega) | (dsimp only; decide))
    ·
      refine s_iconst (v := 1) E dX10_goDrawn_61 (by decide) ?_
      refine s_iload E dX10_goDrawn_62 rfl ?_
      refine z_shl1 14 (u := q10_6_3.toInt) (B := 16384) E dX10_goDrawn_64 rfl (by omega) (by omega) (by decide) (by decide) (fun z_28 hz_28 => ?_)
      refine s_goto (tgt := 69) E dX10_goDrawn_65 (by decide) ?_
      refine s_ior E dX10_goDrawn_69 ?_
      refine z_nm (P := fun z => (-2147483648) ≤ z.toInt ∧ z.toInt ≤ 2147483647) (z32 _) (fun z_29 hz_29 => ?_)
      refine s_pI E fp_X10_270 (Or.inl rfl) rfl (jv_lt hj_4 (by decide)) dX10_goDrawn_70 ?_
      refine s_gen (P := Jv w) (jv_f_95_24 hj_4 (by have hb_ := z32 z_29; omega) (by have hb_ := z32 z_29; omega)) (fun v_30 hj_31 => ?_)
      refine z_iinc (u := q10_6_3.toInt) (L2 := fun z_32 => [some (AR 95), some (AL x1), none, some (AI x2), some (AL z_16), none, some (AI z_32)]) E dX10_goDrawn_73 rfl rfl (by decide) (fun _ => rfl) (by decide) (by omega) (by omega) (fun z_32 hz_32 => ?_)
      refine s_goto (tgt := 10) E dX10_goDrawn_76 (by decide) ?_
      exact ih10 ⟨z_16, z_32⟩ v_30 ⟨⟨by have hb_ := z32 z_32; omega, by have hb_ := z32 z_32; omega⟩, hj_31⟩ (by first | omega | decide | (dsimp only; omega) | (dsimp only; decide))
set_option maxRecDepth 20000 in
set_option maxHeartbeats 2000000 in
theorem Z_X10_drawn_95 (l : Launch) (D : va_G) (aC : Nat → ClassId) (b : Nat) (w : XW) (x1 : Int32) (x2 : Int32) (x3 : Int32) (hI : Iv w)  : CnI l D aC b M_X10_drawn 6 143 0 0 [AR 95, AI x1, AI x2, AI x3] w (fun r u => ((-2147483648) ≤ r.toInt ∧ r.toInt ≤ 2147483647 ∧ (¬ r.toInt = 0 ∨ (0 ≤ x1.toInt ∧ x1.toInt ≤ 2000000000)) ∧ (¬ r.toInt = 0 ∨ (0 ≤ x2.toInt ∧ x2.toInt ≤ 5)) ∧ (¬ r.toInt = 0 ∨ (0 ≤ x3.toInt ∧ x3.toInt ≤ 1)) ∧ (¬ r.toInt = 0 ∨ (0 ≤ (w.2.2.1 96 5).toInt ∧ (w.2.2.1 96 5).toInt ≤ 6))) ∧ Jv w u) := by
  refine cn_I (own := RX10) (nm := "drawn") (L0 := [some (AR 95), some (AI x1), some (AI x2), some (AI x3), none]) (by decide +kernel) rfl rfl (Nat.le_of_ble_eq_true rfl) rfl ?_
  intro p e s m args below meth c E hin
  have hJ : Jv w w := jv_rfl hI
  have hb_x1 := z32 x1
  have hb_x2 := z32 x2
  have hb_x3 := z32 x3
  refine s_iload_n E dX10_drawn_0 rfl rfl ?_
  refine s_sI (As := [AI x1]) (S := []) E (Z_X10_isSeed l D aC b w x1 hJ.1 ) cs_X10_461 rfl rfl (Nat.le_of_ble_eq_true rfl) (Nat.le_of_ble_eq_true rfl) ⟨(Nat.le_of_ble_eq_true rfl), (Nat.le_of_ble_eq_true rfl)⟩ (Nat.le_of_ble_eq_true rfl) dX10_drawn_1 (fun z_3 u_1 hp_2 => ?_)
  obtain ⟨hz_3, hp_2⟩ := hp_2
  subst hp_2
  refine z_if_eq (tgt := 26) (u := z_3.toInt) E dX10_drawn_4 (by decide) rfl (fun h_5 => ?_) (fun h_5 => ?_)
  ·
    refine s_bipush (v := (-2)) E dX10_drawn_26 (by decide) ?_
    exact r_int E dX10_drawn_28 ⟨⟨by decide, by decide, by first | (left; decide) | (right; decide) | (right; have hb_ := z32 x1; omega), by first | (left; decide) | (right; decide) | (right; have hb_ := z32 x2; omega), by first | (left; decide) | (right; decide) | (right; have hb_ := z32 x3; omega), by first | (left; decide) | (right; decide) | (right; have hb_ := z32 (w.2.2.1 96 5); omega)⟩, hJ⟩
  ·
    refine s_aload_n E dX10_drawn_7 rfl rfl ?_
    refine s_iload_n E dX10_drawn_8 rfl rfl ?_
    refine z_i2l (u := x2.toInt) E dX10_drawn_9 rfl (fun z_6 hz_6 => ?_)
    refine s_vI (As := [AL z_6]) (S := []) E (Z_X10_isLady_95 l D aC b w z_6 hJ.1 ) cv_X10_222 rfl rfl rfl (jv_lt hJ (by decide)) (Nat.le_of_ble_eq_true rfl) (Nat.le_of_ble_eq_true rfl) ⟨(Nat.le_of_ble_eq_true rfl), (Nat.le_of_ble_eq_true rfl)⟩ (Nat.le_of_ble_eq_true rfl) dX10_drawn_10 (fun z_9 u_7 hp_8 => ?_)
    obtain ⟨hz_9, hp_8⟩ := hp_8
    subst hp_8
    refine z_if_eq (tgt := 26) (u := z_9.toInt) E dX10_drawn_13 (by decide) rfl (fun h_11 => ?_) (fun h_11 => ?_)
    ·
      refine s_bipush (v := (-2)) E dX10_drawn_26 (by decide) ?_
      exact r_int E dX10_drawn_28 ⟨⟨by decide, by decide, by first | (left; decide) | (right; decide) | (right; have hb_ := z32 x1; omega), by first | (left; decide) | (right; decide) | (right; have hb_ := z32 x2; omega), by first | (left; decide) | (right; decide) | (right; have hb_ := z32 x3; omega), by first | (left; decide) | (right; decide) | (right; have hb_ := z32 (w.2.2.1 96 5); omega)⟩, hJ⟩
    ·
      refine s_iload_n E dX10_drawn_16 rfl rfl ?_
      refine z_i2l (u := x3.toInt) E dX10_drawn_17 rfl (fun z_12 hz_12 => ?_)
      refine s_lconst (v := 0) E dX10_drawn_18 (by decide) ?_
      refine s_lconst (v := 1) E dX10_drawn_19 (by decide) ?_
      refine s_sI (As := [AL z_12, AL 0, AL 1]) (S := []) E (Z_X10_in l D aC b w z_12 0 1) cs_X10_82 rfl rfl (Nat.le_of_ble_eq_true rfl) (Nat.le_of_ble_eq_true rfl) ⟨(Nat.le_of_ble_eq_true rfl), (Nat.le_of_ble_eq_true rfl)⟩ (Nat.le_of_ble_eq_true rfl) dX10_drawn_20 (fun z_13 u_14 hp_15 => ?_)
      obtain ⟨hz_13, hp_15⟩ := hp_15
      subst hp_15
      refine z_if_ne (tgt := 29) (u := z_13.toInt) E dX10_drawn_23 (by decide) rfl (fun h_16 => ?_) (fun h_16 => ?_)
      ·
        refine s_aload_n E dX10_drawn_29 rfl rfl ?_
        refine s_iload_n E dX10_drawn_30 rfl rfl ?_
        refine z_i2l (u := x1.toInt) E dX10_drawn_31 rfl (fun z_17 hz_17 => ?_)
        refine s_iload_n E dX10_drawn_32 rfl rfl ?_
        refine s_vI (As := [AL z_17, AI x2]) (S := []) E (Z_X10_goDrawn_95 l D aC b w z_17 x2 hJ.1 ⟨by have hb_ := z32 x2; omega, by have hb_ := z32 x2; omega⟩) cv_X10_464 rfl rfl rfl (jv_lt hJ (by decide)) (Nat.le_of_ble_eq_true rfl) (Nat.le_of_ble_eq_true rfl) ⟨(Nat.le_of_ble_eq_true rfl), (Nat.le_of_ble_eq_true rfl)⟩ (Nat.le_of_ble_eq_true rfl) dX10_drawn_33 (fun z_20 u_18 hp_19 => ?_)
        obtain ⟨hz_20, hp_19⟩ := hp_19
        have hj_21 := jv_trans hJ hp_19
        refine s_istore (L2 := [some (AR 95), some (AI x1), some (AI x2), some (AI x3), some (AI z_20)]) E dX10_drawn_36 (by decide) rfl ?_
        refine s_iload_n E dX10_drawn_38 rfl rfl ?_
        refine z_if_ne (tgt := 49) (u := x3.toInt) E dX10_drawn_39 (by decide) rfl (fun h_22 => ?_) (fun h_22 => ?_)
        ·
          refine s_iload E dX10_drawn_49 rfl ?_
          exact r_int E dX10_drawn_51 ⟨⟨by have hb_ := z32 z_20; omega, by have hb_ := z32 z_20; omega, by first | (right; decide) | (have hb_ := z32 z_20; omega) | (have hb_ := z32 z_20; have hc_ := z32 x1; omega), by first | (right; decide) | (have hb_ := z32 z_20; omega) | (have hb_ := z32 z_20; have hc_ := z32 x2; omega), by first | (right; decide) | (have hb_ := z32 z_20; omega) | (have hb_ := z32 z_20; have hc_ := z32 x3; omega), by first | (right; decide) | (have hb_ := z32 z_20; omega) | (have hb_ := z32 z_20; have hc_ := z32 (w.2.2.1 96 5); omega)⟩, hj_21⟩
        ·
          refine s_aload_n E dX10_drawn_42 rfl rfl ?_
          refine s_gI E fg_X10_270 rfl rfl (jv_lt hj_21 (by decide)) dX10_drawn_43 ?_
          refine z_nm (P := fun z => z.toInt = (u_18.2.2.1 95 24).toInt ∧ (-2147483648) ≤ z.toInt ∧ z.toInt ≤ 2147483647) ⟨rfl, z32 _⟩ (fun z_23 hz_23 => ?_)
          refine s_goto (tgt := 51) E dX10_drawn_46 (by decide) ?_
          exact r_int E dX10_drawn_51 ⟨⟨by have hb_ := z32 z_23; omega, by have hb_ := z32 z_23; omega, by first | (right; decide) | (have hb_ := z32 z_23; omega) | (have hb_ := z32 z_23; have hc_ := z32 x1; omega), by first | (right; decide) | (have hb_ := z32 z_23; omega) | (have hb_ := z32 z_23; have hc_ := z32 x2; omega), by first | (right; decide) | (have hb_ := z32 z_23; omega) | (have hb_ := z32 z_23; have hc_ := z32 x3; omega), by first | (right; decide) | (have hb_ := z32 z_23; omega) | (have hb_ := z32 z_23; have hc_ := z32 (w.2.2.1 96 5); omega)⟩, hj_21⟩
      ·
        refine s_bipush (v := (-2)) E dX10_drawn_26 (by decide) ?_
        exact r_int E dX10_drawn_28 ⟨⟨by decide, by decide, by first | (left; decide) | (right; decide) | (right; have hb_ := z32 x1; omega), by first | (left; decide) | (right; decide) | (right; have hb_ := z32 x2; omega), by first | (left; decide) | (right; decide) | (right; have hb_ := z32 x3; omega), by first | (left; decide) | (right; decide) | (right; have hb_ := z32 (w.2.2.1 96 5); omega)⟩, hJ⟩
set_option maxRecDepth 20000 in
set_option maxHeartbeats 2000000 in
theorem Z_X10_luck_95 (l : Launch) (D : va_G) (aC : Nat → ClassId) (b : Nat) (w : XW) (x1 : Int32) (x2 : Int32) (x3 : Int32) (x4 : Int32) (hI : Iv w)  : CnI l D aC b M_X10_luck 6 143 0 0 [AR 95, AI x1, AI x2, AI x3, AI x4] w (fun r u => ((-2147483648) ≤ r.toInt ∧ r.toInt ≤ 2147483647 ∧ (¬ r.toInt = 0 ∨ (0 ≤ x1.toInt ∧ x1.toInt ≤ 2000000000)) ∧ (¬ r.toInt = 0 ∨ (1 ≤ x2.toInt ∧ x2.toInt ≤ 20)) ∧ (¬ r.toInt = 0 ∨ (0 ≤ x3.toInt ∧ x3.toInt ≤ 5)) ∧ (¬ r.toInt = 0 ∨ (0 ≤ x4.toInt ∧ x4.toInt ≤ 5)) ∧ (¬ r.toInt = 0 ∨ (0 ≤ (w.2.2.1 96 5).toInt ∧ (w.2.2.1 96 5).toInt ≤ 6))) ∧ Jv w u) := by
  refine cn_I (own := RX10) (nm := "luck") (L0 := [some (AR 95), some (AI x1), some (AI x2), some (AI x3), some (AI x4), none, none]) (by decide +kernel) rfl rfl (Nat.le_of_ble_eq_true rfl) rfl ?_
  intro p e s m args below meth c E hin
  have hJ : Jv w w := jv_rfl hI
  have hb_x1 := z32 x1
  have hb_x2 := z32 x2
  have hb_x3 := z32 x3
  have hb_x4 := z32 x4
  refine s_iload_n E dX10_luck_0 rfl rfl ?_
  refine s_sI (As := [AI x1]) (S := []) E (Z_X10_isSeed l D aC b w x1 hJ.1 ) cs_X10_461 rfl rfl (Nat.le_of_ble_eq_true rfl) (Nat.le_of_ble_eq_true rfl) ⟨(Nat.le_of_ble_eq_true rfl), (Nat.le_of_ble_eq_true rfl)⟩ (Nat.le_of_ble_eq_true rfl) dX10_luck_1 (fun z_3 u_1 hp_2 => ?_)
  obtain ⟨hz_3, hp_2⟩ := hp_2
  subst hp_2
  refine z_if_eq (tgt := 38) (u := z_3.toInt) E dX10_luck_4 (by decide) rfl (fun h_5 => ?_) (fun h_5 => ?_)
  ·
    refine s_bipush (v := (-2)) E dX10_luck_38 (by decide) ?_
    exact r_int E dX10_luck_40 ⟨⟨by decide, by decide, by first | (left; decide) | (right; decide) | (right; have hb_ := z32 x1; omega), by first | (left; decide) | (right; decide) | (right; have hb_ := z32 x2; omega), by first | (left; decide) | (right; decide) | (right; have hb_ := z32 x3; omega), by first | (left; decide) | (right; decide) | (right; have hb_ := z32 x4; omega), by first | (left; decide) | (right; decide) | (right; have hb_ := z32 (w.2.2.1 96 5); omega)⟩, hJ⟩
  ·
    refine s_iload_n E dX10_luck_7 rfl rfl ?_
    refine z_i2l (u := x2.toInt) E dX10_luck_8 rfl (fun z_6 hz_6 => ?_)
    refine s_lconst (v := 1) E dX10_luck_9 (by decide) ?_
    refine s_ldc2 E k_1970 rfl dX10_luck_10 ?_
    refine s_sI (As := [AL z_6, AL 1, AL 20]) (S := []) E (Z_X10_in l D aC b w z_6 1 20) cs_X10_82 rfl rfl (Nat.le_of_ble_eq_true rfl) (Nat.le_of_ble_eq_true rfl) ⟨(Nat.le_of_ble_eq_true rfl), (Nat.le_of_ble_eq_true rfl)⟩ (Nat.le_of_ble_eq_true rfl) dX10_luck_13 (fun z_7 u_8 hp_9 => ?_)
    obtain ⟨hz_7, hp_9⟩ := hp_9
    subst hp_9
    refine z_if_eq (tgt := 38) (u := z_7.toInt) E dX10_luck_16 (by decide) rfl (fun h_10 => ?_) (fun h_10 => ?_)
    ·
      refine s_bipush (v := (-2)) E dX10_luck_38 (by decide) ?_
      exact r_int E dX10_luck_40 ⟨⟨by decide, by decide, by first | (left; decide) | (right; decide) | (right; have hb_ := z32 x1; omega), by first | (left; decide) | (right; decide) | (right; have hb_ := z32 x2; omega), by first | (left; decide) | (right; decide) | (right; have hb_ := z32 x3; omega), by first | (left; decide) | (right; decide) | (right; have hb_ := z32 x4; omega), by first | (left; decide) | (right; decide) | (right; have hb_ := z32 (w.2.2.1 96 5); omega)⟩, hJ⟩
    ·
      refine s_aload_n E dX10_luck_19 rfl rfl ?_
      refine s_iload_n E dX10_luck_20 rfl rfl ?_
      refine z_i2l (u := x3.toInt) E dX10_luck_21 rfl (fun z_11 hz_11 => ?_)
      refine s_vI (As := [AL z_11]) (S := []) E (Z_X10_isLady_95 l D aC b w z_11 hJ.1 ) cv_X10_222 rfl rfl rfl (jv_lt hJ (by decide)) (Nat.le_of_ble_eq_true rfl) (Nat.le_of_ble_eq_true rfl) ⟨(Nat.le_of_ble_eq_true rfl), (Nat.le_of_ble_eq_true rfl)⟩ (Nat.le_of_ble_eq_true rfl) dX10_luck_22 (fun z_14 u_12 hp_13 => ?_)
      obtain ⟨hz_14, hp_13⟩ := hp_13
      subst hp_13
      refine z_if_eq (tgt := 38) (u := z_14.toInt) E dX10_luck_25 (by decide) rfl (fun h_16 => ?_) (fun h_16 => ?_)
      ·
        refine s_bipush (v := (-2)) E dX10_luck_38 (by decide) ?_
        exact r_int E dX10_luck_40 ⟨⟨by decide, by decide, by first | (left; decide) | (right; decide) | (right; have hb_ := z32 x1; omega), by first | (left; decide) | (right; decide) | (right; have hb_ := z32 x2; omega), by first | (left; decide) | (right; decide) | (right; have hb_ := z32 x3; omega), by first | (left; decide) | (right; decide) | (right; have hb_ := z32 x4; omega), by first | (left; decide) | (right; decide) | (right; have hb_ := z32 (w.2.2.1 96 5); omega)⟩, hJ⟩
      ·
        refine s_aload_n E dX10_luck_28 rfl rfl ?_
        refine s_iload E dX10_luck_29 rfl ?_
        refine z_i2l (u := x4.toInt) E dX10_luck_31 rfl (fun z_17 hz_17 => ?_)
        refine s_vI (As := [AL z_17]) (S := []) E (Z_X10_isLady_95 l D aC b w z_17 hJ.1 ) cv_X10_222 rfl rfl rfl (jv_lt hJ (by decide)) (Nat.le_of_ble_eq_true rfl) (Nat.le_of_ble_eq_true rfl) ⟨(Nat.le_of_ble_eq_true rfl), (Nat.le_of_ble_eq_true rfl)⟩ (Nat.le_of_ble_eq_true rfl) dX10_luck_32 (fun z_20 u_18 hp_19 => ?_)
        obtain ⟨hz_20, hp_19⟩ := hp_19
        subst hp_19
        refine z_if_ne (tgt := 41) (u := z_20.toInt) E dX10_luck_35 (by decide) rfl (fun h_22 => ?_) (fun h_22 => ?_)
        ·
          refine s_iconst (v := 0) E dX10_luck_41 (by decide) ?_
          refine s_istore (L2 := [some (AR 95), some (AI x1), some (AI x2), some (AI x3), some (AI x4), some (AI 0), none]) E dX10_luck_42 (by decide) rfl ?_
          refine s_iconst (v := 0) E dX10_luck_44 (by decide) ?_
          refine s_istore (L2 := [some (AR 95), some (AI x1), some (AI x2), some (AI x3), some (AI x4), some (AI 0), some (AI 0)]) E dX10_luck_45 (by decide) rfl ?_
          refine z_loop (St := Int32 × Int32) (Pi := fun ⟨q47_5_22, q47_6_22⟩ v47 => (0 ≤ q47_6_22.toInt ∧ q47_6_22.toInt ≤ 20) ∧ Jv w v47) (Lf := fun ⟨q47_5_22, q47_6_22⟩ => [some (AR 95), some (AI x1), some (AI x2), some (AI x3), some (AI x4), some (AI q47_5_22), some (AI q47_6_22)]) (fun ⟨q47_5_22, q47_6_22⟩ _ => (21 - q47_6_22.toInt).toNat) ⟨0, 0⟩ ⟨⟨by decide, by decide⟩, hJ⟩ ?_
          rintro ⟨q47_5_22, q47_6_22⟩ v47 ⟨hq47_6, hj_23⟩ ih47
          have hbq47_5 := z32 q47_5_22
          refine s_loc (L2 := [some (AR 95), some (AI x1), some (AI x2), some (AI x3), some (AI x4), some (AI q47_5_22), some (AI q47_6_22)]) rfl ?_
          refine s_iload E dX10_luck_47 rfl ?_
          refine s_iload_n E dX10_luck_49 rfl rfl ?_
          refine z_icmp_ge (tgt := 80) (u := q47_6_22.toInt) (v := x2.toInt) E dX10_luck_50 (by decide) rfl rfl (fun h_24 => ?_) (fun h_24 => ?_)
          ·
            refine s_iload E dX10_luck_80 rfl ?_
            exact r_int E dX10_luck_82 ⟨⟨by have hb_ := z32 q47_5_22; omega, by have hb_ := z32 q47_5_22; omega, by first | (right; decide) | (have hb_ := z32 q47_5_22; omega) | (have hb_ := z32 q47_5_22; have hc_ := z32 x1; omega), by first | (right; decide) | (have hb_ := z32 q47_5_22; omega) | (have hb_ := z32 q47_5_22; have hc_ := z32 x2; omega), by first | (right; decide) | (have hb_ := z32 q47_5_22; omega) | (have hb_ := z32 q47_5_22; have hc_ := z32 x3; omega), by first | (right; decide) | (have hb_ := z32 q47_5_22; omega) | (have hb_ := z32 q47_5_22; have hc_ := z32 x4; omega), by first | (right; decide) | (have hb_ := z32 q47_5_22; omega) | (have hb_ := z32 q47_5_22; have hc_ := z32 (w.2.2.1 96 5); omega)⟩, hj_23⟩
          ·
            refine s_iload E dX10_luck_53 rfl ?_
            refine s_aload_n E dX10_luck_55 rfl rfl ?_
            refine s_iload_n E dX10_luck_56 rfl rfl ?_
            refine z_i2l (u := x1.toInt) E dX10_luck_57 rfl (fun z_25 hz_25 => ?_)
            refine s_iload E dX10_luck_58 rfl ?_
            refine z_i2l (u := q47_6_22.toInt) E dX10_luck_60 rfl (fun z_26 hz_26 => ?_)
            refine z_ladd (u := z_25.toInt) (v := z_26.toInt) E dX10_luck_61 rfl rfl (by omega) (by omega) (fun z_27 hz_27 => ?_)
            refine s_iload_n E dX10_luck_62 rfl rfl ?_
            refine s_vI (As := [AL z_27, AI x3]) (S := [AI q47_5_22]) E (Z_X10_goDrawn_95 l D aC b v47 z_27 x3 hj_23.1 ⟨by have hb_ := z32 x3; omega, by have hb_ := z32 x3; omega⟩) cv_X10_464 rfl rfl rfl (jv_lt hj_23 (by decide)) (Nat.le_of_ble_eq_true rfl) (Nat.le_of_ble_eq_true rfl) ⟨(Nat.le_of_ble_eq_true rfl), (Nat.le_of_ble_eq_true rfl)⟩ (Nat.le_of_ble_eq_true rfl) dX10_luck_63 (fun z_30 u_28 hp_29 => ?_)
            obtain ⟨hz_30, hp_29⟩ := hp_29
            have hj_31 := jv_trans hj_23 hp_29
            refine s_iload E dX10_luck_66 rfl ?_
            refine s_sI (As := [AI z_30, AI x4]) (S := [AI q47_5_22]) E (Z_X10_bit l D aC b u_28 z_30 x4 hj_31.1 ) cs_X10_252 rfl rfl (Nat.le_of_ble_eq_true rfl) (Nat.le_of_ble_eq_true rfl) ⟨(Nat.le_of_ble_eq_true rfl), (Nat.le_of_ble_eq_true rfl)⟩ (Nat.le_of_ble_eq_true rfl) dX10_luck_68 (fun z_34 u_32 hp_33 => ?_)
            obtain ⟨hz_34, hxz_34, hp_33⟩ := hp_33
            subst hp_33
            refine s_iadd E dX10_luck_71 ?_
            refine z_nm (P := fun z => (-2147483648) ≤ z.toInt ∧ z.toInt ≤ 2147483647) (z32 _) (fun z_36 hz_36 => ?_)
            refine s_istore (L2 := [some (AR 95), some (AI x1), some (AI x2), some (AI x3), some (AI x4), some (AI z_36), some (AI q47_6_22)]) E dX10_luck_72 (by decide) rfl ?_
            refine z_iinc (u := q47_6_22.toInt) (L2 := fun z_37 => [some (AR 95), some (AI x1), some (AI x2), some (AI x3), some (AI x4), some (AI z_36), some (AI z_37)]) E dX10_luck_74 rfl rfl (by decide) (fun _ => rfl) (by decide) (by omega) (by omega) (fun z_37 hz_37 => ?_)
            refine s_goto (tgt := 47) E dX10_luck_77 (by decide) ?_
            exact ih47 ⟨z_36, z_37⟩ u_28 ⟨⟨by have hb_ := z32 z_37; omega, by have hb_ := z32 z_37; omega⟩, hj_31⟩ (by first | omega | decide | (dsimp only; omega) | (dsimp only; decide))
        ·
          refine s_bipush (v := (-2)) E dX10_luck_38 (by decide) ?_
          exact r_int E dX10_luck_40 ⟨⟨by decide, by decide, by first | (left; decide) | (right; decide) | (right; have hb_ := z32 x1; omega), by first | (left; decide) | (right; decide) | (right; have hb_ := z32 x2; omega), by first | (left; decide) | (right; decide) | (right; have hb_ := z32 x3; omega), by first | (left; decide) | (right; decide) | (right; have hb_ := z32 x4; omega), by first | (left; decide) | (right; decide) | (right; have hb_ := z32 (w.2.2.1 96 5); omega)⟩, hJ⟩
set_option maxRecDepth 20000 in
set_option maxHeartbeats 2000000 in
theorem Z_X10_hang_95 (l : Launch) (D : va_G) (aC : Nat → ClassId) (b : Nat) (w : XW) (x1 : Int32) (x2 : Int32) (hI : Iv w)  : CnI l D aC b M_X10_hang 2 46 0 0 [AR 95, AI x1, AI x2] w (fun r u => ((-5) ≤ r.toInt ∧ r.toInt ≤ 9 ∧ (¬ r.toInt = 0 ∨ (0 ≤ x1.toInt ∧ x1.toInt ≤ 11)) ∧ (¬ r.toInt = 0 ∨ (1 ≤ x2.toInt ∧ x2.toInt ≤ 9)) ∧ (¬ r.toInt = 0 ∨ (0 ≤ (w.2.2.1 96 4).toInt ∧ (w.2.2.1 96 4).toInt ≤ 12)) ∧ (¬ r.toInt = 0 ∨ (0 ≤ (w.2.2.1 96 8).toInt ∧ (w.2.2.1 96 8).toInt ≤ 0)) ∧ (r.toInt = 0 ∨ (0 ≤ (w.2.2.1 96 4).toInt ∧ (w.2.2.1 96 4).toInt ≤ 12))) ∧ Jv w u) := by
  refine cn_I (own := RX10) (nm := "hang") (L0 := [some (AR 95), some (AI x1), some (AI x2), none]) (by decide +kernel) rfl rfl (Nat.le_of_ble_eq_true rfl) rfl ?_
  intro p e s m args below meth c E hin
  have hJ : Jv w w := jv_rfl hI
  have hb_x1 := z32 x1
  have hb_x2 := z32 x2
  refine s_aload_n E dX10_hang_0 rfl rfl ?_
  refine s_iload_n E dX10_hang_1 rfl rfl ?_
  refine s_vI (As := [AI x1]) (S := []) E (Z_X10_isDoor_95 l D aC b w x1 hJ.1 ) cv_X10_218 rfl rfl rfl (jv_lt hJ (by decide)) (Nat.le_of_ble_eq_true rfl) (Nat.le_of_ble_eq_true rfl) ⟨(Nat.le_of_ble_eq_true rfl), (Nat.le_of_ble_eq_true rfl)⟩ (Nat.le_of_ble_eq_true rfl) dX10_hang_2 (fun z_3 u_1 hp_2 => ?_)
  obtain ⟨hz_3, hp_2⟩ := hp_2
  subst hp_2
  refine z_if_eq (tgt := 20) (u := z_3.toInt) E dX10_hang_5 (by decide) rfl (fun h_5 => ?_) (fun h_5 => ?_)
  ·
    refine s_bipush (v := (-2)) E dX10_hang_20 (by decide) ?_
    exact r_int E dX10_hang_22 ⟨⟨by decide, by decide, by first | (left; decide) | (right; decide) | (right; have hb_ := z32 x1; omega), by first | (left; decide) | (right; decide) | (right; have hb_ := z32 x2; omega), by first | (left; decide) | (right; decide) | (right; have hb_ := z32 (w.2.2.1 96 4); omega), by first | (left; decide) | (right; decide) | (right; have hb_ := z32 (w.2.2.1 96 8); omega), by first | (left; decide) | (right; decide) | (right; have hb_ := z32 (w.2.2.1 96 4); omega)⟩, hJ⟩
  ·
    refine s_iload_n E dX10_hang_8 rfl rfl ?_
    refine z_i2l (u := x2.toInt) E dX10_hang_9 rfl (fun z_6 hz_6 => ?_)
    refine s_lconst (v := 1) E dX10_hang_10 (by decide) ?_
    refine s_ldc2 E k_1975 rfl dX10_hang_11 ?_
    refine s_sI (As := [AL z_6, AL 1, AL 9]) (S := []) E (Z_X10_in l D aC b w z_6 1 9) cs_X10_82 rfl rfl (Nat.le_of_ble_eq_true rfl) (Nat.le_of_ble_eq_true rfl) ⟨(Nat.le_of_ble_eq_true rfl), (Nat.le_of_ble_eq_true rfl)⟩ (Nat.le_of_ble_eq_true rfl) dX10_hang_14 (fun z_7 u_8 hp_9 => ?_)
    obtain ⟨hz_7, hp_9⟩ := hp_9
    subst hp_9
    refine z_if_ne (tgt := 23) (u := z_7.toInt) E dX10_hang_17 (by decide) rfl (fun h_10 => ?_) (fun h_10 => ?_)
    ·
      refine s_aload_n E dX10_hang_23 rfl rfl ?_
      refine s_gR (r := 96) E fg_X10_9 rfl rfl (jv_lt hJ (by decide)) (jv_r hJ (by decide +kernel)) dX10_hang_24 ?_
      refine s_bipush (v := 8) E dX10_hang_27 (by decide) ?_
      refine s_iald E rfl (jv_lt hJ (by decide)) (z_in (u := 8) (by decide) (by omega) (by omega)) dX10_hang_29 ?_
      refine z_nm (P := fun z => z.toInt = (w.2.2.1 96 8).toInt ∧ 0 ≤ z.toInt ∧ z.toInt ≤ 30) ⟨rfl, (rw_96_8 hJ)⟩ (fun z_11 hz_11 => ?_)
      refine z_if_le (tgt := 36) (u := z_11.toInt) E dX10_hang_30 (by decide) rfl (fun h_12 => ?_) (fun h_12 => ?_)
      ·
        refine s_aload_n E dX10_hang_36 rfl rfl ?_
        refine s_gR (r := 96) E fg_X10_9 rfl rfl (jv_lt hJ (by decide)) (jv_r hJ (by decide +kernel)) dX10_hang_37 ?_
        refine s_bipush (v := 10) E dX10_hang_40 (by decide) ?_
        refine s_iconst (v := 3) E dX10_hang_42 (by decide) ?_
        refine s_iload_n E dX10_hang_43 rfl rfl ?_
        refine z_imul (u := 3) (v := x1.toInt) E dX10_hang_44 (by decide) rfl (by omega) (by omega) (fun z_13 hz_13 => ?_)
        refine z_iadd (u := 10) (v := z_13.toInt) E dX10_hang_45 (by decide) rfl (by omega) (by omega) (fun z_14 hz_14 => ?_)
        refine s_iconst (v := 2) E dX10_hang_46 (by decide) ?_
        refine z_iadd (u := z_14.toInt) (v := 2) E dX10_hang_47 rfl (by decide) (by omega) (by omega) (fun z_15 hz_15 => ?_)
        refine s_iald E rfl (jv_lt hJ (by decide)) (z_in (u := z_15.toInt) rfl (by omega) (by omega)) dX10_hang_48 ?_
        refine z_nm (P := fun z => z.toInt = (w.2.2.1 96 z_15.toNatClampNeg).toInt ∧ 0 ≤ z.toInt ∧ z.toInt ≤ 9 ∧ (104 ≤ z_15.toInt → z_15.toInt < 134 → okA z.toInt)) ⟨rfl, (rs_w hJ (by decide) 0 9 12 45 3 z_15 z_15.toInt (by decide +kernel) rfl (by omega) (by omega) (by omega))⟩ (fun z_16 hz_16 => ?_)
        refine s_istore_n (L2 := [some (AR 95), some (AI x1), some (AI x2), some (AI z_16)]) E dX10_hang_49 rfl (by decide) rfl ?_
        refine s_aload_n E dX10_hang_50 rfl rfl ?_
        refine s_gR (r := 96) E fg_X10_9 rfl rfl (jv_lt hJ (by decide)) (jv_r hJ (by decide +kernel)) dX10_hang_51 ?_
        refine s_bipush (v := 10) E dX10_hang_54 (by decide) ?_
        refine s_iconst (v := 3) E dX10_hang_56 (by decide) ?_
        refine s_iload_n E dX10_hang_57 rfl rfl ?_
        refine z_imul (u := 3) (v := x1.toInt) E dX10_hang_58 (by decide) rfl (by omega) (by omega) (fun z_17 hz_17 => ?_)
        refine z_iadd (u := 10) (v := z_17.toInt) E dX10_hang_59 (by decide) rfl (by omega) (by omega) (fun z_18 hz_18 => ?_)
        refine s_iconst (v := 2) E dX10_hang_60 (by decide) ?_
        refine z_iadd (u := z_18.toInt) (v := 2) E dX10_hang_61 rfl (by decide) (by omega) (by omega) (fun z_19 hz_19 => ?_)
        refine s_iload_n E dX10_hang_62 rfl rfl ?_
        refine s_iast E rfl (jv_lt hJ (by decide)) (z_in (u := z_19.toInt) rfl (by omega) (by omega)) dX10_hang_63 ?_
        refine s_gen (P := fun v => Jv w v ∧ (v.2.2.1 96 8).toInt = (w.2.2.1 96 8).toInt) ⟨(jv_a_96 (i := z_19) (x := x2) hJ 0 9 12 45 3 z_19.toInt (by decide +kernel) (by decide) rfl (by omega) (by omega) (by omega) (by have hb_ := z32 x2; omega) (by have hb_ := z32 x2; omega) (fun h0_ => by unfold okA; omega)), (keep_ne (u := z_19.toInt) rfl (by omega) (by omega))⟩ (fun v_20 hj_21 => ?_)
        obtain ⟨hj_21, hk_22k0⟩ := hj_21
        refine s_iload_n E dX10_hang_64 rfl rfl ?_
        exact r_int E dX10_hang_65 ⟨⟨by have hb_ := z32 z_16; omega, by have hb_ := z32 z_16; omega, by first | (right; decide) | (have hb_ := z32 z_16; omega) | (have hb_ := z32 z_16; have hc_ := z32 x1; omega), by first | (right; decide) | (have hb_ := z32 z_16; omega) | (have hb_ := z32 z_16; have hc_ := z32 x2; omega), by first | (right; decide) | (have hb_ := z32 z_16; omega) | (have hb_ := z32 z_16; have hc_ := z32 (w.2.2.1 96 4); omega), by first | (right; decide) | (have hb_ := z32 z_16; omega) | (have hb_ := z32 z_16; have hc_ := z32 (w.2.2.1 96 8); omega), by first | (right; decide) | (have hb_ := z32 z_16; omega) | (have hb_ := z32 z_16; have hc_ := z32 (w.2.2.1 96 4); omega)⟩, hj_21⟩
      ·
        refine s_bipush (v := (-5)) E dX10_hang_33 (by decide) ?_
        exact r_int E dX10_hang_35 ⟨⟨by decide, by decide, by first | (left; decide) | (right; decide) | (right; have hb_ := z32 x1; omega), by first | (left; decide) | (right; decide) | (right; have hb_ := z32 x2; omega), by first | (left; decide) | (right; decide) | (right; have hb_ := z32 (w.2.2.1 96 4); omega), by first | (left; decide) | (right; decide) | (right; have hb_ := z32 (w.2.2.1 96 8); omega), by first | (left; decide) | (right; decide) | (right; have hb_ := z32 (w.2.2.1 96 4); omega)⟩, hJ⟩
    ·
      refine s_bipush (v := (-2)) E dX10_hang_20 (by decide) ?_
      exact r_int E dX10_hang_22 ⟨⟨by decide, by decide, by first | (left; decide) | (right; decide) | (right; have hb_ := z32 x1; omega), by first | (left; decide) | (right; decide) | (right; have hb_ := z32 x2; omega), by first | (left; decide) | (right; decide) | (right; have hb_ := z32 (w.2.2.1 96 4); omega), by first | (left; decide) | (right; decide) | (right; have hb_ := z32 (w.2.2.1 96 8); omega), by first | (left; decide) | (right; decide) | (right; have hb_ := z32 (w.2.2.1 96 4); omega)⟩, hJ⟩
set_option maxRecDepth 20000 in
set_option maxHeartbeats 2000000 in
theorem Z_X10_count_95 (l : Launch) (D : va_G) (aC : Nat → ClassId) (b : Nat) (w : XW) (x1 : Int32) (hI : Iv w)  : CnI l D aC b M_X10_count 1 25 0 0 [AR 95, AI x1] w (fun r u => ((-2147483648) ≤ r.toInt ∧ r.toInt ≤ 2147483647 ∧ (¬ r.toInt = 0 ∨ (0 ≤ x1.toInt ∧ x1.toInt ≤ 11))) ∧ w = u) := by
  refine cn_I (own := RX10) (nm := "count") (L0 := [some (AR 95), some (AI x1), none, none]) (by decide +kernel) rfl rfl (Nat.le_of_ble_eq_true rfl) rfl ?_
  intro p e s m args below meth c E hin
  have hJ : Jv w w := jv_rfl hI
  have hb_x1 := z32 x1
  refine s_iload_n E dX10_count_0 rfl rfl ?_
  refine z_i2l (u := x1.toInt) E dX10_count_1 rfl (fun z_1 hz_1 => ?_)
  refine s_lconst (v := 0) E dX10_count_2 (by decide) ?_
  refine s_ldc2 E k_1975 rfl dX10_count_3 ?_
  refine s_sI (As := [AL z_1, AL 0, AL 9]) (S := []) E (Z_X10_in l D aC b w z_1 0 9) cs_X10_82 rfl rfl (Nat.le_of_ble_eq_true rfl) (Nat.le_of_ble_eq_true rfl) ⟨(Nat.le_of_ble_eq_true rfl), (Nat.le_of_ble_eq_true rfl)⟩ (Nat.le_of_ble_eq_true rfl) dX10_count_6 (fun z_2 u_3 hp_4 => ?_)
  obtain ⟨hz_2, hp_4⟩ := hp_4
  subst hp_4
  refine z_if_eq (tgt := 19) (u := z_2.toInt) E dX10_count_9 (by decide) rfl (fun h_5 => ?_) (fun h_5 => ?_)
  ·
    refine s_iload_n E dX10_count_19 rfl rfl ?_
    refine s_bipush (v := 10) E dX10_count_20 (by decide) ?_
    refine z_icmp_ne (tgt := 30) (u := x1.toInt) (v := 10) E dX10_count_22 (by decide) rfl (by decide) (fun h_6 => ?_) (fun h_6 => ?_)
    ·
      refine s_iload_n E dX10_count_30 rfl rfl ?_
      refine s_bipush (v := 11) E dX10_count_31 (by decide) ?_
      refine z_icmp_eq (tgt := 38) (u := x1.toInt) (v := 11) E dX10_count_33 (by decide) rfl (by decide) (fun h_7 => ?_) (fun h_7 => ?_)
      ·
        refine s_iconst (v := 0) E dX10_count_38 (by decide) ?_
        refine s_istore_n (L2 := [some (AR 95), some (AI x1), some (AI 0), none]) E dX10_count_39 rfl (by decide) rfl ?_
        refine s_iconst (v := 0) E dX10_count_40 (by decide) ?_
        refine s_istore_n (L2 := [some (AR 95), some (AI x1), some (AI 0), some (AI 0)]) E dX10_count_41 rfl (by decide) rfl ?_
        refine z_loop (St := Int32 × Int32) (Pi := fun ⟨q42_2_7, q42_3_7⟩ v42 => (0 ≤ q42_3_7.toInt ∧ q42_3_7.toInt ≤ 4) ∧ w = v42) (Lf := fun ⟨q42_2_7, q42_3_7⟩ => [some (AR 95), some (AI x1), some (AI q42_2_7), some (AI q42_3_7)]) (fun ⟨q42_2_7, q42_3_7⟩ _ => (5 - q42_3_7.toInt).toNat) ⟨0, 0⟩ ⟨⟨by decide, by decide⟩, rfl⟩ ?_
        rintro ⟨q42_2_7, q42_3_7⟩ v42 ⟨hq42_3, hv_⟩ ih42
        subst hv_
        have hbq42_2 := z32 q42_2_7
        refine s_loc (L2 := [some (AR 95), some (AI x1), some (AI q42_2_7), some (AI q42_3_7)]) rfl ?_
        refine s_iload_n E dX10_count_42 rfl rfl ?_
        refine s_iconst (v := 4) E dX10_count_43 (by decide) ?_
        refine z_icmp_ge (tgt := 71) (u := q42_3_7.toInt) (v := 4) E dX10_count_44 (by decide) rfl (by decide) (fun h_9 => ?_) (fun h_9 => ?_)
        ·
          refine s_iload_n E dX10_count_71 rfl rfl ?_
          exact r_int E dX10_count_72 ⟨⟨by have hb_ := z32 q42_2_7; omega, by have hb_ := z32 q42_2_7; omega, by first | (right; decide) | (have hb_ := z32 q42_2_7; omega) | (have hb_ := z32 q42_2_7; have hc_ := z32 x1; omega)⟩, rfl⟩
        ·
          refine s_iload_n E dX10_count_47 rfl rfl ?_
          refine s_aload_n E dX10_count_48 rfl rfl ?_
          refine s_gR (r := 112) E fg_X10_64 rfl rfl (jv_lt hJ (by decide)) (jv_r hJ (by decide +kernel)) dX10_count_49 ?_
          refine s_iload_n E dX10_count_52 rfl rfl ?_
          refine s_iald E rfl (jv_lt hJ (by decide)) (z_in (u := q42_3_7.toInt) rfl (by omega) (by omega)) dX10_count_53 ?_
          refine z_nm (P := fun z => z.toInt = (w.2.2.1 112 q42_3_7.toNatClampNeg).toInt ∧ (-1) ≤ z.toInt ∧ z.toInt ≤ 60) ⟨(jv_k hJ (by decide) _), (ra_112 hJ _)⟩ (fun z_10 hz_10 => ?_)
          refine s_iconst (v := (-1)) E dX10_count_54 (by decide) ?_
          refine z_icmp_ne (tgt := 62) (u := z_10.toInt) (v := (-1)) E dX10_count_55 (by decide) rfl (by decide) (fun h_11 => ?_) (fun h_11 => ?_)
          ·
            refine s_iconst (v := 1) E dX10_count_62 (by decide) ?_
            refine s_iadd E dX10_count_63 ?_
            refine z_nm (P := fun z => (-2147483648) ≤ z.toInt ∧ z.toInt ≤ 2147483647) (z32 _) (fun z_12 hz_12 => ?_)
            refine s_istore_n (L2 := [some (AR 95), some (AI x1), some (AI z_12), some (AI q42_3_7)]) E dX10_count_64 rfl (by decide) rfl ?_
            refine z_iinc (u := q42_3_7.toInt) (L2 := fun z_13 => [some (AR 95), some (AI x1), some (AI z_12), some (AI z_13)]) E dX10_count_65 rfl rfl (by decide) (fun _ => rfl) (by decide) (by omega) (by omega) (fun z_13 hz_13 => ?_)
            refine s_goto (tgt := 42) E dX10_count_68 (by decide) ?_
            exact ih42 ⟨z_12, z_13⟩ w ⟨⟨by have hb_ := z32 z_13; omega, by have hb_ := z32 z_13; omega⟩, rfl⟩ (by first | omega | decide | (dsimp only; omega) | (dsimp only; decide))
          ·
            refine s_iconst (v := 0) E dX10_count_58 (by decide) ?_
            refine s_goto (tgt := 63) E dX10_count_59 (by decide) ?_
            refine z_iadd (u := q42_2_7.toInt) (v := 0) E dX10_count_63 rfl (by decide) (by omega) (by omega) (fun z_14 hz_14 => ?_)
            refine s_istore_n (L2 := [some (AR 95), some (AI x1), some (AI z_14), some (AI q42_3_7)]) E dX10_count_64 rfl (by decide) rfl ?_
            refine z_iinc (u := q42_3_7.toInt) (L2 := fun z_15 => [some (AR 95), some (AI x1), some (AI z_14), some (AI z_15)]) E dX10_count_65 rfl rfl (by decide) (fun _ => rfl) (by decide) (by omega) (by omega) (fun z_15 hz_15 => ?_)
            refine s_goto (tgt := 42) E dX10_count_68 (by decide) ?_
            exact ih42 ⟨z_14, z_15⟩ w ⟨⟨by have hb_ := z32 z_15; omega, by have hb_ := z32 z_15; omega⟩, rfl⟩ (by first | omega | decide | (dsimp only; omega) | (dsimp only; decide))
      ·
        refine s_iconst (v := (-1)) E dX10_count_36 (by decide) ?_
        exact r_int E dX10_count_37 ⟨⟨by decide, by decide, by first | (left; decide) | (right; decide) | (right; have hb_ := z32 x1; omega)⟩, rfl⟩
    ·
      refine s_aload_n E dX10_count_25 rfl rfl ?_
      refine s_gI E fg_X10_90 rfl rfl (jv_lt hJ (by decide)) dX10_count_26 ?_
      refine z_nm (P := fun z => z.toInt = (w.2.2.1 95 5).toInt ∧ 0 ≤ z.toInt ∧ z.toInt ≤ 1000) ⟨rfl, (rg_95_5 hJ)⟩ (fun z_16 hz_16 => ?_)
      exact r_int E dX10_count_29 ⟨⟨by have hb_ := z32 z_16; omega, by have hb_ := z32 z_16; omega, by first | (right; decide) | (have hb_ := z32 z_16; omega) | (have hb_ := z32 z_16; have hc_ := z32 x1; omega)⟩, rfl⟩
  ·
    refine s_aload_n E dX10_count_12 rfl rfl ?_
    refine s_gR (r := 96) E fg_X10_9 rfl rfl (jv_lt hJ (by decide)) (jv_r hJ (by decide +kernel)) dX10_count_13 ?_
    refine s_iload_n E dX10_count_16 rfl rfl ?_
    refine s_iald E rfl (jv_lt hJ (by decide)) (z_in (u := x1.toInt) rfl (by omega) (by omega)) dX10_count_17 ?_
    refine z_nm (P := fun z => z.toInt = (w.2.2.1 96 x1.toNatClampNeg).toInt ∧ 0 ≤ z.toInt ∧ z.toInt ≤ 2147483647 ∧ (104 ≤ x1.toInt → x1.toInt < 134 → okA z.toInt)) ⟨rfl, (rs_w hJ (by decide) 0 2147483647 0 9 1 x1 x1.toInt (by decide +kernel) rfl (by omega) (by omega) (by omega))⟩ (fun z_17 hz_17 => ?_)
    exact r_int E dX10_count_18 ⟨⟨by have hb_ := z32 z_17; omega, by have hb_ := z32 z_17; omega, by first | (right; decide) | (have hb_ := z32 z_17; omega) | (have hb_ := z32 z_17; have hc_ := z32 x1; omega)⟩, rfl⟩
set_option maxRecDepth 20000 in
set_option maxHeartbeats 2000000 in
theorem Z_X10_cut (l : Launch) (D : va_G) (aC : Nat → ClassId) (b : Nat) (w : XW) (x1 : Int64) (x2 : Int32) (hI : Iv w) (hx2 : 0 ≤ x2.toInt ∧ x2.toInt ≤ 3) : CnL l D aC b M_X10_cut 0 0 0 0 [AL x1, AI x2] w (fun r u => ((-9223372036854775808) ≤ r.toInt ∧ r.toInt ≤ 9223372036854775807) ∧ w = u) := by
  refine cn_L (own := RX10) (nm := "cut") (L0 := [some (AL x1), none, some (AI x2), none]) (by decide +kernel) rfl rfl (Nat.le_of_ble_eq_true rfl) rfl ?_
  intro p e s m args below meth c E hin
  have hJ : Jv w w := jv_rfl hI
  refine s_bipush (v := 64) E dX10_cut_0 (by decide) ?_
  refine s_bipush (v := 8) E dX10_cut_2 (by decide) ?_
  refine s_iload_n E dX10_cut_4 rfl rfl ?_
  refine s_ishl E dX10_cut_5 ?_
  refine z_nm (P := fun z => (-2147483648) ≤ z.toInt ∧ z.toInt ≤ 2147483647) (z32 _) (fun z_1 hz_1 => ?_)
  refine s_isub E dX10_cut_6 ?_
  refine z_nm (P := fun z => (-2147483648) ≤ z.toInt ∧ z.toInt ≤ 2147483647) (z32 _) (fun z_2 hz_2 => ?_)
  refine s_istore_n (L2 := [some (AL x1), none, some (AI x2), some (AI z_2)]) E dX10_cut_7 rfl (by decide) rfl ?_
  refine s_lload_n E dX10_cut_8 rfl rfl ?_
  refine s_iload_n E dX10_cut_9 rfl rfl ?_
  refine s_lshl E dX10_cut_10 ?_
  refine z_anyL (fun z_3 => ?_)
  refine s_iload_n E dX10_cut_11 rfl rfl ?_
  refine s_lshr E dX10_cut_12 ?_
  refine z_anyL (fun z_4 => ?_)
  exact r_long E dX10_cut_13 ⟨⟨by have hb_ := z64 z_4; omega, by have hb_ := z64 z_4; omega⟩, rfl⟩
set_option maxRecDepth 20000 in
set_option maxHeartbeats 2000000 in
theorem Z_X10_write_95 (l : Launch) (D : va_G) (aC : Nat → ClassId) (b : Nat) (w : XW) (x1 : Int32) (x2 : Int32) (x3 : Int64) (hI : Iv w)  : CnI l D aC b M_X10_write 2 45 0 0 [AR 95, AI x1, AI x2, AL x3] w (fun r u => ((-7) ≤ r.toInt ∧ r.toInt ≤ 0 ∧ (¬ r.toInt = 0 ∨ (0 ≤ x1.toInt ∧ x1.toInt ≤ 3)) ∧ (¬ r.toInt = 0 ∨ (0 ≤ x2.toInt ∧ x2.toInt ≤ 59))) ∧ Jn w u) := by
  refine cn_I (own := RX10) (nm := "write") (L0 := [some (AR 95), some (AI x1), some (AI x2), some (AL x3), none]) (by decide +kernel) rfl rfl (Nat.le_of_ble_eq_true rfl) rfl ?_
  intro p e s m args below meth c E hin
  have hJ : Jv w w := jv_rfl hI
  have hb_x1 := z32 x1
  have hb_x2 := z32 x2
  refine s_iload_n E dX10_write_0 rfl rfl ?_
  refine s_sI (As := [AI x1]) (S := []) E (Z_X10_isSlot l D aC b w x1 hJ.1 ) cs_X10_375 rfl rfl (Nat.le_of_ble_eq_true rfl) (Nat.le_of_ble_eq_true rfl) ⟨(Nat.le_of_ble_eq_true rfl), (Nat.le_of_ble_eq_true rfl)⟩ (Nat.le_of_ble_eq_true rfl) dX10_write_1 (fun z_3 u_1 hp_2 => ?_)
  obtain ⟨hz_3, hp_2⟩ := hp_2
  subst hp_2
  refine z_if_ne (tgt := 10) (u := z_3.toInt) E dX10_write_4 (by decide) rfl (fun h_5 => ?_) (fun h_5 => ?_)
  ·
    refine s_aload_n E dX10_write_10 rfl rfl ?_
    refine s_gR (r := 112) E fg_X10_64 rfl rfl (jv_lt hJ (by decide)) (jv_r hJ (by decide +kernel)) dX10_write_11 ?_
    refine s_iload_n E dX10_write_14 rfl rfl ?_
    refine s_iald E rfl (jv_lt hJ (by decide)) (z_in (u := x1.toInt) rfl (by omega) (by omega)) dX10_write_15 ?_
    refine z_nm (P := fun z => z.toInt = (w.2.2.1 112 x1.toNatClampNeg).toInt ∧ (-1) ≤ z.toInt ∧ z.toInt ≤ 60) ⟨(jv_k hJ (by decide) _), (ra_112 hJ _)⟩ (fun z_6 hz_6 => ?_)
    refine s_iconst (v := (-1)) E dX10_write_16 (by decide) ?_
    refine z_icmp_ne (tgt := 23) (u := z_6.toInt) (v := (-1)) E dX10_write_17 (by decide) rfl (by decide) (fun h_7 => ?_) (fun h_7 => ?_)
    ·
      refine s_iload_n E dX10_write_23 rfl rfl ?_
      refine z_i2l (u := x2.toInt) E dX10_write_24 rfl (fun z_8 hz_8 => ?_)
      refine s_lconst (v := 0) E dX10_write_25 (by decide) ?_
      refine s_aload_n E dX10_write_26 rfl rfl ?_
      refine s_gR (r := 112) E fg_X10_64 rfl rfl (jv_lt hJ (by decide)) (jv_r hJ (by decide +kernel)) dX10_write_27 ?_
      refine s_iload_n E dX10_write_30 rfl rfl ?_
      refine s_iald E rfl (jv_lt hJ (by decide)) (z_in (u := x1.toInt) rfl (by omega) (by omega)) dX10_write_31 ?_
      refine z_nm (P := fun z => z.toInt = (w.2.2.1 112 x1.toNatClampNeg).toInt ∧ (-1) ≤ z.toInt ∧ z.toInt ≤ 60) ⟨(jv_k hJ (by decide) _), (ra_112 hJ _)⟩ (fun z_9 hz_9 => ?_)
      refine s_iconst (v := 1) E dX10_write_32 (by decide) ?_
      refine z_isub (u := z_9.toInt) (v := 1) E dX10_write_33 rfl (by decide) (by omega) (by omega) (fun z_10 hz_10 => ?_)
      refine z_i2l (u := z_10.toInt) E dX10_write_34 rfl (fun z_11 hz_11 => ?_)
      refine s_sI (As := [AL z_8, AL 0, AL z_11]) (S := []) E (Z_X10_in l D aC b w z_8 0 z_11) cs_X10_82 rfl rfl (Nat.le_of_ble_eq_true rfl) (Nat.le_of_ble_eq_true rfl) ⟨(Nat.le_of_ble_eq_true rfl), (Nat.le_of_ble_eq_true rfl)⟩ (Nat.le_of_ble_eq_true rfl) dX10_write_35 (fun z_12 u_13 hp_14 => ?_)
      obtain ⟨hz_12, hp_14⟩ := hp_14
      subst hp_14
      refine z_if_ne (tgt := 44) (u := z_12.toInt) E dX10_write_38 (by decide) rfl (fun h_15 => ?_) (fun h_15 => ?_)
      ·
        refine s_aload_n E dX10_write_44 rfl rfl ?_
        refine s_gR (r := 114) E fg_X10_70 rfl rfl (jv_lt hJ (by decide)) (jv_r hJ (by decide +kernel)) dX10_write_45 ?_
        refine s_bipush (v := 60) E dX10_write_48 (by decide) ?_
        refine s_iload_n E dX10_write_50 rfl rfl ?_
        refine z_imul (u := 60) (v := x1.toInt) E dX10_write_51 (by decide) rfl (by omega) (by omega) (fun z_16 hz_16 => ?_)
        refine s_iload_n E dX10_write_52 rfl rfl ?_
        refine z_iadd (u := z_16.toInt) (v := x2.toInt) E dX10_write_53 rfl rfl (by omega) (by omega) (fun z_17 hz_17 => ?_)
        refine s_lload_n E dX10_write_54 rfl rfl ?_
        refine s_aload_n E dX10_write_55 rfl rfl ?_
        refine s_gR (r := 113) E fg_X10_67 rfl rfl (jv_lt hJ (by decide)) (jv_r hJ (by decide +kernel)) dX10_write_56 ?_
        refine s_iload_n E dX10_write_59 rfl rfl ?_
        refine s_iald E rfl (jv_lt hJ (by decide)) (z_in (u := x1.toInt) rfl (by omega) (by omega)) dX10_write_60 ?_
        refine z_nm (P := fun z => z.toInt = (w.2.2.1 113 x1.toNatClampNeg).toInt ∧ 0 ≤ z.toInt ∧ z.toInt ≤ 3) ⟨(jv_k hJ (by decide) _), (ra_113 hJ _)⟩ (fun z_18 hz_18 => ?_)
        refine s_sL (As := [AL x3, AI z_18]) (S := [AI z_17, AR 114]) E (Z_X10_cut l D aC b w x3 z_18 hJ.1 ⟨by have hb_ := z32 z_18; omega, by have hb_ := z32 z_18; omega⟩) cs_X10_472 rfl rfl (Nat.le_of_ble_eq_true rfl) (Nat.le_of_ble_eq_true rfl) ⟨(Nat.le_of_ble_eq_true rfl), (Nat.le_of_ble_eq_true rfl)⟩ (Nat.le_of_ble_eq_true rfl) dX10_write_61 (fun z_21 u_19 hp_20 => ?_)
        obtain ⟨hz_21, hp_20⟩ := hp_20
        subst hp_20
        refine s_last E rfl (jv_lt hJ (by decide)) (z_in (u := z_17.toInt) rfl (by omega) (by omega)) dX10_write_64 ?_
        refine s_gen (P := Jn w) (jn_L (jn_of hJ)) (fun v_23 hn_24 => ?_)
        refine s_iconst (v := 0) E dX10_write_65 (by decide) ?_
        exact r_int E dX10_write_66 ⟨⟨by decide, by decide, by first | (left; decide) | (right; decide) | (right; have hb_ := z32 x1; omega), by first | (left; decide) | (right; decide) | (right; have hb_ := z32 x2; omega)⟩, hn_24⟩
      ·
        refine s_bipush (v := (-7)) E dX10_write_41 (by decide) ?_
        exact r_int E dX10_write_43 ⟨⟨by decide, by decide, by first | (left; decide) | (right; decide) | (right; have hb_ := z32 x1; omega), by first | (left; decide) | (right; decide) | (right; have hb_ := z32 x2; omega)⟩, (jn_of hJ)⟩
    ·
      refine s_bipush (v := (-6)) E dX10_write_20 (by decide) ?_
      exact r_int E dX10_write_22 ⟨⟨by decide, by decide, by first | (left; decide) | (right; decide) | (right; have hb_ := z32 x1; omega), by first | (left; decide) | (right; decide) | (right; have hb_ := z32 x2; omega)⟩, (jn_of hJ)⟩
  ·
    refine s_bipush (v := (-2)) E dX10_write_7 (by decide) ?_
    exact r_int E dX10_write_9 ⟨⟨by decide, by decide, by first | (left; decide) | (right; decide) | (right; have hb_ := z32 x1; omega), by first | (left; decide) | (right; decide) | (right; have hb_ := z32 x2; omega)⟩, (jn_of hJ)⟩
set_option maxRecDepth 20000 in
set_option maxHeartbeats 2000000 in
theorem Z_X10_paste_95 (l : Launch) (D : va_G) (aC : Nat → ClassId) (b : Nat) (w : XW) (x1 : Int32) (x2 : Int32) (x3 : Int32) (x4 : Int32) (x5 : Int32) (hI : Iv w)  : CnI l D aC b M_X10_paste 2 45 0 0 [AR 95, AI x1, AI x2, AI x3, AI x4, AI x5] w (fun r u => ((-8) ≤ r.toInt ∧ r.toInt ≤ 0 ∧ (¬ r.toInt = 0 ∨ (0 ≤ x1.toInt ∧ x1.toInt ≤ 3)) ∧ (¬ r.toInt = 0 ∨ (0 ≤ x2.toInt ∧ x2.toInt ≤ 60)) ∧ (¬ r.toInt = 0 ∨ (0 ≤ x3.toInt ∧ x3.toInt ≤ 3)) ∧ (¬ r.toInt = 0 ∨ (0 ≤ x4.toInt ∧ x4.toInt ≤ 60)) ∧ (¬ r.toInt = 0 ∨ (0 ≤ x5.toInt ∧ x5.toInt ≤ 60))) ∧ Jn w u) := by
  refine cn_I (own := RX10) (nm := "paste") (L0 := [some (AR 95), some (AI x1), some (AI x2), some (AI x3), some (AI x4), some (AI x5), none]) (by decide +kernel) rfl rfl (Nat.le_of_ble_eq_true rfl) rfl ?_
  intro p e s m args below meth c E hin
  have hJ : Jv w w := jv_rfl hI
  have hb_x1 := z32 x1
  have hb_x2 := z32 x2
  have hb_x3 := z32 x3
  have hb_x4 := z32 x4
  have hb_x5 := z32 x5
  refine s_iload_n E dX10_paste_0 rfl rfl ?_
  refine s_sI (As := [AI x1]) (S := []) E (Z_X10_isSlot l D aC b w x1 hJ.1 ) cs_X10_375 rfl rfl (Nat.le_of_ble_eq_true rfl) (Nat.le_of_ble_eq_true rfl) ⟨(Nat.le_of_ble_eq_true rfl), (Nat.le_of_ble_eq_true rfl)⟩ (Nat.le_of_ble_eq_true rfl) dX10_paste_1 (fun z_3 u_1 hp_2 => ?_)
  obtain ⟨hz_3, hp_2⟩ := hp_2
  subst hp_2
  refine z_if_eq (tgt := 14) (u := z_3.toInt) E dX10_paste_4 (by decide) rfl (fun h_5 => ?_) (fun h_5 => ?_)
  ·
    refine s_bipush (v := (-2)) E dX10_paste_14 (by decide) ?_
    exact r_int E dX10_paste_16 ⟨⟨by decide, by decide, by first | (left; decide) | (right; decide) | (right; have hb_ := z32 x1; omega), by first | (left; decide) | (right; decide) | (right; have hb_ := z32 x2; omega), by first | (left; decide) | (right; decide) | (right; have hb_ := z32 x3; omega), by first | (left; decide) | (right; decide) | (right; have hb_ := z32 x4; omega), by first | (left; decide) | (right; decide) | (right; have hb_ := z32 x5; omega)⟩, (jn_of hJ)⟩
  ·
    refine s_iload_n E dX10_paste_7 rfl rfl ?_
    refine s_sI (As := [AI x3]) (S := []) E (Z_X10_isSlot l D aC b w x3 hJ.1 ) cs_X10_375 rfl rfl (Nat.le_of_ble_eq_true rfl) (Nat.le_of_ble_eq_true rfl) ⟨(Nat.le_of_ble_eq_true rfl), (Nat.le_of_ble_eq_true rfl)⟩ (Nat.le_of_ble_eq_true rfl) dX10_paste_8 (fun z_8 u_6 hp_7 => ?_)
    obtain ⟨hz_8, hp_7⟩ := hp_7
    subst hp_7
    refine z_if_ne (tgt := 17) (u := z_8.toInt) E dX10_paste_11 (by decide) rfl (fun h_10 => ?_) (fun h_10 => ?_)
    ·
      refine s_aload_n E dX10_paste_17 rfl rfl ?_
      refine s_gR (r := 112) E fg_X10_64 rfl rfl (jv_lt hJ (by decide)) (jv_r hJ (by decide +kernel)) dX10_paste_18 ?_
      refine s_iload_n E dX10_paste_21 rfl rfl ?_
      refine s_iald E rfl (jv_lt hJ (by decide)) (z_in (u := x1.toInt) rfl (by omega) (by omega)) dX10_paste_22 ?_
      refine z_nm (P := fun z => z.toInt = (w.2.2.1 112 x1.toNatClampNeg).toInt ∧ (-1) ≤ z.toInt ∧ z.toInt ≤ 60) ⟨(jv_k hJ (by decide) _), (ra_112 hJ _)⟩ (fun z_11 hz_11 => ?_)
      refine s_iconst (v := (-1)) E dX10_paste_23 (by decide) ?_
      refine z_icmp_eq (tgt := 37) (u := z_11.toInt) (v := (-1)) E dX10_paste_24 (by decide) rfl (by decide) (fun h_12 => ?_) (fun h_12 => ?_)
      ·
        refine s_bipush (v := (-6)) E dX10_paste_37 (by decide) ?_
        exact r_int E dX10_paste_39 ⟨⟨by decide, by decide, by first | (left; decide) | (right; decide) | (right; have hb_ := z32 x1; omega), by first | (left; decide) | (right; decide) | (right; have hb_ := z32 x2; omega), by first | (left; decide) | (right; decide) | (right; have hb_ := z32 x3; omega), by first | (left; decide) | (right; decide) | (right; have hb_ := z32 x4; omega), by first | (left; decide) | (right; decide) | (right; have hb_ := z32 x5; omega)⟩, (jn_of hJ)⟩
      ·
        refine s_aload_n E dX10_paste_27 rfl rfl ?_
        refine s_gR (r := 112) E fg_X10_64 rfl rfl (jv_lt hJ (by decide)) (jv_r hJ (by decide +kernel)) dX10_paste_28 ?_
        refine s_iload_n E dX10_paste_31 rfl rfl ?_
        refine s_iald E rfl (jv_lt hJ (by decide)) (z_in (u := x3.toInt) rfl (by omega) (by omega)) dX10_paste_32 ?_
        refine z_nm (P := fun z => z.toInt = (w.2.2.1 112 x3.toNatClampNeg).toInt ∧ (-1) ≤ z.toInt ∧ z.toInt ≤ 60) ⟨(jv_k hJ (by decide) _), (ra_112 hJ _)⟩ (fun z_13 hz_13 => ?_)
        refine s_iconst (v := (-1)) E dX10_paste_33 (by decide) ?_
        refine z_icmp_ne (tgt := 40) (u := z_13.toInt) (v := (-1)) E dX10_paste_34 (by decide) rfl (by decide) (fun h_14 => ?_) (fun h_14 => ?_)
        ·
          refine s_aload_n E dX10_paste_40 rfl rfl ?_
          refine s_gR (r := 113) E fg_X10_67 rfl rfl (jv_lt hJ (by decide)) (jv_r hJ (by decide +kernel)) dX10_paste_41 ?_
          refine s_iload_n E dX10_paste_44 rfl rfl ?_
          refine s_iald E rfl (jv_lt hJ (by decide)) (z_in (u := x1.toInt) rfl (by omega) (by omega)) dX10_paste_45 ?_
          refine z_nm (P := fun z => z.toInt = (w.2.2.1 113 x1.toNatClampNeg).toInt ∧ 0 ≤ z.toInt ∧ z.toInt ≤ 3) ⟨(jv_k hJ (by decide) _), (ra_113 hJ _)⟩ (fun z_15 hz_15 => ?_)
          refine s_aload_n E dX10_paste_46 rfl rfl ?_
          refine s_gR (r := 113) E fg_X10_67 rfl rfl (jv_lt hJ (by decide)) (jv_r hJ (by decide +kernel)) dX10_paste_47 ?_
          refine s_iload_n E dX10_paste_50 rfl rfl ?_
          refine s_iald E rfl (jv_lt hJ (by decide)) (z_in (u := x3.toInt) rfl (by omega) (by omega)) dX10_paste_51 ?_
          refine z_nm (P := fun z => z.toInt = (w.2.2.1 113 x3.toNatClampNeg).toInt ∧ 0 ≤ z.toInt ∧ z.toInt ≤ 3) ⟨(jv_k hJ (by decide) _), (ra_113 hJ _)⟩ (fun z_16 hz_16 => ?_)
          refine z_icmp_eq (tgt := 58) (u := z_15.toInt) (v := z_16.toInt) E dX10_paste_52 (by decide) rfl rfl (fun h_17 => ?_) (fun h_17 => ?_)
          ·
            refine s_iload_n E dX10_paste_58 rfl rfl ?_
            refine z_if_lt (tgt := 107) (u := x2.toInt) E dX10_paste_59 (by decide) rfl (fun h_18 => ?_) (fun h_18 => ?_)
            ·
              refine s_bipush (v := (-7)) E dX10_paste_107 (by decide) ?_
              exact r_int E dX10_paste_109 ⟨⟨by decide, by decide, by first | (left; decide) | (right; decide) | (right; have hb_ := z32 x1; omega), by first | (left; decide) | (right; decide) | (right; have hb_ := z32 x2; omega), by first | (left; decide) | (right; decide) | (right; have hb_ := z32 x3; omega), by first | (left; decide) | (right; decide) | (right; have hb_ := z32 x4; omega), by first | (left; decide) | (right; decide) | (right; have hb_ := z32 x5; omega)⟩, (jn_of hJ)⟩
            ·
              refine s_iload E dX10_paste_62 rfl ?_
              refine z_if_lt (tgt := 107) (u := x4.toInt) E dX10_paste_64 (by decide) rfl (fun h_19 => ?_) (fun h_19 => ?_)
              ·
                refine s_bipush (v := (-7)) E dX10_paste_107 (by decide) ?_
                exact r_int E dX10_paste_109 ⟨⟨by decide, by decide, by first | (left; decide) | (right; decide) | (right; have hb_ := z32 x1; omega), by first | (left; decide) | (right; decide) | (right; have hb_ := z32 x2; omega), by first | (left; decide) | (right; decide) | (right; have hb_ := z32 x3; omega), by first | (left; decide) | (right; decide) | (right; have hb_ := z32 x4; omega), by first | (left; decide) | (right; decide) | (right; have hb_ := z32 x5; omega)⟩, (jn_of hJ)⟩
              ·
                refine s_iload E dX10_paste_67 rfl ?_
                refine z_if_lt (tgt := 107) (u := x5.toInt) E dX10_paste_69 (by decide) rfl (fun h_20 => ?_) (fun h_20 => ?_)
                ·
                  refine s_bipush (v := (-7)) E dX10_paste_107 (by decide) ?_
                  exact r_int E dX10_paste_109 ⟨⟨by decide, by decide, by first | (left; decide) | (right; decide) | (right; have hb_ := z32 x1; omega), by first | (left; decide) | (right; decide) | (right; have hb_ := z32 x2; omega), by first | (left; decide) | (right; decide) | (right; have hb_ := z32 x3; omega), by first | (left; decide) | (right; decide) | (right; have hb_ := z32 x4; omega), by first | (left; decide) | (right; decide) | (right; have hb_ := z32 x5; omega)⟩, (jn_of hJ)⟩
                ·
                  refine s_iload_n E dX10_paste_72 rfl rfl ?_
                  refine z_i2l (u := x2.toInt) E dX10_paste_73 rfl (fun z_21 hz_21 => ?_)
                  refine s_iload E dX10_paste_74 rfl ?_
                  refine z_i2l (u := x5.toInt) E dX10_paste_76 rfl (fun z_22 hz_22 => ?_)
                  refine z_ladd (u := z_21.toInt) (v := z_22.toInt) E dX10_paste_77 rfl rfl (by omega) (by omega) (fun z_23 hz_23 => ?_)
                  refine s_aload_n E dX10_paste_78 rfl rfl ?_
                  refine s_gR (r := 112) E fg_X10_64 rfl rfl (jv_lt hJ (by decide)) (jv_r hJ (by decide +kernel)) dX10_paste_79 ?_
                  refine s_iload_n E dX10_paste_82 rfl rfl ?_
                  refine s_iald E rfl (jv_lt hJ (by decide)) (z_in (u := x1.toInt) rfl (by omega) (by omega)) dX10_paste_83 ?_
                  refine z_nm (P := fun z => z.toInt = (w.2.2.1 112 x1.toNatClampNeg).toInt ∧ (-1) ≤ z.toInt ∧ z.toInt ≤ 60) ⟨(jv_k hJ (by decide) _), (ra_112 hJ _)⟩ (fun z_24 hz_24 => ?_)
                  refine z_i2l (u := z_24.toInt) E dX10_paste_84 rfl (fun z_25 hz_25 => ?_)
                  refine z_lcmp (u := z_23.toInt) (v := z_25.toInt) E dX10_paste_85 rfl rfl (fun z_26 hz_26 => ?_)
                  refine z_if_gt (tgt := 107) (u := z_26.toInt) E dX10_paste_86 (by decide) rfl (fun h_27 => ?_) (fun h_27 => ?_)
                  ·
                    refine s_bipush (v := (-7)) E dX10_paste_107 (by decide) ?_
                    exact r_int E dX10_paste_109 ⟨⟨by decide, by decide, by first | (left; decide) | (right; decide) | (right; have hb_ := z32 x1; omega), by first | (left; decide) | (right; decide) | (right; have hb_ := z32 x2; omega), by first | (left; decide) | (right; decide) | (right; have hb_ := z32 x3; omega), by first | (left; decide) | (right; decide) | (right; have hb_ := z32 x4; omega), by first | (left; decide) | (right; decide) | (right; have hb_ := z32 x5; omega)⟩, (jn_of hJ)⟩
                  ·
                    refine s_iload E dX10_paste_89 rfl ?_
                    refine z_i2l (u := x4.toInt) E dX10_paste_91 rfl (fun z_28 hz_28 => ?_)
                    refine s_iload E dX10_paste_92 rfl ?_
                    refine z_i2l (u := x5.toInt) E dX10_paste_94 rfl (fun z_29 hz_29 => ?_)
                    refine z_ladd (u := z_28.toInt) (v := z_29.toInt) E dX10_paste_95 rfl rfl (by omega) (by omega) (fun z_30 hz_30 => ?_)
                    refine s_aload_n E dX10_paste_96 rfl rfl ?_
                    refine s_gR (r := 112) E fg_X10_64 rfl rfl (jv_lt hJ (by decide)) (jv_r hJ (by decide +kernel)) dX10_paste_97 ?_
                    refine s_iload_n E dX10_paste_100 rfl rfl ?_
                    refine s_iald E rfl (jv_lt hJ (by decide)) (z_in (u := x3.toInt) rfl (by omega) (by omega)) dX10_paste_101 ?_
                    refine z_nm (P := fun z => z.toInt = (w.2.2.1 112 x3.toNatClampNeg).toInt ∧ (-1) ≤ z.toInt ∧ z.toInt ≤ 60) ⟨(jv_k hJ (by decide) _), (ra_112 hJ _)⟩ (fun z_31 hz_31 => ?_)
                    refine z_i2l (u := z_31.toInt) E dX10_paste_102 rfl (fun z_32 hz_32 => ?_)
                    refine z_lcmp (u := z_30.toInt) (v := z_32.toInt) E dX10_paste_103 rfl rfl (fun z_33 hz_33 => ?_)
                    refine z_if_le (tgt := 110) (u := z_33.toInt) E dX10_paste_104 (by decide) rfl (fun h_34 => ?_) (fun h_34 => ?_)
                    ·
                      refine s_iconst (v := 0) E dX10_paste_110 (by decide) ?_
                      refine s_istore (L2 := [some (AR 95), some (AI x1), some (AI x2), some (AI x3), some (AI x4), some (AI x5), some (AI 0)]) E dX10_paste_111 (by decide) rfl ?_
                      refine z_loop (St := Int32) (Pi := fun q113_6_34 v113 => (0 ≤ q113_6_34.toInt ∧ q113_6_34.toInt ≤ 60) ∧ Jv w v113) (Lf := fun q113_6_34 => [some (AR 95), some (AI x1), some (AI x2), some (AI x3), some (AI x4), some (AI x5), some (AI q113_6_34)]) (fun q113_6_34 _ => (61 - q113_6_34.toInt).toNat) 0 ⟨⟨by decide, by decide⟩, hJ⟩ ?_
                      rintro q113_6_34 v113 ⟨hq113_6, hj_35⟩ ih113
                      refine s_loc (L2 := [some (AR 95), some (AI x1), some (AI x2), some (AI x3), some (AI x4), some (AI x5), some (AI q113_6_34)]) rfl ?_
                      refine s_iload E dX10_paste_113 rfl ?_
                      refine s_iload E dX10_paste_115 rfl ?_
                      refine z_icmp_ge (tgt := 147) (u := q113_6_34.toInt) (v := x5.toInt) E dX10_paste_117 (by decide) rfl rfl (fun h_36 => ?_) (fun h_36 => ?_)
                      ·
                        refine s_iconst (v := 0) E dX10_paste_147 (by decide) ?_
                        refine s_istore (L2 := [some (AR 95), some (AI x1), some (AI x2), some (AI x3), some (AI x4), some (AI x5), some (AI 0)]) E dX10_paste_148 (by decide) rfl ?_
                        refine z_loop (St := Int32) (Pi := fun q150_6_36 v150 => (0 ≤ q150_6_36.toInt ∧ q150_6_36.toInt ≤ 60) ∧ Jn w v150) (Lf := fun q150_6_36 => [some (AR 95), some (AI x1), some (AI x2), some (AI x3), some (AI x4), some (AI x5), some (AI q150_6_36)]) (fun q150_6_36 _ => (61 - q150_6_36.toInt).toNat) 0 ⟨⟨by decide, by decide⟩, (jn_of hj_35)⟩ ?_
                        rintro q150_6_36 v150 ⟨hq150_6, hj_37⟩ ih150
                        refine s_loc (L2 := [some (AR 95), some (AI x1), some (AI x2), some (AI x3), some (AI x4), some (AI x5), some (AI q150_6_36)]) rfl ?_
                        refine s_iload E dX10_paste_150 rfl ?_
                        refine s_iload E dX10_paste_152 rfl ?_
                        refine z_icmp_ge (tgt := 185) (u := q150_6_36.toInt) (v := x5.toInt) E dX10_paste_154 (by decide) rfl rfl (fun h_38 => ?_) (fun h_38 => ?_)
                        ·
                          refine s_iconst (v := 0) E dX10_paste_185 (by decide) ?_
                          exact r_int E dX10_paste_186 ⟨⟨by decide, by decide, by first | (left; decide) | (right; decide) | (right; have hb_ := z32 x1; omega), by first | (left; decide) | (right; decide) | (right; have hb_ := z32 x2; omega), by first | (left; decide) | (right; decide) | (right; have hb_ := z32 x3; omega), by first | (left; decide) | (right; decide) | (right; have hb_ := z32 x4; omega), by first | (left; decide) | (right; decide) | (right; have hb_ := z32 x5; omega)⟩, hj_37⟩
                        ·
                          refine s_aload_n E dX10_paste_157 rfl rfl ?_
                          refine s_gR (r := 114) E fg_X10_70 rfl rfl (jv_lt (jv_rfl hj_37.1) (by decide)) (jv_r (jv_rfl hj_37.1) (by decide +kernel)) dX10_paste_158 ?_
                          refine s_bipush (v := 60) E dX10_paste_161 (by decide) ?_
                          refine s_iload_n E dX10_paste_163 rfl rfl ?_
                          refine z_imul (u := 60) (v := x3.toInt) E dX10_paste_164 (by decide) rfl (by omega) (by omega) (fun z_39 hz_39 => ?_)
                          refine s_iload E dX10_paste_165 rfl ?_
                          refine z_iadd (u := z_39.toInt) (v := x4.toInt) E dX10_paste_167 rfl rfl (by omega) (by omega) (fun z_40 hz_40 => ?_)
                          refine s_iload E dX10_paste_168 rfl ?_
                          refine z_iadd (u := z_40.toInt) (v := q150_6_36.toInt) E dX10_paste_170 rfl rfl (by omega) (by omega) (fun z_41 hz_41 => ?_)
                          have hhz_41 : 0 ≤ z_41.toInt ∧ z_41.toInt ≤ 239 := by omega
                          refine s_aload_n E dX10_paste_171 rfl rfl ?_
                          refine s_gR (r := 115) E fg_X10_74 rfl rfl (jv_lt (jv_rfl hj_37.1) (by decide)) (jv_r (jv_rfl hj_37.1) (by decide +kernel)) dX10_paste_172 ?_
                          refine s_iload E dX10_paste_175 rfl ?_
                          refine s_lald E rfl (jv_lt (jv_rfl hj_37.1) (by decide)) (z_in (u := q150_6_36.toInt) rfl (by omega) (by omega)) dX10_paste_177 ?_
                          refine z_anyL (fun z_42 => ?_)
                          refine s_last E rfl (jv_lt (jv_rfl hj_37.1) (by decide)) (z_in (u := z_41.toInt) rfl (by omega) (by omega)) dX10_paste_178 ?_
                          refine s_gen (P := Jn w) (jn_L hj_37) (fun v_43 hn_44 => ?_)
                          refine z_iinc (u := q150_6_36.toInt) (L2 := fun z_45 => [some (AR 95), some (AI x1), some (AI x2), some (AI x3), some (AI x4), some (AI x5), some (AI z_45)]) E dX10_paste_179 rfl rfl (by decide) (fun _ => rfl) (by decide) (by omega) (by omega) (fun z_45 hz_45 => ?_)
                          refine s_goto (tgt := 150) E dX10_paste_182 (by decide) ?_
                          exact ih150 z_45 v_43 ⟨⟨by have hb_ := z32 z_45; omega, by have hb_ := z32 z_45; omega⟩, hn_44⟩ (by first | omega | decide | (dsimp only; omega) | (dsimp only; decide))
                      ·
                        refine s_aload_n E dX10_paste_120 rfl rfl ?_
                        refine s_gR (r := 115) E fg_X10_74 rfl rfl (jv_lt hj_35 (by decide)) (jv_r hj_35 (by decide +kernel)) dX10_paste_121 ?_
                        refine s_iload E dX10_paste_124 rfl ?_
                        refine s_aload_n E dX10_paste_126 rfl rfl ?_
                        refine s_gR (r := 114) E fg_X10_70 rfl rfl (jv_lt hj_35 (by decide)) (jv_r hj_35 (by decide +kernel)) dX10_paste_127 ?_
                        refine s_bipush (v := 60) E dX10_paste_130 (by decide) ?_
                        refine s_iload_n E dX10_paste_132 rfl rfl ?_
                        refine z_imul (u := 60) (v := x1.toInt) E dX10_paste_133 (by decide) rfl (by omega) (by omega) (fun z_46 hz_46 => ?_)
                        refine s_iload_n E dX10_paste_134 rfl rfl ?_
                        refine z_iadd (u := z_46.toInt) (v := x2.toInt) E dX10_paste_135 rfl rfl (by omega) (by omega) (fun z_47 hz_47 => ?_)
                        refine s_iload E dX10_paste_136 rfl ?_
                        refine z_iadd (u := z_47.toInt) (v := q113_6_34.toInt) E dX10_paste_138 rfl rfl (by omega) (by omega) (fun z_48 hz_48 => ?_)
                        have hhz_48 : 0 ≤ z_48.toInt ∧ z_48.toInt ≤ 239 := by omega
                        refine s_lald E rfl (jv_lt hj_35 (by decide)) (z_in (u := z_48.toInt) rfl (by omega) (by omega)) dX10_paste_139 ?_
                        refine z_anyL (fun z_49 => ?_)
                        refine s_last E rfl (jv_lt hj_35 (by decide)) (z_in (u := q113_6_34.toInt) rfl (by omega) (by omega)) dX10_paste_140 ?_
                        refine s_gen (P := Jv w) (jv_L hj_35 (by decide)) (fun v_50 hj_51 => ?_)
                        refine z_iinc (u := q113_6_34.toInt) (L2 := fun z_52 => [some (AR 95), some (AI x1), some (AI x2), some (AI x3), some (AI x4), some (AI x5), some (AI z_52)]) E dX10_paste_141 rfl rfl (by decide) (fun _ => rfl) (by decide) (by omega) (by omega) (fun z_52 hz_52 => ?_)
                        refine s_goto (tgt := 113) E dX10_paste_144 (by decide) ?_
                        exact ih113 z_52 v_50 ⟨⟨by have hb_ := z32 z_52; omega, by have hb_ := z32 z_52; omega⟩, hj_51⟩ (by first | omega | decide | (dsimp only; omega) | (dsimp only; decide))
                    ·
                      refine s_bipush (v := (-7)) E dX10_paste_107 (by decide) ?_
                      exact r_int E dX10_paste_109 ⟨⟨by decide, by decide, by first | (left; decide) | (right; decide) | (right; have hb_ := z32 x1; omega), by first | (left; decide) | (right; decide) | (right; have hb_ := z32 x2; omega), by first | (left; decide) | (right; decide) | (right; have hb_ := z32 x3; omega), by first | (left; decide) | (right; decide) | (right; have hb_ := z32 x4; omega), by first | (left; decide) | (right; decide) | (right; have hb_ := z32 x5; omega)⟩, (jn_of hJ)⟩
          ·
            refine s_bipush (v := (-8)) E dX10_paste_55 (by decide) ?_
            exact r_int E dX10_paste_57 ⟨⟨by decide, by decide, by first | (left; decide) | (right; decide) | (right; have hb_ := z32 x1; omega), by first | (left; decide) | (right; decide) | (right; have hb_ := z32 x2; omega), by first | (left; decide) | (right; decide) | (right; have hb_ := z32 x3; omega), by first | (left; decide) | (right; decide) | (right; have hb_ := z32 x4; omega), by first | (left; decide) | (right; decide) | (right; have hb_ := z32 x5; omega)⟩, (jn_of hJ)⟩
        ·
          refine s_bipush (v := (-6)) E dX10_paste_37 (by decide) ?_
          exact r_int E dX10_paste_39 ⟨⟨by decide, by decide, by first | (left; decide) | (right; decide) | (right; have hb_ := z32 x1; omega), by first | (left; decide) | (right; decide) | (right; have hb_ := z32 x2; omega), by first | (left; decide) | (right; decide) | (right; have hb_ := z32 x3; omega), by first | (left; decide) | (right; decide) | (right; have hb_ := z32 x4; omega), by first | (left; decide) | (right; decide) | (right; have hb_ := z32 x5; omega)⟩, (jn_of hJ)⟩
    ·
      refine s_bipush (v := (-2)) E dX10_paste_14 (by decide) ?_
      exact r_int E dX10_paste_16 ⟨⟨by decide, by decide, by first | (left; decide) | (right; decide) | (right; have hb_ := z32 x1; omega), by first | (left; decide) | (right; decide) | (right; have hb_ := z32 x2; omega), by first | (left; decide) | (right; decide) | (right; have hb_ := z32 x3; omega), by first | (left; decide) | (right; decide) | (right; have hb_ := z32 x4; omega), by first | (left; decide) | (right; decide) | (right; have hb_ := z32 x5; omega)⟩, (jn_of hJ)⟩
