set_option maxRecDepth 20000 in
set_option maxHeartbeats 2000000 in
theorem Z_X9_friends_0 (l : Launch) (D : va_G) (aC : Nat → ClassId) (b : Nat) (w : XW) (x1 : Int32) (hI : Iv w)  : CnI l D aC b M_X9_friends 3 67 0 0 [AR 0, AI x1] w (fun r u => ((-2147483648) ≤ r.toInt ∧ r.toInt ≤ 2147483647 ∧ (¬ r.toInt = 0 ∨ (0 ≤ x1.toInt ∧ x1.toInt ≤ 5)) ∧ (¬ r.toInt = 0 ∨ (1 ≤ (w.2.2.1 5 3).toInt ∧ (w.2.2.1 5 3).toInt ≤ 6))) ∧ Jv w u) := by
  refine cn_I (own := RX9) (nm := "friends") (L0 := [some (AR 0), some (AI x1)]) (by decide +kernel) rfl rfl (Nat.le_of_ble_eq_true rfl) rfl ?_
  intro p e s m args below meth c E hin
  have hJ : Jv w w := jv_rfl hI
  refine s_aload_n E dX9_friends_0 rfl rfl ?_
  refine s_gR (r := 2) E fg_X9_20 rfl rfl (jv_lt hJ (by decide)) (jv_r hJ (by decide +kernel)) dX9_friends_1 ?_
  refine s_iload_n E dX9_friends_4 rfl rfl ?_
  refine s_vI (As := [AI x1]) (S := []) E (Z_X0_hasLady_2 l D aC b w x1 hJ.1 ) cv_X9_139 rfl rfl rfl (jv_lt hJ (by decide)) (Nat.le_of_ble_eq_true rfl) (Nat.le_of_ble_eq_true rfl) ⟨(Nat.le_of_ble_eq_true rfl), (Nat.le_of_ble_eq_true rfl)⟩ (Nat.le_of_ble_eq_true rfl) dX9_friends_5 (fun z_3 u_1 hp_2 => ?_)
  obtain ⟨hz_3, hp_2⟩ := hp_2
  subst hp_2
  refine z_if_eq (tgt := 22) (u := z_3.toInt) E dX9_friends_8 (by decide) rfl (fun h_5 => ?_) (fun h_5 => ?_)
  ·
    refine s_bipush (v := (-2)) E dX9_friends_22 (by decide) ?_
    exact r_int E dX9_friends_24 ⟨⟨by decide, by decide, by first | (left; decide) | (right; have hb_ := z32 x1; omega), by first | (left; decide) | (right; have hb_ := z32 (w.2.2.1 5 3); omega)⟩, hJ⟩
  ·
    refine s_aload_n E dX9_friends_11 rfl rfl ?_
    refine s_gR (r := 69) E fg_X9_54 rfl rfl (jv_lt hJ (by decide)) (jv_r hJ (by decide +kernel)) dX9_friends_12 ?_
    refine s_iload_n E dX9_friends_15 rfl rfl ?_
    refine s_vI (As := [AI x1]) (S := []) E (Z_X2_friendsOf_69 l D aC b w x1 hJ.1 ) cv_X9_181 rfl rfl rfl (jv_lt hJ (by decide)) (Nat.le_of_ble_eq_true rfl) (Nat.le_of_ble_eq_true rfl) ⟨(Nat.le_of_ble_eq_true rfl), (Nat.le_of_ble_eq_true rfl)⟩ (Nat.le_of_ble_eq_true rfl) dX9_friends_16 (fun z_8 u_6 hp_7 => ?_)
    obtain ⟨hz_8, hp_7⟩ := hp_7
    have hj_9 := jv_trans hJ hp_7
    refine s_goto (tgt := 24) E dX9_friends_19 (by decide) ?_
    exact r_int E dX9_friends_24 ⟨⟨by have hb_ := z32 z_8; omega, by have hb_ := z32 z_8; omega, by have hb_ := z32 z_8; have hc_ := z32 x1; omega, by have hb_ := z32 z_8; have hc_ := z32 (w.2.2.1 5 3); omega⟩, hj_9⟩
set_option maxRecDepth 20000 in
set_option maxHeartbeats 2000000 in
theorem Z_J6_bitCount_0f7a4 (l : Launch) (D : va_G) (aC : Nat → ClassId) (b : Nat) (w : XW) (x1 : Int32) (hI : Iv w)  : CnI l D aC b M_J6_bitCount_0f7a4 0 0 0 0 [AI x1] w (fun r u => (0 ≤ r.toInt ∧ r.toInt ≤ 63) ∧ w = u) := by
  refine cn_I (own := RJ6) (nm := "bitCount") (L0 := [some (AI x1)]) (by decide +kernel) rfl rfl (Nat.le_of_ble_eq_true rfl) rfl ?_
  intro p e s m args below meth c E hin
  have hJ : Jv w w := jv_rfl hI
  refine s_iload_n E dJ6_bitCount_0f7a4_0 rfl rfl ?_
  refine s_iload_n E dJ6_bitCount_0f7a4_1 rfl rfl ?_
  refine s_iconst (v := 1) E dJ6_bitCount_0f7a4_2 (by decide) ?_
  refine s_iushr E dJ6_bitCount_0f7a4_3 ?_
  refine z_any (fun z_1 => ?_)
  refine s_ldcw E k_732 rfl dJ6_bitCount_0f7a4_4 ?_
  refine z_mask (v := 1431655765) E dJ6_bitCount_0f7a4_7 (by decide) (by decide) (fun z_2 hz_2 => ?_)
  refine s_isub E dJ6_bitCount_0f7a4_8 ?_
  refine z_any (fun z_3 => ?_)
  refine s_istore_n (L2 := [some (AI z_3)]) E dJ6_bitCount_0f7a4_9 rfl (by decide) rfl ?_
  refine s_iload_n E dJ6_bitCount_0f7a4_10 rfl rfl ?_
  refine s_ldcw E k_733 rfl dJ6_bitCount_0f7a4_11 ?_
  refine z_mask (v := 858993459) E dJ6_bitCount_0f7a4_14 (by decide) (by decide) (fun z_4 hz_4 => ?_)
  refine s_iload_n E dJ6_bitCount_0f7a4_15 rfl rfl ?_
  refine s_iconst (v := 2) E dJ6_bitCount_0f7a4_16 (by decide) ?_
  refine s_iushr E dJ6_bitCount_0f7a4_17 ?_
  refine z_any (fun z_5 => ?_)
  refine s_ldcw E k_733 rfl dJ6_bitCount_0f7a4_18 ?_
  refine z_mask (v := 858993459) E dJ6_bitCount_0f7a4_21 (by decide) (by decide) (fun z_6 hz_6 => ?_)
  refine z_iadd (u := z_4.toInt) (v := z_6.toInt) E dJ6_bitCount_0f7a4_22 rfl rfl (by omega) (by omega) (fun z_7 hz_7 => ?_)
  refine s_istore_n (L2 := [some (AI z_7)]) E dJ6_bitCount_0f7a4_23 rfl (by decide) rfl ?_
  refine s_iload_n E dJ6_bitCount_0f7a4_24 rfl rfl ?_
  refine s_iload_n E dJ6_bitCount_0f7a4_25 rfl rfl ?_
  refine s_iconst (v := 4) E dJ6_bitCount_0f7a4_26 (by decide) ?_
  refine s_iushr E dJ6_bitCount_0f7a4_27 ?_
  refine z_any (fun z_8 => ?_)
  refine s_iadd E dJ6_bitCount_0f7a4_28 ?_
  refine z_any (fun z_9 => ?_)
  refine s_ldcw E k_734 rfl dJ6_bitCount_0f7a4_29 ?_
  refine z_mask (v := 252645135) E dJ6_bitCount_0f7a4_32 (by decide) (by decide) (fun z_10 hz_10 => ?_)
  refine s_istore_n (L2 := [some (AI z_10)]) E dJ6_bitCount_0f7a4_33 rfl (by decide) rfl ?_
  refine s_iload_n E dJ6_bitCount_0f7a4_34 rfl rfl ?_
  refine s_iload_n E dJ6_bitCount_0f7a4_35 rfl rfl ?_
  refine s_bipush (v := 8) E dJ6_bitCount_0f7a4_36 (by decide) ?_
  refine s_iushr E dJ6_bitCount_0f7a4_38 ?_
  refine z_any (fun z_11 => ?_)
  refine s_iadd E dJ6_bitCount_0f7a4_39 ?_
  refine z_any (fun z_12 => ?_)
  refine s_istore_n (L2 := [some (AI z_12)]) E dJ6_bitCount_0f7a4_40 rfl (by decide) rfl ?_
  refine s_iload_n E dJ6_bitCount_0f7a4_41 rfl rfl ?_
  refine s_iload_n E dJ6_bitCount_0f7a4_42 rfl rfl ?_
  refine s_bipush (v := 16) E dJ6_bitCount_0f7a4_43 (by decide) ?_
  refine s_iushr E dJ6_bitCount_0f7a4_45 ?_
  refine z_any (fun z_13 => ?_)
  refine s_iadd E dJ6_bitCount_0f7a4_46 ?_
  refine z_any (fun z_14 => ?_)
  refine s_istore_n (L2 := [some (AI z_14)]) E dJ6_bitCount_0f7a4_47 rfl (by decide) rfl ?_
  refine s_iload_n E dJ6_bitCount_0f7a4_48 rfl rfl ?_
  refine s_bipush (v := 63) E dJ6_bitCount_0f7a4_49 (by decide) ?_
  refine z_mask (v := 63) E dJ6_bitCount_0f7a4_51 (by decide) (by decide) (fun z_15 hz_15 => ?_)
  exact r_int E dJ6_bitCount_0f7a4_52 ⟨⟨by have hb_ := z32 z_15; omega, by have hb_ := z32 z_15; omega⟩, rfl⟩
set_option maxRecDepth 20000 in
set_option maxHeartbeats 2000000 in
theorem Z_X9_fullest_0 (l : Launch) (D : va_G) (aC : Nat → ClassId) (b : Nat) (w : XW) (x1 : Int32) (hI : Iv w)  : CnI l D aC b M_X9_fullest 2 44 0 0 [AR 0, AI x1] w (fun r u => (0 ≤ r.toInt ∧ r.toInt ≤ 63) ∧ Jv w u) := by
  refine cn_I (own := RX9) (nm := "fullest") (L0 := [some (AR 0), some (AI x1), none, none]) (by decide +kernel) rfl rfl (Nat.le_of_ble_eq_true rfl) rfl ?_
  intro p e s m args below meth c E hin
  have hJ : Jv w w := jv_rfl hI
  refine s_iconst (v := 0) E dX9_fullest_0 (by decide) ?_
  refine s_istore_n (L2 := [some (AR 0), some (AI x1), some (AI 0), none]) E dX9_fullest_1 rfl (by decide) rfl ?_
  refine s_iconst (v := 0) E dX9_fullest_2 (by decide) ?_
  refine s_istore_n (L2 := [some (AR 0), some (AI x1), some (AI 0), some (AI 0)]) E dX9_fullest_3 rfl (by decide) rfl ?_
  refine z_loop (St := Int32 × Int32) (Pi := fun ⟨q4_2_0, q4_3_0⟩ v4 => (0 ≤ q4_2_0.toInt ∧ q4_2_0.toInt ≤ 63) ∧ (0 ≤ q4_3_0.toInt ∧ q4_3_0.toInt ≤ 6) ∧ Jv w v4) (Lf := fun ⟨q4_2_0, q4_3_0⟩ => [some (AR 0), some (AI x1), some (AI q4_2_0), some (AI q4_3_0)]) (fun ⟨q4_2_0, q4_3_0⟩ _ => (7 - q4_3_0.toInt).toNat) ⟨0, 0⟩ ⟨⟨by decide, by decide⟩, ⟨by decide, by decide⟩, hJ⟩ ?_
  rintro ⟨q4_2_0, q4_3_0⟩ v4 ⟨hq4_2, hq4_3, hj_1⟩ ih4
  refine s_loc (L2 := [some (AR 0), some (AI x1), some (AI q4_2_0), some (AI q4_3_0)]) rfl ?_
  refine s_iload_n E dX9_fullest_4 rfl rfl ?_
  refine s_aload_n E dX9_fullest_5 rfl rfl ?_
  refine s_gR (r := 2) E fg_X9_20 rfl rfl (jv_lt hj_1 (by decide)) (jv_r hj_1 (by decide +kernel)) dX9_fullest_6 ?_
  refine s_gR (r := 5) E fg_X9_133 rfl rfl (jv_lt hj_1 (by decide)) (jv_r hj_1 (by decide +kernel)) dX9_fullest_9 ?_
  refine s_gI E fg_X9_200 rfl rfl (jv_lt hj_1 (by decide)) dX9_fullest_12 ?_
  refine z_nm (P := fun z => z.toInt = (v4.2.2.1 5 3).toInt ∧ 0 ≤ z.toInt ∧ z.toInt ≤ 6) ⟨rfl, (rg_5_3 hj_1)⟩ (fun z_2 hz_2 => ?_)
  refine z_icmp_ge (tgt := 41) (u := q4_3_0.toInt) (v := z_2.toInt) E dX9_fullest_15 (by decide) rfl rfl (fun h_3 => ?_) (fun h_3 => ?_)
  ·
    refine s_iload_n E dX9_fullest_41 rfl rfl ?_
    exact r_int E dX9_fullest_42 ⟨⟨by have hb_ := z32 q4_2_0; omega, by have hb_ := z32 q4_2_0; omega⟩, hj_1⟩
  ·
    refine s_iload_n E dX9_fullest_18 rfl rfl ?_
    refine s_aload_n E dX9_fullest_19 rfl rfl ?_
    refine s_gR (r := 69) E fg_X9_54 rfl rfl (jv_lt hj_1 (by decide)) (jv_r hj_1 (by decide +kernel)) dX9_fullest_20 ?_
    refine s_iload_n E dX9_fullest_23 rfl rfl ?_
    refine s_iload_n E dX9_fullest_24 rfl rfl ?_
    refine s_vI (As := [AI q4_3_0, AI x1]) (S := [AI q4_2_0]) E (Z_X2_companyOf_69 l D aC b v4 q4_3_0 x1 hj_1.1 ) cv_X9_172 rfl rfl rfl (jv_lt hj_1 (by decide)) (Nat.le_of_ble_eq_true rfl) (Nat.le_of_ble_eq_true rfl) ⟨(Nat.le_of_ble_eq_true rfl), (Nat.le_of_ble_eq_true rfl)⟩ (Nat.le_of_ble_eq_true rfl) dX9_fullest_25 (fun z_6 u_4 hp_5 => ?_)
    obtain ⟨hz_6, hp_5⟩ := hp_5
    subst hp_5
    refine s_sI (As := [AI z_6]) (S := [AI q4_2_0]) E (Z_J6_bitCount_0f7a4 l D aC b v4 z_6 hj_1.1 ) cs_X9_203 rfl rfl (Nat.le_of_ble_eq_true rfl) (Nat.le_of_ble_eq_true rfl) ⟨(Nat.le_of_ble_eq_true rfl), (Nat.le_of_ble_eq_true rfl)⟩ (Nat.le_of_ble_eq_true rfl) dX9_fullest_28 (fun z_10 u_8 hp_9 => ?_)
    obtain ⟨hz_10, hp_9⟩ := hp_9
    subst hp_9
    refine z_max (u := q4_2_0.toInt) (v := z_10.toInt) E ⟨k_735, k_41, k_4, k_42⟩ (Nat.le_of_ble_eq_true rfl) (Nat.le_of_ble_eq_true rfl) (Nat.le_of_ble_eq_true rfl) (Nat.le_of_ble_eq_true rfl) dX9_fullest_31 rfl rfl (fun z_12 hz_12 => ?_)
    refine s_istore_n (L2 := [some (AR 0), some (AI x1), some (AI z_12), some (AI q4_3_0)]) E dX9_fullest_34 rfl (by decide) rfl ?_
    refine z_iinc (u := q4_3_0.toInt) (L2 := fun z_13 => [some (AR 0), some (AI x1), some (AI z_12), some (AI z_13)]) E dX9_fullest_35 rfl rfl (by decide) (fun _ => rfl) (by decide) (by omega) (by omega) (fun z_13 hz_13 => ?_)
    refine s_goto (tgt := 4) E dX9_fullest_38 (by decide) ?_
    exact ih4 ⟨z_12, z_13⟩ v4 ⟨⟨by have hb_ := z32 z_12; omega, by have hb_ := z32 z_12; omega⟩, ⟨by have hb_ := z32 z_13; omega, by have hb_ := z32 z_13; omega⟩, hj_1⟩ (by first | omega | (dsimp only; omega))
set_option maxRecDepth 20000 in
set_option maxHeartbeats 2000000 in
theorem Z_X9_crush_0 (l : Launch) (D : va_G) (aC : Nat → ClassId) (b : Nat) (w : XW)  (hI : Iv w)  : CnI l D aC b M_X9_crush 3 67 0 0 [AR 0] w (fun r u => ((-2) ≤ r.toInt ∧ r.toInt ≤ 63 ∧ (¬ r.toInt = 0 ∨ (1 ≤ (w.2.2.1 2 0).toInt ∧ (w.2.2.1 2 0).toInt ≤ 2147483647))) ∧ Jv w u) := by
  refine cn_I (own := RX9) (nm := "crush") (L0 := [some (AR 0), none, none]) (by decide +kernel) rfl rfl (Nat.le_of_ble_eq_true rfl) rfl ?_
  intro p e s m args below meth c E hin
  have hJ : Jv w w := jv_rfl hI
  refine s_aload_n E dX9_crush_0 rfl rfl ?_
  refine s_gR (r := 2) E fg_X9_20 rfl rfl (jv_lt hJ (by decide)) (jv_r hJ (by decide +kernel)) dX9_crush_1 ?_
  refine s_vI (As := []) (S := []) E (Z_X0_isTold_2 l D aC b w  hJ.1 ) cv_X9_184 rfl rfl rfl (jv_lt hJ (by decide)) (Nat.le_of_ble_eq_true rfl) (Nat.le_of_ble_eq_true rfl) ⟨(Nat.le_of_ble_eq_true rfl), (Nat.le_of_ble_eq_true rfl)⟩ (Nat.le_of_ble_eq_true rfl) dX9_crush_4 (fun z_3 u_1 hp_2 => ?_)
  obtain ⟨hz_3, hp_2⟩ := hp_2
  subst hp_2
  refine z_if_ne (tgt := 13) (u := z_3.toInt) E dX9_crush_7 (by decide) rfl (fun h_5 => ?_) (fun h_5 => ?_)
  ·
    refine s_iconst (v := 0) E dX9_crush_13 (by decide) ?_
    refine s_istore_n (L2 := [some (AR 0), some (AI 0), none]) E dX9_crush_14 rfl (by decide) rfl ?_
    refine s_iconst (v := 0) E dX9_crush_15 (by decide) ?_
    refine s_istore_n (L2 := [some (AR 0), some (AI 0), some (AI 0)]) E dX9_crush_16 rfl (by decide) rfl ?_
    refine z_loop (St := Int32 × Int32) (Pi := fun ⟨q17_1_5, q17_2_5⟩ v17 => (0 ≤ q17_1_5.toInt ∧ q17_1_5.toInt ≤ 63) ∧ (0 ≤ q17_2_5.toInt ∧ q17_2_5.toInt ≤ 15) ∧ Jv w v17) (Lf := fun ⟨q17_1_5, q17_2_5⟩ => [some (AR 0), some (AI q17_1_5), some (AI q17_2_5)]) (fun ⟨q17_1_5, q17_2_5⟩ _ => (16 - q17_2_5.toInt).toNat) ⟨0, 0⟩ ⟨⟨by decide, by decide⟩, ⟨by decide, by decide⟩, hJ⟩ ?_
    rintro ⟨q17_1_5, q17_2_5⟩ v17 ⟨hq17_1, hq17_2, hj_6⟩ ih17
    refine s_loc (L2 := [some (AR 0), some (AI q17_1_5), some (AI q17_2_5)]) rfl ?_
    refine s_iload_n E dX9_crush_17 rfl rfl ?_
    refine s_aload_n E dX9_crush_18 rfl rfl ?_
    refine s_gR (r := 2) E fg_X9_20 rfl rfl (jv_lt hj_6 (by decide)) (jv_r hj_6 (by decide +kernel)) dX9_crush_19 ?_
    refine s_gI E fg_X9_169 rfl rfl (jv_lt hj_6 (by decide)) dX9_crush_22 ?_
    refine z_nm (P := fun z => z.toInt = (v17.2.2.1 2 2).toInt ∧ 0 ≤ z.toInt ∧ z.toInt ≤ 14) ⟨rfl, (rg_2_2 hj_6)⟩ (fun z_7 hz_7 => ?_)
    refine z_icmp_gt (tgt := 44) (u := q17_2_5.toInt) (v := z_7.toInt) E dX9_crush_25 (by decide) rfl rfl (fun h_8 => ?_) (fun h_8 => ?_)
    ·
      refine s_iload_n E dX9_crush_44 rfl rfl ?_
      exact r_int E dX9_crush_45 ⟨⟨by have hb_ := z32 q17_1_5; omega, by have hb_ := z32 q17_1_5; omega, by have hb_ := z32 q17_1_5; have hc_ := z32 (w.2.2.1 2 0); omega⟩, hj_6⟩
    ·
      refine s_iload_n E dX9_crush_28 rfl rfl ?_
      refine s_aload_n E dX9_crush_29 rfl rfl ?_
      refine s_iload_n E dX9_crush_30 rfl rfl ?_
      refine s_vI (As := [AI q17_2_5]) (S := [AI q17_1_5]) E (Z_X9_fullest_0 l D aC b v17 q17_2_5 hj_6.1 ) cv_X9_188 rfl rfl rfl (jv_lt hj_6 (by decide)) (Nat.le_of_ble_eq_true rfl) (Nat.le_of_ble_eq_true rfl) ⟨(Nat.le_of_ble_eq_true rfl), (Nat.le_of_ble_eq_true rfl)⟩ (Nat.le_of_ble_eq_true rfl) dX9_crush_31 (fun z_11 u_9 hp_10 => ?_)
      obtain ⟨hz_11, hp_10⟩ := hp_10
      have hj_12 := jv_trans hj_6 hp_10
      refine z_max (u := q17_1_5.toInt) (v := z_11.toInt) E ⟨k_735, k_41, k_4, k_42⟩ (Nat.le_of_ble_eq_true rfl) (Nat.le_of_ble_eq_true rfl) (Nat.le_of_ble_eq_true rfl) (Nat.le_of_ble_eq_true rfl) dX9_crush_34 rfl rfl (fun z_13 hz_13 => ?_)
      refine s_istore_n (L2 := [some (AR 0), some (AI z_13), some (AI q17_2_5)]) E dX9_crush_37 rfl (by decide) rfl ?_
      refine z_iinc (u := q17_2_5.toInt) (L2 := fun z_14 => [some (AR 0), some (AI z_13), some (AI z_14)]) E dX9_crush_38 rfl rfl (by decide) (fun _ => rfl) (by decide) (by omega) (by omega) (fun z_14 hz_14 => ?_)
      refine s_goto (tgt := 17) E dX9_crush_41 (by decide) ?_
      exact ih17 ⟨z_13, z_14⟩ u_9 ⟨⟨by have hb_ := z32 z_13; omega, by have hb_ := z32 z_13; omega⟩, ⟨by have hb_ := z32 z_14; omega, by have hb_ := z32 z_14; omega⟩, hj_12⟩ (by first | omega | (dsimp only; omega))
  ·
    refine s_bipush (v := (-2)) E dX9_crush_10 (by decide) ?_
    exact r_int E dX9_crush_12 ⟨⟨by decide, by decide, by first | (left; decide) | (right; have hb_ := z32 (w.2.2.1 2 0); omega)⟩, hJ⟩
set_option maxRecDepth 20000 in
set_option maxHeartbeats 2000000 in
theorem Z_X9_crushed_0 (l : Launch) (D : va_G) (aC : Nat → ClassId) (b : Nat) (w : XW)  (hI : Iv w)  : CnI l D aC b M_X9_crushed 4 89 0 0 [AR 0] w (fun r u => ((-2) ≤ r.toInt ∧ r.toInt ≤ 14) ∧ Jv w u) := by
  refine cn_I (own := RX9) (nm := "crushed") (L0 := [some (AR 0), none, none]) (by decide +kernel) rfl rfl (Nat.le_of_ble_eq_true rfl) rfl ?_
  intro p e s m args below meth c E hin
  have hJ : Jv w w := jv_rfl hI
  refine s_aload_n E dX9_crushed_0 rfl rfl ?_
  refine s_vI (As := []) (S := []) E (Z_X9_crush_0 l D aC b w  hJ.1 ) cv_X9_196 rfl rfl rfl (jv_lt hJ (by decide)) (Nat.le_of_ble_eq_true rfl) (Nat.le_of_ble_eq_true rfl) ⟨(Nat.le_of_ble_eq_true rfl), (Nat.le_of_ble_eq_true rfl)⟩ (Nat.le_of_ble_eq_true rfl) dX9_crushed_1 (fun z_3 u_1 hp_2 => ?_)
  obtain ⟨hz_3, hp_2⟩ := hp_2
  have hj_4 := jv_trans hJ hp_2
  refine s_istore_n (L2 := [some (AR 0), some (AI z_3), none]) E dX9_crushed_4 rfl (by decide) rfl ?_
  refine s_iload_n E dX9_crushed_5 rfl rfl ?_
  refine z_if_ge (tgt := 12) (u := z_3.toInt) E dX9_crushed_6 (by decide) rfl (fun h_5 => ?_) (fun h_5 => ?_)
  ·
    refine s_iconst (v := 0) E dX9_crushed_12 (by decide) ?_
    refine s_istore_n (L2 := [some (AR 0), some (AI z_3), some (AI 0)]) E dX9_crushed_13 rfl (by decide) rfl ?_
    refine z_loop (St := Int32) (Pi := fun q14_2_5 v14 => (0 ≤ q14_2_5.toInt ∧ q14_2_5.toInt ≤ 15) ∧ Jv w v14) (Lf := fun q14_2_5 => [some (AR 0), some (AI z_3), some (AI q14_2_5)]) (fun q14_2_5 _ => (16 - q14_2_5.toInt).toNat) 0 ⟨⟨by decide, by decide⟩, hj_4⟩ ?_
    rintro q14_2_5 v14 ⟨hq14_2, hj_6⟩ ih14
    refine s_loc (L2 := [some (AR 0), some (AI z_3), some (AI q14_2_5)]) rfl ?_
    refine s_iload_n E dX9_crushed_14 rfl rfl ?_
    refine s_aload_n E dX9_crushed_15 rfl rfl ?_
    refine s_gR (r := 2) E fg_X9_20 rfl rfl (jv_lt hj_6 (by decide)) (jv_r hj_6 (by decide +kernel)) dX9_crushed_16 ?_
    refine s_gI E fg_X9_169 rfl rfl (jv_lt hj_6 (by decide)) dX9_crushed_19 ?_
    refine z_nm (P := fun z => z.toInt = (v14.2.2.1 2 2).toInt ∧ 0 ≤ z.toInt ∧ z.toInt ≤ 14) ⟨rfl, (rg_2_2 hj_6)⟩ (fun z_7 hz_7 => ?_)
    refine z_icmp_gt (tgt := 42) (u := q14_2_5.toInt) (v := z_7.toInt) E dX9_crushed_22 (by decide) rfl rfl (fun h_8 => ?_) (fun h_8 => ?_)
    ·
      refine s_bipush (v := (-2)) E dX9_crushed_42 (by decide) ?_
      exact r_int E dX9_crushed_44 ⟨(by decide), hj_6⟩
    ·
      refine s_aload_n E dX9_crushed_25 rfl rfl ?_
      refine s_iload_n E dX9_crushed_26 rfl rfl ?_
      refine s_vI (As := [AI q14_2_5]) (S := []) E (Z_X9_fullest_0 l D aC b v14 q14_2_5 hj_6.1 ) cv_X9_188 rfl rfl rfl (jv_lt hj_6 (by decide)) (Nat.le_of_ble_eq_true rfl) (Nat.le_of_ble_eq_true rfl) ⟨(Nat.le_of_ble_eq_true rfl), (Nat.le_of_ble_eq_true rfl)⟩ (Nat.le_of_ble_eq_true rfl) dX9_crushed_27 (fun z_11 u_9 hp_10 => ?_)
      obtain ⟨hz_11, hp_10⟩ := hp_10
      have hj_12 := jv_trans hj_6 hp_10
      refine s_iload_n E dX9_crushed_30 rfl rfl ?_
      refine z_icmp_ne (tgt := 36) (u := z_11.toInt) (v := z_3.toInt) E dX9_crushed_31 (by decide) rfl rfl (fun h_13 => ?_) (fun h_13 => ?_)
      ·
        refine z_iinc (u := q14_2_5.toInt) (L2 := fun z_14 => [some (AR 0), some (AI z_3), some (AI z_14)]) E dX9_crushed_36 rfl rfl (by decide) (fun _ => rfl) (by decide) (by omega) (by omega) (fun z_14 hz_14 => ?_)
        refine s_goto (tgt := 14) E dX9_crushed_39 (by decide) ?_
        exact ih14 z_14 u_9 ⟨⟨by have hb_ := z32 z_14; omega, by have hb_ := z32 z_14; omega⟩, hj_12⟩ (by first | omega | (dsimp only; omega))
      ·
        refine s_iload_n E dX9_crushed_34 rfl rfl ?_
        exact r_int E dX9_crushed_35 ⟨⟨by have hb_ := z32 q14_2_5; omega, by have hb_ := z32 q14_2_5; omega⟩, hj_12⟩
  ·
    refine s_bipush (v := (-2)) E dX9_crushed_9 (by decide) ?_
    exact r_int E dX9_crushed_11 ⟨(by decide), hj_4⟩
set_option maxRecDepth 20000 in
set_option maxHeartbeats 2000000 in
theorem Z_X2_dancesIn_69 (l : Launch) (D : va_G) (aC : Nat → ClassId) (b : Nat) (w : XW) (x1 : Int32) (x2 : Int32) (hI : Iv w)  : CnI l D aC b M_X2_dancesIn 2 44 0 0 [AR 69, AI x1, AI x2] w (fun r u => ((-2147483648) ≤ r.toInt ∧ r.toInt ≤ 2147483647) ∧ Jv w u) := by
  refine cn_I (own := RX2) (nm := "dancesIn") (L0 := [some (AR 69), some (AI x1), some (AI x2), none, none]) (by decide +kernel) rfl rfl (Nat.le_of_ble_eq_true rfl) rfl ?_
  intro p e s m args below meth c E hin
  have hJ : Jv w w := jv_rfl hI
  refine s_iconst (v := 0) E dX2_dancesIn_0 (by decide) ?_
  refine s_istore_n (L2 := [some (AR 69), some (AI x1), some (AI x2), some (AI 0), none]) E dX2_dancesIn_1 rfl (by decide) rfl ?_
  refine s_iconst (v := 0) E dX2_dancesIn_2 (by decide) ?_
  refine s_istore (L2 := [some (AR 69), some (AI x1), some (AI x2), some (AI 0), some (AI 0)]) E dX2_dancesIn_3 (by decide) rfl ?_
  refine z_loop (St := Int32 × Int32) (Pi := fun ⟨q5_3_0, q5_4_0⟩ v5 => (0 ≤ q5_4_0.toInt ∧ q5_4_0.toInt ≤ 15) ∧ Jv w v5) (Lf := fun ⟨q5_3_0, q5_4_0⟩ => [some (AR 69), some (AI x1), some (AI x2), some (AI q5_3_0), some (AI q5_4_0)]) (fun ⟨q5_3_0, q5_4_0⟩ _ => (16 - q5_4_0.toInt).toNat) ⟨0, 0⟩ ⟨⟨by decide, by decide⟩, hJ⟩ ?_
  rintro ⟨q5_3_0, q5_4_0⟩ v5 ⟨hq5_4, hj_1⟩ ih5
  refine s_loc (L2 := [some (AR 69), some (AI x1), some (AI x2), some (AI q5_3_0), some (AI q5_4_0)]) rfl ?_
  refine s_iload E dX2_dancesIn_5 rfl ?_
  refine s_aload_n E dX2_dancesIn_7 rfl rfl ?_
  refine s_gI E fg_X2_67 rfl rfl (jv_lt hj_1 (by decide)) dX2_dancesIn_8 ?_
  refine z_nm (P := fun z => z.toInt = (v5.2.2.1 69 7).toInt ∧ 0 ≤ z.toInt ∧ z.toInt ≤ 14) ⟨rfl, (rg_69_7 hj_1)⟩ (fun z_2 hz_2 => ?_)
  refine z_icmp_gt (tgt := 34) (u := q5_4_0.toInt) (v := z_2.toInt) E dX2_dancesIn_11 (by decide) rfl rfl (fun h_3 => ?_) (fun h_3 => ?_)
  ·
    refine s_iload_n E dX2_dancesIn_34 rfl rfl ?_
    exact r_int E dX2_dancesIn_35 ⟨⟨by have hb_ := z32 q5_3_0; omega, by have hb_ := z32 q5_3_0; omega⟩, hj_1⟩
  ·
    refine s_aload_n E dX2_dancesIn_14 rfl rfl ?_
    refine s_iload_n E dX2_dancesIn_15 rfl rfl ?_
    refine s_iload E dX2_dancesIn_16 rfl ?_
    refine s_vI (As := [AI x1, AI q5_4_0]) (S := []) E (Z_X2_placeOf_69 l D aC b v5 x1 q5_4_0 hj_1.1 ) cv_X2_111 rfl rfl rfl (jv_lt hj_1 (by decide)) (Nat.le_of_ble_eq_true rfl) (Nat.le_of_ble_eq_true rfl) ⟨(Nat.le_of_ble_eq_true rfl), (Nat.le_of_ble_eq_true rfl)⟩ (Nat.le_of_ble_eq_true rfl) dX2_dancesIn_18 (fun z_6 u_4 hp_5 => ?_)
    obtain ⟨hz_6, hp_5⟩ := hp_5
    subst hp_5
    refine s_iload_n E dX2_dancesIn_21 rfl rfl ?_
    refine z_icmp_ne (tgt := 28) (u := z_6.toInt) (v := x2.toInt) E dX2_dancesIn_22 (by decide) rfl rfl (fun h_8 => ?_) (fun h_8 => ?_)
    ·
      refine z_iinc (u := q5_4_0.toInt) (L2 := fun z_9 => [some (AR 69), some (AI x1), some (AI x2), some (AI q5_3_0), some (AI z_9)]) E dX2_dancesIn_28 rfl rfl (by decide) (fun _ => rfl) (by decide) (by omega) (by omega) (fun z_9 hz_9 => ?_)
      refine s_goto (tgt := 5) E dX2_dancesIn_31 (by decide) ?_
      exact ih5 ⟨q5_3_0, z_9⟩ v5 ⟨⟨by have hb_ := z32 z_9; omega, by have hb_ := z32 z_9; omega⟩, hj_1⟩ (by first | omega | (dsimp only; omega))
    ·
      refine z_iincW (L2 := fun z_10 => [some (AR 69), some (AI x1), some (AI x2), some (AI z_10), some (AI q5_4_0)]) E dX2_dancesIn_25 rfl (by decide) (fun _ => rfl) (fun z_10 => ?_)
      refine z_iinc (u := q5_4_0.toInt) (L2 := fun z_11 => [some (AR 69), some (AI x1), some (AI x2), some (AI z_10), some (AI z_11)]) E dX2_dancesIn_28 rfl rfl (by decide) (fun _ => rfl) (by decide) (by omega) (by omega) (fun z_11 hz_11 => ?_)
      refine s_goto (tgt := 5) E dX2_dancesIn_31 (by decide) ?_
      exact ih5 ⟨z_10, z_11⟩ v5 ⟨⟨by have hb_ := z32 z_11; omega, by have hb_ := z32 z_11; omega⟩, hj_1⟩ (by first | omega | (dsimp only; omega))
set_option maxRecDepth 20000 in
set_option maxHeartbeats 2000000 in
theorem Z_X9_likes_0 (l : Launch) (D : va_G) (aC : Nat → ClassId) (b : Nat) (w : XW) (x1 : Int32) (hI : Iv w)  : CnI l D aC b M_X9_likes 3 68 0 0 [AR 0, AI x1] w (fun r u => ((-2) ≤ r.toInt ∧ r.toInt ≤ 64 ∧ (¬ r.toInt = 0 ∨ (0 ≤ x1.toInt ∧ x1.toInt ≤ 5)) ∧ (¬ r.toInt = 0 ∨ (1 ≤ (w.2.2.1 5 3).toInt ∧ (w.2.2.1 5 3).toInt ≤ 6))) ∧ Jv w u) := by
  refine cn_I (own := RX9) (nm := "likes") (L0 := [some (AR 0), some (AI x1), none, none, none, none]) (by decide +kernel) rfl rfl (Nat.le_of_ble_eq_true rfl) rfl ?_
  intro p e s m args below meth c E hin
  have hJ : Jv w w := jv_rfl hI
  refine s_aload_n E dX9_likes_0 rfl rfl ?_
  refine s_gR (r := 2) E fg_X9_20 rfl rfl (jv_lt hJ (by decide)) (jv_r hJ (by decide +kernel)) dX9_likes_1 ?_
  refine s_iload_n E dX9_likes_4 rfl rfl ?_
  refine s_vI (As := [AI x1]) (S := []) E (Z_X0_hasLady_2 l D aC b w x1 hJ.1 ) cv_X9_139 rfl rfl rfl (jv_lt hJ (by decide)) (Nat.le_of_ble_eq_true rfl) (Nat.le_of_ble_eq_true rfl) ⟨(Nat.le_of_ble_eq_true rfl), (Nat.le_of_ble_eq_true rfl)⟩ (Nat.le_of_ble_eq_true rfl) dX9_likes_5 (fun z_3 u_1 hp_2 => ?_)
  obtain ⟨hz_3, hp_2⟩ := hp_2
  subst hp_2
  refine z_if_ne (tgt := 14) (u := z_3.toInt) E dX9_likes_8 (by decide) rfl (fun h_5 => ?_) (fun h_5 => ?_)
  ·
    refine s_iconst (v := 0) E dX9_likes_14 (by decide) ?_
    refine s_istore_n (L2 := [some (AR 0), some (AI x1), some (AI 0), none, none, none]) E dX9_likes_15 rfl (by decide) rfl ?_
    refine s_iconst (v := 0) E dX9_likes_16 (by decide) ?_
    refine s_istore_n (L2 := [some (AR 0), some (AI x1), some (AI 0), some (AI 0), none, none]) E dX9_likes_17 rfl (by decide) rfl ?_
    refine s_iconst (v := 0) E dX9_likes_18 (by decide) ?_
    refine s_istore (L2 := [some (AR 0), some (AI x1), some (AI 0), some (AI 0), some (AI 0), none]) E dX9_likes_19 (by decide) rfl ?_
    refine z_loop (St := Int32 × Int32 × Int32) (Pi := fun ⟨q21_2_5, q21_3_5, q21_4_5⟩ v21 => (0 ≤ q21_2_5.toInt ∧ q21_2_5.toInt ≤ 64) ∧ (0 ≤ q21_3_5.toInt ∧ q21_3_5.toInt ≤ 2147483647) ∧ (0 ≤ q21_4_5.toInt ∧ q21_4_5.toInt ≤ 8) ∧ Jv w v21) (Lf := fun ⟨q21_2_5, q21_3_5, q21_4_5⟩ => [some (AR 0), some (AI x1), some (AI q21_2_5), some (AI q21_3_5), some (AI q21_4_5), none]) (fun ⟨q21_2_5, q21_3_5, q21_4_5⟩ _ => (9 - q21_4_5.toInt).toNat) ⟨0, 0, 0⟩ ⟨⟨by decide, by decide⟩, ⟨by decide, by decide⟩, ⟨by decide, by decide⟩, hJ⟩ ?_
    rintro ⟨q21_2_5, q21_3_5, q21_4_5⟩ v21 ⟨hq21_2, hq21_3, hq21_4, hj_6⟩ ih21
    refine s_loc (L2 := [some (AR 0), some (AI x1), some (AI q21_2_5), some (AI q21_3_5), some (AI q21_4_5), none]) rfl ?_
    refine s_iload E dX9_likes_21 rfl ?_
    refine s_aload_n E dX9_likes_23 rfl rfl ?_
    refine s_gR (r := 2) E fg_X9_20 rfl rfl (jv_lt hj_6 (by decide)) (jv_r hj_6 (by decide +kernel)) dX9_likes_24 ?_
    refine s_gI E fg_X9_208 rfl rfl (jv_lt hj_6 (by decide)) dX9_likes_27 ?_
    refine z_nm (P := fun z => z.toInt = (v21.2.2.1 2 1).toInt ∧ 0 ≤ z.toInt ∧ z.toInt ≤ 8) ⟨rfl, (rg_2_1 hj_6)⟩ (fun z_7 hz_7 => ?_)
    refine z_icmp_ge (tgt := 63) (u := q21_4_5.toInt) (v := z_7.toInt) E dX9_likes_30 (by decide) rfl rfl (fun h_8 => ?_) (fun h_8 => ?_)
    ·
      refine s_iload_n E dX9_likes_63 rfl rfl ?_
      exact r_int E dX9_likes_64 ⟨⟨by have hb_ := z32 q21_2_5; omega, by have hb_ := z32 q21_2_5; omega, by have hb_ := z32 q21_2_5; have hc_ := z32 x1; omega, by have hb_ := z32 q21_2_5; have hc_ := z32 (w.2.2.1 5 3); omega⟩, hj_6⟩
    ·
      refine s_aload_n E dX9_likes_33 rfl rfl ?_
      refine s_gR (r := 69) E fg_X9_54 rfl rfl (jv_lt hj_6 (by decide)) (jv_r hj_6 (by decide +kernel)) dX9_likes_34 ?_
      refine s_iload_n E dX9_likes_37 rfl rfl ?_
      refine s_iload E dX9_likes_38 rfl ?_
      refine s_vI (As := [AI x1, AI q21_4_5]) (S := []) E (Z_X2_dancesIn_69 l D aC b v21 x1 q21_4_5 hj_6.1 ) cv_X9_211 rfl rfl rfl (jv_lt hj_6 (by decide)) (Nat.le_of_ble_eq_true rfl) (Nat.le_of_ble_eq_true rfl) ⟨(Nat.le_of_ble_eq_true rfl), (Nat.le_of_ble_eq_true rfl)⟩ (Nat.le_of_ble_eq_true rfl) dX9_likes_40 (fun z_11 u_9 hp_10 => ?_)
      obtain ⟨hz_11, hp_10⟩ := hp_10
      have hj_12 := jv_trans hj_6 hp_10
      refine s_istore (L2 := [some (AR 0), some (AI x1), some (AI q21_2_5), some (AI q21_3_5), some (AI q21_4_5), some (AI z_11)]) E dX9_likes_43 (by decide) rfl ?_
      refine s_iload E dX9_likes_45 rfl ?_
      refine s_iload_n E dX9_likes_47 rfl rfl ?_
      refine z_icmp_le (tgt := 57) (u := z_11.toInt) (v := q21_3_5.toInt) E dX9_likes_48 (by decide) rfl rfl (fun h_13 => ?_) (fun h_13 => ?_)
      ·
        refine z_iinc (u := q21_4_5.toInt) (L2 := fun z_14 => [some (AR 0), some (AI x1), some (AI q21_2_5), some (AI q21_3_5), some (AI z_14), some (AI z_11)]) E dX9_likes_57 rfl rfl (by decide) (fun _ => rfl) (by decide) (by omega) (by omega) (fun z_14 hz_14 => ?_)
        refine s_goto (tgt := 21) E dX9_likes_60 (by decide) ?_
        refine s_drop (i := 5) (L2 := [some (AR 0), some (AI x1), some (AI q21_2_5), some (AI q21_3_5), some (AI z_14), none]) rfl ?_
        exact ih21 ⟨q21_2_5, q21_3_5, z_14⟩ u_9 ⟨⟨by have hb_ := z32 q21_2_5; omega, by have hb_ := z32 q21_2_5; omega⟩, ⟨by have hb_ := z32 q21_3_5; omega, by have hb_ := z32 q21_3_5; omega⟩, ⟨by have hb_ := z32 z_14; omega, by have hb_ := z32 z_14; omega⟩, hj_12⟩ (by first | omega | (dsimp only; omega))
      ·
        refine s_iload E dX9_likes_51 rfl ?_
        refine s_istore_n (L2 := [some (AR 0), some (AI x1), some (AI q21_2_5), some (AI z_11), some (AI q21_4_5), some (AI z_11)]) E dX9_likes_53 rfl (by decide) rfl ?_
        refine s_iload E dX9_likes_54 rfl ?_
        refine s_istore_n (L2 := [some (AR 0), some (AI x1), some (AI q21_4_5), some (AI z_11), some (AI q21_4_5), some (AI z_11)]) E dX9_likes_56 rfl (by decide) rfl ?_
        refine z_iinc (u := q21_4_5.toInt) (L2 := fun z_15 => [some (AR 0), some (AI x1), some (AI q21_4_5), some (AI z_11), some (AI z_15), some (AI z_11)]) E dX9_likes_57 rfl rfl (by decide) (fun _ => rfl) (by decide) (by omega) (by omega) (fun z_15 hz_15 => ?_)
        refine s_goto (tgt := 21) E dX9_likes_60 (by decide) ?_
        refine s_drop (i := 5) (L2 := [some (AR 0), some (AI x1), some (AI q21_4_5), some (AI z_11), some (AI z_15), none]) rfl ?_
        exact ih21 ⟨q21_4_5, z_11, z_15⟩ u_9 ⟨⟨by have hb_ := z32 q21_4_5; omega, by have hb_ := z32 q21_4_5; omega⟩, ⟨by have hb_ := z32 z_11; omega, by have hb_ := z32 z_11; omega⟩, ⟨by have hb_ := z32 z_15; omega, by have hb_ := z32 z_15; omega⟩, hj_12⟩ (by first | omega | (dsimp only; omega))
  ·
    refine s_bipush (v := (-2)) E dX9_likes_11 (by decide) ?_
    exact r_int E dX9_likes_13 ⟨⟨by decide, by decide, by first | (left; decide) | (right; have hb_ := z32 x1; omega), by first | (left; decide) | (right; have hb_ := z32 (w.2.2.1 5 3); omega)⟩, hJ⟩
set_option maxRecDepth 20000 in
set_option maxHeartbeats 2000000 in
theorem Z_X9_apart_0 (l : Launch) (D : va_G) (aC : Nat → ClassId) (b : Nat) (w : XW) (x1 : Int32) (x2 : Int32) (x3 : Int32) (hI : Iv w)  : CnI l D aC b M_X9_apart 3 71 0 0 [AR 0, AI x1, AI x2, AI x3] w (fun r u => ((-2) ≤ r.toInt ∧ r.toInt ≤ 7 ∧ (¬ r.toInt = 0 ∨ (0 ≤ x1.toInt ∧ x1.toInt ≤ 5)) ∧ (¬ r.toInt = 0 ∨ (0 ≤ x2.toInt ∧ x2.toInt ≤ 5)) ∧ (¬ r.toInt = 0 ∨ (0 ≤ x3.toInt ∧ x3.toInt ≤ 14)) ∧ (¬ r.toInt = 0 ∨ (1 ≤ (w.2.2.1 5 3).toInt ∧ (w.2.2.1 5 3).toInt ≤ 6)) ∧ (¬ r.toInt = 0 ∨ (1 ≤ (w.2.2.1 2 0).toInt ∧ (w.2.2.1 2 0).toInt ≤ 2147483647))) ∧ Jv w u) := by
  refine cn_I (own := RX9) (nm := "apart") (L0 := [some (AR 0), some (AI x1), some (AI x2), some (AI x3)]) (by decide +kernel) rfl rfl (Nat.le_of_ble_eq_true rfl) rfl ?_
  intro p e s m args below meth c E hin
  have hJ : Jv w w := jv_rfl hI
  refine s_aload_n E dX9_apart_0 rfl rfl ?_
  refine s_gR (r := 2) E fg_X9_20 rfl rfl (jv_lt hJ (by decide)) (jv_r hJ (by decide +kernel)) dX9_apart_1 ?_
  refine s_iload_n E dX9_apart_4 rfl rfl ?_
  refine s_vI (As := [AI x1]) (S := []) E (Z_X0_hasLady_2 l D aC b w x1 hJ.1 ) cv_X9_139 rfl rfl rfl (jv_lt hJ (by decide)) (Nat.le_of_ble_eq_true rfl) (Nat.le_of_ble_eq_true rfl) ⟨(Nat.le_of_ble_eq_true rfl), (Nat.le_of_ble_eq_true rfl)⟩ (Nat.le_of_ble_eq_true rfl) dX9_apart_5 (fun z_3 u_1 hp_2 => ?_)
  obtain ⟨hz_3, hp_2⟩ := hp_2
  subst hp_2
  refine z_if_eq (tgt := 33) (u := z_3.toInt) E dX9_apart_8 (by decide) rfl (fun h_5 => ?_) (fun h_5 => ?_)
  ·
    refine s_bipush (v := (-2)) E dX9_apart_33 (by decide) ?_
    exact r_int E dX9_apart_35 ⟨⟨by decide, by decide, by first | (left; decide) | (right; have hb_ := z32 x1; omega), by first | (left; decide) | (right; have hb_ := z32 x2; omega), by first | (left; decide) | (right; have hb_ := z32 x3; omega), by first | (left; decide) | (right; have hb_ := z32 (w.2.2.1 5 3); omega), by first | (left; decide) | (right; have hb_ := z32 (w.2.2.1 2 0); omega)⟩, hJ⟩
  ·
    refine s_aload_n E dX9_apart_11 rfl rfl ?_
    refine s_gR (r := 2) E fg_X9_20 rfl rfl (jv_lt hJ (by decide)) (jv_r hJ (by decide +kernel)) dX9_apart_12 ?_
    refine s_iload_n E dX9_apart_15 rfl rfl ?_
    refine s_vI (As := [AI x2]) (S := []) E (Z_X0_hasLady_2 l D aC b w x2 hJ.1 ) cv_X9_139 rfl rfl rfl (jv_lt hJ (by decide)) (Nat.le_of_ble_eq_true rfl) (Nat.le_of_ble_eq_true rfl) ⟨(Nat.le_of_ble_eq_true rfl), (Nat.le_of_ble_eq_true rfl)⟩ (Nat.le_of_ble_eq_true rfl) dX9_apart_16 (fun z_8 u_6 hp_7 => ?_)
    obtain ⟨hz_8, hp_7⟩ := hp_7
    subst hp_7
    refine z_if_eq (tgt := 33) (u := z_8.toInt) E dX9_apart_19 (by decide) rfl (fun h_10 => ?_) (fun h_10 => ?_)
    ·
      refine s_bipush (v := (-2)) E dX9_apart_33 (by decide) ?_
      exact r_int E dX9_apart_35 ⟨⟨by decide, by decide, by first | (left; decide) | (right; have hb_ := z32 x1; omega), by first | (left; decide) | (right; have hb_ := z32 x2; omega), by first | (left; decide) | (right; have hb_ := z32 x3; omega), by first | (left; decide) | (right; have hb_ := z32 (w.2.2.1 5 3); omega), by first | (left; decide) | (right; have hb_ := z32 (w.2.2.1 2 0); omega)⟩, hJ⟩
    ·
      refine s_aload_n E dX9_apart_22 rfl rfl ?_
      refine s_gR (r := 2) E fg_X9_20 rfl rfl (jv_lt hJ (by decide)) (jv_r hJ (by decide +kernel)) dX9_apart_23 ?_
      refine s_iload_n E dX9_apart_26 rfl rfl ?_
      refine s_vI (As := [AI x3]) (S := []) E (Z_X0_hasDance_2 l D aC b w x3 hJ.1 ) cv_X9_153 rfl rfl rfl (jv_lt hJ (by decide)) (Nat.le_of_ble_eq_true rfl) (Nat.le_of_ble_eq_true rfl) ⟨(Nat.le_of_ble_eq_true rfl), (Nat.le_of_ble_eq_true rfl)⟩ (Nat.le_of_ble_eq_true rfl) dX9_apart_27 (fun z_13 u_11 hp_12 => ?_)
      obtain ⟨hz_13, hp_12⟩ := hp_12
      subst hp_12
      refine z_if_ne (tgt := 36) (u := z_13.toInt) E dX9_apart_30 (by decide) rfl (fun h_15 => ?_) (fun h_15 => ?_)
      ·
        refine s_aload_n E dX9_apart_36 rfl rfl ?_
        refine s_gR (r := 69) E fg_X9_54 rfl rfl (jv_lt hJ (by decide)) (jv_r hJ (by decide +kernel)) dX9_apart_37 ?_
        refine s_iload_n E dX9_apart_40 rfl rfl ?_
        refine s_aload_n E dX9_apart_41 rfl rfl ?_
        refine s_gR (r := 69) E fg_X9_54 rfl rfl (jv_lt hJ (by decide)) (jv_r hJ (by decide +kernel)) dX9_apart_42 ?_
        refine s_iload_n E dX9_apart_45 rfl rfl ?_
        refine s_iload_n E dX9_apart_46 rfl rfl ?_
        refine s_vI (As := [AI x1, AI x3]) (S := [AI x1, AR 69]) E (Z_X2_placeOf_69 l D aC b w x1 x3 hJ.1 ) cv_X9_159 rfl rfl rfl (jv_lt hJ (by decide)) (Nat.le_of_ble_eq_true rfl) (Nat.le_of_ble_eq_true rfl) ⟨(Nat.le_of_ble_eq_true rfl), (Nat.le_of_ble_eq_true rfl)⟩ (Nat.le_of_ble_eq_true rfl) dX9_apart_47 (fun z_18 u_16 hp_17 => ?_)
        obtain ⟨hz_18, hp_17⟩ := hp_17
        subst hp_17
        refine s_aload_n E dX9_apart_50 rfl rfl ?_
        refine s_gR (r := 69) E fg_X9_54 rfl rfl (jv_lt hJ (by decide)) (jv_r hJ (by decide +kernel)) dX9_apart_51 ?_
        refine s_iload_n E dX9_apart_54 rfl rfl ?_
        refine s_iload_n E dX9_apart_55 rfl rfl ?_
        refine s_vI (As := [AI x2, AI x3]) (S := [AI z_18, AI x1, AR 69]) E (Z_X2_placeOf_69 l D aC b w x2 x3 hJ.1 ) cv_X9_159 rfl rfl rfl (jv_lt hJ (by decide)) (Nat.le_of_ble_eq_true rfl) (Nat.le_of_ble_eq_true rfl) ⟨(Nat.le_of_ble_eq_true rfl), (Nat.le_of_ble_eq_true rfl)⟩ (Nat.le_of_ble_eq_true rfl) dX9_apart_56 (fun z_22 u_20 hp_21 => ?_)
        obtain ⟨hz_22, hp_21⟩ := hp_21
        subst hp_21
        refine s_vI (As := [AI x1, AI z_18, AI z_22]) (S := []) E (Z_X2_distance_69 l D aC b w x1 z_18 z_22 hJ.1 ) cv_X9_146 rfl rfl rfl (jv_lt hJ (by decide)) (Nat.le_of_ble_eq_true rfl) (Nat.le_of_ble_eq_true rfl) ⟨(Nat.le_of_ble_eq_true rfl), (Nat.le_of_ble_eq_true rfl)⟩ (Nat.le_of_ble_eq_true rfl) dX9_apart_59 (fun z_26 u_24 hp_25 => ?_)
        obtain ⟨hz_26, hp_25⟩ := hp_25
        have hj_27 := jv_trans hJ hp_25
        exact r_int E dX9_apart_62 ⟨⟨by have hb_ := z32 z_26; omega, by have hb_ := z32 z_26; omega, by have hb_ := z32 z_26; have hc_ := z32 x1; omega, by have hb_ := z32 z_26; have hc_ := z32 x2; omega, by have hb_ := z32 z_26; have hc_ := z32 x3; omega, by have hb_ := z32 z_26; have hc_ := z32 (w.2.2.1 5 3); omega, by have hb_ := z32 z_26; have hc_ := z32 (w.2.2.1 2 0); omega⟩, hj_27⟩
      ·
        refine s_bipush (v := (-2)) E dX9_apart_33 (by decide) ?_
        exact r_int E dX9_apart_35 ⟨⟨by decide, by decide, by first | (left; decide) | (right; have hb_ := z32 x1; omega), by first | (left; decide) | (right; have hb_ := z32 x2; omega), by first | (left; decide) | (right; have hb_ := z32 x3; omega), by first | (left; decide) | (right; have hb_ := z32 (w.2.2.1 5 3); omega), by first | (left; decide) | (right; have hb_ := z32 (w.2.2.1 2 0); omega)⟩, hJ⟩
set_option maxRecDepth 20000 in
set_option maxHeartbeats 2000000 in
theorem Z_X9_alone_0 (l : Launch) (D : va_G) (aC : Nat → ClassId) (b : Nat) (w : XW) (x1 : Int32) (hI : Iv w)  : CnI l D aC b M_X9_alone 2 44 0 0 [AR 0, AI x1] w (fun r u => ((-2147483648) ≤ r.toInt ∧ r.toInt ≤ 2147483647 ∧ (¬ r.toInt = 0 ∨ (0 ≤ x1.toInt ∧ x1.toInt ≤ 14)) ∧ (¬ r.toInt = 0 ∨ (1 ≤ (w.2.2.1 2 0).toInt ∧ (w.2.2.1 2 0).toInt ≤ 2147483647))) ∧ Jv w u) := by
  refine cn_I (own := RX9) (nm := "alone") (L0 := [some (AR 0), some (AI x1), none, none]) (by decide +kernel) rfl rfl (Nat.le_of_ble_eq_true rfl) rfl ?_
  intro p e s m args below meth c E hin
  have hJ : Jv w w := jv_rfl hI
  refine s_aload_n E dX9_alone_0 rfl rfl ?_
  refine s_gR (r := 2) E fg_X9_20 rfl rfl (jv_lt hJ (by decide)) (jv_r hJ (by decide +kernel)) dX9_alone_1 ?_
  refine s_iload_n E dX9_alone_4 rfl rfl ?_
  refine s_vI (As := [AI x1]) (S := []) E (Z_X0_hasDance_2 l D aC b w x1 hJ.1 ) cv_X9_153 rfl rfl rfl (jv_lt hJ (by decide)) (Nat.le_of_ble_eq_true rfl) (Nat.le_of_ble_eq_true rfl) ⟨(Nat.le_of_ble_eq_true rfl), (Nat.le_of_ble_eq_true rfl)⟩ (Nat.le_of_ble_eq_true rfl) dX9_alone_5 (fun z_3 u_1 hp_2 => ?_)
  obtain ⟨hz_3, hp_2⟩ := hp_2
  subst hp_2
  refine z_if_ne (tgt := 14) (u := z_3.toInt) E dX9_alone_8 (by decide) rfl (fun h_5 => ?_) (fun h_5 => ?_)
  ·
    refine s_iconst (v := 0) E dX9_alone_14 (by decide) ?_
    refine s_istore_n (L2 := [some (AR 0), some (AI x1), some (AI 0), none]) E dX9_alone_15 rfl (by decide) rfl ?_
    refine s_iconst (v := 0) E dX9_alone_16 (by decide) ?_
    refine s_istore_n (L2 := [some (AR 0), some (AI x1), some (AI 0), some (AI 0)]) E dX9_alone_17 rfl (by decide) rfl ?_
    refine z_loop (St := Int32 × Int32) (Pi := fun ⟨q18_2_5, q18_3_5⟩ v18 => (0 ≤ q18_3_5.toInt ∧ q18_3_5.toInt ≤ 6) ∧ (1 ≤ (v18.2.2.1 2 0).toInt ∧ (v18.2.2.1 2 0).toInt ≤ 2147483647) ∧ Jv w v18) (Lf := fun ⟨q18_2_5, q18_3_5⟩ => [some (AR 0), some (AI x1), some (AI q18_2_5), some (AI q18_3_5)]) (fun ⟨q18_2_5, q18_3_5⟩ _ => (7 - q18_3_5.toInt).toNat) ⟨0, 0⟩ ⟨⟨by decide, by decide⟩, ⟨by omega, by omega⟩, hJ⟩ ?_
    rintro ⟨q18_2_5, q18_3_5⟩ v18 ⟨hq18_3, ha18_0, hj_6⟩ ih18
    refine s_loc (L2 := [some (AR 0), some (AI x1), some (AI q18_2_5), some (AI q18_3_5)]) rfl ?_
    refine s_iload_n E dX9_alone_18 rfl rfl ?_
    refine s_aload_n E dX9_alone_19 rfl rfl ?_
    refine s_gR (r := 2) E fg_X9_20 rfl rfl (jv_lt hj_6 (by decide)) (jv_r hj_6 (by decide +kernel)) dX9_alone_20 ?_
    refine s_gR (r := 5) E fg_X9_133 rfl rfl (jv_lt hj_6 (by decide)) (jv_r hj_6 (by decide +kernel)) dX9_alone_23 ?_
    refine s_gI E fg_X9_200 rfl rfl (jv_lt hj_6 (by decide)) dX9_alone_26 ?_
    refine z_nm (P := fun z => z.toInt = (v18.2.2.1 5 3).toInt ∧ 0 ≤ z.toInt ∧ z.toInt ≤ 6) ⟨rfl, (rg_5_3 hj_6)⟩ (fun z_7 hz_7 => ?_)
    refine z_icmp_ge (tgt := 59) (u := q18_3_5.toInt) (v := z_7.toInt) E dX9_alone_29 (by decide) rfl rfl (fun h_8 => ?_) (fun h_8 => ?_)
    ·
      refine s_iload_n E dX9_alone_59 rfl rfl ?_
      exact r_int E dX9_alone_60 ⟨⟨by have hb_ := z32 q18_2_5; omega, by have hb_ := z32 q18_2_5; omega, by have hb_ := z32 q18_2_5; have hc_ := z32 x1; omega, by have hb_ := z32 q18_2_5; have hc_ := z32 (w.2.2.1 2 0); omega⟩, hj_6⟩
    ·
      refine s_aload_n E dX9_alone_32 rfl rfl ?_
      refine s_gR (r := 69) E fg_X9_54 rfl rfl (jv_lt hj_6 (by decide)) (jv_r hj_6 (by decide +kernel)) dX9_alone_33 ?_
      refine s_iload_n E dX9_alone_36 rfl rfl ?_
      refine s_iload_n E dX9_alone_37 rfl rfl ?_
      refine s_vI (As := [AI q18_3_5, AI x1]) (S := []) E (Z_X2_companyOf_69 l D aC b v18 q18_3_5 x1 hj_6.1 ) cv_X9_172 rfl rfl rfl (jv_lt hj_6 (by decide)) (Nat.le_of_ble_eq_true rfl) (Nat.le_of_ble_eq_true rfl) ⟨(Nat.le_of_ble_eq_true rfl), (Nat.le_of_ble_eq_true rfl)⟩ (Nat.le_of_ble_eq_true rfl) dX9_alone_38 (fun z_11 u_9 hp_10 => ?_)
      obtain ⟨hz_11, hp_10⟩ := hp_10
      subst hp_10
      refine s_iconst (v := 1) E dX9_alone_41 (by decide) ?_
      refine s_iload_n E dX9_alone_42 rfl rfl ?_
      refine z_shl1 5 (u := q18_3_5.toInt) (B := 32) E dX9_alone_43 rfl (by omega) (by omega) (by decide) (by decide) (fun z_13 hz_13 => ?_)
      refine z_icmp_ne (tgt := 53) (u := z_11.toInt) (v := z_13.toInt) E dX9_alone_44 (by decide) rfl rfl (fun h_14 => ?_) (fun h_14 => ?_)
      ·
        refine z_iinc (u := q18_3_5.toInt) (L2 := fun z_15 => [some (AR 0), some (AI x1), some (AI q18_2_5), some (AI z_15)]) E dX9_alone_53 rfl rfl (by decide) (fun _ => rfl) (by decide) (by omega) (by omega) (fun z_15 hz_15 => ?_)
        refine s_goto (tgt := 18) E dX9_alone_56 (by decide) ?_
        exact ih18 ⟨q18_2_5, z_15⟩ v18 ⟨⟨by have hb_ := z32 z_15; omega, by have hb_ := z32 z_15; omega⟩, ⟨by omega, by omega⟩, hj_6⟩ (by first | omega | (dsimp only; omega))
      ·
        refine s_iload_n E dX9_alone_47 rfl rfl ?_
        refine s_iconst (v := 1) E dX9_alone_48 (by decide) ?_
        refine s_iload_n E dX9_alone_49 rfl rfl ?_
        refine z_shl1 5 (u := q18_3_5.toInt) (B := 32) E dX9_alone_50 rfl (by omega) (by omega) (by decide) (by decide) (fun z_16 hz_16 => ?_)
        refine s_ior E dX9_alone_51 ?_
        refine z_any (fun z_17 => ?_)
        refine s_istore_n (L2 := [some (AR 0), some (AI x1), some (AI z_17), some (AI q18_3_5)]) E dX9_alone_52 rfl (by decide) rfl ?_
        refine z_iinc (u := q18_3_5.toInt) (L2 := fun z_18 => [some (AR 0), some (AI x1), some (AI z_17), some (AI z_18)]) E dX9_alone_53 rfl rfl (by decide) (fun _ => rfl) (by decide) (by omega) (by omega) (fun z_18 hz_18 => ?_)
        refine s_goto (tgt := 18) E dX9_alone_56 (by decide) ?_
        exact ih18 ⟨z_17, z_18⟩ v18 ⟨⟨by have hb_ := z32 z_18; omega, by have hb_ := z32 z_18; omega⟩, ⟨by omega, by omega⟩, hj_6⟩ (by first | omega | (dsimp only; omega))
  ·
    refine s_bipush (v := (-2)) E dX9_alone_11 (by decide) ?_
    exact r_int E dX9_alone_13 ⟨⟨by decide, by decide, by first | (left; decide) | (right; have hb_ := z32 x1; omega), by first | (left; decide) | (right; have hb_ := z32 (w.2.2.1 2 0); omega)⟩, hJ⟩
set_option maxRecDepth 20000 in
set_option maxHeartbeats 2000000 in
theorem Z_X9_empty_0 (l : Launch) (D : va_G) (aC : Nat → ClassId) (b : Nat) (w : XW) (x1 : Int32) (hI : Iv w)  : CnI l D aC b M_X9_empty 3 68 0 0 [AR 0, AI x1] w (fun r u => ((-2147483648) ≤ r.toInt ∧ r.toInt ≤ 2147483647 ∧ (¬ r.toInt = 0 ∨ (0 ≤ x1.toInt ∧ x1.toInt ≤ 14)) ∧ (¬ r.toInt = 0 ∨ (1 ≤ (w.2.2.1 2 0).toInt ∧ (w.2.2.1 2 0).toInt ≤ 2147483647))) ∧ Jv w u) := by
  refine cn_I (own := RX9) (nm := "empty") (L0 := [some (AR 0), some (AI x1), none, none]) (by decide +kernel) rfl rfl (Nat.le_of_ble_eq_true rfl) rfl ?_
  intro p e s m args below meth c E hin
  have hJ : Jv w w := jv_rfl hI
  refine s_aload_n E dX9_empty_0 rfl rfl ?_
  refine s_gR (r := 2) E fg_X9_20 rfl rfl (jv_lt hJ (by decide)) (jv_r hJ (by decide +kernel)) dX9_empty_1 ?_
  refine s_iload_n E dX9_empty_4 rfl rfl ?_
  refine s_vI (As := [AI x1]) (S := []) E (Z_X0_hasDance_2 l D aC b w x1 hJ.1 ) cv_X9_153 rfl rfl rfl (jv_lt hJ (by decide)) (Nat.le_of_ble_eq_true rfl) (Nat.le_of_ble_eq_true rfl) ⟨(Nat.le_of_ble_eq_true rfl), (Nat.le_of_ble_eq_true rfl)⟩ (Nat.le_of_ble_eq_true rfl) dX9_empty_5 (fun z_3 u_1 hp_2 => ?_)
  obtain ⟨hz_3, hp_2⟩ := hp_2
  subst hp_2
  refine z_if_ne (tgt := 14) (u := z_3.toInt) E dX9_empty_8 (by decide) rfl (fun h_5 => ?_) (fun h_5 => ?_)
  ·
    refine s_iconst (v := 0) E dX9_empty_14 (by decide) ?_
    refine s_istore_n (L2 := [some (AR 0), some (AI x1), some (AI 0), none]) E dX9_empty_15 rfl (by decide) rfl ?_
    refine s_iconst (v := 0) E dX9_empty_16 (by decide) ?_
    refine s_istore_n (L2 := [some (AR 0), some (AI x1), some (AI 0), some (AI 0)]) E dX9_empty_17 rfl (by decide) rfl ?_
    refine z_loop (St := Int32 × Int32) (Pi := fun ⟨q18_2_5, q18_3_5⟩ v18 => (0 ≤ q18_3_5.toInt ∧ q18_3_5.toInt ≤ 8) ∧ Jv w v18) (Lf := fun ⟨q18_2_5, q18_3_5⟩ => [some (AR 0), some (AI x1), some (AI q18_2_5), some (AI q18_3_5)]) (fun ⟨q18_2_5, q18_3_5⟩ _ => (9 - q18_3_5.toInt).toNat) ⟨0, 0⟩ ⟨⟨by decide, by decide⟩, hJ⟩ ?_
    rintro ⟨q18_2_5, q18_3_5⟩ v18 ⟨hq18_3, hj_6⟩ ih18
    refine s_loc (L2 := [some (AR 0), some (AI x1), some (AI q18_2_5), some (AI q18_3_5)]) rfl ?_
    refine s_iload_n E dX9_empty_18 rfl rfl ?_
    refine s_aload_n E dX9_empty_19 rfl rfl ?_
    refine s_gR (r := 2) E fg_X9_20 rfl rfl (jv_lt hj_6 (by decide)) (jv_r hj_6 (by decide +kernel)) dX9_empty_20 ?_
    refine s_gI E fg_X9_208 rfl rfl (jv_lt hj_6 (by decide)) dX9_empty_23 ?_
    refine z_nm (P := fun z => z.toInt = (v18.2.2.1 2 1).toInt ∧ 0 ≤ z.toInt ∧ z.toInt ≤ 8) ⟨rfl, (rg_2_1 hj_6)⟩ (fun z_7 hz_7 => ?_)
    refine z_icmp_ge (tgt := 53) (u := q18_3_5.toInt) (v := z_7.toInt) E dX9_empty_26 (by decide) rfl rfl (fun h_8 => ?_) (fun h_8 => ?_)
    ·
      refine s_iload_n E dX9_empty_53 rfl rfl ?_
      exact r_int E dX9_empty_54 ⟨⟨by have hb_ := z32 q18_2_5; omega, by have hb_ := z32 q18_2_5; omega, by have hb_ := z32 q18_2_5; have hc_ := z32 x1; omega, by have hb_ := z32 q18_2_5; have hc_ := z32 (w.2.2.1 2 0); omega⟩, hj_6⟩
    ·
      refine s_aload_n E dX9_empty_29 rfl rfl ?_
      refine s_gR (r := 69) E fg_X9_54 rfl rfl (jv_lt hj_6 (by decide)) (jv_r hj_6 (by decide +kernel)) dX9_empty_30 ?_
      refine s_iload_n E dX9_empty_33 rfl rfl ?_
      refine s_iload_n E dX9_empty_34 rfl rfl ?_
      refine s_vI (As := [AI q18_3_5, AI x1]) (S := []) E (Z_X2_ladiesIn_69 l D aC b v18 q18_3_5 x1 hj_6.1 ) cv_X9_162 rfl rfl rfl (jv_lt hj_6 (by decide)) (Nat.le_of_ble_eq_true rfl) (Nat.le_of_ble_eq_true rfl) ⟨(Nat.le_of_ble_eq_true rfl), (Nat.le_of_ble_eq_true rfl)⟩ (Nat.le_of_ble_eq_true rfl) dX9_empty_35 (fun z_11 u_9 hp_10 => ?_)
      obtain ⟨hz_11, hp_10⟩ := hp_10
      have hj_12 := jv_trans hj_6 hp_10
      refine z_if_ne (tgt := 47) (u := z_11.toInt) E dX9_empty_38 (by decide) rfl (fun h_13 => ?_) (fun h_13 => ?_)
      ·
        refine z_iinc (u := q18_3_5.toInt) (L2 := fun z_14 => [some (AR 0), some (AI x1), some (AI q18_2_5), some (AI z_14)]) E dX9_empty_47 rfl rfl (by decide) (fun _ => rfl) (by decide) (by omega) (by omega) (fun z_14 hz_14 => ?_)
        refine s_goto (tgt := 18) E dX9_empty_50 (by decide) ?_
        exact ih18 ⟨q18_2_5, z_14⟩ u_9 ⟨⟨by have hb_ := z32 z_14; omega, by have hb_ := z32 z_14; omega⟩, hj_12⟩ (by first | omega | (dsimp only; omega))
      ·
        refine s_iload_n E dX9_empty_41 rfl rfl ?_
        refine s_iconst (v := 1) E dX9_empty_42 (by decide) ?_
        refine s_iload_n E dX9_empty_43 rfl rfl ?_
        refine z_shl1 7 (u := q18_3_5.toInt) (B := 128) E dX9_empty_44 rfl (by omega) (by omega) (by decide) (by decide) (fun z_15 hz_15 => ?_)
        refine s_ior E dX9_empty_45 ?_
        refine z_any (fun z_16 => ?_)
        refine s_istore_n (L2 := [some (AR 0), some (AI x1), some (AI z_16), some (AI q18_3_5)]) E dX9_empty_46 rfl (by decide) rfl ?_
        refine z_iinc (u := q18_3_5.toInt) (L2 := fun z_17 => [some (AR 0), some (AI x1), some (AI z_16), some (AI z_17)]) E dX9_empty_47 rfl rfl (by decide) (fun _ => rfl) (by decide) (by omega) (by omega) (fun z_17 hz_17 => ?_)
        refine s_goto (tgt := 18) E dX9_empty_50 (by decide) ?_
        exact ih18 ⟨z_16, z_17⟩ u_9 ⟨⟨by have hb_ := z32 z_17; omega, by have hb_ := z32 z_17; omega⟩, hj_12⟩ (by first | omega | (dsimp only; omega))
  ·
    refine s_bipush (v := (-2)) E dX9_empty_11 (by decide) ?_
    exact r_int E dX9_empty_13 ⟨⟨by decide, by decide, by first | (left; decide) | (right; have hb_ := z32 x1; omega), by first | (left; decide) | (right; have hb_ := z32 (w.2.2.1 2 0); omega)⟩, hJ⟩
set_option maxRecDepth 20000 in
set_option maxHeartbeats 2000000 in
theorem Z_X9_late_0 (l : Launch) (D : va_G) (aC : Nat → ClassId) (b : Nat) (w : XW) (x1 : Int32) (hI : Iv w)  : CnI l D aC b M_X9_late 2 44 0 0 [AR 0, AI x1] w (fun r u => ((-2) ≤ r.toInt ∧ r.toInt ≤ 14) ∧ Jv w u) := by
  refine cn_I (own := RX9) (nm := "late") (L0 := [some (AR 0), some (AI x1), none]) (by decide +kernel) rfl rfl (Nat.le_of_ble_eq_true rfl) rfl ?_
  intro p e s m args below meth c E hin
  have hJ : Jv w w := jv_rfl hI
  refine s_aload_n E dX9_late_0 rfl rfl ?_
  refine s_gR (r := 2) E fg_X9_20 rfl rfl (jv_lt hJ (by decide)) (jv_r hJ (by decide +kernel)) dX9_late_1 ?_
  refine s_iload_n E dX9_late_4 rfl rfl ?_
  refine s_vI (As := [AI x1]) (S := []) E (Z_X0_hasLady_2 l D aC b w x1 hJ.1 ) cv_X9_139 rfl rfl rfl (jv_lt hJ (by decide)) (Nat.le_of_ble_eq_true rfl) (Nat.le_of_ble_eq_true rfl) ⟨(Nat.le_of_ble_eq_true rfl), (Nat.le_of_ble_eq_true rfl)⟩ (Nat.le_of_ble_eq_true rfl) dX9_late_5 (fun z_3 u_1 hp_2 => ?_)
  obtain ⟨hz_3, hp_2⟩ := hp_2
  subst hp_2
  refine z_if_ne (tgt := 14) (u := z_3.toInt) E dX9_late_8 (by decide) rfl (fun h_5 => ?_) (fun h_5 => ?_)
  ·
    refine s_aload_n E dX9_late_14 rfl rfl ?_
    refine s_gR (r := 2) E fg_X9_20 rfl rfl (jv_lt hJ (by decide)) (jv_r hJ (by decide +kernel)) dX9_late_15 ?_
    refine s_gI E fg_X9_169 rfl rfl (jv_lt hJ (by decide)) dX9_late_18 ?_
    refine z_nm (P := fun z => z.toInt = (w.2.2.1 2 2).toInt ∧ 0 ≤ z.toInt ∧ z.toInt ≤ 14) ⟨rfl, (rg_2_2 hJ)⟩ (fun z_6 hz_6 => ?_)
    refine s_istore_n (L2 := [some (AR 0), some (AI x1), some (AI z_6)]) E dX9_late_21 rfl (by decide) rfl ?_
    refine z_loop (St := Int32) (Pi := fun q22_2_6 v22 => (0 ≤ q22_2_6.toInt ∧ q22_2_6.toInt ≤ 14) ∧ (1 ≤ (v22.2.2.1 5 3).toInt ∧ (v22.2.2.1 5 3).toInt ≤ 6) ∧ Jv w v22) (Lf := fun q22_2_6 => [some (AR 0), some (AI x1), some (AI q22_2_6)]) (fun q22_2_6 _ => (q22_2_6.toInt - 0).toNat) z_6 ⟨⟨by have hb_ := z32 z_6; omega, by have hb_ := z32 z_6; omega⟩, ⟨by omega, by omega⟩, hJ⟩ ?_
    rintro q22_2_6 v22 ⟨hq22_2, ha22_0, hj_7⟩ ih22
    refine s_loc (L2 := [some (AR 0), some (AI x1), some (AI q22_2_6)]) rfl ?_
    refine s_iload_n E dX9_late_22 rfl rfl ?_
    refine z_if_le (tgt := 57) (u := q22_2_6.toInt) E dX9_late_23 (by decide) rfl (fun h_8 => ?_) (fun h_8 => ?_)
    ·
      refine s_iconst (v := (-1)) E dX9_late_57 (by decide) ?_
      exact r_int E dX9_late_58 ⟨(by decide), hj_7⟩
    ·
      refine s_aload_n E dX9_late_26 rfl rfl ?_
      refine s_gR (r := 69) E fg_X9_54 rfl rfl (jv_lt hj_7 (by decide)) (jv_r hj_7 (by decide +kernel)) dX9_late_27 ?_
      refine s_iload_n E dX9_late_30 rfl rfl ?_
      refine s_iload_n E dX9_late_31 rfl rfl ?_
      refine s_vI (As := [AI x1, AI q22_2_6]) (S := []) E (Z_X2_placeOf_69 l D aC b v22 x1 q22_2_6 hj_7.1 ) cv_X9_159 rfl rfl rfl (jv_lt hj_7 (by decide)) (Nat.le_of_ble_eq_true rfl) (Nat.le_of_ble_eq_true rfl) ⟨(Nat.le_of_ble_eq_true rfl), (Nat.le_of_ble_eq_true rfl)⟩ (Nat.le_of_ble_eq_true rfl) dX9_late_32 (fun z_11 u_9 hp_10 => ?_)
      obtain ⟨hz_11, hp_10⟩ := hp_10
      subst hp_10
      refine s_aload_n E dX9_late_35 rfl rfl ?_
      refine s_gR (r := 69) E fg_X9_54 rfl rfl (jv_lt hj_7 (by decide)) (jv_r hj_7 (by decide +kernel)) dX9_late_36 ?_
      refine s_iload_n E dX9_late_39 rfl rfl ?_
      refine s_iload_n E dX9_late_40 rfl rfl ?_
      refine s_iconst (v := 1) E dX9_late_41 (by decide) ?_
      refine z_isub (u := q22_2_6.toInt) (v := 1) E dX9_late_42 rfl (by decide) (by omega) (by omega) (fun z_13 hz_13 => ?_)
      refine s_vI (As := [AI x1, AI z_13]) (S := [AI z_11]) E (Z_X2_placeOf_69 l D aC b v22 x1 z_13 hj_7.1 ) cv_X9_159 rfl rfl rfl (jv_lt hj_7 (by decide)) (Nat.le_of_ble_eq_true rfl) (Nat.le_of_ble_eq_true rfl) ⟨(Nat.le_of_ble_eq_true rfl), (Nat.le_of_ble_eq_true rfl)⟩ (Nat.le_of_ble_eq_true rfl) dX9_late_43 (fun z_16 u_14 hp_15 => ?_)
      obtain ⟨hz_16, hp_15⟩ := hp_15
      subst hp_15
      refine z_icmp_eq (tgt := 51) (u := z_11.toInt) (v := z_16.toInt) E dX9_late_46 (by decide) rfl rfl (fun h_18 => ?_) (fun h_18 => ?_)
      ·
        refine z_iinc (u := q22_2_6.toInt) (L2 := fun z_19 => [some (AR 0), some (AI x1), some (AI z_19)]) E dX9_late_51 rfl rfl (by decide) (fun _ => rfl) (by decide) (by omega) (by omega) (fun z_19 hz_19 => ?_)
        refine s_goto (tgt := 22) E dX9_late_54 (by decide) ?_
        exact ih22 z_19 v22 ⟨⟨by have hb_ := z32 z_19; omega, by have hb_ := z32 z_19; omega⟩, ⟨by omega, by omega⟩, hj_7⟩ (by first | omega | (dsimp only; omega))
      ·
        refine s_iload_n E dX9_late_49 rfl rfl ?_
        exact r_int E dX9_late_50 ⟨⟨by have hb_ := z32 q22_2_6; omega, by have hb_ := z32 q22_2_6; omega⟩, hj_7⟩
  ·
    refine s_bipush (v := (-2)) E dX9_late_11 (by decide) ?_
    exact r_int E dX9_late_13 ⟨(by decide), hJ⟩
set_option maxRecDepth 20000 in
set_option maxHeartbeats 2000000 in
theorem Z_X9_waits_0 (l : Launch) (D : va_G) (aC : Nat → ClassId) (b : Nat) (w : XW) (x1 : Int32) (hI : Iv w)  : CnI l D aC b M_X9_waits 2 44 0 0 [AR 0, AI x1] w (fun r u => ((-2147483648) ≤ r.toInt ∧ r.toInt ≤ 2147483647 ∧ (¬ r.toInt = 0 ∨ (0 ≤ x1.toInt ∧ x1.toInt ≤ 5)) ∧ (¬ r.toInt = 0 ∨ (1 ≤ (w.2.2.1 5 3).toInt ∧ (w.2.2.1 5 3).toInt ≤ 6))) ∧ Jv w u) := by
  refine cn_I (own := RX9) (nm := "waits") (L0 := [some (AR 0), some (AI x1), none, none, none, none]) (by decide +kernel) rfl rfl (Nat.le_of_ble_eq_true rfl) rfl ?_
  intro p e s m args below meth c E hin
  have hJ : Jv w w := jv_rfl hI
  refine s_aload_n E dX9_waits_0 rfl rfl ?_
  refine s_gR (r := 2) E fg_X9_20 rfl rfl (jv_lt hJ (by decide)) (jv_r hJ (by decide +kernel)) dX9_waits_1 ?_
  refine s_iload_n E dX9_waits_4 rfl rfl ?_
  refine s_vI (As := [AI x1]) (S := []) E (Z_X0_hasLady_2 l D aC b w x1 hJ.1 ) cv_X9_139 rfl rfl rfl (jv_lt hJ (by decide)) (Nat.le_of_ble_eq_true rfl) (Nat.le_of_ble_eq_true rfl) ⟨(Nat.le_of_ble_eq_true rfl), (Nat.le_of_ble_eq_true rfl)⟩ (Nat.le_of_ble_eq_true rfl) dX9_waits_5 (fun z_3 u_1 hp_2 => ?_)
  obtain ⟨hz_3, hp_2⟩ := hp_2
  subst hp_2
  refine z_if_ne (tgt := 14) (u := z_3.toInt) E dX9_waits_8 (by decide) rfl (fun h_5 => ?_) (fun h_5 => ?_)
  ·
    refine s_iconst (v := 0) E dX9_waits_14 (by decide) ?_
    refine s_istore_n (L2 := [some (AR 0), some (AI x1), some (AI 0), none, none, none]) E dX9_waits_15 rfl (by decide) rfl ?_
    refine s_iconst (v := 0) E dX9_waits_16 (by decide) ?_
    refine s_istore_n (L2 := [some (AR 0), some (AI x1), some (AI 0), some (AI 0), none, none]) E dX9_waits_17 rfl (by decide) rfl ?_
    refine z_loop (St := Int32 × Int32) (Pi := fun ⟨q18_2_5, q18_3_5⟩ v18 => (0 ≤ q18_3_5.toInt ∧ q18_3_5.toInt ≤ 14) ∧ (1 ≤ (v18.2.2.1 5 3).toInt ∧ (v18.2.2.1 5 3).toInt ≤ 6) ∧ Jv w v18) (Lf := fun ⟨q18_2_5, q18_3_5⟩ => [some (AR 0), some (AI x1), some (AI q18_2_5), some (AI q18_3_5), none, none]) (fun ⟨q18_2_5, q18_3_5⟩ _ => (15 - q18_3_5.toInt).toNat) ⟨0, 0⟩ ⟨⟨by decide, by decide⟩, ⟨by omega, by omega⟩, hJ⟩ ?_
    rintro ⟨q18_2_5, q18_3_5⟩ v18 ⟨hq18_3, ha18_0, hj_6⟩ ih18
    refine s_loc (L2 := [some (AR 0), some (AI x1), some (AI q18_2_5), some (AI q18_3_5), none, none]) rfl ?_
    refine s_iload_n E dX9_waits_18 rfl rfl ?_
    refine s_aload_n E dX9_waits_19 rfl rfl ?_
    refine s_gR (r := 2) E fg_X9_20 rfl rfl (jv_lt hj_6 (by decide)) (jv_r hj_6 (by decide +kernel)) dX9_waits_20 ?_
    refine s_gI E fg_X9_169 rfl rfl (jv_lt hj_6 (by decide)) dX9_waits_23 ?_
    refine z_nm (P := fun z => z.toInt = (v18.2.2.1 2 2).toInt ∧ 0 ≤ z.toInt ∧ z.toInt ≤ 14) ⟨rfl, (rg_2_2 hj_6)⟩ (fun z_7 hz_7 => ?_)
    refine z_icmp_ge (tgt := 89) (u := q18_3_5.toInt) (v := z_7.toInt) E dX9_waits_26 (by decide) rfl rfl (fun h_8 => ?_) (fun h_8 => ?_)
    ·
      refine s_iload_n E dX9_waits_89 rfl rfl ?_
      exact r_int E dX9_waits_90 ⟨⟨by have hb_ := z32 q18_2_5; omega, by have hb_ := z32 q18_2_5; omega, by have hb_ := z32 q18_2_5; have hc_ := z32 x1; omega, by have hb_ := z32 q18_2_5; have hc_ := z32 (w.2.2.1 5 3); omega⟩, hj_6⟩
    ·
      refine s_aload_n E dX9_waits_29 rfl rfl ?_
      refine s_gR (r := 69) E fg_X9_54 rfl rfl (jv_lt hj_6 (by decide)) (jv_r hj_6 (by decide +kernel)) dX9_waits_30 ?_
      refine s_iload_n E dX9_waits_33 rfl rfl ?_
      refine s_iload_n E dX9_waits_34 rfl rfl ?_
      refine s_vI (As := [AI x1, AI q18_3_5]) (S := []) E (Z_X2_placeOf_69 l D aC b v18 x1 q18_3_5 hj_6.1 ) cv_X9_159 rfl rfl rfl (jv_lt hj_6 (by decide)) (Nat.le_of_ble_eq_true rfl) (Nat.le_of_ble_eq_true rfl) ⟨(Nat.le_of_ble_eq_true rfl), (Nat.le_of_ble_eq_true rfl)⟩ (Nat.le_of_ble_eq_true rfl) dX9_waits_35 (fun z_11 u_9 hp_10 => ?_)
      obtain ⟨hz_11, hp_10⟩ := hp_10
      subst hp_10
      refine s_istore (L2 := [some (AR 0), some (AI x1), some (AI q18_2_5), some (AI q18_3_5), some (AI z_11), none]) E dX9_waits_38 (by decide) rfl ?_
      refine s_aload_n E dX9_waits_40 rfl rfl ?_
      refine s_gR (r := 69) E fg_X9_54 rfl rfl (jv_lt hj_6 (by decide)) (jv_r hj_6 (by decide +kernel)) dX9_waits_41 ?_
      refine s_iload_n E dX9_waits_44 rfl rfl ?_
      refine s_iload_n E dX9_waits_45 rfl rfl ?_
      refine s_vI (As := [AI x1, AI q18_3_5]) (S := []) E (Z_X2_goalOf_69 l D aC b v18 x1 q18_3_5 hj_6.1 ) cv_X9_156 rfl rfl rfl (jv_lt hj_6 (by decide)) (Nat.le_of_ble_eq_true rfl) (Nat.le_of_ble_eq_true rfl) ⟨(Nat.le_of_ble_eq_true rfl), (Nat.le_of_ble_eq_true rfl)⟩ (Nat.le_of_ble_eq_true rfl) dX9_waits_46 (fun z_15 u_13 hp_14 => ?_)
      obtain ⟨hz_15, hp_14⟩ := hp_14
      subst hp_14
      refine s_istore (L2 := [some (AR 0), some (AI x1), some (AI q18_2_5), some (AI q18_3_5), some (AI z_11), some (AI z_15)]) E dX9_waits_49 (by decide) rfl ?_
      refine s_iload E dX9_waits_51 rfl ?_
      refine s_iconst (v := (-1)) E dX9_waits_53 (by decide) ?_
      refine z_icmp_eq (tgt := 83) (u := z_15.toInt) (v := (-1)) E dX9_waits_54 (by decide) rfl (by decide) (fun h_17 => ?_) (fun h_17 => ?_)
      ·
        refine z_iinc (u := q18_3_5.toInt) (L2 := fun z_18 => [some (AR 0), some (AI x1), some (AI q18_2_5), some (AI z_18), some (AI z_11), some (AI z_15)]) E dX9_waits_83 rfl rfl (by decide) (fun _ => rfl) (by decide) (by omega) (by omega) (fun z_18 hz_18 => ?_)
        refine s_goto (tgt := 18) E dX9_waits_86 (by decide) ?_
        refine s_drop (i := 4) (L2 := [some (AR 0), some (AI x1), some (AI q18_2_5), some (AI z_18), none, some (AI z_15)]) rfl ?_
        refine s_drop (i := 5) (L2 := [some (AR 0), some (AI x1), some (AI q18_2_5), some (AI z_18), none, none]) rfl ?_
        exact ih18 ⟨q18_2_5, z_18⟩ v18 ⟨⟨by have hb_ := z32 z_18; omega, by have hb_ := z32 z_18; omega⟩, ⟨by omega, by omega⟩, hj_6⟩ (by first | omega | (dsimp only; omega))
      ·
        refine s_iload E dX9_waits_57 rfl ?_
        refine s_iload E dX9_waits_59 rfl ?_
        refine z_icmp_eq (tgt := 83) (u := z_15.toInt) (v := z_11.toInt) E dX9_waits_61 (by decide) rfl rfl (fun h_19 => ?_) (fun h_19 => ?_)
        ·
          refine z_iinc (u := q18_3_5.toInt) (L2 := fun z_20 => [some (AR 0), some (AI x1), some (AI q18_2_5), some (AI z_20), some (AI z_11), some (AI z_15)]) E dX9_waits_83 rfl rfl (by decide) (fun _ => rfl) (by decide) (by omega) (by omega) (fun z_20 hz_20 => ?_)
          refine s_goto (tgt := 18) E dX9_waits_86 (by decide) ?_
          refine s_drop (i := 4) (L2 := [some (AR 0), some (AI x1), some (AI q18_2_5), some (AI z_20), none, some (AI z_15)]) rfl ?_
          refine s_drop (i := 5) (L2 := [some (AR 0), some (AI x1), some (AI q18_2_5), some (AI z_20), none, none]) rfl ?_
          exact ih18 ⟨q18_2_5, z_20⟩ v18 ⟨⟨by have hb_ := z32 z_20; omega, by have hb_ := z32 z_20; omega⟩, ⟨by omega, by omega⟩, hj_6⟩ (by first | omega | (dsimp only; omega))
        ·
          refine s_aload_n E dX9_waits_64 rfl rfl ?_
          refine s_gR (r := 69) E fg_X9_54 rfl rfl (jv_lt hj_6 (by decide)) (jv_r hj_6 (by decide +kernel)) dX9_waits_65 ?_
          refine s_iload_n E dX9_waits_68 rfl rfl ?_
          refine s_iload_n E dX9_waits_69 rfl rfl ?_
          refine s_iconst (v := 1) E dX9_waits_70 (by decide) ?_
          refine z_iadd (u := q18_3_5.toInt) (v := 1) E dX9_waits_71 rfl (by decide) (by omega) (by omega) (fun z_21 hz_21 => ?_)
          refine s_vI (As := [AI x1, AI z_21]) (S := []) E (Z_X2_placeOf_69 l D aC b v18 x1 z_21 hj_6.1 ) cv_X9_159 rfl rfl rfl (jv_lt hj_6 (by decide)) (Nat.le_of_ble_eq_true rfl) (Nat.le_of_ble_eq_true rfl) ⟨(Nat.le_of_ble_eq_true rfl), (Nat.le_of_ble_eq_true rfl)⟩ (Nat.le_of_ble_eq_true rfl) dX9_waits_72 (fun z_24 u_22 hp_23 => ?_)
          obtain ⟨hz_24, hp_23⟩ := hp_23
          subst hp_23
          refine s_iload E dX9_waits_75 rfl ?_
          refine z_icmp_ne (tgt := 83) (u := z_24.toInt) (v := z_11.toInt) E dX9_waits_77 (by decide) rfl rfl (fun h_26 => ?_) (fun h_26 => ?_)
          ·
            refine z_iinc (u := q18_3_5.toInt) (L2 := fun z_27 => [some (AR 0), some (AI x1), some (AI q18_2_5), some (AI z_27), some (AI z_11), some (AI z_15)]) E dX9_waits_83 rfl rfl (by decide) (fun _ => rfl) (by decide) (by omega) (by omega) (fun z_27 hz_27 => ?_)
            refine s_goto (tgt := 18) E dX9_waits_86 (by decide) ?_
            refine s_drop (i := 4) (L2 := [some (AR 0), some (AI x1), some (AI q18_2_5), some (AI z_27), none, some (AI z_15)]) rfl ?_
            refine s_drop (i := 5) (L2 := [some (AR 0), some (AI x1), some (AI q18_2_5), some (AI z_27), none, none]) rfl ?_
            exact ih18 ⟨q18_2_5, z_27⟩ v18 ⟨⟨by have hb_ := z32 z_27; omega, by have hb_ := z32 z_27; omega⟩, ⟨by omega, by omega⟩, hj_6⟩ (by first | omega | (dsimp only; omega))
          ·
            refine z_iincW (L2 := fun z_28 => [some (AR 0), some (AI x1), some (AI z_28), some (AI q18_3_5), some (AI z_11), some (AI z_15)]) E dX9_waits_80 rfl (by decide) (fun _ => rfl) (fun z_28 => ?_)
            refine z_iinc (u := q18_3_5.toInt) (L2 := fun z_29 => [some (AR 0), some (AI x1), some (AI z_28), some (AI z_29), some (AI z_11), some (AI z_15)]) E dX9_waits_83 rfl rfl (by decide) (fun _ => rfl) (by decide) (by omega) (by omega) (fun z_29 hz_29 => ?_)
            refine s_goto (tgt := 18) E dX9_waits_86 (by decide) ?_
            refine s_drop (i := 4) (L2 := [some (AR 0), some (AI x1), some (AI z_28), some (AI z_29), none, some (AI z_15)]) rfl ?_
            refine s_drop (i := 5) (L2 := [some (AR 0), some (AI x1), some (AI z_28), some (AI z_29), none, none]) rfl ?_
            exact ih18 ⟨z_28, z_29⟩ v18 ⟨⟨by have hb_ := z32 z_29; omega, by have hb_ := z32 z_29; omega⟩, ⟨by omega, by omega⟩, hj_6⟩ (by first | omega | (dsimp only; omega))
  ·
    refine s_bipush (v := (-2)) E dX9_waits_11 (by decide) ?_
    exact r_int E dX9_waits_13 ⟨⟨by decide, by decide, by first | (left; decide) | (right; have hb_ := z32 x1; omega), by first | (left; decide) | (right; have hb_ := z32 (w.2.2.1 5 3); omega)⟩, hJ⟩
set_option maxRecDepth 20000 in
set_option maxHeartbeats 2000000 in
theorem Z_X9_mate_0 (l : Launch) (D : va_G) (aC : Nat → ClassId) (b : Nat) (w : XW) (x1 : Int32) (hI : Iv w)  : CnI l D aC b M_X9_mate 3 68 0 0 [AR 0, AI x1] w (fun r u => ((-2) ≤ r.toInt ∧ r.toInt ≤ 64 ∧ (¬ r.toInt = 0 ∨ (0 ≤ x1.toInt ∧ x1.toInt ≤ 5)) ∧ (¬ r.toInt = 0 ∨ (1 ≤ (w.2.2.1 5 3).toInt ∧ (w.2.2.1 5 3).toInt ≤ 6))) ∧ Jv w u) := by
  refine cn_I (own := RX9) (nm := "mate") (L0 := [some (AR 0), some (AI x1), none, none, none, none]) (by decide +kernel) rfl rfl (Nat.le_of_ble_eq_true rfl) rfl ?_
  intro p e s m args below meth c E hin
  have hJ : Jv w w := jv_rfl hI
  refine s_aload_n E dX9_mate_0 rfl rfl ?_
  refine s_gR (r := 2) E fg_X9_20 rfl rfl (jv_lt hJ (by decide)) (jv_r hJ (by decide +kernel)) dX9_mate_1 ?_
  refine s_iload_n E dX9_mate_4 rfl rfl ?_
  refine s_vI (As := [AI x1]) (S := []) E (Z_X0_hasLady_2 l D aC b w x1 hJ.1 ) cv_X9_139 rfl rfl rfl (jv_lt hJ (by decide)) (Nat.le_of_ble_eq_true rfl) (Nat.le_of_ble_eq_true rfl) ⟨(Nat.le_of_ble_eq_true rfl), (Nat.le_of_ble_eq_true rfl)⟩ (Nat.le_of_ble_eq_true rfl) dX9_mate_5 (fun z_3 u_1 hp_2 => ?_)
  obtain ⟨hz_3, hp_2⟩ := hp_2
  subst hp_2
  refine z_if_ne (tgt := 14) (u := z_3.toInt) E dX9_mate_8 (by decide) rfl (fun h_5 => ?_) (fun h_5 => ?_)
  ·
    refine s_iconst (v := (-1)) E dX9_mate_14 (by decide) ?_
    refine s_istore_n (L2 := [some (AR 0), some (AI x1), some (AI (-1)), none, none, none]) E dX9_mate_15 rfl (by decide) rfl ?_
    refine s_iconst (v := 0) E dX9_mate_16 (by decide) ?_
    refine s_istore_n (L2 := [some (AR 0), some (AI x1), some (AI (-1)), some (AI 0), none, none]) E dX9_mate_17 rfl (by decide) rfl ?_
    refine s_iconst (v := 0) E dX9_mate_18 (by decide) ?_
    refine s_istore (L2 := [some (AR 0), some (AI x1), some (AI (-1)), some (AI 0), some (AI 0), none]) E dX9_mate_19 (by decide) rfl ?_
    refine z_loop (St := Int32 × Int32 × Int32) (Pi := fun ⟨q21_2_5, q21_3_5, q21_4_5⟩ v21 => ((-1) ≤ q21_2_5.toInt ∧ q21_2_5.toInt ≤ 64) ∧ (0 ≤ q21_3_5.toInt ∧ q21_3_5.toInt ≤ 2147483647) ∧ (0 ≤ q21_4_5.toInt ∧ q21_4_5.toInt ≤ 6) ∧ Jv w v21) (Lf := fun ⟨q21_2_5, q21_3_5, q21_4_5⟩ => [some (AR 0), some (AI x1), some (AI q21_2_5), some (AI q21_3_5), some (AI q21_4_5), none]) (fun ⟨q21_2_5, q21_3_5, q21_4_5⟩ _ => (7 - q21_4_5.toInt).toNat) ⟨(-1), 0, 0⟩ ⟨⟨by decide, by decide⟩, ⟨by decide, by decide⟩, ⟨by decide, by decide⟩, hJ⟩ ?_
    rintro ⟨q21_2_5, q21_3_5, q21_4_5⟩ v21 ⟨hq21_2, hq21_3, hq21_4, hj_6⟩ ih21
    refine s_loc (L2 := [some (AR 0), some (AI x1), some (AI q21_2_5), some (AI q21_3_5), some (AI q21_4_5), none]) rfl ?_
    refine s_iload E dX9_mate_21 rfl ?_
    refine s_aload_n E dX9_mate_23 rfl rfl ?_
    refine s_gR (r := 2) E fg_X9_20 rfl rfl (jv_lt hj_6 (by decide)) (jv_r hj_6 (by decide +kernel)) dX9_mate_24 ?_
    refine s_gR (r := 5) E fg_X9_133 rfl rfl (jv_lt hj_6 (by decide)) (jv_r hj_6 (by decide +kernel)) dX9_mate_27 ?_
    refine s_gI E fg_X9_200 rfl rfl (jv_lt hj_6 (by decide)) dX9_mate_30 ?_
    refine z_nm (P := fun z => z.toInt = (v21.2.2.1 5 3).toInt ∧ 0 ≤ z.toInt ∧ z.toInt ≤ 6) ⟨rfl, (rg_5_3 hj_6)⟩ (fun z_7 hz_7 => ?_)
    refine z_icmp_ge (tgt := 76) (u := q21_4_5.toInt) (v := z_7.toInt) E dX9_mate_33 (by decide) rfl rfl (fun h_8 => ?_) (fun h_8 => ?_)
    ·
      refine s_iload_n E dX9_mate_76 rfl rfl ?_
      exact r_int E dX9_mate_77 ⟨⟨by have hb_ := z32 q21_2_5; omega, by have hb_ := z32 q21_2_5; omega, by have hb_ := z32 q21_2_5; have hc_ := z32 x1; omega, by have hb_ := z32 q21_2_5; have hc_ := z32 (w.2.2.1 5 3); omega⟩, hj_6⟩
    ·
      refine s_iload E dX9_mate_36 rfl ?_
      refine s_iload_n E dX9_mate_38 rfl rfl ?_
      refine z_icmp_ne (tgt := 46) (u := q21_4_5.toInt) (v := x1.toInt) E dX9_mate_39 (by decide) rfl rfl (fun h_9 => ?_) (fun h_9 => ?_)
      ·
        refine s_aload_n E dX9_mate_46 rfl rfl ?_
        refine s_gR (r := 69) E fg_X9_54 rfl rfl (jv_lt hj_6 (by decide)) (jv_r hj_6 (by decide +kernel)) dX9_mate_47 ?_
        refine s_iload_n E dX9_mate_50 rfl rfl ?_
        refine s_iload E dX9_mate_51 rfl ?_
        refine s_vI (As := [AI x1, AI q21_4_5]) (S := []) E (Z_X2_meetingsOf_69 l D aC b v21 x1 q21_4_5 hj_6.1 ) cv_X9_178 rfl rfl rfl (jv_lt hj_6 (by decide)) (Nat.le_of_ble_eq_true rfl) (Nat.le_of_ble_eq_true rfl) ⟨(Nat.le_of_ble_eq_true rfl), (Nat.le_of_ble_eq_true rfl)⟩ (Nat.le_of_ble_eq_true rfl) dX9_mate_53 (fun z_12 u_10 hp_11 => ?_)
        obtain ⟨hz_12, hp_11⟩ := hp_11
        have hj_13 := jv_trans hj_6 hp_11
        refine s_istore (L2 := [some (AR 0), some (AI x1), some (AI q21_2_5), some (AI q21_3_5), some (AI q21_4_5), some (AI z_12)]) E dX9_mate_56 (by decide) rfl ?_
        refine s_iload E dX9_mate_58 rfl ?_
        refine s_iload_n E dX9_mate_60 rfl rfl ?_
        refine z_icmp_le (tgt := 70) (u := z_12.toInt) (v := q21_3_5.toInt) E dX9_mate_61 (by decide) rfl rfl (fun h_14 => ?_) (fun h_14 => ?_)
        ·
          refine z_iinc (u := q21_4_5.toInt) (L2 := fun z_15 => [some (AR 0), some (AI x1), some (AI q21_2_5), some (AI q21_3_5), some (AI z_15), some (AI z_12)]) E dX9_mate_70 rfl rfl (by decide) (fun _ => rfl) (by decide) (by omega) (by omega) (fun z_15 hz_15 => ?_)
          refine s_goto (tgt := 21) E dX9_mate_73 (by decide) ?_
          refine s_drop (i := 5) (L2 := [some (AR 0), some (AI x1), some (AI q21_2_5), some (AI q21_3_5), some (AI z_15), none]) rfl ?_
          exact ih21 ⟨q21_2_5, q21_3_5, z_15⟩ u_10 ⟨⟨by have hb_ := z32 q21_2_5; omega, by have hb_ := z32 q21_2_5; omega⟩, ⟨by have hb_ := z32 q21_3_5; omega, by have hb_ := z32 q21_3_5; omega⟩, ⟨by have hb_ := z32 z_15; omega, by have hb_ := z32 z_15; omega⟩, hj_13⟩ (by first | omega | (dsimp only; omega))
        ·
          refine s_iload E dX9_mate_64 rfl ?_
          refine s_istore_n (L2 := [some (AR 0), some (AI x1), some (AI q21_2_5), some (AI z_12), some (AI q21_4_5), some (AI z_12)]) E dX9_mate_66 rfl (by decide) rfl ?_
          refine s_iload E dX9_mate_67 rfl ?_
          refine s_istore_n (L2 := [some (AR 0), some (AI x1), some (AI q21_4_5), some (AI z_12), some (AI q21_4_5), some (AI z_12)]) E dX9_mate_69 rfl (by decide) rfl ?_
          refine z_iinc (u := q21_4_5.toInt) (L2 := fun z_16 => [some (AR 0), some (AI x1), some (AI q21_4_5), some (AI z_12), some (AI z_16), some (AI z_12)]) E dX9_mate_70 rfl rfl (by decide) (fun _ => rfl) (by decide) (by omega) (by omega) (fun z_16 hz_16 => ?_)
          refine s_goto (tgt := 21) E dX9_mate_73 (by decide) ?_
          refine s_drop (i := 5) (L2 := [some (AR 0), some (AI x1), some (AI q21_4_5), some (AI z_12), some (AI z_16), none]) rfl ?_
          exact ih21 ⟨q21_4_5, z_12, z_16⟩ u_10 ⟨⟨by have hb_ := z32 q21_4_5; omega, by have hb_ := z32 q21_4_5; omega⟩, ⟨by have hb_ := z32 z_12; omega, by have hb_ := z32 z_12; omega⟩, ⟨by have hb_ := z32 z_16; omega, by have hb_ := z32 z_16; omega⟩, hj_13⟩ (by first | omega | (dsimp only; omega))
      ·
        refine s_iconst (v := 0) E dX9_mate_42 (by decide) ?_
        refine s_goto (tgt := 56) E dX9_mate_43 (by decide) ?_
        refine s_istore (L2 := [some (AR 0), some (AI x1), some (AI q21_2_5), some (AI q21_3_5), some (AI q21_4_5), some (AI 0)]) E dX9_mate_56 (by decide) rfl ?_
        refine s_iload E dX9_mate_58 rfl ?_
        refine s_iload_n E dX9_mate_60 rfl rfl ?_
        refine z_icmp_le (tgt := 70) (u := 0) (v := q21_3_5.toInt) E dX9_mate_61 (by decide) (by decide) rfl (fun h_17 => ?_) (fun h_17 => absurd h_17 (by omega))
        refine z_iinc (u := q21_4_5.toInt) (L2 := fun z_18 => [some (AR 0), some (AI x1), some (AI q21_2_5), some (AI q21_3_5), some (AI z_18), some (AI 0)]) E dX9_mate_70 rfl rfl (by decide) (fun _ => rfl) (by decide) (by omega) (by omega) (fun z_18 hz_18 => ?_)
        refine s_goto (tgt := 21) E dX9_mate_73 (by decide) ?_
        refine s_drop (i := 5) (L2 := [some (AR 0), some (AI x1), some (AI q21_2_5), some (AI q21_3_5), some (AI z_18), none]) rfl ?_
        exact ih21 ⟨q21_2_5, q21_3_5, z_18⟩ v21 ⟨⟨by have hb_ := z32 q21_2_5; omega, by have hb_ := z32 q21_2_5; omega⟩, ⟨by have hb_ := z32 q21_3_5; omega, by have hb_ := z32 q21_3_5; omega⟩, ⟨by have hb_ := z32 z_18; omega, by have hb_ := z32 z_18; omega⟩, hj_6⟩ (by first | omega | (dsimp only; omega))
  ·
    refine s_bipush (v := (-2)) E dX9_mate_11 (by decide) ?_
    exact r_int E dX9_mate_13 ⟨⟨by decide, by decide, by first | (left; decide) | (right; have hb_ := z32 x1; omega), by first | (left; decide) | (right; have hb_ := z32 (w.2.2.1 5 3); omega)⟩, hJ⟩
set_option maxRecDepth 20000 in
set_option maxHeartbeats 2000000 in
theorem Z_X0_seatsUnder_2 (l : Launch) (D : va_G) (aC : Nat → ClassId) (b : Nat) (w : XW) (x1 : Int32) (hI : Iv w)  : CnI l D aC b M_X0_seatsUnder 2 44 0 0 [AR 2, AI x1] w (fun r u => ((-2147483648) ≤ r.toInt ∧ r.toInt ≤ 2147483647) ∧ Jv w u) := by
  refine cn_I (own := RX0) (nm := "seatsUnder") (L0 := [some (AR 2), some (AI x1), none, none]) (by decide +kernel) rfl rfl (Nat.le_of_ble_eq_true rfl) rfl ?_
  intro p e s m args below meth c E hin
  have hJ : Jv w w := jv_rfl hI
  refine s_iconst (v := 0) E dX0_seatsUnder_0 (by decide) ?_
  refine s_istore_n (L2 := [some (AR 2), some (AI x1), some (AI 0), none]) E dX0_seatsUnder_1 rfl (by decide) rfl ?_
  refine s_iconst (v := 0) E dX0_seatsUnder_2 (by decide) ?_
  refine s_istore_n (L2 := [some (AR 2), some (AI x1), some (AI 0), some (AI 0)]) E dX0_seatsUnder_3 rfl (by decide) rfl ?_
  refine z_loop (St := Int32 × Int32) (Pi := fun ⟨q4_2_0, q4_3_0⟩ v4 => (0 ≤ q4_3_0.toInt ∧ q4_3_0.toInt ≤ 8) ∧ Jv w v4) (Lf := fun ⟨q4_2_0, q4_3_0⟩ => [some (AR 2), some (AI x1), some (AI q4_2_0), some (AI q4_3_0)]) (fun ⟨q4_2_0, q4_3_0⟩ _ => (9 - q4_3_0.toInt).toNat) ⟨0, 0⟩ ⟨⟨by decide, by decide⟩, hJ⟩ ?_
  rintro ⟨q4_2_0, q4_3_0⟩ v4 ⟨hq4_3, hj_1⟩ ih4
  refine s_loc (L2 := [some (AR 2), some (AI x1), some (AI q4_2_0), some (AI q4_3_0)]) rfl ?_
  refine s_iload_n E dX0_seatsUnder_4 rfl rfl ?_
  refine s_aload_n E dX0_seatsUnder_5 rfl rfl ?_
  refine s_gR (r := 7) E fg_X0_23 rfl rfl (jv_lt hj_1 (by decide)) (jv_r hj_1 (by decide +kernel)) dX0_seatsUnder_6 ?_
  refine s_gI E fg_X0_67 rfl rfl (jv_lt hj_1 (by decide)) dX0_seatsUnder_9 ?_
  refine z_nm (P := fun z => z.toInt = (v4.2.2.1 7 3).toInt ∧ 0 ≤ z.toInt ∧ z.toInt ≤ 8) ⟨rfl, (rg_7_3 hj_1)⟩ (fun z_2 hz_2 => ?_)
  refine z_icmp_ge (tgt := 46) (u := q4_3_0.toInt) (v := z_2.toInt) E dX0_seatsUnder_12 (by decide) rfl rfl (fun h_3 => ?_) (fun h_3 => ?_)
  ·
    refine s_iload_n E dX0_seatsUnder_46 rfl rfl ?_
    exact r_int E dX0_seatsUnder_47 ⟨⟨by have hb_ := z32 q4_2_0; omega, by have hb_ := z32 q4_2_0; omega⟩, hj_1⟩
  ·
    refine s_aload_n E dX0_seatsUnder_15 rfl rfl ?_
    refine s_gR (r := 7) E fg_X0_23 rfl rfl (jv_lt hj_1 (by decide)) (jv_r hj_1 (by decide +kernel)) dX0_seatsUnder_16 ?_
    refine s_iload_n E dX0_seatsUnder_19 rfl rfl ?_
    refine s_iconst (v := 0) E dX0_seatsUnder_20 (by decide) ?_
    refine s_vI (As := [AI q4_3_0, AI 0]) (S := []) E (Z_X8_cell_7 l D aC b v4 q4_3_0 0 hj_1.1 ) cv_X0_70 rfl rfl rfl (jv_lt hj_1 (by decide)) (Nat.le_of_ble_eq_true rfl) (Nat.le_of_ble_eq_true rfl) ⟨(Nat.le_of_ble_eq_true rfl), (Nat.le_of_ble_eq_true rfl)⟩ (Nat.le_of_ble_eq_true rfl) dX0_seatsUnder_21 (fun z_6 u_4 hp_5 => ?_)
    obtain ⟨hz_6, hp_5⟩ := hp_5
    subst hp_5
    refine s_iload_n E dX0_seatsUnder_24 rfl rfl ?_
    refine z_icmp_ne (tgt := 40) (u := z_6.toInt) (v := x1.toInt) E dX0_seatsUnder_25 (by decide) rfl rfl (fun h_8 => ?_) (fun h_8 => ?_)
    ·
      refine z_iinc (u := q4_3_0.toInt) (L2 := fun z_9 => [some (AR 2), some (AI x1), some (AI q4_2_0), some (AI z_9)]) E dX0_seatsUnder_40 rfl rfl (by decide) (fun _ => rfl) (by decide) (by omega) (by omega) (fun z_9 hz_9 => ?_)
      refine s_goto (tgt := 4) E dX0_seatsUnder_43 (by decide) ?_
      exact ih4 ⟨q4_2_0, z_9⟩ v4 ⟨⟨by have hb_ := z32 z_9; omega, by have hb_ := z32 z_9; omega⟩, hj_1⟩ (by first | omega | (dsimp only; omega))
    ·
      refine s_iload_n E dX0_seatsUnder_28 rfl rfl ?_
      refine s_aload_n E dX0_seatsUnder_29 rfl rfl ?_
      refine s_gR (r := 7) E fg_X0_23 rfl rfl (jv_lt hj_1 (by decide)) (jv_r hj_1 (by decide +kernel)) dX0_seatsUnder_30 ?_
      refine s_iload_n E dX0_seatsUnder_33 rfl rfl ?_
      refine s_iconst (v := 1) E dX0_seatsUnder_34 (by decide) ?_
      refine s_vI (As := [AI q4_3_0, AI 1]) (S := [AI q4_2_0]) E (Z_X8_cell_7 l D aC b v4 q4_3_0 1 hj_1.1 ) cv_X0_70 rfl rfl rfl (jv_lt hj_1 (by decide)) (Nat.le_of_ble_eq_true rfl) (Nat.le_of_ble_eq_true rfl) ⟨(Nat.le_of_ble_eq_true rfl), (Nat.le_of_ble_eq_true rfl)⟩ (Nat.le_of_ble_eq_true rfl) dX0_seatsUnder_35 (fun z_12 u_10 hp_11 => ?_)
      obtain ⟨hz_12, hp_11⟩ := hp_11
      subst hp_11
      refine s_iadd E dX0_seatsUnder_38 ?_
      refine z_any (fun z_14 => ?_)
      refine s_istore_n (L2 := [some (AR 2), some (AI x1), some (AI z_14), some (AI q4_3_0)]) E dX0_seatsUnder_39 rfl (by decide) rfl ?_
      refine z_iinc (u := q4_3_0.toInt) (L2 := fun z_15 => [some (AR 2), some (AI x1), some (AI z_14), some (AI z_15)]) E dX0_seatsUnder_40 rfl rfl (by decide) (fun _ => rfl) (by decide) (by omega) (by omega) (fun z_15 hz_15 => ?_)
      refine s_goto (tgt := 4) E dX0_seatsUnder_43 (by decide) ?_
      exact ih4 ⟨z_14, z_15⟩ v4 ⟨⟨by have hb_ := z32 z_15; omega, by have hb_ := z32 z_15; omega⟩, hj_1⟩ (by first | omega | (dsimp only; omega))
set_option maxRecDepth 20000 in
set_option maxHeartbeats 2000000 in
theorem Z_X5_mayGive_81_r2 (l : Launch) (D : va_G) (aC : Nat → ClassId) (b : Nat) (w : XW) (x1 : Int32) (x2 : Int32) (x3 : Int32) (hI : Iv w) (hx2 : 0 ≤ x2.toInt ∧ x2.toInt ≤ 5) (hx3 : 0 ≤ x3.toInt ∧ x3.toInt ≤ 5) : CnI l D aC b M_X5_mayGive 2 44 0 0 [AR 81, AR 2, AI x1, AI x2, AI x3] w (fun r u => (0 ≤ r.toInt ∧ r.toInt ≤ 1) ∧ w = u) := by
  refine cn_I (own := RX5) (nm := "mayGive") (L0 := [some (AR 81), some (AR 2), some (AI x1), some (AI x2), some (AI x3)]) (by decide +kernel) rfl rfl (Nat.le_of_ble_eq_true rfl) rfl ?_
  intro p e s m args below meth c E hin
  have hJ : Jv w w := jv_rfl hI
  refine s_iload_n E dX5_mayGive_0 rfl rfl ?_
  refine z_switch (lo := 0) (hi := 2) (u := x1.toInt) rfl (fun h_1 => ?_) (fun j hj h_1 => ?_)
  ·
    refine s_tableOut (tgt := 74) E dX5_mayGive_1 h_1 (by decide) ?_
    refine s_aload_n E dX5_mayGive_74 rfl rfl ?_
    refine s_gR (r := 83) E fg_X5_15 rfl rfl (jv_lt hJ (by decide)) (jv_r hJ (by decide +kernel)) dX5_mayGive_75 ?_
    refine s_iload E dX5_mayGive_78 rfl ?_
    refine s_iald E rfl (jv_lt hJ (by decide)) (z_in (u := x3.toInt) rfl (by omega) (by omega)) dX5_mayGive_80 ?_
    refine z_any (fun z_2 => ?_)
    refine s_aload_n E dX5_mayGive_81 rfl rfl ?_
    refine s_gR (r := 83) E fg_X5_15 rfl rfl (jv_lt hJ (by decide)) (jv_r hJ (by decide +kernel)) dX5_mayGive_82 ?_
    refine s_iload_n E dX5_mayGive_85 rfl rfl ?_
    refine s_iald E rfl (jv_lt hJ (by decide)) (z_in (u := x2.toInt) rfl (by omega) (by omega)) dX5_mayGive_86 ?_
    refine z_any (fun z_3 => ?_)
    refine z_icmp_ge (tgt := 94) (u := z_2.toInt) (v := z_3.toInt) E dX5_mayGive_87 (by decide) rfl rfl (fun h_4 => ?_) (fun h_4 => ?_)
    ·
      refine s_iconst (v := 0) E dX5_mayGive_94 (by decide) ?_
      exact r_bool E dX5_mayGive_95 (Or.inl rfl) ⟨(by decide), rfl⟩
    ·
      refine s_iconst (v := 1) E dX5_mayGive_90 (by decide) ?_
      refine s_goto (tgt := 95) E dX5_mayGive_91 (by decide) ?_
      exact r_bool E dX5_mayGive_95 (Or.inr rfl) ⟨(by decide), rfl⟩
  · match j, hj with
    | 0, _ =>
      refine s_tableIn (off := 27) (tgt := 28) E dX5_mayGive_1 (by omega) (by omega) (z_off (j := 0) (by omega) (by decide +kernel)) (by decide) ?_
      refine s_iconst (v := 1) E dX5_mayGive_28 (by decide) ?_
      exact r_bool E dX5_mayGive_29 (Or.inr rfl) ⟨(by decide), rfl⟩
    | 1, _ =>
      refine s_tableIn (off := 29) (tgt := 30) E dX5_mayGive_1 (by omega) (by omega) (z_off (j := 1) (by omega) (by decide +kernel)) (by decide) ?_
      refine s_aload_n E dX5_mayGive_30 rfl rfl ?_
      refine s_gR (r := 83) E fg_X5_15 rfl rfl (jv_lt hJ (by decide)) (jv_r hJ (by decide +kernel)) dX5_mayGive_31 ?_
      refine s_iload E dX5_mayGive_34 rfl ?_
      refine s_iald E rfl (jv_lt hJ (by decide)) (z_in (u := x3.toInt) rfl (by omega) (by omega)) dX5_mayGive_36 ?_
      refine z_any (fun z_5 => ?_)
      refine z_if_le (tgt := 44) (u := z_5.toInt) E dX5_mayGive_37 (by decide) rfl (fun h_6 => ?_) (fun h_6 => ?_)
      ·
        refine s_iconst (v := 0) E dX5_mayGive_44 (by decide) ?_
        exact r_bool E dX5_mayGive_45 (Or.inl rfl) ⟨(by decide), rfl⟩
      ·
        refine s_iconst (v := 1) E dX5_mayGive_40 (by decide) ?_
        refine s_goto (tgt := 45) E dX5_mayGive_41 (by decide) ?_
        exact r_bool E dX5_mayGive_45 (Or.inr rfl) ⟨(by decide), rfl⟩
    | 2, _ =>
      refine s_tableIn (off := 45) (tgt := 46) E dX5_mayGive_1 (by omega) (by omega) (z_off (j := 2) (by omega) (by decide +kernel)) (by decide) ?_
      refine s_aload_n E dX5_mayGive_46 rfl rfl ?_
      refine s_gR (r := 5) E fg_X5_21 rfl rfl (jv_lt hJ (by decide)) (jv_r hJ (by decide +kernel)) dX5_mayGive_47 ?_
      refine s_iload E dX5_mayGive_50 rfl ?_
      refine s_iconst (v := 1) E dX5_mayGive_52 (by decide) ?_
      refine s_vI (As := [AI x3, AI 1]) (S := []) E (Z_X8_cell_5 l D aC b w x3 1 hJ.1 ) cv_X5_46 rfl rfl rfl (jv_lt hJ (by decide)) (Nat.le_of_ble_eq_true rfl) (Nat.le_of_ble_eq_true rfl) ⟨(Nat.le_of_ble_eq_true rfl), (Nat.le_of_ble_eq_true rfl)⟩ (Nat.le_of_ble_eq_true rfl) dX5_mayGive_53 (fun z_9 u_7 hp_8 => ?_)
      obtain ⟨hz_9, hp_8⟩ := hp_8
      subst hp_8
      refine s_aload_n E dX5_mayGive_56 rfl rfl ?_
      refine s_gR (r := 5) E fg_X5_21 rfl rfl (jv_lt hJ (by decide)) (jv_r hJ (by decide +kernel)) dX5_mayGive_57 ?_
      refine s_iload_n E dX5_mayGive_60 rfl rfl ?_
      refine s_iconst (v := 1) E dX5_mayGive_61 (by decide) ?_
      refine s_vI (As := [AI x2, AI 1]) (S := [AI z_9]) E (Z_X8_cell_5 l D aC b w x2 1 hJ.1 ) cv_X5_46 rfl rfl rfl (jv_lt hJ (by decide)) (Nat.le_of_ble_eq_true rfl) (Nat.le_of_ble_eq_true rfl) ⟨(Nat.le_of_ble_eq_true rfl), (Nat.le_of_ble_eq_true rfl)⟩ (Nat.le_of_ble_eq_true rfl) dX5_mayGive_62 (fun z_13 u_11 hp_12 => ?_)
      obtain ⟨hz_13, hp_12⟩ := hp_12
      subst hp_12
      refine z_icmp_gt (tgt := 72) (u := z_9.toInt) (v := z_13.toInt) E dX5_mayGive_65 (by decide) rfl rfl (fun h_15 => ?_) (fun h_15 => ?_)
      ·
        refine s_iconst (v := 0) E dX5_mayGive_72 (by decide) ?_
        exact r_bool E dX5_mayGive_73 (Or.inl rfl) ⟨(by decide), rfl⟩
      ·
        refine s_iconst (v := 1) E dX5_mayGive_68 (by decide) ?_
        refine s_goto (tgt := 73) E dX5_mayGive_69 (by decide) ?_
        exact r_bool E dX5_mayGive_73 (Or.inr rfl) ⟨(by decide), rfl⟩
    | j + 3, hj => exact absurd hj (by omega)
set_option maxRecDepth 20000 in
set_option maxHeartbeats 2000000 in
theorem Z_X5_prepare_81_r2 (l : Launch) (D : va_G) (aC : Nat → ClassId) (b : Nat) (w : XW) (x1 : Int32) (x2 : Int32) (hI : Iv w)  : CnV l D aC b M_X5_prepare 3 68 0 0 [AR 81, AR 2, AI x1, AI x2] w (fun u => Jv w u) := by
  refine cn_V (own := RX5) (nm := "prepare") (L0 := [some (AR 81), some (AR 2), some (AI x1), some (AI x2), none, none]) (by decide +kernel) rfl rfl (Nat.le_of_ble_eq_true rfl) rfl ?_
  intro p e s m args below meth c E hin
  have hJ : Jv w w := jv_rfl hI
  refine s_aload_n E dX5_prepare_0 rfl rfl ?_
  refine s_aload_n E dX5_prepare_1 rfl rfl ?_
  refine s_gR (r := 5) E fg_X5_21 rfl rfl (jv_lt hJ (by decide)) (jv_r hJ (by decide +kernel)) dX5_prepare_2 ?_
  refine s_gI E fg_X5_27 rfl rfl (jv_lt hJ (by decide)) dX5_prepare_5 ?_
  refine z_nm (P := fun z => z.toInt = (w.2.2.1 5 3).toInt ∧ 0 ≤ z.toInt ∧ z.toInt ≤ 6) ⟨rfl, (rg_5_3 hJ)⟩ (fun z_1 hz_1 => ?_)
  refine s_pI E fp_X5_33 (Or.inl rfl) rfl (jv_lt hJ (by decide)) dX5_prepare_8 ?_
  refine s_gen (P := Jv w) (jv_f_81_3 hJ (by have hb_ := z32 z_1; omega) (by have hb_ := z32 z_1; omega)) (fun v_2 hj_3 => ?_)
  refine s_aload_n E dX5_prepare_11 rfl rfl ?_
  refine s_aload_n E dX5_prepare_12 rfl rfl ?_
  refine s_gI E fg_X5_35 rfl rfl (jv_lt hj_3 (by decide)) dX5_prepare_13 ?_
  refine z_nm (P := fun z => z.toInt = (v_2.2.2.1 2 2).toInt ∧ 0 ≤ z.toInt ∧ z.toInt ≤ 14) ⟨rfl, (rg_2_2 hj_3)⟩ (fun z_4 hz_4 => ?_)
  refine s_pI E fp_X5_38 (Or.inl rfl) rfl (jv_lt hj_3 (by decide)) dX5_prepare_16 ?_
  refine s_gen (P := Jv w) (jv_f_81_4 hj_3 (by have hb_ := z32 z_4; omega) (by have hb_ := z32 z_4; omega)) (fun v_5 hj_6 => ?_)
  refine s_iconst (v := 0) E dX5_prepare_19 (by decide) ?_
  refine s_istore (L2 := [some (AR 81), some (AR 2), some (AI x1), some (AI x2), some (AI 0), none]) E dX5_prepare_20 (by decide) rfl ?_
  refine z_loop (St := Int32) (Pi := fun q22_4_6 v22 => (0 ≤ q22_4_6.toInt ∧ q22_4_6.toInt ≤ 6) ∧ Jv w v22) (Lf := fun q22_4_6 => [some (AR 81), some (AR 2), some (AI x1), some (AI x2), some (AI q22_4_6), none]) (fun q22_4_6 _ => (7 - q22_4_6.toInt).toNat) 0 ⟨⟨by decide, by decide⟩, hj_6⟩ ?_
  rintro q22_4_6 v22 ⟨hq22_4, hj_7⟩ ih22
  refine s_loc (L2 := [some (AR 81), some (AR 2), some (AI x1), some (AI x2), some (AI q22_4_6), none]) rfl ?_
  refine s_iload E dX5_prepare_22 rfl ?_
  refine s_aload_n E dX5_prepare_24 rfl rfl ?_
  refine s_gI E fg_X5_33 rfl rfl (jv_lt hj_7 (by decide)) dX5_prepare_25 ?_
  refine z_nm (P := fun z => z.toInt = (v22.2.2.1 81 3).toInt ∧ 0 ≤ z.toInt ∧ z.toInt ≤ 6) ⟨rfl, (rg_81_3 hj_7)⟩ (fun z_8 hz_8 => ?_)
  refine z_icmp_ge (tgt := 50) (u := q22_4_6.toInt) (v := z_8.toInt) E dX5_prepare_28 (by decide) rfl rfl (fun h_9 => ?_) (fun h_9 => ?_)
  ·
    refine s_iconst (v := 0) E dX5_prepare_50 (by decide) ?_
    refine s_istore (L2 := [some (AR 81), some (AR 2), some (AI x1), some (AI x2), some (AI 0), none]) E dX5_prepare_51 (by decide) rfl ?_
    refine z_loop (St := Int32) (Pi := fun q53_4_9 v53 => (0 ≤ q53_4_9.toInt ∧ q53_4_9.toInt ≤ 6) ∧ Jv w v53) (Lf := fun q53_4_9 => [some (AR 81), some (AR 2), some (AI x1), some (AI x2), some (AI q53_4_9), none]) (fun q53_4_9 _ => (7 - q53_4_9.toInt).toNat) 0 ⟨⟨by decide, by decide⟩, hj_7⟩ ?_
    rintro q53_4_9 v53 ⟨hq53_4, hj_10⟩ ih53
    refine s_loc (L2 := [some (AR 81), some (AR 2), some (AI x1), some (AI x2), some (AI q53_4_9), none]) rfl ?_
    refine s_iload E dX5_prepare_53 rfl ?_
    refine s_aload_n E dX5_prepare_55 rfl rfl ?_
    refine s_gI E fg_X5_33 rfl rfl (jv_lt hj_10 (by decide)) dX5_prepare_56 ?_
    refine z_nm (P := fun z => z.toInt = (v53.2.2.1 81 3).toInt ∧ 0 ≤ z.toInt ∧ z.toInt ≤ 6) ⟨rfl, (rg_81_3 hj_10)⟩ (fun z_11 hz_11 => ?_)
    refine z_icmp_ge (tgt := 133) (u := q53_4_9.toInt) (v := z_11.toInt) E dX5_prepare_59 (by decide) rfl rfl (fun h_12 => ?_) (fun h_12 => ?_)
    ·
      exact r_void E dX5_prepare_133 hj_10
    ·
      refine s_aload_n E dX5_prepare_62 rfl rfl ?_
      refine s_gR (r := 82) E fg_X5_9 rfl rfl (jv_lt hj_10 (by decide)) (jv_r hj_10 (by decide +kernel)) dX5_prepare_63 ?_
      refine s_iload E dX5_prepare_66 rfl ?_
      refine s_iconst (v := 0) E dX5_prepare_68 (by decide) ?_
      refine s_iast E rfl (jv_lt hj_10 (by decide)) (z_in (u := q53_4_9.toInt) rfl (by omega) (by omega)) dX5_prepare_69 ?_
      refine s_gen (P := fun v => Jv w v ∧ (v.2.2.1 81 3).toInt = (v53.2.2.1 81 3).toInt) ⟨(jv_a_82 hj_10 (by decide) (by decide)), rfl⟩ (fun v_13 hj_14 => ?_)
      obtain ⟨hj_14, hk_15⟩ := hj_14
      refine s_iconst (v := 0) E dX5_prepare_70 (by decide) ?_
      refine s_istore (L2 := [some (AR 81), some (AR 2), some (AI x1), some (AI x2), some (AI q53_4_9), some (AI 0)]) E dX5_prepare_71 (by decide) rfl ?_
      refine z_loop (St := Int32) (Pi := fun q73_5_15 v73 => (0 ≤ q73_5_15.toInt ∧ q73_5_15.toInt ≤ 6) ∧ (1 ≤ (v73.2.2.1 81 3).toInt ∧ (v73.2.2.1 81 3).toInt ≤ 6) ∧ Jv w v73) (Lf := fun q73_5_15 => [some (AR 81), some (AR 2), some (AI x1), some (AI x2), some (AI q53_4_9), some (AI q73_5_15)]) (fun q73_5_15 _ => (7 - q73_5_15.toInt).toNat) 0 ⟨⟨by decide, by decide⟩, ⟨by omega, by omega⟩, hj_14⟩ ?_
      rintro q73_5_15 v73 ⟨hq73_5, ha73_0, hj_16⟩ ih73
      refine s_loc (L2 := [some (AR 81), some (AR 2), some (AI x1), some (AI x2), some (AI q53_4_9), some (AI q73_5_15)]) rfl ?_
      refine s_iload E dX5_prepare_73 rfl ?_
      refine s_aload_n E dX5_prepare_75 rfl rfl ?_
      refine s_gI E fg_X5_33 rfl rfl (jv_lt hj_16 (by decide)) dX5_prepare_76 ?_
      refine z_nm (P := fun z => z.toInt = (v73.2.2.1 81 3).toInt ∧ 0 ≤ z.toInt ∧ z.toInt ≤ 6) ⟨rfl, (rg_81_3 hj_16)⟩ (fun z_17 hz_17 => ?_)
      refine z_icmp_ge (tgt := 127) (u := q73_5_15.toInt) (v := z_17.toInt) E dX5_prepare_79 (by decide) rfl rfl (fun h_18 => ?_) (fun h_18 => ?_)
      ·
        refine z_iinc (u := q53_4_9.toInt) (L2 := fun z_19 => [some (AR 81), some (AR 2), some (AI x1), some (AI x2), some (AI z_19), some (AI q73_5_15)]) E dX5_prepare_127 rfl rfl (by decide) (fun _ => rfl) (by decide) (by omega) (by omega) (fun z_19 hz_19 => ?_)
        refine s_goto (tgt := 53) E dX5_prepare_130 (by decide) ?_
        refine s_drop (i := 5) (L2 := [some (AR 81), some (AR 2), some (AI x1), some (AI x2), some (AI z_19), none]) rfl ?_
        exact ih53 z_19 v73 ⟨⟨by have hb_ := z32 z_19; omega, by have hb_ := z32 z_19; omega⟩, hj_16⟩ (by first | omega | (dsimp only; omega))
      ·
        refine s_iload E dX5_prepare_82 rfl ?_
        refine s_iload_n E dX5_prepare_84 rfl rfl ?_
        refine z_icmp_eq (tgt := 121) (u := q53_4_9.toInt) (v := x2.toInt) E dX5_prepare_85 (by decide) rfl rfl (fun h_20 => ?_) (fun h_20 => ?_)
        ·
          refine z_iinc (u := q73_5_15.toInt) (L2 := fun z_21 => [some (AR 81), some (AR 2), some (AI x1), some (AI x2), some (AI q53_4_9), some (AI z_21)]) E dX5_prepare_121 rfl rfl (by decide) (fun _ => rfl) (by decide) (by omega) (by omega) (fun z_21 hz_21 => ?_)
          refine s_goto (tgt := 73) E dX5_prepare_124 (by decide) ?_
          exact ih73 z_21 v73 ⟨⟨by have hb_ := z32 z_21; omega, by have hb_ := z32 z_21; omega⟩, ⟨by omega, by omega⟩, hj_16⟩ (by first | omega | (dsimp only; omega))
        ·
          refine s_iload E dX5_prepare_88 rfl ?_
          refine s_iload_n E dX5_prepare_90 rfl rfl ?_
          refine z_icmp_eq (tgt := 121) (u := q73_5_15.toInt) (v := x2.toInt) E dX5_prepare_91 (by decide) rfl rfl (fun h_22 => ?_) (fun h_22 => ?_)
          ·
            refine z_iinc (u := q73_5_15.toInt) (L2 := fun z_23 => [some (AR 81), some (AR 2), some (AI x1), some (AI x2), some (AI q53_4_9), some (AI z_23)]) E dX5_prepare_121 rfl rfl (by decide) (fun _ => rfl) (by decide) (by omega) (by omega) (fun z_23 hz_23 => ?_)
            refine s_goto (tgt := 73) E dX5_prepare_124 (by decide) ?_
            exact ih73 z_23 v73 ⟨⟨by have hb_ := z32 z_23; omega, by have hb_ := z32 z_23; omega⟩, ⟨by omega, by omega⟩, hj_16⟩ (by first | omega | (dsimp only; omega))
          ·
            refine s_aload_n E dX5_prepare_94 rfl rfl ?_
            refine s_aload_n E dX5_prepare_95 rfl rfl ?_
            refine s_iload_n E dX5_prepare_96 rfl rfl ?_
            refine s_iload E dX5_prepare_97 rfl ?_
            refine s_iload E dX5_prepare_99 rfl ?_
            refine s_vI (As := [AR 2, AI x1, AI q53_4_9, AI q73_5_15]) (S := []) E (Z_X5_mayGive_81_r2 l D aC b v73 x1 q53_4_9 q73_5_15 hj_16.1 ⟨by have hb_ := z32 q53_4_9; omega, by have hb_ := z32 q53_4_9; omega⟩ ⟨by have hb_ := z32 q73_5_15; omega, by have hb_ := z32 q73_5_15; omega⟩) cv_X5_42 rfl rfl rfl (jv_lt hj_16 (by decide)) (Nat.le_of_ble_eq_true rfl) (Nat.le_of_ble_eq_true rfl) ⟨(Nat.le_of_ble_eq_true rfl), (Nat.le_of_ble_eq_true rfl)⟩ (Nat.le_of_ble_eq_true rfl) dX5_prepare_101 (fun z_26 u_24 hp_25 => ?_)
            obtain ⟨hz_26, hp_25⟩ := hp_25
            subst hp_25
            refine z_if_eq (tgt := 121) (u := z_26.toInt) E dX5_prepare_104 (by decide) rfl (fun h_28 => ?_) (fun h_28 => ?_)
            ·
              refine z_iinc (u := q73_5_15.toInt) (L2 := fun z_29 => [some (AR 81), some (AR 2), some (AI x1), some (AI x2), some (AI q53_4_9), some (AI z_29)]) E dX5_prepare_121 rfl rfl (by decide) (fun _ => rfl) (by decide) (by omega) (by omega) (fun z_29 hz_29 => ?_)
              refine s_goto (tgt := 73) E dX5_prepare_124 (by decide) ?_
              exact ih73 z_29 v73 ⟨⟨by have hb_ := z32 z_29; omega, by have hb_ := z32 z_29; omega⟩, ⟨by omega, by omega⟩, hj_16⟩ (by first | omega | (dsimp only; omega))
            ·
              refine s_aload_n E dX5_prepare_107 rfl rfl ?_
              refine s_gR (r := 82) E fg_X5_9 rfl rfl (jv_lt hj_16 (by decide)) (jv_r hj_16 (by decide +kernel)) dX5_prepare_108 ?_
              refine s_iload E dX5_prepare_111 rfl ?_
              refine s_dup2 E dX5_prepare_113 ?_
              refine s_iald E rfl (jv_lt hj_16 (by decide)) (z_in (u := q53_4_9.toInt) rfl (by omega) (by omega)) dX5_prepare_114 ?_
              refine z_any (fun z_30 => ?_)
              refine s_iconst (v := 1) E dX5_prepare_115 (by decide) ?_
              refine s_iload E dX5_prepare_116 rfl ?_
              refine z_shl1 5 (u := q73_5_15.toInt) (B := 32) E dX5_prepare_118 rfl (by omega) (by omega) (by decide) (by decide) (fun z_31 hz_31 => ?_)
              refine s_ior E dX5_prepare_119 ?_
              refine z_any (fun z_32 => ?_)
              refine s_iast E rfl (jv_lt hj_16 (by decide)) (z_in (u := q53_4_9.toInt) rfl (by omega) (by omega)) dX5_prepare_120 ?_
              refine s_gen (P := fun v => Jv w v ∧ (v.2.2.1 81 3).toInt = (v73.2.2.1 81 3).toInt) ⟨(jv_a_82 hj_16 (by have hb_ := z32 z_32; omega) (by have hb_ := z32 z_32; omega)), rfl⟩ (fun v_33 hj_34 => ?_)
              obtain ⟨hj_34, hk_35⟩ := hj_34
              refine z_iinc (u := q73_5_15.toInt) (L2 := fun z_36 => [some (AR 81), some (AR 2), some (AI x1), some (AI x2), some (AI q53_4_9), some (AI z_36)]) E dX5_prepare_121 rfl rfl (by decide) (fun _ => rfl) (by decide) (by omega) (by omega) (fun z_36 hz_36 => ?_)
              refine s_goto (tgt := 73) E dX5_prepare_124 (by decide) ?_
              exact ih73 z_36 v_33 ⟨⟨by have hb_ := z32 z_36; omega, by have hb_ := z32 z_36; omega⟩, ⟨by omega, by omega⟩, hj_34⟩ (by first | omega | (dsimp only; omega))
  ·
    refine s_aload_n E dX5_prepare_31 rfl rfl ?_
    refine s_gR (r := 83) E fg_X5_15 rfl rfl (jv_lt hj_7 (by decide)) (jv_r hj_7 (by decide +kernel)) dX5_prepare_32 ?_
    refine s_iload E dX5_prepare_35 rfl ?_
    refine s_aload_n E dX5_prepare_37 rfl rfl ?_
    refine s_iload E dX5_prepare_38 rfl ?_
    refine s_vI (As := [AI q22_4_6]) (S := [AI q22_4_6, AR 83]) E (Z_X0_seatsUnder_2 l D aC b v22 q22_4_6 hj_7.1 ) cv_X5_39 rfl rfl rfl (jv_lt hj_7 (by decide)) (Nat.le_of_ble_eq_true rfl) (Nat.le_of_ble_eq_true rfl) ⟨(Nat.le_of_ble_eq_true rfl), (Nat.le_of_ble_eq_true rfl)⟩ (Nat.le_of_ble_eq_true rfl) dX5_prepare_40 (fun z_39 u_37 hp_38 => ?_)
    obtain ⟨hz_39, hp_38⟩ := hp_38
    have hj_40 := jv_trans hj_7 hp_38
    refine s_iast E rfl (jv_lt hj_40 (by decide)) (z_in (u := q22_4_6.toInt) rfl (by omega) (by omega)) dX5_prepare_43 ?_
    refine s_gen (P := Jv w) (jv_a_83 hj_40 (by have hb_ := z32 z_39; omega) (by have hb_ := z32 z_39; omega)) (fun v_41 hj_42 => ?_)
    refine z_iinc (u := q22_4_6.toInt) (L2 := fun z_43 => [some (AR 81), some (AR 2), some (AI x1), some (AI x2), some (AI z_43), none]) E dX5_prepare_44 rfl rfl (by decide) (fun _ => rfl) (by decide) (by omega) (by omega) (fun z_43 hz_43 => ?_)
    refine s_goto (tgt := 22) E dX5_prepare_47 (by decide) ?_
    exact ih22 z_43 v_41 ⟨⟨by have hb_ := z32 z_43; omega, by have hb_ := z32 z_43; omega⟩, hj_42⟩ (by first | omega | (dsimp only; omega))
set_option maxRecDepth 20000 in
set_option maxHeartbeats 2000000 in
theorem Z_X9_passAsTold_0 (l : Launch) (D : va_G) (aC : Nat → ClassId) (b : Nat) (w : XW)  (hI : Iv w)  : CnV l D aC b M_X9_passAsTold 4 93 0 0 [AR 0] w (fun u => Jv w u) := by
  refine cn_V (own := RX9) (nm := "passAsTold") (L0 := [some (AR 0)]) (by decide +kernel) rfl rfl (Nat.le_of_ble_eq_true rfl) rfl ?_
  intro p e s m args below meth c E hin
  have hJ : Jv w w := jv_rfl hI
  refine s_aload_n E dX9_passAsTold_0 rfl rfl ?_
  refine s_gR (r := 81) E fg_X9_64 rfl rfl (jv_lt hJ (by decide)) (jv_r hJ (by decide +kernel)) dX9_passAsTold_1 ?_
  refine s_aload_n E dX9_passAsTold_4 rfl rfl ?_
  refine s_gR (r := 2) E fg_X9_20 rfl rfl (jv_lt hJ (by decide)) (jv_r hJ (by decide +kernel)) dX9_passAsTold_5 ?_
  refine s_aload_n E dX9_passAsTold_8 rfl rfl ?_
  refine s_gR (r := 2) E fg_X9_20 rfl rfl (jv_lt hJ (by decide)) (jv_r hJ (by decide +kernel)) dX9_passAsTold_9 ?_
  refine s_gI E fg_X9_214 rfl rfl (jv_lt hJ (by decide)) dX9_passAsTold_12 ?_
  refine z_nm (P := fun z => z.toInt = (w.2.2.1 2 3).toInt) rfl (fun z_1 hz_1 => ?_)
  refine s_iconst (v := (-1)) E dX9_passAsTold_15 (by decide) ?_
  refine s_vV (As := [AR 2, AI z_1, AI (-1)]) (S := []) E (Z_X5_prepare_81_r2 l D aC b w z_1 ((-1)) hJ.1 ) cv_X9_217 rfl rfl rfl (jv_lt hJ (by decide)) (Nat.le_of_ble_eq_true rfl) (Nat.le_of_ble_eq_true rfl) ⟨(Nat.le_of_ble_eq_true rfl), (Nat.le_of_ble_eq_true rfl)⟩ (Nat.le_of_ble_eq_true rfl) dX9_passAsTold_16 (fun u_2 hp_3 => ?_)
  have hj_4 := jv_trans hJ hp_3
  exact r_void E dX9_passAsTold_19 hj_4
set_option maxRecDepth 20000 in
set_option maxHeartbeats 2000000 in
theorem Z_X5_passed_81_r69 (l : Launch) (D : va_G) (aC : Nat → ClassId) (b : Nat) (w : XW) (x1 : Int32) (x2 : Int32) (hI : Iv w)  : CnI l D aC b M_X5_passed 2 44 0 0 [AR 81, AR 69, AI x1, AI x2] w (fun r u => ((-2147483648) ≤ r.toInt ∧ r.toInt ≤ 2147483647) ∧ Jv w u) := by
  refine cn_I (own := RX5) (nm := "passed") (L0 := [some (AR 81), some (AR 69), some (AI x1), some (AI x2), none, none]) (by decide +kernel) rfl rfl (Nat.le_of_ble_eq_true rfl) rfl ?_
  intro p e s m args below meth c E hin
  have hJ : Jv w w := jv_rfl hI
  refine s_iload_n E dX5_passed_0 rfl rfl ?_
  refine s_istore (L2 := [some (AR 81), some (AR 69), some (AI x1), some (AI x2), some (AI x2), none]) E dX5_passed_1 (by decide) rfl ?_
  refine s_iconst (v := 0) E dX5_passed_3 (by decide) ?_
  refine s_istore (L2 := [some (AR 81), some (AR 69), some (AI x1), some (AI x2), some (AI x2), some (AI 0)]) E dX5_passed_4 (by decide) rfl ?_
  refine z_loop (St := Int32 × Int32) (Pi := fun ⟨q6_4_0, q6_5_0⟩ v6 => (0 ≤ q6_5_0.toInt ∧ q6_5_0.toInt ≤ 6) ∧ Jv w v6) (Lf := fun ⟨q6_4_0, q6_5_0⟩ => [some (AR 81), some (AR 69), some (AI x1), some (AI x2), some (AI q6_4_0), some (AI q6_5_0)]) (fun ⟨q6_4_0, q6_5_0⟩ _ => (7 - q6_5_0.toInt).toNat) ⟨x2, 0⟩ ⟨⟨by decide, by decide⟩, hJ⟩ ?_
  rintro ⟨q6_4_0, q6_5_0⟩ v6 ⟨hq6_5, hj_1⟩ ih6
  refine s_loc (L2 := [some (AR 81), some (AR 69), some (AI x1), some (AI x2), some (AI q6_4_0), some (AI q6_5_0)]) rfl ?_
  refine s_iload E dX5_passed_6 rfl ?_
  refine s_aload_n E dX5_passed_8 rfl rfl ?_
  refine s_gI E fg_X5_33 rfl rfl (jv_lt hj_1 (by decide)) dX5_passed_9 ?_
  refine z_nm (P := fun z => z.toInt = (v6.2.2.1 81 3).toInt ∧ 0 ≤ z.toInt ∧ z.toInt ≤ 6) ⟨rfl, (rg_81_3 hj_1)⟩ (fun z_2 hz_2 => ?_)
  refine z_icmp_ge (tgt := 50) (u := q6_5_0.toInt) (v := z_2.toInt) E dX5_passed_12 (by decide) rfl rfl (fun h_3 => ?_) (fun h_3 => ?_)
  ·
    refine s_iload E dX5_passed_50 rfl ?_
    exact r_int E dX5_passed_52 ⟨⟨by have hb_ := z32 q6_4_0; omega, by have hb_ := z32 q6_4_0; omega⟩, hj_1⟩
  ·
    refine s_iload_n E dX5_passed_15 rfl rfl ?_
    refine s_iload E dX5_passed_16 rfl ?_
    refine s_sI (As := [AI x2, AI q6_5_0]) (S := []) E (Z_X9_hasBit l D aC b v6 x2 q6_5_0 hj_1.1 ) cs_X5_50 rfl rfl (Nat.le_of_ble_eq_true rfl) (Nat.le_of_ble_eq_true rfl) ⟨(Nat.le_of_ble_eq_true rfl), (Nat.le_of_ble_eq_true rfl)⟩ (Nat.le_of_ble_eq_true rfl) dX5_passed_18 (fun z_6 u_4 hp_5 => ?_)
    obtain ⟨hz_6, hp_5⟩ := hp_5
    subst hp_5
    refine z_if_eq (tgt := 44) (u := z_6.toInt) E dX5_passed_21 (by decide) rfl (fun h_8 => ?_) (fun h_8 => ?_)
    ·
      refine z_iinc (u := q6_5_0.toInt) (L2 := fun z_9 => [some (AR 81), some (AR 69), some (AI x1), some (AI x2), some (AI q6_4_0), some (AI z_9)]) E dX5_passed_44 rfl rfl (by decide) (fun _ => rfl) (by decide) (by omega) (by omega) (fun z_9 hz_9 => ?_)
      refine s_goto (tgt := 6) E dX5_passed_47 (by decide) ?_
      exact ih6 ⟨q6_4_0, z_9⟩ v6 ⟨⟨by have hb_ := z32 z_9; omega, by have hb_ := z32 z_9; omega⟩, hj_1⟩ (by first | omega | (dsimp only; omega))
    ·
      refine s_iload E dX5_passed_24 rfl ?_
      refine s_aload_n E dX5_passed_26 rfl rfl ?_
      refine s_gR (r := 82) E fg_X5_9 rfl rfl (jv_lt hj_1 (by decide)) (jv_r hj_1 (by decide +kernel)) dX5_passed_27 ?_
      refine s_iload E dX5_passed_30 rfl ?_
      refine s_iald E rfl (jv_lt hj_1 (by decide)) (z_in (u := q6_5_0.toInt) rfl (by omega) (by omega)) dX5_passed_32 ?_
      refine z_any (fun z_10 => ?_)
      refine s_aload_n E dX5_passed_33 rfl rfl ?_
      refine s_iload E dX5_passed_34 rfl ?_
      refine s_iload_n E dX5_passed_36 rfl rfl ?_
      refine s_vI (As := [AI q6_5_0, AI x1]) (S := [AI z_10, AI q6_4_0]) E (Z_X2_companyOf_69 l D aC b v6 q6_5_0 x1 hj_1.1 ) cv_X5_54 rfl rfl rfl (jv_lt hj_1 (by decide)) (Nat.le_of_ble_eq_true rfl) (Nat.le_of_ble_eq_true rfl) ⟨(Nat.le_of_ble_eq_true rfl), (Nat.le_of_ble_eq_true rfl)⟩ (Nat.le_of_ble_eq_true rfl) dX5_passed_37 (fun z_13 u_11 hp_12 => ?_)
      obtain ⟨hz_13, hp_12⟩ := hp_12
      subst hp_12
      refine s_iand E dX5_passed_40 ?_
      refine z_any (fun z_15 => ?_)
      refine s_ior E dX5_passed_41 ?_
      refine z_any (fun z_16 => ?_)
      refine s_istore (L2 := [some (AR 81), some (AR 69), some (AI x1), some (AI x2), some (AI z_16), some (AI q6_5_0)]) E dX5_passed_42 (by decide) rfl ?_
      refine z_iinc (u := q6_5_0.toInt) (L2 := fun z_17 => [some (AR 81), some (AR 69), some (AI x1), some (AI x2), some (AI z_16), some (AI z_17)]) E dX5_passed_44 rfl rfl (by decide) (fun _ => rfl) (by decide) (by omega) (by omega) (fun z_17 hz_17 => ?_)
      refine s_goto (tgt := 6) E dX5_passed_47 (by decide) ?_
      exact ih6 ⟨z_16, z_17⟩ v6 ⟨⟨by have hb_ := z32 z_17; omega, by have hb_ := z32 z_17; omega⟩, hj_1⟩ (by first | omega | (dsimp only; omega))
set_option maxRecDepth 20000 in
set_option maxHeartbeats 2000000 in
theorem Z_X5_follow_81_r69 (l : Launch) (D : va_G) (aC : Nat → ClassId) (b : Nat) (w : XW) (x1 : Int32) (x2 : Int32) (hI : Iv w)  : CnV l D aC b M_X5_follow 3 69 0 0 [AR 81, AR 69, AI x1, AI x2] w (fun u => Jv w u) := by
  refine cn_V (own := RX5) (nm := "follow") (L0 := [some (AR 81), some (AR 69), some (AI x1), some (AI x2), none, none]) (by decide +kernel) rfl rfl (Nat.le_of_ble_eq_true rfl) rfl ?_
  intro p e s m args below meth c E hin
  have hJ : Jv w w := jv_rfl hI
  refine s_aload_n E dX5_follow_0 rfl rfl ?_
  refine s_iload_n E dX5_follow_1 rfl rfl ?_
  refine s_pI E fp_X5_59 (Or.inl rfl) rfl (jv_lt hJ (by decide)) dX5_follow_2 ?_
  refine s_gen (P := Jv w) (jv_f_81_5 hJ (by have hb_ := z32 x1; omega) (by have hb_ := z32 x1; omega)) (fun v_1 hj_2 => ?_)
  refine s_iconst (v := 1) E dX5_follow_5 (by decide) ?_
  refine s_iload_n E dX5_follow_6 rfl rfl ?_
  refine s_ishl E dX5_follow_7 ?_
  refine z_any (fun z_3 => ?_)
  refine s_istore (L2 := [some (AR 81), some (AR 69), some (AI x1), some (AI x2), some (AI z_3), none]) E dX5_follow_8 (by decide) rfl ?_
  refine s_iconst (v := 0) E dX5_follow_10 (by decide) ?_
  refine s_istore (L2 := [some (AR 81), some (AR 69), some (AI x1), some (AI x2), some (AI z_3), some (AI 0)]) E dX5_follow_11 (by decide) rfl ?_
  refine z_loop (St := Int32 × Int32) (Pi := fun ⟨q13_4_3, q13_5_3⟩ v13 => (0 ≤ q13_5_3.toInt ∧ q13_5_3.toInt ≤ 15) ∧ Jv w v13) (Lf := fun ⟨q13_4_3, q13_5_3⟩ => [some (AR 81), some (AR 69), some (AI x1), some (AI x2), some (AI q13_4_3), some (AI q13_5_3)]) (fun ⟨q13_4_3, q13_5_3⟩ _ => (16 - q13_5_3.toInt).toNat) ⟨z_3, 0⟩ ⟨⟨by decide, by decide⟩, hj_2⟩ ?_
  rintro ⟨q13_4_3, q13_5_3⟩ v13 ⟨hq13_5, hj_4⟩ ih13
  refine s_loc (L2 := [some (AR 81), some (AR 69), some (AI x1), some (AI x2), some (AI q13_4_3), some (AI q13_5_3)]) rfl ?_
  refine s_iload E dX5_follow_13 rfl ?_
  refine s_aload_n E dX5_follow_15 rfl rfl ?_
  refine s_gI E fg_X5_38 rfl rfl (jv_lt hj_4 (by decide)) dX5_follow_16 ?_
  refine z_nm (P := fun z => z.toInt = (v13.2.2.1 81 4).toInt ∧ 0 ≤ z.toInt ∧ z.toInt ≤ 14) ⟨rfl, (rg_81_4 hj_4)⟩ (fun z_5 hz_5 => ?_)
  refine z_icmp_gt (tgt := 57) (u := q13_5_3.toInt) (v := z_5.toInt) E dX5_follow_19 (by decide) rfl rfl (fun h_6 => ?_) (fun h_6 => ?_)
  ·
    exact r_void E dX5_follow_57 hj_4
  ·
    refine s_iload_n E dX5_follow_22 rfl rfl ?_
    refine s_iload E dX5_follow_23 rfl ?_
    refine s_sI (As := [AI x2, AI q13_5_3]) (S := []) E (Z_X9_hasBit l D aC b v13 x2 q13_5_3 hj_4.1 ) cs_X5_50 rfl rfl (Nat.le_of_ble_eq_true rfl) (Nat.le_of_ble_eq_true rfl) ⟨(Nat.le_of_ble_eq_true rfl), (Nat.le_of_ble_eq_true rfl)⟩ (Nat.le_of_ble_eq_true rfl) dX5_follow_25 (fun z_9 u_7 hp_8 => ?_)
    obtain ⟨hz_9, hp_8⟩ := hp_8
    subst hp_8
    refine z_if_ne (tgt := 42) (u := z_9.toInt) E dX5_follow_28 (by decide) rfl (fun h_11 => ?_) (fun h_11 => ?_)
    ·
      refine s_aload_n E dX5_follow_42 rfl rfl ?_
      refine s_gR (r := 84) E fg_X5_18 rfl rfl (jv_lt hj_4 (by decide)) (jv_r hj_4 (by decide +kernel)) dX5_follow_43 ?_
      refine s_iload E dX5_follow_46 rfl ?_
      refine s_iload E dX5_follow_48 rfl ?_
      refine s_iast E rfl (jv_lt hj_4 (by decide)) (z_in (u := q13_5_3.toInt) rfl (by omega) (by omega)) dX5_follow_50 ?_
      refine s_gen (P := Jv w) (jv_a_84 hj_4 (by have hb_ := z32 q13_4_3; omega) (by have hb_ := z32 q13_4_3; omega)) (fun v_12 hj_13 => ?_)
      refine z_iinc (u := q13_5_3.toInt) (L2 := fun z_14 => [some (AR 81), some (AR 69), some (AI x1), some (AI x2), some (AI q13_4_3), some (AI z_14)]) E dX5_follow_51 rfl rfl (by decide) (fun _ => rfl) (by decide) (by omega) (by omega) (fun z_14 hz_14 => ?_)
      refine s_goto (tgt := 13) E dX5_follow_54 (by decide) ?_
      exact ih13 ⟨q13_4_3, z_14⟩ v_12 ⟨⟨by have hb_ := z32 z_14; omega, by have hb_ := z32 z_14; omega⟩, hj_13⟩ (by first | omega | (dsimp only; omega))
    ·
      refine s_aload_n E dX5_follow_31 rfl rfl ?_
      refine s_aload_n E dX5_follow_32 rfl rfl ?_
      refine s_iload E dX5_follow_33 rfl ?_
      refine s_iload E dX5_follow_35 rfl ?_
      refine s_vI (As := [AR 69, AI q13_5_3, AI q13_4_3]) (S := []) E (Z_X5_passed_81_r69 l D aC b v13 q13_5_3 q13_4_3 hj_4.1 ) cv_X5_62 rfl rfl rfl (jv_lt hj_4 (by decide)) (Nat.le_of_ble_eq_true rfl) (Nat.le_of_ble_eq_true rfl) ⟨(Nat.le_of_ble_eq_true rfl), (Nat.le_of_ble_eq_true rfl)⟩ (Nat.le_of_ble_eq_true rfl) dX5_follow_37 (fun z_17 u_15 hp_16 => ?_)
      obtain ⟨hz_17, hp_16⟩ := hp_16
      have hj_18 := jv_trans hj_4 hp_16
      refine s_istore (L2 := [some (AR 81), some (AR 69), some (AI x1), some (AI x2), some (AI z_17), some (AI q13_5_3)]) E dX5_follow_40 (by decide) rfl ?_
      refine s_aload_n E dX5_follow_42 rfl rfl ?_
      refine s_gR (r := 84) E fg_X5_18 rfl rfl (jv_lt hj_18 (by decide)) (jv_r hj_18 (by decide +kernel)) dX5_follow_43 ?_
      refine s_iload E dX5_follow_46 rfl ?_
      refine s_iload E dX5_follow_48 rfl ?_
      refine s_iast E rfl (jv_lt hj_18 (by decide)) (z_in (u := q13_5_3.toInt) rfl (by omega) (by omega)) dX5_follow_50 ?_
      refine s_gen (P := Jv w) (jv_a_84 hj_18 (by have hb_ := z32 z_17; omega) (by have hb_ := z32 z_17; omega)) (fun v_19 hj_20 => ?_)
      refine z_iinc (u := q13_5_3.toInt) (L2 := fun z_21 => [some (AR 81), some (AR 69), some (AI x1), some (AI x2), some (AI z_17), some (AI z_21)]) E dX5_follow_51 rfl rfl (by decide) (fun _ => rfl) (by decide) (by omega) (by omega) (fun z_21 hz_21 => ?_)
      refine s_goto (tgt := 13) E dX5_follow_54 (by decide) ?_
      exact ih13 ⟨z_17, z_21⟩ v_19 ⟨⟨by have hb_ := z32 z_21; omega, by have hb_ := z32 z_21; omega⟩, hj_20⟩ (by first | omega | (dsimp only; omega))
set_option maxRecDepth 20000 in
set_option maxHeartbeats 2000000 in
theorem Z_X5_behind_81 (l : Launch) (D : va_G) (aC : Nat → ClassId) (b : Nat) (w : XW) (x1 : Int32) (hI : Iv w)  : CnI l D aC b M_X5_behind 0 0 0 0 [AR 81, AI x1] w (fun r u => ((-2147483648) ≤ r.toInt ∧ r.toInt ≤ 2147483647 ∧ (r.toInt = 0 ∨ (0 ≤ x1.toInt ∧ x1.toInt ≤ 14))) ∧ w = u) := by
  refine cn_I (own := RX5) (nm := "behind") (L0 := [some (AR 81), some (AI x1)]) (by decide +kernel) rfl rfl (Nat.le_of_ble_eq_true rfl) rfl ?_
  intro p e s m args below meth c E hin
  have hJ : Jv w w := jv_rfl hI
  refine s_iload_n E dX5_behind_0 rfl rfl ?_
  refine z_if_lt (tgt := 21) (u := x1.toInt) E dX5_behind_1 (by decide) rfl (fun h_1 => ?_) (fun h_1 => ?_)
  ·
    refine s_iconst (v := 0) E dX5_behind_21 (by decide) ?_
    exact r_int E dX5_behind_22 ⟨⟨by decide, by decide, by first | (left; decide) | (right; have hb_ := z32 x1; omega)⟩, rfl⟩
  ·
    refine s_iload_n E dX5_behind_4 rfl rfl ?_
    refine s_aload_n E dX5_behind_5 rfl rfl ?_
    refine s_gI E fg_X5_38 rfl rfl (jv_lt hJ (by decide)) dX5_behind_6 ?_
    refine z_nm (P := fun z => z.toInt = (w.2.2.1 81 4).toInt ∧ 0 ≤ z.toInt ∧ z.toInt ≤ 14) ⟨rfl, (rg_81_4 hJ)⟩ (fun z_2 hz_2 => ?_)
    refine z_icmp_gt (tgt := 21) (u := x1.toInt) (v := z_2.toInt) E dX5_behind_9 (by decide) rfl rfl (fun h_3 => ?_) (fun h_3 => ?_)
    ·
      refine s_iconst (v := 0) E dX5_behind_21 (by decide) ?_
      exact r_int E dX5_behind_22 ⟨⟨by decide, by decide, by first | (left; decide) | (right; have hb_ := z32 x1; omega)⟩, rfl⟩
    ·
      refine s_aload_n E dX5_behind_12 rfl rfl ?_
      refine s_gR (r := 84) E fg_X5_18 rfl rfl (jv_lt hJ (by decide)) (jv_r hJ (by decide +kernel)) dX5_behind_13 ?_
      refine s_iload_n E dX5_behind_16 rfl rfl ?_
      refine s_iald E rfl (jv_lt hJ (by decide)) (z_in (u := x1.toInt) rfl (by omega) (by omega)) dX5_behind_17 ?_
      refine z_any (fun z_4 => ?_)
      refine s_goto (tgt := 22) E dX5_behind_18 (by decide) ?_
      exact r_int E dX5_behind_22 ⟨⟨by have hb_ := z32 z_4; omega, by have hb_ := z32 z_4; omega, by have hb_ := z32 z_4; have hc_ := z32 x1; omega⟩, rfl⟩
set_option maxRecDepth 20000 in
set_option maxHeartbeats 2000000 in
theorem Z_X9_inTheEnd_0_r69 (l : Launch) (D : va_G) (aC : Nat → ClassId) (b : Nat) (w : XW) (x1 : Int32) (hI : Iv w)  : CnI l D aC b M_X9_inTheEnd 4 94 0 0 [AR 0, AR 69, AI x1] w (fun r u => ((-2147483648) ≤ r.toInt ∧ r.toInt ≤ 2147483647) ∧ Jv w u) := by
  refine cn_I (own := RX9) (nm := "inTheEnd") (L0 := [some (AR 0), some (AR 69), some (AI x1)]) (by decide +kernel) rfl rfl (Nat.le_of_ble_eq_true rfl) rfl ?_
  intro p e s m args below meth c E hin
  have hJ : Jv w w := jv_rfl hI
  refine s_aload_n E dX9_inTheEnd_0 rfl rfl ?_
  refine s_gR (r := 81) E fg_X9_64 rfl rfl (jv_lt hJ (by decide)) (jv_r hJ (by decide +kernel)) dX9_inTheEnd_1 ?_
  refine s_aload_n E dX9_inTheEnd_4 rfl rfl ?_
  refine s_iload_n E dX9_inTheEnd_5 rfl rfl ?_
  refine s_iconst (v := 0) E dX9_inTheEnd_6 (by decide) ?_
  refine s_vV (As := [AR 69, AI x1, AI 0]) (S := []) E (Z_X5_follow_81_r69 l D aC b w x1 0 hJ.1 ) cv_X9_220 rfl rfl rfl (jv_lt hJ (by decide)) (Nat.le_of_ble_eq_true rfl) (Nat.le_of_ble_eq_true rfl) ⟨(Nat.le_of_ble_eq_true rfl), (Nat.le_of_ble_eq_true rfl)⟩ (Nat.le_of_ble_eq_true rfl) dX9_inTheEnd_7 (fun u_1 hp_2 => ?_)
  have hj_3 := jv_trans hJ hp_2
  refine s_aload_n E dX9_inTheEnd_10 rfl rfl ?_
  refine s_gR (r := 81) E fg_X9_64 rfl rfl (jv_lt hj_3 (by decide)) (jv_r hj_3 (by decide +kernel)) dX9_inTheEnd_11 ?_
  refine s_aload_n E dX9_inTheEnd_14 rfl rfl ?_
  refine s_gR (r := 2) E fg_X9_20 rfl rfl (jv_lt hj_3 (by decide)) (jv_r hj_3 (by decide +kernel)) dX9_inTheEnd_15 ?_
  refine s_gI E fg_X9_169 rfl rfl (jv_lt hj_3 (by decide)) dX9_inTheEnd_18 ?_
  refine z_nm (P := fun z => z.toInt = (u_1.2.2.1 2 2).toInt ∧ 0 ≤ z.toInt ∧ z.toInt ≤ 14) ⟨rfl, (rg_2_2 hj_3)⟩ (fun z_4 hz_4 => ?_)
  refine s_vI (As := [AI z_4]) (S := []) E (Z_X5_behind_81 l D aC b u_1 z_4 hj_3.1 ) cv_X9_224 rfl rfl rfl (jv_lt hj_3 (by decide)) (Nat.le_of_ble_eq_true rfl) (Nat.le_of_ble_eq_true rfl) ⟨(Nat.le_of_ble_eq_true rfl), (Nat.le_of_ble_eq_true rfl)⟩ (Nat.le_of_ble_eq_true rfl) dX9_inTheEnd_21 (fun z_7 u_5 hp_6 => ?_)
  obtain ⟨hz_7, hp_6⟩ := hp_6
  subst hp_6
  exact r_int E dX9_inTheEnd_24 ⟨⟨by have hb_ := z32 z_7; omega, by have hb_ := z32 z_7; omega⟩, hj_3⟩
set_option maxRecDepth 20000 in
set_option maxHeartbeats 2000000 in
theorem Z_X9_hears_0 (l : Launch) (D : va_G) (aC : Nat → ClassId) (b : Nat) (w : XW) (x1 : Int32) (hI : Iv w)  : CnI l D aC b M_X9_hears 5 116 0 0 [AR 0, AI x1] w (fun r u => ((-2147483648) ≤ r.toInt ∧ r.toInt ≤ 2147483647 ∧ (¬ r.toInt = 0 ∨ (0 ≤ x1.toInt ∧ x1.toInt ≤ 5)) ∧ (¬ r.toInt = 0 ∨ (1 ≤ (w.2.2.1 5 3).toInt ∧ (w.2.2.1 5 3).toInt ≤ 6))) ∧ Jv w u) := by
  refine cn_I (own := RX9) (nm := "hears") (L0 := [some (AR 0), some (AI x1), none, none]) (by decide +kernel) rfl rfl (Nat.le_of_ble_eq_true rfl) rfl ?_
  intro p e s m args below meth c E hin
  have hJ : Jv w w := jv_rfl hI
  refine s_aload_n E dX9_hears_0 rfl rfl ?_
  refine s_gR (r := 2) E fg_X9_20 rfl rfl (jv_lt hJ (by decide)) (jv_r hJ (by decide +kernel)) dX9_hears_1 ?_
  refine s_iload_n E dX9_hears_4 rfl rfl ?_
  refine s_vI (As := [AI x1]) (S := []) E (Z_X0_hasLady_2 l D aC b w x1 hJ.1 ) cv_X9_139 rfl rfl rfl (jv_lt hJ (by decide)) (Nat.le_of_ble_eq_true rfl) (Nat.le_of_ble_eq_true rfl) ⟨(Nat.le_of_ble_eq_true rfl), (Nat.le_of_ble_eq_true rfl)⟩ (Nat.le_of_ble_eq_true rfl) dX9_hears_5 (fun z_3 u_1 hp_2 => ?_)
  obtain ⟨hz_3, hp_2⟩ := hp_2
  subst hp_2
  refine z_if_ne (tgt := 14) (u := z_3.toInt) E dX9_hears_8 (by decide) rfl (fun h_5 => ?_) (fun h_5 => ?_)
  ·
    refine s_aload_n E dX9_hears_14 rfl rfl ?_
    refine s_vV (As := []) (S := []) E (Z_X9_passAsTold_0 l D aC b w  hJ.1 ) cv_X9_227 rfl rfl rfl (jv_lt hJ (by decide)) (Nat.le_of_ble_eq_true rfl) (Nat.le_of_ble_eq_true rfl) ⟨(Nat.le_of_ble_eq_true rfl), (Nat.le_of_ble_eq_true rfl)⟩ (Nat.le_of_ble_eq_true rfl) dX9_hears_15 (fun u_6 hp_7 => ?_)
    have hj_8 := jv_trans hJ hp_7
    refine s_iconst (v := 0) E dX9_hears_18 (by decide) ?_
    refine s_istore_n (L2 := [some (AR 0), some (AI x1), some (AI 0), none]) E dX9_hears_19 rfl (by decide) rfl ?_
    refine s_iconst (v := 0) E dX9_hears_20 (by decide) ?_
    refine s_istore_n (L2 := [some (AR 0), some (AI x1), some (AI 0), some (AI 0)]) E dX9_hears_21 rfl (by decide) rfl ?_
    refine z_loop (St := Int32 × Int32) (Pi := fun ⟨q22_2_8, q22_3_8⟩ v22 => (0 ≤ q22_3_8.toInt ∧ q22_3_8.toInt ≤ 6) ∧ Jv w v22) (Lf := fun ⟨q22_2_8, q22_3_8⟩ => [some (AR 0), some (AI x1), some (AI q22_2_8), some (AI q22_3_8)]) (fun ⟨q22_2_8, q22_3_8⟩ _ => (7 - q22_3_8.toInt).toNat) ⟨0, 0⟩ ⟨⟨by decide, by decide⟩, hj_8⟩ ?_
    rintro ⟨q22_2_8, q22_3_8⟩ v22 ⟨hq22_3, hj_9⟩ ih22
    refine s_loc (L2 := [some (AR 0), some (AI x1), some (AI q22_2_8), some (AI q22_3_8)]) rfl ?_
    refine s_iload_n E dX9_hears_22 rfl rfl ?_
    refine s_aload_n E dX9_hears_23 rfl rfl ?_
    refine s_gR (r := 2) E fg_X9_20 rfl rfl (jv_lt hj_9 (by decide)) (jv_r hj_9 (by decide +kernel)) dX9_hears_24 ?_
    refine s_gR (r := 5) E fg_X9_133 rfl rfl (jv_lt hj_9 (by decide)) (jv_r hj_9 (by decide +kernel)) dX9_hears_27 ?_
    refine s_gI E fg_X9_200 rfl rfl (jv_lt hj_9 (by decide)) dX9_hears_30 ?_
    refine z_nm (P := fun z => z.toInt = (v22.2.2.1 5 3).toInt ∧ 0 ≤ z.toInt ∧ z.toInt ≤ 6) ⟨rfl, (rg_5_3 hj_9)⟩ (fun z_10 hz_10 => ?_)
    refine z_icmp_ge (tgt := 64) (u := q22_3_8.toInt) (v := z_10.toInt) E dX9_hears_33 (by decide) rfl rfl (fun h_11 => ?_) (fun h_11 => ?_)
    ·
      refine s_iload_n E dX9_hears_64 rfl rfl ?_
      exact r_int E dX9_hears_65 ⟨⟨by have hb_ := z32 q22_2_8; omega, by have hb_ := z32 q22_2_8; omega, by have hb_ := z32 q22_2_8; have hc_ := z32 x1; omega, by have hb_ := z32 q22_2_8; have hc_ := z32 (w.2.2.1 5 3); omega⟩, hj_9⟩
    ·
      refine s_aload_n E dX9_hears_36 rfl rfl ?_
      refine s_aload_n E dX9_hears_37 rfl rfl ?_
      refine s_gR (r := 69) E fg_X9_54 rfl rfl (jv_lt hj_9 (by decide)) (jv_r hj_9 (by decide +kernel)) dX9_hears_38 ?_
      refine s_iload_n E dX9_hears_41 rfl rfl ?_
      refine s_vI (As := [AR 69, AI q22_3_8]) (S := []) E (Z_X9_inTheEnd_0_r69 l D aC b v22 q22_3_8 hj_9.1 ) cv_X9_230 rfl rfl rfl (jv_lt hj_9 (by decide)) (Nat.le_of_ble_eq_true rfl) (Nat.le_of_ble_eq_true rfl) ⟨(Nat.le_of_ble_eq_true rfl), (Nat.le_of_ble_eq_true rfl)⟩ (Nat.le_of_ble_eq_true rfl) dX9_hears_42 (fun z_14 u_12 hp_13 => ?_)
      obtain ⟨hz_14, hp_13⟩ := hp_13
      have hj_15 := jv_trans hj_9 hp_13
      refine s_iload_n E dX9_hears_45 rfl rfl ?_
      refine s_sI (As := [AI z_14, AI x1]) (S := []) E (Z_X9_hasBit l D aC b u_12 z_14 x1 hj_15.1 ) cs_X9_175 rfl rfl (Nat.le_of_ble_eq_true rfl) (Nat.le_of_ble_eq_true rfl) ⟨(Nat.le_of_ble_eq_true rfl), (Nat.le_of_ble_eq_true rfl)⟩ (Nat.le_of_ble_eq_true rfl) dX9_hears_46 (fun z_18 u_16 hp_17 => ?_)
      obtain ⟨hz_18, hp_17⟩ := hp_17
      subst hp_17
      refine z_if_eq (tgt := 58) (u := z_18.toInt) E dX9_hears_49 (by decide) rfl (fun h_20 => ?_) (fun h_20 => ?_)
      ·
        refine z_iinc (u := q22_3_8.toInt) (L2 := fun z_21 => [some (AR 0), some (AI x1), some (AI q22_2_8), some (AI z_21)]) E dX9_hears_58 rfl rfl (by decide) (fun _ => rfl) (by decide) (by omega) (by omega) (fun z_21 hz_21 => ?_)
        refine s_goto (tgt := 22) E dX9_hears_61 (by decide) ?_
        exact ih22 ⟨q22_2_8, z_21⟩ u_12 ⟨⟨by have hb_ := z32 z_21; omega, by have hb_ := z32 z_21; omega⟩, hj_15⟩ (by first | omega | (dsimp only; omega))
      ·
        refine s_iload_n E dX9_hears_52 rfl rfl ?_
        refine s_iconst (v := 1) E dX9_hears_53 (by decide) ?_
        refine s_iload_n E dX9_hears_54 rfl rfl ?_
        refine z_shl1 5 (u := q22_3_8.toInt) (B := 32) E dX9_hears_55 rfl (by omega) (by omega) (by decide) (by decide) (fun z_22 hz_22 => ?_)
        refine s_ior E dX9_hears_56 ?_
        refine z_any (fun z_23 => ?_)
        refine s_istore_n (L2 := [some (AR 0), some (AI x1), some (AI z_23), some (AI q22_3_8)]) E dX9_hears_57 rfl (by decide) rfl ?_
        refine z_iinc (u := q22_3_8.toInt) (L2 := fun z_24 => [some (AR 0), some (AI x1), some (AI z_23), some (AI z_24)]) E dX9_hears_58 rfl rfl (by decide) (fun _ => rfl) (by decide) (by omega) (by omega) (fun z_24 hz_24 => ?_)
        refine s_goto (tgt := 22) E dX9_hears_61 (by decide) ?_
        exact ih22 ⟨z_23, z_24⟩ u_12 ⟨⟨by have hb_ := z32 z_24; omega, by have hb_ := z32 z_24; omega⟩, hj_15⟩ (by first | omega | (dsimp only; omega))
  ·
    refine s_bipush (v := (-2)) E dX9_hears_11 (by decide) ?_
    exact r_int E dX9_hears_13 ⟨⟨by decide, by decide, by first | (left; decide) | (right; have hb_ := z32 x1; omega), by first | (left; decide) | (right; have hb_ := z32 (w.2.2.1 5 3); omega)⟩, hJ⟩
set_option maxRecDepth 20000 in
set_option maxHeartbeats 2000000 in
theorem Z_X5_gotAt_81 (l : Launch) (D : va_G) (aC : Nat → ClassId) (b : Nat) (w : XW) (x1 : Int32) (hI : Iv w)  : CnI l D aC b M_X5_gotAt 1 21 0 0 [AR 81, AI x1] w (fun r u => ((-1) ≤ r.toInt ∧ r.toInt ≤ 14 ∧ (¬ r.toInt = 0 ∨ (0 ≤ x1.toInt ∧ x1.toInt ≤ 31))) ∧ Jv w u) := by
  refine cn_I (own := RX5) (nm := "gotAt") (L0 := [some (AR 81), some (AI x1), none]) (by decide +kernel) rfl rfl (Nat.le_of_ble_eq_true rfl) rfl ?_
  intro p e s m args below meth c E hin
  have hJ : Jv w w := jv_rfl hI
  refine s_iconst (v := 0) E dX5_gotAt_0 (by decide) ?_
  refine s_istore_n (L2 := [some (AR 81), some (AI x1), some (AI 0)]) E dX5_gotAt_1 rfl (by decide) rfl ?_
  refine z_loop (St := Int32) (Pi := fun q2_2_0 v2 => (0 ≤ q2_2_0.toInt ∧ q2_2_0.toInt ≤ 15) ∧ Jv w v2) (Lf := fun q2_2_0 => [some (AR 81), some (AI x1), some (AI q2_2_0)]) (fun q2_2_0 _ => (16 - q2_2_0.toInt).toNat) 0 ⟨⟨by decide, by decide⟩, hJ⟩ ?_
  rintro q2_2_0 v2 ⟨hq2_2, hj_1⟩ ih2
  refine s_loc (L2 := [some (AR 81), some (AI x1), some (AI q2_2_0)]) rfl ?_
  refine s_iload_n E dX5_gotAt_2 rfl rfl ?_
  refine s_aload_n E dX5_gotAt_3 rfl rfl ?_
  refine s_gI E fg_X5_38 rfl rfl (jv_lt hj_1 (by decide)) dX5_gotAt_4 ?_
  refine z_nm (P := fun z => z.toInt = (v2.2.2.1 81 4).toInt ∧ 0 ≤ z.toInt ∧ z.toInt ≤ 14) ⟨rfl, (rg_81_4 hj_1)⟩ (fun z_2 hz_2 => ?_)
  refine z_icmp_gt (tgt := 31) (u := q2_2_0.toInt) (v := z_2.toInt) E dX5_gotAt_7 (by decide) rfl rfl (fun h_3 => ?_) (fun h_3 => ?_)
  ·
    refine s_iconst (v := (-1)) E dX5_gotAt_31 (by decide) ?_
    exact r_int E dX5_gotAt_32 ⟨⟨by decide, by decide, by first | (left; decide) | (right; have hb_ := z32 x1; omega)⟩, hj_1⟩
  ·
    refine s_aload_n E dX5_gotAt_10 rfl rfl ?_
    refine s_gR (r := 84) E fg_X5_18 rfl rfl (jv_lt hj_1 (by decide)) (jv_r hj_1 (by decide +kernel)) dX5_gotAt_11 ?_
    refine s_iload_n E dX5_gotAt_14 rfl rfl ?_
    refine s_iald E rfl (jv_lt hj_1 (by decide)) (z_in (u := q2_2_0.toInt) rfl (by omega) (by omega)) dX5_gotAt_15 ?_
    refine z_any (fun z_4 => ?_)
    refine s_iload_n E dX5_gotAt_16 rfl rfl ?_
    refine s_sI (As := [AI z_4, AI x1]) (S := []) E (Z_X9_hasBit l D aC b v2 z_4 x1 hj_1.1 ) cs_X5_50 rfl rfl (Nat.le_of_ble_eq_true rfl) (Nat.le_of_ble_eq_true rfl) ⟨(Nat.le_of_ble_eq_true rfl), (Nat.le_of_ble_eq_true rfl)⟩ (Nat.le_of_ble_eq_true rfl) dX5_gotAt_17 (fun z_7 u_5 hp_6 => ?_)
    obtain ⟨hz_7, hp_6⟩ := hp_6
    subst hp_6
    refine z_if_eq (tgt := 25) (u := z_7.toInt) E dX5_gotAt_20 (by decide) rfl (fun h_9 => ?_) (fun h_9 => ?_)
    ·
      refine z_iinc (u := q2_2_0.toInt) (L2 := fun z_10 => [some (AR 81), some (AI x1), some (AI z_10)]) E dX5_gotAt_25 rfl rfl (by decide) (fun _ => rfl) (by decide) (by omega) (by omega) (fun z_10 hz_10 => ?_)
      refine s_goto (tgt := 2) E dX5_gotAt_28 (by decide) ?_
      exact ih2 z_10 v2 ⟨⟨by have hb_ := z32 z_10; omega, by have hb_ := z32 z_10; omega⟩, hj_1⟩ (by first | omega | (dsimp only; omega))
    ·
      refine s_iload_n E dX5_gotAt_23 rfl rfl ?_
      exact r_int E dX5_gotAt_24 ⟨⟨by have hb_ := z32 q2_2_0; omega, by have hb_ := z32 q2_2_0; omega, by have hb_ := z32 q2_2_0; have hc_ := z32 x1; omega⟩, hj_1⟩
set_option maxRecDepth 20000 in
set_option maxHeartbeats 2000000 in
theorem Z_X5_ahead_81 (l : Launch) (D : va_G) (aC : Nat → ClassId) (b : Nat) (w : XW) (x1 : Int32) (hI : Iv w)  : CnI l D aC b M_X5_ahead 1 21 0 0 [AR 81, AI x1] w (fun r u => ((-2147483648) ≤ r.toInt ∧ r.toInt ≤ 2147483647) ∧ w = u) := by
  refine cn_I (own := RX5) (nm := "ahead") (L0 := [some (AR 81), some (AI x1)]) (by decide +kernel) rfl rfl (Nat.le_of_ble_eq_true rfl) rfl ?_
  intro p e s m args below meth c E hin
  have hJ : Jv w w := jv_rfl hI
  refine s_iload_n E dX5_ahead_0 rfl rfl ?_
  refine z_if_ne (tgt := 13) (u := x1.toInt) E dX5_ahead_1 (by decide) rfl (fun h_1 => ?_) (fun h_1 => ?_)
  ·
    refine s_aload_n E dX5_ahead_13 rfl rfl ?_
    refine s_iload_n E dX5_ahead_14 rfl rfl ?_
    refine s_iconst (v := 1) E dX5_ahead_15 (by decide) ?_
    refine s_isub E dX5_ahead_16 ?_
    refine z_any (fun z_2 => ?_)
    refine s_vI (As := [AI z_2]) (S := []) E (Z_X5_behind_81 l D aC b w z_2 hJ.1 ) cv_X5_66 rfl rfl rfl (jv_lt hJ (by decide)) (Nat.le_of_ble_eq_true rfl) (Nat.le_of_ble_eq_true rfl) ⟨(Nat.le_of_ble_eq_true rfl), (Nat.le_of_ble_eq_true rfl)⟩ (Nat.le_of_ble_eq_true rfl) dX5_ahead_17 (fun z_5 u_3 hp_4 => ?_)
    obtain ⟨hz_5, hp_4⟩ := hp_4
    subst hp_4
    exact r_int E dX5_ahead_20 ⟨⟨by have hb_ := z32 z_5; omega, by have hb_ := z32 z_5; omega⟩, rfl⟩
  ·
    refine s_iconst (v := 1) E dX5_ahead_4 (by decide) ?_
    refine s_aload_n E dX5_ahead_5 rfl rfl ?_
    refine s_gI E fg_X5_59 rfl rfl (jv_lt hJ (by decide)) dX5_ahead_6 ?_
    refine z_nm (P := fun z => z.toInt = (w.2.2.1 81 5).toInt) rfl (fun z_7 hz_7 => ?_)
    refine s_ishl E dX5_ahead_9 ?_
    refine z_any (fun z_8 => ?_)
    refine s_goto (tgt := 20) E dX5_ahead_10 (by decide) ?_
    exact r_int E dX5_ahead_20 ⟨⟨by have hb_ := z32 z_8; omega, by have hb_ := z32 z_8; omega⟩, rfl⟩
set_option maxRecDepth 20000 in
set_option maxHeartbeats 2000000 in
theorem Z_X5_giverOf_81_r69 (l : Launch) (D : va_G) (aC : Nat → ClassId) (b : Nat) (w : XW) (x1 : Int32) (hI : Iv w)  : CnI l D aC b M_X5_giverOf 2 44 0 0 [AR 81, AR 69, AI x1] w (fun r u => ((-1) ≤ r.toInt ∧ r.toInt ≤ 5 ∧ (¬ r.toInt = 0 ∨ (0 ≤ x1.toInt ∧ x1.toInt ≤ 31))) ∧ Jv w u) := by
  refine cn_I (own := RX5) (nm := "giverOf") (L0 := [some (AR 81), some (AR 69), some (AI x1), none, none]) (by decide +kernel) rfl rfl (Nat.le_of_ble_eq_true rfl) rfl ?_
  intro p e s m args below meth c E hin
  have hJ : Jv w w := jv_rfl hI
  refine s_aload_n E dX5_giverOf_0 rfl rfl ?_
  refine s_iload_n E dX5_giverOf_1 rfl rfl ?_
  refine s_vI (As := [AI x1]) (S := []) E (Z_X5_gotAt_81 l D aC b w x1 hJ.1 ) cv_X5_69 rfl rfl rfl (jv_lt hJ (by decide)) (Nat.le_of_ble_eq_true rfl) (Nat.le_of_ble_eq_true rfl) ⟨(Nat.le_of_ble_eq_true rfl), (Nat.le_of_ble_eq_true rfl)⟩ (Nat.le_of_ble_eq_true rfl) dX5_giverOf_2 (fun z_3 u_1 hp_2 => ?_)
  obtain ⟨hz_3, hp_2⟩ := hp_2
  have hj_4 := jv_trans hJ hp_2
  refine s_istore_n (L2 := [some (AR 81), some (AR 69), some (AI x1), some (AI z_3), none]) E dX5_giverOf_5 rfl (by decide) rfl ?_
  refine s_iload_n E dX5_giverOf_6 rfl rfl ?_
  refine s_aload_n E dX5_giverOf_7 rfl rfl ?_
  refine s_gI E fg_X5_59 rfl rfl (jv_lt hj_4 (by decide)) dX5_giverOf_8 ?_
  refine z_nm (P := fun z => z.toInt = (u_1.2.2.1 81 5).toInt) rfl (fun z_5 hz_5 => ?_)
  refine z_icmp_eq (tgt := 19) (u := x1.toInt) (v := z_5.toInt) E dX5_giverOf_11 (by decide) rfl rfl (fun h_6 => ?_) (fun h_6 => ?_)
  ·
    refine s_iconst (v := (-1)) E dX5_giverOf_19 (by decide) ?_
    exact r_int E dX5_giverOf_20 ⟨⟨by decide, by decide, by first | (left; decide) | (right; have hb_ := z32 x1; omega)⟩, hj_4⟩
  ·
    refine s_iload_n E dX5_giverOf_14 rfl rfl ?_
    refine s_iconst (v := (-1)) E dX5_giverOf_15 (by decide) ?_
    refine z_icmp_ne (tgt := 21) (u := z_3.toInt) (v := (-1)) E dX5_giverOf_16 (by decide) rfl (by decide) (fun h_7 => ?_) (fun h_7 => ?_)
    ·
      refine s_iconst (v := 0) E dX5_giverOf_21 (by decide) ?_
      refine s_istore (L2 := [some (AR 81), some (AR 69), some (AI x1), some (AI z_3), some (AI 0)]) E dX5_giverOf_22 (by decide) rfl ?_
      refine z_loop (St := Int32) (Pi := fun q24_4_7 v24 => (0 ≤ q24_4_7.toInt ∧ q24_4_7.toInt ≤ 6) ∧ Jv w v24) (Lf := fun q24_4_7 => [some (AR 81), some (AR 69), some (AI x1), some (AI z_3), some (AI q24_4_7)]) (fun q24_4_7 _ => (7 - q24_4_7.toInt).toNat) 0 ⟨⟨by decide, by decide⟩, hj_4⟩ ?_
      rintro q24_4_7 v24 ⟨hq24_4, hj_8⟩ ih24
      refine s_loc (L2 := [some (AR 81), some (AR 69), some (AI x1), some (AI z_3), some (AI q24_4_7)]) rfl ?_
      refine s_iload E dX5_giverOf_24 rfl ?_
      refine s_aload_n E dX5_giverOf_26 rfl rfl ?_
      refine s_gI E fg_X5_33 rfl rfl (jv_lt hj_8 (by decide)) dX5_giverOf_27 ?_
      refine z_nm (P := fun z => z.toInt = (v24.2.2.1 81 3).toInt ∧ 0 ≤ z.toInt ∧ z.toInt ≤ 6) ⟨rfl, (rg_81_3 hj_8)⟩ (fun z_9 hz_9 => ?_)
      refine z_icmp_ge (tgt := 77) (u := q24_4_7.toInt) (v := z_9.toInt) E dX5_giverOf_30 (by decide) rfl rfl (fun h_10 => ?_) (fun h_10 => ?_)
      ·
        refine s_iconst (v := (-1)) E dX5_giverOf_77 (by decide) ?_
        exact r_int E dX5_giverOf_78 ⟨⟨by decide, by decide, by first | (left; decide) | (right; have hb_ := z32 x1; omega)⟩, hj_8⟩
      ·
        refine s_aload_n E dX5_giverOf_33 rfl rfl ?_
        refine s_iload_n E dX5_giverOf_34 rfl rfl ?_
        refine s_vI (As := [AI z_3]) (S := []) E (Z_X5_ahead_81 l D aC b v24 z_3 hj_8.1 ) cv_X5_72 rfl rfl rfl (jv_lt hj_8 (by decide)) (Nat.le_of_ble_eq_true rfl) (Nat.le_of_ble_eq_true rfl) ⟨(Nat.le_of_ble_eq_true rfl), (Nat.le_of_ble_eq_true rfl)⟩ (Nat.le_of_ble_eq_true rfl) dX5_giverOf_35 (fun z_13 u_11 hp_12 => ?_)
        obtain ⟨hz_13, hp_12⟩ := hp_12
        subst hp_12
        refine s_iload E dX5_giverOf_38 rfl ?_
        refine s_sI (As := [AI z_13, AI q24_4_7]) (S := []) E (Z_X9_hasBit l D aC b v24 z_13 q24_4_7 hj_8.1 ) cs_X5_50 rfl rfl (Nat.le_of_ble_eq_true rfl) (Nat.le_of_ble_eq_true rfl) ⟨(Nat.le_of_ble_eq_true rfl), (Nat.le_of_ble_eq_true rfl)⟩ (Nat.le_of_ble_eq_true rfl) dX5_giverOf_40 (fun z_17 u_15 hp_16 => ?_)
        obtain ⟨hz_17, hp_16⟩ := hp_16
        subst hp_16
        refine z_if_eq (tgt := 71) (u := z_17.toInt) E dX5_giverOf_43 (by decide) rfl (fun h_19 => ?_) (fun h_19 => ?_)
        ·
          refine z_iinc (u := q24_4_7.toInt) (L2 := fun z_20 => [some (AR 81), some (AR 69), some (AI x1), some (AI z_3), some (AI z_20)]) E dX5_giverOf_71 rfl rfl (by decide) (fun _ => rfl) (by decide) (by omega) (by omega) (fun z_20 hz_20 => ?_)
          refine s_goto (tgt := 24) E dX5_giverOf_74 (by decide) ?_
          exact ih24 z_20 v24 ⟨⟨by have hb_ := z32 z_20; omega, by have hb_ := z32 z_20; omega⟩, hj_8⟩ (by first | omega | (dsimp only; omega))
        ·
          refine s_aload_n E dX5_giverOf_46 rfl rfl ?_
          refine s_gR (r := 82) E fg_X5_9 rfl rfl (jv_lt hj_8 (by decide)) (jv_r hj_8 (by decide +kernel)) dX5_giverOf_47 ?_
          refine s_iload E dX5_giverOf_50 rfl ?_
          refine s_iald E rfl (jv_lt hj_8 (by decide)) (z_in (u := q24_4_7.toInt) rfl (by omega) (by omega)) dX5_giverOf_52 ?_
          refine z_any (fun z_21 => ?_)
          refine s_aload_n E dX5_giverOf_53 rfl rfl ?_
          refine s_iload E dX5_giverOf_54 rfl ?_
          refine s_iload_n E dX5_giverOf_56 rfl rfl ?_
          refine s_vI (As := [AI q24_4_7, AI z_3]) (S := [AI z_21]) E (Z_X2_companyOf_69 l D aC b v24 q24_4_7 z_3 hj_8.1 ) cv_X5_54 rfl rfl rfl (jv_lt hj_8 (by decide)) (Nat.le_of_ble_eq_true rfl) (Nat.le_of_ble_eq_true rfl) ⟨(Nat.le_of_ble_eq_true rfl), (Nat.le_of_ble_eq_true rfl)⟩ (Nat.le_of_ble_eq_true rfl) dX5_giverOf_57 (fun z_24 u_22 hp_23 => ?_)
          obtain ⟨hz_24, hp_23⟩ := hp_23
          subst hp_23
          refine s_iand E dX5_giverOf_60 ?_
          refine z_any (fun z_26 => ?_)
          refine s_iload_n E dX5_giverOf_61 rfl rfl ?_
          refine s_sI (As := [AI z_26, AI x1]) (S := []) E (Z_X9_hasBit l D aC b v24 z_26 x1 hj_8.1 ) cs_X5_50 rfl rfl (Nat.le_of_ble_eq_true rfl) (Nat.le_of_ble_eq_true rfl) ⟨(Nat.le_of_ble_eq_true rfl), (Nat.le_of_ble_eq_true rfl)⟩ (Nat.le_of_ble_eq_true rfl) dX5_giverOf_62 (fun z_29 u_27 hp_28 => ?_)
          obtain ⟨hz_29, hp_28⟩ := hp_28
          subst hp_28
          refine z_if_eq (tgt := 71) (u := z_29.toInt) E dX5_giverOf_65 (by decide) rfl (fun h_31 => ?_) (fun h_31 => ?_)
          ·
            refine z_iinc (u := q24_4_7.toInt) (L2 := fun z_32 => [some (AR 81), some (AR 69), some (AI x1), some (AI z_3), some (AI z_32)]) E dX5_giverOf_71 rfl rfl (by decide) (fun _ => rfl) (by decide) (by omega) (by omega) (fun z_32 hz_32 => ?_)
            refine s_goto (tgt := 24) E dX5_giverOf_74 (by decide) ?_
            exact ih24 z_32 v24 ⟨⟨by have hb_ := z32 z_32; omega, by have hb_ := z32 z_32; omega⟩, hj_8⟩ (by first | omega | (dsimp only; omega))
          ·
            refine s_iload E dX5_giverOf_68 rfl ?_
            exact r_int E dX5_giverOf_70 ⟨⟨by have hb_ := z32 q24_4_7; omega, by have hb_ := z32 q24_4_7; omega, by have hb_ := z32 q24_4_7; have hc_ := z32 x1; omega⟩, hj_8⟩
    ·
      refine s_iconst (v := (-1)) E dX5_giverOf_19 (by decide) ?_
      exact r_int E dX5_giverOf_20 ⟨⟨by decide, by decide, by first | (left; decide) | (right; have hb_ := z32 x1; omega)⟩, hj_4⟩
set_option maxRecDepth 20000 in
set_option maxHeartbeats 2000000 in
theorem Z_X9_hands_0 (l : Launch) (D : va_G) (aC : Nat → ClassId) (b : Nat) (w : XW) (x1 : Int32) (x2 : Int32) (hI : Iv w)  : CnI l D aC b M_X9_hands 5 116 0 0 [AR 0, AI x1, AI x2] w (fun r u => ((-2) ≤ r.toInt ∧ r.toInt ≤ 6 ∧ (¬ r.toInt = 0 ∨ (0 ≤ x1.toInt ∧ x1.toInt ≤ 5)) ∧ (¬ r.toInt = 0 ∨ (0 ≤ x2.toInt ∧ x2.toInt ≤ 5)) ∧ (¬ r.toInt = 0 ∨ (1 ≤ (w.2.2.1 5 3).toInt ∧ (w.2.2.1 5 3).toInt ≤ 6))) ∧ Jv w u) := by
  refine cn_I (own := RX9) (nm := "hands") (L0 := [some (AR 0), some (AI x1), some (AI x2), none, none]) (by decide +kernel) rfl rfl (Nat.le_of_ble_eq_true rfl) rfl ?_
  intro p e s m args below meth c E hin
  have hJ : Jv w w := jv_rfl hI
  refine s_aload_n E dX9_hands_0 rfl rfl ?_
  refine s_gR (r := 2) E fg_X9_20 rfl rfl (jv_lt hJ (by decide)) (jv_r hJ (by decide +kernel)) dX9_hands_1 ?_
  refine s_iload_n E dX9_hands_4 rfl rfl ?_
  refine s_vI (As := [AI x1]) (S := []) E (Z_X0_hasLady_2 l D aC b w x1 hJ.1 ) cv_X9_139 rfl rfl rfl (jv_lt hJ (by decide)) (Nat.le_of_ble_eq_true rfl) (Nat.le_of_ble_eq_true rfl) ⟨(Nat.le_of_ble_eq_true rfl), (Nat.le_of_ble_eq_true rfl)⟩ (Nat.le_of_ble_eq_true rfl) dX9_hands_5 (fun z_3 u_1 hp_2 => ?_)
  obtain ⟨hz_3, hp_2⟩ := hp_2
  subst hp_2
  refine z_if_eq (tgt := 22) (u := z_3.toInt) E dX9_hands_8 (by decide) rfl (fun h_5 => ?_) (fun h_5 => ?_)
  ·
    refine s_bipush (v := (-2)) E dX9_hands_22 (by decide) ?_
    exact r_int E dX9_hands_24 ⟨⟨by decide, by decide, by first | (left; decide) | (right; have hb_ := z32 x1; omega), by first | (left; decide) | (right; have hb_ := z32 x2; omega), by first | (left; decide) | (right; have hb_ := z32 (w.2.2.1 5 3); omega)⟩, hJ⟩
  ·
    refine s_aload_n E dX9_hands_11 rfl rfl ?_
    refine s_gR (r := 2) E fg_X9_20 rfl rfl (jv_lt hJ (by decide)) (jv_r hJ (by decide +kernel)) dX9_hands_12 ?_
    refine s_iload_n E dX9_hands_15 rfl rfl ?_
    refine s_vI (As := [AI x2]) (S := []) E (Z_X0_hasLady_2 l D aC b w x2 hJ.1 ) cv_X9_139 rfl rfl rfl (jv_lt hJ (by decide)) (Nat.le_of_ble_eq_true rfl) (Nat.le_of_ble_eq_true rfl) ⟨(Nat.le_of_ble_eq_true rfl), (Nat.le_of_ble_eq_true rfl)⟩ (Nat.le_of_ble_eq_true rfl) dX9_hands_16 (fun z_8 u_6 hp_7 => ?_)
    obtain ⟨hz_8, hp_7⟩ := hp_7
    subst hp_7
    refine z_if_ne (tgt := 25) (u := z_8.toInt) E dX9_hands_19 (by decide) rfl (fun h_10 => ?_) (fun h_10 => ?_)
    ·
      refine s_aload_n E dX9_hands_25 rfl rfl ?_
      refine s_vV (As := []) (S := []) E (Z_X9_passAsTold_0 l D aC b w  hJ.1 ) cv_X9_227 rfl rfl rfl (jv_lt hJ (by decide)) (Nat.le_of_ble_eq_true rfl) (Nat.le_of_ble_eq_true rfl) ⟨(Nat.le_of_ble_eq_true rfl), (Nat.le_of_ble_eq_true rfl)⟩ (Nat.le_of_ble_eq_true rfl) dX9_hands_26 (fun u_11 hp_12 => ?_)
      have hj_13 := jv_trans hJ hp_12
      refine s_aload_n E dX9_hands_29 rfl rfl ?_
      refine s_aload_n E dX9_hands_30 rfl rfl ?_
      refine s_gR (r := 69) E fg_X9_54 rfl rfl (jv_lt hj_13 (by decide)) (jv_r hj_13 (by decide +kernel)) dX9_hands_31 ?_
      refine s_iload_n E dX9_hands_34 rfl rfl ?_
      refine s_vI (As := [AR 69, AI x1]) (S := []) E (Z_X9_inTheEnd_0_r69 l D aC b u_11 x1 hj_13.1 ) cv_X9_230 rfl rfl rfl (jv_lt hj_13 (by decide)) (Nat.le_of_ble_eq_true rfl) (Nat.le_of_ble_eq_true rfl) ⟨(Nat.le_of_ble_eq_true rfl), (Nat.le_of_ble_eq_true rfl)⟩ (Nat.le_of_ble_eq_true rfl) dX9_hands_35 (fun z_16 u_14 hp_15 => ?_)
      obtain ⟨hz_16, hp_15⟩ := hp_15
      have hj_17 := jv_trans hj_13 hp_15
      refine s_iload_n E dX9_hands_38 rfl rfl ?_
      refine s_sI (As := [AI z_16, AI x2]) (S := []) E (Z_X9_hasBit l D aC b u_14 z_16 x2 hj_17.1 ) cs_X9_175 rfl rfl (Nat.le_of_ble_eq_true rfl) (Nat.le_of_ble_eq_true rfl) ⟨(Nat.le_of_ble_eq_true rfl), (Nat.le_of_ble_eq_true rfl)⟩ (Nat.le_of_ble_eq_true rfl) dX9_hands_39 (fun z_20 u_18 hp_19 => ?_)
      obtain ⟨hz_20, hp_19⟩ := hp_19
      subst hp_19
      refine z_if_ne (tgt := 47) (u := z_20.toInt) E dX9_hands_42 (by decide) rfl (fun h_22 => ?_) (fun h_22 => ?_)
      ·
        refine s_iload_n E dX9_hands_47 rfl rfl ?_
        refine s_istore_n (L2 := [some (AR 0), some (AI x1), some (AI x2), some (AI x2), none]) E dX9_hands_48 rfl (by decide) rfl ?_
        refine s_iconst (v := 0) E dX9_hands_49 (by decide) ?_
        refine s_istore (L2 := [some (AR 0), some (AI x1), some (AI x2), some (AI x2), some (AI 0)]) E dX9_hands_50 (by decide) rfl ?_
        refine z_loop (St := Int32 × Int32) (Pi := fun ⟨q52_3_22, q52_4_22⟩ v52 => ((-1) ≤ q52_3_22.toInt ∧ q52_3_22.toInt ≤ 5) ∧ (0 ≤ q52_4_22.toInt ∧ q52_4_22.toInt ≤ 6) ∧ Jv w v52) (Lf := fun ⟨q52_3_22, q52_4_22⟩ => [some (AR 0), some (AI x1), some (AI x2), some (AI q52_3_22), some (AI q52_4_22)]) (fun ⟨q52_3_22, q52_4_22⟩ _ => (7 - q52_4_22.toInt).toNat) ⟨x2, 0⟩ ⟨⟨by have hb_ := z32 x2; omega, by have hb_ := z32 x2; omega⟩, ⟨by decide, by decide⟩, hj_17⟩ ?_
        rintro ⟨q52_3_22, q52_4_22⟩ v52 ⟨hq52_3, hq52_4, hj_23⟩ ih52
        refine s_loc (L2 := [some (AR 0), some (AI x1), some (AI x2), some (AI q52_3_22), some (AI q52_4_22)]) rfl ?_
        refine s_iload_n E dX9_hands_52 rfl rfl ?_
        refine s_iload_n E dX9_hands_53 rfl rfl ?_
        refine z_icmp_eq (tgt := 88) (u := q52_3_22.toInt) (v := x1.toInt) E dX9_hands_54 (by decide) rfl rfl (fun h_24 => ?_) (fun h_24 => ?_)
        ·
          refine s_iload E dX9_hands_88 rfl ?_
          exact r_int E dX9_hands_90 ⟨⟨by have hb_ := z32 q52_4_22; omega, by have hb_ := z32 q52_4_22; omega, by have hb_ := z32 q52_4_22; have hc_ := z32 x1; omega, by have hb_ := z32 q52_4_22; have hc_ := z32 x2; omega, by have hb_ := z32 q52_4_22; have hc_ := z32 (w.2.2.1 5 3); omega⟩, hj_23⟩
        ·
          refine s_iload_n E dX9_hands_57 rfl rfl ?_
          refine s_iconst (v := (-1)) E dX9_hands_58 (by decide) ?_
          refine z_icmp_eq (tgt := 88) (u := q52_3_22.toInt) (v := (-1)) E dX9_hands_59 (by decide) rfl (by decide) (fun h_25 => ?_) (fun h_25 => ?_)
          ·
            refine s_iload E dX9_hands_88 rfl ?_
            exact r_int E dX9_hands_90 ⟨⟨by have hb_ := z32 q52_4_22; omega, by have hb_ := z32 q52_4_22; omega, by have hb_ := z32 q52_4_22; have hc_ := z32 x1; omega, by have hb_ := z32 q52_4_22; have hc_ := z32 x2; omega, by have hb_ := z32 q52_4_22; have hc_ := z32 (w.2.2.1 5 3); omega⟩, hj_23⟩
          ·
            refine s_iload E dX9_hands_62 rfl ?_
            refine s_bipush (v := 6) E dX9_hands_64 (by decide) ?_
            refine z_icmp_ge (tgt := 88) (u := q52_4_22.toInt) (v := 6) E dX9_hands_66 (by decide) rfl (by decide) (fun h_26 => ?_) (fun h_26 => ?_)
            ·
              refine s_iload E dX9_hands_88 rfl ?_
              exact r_int E dX9_hands_90 ⟨⟨by have hb_ := z32 q52_4_22; omega, by have hb_ := z32 q52_4_22; omega, by have hb_ := z32 q52_4_22; have hc_ := z32 x1; omega, by have hb_ := z32 q52_4_22; have hc_ := z32 x2; omega, by have hb_ := z32 q52_4_22; have hc_ := z32 (w.2.2.1 5 3); omega⟩, hj_23⟩
            ·
              refine s_aload_n E dX9_hands_69 rfl rfl ?_
              refine s_gR (r := 81) E fg_X9_64 rfl rfl (jv_lt hj_23 (by decide)) (jv_r hj_23 (by decide +kernel)) dX9_hands_70 ?_
              refine s_aload_n E dX9_hands_73 rfl rfl ?_
              refine s_gR (r := 69) E fg_X9_54 rfl rfl (jv_lt hj_23 (by decide)) (jv_r hj_23 (by decide +kernel)) dX9_hands_74 ?_
              refine s_iload_n E dX9_hands_77 rfl rfl ?_
              refine s_vI (As := [AR 69, AI q52_3_22]) (S := []) E (Z_X5_giverOf_81_r69 l D aC b v52 q52_3_22 hj_23.1 ) cv_X9_234 rfl rfl rfl (jv_lt hj_23 (by decide)) (Nat.le_of_ble_eq_true rfl) (Nat.le_of_ble_eq_true rfl) ⟨(Nat.le_of_ble_eq_true rfl), (Nat.le_of_ble_eq_true rfl)⟩ (Nat.le_of_ble_eq_true rfl) dX9_hands_78 (fun z_29 u_27 hp_28 => ?_)
              obtain ⟨hz_29, hp_28⟩ := hp_28
              have hj_30 := jv_trans hj_23 hp_28
              refine s_istore_n (L2 := [some (AR 0), some (AI x1), some (AI x2), some (AI z_29), some (AI q52_4_22)]) E dX9_hands_81 rfl (by decide) rfl ?_
              refine z_iinc (u := q52_4_22.toInt) (L2 := fun z_31 => [some (AR 0), some (AI x1), some (AI x2), some (AI z_29), some (AI z_31)]) E dX9_hands_82 rfl rfl (by decide) (fun _ => rfl) (by decide) (by omega) (by omega) (fun z_31 hz_31 => ?_)
              refine s_goto (tgt := 52) E dX9_hands_85 (by decide) ?_
              exact ih52 ⟨z_29, z_31⟩ u_27 ⟨⟨by have hb_ := z32 z_29; omega, by have hb_ := z32 z_29; omega⟩, ⟨by have hb_ := z32 z_31; omega, by have hb_ := z32 z_31; omega⟩, hj_30⟩ (by first | omega | (dsimp only; omega))
      ·
        refine s_iconst (v := (-1)) E dX9_hands_45 (by decide) ?_
        exact r_int E dX9_hands_46 ⟨⟨by decide, by decide, by first | (left; decide) | (right; have hb_ := z32 x1; omega), by first | (left; decide) | (right; have hb_ := z32 x2; omega), by first | (left; decide) | (right; have hb_ := z32 (w.2.2.1 5 3); omega)⟩, hj_17⟩
    ·
      refine s_bipush (v := (-2)) E dX9_hands_22 (by decide) ?_
      exact r_int E dX9_hands_24 ⟨⟨by decide, by decide, by first | (left; decide) | (right; have hb_ := z32 x1; omega), by first | (left; decide) | (right; have hb_ := z32 x2; omega), by first | (left; decide) | (right; have hb_ := z32 (w.2.2.1 5 3); omega)⟩, hJ⟩
set_option maxRecDepth 20000 in
set_option maxHeartbeats 2000000 in
theorem Z_X3_tally_89_r2 (l : Launch) (D : va_G) (aC : Nat → ClassId) (b : Nat) (w : XW)  (hI : Iv w)  : CnV l D aC b M_X3_tally 3 67 0 0 [AR 89, AR 2] w (fun u => Jv w u) := by
  refine cn_V (own := RX3) (nm := "tally") (L0 := [some (AR 89), some (AR 2), none]) (by decide +kernel) rfl rfl (Nat.le_of_ble_eq_true rfl) rfl ?_
  intro p e s m args below meth c E hin
  have hJ : Jv w w := jv_rfl hI
  refine s_aload_n E dX3_tally_0 rfl rfl ?_
  refine s_aload_n E dX3_tally_1 rfl rfl ?_
  refine s_gR (r := 5) E fg_X3_15 rfl rfl (jv_lt hJ (by decide)) (jv_r hJ (by decide +kernel)) dX3_tally_2 ?_
  refine s_gI E fg_X3_21 rfl rfl (jv_lt hJ (by decide)) dX3_tally_5 ?_
  refine z_nm (P := fun z => z.toInt = (w.2.2.1 5 3).toInt ∧ 0 ≤ z.toInt ∧ z.toInt ≤ 6) ⟨rfl, (rg_5_3 hJ)⟩ (fun z_1 hz_1 => ?_)
  refine s_pI E fp_X3_27 (Or.inl rfl) rfl (jv_lt hJ (by decide)) dX3_tally_8 ?_
  refine s_gen (P := Jv w) (jv_f_89_1 hJ (by have hb_ := z32 z_1; omega) (by have hb_ := z32 z_1; omega)) (fun v_2 hj_3 => ?_)
  refine s_aload_n E dX3_tally_11 rfl rfl ?_
  refine s_iconst (v := 0) E dX3_tally_12 (by decide) ?_
  refine s_pI E fp_X3_29 (Or.inl rfl) rfl (jv_lt hj_3 (by decide)) dX3_tally_13 ?_
  refine s_gen (P := Jv w) (jv_f_89_2 hj_3 (by decide) (by decide)) (fun v_4 hj_5 => ?_)
  refine s_iconst (v := 0) E dX3_tally_16 (by decide) ?_
  refine s_istore_n (L2 := [some (AR 89), some (AR 2), some (AI 0)]) E dX3_tally_17 rfl (by decide) rfl ?_
  refine z_loop (St := Int32) (Pi := fun q18_2_5 v18 => (0 ≤ q18_2_5.toInt ∧ q18_2_5.toInt ≤ 6) ∧ Jv w v18) (Lf := fun q18_2_5 => [some (AR 89), some (AR 2), some (AI q18_2_5)]) (fun q18_2_5 _ => (7 - q18_2_5.toInt).toNat) 0 ⟨⟨by decide, by decide⟩, hj_5⟩ ?_
  rintro q18_2_5 v18 ⟨hq18_2, hj_6⟩ ih18
  refine s_loc (L2 := [some (AR 89), some (AR 2), some (AI q18_2_5)]) rfl ?_
  refine s_iload_n E dX3_tally_18 rfl rfl ?_
  refine s_aload_n E dX3_tally_19 rfl rfl ?_
  refine s_gI E fg_X3_27 rfl rfl (jv_lt hj_6 (by decide)) dX3_tally_20 ?_
  refine z_nm (P := fun z => z.toInt = (v18.2.2.1 89 1).toInt ∧ 0 ≤ z.toInt ∧ z.toInt ≤ 6) ⟨rfl, (rg_89_1 hj_6)⟩ (fun z_7 hz_7 => ?_)
  refine z_icmp_ge (tgt := 58) (u := q18_2_5.toInt) (v := z_7.toInt) E dX3_tally_23 (by decide) rfl rfl (fun h_8 => ?_) (fun h_8 => ?_)
  ·
    exact r_void E dX3_tally_58 hj_6
  ·
    refine s_aload_n E dX3_tally_26 rfl rfl ?_
    refine s_gR (r := 90) E fg_X3_9 rfl rfl (jv_lt hj_6 (by decide)) (jv_r hj_6 (by decide +kernel)) dX3_tally_27 ?_
    refine s_iload_n E dX3_tally_30 rfl rfl ?_
    refine s_aload_n E dX3_tally_31 rfl rfl ?_
    refine s_iload_n E dX3_tally_32 rfl rfl ?_
    refine s_vI (As := [AI q18_2_5]) (S := [AI q18_2_5, AR 90]) E (Z_X0_seatsUnder_2 l D aC b v18 q18_2_5 hj_6.1 ) cv_X3_32 rfl rfl rfl (jv_lt hj_6 (by decide)) (Nat.le_of_ble_eq_true rfl) (Nat.le_of_ble_eq_true rfl) ⟨(Nat.le_of_ble_eq_true rfl), (Nat.le_of_ble_eq_true rfl)⟩ (Nat.le_of_ble_eq_true rfl) dX3_tally_33 (fun z_11 u_9 hp_10 => ?_)
    obtain ⟨hz_11, hp_10⟩ := hp_10
    have hj_12 := jv_trans hj_6 hp_10
    refine s_iast E rfl (jv_lt hj_12 (by decide)) (z_in (u := q18_2_5.toInt) rfl (by omega) (by omega)) dX3_tally_36 ?_
    refine s_gen (P := Jv w) (jv_a_90 hj_12 (by have hb_ := z32 z_11; omega) (by have hb_ := z32 z_11; omega)) (fun v_13 hj_14 => ?_)
    refine s_aload_n E dX3_tally_37 rfl rfl ?_
    refine s_dupR E dX3_tally_38 ?_
    refine s_gI E fg_X3_29 rfl rfl (jv_lt hj_14 (by decide)) dX3_tally_39 ?_
    refine z_nm (P := fun z => z.toInt = (v_13.2.2.1 89 2).toInt) rfl (fun z_15 hz_15 => ?_)
    refine s_aload_n E dX3_tally_42 rfl rfl ?_
    refine s_gR (r := 90) E fg_X3_9 rfl rfl (jv_lt hj_14 (by decide)) (jv_r hj_14 (by decide +kernel)) dX3_tally_43 ?_
    refine s_iload_n E dX3_tally_46 rfl rfl ?_
    refine s_iald E rfl (jv_lt hj_14 (by decide)) (z_in (u := q18_2_5.toInt) rfl (by omega) (by omega)) dX3_tally_47 ?_
    refine z_any (fun z_16 => ?_)
    refine s_iadd E dX3_tally_48 ?_
    refine z_any (fun z_17 => ?_)
    refine s_pI E fp_X3_29 (Or.inl rfl) rfl (jv_lt hj_14 (by decide)) dX3_tally_49 ?_
    refine s_gen (P := Jv w) (jv_f_89_2 hj_14 (by have hb_ := z32 z_17; omega) (by have hb_ := z32 z_17; omega)) (fun v_18 hj_19 => ?_)
    refine z_iinc (u := q18_2_5.toInt) (L2 := fun z_20 => [some (AR 89), some (AR 2), some (AI z_20)]) E dX3_tally_52 rfl rfl (by decide) (fun _ => rfl) (by decide) (by omega) (by omega) (fun z_20 hz_20 => ?_)
    refine s_goto (tgt := 18) E dX3_tally_55 (by decide) ?_
    exact ih18 z_20 v_18 ⟨⟨by have hb_ := z32 z_20; omega, by have hb_ := z32 z_20; omega⟩, hj_19⟩ (by first | omega | (dsimp only; omega))
set_option maxRecDepth 20000 in
set_option maxHeartbeats 2000000 in
theorem Z_X3_seatsOf_89 (l : Launch) (D : va_G) (aC : Nat → ClassId) (b : Nat) (w : XW) (x1 : Int32) (hI : Iv w)  : CnI l D aC b M_X3_seatsOf 1 21 0 0 [AR 89, AI x1] w (fun r u => ((-2147483648) ≤ r.toInt ∧ r.toInt ≤ 2147483647) ∧ Jv w u) := by
  refine cn_I (own := RX3) (nm := "seatsOf") (L0 := [some (AR 89), some (AI x1), none, none]) (by decide +kernel) rfl rfl (Nat.le_of_ble_eq_true rfl) rfl ?_
  intro p e s m args below meth c E hin
  have hJ : Jv w w := jv_rfl hI
  refine s_iconst (v := 0) E dX3_seatsOf_0 (by decide) ?_
  refine s_istore_n (L2 := [some (AR 89), some (AI x1), some (AI 0), none]) E dX3_seatsOf_1 rfl (by decide) rfl ?_
  refine s_iconst (v := 0) E dX3_seatsOf_2 (by decide) ?_
  refine s_istore_n (L2 := [some (AR 89), some (AI x1), some (AI 0), some (AI 0)]) E dX3_seatsOf_3 rfl (by decide) rfl ?_
  refine z_loop (St := Int32 × Int32) (Pi := fun ⟨q4_2_0, q4_3_0⟩ v4 => (0 ≤ q4_3_0.toInt ∧ q4_3_0.toInt ≤ 6) ∧ Jv w v4) (Lf := fun ⟨q4_2_0, q4_3_0⟩ => [some (AR 89), some (AI x1), some (AI q4_2_0), some (AI q4_3_0)]) (fun ⟨q4_2_0, q4_3_0⟩ _ => (7 - q4_3_0.toInt).toNat) ⟨0, 0⟩ ⟨⟨by decide, by decide⟩, hJ⟩ ?_
  rintro ⟨q4_2_0, q4_3_0⟩ v4 ⟨hq4_3, hj_1⟩ ih4
  refine s_loc (L2 := [some (AR 89), some (AI x1), some (AI q4_2_0), some (AI q4_3_0)]) rfl ?_
  refine s_iload_n E dX3_seatsOf_4 rfl rfl ?_
  refine s_aload_n E dX3_seatsOf_5 rfl rfl ?_
  refine s_gI E fg_X3_27 rfl rfl (jv_lt hj_1 (by decide)) dX3_seatsOf_6 ?_
  refine z_nm (P := fun z => z.toInt = (v4.2.2.1 89 1).toInt ∧ 0 ≤ z.toInt ∧ z.toInt ≤ 6) ⟨rfl, (rg_89_1 hj_1)⟩ (fun z_2 hz_2 => ?_)
  refine z_icmp_ge (tgt := 35) (u := q4_3_0.toInt) (v := z_2.toInt) E dX3_seatsOf_9 (by decide) rfl rfl (fun h_3 => ?_) (fun h_3 => ?_)
  ·
    refine s_iload_n E dX3_seatsOf_35 rfl rfl ?_
    exact r_int E dX3_seatsOf_36 ⟨⟨by have hb_ := z32 q4_2_0; omega, by have hb_ := z32 q4_2_0; omega⟩, hj_1⟩
  ·
    refine s_iload_n E dX3_seatsOf_12 rfl rfl ?_
    refine s_iload_n E dX3_seatsOf_13 rfl rfl ?_
    refine s_sI (As := [AI x1, AI q4_3_0]) (S := []) E (Z_X9_hasBit l D aC b v4 x1 q4_3_0 hj_1.1 ) cs_X3_35 rfl rfl (Nat.le_of_ble_eq_true rfl) (Nat.le_of_ble_eq_true rfl) ⟨(Nat.le_of_ble_eq_true rfl), (Nat.le_of_ble_eq_true rfl)⟩ (Nat.le_of_ble_eq_true rfl) dX3_seatsOf_14 (fun z_6 u_4 hp_5 => ?_)
    obtain ⟨hz_6, hp_5⟩ := hp_5
    subst hp_5
    refine z_if_eq (tgt := 29) (u := z_6.toInt) E dX3_seatsOf_17 (by decide) rfl (fun h_8 => ?_) (fun h_8 => ?_)
    ·
      refine z_iinc (u := q4_3_0.toInt) (L2 := fun z_9 => [some (AR 89), some (AI x1), some (AI q4_2_0), some (AI z_9)]) E dX3_seatsOf_29 rfl rfl (by decide) (fun _ => rfl) (by decide) (by omega) (by omega) (fun z_9 hz_9 => ?_)
      refine s_goto (tgt := 4) E dX3_seatsOf_32 (by decide) ?_
      exact ih4 ⟨q4_2_0, z_9⟩ v4 ⟨⟨by have hb_ := z32 z_9; omega, by have hb_ := z32 z_9; omega⟩, hj_1⟩ (by first | omega | (dsimp only; omega))
    ·
      refine s_iload_n E dX3_seatsOf_20 rfl rfl ?_
      refine s_aload_n E dX3_seatsOf_21 rfl rfl ?_
      refine s_gR (r := 90) E fg_X3_9 rfl rfl (jv_lt hj_1 (by decide)) (jv_r hj_1 (by decide +kernel)) dX3_seatsOf_22 ?_
      refine s_iload_n E dX3_seatsOf_25 rfl rfl ?_
      refine s_iald E rfl (jv_lt hj_1 (by decide)) (z_in (u := q4_3_0.toInt) rfl (by omega) (by omega)) dX3_seatsOf_26 ?_
      refine z_any (fun z_10 => ?_)
      refine s_iadd E dX3_seatsOf_27 ?_
      refine z_any (fun z_11 => ?_)
      refine s_istore_n (L2 := [some (AR 89), some (AI x1), some (AI z_11), some (AI q4_3_0)]) E dX3_seatsOf_28 rfl (by decide) rfl ?_
      refine z_iinc (u := q4_3_0.toInt) (L2 := fun z_12 => [some (AR 89), some (AI x1), some (AI z_11), some (AI z_12)]) E dX3_seatsOf_29 rfl rfl (by decide) (fun _ => rfl) (by decide) (by omega) (by omega) (fun z_12 hz_12 => ?_)
      refine s_goto (tgt := 4) E dX3_seatsOf_32 (by decide) ?_
      exact ih4 ⟨z_11, z_12⟩ v4 ⟨⟨by have hb_ := z32 z_12; omega, by have hb_ := z32 z_12; omega⟩, hj_1⟩ (by first | omega | (dsimp only; omega))
set_option maxRecDepth 20000 in
set_option maxHeartbeats 2000000 in
theorem Z_X3_isMoreThanHalf_89 (l : Launch) (D : va_G) (aC : Nat → ClassId) (b : Nat) (w : XW) (x1 : Int32) (hI : Iv w)  : CnI l D aC b M_X3_isMoreThanHalf 0 0 0 0 [AR 89, AI x1] w (fun r u => (0 ≤ r.toInt ∧ r.toInt ≤ 1) ∧ w = u) := by
  refine cn_I (own := RX3) (nm := "isMoreThanHalf") (L0 := [some (AR 89), some (AI x1)]) (by decide +kernel) rfl rfl (Nat.le_of_ble_eq_true rfl) rfl ?_
  intro p e s m args below meth c E hin
  have hJ : Jv w w := jv_rfl hI
  refine s_iconst (v := 2) E dX3_isMoreThanHalf_0 (by decide) ?_
  refine s_iload_n E dX3_isMoreThanHalf_1 rfl rfl ?_
  refine s_imul E dX3_isMoreThanHalf_2 ?_
  refine z_any (fun z_1 => ?_)
  refine s_aload_n E dX3_isMoreThanHalf_3 rfl rfl ?_
  refine s_gI E fg_X3_29 rfl rfl (jv_lt hJ (by decide)) dX3_isMoreThanHalf_4 ?_
  refine z_nm (P := fun z => z.toInt = (w.2.2.1 89 2).toInt) rfl (fun z_2 hz_2 => ?_)
  refine z_icmp_le (tgt := 14) (u := z_1.toInt) (v := z_2.toInt) E dX3_isMoreThanHalf_7 (by decide) rfl rfl (fun h_3 => ?_) (fun h_3 => ?_)
  ·
    refine s_iconst (v := 0) E dX3_isMoreThanHalf_14 (by decide) ?_
    exact r_bool E dX3_isMoreThanHalf_15 (Or.inl rfl) ⟨(by decide), rfl⟩
  ·
    refine s_iconst (v := 1) E dX3_isMoreThanHalf_10 (by decide) ?_
    refine s_goto (tgt := 15) E dX3_isMoreThanHalf_11 (by decide) ?_
    exact r_bool E dX3_isMoreThanHalf_15 (Or.inr rfl) ⟨(by decide), rfl⟩
set_option maxRecDepth 20000 in
set_option maxHeartbeats 2000000 in
theorem Z_X3_isMajority_89 (l : Launch) (D : va_G) (aC : Nat → ClassId) (b : Nat) (w : XW) (x1 : Int32) (hI : Iv w)  : CnI l D aC b M_X3_isMajority 2 44 0 0 [AR 89, AI x1] w (fun r u => (0 ≤ r.toInt ∧ r.toInt ≤ 1) ∧ Jv w u) := by
  refine cn_I (own := RX3) (nm := "isMajority") (L0 := [some (AR 89), some (AI x1)]) (by decide +kernel) rfl rfl (Nat.le_of_ble_eq_true rfl) rfl ?_
  intro p e s m args below meth c E hin
  have hJ : Jv w w := jv_rfl hI
  refine s_aload_n E dX3_isMajority_0 rfl rfl ?_
  refine s_aload_n E dX3_isMajority_1 rfl rfl ?_
  refine s_iload_n E dX3_isMajority_2 rfl rfl ?_
  refine s_vI (As := [AI x1]) (S := [AR 89]) E (Z_X3_seatsOf_89 l D aC b w x1 hJ.1 ) cv_X3_39 rfl rfl rfl (jv_lt hJ (by decide)) (Nat.le_of_ble_eq_true rfl) (Nat.le_of_ble_eq_true rfl) ⟨(Nat.le_of_ble_eq_true rfl), (Nat.le_of_ble_eq_true rfl)⟩ (Nat.le_of_ble_eq_true rfl) dX3_isMajority_3 (fun z_3 u_1 hp_2 => ?_)
  obtain ⟨hz_3, hp_2⟩ := hp_2
  have hj_4 := jv_trans hJ hp_2
  refine s_vI (As := [AI z_3]) (S := []) E (Z_X3_isMoreThanHalf_89 l D aC b u_1 z_3 hj_4.1 ) cv_X3_42 rfl rfl rfl (jv_lt hj_4 (by decide)) (Nat.le_of_ble_eq_true rfl) (Nat.le_of_ble_eq_true rfl) ⟨(Nat.le_of_ble_eq_true rfl), (Nat.le_of_ble_eq_true rfl)⟩ (Nat.le_of_ble_eq_true rfl) dX3_isMajority_6 (fun z_7 u_5 hp_6 => ?_)
  obtain ⟨hz_7, hp_6⟩ := hp_6
  subst hp_6
  exact r_bool E dX3_isMajority_9 (z_bool (by omega) (by omega)) ⟨⟨by have hb_ := z32 z_7; omega, by have hb_ := z32 z_7; omega⟩, hj_4⟩
set_option maxRecDepth 20000 in
set_option maxHeartbeats 2000000 in
theorem Z_X3_powerOf_89 (l : Launch) (D : va_G) (aC : Nat → ClassId) (b : Nat) (w : XW) (x1 : Int32) (hI : Iv w)  : CnI l D aC b M_X3_powerOf 3 65 0 0 [AR 89, AI x1] w (fun r u => ((-2147483648) ≤ r.toInt ∧ r.toInt ≤ 2147483647) ∧ Jv w u) := by
  refine cn_I (own := RX3) (nm := "powerOf") (L0 := [some (AR 89), some (AI x1), none, none]) (by decide +kernel) rfl rfl (Nat.le_of_ble_eq_true rfl) rfl ?_
  intro p e s m args below meth c E hin
  have hJ : Jv w w := jv_rfl hI
  refine s_iconst (v := 0) E dX3_powerOf_0 (by decide) ?_
  refine s_istore_n (L2 := [some (AR 89), some (AI x1), some (AI 0), none]) E dX3_powerOf_1 rfl (by decide) rfl ?_
  refine s_iconst (v := 0) E dX3_powerOf_2 (by decide) ?_
  refine s_istore_n (L2 := [some (AR 89), some (AI x1), some (AI 0), some (AI 0)]) E dX3_powerOf_3 rfl (by decide) rfl ?_
  refine z_loop (St := Int32 × Int32) (Pi := fun ⟨q4_2_0, q4_3_0⟩ v4 => (0 ≤ q4_3_0.toInt ∧ q4_3_0.toInt ≤ 64) ∧ Jv w v4) (Lf := fun ⟨q4_2_0, q4_3_0⟩ => [some (AR 89), some (AI x1), some (AI q4_2_0), some (AI q4_3_0)]) (fun ⟨q4_2_0, q4_3_0⟩ _ => (65 - q4_3_0.toInt).toNat) ⟨0, 0⟩ ⟨⟨by decide, by decide⟩, hJ⟩ ?_
  rintro ⟨q4_2_0, q4_3_0⟩ v4 ⟨hq4_3, hj_1⟩ ih4
  refine s_loc (L2 := [some (AR 89), some (AI x1), some (AI q4_2_0), some (AI q4_3_0)]) rfl ?_
  refine s_iload_n E dX3_powerOf_4 rfl rfl ?_
  refine s_iconst (v := 1) E dX3_powerOf_5 (by decide) ?_
  refine s_aload_n E dX3_powerOf_6 rfl rfl ?_
  refine s_gI E fg_X3_27 rfl rfl (jv_lt hj_1 (by decide)) dX3_powerOf_7 ?_
  refine z_nm (P := fun z => z.toInt = (v4.2.2.1 89 1).toInt ∧ 0 ≤ z.toInt ∧ z.toInt ≤ 6) ⟨rfl, (rg_89_1 hj_1)⟩ (fun z_2 hz_2 => ?_)
  refine z_shl1 6 (u := z_2.toInt) (B := 64) E dX3_powerOf_10 rfl (by omega) (by omega) (by decide) (by decide) (fun z_3 hz_3 => ?_)
  refine z_icmp_ge (tgt := 53) (u := q4_3_0.toInt) (v := z_3.toInt) E dX3_powerOf_11 (by decide) rfl rfl (fun h_4 => ?_) (fun h_4 => ?_)
  ·
    refine s_iload_n E dX3_powerOf_53 rfl rfl ?_
    exact r_int E dX3_powerOf_54 ⟨⟨by have hb_ := z32 q4_2_0; omega, by have hb_ := z32 q4_2_0; omega⟩, hj_1⟩
  ·
    refine s_iload_n E dX3_powerOf_14 rfl rfl ?_
    refine s_iload_n E dX3_powerOf_15 rfl rfl ?_
    refine s_sI (As := [AI q4_3_0, AI x1]) (S := []) E (Z_X9_hasBit l D aC b v4 q4_3_0 x1 hj_1.1 ) cs_X3_35 rfl rfl (Nat.le_of_ble_eq_true rfl) (Nat.le_of_ble_eq_true rfl) ⟨(Nat.le_of_ble_eq_true rfl), (Nat.le_of_ble_eq_true rfl)⟩ (Nat.le_of_ble_eq_true rfl) dX3_powerOf_16 (fun z_7 u_5 hp_6 => ?_)
    obtain ⟨hz_7, hp_6⟩ := hp_6
    subst hp_6
    refine z_if_eq (tgt := 47) (u := z_7.toInt) E dX3_powerOf_19 (by decide) rfl (fun h_9 => ?_) (fun h_9 => ?_)
    ·
      refine z_iinc (u := q4_3_0.toInt) (L2 := fun z_10 => [some (AR 89), some (AI x1), some (AI q4_2_0), some (AI z_10)]) E dX3_powerOf_47 rfl rfl (by decide) (fun _ => rfl) (by decide) (by omega) (by omega) (fun z_10 hz_10 => ?_)
      refine s_goto (tgt := 4) E dX3_powerOf_50 (by decide) ?_
      exact ih4 ⟨q4_2_0, z_10⟩ v4 ⟨⟨by have hb_ := z32 z_10; omega, by have hb_ := z32 z_10; omega⟩, hj_1⟩ (by first | omega | (dsimp only; omega))
    ·
      refine s_aload_n E dX3_powerOf_22 rfl rfl ?_
      refine s_iload_n E dX3_powerOf_23 rfl rfl ?_
      refine s_vI (As := [AI q4_3_0]) (S := []) E (Z_X3_isMajority_89 l D aC b v4 q4_3_0 hj_1.1 ) cv_X3_46 rfl rfl rfl (jv_lt hj_1 (by decide)) (Nat.le_of_ble_eq_true rfl) (Nat.le_of_ble_eq_true rfl) ⟨(Nat.le_of_ble_eq_true rfl), (Nat.le_of_ble_eq_true rfl)⟩ (Nat.le_of_ble_eq_true rfl) dX3_powerOf_24 (fun z_13 u_11 hp_12 => ?_)
      obtain ⟨hz_13, hp_12⟩ := hp_12
      have hj_14 := jv_trans hj_1 hp_12
      refine z_if_eq (tgt := 47) (u := z_13.toInt) E dX3_powerOf_27 (by decide) rfl (fun h_15 => ?_) (fun h_15 => ?_)
      ·
        refine z_iinc (u := q4_3_0.toInt) (L2 := fun z_16 => [some (AR 89), some (AI x1), some (AI q4_2_0), some (AI z_16)]) E dX3_powerOf_47 rfl rfl (by decide) (fun _ => rfl) (by decide) (by omega) (by omega) (fun z_16 hz_16 => ?_)
        refine s_goto (tgt := 4) E dX3_powerOf_50 (by decide) ?_
        exact ih4 ⟨q4_2_0, z_16⟩ u_11 ⟨⟨by have hb_ := z32 z_16; omega, by have hb_ := z32 z_16; omega⟩, hj_14⟩ (by first | omega | (dsimp only; omega))
      ·
        refine s_aload_n E dX3_powerOf_30 rfl rfl ?_
        refine s_iload_n E dX3_powerOf_31 rfl rfl ?_
        refine s_iconst (v := 1) E dX3_powerOf_32 (by decide) ?_
        refine s_iload_n E dX3_powerOf_33 rfl rfl ?_
        refine s_ishl E dX3_powerOf_34 ?_
        refine z_any (fun z_17 => ?_)
        refine s_iconst (v := (-1)) E dX3_powerOf_35 (by decide) ?_
        refine s_ixor E dX3_powerOf_36 ?_
        refine z_any (fun z_18 => ?_)
        refine s_iand E dX3_powerOf_37 ?_
        refine z_any (fun z_19 => ?_)
        refine s_vI (As := [AI z_19]) (S := []) E (Z_X3_isMajority_89 l D aC b u_11 z_19 hj_14.1 ) cv_X3_46 rfl rfl rfl (jv_lt hj_14 (by decide)) (Nat.le_of_ble_eq_true rfl) (Nat.le_of_ble_eq_true rfl) ⟨(Nat.le_of_ble_eq_true rfl), (Nat.le_of_ble_eq_true rfl)⟩ (Nat.le_of_ble_eq_true rfl) dX3_powerOf_38 (fun z_22 u_20 hp_21 => ?_)
        obtain ⟨hz_22, hp_21⟩ := hp_21
        have hj_23 := jv_trans hj_14 hp_21
        refine z_if_ne (tgt := 47) (u := z_22.toInt) E dX3_powerOf_41 (by decide) rfl (fun h_24 => ?_) (fun h_24 => ?_)
        ·
          refine z_iinc (u := q4_3_0.toInt) (L2 := fun z_25 => [some (AR 89), some (AI x1), some (AI q4_2_0), some (AI z_25)]) E dX3_powerOf_47 rfl rfl (by decide) (fun _ => rfl) (by decide) (by omega) (by omega) (fun z_25 hz_25 => ?_)
          refine s_goto (tgt := 4) E dX3_powerOf_50 (by decide) ?_
          exact ih4 ⟨q4_2_0, z_25⟩ u_20 ⟨⟨by have hb_ := z32 z_25; omega, by have hb_ := z32 z_25; omega⟩, hj_23⟩ (by first | omega | (dsimp only; omega))
        ·
          refine z_iincW (L2 := fun z_26 => [some (AR 89), some (AI x1), some (AI z_26), some (AI q4_3_0)]) E dX3_powerOf_44 rfl (by decide) (fun _ => rfl) (fun z_26 => ?_)
          refine z_iinc (u := q4_3_0.toInt) (L2 := fun z_27 => [some (AR 89), some (AI x1), some (AI z_26), some (AI z_27)]) E dX3_powerOf_47 rfl rfl (by decide) (fun _ => rfl) (by decide) (by omega) (by omega) (fun z_27 hz_27 => ?_)
          refine s_goto (tgt := 4) E dX3_powerOf_50 (by decide) ?_
          exact ih4 ⟨z_26, z_27⟩ u_20 ⟨⟨by have hb_ := z32 z_27; omega, by have hb_ := z32 z_27; omega⟩, hj_23⟩ (by first | omega | (dsimp only; omega))
set_option maxRecDepth 20000 in
set_option maxHeartbeats 2000000 in
theorem Z_X9_dummies_0 (l : Launch) (D : va_G) (aC : Nat → ClassId) (b : Nat) (w : XW)  (hI : Iv w)  : CnI l D aC b M_X9_dummies 4 89 0 0 [AR 0] w (fun r u => ((-2147483648) ≤ r.toInt ∧ r.toInt ≤ 2147483647 ∧ (¬ r.toInt = 0 ∨ (1 ≤ (w.2.2.1 2 0).toInt ∧ (w.2.2.1 2 0).toInt ≤ 2147483647))) ∧ Jv w u) := by
  refine cn_I (own := RX9) (nm := "dummies") (L0 := [some (AR 0), none, none]) (by decide +kernel) rfl rfl (Nat.le_of_ble_eq_true rfl) rfl ?_
  intro p e s m args below meth c E hin
  have hJ : Jv w w := jv_rfl hI
  refine s_aload_n E dX9_dummies_0 rfl rfl ?_
  refine s_gR (r := 2) E fg_X9_20 rfl rfl (jv_lt hJ (by decide)) (jv_r hJ (by decide +kernel)) dX9_dummies_1 ?_
  refine s_vI (As := []) (S := []) E (Z_X0_isTold_2 l D aC b w  hJ.1 ) cv_X9_184 rfl rfl rfl (jv_lt hJ (by decide)) (Nat.le_of_ble_eq_true rfl) (Nat.le_of_ble_eq_true rfl) ⟨(Nat.le_of_ble_eq_true rfl), (Nat.le_of_ble_eq_true rfl)⟩ (Nat.le_of_ble_eq_true rfl) dX9_dummies_4 (fun z_3 u_1 hp_2 => ?_)
  obtain ⟨hz_3, hp_2⟩ := hp_2
  subst hp_2
  refine z_if_ne (tgt := 13) (u := z_3.toInt) E dX9_dummies_7 (by decide) rfl (fun h_5 => ?_) (fun h_5 => ?_)
  ·
    refine s_aload_n E dX9_dummies_13 rfl rfl ?_
    refine s_gR (r := 89) E fg_X9_78 rfl rfl (jv_lt hJ (by decide)) (jv_r hJ (by decide +kernel)) dX9_dummies_14 ?_
    refine s_aload_n E dX9_dummies_17 rfl rfl ?_
    refine s_gR (r := 2) E fg_X9_20 rfl rfl (jv_lt hJ (by decide)) (jv_r hJ (by decide +kernel)) dX9_dummies_18 ?_
    refine s_vV (As := [AR 2]) (S := []) E (Z_X3_tally_89_r2 l D aC b w  hJ.1 ) cv_X9_311 rfl rfl rfl (jv_lt hJ (by decide)) (Nat.le_of_ble_eq_true rfl) (Nat.le_of_ble_eq_true rfl) ⟨(Nat.le_of_ble_eq_true rfl), (Nat.le_of_ble_eq_true rfl)⟩ (Nat.le_of_ble_eq_true rfl) dX9_dummies_21 (fun u_6 hp_7 => ?_)
    have hj_8 := jv_trans hJ hp_7
    refine s_iconst (v := 0) E dX9_dummies_24 (by decide) ?_
    refine s_istore_n (L2 := [some (AR 0), some (AI 0), none]) E dX9_dummies_25 rfl (by decide) rfl ?_
    refine s_iconst (v := 0) E dX9_dummies_26 (by decide) ?_
    refine s_istore_n (L2 := [some (AR 0), some (AI 0), some (AI 0)]) E dX9_dummies_27 rfl (by decide) rfl ?_
    refine z_loop (St := Int32 × Int32) (Pi := fun ⟨q28_1_8, q28_2_8⟩ v28 => (0 ≤ q28_2_8.toInt ∧ q28_2_8.toInt ≤ 6) ∧ Jv w v28) (Lf := fun ⟨q28_1_8, q28_2_8⟩ => [some (AR 0), some (AI q28_1_8), some (AI q28_2_8)]) (fun ⟨q28_1_8, q28_2_8⟩ _ => (7 - q28_2_8.toInt).toNat) ⟨0, 0⟩ ⟨⟨by decide, by decide⟩, hj_8⟩ ?_
    rintro ⟨q28_1_8, q28_2_8⟩ v28 ⟨hq28_2, hj_9⟩ ih28
    refine s_loc (L2 := [some (AR 0), some (AI q28_1_8), some (AI q28_2_8)]) rfl ?_
    refine s_iload_n E dX9_dummies_28 rfl rfl ?_
    refine s_aload_n E dX9_dummies_29 rfl rfl ?_
    refine s_gR (r := 2) E fg_X9_20 rfl rfl (jv_lt hj_9 (by decide)) (jv_r hj_9 (by decide +kernel)) dX9_dummies_30 ?_
    refine s_gR (r := 5) E fg_X9_133 rfl rfl (jv_lt hj_9 (by decide)) (jv_r hj_9 (by decide +kernel)) dX9_dummies_33 ?_
    refine s_gI E fg_X9_200 rfl rfl (jv_lt hj_9 (by decide)) dX9_dummies_36 ?_
    refine z_nm (P := fun z => z.toInt = (v28.2.2.1 5 3).toInt ∧ 0 ≤ z.toInt ∧ z.toInt ≤ 6) ⟨rfl, (rg_5_3 hj_9)⟩ (fun z_10 hz_10 => ?_)
    refine z_icmp_ge (tgt := 65) (u := q28_2_8.toInt) (v := z_10.toInt) E dX9_dummies_39 (by decide) rfl rfl (fun h_11 => ?_) (fun h_11 => ?_)
    ·
      refine s_iload_n E dX9_dummies_65 rfl rfl ?_
      exact r_int E dX9_dummies_66 ⟨⟨by have hb_ := z32 q28_1_8; omega, by have hb_ := z32 q28_1_8; omega, by have hb_ := z32 q28_1_8; have hc_ := z32 (w.2.2.1 2 0); omega⟩, hj_9⟩
    ·
      refine s_aload_n E dX9_dummies_42 rfl rfl ?_
      refine s_gR (r := 89) E fg_X9_78 rfl rfl (jv_lt hj_9 (by decide)) (jv_r hj_9 (by decide +kernel)) dX9_dummies_43 ?_
      refine s_iload_n E dX9_dummies_46 rfl rfl ?_
      refine s_vI (As := [AI q28_2_8]) (S := []) E (Z_X3_powerOf_89 l D aC b v28 q28_2_8 hj_9.1 ) cv_X9_317 rfl rfl rfl (jv_lt hj_9 (by decide)) (Nat.le_of_ble_eq_true rfl) (Nat.le_of_ble_eq_true rfl) ⟨(Nat.le_of_ble_eq_true rfl), (Nat.le_of_ble_eq_true rfl)⟩ (Nat.le_of_ble_eq_true rfl) dX9_dummies_47 (fun z_14 u_12 hp_13 => ?_)
      obtain ⟨hz_14, hp_13⟩ := hp_13
      have hj_15 := jv_trans hj_9 hp_13
      refine z_if_ne (tgt := 59) (u := z_14.toInt) E dX9_dummies_50 (by decide) rfl (fun h_16 => ?_) (fun h_16 => ?_)
      ·
        refine z_iinc (u := q28_2_8.toInt) (L2 := fun z_17 => [some (AR 0), some (AI q28_1_8), some (AI z_17)]) E dX9_dummies_59 rfl rfl (by decide) (fun _ => rfl) (by decide) (by omega) (by omega) (fun z_17 hz_17 => ?_)
        refine s_goto (tgt := 28) E dX9_dummies_62 (by decide) ?_
        exact ih28 ⟨q28_1_8, z_17⟩ u_12 ⟨⟨by have hb_ := z32 z_17; omega, by have hb_ := z32 z_17; omega⟩, hj_15⟩ (by first | omega | (dsimp only; omega))
      ·
        refine s_iload_n E dX9_dummies_53 rfl rfl ?_
        refine s_iconst (v := 1) E dX9_dummies_54 (by decide) ?_
        refine s_iload_n E dX9_dummies_55 rfl rfl ?_
        refine z_shl1 5 (u := q28_2_8.toInt) (B := 32) E dX9_dummies_56 rfl (by omega) (by omega) (by decide) (by decide) (fun z_18 hz_18 => ?_)
        refine s_ior E dX9_dummies_57 ?_
        refine z_any (fun z_19 => ?_)
        refine s_istore_n (L2 := [some (AR 0), some (AI z_19), some (AI q28_2_8)]) E dX9_dummies_58 rfl (by decide) rfl ?_
        refine z_iinc (u := q28_2_8.toInt) (L2 := fun z_20 => [some (AR 0), some (AI z_19), some (AI z_20)]) E dX9_dummies_59 rfl rfl (by decide) (fun _ => rfl) (by decide) (by omega) (by omega) (fun z_20 hz_20 => ?_)
        refine s_goto (tgt := 28) E dX9_dummies_62 (by decide) ?_
        exact ih28 ⟨z_19, z_20⟩ u_12 ⟨⟨by have hb_ := z32 z_20; omega, by have hb_ := z32 z_20; omega⟩, hj_15⟩ (by first | omega | (dsimp only; omega))
  ·
    refine s_bipush (v := (-2)) E dX9_dummies_10 (by decide) ?_
    exact r_int E dX9_dummies_12 ⟨⟨by decide, by decide, by first | (left; decide) | (right; have hb_ := z32 (w.2.2.1 2 0); omega)⟩, hJ⟩
set_option maxRecDepth 20000 in
set_option maxHeartbeats 2000000 in
theorem Z_X0_everybody_2 (l : Launch) (D : va_G) (aC : Nat → ClassId) (b : Nat) (w : XW)  (hI : Iv w)  : CnI l D aC b M_X0_everybody 0 0 0 0 [AR 2] w (fun r u => (0 ≤ r.toInt ∧ r.toInt ≤ 63) ∧ w = u) := by
  refine cn_I (own := RX0) (nm := "everybody") (L0 := [some (AR 2)]) (by decide +kernel) rfl rfl (Nat.le_of_ble_eq_true rfl) rfl ?_
  intro p e s m args below meth c E hin
  have hJ : Jv w w := jv_rfl hI
  refine s_iconst (v := 1) E dX0_everybody_0 (by decide) ?_
  refine s_aload_n E dX0_everybody_1 rfl rfl ?_
  refine s_gR (r := 5) E fg_X0_20 rfl rfl (jv_lt hJ (by decide)) (jv_r hJ (by decide +kernel)) dX0_everybody_2 ?_
  refine s_gI E fg_X0_67 rfl rfl (jv_lt hJ (by decide)) dX0_everybody_5 ?_
  refine z_nm (P := fun z => z.toInt = (w.2.2.1 5 3).toInt ∧ 0 ≤ z.toInt ∧ z.toInt ≤ 6) ⟨rfl, (rg_5_3 hJ)⟩ (fun z_1 hz_1 => ?_)
  refine z_shl1 6 (u := z_1.toInt) (B := 64) E dX0_everybody_8 rfl (by omega) (by omega) (by decide) (by decide) (fun z_2 hz_2 => ?_)
  refine s_iconst (v := 1) E dX0_everybody_9 (by decide) ?_
  refine z_isub (u := z_2.toInt) (v := 1) E dX0_everybody_10 rfl (by decide) (by omega) (by omega) (fun z_3 hz_3 => ?_)
  exact r_int E dX0_everybody_11 ⟨⟨by have hb_ := z32 z_3; omega, by have hb_ := z32 z_3; omega⟩, rfl⟩
set_option maxRecDepth 20000 in
set_option maxHeartbeats 2000000 in
theorem Z_X0_hasSet_2 (l : Launch) (D : va_G) (aC : Nat → ClassId) (b : Nat) (w : XW) (x1 : Int32) (hI : Iv w)  : CnI l D aC b M_X0_hasSet 1 20 0 0 [AR 2, AI x1] w (fun r u => (0 ≤ r.toInt ∧ r.toInt ≤ 1 ∧ (r.toInt = 0 ∨ (0 ≤ x1.toInt ∧ x1.toInt ≤ 63)) ∧ (r.toInt = 0 ∨ (1 ≤ (w.2.2.1 2 0).toInt ∧ (w.2.2.1 2 0).toInt ≤ 2147483647))) ∧ w = u) := by
  refine cn_I (own := RX0) (nm := "hasSet") (L0 := [some (AR 2), some (AI x1)]) (by decide +kernel) rfl rfl (Nat.le_of_ble_eq_true rfl) rfl ?_
  intro p e s m args below meth c E hin
  have hJ : Jv w w := jv_rfl hI
  refine s_aload_n E dX0_hasSet_0 rfl rfl ?_
  refine s_vI (As := []) (S := []) E (Z_X0_isTold_2 l D aC b w  hJ.1 ) cv_X0_59 rfl rfl rfl (jv_lt hJ (by decide)) (Nat.le_of_ble_eq_true rfl) (Nat.le_of_ble_eq_true rfl) ⟨(Nat.le_of_ble_eq_true rfl), (Nat.le_of_ble_eq_true rfl)⟩ (Nat.le_of_ble_eq_true rfl) dX0_hasSet_1 (fun z_3 u_1 hp_2 => ?_)
  obtain ⟨hz_3, hp_2⟩ := hp_2
  subst hp_2
  refine z_if_eq (tgt := 23) (u := z_3.toInt) E dX0_hasSet_4 (by decide) rfl (fun h_5 => ?_) (fun h_5 => ?_)
  ·
    refine s_iconst (v := 0) E dX0_hasSet_23 (by decide) ?_
    exact r_bool E dX0_hasSet_24 (Or.inl rfl) ⟨⟨by decide, by decide, by first | (left; decide) | (right; have hb_ := z32 x1; omega), by first | (left; decide) | (right; have hb_ := z32 (w.2.2.1 2 0); omega)⟩, rfl⟩
  ·
    refine s_iload_n E dX0_hasSet_7 rfl rfl ?_
    refine z_if_lt (tgt := 23) (u := x1.toInt) E dX0_hasSet_8 (by decide) rfl (fun h_6 => ?_) (fun h_6 => ?_)
    ·
      refine s_iconst (v := 0) E dX0_hasSet_23 (by decide) ?_
      exact r_bool E dX0_hasSet_24 (Or.inl rfl) ⟨⟨by decide, by decide, by first | (left; decide) | (right; have hb_ := z32 x1; omega), by first | (left; decide) | (right; have hb_ := z32 (w.2.2.1 2 0); omega)⟩, rfl⟩
    ·
      refine s_iload_n E dX0_hasSet_11 rfl rfl ?_
      refine s_aload_n E dX0_hasSet_12 rfl rfl ?_
      refine s_vI (As := []) (S := [AI x1]) E (Z_X0_everybody_2 l D aC b w  hJ.1 ) cv_X0_63 rfl rfl rfl (jv_lt hJ (by decide)) (Nat.le_of_ble_eq_true rfl) (Nat.le_of_ble_eq_true rfl) ⟨(Nat.le_of_ble_eq_true rfl), (Nat.le_of_ble_eq_true rfl)⟩ (Nat.le_of_ble_eq_true rfl) dX0_hasSet_13 (fun z_9 u_7 hp_8 => ?_)
      obtain ⟨hz_9, hp_8⟩ := hp_8
      subst hp_8
      refine z_icmp_gt (tgt := 23) (u := x1.toInt) (v := z_9.toInt) E dX0_hasSet_16 (by decide) rfl rfl (fun h_11 => ?_) (fun h_11 => ?_)
      ·
        refine s_iconst (v := 0) E dX0_hasSet_23 (by decide) ?_
        exact r_bool E dX0_hasSet_24 (Or.inl rfl) ⟨⟨by decide, by decide, by first | (left; decide) | (right; have hb_ := z32 x1; omega), by first | (left; decide) | (right; have hb_ := z32 (w.2.2.1 2 0); omega)⟩, rfl⟩
      ·
        refine s_iconst (v := 1) E dX0_hasSet_19 (by decide) ?_
        refine s_goto (tgt := 24) E dX0_hasSet_20 (by decide) ?_
        exact r_bool E dX0_hasSet_24 (Or.inr rfl) ⟨⟨by decide, by decide, by first | (left; decide) | (right; have hb_ := z32 x1; omega), by first | (left; decide) | (right; have hb_ := z32 (w.2.2.1 2 0); omega)⟩, rfl⟩
set_option maxRecDepth 20000 in
set_option maxHeartbeats 2000000 in
theorem Z_X9_blocks_0 (l : Launch) (D : va_G) (aC : Nat → ClassId) (b : Nat) (w : XW) (x1 : Int32) (hI : Iv w)  : CnI l D aC b M_X9_blocks 4 89 0 0 [AR 0, AI x1] w (fun r u => ((-2) ≤ r.toInt ∧ r.toInt ≤ 1 ∧ (¬ r.toInt = 0 ∨ (0 ≤ x1.toInt ∧ x1.toInt ≤ 63)) ∧ (¬ r.toInt = 0 ∨ (1 ≤ (w.2.2.1 2 0).toInt ∧ (w.2.2.1 2 0).toInt ≤ 2147483647))) ∧ Jv w u) := by
  refine cn_I (own := RX9) (nm := "blocks") (L0 := [some (AR 0), some (AI x1)]) (by decide +kernel) rfl rfl (Nat.le_of_ble_eq_true rfl) rfl ?_
  intro p e s m args below meth c E hin
  have hJ : Jv w w := jv_rfl hI
  refine s_aload_n E dX9_blocks_0 rfl rfl ?_
  refine s_gR (r := 2) E fg_X9_20 rfl rfl (jv_lt hJ (by decide)) (jv_r hJ (by decide +kernel)) dX9_blocks_1 ?_
  refine s_iload_n E dX9_blocks_4 rfl rfl ?_
  refine s_vI (As := [AI x1]) (S := []) E (Z_X0_hasSet_2 l D aC b w x1 hJ.1 ) cv_X9_308 rfl rfl rfl (jv_lt hJ (by decide)) (Nat.le_of_ble_eq_true rfl) (Nat.le_of_ble_eq_true rfl) ⟨(Nat.le_of_ble_eq_true rfl), (Nat.le_of_ble_eq_true rfl)⟩ (Nat.le_of_ble_eq_true rfl) dX9_blocks_5 (fun z_3 u_1 hp_2 => ?_)
  obtain ⟨hz_3, hp_2⟩ := hp_2
  subst hp_2
  refine z_if_ne (tgt := 14) (u := z_3.toInt) E dX9_blocks_8 (by decide) rfl (fun h_5 => ?_) (fun h_5 => ?_)
  ·
    refine s_aload_n E dX9_blocks_14 rfl rfl ?_
    refine s_gR (r := 89) E fg_X9_78 rfl rfl (jv_lt hJ (by decide)) (jv_r hJ (by decide +kernel)) dX9_blocks_15 ?_
    refine s_aload_n E dX9_blocks_18 rfl rfl ?_
    refine s_gR (r := 2) E fg_X9_20 rfl rfl (jv_lt hJ (by decide)) (jv_r hJ (by decide +kernel)) dX9_blocks_19 ?_
    refine s_vV (As := [AR 2]) (S := []) E (Z_X3_tally_89_r2 l D aC b w  hJ.1 ) cv_X9_311 rfl rfl rfl (jv_lt hJ (by decide)) (Nat.le_of_ble_eq_true rfl) (Nat.le_of_ble_eq_true rfl) ⟨(Nat.le_of_ble_eq_true rfl), (Nat.le_of_ble_eq_true rfl)⟩ (Nat.le_of_ble_eq_true rfl) dX9_blocks_22 (fun u_6 hp_7 => ?_)
    have hj_8 := jv_trans hJ hp_7
    refine s_aload_n E dX9_blocks_25 rfl rfl ?_
    refine s_gR (r := 89) E fg_X9_78 rfl rfl (jv_lt hj_8 (by decide)) (jv_r hj_8 (by decide +kernel)) dX9_blocks_26 ?_
    refine s_aload_n E dX9_blocks_29 rfl rfl ?_
    refine s_gR (r := 2) E fg_X9_20 rfl rfl (jv_lt hj_8 (by decide)) (jv_r hj_8 (by decide +kernel)) dX9_blocks_30 ?_
    refine s_vI (As := []) (S := [AR 89]) E (Z_X0_everybody_2 l D aC b u_6  hj_8.1 ) cv_X9_240 rfl rfl rfl (jv_lt hj_8 (by decide)) (Nat.le_of_ble_eq_true rfl) (Nat.le_of_ble_eq_true rfl) ⟨(Nat.le_of_ble_eq_true rfl), (Nat.le_of_ble_eq_true rfl)⟩ (Nat.le_of_ble_eq_true rfl) dX9_blocks_33 (fun z_11 u_9 hp_10 => ?_)
    obtain ⟨hz_11, hp_10⟩ := hp_10
    subst hp_10
    refine s_iload_n E dX9_blocks_36 rfl rfl ?_
    refine s_iconst (v := (-1)) E dX9_blocks_37 (by decide) ?_
    refine s_ixor E dX9_blocks_38 ?_
    refine z_any (fun z_13 => ?_)
    refine s_iand E dX9_blocks_39 ?_
    refine z_any (fun z_14 => ?_)
    refine s_vI (As := [AI z_14]) (S := []) E (Z_X3_isMajority_89 l D aC b u_6 z_14 hj_8.1 ) cv_X9_314 rfl rfl rfl (jv_lt hj_8 (by decide)) (Nat.le_of_ble_eq_true rfl) (Nat.le_of_ble_eq_true rfl) ⟨(Nat.le_of_ble_eq_true rfl), (Nat.le_of_ble_eq_true rfl)⟩ (Nat.le_of_ble_eq_true rfl) dX9_blocks_40 (fun z_17 u_15 hp_16 => ?_)
    obtain ⟨hz_17, hp_16⟩ := hp_16
    have hj_18 := jv_trans hj_8 hp_16
    refine z_if_eq (tgt := 50) (u := z_17.toInt) E dX9_blocks_43 (by decide) rfl (fun h_19 => ?_) (fun h_19 => ?_)
    ·
      refine s_iconst (v := 1) E dX9_blocks_50 (by decide) ?_
      exact r_int E dX9_blocks_51 ⟨⟨by decide, by decide, by first | (left; decide) | (right; have hb_ := z32 x1; omega), by first | (left; decide) | (right; have hb_ := z32 (w.2.2.1 2 0); omega)⟩, hj_18⟩
    ·
      refine s_iconst (v := 0) E dX9_blocks_46 (by decide) ?_
      refine s_goto (tgt := 51) E dX9_blocks_47 (by decide) ?_
      exact r_int E dX9_blocks_51 ⟨⟨by decide, by decide, by first | (left; decide) | (right; have hb_ := z32 x1; omega), by first | (left; decide) | (right; have hb_ := z32 (w.2.2.1 2 0); omega)⟩, hj_18⟩
  ·
    refine s_bipush (v := (-2)) E dX9_blocks_11 (by decide) ?_
    exact r_int E dX9_blocks_13 ⟨⟨by decide, by decide, by first | (left; decide) | (right; have hb_ := z32 x1; omega), by first | (left; decide) | (right; have hb_ := z32 (w.2.2.1 2 0); omega)⟩, hJ⟩
set_option maxRecDepth 20000 in
set_option maxHeartbeats 2000000 in
theorem Z_X9_strongest_0 (l : Launch) (D : va_G) (aC : Nat → ClassId) (b : Nat) (w : XW)  (hI : Iv w)  : CnI l D aC b M_X9_strongest 4 89 0 0 [AR 0] w (fun r u => ((-2) ≤ r.toInt ∧ r.toInt ≤ 64 ∧ (¬ r.toInt = 0 ∨ (1 ≤ (w.2.2.1 2 0).toInt ∧ (w.2.2.1 2 0).toInt ≤ 2147483647))) ∧ Jv w u) := by
  refine cn_I (own := RX9) (nm := "strongest") (L0 := [some (AR 0), none, none, none, none]) (by decide +kernel) rfl rfl (Nat.le_of_ble_eq_true rfl) rfl ?_
  intro p e s m args below meth c E hin
  have hJ : Jv w w := jv_rfl hI
  refine s_aload_n E dX9_strongest_0 rfl rfl ?_
  refine s_gR (r := 2) E fg_X9_20 rfl rfl (jv_lt hJ (by decide)) (jv_r hJ (by decide +kernel)) dX9_strongest_1 ?_
  refine s_vI (As := []) (S := []) E (Z_X0_isTold_2 l D aC b w  hJ.1 ) cv_X9_184 rfl rfl rfl (jv_lt hJ (by decide)) (Nat.le_of_ble_eq_true rfl) (Nat.le_of_ble_eq_true rfl) ⟨(Nat.le_of_ble_eq_true rfl), (Nat.le_of_ble_eq_true rfl)⟩ (Nat.le_of_ble_eq_true rfl) dX9_strongest_4 (fun z_3 u_1 hp_2 => ?_)
  obtain ⟨hz_3, hp_2⟩ := hp_2
  subst hp_2
  refine z_if_ne (tgt := 13) (u := z_3.toInt) E dX9_strongest_7 (by decide) rfl (fun h_5 => ?_) (fun h_5 => ?_)
  ·
    refine s_aload_n E dX9_strongest_13 rfl rfl ?_
    refine s_gR (r := 89) E fg_X9_78 rfl rfl (jv_lt hJ (by decide)) (jv_r hJ (by decide +kernel)) dX9_strongest_14 ?_
    refine s_aload_n E dX9_strongest_17 rfl rfl ?_
    refine s_gR (r := 2) E fg_X9_20 rfl rfl (jv_lt hJ (by decide)) (jv_r hJ (by decide +kernel)) dX9_strongest_18 ?_
    refine s_vV (As := [AR 2]) (S := []) E (Z_X3_tally_89_r2 l D aC b w  hJ.1 ) cv_X9_311 rfl rfl rfl (jv_lt hJ (by decide)) (Nat.le_of_ble_eq_true rfl) (Nat.le_of_ble_eq_true rfl) ⟨(Nat.le_of_ble_eq_true rfl), (Nat.le_of_ble_eq_true rfl)⟩ (Nat.le_of_ble_eq_true rfl) dX9_strongest_21 (fun u_6 hp_7 => ?_)
    have hj_8 := jv_trans hJ hp_7
    refine s_iconst (v := (-1)) E dX9_strongest_24 (by decide) ?_
    refine s_istore_n (L2 := [some (AR 0), some (AI (-1)), none, none, none]) E dX9_strongest_25 rfl (by decide) rfl ?_
    refine s_iconst (v := 0) E dX9_strongest_26 (by decide) ?_
    refine s_istore_n (L2 := [some (AR 0), some (AI (-1)), some (AI 0), none, none]) E dX9_strongest_27 rfl (by decide) rfl ?_
    refine s_iconst (v := 0) E dX9_strongest_28 (by decide) ?_
    refine s_istore_n (L2 := [some (AR 0), some (AI (-1)), some (AI 0), some (AI 0), none]) E dX9_strongest_29 rfl (by decide) rfl ?_
    refine z_loop (St := Int32 × Int32 × Int32) (Pi := fun ⟨q30_1_8, q30_2_8, q30_3_8⟩ v30 => ((-1) ≤ q30_1_8.toInt ∧ q30_1_8.toInt ≤ 64) ∧ (0 ≤ q30_2_8.toInt ∧ q30_2_8.toInt ≤ 2147483647) ∧ (0 ≤ q30_3_8.toInt ∧ q30_3_8.toInt ≤ 6) ∧ Jv w v30) (Lf := fun ⟨q30_1_8, q30_2_8, q30_3_8⟩ => [some (AR 0), some (AI q30_1_8), some (AI q30_2_8), some (AI q30_3_8), none]) (fun ⟨q30_1_8, q30_2_8, q30_3_8⟩ _ => (7 - q30_3_8.toInt).toNat) ⟨(-1), 0, 0⟩ ⟨⟨by decide, by decide⟩, ⟨by decide, by decide⟩, ⟨by decide, by decide⟩, hj_8⟩ ?_
    rintro ⟨q30_1_8, q30_2_8, q30_3_8⟩ v30 ⟨hq30_1, hq30_2, hq30_3, hj_9⟩ ih30
    refine s_loc (L2 := [some (AR 0), some (AI q30_1_8), some (AI q30_2_8), some (AI q30_3_8), none]) rfl ?_
    refine s_iload_n E dX9_strongest_30 rfl rfl ?_
    refine s_aload_n E dX9_strongest_31 rfl rfl ?_
    refine s_gR (r := 2) E fg_X9_20 rfl rfl (jv_lt hj_9 (by decide)) (jv_r hj_9 (by decide +kernel)) dX9_strongest_32 ?_
    refine s_gR (r := 5) E fg_X9_133 rfl rfl (jv_lt hj_9 (by decide)) (jv_r hj_9 (by decide +kernel)) dX9_strongest_35 ?_
    refine s_gI E fg_X9_200 rfl rfl (jv_lt hj_9 (by decide)) dX9_strongest_38 ?_
    refine z_nm (P := fun z => z.toInt = (v30.2.2.1 5 3).toInt ∧ 0 ≤ z.toInt ∧ z.toInt ≤ 6) ⟨rfl, (rg_5_3 hj_9)⟩ (fun z_10 hz_10 => ?_)
    refine z_icmp_ge (tgt := 71) (u := q30_3_8.toInt) (v := z_10.toInt) E dX9_strongest_41 (by decide) rfl rfl (fun h_11 => ?_) (fun h_11 => ?_)
    ·
      refine s_iload_n E dX9_strongest_71 rfl rfl ?_
      exact r_int E dX9_strongest_72 ⟨⟨by have hb_ := z32 q30_1_8; omega, by have hb_ := z32 q30_1_8; omega, by have hb_ := z32 q30_1_8; have hc_ := z32 (w.2.2.1 2 0); omega⟩, hj_9⟩
    ·
      refine s_aload_n E dX9_strongest_44 rfl rfl ?_
      refine s_gR (r := 89) E fg_X9_78 rfl rfl (jv_lt hj_9 (by decide)) (jv_r hj_9 (by decide +kernel)) dX9_strongest_45 ?_
      refine s_iload_n E dX9_strongest_48 rfl rfl ?_
      refine s_vI (As := [AI q30_3_8]) (S := []) E (Z_X3_powerOf_89 l D aC b v30 q30_3_8 hj_9.1 ) cv_X9_317 rfl rfl rfl (jv_lt hj_9 (by decide)) (Nat.le_of_ble_eq_true rfl) (Nat.le_of_ble_eq_true rfl) ⟨(Nat.le_of_ble_eq_true rfl), (Nat.le_of_ble_eq_true rfl)⟩ (Nat.le_of_ble_eq_true rfl) dX9_strongest_49 (fun z_14 u_12 hp_13 => ?_)
      obtain ⟨hz_14, hp_13⟩ := hp_13
      have hj_15 := jv_trans hj_9 hp_13
      refine s_istore (L2 := [some (AR 0), some (AI q30_1_8), some (AI q30_2_8), some (AI q30_3_8), some (AI z_14)]) E dX9_strongest_52 (by decide) rfl ?_
      refine s_iload E dX9_strongest_54 rfl ?_
      refine s_iload_n E dX9_strongest_56 rfl rfl ?_
      refine z_icmp_le (tgt := 65) (u := z_14.toInt) (v := q30_2_8.toInt) E dX9_strongest_57 (by decide) rfl rfl (fun h_16 => ?_) (fun h_16 => ?_)
      ·
        refine z_iinc (u := q30_3_8.toInt) (L2 := fun z_17 => [some (AR 0), some (AI q30_1_8), some (AI q30_2_8), some (AI z_17), some (AI z_14)]) E dX9_strongest_65 rfl rfl (by decide) (fun _ => rfl) (by decide) (by omega) (by omega) (fun z_17 hz_17 => ?_)
        refine s_goto (tgt := 30) E dX9_strongest_68 (by decide) ?_
        refine s_drop (i := 4) (L2 := [some (AR 0), some (AI q30_1_8), some (AI q30_2_8), some (AI z_17), none]) rfl ?_
        exact ih30 ⟨q30_1_8, q30_2_8, z_17⟩ u_12 ⟨⟨by have hb_ := z32 q30_1_8; omega, by have hb_ := z32 q30_1_8; omega⟩, ⟨by have hb_ := z32 q30_2_8; omega, by have hb_ := z32 q30_2_8; omega⟩, ⟨by have hb_ := z32 z_17; omega, by have hb_ := z32 z_17; omega⟩, hj_15⟩ (by first | omega | (dsimp only; omega))
      ·
        refine s_iload E dX9_strongest_60 rfl ?_
        refine s_istore_n (L2 := [some (AR 0), some (AI q30_1_8), some (AI z_14), some (AI q30_3_8), some (AI z_14)]) E dX9_strongest_62 rfl (by decide) rfl ?_
        refine s_iload_n E dX9_strongest_63 rfl rfl ?_
        refine s_istore_n (L2 := [some (AR 0), some (AI q30_3_8), some (AI z_14), some (AI q30_3_8), some (AI z_14)]) E dX9_strongest_64 rfl (by decide) rfl ?_
        refine z_iinc (u := q30_3_8.toInt) (L2 := fun z_18 => [some (AR 0), some (AI q30_3_8), some (AI z_14), some (AI z_18), some (AI z_14)]) E dX9_strongest_65 rfl rfl (by decide) (fun _ => rfl) (by decide) (by omega) (by omega) (fun z_18 hz_18 => ?_)
        refine s_goto (tgt := 30) E dX9_strongest_68 (by decide) ?_
        refine s_drop (i := 4) (L2 := [some (AR 0), some (AI q30_3_8), some (AI z_14), some (AI z_18), none]) rfl ?_
        exact ih30 ⟨q30_3_8, z_14, z_18⟩ u_12 ⟨⟨by have hb_ := z32 q30_3_8; omega, by have hb_ := z32 q30_3_8; omega⟩, ⟨by have hb_ := z32 z_14; omega, by have hb_ := z32 z_14; omega⟩, ⟨by have hb_ := z32 z_18; omega, by have hb_ := z32 z_18; omega⟩, hj_15⟩ (by first | omega | (dsimp only; omega))
  ·
    refine s_bipush (v := (-2)) E dX9_strongest_10 (by decide) ?_
    exact r_int E dX9_strongest_12 ⟨⟨by decide, by decide, by first | (left; decide) | (right; have hb_ := z32 (w.2.2.1 2 0); omega)⟩, hJ⟩
set_option maxRecDepth 20000 in
set_option maxHeartbeats 2000000 in
theorem Z_X9_have_0 (l : Launch) (D : va_G) (aC : Nat → ClassId) (b : Nat) (w : XW) (x1 : Int32) (x2 : Int32) (hI : Iv w)  : CnI l D aC b M_X9_have 5 113 0 0 [AR 0, AI x1, AI x2] w (fun r u => ((-2147483648) ≤ r.toInt ∧ r.toInt ≤ 2147483647 ∧ (¬ r.toInt = 0 ∨ (0 ≤ x1.toInt ∧ x1.toInt ≤ 5)) ∧ (¬ r.toInt = 0 ∨ (0 ≤ x2.toInt ∧ x2.toInt ≤ 14)) ∧ (¬ r.toInt = 0 ∨ (1 ≤ (w.2.2.1 5 3).toInt ∧ (w.2.2.1 5 3).toInt ≤ 6)) ∧ (¬ r.toInt = 0 ∨ (1 ≤ (w.2.2.1 2 0).toInt ∧ (w.2.2.1 2 0).toInt ≤ 2147483647))) ∧ Jv w u) := by
  refine cn_I (own := RX9) (nm := "have") (L0 := [some (AR 0), some (AI x1), some (AI x2)]) (by decide +kernel) rfl rfl (Nat.le_of_ble_eq_true rfl) rfl ?_
  intro p e s m args below meth c E hin
  have hJ : Jv w w := jv_rfl hI
  refine s_aload_n E dX9_have_0 rfl rfl ?_
  refine s_gR (r := 2) E fg_X9_20 rfl rfl (jv_lt hJ (by decide)) (jv_r hJ (by decide +kernel)) dX9_have_1 ?_
  refine s_iload_n E dX9_have_4 rfl rfl ?_
  refine s_vI (As := [AI x1]) (S := []) E (Z_X0_hasLady_2 l D aC b w x1 hJ.1 ) cv_X9_139 rfl rfl rfl (jv_lt hJ (by decide)) (Nat.le_of_ble_eq_true rfl) (Nat.le_of_ble_eq_true rfl) ⟨(Nat.le_of_ble_eq_true rfl), (Nat.le_of_ble_eq_true rfl)⟩ (Nat.le_of_ble_eq_true rfl) dX9_have_5 (fun z_3 u_1 hp_2 => ?_)
  obtain ⟨hz_3, hp_2⟩ := hp_2
  subst hp_2
  refine z_if_eq (tgt := 22) (u := z_3.toInt) E dX9_have_8 (by decide) rfl (fun h_5 => ?_) (fun h_5 => ?_)
  ·
    refine s_bipush (v := (-2)) E dX9_have_22 (by decide) ?_
    exact r_int E dX9_have_24 ⟨⟨by decide, by decide, by first | (left; decide) | (right; have hb_ := z32 x1; omega), by first | (left; decide) | (right; have hb_ := z32 x2; omega), by first | (left; decide) | (right; have hb_ := z32 (w.2.2.1 5 3); omega), by first | (left; decide) | (right; have hb_ := z32 (w.2.2.1 2 0); omega)⟩, hJ⟩
  ·
    refine s_aload_n E dX9_have_11 rfl rfl ?_
    refine s_gR (r := 2) E fg_X9_20 rfl rfl (jv_lt hJ (by decide)) (jv_r hJ (by decide +kernel)) dX9_have_12 ?_
    refine s_iload_n E dX9_have_15 rfl rfl ?_
    refine s_vI (As := [AI x2]) (S := []) E (Z_X0_hasDance_2 l D aC b w x2 hJ.1 ) cv_X9_153 rfl rfl rfl (jv_lt hJ (by decide)) (Nat.le_of_ble_eq_true rfl) (Nat.le_of_ble_eq_true rfl) ⟨(Nat.le_of_ble_eq_true rfl), (Nat.le_of_ble_eq_true rfl)⟩ (Nat.le_of_ble_eq_true rfl) dX9_have_16 (fun z_8 u_6 hp_7 => ?_)
    obtain ⟨hz_8, hp_7⟩ := hp_7
    subst hp_7
    refine z_if_ne (tgt := 25) (u := z_8.toInt) E dX9_have_19 (by decide) rfl (fun h_10 => ?_) (fun h_10 => ?_)
    ·
      refine s_aload_n E dX9_have_25 rfl rfl ?_
      refine s_vV (As := []) (S := []) E (Z_X9_passAsTold_0 l D aC b w  hJ.1 ) cv_X9_227 rfl rfl rfl (jv_lt hJ (by decide)) (Nat.le_of_ble_eq_true rfl) (Nat.le_of_ble_eq_true rfl) ⟨(Nat.le_of_ble_eq_true rfl), (Nat.le_of_ble_eq_true rfl)⟩ (Nat.le_of_ble_eq_true rfl) dX9_have_26 (fun u_11 hp_12 => ?_)
      have hj_13 := jv_trans hJ hp_12
      refine s_aload_n E dX9_have_29 rfl rfl ?_
      refine s_gR (r := 81) E fg_X9_64 rfl rfl (jv_lt hj_13 (by decide)) (jv_r hj_13 (by decide +kernel)) dX9_have_30 ?_
      refine s_aload_n E dX9_have_33 rfl rfl ?_
      refine s_gR (r := 69) E fg_X9_54 rfl rfl (jv_lt hj_13 (by decide)) (jv_r hj_13 (by decide +kernel)) dX9_have_34 ?_
      refine s_iload_n E dX9_have_37 rfl rfl ?_
      refine s_iconst (v := 0) E dX9_have_38 (by decide) ?_
      refine s_vV (As := [AR 69, AI x1, AI 0]) (S := []) E (Z_X5_follow_81_r69 l D aC b u_11 x1 0 hj_13.1 ) cv_X9_220 rfl rfl rfl (jv_lt hj_13 (by decide)) (Nat.le_of_ble_eq_true rfl) (Nat.le_of_ble_eq_true rfl) ⟨(Nat.le_of_ble_eq_true rfl), (Nat.le_of_ble_eq_true rfl)⟩ (Nat.le_of_ble_eq_true rfl) dX9_have_39 (fun u_14 hp_15 => ?_)
      have hj_16 := jv_trans hj_13 hp_15
      refine s_aload_n E dX9_have_42 rfl rfl ?_
      refine s_gR (r := 81) E fg_X9_64 rfl rfl (jv_lt hj_16 (by decide)) (jv_r hj_16 (by decide +kernel)) dX9_have_43 ?_
      refine s_iload_n E dX9_have_46 rfl rfl ?_
      refine s_vI (As := [AI x2]) (S := []) E (Z_X5_behind_81 l D aC b u_14 x2 hj_16.1 ) cv_X9_224 rfl rfl rfl (jv_lt hj_16 (by decide)) (Nat.le_of_ble_eq_true rfl) (Nat.le_of_ble_eq_true rfl) ⟨(Nat.le_of_ble_eq_true rfl), (Nat.le_of_ble_eq_true rfl)⟩ (Nat.le_of_ble_eq_true rfl) dX9_have_47 (fun z_19 u_17 hp_18 => ?_)
      obtain ⟨hz_19, hp_18⟩ := hp_18
      subst hp_18
      exact r_int E dX9_have_50 ⟨⟨by have hb_ := z32 z_19; omega, by have hb_ := z32 z_19; omega, by have hb_ := z32 z_19; have hc_ := z32 x1; omega, by have hb_ := z32 z_19; have hc_ := z32 x2; omega, by have hb_ := z32 z_19; have hc_ := z32 (w.2.2.1 5 3); omega, by have hb_ := z32 z_19; have hc_ := z32 (w.2.2.1 2 0); omega⟩, hj_16⟩
    ·
      refine s_bipush (v := (-2)) E dX9_have_22 (by decide) ?_
      exact r_int E dX9_have_24 ⟨⟨by decide, by decide, by first | (left; decide) | (right; have hb_ := z32 x1; omega), by first | (left; decide) | (right; have hb_ := z32 x2; omega), by first | (left; decide) | (right; have hb_ := z32 (w.2.2.1 5 3); omega), by first | (left; decide) | (right; have hb_ := z32 (w.2.2.1 2 0); omega)⟩, hJ⟩
set_option maxRecDepth 20000 in
set_option maxHeartbeats 2000000 in
theorem Z_X9_gets_0 (l : Launch) (D : va_G) (aC : Nat → ClassId) (b : Nat) (w : XW) (x1 : Int32) (x2 : Int32) (hI : Iv w)  : CnI l D aC b M_X9_gets 5 113 0 0 [AR 0, AI x1, AI x2] w (fun r u => ((-2) ≤ r.toInt ∧ r.toInt ≤ 14 ∧ (¬ r.toInt = 0 ∨ (0 ≤ x1.toInt ∧ x1.toInt ≤ 5)) ∧ (¬ r.toInt = 0 ∨ (0 ≤ x2.toInt ∧ x2.toInt ≤ 5)) ∧ (¬ r.toInt = 0 ∨ (1 ≤ (w.2.2.1 5 3).toInt ∧ (w.2.2.1 5 3).toInt ≤ 6))) ∧ Jv w u) := by
  refine cn_I (own := RX9) (nm := "gets") (L0 := [some (AR 0), some (AI x1), some (AI x2)]) (by decide +kernel) rfl rfl (Nat.le_of_ble_eq_true rfl) rfl ?_
  intro p e s m args below meth c E hin
  have hJ : Jv w w := jv_rfl hI
  refine s_aload_n E dX9_gets_0 rfl rfl ?_
  refine s_gR (r := 2) E fg_X9_20 rfl rfl (jv_lt hJ (by decide)) (jv_r hJ (by decide +kernel)) dX9_gets_1 ?_
  refine s_iload_n E dX9_gets_4 rfl rfl ?_
  refine s_vI (As := [AI x1]) (S := []) E (Z_X0_hasLady_2 l D aC b w x1 hJ.1 ) cv_X9_139 rfl rfl rfl (jv_lt hJ (by decide)) (Nat.le_of_ble_eq_true rfl) (Nat.le_of_ble_eq_true rfl) ⟨(Nat.le_of_ble_eq_true rfl), (Nat.le_of_ble_eq_true rfl)⟩ (Nat.le_of_ble_eq_true rfl) dX9_gets_5 (fun z_3 u_1 hp_2 => ?_)
  obtain ⟨hz_3, hp_2⟩ := hp_2
  subst hp_2
  refine z_if_eq (tgt := 22) (u := z_3.toInt) E dX9_gets_8 (by decide) rfl (fun h_5 => ?_) (fun h_5 => ?_)
  ·
    refine s_bipush (v := (-2)) E dX9_gets_22 (by decide) ?_
    exact r_int E dX9_gets_24 ⟨⟨by decide, by decide, by first | (left; decide) | (right; have hb_ := z32 x1; omega), by first | (left; decide) | (right; have hb_ := z32 x2; omega), by first | (left; decide) | (right; have hb_ := z32 (w.2.2.1 5 3); omega)⟩, hJ⟩
  ·
    refine s_aload_n E dX9_gets_11 rfl rfl ?_
    refine s_gR (r := 2) E fg_X9_20 rfl rfl (jv_lt hJ (by decide)) (jv_r hJ (by decide +kernel)) dX9_gets_12 ?_
    refine s_iload_n E dX9_gets_15 rfl rfl ?_
    refine s_vI (As := [AI x2]) (S := []) E (Z_X0_hasLady_2 l D aC b w x2 hJ.1 ) cv_X9_139 rfl rfl rfl (jv_lt hJ (by decide)) (Nat.le_of_ble_eq_true rfl) (Nat.le_of_ble_eq_true rfl) ⟨(Nat.le_of_ble_eq_true rfl), (Nat.le_of_ble_eq_true rfl)⟩ (Nat.le_of_ble_eq_true rfl) dX9_gets_16 (fun z_8 u_6 hp_7 => ?_)
    obtain ⟨hz_8, hp_7⟩ := hp_7
    subst hp_7
    refine z_if_ne (tgt := 25) (u := z_8.toInt) E dX9_gets_19 (by decide) rfl (fun h_10 => ?_) (fun h_10 => ?_)
    ·
      refine s_aload_n E dX9_gets_25 rfl rfl ?_
      refine s_vV (As := []) (S := []) E (Z_X9_passAsTold_0 l D aC b w  hJ.1 ) cv_X9_227 rfl rfl rfl (jv_lt hJ (by decide)) (Nat.le_of_ble_eq_true rfl) (Nat.le_of_ble_eq_true rfl) ⟨(Nat.le_of_ble_eq_true rfl), (Nat.le_of_ble_eq_true rfl)⟩ (Nat.le_of_ble_eq_true rfl) dX9_gets_26 (fun u_11 hp_12 => ?_)
      have hj_13 := jv_trans hJ hp_12
      refine s_aload_n E dX9_gets_29 rfl rfl ?_
      refine s_gR (r := 81) E fg_X9_64 rfl rfl (jv_lt hj_13 (by decide)) (jv_r hj_13 (by decide +kernel)) dX9_gets_30 ?_
      refine s_aload_n E dX9_gets_33 rfl rfl ?_
      refine s_gR (r := 69) E fg_X9_54 rfl rfl (jv_lt hj_13 (by decide)) (jv_r hj_13 (by decide +kernel)) dX9_gets_34 ?_
      refine s_iload_n E dX9_gets_37 rfl rfl ?_
      refine s_iconst (v := 0) E dX9_gets_38 (by decide) ?_
      refine s_vV (As := [AR 69, AI x1, AI 0]) (S := []) E (Z_X5_follow_81_r69 l D aC b u_11 x1 0 hj_13.1 ) cv_X9_220 rfl rfl rfl (jv_lt hj_13 (by decide)) (Nat.le_of_ble_eq_true rfl) (Nat.le_of_ble_eq_true rfl) ⟨(Nat.le_of_ble_eq_true rfl), (Nat.le_of_ble_eq_true rfl)⟩ (Nat.le_of_ble_eq_true rfl) dX9_gets_39 (fun u_14 hp_15 => ?_)
      have hj_16 := jv_trans hj_13 hp_15
      refine s_aload_n E dX9_gets_42 rfl rfl ?_
      refine s_gR (r := 81) E fg_X9_64 rfl rfl (jv_lt hj_16 (by decide)) (jv_r hj_16 (by decide +kernel)) dX9_gets_43 ?_
      refine s_iload_n E dX9_gets_46 rfl rfl ?_
      refine s_vI (As := [AI x2]) (S := []) E (Z_X5_gotAt_81 l D aC b u_14 x2 hj_16.1 ) cv_X9_237 rfl rfl rfl (jv_lt hj_16 (by decide)) (Nat.le_of_ble_eq_true rfl) (Nat.le_of_ble_eq_true rfl) ⟨(Nat.le_of_ble_eq_true rfl), (Nat.le_of_ble_eq_true rfl)⟩ (Nat.le_of_ble_eq_true rfl) dX9_gets_47 (fun z_19 u_17 hp_18 => ?_)
      obtain ⟨hz_19, hp_18⟩ := hp_18
      have hj_20 := jv_trans hj_16 hp_18
      exact r_int E dX9_gets_50 ⟨⟨by have hb_ := z32 z_19; omega, by have hb_ := z32 z_19; omega, by have hb_ := z32 z_19; have hc_ := z32 x1; omega, by have hb_ := z32 z_19; have hc_ := z32 x2; omega, by have hb_ := z32 z_19; have hc_ := z32 (w.2.2.1 5 3); omega⟩, hj_20⟩
    ·
      refine s_bipush (v := (-2)) E dX9_gets_22 (by decide) ?_
      exact r_int E dX9_gets_24 ⟨⟨by decide, by decide, by first | (left; decide) | (right; have hb_ := z32 x1; omega), by first | (left; decide) | (right; have hb_ := z32 x2; omega), by first | (left; decide) | (right; have hb_ := z32 (w.2.2.1 5 3); omega)⟩, hJ⟩
set_option maxRecDepth 20000 in
set_option maxHeartbeats 2000000 in
theorem Z_X9_from_0 (l : Launch) (D : va_G) (aC : Nat → ClassId) (b : Nat) (w : XW) (x1 : Int32) (x2 : Int32) (hI : Iv w)  : CnI l D aC b M_X9_from 5 113 0 0 [AR 0, AI x1, AI x2] w (fun r u => ((-2) ≤ r.toInt ∧ r.toInt ≤ 5 ∧ (¬ r.toInt = 0 ∨ (0 ≤ x1.toInt ∧ x1.toInt ≤ 5)) ∧ (¬ r.toInt = 0 ∨ (0 ≤ x2.toInt ∧ x2.toInt ≤ 5)) ∧ (¬ r.toInt = 0 ∨ (1 ≤ (w.2.2.1 5 3).toInt ∧ (w.2.2.1 5 3).toInt ≤ 6))) ∧ Jv w u) := by
  refine cn_I (own := RX9) (nm := "from") (L0 := [some (AR 0), some (AI x1), some (AI x2)]) (by decide +kernel) rfl rfl (Nat.le_of_ble_eq_true rfl) rfl ?_
  intro p e s m args below meth c E hin
  have hJ : Jv w w := jv_rfl hI
  refine s_aload_n E dX9_from_0 rfl rfl ?_
  refine s_gR (r := 2) E fg_X9_20 rfl rfl (jv_lt hJ (by decide)) (jv_r hJ (by decide +kernel)) dX9_from_1 ?_
  refine s_iload_n E dX9_from_4 rfl rfl ?_
  refine s_vI (As := [AI x1]) (S := []) E (Z_X0_hasLady_2 l D aC b w x1 hJ.1 ) cv_X9_139 rfl rfl rfl (jv_lt hJ (by decide)) (Nat.le_of_ble_eq_true rfl) (Nat.le_of_ble_eq_true rfl) ⟨(Nat.le_of_ble_eq_true rfl), (Nat.le_of_ble_eq_true rfl)⟩ (Nat.le_of_ble_eq_true rfl) dX9_from_5 (fun z_3 u_1 hp_2 => ?_)
  obtain ⟨hz_3, hp_2⟩ := hp_2
  subst hp_2
  refine z_if_eq (tgt := 22) (u := z_3.toInt) E dX9_from_8 (by decide) rfl (fun h_5 => ?_) (fun h_5 => ?_)
  ·
    refine s_bipush (v := (-2)) E dX9_from_22 (by decide) ?_
    exact r_int E dX9_from_24 ⟨⟨by decide, by decide, by first | (left; decide) | (right; have hb_ := z32 x1; omega), by first | (left; decide) | (right; have hb_ := z32 x2; omega), by first | (left; decide) | (right; have hb_ := z32 (w.2.2.1 5 3); omega)⟩, hJ⟩
  ·
    refine s_aload_n E dX9_from_11 rfl rfl ?_
    refine s_gR (r := 2) E fg_X9_20 rfl rfl (jv_lt hJ (by decide)) (jv_r hJ (by decide +kernel)) dX9_from_12 ?_
    refine s_iload_n E dX9_from_15 rfl rfl ?_
    refine s_vI (As := [AI x2]) (S := []) E (Z_X0_hasLady_2 l D aC b w x2 hJ.1 ) cv_X9_139 rfl rfl rfl (jv_lt hJ (by decide)) (Nat.le_of_ble_eq_true rfl) (Nat.le_of_ble_eq_true rfl) ⟨(Nat.le_of_ble_eq_true rfl), (Nat.le_of_ble_eq_true rfl)⟩ (Nat.le_of_ble_eq_true rfl) dX9_from_16 (fun z_8 u_6 hp_7 => ?_)
    obtain ⟨hz_8, hp_7⟩ := hp_7
    subst hp_7
    refine z_if_ne (tgt := 25) (u := z_8.toInt) E dX9_from_19 (by decide) rfl (fun h_10 => ?_) (fun h_10 => ?_)
    ·
      refine s_aload_n E dX9_from_25 rfl rfl ?_
      refine s_vV (As := []) (S := []) E (Z_X9_passAsTold_0 l D aC b w  hJ.1 ) cv_X9_227 rfl rfl rfl (jv_lt hJ (by decide)) (Nat.le_of_ble_eq_true rfl) (Nat.le_of_ble_eq_true rfl) ⟨(Nat.le_of_ble_eq_true rfl), (Nat.le_of_ble_eq_true rfl)⟩ (Nat.le_of_ble_eq_true rfl) dX9_from_26 (fun u_11 hp_12 => ?_)
      have hj_13 := jv_trans hJ hp_12
      refine s_aload_n E dX9_from_29 rfl rfl ?_
      refine s_gR (r := 81) E fg_X9_64 rfl rfl (jv_lt hj_13 (by decide)) (jv_r hj_13 (by decide +kernel)) dX9_from_30 ?_
      refine s_aload_n E dX9_from_33 rfl rfl ?_
      refine s_gR (r := 69) E fg_X9_54 rfl rfl (jv_lt hj_13 (by decide)) (jv_r hj_13 (by decide +kernel)) dX9_from_34 ?_
      refine s_iload_n E dX9_from_37 rfl rfl ?_
      refine s_iconst (v := 0) E dX9_from_38 (by decide) ?_
      refine s_vV (As := [AR 69, AI x1, AI 0]) (S := []) E (Z_X5_follow_81_r69 l D aC b u_11 x1 0 hj_13.1 ) cv_X9_220 rfl rfl rfl (jv_lt hj_13 (by decide)) (Nat.le_of_ble_eq_true rfl) (Nat.le_of_ble_eq_true rfl) ⟨(Nat.le_of_ble_eq_true rfl), (Nat.le_of_ble_eq_true rfl)⟩ (Nat.le_of_ble_eq_true rfl) dX9_from_39 (fun u_14 hp_15 => ?_)
      have hj_16 := jv_trans hj_13 hp_15
      refine s_aload_n E dX9_from_42 rfl rfl ?_
      refine s_gR (r := 81) E fg_X9_64 rfl rfl (jv_lt hj_16 (by decide)) (jv_r hj_16 (by decide +kernel)) dX9_from_43 ?_
      refine s_aload_n E dX9_from_46 rfl rfl ?_
      refine s_gR (r := 69) E fg_X9_54 rfl rfl (jv_lt hj_16 (by decide)) (jv_r hj_16 (by decide +kernel)) dX9_from_47 ?_
      refine s_iload_n E dX9_from_50 rfl rfl ?_
      refine s_vI (As := [AR 69, AI x2]) (S := []) E (Z_X5_giverOf_81_r69 l D aC b u_14 x2 hj_16.1 ) cv_X9_234 rfl rfl rfl (jv_lt hj_16 (by decide)) (Nat.le_of_ble_eq_true rfl) (Nat.le_of_ble_eq_true rfl) ⟨(Nat.le_of_ble_eq_true rfl), (Nat.le_of_ble_eq_true rfl)⟩ (Nat.le_of_ble_eq_true rfl) dX9_from_51 (fun z_19 u_17 hp_18 => ?_)
      obtain ⟨hz_19, hp_18⟩ := hp_18
      have hj_20 := jv_trans hj_16 hp_18
      exact r_int E dX9_from_54 ⟨⟨by have hb_ := z32 z_19; omega, by have hb_ := z32 z_19; omega, by have hb_ := z32 z_19; have hc_ := z32 x1; omega, by have hb_ := z32 z_19; have hc_ := z32 x2; omega, by have hb_ := z32 z_19; have hc_ := z32 (w.2.2.1 5 3); omega⟩, hj_20⟩
    ·
      refine s_bipush (v := (-2)) E dX9_from_22 (by decide) ?_
      exact r_int E dX9_from_24 ⟨⟨by decide, by decide, by first | (left; decide) | (right; have hb_ := z32 x1; omega), by first | (left; decide) | (right; have hb_ := z32 x2; omega), by first | (left; decide) | (right; have hb_ := z32 (w.2.2.1 5 3); omega)⟩, hJ⟩
set_option maxRecDepth 20000 in
set_option maxHeartbeats 2000000 in
theorem Z_X9_all_0 (l : Launch) (D : va_G) (aC : Nat → ClassId) (b : Nat) (w : XW) (x1 : Int32) (hI : Iv w)  : CnI l D aC b M_X9_all 5 113 0 0 [AR 0, AI x1] w (fun r u => ((-2) ≤ r.toInt ∧ r.toInt ≤ 14 ∧ (¬ r.toInt = 0 ∨ (0 ≤ x1.toInt ∧ x1.toInt ≤ 5)) ∧ (¬ r.toInt = 0 ∨ (1 ≤ (w.2.2.1 5 3).toInt ∧ (w.2.2.1 5 3).toInt ≤ 6))) ∧ Jv w u) := by
  refine cn_I (own := RX9) (nm := "all") (L0 := [some (AR 0), some (AI x1), none, none]) (by decide +kernel) rfl rfl (Nat.le_of_ble_eq_true rfl) rfl ?_
  intro p e s m args below meth c E hin
  have hJ : Jv w w := jv_rfl hI
  refine s_aload_n E dX9_all_0 rfl rfl ?_
  refine s_gR (r := 2) E fg_X9_20 rfl rfl (jv_lt hJ (by decide)) (jv_r hJ (by decide +kernel)) dX9_all_1 ?_
  refine s_iload_n E dX9_all_4 rfl rfl ?_
  refine s_vI (As := [AI x1]) (S := []) E (Z_X0_hasLady_2 l D aC b w x1 hJ.1 ) cv_X9_139 rfl rfl rfl (jv_lt hJ (by decide)) (Nat.le_of_ble_eq_true rfl) (Nat.le_of_ble_eq_true rfl) ⟨(Nat.le_of_ble_eq_true rfl), (Nat.le_of_ble_eq_true rfl)⟩ (Nat.le_of_ble_eq_true rfl) dX9_all_5 (fun z_3 u_1 hp_2 => ?_)
  obtain ⟨hz_3, hp_2⟩ := hp_2
  subst hp_2
  refine z_if_ne (tgt := 14) (u := z_3.toInt) E dX9_all_8 (by decide) rfl (fun h_5 => ?_) (fun h_5 => ?_)
  ·
    refine s_aload_n E dX9_all_14 rfl rfl ?_
    refine s_vV (As := []) (S := []) E (Z_X9_passAsTold_0 l D aC b w  hJ.1 ) cv_X9_227 rfl rfl rfl (jv_lt hJ (by decide)) (Nat.le_of_ble_eq_true rfl) (Nat.le_of_ble_eq_true rfl) ⟨(Nat.le_of_ble_eq_true rfl), (Nat.le_of_ble_eq_true rfl)⟩ (Nat.le_of_ble_eq_true rfl) dX9_all_15 (fun u_6 hp_7 => ?_)
    have hj_8 := jv_trans hJ hp_7
    refine s_aload_n E dX9_all_18 rfl rfl ?_
    refine s_gR (r := 81) E fg_X9_64 rfl rfl (jv_lt hj_8 (by decide)) (jv_r hj_8 (by decide +kernel)) dX9_all_19 ?_
    refine s_aload_n E dX9_all_22 rfl rfl ?_
    refine s_gR (r := 69) E fg_X9_54 rfl rfl (jv_lt hj_8 (by decide)) (jv_r hj_8 (by decide +kernel)) dX9_all_23 ?_
    refine s_iload_n E dX9_all_26 rfl rfl ?_
    refine s_iconst (v := 0) E dX9_all_27 (by decide) ?_
    refine s_vV (As := [AR 69, AI x1, AI 0]) (S := []) E (Z_X5_follow_81_r69 l D aC b u_6 x1 0 hj_8.1 ) cv_X9_220 rfl rfl rfl (jv_lt hj_8 (by decide)) (Nat.le_of_ble_eq_true rfl) (Nat.le_of_ble_eq_true rfl) ⟨(Nat.le_of_ble_eq_true rfl), (Nat.le_of_ble_eq_true rfl)⟩ (Nat.le_of_ble_eq_true rfl) dX9_all_28 (fun u_9 hp_10 => ?_)
    have hj_11 := jv_trans hj_8 hp_10
    refine s_aload_n E dX9_all_31 rfl rfl ?_
    refine s_gR (r := 2) E fg_X9_20 rfl rfl (jv_lt hj_11 (by decide)) (jv_r hj_11 (by decide +kernel)) dX9_all_32 ?_
    refine s_vI (As := []) (S := []) E (Z_X0_everybody_2 l D aC b u_9  hj_11.1 ) cv_X9_240 rfl rfl rfl (jv_lt hj_11 (by decide)) (Nat.le_of_ble_eq_true rfl) (Nat.le_of_ble_eq_true rfl) ⟨(Nat.le_of_ble_eq_true rfl), (Nat.le_of_ble_eq_true rfl)⟩ (Nat.le_of_ble_eq_true rfl) dX9_all_35 (fun z_14 u_12 hp_13 => ?_)
    obtain ⟨hz_14, hp_13⟩ := hp_13
    subst hp_13
    refine s_istore_n (L2 := [some (AR 0), some (AI x1), some (AI z_14), none]) E dX9_all_38 rfl (by decide) rfl ?_
    refine s_iconst (v := 0) E dX9_all_39 (by decide) ?_
    refine s_istore_n (L2 := [some (AR 0), some (AI x1), some (AI z_14), some (AI 0)]) E dX9_all_40 rfl (by decide) rfl ?_
    refine z_loop (St := Int32) (Pi := fun q41_3_15 v41 => (0 ≤ q41_3_15.toInt ∧ q41_3_15.toInt ≤ 15) ∧ Jv w v41) (Lf := fun q41_3_15 => [some (AR 0), some (AI x1), some (AI z_14), some (AI q41_3_15)]) (fun q41_3_15 _ => (16 - q41_3_15.toInt).toNat) 0 ⟨⟨by decide, by decide⟩, hj_11⟩ ?_
    rintro q41_3_15 v41 ⟨hq41_3, hj_16⟩ ih41
    refine s_loc (L2 := [some (AR 0), some (AI x1), some (AI z_14), some (AI q41_3_15)]) rfl ?_
    refine s_iload_n E dX9_all_41 rfl rfl ?_
    refine s_aload_n E dX9_all_42 rfl rfl ?_
    refine s_gR (r := 2) E fg_X9_20 rfl rfl (jv_lt hj_16 (by decide)) (jv_r hj_16 (by decide +kernel)) dX9_all_43 ?_
    refine s_gI E fg_X9_169 rfl rfl (jv_lt hj_16 (by decide)) dX9_all_46 ?_
    refine z_nm (P := fun z => z.toInt = (v41.2.2.1 2 2).toInt ∧ 0 ≤ z.toInt ∧ z.toInt ≤ 14) ⟨rfl, (rg_2_2 hj_16)⟩ (fun z_17 hz_17 => ?_)
    refine z_icmp_gt (tgt := 72) (u := q41_3_15.toInt) (v := z_17.toInt) E dX9_all_49 (by decide) rfl rfl (fun h_18 => ?_) (fun h_18 => ?_)
    ·
      refine s_iconst (v := (-1)) E dX9_all_72 (by decide) ?_
      exact r_int E dX9_all_73 ⟨⟨by decide, by decide, by first | (left; decide) | (right; have hb_ := z32 x1; omega), by first | (left; decide) | (right; have hb_ := z32 (w.2.2.1 5 3); omega)⟩, hj_16⟩
    ·
      refine s_aload_n E dX9_all_52 rfl rfl ?_
      refine s_gR (r := 81) E fg_X9_64 rfl rfl (jv_lt hj_16 (by decide)) (jv_r hj_16 (by decide +kernel)) dX9_all_53 ?_
      refine s_iload_n E dX9_all_56 rfl rfl ?_
      refine s_vI (As := [AI q41_3_15]) (S := []) E (Z_X5_behind_81 l D aC b v41 q41_3_15 hj_16.1 ) cv_X9_224 rfl rfl rfl (jv_lt hj_16 (by decide)) (Nat.le_of_ble_eq_true rfl) (Nat.le_of_ble_eq_true rfl) ⟨(Nat.le_of_ble_eq_true rfl), (Nat.le_of_ble_eq_true rfl)⟩ (Nat.le_of_ble_eq_true rfl) dX9_all_57 (fun z_21 u_19 hp_20 => ?_)
      obtain ⟨hz_21, hp_20⟩ := hp_20
      subst hp_20
      refine s_iload_n E dX9_all_60 rfl rfl ?_
      refine z_icmp_ne (tgt := 66) (u := z_21.toInt) (v := z_14.toInt) E dX9_all_61 (by decide) rfl rfl (fun h_23 => ?_) (fun h_23 => ?_)
      ·
        refine z_iinc (u := q41_3_15.toInt) (L2 := fun z_24 => [some (AR 0), some (AI x1), some (AI z_14), some (AI z_24)]) E dX9_all_66 rfl rfl (by decide) (fun _ => rfl) (by decide) (by omega) (by omega) (fun z_24 hz_24 => ?_)
        refine s_goto (tgt := 41) E dX9_all_69 (by decide) ?_
        exact ih41 z_24 v41 ⟨⟨by have hb_ := z32 z_24; omega, by have hb_ := z32 z_24; omega⟩, hj_16⟩ (by first | omega | (dsimp only; omega))
      ·
        refine s_iload_n E dX9_all_64 rfl rfl ?_
        exact r_int E dX9_all_65 ⟨⟨by have hb_ := z32 q41_3_15; omega, by have hb_ := z32 q41_3_15; omega, by have hb_ := z32 q41_3_15; have hc_ := z32 x1; omega, by have hb_ := z32 q41_3_15; have hc_ := z32 (w.2.2.1 5 3); omega⟩, hj_16⟩
  ·
    refine s_bipush (v := (-2)) E dX9_all_11 (by decide) ?_
    exact r_int E dX9_all_13 ⟨⟨by decide, by decide, by first | (left; decide) | (right; have hb_ := z32 x1; omega), by first | (left; decide) | (right; have hb_ := z32 (w.2.2.1 5 3); omega)⟩, hJ⟩
