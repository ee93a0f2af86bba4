set_option maxRecDepth 20000 in
set_option maxHeartbeats 2000000 in
theorem Z_X9_agrees_0_r67 (l : Launch) (D : va_G) (aC : Nat → ClassId) (b : Nat) (w : XW)  (hI : Iv w)  : CnI l D aC b M_X9_agrees 1 21 0 0 [AR 0, AR 67] w (fun r u => (0 ≤ r.toInt ∧ r.toInt ≤ 1 ∧ (¬ r.toInt = 0 ∨ (3 ≤ (w.2.2.1 67 2).toInt ∧ (w.2.2.1 67 2).toInt ≤ 60))) ∧ w = u) := by
  refine cn_I (own := RX9) (nm := "agrees") (L0 := [some (AR 0), some (AR 67), none, none]) (by decide +kernel) rfl rfl (Nat.le_of_ble_eq_true rfl) rfl ?_
  intro p e s m args below meth c E hin
  have hJ : Jv w w := jv_rfl hI
  refine s_iconst (v := 0) E dX9_agrees_0 (by decide) ?_
  refine s_istore_n (L2 := [some (AR 0), some (AR 67), some (AI 0), none]) E dX9_agrees_1 rfl (by decide) rfl ?_
  refine z_loop (St := Int32) (Pi := fun q2_2_0 v2 => (0 ≤ q2_2_0.toInt ∧ q2_2_0.toInt ≤ 60) ∧ w = v2) (Lf := fun q2_2_0 => [some (AR 0), some (AR 67), some (AI q2_2_0), none]) (fun q2_2_0 _ => (61 - q2_2_0.toInt).toNat) 0 ⟨⟨by decide, by decide⟩, rfl⟩ ?_
  rintro q2_2_0 v2 ⟨hq2_2, hv_⟩ ih2
  subst hv_
  refine s_loc (L2 := [some (AR 0), some (AR 67), some (AI q2_2_0), none]) rfl ?_
  refine s_iload_n E dX9_agrees_2 rfl rfl ?_
  refine s_iconst (v := 2) E dX9_agrees_3 (by decide) ?_
  refine z_iadd (u := q2_2_0.toInt) (v := 2) E dX9_agrees_4 rfl (by decide) (by omega) (by omega) (fun z_2 hz_2 => ?_)
  refine s_aload_n E dX9_agrees_5 rfl rfl ?_
  refine s_gI E fg_X9_282 rfl rfl (jv_lt hJ (by decide)) dX9_agrees_6 ?_
  refine z_nm (P := fun z => z.toInt = (w.2.2.1 67 2).toInt ∧ (-1) ≤ z.toInt ∧ z.toInt ≤ 60) ⟨rfl, (rg_67_2 hJ)⟩ (fun z_3 hz_3 => ?_)
  refine z_icmp_ge (tgt := 66) (u := z_2.toInt) (v := z_3.toInt) E dX9_agrees_9 (by decide) rfl rfl (fun h_4 => ?_) (fun h_4 => ?_)
  ·
    refine s_iconst (v := 1) E dX9_agrees_66 (by decide) ?_
    exact r_bool E dX9_agrees_67 (Or.inr rfl) ⟨⟨by decide, by decide, by first | (left; decide) | (right; decide) | (right; have hb_ := z32 (w.2.2.1 67 2); omega)⟩, rfl⟩
  ·
    refine s_aload_n E dX9_agrees_12 rfl rfl ?_
    refine s_gR (r := 81) E fg_X9_64 rfl rfl (jv_lt hJ (by decide)) (jv_r hJ (by decide +kernel)) dX9_agrees_13 ?_
    refine s_aload_n E dX9_agrees_16 rfl rfl ?_
    refine s_iload_n E dX9_agrees_17 rfl rfl ?_
    refine s_iconst (v := 1) E dX9_agrees_18 (by decide) ?_
    refine z_iadd (u := q2_2_0.toInt) (v := 1) E dX9_agrees_19 rfl (by decide) (by omega) (by omega) (fun z_5 hz_5 => ?_)
    refine s_vL (As := [AI z_5]) (S := [AR 81]) E (Z_X7_cell_67 l D aC b w z_5 hJ.1 ) cv_X9_285 rfl rfl rfl (jv_lt hJ (by decide)) (Nat.le_of_ble_eq_true rfl) (Nat.le_of_ble_eq_true rfl) ⟨(Nat.le_of_ble_eq_true rfl), (Nat.le_of_ble_eq_true rfl)⟩ (Nat.le_of_ble_eq_true rfl) dX9_agrees_20 (fun z_8 u_6 hp_7 => ?_)
    obtain ⟨hz_8, hp_7⟩ := hp_7
    subst hp_7
    refine s_l2i E dX9_agrees_23 ?_
    refine z_nm (P := fun z => (-2147483648) ≤ z.toInt ∧ z.toInt ≤ 2147483647) (z32 _) (fun z_10 hz_10 => ?_)
    refine s_vI (As := [AI z_10]) (S := []) E (Z_X5_behind_81 l D aC b w z_10 hJ.1 ) cv_X9_224 rfl rfl rfl (jv_lt hJ (by decide)) (Nat.le_of_ble_eq_true rfl) (Nat.le_of_ble_eq_true rfl) ⟨(Nat.le_of_ble_eq_true rfl), (Nat.le_of_ble_eq_true rfl)⟩ (Nat.le_of_ble_eq_true rfl) dX9_agrees_24 (fun z_13 u_11 hp_12 => ?_)
    obtain ⟨hz_13, hp_12⟩ := hp_12
    subst hp_12
    refine s_istore_n (L2 := [some (AR 0), some (AR 67), some (AI q2_2_0), some (AI z_13)]) E dX9_agrees_27 rfl (by decide) rfl ?_
    refine s_iload_n E dX9_agrees_28 rfl rfl ?_
    refine s_aload_n E dX9_agrees_29 rfl rfl ?_
    refine s_iload_n E dX9_agrees_30 rfl rfl ?_
    refine s_vL (As := [AI q2_2_0]) (S := [AI z_13]) E (Z_X7_cell_67 l D aC b w q2_2_0 hJ.1 ) cv_X9_285 rfl rfl rfl (jv_lt hJ (by decide)) (Nat.le_of_ble_eq_true rfl) (Nat.le_of_ble_eq_true rfl) ⟨(Nat.le_of_ble_eq_true rfl), (Nat.le_of_ble_eq_true rfl)⟩ (Nat.le_of_ble_eq_true rfl) dX9_agrees_31 (fun z_17 u_15 hp_16 => ?_)
    obtain ⟨hz_17, hp_16⟩ := hp_16
    subst hp_16
    refine s_l2i E dX9_agrees_34 ?_
    refine z_nm (P := fun z => (-2147483648) ≤ z.toInt ∧ z.toInt ≤ 2147483647) (z32 _) (fun z_19 hz_19 => ?_)
    refine s_sI (As := [AI z_13, AI z_19]) (S := []) E (Z_X9_hasBit l D aC b w z_13 z_19 hJ.1 ) cs_X9_175 rfl rfl (Nat.le_of_ble_eq_true rfl) (Nat.le_of_ble_eq_true rfl) ⟨(Nat.le_of_ble_eq_true rfl), (Nat.le_of_ble_eq_true rfl)⟩ (Nat.le_of_ble_eq_true rfl) dX9_agrees_35 (fun z_22 u_20 hp_21 => ?_)
    obtain ⟨hz_22, hp_21⟩ := hp_21
    subst hp_21
    refine s_aload_n E dX9_agrees_38 rfl rfl ?_
    refine s_iload_n E dX9_agrees_39 rfl rfl ?_
    refine s_iconst (v := 2) E dX9_agrees_40 (by decide) ?_
    refine z_iadd (u := q2_2_0.toInt) (v := 2) E dX9_agrees_41 rfl (by decide) (by omega) (by omega) (fun z_24 hz_24 => ?_)
    refine s_vL (As := [AI z_24]) (S := [AI z_22]) E (Z_X7_cell_67 l D aC b w z_24 hJ.1 ) cv_X9_285 rfl rfl rfl (jv_lt hJ (by decide)) (Nat.le_of_ble_eq_true rfl) (Nat.le_of_ble_eq_true rfl) ⟨(Nat.le_of_ble_eq_true rfl), (Nat.le_of_ble_eq_true rfl)⟩ (Nat.le_of_ble_eq_true rfl) dX9_agrees_42 (fun z_27 u_25 hp_26 => ?_)
    obtain ⟨hz_27, hp_26⟩ := hp_26
    subst hp_26
    refine s_lconst (v := 1) E dX9_agrees_45 (by decide) ?_
    refine z_lcmp (u := z_27.toInt) (v := 1) E dX9_agrees_46 rfl (by decide) (fun z_29 hz_29 => ?_)
    refine z_if_ne (tgt := 54) (u := z_29.toInt) E dX9_agrees_47 (by decide) rfl (fun h_30 => ?_) (fun h_30 => ?_)
    ·
      refine s_iconst (v := 0) E dX9_agrees_54 (by decide) ?_
      refine z_icmp_eq (tgt := 60) (u := z_22.toInt) (v := 0) E dX9_agrees_55 (by decide) rfl (by decide) (fun h_31 => ?_) (fun h_31 => ?_)
      ·
        refine z_iinc (u := q2_2_0.toInt) (L2 := fun z_32 => [some (AR 0), some (AR 67), some (AI z_32), some (AI z_13)]) E dX9_agrees_60 rfl rfl (by decide) (fun _ => rfl) (by decide) (by omega) (by omega) (fun z_32 hz_32 => ?_)
        refine s_goto (tgt := 2) E dX9_agrees_63 (by decide) ?_
        refine s_drop (i := 3) (L2 := [some (AR 0), some (AR 67), some (AI z_32), none]) rfl ?_
        exact ih2 z_32 w ⟨⟨by have hb_ := z32 z_32; omega, by have hb_ := z32 z_32; omega⟩, rfl⟩ (by first | omega | decide | (dsimp only; omega) | (dsimp only; decide))
      ·
        refine s_iconst (v := 0) E dX9_agrees_58 (by decide) ?_
        exact r_bool E dX9_agrees_59 (Or.inl rfl) ⟨⟨by decide, by decide, by first | (left; decide) | (right; decide) | (right; have hb_ := z32 (w.2.2.1 67 2); omega)⟩, rfl⟩
    ·
      refine s_iconst (v := 1) E dX9_agrees_50 (by decide) ?_
      refine s_goto (tgt := 55) E dX9_agrees_51 (by decide) ?_
      refine z_icmp_eq (tgt := 60) (u := z_22.toInt) (v := 1) E dX9_agrees_55 (by decide) rfl (by decide) (fun h_33 => ?_) (fun h_33 => ?_)
      ·
        refine z_iinc (u := q2_2_0.toInt) (L2 := fun z_34 => [some (AR 0), some (AR 67), some (AI z_34), some (AI z_13)]) E dX9_agrees_60 rfl rfl (by decide) (fun _ => rfl) (by decide) (by omega) (by omega) (fun z_34 hz_34 => ?_)
        refine s_goto (tgt := 2) E dX9_agrees_63 (by decide) ?_
        refine s_drop (i := 3) (L2 := [some (AR 0), some (AR 67), some (AI z_34), none]) rfl ?_
        exact ih2 z_34 w ⟨⟨by have hb_ := z32 z_34; omega, by have hb_ := z32 z_34; omega⟩, rfl⟩ (by first | omega | decide | (dsimp only; omega) | (dsimp only; decide))
      ·
        refine s_iconst (v := 0) E dX9_agrees_58 (by decide) ?_
        exact r_bool E dX9_agrees_59 (Or.inl rfl) ⟨⟨by decide, by decide, by first | (left; decide) | (right; decide) | (right; have hb_ := z32 (w.2.2.1 67 2); omega)⟩, rfl⟩
set_option maxRecDepth 20000 in
set_option maxHeartbeats 2000000 in
theorem Z_X9_possibleFirsts_0_r67 (l : Launch) (D : va_G) (aC : Nat → ClassId) (b : Nat) (w : XW)  (hI : Iv w)  : CnI l D aC b M_X9_possibleFirsts 5 113 0 0 [AR 0, AR 67] w (fun r u => ((-2147483648) ≤ r.toInt ∧ r.toInt ≤ 2147483647) ∧ Jv w u) := by
  refine cn_I (own := RX9) (nm := "possibleFirsts") (L0 := [some (AR 0), some (AR 67), none, none]) (by decide +kernel) rfl rfl (Nat.le_of_ble_eq_true rfl) rfl ?_
  intro p e s m args below meth c E hin
  have hJ : Jv w w := jv_rfl hI
  refine s_aload_n E dX9_possibleFirsts_0 rfl rfl ?_
  refine s_vV (As := []) (S := []) E (Z_X9_passAsTold_0 l D aC b w  hJ.1 ) cv_X9_227 rfl rfl rfl (jv_lt hJ (by decide)) (Nat.le_of_ble_eq_true rfl) (Nat.le_of_ble_eq_true rfl) ⟨(Nat.le_of_ble_eq_true rfl), (Nat.le_of_ble_eq_true rfl)⟩ (Nat.le_of_ble_eq_true rfl) dX9_possibleFirsts_1 (fun u_1 hp_2 => ?_)
  have hj_3 := jv_trans hJ hp_2
  refine s_iconst (v := 0) E dX9_possibleFirsts_4 (by decide) ?_
  refine s_istore_n (L2 := [some (AR 0), some (AR 67), some (AI 0), none]) E dX9_possibleFirsts_5 rfl (by decide) rfl ?_
  refine s_iconst (v := 0) E dX9_possibleFirsts_6 (by decide) ?_
  refine s_istore_n (L2 := [some (AR 0), some (AR 67), some (AI 0), some (AI 0)]) E dX9_possibleFirsts_7 rfl (by decide) rfl ?_
  refine z_loop (St := Int32 × Int32) (Pi := fun ⟨q8_2_3, q8_3_3⟩ v8 => (0 ≤ q8_3_3.toInt ∧ q8_3_3.toInt ≤ 6) ∧ Jv w v8) (Lf := fun ⟨q8_2_3, q8_3_3⟩ => [some (AR 0), some (AR 67), some (AI q8_2_3), some (AI q8_3_3)]) (fun ⟨q8_2_3, q8_3_3⟩ _ => (7 - q8_3_3.toInt).toNat) ⟨0, 0⟩ ⟨⟨by decide, by decide⟩, hj_3⟩ ?_
  rintro ⟨q8_2_3, q8_3_3⟩ v8 ⟨hq8_3, hj_4⟩ ih8
  have hbq8_2 := z32 q8_2_3
  refine s_loc (L2 := [some (AR 0), some (AR 67), some (AI q8_2_3), some (AI q8_3_3)]) rfl ?_
  refine s_iload_n E dX9_possibleFirsts_8 rfl rfl ?_
  refine s_aload_n E dX9_possibleFirsts_9 rfl rfl ?_
  refine s_gR (r := 2) E fg_X9_20 rfl rfl (jv_lt hj_4 (by decide)) (jv_r hj_4 (by decide +kernel)) dX9_possibleFirsts_10 ?_
  refine s_gR (r := 5) E fg_X9_133 rfl rfl (jv_lt hj_4 (by decide)) (jv_r hj_4 (by decide +kernel)) dX9_possibleFirsts_13 ?_
  refine s_gI E fg_X9_200 rfl rfl (jv_lt hj_4 (by decide)) dX9_possibleFirsts_16 ?_
  refine z_nm (P := fun z => z.toInt = (v8.2.2.1 5 3).toInt ∧ 0 ≤ z.toInt ∧ z.toInt ≤ 6) ⟨rfl, (rg_5_3 hj_4)⟩ (fun z_5 hz_5 => ?_)
  refine z_icmp_ge (tgt := 55) (u := q8_3_3.toInt) (v := z_5.toInt) E dX9_possibleFirsts_19 (by decide) rfl rfl (fun h_6 => ?_) (fun h_6 => ?_)
  ·
    refine s_iload_n E dX9_possibleFirsts_55 rfl rfl ?_
    exact r_int E dX9_possibleFirsts_56 ⟨⟨by have hb_ := z32 q8_2_3; omega, by have hb_ := z32 q8_2_3; omega⟩, hj_4⟩
  ·
    refine s_aload_n E dX9_possibleFirsts_22 rfl rfl ?_
    refine s_gR (r := 81) E fg_X9_64 rfl rfl (jv_lt hj_4 (by decide)) (jv_r hj_4 (by decide +kernel)) dX9_possibleFirsts_23 ?_
    refine s_aload_n E dX9_possibleFirsts_26 rfl rfl ?_
    refine s_gR (r := 69) E fg_X9_54 rfl rfl (jv_lt hj_4 (by decide)) (jv_r hj_4 (by decide +kernel)) dX9_possibleFirsts_27 ?_
    refine s_iload_n E dX9_possibleFirsts_30 rfl rfl ?_
    refine s_iconst (v := 0) E dX9_possibleFirsts_31 (by decide) ?_
    refine s_vV (As := [AR 69, AI q8_3_3, AI 0]) (S := []) E (Z_X5_follow_81_r69 l D aC b v8 q8_3_3 0 hj_4.1 ) cv_X9_220 rfl rfl rfl (jv_lt hj_4 (by decide)) (Nat.le_of_ble_eq_true rfl) (Nat.le_of_ble_eq_true rfl) ⟨(Nat.le_of_ble_eq_true rfl), (Nat.le_of_ble_eq_true rfl)⟩ (Nat.le_of_ble_eq_true rfl) dX9_possibleFirsts_32 (fun u_7 hp_8 => ?_)
    have hj_9 := jv_trans hj_4 hp_8
    refine s_aload_n E dX9_possibleFirsts_35 rfl rfl ?_
    refine s_aload_n E dX9_possibleFirsts_36 rfl rfl ?_
    refine s_vI (As := [AR 67]) (S := []) E (Z_X9_agrees_0_r67 l D aC b u_7  hj_9.1 ) cv_X9_292 rfl rfl rfl (jv_lt hj_9 (by decide)) (Nat.le_of_ble_eq_true rfl) (Nat.le_of_ble_eq_true rfl) ⟨(Nat.le_of_ble_eq_true rfl), (Nat.le_of_ble_eq_true rfl)⟩ (Nat.le_of_ble_eq_true rfl) dX9_possibleFirsts_37 (fun z_12 u_10 hp_11 => ?_)
    obtain ⟨hz_12, hp_11⟩ := hp_11
    subst hp_11
    refine z_if_eq (tgt := 49) (u := z_12.toInt) E dX9_possibleFirsts_40 (by decide) rfl (fun h_14 => ?_) (fun h_14 => ?_)
    ·
      refine z_iinc (u := q8_3_3.toInt) (L2 := fun z_15 => [some (AR 0), some (AR 67), some (AI q8_2_3), some (AI z_15)]) E dX9_possibleFirsts_49 rfl rfl (by decide) (fun _ => rfl) (by decide) (by omega) (by omega) (fun z_15 hz_15 => ?_)
      refine s_goto (tgt := 8) E dX9_possibleFirsts_52 (by decide) ?_
      exact ih8 ⟨q8_2_3, z_15⟩ u_7 ⟨⟨by have hb_ := z32 z_15; omega, by have hb_ := z32 z_15; omega⟩, hj_9⟩ (by first | omega | decide | (dsimp only; omega) | (dsimp only; decide))
    ·
      refine s_iload_n E dX9_possibleFirsts_43 rfl rfl ?_
      refine s_iconst (v := 1) E dX9_possibleFirsts_44 (by decide) ?_
      refine s_iload_n E dX9_possibleFirsts_45 rfl rfl ?_
      refine z_shl1 5 (u := q8_3_3.toInt) (B := 32) E dX9_possibleFirsts_46 rfl (by omega) (by omega) (by decide) (by decide) (fun z_16 hz_16 => ?_)
      refine s_ior E dX9_possibleFirsts_47 ?_
      refine z_nm (P := fun z => (-2147483648) ≤ z.toInt ∧ z.toInt ≤ 2147483647) (z32 _) (fun z_17 hz_17 => ?_)
      refine s_istore_n (L2 := [some (AR 0), some (AR 67), some (AI z_17), some (AI q8_3_3)]) E dX9_possibleFirsts_48 rfl (by decide) rfl ?_
      refine z_iinc (u := q8_3_3.toInt) (L2 := fun z_18 => [some (AR 0), some (AR 67), some (AI z_17), some (AI z_18)]) E dX9_possibleFirsts_49 rfl rfl (by decide) (fun _ => rfl) (by decide) (by omega) (by omega) (fun z_18 hz_18 => ?_)
      refine s_goto (tgt := 8) E dX9_possibleFirsts_52 (by decide) ?_
      exact ih8 ⟨z_17, z_18⟩ u_7 ⟨⟨by have hb_ := z32 z_18; omega, by have hb_ := z32 z_18; omega⟩, hj_9⟩ (by first | omega | decide | (dsimp only; omega) | (dsimp only; decide))
set_option maxRecDepth 20000 in
set_option maxHeartbeats 2000000 in
theorem Z_X9_firsts_0 (l : Launch) (D : va_G) (aC : Nat → ClassId) (b : Nat) (w : XW) (x1 : Int32) (hI : Iv w)  : CnI l D aC b M_X9_firsts 6 136 0 0 [AR 0, AI x1] w (fun r u => ((-2147483648) ≤ r.toInt ∧ r.toInt ≤ 2147483647 ∧ (¬ r.toInt = 0 ∨ (0 ≤ x1.toInt ∧ x1.toInt ≤ 3)) ∧ (¬ r.toInt = 0 ∨ (1 ≤ (w.2.2.1 2 0).toInt ∧ (w.2.2.1 2 0).toInt ≤ 2147483647))) ∧ Jv w u) := by
  refine cn_I (own := RX9) (nm := "firsts") (L0 := [some (AR 0), some (AI x1), none]) (by decide +kernel) rfl rfl (Nat.le_of_ble_eq_true rfl) rfl ?_
  intro p e s m args below meth c E hin
  have hJ : Jv w w := jv_rfl hI
  have hb_x1 := z32 x1
  refine s_aload_n E dX9_firsts_0 rfl rfl ?_
  refine s_iload_n E dX9_firsts_1 rfl rfl ?_
  refine s_vI (As := [AI x1]) (S := []) E (Z_X9_seenFault_0 l D aC b w x1 hJ.1 ) cv_X9_263 rfl rfl rfl (jv_lt hJ (by decide)) (Nat.le_of_ble_eq_true rfl) (Nat.le_of_ble_eq_true rfl) ⟨(Nat.le_of_ble_eq_true rfl), (Nat.le_of_ble_eq_true rfl)⟩ (Nat.le_of_ble_eq_true rfl) dX9_firsts_2 (fun z_3 u_1 hp_2 => ?_)
  obtain ⟨hz_3, hp_2⟩ := hp_2
  subst hp_2
  refine s_istore_n (L2 := [some (AR 0), some (AI x1), some (AI z_3)]) E dX9_firsts_5 rfl (by decide) rfl ?_
  refine s_iload_n E dX9_firsts_6 rfl rfl ?_
  refine z_if_eq (tgt := 14) (u := z_3.toInt) E dX9_firsts_7 (by decide) rfl (fun h_5 => ?_) (fun h_5 => ?_)
  ·
    refine s_aload_n E dX9_firsts_14 rfl rfl ?_
    refine s_aload_n E dX9_firsts_15 rfl rfl ?_
    refine s_gR (r := 60) E fg_X9_46 rfl rfl (jv_lt hJ (by decide)) (jv_r hJ (by decide +kernel)) dX9_firsts_16 ?_
    refine s_iload_n E dX9_firsts_19 rfl rfl ?_
    rcases (show x1 = 0 ∨ x1 = 1 ∨ x1 = 2 ∨ x1 = 3 from (z_cases4 (u := x1.toInt) rfl (by omega) (by omega))) with rfl | rfl | rfl | rfl
    ·
      refine s_aald105 (r := 61) E rfl (jv_lt hJ (by decide)) (vp_c (by decide)) (jv_r hJ (by decide +kernel)) dX9_firsts_20 ?_
      refine s_vI (As := [AR 61]) (S := []) E (Z_X9_possibleFirsts_0_r61 l D aC b w  hJ.1 ) cv_X9_266 rfl rfl rfl (jv_lt hJ (by decide)) (Nat.le_of_ble_eq_true rfl) (Nat.le_of_ble_eq_true rfl) ⟨(Nat.le_of_ble_eq_true rfl), (Nat.le_of_ble_eq_true rfl)⟩ (Nat.le_of_ble_eq_true rfl) dX9_firsts_21 (fun z_8 u_6 hp_7 => ?_)
      obtain ⟨hz_8, hp_7⟩ := hp_7
      have hj_9 := jv_trans hJ hp_7
      exact r_int E dX9_firsts_24 ⟨⟨by have hb_ := z32 z_8; omega, by have hb_ := z32 z_8; omega, by first | (right; decide) | (have hb_ := z32 z_8; omega) | (have hb_ := z32 z_8; have hc_ := z32 x1; omega), by first | (right; decide) | (have hb_ := z32 z_8; omega) | (have hb_ := z32 z_8; have hc_ := z32 (w.2.2.1 2 0); omega)⟩, hj_9⟩
    ·
      refine s_aald105 (r := 63) E rfl (jv_lt hJ (by decide)) (vp_c (by decide)) (jv_r hJ (by decide +kernel)) dX9_firsts_20 ?_
      refine s_vI (As := [AR 63]) (S := []) E (Z_X9_possibleFirsts_0_r63 l D aC b w  hJ.1 ) cv_X9_266 rfl rfl rfl (jv_lt hJ (by decide)) (Nat.le_of_ble_eq_true rfl) (Nat.le_of_ble_eq_true rfl) ⟨(Nat.le_of_ble_eq_true rfl), (Nat.le_of_ble_eq_true rfl)⟩ (Nat.le_of_ble_eq_true rfl) dX9_firsts_21 (fun z_12 u_10 hp_11 => ?_)
      obtain ⟨hz_12, hp_11⟩ := hp_11
      have hj_13 := jv_trans hJ hp_11
      exact r_int E dX9_firsts_24 ⟨⟨by have hb_ := z32 z_12; omega, by have hb_ := z32 z_12; omega, by first | (right; decide) | (have hb_ := z32 z_12; omega) | (have hb_ := z32 z_12; have hc_ := z32 x1; omega), by first | (right; decide) | (have hb_ := z32 z_12; omega) | (have hb_ := z32 z_12; have hc_ := z32 (w.2.2.1 2 0); omega)⟩, hj_13⟩
    ·
      refine s_aald105 (r := 65) E rfl (jv_lt hJ (by decide)) (vp_c (by decide)) (jv_r hJ (by decide +kernel)) dX9_firsts_20 ?_
      refine s_vI (As := [AR 65]) (S := []) E (Z_X9_possibleFirsts_0_r65 l D aC b w  hJ.1 ) cv_X9_266 rfl rfl rfl (jv_lt hJ (by decide)) (Nat.le_of_ble_eq_true rfl) (Nat.le_of_ble_eq_true rfl) ⟨(Nat.le_of_ble_eq_true rfl), (Nat.le_of_ble_eq_true rfl)⟩ (Nat.le_of_ble_eq_true rfl) dX9_firsts_21 (fun z_16 u_14 hp_15 => ?_)
      obtain ⟨hz_16, hp_15⟩ := hp_15
      have hj_17 := jv_trans hJ hp_15
      exact r_int E dX9_firsts_24 ⟨⟨by have hb_ := z32 z_16; omega, by have hb_ := z32 z_16; omega, by first | (right; decide) | (have hb_ := z32 z_16; omega) | (have hb_ := z32 z_16; have hc_ := z32 x1; omega), by first | (right; decide) | (have hb_ := z32 z_16; omega) | (have hb_ := z32 z_16; have hc_ := z32 (w.2.2.1 2 0); omega)⟩, hj_17⟩
    ·
      refine s_aald105 (r := 67) E rfl (jv_lt hJ (by decide)) (vp_c (by decide)) (jv_r hJ (by decide +kernel)) dX9_firsts_20 ?_
      refine s_vI (As := [AR 67]) (S := []) E (Z_X9_possibleFirsts_0_r67 l D aC b w  hJ.1 ) cv_X9_266 rfl rfl rfl (jv_lt hJ (by decide)) (Nat.le_of_ble_eq_true rfl) (Nat.le_of_ble_eq_true rfl) ⟨(Nat.le_of_ble_eq_true rfl), (Nat.le_of_ble_eq_true rfl)⟩ (Nat.le_of_ble_eq_true rfl) dX9_firsts_21 (fun z_20 u_18 hp_19 => ?_)
      obtain ⟨hz_20, hp_19⟩ := hp_19
      have hj_21 := jv_trans hJ hp_19
      exact r_int E dX9_firsts_24 ⟨⟨by have hb_ := z32 z_20; omega, by have hb_ := z32 z_20; omega, by first | (right; decide) | (have hb_ := z32 z_20; omega) | (have hb_ := z32 z_20; have hc_ := z32 x1; omega), by first | (right; decide) | (have hb_ := z32 z_20; omega) | (have hb_ := z32 z_20; have hc_ := z32 (w.2.2.1 2 0); omega)⟩, hj_21⟩
  ·
    refine s_iload_n E dX9_firsts_10 rfl rfl ?_
    refine s_goto (tgt := 24) E dX9_firsts_11 (by decide) ?_
    exact r_int E dX9_firsts_24 ⟨⟨by have hb_ := z32 z_3; omega, by have hb_ := z32 z_3; omega, by first | (right; decide) | (have hb_ := z32 z_3; omega) | (have hb_ := z32 z_3; have hc_ := z32 x1; omega), by first | (right; decide) | (have hb_ := z32 z_3; omega) | (have hb_ := z32 z_3; have hc_ := z32 (w.2.2.1 2 0); omega)⟩, hJ⟩
set_option maxRecDepth 20000 in
set_option maxHeartbeats 2000000 in
theorem Z_J7_fill_53178_r94 (l : Launch) (D : va_G) (aC : Nat → ClassId) (b : Nat) (w : XW) (x1 : Int32) (hI : Iv w)  : CnV l D aC b M_J7_fill_53178 0 0 0 0 [AR 94, AI x1] w (fun u => Jv w u) := by
  refine cn_V (own := RJ7) (nm := "fill") (L0 := [some (AR 94), some (AI x1), none, none]) (by decide +kernel) rfl rfl (Nat.le_of_ble_eq_true rfl) rfl ?_
  intro p e s m args below meth c E hin
  have hJ : Jv w w := jv_rfl hI
  have hb_x1 := z32 x1
  refine s_iconst (v := 0) E dJ7_fill_53178_0 (by decide) ?_
  refine s_istore_n (L2 := [some (AR 94), some (AI x1), some (AI 0), none]) E dJ7_fill_53178_1 rfl (by decide) rfl ?_
  refine s_aload_n E dJ7_fill_53178_2 rfl rfl ?_
  refine s_alen (v := 16) E rfl (by decide) (jv_lt hJ (by decide)) (by decide) dJ7_fill_53178_3 ?_
  refine s_istore_n (L2 := [some (AR 94), some (AI x1), some (AI 0), some (AI 16)]) E dJ7_fill_53178_4 rfl (by decide) rfl ?_
  refine z_loop (St := Int32) (Pi := fun q5_2_0 v5 => (0 ≤ q5_2_0.toInt ∧ q5_2_0.toInt ≤ 16) ∧ Jv w v5) (Lf := fun q5_2_0 => [some (AR 94), some (AI x1), some (AI q5_2_0), some (AI 16)]) (fun q5_2_0 _ => (17 - q5_2_0.toInt).toNat) 0 ⟨⟨by decide, by decide⟩, hJ⟩ ?_
  rintro q5_2_0 v5 ⟨hq5_2, hj_1⟩ ih5
  refine s_loc (L2 := [some (AR 94), some (AI x1), some (AI q5_2_0), some (AI 16)]) rfl ?_
  refine s_iload_n E dJ7_fill_53178_5 rfl rfl ?_
  refine s_iload_n E dJ7_fill_53178_6 rfl rfl ?_
  refine z_icmp_ge (tgt := 20) (u := q5_2_0.toInt) (v := 16) E dJ7_fill_53178_7 (by decide) rfl (by decide) (fun h_2 => ?_) (fun h_2 => ?_)
  ·
    exact r_void E dJ7_fill_53178_20 hj_1
  ·
    refine s_aload_n E dJ7_fill_53178_10 rfl rfl ?_
    refine s_iload_n E dJ7_fill_53178_11 rfl rfl ?_
    refine s_iload_n E dJ7_fill_53178_12 rfl rfl ?_
    refine s_iast E rfl (jv_lt hj_1 (by decide)) (z_in (u := q5_2_0.toInt) rfl (by omega) (by omega)) dJ7_fill_53178_13 ?_
    refine s_gen (P := Jv w) (jv_a_94 hj_1 (by have hb_ := z32 x1; omega) (by have hb_ := z32 x1; omega)) (fun v_3 hj_4 => ?_)
    refine z_iinc (u := q5_2_0.toInt) (L2 := fun z_5 => [some (AR 94), some (AI x1), some (AI z_5), some (AI 16)]) E dJ7_fill_53178_14 rfl rfl (by decide) (fun _ => rfl) (by decide) (by omega) (by omega) (fun z_5 hz_5 => ?_)
    refine s_goto (tgt := 5) E dJ7_fill_53178_17 (by decide) ?_
    exact ih5 z_5 v_3 ⟨⟨by have hb_ := z32 z_5; omega, by have hb_ := z32 z_5; omega⟩, hj_4⟩ (by first | omega | decide | (dsimp only; omega) | (dsimp only; decide))
set_option maxRecDepth 20000 in
set_option maxHeartbeats 2000000 in
theorem Z_X9_leftAtWorst_0 (l : Launch) (D : va_G) (aC : Nat → ClassId) (b : Nat) (w : XW) (x1 : Int32) (x2 : Int32) (hI : Iv w)  : CnI l D aC b M_X9_leftAtWorst 4 94 0 0 [AR 0, AI x1, AI x2] w (fun r u => (0 ≤ r.toInt ∧ r.toInt ≤ 2147483647) ∧ Jv w u) := by
  refine cn_I (own := RX9) (nm := "leftAtWorst") (L0 := [some (AR 0), some (AI x1), some (AI x2), none, none, none]) (by decide +kernel) rfl rfl (Nat.le_of_ble_eq_true rfl) rfl ?_
  intro p e s m args below meth c E hin
  have hJ : Jv w w := jv_rfl hI
  have hb_x1 := z32 x1
  have hb_x2 := z32 x2
  refine s_aload_n E dX9_leftAtWorst_0 rfl rfl ?_
  refine s_gR (r := 94) E fg_X9_89 rfl rfl (jv_lt hJ (by decide)) (jv_r hJ (by decide +kernel)) dX9_leftAtWorst_1 ?_
  refine s_iconst (v := 0) E dX9_leftAtWorst_4 (by decide) ?_
  refine s_sV (As := [AR 94, AI 0]) (S := []) E (Z_J7_fill_53178_r94 l D aC b w 0 hJ.1 ) cs_X9_296 rfl rfl (Nat.le_of_ble_eq_true rfl) (Nat.le_of_ble_eq_true rfl) ⟨(Nat.le_of_ble_eq_true rfl), (Nat.le_of_ble_eq_true rfl)⟩ (Nat.le_of_ble_eq_true rfl) dX9_leftAtWorst_5 (fun u_1 hp_2 => ?_)
  have hj_3 := jv_trans hJ hp_2
  refine s_iconst (v := 0) E dX9_leftAtWorst_8 (by decide) ?_
  refine s_istore_n (L2 := [some (AR 0), some (AI x1), some (AI x2), some (AI 0), none, none]) E dX9_leftAtWorst_9 rfl (by decide) rfl ?_
  refine s_iconst (v := 0) E dX9_leftAtWorst_10 (by decide) ?_
  refine s_istore (L2 := [some (AR 0), some (AI x1), some (AI x2), some (AI 0), some (AI 0), none]) E dX9_leftAtWorst_11 (by decide) rfl ?_
  refine z_loop (St := Int32 × Int32) (Pi := fun ⟨q13_3_3, q13_4_3⟩ v13 => (0 ≤ q13_3_3.toInt ∧ q13_3_3.toInt ≤ 2147483647) ∧ (0 ≤ q13_4_3.toInt ∧ q13_4_3.toInt ≤ 6) ∧ Jv w v13) (Lf := fun ⟨q13_3_3, q13_4_3⟩ => [some (AR 0), some (AI x1), some (AI x2), some (AI q13_3_3), some (AI q13_4_3), none]) (fun ⟨q13_3_3, q13_4_3⟩ _ => (7 - q13_4_3.toInt).toNat) ⟨0, 0⟩ ⟨⟨by decide, by decide⟩, ⟨by decide, by decide⟩, hj_3⟩ ?_
  rintro ⟨q13_3_3, q13_4_3⟩ v13 ⟨hq13_3, hq13_4, hj_4⟩ ih13
  refine s_loc (L2 := [some (AR 0), some (AI x1), some (AI x2), some (AI q13_3_3), some (AI q13_4_3), none]) rfl ?_
  refine s_iload E dX9_leftAtWorst_13 rfl ?_
  refine s_aload_n E dX9_leftAtWorst_15 rfl rfl ?_
  refine s_gR (r := 2) E fg_X9_20 rfl rfl (jv_lt hj_4 (by decide)) (jv_r hj_4 (by decide +kernel)) dX9_leftAtWorst_16 ?_
  refine s_gR (r := 5) E fg_X9_133 rfl rfl (jv_lt hj_4 (by decide)) (jv_r hj_4 (by decide +kernel)) dX9_leftAtWorst_19 ?_
  refine s_gI E fg_X9_200 rfl rfl (jv_lt hj_4 (by decide)) dX9_leftAtWorst_22 ?_
  refine z_nm (P := fun z => z.toInt = (v13.2.2.1 5 3).toInt ∧ 0 ≤ z.toInt ∧ z.toInt ≤ 6) ⟨rfl, (rg_5_3 hj_4)⟩ (fun z_5 hz_5 => ?_)
  refine z_icmp_ge (tgt := 92) (u := q13_4_3.toInt) (v := z_5.toInt) E dX9_leftAtWorst_25 (by decide) rfl rfl (fun h_6 => ?_) (fun h_6 => ?_)
  ·
    refine s_iload_n E dX9_leftAtWorst_92 rfl rfl ?_
    exact r_int E dX9_leftAtWorst_93 ⟨⟨by have hb_ := z32 q13_3_3; omega, by have hb_ := z32 q13_3_3; omega⟩, hj_4⟩
  ·
    refine s_iload_n E dX9_leftAtWorst_28 rfl rfl ?_
    refine s_iload E dX9_leftAtWorst_29 rfl ?_
    refine s_sI (As := [AI x1, AI q13_4_3]) (S := []) E (Z_X9_hasBit l D aC b v13 x1 q13_4_3 hj_4.1 ) cs_X9_175 rfl rfl (Nat.le_of_ble_eq_true rfl) (Nat.le_of_ble_eq_true rfl) ⟨(Nat.le_of_ble_eq_true rfl), (Nat.le_of_ble_eq_true rfl)⟩ (Nat.le_of_ble_eq_true rfl) dX9_leftAtWorst_31 (fun z_9 u_7 hp_8 => ?_)
    obtain ⟨hz_9, hp_8⟩ := hp_8
    subst hp_8
    refine z_if_eq (tgt := 86) (u := z_9.toInt) E dX9_leftAtWorst_34 (by decide) rfl (fun h_11 => ?_) (fun h_11 => ?_)
    ·
      refine z_iinc (u := q13_4_3.toInt) (L2 := fun z_12 => [some (AR 0), some (AI x1), some (AI x2), some (AI q13_3_3), some (AI z_12), none]) E dX9_leftAtWorst_86 rfl rfl (by decide) (fun _ => rfl) (by decide) (by omega) (by omega) (fun z_12 hz_12 => ?_)
      refine s_goto (tgt := 13) E dX9_leftAtWorst_89 (by decide) ?_
      exact ih13 ⟨q13_3_3, z_12⟩ v13 ⟨⟨by have hb_ := z32 q13_3_3; omega, by have hb_ := z32 q13_3_3; omega⟩, ⟨by have hb_ := z32 z_12; omega, by have hb_ := z32 z_12; omega⟩, hj_4⟩ (by first | omega | decide | (dsimp only; omega) | (dsimp only; decide))
    ·
      refine s_aload_n E dX9_leftAtWorst_37 rfl rfl ?_
      refine s_gR (r := 81) E fg_X9_64 rfl rfl (jv_lt hj_4 (by decide)) (jv_r hj_4 (by decide +kernel)) dX9_leftAtWorst_38 ?_
      refine s_aload_n E dX9_leftAtWorst_41 rfl rfl ?_
      refine s_gR (r := 69) E fg_X9_54 rfl rfl (jv_lt hj_4 (by decide)) (jv_r hj_4 (by decide +kernel)) dX9_leftAtWorst_42 ?_
      refine s_iload E dX9_leftAtWorst_45 rfl ?_
      refine s_iconst (v := 0) E dX9_leftAtWorst_47 (by decide) ?_
      refine s_vV (As := [AR 69, AI q13_4_3, AI 0]) (S := []) E (Z_X5_follow_81_r69 l D aC b v13 q13_4_3 0 hj_4.1 ) cv_X9_220 rfl rfl rfl (jv_lt hj_4 (by decide)) (Nat.le_of_ble_eq_true rfl) (Nat.le_of_ble_eq_true rfl) ⟨(Nat.le_of_ble_eq_true rfl), (Nat.le_of_ble_eq_true rfl)⟩ (Nat.le_of_ble_eq_true rfl) dX9_leftAtWorst_48 (fun u_13 hp_14 => ?_)
      have hj_15 := jv_trans hj_4 hp_14
      refine s_aload_n E dX9_leftAtWorst_51 rfl rfl ?_
      refine s_gR (r := 81) E fg_X9_64 rfl rfl (jv_lt hj_15 (by decide)) (jv_r hj_15 (by decide +kernel)) dX9_leftAtWorst_52 ?_
      refine s_iload_n E dX9_leftAtWorst_55 rfl rfl ?_
      refine s_vI (As := [AI x2]) (S := []) E (Z_X5_gotAt_81 l D aC b u_13 x2 hj_15.1 ) cv_X9_237 rfl rfl rfl (jv_lt hj_15 (by decide)) (Nat.le_of_ble_eq_true rfl) (Nat.le_of_ble_eq_true rfl) ⟨(Nat.le_of_ble_eq_true rfl), (Nat.le_of_ble_eq_true rfl)⟩ (Nat.le_of_ble_eq_true rfl) dX9_leftAtWorst_56 (fun z_18 u_16 hp_17 => ?_)
      obtain ⟨hz_18, hp_17⟩ := hp_17
      subst hp_17
      refine s_iconst (v := 1) E dX9_leftAtWorst_59 (by decide) ?_
      refine z_iadd (u := z_18.toInt) (v := 1) E dX9_leftAtWorst_60 rfl (by decide) (by omega) (by omega) (fun z_20 hz_20 => ?_)
      refine s_istore (L2 := [some (AR 0), some (AI x1), some (AI x2), some (AI q13_3_3), some (AI q13_4_3), some (AI z_20)]) E dX9_leftAtWorst_61 (by decide) rfl ?_
      refine s_aload_n E dX9_leftAtWorst_63 rfl rfl ?_
      refine s_gR (r := 94) E fg_X9_89 rfl rfl (jv_lt hj_15 (by decide)) (jv_r hj_15 (by decide +kernel)) dX9_leftAtWorst_64 ?_
      refine s_iload E dX9_leftAtWorst_67 rfl ?_
      refine s_dup2 E dX9_leftAtWorst_69 ?_
      refine s_iald E rfl (jv_lt hj_15 (by decide)) (z_in (u := z_20.toInt) rfl (by omega) (by omega)) dX9_leftAtWorst_70 ?_
      refine z_nm (P := fun z => (-2147483648) ≤ z.toInt ∧ z.toInt ≤ 2147483647) (z32 _) (fun z_21 hz_21 => ?_)
      refine s_iconst (v := 1) E dX9_leftAtWorst_71 (by decide) ?_
      refine s_iadd E dX9_leftAtWorst_72 ?_
      refine z_nm (P := fun z => (-2147483648) ≤ z.toInt ∧ z.toInt ≤ 2147483647) (z32 _) (fun z_22 hz_22 => ?_)
      refine s_iast E rfl (jv_lt hj_15 (by decide)) (z_in (u := z_20.toInt) rfl (by omega) (by omega)) dX9_leftAtWorst_73 ?_
      refine s_gen (P := Jv w) (jv_a_94 hj_15 (by have hb_ := z32 z_22; omega) (by have hb_ := z32 z_22; omega)) (fun v_23 hj_24 => ?_)
      refine s_iload_n E dX9_leftAtWorst_74 rfl rfl ?_
      refine s_aload_n E dX9_leftAtWorst_75 rfl rfl ?_
      refine s_gR (r := 94) E fg_X9_89 rfl rfl (jv_lt hj_24 (by decide)) (jv_r hj_24 (by decide +kernel)) dX9_leftAtWorst_76 ?_
      refine s_iload E dX9_leftAtWorst_79 rfl ?_
      refine s_iald E rfl (jv_lt hj_24 (by decide)) (z_in (u := z_20.toInt) rfl (by omega) (by omega)) dX9_leftAtWorst_81 ?_
      refine z_nm (P := fun z => (-2147483648) ≤ z.toInt ∧ z.toInt ≤ 2147483647) (z32 _) (fun z_25 hz_25 => ?_)
      refine z_max (u := q13_3_3.toInt) (v := z_25.toInt) E ⟨k_735, k_41, k_4, k_42⟩ (Nat.le_of_ble_eq_true rfl) (Nat.le_of_ble_eq_true rfl) (Nat.le_of_ble_eq_true rfl) (Nat.le_of_ble_eq_true rfl) dX9_leftAtWorst_82 rfl rfl (fun z_26 hz_26 => ?_)
      refine s_istore_n (L2 := [some (AR 0), some (AI x1), some (AI x2), some (AI z_26), some (AI q13_4_3), some (AI z_20)]) E dX9_leftAtWorst_85 rfl (by decide) rfl ?_
      refine z_iinc (u := q13_4_3.toInt) (L2 := fun z_27 => [some (AR 0), some (AI x1), some (AI x2), some (AI z_26), some (AI z_27), some (AI z_20)]) E dX9_leftAtWorst_86 rfl rfl (by decide) (fun _ => rfl) (by decide) (by omega) (by omega) (fun z_27 hz_27 => ?_)
      refine s_goto (tgt := 13) E dX9_leftAtWorst_89 (by decide) ?_
      refine s_drop (i := 5) (L2 := [some (AR 0), some (AI x1), some (AI x2), some (AI z_26), some (AI z_27), none]) rfl ?_
      exact ih13 ⟨z_26, z_27⟩ v_23 ⟨⟨by have hb_ := z32 z_26; omega, by have hb_ := z32 z_26; omega⟩, ⟨by have hb_ := z32 z_27; omega, by have hb_ := z32 z_27; omega⟩, hj_24⟩ (by first | omega | decide | (dsimp only; omega) | (dsimp only; decide))
set_option maxRecDepth 20000 in
set_option maxHeartbeats 2000000 in
theorem Z_X9_bestAsked_0 (l : Launch) (D : va_G) (aC : Nat → ClassId) (b : Nat) (w : XW) (x1 : Int32) (hI : Iv w)  : CnI l D aC b M_X9_bestAsked 5 119 0 0 [AR 0, AI x1] w (fun r u => ((-1) ≤ r.toInt ∧ r.toInt ≤ 64) ∧ Jv w u) := by
  refine cn_I (own := RX9) (nm := "bestAsked") (L0 := [some (AR 0), some (AI x1), none, none, none, none]) (by decide +kernel) rfl rfl (Nat.le_of_ble_eq_true rfl) rfl ?_
  intro p e s m args below meth c E hin
  have hJ : Jv w w := jv_rfl hI
  have hb_x1 := z32 x1
  refine s_iconst (v := (-1)) E dX9_bestAsked_0 (by decide) ?_
  refine s_istore_n (L2 := [some (AR 0), some (AI x1), some (AI (-1)), none, none, none]) E dX9_bestAsked_1 rfl (by decide) rfl ?_
  refine s_iload_n E dX9_bestAsked_2 rfl rfl ?_
  refine s_sI (As := [AI x1]) (S := []) E (Z_J6_bitCount_0f7a4 l D aC b w x1 hJ.1 ) cs_X9_203 rfl rfl (Nat.le_of_ble_eq_true rfl) (Nat.le_of_ble_eq_true rfl) ⟨(Nat.le_of_ble_eq_true rfl), (Nat.le_of_ble_eq_true rfl)⟩ (Nat.le_of_ble_eq_true rfl) dX9_bestAsked_3 (fun z_3 u_1 hp_2 => ?_)
  obtain ⟨hz_3, hp_2⟩ := hp_2
  subst hp_2
  refine s_istore_n (L2 := [some (AR 0), some (AI x1), some (AI (-1)), some (AI z_3), none, none]) E dX9_bestAsked_6 rfl (by decide) rfl ?_
  refine s_iconst (v := 0) E dX9_bestAsked_7 (by decide) ?_
  refine s_istore (L2 := [some (AR 0), some (AI x1), some (AI (-1)), some (AI z_3), some (AI 0), none]) E dX9_bestAsked_8 (by decide) rfl ?_
  refine z_loop (St := Int32 × Int32 × Int32) (Pi := fun ⟨q10_2_4, q10_3_4, q10_4_4⟩ v10 => ((-1) ≤ q10_2_4.toInt ∧ q10_2_4.toInt ≤ 64) ∧ (0 ≤ q10_3_4.toInt ∧ q10_3_4.toInt ≤ 63) ∧ (0 ≤ q10_4_4.toInt ∧ q10_4_4.toInt ≤ 6) ∧ Jv w v10) (Lf := fun ⟨q10_2_4, q10_3_4, q10_4_4⟩ => [some (AR 0), some (AI x1), some (AI q10_2_4), some (AI q10_3_4), some (AI q10_4_4), none]) (fun ⟨q10_2_4, q10_3_4, q10_4_4⟩ _ => (7 - q10_4_4.toInt).toNat) ⟨(-1), z_3, 0⟩ ⟨⟨by decide, by decide⟩, ⟨by have hb_ := z32 z_3; omega, by have hb_ := z32 z_3; omega⟩, ⟨by decide, by decide⟩, hJ⟩ ?_
  rintro ⟨q10_2_4, q10_3_4, q10_4_4⟩ v10 ⟨hq10_2, hq10_3, hq10_4, hj_5⟩ ih10
  refine s_loc (L2 := [some (AR 0), some (AI x1), some (AI q10_2_4), some (AI q10_3_4), some (AI q10_4_4), none]) rfl ?_
  refine s_iload E dX9_bestAsked_10 rfl ?_
  refine s_aload_n E dX9_bestAsked_12 rfl rfl ?_
  refine s_gR (r := 2) E fg_X9_20 rfl rfl (jv_lt hj_5 (by decide)) (jv_r hj_5 (by decide +kernel)) dX9_bestAsked_13 ?_
  refine s_gR (r := 5) E fg_X9_133 rfl rfl (jv_lt hj_5 (by decide)) (jv_r hj_5 (by decide +kernel)) dX9_bestAsked_16 ?_
  refine s_gI E fg_X9_200 rfl rfl (jv_lt hj_5 (by decide)) dX9_bestAsked_19 ?_
  refine z_nm (P := fun z => z.toInt = (v10.2.2.1 5 3).toInt ∧ 0 ≤ z.toInt ∧ z.toInt ≤ 6) ⟨rfl, (rg_5_3 hj_5)⟩ (fun z_6 hz_6 => ?_)
  refine z_icmp_ge (tgt := 52) (u := q10_4_4.toInt) (v := z_6.toInt) E dX9_bestAsked_22 (by decide) rfl rfl (fun h_7 => ?_) (fun h_7 => ?_)
  ·
    refine s_iload_n E dX9_bestAsked_52 rfl rfl ?_
    exact r_int E dX9_bestAsked_53 ⟨⟨by have hb_ := z32 q10_2_4; omega, by have hb_ := z32 q10_2_4; omega⟩, hj_5⟩
  ·
    refine s_aload_n E dX9_bestAsked_25 rfl rfl ?_
    refine s_iload_n E dX9_bestAsked_26 rfl rfl ?_
    refine s_iload E dX9_bestAsked_27 rfl ?_
    refine s_vI (As := [AI x1, AI q10_4_4]) (S := []) E (Z_X9_leftAtWorst_0 l D aC b v10 x1 q10_4_4 hj_5.1 ) cv_X9_273 rfl rfl rfl (jv_lt hj_5 (by decide)) (Nat.le_of_ble_eq_true rfl) (Nat.le_of_ble_eq_true rfl) ⟨(Nat.le_of_ble_eq_true rfl), (Nat.le_of_ble_eq_true rfl)⟩ (Nat.le_of_ble_eq_true rfl) dX9_bestAsked_29 (fun z_10 u_8 hp_9 => ?_)
    obtain ⟨hz_10, hp_9⟩ := hp_9
    have hj_11 := jv_trans hj_5 hp_9
    refine s_istore (L2 := [some (AR 0), some (AI x1), some (AI q10_2_4), some (AI q10_3_4), some (AI q10_4_4), some (AI z_10)]) E dX9_bestAsked_32 (by decide) rfl ?_
    refine s_iload E dX9_bestAsked_34 rfl ?_
    refine s_iload_n E dX9_bestAsked_36 rfl rfl ?_
    refine z_icmp_ge (tgt := 46) (u := z_10.toInt) (v := q10_3_4.toInt) E dX9_bestAsked_37 (by decide) rfl rfl (fun h_12 => ?_) (fun h_12 => ?_)
    ·
      refine z_iinc (u := q10_4_4.toInt) (L2 := fun z_13 => [some (AR 0), some (AI x1), some (AI q10_2_4), some (AI q10_3_4), some (AI z_13), some (AI z_10)]) E dX9_bestAsked_46 rfl rfl (by decide) (fun _ => rfl) (by decide) (by omega) (by omega) (fun z_13 hz_13 => ?_)
      refine s_goto (tgt := 10) E dX9_bestAsked_49 (by decide) ?_
      refine s_drop (i := 5) (L2 := [some (AR 0), some (AI x1), some (AI q10_2_4), some (AI q10_3_4), some (AI z_13), none]) rfl ?_
      exact ih10 ⟨q10_2_4, q10_3_4, z_13⟩ u_8 ⟨⟨by have hb_ := z32 q10_2_4; omega, by have hb_ := z32 q10_2_4; omega⟩, ⟨by have hb_ := z32 q10_3_4; omega, by have hb_ := z32 q10_3_4; omega⟩, ⟨by have hb_ := z32 z_13; omega, by have hb_ := z32 z_13; omega⟩, hj_11⟩ (by first | omega | decide | (dsimp only; omega) | (dsimp only; decide))
    ·
      refine s_iload E dX9_bestAsked_40 rfl ?_
      refine s_istore_n (L2 := [some (AR 0), some (AI x1), some (AI q10_2_4), some (AI z_10), some (AI q10_4_4), some (AI z_10)]) E dX9_bestAsked_42 rfl (by decide) rfl ?_
      refine s_iload E dX9_bestAsked_43 rfl ?_
      refine s_istore_n (L2 := [some (AR 0), some (AI x1), some (AI q10_4_4), some (AI z_10), some (AI q10_4_4), some (AI z_10)]) E dX9_bestAsked_45 rfl (by decide) rfl ?_
      refine z_iinc (u := q10_4_4.toInt) (L2 := fun z_14 => [some (AR 0), some (AI x1), some (AI q10_4_4), some (AI z_10), some (AI z_14), some (AI z_10)]) E dX9_bestAsked_46 rfl rfl (by decide) (fun _ => rfl) (by decide) (by omega) (by omega) (fun z_14 hz_14 => ?_)
      refine s_goto (tgt := 10) E dX9_bestAsked_49 (by decide) ?_
      refine s_drop (i := 5) (L2 := [some (AR 0), some (AI x1), some (AI q10_4_4), some (AI z_10), some (AI z_14), none]) rfl ?_
      exact ih10 ⟨q10_4_4, z_10, z_14⟩ u_8 ⟨⟨by have hb_ := z32 q10_4_4; omega, by have hb_ := z32 q10_4_4; omega⟩, ⟨by have hb_ := z32 z_10; omega, by have hb_ := z32 z_10; omega⟩, ⟨by have hb_ := z32 z_14; omega, by have hb_ := z32 z_14; omega⟩, hj_11⟩ (by first | omega | decide | (dsimp only; omega) | (dsimp only; decide))
set_option maxRecDepth 20000 in
set_option maxHeartbeats 2000000 in
theorem Z_X9_ask_0 (l : Launch) (D : va_G) (aC : Nat → ClassId) (b : Nat) (w : XW) (x1 : Int32) (hI : Iv w)  : CnI l D aC b M_X9_ask 6 144 0 0 [AR 0, AI x1] w (fun r u => ((-6) ≤ r.toInt ∧ r.toInt ≤ 64 ∧ (¬ r.toInt = 0 ∨ (0 ≤ x1.toInt ∧ x1.toInt ≤ 3)) ∧ (¬ r.toInt = 0 ∨ (1 ≤ (w.2.2.1 2 0).toInt ∧ (w.2.2.1 2 0).toInt ≤ 2147483647))) ∧ Jv w u) := by
  refine cn_I (own := RX9) (nm := "ask") (L0 := [some (AR 0), some (AI x1), none]) (by decide +kernel) rfl rfl (Nat.le_of_ble_eq_true rfl) rfl ?_
  intro p e s m args below meth c E hin
  have hJ : Jv w w := jv_rfl hI
  have hb_x1 := z32 x1
  refine s_aload_n E dX9_ask_0 rfl rfl ?_
  refine s_iload_n E dX9_ask_1 rfl rfl ?_
  refine s_vI (As := [AI x1]) (S := []) E (Z_X9_seenFault_0 l D aC b w x1 hJ.1 ) cv_X9_263 rfl rfl rfl (jv_lt hJ (by decide)) (Nat.le_of_ble_eq_true rfl) (Nat.le_of_ble_eq_true rfl) ⟨(Nat.le_of_ble_eq_true rfl), (Nat.le_of_ble_eq_true rfl)⟩ (Nat.le_of_ble_eq_true rfl) dX9_ask_2 (fun z_3 u_1 hp_2 => ?_)
  obtain ⟨hz_3, hp_2⟩ := hp_2
  subst hp_2
  refine s_istore_n (L2 := [some (AR 0), some (AI x1), some (AI z_3)]) E dX9_ask_5 rfl (by decide) rfl ?_
  refine s_iload_n E dX9_ask_6 rfl rfl ?_
  refine z_if_eq (tgt := 14) (u := z_3.toInt) E dX9_ask_7 (by decide) rfl (fun h_5 => ?_) (fun h_5 => ?_)
  ·
    refine s_aload_n E dX9_ask_14 rfl rfl ?_
    refine s_aload_n E dX9_ask_15 rfl rfl ?_
    refine s_aload_n E dX9_ask_16 rfl rfl ?_
    refine s_gR (r := 60) E fg_X9_46 rfl rfl (jv_lt hJ (by decide)) (jv_r hJ (by decide +kernel)) dX9_ask_17 ?_
    refine s_iload_n E dX9_ask_20 rfl rfl ?_
    rcases (show x1 = 0 ∨ x1 = 1 ∨ x1 = 2 ∨ x1 = 3 from (z_cases4 (u := x1.toInt) rfl (by omega) (by omega))) with rfl | rfl | rfl | rfl
    ·
      refine s_aald105 (r := 61) E rfl (jv_lt hJ (by decide)) (vp_c (by decide)) (jv_r hJ (by decide +kernel)) dX9_ask_21 ?_
      refine s_vI (As := [AR 61]) (S := [AR 0]) E (Z_X9_possibleFirsts_0_r61 l D aC b w  hJ.1 ) cv_X9_266 rfl rfl rfl (jv_lt hJ (by decide)) (Nat.le_of_ble_eq_true rfl) (Nat.le_of_ble_eq_true rfl) ⟨(Nat.le_of_ble_eq_true rfl), (Nat.le_of_ble_eq_true rfl)⟩ (Nat.le_of_ble_eq_true rfl) dX9_ask_22 (fun z_8 u_6 hp_7 => ?_)
      obtain ⟨hz_8, hp_7⟩ := hp_7
      have hj_9 := jv_trans hJ hp_7
      refine s_vI (As := [AI z_8]) (S := []) E (Z_X9_bestAsked_0 l D aC b u_6 z_8 hj_9.1 ) cv_X9_270 rfl rfl rfl (jv_lt hj_9 (by decide)) (Nat.le_of_ble_eq_true rfl) (Nat.le_of_ble_eq_true rfl) ⟨(Nat.le_of_ble_eq_true rfl), (Nat.le_of_ble_eq_true rfl)⟩ (Nat.le_of_ble_eq_true rfl) dX9_ask_25 (fun z_12 u_10 hp_11 => ?_)
      obtain ⟨hz_12, hp_11⟩ := hp_11
      have hj_13 := jv_trans hj_9 hp_11
      exact r_int E dX9_ask_28 ⟨⟨by have hb_ := z32 z_12; omega, by have hb_ := z32 z_12; omega, by first | (right; decide) | (have hb_ := z32 z_12; omega) | (have hb_ := z32 z_12; have hc_ := z32 x1; omega), by first | (right; decide) | (have hb_ := z32 z_12; omega) | (have hb_ := z32 z_12; have hc_ := z32 (w.2.2.1 2 0); omega)⟩, hj_13⟩
    ·
      refine s_aald105 (r := 63) E rfl (jv_lt hJ (by decide)) (vp_c (by decide)) (jv_r hJ (by decide +kernel)) dX9_ask_21 ?_
      refine s_vI (As := [AR 63]) (S := [AR 0]) E (Z_X9_possibleFirsts_0_r63 l D aC b w  hJ.1 ) cv_X9_266 rfl rfl rfl (jv_lt hJ (by decide)) (Nat.le_of_ble_eq_true rfl) (Nat.le_of_ble_eq_true rfl) ⟨(Nat.le_of_ble_eq_true rfl), (Nat.le_of_ble_eq_true rfl)⟩ (Nat.le_of_ble_eq_true rfl) dX9_ask_22 (fun z_16 u_14 hp_15 => ?_)
      obtain ⟨hz_16, hp_15⟩ := hp_15
      have hj_17 := jv_trans hJ hp_15
      refine s_vI (As := [AI z_16]) (S := []) E (Z_X9_bestAsked_0 l D aC b u_14 z_16 hj_17.1 ) cv_X9_270 rfl rfl rfl (jv_lt hj_17 (by decide)) (Nat.le_of_ble_eq_true rfl) (Nat.le_of_ble_eq_true rfl) ⟨(Nat.le_of_ble_eq_true rfl), (Nat.le_of_ble_eq_true rfl)⟩ (Nat.le_of_ble_eq_true rfl) dX9_ask_25 (fun z_20 u_18 hp_19 => ?_)
      obtain ⟨hz_20, hp_19⟩ := hp_19
      have hj_21 := jv_trans hj_17 hp_19
      exact r_int E dX9_ask_28 ⟨⟨by have hb_ := z32 z_20; omega, by have hb_ := z32 z_20; omega, by first | (right; decide) | (have hb_ := z32 z_20; omega) | (have hb_ := z32 z_20; have hc_ := z32 x1; omega), by first | (right; decide) | (have hb_ := z32 z_20; omega) | (have hb_ := z32 z_20; have hc_ := z32 (w.2.2.1 2 0); omega)⟩, hj_21⟩
    ·
      refine s_aald105 (r := 65) E rfl (jv_lt hJ (by decide)) (vp_c (by decide)) (jv_r hJ (by decide +kernel)) dX9_ask_21 ?_
      refine s_vI (As := [AR 65]) (S := [AR 0]) E (Z_X9_possibleFirsts_0_r65 l D aC b w  hJ.1 ) cv_X9_266 rfl rfl rfl (jv_lt hJ (by decide)) (Nat.le_of_ble_eq_true rfl) (Nat.le_of_ble_eq_true rfl) ⟨(Nat.le_of_ble_eq_true rfl), (Nat.le_of_ble_eq_true rfl)⟩ (Nat.le_of_ble_eq_true rfl) dX9_ask_22 (fun z_24 u_22 hp_23 => ?_)
      obtain ⟨hz_24, hp_23⟩ := hp_23
      have hj_25 := jv_trans hJ hp_23
      refine s_vI (As := [AI z_24]) (S := []) E (Z_X9_bestAsked_0 l D aC b u_22 z_24 hj_25.1 ) cv_X9_270 rfl rfl rfl (jv_lt hj_25 (by decide)) (Nat.le_of_ble_eq_true rfl) (Nat.le_of_ble_eq_true rfl) ⟨(Nat.le_of_ble_eq_true rfl), (Nat.le_of_ble_eq_true rfl)⟩ (Nat.le_of_ble_eq_true rfl) dX9_ask_25 (fun z_28 u_26 hp_27 => ?_)
      obtain ⟨hz_28, hp_27⟩ := hp_27
      have hj_29 := jv_trans hj_25 hp_27
      exact r_int E dX9_ask_28 ⟨⟨by have hb_ := z32 z_28; omega, by have hb_ := z32 z_28; omega, by first | (right; decide) | (have hb_ := z32 z_28; omega) | (have hb_ := z32 z_28; have hc_ := z32 x1; omega), by first | (right; decide) | (have hb_ := z32 z_28; omega) | (have hb_ := z32 z_28; have hc_ := z32 (w.2.2.1 2 0); omega)⟩, hj_29⟩
    ·
      refine s_aald105 (r := 67) E rfl (jv_lt hJ (by decide)) (vp_c (by decide)) (jv_r hJ (by decide +kernel)) dX9_ask_21 ?_
      refine s_vI (As := [AR 67]) (S := [AR 0]) E (Z_X9_possibleFirsts_0_r67 l D aC b w  hJ.1 ) cv_X9_266 rfl rfl rfl (jv_lt hJ (by decide)) (Nat.le_of_ble_eq_true rfl) (Nat.le_of_ble_eq_true rfl) ⟨(Nat.le_of_ble_eq_true rfl), (Nat.le_of_ble_eq_true rfl)⟩ (Nat.le_of_ble_eq_true rfl) dX9_ask_22 (fun z_32 u_30 hp_31 => ?_)
      obtain ⟨hz_32, hp_31⟩ := hp_31
      have hj_33 := jv_trans hJ hp_31
      refine s_vI (As := [AI z_32]) (S := []) E (Z_X9_bestAsked_0 l D aC b u_30 z_32 hj_33.1 ) cv_X9_270 rfl rfl rfl (jv_lt hj_33 (by decide)) (Nat.le_of_ble_eq_true rfl) (Nat.le_of_ble_eq_true rfl) ⟨(Nat.le_of_ble_eq_true rfl), (Nat.le_of_ble_eq_true rfl)⟩ (Nat.le_of_ble_eq_true rfl) dX9_ask_25 (fun z_36 u_34 hp_35 => ?_)
      obtain ⟨hz_36, hp_35⟩ := hp_35
      have hj_37 := jv_trans hj_33 hp_35
      exact r_int E dX9_ask_28 ⟨⟨by have hb_ := z32 z_36; omega, by have hb_ := z32 z_36; omega, by first | (right; decide) | (have hb_ := z32 z_36; omega) | (have hb_ := z32 z_36; have hc_ := z32 x1; omega), by first | (right; decide) | (have hb_ := z32 z_36; omega) | (have hb_ := z32 z_36; have hc_ := z32 (w.2.2.1 2 0); omega)⟩, hj_37⟩
  ·
    refine s_iload_n E dX9_ask_10 rfl rfl ?_
    refine s_goto (tgt := 28) E dX9_ask_11 (by decide) ?_
    exact r_int E dX9_ask_28 ⟨⟨by have hb_ := z32 z_3; omega, by have hb_ := z32 z_3; omega, by first | (right; decide) | (have hb_ := z32 z_3; omega) | (have hb_ := z32 z_3; have hc_ := z32 x1; omega), by first | (right; decide) | (have hb_ := z32 z_3; omega) | (have hb_ := z32 z_3; have hc_ := z32 (w.2.2.1 2 0); omega)⟩, hJ⟩
set_option maxRecDepth 20000 in
set_option maxHeartbeats 2000000 in
theorem Z_X9_leaves_0 (l : Launch) (D : va_G) (aC : Nat → ClassId) (b : Nat) (w : XW) (x1 : Int32) (hI : Iv w)  : CnI l D aC b M_X9_leaves 6 144 0 0 [AR 0, AI x1] w (fun r u => ((-6) ≤ r.toInt ∧ r.toInt ≤ 2147483647 ∧ (¬ r.toInt = 0 ∨ (0 ≤ x1.toInt ∧ x1.toInt ≤ 3)) ∧ (¬ r.toInt = 0 ∨ (1 ≤ (w.2.2.1 2 0).toInt ∧ (w.2.2.1 2 0).toInt ≤ 2147483647))) ∧ Jv w u) := by
  refine cn_I (own := RX9) (nm := "leaves") (L0 := [some (AR 0), some (AI x1), none, none, none]) (by decide +kernel) rfl rfl (Nat.le_of_ble_eq_true rfl) rfl ?_
  intro p e s m args below meth c E hin
  have hJ : Jv w w := jv_rfl hI
  have hb_x1 := z32 x1
  refine s_aload_n E dX9_leaves_0 rfl rfl ?_
  refine s_iload_n E dX9_leaves_1 rfl rfl ?_
  refine s_vI (As := [AI x1]) (S := []) E (Z_X9_seenFault_0 l D aC b w x1 hJ.1 ) cv_X9_263 rfl rfl rfl (jv_lt hJ (by decide)) (Nat.le_of_ble_eq_true rfl) (Nat.le_of_ble_eq_true rfl) ⟨(Nat.le_of_ble_eq_true rfl), (Nat.le_of_ble_eq_true rfl)⟩ (Nat.le_of_ble_eq_true rfl) dX9_leaves_2 (fun z_3 u_1 hp_2 => ?_)
  obtain ⟨hz_3, hp_2⟩ := hp_2
  subst hp_2
  refine s_istore_n (L2 := [some (AR 0), some (AI x1), some (AI z_3), none, none]) E dX9_leaves_5 rfl (by decide) rfl ?_
  refine s_iload_n E dX9_leaves_6 rfl rfl ?_
  refine z_if_eq (tgt := 12) (u := z_3.toInt) E dX9_leaves_7 (by decide) rfl (fun h_5 => ?_) (fun h_5 => ?_)
  ·
    refine s_aload_n E dX9_leaves_12 rfl rfl ?_
    refine s_aload_n E dX9_leaves_13 rfl rfl ?_
    refine s_gR (r := 60) E fg_X9_46 rfl rfl (jv_lt hJ (by decide)) (jv_r hJ (by decide +kernel)) dX9_leaves_14 ?_
    refine s_iload_n E dX9_leaves_17 rfl rfl ?_
    rcases (show x1 = 0 ∨ x1 = 1 ∨ x1 = 2 ∨ x1 = 3 from (z_cases4 (u := x1.toInt) rfl (by omega) (by omega))) with rfl | rfl | rfl | rfl
    ·
      refine s_aald105 (r := 61) E rfl (jv_lt hJ (by decide)) (vp_c (by decide)) (jv_r hJ (by decide +kernel)) dX9_leaves_18 ?_
      refine s_vI (As := [AR 61]) (S := []) E (Z_X9_possibleFirsts_0_r61 l D aC b w  hJ.1 ) cv_X9_266 rfl rfl rfl (jv_lt hJ (by decide)) (Nat.le_of_ble_eq_true rfl) (Nat.le_of_ble_eq_true rfl) ⟨(Nat.le_of_ble_eq_true rfl), (Nat.le_of_ble_eq_true rfl)⟩ (Nat.le_of_ble_eq_true rfl) dX9_leaves_19 (fun z_8 u_6 hp_7 => ?_)
      obtain ⟨hz_8, hp_7⟩ := hp_7
      have hj_9 := jv_trans hJ hp_7
      refine s_istore_n (L2 := [some (AR 0), some (AI 0), some (AI z_3), some (AI z_8), none]) E dX9_leaves_22 rfl (by decide) rfl ?_
      refine s_aload_n E dX9_leaves_23 rfl rfl ?_
      refine s_iload_n E dX9_leaves_24 rfl rfl ?_
      refine s_vI (As := [AI z_8]) (S := []) E (Z_X9_bestAsked_0 l D aC b u_6 z_8 hj_9.1 ) cv_X9_270 rfl rfl rfl (jv_lt hj_9 (by decide)) (Nat.le_of_ble_eq_true rfl) (Nat.le_of_ble_eq_true rfl) ⟨(Nat.le_of_ble_eq_true rfl), (Nat.le_of_ble_eq_true rfl)⟩ (Nat.le_of_ble_eq_true rfl) dX9_leaves_25 (fun z_12 u_10 hp_11 => ?_)
      obtain ⟨hz_12, hp_11⟩ := hp_11
      have hj_13 := jv_trans hj_9 hp_11
      refine s_istore (L2 := [some (AR 0), some (AI 0), some (AI z_3), some (AI z_8), some (AI z_12)]) E dX9_leaves_28 (by decide) rfl ?_
      refine s_iload E dX9_leaves_30 rfl ?_
      refine s_iconst (v := (-1)) E dX9_leaves_32 (by decide) ?_
      refine z_icmp_ne (tgt := 43) (u := z_12.toInt) (v := (-1)) E dX9_leaves_33 (by decide) rfl (by decide) (fun h_14 => ?_) (fun h_14 => ?_)
      ·
        refine s_aload_n E dX9_leaves_43 rfl rfl ?_
        refine s_iload_n E dX9_leaves_44 rfl rfl ?_
        refine s_iload E dX9_leaves_45 rfl ?_
        refine s_vI (As := [AI z_8, AI z_12]) (S := []) E (Z_X9_leftAtWorst_0 l D aC b u_10 z_8 z_12 hj_13.1 ) cv_X9_273 rfl rfl rfl (jv_lt hj_13 (by decide)) (Nat.le_of_ble_eq_true rfl) (Nat.le_of_ble_eq_true rfl) ⟨(Nat.le_of_ble_eq_true rfl), (Nat.le_of_ble_eq_true rfl)⟩ (Nat.le_of_ble_eq_true rfl) dX9_leaves_47 (fun z_17 u_15 hp_16 => ?_)
        obtain ⟨hz_17, hp_16⟩ := hp_16
        have hj_18 := jv_trans hj_13 hp_16
        exact r_int E dX9_leaves_50 ⟨⟨by have hb_ := z32 z_17; omega, by have hb_ := z32 z_17; omega, by first | (right; decide) | (have hb_ := z32 z_17; omega) | (have hb_ := z32 z_17; have hc_ := z32 x1; omega), by first | (right; decide) | (have hb_ := z32 z_17; omega) | (have hb_ := z32 z_17; have hc_ := z32 (w.2.2.1 2 0); omega)⟩, hj_18⟩
      ·
        refine s_iload_n E dX9_leaves_36 rfl rfl ?_
        refine s_sI (As := [AI z_8]) (S := []) E (Z_J6_bitCount_0f7a4 l D aC b u_10 z_8 hj_13.1 ) cs_X9_203 rfl rfl (Nat.le_of_ble_eq_true rfl) (Nat.le_of_ble_eq_true rfl) ⟨(Nat.le_of_ble_eq_true rfl), (Nat.le_of_ble_eq_true rfl)⟩ (Nat.le_of_ble_eq_true rfl) dX9_leaves_37 (fun z_21 u_19 hp_20 => ?_)
        obtain ⟨hz_21, hp_20⟩ := hp_20
        subst hp_20
        refine s_goto (tgt := 50) E dX9_leaves_40 (by decide) ?_
        exact r_int E dX9_leaves_50 ⟨⟨by have hb_ := z32 z_21; omega, by have hb_ := z32 z_21; omega, by first | (right; decide) | (have hb_ := z32 z_21; omega) | (have hb_ := z32 z_21; have hc_ := z32 x1; omega), by first | (right; decide) | (have hb_ := z32 z_21; omega) | (have hb_ := z32 z_21; have hc_ := z32 (w.2.2.1 2 0); omega)⟩, hj_13⟩
    ·
      refine s_aald105 (r := 63) E rfl (jv_lt hJ (by decide)) (vp_c (by decide)) (jv_r hJ (by decide +kernel)) dX9_leaves_18 ?_
      refine s_vI (As := [AR 63]) (S := []) E (Z_X9_possibleFirsts_0_r63 l D aC b w  hJ.1 ) cv_X9_266 rfl rfl rfl (jv_lt hJ (by decide)) (Nat.le_of_ble_eq_true rfl) (Nat.le_of_ble_eq_true rfl) ⟨(Nat.le_of_ble_eq_true rfl), (Nat.le_of_ble_eq_true rfl)⟩ (Nat.le_of_ble_eq_true rfl) dX9_leaves_19 (fun z_25 u_23 hp_24 => ?_)
      obtain ⟨hz_25, hp_24⟩ := hp_24
      have hj_26 := jv_trans hJ hp_24
      refine s_istore_n (L2 := [some (AR 0), some (AI 1), some (AI z_3), some (AI z_25), none]) E dX9_leaves_22 rfl (by decide) rfl ?_
      refine s_aload_n E dX9_leaves_23 rfl rfl ?_
      refine s_iload_n E dX9_leaves_24 rfl rfl ?_
      refine s_vI (As := [AI z_25]) (S := []) E (Z_X9_bestAsked_0 l D aC b u_23 z_25 hj_26.1 ) cv_X9_270 rfl rfl rfl (jv_lt hj_26 (by decide)) (Nat.le_of_ble_eq_true rfl) (Nat.le_of_ble_eq_true rfl) ⟨(Nat.le_of_ble_eq_true rfl), (Nat.le_of_ble_eq_true rfl)⟩ (Nat.le_of_ble_eq_true rfl) dX9_leaves_25 (fun z_29 u_27 hp_28 => ?_)
      obtain ⟨hz_29, hp_28⟩ := hp_28
      have hj_30 := jv_trans hj_26 hp_28
      refine s_istore (L2 := [some (AR 0), some (AI 1), some (AI z_3), some (AI z_25), some (AI z_29)]) E dX9_leaves_28 (by decide) rfl ?_
      refine s_iload E dX9_leaves_30 rfl ?_
      refine s_iconst (v := (-1)) E dX9_leaves_32 (by decide) ?_
      refine z_icmp_ne (tgt := 43) (u := z_29.toInt) (v := (-1)) E dX9_leaves_33 (by decide) rfl (by decide) (fun h_31 => ?_) (fun h_31 => ?_)
      ·
        refine s_aload_n E dX9_leaves_43 rfl rfl ?_
        refine s_iload_n E dX9_leaves_44 rfl rfl ?_
        refine s_iload E dX9_leaves_45 rfl ?_
        refine s_vI (As := [AI z_25, AI z_29]) (S := []) E (Z_X9_leftAtWorst_0 l D aC b u_27 z_25 z_29 hj_30.1 ) cv_X9_273 rfl rfl rfl (jv_lt hj_30 (by decide)) (Nat.le_of_ble_eq_true rfl) (Nat.le_of_ble_eq_true rfl) ⟨(Nat.le_of_ble_eq_true rfl), (Nat.le_of_ble_eq_true rfl)⟩ (Nat.le_of_ble_eq_true rfl) dX9_leaves_47 (fun z_34 u_32 hp_33 => ?_)
        obtain ⟨hz_34, hp_33⟩ := hp_33
        have hj_35 := jv_trans hj_30 hp_33
        exact r_int E dX9_leaves_50 ⟨⟨by have hb_ := z32 z_34; omega, by have hb_ := z32 z_34; omega, by first | (right; decide) | (have hb_ := z32 z_34; omega) | (have hb_ := z32 z_34; have hc_ := z32 x1; omega), by first | (right; decide) | (have hb_ := z32 z_34; omega) | (have hb_ := z32 z_34; have hc_ := z32 (w.2.2.1 2 0); omega)⟩, hj_35⟩
      ·
        refine s_iload_n E dX9_leaves_36 rfl rfl ?_
        refine s_sI (As := [AI z_25]) (S := []) E (Z_J6_bitCount_0f7a4 l D aC b u_27 z_25 hj_30.1 ) cs_X9_203 rfl rfl (Nat.le_of_ble_eq_true rfl) (Nat.le_of_ble_eq_true rfl) ⟨(Nat.le_of_ble_eq_true rfl), (Nat.le_of_ble_eq_true rfl)⟩ (Nat.le_of_ble_eq_true rfl) dX9_leaves_37 (fun z_38 u_36 hp_37 => ?_)
        obtain ⟨hz_38, hp_37⟩ := hp_37
        subst hp_37
        refine s_goto (tgt := 50) E dX9_leaves_40 (by decide) ?_
        exact r_int E dX9_leaves_50 ⟨⟨by have hb_ := z32 z_38; omega, by have hb_ := z32 z_38; omega, by first | (right; decide) | (have hb_ := z32 z_38; omega) | (have hb_ := z32 z_38; have hc_ := z32 x1; omega), by first | (right; decide) | (have hb_ := z32 z_38; omega) | (have hb_ := z32 z_38; have hc_ := z32 (w.2.2.1 2 0); omega)⟩, hj_30⟩
    ·
      refine s_aald105 (r := 65) E rfl (jv_lt hJ (by decide)) (vp_c (by decide)) (jv_r hJ (by decide +kernel)) dX9_leaves_18 ?_
      refine s_vI (As := [AR 65]) (S := []) E (Z_X9_possibleFirsts_0_r65 l D aC b w  hJ.1 ) cv_X9_266 rfl rfl rfl (jv_lt hJ (by decide)) (Nat.le_of_ble_eq_true rfl) (Nat.le_of_ble_eq_true rfl) ⟨(Nat.le_of_ble_eq_true rfl), (Nat.le_of_ble_eq_true rfl)⟩ (Nat.le_of_ble_eq_true rfl) dX9_leaves_19 (fun z_42 u_40 hp_41 => ?_)
      obtain ⟨hz_42, hp_41⟩ := hp_41
      have hj_43 := jv_trans hJ hp_41
      refine s_istore_n (L2 := [some (AR 0), some (AI 2), some (AI z_3), some (AI z_42), none]) E dX9_leaves_22 rfl (by decide) rfl ?_
      refine s_aload_n E dX9_leaves_23 rfl rfl ?_
      refine s_iload_n E dX9_leaves_24 rfl rfl ?_
      refine s_vI (As := [AI z_42]) (S := []) E (Z_X9_bestAsked_0 l D aC b u_40 z_42 hj_43.1 ) cv_X9_270 rfl rfl rfl (jv_lt hj_43 (by decide)) (Nat.le_of_ble_eq_true rfl) (Nat.le_of_ble_eq_true rfl) ⟨(Nat.le_of_ble_eq_true rfl), (Nat.le_of_ble_eq_true rfl)⟩ (Nat.le_of_ble_eq_true rfl) dX9_leaves_25 (fun z_46 u_44 hp_45 => ?_)
      obtain ⟨hz_46, hp_45⟩ := hp_45
      have hj_47 := jv_trans hj_43 hp_45
      refine s_istore (L2 := [some (AR 0), some (AI 2), some (AI z_3), some (AI z_42), some (AI z_46)]) E dX9_leaves_28 (by decide) rfl ?_
      refine s_iload E dX9_leaves_30 rfl ?_
      refine s_iconst (v := (-1)) E dX9_leaves_32 (by decide) ?_
      refine z_icmp_ne (tgt := 43) (u := z_46.toInt) (v := (-1)) E dX9_leaves_33 (by decide) rfl (by decide) (fun h_48 => ?_) (fun h_48 => ?_)
      ·
        refine s_aload_n E dX9_leaves_43 rfl rfl ?_
        refine s_iload_n E dX9_leaves_44 rfl rfl ?_
        refine s_iload E dX9_leaves_45 rfl ?_
        refine s_vI (As := [AI z_42, AI z_46]) (S := []) E (Z_X9_leftAtWorst_0 l D aC b u_44 z_42 z_46 hj_47.1 ) cv_X9_273 rfl rfl rfl (jv_lt hj_47 (by decide)) (Nat.le_of_ble_eq_true rfl) (Nat.le_of_ble_eq_true rfl) ⟨(Nat.le_of_ble_eq_true rfl), (Nat.le_of_ble_eq_true rfl)⟩ (Nat.le_of_ble_eq_true rfl) dX9_leaves_47 (fun z_51 u_49 hp_50 => ?_)
        obtain ⟨hz_51, hp_50⟩ := hp_50
        have hj_52 := jv_trans hj_47 hp_50
        exact r_int E dX9_leaves_50 ⟨⟨by have hb_ := z32 z_51; omega, by have hb_ := z32 z_51; omega, by first | (right; decide) | (have hb_ := z32 z_51; omega) | (have hb_ := z32 z_51; have hc_ := z32 x1; omega), by first | (right; decide) | (have hb_ := z32 z_51; omega) | (have hb_ := z32 z_51; have hc_ := z32 (w.2.2.1 2 0); omega)⟩, hj_52⟩
      ·
        refine s_iload_n E dX9_leaves_36 rfl rfl ?_
        refine s_sI (As := [AI z_42]) (S := []) E (Z_J6_bitCount_0f7a4 l D aC b u_44 z_42 hj_47.1 ) cs_X9_203 rfl rfl (Nat.le_of_ble_eq_true rfl) (Nat.le_of_ble_eq_true rfl) ⟨(Nat.le_of_ble_eq_true rfl), (Nat.le_of_ble_eq_true rfl)⟩ (Nat.le_of_ble_eq_true rfl) dX9_leaves_37 (fun z_55 u_53 hp_54 => ?_)
        obtain ⟨hz_55, hp_54⟩ := hp_54
        subst hp_54
        refine s_goto (tgt := 50) E dX9_leaves_40 (by decide) ?_
        exact r_int E dX9_leaves_50 ⟨⟨by have hb_ := z32 z_55; omega, by have hb_ := z32 z_55; omega, by first | (right; decide) | (have hb_ := z32 z_55; omega) | (have hb_ := z32 z_55; have hc_ := z32 x1; omega), by first | (right; decide) | (have hb_ := z32 z_55; omega) | (have hb_ := z32 z_55; have hc_ := z32 (w.2.2.1 2 0); omega)⟩, hj_47⟩
    ·
      refine s_aald105 (r := 67) E rfl (jv_lt hJ (by decide)) (vp_c (by decide)) (jv_r hJ (by decide +kernel)) dX9_leaves_18 ?_
      refine s_vI (As := [AR 67]) (S := []) E (Z_X9_possibleFirsts_0_r67 l D aC b w  hJ.1 ) cv_X9_266 rfl rfl rfl (jv_lt hJ (by decide)) (Nat.le_of_ble_eq_true rfl) (Nat.le_of_ble_eq_true rfl) ⟨(Nat.le_of_ble_eq_true rfl), (Nat.le_of_ble_eq_true rfl)⟩ (Nat.le_of_ble_eq_true rfl) dX9_leaves_19 (fun z_59 u_57 hp_58 => ?_)
      obtain ⟨hz_59, hp_58⟩ := hp_58
      have hj_60 := jv_trans hJ hp_58
      refine s_istore_n (L2 := [some (AR 0), some (AI 3), some (AI z_3), some (AI z_59), none]) E dX9_leaves_22 rfl (by decide) rfl ?_
      refine s_aload_n E dX9_leaves_23 rfl rfl ?_
      refine s_iload_n E dX9_leaves_24 rfl rfl ?_
      refine s_vI (As := [AI z_59]) (S := []) E (Z_X9_bestAsked_0 l D aC b u_57 z_59 hj_60.1 ) cv_X9_270 rfl rfl rfl (jv_lt hj_60 (by decide)) (Nat.le_of_ble_eq_true rfl) (Nat.le_of_ble_eq_true rfl) ⟨(Nat.le_of_ble_eq_true rfl), (Nat.le_of_ble_eq_true rfl)⟩ (Nat.le_of_ble_eq_true rfl) dX9_leaves_25 (fun z_63 u_61 hp_62 => ?_)
      obtain ⟨hz_63, hp_62⟩ := hp_62
      have hj_64 := jv_trans hj_60 hp_62
      refine s_istore (L2 := [some (AR 0), some (AI 3), some (AI z_3), some (AI z_59), some (AI z_63)]) E dX9_leaves_28 (by decide) rfl ?_
      refine s_iload E dX9_leaves_30 rfl ?_
      refine s_iconst (v := (-1)) E dX9_leaves_32 (by decide) ?_
      refine z_icmp_ne (tgt := 43) (u := z_63.toInt) (v := (-1)) E dX9_leaves_33 (by decide) rfl (by decide) (fun h_65 => ?_) (fun h_65 => ?_)
      ·
        refine s_aload_n E dX9_leaves_43 rfl rfl ?_
        refine s_iload_n E dX9_leaves_44 rfl rfl ?_
        refine s_iload E dX9_leaves_45 rfl ?_
        refine s_vI (As := [AI z_59, AI z_63]) (S := []) E (Z_X9_leftAtWorst_0 l D aC b u_61 z_59 z_63 hj_64.1 ) cv_X9_273 rfl rfl rfl (jv_lt hj_64 (by decide)) (Nat.le_of_ble_eq_true rfl) (Nat.le_of_ble_eq_true rfl) ⟨(Nat.le_of_ble_eq_true rfl), (Nat.le_of_ble_eq_true rfl)⟩ (Nat.le_of_ble_eq_true rfl) dX9_leaves_47 (fun z_68 u_66 hp_67 => ?_)
        obtain ⟨hz_68, hp_67⟩ := hp_67
        have hj_69 := jv_trans hj_64 hp_67
        exact r_int E dX9_leaves_50 ⟨⟨by have hb_ := z32 z_68; omega, by have hb_ := z32 z_68; omega, by first | (right; decide) | (have hb_ := z32 z_68; omega) | (have hb_ := z32 z_68; have hc_ := z32 x1; omega), by first | (right; decide) | (have hb_ := z32 z_68; omega) | (have hb_ := z32 z_68; have hc_ := z32 (w.2.2.1 2 0); omega)⟩, hj_69⟩
      ·
        refine s_iload_n E dX9_leaves_36 rfl rfl ?_
        refine s_sI (As := [AI z_59]) (S := []) E (Z_J6_bitCount_0f7a4 l D aC b u_61 z_59 hj_64.1 ) cs_X9_203 rfl rfl (Nat.le_of_ble_eq_true rfl) (Nat.le_of_ble_eq_true rfl) ⟨(Nat.le_of_ble_eq_true rfl), (Nat.le_of_ble_eq_true rfl)⟩ (Nat.le_of_ble_eq_true rfl) dX9_leaves_37 (fun z_72 u_70 hp_71 => ?_)
        obtain ⟨hz_72, hp_71⟩ := hp_71
        subst hp_71
        refine s_goto (tgt := 50) E dX9_leaves_40 (by decide) ?_
        exact r_int E dX9_leaves_50 ⟨⟨by have hb_ := z32 z_72; omega, by have hb_ := z32 z_72; omega, by first | (right; decide) | (have hb_ := z32 z_72; omega) | (have hb_ := z32 z_72; have hc_ := z32 x1; omega), by first | (right; decide) | (have hb_ := z32 z_72; omega) | (have hb_ := z32 z_72; have hc_ := z32 (w.2.2.1 2 0); omega)⟩, hj_64⟩
  ·
    refine s_iload_n E dX9_leaves_10 rfl rfl ?_
    exact r_int E dX9_leaves_11 ⟨⟨by have hb_ := z32 z_3; omega, by have hb_ := z32 z_3; omega, by first | (right; decide) | (have hb_ := z32 z_3; omega) | (have hb_ := z32 z_3; have hc_ := z32 x1; omega), by first | (right; decide) | (have hb_ := z32 z_3; omega) | (have hb_ := z32 z_3; have hc_ := z32 (w.2.2.1 2 0); omega)⟩, hJ⟩
set_option maxRecDepth 20000 in
set_option maxHeartbeats 2000000 in
theorem Z_X9_seats_0 (l : Launch) (D : va_G) (aC : Nat → ClassId) (b : Nat) (w : XW) (x1 : Int32) (hI : Iv w)  : CnI l D aC b M_X9_seats 3 67 0 0 [AR 0, AI x1] w (fun r u => ((-2147483648) ≤ r.toInt ∧ r.toInt ≤ 2147483647 ∧ (¬ r.toInt = 0 ∨ (0 ≤ x1.toInt ∧ x1.toInt ≤ 5)) ∧ (¬ r.toInt = 0 ∨ (1 ≤ (w.2.2.1 5 3).toInt ∧ (w.2.2.1 5 3).toInt ≤ 6))) ∧ w = u) := by
  refine cn_I (own := RX9) (nm := "seats") (L0 := [some (AR 0), some (AI x1)]) (by decide +kernel) rfl rfl (Nat.le_of_ble_eq_true rfl) rfl ?_
  intro p e s m args below meth c E hin
  have hJ : Jv w w := jv_rfl hI
  have hb_x1 := z32 x1
  refine s_aload_n E dX9_seats_0 rfl rfl ?_
  refine s_gR (r := 2) E fg_X9_20 rfl rfl (jv_lt hJ (by decide)) (jv_r hJ (by decide +kernel)) dX9_seats_1 ?_
  refine s_iload_n E dX9_seats_4 rfl rfl ?_
  refine s_vI (As := [AI x1]) (S := []) E (Z_X0_hasLady_2 l D aC b w x1 hJ.1 ) cv_X9_139 rfl rfl rfl (jv_lt hJ (by decide)) (Nat.le_of_ble_eq_true rfl) (Nat.le_of_ble_eq_true rfl) ⟨(Nat.le_of_ble_eq_true rfl), (Nat.le_of_ble_eq_true rfl)⟩ (Nat.le_of_ble_eq_true rfl) dX9_seats_5 (fun z_3 u_1 hp_2 => ?_)
  obtain ⟨hz_3, hp_2⟩ := hp_2
  subst hp_2
  refine z_if_eq (tgt := 22) (u := z_3.toInt) E dX9_seats_8 (by decide) rfl (fun h_5 => ?_) (fun h_5 => ?_)
  ·
    refine s_bipush (v := (-2)) E dX9_seats_22 (by decide) ?_
    exact r_int E dX9_seats_24 ⟨⟨by decide, by decide, by first | (left; decide) | (right; decide) | (right; have hb_ := z32 x1; omega), by first | (left; decide) | (right; decide) | (right; have hb_ := z32 (w.2.2.1 5 3); omega)⟩, rfl⟩
  ·
    refine s_aload_n E dX9_seats_11 rfl rfl ?_
    refine s_gR (r := 2) E fg_X9_20 rfl rfl (jv_lt hJ (by decide)) (jv_r hJ (by decide +kernel)) dX9_seats_12 ?_
    refine s_iload_n E dX9_seats_15 rfl rfl ?_
    refine s_vI (As := [AI x1]) (S := []) E (Z_X0_seatsUnder_2 l D aC b w x1 hJ.1 ) cv_X9_302 rfl rfl rfl (jv_lt hJ (by decide)) (Nat.le_of_ble_eq_true rfl) (Nat.le_of_ble_eq_true rfl) ⟨(Nat.le_of_ble_eq_true rfl), (Nat.le_of_ble_eq_true rfl)⟩ (Nat.le_of_ble_eq_true rfl) dX9_seats_16 (fun z_8 u_6 hp_7 => ?_)
    obtain ⟨hz_8, hp_7⟩ := hp_7
    subst hp_7
    refine s_goto (tgt := 24) E dX9_seats_19 (by decide) ?_
    exact r_int E dX9_seats_24 ⟨⟨by have hb_ := z32 z_8; omega, by have hb_ := z32 z_8; omega, by first | (right; decide) | (have hb_ := z32 z_8; omega) | (have hb_ := z32 z_8; have hc_ := z32 x1; omega), by first | (right; decide) | (have hb_ := z32 z_8; omega) | (have hb_ := z32 z_8; have hc_ := z32 (w.2.2.1 5 3); omega)⟩, rfl⟩
set_option maxRecDepth 20000 in
set_option maxHeartbeats 2000000 in
theorem Z_X0_ministersUnder_2 (l : Launch) (D : va_G) (aC : Nat → ClassId) (b : Nat) (w : XW) (x1 : Int32) (hI : Iv w)  : CnI l D aC b M_X0_ministersUnder 2 44 0 0 [AR 2, AI x1] w (fun r u => ((-2147483648) ≤ r.toInt ∧ r.toInt ≤ 2147483647) ∧ w = u) := by
  refine cn_I (own := RX0) (nm := "ministersUnder") (L0 := [some (AR 2), some (AI x1), none, none]) (by decide +kernel) rfl rfl (Nat.le_of_ble_eq_true rfl) rfl ?_
  intro p e s m args below meth c E hin
  have hJ : Jv w w := jv_rfl hI
  have hb_x1 := z32 x1
  refine s_iconst (v := 0) E dX0_ministersUnder_0 (by decide) ?_
  refine s_istore_n (L2 := [some (AR 2), some (AI x1), some (AI 0), none]) E dX0_ministersUnder_1 rfl (by decide) rfl ?_
  refine s_iconst (v := 0) E dX0_ministersUnder_2 (by decide) ?_
  refine s_istore_n (L2 := [some (AR 2), some (AI x1), some (AI 0), some (AI 0)]) E dX0_ministersUnder_3 rfl (by decide) rfl ?_
  refine z_loop (St := Int32 × Int32) (Pi := fun ⟨q4_2_0, q4_3_0⟩ v4 => (0 ≤ q4_3_0.toInt ∧ q4_3_0.toInt ≤ 8) ∧ w = v4) (Lf := fun ⟨q4_2_0, q4_3_0⟩ => [some (AR 2), some (AI x1), some (AI q4_2_0), some (AI q4_3_0)]) (fun ⟨q4_2_0, q4_3_0⟩ _ => (9 - q4_3_0.toInt).toNat) ⟨0, 0⟩ ⟨⟨by decide, by decide⟩, rfl⟩ ?_
  rintro ⟨q4_2_0, q4_3_0⟩ v4 ⟨hq4_3, hv_⟩ ih4
  subst hv_
  have hbq4_2 := z32 q4_2_0
  refine s_loc (L2 := [some (AR 2), some (AI x1), some (AI q4_2_0), some (AI q4_3_0)]) rfl ?_
  refine s_iload_n E dX0_ministersUnder_4 rfl rfl ?_
  refine s_aload_n E dX0_ministersUnder_5 rfl rfl ?_
  refine s_gR (r := 7) E fg_X0_23 rfl rfl (jv_lt hJ (by decide)) (jv_r hJ (by decide +kernel)) dX0_ministersUnder_6 ?_
  refine s_gI E fg_X0_67 rfl rfl (jv_lt hJ (by decide)) dX0_ministersUnder_9 ?_
  refine z_nm (P := fun z => z.toInt = (w.2.2.1 7 3).toInt ∧ 0 ≤ z.toInt ∧ z.toInt ≤ 8) ⟨rfl, (rg_7_3 hJ)⟩ (fun z_2 hz_2 => ?_)
  refine z_icmp_ge (tgt := 40) (u := q4_3_0.toInt) (v := z_2.toInt) E dX0_ministersUnder_12 (by decide) rfl rfl (fun h_3 => ?_) (fun h_3 => ?_)
  ·
    refine s_iload_n E dX0_ministersUnder_40 rfl rfl ?_
    exact r_int E dX0_ministersUnder_41 ⟨⟨by have hb_ := z32 q4_2_0; omega, by have hb_ := z32 q4_2_0; omega⟩, rfl⟩
  ·
    refine s_aload_n E dX0_ministersUnder_15 rfl rfl ?_
    refine s_gR (r := 7) E fg_X0_23 rfl rfl (jv_lt hJ (by decide)) (jv_r hJ (by decide +kernel)) dX0_ministersUnder_16 ?_
    refine s_iload_n E dX0_ministersUnder_19 rfl rfl ?_
    refine s_iconst (v := 0) E dX0_ministersUnder_20 (by decide) ?_
    refine s_vI (As := [AI q4_3_0, AI 0]) (S := []) E (Z_X8_cell_7 l D aC b w q4_3_0 0 hJ.1 ) cv_X0_70 rfl rfl rfl (jv_lt hJ (by decide)) (Nat.le_of_ble_eq_true rfl) (Nat.le_of_ble_eq_true rfl) ⟨(Nat.le_of_ble_eq_true rfl), (Nat.le_of_ble_eq_true rfl)⟩ (Nat.le_of_ble_eq_true rfl) dX0_ministersUnder_21 (fun z_6 u_4 hp_5 => ?_)
    obtain ⟨hz_6, hp_5⟩ := hp_5
    subst hp_5
    refine s_iload_n E dX0_ministersUnder_24 rfl rfl ?_
    refine z_icmp_ne (tgt := 34) (u := z_6.toInt) (v := x1.toInt) E dX0_ministersUnder_25 (by decide) rfl rfl (fun h_8 => ?_) (fun h_8 => ?_)
    ·
      refine z_iinc (u := q4_3_0.toInt) (L2 := fun z_9 => [some (AR 2), some (AI x1), some (AI q4_2_0), some (AI z_9)]) E dX0_ministersUnder_34 rfl rfl (by decide) (fun _ => rfl) (by decide) (by omega) (by omega) (fun z_9 hz_9 => ?_)
      refine s_goto (tgt := 4) E dX0_ministersUnder_37 (by decide) ?_
      exact ih4 ⟨q4_2_0, z_9⟩ w ⟨⟨by have hb_ := z32 z_9; omega, by have hb_ := z32 z_9; omega⟩, rfl⟩ (by first | omega | decide | (dsimp only; omega) | (dsimp only; decide))
    ·
      refine s_iload_n E dX0_ministersUnder_28 rfl rfl ?_
      refine s_iconst (v := 1) E dX0_ministersUnder_29 (by decide) ?_
      refine s_iload_n E dX0_ministersUnder_30 rfl rfl ?_
      refine z_shl1 7 (u := q4_3_0.toInt) (B := 128) E dX0_ministersUnder_31 rfl (by omega) (by omega) (by decide) (by decide) (fun z_10 hz_10 => ?_)
      refine s_ior E dX0_ministersUnder_32 ?_
      refine z_nm (P := fun z => (-2147483648) ≤ z.toInt ∧ z.toInt ≤ 2147483647) (z32 _) (fun z_11 hz_11 => ?_)
      refine s_istore_n (L2 := [some (AR 2), some (AI x1), some (AI z_11), some (AI q4_3_0)]) E dX0_ministersUnder_33 rfl (by decide) rfl ?_
      refine z_iinc (u := q4_3_0.toInt) (L2 := fun z_12 => [some (AR 2), some (AI x1), some (AI z_11), some (AI z_12)]) E dX0_ministersUnder_34 rfl rfl (by decide) (fun _ => rfl) (by decide) (by omega) (by omega) (fun z_12 hz_12 => ?_)
      refine s_goto (tgt := 4) E dX0_ministersUnder_37 (by decide) ?_
      exact ih4 ⟨z_11, z_12⟩ w ⟨⟨by have hb_ := z32 z_12; omega, by have hb_ := z32 z_12; omega⟩, rfl⟩ (by first | omega | decide | (dsimp only; omega) | (dsimp only; decide))
set_option maxRecDepth 20000 in
set_option maxHeartbeats 2000000 in
theorem Z_X9_under_0 (l : Launch) (D : va_G) (aC : Nat → ClassId) (b : Nat) (w : XW) (x1 : Int32) (hI : Iv w)  : CnI l D aC b M_X9_under 3 67 0 0 [AR 0, AI x1] w (fun r u => ((-2147483648) ≤ r.toInt ∧ r.toInt ≤ 2147483647 ∧ (¬ r.toInt = 0 ∨ (0 ≤ x1.toInt ∧ x1.toInt ≤ 5)) ∧ (¬ r.toInt = 0 ∨ (1 ≤ (w.2.2.1 5 3).toInt ∧ (w.2.2.1 5 3).toInt ≤ 6))) ∧ w = u) := by
  refine cn_I (own := RX9) (nm := "under") (L0 := [some (AR 0), some (AI x1)]) (by decide +kernel) rfl rfl (Nat.le_of_ble_eq_true rfl) rfl ?_
  intro p e s m args below meth c E hin
  have hJ : Jv w w := jv_rfl hI
  have hb_x1 := z32 x1
  refine s_aload_n E dX9_under_0 rfl rfl ?_
  refine s_gR (r := 2) E fg_X9_20 rfl rfl (jv_lt hJ (by decide)) (jv_r hJ (by decide +kernel)) dX9_under_1 ?_
  refine s_iload_n E dX9_under_4 rfl rfl ?_
  refine s_vI (As := [AI x1]) (S := []) E (Z_X0_hasLady_2 l D aC b w x1 hJ.1 ) cv_X9_139 rfl rfl rfl (jv_lt hJ (by decide)) (Nat.le_of_ble_eq_true rfl) (Nat.le_of_ble_eq_true rfl) ⟨(Nat.le_of_ble_eq_true rfl), (Nat.le_of_ble_eq_true rfl)⟩ (Nat.le_of_ble_eq_true rfl) dX9_under_5 (fun z_3 u_1 hp_2 => ?_)
  obtain ⟨hz_3, hp_2⟩ := hp_2
  subst hp_2
  refine z_if_eq (tgt := 22) (u := z_3.toInt) E dX9_under_8 (by decide) rfl (fun h_5 => ?_) (fun h_5 => ?_)
  ·
    refine s_bipush (v := (-2)) E dX9_under_22 (by decide) ?_
    exact r_int E dX9_under_24 ⟨⟨by decide, by decide, by first | (left; decide) | (right; decide) | (right; have hb_ := z32 x1; omega), by first | (left; decide) | (right; decide) | (right; have hb_ := z32 (w.2.2.1 5 3); omega)⟩, rfl⟩
  ·
    refine s_aload_n E dX9_under_11 rfl rfl ?_
    refine s_gR (r := 2) E fg_X9_20 rfl rfl (jv_lt hJ (by decide)) (jv_r hJ (by decide +kernel)) dX9_under_12 ?_
    refine s_iload_n E dX9_under_15 rfl rfl ?_
    refine s_vI (As := [AI x1]) (S := []) E (Z_X0_ministersUnder_2 l D aC b w x1 hJ.1 ) cv_X9_305 rfl rfl rfl (jv_lt hJ (by decide)) (Nat.le_of_ble_eq_true rfl) (Nat.le_of_ble_eq_true rfl) ⟨(Nat.le_of_ble_eq_true rfl), (Nat.le_of_ble_eq_true rfl)⟩ (Nat.le_of_ble_eq_true rfl) dX9_under_16 (fun z_8 u_6 hp_7 => ?_)
    obtain ⟨hz_8, hp_7⟩ := hp_7
    subst hp_7
    refine s_goto (tgt := 24) E dX9_under_19 (by decide) ?_
    exact r_int E dX9_under_24 ⟨⟨by have hb_ := z32 z_8; omega, by have hb_ := z32 z_8; omega, by first | (right; decide) | (have hb_ := z32 z_8; omega) | (have hb_ := z32 z_8; have hc_ := z32 x1; omega), by first | (right; decide) | (have hb_ := z32 z_8; omega) | (have hb_ := z32 z_8; have hc_ := z32 (w.2.2.1 5 3); omega)⟩, rfl⟩
set_option maxRecDepth 20000 in
set_option maxHeartbeats 2000000 in
theorem Z_X9_holds_0 (l : Launch) (D : va_G) (aC : Nat → ClassId) (b : Nat) (w : XW) (x1 : Int32) (hI : Iv w)  : CnI l D aC b M_X9_holds 4 89 0 0 [AR 0, AI x1] w (fun r u => ((-2) ≤ r.toInt ∧ r.toInt ≤ 1 ∧ (¬ r.toInt = 0 ∨ (0 ≤ x1.toInt ∧ x1.toInt ≤ 63)) ∧ (¬ r.toInt = 0 ∨ (1 ≤ (w.2.2.1 2 0).toInt ∧ (w.2.2.1 2 0).toInt ≤ 2147483647))) ∧ Jv w u) := by
  refine cn_I (own := RX9) (nm := "holds") (L0 := [some (AR 0), some (AI x1)]) (by decide +kernel) rfl rfl (Nat.le_of_ble_eq_true rfl) rfl ?_
  intro p e s m args below meth c E hin
  have hJ : Jv w w := jv_rfl hI
  have hb_x1 := z32 x1
  refine s_aload_n E dX9_holds_0 rfl rfl ?_
  refine s_gR (r := 2) E fg_X9_20 rfl rfl (jv_lt hJ (by decide)) (jv_r hJ (by decide +kernel)) dX9_holds_1 ?_
  refine s_iload_n E dX9_holds_4 rfl rfl ?_
  refine s_vI (As := [AI x1]) (S := []) E (Z_X0_hasSet_2 l D aC b w x1 hJ.1 ) cv_X9_308 rfl rfl rfl (jv_lt hJ (by decide)) (Nat.le_of_ble_eq_true rfl) (Nat.le_of_ble_eq_true rfl) ⟨(Nat.le_of_ble_eq_true rfl), (Nat.le_of_ble_eq_true rfl)⟩ (Nat.le_of_ble_eq_true rfl) dX9_holds_5 (fun z_3 u_1 hp_2 => ?_)
  obtain ⟨hz_3, hp_2⟩ := hp_2
  subst hp_2
  refine z_if_ne (tgt := 14) (u := z_3.toInt) E dX9_holds_8 (by decide) rfl (fun h_5 => ?_) (fun h_5 => ?_)
  ·
    refine s_aload_n E dX9_holds_14 rfl rfl ?_
    refine s_gR (r := 89) E fg_X9_78 rfl rfl (jv_lt hJ (by decide)) (jv_r hJ (by decide +kernel)) dX9_holds_15 ?_
    refine s_aload_n E dX9_holds_18 rfl rfl ?_
    refine s_gR (r := 2) E fg_X9_20 rfl rfl (jv_lt hJ (by decide)) (jv_r hJ (by decide +kernel)) dX9_holds_19 ?_
    refine s_vV (As := [AR 2]) (S := []) E (Z_X3_tally_89_r2 l D aC b w  hJ.1 ) cv_X9_311 rfl rfl rfl (jv_lt hJ (by decide)) (Nat.le_of_ble_eq_true rfl) (Nat.le_of_ble_eq_true rfl) ⟨(Nat.le_of_ble_eq_true rfl), (Nat.le_of_ble_eq_true rfl)⟩ (Nat.le_of_ble_eq_true rfl) dX9_holds_22 (fun u_6 hp_7 => ?_)
    have hj_8 := jv_trans hJ hp_7
    refine s_aload_n E dX9_holds_25 rfl rfl ?_
    refine s_gR (r := 89) E fg_X9_78 rfl rfl (jv_lt hj_8 (by decide)) (jv_r hj_8 (by decide +kernel)) dX9_holds_26 ?_
    refine s_iload_n E dX9_holds_29 rfl rfl ?_
    refine s_vI (As := [AI x1]) (S := []) E (Z_X3_isMajority_89 l D aC b u_6 x1 hj_8.1 ) cv_X9_314 rfl rfl rfl (jv_lt hj_8 (by decide)) (Nat.le_of_ble_eq_true rfl) (Nat.le_of_ble_eq_true rfl) ⟨(Nat.le_of_ble_eq_true rfl), (Nat.le_of_ble_eq_true rfl)⟩ (Nat.le_of_ble_eq_true rfl) dX9_holds_30 (fun z_11 u_9 hp_10 => ?_)
    obtain ⟨hz_11, hp_10⟩ := hp_10
    subst hp_10
    refine z_if_eq (tgt := 40) (u := z_11.toInt) E dX9_holds_33 (by decide) rfl (fun h_13 => ?_) (fun h_13 => ?_)
    ·
      refine s_iconst (v := 0) E dX9_holds_40 (by decide) ?_
      exact r_int E dX9_holds_41 ⟨⟨by decide, by decide, by first | (left; decide) | (right; decide) | (right; have hb_ := z32 x1; omega), by first | (left; decide) | (right; decide) | (right; have hb_ := z32 (w.2.2.1 2 0); omega)⟩, hj_8⟩
    ·
      refine s_iconst (v := 1) E dX9_holds_36 (by decide) ?_
      refine s_goto (tgt := 41) E dX9_holds_37 (by decide) ?_
      exact r_int E dX9_holds_41 ⟨⟨by decide, by decide, by first | (left; decide) | (right; decide) | (right; have hb_ := z32 x1; omega), by first | (left; decide) | (right; decide) | (right; have hb_ := z32 (w.2.2.1 2 0); omega)⟩, hj_8⟩
  ·
    refine s_bipush (v := (-2)) E dX9_holds_11 (by decide) ?_
    exact r_int E dX9_holds_13 ⟨⟨by decide, by decide, by first | (left; decide) | (right; decide) | (right; have hb_ := z32 x1; omega), by first | (left; decide) | (right; decide) | (right; have hb_ := z32 (w.2.2.1 2 0); omega)⟩, hJ⟩
set_option maxRecDepth 20000 in
set_option maxHeartbeats 2000000 in
theorem Z_X9_power_0 (l : Launch) (D : va_G) (aC : Nat → ClassId) (b : Nat) (w : XW) (x1 : Int32) (hI : Iv w)  : CnI l D aC b M_X9_power 4 89 0 0 [AR 0, AI x1] w (fun r u => ((-2147483648) ≤ r.toInt ∧ r.toInt ≤ 2147483647 ∧ (¬ r.toInt = 0 ∨ (0 ≤ x1.toInt ∧ x1.toInt ≤ 5)) ∧ (¬ r.toInt = 0 ∨ (1 ≤ (w.2.2.1 5 3).toInt ∧ (w.2.2.1 5 3).toInt ≤ 6))) ∧ Jv w u) := by
  refine cn_I (own := RX9) (nm := "power") (L0 := [some (AR 0), some (AI x1)]) (by decide +kernel) rfl rfl (Nat.le_of_ble_eq_true rfl) rfl ?_
  intro p e s m args below meth c E hin
  have hJ : Jv w w := jv_rfl hI
  have hb_x1 := z32 x1
  refine s_aload_n E dX9_power_0 rfl rfl ?_
  refine s_gR (r := 2) E fg_X9_20 rfl rfl (jv_lt hJ (by decide)) (jv_r hJ (by decide +kernel)) dX9_power_1 ?_
  refine s_iload_n E dX9_power_4 rfl rfl ?_
  refine s_vI (As := [AI x1]) (S := []) E (Z_X0_hasLady_2 l D aC b w x1 hJ.1 ) cv_X9_139 rfl rfl rfl (jv_lt hJ (by decide)) (Nat.le_of_ble_eq_true rfl) (Nat.le_of_ble_eq_true rfl) ⟨(Nat.le_of_ble_eq_true rfl), (Nat.le_of_ble_eq_true rfl)⟩ (Nat.le_of_ble_eq_true rfl) dX9_power_5 (fun z_3 u_1 hp_2 => ?_)
  obtain ⟨hz_3, hp_2⟩ := hp_2
  subst hp_2
  refine z_if_ne (tgt := 14) (u := z_3.toInt) E dX9_power_8 (by decide) rfl (fun h_5 => ?_) (fun h_5 => ?_)
  ·
    refine s_aload_n E dX9_power_14 rfl rfl ?_
    refine s_gR (r := 89) E fg_X9_78 rfl rfl (jv_lt hJ (by decide)) (jv_r hJ (by decide +kernel)) dX9_power_15 ?_
    refine s_aload_n E dX9_power_18 rfl rfl ?_
    refine s_gR (r := 2) E fg_X9_20 rfl rfl (jv_lt hJ (by decide)) (jv_r hJ (by decide +kernel)) dX9_power_19 ?_
    refine s_vV (As := [AR 2]) (S := []) E (Z_X3_tally_89_r2 l D aC b w  hJ.1 ) cv_X9_311 rfl rfl rfl (jv_lt hJ (by decide)) (Nat.le_of_ble_eq_true rfl) (Nat.le_of_ble_eq_true rfl) ⟨(Nat.le_of_ble_eq_true rfl), (Nat.le_of_ble_eq_true rfl)⟩ (Nat.le_of_ble_eq_true rfl) dX9_power_22 (fun u_6 hp_7 => ?_)
    have hj_8 := jv_trans hJ hp_7
    refine s_aload_n E dX9_power_25 rfl rfl ?_
    refine s_gR (r := 89) E fg_X9_78 rfl rfl (jv_lt hj_8 (by decide)) (jv_r hj_8 (by decide +kernel)) dX9_power_26 ?_
    refine s_iload_n E dX9_power_29 rfl rfl ?_
    refine s_vI (As := [AI x1]) (S := []) E (Z_X3_powerOf_89 l D aC b u_6 x1 hj_8.1 ) cv_X9_317 rfl rfl rfl (jv_lt hj_8 (by decide)) (Nat.le_of_ble_eq_true rfl) (Nat.le_of_ble_eq_true rfl) ⟨(Nat.le_of_ble_eq_true rfl), (Nat.le_of_ble_eq_true rfl)⟩ (Nat.le_of_ble_eq_true rfl) dX9_power_30 (fun z_11 u_9 hp_10 => ?_)
    obtain ⟨hz_11, hp_10⟩ := hp_10
    subst hp_10
    exact r_int E dX9_power_33 ⟨⟨by have hb_ := z32 z_11; omega, by have hb_ := z32 z_11; omega, by first | (right; decide) | (have hb_ := z32 z_11; omega) | (have hb_ := z32 z_11; have hc_ := z32 x1; omega), by first | (right; decide) | (have hb_ := z32 z_11; omega) | (have hb_ := z32 z_11; have hc_ := z32 (w.2.2.1 5 3); omega)⟩, hj_8⟩
  ·
    refine s_bipush (v := (-2)) E dX9_power_11 (by decide) ?_
    exact r_int E dX9_power_13 ⟨⟨by decide, by decide, by first | (left; decide) | (right; decide) | (right; have hb_ := z32 x1; omega), by first | (left; decide) | (right; decide) | (right; have hb_ := z32 (w.2.2.1 5 3); omega)⟩, hJ⟩
set_option maxRecDepth 20000 in
set_option maxHeartbeats 2000000 in
theorem Z_X9_isPart (l : Launch) (D : va_G) (aC : Nat → ClassId) (b : Nat) (w : XW) (x1 : Int32) (hI : Iv w)  : CnI l D aC b M_X9_isPart 0 0 0 0 [AI x1] w (fun r u => (0 ≤ r.toInt ∧ r.toInt ≤ 1 ∧ (r.toInt = 0 ∨ (0 ≤ x1.toInt ∧ x1.toInt ≤ 1))) ∧ w = u) := by
  refine cn_I (own := RX9) (nm := "isPart") (L0 := [some (AI x1)]) (by decide +kernel) rfl rfl (Nat.le_of_ble_eq_true rfl) rfl ?_
  intro p e s m args below meth c E hin
  have hJ : Jv w w := jv_rfl hI
  have hb_x1 := z32 x1
  refine s_iload_n E dX9_isPart_0 rfl rfl ?_
  refine z_if_eq (tgt := 9) (u := x1.toInt) E dX9_isPart_1 (by decide) rfl (fun h_1 => ?_) (fun h_1 => ?_)
  ·
    refine s_iconst (v := 1) E dX9_isPart_9 (by decide) ?_
    refine s_goto (tgt := 14) E dX9_isPart_10 (by decide) ?_
    exact r_bool E dX9_isPart_14 (Or.inr rfl) ⟨⟨by decide, by decide, by first | (left; decide) | (right; decide) | (right; have hb_ := z32 x1; omega)⟩, rfl⟩
  ·
    refine s_iload_n E dX9_isPart_4 rfl rfl ?_
    refine s_iconst (v := 1) E dX9_isPart_5 (by decide) ?_
    refine z_icmp_ne (tgt := 13) (u := x1.toInt) (v := 1) E dX9_isPart_6 (by decide) rfl (by decide) (fun h_2 => ?_) (fun h_2 => ?_)
    ·
      refine s_iconst (v := 0) E dX9_isPart_13 (by decide) ?_
      exact r_bool E dX9_isPart_14 (Or.inl rfl) ⟨⟨by decide, by decide, by first | (left; decide) | (right; decide) | (right; have hb_ := z32 x1; omega)⟩, rfl⟩
    ·
      refine s_iconst (v := 1) E dX9_isPart_9 (by decide) ?_
      refine s_goto (tgt := 14) E dX9_isPart_10 (by decide) ?_
      exact r_bool E dX9_isPart_14 (Or.inr rfl) ⟨⟨by decide, by decide, by first | (left; decide) | (right; decide) | (right; have hb_ := z32 x1; omega)⟩, rfl⟩
set_option maxRecDepth 20000 in
set_option maxHeartbeats 2000000 in
theorem Z_X9_lowestTerms (l : Launch) (D : va_G) (aC : Nat → ClassId) (b : Nat) (w : XW) (x1 : Int64) (x2 : Int64) (x3 : Int32) (hI : Iv w)  : CnL l D aC b M_X9_lowestTerms 0 0 0 0 [AL x1, AL x2, AI x3] w (fun r u => ((-9223372036854775808) ≤ r.toInt ∧ r.toInt ≤ 9223372036854775807) ∧ w = u) := by
  refine cn_L (own := RX9) (nm := "lowestTerms") (L0 := [some (AL x1), none, some (AL x2), none, some (AI x3), none, none, none, none, none, none, none]) (by decide +kernel) rfl rfl (Nat.le_of_ble_eq_true rfl) rfl ?_
  intro p e s m args below meth c E hin
  have hJ : Jv w w := jv_rfl hI
  have hb_x3 := z32 x3
  refine s_lload_n E dX9_lowestTerms_0 rfl rfl ?_
  refine s_lstore (L2 := [some (AL x1), none, some (AL x2), none, some (AI x3), some (AL x1), none, none, none, none, none, none]) E dX9_lowestTerms_1 (by decide) rfl ?_
  refine s_lload_n E dX9_lowestTerms_3 rfl rfl ?_
  refine s_lstore (L2 := [some (AL x1), none, some (AL x2), none, some (AI x3), some (AL x1), none, some (AL x2), none, none, none, none]) E dX9_lowestTerms_4 (by decide) rfl ?_
  refine s_iconst (v := 0) E dX9_lowestTerms_6 (by decide) ?_
  refine s_istore (L2 := [some (AL x1), none, some (AL x2), none, some (AI x3), some (AL x1), none, some (AL x2), none, some (AI 0), none, none]) E dX9_lowestTerms_7 (by decide) rfl ?_
  refine z_loop (St := Int64 × Int64 × Int32) (Pi := fun ⟨q9_5_0, q9_7_0, q9_9_0⟩ v9 => (0 ≤ q9_9_0.toInt ∧ q9_9_0.toInt ≤ 200) ∧ w = v9) (Lf := fun ⟨q9_5_0, q9_7_0, q9_9_0⟩ => [some (AL x1), none, some (AL x2), none, some (AI x3), some (AL q9_5_0), none, some (AL q9_7_0), none, some (AI q9_9_0), none, none]) (fun ⟨q9_5_0, q9_7_0, q9_9_0⟩ _ => (201 - q9_9_0.toInt).toNat) ⟨x1, x2, 0⟩ ⟨⟨by decide, by decide⟩, rfl⟩ ?_
  rintro ⟨q9_5_0, q9_7_0, q9_9_0⟩ v9 ⟨hq9_9, hv_⟩ ih9
  subst hv_
  have hbq9_5 := z64 q9_5_0
  have hbq9_7 := z64 q9_7_0
  refine s_loc (L2 := [some (AL x1), none, some (AL x2), none, some (AI x3), some (AL q9_5_0), none, some (AL q9_7_0), none, some (AI q9_9_0), none, none]) rfl ?_
  refine s_iload E dX9_lowestTerms_9 rfl ?_
  refine s_sipush (v := 200) E dX9_lowestTerms_11 (by decide) ?_
  refine z_icmp_ge (tgt := 45) (u := q9_9_0.toInt) (v := 200) E dX9_lowestTerms_14 (by decide) rfl (by decide) (fun h_2 => ?_) (fun h_2 => ?_)
  ·
    refine s_iload E dX9_lowestTerms_45 rfl ?_
    refine z_if_ne (tgt := 54) (u := x3.toInt) E dX9_lowestTerms_47 (by decide) rfl (fun h_3 => ?_) (fun h_3 => ?_)
    ·
      refine s_lload_n E dX9_lowestTerms_54 rfl rfl ?_
      refine s_lstore (L2 := [some (AL x1), none, some (AL x2), none, some (AI x3), some (AL q9_5_0), none, some (AL q9_7_0), none, some (AL x2), none, none]) E dX9_lowestTerms_55 (by decide) rfl ?_
      refine s_lload E dX9_lowestTerms_57 rfl ?_
      refine s_lconst (v := 0) E dX9_lowestTerms_59 (by decide) ?_
      refine z_lcmp (u := q9_5_0.toInt) (v := 0) E dX9_lowestTerms_60 rfl (by decide) (fun z_4 hz_4 => ?_)
      refine z_if_ne (tgt := 69) (u := z_4.toInt) E dX9_lowestTerms_61 (by decide) rfl (fun h_5 => ?_) (fun h_5 => ?_)
      ·
        refine s_lload E dX9_lowestTerms_69 rfl ?_
        refine s_lload E dX9_lowestTerms_71 rfl ?_
        refine s_ldiv E dX9_lowestTerms_73 (z_neL (u := q9_5_0.toInt) rfl (by omega)) ?_
        refine z_anyL (fun z_6 => ?_)
        exact r_long E dX9_lowestTerms_74 ⟨⟨by have hb_ := z64 z_6; omega, by have hb_ := z64 z_6; omega⟩, rfl⟩
      ·
        refine s_lload E dX9_lowestTerms_64 rfl ?_
        refine s_goto (tgt := 74) E dX9_lowestTerms_66 (by decide) ?_
        exact r_long E dX9_lowestTerms_74 ⟨⟨by have hb_ := z64 x2; omega, by have hb_ := z64 x2; omega⟩, rfl⟩
    ·
      refine s_lload_n E dX9_lowestTerms_50 rfl rfl ?_
      refine s_goto (tgt := 55) E dX9_lowestTerms_51 (by decide) ?_
      refine s_lstore (L2 := [some (AL x1), none, some (AL x2), none, some (AI x3), some (AL q9_5_0), none, some (AL q9_7_0), none, some (AL x1), none, none]) E dX9_lowestTerms_55 (by decide) rfl ?_
      refine s_lload E dX9_lowestTerms_57 rfl ?_
      refine s_lconst (v := 0) E dX9_lowestTerms_59 (by decide) ?_
      refine z_lcmp (u := q9_5_0.toInt) (v := 0) E dX9_lowestTerms_60 rfl (by decide) (fun z_7 hz_7 => ?_)
      refine z_if_ne (tgt := 69) (u := z_7.toInt) E dX9_lowestTerms_61 (by decide) rfl (fun h_8 => ?_) (fun h_8 => ?_)
      ·
        refine s_lload E dX9_lowestTerms_69 rfl ?_
        refine s_lload E dX9_lowestTerms_71 rfl ?_
        refine s_ldiv E dX9_lowestTerms_73 (z_neL (u := q9_5_0.toInt) rfl (by omega)) ?_
        refine z_anyL (fun z_9 => ?_)
        exact r_long E dX9_lowestTerms_74 ⟨⟨by have hb_ := z64 z_9; omega, by have hb_ := z64 z_9; omega⟩, rfl⟩
      ·
        refine s_lload E dX9_lowestTerms_64 rfl ?_
        refine s_goto (tgt := 74) E dX9_lowestTerms_66 (by decide) ?_
        exact r_long E dX9_lowestTerms_74 ⟨⟨by have hb_ := z64 x1; omega, by have hb_ := z64 x1; omega⟩, rfl⟩
  ·
    refine s_lload E dX9_lowestTerms_17 rfl ?_
    refine s_lconst (v := 0) E dX9_lowestTerms_19 (by decide) ?_
    refine z_lcmp (u := q9_7_0.toInt) (v := 0) E dX9_lowestTerms_20 rfl (by decide) (fun z_10 hz_10 => ?_)
    refine z_if_eq (tgt := 45) (u := z_10.toInt) E dX9_lowestTerms_21 (by decide) rfl (fun h_11 => ?_) (fun h_11 => ?_)
    ·
      refine s_iload E dX9_lowestTerms_45 rfl ?_
      refine z_if_ne (tgt := 54) (u := x3.toInt) E dX9_lowestTerms_47 (by decide) rfl (fun h_12 => ?_) (fun h_12 => ?_)
      ·
        refine s_lload_n E dX9_lowestTerms_54 rfl rfl ?_
        refine s_lstore (L2 := [some (AL x1), none, some (AL x2), none, some (AI x3), some (AL q9_5_0), none, some (AL q9_7_0), none, some (AL x2), none, none]) E dX9_lowestTerms_55 (by decide) rfl ?_
        refine s_lload E dX9_lowestTerms_57 rfl ?_
        refine s_lconst (v := 0) E dX9_lowestTerms_59 (by decide) ?_
        refine z_lcmp (u := q9_5_0.toInt) (v := 0) E dX9_lowestTerms_60 rfl (by decide) (fun z_13 hz_13 => ?_)
        refine z_if_ne (tgt := 69) (u := z_13.toInt) E dX9_lowestTerms_61 (by decide) rfl (fun h_14 => ?_) (fun h_14 => ?_)
        ·
          refine s_lload E dX9_lowestTerms_69 rfl ?_
          refine s_lload E dX9_lowestTerms_71 rfl ?_
          refine s_ldiv E dX9_lowestTerms_73 (z_neL (u := q9_5_0.toInt) rfl (by omega)) ?_
          refine z_anyL (fun z_15 => ?_)
          exact r_long E dX9_lowestTerms_74 ⟨⟨by have hb_ := z64 z_15; omega, by have hb_ := z64 z_15; omega⟩, rfl⟩
        ·
          refine s_lload E dX9_lowestTerms_64 rfl ?_
          refine s_goto (tgt := 74) E dX9_lowestTerms_66 (by decide) ?_
          exact r_long E dX9_lowestTerms_74 ⟨⟨by have hb_ := z64 x2; omega, by have hb_ := z64 x2; omega⟩, rfl⟩
      ·
        refine s_lload_n E dX9_lowestTerms_50 rfl rfl ?_
        refine s_goto (tgt := 55) E dX9_lowestTerms_51 (by decide) ?_
        refine s_lstore (L2 := [some (AL x1), none, some (AL x2), none, some (AI x3), some (AL q9_5_0), none, some (AL q9_7_0), none, some (AL x1), none, none]) E dX9_lowestTerms_55 (by decide) rfl ?_
        refine s_lload E dX9_lowestTerms_57 rfl ?_
        refine s_lconst (v := 0) E dX9_lowestTerms_59 (by decide) ?_
        refine z_lcmp (u := q9_5_0.toInt) (v := 0) E dX9_lowestTerms_60 rfl (by decide) (fun z_16 hz_16 => ?_)
        refine z_if_ne (tgt := 69) (u := z_16.toInt) E dX9_lowestTerms_61 (by decide) rfl (fun h_17 => ?_) (fun h_17 => ?_)
        ·
          refine s_lload E dX9_lowestTerms_69 rfl ?_
          refine s_lload E dX9_lowestTerms_71 rfl ?_
          refine s_ldiv E dX9_lowestTerms_73 (z_neL (u := q9_5_0.toInt) rfl (by omega)) ?_
          refine z_anyL (fun z_18 => ?_)
          exact r_long E dX9_lowestTerms_74 ⟨⟨by have hb_ := z64 z_18; omega, by have hb_ := z64 z_18; omega⟩, rfl⟩
        ·
          refine s_lload E dX9_lowestTerms_64 rfl ?_
          refine s_goto (tgt := 74) E dX9_lowestTerms_66 (by decide) ?_
          exact r_long E dX9_lowestTerms_74 ⟨⟨by have hb_ := z64 x1; omega, by have hb_ := z64 x1; omega⟩, rfl⟩
    ·
      refine s_lload E dX9_lowestTerms_24 rfl ?_
      refine s_lload E dX9_lowestTerms_26 rfl ?_
      refine s_lrem E dX9_lowestTerms_28 (z_neL (u := q9_7_0.toInt) rfl (by omega)) ?_
      refine z_anyL (fun z_19 => ?_)
      refine s_lstore (L2 := [some (AL x1), none, some (AL x2), none, some (AI x3), some (AL q9_5_0), none, some (AL q9_7_0), none, some (AI q9_9_0), some (AL z_19), none]) E dX9_lowestTerms_29 (by decide) rfl ?_
      refine s_lload E dX9_lowestTerms_31 rfl ?_
      refine s_lstore (L2 := [some (AL x1), none, some (AL x2), none, some (AI x3), some (AL q9_7_0), none, some (AL q9_7_0), none, some (AI q9_9_0), some (AL z_19), none]) E dX9_lowestTerms_33 (by decide) rfl ?_
      refine s_lload E dX9_lowestTerms_35 rfl ?_
      refine s_lstore (L2 := [some (AL x1), none, some (AL x2), none, some (AI x3), some (AL q9_7_0), none, some (AL z_19), none, some (AI q9_9_0), some (AL z_19), none]) E dX9_lowestTerms_37 (by decide) rfl ?_
      refine z_iinc (u := q9_9_0.toInt) (L2 := fun z_20 => [some (AL x1), none, some (AL x2), none, some (AI x3), some (AL q9_7_0), none, some (AL z_19), none, some (AI z_20), some (AL z_19), none]) E dX9_lowestTerms_39 rfl rfl (by decide) (fun _ => rfl) (by decide) (by omega) (by omega) (fun z_20 hz_20 => ?_)
      refine s_goto (tgt := 9) E dX9_lowestTerms_42 (by decide) ?_
      refine s_drop (i := 10) (L2 := [some (AL x1), none, some (AL x2), none, some (AI x3), some (AL q9_7_0), none, some (AL z_19), none, some (AI z_20), none, none]) rfl ?_
      exact ih9 ⟨q9_7_0, z_19, z_20⟩ w ⟨⟨by have hb_ := z32 z_20; omega, by have hb_ := z32 z_20; omega⟩, rfl⟩ (by first | omega | decide | (dsimp only; omega) | (dsimp only; decide))
set_option maxRecDepth 20000 in
set_option maxHeartbeats 2000000 in
theorem Z_X9_part_0 (l : Launch) (D : va_G) (aC : Nat → ClassId) (b : Nat) (w : XW) (x1 : Int32) (x2 : Int32) (hI : Iv w)  : CnI l D aC b M_X9_part 4 89 0 0 [AR 0, AI x1, AI x2] w (fun r u => ((-2147483648) ≤ r.toInt ∧ r.toInt ≤ 2147483647 ∧ (¬ r.toInt = 0 ∨ (0 ≤ x1.toInt ∧ x1.toInt ≤ 5)) ∧ (¬ r.toInt = 0 ∨ (0 ≤ x2.toInt ∧ x2.toInt ≤ 1)) ∧ (¬ r.toInt = 0 ∨ (1 ≤ (w.2.2.1 5 3).toInt ∧ (w.2.2.1 5 3).toInt ≤ 6)) ∧ (¬ r.toInt = 0 ∨ (1 ≤ (w.2.2.1 7 3).toInt ∧ (w.2.2.1 7 3).toInt ≤ 8))) ∧ Jv w u) := by
  refine cn_I (own := RX9) (nm := "part") (L0 := [some (AR 0), some (AI x1), some (AI x2)]) (by decide +kernel) rfl rfl (Nat.le_of_ble_eq_true rfl) rfl ?_
  intro p e s m args below meth c E hin
  have hJ : Jv w w := jv_rfl hI
  have hb_x1 := z32 x1
  have hb_x2 := z32 x2
  refine s_aload_n E dX9_part_0 rfl rfl ?_
  refine s_gR (r := 2) E fg_X9_20 rfl rfl (jv_lt hJ (by decide)) (jv_r hJ (by decide +kernel)) dX9_part_1 ?_
  refine s_iload_n E dX9_part_4 rfl rfl ?_
  refine s_vI (As := [AI x1]) (S := []) E (Z_X0_hasLady_2 l D aC b w x1 hJ.1 ) cv_X9_139 rfl rfl rfl (jv_lt hJ (by decide)) (Nat.le_of_ble_eq_true rfl) (Nat.le_of_ble_eq_true rfl) ⟨(Nat.le_of_ble_eq_true rfl), (Nat.le_of_ble_eq_true rfl)⟩ (Nat.le_of_ble_eq_true rfl) dX9_part_5 (fun z_3 u_1 hp_2 => ?_)
  obtain ⟨hz_3, hp_2⟩ := hp_2
  subst hp_2
  refine z_if_eq (tgt := 18) (u := z_3.toInt) E dX9_part_8 (by decide) rfl (fun h_5 => ?_) (fun h_5 => ?_)
  ·
    refine s_bipush (v := (-2)) E dX9_part_18 (by decide) ?_
    exact r_int E dX9_part_20 ⟨⟨by decide, by decide, by first | (left; decide) | (right; decide) | (right; have hb_ := z32 x1; omega), by first | (left; decide) | (right; decide) | (right; have hb_ := z32 x2; omega), by first | (left; decide) | (right; decide) | (right; have hb_ := z32 (w.2.2.1 5 3); omega), by first | (left; decide) | (right; decide) | (right; have hb_ := z32 (w.2.2.1 7 3); omega)⟩, hJ⟩
  ·
    refine s_iload_n E dX9_part_11 rfl rfl ?_
    refine s_sI (As := [AI x2]) (S := []) E (Z_X9_isPart l D aC b w x2 hJ.1 ) cs_X9_320 rfl rfl (Nat.le_of_ble_eq_true rfl) (Nat.le_of_ble_eq_true rfl) ⟨(Nat.le_of_ble_eq_true rfl), (Nat.le_of_ble_eq_true rfl)⟩ (Nat.le_of_ble_eq_true rfl) dX9_part_12 (fun z_8 u_6 hp_7 => ?_)
    obtain ⟨hz_8, hp_7⟩ := hp_7
    subst hp_7
    refine z_if_ne (tgt := 21) (u := z_8.toInt) E dX9_part_15 (by decide) rfl (fun h_10 => ?_) (fun h_10 => ?_)
    ·
      refine s_aload_n E dX9_part_21 rfl rfl ?_
      refine s_gR (r := 2) E fg_X9_20 rfl rfl (jv_lt hJ (by decide)) (jv_r hJ (by decide +kernel)) dX9_part_22 ?_
      refine s_gR (r := 7) E fg_X9_136 rfl rfl (jv_lt hJ (by decide)) (jv_r hJ (by decide +kernel)) dX9_part_25 ?_
      refine s_gI E fg_X9_200 rfl rfl (jv_lt hJ (by decide)) dX9_part_28 ?_
      refine z_nm (P := fun z => z.toInt = (w.2.2.1 7 3).toInt ∧ 0 ≤ z.toInt ∧ z.toInt ≤ 8) ⟨rfl, (rg_7_3 hJ)⟩ (fun z_11 hz_11 => ?_)
      refine z_if_ne (tgt := 36) (u := z_11.toInt) E dX9_part_31 (by decide) rfl (fun h_12 => ?_) (fun h_12 => ?_)
      ·
        refine s_aload_n E dX9_part_36 rfl rfl ?_
        refine s_gR (r := 89) E fg_X9_78 rfl rfl (jv_lt hJ (by decide)) (jv_r hJ (by decide +kernel)) dX9_part_37 ?_
        refine s_aload_n E dX9_part_40 rfl rfl ?_
        refine s_gR (r := 2) E fg_X9_20 rfl rfl (jv_lt hJ (by decide)) (jv_r hJ (by decide +kernel)) dX9_part_41 ?_
        refine s_vV (As := [AR 2]) (S := []) E (Z_X3_tally_89_r2 l D aC b w  hJ.1 ) cv_X9_311 rfl rfl rfl (jv_lt hJ (by decide)) (Nat.le_of_ble_eq_true rfl) (Nat.le_of_ble_eq_true rfl) ⟨(Nat.le_of_ble_eq_true rfl), (Nat.le_of_ble_eq_true rfl)⟩ (Nat.le_of_ble_eq_true rfl) dX9_part_44 (fun u_13 hp_14 => ?_)
        have hj_15 := jv_trans hJ hp_14
        refine s_aload_n E dX9_part_47 rfl rfl ?_
        refine s_gR (r := 89) E fg_X9_78 rfl rfl (jv_lt hj_15 (by decide)) (jv_r hj_15 (by decide +kernel)) dX9_part_48 ?_
        refine s_iconst (v := 1) E dX9_part_51 (by decide) ?_
        refine s_iload_n E dX9_part_52 rfl rfl ?_
        refine z_shl1 5 (u := x1.toInt) (B := 32) E dX9_part_53 rfl (by omega) (by omega) (by decide) (by decide) (fun z_16 hz_16 => ?_)
        refine s_vI (As := [AI z_16]) (S := []) E (Z_X3_seatsOf_89 l D aC b u_13 z_16 hj_15.1 ) cv_X9_323 rfl rfl rfl (jv_lt hj_15 (by decide)) (Nat.le_of_ble_eq_true rfl) (Nat.le_of_ble_eq_true rfl) ⟨(Nat.le_of_ble_eq_true rfl), (Nat.le_of_ble_eq_true rfl)⟩ (Nat.le_of_ble_eq_true rfl) dX9_part_54 (fun z_19 u_17 hp_18 => ?_)
        obtain ⟨hz_19, hp_18⟩ := hp_18
        subst hp_18
        refine z_i2l (u := z_19.toInt) E dX9_part_57 rfl (fun z_21 hz_21 => ?_)
        refine s_aload_n E dX9_part_58 rfl rfl ?_
        refine s_gR (r := 89) E fg_X9_78 rfl rfl (jv_lt hj_15 (by decide)) (jv_r hj_15 (by decide +kernel)) dX9_part_59 ?_
        refine s_gI E fg_X9_326 rfl rfl (jv_lt hj_15 (by decide)) dX9_part_62 ?_
        refine z_nm (P := fun z => z.toInt = (u_13.2.2.1 89 2).toInt ∧ (-2147483648) ≤ z.toInt ∧ z.toInt ≤ 2147483647) ⟨rfl, z32 _⟩ (fun z_22 hz_22 => ?_)
        refine z_i2l (u := z_22.toInt) E dX9_part_65 rfl (fun z_23 hz_23 => ?_)
        refine s_iload_n E dX9_part_66 rfl rfl ?_
        refine s_sL (As := [AL z_21, AL z_23, AI x2]) (S := []) E (Z_X9_lowestTerms l D aC b u_13 z_21 z_23 x2 hj_15.1 ) cs_X9_329 rfl rfl (Nat.le_of_ble_eq_true rfl) (Nat.le_of_ble_eq_true rfl) ⟨(Nat.le_of_ble_eq_true rfl), (Nat.le_of_ble_eq_true rfl)⟩ (Nat.le_of_ble_eq_true rfl) dX9_part_67 (fun z_26 u_24 hp_25 => ?_)
        obtain ⟨hz_26, hp_25⟩ := hp_25
        subst hp_25
        refine s_l2i E dX9_part_70 ?_
        refine z_nm (P := fun z => (-2147483648) ≤ z.toInt ∧ z.toInt ≤ 2147483647) (z32 _) (fun z_28 hz_28 => ?_)
        exact r_int E dX9_part_71 ⟨⟨by have hb_ := z32 z_28; omega, by have hb_ := z32 z_28; omega, by first | (right; decide) | (have hb_ := z32 z_28; omega) | (have hb_ := z32 z_28; have hc_ := z32 x1; omega), by first | (right; decide) | (have hb_ := z32 z_28; omega) | (have hb_ := z32 z_28; have hc_ := z32 x2; omega), by first | (right; decide) | (have hb_ := z32 z_28; omega) | (have hb_ := z32 z_28; have hc_ := z32 (w.2.2.1 5 3); omega), by first | (right; decide) | (have hb_ := z32 z_28; omega) | (have hb_ := z32 z_28; have hc_ := z32 (w.2.2.1 7 3); omega)⟩, hj_15⟩
      ·
        refine s_iconst (v := (-1)) E dX9_part_34 (by decide) ?_
        exact r_int E dX9_part_35 ⟨⟨by decide, by decide, by first | (left; decide) | (right; decide) | (right; have hb_ := z32 x1; omega), by first | (left; decide) | (right; decide) | (right; have hb_ := z32 x2; omega), by first | (left; decide) | (right; decide) | (right; have hb_ := z32 (w.2.2.1 5 3); omega), by first | (left; decide) | (right; decide) | (right; have hb_ := z32 (w.2.2.1 7 3); omega)⟩, hJ⟩
    ·
      refine s_bipush (v := (-2)) E dX9_part_18 (by decide) ?_
      exact r_int E dX9_part_20 ⟨⟨by decide, by decide, by first | (left; decide) | (right; decide) | (right; have hb_ := z32 x1; omega), by first | (left; decide) | (right; decide) | (right; have hb_ := z32 x2; omega), by first | (left; decide) | (right; decide) | (right; have hb_ := z32 (w.2.2.1 5 3); omega), by first | (left; decide) | (right; decide) | (right; have hb_ := z32 (w.2.2.1 7 3); omega)⟩, hJ⟩
set_option maxRecDepth 20000 in
set_option maxHeartbeats 2000000 in
theorem Z_X9_cabinet_0 (l : Launch) (D : va_G) (aC : Nat → ClassId) (b : Nat) (w : XW)  (hI : Iv w)  : CnI l D aC b M_X9_cabinet 4 89 0 0 [AR 0] w (fun r u => ((-2) ≤ r.toInt ∧ r.toInt ≤ 64 ∧ (¬ r.toInt = 0 ∨ (1 ≤ (w.2.2.1 2 0).toInt ∧ (w.2.2.1 2 0).toInt ≤ 2147483647))) ∧ Jv w u) := by
  refine cn_I (own := RX9) (nm := "cabinet") (L0 := [some (AR 0), none, none, none]) (by decide +kernel) rfl rfl (Nat.le_of_ble_eq_true rfl) rfl ?_
  intro p e s m args below meth c E hin
  have hJ : Jv w w := jv_rfl hI
  refine s_aload_n E dX9_cabinet_0 rfl rfl ?_
  refine s_gR (r := 2) E fg_X9_20 rfl rfl (jv_lt hJ (by decide)) (jv_r hJ (by decide +kernel)) dX9_cabinet_1 ?_
  refine s_vI (As := []) (S := []) E (Z_X0_isTold_2 l D aC b w  hJ.1 ) cv_X9_184 rfl rfl rfl (jv_lt hJ (by decide)) (Nat.le_of_ble_eq_true rfl) (Nat.le_of_ble_eq_true rfl) ⟨(Nat.le_of_ble_eq_true rfl), (Nat.le_of_ble_eq_true rfl)⟩ (Nat.le_of_ble_eq_true rfl) dX9_cabinet_4 (fun z_3 u_1 hp_2 => ?_)
  obtain ⟨hz_3, hp_2⟩ := hp_2
  subst hp_2
  refine z_if_ne (tgt := 13) (u := z_3.toInt) E dX9_cabinet_7 (by decide) rfl (fun h_5 => ?_) (fun h_5 => ?_)
  ·
    refine s_aload_n E dX9_cabinet_13 rfl rfl ?_
    refine s_gR (r := 89) E fg_X9_78 rfl rfl (jv_lt hJ (by decide)) (jv_r hJ (by decide +kernel)) dX9_cabinet_14 ?_
    refine s_aload_n E dX9_cabinet_17 rfl rfl ?_
    refine s_gR (r := 2) E fg_X9_20 rfl rfl (jv_lt hJ (by decide)) (jv_r hJ (by decide +kernel)) dX9_cabinet_18 ?_
    refine s_vV (As := [AR 2]) (S := []) E (Z_X3_tally_89_r2 l D aC b w  hJ.1 ) cv_X9_311 rfl rfl rfl (jv_lt hJ (by decide)) (Nat.le_of_ble_eq_true rfl) (Nat.le_of_ble_eq_true rfl) ⟨(Nat.le_of_ble_eq_true rfl), (Nat.le_of_ble_eq_true rfl)⟩ (Nat.le_of_ble_eq_true rfl) dX9_cabinet_21 (fun u_6 hp_7 => ?_)
    have hj_8 := jv_trans hJ hp_7
    refine s_iconst (v := (-1)) E dX9_cabinet_24 (by decide) ?_
    refine s_istore_n (L2 := [some (AR 0), some (AI (-1)), none, none]) E dX9_cabinet_25 rfl (by decide) rfl ?_
    refine s_bipush (v := 7) E dX9_cabinet_26 (by decide) ?_
    refine s_istore_n (L2 := [some (AR 0), some (AI (-1)), some (AI 7), none]) E dX9_cabinet_28 rfl (by decide) rfl ?_
    refine s_iconst (v := 0) E dX9_cabinet_29 (by decide) ?_
    refine s_istore_n (L2 := [some (AR 0), some (AI (-1)), some (AI 7), some (AI 0)]) E dX9_cabinet_30 rfl (by decide) rfl ?_
    refine z_loop (St := Int32 × Int32 × Int32) (Pi := fun ⟨q31_1_8, q31_2_8, q31_3_8⟩ v31 => ((-1) ≤ q31_1_8.toInt ∧ q31_1_8.toInt ≤ 64) ∧ (0 ≤ q31_2_8.toInt ∧ q31_2_8.toInt ≤ 63) ∧ (0 ≤ q31_3_8.toInt ∧ q31_3_8.toInt ≤ 64) ∧ u_6 = v31) (Lf := fun ⟨q31_1_8, q31_2_8, q31_3_8⟩ => [some (AR 0), some (AI q31_1_8), some (AI q31_2_8), some (AI q31_3_8)]) (fun ⟨q31_1_8, q31_2_8, q31_3_8⟩ _ => (65 - q31_3_8.toInt).toNat) ⟨(-1), 7, 0⟩ ⟨⟨by decide, by decide⟩, ⟨by decide, by decide⟩, ⟨by decide, by decide⟩, rfl⟩ ?_
    rintro ⟨q31_1_8, q31_2_8, q31_3_8⟩ v31 ⟨hq31_1, hq31_2, hq31_3, hv_⟩ ih31
    subst hv_
    refine s_loc (L2 := [some (AR 0), some (AI q31_1_8), some (AI q31_2_8), some (AI q31_3_8)]) rfl ?_
    refine s_iload_n E dX9_cabinet_31 rfl rfl ?_
    refine s_aload_n E dX9_cabinet_32 rfl rfl ?_
    refine s_gR (r := 2) E fg_X9_20 rfl rfl (jv_lt hj_8 (by decide)) (jv_r hj_8 (by decide +kernel)) dX9_cabinet_33 ?_
    refine s_vI (As := []) (S := [AI q31_3_8]) E (Z_X0_everybody_2 l D aC b u_6  hj_8.1 ) cv_X9_240 rfl rfl rfl (jv_lt hj_8 (by decide)) (Nat.le_of_ble_eq_true rfl) (Nat.le_of_ble_eq_true rfl) ⟨(Nat.le_of_ble_eq_true rfl), (Nat.le_of_ble_eq_true rfl)⟩ (Nat.le_of_ble_eq_true rfl) dX9_cabinet_36 (fun z_12 u_10 hp_11 => ?_)
    obtain ⟨hz_12, hp_11⟩ := hp_11
    subst hp_11
    refine z_icmp_gt (tgt := 74) (u := q31_3_8.toInt) (v := z_12.toInt) E dX9_cabinet_39 (by decide) rfl rfl (fun h_14 => ?_) (fun h_14 => ?_)
    ·
      refine s_iload_n E dX9_cabinet_74 rfl rfl ?_
      exact r_int E dX9_cabinet_75 ⟨⟨by have hb_ := z32 q31_1_8; omega, by have hb_ := z32 q31_1_8; omega, by first | (right; decide) | (have hb_ := z32 q31_1_8; omega) | (have hb_ := z32 q31_1_8; have hc_ := z32 (w.2.2.1 2 0); omega)⟩, hj_8⟩
    ·
      refine s_aload_n E dX9_cabinet_42 rfl rfl ?_
      refine s_gR (r := 89) E fg_X9_78 rfl rfl (jv_lt hj_8 (by decide)) (jv_r hj_8 (by decide +kernel)) dX9_cabinet_43 ?_
      refine s_iload_n E dX9_cabinet_46 rfl rfl ?_
      refine s_vI (As := [AI q31_3_8]) (S := []) E (Z_X3_isMajority_89 l D aC b u_6 q31_3_8 hj_8.1 ) cv_X9_314 rfl rfl rfl (jv_lt hj_8 (by decide)) (Nat.le_of_ble_eq_true rfl) (Nat.le_of_ble_eq_true rfl) ⟨(Nat.le_of_ble_eq_true rfl), (Nat.le_of_ble_eq_true rfl)⟩ (Nat.le_of_ble_eq_true rfl) dX9_cabinet_47 (fun z_17 u_15 hp_16 => ?_)
      obtain ⟨hz_17, hp_16⟩ := hp_16
      subst hp_16
      refine z_if_eq (tgt := 68) (u := z_17.toInt) E dX9_cabinet_50 (by decide) rfl (fun h_19 => ?_) (fun h_19 => ?_)
      ·
        refine z_iinc (u := q31_3_8.toInt) (L2 := fun z_20 => [some (AR 0), some (AI q31_1_8), some (AI q31_2_8), some (AI z_20)]) E dX9_cabinet_68 rfl rfl (by decide) (fun _ => rfl) (by decide) (by omega) (by omega) (fun z_20 hz_20 => ?_)
        refine s_goto (tgt := 31) E dX9_cabinet_71 (by decide) ?_
        exact ih31 ⟨q31_1_8, q31_2_8, z_20⟩ u_6 ⟨⟨by have hb_ := z32 q31_1_8; omega, by have hb_ := z32 q31_1_8; omega⟩, ⟨by have hb_ := z32 q31_2_8; omega, by have hb_ := z32 q31_2_8; omega⟩, ⟨by have hb_ := z32 z_20; omega, by have hb_ := z32 z_20; omega⟩, rfl⟩ (by first | omega | decide | (dsimp only; omega) | (dsimp only; decide))
      ·
        refine s_iload_n E dX9_cabinet_53 rfl rfl ?_
        refine s_sI (As := [AI q31_3_8]) (S := []) E (Z_J6_bitCount_0f7a4 l D aC b u_6 q31_3_8 hj_8.1 ) cs_X9_203 rfl rfl (Nat.le_of_ble_eq_true rfl) (Nat.le_of_ble_eq_true rfl) ⟨(Nat.le_of_ble_eq_true rfl), (Nat.le_of_ble_eq_true rfl)⟩ (Nat.le_of_ble_eq_true rfl) dX9_cabinet_54 (fun z_23 u_21 hp_22 => ?_)
        obtain ⟨hz_23, hp_22⟩ := hp_22
        subst hp_22
        refine s_iload_n E dX9_cabinet_57 rfl rfl ?_
        refine z_icmp_ge (tgt := 68) (u := z_23.toInt) (v := q31_2_8.toInt) E dX9_cabinet_58 (by decide) rfl rfl (fun h_25 => ?_) (fun h_25 => ?_)
        ·
          refine z_iinc (u := q31_3_8.toInt) (L2 := fun z_26 => [some (AR 0), some (AI q31_1_8), some (AI q31_2_8), some (AI z_26)]) E dX9_cabinet_68 rfl rfl (by decide) (fun _ => rfl) (by decide) (by omega) (by omega) (fun z_26 hz_26 => ?_)
          refine s_goto (tgt := 31) E dX9_cabinet_71 (by decide) ?_
          exact ih31 ⟨q31_1_8, q31_2_8, z_26⟩ u_6 ⟨⟨by have hb_ := z32 q31_1_8; omega, by have hb_ := z32 q31_1_8; omega⟩, ⟨by have hb_ := z32 q31_2_8; omega, by have hb_ := z32 q31_2_8; omega⟩, ⟨by have hb_ := z32 z_26; omega, by have hb_ := z32 z_26; omega⟩, rfl⟩ (by first | omega | decide | (dsimp only; omega) | (dsimp only; decide))
        ·
          refine s_iload_n E dX9_cabinet_61 rfl rfl ?_
          refine s_sI (As := [AI q31_3_8]) (S := []) E (Z_J6_bitCount_0f7a4 l D aC b u_6 q31_3_8 hj_8.1 ) cs_X9_203 rfl rfl (Nat.le_of_ble_eq_true rfl) (Nat.le_of_ble_eq_true rfl) ⟨(Nat.le_of_ble_eq_true rfl), (Nat.le_of_ble_eq_true rfl)⟩ (Nat.le_of_ble_eq_true rfl) dX9_cabinet_62 (fun z_29 u_27 hp_28 => ?_)
          obtain ⟨hz_29, hp_28⟩ := hp_28
          subst hp_28
          refine s_istore_n (L2 := [some (AR 0), some (AI q31_1_8), some (AI z_29), some (AI q31_3_8)]) E dX9_cabinet_65 rfl (by decide) rfl ?_
          refine s_iload_n E dX9_cabinet_66 rfl rfl ?_
          refine s_istore_n (L2 := [some (AR 0), some (AI q31_3_8), some (AI z_29), some (AI q31_3_8)]) E dX9_cabinet_67 rfl (by decide) rfl ?_
          refine z_iinc (u := q31_3_8.toInt) (L2 := fun z_31 => [some (AR 0), some (AI q31_3_8), some (AI z_29), some (AI z_31)]) E dX9_cabinet_68 rfl rfl (by decide) (fun _ => rfl) (by decide) (by omega) (by omega) (fun z_31 hz_31 => ?_)
          refine s_goto (tgt := 31) E dX9_cabinet_71 (by decide) ?_
          exact ih31 ⟨q31_3_8, z_29, z_31⟩ u_6 ⟨⟨by have hb_ := z32 q31_3_8; omega, by have hb_ := z32 q31_3_8; omega⟩, ⟨by have hb_ := z32 z_29; omega, by have hb_ := z32 z_29; omega⟩, ⟨by have hb_ := z32 z_31; omega, by have hb_ := z32 z_31; omega⟩, rfl⟩ (by first | omega | decide | (dsimp only; omega) | (dsimp only; decide))
  ·
    refine s_bipush (v := (-2)) E dX9_cabinet_10 (by decide) ?_
    exact r_int E dX9_cabinet_12 ⟨⟨by decide, by decide, by first | (left; decide) | (right; decide) | (right; have hb_ := z32 (w.2.2.1 2 0); omega)⟩, hJ⟩
set_option maxRecDepth 20000 in
set_option maxHeartbeats 2000000 in
theorem Z_X3_isLeastMajority_89 (l : Launch) (D : va_G) (aC : Nat → ClassId) (b : Nat) (w : XW) (x1 : Int32) (hI : Iv w)  : CnI l D aC b M_X3_isLeastMajority 3 65 0 0 [AR 89, AI x1] w (fun r u => (0 ≤ r.toInt ∧ r.toInt ≤ 1) ∧ w = u) := by
  refine cn_I (own := RX3) (nm := "isLeastMajority") (L0 := [some (AR 89), some (AI x1), none]) (by decide +kernel) rfl rfl (Nat.le_of_ble_eq_true rfl) rfl ?_
  intro p e s m args below meth c E hin
  have hJ : Jv w w := jv_rfl hI
  have hb_x1 := z32 x1
  refine s_aload_n E dX3_isLeastMajority_0 rfl rfl ?_
  refine s_iload_n E dX3_isLeastMajority_1 rfl rfl ?_
  refine s_vI (As := [AI x1]) (S := []) E (Z_X3_isMajority_89 l D aC b w x1 hJ.1 ) cv_X3_46 rfl rfl rfl (jv_lt hJ (by decide)) (Nat.le_of_ble_eq_true rfl) (Nat.le_of_ble_eq_true rfl) ⟨(Nat.le_of_ble_eq_true rfl), (Nat.le_of_ble_eq_true rfl)⟩ (Nat.le_of_ble_eq_true rfl) dX3_isLeastMajority_2 (fun z_3 u_1 hp_2 => ?_)
  obtain ⟨hz_3, hp_2⟩ := hp_2
  subst hp_2
  refine z_if_ne (tgt := 10) (u := z_3.toInt) E dX3_isLeastMajority_5 (by decide) rfl (fun h_5 => ?_) (fun h_5 => ?_)
  ·
    refine s_iconst (v := 0) E dX3_isLeastMajority_10 (by decide) ?_
    refine s_istore_n (L2 := [some (AR 89), some (AI x1), some (AI 0)]) E dX3_isLeastMajority_11 rfl (by decide) rfl ?_
    refine z_loop (St := Int32) (Pi := fun q12_2_5 v12 => (0 ≤ q12_2_5.toInt ∧ q12_2_5.toInt ≤ 6) ∧ w = v12) (Lf := fun q12_2_5 => [some (AR 89), some (AI x1), some (AI q12_2_5)]) (fun q12_2_5 _ => (7 - q12_2_5.toInt).toNat) 0 ⟨⟨by decide, by decide⟩, rfl⟩ ?_
    rintro q12_2_5 v12 ⟨hq12_2, hv_⟩ ih12
    subst hv_
    refine s_loc (L2 := [some (AR 89), some (AI x1), some (AI q12_2_5)]) rfl ?_
    refine s_iload_n E dX3_isLeastMajority_12 rfl rfl ?_
    refine s_aload_n E dX3_isLeastMajority_13 rfl rfl ?_
    refine s_gI E fg_X3_27 rfl rfl (jv_lt hJ (by decide)) dX3_isLeastMajority_14 ?_
    refine z_nm (P := fun z => z.toInt = (w.2.2.1 89 1).toInt ∧ 0 ≤ z.toInt ∧ z.toInt ≤ 6) ⟨rfl, (rg_89_1 hJ)⟩ (fun z_7 hz_7 => ?_)
    refine z_icmp_ge (tgt := 50) (u := q12_2_5.toInt) (v := z_7.toInt) E dX3_isLeastMajority_17 (by decide) rfl rfl (fun h_8 => ?_) (fun h_8 => ?_)
    ·
      refine s_iconst (v := 1) E dX3_isLeastMajority_50 (by decide) ?_
      exact r_bool E dX3_isLeastMajority_51 (Or.inr rfl) ⟨(by decide), rfl⟩
    ·
      refine s_iload_n E dX3_isLeastMajority_20 rfl rfl ?_
      refine s_iload_n E dX3_isLeastMajority_21 rfl rfl ?_
      refine s_sI (As := [AI x1, AI q12_2_5]) (S := []) E (Z_X9_hasBit l D aC b w x1 q12_2_5 hJ.1 ) cs_X3_35 rfl rfl (Nat.le_of_ble_eq_true rfl) (Nat.le_of_ble_eq_true rfl) ⟨(Nat.le_of_ble_eq_true rfl), (Nat.le_of_ble_eq_true rfl)⟩ (Nat.le_of_ble_eq_true rfl) dX3_isLeastMajority_22 (fun z_11 u_9 hp_10 => ?_)
      obtain ⟨hz_11, hp_10⟩ := hp_10
      subst hp_10
      refine z_if_eq (tgt := 44) (u := z_11.toInt) E dX3_isLeastMajority_25 (by decide) rfl (fun h_13 => ?_) (fun h_13 => ?_)
      ·
        refine z_iinc (u := q12_2_5.toInt) (L2 := fun z_14 => [some (AR 89), some (AI x1), some (AI z_14)]) E dX3_isLeastMajority_44 rfl rfl (by decide) (fun _ => rfl) (by decide) (by omega) (by omega) (fun z_14 hz_14 => ?_)
        refine s_goto (tgt := 12) E dX3_isLeastMajority_47 (by decide) ?_
        exact ih12 z_14 w ⟨⟨by have hb_ := z32 z_14; omega, by have hb_ := z32 z_14; omega⟩, rfl⟩ (by first | omega | decide | (dsimp only; omega) | (dsimp only; decide))
      ·
        refine s_aload_n E dX3_isLeastMajority_28 rfl rfl ?_
        refine s_iload_n E dX3_isLeastMajority_29 rfl rfl ?_
        refine s_iconst (v := 1) E dX3_isLeastMajority_30 (by decide) ?_
        refine s_iload_n E dX3_isLeastMajority_31 rfl rfl ?_
        refine z_shl1 5 (u := q12_2_5.toInt) (B := 32) E dX3_isLeastMajority_32 rfl (by omega) (by omega) (by decide) (by decide) (fun z_15 hz_15 => ?_)
        refine s_iconst (v := (-1)) E dX3_isLeastMajority_33 (by decide) ?_
        refine s_ixor E dX3_isLeastMajority_34 ?_
        refine z_nm (P := fun z => (-2147483648) ≤ z.toInt ∧ z.toInt ≤ 2147483647) (z32 _) (fun z_16 hz_16 => ?_)
        refine s_iand E dX3_isLeastMajority_35 ?_
        refine z_nm (P := fun z => (-2147483648) ≤ z.toInt ∧ z.toInt ≤ 2147483647) (z32 _) (fun z_17 hz_17 => ?_)
        refine s_vI (As := [AI z_17]) (S := []) E (Z_X3_isMajority_89 l D aC b w z_17 hJ.1 ) cv_X3_46 rfl rfl rfl (jv_lt hJ (by decide)) (Nat.le_of_ble_eq_true rfl) (Nat.le_of_ble_eq_true rfl) ⟨(Nat.le_of_ble_eq_true rfl), (Nat.le_of_ble_eq_true rfl)⟩ (Nat.le_of_ble_eq_true rfl) dX3_isLeastMajority_36 (fun z_20 u_18 hp_19 => ?_)
        obtain ⟨hz_20, hp_19⟩ := hp_19
        subst hp_19
        refine z_if_eq (tgt := 44) (u := z_20.toInt) E dX3_isLeastMajority_39 (by decide) rfl (fun h_22 => ?_) (fun h_22 => ?_)
        ·
          refine z_iinc (u := q12_2_5.toInt) (L2 := fun z_23 => [some (AR 89), some (AI x1), some (AI z_23)]) E dX3_isLeastMajority_44 rfl rfl (by decide) (fun _ => rfl) (by decide) (by omega) (by omega) (fun z_23 hz_23 => ?_)
          refine s_goto (tgt := 12) E dX3_isLeastMajority_47 (by decide) ?_
          exact ih12 z_23 w ⟨⟨by have hb_ := z32 z_23; omega, by have hb_ := z32 z_23; omega⟩, rfl⟩ (by first | omega | decide | (dsimp only; omega) | (dsimp only; decide))
        ·
          refine s_iconst (v := 0) E dX3_isLeastMajority_42 (by decide) ?_
          exact r_bool E dX3_isLeastMajority_43 (Or.inl rfl) ⟨(by decide), rfl⟩
  ·
    refine s_iconst (v := 0) E dX3_isLeastMajority_8 (by decide) ?_
    exact r_bool E dX3_isLeastMajority_9 (Or.inl rfl) ⟨(by decide), rfl⟩
set_option maxRecDepth 20000 in
set_option maxHeartbeats 2000000 in
theorem Z_X9_cabinets_0 (l : Launch) (D : va_G) (aC : Nat → ClassId) (b : Nat) (w : XW)  (hI : Iv w)  : CnI l D aC b M_X9_cabinets 4 89 0 0 [AR 0] w (fun r u => ((-2147483648) ≤ r.toInt ∧ r.toInt ≤ 2147483647 ∧ (¬ r.toInt = 0 ∨ (1 ≤ (w.2.2.1 2 0).toInt ∧ (w.2.2.1 2 0).toInt ≤ 2147483647))) ∧ Jv w u) := by
  refine cn_I (own := RX9) (nm := "cabinets") (L0 := [some (AR 0), none, none]) (by decide +kernel) rfl rfl (Nat.le_of_ble_eq_true rfl) rfl ?_
  intro p e s m args below meth c E hin
  have hJ : Jv w w := jv_rfl hI
  refine s_aload_n E dX9_cabinets_0 rfl rfl ?_
  refine s_gR (r := 2) E fg_X9_20 rfl rfl (jv_lt hJ (by decide)) (jv_r hJ (by decide +kernel)) dX9_cabinets_1 ?_
  refine s_vI (As := []) (S := []) E (Z_X0_isTold_2 l D aC b w  hJ.1 ) cv_X9_184 rfl rfl rfl (jv_lt hJ (by decide)) (Nat.le_of_ble_eq_true rfl) (Nat.le_of_ble_eq_true rfl) ⟨(Nat.le_of_ble_eq_true rfl), (Nat.le_of_ble_eq_true rfl)⟩ (Nat.le_of_ble_eq_true rfl) dX9_cabinets_4 (fun z_3 u_1 hp_2 => ?_)
  obtain ⟨hz_3, hp_2⟩ := hp_2
  subst hp_2
  refine z_if_ne (tgt := 13) (u := z_3.toInt) E dX9_cabinets_7 (by decide) rfl (fun h_5 => ?_) (fun h_5 => ?_)
  ·
    refine s_aload_n E dX9_cabinets_13 rfl rfl ?_
    refine s_gR (r := 89) E fg_X9_78 rfl rfl (jv_lt hJ (by decide)) (jv_r hJ (by decide +kernel)) dX9_cabinets_14 ?_
    refine s_aload_n E dX9_cabinets_17 rfl rfl ?_
    refine s_gR (r := 2) E fg_X9_20 rfl rfl (jv_lt hJ (by decide)) (jv_r hJ (by decide +kernel)) dX9_cabinets_18 ?_
    refine s_vV (As := [AR 2]) (S := []) E (Z_X3_tally_89_r2 l D aC b w  hJ.1 ) cv_X9_311 rfl rfl rfl (jv_lt hJ (by decide)) (Nat.le_of_ble_eq_true rfl) (Nat.le_of_ble_eq_true rfl) ⟨(Nat.le_of_ble_eq_true rfl), (Nat.le_of_ble_eq_true rfl)⟩ (Nat.le_of_ble_eq_true rfl) dX9_cabinets_21 (fun u_6 hp_7 => ?_)
    have hj_8 := jv_trans hJ hp_7
    refine s_iconst (v := 0) E dX9_cabinets_24 (by decide) ?_
    refine s_istore_n (L2 := [some (AR 0), some (AI 0), none]) E dX9_cabinets_25 rfl (by decide) rfl ?_
    refine s_iconst (v := 0) E dX9_cabinets_26 (by decide) ?_
    refine s_istore_n (L2 := [some (AR 0), some (AI 0), some (AI 0)]) E dX9_cabinets_27 rfl (by decide) rfl ?_
    refine z_loop (St := Int32 × Int32) (Pi := fun ⟨q28_1_8, q28_2_8⟩ v28 => (0 ≤ q28_2_8.toInt ∧ q28_2_8.toInt ≤ 64) ∧ u_6 = v28) (Lf := fun ⟨q28_1_8, q28_2_8⟩ => [some (AR 0), some (AI q28_1_8), some (AI q28_2_8)]) (fun ⟨q28_1_8, q28_2_8⟩ _ => (65 - q28_2_8.toInt).toNat) ⟨0, 0⟩ ⟨⟨by decide, by decide⟩, rfl⟩ ?_
    rintro ⟨q28_1_8, q28_2_8⟩ v28 ⟨hq28_2, hv_⟩ ih28
    subst hv_
    have hbq28_1 := z32 q28_1_8
    refine s_loc (L2 := [some (AR 0), some (AI q28_1_8), some (AI q28_2_8)]) rfl ?_
    refine s_iload_n E dX9_cabinets_28 rfl rfl ?_
    refine s_aload_n E dX9_cabinets_29 rfl rfl ?_
    refine s_gR (r := 2) E fg_X9_20 rfl rfl (jv_lt hj_8 (by decide)) (jv_r hj_8 (by decide +kernel)) dX9_cabinets_30 ?_
    refine s_vI (As := []) (S := [AI q28_2_8]) E (Z_X0_everybody_2 l D aC b u_6  hj_8.1 ) cv_X9_240 rfl rfl rfl (jv_lt hj_8 (by decide)) (Nat.le_of_ble_eq_true rfl) (Nat.le_of_ble_eq_true rfl) ⟨(Nat.le_of_ble_eq_true rfl), (Nat.le_of_ble_eq_true rfl)⟩ (Nat.le_of_ble_eq_true rfl) dX9_cabinets_33 (fun z_12 u_10 hp_11 => ?_)
    obtain ⟨hz_12, hp_11⟩ := hp_11
    subst hp_11
    refine z_icmp_gt (tgt := 59) (u := q28_2_8.toInt) (v := z_12.toInt) E dX9_cabinets_36 (by decide) rfl rfl (fun h_14 => ?_) (fun h_14 => ?_)
    ·
      refine s_iload_n E dX9_cabinets_59 rfl rfl ?_
      exact r_int E dX9_cabinets_60 ⟨⟨by have hb_ := z32 q28_1_8; omega, by have hb_ := z32 q28_1_8; omega, by first | (right; decide) | (have hb_ := z32 q28_1_8; omega) | (have hb_ := z32 q28_1_8; have hc_ := z32 (w.2.2.1 2 0); omega)⟩, hj_8⟩
    ·
      refine s_aload_n E dX9_cabinets_39 rfl rfl ?_
      refine s_gR (r := 89) E fg_X9_78 rfl rfl (jv_lt hj_8 (by decide)) (jv_r hj_8 (by decide +kernel)) dX9_cabinets_40 ?_
      refine s_iload_n E dX9_cabinets_43 rfl rfl ?_
      refine s_vI (As := [AI q28_2_8]) (S := []) E (Z_X3_isLeastMajority_89 l D aC b u_6 q28_2_8 hj_8.1 ) cv_X9_333 rfl rfl rfl (jv_lt hj_8 (by decide)) (Nat.le_of_ble_eq_true rfl) (Nat.le_of_ble_eq_true rfl) ⟨(Nat.le_of_ble_eq_true rfl), (Nat.le_of_ble_eq_true rfl)⟩ (Nat.le_of_ble_eq_true rfl) dX9_cabinets_44 (fun z_17 u_15 hp_16 => ?_)
      obtain ⟨hz_17, hp_16⟩ := hp_16
      subst hp_16
      refine z_if_eq (tgt := 53) (u := z_17.toInt) E dX9_cabinets_47 (by decide) rfl (fun h_19 => ?_) (fun h_19 => ?_)
      ·
        refine z_iinc (u := q28_2_8.toInt) (L2 := fun z_20 => [some (AR 0), some (AI q28_1_8), some (AI z_20)]) E dX9_cabinets_53 rfl rfl (by decide) (fun _ => rfl) (by decide) (by omega) (by omega) (fun z_20 hz_20 => ?_)
        refine s_goto (tgt := 28) E dX9_cabinets_56 (by decide) ?_
        exact ih28 ⟨q28_1_8, z_20⟩ u_6 ⟨⟨by have hb_ := z32 z_20; omega, by have hb_ := z32 z_20; omega⟩, rfl⟩ (by first | omega | decide | (dsimp only; omega) | (dsimp only; decide))
      ·
        refine z_iincW (L2 := fun z_21 => [some (AR 0), some (AI z_21), some (AI q28_2_8)]) E dX9_cabinets_50 rfl (by decide) (fun _ => rfl) (fun z_21 => ?_)
        refine z_iinc (u := q28_2_8.toInt) (L2 := fun z_22 => [some (AR 0), some (AI z_21), some (AI z_22)]) E dX9_cabinets_53 rfl rfl (by decide) (fun _ => rfl) (by decide) (by omega) (by omega) (fun z_22 hz_22 => ?_)
        refine s_goto (tgt := 28) E dX9_cabinets_56 (by decide) ?_
        exact ih28 ⟨z_21, z_22⟩ u_6 ⟨⟨by have hb_ := z32 z_22; omega, by have hb_ := z32 z_22; omega⟩, rfl⟩ (by first | omega | decide | (dsimp only; omega) | (dsimp only; decide))
  ·
    refine s_bipush (v := (-2)) E dX9_cabinets_10 (by decide) ?_
    exact r_int E dX9_cabinets_12 ⟨⟨by decide, by decide, by first | (left; decide) | (right; decide) | (right; have hb_ := z32 (w.2.2.1 2 0); omega)⟩, hJ⟩
set_option maxRecDepth 20000 in
set_option maxHeartbeats 2000000 in
theorem Z_X9_makesOneHold_0 (l : Launch) (D : va_G) (aC : Nat → ClassId) (b : Nat) (w : XW) (x1 : Int32) (hI : Iv w)  : CnI l D aC b M_X9_makesOneHold 2 44 0 0 [AR 0, AI x1] w (fun r u => (0 ≤ r.toInt ∧ r.toInt ≤ 1 ∧ (r.toInt = 0 ∨ (1 ≤ (w.2.2.1 5 3).toInt ∧ (w.2.2.1 5 3).toInt ≤ 6))) ∧ w = u) := by
  refine cn_I (own := RX9) (nm := "makesOneHold") (L0 := [some (AR 0), some (AI x1), none, none]) (by decide +kernel) rfl rfl (Nat.le_of_ble_eq_true rfl) rfl ?_
  intro p e s m args below meth c E hin
  have hJ : Jv w w := jv_rfl hI
  have hb_x1 := z32 x1
  refine s_aload_n E dX9_makesOneHold_0 rfl rfl ?_
  refine s_gR (r := 2) E fg_X9_20 rfl rfl (jv_lt hJ (by decide)) (jv_r hJ (by decide +kernel)) dX9_makesOneHold_1 ?_
  refine s_gR (r := 7) E fg_X9_136 rfl rfl (jv_lt hJ (by decide)) (jv_r hJ (by decide +kernel)) dX9_makesOneHold_4 ?_
  refine s_iload_n E dX9_makesOneHold_7 rfl rfl ?_
  refine s_iconst (v := 1) E dX9_makesOneHold_8 (by decide) ?_
  refine s_vI (As := [AI x1, AI 1]) (S := []) E (Z_X8_cell_7 l D aC b w x1 1 hJ.1 ) cv_X9_129 rfl rfl rfl (jv_lt hJ (by decide)) (Nat.le_of_ble_eq_true rfl) (Nat.le_of_ble_eq_true rfl) ⟨(Nat.le_of_ble_eq_true rfl), (Nat.le_of_ble_eq_true rfl)⟩ (Nat.le_of_ble_eq_true rfl) dX9_makesOneHold_9 (fun z_3 u_1 hp_2 => ?_)
  obtain ⟨hz_3, hp_2⟩ := hp_2
  subst hp_2
  refine s_istore_n (L2 := [some (AR 0), some (AI x1), some (AI z_3), none]) E dX9_makesOneHold_12 rfl (by decide) rfl ?_
  refine s_iconst (v := 0) E dX9_makesOneHold_13 (by decide) ?_
  refine s_istore_n (L2 := [some (AR 0), some (AI x1), some (AI z_3), some (AI 0)]) E dX9_makesOneHold_14 rfl (by decide) rfl ?_
  refine z_loop (St := Int32) (Pi := fun q15_3_4 v15 => (0 ≤ q15_3_4.toInt ∧ q15_3_4.toInt ≤ 6) ∧ w = v15) (Lf := fun q15_3_4 => [some (AR 0), some (AI x1), some (AI z_3), some (AI q15_3_4)]) (fun q15_3_4 _ => (7 - q15_3_4.toInt).toNat) 0 ⟨⟨by decide, by decide⟩, rfl⟩ ?_
  rintro q15_3_4 v15 ⟨hq15_3, hv_⟩ ih15
  subst hv_
  refine s_loc (L2 := [some (AR 0), some (AI x1), some (AI z_3), some (AI q15_3_4)]) rfl ?_
  refine s_iload_n E dX9_makesOneHold_15 rfl rfl ?_
  refine s_aload_n E dX9_makesOneHold_16 rfl rfl ?_
  refine s_gR (r := 2) E fg_X9_20 rfl rfl (jv_lt hJ (by decide)) (jv_r hJ (by decide +kernel)) dX9_makesOneHold_17 ?_
  refine s_gR (r := 5) E fg_X9_133 rfl rfl (jv_lt hJ (by decide)) (jv_r hJ (by decide +kernel)) dX9_makesOneHold_20 ?_
  refine s_gI E fg_X9_200 rfl rfl (jv_lt hJ (by decide)) dX9_makesOneHold_23 ?_
  refine z_nm (P := fun z => z.toInt = (w.2.2.1 5 3).toInt ∧ 0 ≤ z.toInt ∧ z.toInt ≤ 6) ⟨rfl, (rg_5_3 hJ)⟩ (fun z_6 hz_6 => ?_)
  refine z_icmp_ge (tgt := 75) (u := q15_3_4.toInt) (v := z_6.toInt) E dX9_makesOneHold_26 (by decide) rfl rfl (fun h_7 => ?_) (fun h_7 => ?_)
  ·
    refine s_iconst (v := 0) E dX9_makesOneHold_75 (by decide) ?_
    exact r_bool E dX9_makesOneHold_76 (Or.inl rfl) ⟨⟨by decide, by decide, by first | (left; decide) | (right; decide) | (right; have hb_ := z32 (w.2.2.1 5 3); omega)⟩, rfl⟩
  ·
    refine s_iload_n E dX9_makesOneHold_29 rfl rfl ?_
    refine s_aload_n E dX9_makesOneHold_30 rfl rfl ?_
    refine s_gR (r := 2) E fg_X9_20 rfl rfl (jv_lt hJ (by decide)) (jv_r hJ (by decide +kernel)) dX9_makesOneHold_31 ?_
    refine s_gR (r := 7) E fg_X9_136 rfl rfl (jv_lt hJ (by decide)) (jv_r hJ (by decide +kernel)) dX9_makesOneHold_34 ?_
    refine s_iload_n E dX9_makesOneHold_37 rfl rfl ?_
    refine s_iconst (v := 0) E dX9_makesOneHold_38 (by decide) ?_
    refine s_vI (As := [AI x1, AI 0]) (S := [AI q15_3_4]) E (Z_X8_cell_7 l D aC b w x1 0 hJ.1 ) cv_X9_129 rfl rfl rfl (jv_lt hJ (by decide)) (Nat.le_of_ble_eq_true rfl) (Nat.le_of_ble_eq_true rfl) ⟨(Nat.le_of_ble_eq_true rfl), (Nat.le_of_ble_eq_true rfl)⟩ (Nat.le_of_ble_eq_true rfl) dX9_makesOneHold_39 (fun z_10 u_8 hp_9 => ?_)
    obtain ⟨hz_10, hp_9⟩ := hp_9
    subst hp_9
    refine z_icmp_eq (tgt := 69) (u := q15_3_4.toInt) (v := z_10.toInt) E dX9_makesOneHold_42 (by decide) rfl rfl (fun h_12 => ?_) (fun h_12 => ?_)
    ·
      refine z_iinc (u := q15_3_4.toInt) (L2 := fun z_13 => [some (AR 0), some (AI x1), some (AI z_3), some (AI z_13)]) E dX9_makesOneHold_69 rfl rfl (by decide) (fun _ => rfl) (by decide) (by omega) (by omega) (fun z_13 hz_13 => ?_)
      refine s_goto (tgt := 15) E dX9_makesOneHold_72 (by decide) ?_
      exact ih15 z_13 w ⟨⟨by have hb_ := z32 z_13; omega, by have hb_ := z32 z_13; omega⟩, rfl⟩ (by first | omega | decide | (dsimp only; omega) | (dsimp only; decide))
    ·
      refine s_aload_n E dX9_makesOneHold_45 rfl rfl ?_
      refine s_gR (r := 89) E fg_X9_78 rfl rfl (jv_lt hJ (by decide)) (jv_r hJ (by decide +kernel)) dX9_makesOneHold_46 ?_
      refine s_aload_n E dX9_makesOneHold_49 rfl rfl ?_
      refine s_gR (r := 89) E fg_X9_78 rfl rfl (jv_lt hJ (by decide)) (jv_r hJ (by decide +kernel)) dX9_makesOneHold_50 ?_
      refine s_iconst (v := 1) E dX9_makesOneHold_53 (by decide) ?_
      refine s_iload_n E dX9_makesOneHold_54 rfl rfl ?_
      refine z_shl1 5 (u := q15_3_4.toInt) (B := 32) E dX9_makesOneHold_55 rfl (by omega) (by omega) (by decide) (by decide) (fun z_14 hz_14 => ?_)
      refine s_vI (As := [AI z_14]) (S := [AR 89]) E (Z_X3_seatsOf_89 l D aC b w z_14 hJ.1 ) cv_X9_323 rfl rfl rfl (jv_lt hJ (by decide)) (Nat.le_of_ble_eq_true rfl) (Nat.le_of_ble_eq_true rfl) ⟨(Nat.le_of_ble_eq_true rfl), (Nat.le_of_ble_eq_true rfl)⟩ (Nat.le_of_ble_eq_true rfl) dX9_makesOneHold_56 (fun z_17 u_15 hp_16 => ?_)
      obtain ⟨hz_17, hp_16⟩ := hp_16
      subst hp_16
      refine s_iload_n E dX9_makesOneHold_59 rfl rfl ?_
      refine s_iadd E dX9_makesOneHold_60 ?_
      refine z_nm (P := fun z => (-2147483648) ≤ z.toInt ∧ z.toInt ≤ 2147483647) (z32 _) (fun z_19 hz_19 => ?_)
      refine s_vI (As := [AI z_19]) (S := []) E (Z_X3_isMoreThanHalf_89 l D aC b w z_19 hJ.1 ) cv_X9_339 rfl rfl rfl (jv_lt hJ (by decide)) (Nat.le_of_ble_eq_true rfl) (Nat.le_of_ble_eq_true rfl) ⟨(Nat.le_of_ble_eq_true rfl), (Nat.le_of_ble_eq_true rfl)⟩ (Nat.le_of_ble_eq_true rfl) dX9_makesOneHold_61 (fun z_22 u_20 hp_21 => ?_)
      obtain ⟨hz_22, hp_21⟩ := hp_21
      subst hp_21
      refine z_if_eq (tgt := 69) (u := z_22.toInt) E dX9_makesOneHold_64 (by decide) rfl (fun h_24 => ?_) (fun h_24 => ?_)
      ·
        refine z_iinc (u := q15_3_4.toInt) (L2 := fun z_25 => [some (AR 0), some (AI x1), some (AI z_3), some (AI z_25)]) E dX9_makesOneHold_69 rfl rfl (by decide) (fun _ => rfl) (by decide) (by omega) (by omega) (fun z_25 hz_25 => ?_)
        refine s_goto (tgt := 15) E dX9_makesOneHold_72 (by decide) ?_
        exact ih15 z_25 w ⟨⟨by have hb_ := z32 z_25; omega, by have hb_ := z32 z_25; omega⟩, rfl⟩ (by first | omega | decide | (dsimp only; omega) | (dsimp only; decide))
      ·
        refine s_iconst (v := 1) E dX9_makesOneHold_67 (by decide) ?_
        exact r_bool E dX9_makesOneHold_68 (Or.inr rfl) ⟨⟨by decide, by decide, by first | (left; decide) | (right; decide) | (right; have hb_ := z32 (w.2.2.1 5 3); omega)⟩, rfl⟩
set_option maxRecDepth 20000 in
set_option maxHeartbeats 2000000 in
theorem Z_X9_kingmaker_0 (l : Launch) (D : va_G) (aC : Nat → ClassId) (b : Nat) (w : XW)  (hI : Iv w)  : CnI l D aC b M_X9_kingmaker 4 89 0 0 [AR 0] w (fun r u => ((-2) ≤ r.toInt ∧ r.toInt ≤ 7 ∧ (¬ r.toInt = 0 ∨ (1 ≤ (w.2.2.1 2 0).toInt ∧ (w.2.2.1 2 0).toInt ≤ 2147483647))) ∧ Jv w u) := by
  refine cn_I (own := RX9) (nm := "kingmaker") (L0 := [some (AR 0), none]) (by decide +kernel) rfl rfl (Nat.le_of_ble_eq_true rfl) rfl ?_
  intro p e s m args below meth c E hin
  have hJ : Jv w w := jv_rfl hI
  refine s_aload_n E dX9_kingmaker_0 rfl rfl ?_
  refine s_gR (r := 2) E fg_X9_20 rfl rfl (jv_lt hJ (by decide)) (jv_r hJ (by decide +kernel)) dX9_kingmaker_1 ?_
  refine s_vI (As := []) (S := []) E (Z_X0_isTold_2 l D aC b w  hJ.1 ) cv_X9_184 rfl rfl rfl (jv_lt hJ (by decide)) (Nat.le_of_ble_eq_true rfl) (Nat.le_of_ble_eq_true rfl) ⟨(Nat.le_of_ble_eq_true rfl), (Nat.le_of_ble_eq_true rfl)⟩ (Nat.le_of_ble_eq_true rfl) dX9_kingmaker_4 (fun z_3 u_1 hp_2 => ?_)
  obtain ⟨hz_3, hp_2⟩ := hp_2
  subst hp_2
  refine z_if_ne (tgt := 13) (u := z_3.toInt) E dX9_kingmaker_7 (by decide) rfl (fun h_5 => ?_) (fun h_5 => ?_)
  ·
    refine s_aload_n E dX9_kingmaker_13 rfl rfl ?_
    refine s_gR (r := 89) E fg_X9_78 rfl rfl (jv_lt hJ (by decide)) (jv_r hJ (by decide +kernel)) dX9_kingmaker_14 ?_
    refine s_aload_n E dX9_kingmaker_17 rfl rfl ?_
    refine s_gR (r := 2) E fg_X9_20 rfl rfl (jv_lt hJ (by decide)) (jv_r hJ (by decide +kernel)) dX9_kingmaker_18 ?_
    refine s_vV (As := [AR 2]) (S := []) E (Z_X3_tally_89_r2 l D aC b w  hJ.1 ) cv_X9_311 rfl rfl rfl (jv_lt hJ (by decide)) (Nat.le_of_ble_eq_true rfl) (Nat.le_of_ble_eq_true rfl) ⟨(Nat.le_of_ble_eq_true rfl), (Nat.le_of_ble_eq_true rfl)⟩ (Nat.le_of_ble_eq_true rfl) dX9_kingmaker_21 (fun u_6 hp_7 => ?_)
    have hj_8 := jv_trans hJ hp_7
    refine s_iconst (v := 0) E dX9_kingmaker_24 (by decide) ?_
    refine s_istore_n (L2 := [some (AR 0), some (AI 0)]) E dX9_kingmaker_25 rfl (by decide) rfl ?_
    refine z_loop (St := Int32) (Pi := fun q26_1_8 v26 => (0 ≤ q26_1_8.toInt ∧ q26_1_8.toInt ≤ 8) ∧ u_6 = v26) (Lf := fun q26_1_8 => [some (AR 0), some (AI q26_1_8)]) (fun q26_1_8 _ => (9 - q26_1_8.toInt).toNat) 0 ⟨⟨by decide, by decide⟩, rfl⟩ ?_
    rintro q26_1_8 v26 ⟨hq26_1, hv_⟩ ih26
    subst hv_
    refine s_loc (L2 := [some (AR 0), some (AI q26_1_8)]) rfl ?_
    refine s_iload_n E dX9_kingmaker_26 rfl rfl ?_
    refine s_aload_n E dX9_kingmaker_27 rfl rfl ?_
    refine s_gR (r := 2) E fg_X9_20 rfl rfl (jv_lt hj_8 (by decide)) (jv_r hj_8 (by decide +kernel)) dX9_kingmaker_28 ?_
    refine s_gR (r := 7) E fg_X9_136 rfl rfl (jv_lt hj_8 (by decide)) (jv_r hj_8 (by decide +kernel)) dX9_kingmaker_31 ?_
    refine s_gI E fg_X9_200 rfl rfl (jv_lt hj_8 (by decide)) dX9_kingmaker_34 ?_
    refine z_nm (P := fun z => z.toInt = (u_6.2.2.1 7 3).toInt ∧ 0 ≤ z.toInt ∧ z.toInt ≤ 8) ⟨rfl, (rg_7_3 hj_8)⟩ (fun z_10 hz_10 => ?_)
    refine z_icmp_ge (tgt := 56) (u := q26_1_8.toInt) (v := z_10.toInt) E dX9_kingmaker_37 (by decide) rfl rfl (fun h_11 => ?_) (fun h_11 => ?_)
    ·
      refine s_iconst (v := (-1)) E dX9_kingmaker_56 (by decide) ?_
      exact r_int E dX9_kingmaker_57 ⟨⟨by decide, by decide, by first | (left; decide) | (right; decide) | (right; have hb_ := z32 (w.2.2.1 2 0); omega)⟩, hj_8⟩
    ·
      refine s_aload_n E dX9_kingmaker_40 rfl rfl ?_
      refine s_iload_n E dX9_kingmaker_41 rfl rfl ?_
      refine s_vI (As := [AI q26_1_8]) (S := []) E (Z_X9_makesOneHold_0 l D aC b u_6 q26_1_8 hj_8.1 ) cv_X9_336 rfl rfl rfl (jv_lt hj_8 (by decide)) (Nat.le_of_ble_eq_true rfl) (Nat.le_of_ble_eq_true rfl) ⟨(Nat.le_of_ble_eq_true rfl), (Nat.le_of_ble_eq_true rfl)⟩ (Nat.le_of_ble_eq_true rfl) dX9_kingmaker_42 (fun z_14 u_12 hp_13 => ?_)
      obtain ⟨hz_14, hp_13⟩ := hp_13
      subst hp_13
      refine z_if_eq (tgt := 50) (u := z_14.toInt) E dX9_kingmaker_45 (by decide) rfl (fun h_16 => ?_) (fun h_16 => ?_)
      ·
        refine z_iinc (u := q26_1_8.toInt) (L2 := fun z_17 => [some (AR 0), some (AI z_17)]) E dX9_kingmaker_50 rfl rfl (by decide) (fun _ => rfl) (by decide) (by omega) (by omega) (fun z_17 hz_17 => ?_)
        refine s_goto (tgt := 26) E dX9_kingmaker_53 (by decide) ?_
        exact ih26 z_17 u_6 ⟨⟨by have hb_ := z32 z_17; omega, by have hb_ := z32 z_17; omega⟩, rfl⟩ (by first | omega | decide | (dsimp only; omega) | (dsimp only; decide))
      ·
        refine s_iload_n E dX9_kingmaker_48 rfl rfl ?_
        exact r_int E dX9_kingmaker_49 ⟨⟨by have hb_ := z32 q26_1_8; omega, by have hb_ := z32 q26_1_8; omega, by first | (right; decide) | (have hb_ := z32 q26_1_8; omega) | (have hb_ := z32 q26_1_8; have hc_ := z32 (w.2.2.1 2 0); omega)⟩, hj_8⟩
  ·
    refine s_bipush (v := (-2)) E dX9_kingmaker_10 (by decide) ?_
    exact r_int E dX9_kingmaker_12 ⟨⟨by decide, by decide, by first | (left; decide) | (right; decide) | (right; have hb_ := z32 (w.2.2.1 2 0); omega)⟩, hJ⟩
set_option maxRecDepth 20000 in
set_option maxHeartbeats 2000000 in
theorem Z_X2_copyFrom_75_r69 (l : Launch) (D : va_G) (aC : Nat → ClassId) (b : Nat) (w : XW)  (hI : Iv w)  : CnV l D aC b M_X2_copyFrom 1 60 0 0 [AR 75, AR 69] w (fun u => Jv w u) := by
  refine cn_V (own := RX2) (nm := "copyFrom") (L0 := [some (AR 75), some (AR 69)]) (by decide +kernel) rfl rfl (Nat.le_of_ble_eq_true rfl) rfl ?_
  intro p e s m args below meth c E hin
  have hJ : Jv w w := jv_rfl hI
  refine s_aload_n E dX2_copyFrom_0 rfl rfl ?_
  refine s_gR (r := 70) E fg_X2_9 rfl rfl (jv_lt hJ (by decide)) (jv_r hJ (by decide +kernel)) dX2_copyFrom_1 ?_
  refine s_iconst (v := 0) E dX2_copyFrom_4 (by decide) ?_
  refine s_aload_n E dX2_copyFrom_5 rfl rfl ?_
  refine s_gR (r := 76) E fg_X2_9 rfl rfl (jv_lt hJ (by decide)) (jv_r hJ (by decide +kernel)) dX2_copyFrom_6 ?_
  refine s_iconst (v := 0) E dX2_copyFrom_9 (by decide) ?_
  refine s_aload_n E dX2_copyFrom_10 rfl rfl ?_
  refine s_gR (r := 76) E fg_X2_9 rfl rfl (jv_lt hJ (by decide)) (jv_r hJ (by decide +kernel)) dX2_copyFrom_11 ?_
  refine s_alen (v := 48) E rfl (by decide) (jv_lt hJ (by decide)) (by decide) dX2_copyFrom_14 ?_
  refine z_copy100 (S := []) (u1 := 0) (u2 := 0) (u3 := 48) E k_1077 k_538 k_537 k_17 rfl rfl (jv_lt hJ (by decide)) (jv_lt hJ (by decide)) (by decide) (by decide) (by decide) (by omega) (by omega) (by omega) (by omega) (by omega) (Nat.le_of_ble_eq_true rfl) (Nat.le_of_ble_eq_true rfl) dX2_copyFrom_15 ?_
  refine s_gen (P := Jv w) (jv_c_70_76 hJ) (fun v_1 hj_2 => ?_)
  refine s_aload_n E dX2_copyFrom_18 rfl rfl ?_
  refine s_gR (r := 73) E fg_X2_21 rfl rfl (jv_lt hj_2 (by decide)) (jv_r hj_2 (by decide +kernel)) dX2_copyFrom_19 ?_
  refine s_iconst (v := 0) E dX2_copyFrom_22 (by decide) ?_
  refine s_aload_n E dX2_copyFrom_23 rfl rfl ?_
  refine s_gR (r := 79) E fg_X2_21 rfl rfl (jv_lt hj_2 (by decide)) (jv_r hj_2 (by decide +kernel)) dX2_copyFrom_24 ?_
  refine s_iconst (v := 0) E dX2_copyFrom_27 (by decide) ?_
  refine s_aload_n E dX2_copyFrom_28 rfl rfl ?_
  refine s_gR (r := 79) E fg_X2_21 rfl rfl (jv_lt hj_2 (by decide)) (jv_r hj_2 (by decide +kernel)) dX2_copyFrom_29 ?_
  refine s_alen (v := 90) E rfl (by decide) (jv_lt hj_2 (by decide)) (by decide) dX2_copyFrom_32 ?_
  refine z_copy100 (S := []) (u1 := 0) (u2 := 0) (u3 := 90) E k_1077 k_538 k_537 k_17 rfl rfl (jv_lt hj_2 (by decide)) (jv_lt hj_2 (by decide)) (by decide) (by decide) (by decide) (by omega) (by omega) (by omega) (by omega) (by omega) (Nat.le_of_ble_eq_true rfl) (Nat.le_of_ble_eq_true rfl) dX2_copyFrom_33 ?_
  refine s_gen (P := Jv w) (jv_c_73_79 hj_2) (fun v_3 hj_4 => ?_)
  refine s_aload_n E dX2_copyFrom_36 rfl rfl ?_
  refine s_gR (r := 74) E fg_X2_24 rfl rfl (jv_lt hj_4 (by decide)) (jv_r hj_4 (by decide +kernel)) dX2_copyFrom_37 ?_
  refine s_iconst (v := 0) E dX2_copyFrom_40 (by decide) ?_
  refine s_aload_n E dX2_copyFrom_41 rfl rfl ?_
  refine s_gR (r := 80) E fg_X2_24 rfl rfl (jv_lt hj_4 (by decide)) (jv_r hj_4 (by decide +kernel)) dX2_copyFrom_42 ?_
  refine s_iconst (v := 0) E dX2_copyFrom_45 (by decide) ?_
  refine s_aload_n E dX2_copyFrom_46 rfl rfl ?_
  refine s_gR (r := 80) E fg_X2_24 rfl rfl (jv_lt hj_4 (by decide)) (jv_r hj_4 (by decide +kernel)) dX2_copyFrom_47 ?_
  refine s_alen (v := 90) E rfl (by decide) (jv_lt hj_4 (by decide)) (by decide) dX2_copyFrom_50 ?_
  refine z_copy100 (S := []) (u1 := 0) (u2 := 0) (u3 := 90) E k_1077 k_538 k_537 k_17 rfl rfl (jv_lt hj_4 (by decide)) (jv_lt hj_4 (by decide)) (by decide) (by decide) (by decide) (by omega) (by omega) (by omega) (by omega) (by omega) (Nat.le_of_ble_eq_true rfl) (Nat.le_of_ble_eq_true rfl) dX2_copyFrom_51 ?_
  refine s_gen (P := Jv w) (jv_c_74_80 hj_4) (fun v_5 hj_6 => ?_)
  refine s_aload_n E dX2_copyFrom_54 rfl rfl ?_
  refine s_aload_n E dX2_copyFrom_55 rfl rfl ?_
  refine s_gI E fg_X2_35 rfl rfl (jv_lt hj_6 (by decide)) dX2_copyFrom_56 ?_
  refine z_nm (P := fun z => z.toInt = (v_5.2.2.1 69 5).toInt ∧ 0 ≤ z.toInt ∧ z.toInt ≤ 6) ⟨rfl, (rg_69_5 hj_6)⟩ (fun z_7 hz_7 => ?_)
  refine s_pI E fp_X2_35 (Or.inl rfl) rfl (jv_lt hj_6 (by decide)) dX2_copyFrom_59 ?_
  refine s_gen (P := Jv w) (jv_f_75_5 hj_6 (by have hb_ := z32 z_7; omega) (by have hb_ := z32 z_7; omega)) (fun v_8 hj_9 => ?_)
  refine s_aload_n E dX2_copyFrom_62 rfl rfl ?_
  refine s_aload_n E dX2_copyFrom_63 rfl rfl ?_
  refine s_gI E fg_X2_63 rfl rfl (jv_lt hj_9 (by decide)) dX2_copyFrom_64 ?_
  refine z_nm (P := fun z => z.toInt = (v_8.2.2.1 69 6).toInt ∧ 0 ≤ z.toInt ∧ z.toInt ≤ 8) ⟨rfl, (rg_69_6 hj_9)⟩ (fun z_10 hz_10 => ?_)
  refine s_pI E fp_X2_63 (Or.inl rfl) rfl (jv_lt hj_9 (by decide)) dX2_copyFrom_67 ?_
  refine s_gen (P := Jv w) (jv_f_75_6 hj_9 (by have hb_ := z32 z_10; omega) (by have hb_ := z32 z_10; omega)) (fun v_11 hj_12 => ?_)
  refine s_aload_n E dX2_copyFrom_70 rfl rfl ?_
  refine s_aload_n E dX2_copyFrom_71 rfl rfl ?_
  refine s_gI E fg_X2_67 rfl rfl (jv_lt hj_12 (by decide)) dX2_copyFrom_72 ?_
  refine z_nm (P := fun z => z.toInt = (v_11.2.2.1 69 7).toInt ∧ 0 ≤ z.toInt ∧ z.toInt ≤ 14) ⟨rfl, (rg_69_7 hj_12)⟩ (fun z_13 hz_13 => ?_)
  refine s_pI E fp_X2_67 (Or.inl rfl) rfl (jv_lt hj_12 (by decide)) dX2_copyFrom_75 ?_
  refine s_gen (P := Jv w) (jv_f_75_7 hj_12 (by have hb_ := z32 z_13; omega) (by have hb_ := z32 z_13; omega)) (fun v_14 hj_15 => ?_)
  exact r_void E dX2_copyFrom_78 hj_15
set_option maxRecDepth 20000 in
set_option maxHeartbeats 2000000 in
theorem Z_X2_friendsOf_75 (l : Launch) (D : va_G) (aC : Nat → ClassId) (b : Nat) (w : XW) (x1 : Int32) (hI : Iv w)  : CnI l D aC b M_X2_friendsOf 2 44 0 0 [AR 75, AI x1] w (fun r u => ((-2147483648) ≤ r.toInt ∧ r.toInt ≤ 2147483647) ∧ w = u) := by
  refine cn_I (own := RX2) (nm := "friendsOf") (L0 := [some (AR 75), some (AI x1), none, none]) (by decide +kernel) rfl rfl (Nat.le_of_ble_eq_true rfl) rfl ?_
  intro p e s m args below meth c E hin
  have hJ : Jv w w := jv_rfl hI
  have hb_x1 := z32 x1
  refine s_iconst (v := 0) E dX2_friendsOf_0 (by decide) ?_
  refine s_istore_n (L2 := [some (AR 75), some (AI x1), some (AI 0), none]) E dX2_friendsOf_1 rfl (by decide) rfl ?_
  refine s_iconst (v := 0) E dX2_friendsOf_2 (by decide) ?_
  refine s_istore_n (L2 := [some (AR 75), some (AI x1), some (AI 0), some (AI 0)]) E dX2_friendsOf_3 rfl (by decide) rfl ?_
  refine z_loop (St := Int32 × Int32) (Pi := fun ⟨q4_2_0, q4_3_0⟩ v4 => (0 ≤ q4_3_0.toInt ∧ q4_3_0.toInt ≤ 15) ∧ w = v4) (Lf := fun ⟨q4_2_0, q4_3_0⟩ => [some (AR 75), some (AI x1), some (AI q4_2_0), some (AI q4_3_0)]) (fun ⟨q4_2_0, q4_3_0⟩ _ => (16 - q4_3_0.toInt).toNat) ⟨0, 0⟩ ⟨⟨by decide, by decide⟩, rfl⟩ ?_
  rintro ⟨q4_2_0, q4_3_0⟩ v4 ⟨hq4_3, hv_⟩ ih4
  subst hv_
  have hbq4_2 := z32 q4_2_0
  refine s_loc (L2 := [some (AR 75), some (AI x1), some (AI q4_2_0), some (AI q4_3_0)]) rfl ?_
  refine s_iload_n E dX2_friendsOf_4 rfl rfl ?_
  refine s_aload_n E dX2_friendsOf_5 rfl rfl ?_
  refine s_gI E fg_X2_67 rfl rfl (jv_lt hJ (by decide)) dX2_friendsOf_6 ?_
  refine z_nm (P := fun z => z.toInt = (w.2.2.1 75 7).toInt ∧ 0 ≤ z.toInt ∧ z.toInt ≤ 14) ⟨rfl, (rg_75_7 hJ)⟩ (fun z_2 hz_2 => ?_)
  refine z_icmp_gt (tgt := 27) (u := q4_3_0.toInt) (v := z_2.toInt) E dX2_friendsOf_9 (by decide) rfl rfl (fun h_3 => ?_) (fun h_3 => ?_)
  ·
    refine s_iload_n E dX2_friendsOf_27 rfl rfl ?_
    refine s_iconst (v := 1) E dX2_friendsOf_28 (by decide) ?_
    refine s_iload_n E dX2_friendsOf_29 rfl rfl ?_
    refine s_ishl E dX2_friendsOf_30 ?_
    refine z_nm (P := fun z => (-2147483648) ≤ z.toInt ∧ z.toInt ≤ 2147483647) (z32 _) (fun z_4 hz_4 => ?_)
    refine s_iconst (v := (-1)) E dX2_friendsOf_31 (by decide) ?_
    refine s_ixor E dX2_friendsOf_32 ?_
    refine z_nm (P := fun z => (-2147483648) ≤ z.toInt ∧ z.toInt ≤ 2147483647) (z32 _) (fun z_5 hz_5 => ?_)
    refine s_iand E dX2_friendsOf_33 ?_
    refine z_nm (P := fun z => (-2147483648) ≤ z.toInt ∧ z.toInt ≤ 2147483647) (z32 _) (fun z_6 hz_6 => ?_)
    exact r_int E dX2_friendsOf_34 ⟨⟨by have hb_ := z32 z_6; omega, by have hb_ := z32 z_6; omega⟩, rfl⟩
  ·
    refine s_iload_n E dX2_friendsOf_12 rfl rfl ?_
    refine s_aload_n E dX2_friendsOf_13 rfl rfl ?_
    refine s_iload_n E dX2_friendsOf_14 rfl rfl ?_
    refine s_iload_n E dX2_friendsOf_15 rfl rfl ?_
    refine s_vI (As := [AI x1, AI q4_3_0]) (S := [AI q4_2_0]) E (Z_X2_companyOf_75 l D aC b w x1 q4_3_0 hJ.1 ) cv_X2_130 rfl rfl rfl (jv_lt hJ (by decide)) (Nat.le_of_ble_eq_true rfl) (Nat.le_of_ble_eq_true rfl) ⟨(Nat.le_of_ble_eq_true rfl), (Nat.le_of_ble_eq_true rfl)⟩ (Nat.le_of_ble_eq_true rfl) dX2_friendsOf_16 (fun z_9 u_7 hp_8 => ?_)
    obtain ⟨hz_9, hp_8⟩ := hp_8
    subst hp_8
    refine s_ior E dX2_friendsOf_19 ?_
    refine z_nm (P := fun z => (-2147483648) ≤ z.toInt ∧ z.toInt ≤ 2147483647) (z32 _) (fun z_11 hz_11 => ?_)
    refine s_istore_n (L2 := [some (AR 75), some (AI x1), some (AI z_11), some (AI q4_3_0)]) E dX2_friendsOf_20 rfl (by decide) rfl ?_
    refine z_iinc (u := q4_3_0.toInt) (L2 := fun z_12 => [some (AR 75), some (AI x1), some (AI z_11), some (AI z_12)]) E dX2_friendsOf_21 rfl rfl (by decide) (fun _ => rfl) (by decide) (by omega) (by omega) (fun z_12 hz_12 => ?_)
    refine s_goto (tgt := 4) E dX2_friendsOf_24 (by decide) ?_
    exact ih4 ⟨z_11, z_12⟩ w ⟨⟨by have hb_ := z32 z_12; omega, by have hb_ := z32 z_12; omega⟩, rfl⟩ (by first | omega | decide | (dsimp only; omega) | (dsimp only; decide))
set_option maxRecDepth 20000 in
set_option maxHeartbeats 2000000 in
theorem Z_X2_stepsOf_75 (l : Launch) (D : va_G) (aC : Nat → ClassId) (b : Nat) (w : XW) (x1 : Int32) (hI : Iv w)  : CnI l D aC b M_X2_stepsOf 2 44 0 0 [AR 75, AI x1] w (fun r u => ((-2147483648) ≤ r.toInt ∧ r.toInt ≤ 2147483647) ∧ w = u) := by
  refine cn_I (own := RX2) (nm := "stepsOf") (L0 := [some (AR 75), some (AI x1), none, none]) (by decide +kernel) rfl rfl (Nat.le_of_ble_eq_true rfl) rfl ?_
  intro p e s m args below meth c E hin
  have hJ : Jv w w := jv_rfl hI
  have hb_x1 := z32 x1
  refine s_iconst (v := 0) E dX2_stepsOf_0 (by decide) ?_
  refine s_istore_n (L2 := [some (AR 75), some (AI x1), some (AI 0), none]) E dX2_stepsOf_1 rfl (by decide) rfl ?_
  refine s_iconst (v := 1) E dX2_stepsOf_2 (by decide) ?_
  refine s_istore_n (L2 := [some (AR 75), some (AI x1), some (AI 0), some (AI 1)]) E dX2_stepsOf_3 rfl (by decide) rfl ?_
  refine z_loop (St := Int32 × Int32) (Pi := fun ⟨q4_2_0, q4_3_0⟩ v4 => (1 ≤ q4_3_0.toInt ∧ q4_3_0.toInt ≤ 15) ∧ w = v4) (Lf := fun ⟨q4_2_0, q4_3_0⟩ => [some (AR 75), some (AI x1), some (AI q4_2_0), some (AI q4_3_0)]) (fun ⟨q4_2_0, q4_3_0⟩ _ => (16 - q4_3_0.toInt).toNat) ⟨0, 1⟩ ⟨⟨by decide, by decide⟩, rfl⟩ ?_
  rintro ⟨q4_2_0, q4_3_0⟩ v4 ⟨hq4_3, hv_⟩ ih4
  subst hv_
  have hbq4_2 := z32 q4_2_0
  refine s_loc (L2 := [some (AR 75), some (AI x1), some (AI q4_2_0), some (AI q4_3_0)]) rfl ?_
  refine s_iload_n E dX2_stepsOf_4 rfl rfl ?_
  refine s_aload_n E dX2_stepsOf_5 rfl rfl ?_
  refine s_gI E fg_X2_67 rfl rfl (jv_lt hJ (by decide)) dX2_stepsOf_6 ?_
  refine z_nm (P := fun z => z.toInt = (w.2.2.1 75 7).toInt ∧ 0 ≤ z.toInt ∧ z.toInt ≤ 14) ⟨rfl, (rg_75_7 hJ)⟩ (fun z_2 hz_2 => ?_)
  refine z_icmp_gt (tgt := 38) (u := q4_3_0.toInt) (v := z_2.toInt) E dX2_stepsOf_9 (by decide) rfl rfl (fun h_3 => ?_) (fun h_3 => ?_)
  ·
    refine s_iload_n E dX2_stepsOf_38 rfl rfl ?_
    exact r_int E dX2_stepsOf_39 ⟨⟨by have hb_ := z32 q4_2_0; omega, by have hb_ := z32 q4_2_0; omega⟩, rfl⟩
  ·
    refine s_aload_n E dX2_stepsOf_12 rfl rfl ?_
    refine s_iload_n E dX2_stepsOf_13 rfl rfl ?_
    refine s_iload_n E dX2_stepsOf_14 rfl rfl ?_
    refine s_vI (As := [AI x1, AI q4_3_0]) (S := []) E (Z_X2_placeOf_75 l D aC b w x1 q4_3_0 hJ.1 ) cv_X2_111 rfl rfl rfl (jv_lt hJ (by decide)) (Nat.le_of_ble_eq_true rfl) (Nat.le_of_ble_eq_true rfl) ⟨(Nat.le_of_ble_eq_true rfl), (Nat.le_of_ble_eq_true rfl)⟩ (Nat.le_of_ble_eq_true rfl) dX2_stepsOf_15 (fun z_6 u_4 hp_5 => ?_)
    obtain ⟨hz_6, hp_5⟩ := hp_5
    subst hp_5
    refine s_aload_n E dX2_stepsOf_18 rfl rfl ?_
    refine s_iload_n E dX2_stepsOf_19 rfl rfl ?_
    refine s_iload_n E dX2_stepsOf_20 rfl rfl ?_
    refine s_iconst (v := 1) E dX2_stepsOf_21 (by decide) ?_
    refine z_isub (u := q4_3_0.toInt) (v := 1) E dX2_stepsOf_22 rfl (by decide) (by omega) (by omega) (fun z_8 hz_8 => ?_)
    refine s_vI (As := [AI x1, AI z_8]) (S := [AI z_6]) E (Z_X2_placeOf_75 l D aC b w x1 z_8 hJ.1 ) cv_X2_111 rfl rfl rfl (jv_lt hJ (by decide)) (Nat.le_of_ble_eq_true rfl) (Nat.le_of_ble_eq_true rfl) ⟨(Nat.le_of_ble_eq_true rfl), (Nat.le_of_ble_eq_true rfl)⟩ (Nat.le_of_ble_eq_true rfl) dX2_stepsOf_23 (fun z_11 u_9 hp_10 => ?_)
    obtain ⟨hz_11, hp_10⟩ := hp_10
    subst hp_10
    refine z_icmp_eq (tgt := 32) (u := z_6.toInt) (v := z_11.toInt) E dX2_stepsOf_26 (by decide) rfl rfl (fun h_13 => ?_) (fun h_13 => ?_)
    ·
      refine z_iinc (u := q4_3_0.toInt) (L2 := fun z_14 => [some (AR 75), some (AI x1), some (AI q4_2_0), some (AI z_14)]) E dX2_stepsOf_32 rfl rfl (by decide) (fun _ => rfl) (by decide) (by omega) (by omega) (fun z_14 hz_14 => ?_)
      refine s_goto (tgt := 4) E dX2_stepsOf_35 (by decide) ?_
      exact ih4 ⟨q4_2_0, z_14⟩ w ⟨⟨by have hb_ := z32 z_14; omega, by have hb_ := z32 z_14; omega⟩, rfl⟩ (by first | omega | decide | (dsimp only; omega) | (dsimp only; decide))
    ·
      refine z_iincW (L2 := fun z_15 => [some (AR 75), some (AI x1), some (AI z_15), some (AI q4_3_0)]) E dX2_stepsOf_29 rfl (by decide) (fun _ => rfl) (fun z_15 => ?_)
      refine z_iinc (u := q4_3_0.toInt) (L2 := fun z_16 => [some (AR 75), some (AI x1), some (AI z_15), some (AI z_16)]) E dX2_stepsOf_32 rfl rfl (by decide) (fun _ => rfl) (by decide) (by omega) (by omega) (fun z_16 hz_16 => ?_)
      refine s_goto (tgt := 4) E dX2_stepsOf_35 (by decide) ?_
      exact ih4 ⟨z_15, z_16⟩ w ⟨⟨by have hb_ := z32 z_16; omega, by have hb_ := z32 z_16; omega⟩, rfl⟩ (by first | omega | decide | (dsimp only; omega) | (dsimp only; decide))
set_option maxRecDepth 20000 in
set_option maxHeartbeats 2000000 in
theorem Z_X2_keepStill_75 (l : Launch) (D : va_G) (aC : Nat → ClassId) (b : Nat) (w : XW) (x1 : Int32) (hI : Iv w) (hx1 : 0 ≤ x1.toInt ∧ x1.toInt ≤ 5) : CnV l D aC b M_X2_keepStill 2 44 0 0 [AR 75, AI x1] w (fun u => Jv w u) := by
  refine cn_V (own := RX2) (nm := "keepStill") (L0 := [some (AR 75), some (AI x1), none, none]) (by decide +kernel) rfl rfl (Nat.le_of_ble_eq_true rfl) rfl ?_
  intro p e s m args below meth c E hin
  have hJ : Jv w w := jv_rfl hI
  refine s_aload_n E dX2_keepStill_0 rfl rfl ?_
  refine s_iload_n E dX2_keepStill_1 rfl rfl ?_
  refine s_iconst (v := 0) E dX2_keepStill_2 (by decide) ?_
  refine s_vI (As := [AI x1, AI 0]) (S := []) E (Z_X2_placeOf_75 l D aC b w x1 0 hJ.1 ) cv_X2_111 rfl rfl rfl (jv_lt hJ (by decide)) (Nat.le_of_ble_eq_true rfl) (Nat.le_of_ble_eq_true rfl) ⟨(Nat.le_of_ble_eq_true rfl), (Nat.le_of_ble_eq_true rfl)⟩ (Nat.le_of_ble_eq_true rfl) dX2_keepStill_3 (fun z_3 u_1 hp_2 => ?_)
  obtain ⟨hz_3, hp_2⟩ := hp_2
  subst hp_2
  refine s_istore_n (L2 := [some (AR 75), some (AI x1), some (AI z_3), none]) E dX2_keepStill_6 rfl (by decide) rfl ?_
  refine s_iconst (v := 1) E dX2_keepStill_7 (by decide) ?_
  refine s_istore_n (L2 := [some (AR 75), some (AI x1), some (AI z_3), some (AI 1)]) E dX2_keepStill_8 rfl (by decide) rfl ?_
  refine z_loop (St := Int32) (Pi := fun q9_3_4 v9 => (1 ≤ q9_3_4.toInt ∧ q9_3_4.toInt ≤ 15) ∧ Jv w v9) (Lf := fun q9_3_4 => [some (AR 75), some (AI x1), some (AI z_3), some (AI q9_3_4)]) (fun q9_3_4 _ => (16 - q9_3_4.toInt).toNat) 1 ⟨⟨by decide, by decide⟩, hJ⟩ ?_
  rintro q9_3_4 v9 ⟨hq9_3, hj_5⟩ ih9
  refine s_loc (L2 := [some (AR 75), some (AI x1), some (AI z_3), some (AI q9_3_4)]) rfl ?_
  refine s_iload_n E dX2_keepStill_9 rfl rfl ?_
  refine s_aload_n E dX2_keepStill_10 rfl rfl ?_
  refine s_gI E fg_X2_67 rfl rfl (jv_lt hj_5 (by decide)) dX2_keepStill_11 ?_
  refine z_nm (P := fun z => z.toInt = (v9.2.2.1 75 7).toInt ∧ 0 ≤ z.toInt ∧ z.toInt ≤ 14) ⟨rfl, (rg_75_7 hj_5)⟩ (fun z_6 hz_6 => ?_)
  refine z_icmp_gt (tgt := 35) (u := q9_3_4.toInt) (v := z_6.toInt) E dX2_keepStill_14 (by decide) rfl rfl (fun h_7 => ?_) (fun h_7 => ?_)
  ·
    exact r_void E dX2_keepStill_35 hj_5
  ·
    refine s_aload_n E dX2_keepStill_17 rfl rfl ?_
    refine s_gR (r := 79) E fg_X2_21 rfl rfl (jv_lt hj_5 (by decide)) (jv_r hj_5 (by decide +kernel)) dX2_keepStill_18 ?_
    refine s_iload_n E dX2_keepStill_21 rfl rfl ?_
    refine s_bipush (v := 15) E dX2_keepStill_22 (by decide) ?_
    refine z_imul (u := x1.toInt) (v := 15) E dX2_keepStill_24 rfl (by decide) (by omega) (by omega) (fun z_8 hz_8 => ?_)
    refine s_iload_n E dX2_keepStill_25 rfl rfl ?_
    refine z_iadd (u := z_8.toInt) (v := q9_3_4.toInt) E dX2_keepStill_26 rfl rfl (by omega) (by omega) (fun z_9 hz_9 => ?_)
    refine s_iload_n E dX2_keepStill_27 rfl rfl ?_
    refine s_iast E rfl (jv_lt hj_5 (by decide)) (z_in (u := z_9.toInt) rfl (by omega) (by omega)) dX2_keepStill_28 ?_
    refine s_gen (P := fun v => Jv w v ∧ (v.2.2.1 75 7).toInt = (v9.2.2.1 75 7).toInt) ⟨(jv_a_79 hj_5 (by have hb_ := z32 z_3; omega) (by have hb_ := z32 z_3; omega)), rfl⟩ (fun v_10 hj_11 => ?_)
    obtain ⟨hj_11, hk_12k0⟩ := hj_11
    refine z_iinc (u := q9_3_4.toInt) (L2 := fun z_13 => [some (AR 75), some (AI x1), some (AI z_3), some (AI z_13)]) E dX2_keepStill_29 rfl rfl (by decide) (fun _ => rfl) (by decide) (by omega) (by omega) (fun z_13 hz_13 => ?_)
    refine s_goto (tgt := 9) E dX2_keepStill_32 (by decide) ?_
    exact ih9 z_13 v_10 ⟨⟨by have hb_ := z32 z_13; omega, by have hb_ := z32 z_13; omega⟩, hj_11⟩ (by first | omega | decide | (dsimp only; omega) | (dsimp only; decide))
set_option maxRecDepth 20000 in
set_option maxHeartbeats 2000000 in
theorem Z_X9_gainOf_0 (l : Launch) (D : va_G) (aC : Nat → ClassId) (b : Nat) (w : XW) (x1 : Int32) (x2 : Int32) (x3 : Int32) (x4 : Int32) (hI : Iv w) (hx1 : 0 ≤ x1.toInt ∧ x1.toInt ≤ 5) (hx2 : 0 ≤ x2.toInt ∧ x2.toInt ≤ 5) : CnI l D aC b M_X9_gainOf 4 90 0 0 [AR 0, AI x1, AI x2, AI x3, AI x4] w (fun r u => ((-2147483648) ≤ r.toInt ∧ r.toInt ≤ 2147483647) ∧ Jv w u) := by
  refine cn_I (own := RX9) (nm := "gainOf") (L0 := [some (AR 0), some (AI x1), some (AI x2), some (AI x3), some (AI x4)]) (by decide +kernel) rfl rfl (Nat.le_of_ble_eq_true rfl) rfl ?_
  intro p e s m args below meth c E hin
  have hJ : Jv w w := jv_rfl hI
  have hb_x3 := z32 x3
  have hb_x4 := z32 x4
  refine s_aload_n E dX9_gainOf_0 rfl rfl ?_
  refine s_gR (r := 75) E fg_X9_58 rfl rfl (jv_lt hJ (by decide)) (jv_r hJ (by decide +kernel)) dX9_gainOf_1 ?_
  refine s_aload_n E dX9_gainOf_4 rfl rfl ?_
  refine s_gR (r := 69) E fg_X9_54 rfl rfl (jv_lt hJ (by decide)) (jv_r hJ (by decide +kernel)) dX9_gainOf_5 ?_
  refine s_vV (As := [AR 69]) (S := []) E (Z_X2_copyFrom_75_r69 l D aC b w  hJ.1 ) cv_X9_350 rfl rfl rfl (jv_lt hJ (by decide)) (Nat.le_of_ble_eq_true rfl) (Nat.le_of_ble_eq_true rfl) ⟨(Nat.le_of_ble_eq_true rfl), (Nat.le_of_ble_eq_true rfl)⟩ (Nat.le_of_ble_eq_true rfl) dX9_gainOf_8 (fun u_1 hp_2 => ?_)
  have hj_3 := jv_trans hJ hp_2
  refine s_iload_n E dX9_gainOf_11 rfl rfl ?_
  refine s_iconst (v := 1) E dX9_gainOf_12 (by decide) ?_
  refine z_icmp_ne (tgt := 24) (u := x3.toInt) (v := 1) E dX9_gainOf_13 (by decide) rfl (by decide) (fun h_4 => ?_) (fun h_4 => ?_)
  ·
    refine s_iload E dX9_gainOf_24 rfl ?_
    refine s_iconst (v := 1) E dX9_gainOf_26 (by decide) ?_
    refine z_icmp_ne (tgt := 38) (u := x4.toInt) (v := 1) E dX9_gainOf_27 (by decide) rfl (by decide) (fun h_5 => ?_) (fun h_5 => ?_)
    ·
      refine s_aload_n E dX9_gainOf_38 rfl rfl ?_
      refine s_gR (r := 75) E fg_X9_58 rfl rfl (jv_lt hj_3 (by decide)) (jv_r hj_3 (by decide +kernel)) dX9_gainOf_39 ?_
      refine s_vV (As := []) (S := []) E (Z_X2_gather_75 l D aC b u_1  hj_3.1 ) cv_X9_356 rfl rfl rfl (jv_lt hj_3 (by decide)) (Nat.le_of_ble_eq_true rfl) (Nat.le_of_ble_eq_true rfl) ⟨(Nat.le_of_ble_eq_true rfl), (Nat.le_of_ble_eq_true rfl)⟩ (Nat.le_of_ble_eq_true rfl) dX9_gainOf_42 (fun u_6 hp_7 => ?_)
      have hj_8 := jv_trans hj_3 hp_7
      refine s_iconst (v := 2) E dX9_gainOf_45 (by decide) ?_
      refine s_aload_n E dX9_gainOf_46 rfl rfl ?_
      refine s_gR (r := 75) E fg_X9_58 rfl rfl (jv_lt hj_8 (by decide)) (jv_r hj_8 (by decide +kernel)) dX9_gainOf_47 ?_
      refine s_iload_n E dX9_gainOf_50 rfl rfl ?_
      refine s_vI (As := [AI x1]) (S := [AI 2]) E (Z_X2_friendsOf_75 l D aC b u_6 x1 hj_8.1 ) cv_X9_181 rfl rfl rfl (jv_lt hj_8 (by decide)) (Nat.le_of_ble_eq_true rfl) (Nat.le_of_ble_eq_true rfl) ⟨(Nat.le_of_ble_eq_true rfl), (Nat.le_of_ble_eq_true rfl)⟩ (Nat.le_of_ble_eq_true rfl) dX9_gainOf_51 (fun z_11 u_9 hp_10 => ?_)
      obtain ⟨hz_11, hp_10⟩ := hp_10
      subst hp_10
      refine s_sI (As := [AI z_11]) (S := [AI 2]) E (Z_J6_bitCount_0f7a4 l D aC b u_6 z_11 hj_8.1 ) cs_X9_203 rfl rfl (Nat.le_of_ble_eq_true rfl) (Nat.le_of_ble_eq_true rfl) ⟨(Nat.le_of_ble_eq_true rfl), (Nat.le_of_ble_eq_true rfl)⟩ (Nat.le_of_ble_eq_true rfl) dX9_gainOf_54 (fun z_15 u_13 hp_14 => ?_)
      obtain ⟨hz_15, hp_14⟩ := hp_14
      subst hp_14
      refine z_imul (u := 2) (v := z_15.toInt) E dX9_gainOf_57 (by decide) rfl (by omega) (by omega) (fun z_17 hz_17 => ?_)
      refine s_aload_n E dX9_gainOf_58 rfl rfl ?_
      refine s_gR (r := 75) E fg_X9_58 rfl rfl (jv_lt hj_8 (by decide)) (jv_r hj_8 (by decide +kernel)) dX9_gainOf_59 ?_
      refine s_iload_n E dX9_gainOf_62 rfl rfl ?_
      refine s_vI (As := [AI x1]) (S := [AI z_17]) E (Z_X2_stepsOf_75 l D aC b u_6 x1 hj_8.1 ) cv_X9_165 rfl rfl rfl (jv_lt hj_8 (by decide)) (Nat.le_of_ble_eq_true rfl) (Nat.le_of_ble_eq_true rfl) ⟨(Nat.le_of_ble_eq_true rfl), (Nat.le_of_ble_eq_true rfl)⟩ (Nat.le_of_ble_eq_true rfl) dX9_gainOf_63 (fun z_20 u_18 hp_19 => ?_)
      obtain ⟨hz_20, hp_19⟩ := hp_19
      subst hp_19
      refine s_isub E dX9_gainOf_66 ?_
      refine z_nm (P := fun z => (-2147483648) ≤ z.toInt ∧ z.toInt ≤ 2147483647) (z32 _) (fun z_22 hz_22 => ?_)
      exact r_int E dX9_gainOf_67 ⟨⟨by have hb_ := z32 z_22; omega, by have hb_ := z32 z_22; omega⟩, hj_8⟩
    ·
      refine s_aload_n E dX9_gainOf_30 rfl rfl ?_
      refine s_gR (r := 75) E fg_X9_58 rfl rfl (jv_lt hj_3 (by decide)) (jv_r hj_3 (by decide +kernel)) dX9_gainOf_31 ?_
      refine s_iload_n E dX9_gainOf_34 rfl rfl ?_
      refine s_vV (As := [AI x2]) (S := []) E (Z_X2_keepStill_75 l D aC b u_1 x2 hj_3.1 ⟨by have hb_ := z32 x2; omega, by have hb_ := z32 x2; omega⟩) cv_X9_353 rfl rfl rfl (jv_lt hj_3 (by decide)) (Nat.le_of_ble_eq_true rfl) (Nat.le_of_ble_eq_true rfl) ⟨(Nat.le_of_ble_eq_true rfl), (Nat.le_of_ble_eq_true rfl)⟩ (Nat.le_of_ble_eq_true rfl) dX9_gainOf_35 (fun u_23 hp_24 => ?_)
      have hj_25 := jv_trans hj_3 hp_24
      refine s_aload_n E dX9_gainOf_38 rfl rfl ?_
      refine s_gR (r := 75) E fg_X9_58 rfl rfl (jv_lt hj_25 (by decide)) (jv_r hj_25 (by decide +kernel)) dX9_gainOf_39 ?_
      refine s_vV (As := []) (S := []) E (Z_X2_gather_75 l D aC b u_23  hj_25.1 ) cv_X9_356 rfl rfl rfl (jv_lt hj_25 (by decide)) (Nat.le_of_ble_eq_true rfl) (Nat.le_of_ble_eq_true rfl) ⟨(Nat.le_of_ble_eq_true rfl), (Nat.le_of_ble_eq_true rfl)⟩ (Nat.le_of_ble_eq_true rfl) dX9_gainOf_42 (fun u_26 hp_27 => ?_)
      have hj_28 := jv_trans hj_25 hp_27
      refine s_iconst (v := 2) E dX9_gainOf_45 (by decide) ?_
      refine s_aload_n E dX9_gainOf_46 rfl rfl ?_
      refine s_gR (r := 75) E fg_X9_58 rfl rfl (jv_lt hj_28 (by decide)) (jv_r hj_28 (by decide +kernel)) dX9_gainOf_47 ?_
      refine s_iload_n E dX9_gainOf_50 rfl rfl ?_
      refine s_vI (As := [AI x1]) (S := [AI 2]) E (Z_X2_friendsOf_75 l D aC b u_26 x1 hj_28.1 ) cv_X9_181 rfl rfl rfl (jv_lt hj_28 (by decide)) (Nat.le_of_ble_eq_true rfl) (Nat.le_of_ble_eq_true rfl) ⟨(Nat.le_of_ble_eq_true rfl), (Nat.le_of_ble_eq_true rfl)⟩ (Nat.le_of_ble_eq_true rfl) dX9_gainOf_51 (fun z_31 u_29 hp_30 => ?_)
      obtain ⟨hz_31, hp_30⟩ := hp_30
      subst hp_30
      refine s_sI (As := [AI z_31]) (S := [AI 2]) E (Z_J6_bitCount_0f7a4 l D aC b u_26 z_31 hj_28.1 ) cs_X9_203 rfl rfl (Nat.le_of_ble_eq_true rfl) (Nat.le_of_ble_eq_true rfl) ⟨(Nat.le_of_ble_eq_true rfl), (Nat.le_of_ble_eq_true rfl)⟩ (Nat.le_of_ble_eq_true rfl) dX9_gainOf_54 (fun z_35 u_33 hp_34 => ?_)
      obtain ⟨hz_35, hp_34⟩ := hp_34
      subst hp_34
      refine z_imul (u := 2) (v := z_35.toInt) E dX9_gainOf_57 (by decide) rfl (by omega) (by omega) (fun z_37 hz_37 => ?_)
      refine s_aload_n E dX9_gainOf_58 rfl rfl ?_
      refine s_gR (r := 75) E fg_X9_58 rfl rfl (jv_lt hj_28 (by decide)) (jv_r hj_28 (by decide +kernel)) dX9_gainOf_59 ?_
      refine s_iload_n E dX9_gainOf_62 rfl rfl ?_
      refine s_vI (As := [AI x1]) (S := [AI z_37]) E (Z_X2_stepsOf_75 l D aC b u_26 x1 hj_28.1 ) cv_X9_165 rfl rfl rfl (jv_lt hj_28 (by decide)) (Nat.le_of_ble_eq_true rfl) (Nat.le_of_ble_eq_true rfl) ⟨(Nat.le_of_ble_eq_true rfl), (Nat.le_of_ble_eq_true rfl)⟩ (Nat.le_of_ble_eq_true rfl) dX9_gainOf_63 (fun z_40 u_38 hp_39 => ?_)
      obtain ⟨hz_40, hp_39⟩ := hp_39
      subst hp_39
      refine s_isub E dX9_gainOf_66 ?_
      refine z_nm (P := fun z => (-2147483648) ≤ z.toInt ∧ z.toInt ≤ 2147483647) (z32 _) (fun z_42 hz_42 => ?_)
      exact r_int E dX9_gainOf_67 ⟨⟨by have hb_ := z32 z_42; omega, by have hb_ := z32 z_42; omega⟩, hj_28⟩
  ·
    refine s_aload_n E dX9_gainOf_16 rfl rfl ?_
    refine s_gR (r := 75) E fg_X9_58 rfl rfl (jv_lt hj_3 (by decide)) (jv_r hj_3 (by decide +kernel)) dX9_gainOf_17 ?_
    refine s_iload_n E dX9_gainOf_20 rfl rfl ?_
    refine s_vV (As := [AI x1]) (S := []) E (Z_X2_keepStill_75 l D aC b u_1 x1 hj_3.1 ⟨by have hb_ := z32 x1; omega, by have hb_ := z32 x1; omega⟩) cv_X9_353 rfl rfl rfl (jv_lt hj_3 (by decide)) (Nat.le_of_ble_eq_true rfl) (Nat.le_of_ble_eq_true rfl) ⟨(Nat.le_of_ble_eq_true rfl), (Nat.le_of_ble_eq_true rfl)⟩ (Nat.le_of_ble_eq_true rfl) dX9_gainOf_21 (fun u_43 hp_44 => ?_)
    have hj_45 := jv_trans hj_3 hp_44
    refine s_iload E dX9_gainOf_24 rfl ?_
    refine s_iconst (v := 1) E dX9_gainOf_26 (by decide) ?_
    refine z_icmp_ne (tgt := 38) (u := x4.toInt) (v := 1) E dX9_gainOf_27 (by decide) rfl (by decide) (fun h_46 => ?_) (fun h_46 => ?_)
    ·
      refine s_aload_n E dX9_gainOf_38 rfl rfl ?_
      refine s_gR (r := 75) E fg_X9_58 rfl rfl (jv_lt hj_45 (by decide)) (jv_r hj_45 (by decide +kernel)) dX9_gainOf_39 ?_
      refine s_vV (As := []) (S := []) E (Z_X2_gather_75 l D aC b u_43  hj_45.1 ) cv_X9_356 rfl rfl rfl (jv_lt hj_45 (by decide)) (Nat.le_of_ble_eq_true rfl) (Nat.le_of_ble_eq_true rfl) ⟨(Nat.le_of_ble_eq_true rfl), (Nat.le_of_ble_eq_true rfl)⟩ (Nat.le_of_ble_eq_true rfl) dX9_gainOf_42 (fun u_47 hp_48 => ?_)
      have hj_49 := jv_trans hj_45 hp_48
      refine s_iconst (v := 2) E dX9_gainOf_45 (by decide) ?_
      refine s_aload_n E dX9_gainOf_46 rfl rfl ?_
      refine s_gR (r := 75) E fg_X9_58 rfl rfl (jv_lt hj_49 (by decide)) (jv_r hj_49 (by decide +kernel)) dX9_gainOf_47 ?_
      refine s_iload_n E dX9_gainOf_50 rfl rfl ?_
      refine s_vI (As := [AI x1]) (S := [AI 2]) E (Z_X2_friendsOf_75 l D aC b u_47 x1 hj_49.1 ) cv_X9_181 rfl rfl rfl (jv_lt hj_49 (by decide)) (Nat.le_of_ble_eq_true rfl) (Nat.le_of_ble_eq_true rfl) ⟨(Nat.le_of_ble_eq_true rfl), (Nat.le_of_ble_eq_true rfl)⟩ (Nat.le_of_ble_eq_true rfl) dX9_gainOf_51 (fun z_52 u_50 hp_51 => ?_)
      obtain ⟨hz_52, hp_51⟩ := hp_51
      subst hp_51
      refine s_sI (As := [AI z_52]) (S := [AI 2]) E (Z_J6_bitCount_0f7a4 l D aC b u_47 z_52 hj_49.1 ) cs_X9_203 rfl rfl (Nat.le_of_ble_eq_true rfl) (Nat.le_of_ble_eq_true rfl) ⟨(Nat.le_of_ble_eq_true rfl), (Nat.le_of_ble_eq_true rfl)⟩ (Nat.le_of_ble_eq_true rfl) dX9_gainOf_54 (fun z_56 u_54 hp_55 => ?_)
      obtain ⟨hz_56, hp_55⟩ := hp_55
      subst hp_55
      refine z_imul (u := 2) (v := z_56.toInt) E dX9_gainOf_57 (by decide) rfl (by omega) (by omega) (fun z_58 hz_58 => ?_)
      refine s_aload_n E dX9_gainOf_58 rfl rfl ?_
      refine s_gR (r := 75) E fg_X9_58 rfl rfl (jv_lt hj_49 (by decide)) (jv_r hj_49 (by decide +kernel)) dX9_gainOf_59 ?_
      refine s_iload_n E dX9_gainOf_62 rfl rfl ?_
      refine s_vI (As := [AI x1]) (S := [AI z_58]) E (Z_X2_stepsOf_75 l D aC b u_47 x1 hj_49.1 ) cv_X9_165 rfl rfl rfl (jv_lt hj_49 (by decide)) (Nat.le_of_ble_eq_true rfl) (Nat.le_of_ble_eq_true rfl) ⟨(Nat.le_of_ble_eq_true rfl), (Nat.le_of_ble_eq_true rfl)⟩ (Nat.le_of_ble_eq_true rfl) dX9_gainOf_63 (fun z_61 u_59 hp_60 => ?_)
      obtain ⟨hz_61, hp_60⟩ := hp_60
      subst hp_60
      refine s_isub E dX9_gainOf_66 ?_
      refine z_nm (P := fun z => (-2147483648) ≤ z.toInt ∧ z.toInt ≤ 2147483647) (z32 _) (fun z_63 hz_63 => ?_)
      exact r_int E dX9_gainOf_67 ⟨⟨by have hb_ := z32 z_63; omega, by have hb_ := z32 z_63; omega⟩, hj_49⟩
    ·
      refine s_aload_n E dX9_gainOf_30 rfl rfl ?_
      refine s_gR (r := 75) E fg_X9_58 rfl rfl (jv_lt hj_45 (by decide)) (jv_r hj_45 (by decide +kernel)) dX9_gainOf_31 ?_
      refine s_iload_n E dX9_gainOf_34 rfl rfl ?_
      refine s_vV (As := [AI x2]) (S := []) E (Z_X2_keepStill_75 l D aC b u_43 x2 hj_45.1 ⟨by have hb_ := z32 x2; omega, by have hb_ := z32 x2; omega⟩) cv_X9_353 rfl rfl rfl (jv_lt hj_45 (by decide)) (Nat.le_of_ble_eq_true rfl) (Nat.le_of_ble_eq_true rfl) ⟨(Nat.le_of_ble_eq_true rfl), (Nat.le_of_ble_eq_true rfl)⟩ (Nat.le_of_ble_eq_true rfl) dX9_gainOf_35 (fun u_64 hp_65 => ?_)
      have hj_66 := jv_trans hj_45 hp_65
      refine s_aload_n E dX9_gainOf_38 rfl rfl ?_
      refine s_gR (r := 75) E fg_X9_58 rfl rfl (jv_lt hj_66 (by decide)) (jv_r hj_66 (by decide +kernel)) dX9_gainOf_39 ?_
      refine s_vV (As := []) (S := []) E (Z_X2_gather_75 l D aC b u_64  hj_66.1 ) cv_X9_356 rfl rfl rfl (jv_lt hj_66 (by decide)) (Nat.le_of_ble_eq_true rfl) (Nat.le_of_ble_eq_true rfl) ⟨(Nat.le_of_ble_eq_true rfl), (Nat.le_of_ble_eq_true rfl)⟩ (Nat.le_of_ble_eq_true rfl) dX9_gainOf_42 (fun u_67 hp_68 => ?_)
      have hj_69 := jv_trans hj_66 hp_68
      refine s_iconst (v := 2) E dX9_gainOf_45 (by decide) ?_
      refine s_aload_n E dX9_gainOf_46 rfl rfl ?_
      refine s_gR (r := 75) E fg_X9_58 rfl rfl (jv_lt hj_69 (by decide)) (jv_r hj_69 (by decide +kernel)) dX9_gainOf_47 ?_
      refine s_iload_n E dX9_gainOf_50 rfl rfl ?_
      refine s_vI (As := [AI x1]) (S := [AI 2]) E (Z_X2_friendsOf_75 l D aC b u_67 x1 hj_69.1 ) cv_X9_181 rfl rfl rfl (jv_lt hj_69 (by decide)) (Nat.le_of_ble_eq_true rfl) (Nat.le_of_ble_eq_true rfl) ⟨(Nat.le_of_ble_eq_true rfl), (Nat.le_of_ble_eq_true rfl)⟩ (Nat.le_of_ble_eq_true rfl) dX9_gainOf_51 (fun z_72 u_70 hp_71 => ?_)
      obtain ⟨hz_72, hp_71⟩ := hp_71
      subst hp_71
      refine s_sI (As := [AI z_72]) (S := [AI 2]) E (Z_J6_bitCount_0f7a4 l D aC b u_67 z_72 hj_69.1 ) cs_X9_203 rfl rfl (Nat.le_of_ble_eq_true rfl) (Nat.le_of_ble_eq_true rfl) ⟨(Nat.le_of_ble_eq_true rfl), (Nat.le_of_ble_eq_true rfl)⟩ (Nat.le_of_ble_eq_true rfl) dX9_gainOf_54 (fun z_76 u_74 hp_75 => ?_)
      obtain ⟨hz_76, hp_75⟩ := hp_75
      subst hp_75
      refine z_imul (u := 2) (v := z_76.toInt) E dX9_gainOf_57 (by decide) rfl (by omega) (by omega) (fun z_78 hz_78 => ?_)
      refine s_aload_n E dX9_gainOf_58 rfl rfl ?_
      refine s_gR (r := 75) E fg_X9_58 rfl rfl (jv_lt hj_69 (by decide)) (jv_r hj_69 (by decide +kernel)) dX9_gainOf_59 ?_
      refine s_iload_n E dX9_gainOf_62 rfl rfl ?_
      refine s_vI (As := [AI x1]) (S := [AI z_78]) E (Z_X2_stepsOf_75 l D aC b u_67 x1 hj_69.1 ) cv_X9_165 rfl rfl rfl (jv_lt hj_69 (by decide)) (Nat.le_of_ble_eq_true rfl) (Nat.le_of_ble_eq_true rfl) ⟨(Nat.le_of_ble_eq_true rfl), (Nat.le_of_ble_eq_true rfl)⟩ (Nat.le_of_ble_eq_true rfl) dX9_gainOf_63 (fun z_81 u_79 hp_80 => ?_)
      obtain ⟨hz_81, hp_80⟩ := hp_80
      subst hp_80
      refine s_isub E dX9_gainOf_66 ?_
      refine z_nm (P := fun z => (-2147483648) ≤ z.toInt ∧ z.toInt ≤ 2147483647) (z32 _) (fun z_83 hz_83 => ?_)
      exact r_int E dX9_gainOf_67 ⟨⟨by have hb_ := z32 z_83; omega, by have hb_ := z32 z_83; omega⟩, hj_69⟩
set_option maxRecDepth 20000 in
set_option maxHeartbeats 2000000 in
theorem Z_X9_isContent_0 (l : Launch) (D : va_G) (aC : Nat → ClassId) (b : Nat) (w : XW) (x1 : Int32) (x2 : Int32) (x3 : Int32) (x4 : Int32) (hI : Iv w) (hx1 : 0 ≤ x1.toInt ∧ x1.toInt ≤ 5) (hx2 : 0 ≤ x2.toInt ∧ x2.toInt ≤ 5) : CnI l D aC b M_X9_isContent 5 114 0 0 [AR 0, AI x1, AI x2, AI x3, AI x4] w (fun r u => (0 ≤ r.toInt ∧ r.toInt ≤ 1) ∧ Jv w u) := by
  refine cn_I (own := RX9) (nm := "isContent") (L0 := [some (AR 0), some (AI x1), some (AI x2), some (AI x3), some (AI x4)]) (by decide +kernel) rfl rfl (Nat.le_of_ble_eq_true rfl) rfl ?_
  intro p e s m args below meth c E hin
  have hJ : Jv w w := jv_rfl hI
  have hb_x3 := z32 x3
  have hb_x4 := z32 x4
  refine s_aload_n E dX9_isContent_0 rfl rfl ?_
  refine s_iload_n E dX9_isContent_1 rfl rfl ?_
  refine s_iload_n E dX9_isContent_2 rfl rfl ?_
  refine s_iload_n E dX9_isContent_3 rfl rfl ?_
  refine s_iload E dX9_isContent_4 rfl ?_
  refine s_vI (As := [AI x1, AI x2, AI x3, AI x4]) (S := []) E (Z_X9_gainOf_0 l D aC b w x1 x2 x3 x4 hJ.1 ⟨by have hb_ := z32 x1; omega, by have hb_ := z32 x1; omega⟩ ⟨by have hb_ := z32 x2; omega, by have hb_ := z32 x2; omega⟩) cv_X9_346 rfl rfl rfl (jv_lt hJ (by decide)) (Nat.le_of_ble_eq_true rfl) (Nat.le_of_ble_eq_true rfl) ⟨(Nat.le_of_ble_eq_true rfl), (Nat.le_of_ble_eq_true rfl)⟩ (Nat.le_of_ble_eq_true rfl) dX9_isContent_6 (fun z_3 u_1 hp_2 => ?_)
  obtain ⟨hz_3, hp_2⟩ := hp_2
  have hj_4 := jv_trans hJ hp_2
  refine s_aload_n E dX9_isContent_9 rfl rfl ?_
  refine s_iload_n E dX9_isContent_10 rfl rfl ?_
  refine s_iload_n E dX9_isContent_11 rfl rfl ?_
  refine s_iconst (v := 1) E dX9_isContent_12 (by decide) ?_
  refine s_iload_n E dX9_isContent_13 rfl rfl ?_
  refine s_isub E dX9_isContent_14 ?_
  refine z_nm (P := fun z => (-2147483648) ≤ z.toInt ∧ z.toInt ≤ 2147483647) (z32 _) (fun z_5 hz_5 => ?_)
  refine s_iload E dX9_isContent_15 rfl ?_
  refine s_vI (As := [AI x1, AI x2, AI z_5, AI x4]) (S := [AI z_3]) E (Z_X9_gainOf_0 l D aC b u_1 x1 x2 z_5 x4 hj_4.1 ⟨by have hb_ := z32 x1; omega, by have hb_ := z32 x1; omega⟩ ⟨by have hb_ := z32 x2; omega, by have hb_ := z32 x2; omega⟩) cv_X9_346 rfl rfl rfl (jv_lt hj_4 (by decide)) (Nat.le_of_ble_eq_true rfl) (Nat.le_of_ble_eq_true rfl) ⟨(Nat.le_of_ble_eq_true rfl), (Nat.le_of_ble_eq_true rfl)⟩ (Nat.le_of_ble_eq_true rfl) dX9_isContent_17 (fun z_8 u_6 hp_7 => ?_)
  obtain ⟨hz_8, hp_7⟩ := hp_7
  have hj_9 := jv_trans hj_4 hp_7
  refine z_icmp_lt (tgt := 27) (u := z_3.toInt) (v := z_8.toInt) E dX9_isContent_20 (by decide) rfl rfl (fun h_10 => ?_) (fun h_10 => ?_)
  ·
    refine s_iconst (v := 0) E dX9_isContent_27 (by decide) ?_
    exact r_bool E dX9_isContent_28 (Or.inl rfl) ⟨(by decide), hj_9⟩
  ·
    refine s_iconst (v := 1) E dX9_isContent_23 (by decide) ?_
    refine s_goto (tgt := 28) E dX9_isContent_24 (by decide) ?_
    exact r_bool E dX9_isContent_28 (Or.inr rfl) ⟨(by decide), hj_9⟩
set_option maxRecDepth 20000 in
set_option maxHeartbeats 2000000 in
theorem Z_X9_rests_0 (l : Launch) (D : va_G) (aC : Nat → ClassId) (b : Nat) (w : XW) (x1 : Int32) (x2 : Int32) (hI : Iv w)  : CnI l D aC b M_X9_rests 6 138 0 0 [AR 0, AI x1, AI x2] w (fun r u => ((-2147483648) ≤ r.toInt ∧ r.toInt ≤ 2147483647 ∧ (¬ r.toInt = 0 ∨ (0 ≤ x1.toInt ∧ x1.toInt ≤ 5)) ∧ (¬ r.toInt = 0 ∨ (0 ≤ x2.toInt ∧ x2.toInt ≤ 5)) ∧ (¬ r.toInt = 0 ∨ (1 ≤ (w.2.2.1 5 3).toInt ∧ (w.2.2.1 5 3).toInt ≤ 6))) ∧ Jv w u) := by
  refine cn_I (own := RX9) (nm := "rests") (L0 := [some (AR 0), some (AI x1), some (AI x2), none, none, none, none]) (by decide +kernel) rfl rfl (Nat.le_of_ble_eq_true rfl) rfl ?_
  intro p e s m args below meth c E hin
  have hJ : Jv w w := jv_rfl hI
  have hb_x1 := z32 x1
  have hb_x2 := z32 x2
  refine s_aload_n E dX9_rests_0 rfl rfl ?_
  refine s_gR (r := 2) E fg_X9_20 rfl rfl (jv_lt hJ (by decide)) (jv_r hJ (by decide +kernel)) dX9_rests_1 ?_
  refine s_iload_n E dX9_rests_4 rfl rfl ?_
  refine s_vI (As := [AI x1]) (S := []) E (Z_X0_hasLady_2 l D aC b w x1 hJ.1 ) cv_X9_139 rfl rfl rfl (jv_lt hJ (by decide)) (Nat.le_of_ble_eq_true rfl) (Nat.le_of_ble_eq_true rfl) ⟨(Nat.le_of_ble_eq_true rfl), (Nat.le_of_ble_eq_true rfl)⟩ (Nat.le_of_ble_eq_true rfl) dX9_rests_5 (fun z_3 u_1 hp_2 => ?_)
  obtain ⟨hz_3, hp_2⟩ := hp_2
  subst hp_2
  refine z_if_eq (tgt := 27) (u := z_3.toInt) E dX9_rests_8 (by decide) rfl (fun h_5 => ?_) (fun h_5 => ?_)
  ·
    refine s_bipush (v := (-2)) E dX9_rests_27 (by decide) ?_
    exact r_int E dX9_rests_29 ⟨⟨by decide, by decide, by first | (left; decide) | (right; decide) | (right; have hb_ := z32 x1; omega), by first | (left; decide) | (right; decide) | (right; have hb_ := z32 x2; omega), by first | (left; decide) | (right; decide) | (right; have hb_ := z32 (w.2.2.1 5 3); omega)⟩, hJ⟩
  ·
    refine s_aload_n E dX9_rests_11 rfl rfl ?_
    refine s_gR (r := 2) E fg_X9_20 rfl rfl (jv_lt hJ (by decide)) (jv_r hJ (by decide +kernel)) dX9_rests_12 ?_
    refine s_iload_n E dX9_rests_15 rfl rfl ?_
    refine s_vI (As := [AI x2]) (S := []) E (Z_X0_hasLady_2 l D aC b w x2 hJ.1 ) cv_X9_139 rfl rfl rfl (jv_lt hJ (by decide)) (Nat.le_of_ble_eq_true rfl) (Nat.le_of_ble_eq_true rfl) ⟨(Nat.le_of_ble_eq_true rfl), (Nat.le_of_ble_eq_true rfl)⟩ (Nat.le_of_ble_eq_true rfl) dX9_rests_16 (fun z_8 u_6 hp_7 => ?_)
    obtain ⟨hz_8, hp_7⟩ := hp_7
    subst hp_7
    refine z_if_eq (tgt := 27) (u := z_8.toInt) E dX9_rests_19 (by decide) rfl (fun h_10 => ?_) (fun h_10 => ?_)
    ·
      refine s_bipush (v := (-2)) E dX9_rests_27 (by decide) ?_
      exact r_int E dX9_rests_29 ⟨⟨by decide, by decide, by first | (left; decide) | (right; decide) | (right; have hb_ := z32 x1; omega), by first | (left; decide) | (right; decide) | (right; have hb_ := z32 x2; omega), by first | (left; decide) | (right; decide) | (right; have hb_ := z32 (w.2.2.1 5 3); omega)⟩, hJ⟩
    ·
      refine s_iload_n E dX9_rests_22 rfl rfl ?_
      refine s_iload_n E dX9_rests_23 rfl rfl ?_
      refine z_icmp_ne (tgt := 30) (u := x1.toInt) (v := x2.toInt) E dX9_rests_24 (by decide) rfl rfl (fun h_11 => ?_) (fun h_11 => ?_)
      ·
        refine s_iconst (v := 0) E dX9_rests_30 (by decide) ?_
        refine s_istore_n (L2 := [some (AR 0), some (AI x1), some (AI x2), some (AI 0), none, none, none]) E dX9_rests_31 rfl (by decide) rfl ?_
        refine s_iconst (v := 0) E dX9_rests_32 (by decide) ?_
        refine s_istore (L2 := [some (AR 0), some (AI x1), some (AI x2), some (AI 0), some (AI 0), none, none]) E dX9_rests_33 (by decide) rfl ?_
        refine z_loop (St := Int32 × Int32) (Pi := fun ⟨q35_3_11, q35_4_11⟩ v35 => (0 ≤ q35_4_11.toInt ∧ q35_4_11.toInt ≤ 4) ∧ Jv w v35) (Lf := fun ⟨q35_3_11, q35_4_11⟩ => [some (AR 0), some (AI x1), some (AI x2), some (AI q35_3_11), some (AI q35_4_11), none, none]) (fun ⟨q35_3_11, q35_4_11⟩ _ => (5 - q35_4_11.toInt).toNat) ⟨0, 0⟩ ⟨⟨by decide, by decide⟩, hJ⟩ ?_
        rintro ⟨q35_3_11, q35_4_11⟩ v35 ⟨hq35_4, hj_12⟩ ih35
        have hbq35_3 := z32 q35_3_11
        refine s_loc (L2 := [some (AR 0), some (AI x1), some (AI x2), some (AI q35_3_11), some (AI q35_4_11), none, none]) rfl ?_
        refine s_iload E dX9_rests_35 rfl ?_
        refine s_iconst (v := 4) E dX9_rests_37 (by decide) ?_
        refine z_icmp_ge (tgt := 92) (u := q35_4_11.toInt) (v := 4) E dX9_rests_38 (by decide) rfl (by decide) (fun h_13 => ?_) (fun h_13 => ?_)
        ·
          refine s_iload_n E dX9_rests_92 rfl rfl ?_
          exact r_int E dX9_rests_93 ⟨⟨by have hb_ := z32 q35_3_11; omega, by have hb_ := z32 q35_3_11; omega, by first | (right; decide) | (have hb_ := z32 q35_3_11; omega) | (have hb_ := z32 q35_3_11; have hc_ := z32 x1; omega), by first | (right; decide) | (have hb_ := z32 q35_3_11; omega) | (have hb_ := z32 q35_3_11; have hc_ := z32 x2; omega), by first | (right; decide) | (have hb_ := z32 q35_3_11; omega) | (have hb_ := z32 q35_3_11; have hc_ := z32 (w.2.2.1 5 3); omega)⟩, hj_12⟩
        ·
          refine s_iload E dX9_rests_41 rfl ?_
          refine s_iconst (v := 1) E dX9_rests_43 (by decide) ?_
          refine z_mask (v := 1) E dX9_rests_44 (by decide) (by decide) (fun z_14 hz_14 => ?_)
          refine s_istore (L2 := [some (AR 0), some (AI x1), some (AI x2), some (AI q35_3_11), some (AI q35_4_11), some (AI z_14), none]) E dX9_rests_45 (by decide) rfl ?_
          refine s_iload E dX9_rests_47 rfl ?_
          refine s_iconst (v := 1) E dX9_rests_49 (by decide) ?_
          refine s_ishr E dX9_rests_50 ?_
          refine z_nm (P := fun z => (-2147483648) ≤ z.toInt ∧ z.toInt ≤ 2147483647) (z32 _) (fun z_15 hz_15 => ?_)
          refine s_istore (L2 := [some (AR 0), some (AI x1), some (AI x2), some (AI q35_3_11), some (AI q35_4_11), some (AI z_14), some (AI z_15)]) E dX9_rests_51 (by decide) rfl ?_
          refine s_aload_n E dX9_rests_53 rfl rfl ?_
          refine s_iload_n E dX9_rests_54 rfl rfl ?_
          refine s_iload_n E dX9_rests_55 rfl rfl ?_
          refine s_iload E dX9_rests_56 rfl ?_
          refine s_iload E dX9_rests_58 rfl ?_
          refine s_vI (As := [AI x1, AI x2, AI z_14, AI z_15]) (S := []) E (Z_X9_isContent_0 l D aC b v35 x1 x2 z_14 z_15 hj_12.1 ⟨by have hb_ := z32 x1; omega, by have hb_ := z32 x1; omega⟩ ⟨by have hb_ := z32 x2; omega, by have hb_ := z32 x2; omega⟩) cv_X9_342 rfl rfl rfl (jv_lt hj_12 (by decide)) (Nat.le_of_ble_eq_true rfl) (Nat.le_of_ble_eq_true rfl) ⟨(Nat.le_of_ble_eq_true rfl), (Nat.le_of_ble_eq_true rfl)⟩ (Nat.le_of_ble_eq_true rfl) dX9_rests_60 (fun z_18 u_16 hp_17 => ?_)
          obtain ⟨hz_18, hp_17⟩ := hp_17
          have hj_19 := jv_trans hj_12 hp_17
          refine z_if_eq (tgt := 86) (u := z_18.toInt) E dX9_rests_63 (by decide) rfl (fun h_20 => ?_) (fun h_20 => ?_)
          ·
            refine z_iinc (u := q35_4_11.toInt) (L2 := fun z_21 => [some (AR 0), some (AI x1), some (AI x2), some (AI q35_3_11), some (AI z_21), some (AI z_14), some (AI z_15)]) E dX9_rests_86 rfl rfl (by decide) (fun _ => rfl) (by decide) (by omega) (by omega) (fun z_21 hz_21 => ?_)
            refine s_goto (tgt := 35) E dX9_rests_89 (by decide) ?_
            refine s_drop (i := 5) (L2 := [some (AR 0), some (AI x1), some (AI x2), some (AI q35_3_11), some (AI z_21), none, some (AI z_15)]) rfl ?_
            refine s_drop (i := 6) (L2 := [some (AR 0), some (AI x1), some (AI x2), some (AI q35_3_11), some (AI z_21), none, none]) rfl ?_
            exact ih35 ⟨q35_3_11, z_21⟩ u_16 ⟨⟨by have hb_ := z32 z_21; omega, by have hb_ := z32 z_21; omega⟩, hj_19⟩ (by first | omega | decide | (dsimp only; omega) | (dsimp only; decide))
          ·
            refine s_aload_n E dX9_rests_66 rfl rfl ?_
            refine s_iload_n E dX9_rests_67 rfl rfl ?_
            refine s_iload_n E dX9_rests_68 rfl rfl ?_
            refine s_iload E dX9_rests_69 rfl ?_
            refine s_iload E dX9_rests_71 rfl ?_
            refine s_vI (As := [AI x2, AI x1, AI z_15, AI z_14]) (S := []) E (Z_X9_isContent_0 l D aC b u_16 x2 x1 z_15 z_14 hj_19.1 ⟨by have hb_ := z32 x2; omega, by have hb_ := z32 x2; omega⟩ ⟨by have hb_ := z32 x1; omega, by have hb_ := z32 x1; omega⟩) cv_X9_342 rfl rfl rfl (jv_lt hj_19 (by decide)) (Nat.le_of_ble_eq_true rfl) (Nat.le_of_ble_eq_true rfl) ⟨(Nat.le_of_ble_eq_true rfl), (Nat.le_of_ble_eq_true rfl)⟩ (Nat.le_of_ble_eq_true rfl) dX9_rests_73 (fun z_24 u_22 hp_23 => ?_)
            obtain ⟨hz_24, hp_23⟩ := hp_23
            have hj_25 := jv_trans hj_19 hp_23
            refine z_if_eq (tgt := 86) (u := z_24.toInt) E dX9_rests_76 (by decide) rfl (fun h_26 => ?_) (fun h_26 => ?_)
            ·
              refine z_iinc (u := q35_4_11.toInt) (L2 := fun z_27 => [some (AR 0), some (AI x1), some (AI x2), some (AI q35_3_11), some (AI z_27), some (AI z_14), some (AI z_15)]) E dX9_rests_86 rfl rfl (by decide) (fun _ => rfl) (by decide) (by omega) (by omega) (fun z_27 hz_27 => ?_)
              refine s_goto (tgt := 35) E dX9_rests_89 (by decide) ?_
              refine s_drop (i := 5) (L2 := [some (AR 0), some (AI x1), some (AI x2), some (AI q35_3_11), some (AI z_27), none, some (AI z_15)]) rfl ?_
              refine s_drop (i := 6) (L2 := [some (AR 0), some (AI x1), some (AI x2), some (AI q35_3_11), some (AI z_27), none, none]) rfl ?_
              exact ih35 ⟨q35_3_11, z_27⟩ u_22 ⟨⟨by have hb_ := z32 z_27; omega, by have hb_ := z32 z_27; omega⟩, hj_25⟩ (by first | omega | decide | (dsimp only; omega) | (dsimp only; decide))
            ·
              refine s_iload_n E dX9_rests_79 rfl rfl ?_
              refine s_iconst (v := 1) E dX9_rests_80 (by decide) ?_
              refine s_iload E dX9_rests_81 rfl ?_
              refine z_shl1 3 (u := q35_4_11.toInt) (B := 8) E dX9_rests_83 rfl (by omega) (by omega) (by decide) (by decide) (fun z_28 hz_28 => ?_)
              refine s_ior E dX9_rests_84 ?_
              refine z_nm (P := fun z => (-2147483648) ≤ z.toInt ∧ z.toInt ≤ 2147483647) (z32 _) (fun z_29 hz_29 => ?_)
              refine s_istore_n (L2 := [some (AR 0), some (AI x1), some (AI x2), some (AI z_29), some (AI q35_4_11), some (AI z_14), some (AI z_15)]) E dX9_rests_85 rfl (by decide) rfl ?_
              refine z_iinc (u := q35_4_11.toInt) (L2 := fun z_30 => [some (AR 0), some (AI x1), some (AI x2), some (AI z_29), some (AI z_30), some (AI z_14), some (AI z_15)]) E dX9_rests_86 rfl rfl (by decide) (fun _ => rfl) (by decide) (by omega) (by omega) (fun z_30 hz_30 => ?_)
              refine s_goto (tgt := 35) E dX9_rests_89 (by decide) ?_
              refine s_drop (i := 5) (L2 := [some (AR 0), some (AI x1), some (AI x2), some (AI z_29), some (AI z_30), none, some (AI z_15)]) rfl ?_
              refine s_drop (i := 6) (L2 := [some (AR 0), some (AI x1), some (AI x2), some (AI z_29), some (AI z_30), none, none]) rfl ?_
              exact ih35 ⟨z_29, z_30⟩ u_22 ⟨⟨by have hb_ := z32 z_30; omega, by have hb_ := z32 z_30; omega⟩, hj_25⟩ (by first | omega | decide | (dsimp only; omega) | (dsimp only; decide))
      ·
        refine s_bipush (v := (-2)) E dX9_rests_27 (by decide) ?_
        exact r_int E dX9_rests_29 ⟨⟨by decide, by decide, by first | (left; decide) | (right; decide) | (right; have hb_ := z32 x1; omega), by first | (left; decide) | (right; decide) | (right; have hb_ := z32 x2; omega), by first | (left; decide) | (right; decide) | (right; have hb_ := z32 (w.2.2.1 5 3); omega)⟩, hJ⟩
set_option maxRecDepth 20000 in
set_option maxHeartbeats 2000000 in
theorem Z_X9_gains_0 (l : Launch) (D : va_G) (aC : Nat → ClassId) (b : Nat) (w : XW) (x1 : Int32) (x2 : Int32) (x3 : Int32) (x4 : Int32) (hI : Iv w)  : CnI l D aC b M_X9_gains 5 114 0 0 [AR 0, AI x1, AI x2, AI x3, AI x4] w (fun r u => ((-2147483648) ≤ r.toInt ∧ r.toInt ≤ 2147483647 ∧ (¬ r.toInt = 0 ∨ (0 ≤ x1.toInt ∧ x1.toInt ≤ 5)) ∧ (¬ r.toInt = 0 ∨ (0 ≤ x2.toInt ∧ x2.toInt ≤ 5)) ∧ (¬ r.toInt = 0 ∨ (0 ≤ x3.toInt ∧ x3.toInt ≤ 1)) ∧ (¬ r.toInt = 0 ∨ (0 ≤ x4.toInt ∧ x4.toInt ≤ 1)) ∧ (¬ r.toInt = 0 ∨ (1 ≤ (w.2.2.1 5 3).toInt ∧ (w.2.2.1 5 3).toInt ≤ 6))) ∧ Jv w u) := by
  refine cn_I (own := RX9) (nm := "gains") (L0 := [some (AR 0), some (AI x1), some (AI x2), some (AI x3), some (AI x4)]) (by decide +kernel) rfl rfl (Nat.le_of_ble_eq_true rfl) rfl ?_
  intro p e s m args below meth c E hin
  have hJ : Jv w w := jv_rfl hI
  have hb_x1 := z32 x1
  have hb_x2 := z32 x2
  have hb_x3 := z32 x3
  have hb_x4 := z32 x4
  refine s_aload_n E dX9_gains_0 rfl rfl ?_
  refine s_gR (r := 2) E fg_X9_20 rfl rfl (jv_lt hJ (by decide)) (jv_r hJ (by decide +kernel)) dX9_gains_1 ?_
  refine s_iload_n E dX9_gains_4 rfl rfl ?_
  refine s_vI (As := [AI x1]) (S := []) E (Z_X0_hasLady_2 l D aC b w x1 hJ.1 ) cv_X9_139 rfl rfl rfl (jv_lt hJ (by decide)) (Nat.le_of_ble_eq_true rfl) (Nat.le_of_ble_eq_true rfl) ⟨(Nat.le_of_ble_eq_true rfl), (Nat.le_of_ble_eq_true rfl)⟩ (Nat.le_of_ble_eq_true rfl) dX9_gains_5 (fun z_3 u_1 hp_2 => ?_)
  obtain ⟨hz_3, hp_2⟩ := hp_2
  subst hp_2
  refine z_if_eq (tgt := 42) (u := z_3.toInt) E dX9_gains_8 (by decide) rfl (fun h_5 => ?_) (fun h_5 => ?_)
  ·
    refine s_sipush (v := (-1000)) E dX9_gains_42 (by decide) ?_
    exact r_int E dX9_gains_45 ⟨⟨by decide, by decide, by first | (left; decide) | (right; decide) | (right; have hb_ := z32 x1; omega), by first | (left; decide) | (right; decide) | (right; have hb_ := z32 x2; omega), by first | (left; decide) | (right; decide) | (right; have hb_ := z32 x3; omega), by first | (left; decide) | (right; decide) | (right; have hb_ := z32 x4; omega), by first | (left; decide) | (right; decide) | (right; have hb_ := z32 (w.2.2.1 5 3); omega)⟩, hJ⟩
  ·
    refine s_aload_n E dX9_gains_11 rfl rfl ?_
    refine s_gR (r := 2) E fg_X9_20 rfl rfl (jv_lt hJ (by decide)) (jv_r hJ (by decide +kernel)) dX9_gains_12 ?_
    refine s_iload_n E dX9_gains_15 rfl rfl ?_
    refine s_vI (As := [AI x2]) (S := []) E (Z_X0_hasLady_2 l D aC b w x2 hJ.1 ) cv_X9_139 rfl rfl rfl (jv_lt hJ (by decide)) (Nat.le_of_ble_eq_true rfl) (Nat.le_of_ble_eq_true rfl) ⟨(Nat.le_of_ble_eq_true rfl), (Nat.le_of_ble_eq_true rfl)⟩ (Nat.le_of_ble_eq_true rfl) dX9_gains_16 (fun z_8 u_6 hp_7 => ?_)
    obtain ⟨hz_8, hp_7⟩ := hp_7
    subst hp_7
    refine z_if_eq (tgt := 42) (u := z_8.toInt) E dX9_gains_19 (by decide) rfl (fun h_10 => ?_) (fun h_10 => ?_)
    ·
      refine s_sipush (v := (-1000)) E dX9_gains_42 (by decide) ?_
      exact r_int E dX9_gains_45 ⟨⟨by decide, by decide, by first | (left; decide) | (right; decide) | (right; have hb_ := z32 x1; omega), by first | (left; decide) | (right; decide) | (right; have hb_ := z32 x2; omega), by first | (left; decide) | (right; decide) | (right; have hb_ := z32 x3; omega), by first | (left; decide) | (right; decide) | (right; have hb_ := z32 x4; omega), by first | (left; decide) | (right; decide) | (right; have hb_ := z32 (w.2.2.1 5 3); omega)⟩, hJ⟩
    ·
      refine s_iload_n E dX9_gains_22 rfl rfl ?_
      refine s_iload_n E dX9_gains_23 rfl rfl ?_
      refine z_icmp_eq (tgt := 42) (u := x1.toInt) (v := x2.toInt) E dX9_gains_24 (by decide) rfl rfl (fun h_11 => ?_) (fun h_11 => ?_)
      ·
        refine s_sipush (v := (-1000)) E dX9_gains_42 (by decide) ?_
        exact r_int E dX9_gains_45 ⟨⟨by decide, by decide, by first | (left; decide) | (right; decide) | (right; have hb_ := z32 x1; omega), by first | (left; decide) | (right; decide) | (right; have hb_ := z32 x2; omega), by first | (left; decide) | (right; decide) | (right; have hb_ := z32 x3; omega), by first | (left; decide) | (right; decide) | (right; have hb_ := z32 x4; omega), by first | (left; decide) | (right; decide) | (right; have hb_ := z32 (w.2.2.1 5 3); omega)⟩, hJ⟩
      ·
        refine s_iload_n E dX9_gains_27 rfl rfl ?_
        refine s_sI (As := [AI x3]) (S := []) E (Z_X9_isPart l D aC b w x3 hJ.1 ) cs_X9_320 rfl rfl (Nat.le_of_ble_eq_true rfl) (Nat.le_of_ble_eq_true rfl) ⟨(Nat.le_of_ble_eq_true rfl), (Nat.le_of_ble_eq_true rfl)⟩ (Nat.le_of_ble_eq_true rfl) dX9_gains_28 (fun z_14 u_12 hp_13 => ?_)
        obtain ⟨hz_14, hp_13⟩ := hp_13
        subst hp_13
        refine z_if_eq (tgt := 42) (u := z_14.toInt) E dX9_gains_31 (by decide) rfl (fun h_16 => ?_) (fun h_16 => ?_)
        ·
          refine s_sipush (v := (-1000)) E dX9_gains_42 (by decide) ?_
          exact r_int E dX9_gains_45 ⟨⟨by decide, by decide, by first | (left; decide) | (right; decide) | (right; have hb_ := z32 x1; omega), by first | (left; decide) | (right; decide) | (right; have hb_ := z32 x2; omega), by first | (left; decide) | (right; decide) | (right; have hb_ := z32 x3; omega), by first | (left; decide) | (right; decide) | (right; have hb_ := z32 x4; omega), by first | (left; decide) | (right; decide) | (right; have hb_ := z32 (w.2.2.1 5 3); omega)⟩, hJ⟩
        ·
          refine s_iload E dX9_gains_34 rfl ?_
          refine s_sI (As := [AI x4]) (S := []) E (Z_X9_isPart l D aC b w x4 hJ.1 ) cs_X9_320 rfl rfl (Nat.le_of_ble_eq_true rfl) (Nat.le_of_ble_eq_true rfl) ⟨(Nat.le_of_ble_eq_true rfl), (Nat.le_of_ble_eq_true rfl)⟩ (Nat.le_of_ble_eq_true rfl) dX9_gains_36 (fun z_19 u_17 hp_18 => ?_)
          obtain ⟨hz_19, hp_18⟩ := hp_18
          subst hp_18
          refine z_if_ne (tgt := 46) (u := z_19.toInt) E dX9_gains_39 (by decide) rfl (fun h_21 => ?_) (fun h_21 => ?_)
          ·
            refine s_aload_n E dX9_gains_46 rfl rfl ?_
            refine s_iload_n E dX9_gains_47 rfl rfl ?_
            refine s_iload_n E dX9_gains_48 rfl rfl ?_
            refine s_iload_n E dX9_gains_49 rfl rfl ?_
            refine s_iload E dX9_gains_50 rfl ?_
            refine s_vI (As := [AI x1, AI x2, AI x3, AI x4]) (S := []) E (Z_X9_gainOf_0 l D aC b w x1 x2 x3 x4 hJ.1 ⟨by have hb_ := z32 x1; omega, by have hb_ := z32 x1; omega⟩ ⟨by have hb_ := z32 x2; omega, by have hb_ := z32 x2; omega⟩) cv_X9_346 rfl rfl rfl (jv_lt hJ (by decide)) (Nat.le_of_ble_eq_true rfl) (Nat.le_of_ble_eq_true rfl) ⟨(Nat.le_of_ble_eq_true rfl), (Nat.le_of_ble_eq_true rfl)⟩ (Nat.le_of_ble_eq_true rfl) dX9_gains_52 (fun z_24 u_22 hp_23 => ?_)
            obtain ⟨hz_24, hp_23⟩ := hp_23
            have hj_25 := jv_trans hJ hp_23
            exact r_int E dX9_gains_55 ⟨⟨by have hb_ := z32 z_24; omega, by have hb_ := z32 z_24; omega, by first | (right; decide) | (have hb_ := z32 z_24; omega) | (have hb_ := z32 z_24; have hc_ := z32 x1; omega), by first | (right; decide) | (have hb_ := z32 z_24; omega) | (have hb_ := z32 z_24; have hc_ := z32 x2; omega), by first | (right; decide) | (have hb_ := z32 z_24; omega) | (have hb_ := z32 z_24; have hc_ := z32 x3; omega), by first | (right; decide) | (have hb_ := z32 z_24; omega) | (have hb_ := z32 z_24; have hc_ := z32 x4; omega), by first | (right; decide) | (have hb_ := z32 z_24; omega) | (have hb_ := z32 z_24; have hc_ := z32 (w.2.2.1 5 3); omega)⟩, hj_25⟩
          ·
            refine s_sipush (v := (-1000)) E dX9_gains_42 (by decide) ?_
            exact r_int E dX9_gains_45 ⟨⟨by decide, by decide, by first | (left; decide) | (right; decide) | (right; have hb_ := z32 x1; omega), by first | (left; decide) | (right; decide) | (right; have hb_ := z32 x2; omega), by first | (left; decide) | (right; decide) | (right; have hb_ := z32 x3; omega), by first | (left; decide) | (right; decide) | (right; have hb_ := z32 x4; omega), by first | (left; decide) | (right; decide) | (right; have hb_ := z32 (w.2.2.1 5 3); omega)⟩, hJ⟩
set_option maxRecDepth 20000 in
set_option maxHeartbeats 2000000 in
theorem Z_X9_isChanceDance_0 (l : Launch) (D : va_G) (aC : Nat → ClassId) (b : Nat) (w : XW) (x1 : Int32) (hI : Iv w)  : CnI l D aC b M_X9_isChanceDance 2 41 0 0 [AR 0, AI x1] w (fun r u => (0 ≤ r.toInt ∧ r.toInt ≤ 1 ∧ (r.toInt = 0 ∨ (0 ≤ x1.toInt ∧ x1.toInt ≤ 8)) ∧ (r.toInt = 0 ∨ (1 ≤ (w.2.2.1 2 0).toInt ∧ (w.2.2.1 2 0).toInt ≤ 2147483647))) ∧ w = u) := by
  refine cn_I (own := RX9) (nm := "isChanceDance") (L0 := [some (AR 0), some (AI x1)]) (by decide +kernel) rfl rfl (Nat.le_of_ble_eq_true rfl) rfl ?_
  intro p e s m args below meth c E hin
  have hJ : Jv w w := jv_rfl hI
  have hb_x1 := z32 x1
  refine s_aload_n E dX9_isChanceDance_0 rfl rfl ?_
  refine s_gR (r := 2) E fg_X9_20 rfl rfl (jv_lt hJ (by decide)) (jv_r hJ (by decide +kernel)) dX9_isChanceDance_1 ?_
  refine s_iload_n E dX9_isChanceDance_4 rfl rfl ?_
  refine s_vI (As := [AI x1]) (S := []) E (Z_X0_hasDance_2 l D aC b w x1 hJ.1 ) cv_X9_153 rfl rfl rfl (jv_lt hJ (by decide)) (Nat.le_of_ble_eq_true rfl) (Nat.le_of_ble_eq_true rfl) ⟨(Nat.le_of_ble_eq_true rfl), (Nat.le_of_ble_eq_true rfl)⟩ (Nat.le_of_ble_eq_true rfl) dX9_isChanceDance_5 (fun z_3 u_1 hp_2 => ?_)
  obtain ⟨hz_3, hp_2⟩ := hp_2
  subst hp_2
  refine z_if_eq (tgt := 21) (u := z_3.toInt) E dX9_isChanceDance_8 (by decide) rfl (fun h_5 => ?_) (fun h_5 => ?_)
  ·
    refine s_iconst (v := 0) E dX9_isChanceDance_21 (by decide) ?_
    exact r_bool E dX9_isChanceDance_22 (Or.inl rfl) ⟨⟨by decide, by decide, by first | (left; decide) | (right; decide) | (right; have hb_ := z32 x1; omega), by first | (left; decide) | (right; decide) | (right; have hb_ := z32 (w.2.2.1 2 0); omega)⟩, rfl⟩
  ·
    refine s_iload_n E dX9_isChanceDance_11 rfl rfl ?_
    refine s_bipush (v := 8) E dX9_isChanceDance_12 (by decide) ?_
    refine z_icmp_gt (tgt := 21) (u := x1.toInt) (v := 8) E dX9_isChanceDance_14 (by decide) rfl (by decide) (fun h_6 => ?_) (fun h_6 => ?_)
    ·
      refine s_iconst (v := 0) E dX9_isChanceDance_21 (by decide) ?_
      exact r_bool E dX9_isChanceDance_22 (Or.inl rfl) ⟨⟨by decide, by decide, by first | (left; decide) | (right; decide) | (right; have hb_ := z32 x1; omega), by first | (left; decide) | (right; decide) | (right; have hb_ := z32 (w.2.2.1 2 0); omega)⟩, rfl⟩
    ·
      refine s_iconst (v := 1) E dX9_isChanceDance_17 (by decide) ?_
      refine s_goto (tgt := 22) E dX9_isChanceDance_18 (by decide) ?_
      exact r_bool E dX9_isChanceDance_22 (Or.inr rfl) ⟨⟨by decide, by decide, by first | (left; decide) | (right; decide) | (right; have hb_ := z32 x1; omega), by first | (left; decide) | (right; decide) | (right; have hb_ := z32 (w.2.2.1 2 0); omega)⟩, rfl⟩
set_option maxRecDepth 20000 in
set_option maxHeartbeats 2000000 in
theorem Z_J7_fill_d0a16_r92 (l : Launch) (D : va_G) (aC : Nat → ClassId) (b : Nat) (w : XW) (x1 : Int64) (hI : Iv w)  : CnV l D aC b M_J7_fill_d0a16 0 0 0 0 [AR 92, AL x1] w (fun u => Jv w u) := by
  refine cn_V (own := RJ7) (nm := "fill") (L0 := [some (AR 92), some (AL x1), none, none, none]) (by decide +kernel) rfl rfl (Nat.le_of_ble_eq_true rfl) rfl ?_
  intro p e s m args below meth c E hin
  have hJ : Jv w w := jv_rfl hI
  refine s_iconst (v := 0) E dJ7_fill_d0a16_0 (by decide) ?_
  refine s_istore_n (L2 := [some (AR 92), some (AL x1), none, some (AI 0), none]) E dJ7_fill_d0a16_1 rfl (by decide) rfl ?_
  refine s_aload_n E dJ7_fill_d0a16_2 rfl rfl ?_
  refine s_alen (v := 64) E rfl (by decide) (jv_lt hJ (by decide)) (by decide) dJ7_fill_d0a16_3 ?_
  refine s_istore (L2 := [some (AR 92), some (AL x1), none, some (AI 0), some (AI 64)]) E dJ7_fill_d0a16_4 (by decide) rfl ?_
  refine z_loop (St := Int32) (Pi := fun q6_3_0 v6 => (0 ≤ q6_3_0.toInt ∧ q6_3_0.toInt ≤ 64) ∧ Jv w v6) (Lf := fun q6_3_0 => [some (AR 92), some (AL x1), none, some (AI q6_3_0), some (AI 64)]) (fun q6_3_0 _ => (65 - q6_3_0.toInt).toNat) 0 ⟨⟨by decide, by decide⟩, hJ⟩ ?_
  rintro q6_3_0 v6 ⟨hq6_3, hj_1⟩ ih6
  refine s_loc (L2 := [some (AR 92), some (AL x1), none, some (AI q6_3_0), some (AI 64)]) rfl ?_
  refine s_iload_n E dJ7_fill_d0a16_6 rfl rfl ?_
  refine s_iload E dJ7_fill_d0a16_7 rfl ?_
  refine z_icmp_ge (tgt := 22) (u := q6_3_0.toInt) (v := 64) E dJ7_fill_d0a16_9 (by decide) rfl (by decide) (fun h_2 => ?_) (fun h_2 => ?_)
  ·
    exact r_void E dJ7_fill_d0a16_22 hj_1
  ·
    refine s_aload_n E dJ7_fill_d0a16_12 rfl rfl ?_
    refine s_iload_n E dJ7_fill_d0a16_13 rfl rfl ?_
    refine s_lload_n E dJ7_fill_d0a16_14 rfl rfl ?_
    refine s_last E rfl (jv_lt hj_1 (by decide)) (z_in (u := q6_3_0.toInt) rfl (by omega) (by omega)) dJ7_fill_d0a16_15 ?_
    refine s_gen (P := Jv w) (jv_L hj_1 (by decide)) (fun v_3 hj_4 => ?_)
    refine z_iinc (u := q6_3_0.toInt) (L2 := fun z_5 => [some (AR 92), some (AL x1), none, some (AI z_5), some (AI 64)]) E dJ7_fill_d0a16_16 rfl rfl (by decide) (fun _ => rfl) (by decide) (by omega) (by omega) (fun z_5 hz_5 => ?_)
    refine s_goto (tgt := 6) E dJ7_fill_d0a16_19 (by decide) ?_
    exact ih6 z_5 v_3 ⟨⟨by have hb_ := z32 z_5; omega, by have hb_ := z32 z_5; omega⟩, hj_4⟩ (by first | omega | decide | (dsimp only; omega) | (dsimp only; decide))
set_option maxRecDepth 20000 in
set_option maxHeartbeats 2000000 in
theorem Z_J7_fill_d0a16_r93 (l : Launch) (D : va_G) (aC : Nat → ClassId) (b : Nat) (w : XW) (x1 : Int64) (hI : Iv w)  : CnV l D aC b M_J7_fill_d0a16 0 0 0 0 [AR 93, AL x1] w (fun u => Jv w u) := by
  refine cn_V (own := RJ7) (nm := "fill") (L0 := [some (AR 93), some (AL x1), none, none, none]) (by decide +kernel) rfl rfl (Nat.le_of_ble_eq_true rfl) rfl ?_
  intro p e s m args below meth c E hin
  have hJ : Jv w w := jv_rfl hI
  refine s_iconst (v := 0) E dJ7_fill_d0a16_0 (by decide) ?_
  refine s_istore_n (L2 := [some (AR 93), some (AL x1), none, some (AI 0), none]) E dJ7_fill_d0a16_1 rfl (by decide) rfl ?_
  refine s_aload_n E dJ7_fill_d0a16_2 rfl rfl ?_
  refine s_alen (v := 64) E rfl (by decide) (jv_lt hJ (by decide)) (by decide) dJ7_fill_d0a16_3 ?_
  refine s_istore (L2 := [some (AR 93), some (AL x1), none, some (AI 0), some (AI 64)]) E dJ7_fill_d0a16_4 (by decide) rfl ?_
  refine z_loop (St := Int32) (Pi := fun q6_3_0 v6 => (0 ≤ q6_3_0.toInt ∧ q6_3_0.toInt ≤ 64) ∧ Jv w v6) (Lf := fun q6_3_0 => [some (AR 93), some (AL x1), none, some (AI q6_3_0), some (AI 64)]) (fun q6_3_0 _ => (65 - q6_3_0.toInt).toNat) 0 ⟨⟨by decide, by decide⟩, hJ⟩ ?_
  rintro q6_3_0 v6 ⟨hq6_3, hj_1⟩ ih6
  refine s_loc (L2 := [some (AR 93), some (AL x1), none, some (AI q6_3_0), some (AI 64)]) rfl ?_
  refine s_iload_n E dJ7_fill_d0a16_6 rfl rfl ?_
  refine s_iload E dJ7_fill_d0a16_7 rfl ?_
  refine z_icmp_ge (tgt := 22) (u := q6_3_0.toInt) (v := 64) E dJ7_fill_d0a16_9 (by decide) rfl (by decide) (fun h_2 => ?_) (fun h_2 => ?_)
  ·
    exact r_void E dJ7_fill_d0a16_22 hj_1
  ·
    refine s_aload_n E dJ7_fill_d0a16_12 rfl rfl ?_
    refine s_iload_n E dJ7_fill_d0a16_13 rfl rfl ?_
    refine s_lload_n E dJ7_fill_d0a16_14 rfl rfl ?_
    refine s_last E rfl (jv_lt hj_1 (by decide)) (z_in (u := q6_3_0.toInt) rfl (by omega) (by omega)) dJ7_fill_d0a16_15 ?_
    refine s_gen (P := Jv w) (jv_L hj_1 (by decide)) (fun v_3 hj_4 => ?_)
    refine z_iinc (u := q6_3_0.toInt) (L2 := fun z_5 => [some (AR 93), some (AL x1), none, some (AI z_5), some (AI 64)]) E dJ7_fill_d0a16_16 rfl rfl (by decide) (fun _ => rfl) (by decide) (by omega) (by omega) (fun z_5 hz_5 => ?_)
    refine s_goto (tgt := 6) E dJ7_fill_d0a16_19 (by decide) ?_
    exact ih6 z_5 v_3 ⟨⟨by have hb_ := z32 z_5; omega, by have hb_ := z32 z_5; omega⟩, hj_4⟩ (by first | omega | decide | (dsimp only; omega) | (dsimp only; decide))
set_option maxRecDepth 20000 in
set_option maxHeartbeats 2000000 in
theorem Z_X4_playOne_91_r69_r81 (l : Launch) (D : va_G) (aC : Nat → ClassId) (b : Nat) (w : XW) (x1 : Int32) (x2 : Int32) (hI : Iv w)  : CnV l D aC b M_X4_playOne 3 69 0 0 [AR 91, AR 69, AR 81, AI x1, AI x2] w (fun u => Jv w u) := by
  refine cn_V (own := RX4) (nm := "playOne") (L0 := [some (AR 91), some (AR 69), some (AR 81), some (AI x1), some (AI x2), none]) (by decide +kernel) rfl rfl (Nat.le_of_ble_eq_true rfl) rfl ?_
  intro p e s m args below meth c E hin
  have hJ : Jv w w := jv_rfl hI
  have hb_x1 := z32 x1
  have hb_x2 := z32 x2
  refine s_aload_n E dX4_playOne_0 rfl rfl ?_
  rcases jv_mz hJ with hz_1 | hz_1
  ·
    refine s_gR (r := 93) E fg_X4_15 rfl rfl (jv_lt hJ (by decide)) hz_1.2 dX4_playOne_1 ?_
    refine s_lconst (v := 0) E dX4_playOne_4 (by decide) ?_
    refine s_sV (As := [AR 93, AL 0]) (S := []) E (Z_J7_fill_d0a16_r93 l D aC b w 0 hJ.1 ) cs_X4_18 rfl rfl (Nat.le_of_ble_eq_true rfl) (Nat.le_of_ble_eq_true rfl) ⟨(Nat.le_of_ble_eq_true rfl), (Nat.le_of_ble_eq_true rfl)⟩ (Nat.le_of_ble_eq_true rfl) dX4_playOne_5 (fun u_2 hp_3 => ?_)
    have hj_4 := jv_trans hJ hp_3
    refine s_iconst (v := 0) E dX4_playOne_8 (by decide) ?_
    refine s_istore (L2 := [some (AR 91), some (AR 69), some (AR 81), some (AI x1), some (AI x2), some (AI 0)]) E dX4_playOne_9 (by decide) rfl ?_
    refine z_loop (St := Int32) (Pi := fun q11_5_4 v11 => (0 ≤ q11_5_4.toInt ∧ q11_5_4.toInt ≤ 64) ∧ Jv w v11) (Lf := fun q11_5_4 => [some (AR 91), some (AR 69), some (AR 81), some (AI x1), some (AI x2), some (AI q11_5_4)]) (fun q11_5_4 _ => (65 - q11_5_4.toInt).toNat) 0 ⟨⟨by decide, by decide⟩, hj_4⟩ ?_
    rintro q11_5_4 v11 ⟨hq11_5, hj_5⟩ ih11
    refine s_loc (L2 := [some (AR 91), some (AR 69), some (AR 81), some (AI x1), some (AI x2), some (AI q11_5_4)]) rfl ?_
    refine s_iload E dX4_playOne_11 rfl ?_
    refine s_bipush (v := 64) E dX4_playOne_13 (by decide) ?_
    refine z_icmp_ge (tgt := 90) (u := q11_5_4.toInt) (v := 64) E dX4_playOne_15 (by decide) rfl (by decide) (fun h_6 => ?_) (fun h_6 => ?_)
    ·
      refine s_aload_n E dX4_playOne_90 rfl rfl ?_
      rcases jv_mz hj_5 with hz_7 | hz_7
      ·
        refine s_gR (r := 92) E fg_X4_9 rfl rfl (jv_lt hj_5 (by decide)) hz_7.1 dX4_playOne_91 ?_
        refine s_astore (L2 := [some (AR 91), some (AR 69), some (AR 81), some (AI x1), some (AI x2), some (AR 92)]) E dX4_playOne_94 (by decide) rfl ?_
        refine s_aload_n E dX4_playOne_96 rfl rfl ?_
        refine s_aload_n E dX4_playOne_97 rfl rfl ?_
        refine s_gR (r := 93) E fg_X4_15 rfl rfl (jv_lt hj_5 (by decide)) hz_7.2 dX4_playOne_98 ?_
        refine s_pR E fp_X4_9 rfl rfl (jv_lt hj_5 (by decide)) dX4_playOne_101 ?_
        refine s_aload_n E dX4_playOne_104 rfl rfl ?_
        refine s_aload E dX4_playOne_105 rfl ?_
        refine s_pR E fp_X4_15 rfl rfl (jv_lt hj_5 (by decide)) dX4_playOne_107 ?_
        refine s_gen (P := fun v => Jv w v ∧ Mz1 v) (jv_swap0 hj_5 hz_7) (fun v_8 hj_9 => ?_)
        obtain ⟨hj_9, hz_10⟩ := hj_9
        exact r_void E dX4_playOne_110 hj_9
      ·
        refine s_gR (r := 93) E fg_X4_9 rfl rfl (jv_lt hj_5 (by decide)) hz_7.1 dX4_playOne_91 ?_
        refine s_astore (L2 := [some (AR 91), some (AR 69), some (AR 81), some (AI x1), some (AI x2), some (AR 93)]) E dX4_playOne_94 (by decide) rfl ?_
        refine s_aload_n E dX4_playOne_96 rfl rfl ?_
        refine s_aload_n E dX4_playOne_97 rfl rfl ?_
        refine s_gR (r := 92) E fg_X4_15 rfl rfl (jv_lt hj_5 (by decide)) hz_7.2 dX4_playOne_98 ?_
        refine s_pR E fp_X4_9 rfl rfl (jv_lt hj_5 (by decide)) dX4_playOne_101 ?_
        refine s_aload_n E dX4_playOne_104 rfl rfl ?_
        refine s_aload E dX4_playOne_105 rfl ?_
        refine s_pR E fp_X4_15 rfl rfl (jv_lt hj_5 (by decide)) dX4_playOne_107 ?_
        refine s_gen (P := fun v => Jv w v ∧ Mz0 v) (jv_swap1 hj_5 hz_7) (fun v_11 hj_12 => ?_)
        obtain ⟨hj_12, hz_13⟩ := hj_12
        exact r_void E dX4_playOne_110 hj_12
    ·
      refine s_aload_n E dX4_playOne_18 rfl rfl ?_
      rcases jv_mz hj_5 with hz_14 | hz_14
      ·
        refine s_gR (r := 92) E fg_X4_9 rfl rfl (jv_lt hj_5 (by decide)) hz_14.1 dX4_playOne_19 ?_
        refine s_iload E dX4_playOne_22 rfl ?_
        refine s_lald E rfl (jv_lt hj_5 (by decide)) (z_in (u := q11_5_4.toInt) rfl (by omega) (by omega)) dX4_playOne_24 ?_
        refine z_anyL (fun z_15 => ?_)
        refine s_lconst (v := 0) E dX4_playOne_25 (by decide) ?_
        refine z_lcmp (u := z_15.toInt) (v := 0) E dX4_playOne_26 rfl (by decide) (fun z_16 hz_16 => ?_)
        refine z_if_eq (tgt := 84) (u := z_16.toInt) E dX4_playOne_27 (by decide) rfl (fun h_17 => ?_) (fun h_17 => ?_)
        ·
          refine z_iinc (u := q11_5_4.toInt) (L2 := fun z_18 => [some (AR 91), some (AR 69), some (AR 81), some (AI x1), some (AI x2), some (AI z_18)]) E dX4_playOne_84 rfl rfl (by decide) (fun _ => rfl) (by decide) (by omega) (by omega) (fun z_18 hz_18 => ?_)
          refine s_goto (tgt := 11) E dX4_playOne_87 (by decide) ?_
          exact ih11 z_18 v11 ⟨⟨by have hb_ := z32 z_18; omega, by have hb_ := z32 z_18; omega⟩, hj_5⟩ (by first | omega | decide | (dsimp only; omega) | (dsimp only; decide))
        ·
          refine s_aload_n E dX4_playOne_30 rfl rfl ?_
          refine s_gR (r := 93) E fg_X4_15 rfl rfl (jv_lt hj_5 (by decide)) hz_14.2 dX4_playOne_31 ?_
          refine s_iload E dX4_playOne_34 rfl ?_
          refine s_dup2 E dX4_playOne_36 ?_
          refine s_lald E rfl (jv_lt hj_5 (by decide)) (z_in (u := q11_5_4.toInt) rfl (by omega) (by omega)) dX4_playOne_37 ?_
          refine z_anyL (fun z_19 => ?_)
          refine s_aload_n E dX4_playOne_38 rfl rfl ?_
          refine s_gR (r := 92) E fg_X4_9 rfl rfl (jv_lt hj_5 (by decide)) hz_14.1 dX4_playOne_39 ?_
          refine s_iload E dX4_playOne_42 rfl ?_
          refine s_lald E rfl (jv_lt hj_5 (by decide)) (z_in (u := q11_5_4.toInt) rfl (by omega) (by omega)) dX4_playOne_44 ?_
          refine z_anyL (fun z_20 => ?_)
          refine s_iload E dX4_playOne_45 rfl ?_
          refine z_i2l (u := x2.toInt) E dX4_playOne_47 rfl (fun z_21 hz_21 => ?_)
          refine s_lmul E dX4_playOne_48 ?_
          refine z_anyL (fun z_22 => ?_)
          refine s_ladd E dX4_playOne_49 ?_
          refine z_anyL (fun z_23 => ?_)
          refine s_last E rfl (jv_lt hj_5 (by decide)) (z_in (u := q11_5_4.toInt) rfl (by omega) (by omega)) dX4_playOne_50 ?_
          refine s_gen (P := fun v => Jv w v ∧ Mz0 v) ⟨(jv_L hj_5 (by decide)), hz_14⟩ (fun v_24 hj_25 => ?_)
          obtain ⟨hj_25, hz_26⟩ := hj_25
          refine s_aload_n E dX4_playOne_51 rfl rfl ?_
          refine s_gR (r := 93) E fg_X4_15 rfl rfl (jv_lt hj_25 (by decide)) hz_26.2 dX4_playOne_52 ?_
          refine s_aload_n E dX4_playOne_55 rfl rfl ?_
          refine s_aload_n E dX4_playOne_56 rfl rfl ?_
          refine s_iload_n E dX4_playOne_57 rfl rfl ?_
          refine s_iload E dX4_playOne_58 rfl ?_
          refine s_vI (As := [AR 69, AI x1, AI q11_5_4]) (S := [AR 93]) E (Z_X5_passed_81_r69 l D aC b v_24 x1 q11_5_4 hj_25.1 ) cv_X4_34 rfl rfl rfl (jv_lt hj_25 (by decide)) (Nat.le_of_ble_eq_true rfl) (Nat.le_of_ble_eq_true rfl) ⟨(Nat.le_of_ble_eq_true rfl), (Nat.le_of_ble_eq_true rfl)⟩ (Nat.le_of_ble_eq_true rfl) dX4_playOne_60 (fun z_29 u_27 hp_28 => ?_)
          obtain ⟨hz_29, hp_28⟩ := hp_28
          subst hp_28
          refine s_bipush (v := 63) E dX4_playOne_63 (by decide) ?_
          refine z_mask (v := 63) E dX4_playOne_65 (by decide) (by decide) (fun z_31 hz_31 => ?_)
          refine s_dup2 E dX4_playOne_66 ?_
          refine s_lald E rfl (jv_lt hj_25 (by decide)) (z_in (u := z_31.toInt) rfl (by omega) (by omega)) dX4_playOne_67 ?_
          refine z_anyL (fun z_32 => ?_)
          refine s_aload_n E dX4_playOne_68 rfl rfl ?_
          refine s_gR (r := 92) E fg_X4_9 rfl rfl (jv_lt hj_25 (by decide)) hz_26.1 dX4_playOne_69 ?_
          refine s_iload E dX4_playOne_72 rfl ?_
          refine s_lald E rfl (jv_lt hj_25 (by decide)) (z_in (u := q11_5_4.toInt) rfl (by omega) (by omega)) dX4_playOne_74 ?_
          refine z_anyL (fun z_33 => ?_)
          refine s_bipush (v := 10) E dX4_playOne_75 (by decide) ?_
          refine s_iload E dX4_playOne_77 rfl ?_
          refine s_isub E dX4_playOne_79 ?_
          refine z_nm (P := fun z => (-2147483648) ≤ z.toInt ∧ z.toInt ≤ 2147483647) (z32 _) (fun z_34 hz_34 => ?_)
          refine z_i2l (u := z_34.toInt) E dX4_playOne_80 rfl (fun z_35 hz_35 => ?_)
          refine s_lmul E dX4_playOne_81 ?_
          refine z_anyL (fun z_36 => ?_)
          refine s_ladd E dX4_playOne_82 ?_
          refine z_anyL (fun z_37 => ?_)
          refine s_last E rfl (jv_lt hj_25 (by decide)) (z_in (u := z_31.toInt) rfl (by omega) (by omega)) dX4_playOne_83 ?_
          refine s_gen (P := fun v => Jv w v ∧ Mz0 v) ⟨(jv_L hj_25 (by decide)), hz_26⟩ (fun v_38 hj_39 => ?_)
          obtain ⟨hj_39, hz_40⟩ := hj_39
          refine z_iinc (u := q11_5_4.toInt) (L2 := fun z_41 => [some (AR 91), some (AR 69), some (AR 81), some (AI x1), some (AI x2), some (AI z_41)]) E dX4_playOne_84 rfl rfl (by decide) (fun _ => rfl) (by decide) (by omega) (by omega) (fun z_41 hz_41 => ?_)
          refine s_goto (tgt := 11) E dX4_playOne_87 (by decide) ?_
          exact ih11 z_41 v_38 ⟨⟨by have hb_ := z32 z_41; omega, by have hb_ := z32 z_41; omega⟩, hj_39⟩ (by first | omega | decide | (dsimp only; omega) | (dsimp only; decide))
      ·
        refine s_gR (r := 93) E fg_X4_9 rfl rfl (jv_lt hj_5 (by decide)) hz_14.1 dX4_playOne_19 ?_
        refine s_iload E dX4_playOne_22 rfl ?_
        refine s_lald E rfl (jv_lt hj_5 (by decide)) (z_in (u := q11_5_4.toInt) rfl (by omega) (by omega)) dX4_playOne_24 ?_
        refine z_anyL (fun z_42 => ?_)
        refine s_lconst (v := 0) E dX4_playOne_25 (by decide) ?_
        refine z_lcmp (u := z_42.toInt) (v := 0) E dX4_playOne_26 rfl (by decide) (fun z_43 hz_43 => ?_)
        refine z_if_eq (tgt := 84) (u := z_43.toInt) E dX4_playOne_27 (by decide) rfl (fun h_44 => ?_) (fun h_44 => ?_)
        ·
          refine z_iinc (u := q11_5_4.toInt) (L2 := fun z_45 => [some (AR 91), some (AR 69), some (AR 81), some (AI x1), some (AI x2), some (AI z_45)]) E dX4_playOne_84 rfl rfl (by decide) (fun _ => rfl) (by decide) (by omega) (by omega) (fun z_45 hz_45 => ?_)
          refine s_goto (tgt := 11) E dX4_playOne_87 (by decide) ?_
          exact ih11 z_45 v11 ⟨⟨by have hb_ := z32 z_45; omega, by have hb_ := z32 z_45; omega⟩, hj_5⟩ (by first | omega | decide | (dsimp only; omega) | (dsimp only; decide))
        ·
          refine s_aload_n E dX4_playOne_30 rfl rfl ?_
          refine s_gR (r := 92) E fg_X4_15 rfl rfl (jv_lt hj_5 (by decide)) hz_14.2 dX4_playOne_31 ?_
          refine s_iload E dX4_playOne_34 rfl ?_
          refine s_dup2 E dX4_playOne_36 ?_
          refine s_lald E rfl (jv_lt hj_5 (by decide)) (z_in (u := q11_5_4.toInt) rfl (by omega) (by omega)) dX4_playOne_37 ?_
          refine z_anyL (fun z_46 => ?_)
          refine s_aload_n E dX4_playOne_38 rfl rfl ?_
          refine s_gR (r := 93) E fg_X4_9 rfl rfl (jv_lt hj_5 (by decide)) hz_14.1 dX4_playOne_39 ?_
          refine s_iload E dX4_playOne_42 rfl ?_
          refine s_lald E rfl (jv_lt hj_5 (by decide)) (z_in (u := q11_5_4.toInt) rfl (by omega) (by omega)) dX4_playOne_44 ?_
          refine z_anyL (fun z_47 => ?_)
          refine s_iload E dX4_playOne_45 rfl ?_
          refine z_i2l (u := x2.toInt) E dX4_playOne_47 rfl (fun z_48 hz_48 => ?_)
          refine s_lmul E dX4_playOne_48 ?_
          refine z_anyL (fun z_49 => ?_)
          refine s_ladd E dX4_playOne_49 ?_
          refine z_anyL (fun z_50 => ?_)
          refine s_last E rfl (jv_lt hj_5 (by decide)) (z_in (u := q11_5_4.toInt) rfl (by omega) (by omega)) dX4_playOne_50 ?_
          refine s_gen (P := fun v => Jv w v ∧ Mz1 v) ⟨(jv_L hj_5 (by decide)), hz_14⟩ (fun v_51 hj_52 => ?_)
          obtain ⟨hj_52, hz_53⟩ := hj_52
          refine s_aload_n E dX4_playOne_51 rfl rfl ?_
          refine s_gR (r := 92) E fg_X4_15 rfl rfl (jv_lt hj_52 (by decide)) hz_53.2 dX4_playOne_52 ?_
          refine s_aload_n E dX4_playOne_55 rfl rfl ?_
          refine s_aload_n E dX4_playOne_56 rfl rfl ?_
          refine s_iload_n E dX4_playOne_57 rfl rfl ?_
          refine s_iload E dX4_playOne_58 rfl ?_
          refine s_vI (As := [AR 69, AI x1, AI q11_5_4]) (S := [AR 92]) E (Z_X5_passed_81_r69 l D aC b v_51 x1 q11_5_4 hj_52.1 ) cv_X4_34 rfl rfl rfl (jv_lt hj_52 (by decide)) (Nat.le_of_ble_eq_true rfl) (Nat.le_of_ble_eq_true rfl) ⟨(Nat.le_of_ble_eq_true rfl), (Nat.le_of_ble_eq_true rfl)⟩ (Nat.le_of_ble_eq_true rfl) dX4_playOne_60 (fun z_56 u_54 hp_55 => ?_)
          obtain ⟨hz_56, hp_55⟩ := hp_55
          subst hp_55
          refine s_bipush (v := 63) E dX4_playOne_63 (by decide) ?_
          refine z_mask (v := 63) E dX4_playOne_65 (by decide) (by decide) (fun z_58 hz_58 => ?_)
          refine s_dup2 E dX4_playOne_66 ?_
          refine s_lald E rfl (jv_lt hj_52 (by decide)) (z_in (u := z_58.toInt) rfl (by omega) (by omega)) dX4_playOne_67 ?_
          refine z_anyL (fun z_59 => ?_)
          refine s_aload_n E dX4_playOne_68 rfl rfl ?_
          refine s_gR (r := 93) E fg_X4_9 rfl rfl (jv_lt hj_52 (by decide)) hz_53.1 dX4_playOne_69 ?_
          refine s_iload E dX4_playOne_72 rfl ?_
          refine s_lald E rfl (jv_lt hj_52 (by decide)) (z_in (u := q11_5_4.toInt) rfl (by omega) (by omega)) dX4_playOne_74 ?_
          refine z_anyL (fun z_60 => ?_)
          refine s_bipush (v := 10) E dX4_playOne_75 (by decide) ?_
          refine s_iload E dX4_playOne_77 rfl ?_
          refine s_isub E dX4_playOne_79 ?_
          refine z_nm (P := fun z => (-2147483648) ≤ z.toInt ∧ z.toInt ≤ 2147483647) (z32 _) (fun z_61 hz_61 => ?_)
          refine z_i2l (u := z_61.toInt) E dX4_playOne_80 rfl (fun z_62 hz_62 => ?_)
          refine s_lmul E dX4_playOne_81 ?_
          refine z_anyL (fun z_63 => ?_)
          refine s_ladd E dX4_playOne_82 ?_
          refine z_anyL (fun z_64 => ?_)
          refine s_last E rfl (jv_lt hj_52 (by decide)) (z_in (u := z_58.toInt) rfl (by omega) (by omega)) dX4_playOne_83 ?_
          refine s_gen (P := fun v => Jv w v ∧ Mz1 v) ⟨(jv_L hj_52 (by decide)), hz_53⟩ (fun v_65 hj_66 => ?_)
          obtain ⟨hj_66, hz_67⟩ := hj_66
          refine z_iinc (u := q11_5_4.toInt) (L2 := fun z_68 => [some (AR 91), some (AR 69), some (AR 81), some (AI x1), some (AI x2), some (AI z_68)]) E dX4_playOne_84 rfl rfl (by decide) (fun _ => rfl) (by decide) (by omega) (by omega) (fun z_68 hz_68 => ?_)
          refine s_goto (tgt := 11) E dX4_playOne_87 (by decide) ?_
          exact ih11 z_68 v_65 ⟨⟨by have hb_ := z32 z_68; omega, by have hb_ := z32 z_68; omega⟩, hj_66⟩ (by first | omega | decide | (dsimp only; omega) | (dsimp only; decide))
  ·
    refine s_gR (r := 92) E fg_X4_15 rfl rfl (jv_lt hJ (by decide)) hz_1.2 dX4_playOne_1 ?_
    refine s_lconst (v := 0) E dX4_playOne_4 (by decide) ?_
    refine s_sV (As := [AR 92, AL 0]) (S := []) E (Z_J7_fill_d0a16_r92 l D aC b w 0 hJ.1 ) cs_X4_18 rfl rfl (Nat.le_of_ble_eq_true rfl) (Nat.le_of_ble_eq_true rfl) ⟨(Nat.le_of_ble_eq_true rfl), (Nat.le_of_ble_eq_true rfl)⟩ (Nat.le_of_ble_eq_true rfl) dX4_playOne_5 (fun u_69 hp_70 => ?_)
    have hj_71 := jv_trans hJ hp_70
    refine s_iconst (v := 0) E dX4_playOne_8 (by decide) ?_
    refine s_istore (L2 := [some (AR 91), some (AR 69), some (AR 81), some (AI x1), some (AI x2), some (AI 0)]) E dX4_playOne_9 (by decide) rfl ?_
    refine z_loop (St := Int32) (Pi := fun q11_5_71 v11 => (0 ≤ q11_5_71.toInt ∧ q11_5_71.toInt ≤ 64) ∧ Jv w v11) (Lf := fun q11_5_71 => [some (AR 91), some (AR 69), some (AR 81), some (AI x1), some (AI x2), some (AI q11_5_71)]) (fun q11_5_71 _ => (65 - q11_5_71.toInt).toNat) 0 ⟨⟨by decide, by decide⟩, hj_71⟩ ?_
    rintro q11_5_71 v11 ⟨hq11_5, hj_72⟩ ih11
    refine s_loc (L2 := [some (AR 91), some (AR 69), some (AR 81), some (AI x1), some (AI x2), some (AI q11_5_71)]) rfl ?_
    refine s_iload E dX4_playOne_11 rfl ?_
    refine s_bipush (v := 64) E dX4_playOne_13 (by decide) ?_
    refine z_icmp_ge (tgt := 90) (u := q11_5_71.toInt) (v := 64) E dX4_playOne_15 (by decide) rfl (by decide) (fun h_73 => ?_) (fun h_73 => ?_)
    ·
      refine s_aload_n E dX4_playOne_90 rfl rfl ?_
      rcases jv_mz hj_72 with hz_74 | hz_74
      ·
        refine s_gR (r := 92) E fg_X4_9 rfl rfl (jv_lt hj_72 (by decide)) hz_74.1 dX4_playOne_91 ?_
        refine s_astore (L2 := [some (AR 91), some (AR 69), some (AR 81), some (AI x1), some (AI x2), some (AR 92)]) E dX4_playOne_94 (by decide) rfl ?_
        refine s_aload_n E dX4_playOne_96 rfl rfl ?_
        refine s_aload_n E dX4_playOne_97 rfl rfl ?_
        refine s_gR (r := 93) E fg_X4_15 rfl rfl (jv_lt hj_72 (by decide)) hz_74.2 dX4_playOne_98 ?_
        refine s_pR E fp_X4_9 rfl rfl (jv_lt hj_72 (by decide)) dX4_playOne_101 ?_
        refine s_aload_n E dX4_playOne_104 rfl rfl ?_
        refine s_aload E dX4_playOne_105 rfl ?_
        refine s_pR E fp_X4_15 rfl rfl (jv_lt hj_72 (by decide)) dX4_playOne_107 ?_
        refine s_gen (P := fun v => Jv w v ∧ Mz1 v) (jv_swap0 hj_72 hz_74) (fun v_75 hj_76 => ?_)
        obtain ⟨hj_76, hz_77⟩ := hj_76
        exact r_void E dX4_playOne_110 hj_76
      ·
        refine s_gR (r := 93) E fg_X4_9 rfl rfl (jv_lt hj_72 (by decide)) hz_74.1 dX4_playOne_91 ?_
        refine s_astore (L2 := [some (AR 91), some (AR 69), some (AR 81), some (AI x1), some (AI x2), some (AR 93)]) E dX4_playOne_94 (by decide) rfl ?_
        refine s_aload_n E dX4_playOne_96 rfl rfl ?_
        refine s_aload_n E dX4_playOne_97 rfl rfl ?_
        refine s_gR (r := 92) E fg_X4_15 rfl rfl (jv_lt hj_72 (by decide)) hz_74.2 dX4_playOne_98 ?_
        refine s_pR E fp_X4_9 rfl rfl (jv_lt hj_72 (by decide)) dX4_playOne_101 ?_
        refine s_aload_n E dX4_playOne_104 rfl rfl ?_
        refine s_aload E dX4_playOne_105 rfl ?_
        refine s_pR E fp_X4_15 rfl rfl (jv_lt hj_72 (by decide)) dX4_playOne_107 ?_
        refine s_gen (P := fun v => Jv w v ∧ Mz0 v) (jv_swap1 hj_72 hz_74) (fun v_78 hj_79 => ?_)
        obtain ⟨hj_79, hz_80⟩ := hj_79
        exact r_void E dX4_playOne_110 hj_79
    ·
      refine s_aload_n E dX4_playOne_18 rfl rfl ?_
      rcases jv_mz hj_72 with hz_81 | hz_81
      ·
        refine s_gR (r := 92) E fg_X4_9 rfl rfl (jv_lt hj_72 (by decide)) hz_81.1 dX4_playOne_19 ?_
        refine s_iload E dX4_playOne_22 rfl ?_
        refine s_lald E rfl (jv_lt hj_72 (by decide)) (z_in (u := q11_5_71.toInt) rfl (by omega) (by omega)) dX4_playOne_24 ?_
        refine z_anyL (fun z_82 => ?_)
        refine s_lconst (v := 0) E dX4_playOne_25 (by decide) ?_
        refine z_lcmp (u := z_82.toInt) (v := 0) E dX4_playOne_26 rfl (by decide) (fun z_83 hz_83 => ?_)
        refine z_if_eq (tgt := 84) (u := z_83.toInt) E dX4_playOne_27 (by decide) rfl (fun h_84 => ?_) (fun h_84 => ?_)
        ·
          refine z_iinc (u := q11_5_71.toInt) (L2 := fun z_85 => [some (AR 91), some (AR 69), some (AR 81), some (AI x1), some (AI x2), some (AI z_85)]) E dX4_playOne_84 rfl rfl (by decide) (fun _ => rfl) (by decide) (by omega) (by omega) (fun z_85 hz_85 => ?_)
          refine s_goto (tgt := 11) E dX4_playOne_87 (by decide) ?_
          exact ih11 z_85 v11 ⟨⟨by have hb_ := z32 z_85; omega, by have hb_ := z32 z_85; omega⟩, hj_72⟩ (by first | omega | decide | (dsimp only; omega) | (dsimp only; decide))
        ·
          refine s_aload_n E dX4_playOne_30 rfl rfl ?_
          refine s_gR (r := 93) E fg_X4_15 rfl rfl (jv_lt hj_72 (by decide)) hz_81.2 dX4_playOne_31 ?_
          refine s_iload E dX4_playOne_34 rfl ?_
          refine s_dup2 E dX4_playOne_36 ?_
          refine s_lald E rfl (jv_lt hj_72 (by decide)) (z_in (u := q11_5_71.toInt) rfl (by omega) (by omega)) dX4_playOne_37 ?_
          refine z_anyL (fun z_86 => ?_)
          refine s_aload_n E dX4_playOne_38 rfl rfl ?_
          refine s_gR (r := 92) E fg_X4_9 rfl rfl (jv_lt hj_72 (by decide)) hz_81.1 dX4_playOne_39 ?_
          refine s_iload E dX4_playOne_42 rfl ?_
          refine s_lald E rfl (jv_lt hj_72 (by decide)) (z_in (u := q11_5_71.toInt) rfl (by omega) (by omega)) dX4_playOne_44 ?_
          refine z_anyL (fun z_87 => ?_)
          refine s_iload E dX4_playOne_45 rfl ?_
          refine z_i2l (u := x2.toInt) E dX4_playOne_47 rfl (fun z_88 hz_88 => ?_)
          refine s_lmul E dX4_playOne_48 ?_
          refine z_anyL (fun z_89 => ?_)
          refine s_ladd E dX4_playOne_49 ?_
          refine z_anyL (fun z_90 => ?_)
          refine s_last E rfl (jv_lt hj_72 (by decide)) (z_in (u := q11_5_71.toInt) rfl (by omega) (by omega)) dX4_playOne_50 ?_
          refine s_gen (P := fun v => Jv w v ∧ Mz0 v) ⟨(jv_L hj_72 (by decide)), hz_81⟩ (fun v_91 hj_92 => ?_)
          obtain ⟨hj_92, hz_93⟩ := hj_92
          refine s_aload_n E dX4_playOne_51 rfl rfl ?_
          refine s_gR (r := 93) E fg_X4_15 rfl rfl (jv_lt hj_92 (by decide)) hz_93.2 dX4_playOne_52 ?_
          refine s_aload_n E dX4_playOne_55 rfl rfl ?_
          refine s_aload_n E dX4_playOne_56 rfl rfl ?_
          refine s_iload_n E dX4_playOne_57 rfl rfl ?_
          refine s_iload E dX4_playOne_58 rfl ?_
          refine s_vI (As := [AR 69, AI x1, AI q11_5_71]) (S := [AR 93]) E (Z_X5_passed_81_r69 l D aC b v_91 x1 q11_5_71 hj_92.1 ) cv_X4_34 rfl rfl rfl (jv_lt hj_92 (by decide)) (Nat.le_of_ble_eq_true rfl) (Nat.le_of_ble_eq_true rfl) ⟨(Nat.le_of_ble_eq_true rfl), (Nat.le_of_ble_eq_true rfl)⟩ (Nat.le_of_ble_eq_true rfl) dX4_playOne_60 (fun z_96 u_94 hp_95 => ?_)
          obtain ⟨hz_96, hp_95⟩ := hp_95
          subst hp_95
          refine s_bipush (v := 63) E dX4_playOne_63 (by decide) ?_
          refine z_mask (v := 63) E dX4_playOne_65 (by decide) (by decide) (fun z_98 hz_98 => ?_)
          refine s_dup2 E dX4_playOne_66 ?_
          refine s_lald E rfl (jv_lt hj_92 (by decide)) (z_in (u := z_98.toInt) rfl (by omega) (by omega)) dX4_playOne_67 ?_
          refine z_anyL (fun z_99 => ?_)
          refine s_aload_n E dX4_playOne_68 rfl rfl ?_
          refine s_gR (r := 92) E fg_X4_9 rfl rfl (jv_lt hj_92 (by decide)) hz_93.1 dX4_playOne_69 ?_
          refine s_iload E dX4_playOne_72 rfl ?_
          refine s_lald E rfl (jv_lt hj_92 (by decide)) (z_in (u := q11_5_71.toInt) rfl (by omega) (by omega)) dX4_playOne_74 ?_
          refine z_anyL (fun z_100 => ?_)
          refine s_bipush (v := 10) E dX4_playOne_75 (by decide) ?_
          refine s_iload E dX4_playOne_77 rfl ?_
          refine s_isub E dX4_playOne_79 ?_
          refine z_nm (P := fun z => (-2147483648) ≤ z.toInt ∧ z.toInt ≤ 2147483647) (z32 _) (fun z_101 hz_101 => ?_)
          refine z_i2l (u := z_101.toInt) E dX4_playOne_80 rfl (fun z_102 hz_102 => ?_)
          refine s_lmul E dX4_playOne_81 ?_
          refine z_anyL (fun z_103 => ?_)
          refine s_ladd E dX4_playOne_82 ?_
          refine z_anyL (fun z_104 => ?_)
          refine s_last E rfl (jv_lt hj_92 (by decide)) (z_in (u := z_98.toInt) rfl (by omega) (by omega)) dX4_playOne_83 ?_
          refine s_gen (P := fun v => Jv w v ∧ Mz0 v) ⟨(jv_L hj_92 (by decide)), hz_93⟩ (fun v_105 hj_106 => ?_)
          obtain ⟨hj_106, hz_107⟩ := hj_106
          refine z_iinc (u := q11_5_71.toInt) (L2 := fun z_108 => [some (AR 91), some (AR 69), some (AR 81), some (AI x1), some (AI x2), some (AI z_108)]) E dX4_playOne_84 rfl rfl (by decide) (fun _ => rfl) (by decide) (by omega) (by omega) (fun z_108 hz_108 => ?_)
          refine s_goto (tgt := 11) E dX4_playOne_87 (by decide) ?_
          exact ih11 z_108 v_105 ⟨⟨by have hb_ := z32 z_108; omega, by have hb_ := z32 z_108; omega⟩, hj_106⟩ (by first | omega | decide | (dsimp only; omega) | (dsimp only; decide))
      ·
        refine s_gR (r := 93) E fg_X4_9 rfl rfl (jv_lt hj_72 (by decide)) hz_81.1 dX4_playOne_19 ?_
        refine s_iload E dX4_playOne_22 rfl ?_
        refine s_lald E rfl (jv_lt hj_72 (by decide)) (z_in (u := q11_5_71.toInt) rfl (by omega) (by omega)) dX4_playOne_24 ?_
        refine z_anyL (fun z_109 => ?_)
        refine s_lconst (v := 0) E dX4_playOne_25 (by decide) ?_
        refine z_lcmp (u := z_109.toInt) (v := 0) E dX4_playOne_26 rfl (by decide) (fun z_110 hz_110 => ?_)
        refine z_if_eq (tgt := 84) (u := z_110.toInt) E dX4_playOne_27 (by decide) rfl (fun h_111 => ?_) (fun h_111 => ?_)
        ·
          refine z_iinc (u := q11_5_71.toInt) (L2 := fun z_112 => [some (AR 91), some (AR 69), some (AR 81), some (AI x1), some (AI x2), some (AI z_112)]) E dX4_playOne_84 rfl rfl (by decide) (fun _ => rfl) (by decide) (by omega) (by omega) (fun z_112 hz_112 => ?_)
          refine s_goto (tgt := 11) E dX4_playOne_87 (by decide) ?_
          exact ih11 z_112 v11 ⟨⟨by have hb_ := z32 z_112; omega, by have hb_ := z32 z_112; omega⟩, hj_72⟩ (by first | omega | decide | (dsimp only; omega) | (dsimp only; decide))
        ·
          refine s_aload_n E dX4_playOne_30 rfl rfl ?_
          refine s_gR (r := 92) E fg_X4_15 rfl rfl (jv_lt hj_72 (by decide)) hz_81.2 dX4_playOne_31 ?_
          refine s_iload E dX4_playOne_34 rfl ?_
          refine s_dup2 E dX4_playOne_36 ?_
          refine s_lald E rfl (jv_lt hj_72 (by decide)) (z_in (u := q11_5_71.toInt) rfl (by omega) (by omega)) dX4_playOne_37 ?_
          refine z_anyL (fun z_113 => ?_)
          refine s_aload_n E dX4_playOne_38 rfl rfl ?_
          refine s_gR (r := 93) E fg_X4_9 rfl rfl (jv_lt hj_72 (by decide)) hz_81.1 dX4_playOne_39 ?_
          refine s_iload E dX4_playOne_42 rfl ?_
          refine s_lald E rfl (jv_lt hj_72 (by decide)) (z_in (u := q11_5_71.toInt) rfl (by omega) (by omega)) dX4_playOne_44 ?_
          refine z_anyL (fun z_114 => ?_)
          refine s_iload E dX4_playOne_45 rfl ?_
          refine z_i2l (u := x2.toInt) E dX4_playOne_47 rfl (fun z_115 hz_115 => ?_)
          refine s_lmul E dX4_playOne_48 ?_
          refine z_anyL (fun z_116 => ?_)
          refine s_ladd E dX4_playOne_49 ?_
          refine z_anyL (fun z_117 => ?_)
          refine s_last E rfl (jv_lt hj_72 (by decide)) (z_in (u := q11_5_71.toInt) rfl (by omega) (by omega)) dX4_playOne_50 ?_
          refine s_gen (P := fun v => Jv w v ∧ Mz1 v) ⟨(jv_L hj_72 (by decide)), hz_81⟩ (fun v_118 hj_119 => ?_)
          obtain ⟨hj_119, hz_120⟩ := hj_119
          refine s_aload_n E dX4_playOne_51 rfl rfl ?_
          refine s_gR (r := 92) E fg_X4_15 rfl rfl (jv_lt hj_119 (by decide)) hz_120.2 dX4_playOne_52 ?_
          refine s_aload_n E dX4_playOne_55 rfl rfl ?_
          refine s_aload_n E dX4_playOne_56 rfl rfl ?_
          refine s_iload_n E dX4_playOne_57 rfl rfl ?_
          refine s_iload E dX4_playOne_58 rfl ?_
          refine s_vI (As := [AR 69, AI x1, AI q11_5_71]) (S := [AR 92]) E (Z_X5_passed_81_r69 l D aC b v_118 x1 q11_5_71 hj_119.1 ) cv_X4_34 rfl rfl rfl (jv_lt hj_119 (by decide)) (Nat.le_of_ble_eq_true rfl) (Nat.le_of_ble_eq_true rfl) ⟨(Nat.le_of_ble_eq_true rfl), (Nat.le_of_ble_eq_true rfl)⟩ (Nat.le_of_ble_eq_true rfl) dX4_playOne_60 (fun z_123 u_121 hp_122 => ?_)
          obtain ⟨hz_123, hp_122⟩ := hp_122
          subst hp_122
          refine s_bipush (v := 63) E dX4_playOne_63 (by decide) ?_
          refine z_mask (v := 63) E dX4_playOne_65 (by decide) (by decide) (fun z_125 hz_125 => ?_)
          refine s_dup2 E dX4_playOne_66 ?_
          refine s_lald E rfl (jv_lt hj_119 (by decide)) (z_in (u := z_125.toInt) rfl (by omega) (by omega)) dX4_playOne_67 ?_
          refine z_anyL (fun z_126 => ?_)
          refine s_aload_n E dX4_playOne_68 rfl rfl ?_
          refine s_gR (r := 93) E fg_X4_9 rfl rfl (jv_lt hj_119 (by decide)) hz_120.1 dX4_playOne_69 ?_
          refine s_iload E dX4_playOne_72 rfl ?_
          refine s_lald E rfl (jv_lt hj_119 (by decide)) (z_in (u := q11_5_71.toInt) rfl (by omega) (by omega)) dX4_playOne_74 ?_
          refine z_anyL (fun z_127 => ?_)
          refine s_bipush (v := 10) E dX4_playOne_75 (by decide) ?_
          refine s_iload E dX4_playOne_77 rfl ?_
          refine s_isub E dX4_playOne_79 ?_
          refine z_nm (P := fun z => (-2147483648) ≤ z.toInt ∧ z.toInt ≤ 2147483647) (z32 _) (fun z_128 hz_128 => ?_)
          refine z_i2l (u := z_128.toInt) E dX4_playOne_80 rfl (fun z_129 hz_129 => ?_)
          refine s_lmul E dX4_playOne_81 ?_
          refine z_anyL (fun z_130 => ?_)
          refine s_ladd E dX4_playOne_82 ?_
          refine z_anyL (fun z_131 => ?_)
          refine s_last E rfl (jv_lt hj_119 (by decide)) (z_in (u := z_125.toInt) rfl (by omega) (by omega)) dX4_playOne_83 ?_
          refine s_gen (P := fun v => Jv w v ∧ Mz1 v) ⟨(jv_L hj_119 (by decide)), hz_120⟩ (fun v_132 hj_133 => ?_)
          obtain ⟨hj_133, hz_134⟩ := hj_133
          refine z_iinc (u := q11_5_71.toInt) (L2 := fun z_135 => [some (AR 91), some (AR 69), some (AR 81), some (AI x1), some (AI x2), some (AI z_135)]) E dX4_playOne_84 rfl rfl (by decide) (fun _ => rfl) (by decide) (by omega) (by omega) (fun z_135 hz_135 => ?_)
          refine s_goto (tgt := 11) E dX4_playOne_87 (by decide) ?_
          exact ih11 z_135 v_132 ⟨⟨by have hb_ := z32 z_135; omega, by have hb_ := z32 z_135; omega⟩, hj_133⟩ (by first | omega | decide | (dsimp only; omega) | (dsimp only; decide))
set_option maxRecDepth 20000 in
set_option maxHeartbeats 2000000 in
theorem Z_X4_play_91_r69_r81 (l : Launch) (D : va_G) (aC : Nat → ClassId) (b : Nat) (w : XW) (x1 : Int32) (x2 : Int32) (x3 : Int32) (hI : Iv w)  : CnV l D aC b M_X4_play 4 94 0 0 [AR 91, AR 69, AR 81, AI x1, AI x2, AI x3] w (fun u => Jv w u) := by
  refine cn_V (own := RX4) (nm := "play") (L0 := [some (AR 91), some (AR 69), some (AR 81), some (AI x1), some (AI x2), some (AI x3), none]) (by decide +kernel) rfl rfl (Nat.le_of_ble_eq_true rfl) rfl ?_
  intro p e s m args below meth c E hin
  have hJ : Jv w w := jv_rfl hI
  have hb_x1 := z32 x1
  have hb_x2 := z32 x2
  have hb_x3 := z32 x3
  refine s_aload_n E dX4_play_0 rfl rfl ?_
  rcases jv_mz hJ with hz_1 | hz_1
  ·
    refine s_gR (r := 92) E fg_X4_9 rfl rfl (jv_lt hJ (by decide)) hz_1.1 dX4_play_1 ?_
    refine s_lconst (v := 0) E dX4_play_4 (by decide) ?_
    refine s_sV (As := [AR 92, AL 0]) (S := []) E (Z_J7_fill_d0a16_r92 l D aC b w 0 hJ.1 ) cs_X4_18 rfl rfl (Nat.le_of_ble_eq_true rfl) (Nat.le_of_ble_eq_true rfl) ⟨(Nat.le_of_ble_eq_true rfl), (Nat.le_of_ble_eq_true rfl)⟩ (Nat.le_of_ble_eq_true rfl) dX4_play_5 (fun u_2 hp_3 => ?_)
    have hj_4 := jv_trans hJ hp_3
    refine s_aload_n E dX4_play_8 rfl rfl ?_
    rcases jv_mz hj_4 with hz_5 | hz_5
    ·
      refine s_gR (r := 92) E fg_X4_9 rfl rfl (jv_lt hj_4 (by decide)) hz_5.1 dX4_play_9 ?_
      refine s_iconst (v := 1) E dX4_play_12 (by decide) ?_
      refine s_iload_n E dX4_play_13 rfl rfl ?_
      refine s_ishl E dX4_play_14 ?_
      refine z_nm (P := fun z => (-2147483648) ≤ z.toInt ∧ z.toInt ≤ 2147483647) (z32 _) (fun z_6 hz_6 => ?_)
      refine s_bipush (v := 63) E dX4_play_15 (by decide) ?_
      refine z_mask (v := 63) E dX4_play_17 (by decide) (by decide) (fun z_7 hz_7 => ?_)
      refine s_lconst (v := 1) E dX4_play_18 (by decide) ?_
      refine s_last E rfl (jv_lt hj_4 (by decide)) (z_in (u := z_7.toInt) rfl (by omega) (by omega)) dX4_play_19 ?_
      refine s_gen (P := fun v => Jv w v ∧ Mz0 v) ⟨(jv_L hj_4 (by decide)), hz_5⟩ (fun v_8 hj_9 => ?_)
      obtain ⟨hj_9, hz_10⟩ := hj_9
      refine s_aload_n E dX4_play_20 rfl rfl ?_
      refine s_lconst (v := 1) E dX4_play_21 (by decide) ?_
      refine s_pL E fp_X4_24 rfl rfl (jv_lt hj_9 (by decide)) dX4_play_22 ?_
      refine s_gen (P := fun v => Jv w v ∧ Mz0 v) ⟨(jv_L hj_9 (by decide)), hz_10⟩ (fun v_11 hj_12 => ?_)
      obtain ⟨hj_12, hz_13⟩ := hj_12
      refine s_iconst (v := 0) E dX4_play_25 (by decide) ?_
      refine s_istore (L2 := [some (AR 91), some (AR 69), some (AR 81), some (AI x1), some (AI x2), some (AI x3), some (AI 0)]) E dX4_play_26 (by decide) rfl ?_
      refine z_loop (St := Int32) (Pi := fun q28_6_13 v28 => (0 ≤ q28_6_13.toInt ∧ q28_6_13.toInt ≤ 9) ∧ Jv w v28) (Lf := fun q28_6_13 => [some (AR 91), some (AR 69), some (AR 81), some (AI x1), some (AI x2), some (AI x3), some (AI q28_6_13)]) (fun q28_6_13 _ => (10 - q28_6_13.toInt).toNat) 0 ⟨⟨by decide, by decide⟩, hj_12⟩ ?_
      rintro q28_6_13 v28 ⟨hq28_6, hj_14⟩ ih28
      refine s_loc (L2 := [some (AR 91), some (AR 69), some (AR 81), some (AI x1), some (AI x2), some (AI x3), some (AI q28_6_13)]) rfl ?_
      refine s_iload E dX4_play_28 rfl ?_
      refine s_iload E dX4_play_30 rfl ?_
      refine z_icmp_gt (tgt := 70) (u := q28_6_13.toInt) (v := x2.toInt) E dX4_play_32 (by decide) rfl rfl (fun h_15 => ?_) (fun h_15 => ?_)
      ·
        exact r_void E dX4_play_70 hj_14
      ·
        refine s_iload E dX4_play_35 rfl ?_
        refine s_bipush (v := 8) E dX4_play_37 (by decide) ?_
        refine z_icmp_gt (tgt := 70) (u := q28_6_13.toInt) (v := 8) E dX4_play_39 (by decide) rfl (by decide) (fun h_16 => ?_) (fun h_16 => ?_)
        ·
          exact r_void E dX4_play_70 hj_14
        ·
          refine s_aload_n E dX4_play_42 rfl rfl ?_
          refine s_aload_n E dX4_play_43 rfl rfl ?_
          refine s_aload_n E dX4_play_44 rfl rfl ?_
          refine s_iload E dX4_play_45 rfl ?_
          refine s_iload E dX4_play_47 rfl ?_
          refine s_vV (As := [AR 69, AR 81, AI q28_6_13, AI x3]) (S := []) E (Z_X4_playOne_91_r69_r81 l D aC b v28 q28_6_13 x3 hj_14.1 ) cv_X4_28 rfl rfl rfl (jv_lt hj_14 (by decide)) (Nat.le_of_ble_eq_true rfl) (Nat.le_of_ble_eq_true rfl) ⟨(Nat.le_of_ble_eq_true rfl), (Nat.le_of_ble_eq_true rfl)⟩ (Nat.le_of_ble_eq_true rfl) dX4_play_49 (fun u_17 hp_18 => ?_)
          have hj_19 := jv_trans hj_14 hp_18
          refine s_aload_n E dX4_play_52 rfl rfl ?_
          refine s_dupR E dX4_play_53 ?_
          refine s_gL E fg_X4_24 rfl rfl (jv_lt hj_19 (by decide)) dX4_play_54 ?_
          refine z_anyL (fun z_20 => ?_)
          refine s_ldc2 E k_1108 rfl dX4_play_57 ?_
          refine s_lmul E dX4_play_60 ?_
          refine z_anyL (fun z_21 => ?_)
          refine s_pL E fp_X4_24 rfl rfl (jv_lt hj_19 (by decide)) dX4_play_61 ?_
          refine s_gen (P := Jv w) (jv_L hj_19 (by decide)) (fun v_22 hj_23 => ?_)
          refine z_iinc (u := q28_6_13.toInt) (L2 := fun z_24 => [some (AR 91), some (AR 69), some (AR 81), some (AI x1), some (AI x2), some (AI x3), some (AI z_24)]) E dX4_play_64 rfl rfl (by decide) (fun _ => rfl) (by decide) (by omega) (by omega) (fun z_24 hz_24 => ?_)
          refine s_goto (tgt := 28) E dX4_play_67 (by decide) ?_
          exact ih28 z_24 v_22 ⟨⟨by have hb_ := z32 z_24; omega, by have hb_ := z32 z_24; omega⟩, hj_23⟩ (by first | omega | decide | (dsimp only; omega) | (dsimp only; decide))
    ·
      refine s_gR (r := 93) E fg_X4_9 rfl rfl (jv_lt hj_4 (by decide)) hz_5.1 dX4_play_9 ?_
      refine s_iconst (v := 1) E dX4_play_12 (by decide) ?_
      refine s_iload_n E dX4_play_13 rfl rfl ?_
      refine s_ishl E dX4_play_14 ?_
      refine z_nm (P := fun z => (-2147483648) ≤ z.toInt ∧ z.toInt ≤ 2147483647) (z32 _) (fun z_25 hz_25 => ?_)
      refine s_bipush (v := 63) E dX4_play_15 (by decide) ?_
      refine z_mask (v := 63) E dX4_play_17 (by decide) (by decide) (fun z_26 hz_26 => ?_)
      refine s_lconst (v := 1) E dX4_play_18 (by decide) ?_
      refine s_last E rfl (jv_lt hj_4 (by decide)) (z_in (u := z_26.toInt) rfl (by omega) (by omega)) dX4_play_19 ?_
      refine s_gen (P := fun v => Jv w v ∧ Mz1 v) ⟨(jv_L hj_4 (by decide)), hz_5⟩ (fun v_27 hj_28 => ?_)
      obtain ⟨hj_28, hz_29⟩ := hj_28
      refine s_aload_n E dX4_play_20 rfl rfl ?_
      refine s_lconst (v := 1) E dX4_play_21 (by decide) ?_
      refine s_pL E fp_X4_24 rfl rfl (jv_lt hj_28 (by decide)) dX4_play_22 ?_
      refine s_gen (P := fun v => Jv w v ∧ Mz1 v) ⟨(jv_L hj_28 (by decide)), hz_29⟩ (fun v_30 hj_31 => ?_)
      obtain ⟨hj_31, hz_32⟩ := hj_31
      refine s_iconst (v := 0) E dX4_play_25 (by decide) ?_
      refine s_istore (L2 := [some (AR 91), some (AR 69), some (AR 81), some (AI x1), some (AI x2), some (AI x3), some (AI 0)]) E dX4_play_26 (by decide) rfl ?_
      refine z_loop (St := Int32) (Pi := fun q28_6_32 v28 => (0 ≤ q28_6_32.toInt ∧ q28_6_32.toInt ≤ 9) ∧ Jv w v28) (Lf := fun q28_6_32 => [some (AR 91), some (AR 69), some (AR 81), some (AI x1), some (AI x2), some (AI x3), some (AI q28_6_32)]) (fun q28_6_32 _ => (10 - q28_6_32.toInt).toNat) 0 ⟨⟨by decide, by decide⟩, hj_31⟩ ?_
      rintro q28_6_32 v28 ⟨hq28_6, hj_33⟩ ih28
      refine s_loc (L2 := [some (AR 91), some (AR 69), some (AR 81), some (AI x1), some (AI x2), some (AI x3), some (AI q28_6_32)]) rfl ?_
      refine s_iload E dX4_play_28 rfl ?_
      refine s_iload E dX4_play_30 rfl ?_
      refine z_icmp_gt (tgt := 70) (u := q28_6_32.toInt) (v := x2.toInt) E dX4_play_32 (by decide) rfl rfl (fun h_34 => ?_) (fun h_34 => ?_)
      ·
        exact r_void E dX4_play_70 hj_33
      ·
        refine s_iload E dX4_play_35 rfl ?_
        refine s_bipush (v := 8) E dX4_play_37 (by decide) ?_
        refine z_icmp_gt (tgt := 70) (u := q28_6_32.toInt) (v := 8) E dX4_play_39 (by decide) rfl (by decide) (fun h_35 => ?_) (fun h_35 => ?_)
        ·
          exact r_void E dX4_play_70 hj_33
        ·
          refine s_aload_n E dX4_play_42 rfl rfl ?_
          refine s_aload_n E dX4_play_43 rfl rfl ?_
          refine s_aload_n E dX4_play_44 rfl rfl ?_
          refine s_iload E dX4_play_45 rfl ?_
          refine s_iload E dX4_play_47 rfl ?_
          refine s_vV (As := [AR 69, AR 81, AI q28_6_32, AI x3]) (S := []) E (Z_X4_playOne_91_r69_r81 l D aC b v28 q28_6_32 x3 hj_33.1 ) cv_X4_28 rfl rfl rfl (jv_lt hj_33 (by decide)) (Nat.le_of_ble_eq_true rfl) (Nat.le_of_ble_eq_true rfl) ⟨(Nat.le_of_ble_eq_true rfl), (Nat.le_of_ble_eq_true rfl)⟩ (Nat.le_of_ble_eq_true rfl) dX4_play_49 (fun u_36 hp_37 => ?_)
          have hj_38 := jv_trans hj_33 hp_37
          refine s_aload_n E dX4_play_52 rfl rfl ?_
          refine s_dupR E dX4_play_53 ?_
          refine s_gL E fg_X4_24 rfl rfl (jv_lt hj_38 (by decide)) dX4_play_54 ?_
          refine z_anyL (fun z_39 => ?_)
          refine s_ldc2 E k_1108 rfl dX4_play_57 ?_
          refine s_lmul E dX4_play_60 ?_
          refine z_anyL (fun z_40 => ?_)
          refine s_pL E fp_X4_24 rfl rfl (jv_lt hj_38 (by decide)) dX4_play_61 ?_
          refine s_gen (P := Jv w) (jv_L hj_38 (by decide)) (fun v_41 hj_42 => ?_)
          refine z_iinc (u := q28_6_32.toInt) (L2 := fun z_43 => [some (AR 91), some (AR 69), some (AR 81), some (AI x1), some (AI x2), some (AI x3), some (AI z_43)]) E dX4_play_64 rfl rfl (by decide) (fun _ => rfl) (by decide) (by omega) (by omega) (fun z_43 hz_43 => ?_)
          refine s_goto (tgt := 28) E dX4_play_67 (by decide) ?_
          exact ih28 z_43 v_41 ⟨⟨by have hb_ := z32 z_43; omega, by have hb_ := z32 z_43; omega⟩, hj_42⟩ (by first | omega | decide | (dsimp only; omega) | (dsimp only; decide))
  ·
    refine s_gR (r := 93) E fg_X4_9 rfl rfl (jv_lt hJ (by decide)) hz_1.1 dX4_play_1 ?_
    refine s_lconst (v := 0) E dX4_play_4 (by decide) ?_
    refine s_sV (As := [AR 93, AL 0]) (S := []) E (Z_J7_fill_d0a16_r93 l D aC b w 0 hJ.1 ) cs_X4_18 rfl rfl (Nat.le_of_ble_eq_true rfl) (Nat.le_of_ble_eq_true rfl) ⟨(Nat.le_of_ble_eq_true rfl), (Nat.le_of_ble_eq_true rfl)⟩ (Nat.le_of_ble_eq_true rfl) dX4_play_5 (fun u_44 hp_45 => ?_)
    have hj_46 := jv_trans hJ hp_45
    refine s_aload_n E dX4_play_8 rfl rfl ?_
    rcases jv_mz hj_46 with hz_47 | hz_47
    ·
      refine s_gR (r := 92) E fg_X4_9 rfl rfl (jv_lt hj_46 (by decide)) hz_47.1 dX4_play_9 ?_
      refine s_iconst (v := 1) E dX4_play_12 (by decide) ?_
      refine s_iload_n E dX4_play_13 rfl rfl ?_
      refine s_ishl E dX4_play_14 ?_
      refine z_nm (P := fun z => (-2147483648) ≤ z.toInt ∧ z.toInt ≤ 2147483647) (z32 _) (fun z_48 hz_48 => ?_)
      refine s_bipush (v := 63) E dX4_play_15 (by decide) ?_
      refine z_mask (v := 63) E dX4_play_17 (by decide) (by decide) (fun z_49 hz_49 => ?_)
      refine s_lconst (v := 1) E dX4_play_18 (by decide) ?_
      refine s_last E rfl (jv_lt hj_46 (by decide)) (z_in (u := z_49.toInt) rfl (by omega) (by omega)) dX4_play_19 ?_
      refine s_gen (P := fun v => Jv w v ∧ Mz0 v) ⟨(jv_L hj_46 (by decide)), hz_47⟩ (fun v_50 hj_51 => ?_)
      obtain ⟨hj_51, hz_52⟩ := hj_51
      refine s_aload_n E dX4_play_20 rfl rfl ?_
      refine s_lconst (v := 1) E dX4_play_21 (by decide) ?_
      refine s_pL E fp_X4_24 rfl rfl (jv_lt hj_51 (by decide)) dX4_play_22 ?_
      refine s_gen (P := fun v => Jv w v ∧ Mz0 v) ⟨(jv_L hj_51 (by decide)), hz_52⟩ (fun v_53 hj_54 => ?_)
      obtain ⟨hj_54, hz_55⟩ := hj_54
      refine s_iconst (v := 0) E dX4_play_25 (by decide) ?_
      refine s_istore (L2 := [some (AR 91), some (AR 69), some (AR 81), some (AI x1), some (AI x2), some (AI x3), some (AI 0)]) E dX4_play_26 (by decide) rfl ?_
      refine z_loop (St := Int32) (Pi := fun q28_6_55 v28 => (0 ≤ q28_6_55.toInt ∧ q28_6_55.toInt ≤ 9) ∧ Jv w v28) (Lf := fun q28_6_55 => [some (AR 91), some (AR 69), some (AR 81), some (AI x1), some (AI x2), some (AI x3), some (AI q28_6_55)]) (fun q28_6_55 _ => (10 - q28_6_55.toInt).toNat) 0 ⟨⟨by decide, by decide⟩, hj_54⟩ ?_
      rintro q28_6_55 v28 ⟨hq28_6, hj_56⟩ ih28
      refine s_loc (L2 := [some (AR 91), some (AR 69), some (AR 81), some (AI x1), some (AI x2), some (AI x3), some (AI q28_6_55)]) rfl ?_
      refine s_iload E dX4_play_28 rfl ?_
      refine s_iload E dX4_play_30 rfl ?_
      refine z_icmp_gt (tgt := 70) (u := q28_6_55.toInt) (v := x2.toInt) E dX4_play_32 (by decide) rfl rfl (fun h_57 => ?_) (fun h_57 => ?_)
      ·
        exact r_void E dX4_play_70 hj_56
      ·
        refine s_iload E dX4_play_35 rfl ?_
        refine s_bipush (v := 8) E dX4_play_37 (by decide) ?_
        refine z_icmp_gt (tgt := 70) (u := q28_6_55.toInt) (v := 8) E dX4_play_39 (by decide) rfl (by decide) (fun h_58 => ?_) (fun h_58 => ?_)
        ·
          exact r_void E dX4_play_70 hj_56
        ·
          refine s_aload_n E dX4_play_42 rfl rfl ?_
          refine s_aload_n E dX4_play_43 rfl rfl ?_
          refine s_aload_n E dX4_play_44 rfl rfl ?_
          refine s_iload E dX4_play_45 rfl ?_
          refine s_iload E dX4_play_47 rfl ?_
          refine s_vV (As := [AR 69, AR 81, AI q28_6_55, AI x3]) (S := []) E (Z_X4_playOne_91_r69_r81 l D aC b v28 q28_6_55 x3 hj_56.1 ) cv_X4_28 rfl rfl rfl (jv_lt hj_56 (by decide)) (Nat.le_of_ble_eq_true rfl) (Nat.le_of_ble_eq_true rfl) ⟨(Nat.le_of_ble_eq_true rfl), (Nat.le_of_ble_eq_true rfl)⟩ (Nat.le_of_ble_eq_true rfl) dX4_play_49 (fun u_59 hp_60 => ?_)
          have hj_61 := jv_trans hj_56 hp_60
          refine s_aload_n E dX4_play_52 rfl rfl ?_
          refine s_dupR E dX4_play_53 ?_
          refine s_gL E fg_X4_24 rfl rfl (jv_lt hj_61 (by decide)) dX4_play_54 ?_
          refine z_anyL (fun z_62 => ?_)
          refine s_ldc2 E k_1108 rfl dX4_play_57 ?_
          refine s_lmul E dX4_play_60 ?_
          refine z_anyL (fun z_63 => ?_)
          refine s_pL E fp_X4_24 rfl rfl (jv_lt hj_61 (by decide)) dX4_play_61 ?_
          refine s_gen (P := Jv w) (jv_L hj_61 (by decide)) (fun v_64 hj_65 => ?_)
          refine z_iinc (u := q28_6_55.toInt) (L2 := fun z_66 => [some (AR 91), some (AR 69), some (AR 81), some (AI x1), some (AI x2), some (AI x3), some (AI z_66)]) E dX4_play_64 rfl rfl (by decide) (fun _ => rfl) (by decide) (by omega) (by omega) (fun z_66 hz_66 => ?_)
          refine s_goto (tgt := 28) E dX4_play_67 (by decide) ?_
          exact ih28 z_66 v_64 ⟨⟨by have hb_ := z32 z_66; omega, by have hb_ := z32 z_66; omega⟩, hj_65⟩ (by first | omega | decide | (dsimp only; omega) | (dsimp only; decide))
    ·
      refine s_gR (r := 93) E fg_X4_9 rfl rfl (jv_lt hj_46 (by decide)) hz_47.1 dX4_play_9 ?_
      refine s_iconst (v := 1) E dX4_play_12 (by decide) ?_
      refine s_iload_n E dX4_play_13 rfl rfl ?_
      refine s_ishl E dX4_play_14 ?_
      refine z_nm (P := fun z => (-2147483648) ≤ z.toInt ∧ z.toInt ≤ 2147483647) (z32 _) (fun z_67 hz_67 => ?_)
      refine s_bipush (v := 63) E dX4_play_15 (by decide) ?_
      refine z_mask (v := 63) E dX4_play_17 (by decide) (by decide) (fun z_68 hz_68 => ?_)
      refine s_lconst (v := 1) E dX4_play_18 (by decide) ?_
      refine s_last E rfl (jv_lt hj_46 (by decide)) (z_in (u := z_68.toInt) rfl (by omega) (by omega)) dX4_play_19 ?_
      refine s_gen (P := fun v => Jv w v ∧ Mz1 v) ⟨(jv_L hj_46 (by decide)), hz_47⟩ (fun v_69 hj_70 => ?_)
      obtain ⟨hj_70, hz_71⟩ := hj_70
      refine s_aload_n E dX4_play_20 rfl rfl ?_
      refine s_lconst (v := 1) E dX4_play_21 (by decide) ?_
      refine s_pL E fp_X4_24 rfl rfl (jv_lt hj_70 (by decide)) dX4_play_22 ?_
      refine s_gen (P := fun v => Jv w v ∧ Mz1 v) ⟨(jv_L hj_70 (by decide)), hz_71⟩ (fun v_72 hj_73 => ?_)
      obtain ⟨hj_73, hz_74⟩ := hj_73
      refine s_iconst (v := 0) E dX4_play_25 (by decide) ?_
      refine s_istore (L2 := [some (AR 91), some (AR 69), some (AR 81), some (AI x1), some (AI x2), some (AI x3), some (AI 0)]) E dX4_play_26 (by decide) rfl ?_
      refine z_loop (St := Int32) (Pi := fun q28_6_74 v28 => (0 ≤ q28_6_74.toInt ∧ q28_6_74.toInt ≤ 9) ∧ Jv w v28) (Lf := fun q28_6_74 => [some (AR 91), some (AR 69), some (AR 81), some (AI x1), some (AI x2), some (AI x3), some (AI q28_6_74)]) (fun q28_6_74 _ => (10 - q28_6_74.toInt).toNat) 0 ⟨⟨by decide, by decide⟩, hj_73⟩ ?_
      rintro q28_6_74 v28 ⟨hq28_6, hj_75⟩ ih28
      refine s_loc (L2 := [some (AR 91), some (AR 69), some (AR 81), some (AI x1), some (AI x2), some (AI x3), some (AI q28_6_74)]) rfl ?_
      refine s_iload E dX4_play_28 rfl ?_
      refine s_iload E dX4_play_30 rfl ?_
      refine z_icmp_gt (tgt := 70) (u := q28_6_74.toInt) (v := x2.toInt) E dX4_play_32 (by decide) rfl rfl (fun h_76 => ?_) (fun h_76 => ?_)
      ·
        exact r_void E dX4_play_70 hj_75
      ·
        refine s_iload E dX4_play_35 rfl ?_
        refine s_bipush (v := 8) E dX4_play_37 (by decide) ?_
        refine z_icmp_gt (tgt := 70) (u := q28_6_74.toInt) (v := 8) E dX4_play_39 (by decide) rfl (by decide) (fun h_77 => ?_) (fun h_77 => ?_)
        ·
          exact r_void E dX4_play_70 hj_75
        ·
          refine s_aload_n E dX4_play_42 rfl rfl ?_
          refine s_aload_n E dX4_play_43 rfl rfl ?_
          refine s_aload_n E dX4_play_44 rfl rfl ?_
          refine s_iload E dX4_play_45 rfl ?_
          refine s_iload E dX4_play_47 rfl ?_
          refine s_vV (As := [AR 69, AR 81, AI q28_6_74, AI x3]) (S := []) E (Z_X4_playOne_91_r69_r81 l D aC b v28 q28_6_74 x3 hj_75.1 ) cv_X4_28 rfl rfl rfl (jv_lt hj_75 (by decide)) (Nat.le_of_ble_eq_true rfl) (Nat.le_of_ble_eq_true rfl) ⟨(Nat.le_of_ble_eq_true rfl), (Nat.le_of_ble_eq_true rfl)⟩ (Nat.le_of_ble_eq_true rfl) dX4_play_49 (fun u_78 hp_79 => ?_)
          have hj_80 := jv_trans hj_75 hp_79
          refine s_aload_n E dX4_play_52 rfl rfl ?_
          refine s_dupR E dX4_play_53 ?_
          refine s_gL E fg_X4_24 rfl rfl (jv_lt hj_80 (by decide)) dX4_play_54 ?_
          refine z_anyL (fun z_81 => ?_)
          refine s_ldc2 E k_1108 rfl dX4_play_57 ?_
          refine s_lmul E dX4_play_60 ?_
          refine z_anyL (fun z_82 => ?_)
          refine s_pL E fp_X4_24 rfl rfl (jv_lt hj_80 (by decide)) dX4_play_61 ?_
          refine s_gen (P := Jv w) (jv_L hj_80 (by decide)) (fun v_83 hj_84 => ?_)
          refine z_iinc (u := q28_6_74.toInt) (L2 := fun z_85 => [some (AR 91), some (AR 69), some (AR 81), some (AI x1), some (AI x2), some (AI x3), some (AI z_85)]) E dX4_play_64 rfl rfl (by decide) (fun _ => rfl) (by decide) (by omega) (by omega) (fun z_85 hz_85 => ?_)
          refine s_goto (tgt := 28) E dX4_play_67 (by decide) ?_
          exact ih28 z_85 v_83 ⟨⟨by have hb_ := z32 z_85; omega, by have hb_ := z32 z_85; omega⟩, hj_84⟩ (by first | omega | decide | (dsimp only; omega) | (dsimp only; decide))
set_option maxRecDepth 20000 in
set_option maxHeartbeats 2000000 in
theorem Z_X4_weightWith_91 (l : Launch) (D : va_G) (aC : Nat → ClassId) (b : Nat) (w : XW) (x1 : Int32) (hI : Iv w)  : CnL l D aC b M_X4_weightWith 1 21 0 0 [AR 91, AI x1] w (fun r u => ((-9223372036854775808) ≤ r.toInt ∧ r.toInt ≤ 9223372036854775807) ∧ w = u) := by
  refine cn_L (own := RX4) (nm := "weightWith") (L0 := [some (AR 91), some (AI x1), none, none, none]) (by decide +kernel) rfl rfl (Nat.le_of_ble_eq_true rfl) rfl ?_
  intro p e s m args below meth c E hin
  have hJ : Jv w w := jv_rfl hI
  have hb_x1 := z32 x1
  refine s_lconst (v := 0) E dX4_weightWith_0 (by decide) ?_
  refine s_lstore_n (L2 := [some (AR 91), some (AI x1), some (AL 0), none, none]) E dX4_weightWith_1 rfl (by decide) rfl ?_
  refine s_iconst (v := 0) E dX4_weightWith_2 (by decide) ?_
  refine s_istore (L2 := [some (AR 91), some (AI x1), some (AL 0), none, some (AI 0)]) E dX4_weightWith_3 (by decide) rfl ?_
  refine z_loop (St := Int64 × Int32) (Pi := fun ⟨q5_2_0, q5_4_0⟩ v5 => (0 ≤ q5_4_0.toInt ∧ q5_4_0.toInt ≤ 64) ∧ w = v5) (Lf := fun ⟨q5_2_0, q5_4_0⟩ => [some (AR 91), some (AI x1), some (AL q5_2_0), none, some (AI q5_4_0)]) (fun ⟨q5_2_0, q5_4_0⟩ _ => (65 - q5_4_0.toInt).toNat) ⟨0, 0⟩ ⟨⟨by decide, by decide⟩, rfl⟩ ?_
  rintro ⟨q5_2_0, q5_4_0⟩ v5 ⟨hq5_4, hv_⟩ ih5
  subst hv_
  have hbq5_2 := z64 q5_2_0
  refine s_loc (L2 := [some (AR 91), some (AI x1), some (AL q5_2_0), none, some (AI q5_4_0)]) rfl ?_
  refine s_iload E dX4_weightWith_5 rfl ?_
  refine s_bipush (v := 64) E dX4_weightWith_7 (by decide) ?_
  refine z_icmp_ge (tgt := 37) (u := q5_4_0.toInt) (v := 64) E dX4_weightWith_9 (by decide) rfl (by decide) (fun h_2 => ?_) (fun h_2 => ?_)
  ·
    refine s_lload_n E dX4_weightWith_37 rfl rfl ?_
    exact r_long E dX4_weightWith_38 ⟨⟨by have hb_ := z64 q5_2_0; omega, by have hb_ := z64 q5_2_0; omega⟩, rfl⟩
  ·
    refine s_iload E dX4_weightWith_12 rfl ?_
    refine s_iload_n E dX4_weightWith_14 rfl rfl ?_
    refine s_sI (As := [AI q5_4_0, AI x1]) (S := []) E (Z_X9_hasBit l D aC b w q5_4_0 x1 hJ.1 ) cs_X4_40 rfl rfl (Nat.le_of_ble_eq_true rfl) (Nat.le_of_ble_eq_true rfl) ⟨(Nat.le_of_ble_eq_true rfl), (Nat.le_of_ble_eq_true rfl)⟩ (Nat.le_of_ble_eq_true rfl) dX4_weightWith_15 (fun z_5 u_3 hp_4 => ?_)
    obtain ⟨hz_5, hp_4⟩ := hp_4
    subst hp_4
    refine z_if_eq (tgt := 31) (u := z_5.toInt) E dX4_weightWith_18 (by decide) rfl (fun h_7 => ?_) (fun h_7 => ?_)
    ·
      refine z_iinc (u := q5_4_0.toInt) (L2 := fun z_8 => [some (AR 91), some (AI x1), some (AL q5_2_0), none, some (AI z_8)]) E dX4_weightWith_31 rfl rfl (by decide) (fun _ => rfl) (by decide) (by omega) (by omega) (fun z_8 hz_8 => ?_)
      refine s_goto (tgt := 5) E dX4_weightWith_34 (by decide) ?_
      exact ih5 ⟨q5_2_0, z_8⟩ w ⟨⟨by have hb_ := z32 z_8; omega, by have hb_ := z32 z_8; omega⟩, rfl⟩ (by first | omega | decide | (dsimp only; omega) | (dsimp only; decide))
    ·
      refine s_lload_n E dX4_weightWith_21 rfl rfl ?_
      refine s_aload_n E dX4_weightWith_22 rfl rfl ?_
      rcases jv_mz hJ with hz_9 | hz_9
      ·
        refine s_gR (r := 92) E fg_X4_9 rfl rfl (jv_lt hJ (by decide)) hz_9.1 dX4_weightWith_23 ?_
        refine s_iload E dX4_weightWith_26 rfl ?_
        refine s_lald E rfl (jv_lt hJ (by decide)) (z_in (u := q5_4_0.toInt) rfl (by omega) (by omega)) dX4_weightWith_28 ?_
        refine z_anyL (fun z_10 => ?_)
        refine s_ladd E dX4_weightWith_29 ?_
        refine z_anyL (fun z_11 => ?_)
        refine s_lstore_n (L2 := [some (AR 91), some (AI x1), some (AL z_11), none, some (AI q5_4_0)]) E dX4_weightWith_30 rfl (by decide) rfl ?_
        refine z_iinc (u := q5_4_0.toInt) (L2 := fun z_12 => [some (AR 91), some (AI x1), some (AL z_11), none, some (AI z_12)]) E dX4_weightWith_31 rfl rfl (by decide) (fun _ => rfl) (by decide) (by omega) (by omega) (fun z_12 hz_12 => ?_)
        refine s_goto (tgt := 5) E dX4_weightWith_34 (by decide) ?_
        exact ih5 ⟨z_11, z_12⟩ w ⟨⟨by have hb_ := z32 z_12; omega, by have hb_ := z32 z_12; omega⟩, rfl⟩ (by first | omega | decide | (dsimp only; omega) | (dsimp only; decide))
      ·
        refine s_gR (r := 93) E fg_X4_9 rfl rfl (jv_lt hJ (by decide)) hz_9.1 dX4_weightWith_23 ?_
        refine s_iload E dX4_weightWith_26 rfl ?_
        refine s_lald E rfl (jv_lt hJ (by decide)) (z_in (u := q5_4_0.toInt) rfl (by omega) (by omega)) dX4_weightWith_28 ?_
        refine z_anyL (fun z_13 => ?_)
        refine s_ladd E dX4_weightWith_29 ?_
        refine z_anyL (fun z_14 => ?_)
        refine s_lstore_n (L2 := [some (AR 91), some (AI x1), some (AL z_14), none, some (AI q5_4_0)]) E dX4_weightWith_30 rfl (by decide) rfl ?_
        refine z_iinc (u := q5_4_0.toInt) (L2 := fun z_15 => [some (AR 91), some (AI x1), some (AL z_14), none, some (AI z_15)]) E dX4_weightWith_31 rfl rfl (by decide) (fun _ => rfl) (by decide) (by omega) (by omega) (fun z_15 hz_15 => ?_)
        refine s_goto (tgt := 5) E dX4_weightWith_34 (by decide) ?_
        exact ih5 ⟨z_14, z_15⟩ w ⟨⟨by have hb_ := z32 z_15; omega, by have hb_ := z32 z_15; omega⟩, rfl⟩ (by first | omega | decide | (dsimp only; omega) | (dsimp only; decide))
set_option maxRecDepth 20000 in
set_option maxHeartbeats 2000000 in
theorem Z_X9_chance_0 (l : Launch) (D : va_G) (aC : Nat → ClassId) (b : Nat) (w : XW) (x1 : Int32) (x2 : Int32) (x3 : Int32) (x4 : Int32) (hI : Iv w)  : CnL l D aC b M_X9_chance 5 120 0 0 [AR 0, AI x1, AI x2, AI x3, AI x4] w (fun r u => ((-9223372036854775808) ≤ r.toInt ∧ r.toInt ≤ 9223372036854775807) ∧ Jv w u) := by
  refine cn_L (own := RX9) (nm := "chance") (L0 := [some (AR 0), some (AI x1), some (AI x2), some (AI x3), some (AI x4)]) (by decide +kernel) rfl rfl (Nat.le_of_ble_eq_true rfl) rfl ?_
  intro p e s m args below meth c E hin
  have hJ : Jv w w := jv_rfl hI
  have hb_x1 := z32 x1
  have hb_x2 := z32 x2
  have hb_x3 := z32 x3
  have hb_x4 := z32 x4
  refine s_aload_n E dX9_chance_0 rfl rfl ?_
  refine s_gR (r := 2) E fg_X9_20 rfl rfl (jv_lt hJ (by decide)) (jv_r hJ (by decide +kernel)) dX9_chance_1 ?_
  refine s_iload_n E dX9_chance_4 rfl rfl ?_
  refine s_vI (As := [AI x1]) (S := []) E (Z_X0_hasLady_2 l D aC b w x1 hJ.1 ) cv_X9_139 rfl rfl rfl (jv_lt hJ (by decide)) (Nat.le_of_ble_eq_true rfl) (Nat.le_of_ble_eq_true rfl) ⟨(Nat.le_of_ble_eq_true rfl), (Nat.le_of_ble_eq_true rfl)⟩ (Nat.le_of_ble_eq_true rfl) dX9_chance_5 (fun z_3 u_1 hp_2 => ?_)
  obtain ⟨hz_3, hp_2⟩ := hp_2
  subst hp_2
  refine z_if_eq (tgt := 38) (u := z_3.toInt) E dX9_chance_8 (by decide) rfl (fun h_5 => ?_) (fun h_5 => ?_)
  ·
    refine s_ldc2 E k_1095 rfl dX9_chance_38 ?_
    exact r_long E dX9_chance_41 ⟨(by decide), hJ⟩
  ·
    refine s_aload_n E dX9_chance_11 rfl rfl ?_
    refine s_gR (r := 2) E fg_X9_20 rfl rfl (jv_lt hJ (by decide)) (jv_r hJ (by decide +kernel)) dX9_chance_12 ?_
    refine s_iload_n E dX9_chance_15 rfl rfl ?_
    refine s_vI (As := [AI x2]) (S := []) E (Z_X0_hasLady_2 l D aC b w x2 hJ.1 ) cv_X9_139 rfl rfl rfl (jv_lt hJ (by decide)) (Nat.le_of_ble_eq_true rfl) (Nat.le_of_ble_eq_true rfl) ⟨(Nat.le_of_ble_eq_true rfl), (Nat.le_of_ble_eq_true rfl)⟩ (Nat.le_of_ble_eq_true rfl) dX9_chance_16 (fun z_8 u_6 hp_7 => ?_)
    obtain ⟨hz_8, hp_7⟩ := hp_7
    subst hp_7
    refine z_if_eq (tgt := 38) (u := z_8.toInt) E dX9_chance_19 (by decide) rfl (fun h_10 => ?_) (fun h_10 => ?_)
    ·
      refine s_ldc2 E k_1095 rfl dX9_chance_38 ?_
      exact r_long E dX9_chance_41 ⟨(by decide), hJ⟩
    ·
      refine s_aload_n E dX9_chance_22 rfl rfl ?_
      refine s_iload_n E dX9_chance_23 rfl rfl ?_
      refine s_vI (As := [AI x3]) (S := []) E (Z_X9_isChanceDance_0 l D aC b w x3 hJ.1 ) cv_X9_359 rfl rfl rfl (jv_lt hJ (by decide)) (Nat.le_of_ble_eq_true rfl) (Nat.le_of_ble_eq_true rfl) ⟨(Nat.le_of_ble_eq_true rfl), (Nat.le_of_ble_eq_true rfl)⟩ (Nat.le_of_ble_eq_true rfl) dX9_chance_24 (fun z_13 u_11 hp_12 => ?_)
      obtain ⟨hz_13, hp_12⟩ := hp_12
      subst hp_12
      refine z_if_eq (tgt := 38) (u := z_13.toInt) E dX9_chance_27 (by decide) rfl (fun h_15 => ?_) (fun h_15 => ?_)
      ·
        refine s_ldc2 E k_1095 rfl dX9_chance_38 ?_
        exact r_long E dX9_chance_41 ⟨(by decide), hJ⟩
      ·
        refine s_iload E dX9_chance_30 rfl ?_
        refine s_sI (As := [AI x4]) (S := []) E (Z_X9_isPart l D aC b w x4 hJ.1 ) cs_X9_320 rfl rfl (Nat.le_of_ble_eq_true rfl) (Nat.le_of_ble_eq_true rfl) ⟨(Nat.le_of_ble_eq_true rfl), (Nat.le_of_ble_eq_true rfl)⟩ (Nat.le_of_ble_eq_true rfl) dX9_chance_32 (fun z_18 u_16 hp_17 => ?_)
        obtain ⟨hz_18, hp_17⟩ := hp_17
        subst hp_17
        refine z_if_ne (tgt := 42) (u := z_18.toInt) E dX9_chance_35 (by decide) rfl (fun h_20 => ?_) (fun h_20 => ?_)
        ·
          refine s_aload_n E dX9_chance_42 rfl rfl ?_
          refine s_vV (As := []) (S := []) E (Z_X9_passAsTold_0 l D aC b w  hJ.1 ) cv_X9_227 rfl rfl rfl (jv_lt hJ (by decide)) (Nat.le_of_ble_eq_true rfl) (Nat.le_of_ble_eq_true rfl) ⟨(Nat.le_of_ble_eq_true rfl), (Nat.le_of_ble_eq_true rfl)⟩ (Nat.le_of_ble_eq_true rfl) dX9_chance_43 (fun u_21 hp_22 => ?_)
          have hj_23 := jv_trans hJ hp_22
          refine s_aload_n E dX9_chance_46 rfl rfl ?_
          refine s_gR (r := 91) E fg_X9_85 rfl rfl (jv_lt hj_23 (by decide)) (jv_r hj_23 (by decide +kernel)) dX9_chance_47 ?_
          refine s_aload_n E dX9_chance_50 rfl rfl ?_
          refine s_gR (r := 69) E fg_X9_54 rfl rfl (jv_lt hj_23 (by decide)) (jv_r hj_23 (by decide +kernel)) dX9_chance_51 ?_
          refine s_aload_n E dX9_chance_54 rfl rfl ?_
          refine s_gR (r := 81) E fg_X9_64 rfl rfl (jv_lt hj_23 (by decide)) (jv_r hj_23 (by decide +kernel)) dX9_chance_55 ?_
          refine s_iload_n E dX9_chance_58 rfl rfl ?_
          refine s_iload_n E dX9_chance_59 rfl rfl ?_
          refine s_aload_n E dX9_chance_60 rfl rfl ?_
          refine s_gR (r := 2) E fg_X9_20 rfl rfl (jv_lt hj_23 (by decide)) (jv_r hj_23 (by decide +kernel)) dX9_chance_61 ?_
          refine s_gI E fg_X9_364 rfl rfl (jv_lt hj_23 (by decide)) dX9_chance_64 ?_
          refine z_nm (P := fun z => z.toInt = (u_21.2.2.1 2 4).toInt ∧ (-2147483648) ≤ z.toInt ∧ z.toInt ≤ 2147483647) ⟨rfl, z32 _⟩ (fun z_24 hz_24 => ?_)
          refine s_vV (As := [AR 69, AR 81, AI x1, AI x3, AI z_24]) (S := []) E (Z_X4_play_91_r69_r81 l D aC b u_21 x1 x3 z_24 hj_23.1 ) cv_X9_367 rfl rfl rfl (jv_lt hj_23 (by decide)) (Nat.le_of_ble_eq_true rfl) (Nat.le_of_ble_eq_true rfl) ⟨(Nat.le_of_ble_eq_true rfl), (Nat.le_of_ble_eq_true rfl)⟩ (Nat.le_of_ble_eq_true rfl) dX9_chance_67 (fun u_25 hp_26 => ?_)
          have hj_27 := jv_trans hj_23 hp_26
          refine s_aload_n E dX9_chance_70 rfl rfl ?_
          refine s_gR (r := 91) E fg_X9_85 rfl rfl (jv_lt hj_27 (by decide)) (jv_r hj_27 (by decide +kernel)) dX9_chance_71 ?_
          refine s_iload_n E dX9_chance_74 rfl rfl ?_
          refine s_vL (As := [AI x2]) (S := []) E (Z_X4_weightWith_91 l D aC b u_25 x2 hj_27.1 ) cv_X9_371 rfl rfl rfl (jv_lt hj_27 (by decide)) (Nat.le_of_ble_eq_true rfl) (Nat.le_of_ble_eq_true rfl) ⟨(Nat.le_of_ble_eq_true rfl), (Nat.le_of_ble_eq_true rfl)⟩ (Nat.le_of_ble_eq_true rfl) dX9_chance_75 (fun z_30 u_28 hp_29 => ?_)
          obtain ⟨hz_30, hp_29⟩ := hp_29
          subst hp_29
          refine s_aload_n E dX9_chance_78 rfl rfl ?_
          refine s_gR (r := 91) E fg_X9_85 rfl rfl (jv_lt hj_27 (by decide)) (jv_r hj_27 (by decide +kernel)) dX9_chance_79 ?_
          refine s_gL E fg_X9_374 rfl rfl (jv_lt hj_27 (by decide)) dX9_chance_82 ?_
          refine z_anyL (fun z_32 => ?_)
          refine s_iload E dX9_chance_85 rfl ?_
          refine s_sL (As := [AL z_30, AL z_32, AI x4]) (S := []) E (Z_X9_lowestTerms l D aC b u_25 z_30 z_32 x4 hj_27.1 ) cs_X9_329 rfl rfl (Nat.le_of_ble_eq_true rfl) (Nat.le_of_ble_eq_true rfl) ⟨(Nat.le_of_ble_eq_true rfl), (Nat.le_of_ble_eq_true rfl)⟩ (Nat.le_of_ble_eq_true rfl) dX9_chance_87 (fun z_35 u_33 hp_34 => ?_)
          obtain ⟨hz_35, hp_34⟩ := hp_34
          subst hp_34
          exact r_long E dX9_chance_90 ⟨⟨by have hb_ := z64 z_35; omega, by have hb_ := z64 z_35; omega⟩, hj_27⟩
        ·
          refine s_ldc2 E k_1095 rfl dX9_chance_38 ?_
          exact r_long E dX9_chance_41 ⟨(by decide), hJ⟩
set_option maxRecDepth 20000 in
set_option maxHeartbeats 2000000 in
theorem Z_X4_weightOfHolders_91 (l : Launch) (D : va_G) (aC : Nat → ClassId) (b : Nat) (w : XW)  (hI : Iv w)  : CnL l D aC b M_X4_weightOfHolders 1 20 0 0 [AR 91] w (fun r u => ((-9223372036854775808) ≤ r.toInt ∧ r.toInt ≤ 9223372036854775807) ∧ w = u) := by
  refine cn_L (own := RX4) (nm := "weightOfHolders") (L0 := [some (AR 91), none, none, none]) (by decide +kernel) rfl rfl (Nat.le_of_ble_eq_true rfl) rfl ?_
  intro p e s m args below meth c E hin
  have hJ : Jv w w := jv_rfl hI
  refine s_lconst (v := 0) E dX4_weightOfHolders_0 (by decide) ?_
  refine s_lstore_n (L2 := [some (AR 91), some (AL 0), none, none]) E dX4_weightOfHolders_1 rfl (by decide) rfl ?_
  refine s_iconst (v := 0) E dX4_weightOfHolders_2 (by decide) ?_
  refine s_istore_n (L2 := [some (AR 91), some (AL 0), none, some (AI 0)]) E dX4_weightOfHolders_3 rfl (by decide) rfl ?_
  refine z_loop (St := Int64 × Int32) (Pi := fun ⟨q4_1_0, q4_3_0⟩ v4 => (0 ≤ q4_3_0.toInt ∧ q4_3_0.toInt ≤ 64) ∧ w = v4) (Lf := fun ⟨q4_1_0, q4_3_0⟩ => [some (AR 91), some (AL q4_1_0), none, some (AI q4_3_0)]) (fun ⟨q4_1_0, q4_3_0⟩ _ => (65 - q4_3_0.toInt).toNat) ⟨0, 0⟩ ⟨⟨by decide, by decide⟩, rfl⟩ ?_
  rintro ⟨q4_1_0, q4_3_0⟩ v4 ⟨hq4_3, hv_⟩ ih4
  subst hv_
  have hbq4_1 := z64 q4_1_0
  refine s_loc (L2 := [some (AR 91), some (AL q4_1_0), none, some (AI q4_3_0)]) rfl ?_
  refine s_iload_n E dX4_weightOfHolders_4 rfl rfl ?_
  refine s_bipush (v := 64) E dX4_weightOfHolders_5 (by decide) ?_
  refine z_icmp_ge (tgt := 31) (u := q4_3_0.toInt) (v := 64) E dX4_weightOfHolders_7 (by decide) rfl (by decide) (fun h_2 => ?_) (fun h_2 => ?_)
  ·
    refine s_lload_n E dX4_weightOfHolders_31 rfl rfl ?_
    exact r_long E dX4_weightOfHolders_32 ⟨⟨by have hb_ := z64 q4_1_0; omega, by have hb_ := z64 q4_1_0; omega⟩, rfl⟩
  ·
    refine s_lload_n E dX4_weightOfHolders_10 rfl rfl ?_
    refine s_aload_n E dX4_weightOfHolders_11 rfl rfl ?_
    rcases jv_mz hJ with hz_3 | hz_3
    ·
      refine s_gR (r := 92) E fg_X4_9 rfl rfl (jv_lt hJ (by decide)) hz_3.1 dX4_weightOfHolders_12 ?_
      refine s_iload_n E dX4_weightOfHolders_15 rfl rfl ?_
      refine s_lald E rfl (jv_lt hJ (by decide)) (z_in (u := q4_3_0.toInt) rfl (by omega) (by omega)) dX4_weightOfHolders_16 ?_
      refine z_anyL (fun z_4 => ?_)
      refine s_iload_n E dX4_weightOfHolders_17 rfl rfl ?_
      refine s_sI (As := [AI q4_3_0]) (S := [AL z_4, AL q4_1_0]) E (Z_J6_bitCount_0f7a4 l D aC b w q4_3_0 hJ.1 ) cs_X4_44 rfl rfl (Nat.le_of_ble_eq_true rfl) (Nat.le_of_ble_eq_true rfl) ⟨(Nat.le_of_ble_eq_true rfl), (Nat.le_of_ble_eq_true rfl)⟩ (Nat.le_of_ble_eq_true rfl) dX4_weightOfHolders_18 (fun z_7 u_5 hp_6 => ?_)
      obtain ⟨hz_7, hp_6⟩ := hp_6
      subst hp_6
      refine z_i2l (u := z_7.toInt) E dX4_weightOfHolders_21 rfl (fun z_9 hz_9 => ?_)
      refine s_lmul E dX4_weightOfHolders_22 ?_
      refine z_anyL (fun z_10 => ?_)
      refine s_ladd E dX4_weightOfHolders_23 ?_
      refine z_anyL (fun z_11 => ?_)
      refine s_lstore_n (L2 := [some (AR 91), some (AL z_11), none, some (AI q4_3_0)]) E dX4_weightOfHolders_24 rfl (by decide) rfl ?_
      refine z_iinc (u := q4_3_0.toInt) (L2 := fun z_12 => [some (AR 91), some (AL z_11), none, some (AI z_12)]) E dX4_weightOfHolders_25 rfl rfl (by decide) (fun _ => rfl) (by decide) (by omega) (by omega) (fun z_12 hz_12 => ?_)
      refine s_goto (tgt := 4) E dX4_weightOfHolders_28 (by decide) ?_
      exact ih4 ⟨z_11, z_12⟩ w ⟨⟨by have hb_ := z32 z_12; omega, by have hb_ := z32 z_12; omega⟩, rfl⟩ (by first | omega | decide | (dsimp only; omega) | (dsimp only; decide))
    ·
      refine s_gR (r := 93) E fg_X4_9 rfl rfl (jv_lt hJ (by decide)) hz_3.1 dX4_weightOfHolders_12 ?_
      refine s_iload_n E dX4_weightOfHolders_15 rfl rfl ?_
      refine s_lald E rfl (jv_lt hJ (by decide)) (z_in (u := q4_3_0.toInt) rfl (by omega) (by omega)) dX4_weightOfHolders_16 ?_
      refine z_anyL (fun z_13 => ?_)
      refine s_iload_n E dX4_weightOfHolders_17 rfl rfl ?_
      refine s_sI (As := [AI q4_3_0]) (S := [AL z_13, AL q4_1_0]) E (Z_J6_bitCount_0f7a4 l D aC b w q4_3_0 hJ.1 ) cs_X4_44 rfl rfl (Nat.le_of_ble_eq_true rfl) (Nat.le_of_ble_eq_true rfl) ⟨(Nat.le_of_ble_eq_true rfl), (Nat.le_of_ble_eq_true rfl)⟩ (Nat.le_of_ble_eq_true rfl) dX4_weightOfHolders_18 (fun z_16 u_14 hp_15 => ?_)
      obtain ⟨hz_16, hp_15⟩ := hp_15
      subst hp_15
      refine z_i2l (u := z_16.toInt) E dX4_weightOfHolders_21 rfl (fun z_18 hz_18 => ?_)
      refine s_lmul E dX4_weightOfHolders_22 ?_
      refine z_anyL (fun z_19 => ?_)
      refine s_ladd E dX4_weightOfHolders_23 ?_
      refine z_anyL (fun z_20 => ?_)
      refine s_lstore_n (L2 := [some (AR 91), some (AL z_20), none, some (AI q4_3_0)]) E dX4_weightOfHolders_24 rfl (by decide) rfl ?_
      refine z_iinc (u := q4_3_0.toInt) (L2 := fun z_21 => [some (AR 91), some (AL z_20), none, some (AI z_21)]) E dX4_weightOfHolders_25 rfl rfl (by decide) (fun _ => rfl) (by decide) (by omega) (by omega) (fun z_21 hz_21 => ?_)
      refine s_goto (tgt := 4) E dX4_weightOfHolders_28 (by decide) ?_
      exact ih4 ⟨z_20, z_21⟩ w ⟨⟨by have hb_ := z32 z_21; omega, by have hb_ := z32 z_21; omega⟩, rfl⟩ (by first | omega | decide | (dsimp only; omega) | (dsimp only; decide))
set_option maxRecDepth 20000 in
set_option maxHeartbeats 2000000 in
theorem Z_X9_mean_0 (l : Launch) (D : va_G) (aC : Nat → ClassId) (b : Nat) (w : XW) (x1 : Int32) (x2 : Int32) (x3 : Int32) (hI : Iv w)  : CnL l D aC b M_X9_mean 5 120 0 0 [AR 0, AI x1, AI x2, AI x3] w (fun r u => ((-9223372036854775808) ≤ r.toInt ∧ r.toInt ≤ 9223372036854775807) ∧ Jv w u) := by
  refine cn_L (own := RX9) (nm := "mean") (L0 := [some (AR 0), some (AI x1), some (AI x2), some (AI x3)]) (by decide +kernel) rfl rfl (Nat.le_of_ble_eq_true rfl) rfl ?_
  intro p e s m args below meth c E hin
  have hJ : Jv w w := jv_rfl hI
  have hb_x1 := z32 x1
  have hb_x2 := z32 x2
  have hb_x3 := z32 x3
  refine s_aload_n E dX9_mean_0 rfl rfl ?_
  refine s_gR (r := 2) E fg_X9_20 rfl rfl (jv_lt hJ (by decide)) (jv_r hJ (by decide +kernel)) dX9_mean_1 ?_
  refine s_iload_n E dX9_mean_4 rfl rfl ?_
  refine s_vI (As := [AI x1]) (S := []) E (Z_X0_hasLady_2 l D aC b w x1 hJ.1 ) cv_X9_139 rfl rfl rfl (jv_lt hJ (by decide)) (Nat.le_of_ble_eq_true rfl) (Nat.le_of_ble_eq_true rfl) ⟨(Nat.le_of_ble_eq_true rfl), (Nat.le_of_ble_eq_true rfl)⟩ (Nat.le_of_ble_eq_true rfl) dX9_mean_5 (fun z_3 u_1 hp_2 => ?_)
  obtain ⟨hz_3, hp_2⟩ := hp_2
  subst hp_2
  refine z_if_eq (tgt := 26) (u := z_3.toInt) E dX9_mean_8 (by decide) rfl (fun h_5 => ?_) (fun h_5 => ?_)
  ·
    refine s_ldc2 E k_1095 rfl dX9_mean_26 ?_
    exact r_long E dX9_mean_29 ⟨(by decide), hJ⟩
  ·
    refine s_aload_n E dX9_mean_11 rfl rfl ?_
    refine s_iload_n E dX9_mean_12 rfl rfl ?_
    refine s_vI (As := [AI x2]) (S := []) E (Z_X9_isChanceDance_0 l D aC b w x2 hJ.1 ) cv_X9_359 rfl rfl rfl (jv_lt hJ (by decide)) (Nat.le_of_ble_eq_true rfl) (Nat.le_of_ble_eq_true rfl) ⟨(Nat.le_of_ble_eq_true rfl), (Nat.le_of_ble_eq_true rfl)⟩ (Nat.le_of_ble_eq_true rfl) dX9_mean_13 (fun z_8 u_6 hp_7 => ?_)
    obtain ⟨hz_8, hp_7⟩ := hp_7
    subst hp_7
    refine z_if_eq (tgt := 26) (u := z_8.toInt) E dX9_mean_16 (by decide) rfl (fun h_10 => ?_) (fun h_10 => ?_)
    ·
      refine s_ldc2 E k_1095 rfl dX9_mean_26 ?_
      exact r_long E dX9_mean_29 ⟨(by decide), hJ⟩
    ·
      refine s_iload_n E dX9_mean_19 rfl rfl ?_
      refine s_sI (As := [AI x3]) (S := []) E (Z_X9_isPart l D aC b w x3 hJ.1 ) cs_X9_320 rfl rfl (Nat.le_of_ble_eq_true rfl) (Nat.le_of_ble_eq_true rfl) ⟨(Nat.le_of_ble_eq_true rfl), (Nat.le_of_ble_eq_true rfl)⟩ (Nat.le_of_ble_eq_true rfl) dX9_mean_20 (fun z_13 u_11 hp_12 => ?_)
      obtain ⟨hz_13, hp_12⟩ := hp_12
      subst hp_12
      refine z_if_ne (tgt := 30) (u := z_13.toInt) E dX9_mean_23 (by decide) rfl (fun h_15 => ?_) (fun h_15 => ?_)
      ·
        refine s_aload_n E dX9_mean_30 rfl rfl ?_
        refine s_vV (As := []) (S := []) E (Z_X9_passAsTold_0 l D aC b w  hJ.1 ) cv_X9_227 rfl rfl rfl (jv_lt hJ (by decide)) (Nat.le_of_ble_eq_true rfl) (Nat.le_of_ble_eq_true rfl) ⟨(Nat.le_of_ble_eq_true rfl), (Nat.le_of_ble_eq_true rfl)⟩ (Nat.le_of_ble_eq_true rfl) dX9_mean_31 (fun u_16 hp_17 => ?_)
        have hj_18 := jv_trans hJ hp_17
        refine s_aload_n E dX9_mean_34 rfl rfl ?_
        refine s_gR (r := 91) E fg_X9_85 rfl rfl (jv_lt hj_18 (by decide)) (jv_r hj_18 (by decide +kernel)) dX9_mean_35 ?_
        refine s_aload_n E dX9_mean_38 rfl rfl ?_
        refine s_gR (r := 69) E fg_X9_54 rfl rfl (jv_lt hj_18 (by decide)) (jv_r hj_18 (by decide +kernel)) dX9_mean_39 ?_
        refine s_aload_n E dX9_mean_42 rfl rfl ?_
        refine s_gR (r := 81) E fg_X9_64 rfl rfl (jv_lt hj_18 (by decide)) (jv_r hj_18 (by decide +kernel)) dX9_mean_43 ?_
        refine s_iload_n E dX9_mean_46 rfl rfl ?_
        refine s_iload_n E dX9_mean_47 rfl rfl ?_
        refine s_aload_n E dX9_mean_48 rfl rfl ?_
        refine s_gR (r := 2) E fg_X9_20 rfl rfl (jv_lt hj_18 (by decide)) (jv_r hj_18 (by decide +kernel)) dX9_mean_49 ?_
        refine s_gI E fg_X9_364 rfl rfl (jv_lt hj_18 (by decide)) dX9_mean_52 ?_
        refine z_nm (P := fun z => z.toInt = (u_16.2.2.1 2 4).toInt ∧ (-2147483648) ≤ z.toInt ∧ z.toInt ≤ 2147483647) ⟨rfl, z32 _⟩ (fun z_19 hz_19 => ?_)
        refine s_vV (As := [AR 69, AR 81, AI x1, AI x2, AI z_19]) (S := []) E (Z_X4_play_91_r69_r81 l D aC b u_16 x1 x2 z_19 hj_18.1 ) cv_X9_367 rfl rfl rfl (jv_lt hj_18 (by decide)) (Nat.le_of_ble_eq_true rfl) (Nat.le_of_ble_eq_true rfl) ⟨(Nat.le_of_ble_eq_true rfl), (Nat.le_of_ble_eq_true rfl)⟩ (Nat.le_of_ble_eq_true rfl) dX9_mean_55 (fun u_20 hp_21 => ?_)
        have hj_22 := jv_trans hj_18 hp_21
        refine s_aload_n E dX9_mean_58 rfl rfl ?_
        refine s_gR (r := 91) E fg_X9_85 rfl rfl (jv_lt hj_22 (by decide)) (jv_r hj_22 (by decide +kernel)) dX9_mean_59 ?_
        refine s_vL (As := []) (S := []) E (Z_X4_weightOfHolders_91 l D aC b u_20  hj_22.1 ) cv_X9_377 rfl rfl rfl (jv_lt hj_22 (by decide)) (Nat.le_of_ble_eq_true rfl) (Nat.le_of_ble_eq_true rfl) ⟨(Nat.le_of_ble_eq_true rfl), (Nat.le_of_ble_eq_true rfl)⟩ (Nat.le_of_ble_eq_true rfl) dX9_mean_62 (fun z_25 u_23 hp_24 => ?_)
        obtain ⟨hz_25, hp_24⟩ := hp_24
        subst hp_24
        refine s_aload_n E dX9_mean_65 rfl rfl ?_
        refine s_gR (r := 91) E fg_X9_85 rfl rfl (jv_lt hj_22 (by decide)) (jv_r hj_22 (by decide +kernel)) dX9_mean_66 ?_
        refine s_gL E fg_X9_374 rfl rfl (jv_lt hj_22 (by decide)) dX9_mean_69 ?_
        refine z_anyL (fun z_27 => ?_)
        refine s_iload_n E dX9_mean_72 rfl rfl ?_
        refine s_sL (As := [AL z_25, AL z_27, AI x3]) (S := []) E (Z_X9_lowestTerms l D aC b u_20 z_25 z_27 x3 hj_22.1 ) cs_X9_329 rfl rfl (Nat.le_of_ble_eq_true rfl) (Nat.le_of_ble_eq_true rfl) ⟨(Nat.le_of_ble_eq_true rfl), (Nat.le_of_ble_eq_true rfl)⟩ (Nat.le_of_ble_eq_true rfl) dX9_mean_73 (fun z_30 u_28 hp_29 => ?_)
        obtain ⟨hz_30, hp_29⟩ := hp_29
        subst hp_29
        exact r_long E dX9_mean_76 ⟨⟨by have hb_ := z64 z_30; omega, by have hb_ := z64 z_30; omega⟩, hj_22⟩
      ·
        refine s_ldc2 E k_1095 rfl dX9_mean_26 ?_
        exact r_long E dX9_mean_29 ⟨(by decide), hJ⟩
set_option maxRecDepth 20000 in
set_option maxHeartbeats 2000000 in
theorem Z_X8_isFull_11 (l : Launch) (D : va_G) (aC : Nat → ClassId) (b : Nat) (w : XW)  (hI : Iv w)  : CnI l D aC b M_X8_isFull 0 0 0 0 [AR 11] w (fun r u => (0 ≤ r.toInt ∧ r.toInt ≤ 1 ∧ (¬ r.toInt = 0 ∨ (0 ≤ (w.2.2.1 11 3).toInt ∧ (w.2.2.1 11 3).toInt ≤ 29)) ∧ (r.toInt = 0 ∨ (30 ≤ (w.2.2.1 11 3).toInt ∧ (w.2.2.1 11 3).toInt ≤ 30))) ∧ w = u) := by
  refine cn_I (own := RX8) (nm := "isFull") (L0 := [some (AR 11)]) (by decide +kernel) rfl rfl (Nat.le_of_ble_eq_true rfl) rfl ?_
  intro p e s m args below meth c E hin
  have hJ : Jv w w := jv_rfl hI
  refine s_aload_n E dX8_isFull_0 rfl rfl ?_
  refine s_gI E fg_X8_28 rfl rfl (jv_lt hJ (by decide)) dX8_isFull_1 ?_
  refine z_nm (P := fun z => z.toInt = (w.2.2.1 11 3).toInt ∧ 0 ≤ z.toInt ∧ z.toInt ≤ 30) ⟨rfl, (rg_11_3 hJ)⟩ (fun z_1 hz_1 => ?_)
  refine s_aload_n E dX8_isFull_4 rfl rfl ?_
  refine s_gI E fg_X8_15 rfl rfl (jv_lt hJ (by decide)) dX8_isFull_5 ?_
  refine s_top (y := 30) (z_pt (by decide) (rg_11_1 hJ)) ?_
  refine z_icmp_lt (tgt := 15) (u := z_1.toInt) (v := 30) E dX8_isFull_8 (by decide) rfl (by decide) (fun h_2 => ?_) (fun h_2 => ?_)
  ·
    refine s_iconst (v := 0) E dX8_isFull_15 (by decide) ?_
    exact r_bool E dX8_isFull_16 (Or.inl rfl) ⟨⟨by decide, by decide, by first | (left; decide) | (right; decide) | (right; have hb_ := z32 (w.2.2.1 11 3); omega), by first | (left; decide) | (right; decide) | (right; have hb_ := z32 (w.2.2.1 11 3); omega)⟩, rfl⟩
  ·
    refine s_iconst (v := 1) E dX8_isFull_11 (by decide) ?_
    refine s_goto (tgt := 16) E dX8_isFull_12 (by decide) ?_
    exact r_bool E dX8_isFull_16 (Or.inr rfl) ⟨⟨by decide, by decide, by first | (left; decide) | (right; decide) | (right; have hb_ := z32 (w.2.2.1 11 3); omega), by first | (left; decide) | (right; decide) | (right; have hb_ := z32 (w.2.2.1 11 3); omega)⟩, rfl⟩
set_option maxRecDepth 20000 in
set_option maxHeartbeats 2000000 in
theorem Z_X8_put_11 (l : Launch) (D : va_G) (aC : Nat → ClassId) (b : Nat) (w : XW) (x1 : Int32) (x2 : Int32) (x3 : Int32) (hI : Iv w)  : CnV l D aC b M_X8_put 1 22 0 0 [AR 11, AI x1, AI x2, AI x3] w (fun u => Jv w u) := by
  refine cn_V (own := RX8) (nm := "put") (L0 := [some (AR 11), some (AI x1), some (AI x2), some (AI x3)]) (by decide +kernel) rfl rfl (Nat.le_of_ble_eq_true rfl) rfl ?_
  intro p e s m args below meth c E hin
  have hJ : Jv w w := jv_rfl hI
  have hb_x1 := z32 x1
  have hb_x2 := z32 x2
  have hb_x3 := z32 x3
  refine s_aload_n E dX8_put_0 rfl rfl ?_
  refine s_iload_n E dX8_put_1 rfl rfl ?_
  refine s_iload_n E dX8_put_2 rfl rfl ?_
  refine s_vI (As := [AI x1, AI x2]) (S := []) E (Z_X8_hasCell_11 l D aC b w x1 x2 hJ.1 ) cv_X8_31 rfl rfl rfl (jv_lt hJ (by decide)) (Nat.le_of_ble_eq_true rfl) (Nat.le_of_ble_eq_true rfl) ⟨(Nat.le_of_ble_eq_true rfl), (Nat.le_of_ble_eq_true rfl)⟩ (Nat.le_of_ble_eq_true rfl) dX8_put_3 (fun z_3 u_1 hp_2 => ?_)
  obtain ⟨hz_3, hp_2⟩ := hp_2
  subst hp_2
  refine z_if_eq (tgt := 23) (u := z_3.toInt) E dX8_put_6 (by decide) rfl (fun h_5 => ?_) (fun h_5 => ?_)
  ·
    exact r_void E dX8_put_23 hJ
  ·
    refine s_aload_n E dX8_put_9 rfl rfl ?_
    refine s_gR (r := 12) E fg_X8_24 rfl rfl (jv_lt hJ (by decide)) (jv_r hJ (by decide +kernel)) dX8_put_10 ?_
    refine s_iload_n E dX8_put_13 rfl rfl ?_
    refine s_aload_n E dX8_put_14 rfl rfl ?_
    refine s_gI E fg_X8_21 rfl rfl (jv_lt hJ (by decide)) dX8_put_15 ?_
    refine s_top (y := 4) (z_pt (by decide) (rg_11_2 hJ)) ?_
    refine z_imul (u := x1.toInt) (v := 4) E dX8_put_18 rfl (by decide) (by omega) (by omega) (fun z_6 hz_6 => ?_)
    refine s_iload_n E dX8_put_19 rfl rfl ?_
    refine z_iadd (u := z_6.toInt) (v := x2.toInt) E dX8_put_20 rfl rfl (by omega) (by omega) (fun z_7 hz_7 => ?_)
    refine s_iload_n E dX8_put_21 rfl rfl ?_
    refine s_iast E rfl (jv_lt hJ (by decide)) (z_in (u := z_7.toInt) rfl (by omega) (by omega)) dX8_put_22 ?_
    refine s_gen (P := fun v => Jv w v ∧ (v.2.2.1 11 3).toInt = (w.2.2.1 11 3).toInt) ⟨(jv_a_12 hJ (by have hb_ := z32 x3; omega) (by have hb_ := z32 x3; omega)), rfl⟩ (fun v_8 hj_9 => ?_)
    obtain ⟨hj_9, hk_10k0⟩ := hj_9
    exact r_void E dX8_put_23 hj_9
