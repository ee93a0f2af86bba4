set_option maxRecDepth 20000 in
set_option maxHeartbeats 2000000 in
theorem Z_X9_best_0 (l : Launch) (D : va_G) (aC : Nat → ClassId) (b : Nat) (w : XW)  (hI : Iv w)  : CnI l D aC b M_X9_best 5 116 0 0 [AR 0] w (fun r u => ((-2) ≤ r.toInt ∧ r.toInt ≤ 64 ∧ (¬ r.toInt = 0 ∨ (1 ≤ (w.2.2.1 2 0).toInt ∧ (w.2.2.1 2 0).toInt ≤ 2147483647))) ∧ Jv w u) := by
  refine cn_I (own := RX9) (nm := "best") (L0 := [some (AR 0), none, none, none, none]) (by decide +kernel) rfl rfl (Nat.le_of_ble_eq_true rfl) rfl ?_
  intro p e s m args below meth c E hin
  have hJ : Jv w w := jv_rfl hI
  refine s_aload_n E dX9_best_0 rfl rfl ?_
  refine s_gR (r := 2) E fg_X9_20 rfl rfl (jv_lt hJ (by decide)) (jv_r hJ (by decide +kernel)) dX9_best_1 ?_
  refine s_vI (As := []) (S := []) E (Z_X0_isTold_2 l D aC b w  hJ.1 ) cv_X9_184 rfl rfl rfl (jv_lt hJ (by decide)) (Nat.le_of_ble_eq_true rfl) (Nat.le_of_ble_eq_true rfl) ⟨(Nat.le_of_ble_eq_true rfl), (Nat.le_of_ble_eq_true rfl)⟩ (Nat.le_of_ble_eq_true rfl) dX9_best_4 (fun z_3 u_1 hp_2 => ?_)
  obtain ⟨hz_3, hp_2⟩ := hp_2
  subst hp_2
  refine z_if_ne (tgt := 13) (u := z_3.toInt) E dX9_best_7 (by decide) rfl (fun h_5 => ?_) (fun h_5 => ?_)
  ·
    refine s_aload_n E dX9_best_13 rfl rfl ?_
    refine s_vV (As := []) (S := []) E (Z_X9_passAsTold_0 l D aC b w  hJ.1 ) cv_X9_227 rfl rfl rfl (jv_lt hJ (by decide)) (Nat.le_of_ble_eq_true rfl) (Nat.le_of_ble_eq_true rfl) ⟨(Nat.le_of_ble_eq_true rfl), (Nat.le_of_ble_eq_true rfl)⟩ (Nat.le_of_ble_eq_true rfl) dX9_best_14 (fun u_6 hp_7 => ?_)
    have hj_8 := jv_trans hJ hp_7
    refine s_iconst (v := (-1)) E dX9_best_17 (by decide) ?_
    refine s_istore_n (L2 := [some (AR 0), some (AI (-1)), none, none, none]) E dX9_best_18 rfl (by decide) rfl ?_
    refine s_iconst (v := 0) E dX9_best_19 (by decide) ?_
    refine s_istore_n (L2 := [some (AR 0), some (AI (-1)), some (AI 0), none, none]) E dX9_best_20 rfl (by decide) rfl ?_
    refine s_iconst (v := 0) E dX9_best_21 (by decide) ?_
    refine s_istore_n (L2 := [some (AR 0), some (AI (-1)), some (AI 0), some (AI 0), none]) E dX9_best_22 rfl (by decide) rfl ?_
    refine z_loop (St := Int32 × Int32 × Int32) (Pi := fun ⟨q23_1_8, q23_2_8, q23_3_8⟩ v23 => ((-1) ≤ q23_1_8.toInt ∧ q23_1_8.toInt ≤ 64) ∧ (0 ≤ q23_2_8.toInt ∧ q23_2_8.toInt ≤ 63) ∧ (0 ≤ q23_3_8.toInt ∧ q23_3_8.toInt ≤ 6) ∧ Jv w v23) (Lf := fun ⟨q23_1_8, q23_2_8, q23_3_8⟩ => [some (AR 0), some (AI q23_1_8), some (AI q23_2_8), some (AI q23_3_8), none]) (fun ⟨q23_1_8, q23_2_8, q23_3_8⟩ _ => (7 - q23_3_8.toInt).toNat) ⟨(-1), 0, 0⟩ ⟨⟨by decide, by decide⟩, ⟨by decide, by decide⟩, ⟨by decide, by decide⟩, hj_8⟩ ?_
    rintro ⟨q23_1_8, q23_2_8, q23_3_8⟩ v23 ⟨hq23_1, hq23_2, hq23_3, hj_9⟩ ih23
    refine s_loc (L2 := [some (AR 0), some (AI q23_1_8), some (AI q23_2_8), some (AI q23_3_8), none]) rfl ?_
    refine s_iload_n E dX9_best_23 rfl rfl ?_
    refine s_aload_n E dX9_best_24 rfl rfl ?_
    refine s_gR (r := 2) E fg_X9_20 rfl rfl (jv_lt hj_9 (by decide)) (jv_r hj_9 (by decide +kernel)) dX9_best_25 ?_
    refine s_gR (r := 5) E fg_X9_133 rfl rfl (jv_lt hj_9 (by decide)) (jv_r hj_9 (by decide +kernel)) dX9_best_28 ?_
    refine s_gI E fg_X9_200 rfl rfl (jv_lt hj_9 (by decide)) dX9_best_31 ?_
    refine z_nm (P := fun z => z.toInt = (v23.2.2.1 5 3).toInt ∧ 0 ≤ z.toInt ∧ z.toInt ≤ 6) ⟨rfl, (rg_5_3 hj_9)⟩ (fun z_10 hz_10 => ?_)
    refine z_icmp_ge (tgt := 68) (u := q23_3_8.toInt) (v := z_10.toInt) E dX9_best_34 (by decide) rfl rfl (fun h_11 => ?_) (fun h_11 => ?_)
    ·
      refine s_iload_n E dX9_best_68 rfl rfl ?_
      exact r_int E dX9_best_69 ⟨⟨by have hb_ := z32 q23_1_8; omega, by have hb_ := z32 q23_1_8; omega, by have hb_ := z32 q23_1_8; have hc_ := z32 (w.2.2.1 2 0); omega⟩, hj_9⟩
    ·
      refine s_aload_n E dX9_best_37 rfl rfl ?_
      refine s_aload_n E dX9_best_38 rfl rfl ?_
      refine s_gR (r := 69) E fg_X9_54 rfl rfl (jv_lt hj_9 (by decide)) (jv_r hj_9 (by decide +kernel)) dX9_best_39 ?_
      refine s_iload_n E dX9_best_42 rfl rfl ?_
      refine s_vI (As := [AR 69, AI q23_3_8]) (S := []) E (Z_X9_inTheEnd_0_r69 l D aC b v23 q23_3_8 hj_9.1 ) cv_X9_230 rfl rfl rfl (jv_lt hj_9 (by decide)) (Nat.le_of_ble_eq_true rfl) (Nat.le_of_ble_eq_true rfl) ⟨(Nat.le_of_ble_eq_true rfl), (Nat.le_of_ble_eq_true rfl)⟩ (Nat.le_of_ble_eq_true rfl) dX9_best_43 (fun z_14 u_12 hp_13 => ?_)
      obtain ⟨hz_14, hp_13⟩ := hp_13
      have hj_15 := jv_trans hj_9 hp_13
      refine s_sI (As := [AI z_14]) (S := []) E (Z_J6_bitCount_0f7a4 l D aC b u_12 z_14 hj_15.1 ) cs_X9_203 rfl rfl (Nat.le_of_ble_eq_true rfl) (Nat.le_of_ble_eq_true rfl) ⟨(Nat.le_of_ble_eq_true rfl), (Nat.le_of_ble_eq_true rfl)⟩ (Nat.le_of_ble_eq_true rfl) dX9_best_46 (fun z_18 u_16 hp_17 => ?_)
      obtain ⟨hz_18, hp_17⟩ := hp_17
      subst hp_17
      refine s_istore (L2 := [some (AR 0), some (AI q23_1_8), some (AI q23_2_8), some (AI q23_3_8), some (AI z_18)]) E dX9_best_49 (by decide) rfl ?_
      refine s_iload E dX9_best_51 rfl ?_
      refine s_iload_n E dX9_best_53 rfl rfl ?_
      refine z_icmp_le (tgt := 62) (u := z_18.toInt) (v := q23_2_8.toInt) E dX9_best_54 (by decide) rfl rfl (fun h_20 => ?_) (fun h_20 => ?_)
      ·
        refine z_iinc (u := q23_3_8.toInt) (L2 := fun z_21 => [some (AR 0), some (AI q23_1_8), some (AI q23_2_8), some (AI z_21), some (AI z_18)]) E dX9_best_62 rfl rfl (by decide) (fun _ => rfl) (by decide) (by omega) (by omega) (fun z_21 hz_21 => ?_)
        refine s_goto (tgt := 23) E dX9_best_65 (by decide) ?_
        refine s_drop (i := 4) (L2 := [some (AR 0), some (AI q23_1_8), some (AI q23_2_8), some (AI z_21), none]) rfl ?_
        exact ih23 ⟨q23_1_8, q23_2_8, z_21⟩ u_12 ⟨⟨by have hb_ := z32 q23_1_8; omega, by have hb_ := z32 q23_1_8; omega⟩, ⟨by have hb_ := z32 q23_2_8; omega, by have hb_ := z32 q23_2_8; omega⟩, ⟨by have hb_ := z32 z_21; omega, by have hb_ := z32 z_21; omega⟩, hj_15⟩ (by first | omega | (dsimp only; omega))
      ·
        refine s_iload E dX9_best_57 rfl ?_
        refine s_istore_n (L2 := [some (AR 0), some (AI q23_1_8), some (AI z_18), some (AI q23_3_8), some (AI z_18)]) E dX9_best_59 rfl (by decide) rfl ?_
        refine s_iload_n E dX9_best_60 rfl rfl ?_
        refine s_istore_n (L2 := [some (AR 0), some (AI q23_3_8), some (AI z_18), some (AI q23_3_8), some (AI z_18)]) E dX9_best_61 rfl (by decide) rfl ?_
        refine z_iinc (u := q23_3_8.toInt) (L2 := fun z_22 => [some (AR 0), some (AI q23_3_8), some (AI z_18), some (AI z_22), some (AI z_18)]) E dX9_best_62 rfl rfl (by decide) (fun _ => rfl) (by decide) (by omega) (by omega) (fun z_22 hz_22 => ?_)
        refine s_goto (tgt := 23) E dX9_best_65 (by decide) ?_
        refine s_drop (i := 4) (L2 := [some (AR 0), some (AI q23_3_8), some (AI z_18), some (AI z_22), none]) rfl ?_
        exact ih23 ⟨q23_3_8, z_18, z_22⟩ u_12 ⟨⟨by have hb_ := z32 q23_3_8; omega, by have hb_ := z32 q23_3_8; omega⟩, ⟨by have hb_ := z32 z_18; omega, by have hb_ := z32 z_18; omega⟩, ⟨by have hb_ := z32 z_22; omega, by have hb_ := z32 z_22; omega⟩, hj_15⟩ (by first | omega | (dsimp only; omega))
  ·
    refine s_bipush (v := (-2)) E dX9_best_10 (by decide) ?_
    exact r_int E dX9_best_12 ⟨⟨by decide, by decide, by first | (left; decide) | (right; have hb_ := z32 (w.2.2.1 2 0); omega)⟩, hJ⟩
set_option maxRecDepth 20000 in
set_option maxHeartbeats 2000000 in
theorem Z_X9_lasts_0 (l : Launch) (D : va_G) (aC : Nat → ClassId) (b : Nat) (w : XW) (x1 : Int32) (hI : Iv w)  : CnI l D aC b M_X9_lasts 5 113 0 0 [AR 0, AI x1] w (fun r u => ((-2) ≤ r.toInt ∧ r.toInt ≤ 14 ∧ (¬ r.toInt = 0 ∨ (0 ≤ x1.toInt ∧ x1.toInt ≤ 5)) ∧ (¬ r.toInt = 0 ∨ (1 ≤ (w.2.2.1 5 3).toInt ∧ (w.2.2.1 5 3).toInt ≤ 6))) ∧ Jv w u) := by
  refine cn_I (own := RX9) (nm := "lasts") (L0 := [some (AR 0), some (AI x1), none, none]) (by decide +kernel) rfl rfl (Nat.le_of_ble_eq_true rfl) rfl ?_
  intro p e s m args below meth c E hin
  have hJ : Jv w w := jv_rfl hI
  refine s_aload_n E dX9_lasts_0 rfl rfl ?_
  refine s_gR (r := 2) E fg_X9_20 rfl rfl (jv_lt hJ (by decide)) (jv_r hJ (by decide +kernel)) dX9_lasts_1 ?_
  refine s_iload_n E dX9_lasts_4 rfl rfl ?_
  refine s_vI (As := [AI x1]) (S := []) E (Z_X0_hasLady_2 l D aC b w x1 hJ.1 ) cv_X9_139 rfl rfl rfl (jv_lt hJ (by decide)) (Nat.le_of_ble_eq_true rfl) (Nat.le_of_ble_eq_true rfl) ⟨(Nat.le_of_ble_eq_true rfl), (Nat.le_of_ble_eq_true rfl)⟩ (Nat.le_of_ble_eq_true rfl) dX9_lasts_5 (fun z_3 u_1 hp_2 => ?_)
  obtain ⟨hz_3, hp_2⟩ := hp_2
  subst hp_2
  refine z_if_ne (tgt := 14) (u := z_3.toInt) E dX9_lasts_8 (by decide) rfl (fun h_5 => ?_) (fun h_5 => ?_)
  ·
    refine s_aload_n E dX9_lasts_14 rfl rfl ?_
    refine s_vV (As := []) (S := []) E (Z_X9_passAsTold_0 l D aC b w  hJ.1 ) cv_X9_227 rfl rfl rfl (jv_lt hJ (by decide)) (Nat.le_of_ble_eq_true rfl) (Nat.le_of_ble_eq_true rfl) ⟨(Nat.le_of_ble_eq_true rfl), (Nat.le_of_ble_eq_true rfl)⟩ (Nat.le_of_ble_eq_true rfl) dX9_lasts_15 (fun u_6 hp_7 => ?_)
    have hj_8 := jv_trans hJ hp_7
    refine s_aload_n E dX9_lasts_18 rfl rfl ?_
    refine s_gR (r := 81) E fg_X9_64 rfl rfl (jv_lt hj_8 (by decide)) (jv_r hj_8 (by decide +kernel)) dX9_lasts_19 ?_
    refine s_aload_n E dX9_lasts_22 rfl rfl ?_
    refine s_gR (r := 69) E fg_X9_54 rfl rfl (jv_lt hj_8 (by decide)) (jv_r hj_8 (by decide +kernel)) dX9_lasts_23 ?_
    refine s_iload_n E dX9_lasts_26 rfl rfl ?_
    refine s_iconst (v := 0) E dX9_lasts_27 (by decide) ?_
    refine s_vV (As := [AR 69, AI x1, AI 0]) (S := []) E (Z_X5_follow_81_r69 l D aC b u_6 x1 0 hj_8.1 ) cv_X9_220 rfl rfl rfl (jv_lt hj_8 (by decide)) (Nat.le_of_ble_eq_true rfl) (Nat.le_of_ble_eq_true rfl) ⟨(Nat.le_of_ble_eq_true rfl), (Nat.le_of_ble_eq_true rfl)⟩ (Nat.le_of_ble_eq_true rfl) dX9_lasts_28 (fun u_9 hp_10 => ?_)
    have hj_11 := jv_trans hj_8 hp_10
    refine s_iconst (v := (-1)) E dX9_lasts_31 (by decide) ?_
    refine s_istore_n (L2 := [some (AR 0), some (AI x1), some (AI (-1)), none]) E dX9_lasts_32 rfl (by decide) rfl ?_
    refine s_iconst (v := 0) E dX9_lasts_33 (by decide) ?_
    refine s_istore_n (L2 := [some (AR 0), some (AI x1), some (AI (-1)), some (AI 0)]) E dX9_lasts_34 rfl (by decide) rfl ?_
    refine z_loop (St := Int32 × Int32) (Pi := fun ⟨q35_2_11, q35_3_11⟩ v35 => ((-1) ≤ q35_2_11.toInt ∧ q35_2_11.toInt ≤ 14) ∧ (0 ≤ q35_3_11.toInt ∧ q35_3_11.toInt ≤ 6) ∧ Jv w v35) (Lf := fun ⟨q35_2_11, q35_3_11⟩ => [some (AR 0), some (AI x1), some (AI q35_2_11), some (AI q35_3_11)]) (fun ⟨q35_2_11, q35_3_11⟩ _ => (7 - q35_3_11.toInt).toNat) ⟨(-1), 0⟩ ⟨⟨by decide, by decide⟩, ⟨by decide, by decide⟩, hj_11⟩ ?_
    rintro ⟨q35_2_11, q35_3_11⟩ v35 ⟨hq35_2, hq35_3, hj_12⟩ ih35
    refine s_loc (L2 := [some (AR 0), some (AI x1), some (AI q35_2_11), some (AI q35_3_11)]) rfl ?_
    refine s_iload_n E dX9_lasts_35 rfl rfl ?_
    refine s_aload_n E dX9_lasts_36 rfl rfl ?_
    refine s_gR (r := 2) E fg_X9_20 rfl rfl (jv_lt hj_12 (by decide)) (jv_r hj_12 (by decide +kernel)) dX9_lasts_37 ?_
    refine s_gR (r := 5) E fg_X9_133 rfl rfl (jv_lt hj_12 (by decide)) (jv_r hj_12 (by decide +kernel)) dX9_lasts_40 ?_
    refine s_gI E fg_X9_200 rfl rfl (jv_lt hj_12 (by decide)) dX9_lasts_43 ?_
    refine z_nm (P := fun z => z.toInt = (v35.2.2.1 5 3).toInt ∧ 0 ≤ z.toInt ∧ z.toInt ≤ 6) ⟨rfl, (rg_5_3 hj_12)⟩ (fun z_13 hz_13 => ?_)
    refine z_icmp_ge (tgt := 73) (u := q35_3_11.toInt) (v := z_13.toInt) E dX9_lasts_46 (by decide) rfl rfl (fun h_14 => ?_) (fun h_14 => ?_)
    ·
      refine s_iload_n E dX9_lasts_73 rfl rfl ?_
      exact r_int E dX9_lasts_74 ⟨⟨by have hb_ := z32 q35_2_11; omega, by have hb_ := z32 q35_2_11; omega, by have hb_ := z32 q35_2_11; have hc_ := z32 x1; omega, by have hb_ := z32 q35_2_11; have hc_ := z32 (w.2.2.1 5 3); omega⟩, hj_12⟩
    ·
      refine s_iload_n E dX9_lasts_49 rfl rfl ?_
      refine s_iload_n E dX9_lasts_50 rfl rfl ?_
      refine z_icmp_eq (tgt := 67) (u := q35_3_11.toInt) (v := x1.toInt) E dX9_lasts_51 (by decide) rfl rfl (fun h_15 => ?_) (fun h_15 => ?_)
      ·
        refine z_iinc (u := q35_3_11.toInt) (L2 := fun z_16 => [some (AR 0), some (AI x1), some (AI q35_2_11), some (AI z_16)]) E dX9_lasts_67 rfl rfl (by decide) (fun _ => rfl) (by decide) (by omega) (by omega) (fun z_16 hz_16 => ?_)
        refine s_goto (tgt := 35) E dX9_lasts_70 (by decide) ?_
        exact ih35 ⟨q35_2_11, z_16⟩ v35 ⟨⟨by have hb_ := z32 q35_2_11; omega, by have hb_ := z32 q35_2_11; omega⟩, ⟨by have hb_ := z32 z_16; omega, by have hb_ := z32 z_16; omega⟩, hj_12⟩ (by first | omega | (dsimp only; omega))
      ·
        refine s_iload_n E dX9_lasts_54 rfl rfl ?_
        refine s_aload_n E dX9_lasts_55 rfl rfl ?_
        refine s_gR (r := 81) E fg_X9_64 rfl rfl (jv_lt hj_12 (by decide)) (jv_r hj_12 (by decide +kernel)) dX9_lasts_56 ?_
        refine s_iload_n E dX9_lasts_59 rfl rfl ?_
        refine s_vI (As := [AI q35_3_11]) (S := [AI q35_2_11]) E (Z_X5_gotAt_81 l D aC b v35 q35_3_11 hj_12.1 ) cv_X9_237 rfl rfl rfl (jv_lt hj_12 (by decide)) (Nat.le_of_ble_eq_true rfl) (Nat.le_of_ble_eq_true rfl) ⟨(Nat.le_of_ble_eq_true rfl), (Nat.le_of_ble_eq_true rfl)⟩ (Nat.le_of_ble_eq_true rfl) dX9_lasts_60 (fun z_19 u_17 hp_18 => ?_)
        obtain ⟨hz_19, hp_18⟩ := hp_18
        have hj_20 := jv_trans hj_12 hp_18
        refine z_max (u := q35_2_11.toInt) (v := z_19.toInt) E ⟨k_735, k_41, k_4, k_42⟩ (Nat.le_of_ble_eq_true rfl) (Nat.le_of_ble_eq_true rfl) (Nat.le_of_ble_eq_true rfl) (Nat.le_of_ble_eq_true rfl) dX9_lasts_63 rfl rfl (fun z_21 hz_21 => ?_)
        refine s_istore_n (L2 := [some (AR 0), some (AI x1), some (AI z_21), some (AI q35_3_11)]) E dX9_lasts_66 rfl (by decide) rfl ?_
        refine z_iinc (u := q35_3_11.toInt) (L2 := fun z_22 => [some (AR 0), some (AI x1), some (AI z_21), some (AI z_22)]) E dX9_lasts_67 rfl rfl (by decide) (fun _ => rfl) (by decide) (by omega) (by omega) (fun z_22 hz_22 => ?_)
        refine s_goto (tgt := 35) E dX9_lasts_70 (by decide) ?_
        exact ih35 ⟨z_21, z_22⟩ u_17 ⟨⟨by have hb_ := z32 z_21; omega, by have hb_ := z32 z_21; omega⟩, ⟨by have hb_ := z32 z_22; omega, by have hb_ := z32 z_22; omega⟩, hj_20⟩ (by first | omega | (dsimp only; omega))
  ·
    refine s_bipush (v := (-2)) E dX9_lasts_11 (by decide) ?_
    exact r_int E dX9_lasts_13 ⟨⟨by decide, by decide, by first | (left; decide) | (right; have hb_ := z32 x1; omega), by first | (left; decide) | (right; have hb_ := z32 (w.2.2.1 5 3); omega)⟩, hJ⟩
set_option maxRecDepth 20000 in
set_option maxHeartbeats 2000000 in
theorem Z_X9_needed_0 (l : Launch) (D : va_G) (aC : Nat → ClassId) (b : Nat) (w : XW) (x1 : Int32) (hI : Iv w)  : CnI l D aC b M_X9_needed 5 116 0 0 [AR 0, AI x1] w (fun r u => ((-2147483648) ≤ r.toInt ∧ r.toInt ≤ 2147483647 ∧ (¬ r.toInt = 0 ∨ (0 ≤ x1.toInt ∧ x1.toInt ≤ 5)) ∧ (¬ r.toInt = 0 ∨ (1 ≤ (w.2.2.1 5 3).toInt ∧ (w.2.2.1 5 3).toInt ≤ 6))) ∧ Jv w u) := by
  refine cn_I (own := RX9) (nm := "needed") (L0 := [some (AR 0), some (AI x1), none, none, none, none]) (by decide +kernel) rfl rfl (Nat.le_of_ble_eq_true rfl) rfl ?_
  intro p e s m args below meth c E hin
  have hJ : Jv w w := jv_rfl hI
  refine s_aload_n E dX9_needed_0 rfl rfl ?_
  refine s_gR (r := 2) E fg_X9_20 rfl rfl (jv_lt hJ (by decide)) (jv_r hJ (by decide +kernel)) dX9_needed_1 ?_
  refine s_iload_n E dX9_needed_4 rfl rfl ?_
  refine s_vI (As := [AI x1]) (S := []) E (Z_X0_hasLady_2 l D aC b w x1 hJ.1 ) cv_X9_139 rfl rfl rfl (jv_lt hJ (by decide)) (Nat.le_of_ble_eq_true rfl) (Nat.le_of_ble_eq_true rfl) ⟨(Nat.le_of_ble_eq_true rfl), (Nat.le_of_ble_eq_true rfl)⟩ (Nat.le_of_ble_eq_true rfl) dX9_needed_5 (fun z_3 u_1 hp_2 => ?_)
  obtain ⟨hz_3, hp_2⟩ := hp_2
  subst hp_2
  refine z_if_ne (tgt := 14) (u := z_3.toInt) E dX9_needed_8 (by decide) rfl (fun h_5 => ?_) (fun h_5 => ?_)
  ·
    refine s_aload_n E dX9_needed_14 rfl rfl ?_
    refine s_vV (As := []) (S := []) E (Z_X9_passAsTold_0 l D aC b w  hJ.1 ) cv_X9_227 rfl rfl rfl (jv_lt hJ (by decide)) (Nat.le_of_ble_eq_true rfl) (Nat.le_of_ble_eq_true rfl) ⟨(Nat.le_of_ble_eq_true rfl), (Nat.le_of_ble_eq_true rfl)⟩ (Nat.le_of_ble_eq_true rfl) dX9_needed_15 (fun u_6 hp_7 => ?_)
    have hj_8 := jv_trans hJ hp_7
    refine s_aload_n E dX9_needed_18 rfl rfl ?_
    refine s_aload_n E dX9_needed_19 rfl rfl ?_
    refine s_gR (r := 69) E fg_X9_54 rfl rfl (jv_lt hj_8 (by decide)) (jv_r hj_8 (by decide +kernel)) dX9_needed_20 ?_
    refine s_iload_n E dX9_needed_23 rfl rfl ?_
    refine s_vI (As := [AR 69, AI x1]) (S := []) E (Z_X9_inTheEnd_0_r69 l D aC b u_6 x1 hj_8.1 ) cv_X9_230 rfl rfl rfl (jv_lt hj_8 (by decide)) (Nat.le_of_ble_eq_true rfl) (Nat.le_of_ble_eq_true rfl) ⟨(Nat.le_of_ble_eq_true rfl), (Nat.le_of_ble_eq_true rfl)⟩ (Nat.le_of_ble_eq_true rfl) dX9_needed_24 (fun z_11 u_9 hp_10 => ?_)
    obtain ⟨hz_11, hp_10⟩ := hp_10
    have hj_12 := jv_trans hj_8 hp_10
    refine s_istore_n (L2 := [some (AR 0), some (AI x1), some (AI z_11), none, none, none]) E dX9_needed_27 rfl (by decide) rfl ?_
    refine s_iconst (v := 0) E dX9_needed_28 (by decide) ?_
    refine s_istore_n (L2 := [some (AR 0), some (AI x1), some (AI z_11), some (AI 0), none, none]) E dX9_needed_29 rfl (by decide) rfl ?_
    refine s_iconst (v := 0) E dX9_needed_30 (by decide) ?_
    refine s_istore (L2 := [some (AR 0), some (AI x1), some (AI z_11), some (AI 0), some (AI 0), none]) E dX9_needed_31 (by decide) rfl ?_
    refine z_loop (St := Int32 × Int32) (Pi := fun ⟨q33_3_12, q33_4_12⟩ v33 => (0 ≤ q33_4_12.toInt ∧ q33_4_12.toInt ≤ 6) ∧ Jv w v33) (Lf := fun ⟨q33_3_12, q33_4_12⟩ => [some (AR 0), some (AI x1), some (AI z_11), some (AI q33_3_12), some (AI q33_4_12), none]) (fun ⟨q33_3_12, q33_4_12⟩ _ => (7 - q33_4_12.toInt).toNat) ⟨0, 0⟩ ⟨⟨by decide, by decide⟩, hj_12⟩ ?_
    rintro ⟨q33_3_12, q33_4_12⟩ v33 ⟨hq33_4, hj_13⟩ ih33
    refine s_loc (L2 := [some (AR 0), some (AI x1), some (AI z_11), some (AI q33_3_12), some (AI q33_4_12), none]) rfl ?_
    refine s_iload E dX9_needed_33 rfl ?_
    refine s_aload_n E dX9_needed_35 rfl rfl ?_
    refine s_gR (r := 2) E fg_X9_20 rfl rfl (jv_lt hj_13 (by decide)) (jv_r hj_13 (by decide +kernel)) dX9_needed_36 ?_
    refine s_gR (r := 5) E fg_X9_133 rfl rfl (jv_lt hj_13 (by decide)) (jv_r hj_13 (by decide +kernel)) dX9_needed_39 ?_
    refine s_gI E fg_X9_200 rfl rfl (jv_lt hj_13 (by decide)) dX9_needed_42 ?_
    refine z_nm (P := fun z => z.toInt = (v33.2.2.1 5 3).toInt ∧ 0 ≤ z.toInt ∧ z.toInt ≤ 6) ⟨rfl, (rg_5_3 hj_13)⟩ (fun z_14 hz_14 => ?_)
    refine z_icmp_ge (tgt := 118) (u := q33_4_12.toInt) (v := z_14.toInt) E dX9_needed_45 (by decide) rfl rfl (fun h_15 => ?_) (fun h_15 => ?_)
    ·
      refine s_iload_n E dX9_needed_118 rfl rfl ?_
      exact r_int E dX9_needed_119 ⟨⟨by have hb_ := z32 q33_3_12; omega, by have hb_ := z32 q33_3_12; omega, by have hb_ := z32 q33_3_12; have hc_ := z32 x1; omega, by have hb_ := z32 q33_3_12; have hc_ := z32 (w.2.2.1 5 3); omega⟩, hj_13⟩
    ·
      refine s_iload E dX9_needed_48 rfl ?_
      refine s_iload_n E dX9_needed_50 rfl rfl ?_
      refine z_icmp_eq (tgt := 112) (u := q33_4_12.toInt) (v := x1.toInt) E dX9_needed_51 (by decide) rfl rfl (fun h_16 => ?_) (fun h_16 => ?_)
      ·
        refine z_iinc (u := q33_4_12.toInt) (L2 := fun z_17 => [some (AR 0), some (AI x1), some (AI z_11), some (AI q33_3_12), some (AI z_17), none]) E dX9_needed_112 rfl rfl (by decide) (fun _ => rfl) (by decide) (by omega) (by omega) (fun z_17 hz_17 => ?_)
        refine s_goto (tgt := 33) E dX9_needed_115 (by decide) ?_
        exact ih33 ⟨q33_3_12, z_17⟩ v33 ⟨⟨by have hb_ := z32 z_17; omega, by have hb_ := z32 z_17; omega⟩, hj_13⟩ (by first | omega | (dsimp only; omega))
      ·
        refine s_aload_n E dX9_needed_54 rfl rfl ?_
        refine s_gR (r := 81) E fg_X9_64 rfl rfl (jv_lt hj_13 (by decide)) (jv_r hj_13 (by decide +kernel)) dX9_needed_55 ?_
        refine s_aload_n E dX9_needed_58 rfl rfl ?_
        refine s_gR (r := 2) E fg_X9_20 rfl rfl (jv_lt hj_13 (by decide)) (jv_r hj_13 (by decide +kernel)) dX9_needed_59 ?_
        refine s_aload_n E dX9_needed_62 rfl rfl ?_
        refine s_gR (r := 2) E fg_X9_20 rfl rfl (jv_lt hj_13 (by decide)) (jv_r hj_13 (by decide +kernel)) dX9_needed_63 ?_
        refine s_gI E fg_X9_214 rfl rfl (jv_lt hj_13 (by decide)) dX9_needed_66 ?_
        refine z_nm (P := fun z => z.toInt = (v33.2.2.1 2 3).toInt) rfl (fun z_18 hz_18 => ?_)
        refine s_iload E dX9_needed_69 rfl ?_
        refine s_vV (As := [AR 2, AI z_18, AI q33_4_12]) (S := []) E (Z_X5_prepare_81_r2 l D aC b v33 z_18 q33_4_12 hj_13.1 ) cv_X9_217 rfl rfl rfl (jv_lt hj_13 (by decide)) (Nat.le_of_ble_eq_true rfl) (Nat.le_of_ble_eq_true rfl) ⟨(Nat.le_of_ble_eq_true rfl), (Nat.le_of_ble_eq_true rfl)⟩ (Nat.le_of_ble_eq_true rfl) dX9_needed_71 (fun u_19 hp_20 => ?_)
        have hj_21 := jv_trans hj_13 hp_20
        refine s_iload_n E dX9_needed_74 rfl rfl ?_
        refine s_aload_n E dX9_needed_75 rfl rfl ?_
        refine s_aload_n E dX9_needed_76 rfl rfl ?_
        refine s_gR (r := 69) E fg_X9_54 rfl rfl (jv_lt hj_21 (by decide)) (jv_r hj_21 (by decide +kernel)) dX9_needed_77 ?_
        refine s_iload_n E dX9_needed_80 rfl rfl ?_
        refine s_vI (As := [AR 69, AI x1]) (S := [AI z_11]) E (Z_X9_inTheEnd_0_r69 l D aC b u_19 x1 hj_21.1 ) cv_X9_230 rfl rfl rfl (jv_lt hj_21 (by decide)) (Nat.le_of_ble_eq_true rfl) (Nat.le_of_ble_eq_true rfl) ⟨(Nat.le_of_ble_eq_true rfl), (Nat.le_of_ble_eq_true rfl)⟩ (Nat.le_of_ble_eq_true rfl) dX9_needed_81 (fun z_24 u_22 hp_23 => ?_)
        obtain ⟨hz_24, hp_23⟩ := hp_23
        have hj_25 := jv_trans hj_21 hp_23
        refine s_iconst (v := (-1)) E dX9_needed_84 (by decide) ?_
        refine s_ixor E dX9_needed_85 ?_
        refine z_any (fun z_26 => ?_)
        refine s_iand E dX9_needed_86 ?_
        refine z_any (fun z_27 => ?_)
        refine s_iconst (v := 1) E dX9_needed_87 (by decide) ?_
        refine s_iload E dX9_needed_88 rfl ?_
        refine z_shl1 5 (u := q33_4_12.toInt) (B := 32) E dX9_needed_90 rfl (by omega) (by omega) (by decide) (by decide) (fun z_28 hz_28 => ?_)
        refine s_iconst (v := (-1)) E dX9_needed_91 (by decide) ?_
        refine s_ixor E dX9_needed_92 ?_
        refine z_any (fun z_29 => ?_)
        refine s_iand E dX9_needed_93 ?_
        refine z_any (fun z_30 => ?_)
        refine s_istore (L2 := [some (AR 0), some (AI x1), some (AI z_11), some (AI q33_3_12), some (AI q33_4_12), some (AI z_30)]) E dX9_needed_94 (by decide) rfl ?_
        refine s_iload_n E dX9_needed_96 rfl rfl ?_
        refine s_iload E dX9_needed_97 rfl ?_
        refine z_if_eq (tgt := 109) (u := z_30.toInt) E dX9_needed_99 (by decide) rfl (fun h_31 => ?_) (fun h_31 => ?_)
        ·
          refine s_iconst (v := 0) E dX9_needed_109 (by decide) ?_
          refine s_ior E dX9_needed_110 ?_
          refine z_any (fun z_32 => ?_)
          refine s_istore_n (L2 := [some (AR 0), some (AI x1), some (AI z_11), some (AI z_32), some (AI q33_4_12), some (AI z_30)]) E dX9_needed_111 rfl (by decide) rfl ?_
          refine z_iinc (u := q33_4_12.toInt) (L2 := fun z_33 => [some (AR 0), some (AI x1), some (AI z_11), some (AI z_32), some (AI z_33), some (AI z_30)]) E dX9_needed_112 rfl rfl (by decide) (fun _ => rfl) (by decide) (by omega) (by omega) (fun z_33 hz_33 => ?_)
          refine s_goto (tgt := 33) E dX9_needed_115 (by decide) ?_
          refine s_drop (i := 5) (L2 := [some (AR 0), some (AI x1), some (AI z_11), some (AI z_32), some (AI z_33), none]) rfl ?_
          exact ih33 ⟨z_32, z_33⟩ u_22 ⟨⟨by have hb_ := z32 z_33; omega, by have hb_ := z32 z_33; omega⟩, hj_25⟩ (by first | omega | (dsimp only; omega))
        ·
          refine s_iconst (v := 1) E dX9_needed_102 (by decide) ?_
          refine s_iload E dX9_needed_103 rfl ?_
          refine z_shl1 5 (u := q33_4_12.toInt) (B := 32) E dX9_needed_105 rfl (by omega) (by omega) (by decide) (by decide) (fun z_34 hz_34 => ?_)
          refine s_goto (tgt := 110) E dX9_needed_106 (by decide) ?_
          refine s_ior E dX9_needed_110 ?_
          refine z_any (fun z_35 => ?_)
          refine s_istore_n (L2 := [some (AR 0), some (AI x1), some (AI z_11), some (AI z_35), some (AI q33_4_12), some (AI z_30)]) E dX9_needed_111 rfl (by decide) rfl ?_
          refine z_iinc (u := q33_4_12.toInt) (L2 := fun z_36 => [some (AR 0), some (AI x1), some (AI z_11), some (AI z_35), some (AI z_36), some (AI z_30)]) E dX9_needed_112 rfl rfl (by decide) (fun _ => rfl) (by decide) (by omega) (by omega) (fun z_36 hz_36 => ?_)
          refine s_goto (tgt := 33) E dX9_needed_115 (by decide) ?_
          refine s_drop (i := 5) (L2 := [some (AR 0), some (AI x1), some (AI z_11), some (AI z_35), some (AI z_36), none]) rfl ?_
          exact ih33 ⟨z_35, z_36⟩ u_22 ⟨⟨by have hb_ := z32 z_36; omega, by have hb_ := z32 z_36; omega⟩, hj_25⟩ (by first | omega | (dsimp only; omega))
  ·
    refine s_bipush (v := (-2)) E dX9_needed_11 (by decide) ?_
    exact r_int E dX9_needed_13 ⟨⟨by decide, by decide, by first | (left; decide) | (right; have hb_ := z32 x1; omega), by first | (left; decide) | (right; have hb_ := z32 (w.2.2.1 5 3); omega)⟩, hJ⟩
set_option maxRecDepth 20000 in
set_option maxHeartbeats 2000000 in
theorem Z_X9_by_0 (l : Launch) (D : va_G) (aC : Nat → ClassId) (b : Nat) (w : XW) (x1 : Int32) (x2 : Int32) (hI : Iv w)  : CnI l D aC b M_X9_by 5 116 0 0 [AR 0, AI x1, AI x2] w (fun r u => ((-2147483648) ≤ r.toInt ∧ r.toInt ≤ 2147483647 ∧ (¬ r.toInt = 0 ∨ (0 ≤ x1.toInt ∧ x1.toInt ≤ 5)) ∧ (¬ r.toInt = 0 ∨ (0 ≤ x2.toInt ∧ x2.toInt ≤ 3)) ∧ (¬ r.toInt = 0 ∨ (1 ≤ (w.2.2.1 5 3).toInt ∧ (w.2.2.1 5 3).toInt ≤ 6))) ∧ Jv w u) := by
  refine cn_I (own := RX9) (nm := "by") (L0 := [some (AR 0), some (AI x1), some (AI x2)]) (by decide +kernel) rfl rfl (Nat.le_of_ble_eq_true rfl) rfl ?_
  intro p e s m args below meth c E hin
  have hJ : Jv w w := jv_rfl hI
  refine s_aload_n E dX9_by_0 rfl rfl ?_
  refine s_gR (r := 2) E fg_X9_20 rfl rfl (jv_lt hJ (by decide)) (jv_r hJ (by decide +kernel)) dX9_by_1 ?_
  refine s_iload_n E dX9_by_4 rfl rfl ?_
  refine s_vI (As := [AI x1]) (S := []) E (Z_X0_hasLady_2 l D aC b w x1 hJ.1 ) cv_X9_139 rfl rfl rfl (jv_lt hJ (by decide)) (Nat.le_of_ble_eq_true rfl) (Nat.le_of_ble_eq_true rfl) ⟨(Nat.le_of_ble_eq_true rfl), (Nat.le_of_ble_eq_true rfl)⟩ (Nat.le_of_ble_eq_true rfl) dX9_by_5 (fun z_3 u_1 hp_2 => ?_)
  obtain ⟨hz_3, hp_2⟩ := hp_2
  subst hp_2
  refine z_if_eq (tgt := 20) (u := z_3.toInt) E dX9_by_8 (by decide) rfl (fun h_5 => ?_) (fun h_5 => ?_)
  ·
    refine s_bipush (v := (-2)) E dX9_by_20 (by decide) ?_
    exact r_int E dX9_by_22 ⟨⟨by decide, by decide, by first | (left; decide) | (right; have hb_ := z32 x1; omega), by first | (left; decide) | (right; have hb_ := z32 x2; omega), by first | (left; decide) | (right; have hb_ := z32 (w.2.2.1 5 3); omega)⟩, hJ⟩
  ·
    refine s_iload_n E dX9_by_11 rfl rfl ?_
    refine z_if_lt (tgt := 20) (u := x2.toInt) E dX9_by_12 (by decide) rfl (fun h_6 => ?_) (fun h_6 => ?_)
    ·
      refine s_bipush (v := (-2)) E dX9_by_20 (by decide) ?_
      exact r_int E dX9_by_22 ⟨⟨by decide, by decide, by first | (left; decide) | (right; have hb_ := z32 x1; omega), by first | (left; decide) | (right; have hb_ := z32 x2; omega), by first | (left; decide) | (right; have hb_ := z32 (w.2.2.1 5 3); omega)⟩, hJ⟩
    ·
      refine s_iload_n E dX9_by_15 rfl rfl ?_
      refine s_iconst (v := 3) E dX9_by_16 (by decide) ?_
      refine z_icmp_le (tgt := 23) (u := x2.toInt) (v := 3) E dX9_by_17 (by decide) rfl (by decide) (fun h_7 => ?_) (fun h_7 => ?_)
      ·
        refine s_aload_n E dX9_by_23 rfl rfl ?_
        refine s_gR (r := 81) E fg_X9_64 rfl rfl (jv_lt hJ (by decide)) (jv_r hJ (by decide +kernel)) dX9_by_24 ?_
        refine s_aload_n E dX9_by_27 rfl rfl ?_
        refine s_gR (r := 2) E fg_X9_20 rfl rfl (jv_lt hJ (by decide)) (jv_r hJ (by decide +kernel)) dX9_by_28 ?_
        refine s_iload_n E dX9_by_31 rfl rfl ?_
        refine s_iconst (v := (-1)) E dX9_by_32 (by decide) ?_
        refine s_vV (As := [AR 2, AI x2, AI (-1)]) (S := []) E (Z_X5_prepare_81_r2 l D aC b w x2 ((-1)) hJ.1 ) cv_X9_217 rfl rfl rfl (jv_lt hJ (by decide)) (Nat.le_of_ble_eq_true rfl) (Nat.le_of_ble_eq_true rfl) ⟨(Nat.le_of_ble_eq_true rfl), (Nat.le_of_ble_eq_true rfl)⟩ (Nat.le_of_ble_eq_true rfl) dX9_by_33 (fun u_8 hp_9 => ?_)
        have hj_10 := jv_trans hJ hp_9
        refine s_aload_n E dX9_by_36 rfl rfl ?_
        refine s_aload_n E dX9_by_37 rfl rfl ?_
        refine s_gR (r := 69) E fg_X9_54 rfl rfl (jv_lt hj_10 (by decide)) (jv_r hj_10 (by decide +kernel)) dX9_by_38 ?_
        refine s_iload_n E dX9_by_41 rfl rfl ?_
        refine s_vI (As := [AR 69, AI x1]) (S := []) E (Z_X9_inTheEnd_0_r69 l D aC b u_8 x1 hj_10.1 ) cv_X9_230 rfl rfl rfl (jv_lt hj_10 (by decide)) (Nat.le_of_ble_eq_true rfl) (Nat.le_of_ble_eq_true rfl) ⟨(Nat.le_of_ble_eq_true rfl), (Nat.le_of_ble_eq_true rfl)⟩ (Nat.le_of_ble_eq_true rfl) dX9_by_42 (fun z_13 u_11 hp_12 => ?_)
        obtain ⟨hz_13, hp_12⟩ := hp_12
        have hj_14 := jv_trans hj_10 hp_12
        exact r_int E dX9_by_45 ⟨⟨by have hb_ := z32 z_13; omega, by have hb_ := z32 z_13; omega, by have hb_ := z32 z_13; have hc_ := z32 x1; omega, by have hb_ := z32 z_13; have hc_ := z32 x2; omega, by have hb_ := z32 z_13; have hc_ := z32 (w.2.2.1 5 3); omega⟩, hj_14⟩
      ·
        refine s_bipush (v := (-2)) E dX9_by_20 (by decide) ?_
        exact r_int E dX9_by_22 ⟨⟨by decide, by decide, by first | (left; decide) | (right; have hb_ := z32 x1; omega), by first | (left; decide) | (right; have hb_ := z32 x2; omega), by first | (left; decide) | (right; have hb_ := z32 (w.2.2.1 5 3); omega)⟩, hJ⟩
set_option maxRecDepth 20000 in
set_option maxHeartbeats 2000000 in
theorem Z_X1_roomsOf_r69 (l : Launch) (D : va_G) (aC : Nat → ClassId) (b : Nat) (w : XW) (x1 : Int32) (x2 : Int32) (hI : Iv w)  : CnI l D aC b M_X1_roomsOf 2 44 0 0 [AR 69, AI x1, AI x2] w (fun r u => ((-2147483648) ≤ r.toInt ∧ r.toInt ≤ 2147483647) ∧ Jv w u) := by
  refine cn_I (own := RX1) (nm := "roomsOf") (L0 := [some (AR 69), some (AI x1), some (AI x2), none, none]) (by decide +kernel) rfl rfl (Nat.le_of_ble_eq_true rfl) rfl ?_
  intro p e s m args below meth c E hin
  have hJ : Jv w w := jv_rfl hI
  refine s_iconst (v := 0) E dX1_roomsOf_0 (by decide) ?_
  refine s_istore_n (L2 := [some (AR 69), some (AI x1), some (AI x2), some (AI 0), none]) E dX1_roomsOf_1 rfl (by decide) rfl ?_
  refine s_iconst (v := 0) E dX1_roomsOf_2 (by decide) ?_
  refine s_istore (L2 := [some (AR 69), some (AI x1), some (AI x2), some (AI 0), some (AI 0)]) E dX1_roomsOf_3 (by decide) rfl ?_
  refine z_loop (St := Int32 × Int32) (Pi := fun ⟨q5_3_0, q5_4_0⟩ v5 => (0 ≤ q5_4_0.toInt ∧ q5_4_0.toInt ≤ 6) ∧ Jv w v5) (Lf := fun ⟨q5_3_0, q5_4_0⟩ => [some (AR 69), some (AI x1), some (AI x2), some (AI q5_3_0), some (AI q5_4_0)]) (fun ⟨q5_3_0, q5_4_0⟩ _ => (7 - q5_4_0.toInt).toNat) ⟨0, 0⟩ ⟨⟨by decide, by decide⟩, hJ⟩ ?_
  rintro ⟨q5_3_0, q5_4_0⟩ v5 ⟨hq5_4, hj_1⟩ ih5
  refine s_loc (L2 := [some (AR 69), some (AI x1), some (AI x2), some (AI q5_3_0), some (AI q5_4_0)]) rfl ?_
  refine s_iload E dX1_roomsOf_5 rfl ?_
  refine s_bipush (v := 6) E dX1_roomsOf_7 (by decide) ?_
  refine z_icmp_ge (tgt := 39) (u := q5_4_0.toInt) (v := 6) E dX1_roomsOf_9 (by decide) rfl (by decide) (fun h_2 => ?_) (fun h_2 => ?_)
  ·
    refine s_iload_n E dX1_roomsOf_39 rfl rfl ?_
    exact r_int E dX1_roomsOf_40 ⟨⟨by have hb_ := z32 q5_3_0; omega, by have hb_ := z32 q5_3_0; omega⟩, hj_1⟩
  ·
    refine s_iload_n E dX1_roomsOf_12 rfl rfl ?_
    refine s_iload E dX1_roomsOf_13 rfl ?_
    refine s_sI (As := [AI x1, AI q5_4_0]) (S := []) E (Z_X9_hasBit l D aC b v5 x1 q5_4_0 hj_1.1 ) cs_X1_51 rfl rfl (Nat.le_of_ble_eq_true rfl) (Nat.le_of_ble_eq_true rfl) ⟨(Nat.le_of_ble_eq_true rfl), (Nat.le_of_ble_eq_true rfl)⟩ (Nat.le_of_ble_eq_true rfl) dX1_roomsOf_15 (fun z_5 u_3 hp_4 => ?_)
    obtain ⟨hz_5, hp_4⟩ := hp_4
    subst hp_4
    refine z_if_eq (tgt := 33) (u := z_5.toInt) E dX1_roomsOf_18 (by decide) rfl (fun h_7 => ?_) (fun h_7 => ?_)
    ·
      refine z_iinc (u := q5_4_0.toInt) (L2 := fun z_8 => [some (AR 69), some (AI x1), some (AI x2), some (AI q5_3_0), some (AI z_8)]) E dX1_roomsOf_33 rfl rfl (by decide) (fun _ => rfl) (by decide) (by omega) (by omega) (fun z_8 hz_8 => ?_)
      refine s_goto (tgt := 5) E dX1_roomsOf_36 (by decide) ?_
      exact ih5 ⟨q5_3_0, z_8⟩ v5 ⟨⟨by have hb_ := z32 z_8; omega, by have hb_ := z32 z_8; omega⟩, hj_1⟩ (by first | omega | (dsimp only; omega))
    ·
      refine s_iload_n E dX1_roomsOf_21 rfl rfl ?_
      refine s_iconst (v := 1) E dX1_roomsOf_22 (by decide) ?_
      refine s_aload_n E dX1_roomsOf_23 rfl rfl ?_
      refine s_iload E dX1_roomsOf_24 rfl ?_
      refine s_iload_n E dX1_roomsOf_26 rfl rfl ?_
      refine s_vI (As := [AI q5_4_0, AI x2]) (S := [AI 1, AI q5_3_0]) E (Z_X2_placeOf_69 l D aC b v5 q5_4_0 x2 hj_1.1 ) cv_X1_45 rfl rfl rfl (jv_lt hj_1 (by decide)) (Nat.le_of_ble_eq_true rfl) (Nat.le_of_ble_eq_true rfl) ⟨(Nat.le_of_ble_eq_true rfl), (Nat.le_of_ble_eq_true rfl)⟩ (Nat.le_of_ble_eq_true rfl) dX1_roomsOf_27 (fun z_11 u_9 hp_10 => ?_)
      obtain ⟨hz_11, hp_10⟩ := hp_10
      subst hp_10
      refine s_ishl E dX1_roomsOf_30 ?_
      refine z_any (fun z_13 => ?_)
      refine s_ior E dX1_roomsOf_31 ?_
      refine z_any (fun z_14 => ?_)
      refine s_istore_n (L2 := [some (AR 69), some (AI x1), some (AI x2), some (AI z_14), some (AI q5_4_0)]) E dX1_roomsOf_32 rfl (by decide) rfl ?_
      refine z_iinc (u := q5_4_0.toInt) (L2 := fun z_15 => [some (AR 69), some (AI x1), some (AI x2), some (AI z_14), some (AI z_15)]) E dX1_roomsOf_33 rfl rfl (by decide) (fun _ => rfl) (by decide) (by omega) (by omega) (fun z_15 hz_15 => ?_)
      refine s_goto (tgt := 5) E dX1_roomsOf_36 (by decide) ?_
      exact ih5 ⟨z_14, z_15⟩ v5 ⟨⟨by have hb_ := z32 z_15; omega, by have hb_ := z32 z_15; omega⟩, hj_1⟩ (by first | omega | (dsimp only; omega))
set_option maxRecDepth 20000 in
set_option maxHeartbeats 2000000 in
theorem Z_X1_prepare_85_r69_r81 (l : Launch) (D : va_G) (aC : Nat → ClassId) (b : Nat) (w : XW) (x1 : Int32) (x2 : Int32) (hI : Iv w)  : CnV l D aC b M_X1_prepare 3 68 0 0 [AR 85, AR 69, AR 81, AI x1, AI x2] w (fun u => Jv w u) := by
  refine cn_V (own := RX1) (nm := "prepare") (L0 := [some (AR 85), some (AR 69), some (AR 81), some (AI x1), some (AI x2), none]) (by decide +kernel) rfl rfl (Nat.le_of_ble_eq_true rfl) rfl ?_
  intro p e s m args below meth c E hin
  have hJ : Jv w w := jv_rfl hI
  refine s_aload_n E dX1_prepare_0 rfl rfl ?_
  refine s_iload_n E dX1_prepare_1 rfl rfl ?_
  refine s_pI E fp_X1_21 (Or.inl rfl) rfl (jv_lt hJ (by decide)) dX1_prepare_2 ?_
  refine s_gen (P := Jv w) (jv_f_85_3 hJ (by have hb_ := z32 x1; omega) (by have hb_ := z32 x1; omega)) (fun v_1 hj_2 => ?_)
  refine s_aload_n E dX1_prepare_5 rfl rfl ?_
  refine s_iload E dX1_prepare_6 rfl ?_
  refine s_pI E fp_X1_25 (Or.inl rfl) rfl (jv_lt hj_2 (by decide)) dX1_prepare_8 ?_
  refine s_gen (P := Jv w) (jv_f_85_4 hj_2 (by have hb_ := z32 x2; omega) (by have hb_ := z32 x2; omega)) (fun v_3 hj_4 => ?_)
  refine s_aload_n E dX1_prepare_11 rfl rfl ?_
  refine s_aload_n E dX1_prepare_12 rfl rfl ?_
  refine s_gI E fg_X1_28 rfl rfl (jv_lt hj_4 (by decide)) dX1_prepare_13 ?_
  refine z_nm (P := fun z => z.toInt = (v_3.2.2.1 81 4).toInt ∧ 0 ≤ z.toInt ∧ z.toInt ≤ 14) ⟨rfl, (rg_81_4 hj_4)⟩ (fun z_5 hz_5 => ?_)
  refine s_pI E fp_X1_33 (Or.inl rfl) rfl (jv_lt hj_4 (by decide)) dX1_prepare_16 ?_
  refine s_gen (P := Jv w) (jv_f_85_5 hj_4 (by have hb_ := z32 z_5; omega) (by have hb_ := z32 z_5; omega)) (fun v_6 hj_7 => ?_)
  refine s_iconst (v := 0) E dX1_prepare_19 (by decide) ?_
  refine s_istore (L2 := [some (AR 85), some (AR 69), some (AR 81), some (AI x1), some (AI x2), some (AI 0)]) E dX1_prepare_20 (by decide) rfl ?_
  refine z_loop (St := Int32) (Pi := fun q22_5_7 v22 => (0 ≤ q22_5_7.toInt ∧ q22_5_7.toInt ≤ 15) ∧ Jv w v22) (Lf := fun q22_5_7 => [some (AR 85), some (AR 69), some (AR 81), some (AI x1), some (AI x2), some (AI q22_5_7)]) (fun q22_5_7 _ => (16 - q22_5_7.toInt).toNat) 0 ⟨⟨by decide, by decide⟩, hj_7⟩ ?_
  rintro q22_5_7 v22 ⟨hq22_5, hj_8⟩ ih22
  refine s_loc (L2 := [some (AR 85), some (AR 69), some (AR 81), some (AI x1), some (AI x2), some (AI q22_5_7)]) rfl ?_
  refine s_iload E dX1_prepare_22 rfl ?_
  refine s_aload_n E dX1_prepare_24 rfl rfl ?_
  refine s_gI E fg_X1_33 rfl rfl (jv_lt hj_8 (by decide)) dX1_prepare_25 ?_
  refine z_nm (P := fun z => z.toInt = (v22.2.2.1 85 5).toInt ∧ 0 ≤ z.toInt ∧ z.toInt ≤ 14) ⟨rfl, (rg_85_5 hj_8)⟩ (fun z_9 hz_9 => ?_)
  refine z_icmp_gt (tgt := 65) (u := q22_5_7.toInt) (v := z_9.toInt) E dX1_prepare_28 (by decide) rfl rfl (fun h_10 => ?_) (fun h_10 => ?_)
  ·
    refine s_aload_n E dX1_prepare_65 rfl rfl ?_
    refine s_aload_n E dX1_prepare_66 rfl rfl ?_
    refine s_gI E fg_X1_42 rfl rfl (jv_lt hj_8 (by decide)) dX1_prepare_67 ?_
    refine z_nm (P := fun z => z.toInt = (v22.2.2.1 81 5).toInt) rfl (fun z_11 hz_11 => ?_)
    refine s_aload_n E dX1_prepare_70 rfl rfl ?_
    refine s_gI E fg_X1_21 rfl rfl (jv_lt hj_8 (by decide)) dX1_prepare_71 ?_
    refine z_nm (P := fun z => z.toInt = (v22.2.2.1 85 3).toInt) rfl (fun z_12 hz_12 => ?_)
    refine z_icmp_eq (tgt := 98) (u := z_11.toInt) (v := z_12.toInt) E dX1_prepare_74 (by decide) rfl rfl (fun h_13 => ?_) (fun h_13 => ?_)
    ·
      refine s_iconst (v := 1) E dX1_prepare_98 (by decide) ?_
      refine s_goto (tgt := 103) E dX1_prepare_99 (by decide) ?_
      refine s_pI E fp_X1_55 (Or.inr ⟨rfl, Or.inr rfl⟩) rfl (jv_lt hj_8 (by decide)) dX1_prepare_103 ?_
      refine s_gen (P := Jv w) (jv_f_85_6 hj_8 (by decide) (by decide)) (fun v_14 hj_15 => ?_)
      refine s_aload_n E dX1_prepare_106 rfl rfl ?_
      refine s_aload_n E dX1_prepare_107 rfl rfl ?_
      refine s_gI E fg_X1_42 rfl rfl (jv_lt hj_15 (by decide)) dX1_prepare_108 ?_
      refine z_nm (P := fun z => z.toInt = (v_14.2.2.1 81 5).toInt) rfl (fun z_16 hz_16 => ?_)
      refine s_aload_n E dX1_prepare_111 rfl rfl ?_
      refine s_gI E fg_X1_21 rfl rfl (jv_lt hj_15 (by decide)) dX1_prepare_112 ?_
      refine z_nm (P := fun z => z.toInt = (v_14.2.2.1 85 3).toInt) rfl (fun z_17 hz_17 => ?_)
      refine z_icmp_ne (tgt := 143) (u := z_16.toInt) (v := z_17.toInt) E dX1_prepare_115 (by decide) rfl rfl (fun h_18 => ?_) (fun h_18 => ?_)
      ·
        refine s_iconst (v := 0) E dX1_prepare_143 (by decide) ?_
        refine s_pI E fp_X1_59 (Or.inr ⟨rfl, Or.inl rfl⟩) rfl (jv_lt hj_15 (by decide)) dX1_prepare_144 ?_
        refine s_gen (P := Jv w) (jv_f_85_7 hj_15 (by decide) (by decide)) (fun v_19 hj_20 => ?_)
        exact r_void E dX1_prepare_147 hj_20
      ·
        refine s_aload_n E dX1_prepare_118 rfl rfl ?_
        refine s_aload_n E dX1_prepare_119 rfl rfl ?_
        refine s_gI E fg_X1_21 rfl rfl (jv_lt hj_15 (by decide)) dX1_prepare_120 ?_
        refine z_nm (P := fun z => z.toInt = (v_14.2.2.1 85 3).toInt) rfl (fun z_21 hz_21 => ?_)
        refine s_iconst (v := 0) E dX1_prepare_123 (by decide) ?_
        refine s_vI (As := [AI z_21, AI 0]) (S := [AR 85]) E (Z_X2_placeOf_69 l D aC b v_14 z_21 0 hj_15.1 ) cv_X1_45 rfl rfl rfl (jv_lt hj_15 (by decide)) (Nat.le_of_ble_eq_true rfl) (Nat.le_of_ble_eq_true rfl) ⟨(Nat.le_of_ble_eq_true rfl), (Nat.le_of_ble_eq_true rfl)⟩ (Nat.le_of_ble_eq_true rfl) dX1_prepare_124 (fun z_24 u_22 hp_23 => ?_)
        obtain ⟨hz_24, hp_23⟩ := hp_23
        subst hp_23
        refine s_aload_n E dX1_prepare_127 rfl rfl ?_
        refine s_aload_n E dX1_prepare_128 rfl rfl ?_
        refine s_gI E fg_X1_25 rfl rfl (jv_lt hj_15 (by decide)) dX1_prepare_129 ?_
        refine z_nm (P := fun z => z.toInt = (v_14.2.2.1 85 4).toInt) rfl (fun z_26 hz_26 => ?_)
        refine s_iconst (v := 0) E dX1_prepare_132 (by decide) ?_
        refine s_vI (As := [AI z_26, AI 0]) (S := [AI z_24, AR 85]) E (Z_X2_placeOf_69 l D aC b v_14 z_26 0 hj_15.1 ) cv_X1_45 rfl rfl rfl (jv_lt hj_15 (by decide)) (Nat.le_of_ble_eq_true rfl) (Nat.le_of_ble_eq_true rfl) ⟨(Nat.le_of_ble_eq_true rfl), (Nat.le_of_ble_eq_true rfl)⟩ (Nat.le_of_ble_eq_true rfl) dX1_prepare_133 (fun z_29 u_27 hp_28 => ?_)
        obtain ⟨hz_29, hp_28⟩ := hp_28
        subst hp_28
        refine z_icmp_ne (tgt := 143) (u := z_24.toInt) (v := z_29.toInt) E dX1_prepare_136 (by decide) rfl rfl (fun h_31 => ?_) (fun h_31 => ?_)
        ·
          refine s_iconst (v := 0) E dX1_prepare_143 (by decide) ?_
          refine s_pI E fp_X1_59 (Or.inr ⟨rfl, Or.inl rfl⟩) rfl (jv_lt hj_15 (by decide)) dX1_prepare_144 ?_
          refine s_gen (P := Jv w) (jv_f_85_7 hj_15 (by decide) (by decide)) (fun v_32 hj_33 => ?_)
          exact r_void E dX1_prepare_147 hj_33
        ·
          refine s_iconst (v := 1) E dX1_prepare_139 (by decide) ?_
          refine s_goto (tgt := 144) E dX1_prepare_140 (by decide) ?_
          refine s_pI E fp_X1_59 (Or.inr ⟨rfl, Or.inr rfl⟩) rfl (jv_lt hj_15 (by decide)) dX1_prepare_144 ?_
          refine s_gen (P := Jv w) (jv_f_85_7 hj_15 (by decide) (by decide)) (fun v_34 hj_35 => ?_)
          exact r_void E dX1_prepare_147 hj_35
    ·
      refine s_aload_n E dX1_prepare_77 rfl rfl ?_
      refine s_gR (r := 86) E fg_X1_9 rfl rfl (jv_lt hj_8 (by decide)) (jv_r hj_8 (by decide +kernel)) dX1_prepare_78 ?_
      refine s_iconst (v := 0) E dX1_prepare_81 (by decide) ?_
      refine s_iald E rfl (jv_lt hj_8 (by decide)) (z_in (u := 0) (by decide) (by omega) (by omega)) dX1_prepare_82 ?_
      refine z_any (fun z_36 => ?_)
      refine s_aload_n E dX1_prepare_83 rfl rfl ?_
      refine s_aload_n E dX1_prepare_84 rfl rfl ?_
      refine s_gI E fg_X1_21 rfl rfl (jv_lt hj_8 (by decide)) dX1_prepare_85 ?_
      refine z_nm (P := fun z => z.toInt = (v22.2.2.1 85 3).toInt) rfl (fun z_37 hz_37 => ?_)
      refine s_iconst (v := 0) E dX1_prepare_88 (by decide) ?_
      refine s_vI (As := [AI z_37, AI 0]) (S := [AI z_36, AR 85]) E (Z_X2_placeOf_69 l D aC b v22 z_37 0 hj_8.1 ) cv_X1_45 rfl rfl rfl (jv_lt hj_8 (by decide)) (Nat.le_of_ble_eq_true rfl) (Nat.le_of_ble_eq_true rfl) ⟨(Nat.le_of_ble_eq_true rfl), (Nat.le_of_ble_eq_true rfl)⟩ (Nat.le_of_ble_eq_true rfl) dX1_prepare_89 (fun z_40 u_38 hp_39 => ?_)
      obtain ⟨hz_40, hp_39⟩ := hp_39
      subst hp_39
      refine s_sI (As := [AI z_36, AI z_40]) (S := [AR 85]) E (Z_X9_hasBit l D aC b v22 z_36 z_40 hj_8.1 ) cs_X1_51 rfl rfl (Nat.le_of_ble_eq_true rfl) (Nat.le_of_ble_eq_true rfl) ⟨(Nat.le_of_ble_eq_true rfl), (Nat.le_of_ble_eq_true rfl)⟩ (Nat.le_of_ble_eq_true rfl) dX1_prepare_92 (fun z_44 u_42 hp_43 => ?_)
      obtain ⟨hz_44, hp_43⟩ := hp_43
      subst hp_43
      refine z_if_eq (tgt := 102) (u := z_44.toInt) E dX1_prepare_95 (by decide) rfl (fun h_46 => ?_) (fun h_46 => ?_)
      ·
        refine s_iconst (v := 0) E dX1_prepare_102 (by decide) ?_
        refine s_pI E fp_X1_55 (Or.inr ⟨rfl, Or.inl rfl⟩) rfl (jv_lt hj_8 (by decide)) dX1_prepare_103 ?_
        refine s_gen (P := Jv w) (jv_f_85_6 hj_8 (by decide) (by decide)) (fun v_47 hj_48 => ?_)
        refine s_aload_n E dX1_prepare_106 rfl rfl ?_
        refine s_aload_n E dX1_prepare_107 rfl rfl ?_
        refine s_gI E fg_X1_42 rfl rfl (jv_lt hj_48 (by decide)) dX1_prepare_108 ?_
        refine z_nm (P := fun z => z.toInt = (v_47.2.2.1 81 5).toInt) rfl (fun z_49 hz_49 => ?_)
        refine s_aload_n E dX1_prepare_111 rfl rfl ?_
        refine s_gI E fg_X1_21 rfl rfl (jv_lt hj_48 (by decide)) dX1_prepare_112 ?_
        refine z_nm (P := fun z => z.toInt = (v_47.2.2.1 85 3).toInt) rfl (fun z_50 hz_50 => ?_)
        refine z_icmp_ne (tgt := 143) (u := z_49.toInt) (v := z_50.toInt) E dX1_prepare_115 (by decide) rfl rfl (fun h_51 => ?_) (fun h_51 => ?_)
        ·
          refine s_iconst (v := 0) E dX1_prepare_143 (by decide) ?_
          refine s_pI E fp_X1_59 (Or.inr ⟨rfl, Or.inl rfl⟩) rfl (jv_lt hj_48 (by decide)) dX1_prepare_144 ?_
          refine s_gen (P := Jv w) (jv_f_85_7 hj_48 (by decide) (by decide)) (fun v_52 hj_53 => ?_)
          exact r_void E dX1_prepare_147 hj_53
        ·
          refine s_aload_n E dX1_prepare_118 rfl rfl ?_
          refine s_aload_n E dX1_prepare_119 rfl rfl ?_
          refine s_gI E fg_X1_21 rfl rfl (jv_lt hj_48 (by decide)) dX1_prepare_120 ?_
          refine z_nm (P := fun z => z.toInt = (v_47.2.2.1 85 3).toInt) rfl (fun z_54 hz_54 => ?_)
          refine s_iconst (v := 0) E dX1_prepare_123 (by decide) ?_
          refine s_vI (As := [AI z_54, AI 0]) (S := [AR 85]) E (Z_X2_placeOf_69 l D aC b v_47 z_54 0 hj_48.1 ) cv_X1_45 rfl rfl rfl (jv_lt hj_48 (by decide)) (Nat.le_of_ble_eq_true rfl) (Nat.le_of_ble_eq_true rfl) ⟨(Nat.le_of_ble_eq_true rfl), (Nat.le_of_ble_eq_true rfl)⟩ (Nat.le_of_ble_eq_true rfl) dX1_prepare_124 (fun z_57 u_55 hp_56 => ?_)
          obtain ⟨hz_57, hp_56⟩ := hp_56
          subst hp_56
          refine s_aload_n E dX1_prepare_127 rfl rfl ?_
          refine s_aload_n E dX1_prepare_128 rfl rfl ?_
          refine s_gI E fg_X1_25 rfl rfl (jv_lt hj_48 (by decide)) dX1_prepare_129 ?_
          refine z_nm (P := fun z => z.toInt = (v_47.2.2.1 85 4).toInt) rfl (fun z_59 hz_59 => ?_)
          refine s_iconst (v := 0) E dX1_prepare_132 (by decide) ?_
          refine s_vI (As := [AI z_59, AI 0]) (S := [AI z_57, AR 85]) E (Z_X2_placeOf_69 l D aC b v_47 z_59 0 hj_48.1 ) cv_X1_45 rfl rfl rfl (jv_lt hj_48 (by decide)) (Nat.le_of_ble_eq_true rfl) (Nat.le_of_ble_eq_true rfl) ⟨(Nat.le_of_ble_eq_true rfl), (Nat.le_of_ble_eq_true rfl)⟩ (Nat.le_of_ble_eq_true rfl) dX1_prepare_133 (fun z_62 u_60 hp_61 => ?_)
          obtain ⟨hz_62, hp_61⟩ := hp_61
          subst hp_61
          refine z_icmp_ne (tgt := 143) (u := z_57.toInt) (v := z_62.toInt) E dX1_prepare_136 (by decide) rfl rfl (fun h_64 => ?_) (fun h_64 => ?_)
          ·
            refine s_iconst (v := 0) E dX1_prepare_143 (by decide) ?_
            refine s_pI E fp_X1_59 (Or.inr ⟨rfl, Or.inl rfl⟩) rfl (jv_lt hj_48 (by decide)) dX1_prepare_144 ?_
            refine s_gen (P := Jv w) (jv_f_85_7 hj_48 (by decide) (by decide)) (fun v_65 hj_66 => ?_)
            exact r_void E dX1_prepare_147 hj_66
          ·
            refine s_iconst (v := 1) E dX1_prepare_139 (by decide) ?_
            refine s_goto (tgt := 144) E dX1_prepare_140 (by decide) ?_
            refine s_pI E fp_X1_59 (Or.inr ⟨rfl, Or.inr rfl⟩) rfl (jv_lt hj_48 (by decide)) dX1_prepare_144 ?_
            refine s_gen (P := Jv w) (jv_f_85_7 hj_48 (by decide) (by decide)) (fun v_67 hj_68 => ?_)
            exact r_void E dX1_prepare_147 hj_68
      ·
        refine s_iconst (v := 1) E dX1_prepare_98 (by decide) ?_
        refine s_goto (tgt := 103) E dX1_prepare_99 (by decide) ?_
        refine s_pI E fp_X1_55 (Or.inr ⟨rfl, Or.inr rfl⟩) rfl (jv_lt hj_8 (by decide)) dX1_prepare_103 ?_
        refine s_gen (P := Jv w) (jv_f_85_6 hj_8 (by decide) (by decide)) (fun v_69 hj_70 => ?_)
        refine s_aload_n E dX1_prepare_106 rfl rfl ?_
        refine s_aload_n E dX1_prepare_107 rfl rfl ?_
        refine s_gI E fg_X1_42 rfl rfl (jv_lt hj_70 (by decide)) dX1_prepare_108 ?_
        refine z_nm (P := fun z => z.toInt = (v_69.2.2.1 81 5).toInt) rfl (fun z_71 hz_71 => ?_)
        refine s_aload_n E dX1_prepare_111 rfl rfl ?_
        refine s_gI E fg_X1_21 rfl rfl (jv_lt hj_70 (by decide)) dX1_prepare_112 ?_
        refine z_nm (P := fun z => z.toInt = (v_69.2.2.1 85 3).toInt) rfl (fun z_72 hz_72 => ?_)
        refine z_icmp_ne (tgt := 143) (u := z_71.toInt) (v := z_72.toInt) E dX1_prepare_115 (by decide) rfl rfl (fun h_73 => ?_) (fun h_73 => ?_)
        ·
          refine s_iconst (v := 0) E dX1_prepare_143 (by decide) ?_
          refine s_pI E fp_X1_59 (Or.inr ⟨rfl, Or.inl rfl⟩) rfl (jv_lt hj_70 (by decide)) dX1_prepare_144 ?_
          refine s_gen (P := Jv w) (jv_f_85_7 hj_70 (by decide) (by decide)) (fun v_74 hj_75 => ?_)
          exact r_void E dX1_prepare_147 hj_75
        ·
          refine s_aload_n E dX1_prepare_118 rfl rfl ?_
          refine s_aload_n E dX1_prepare_119 rfl rfl ?_
          refine s_gI E fg_X1_21 rfl rfl (jv_lt hj_70 (by decide)) dX1_prepare_120 ?_
          refine z_nm (P := fun z => z.toInt = (v_69.2.2.1 85 3).toInt) rfl (fun z_76 hz_76 => ?_)
          refine s_iconst (v := 0) E dX1_prepare_123 (by decide) ?_
          refine s_vI (As := [AI z_76, AI 0]) (S := [AR 85]) E (Z_X2_placeOf_69 l D aC b v_69 z_76 0 hj_70.1 ) cv_X1_45 rfl rfl rfl (jv_lt hj_70 (by decide)) (Nat.le_of_ble_eq_true rfl) (Nat.le_of_ble_eq_true rfl) ⟨(Nat.le_of_ble_eq_true rfl), (Nat.le_of_ble_eq_true rfl)⟩ (Nat.le_of_ble_eq_true rfl) dX1_prepare_124 (fun z_79 u_77 hp_78 => ?_)
          obtain ⟨hz_79, hp_78⟩ := hp_78
          subst hp_78
          refine s_aload_n E dX1_prepare_127 rfl rfl ?_
          refine s_aload_n E dX1_prepare_128 rfl rfl ?_
          refine s_gI E fg_X1_25 rfl rfl (jv_lt hj_70 (by decide)) dX1_prepare_129 ?_
          refine z_nm (P := fun z => z.toInt = (v_69.2.2.1 85 4).toInt) rfl (fun z_81 hz_81 => ?_)
          refine s_iconst (v := 0) E dX1_prepare_132 (by decide) ?_
          refine s_vI (As := [AI z_81, AI 0]) (S := [AI z_79, AR 85]) E (Z_X2_placeOf_69 l D aC b v_69 z_81 0 hj_70.1 ) cv_X1_45 rfl rfl rfl (jv_lt hj_70 (by decide)) (Nat.le_of_ble_eq_true rfl) (Nat.le_of_ble_eq_true rfl) ⟨(Nat.le_of_ble_eq_true rfl), (Nat.le_of_ble_eq_true rfl)⟩ (Nat.le_of_ble_eq_true rfl) dX1_prepare_133 (fun z_84 u_82 hp_83 => ?_)
          obtain ⟨hz_84, hp_83⟩ := hp_83
          subst hp_83
          refine z_icmp_ne (tgt := 143) (u := z_79.toInt) (v := z_84.toInt) E dX1_prepare_136 (by decide) rfl rfl (fun h_86 => ?_) (fun h_86 => ?_)
          ·
            refine s_iconst (v := 0) E dX1_prepare_143 (by decide) ?_
            refine s_pI E fp_X1_59 (Or.inr ⟨rfl, Or.inl rfl⟩) rfl (jv_lt hj_70 (by decide)) dX1_prepare_144 ?_
            refine s_gen (P := Jv w) (jv_f_85_7 hj_70 (by decide) (by decide)) (fun v_87 hj_88 => ?_)
            exact r_void E dX1_prepare_147 hj_88
          ·
            refine s_iconst (v := 1) E dX1_prepare_139 (by decide) ?_
            refine s_goto (tgt := 144) E dX1_prepare_140 (by decide) ?_
            refine s_pI E fp_X1_59 (Or.inr ⟨rfl, Or.inr rfl⟩) rfl (jv_lt hj_70 (by decide)) dX1_prepare_144 ?_
            refine s_gen (P := Jv w) (jv_f_85_7 hj_70 (by decide) (by decide)) (fun v_89 hj_90 => ?_)
            exact r_void E dX1_prepare_147 hj_90
  ·
    refine s_aload_n E dX1_prepare_31 rfl rfl ?_
    refine s_gR (r := 86) E fg_X1_9 rfl rfl (jv_lt hj_8 (by decide)) (jv_r hj_8 (by decide +kernel)) dX1_prepare_32 ?_
    refine s_iload E dX1_prepare_35 rfl ?_
    refine s_aload_n E dX1_prepare_37 rfl rfl ?_
    refine s_aload_n E dX1_prepare_38 rfl rfl ?_
    refine s_iload E dX1_prepare_39 rfl ?_
    refine s_vI (As := [AI q22_5_7]) (S := [AR 69, AI q22_5_7, AR 86]) E (Z_X5_ahead_81 l D aC b v22 q22_5_7 hj_8.1 ) cv_X1_34 rfl rfl rfl (jv_lt hj_8 (by decide)) (Nat.le_of_ble_eq_true rfl) (Nat.le_of_ble_eq_true rfl) ⟨(Nat.le_of_ble_eq_true rfl), (Nat.le_of_ble_eq_true rfl)⟩ (Nat.le_of_ble_eq_true rfl) dX1_prepare_41 (fun z_93 u_91 hp_92 => ?_)
    obtain ⟨hz_93, hp_92⟩ := hp_92
    subst hp_92
    refine s_iconst (v := 1) E dX1_prepare_44 (by decide) ?_
    refine s_aload_n E dX1_prepare_45 rfl rfl ?_
    refine s_gI E fg_X1_21 rfl rfl (jv_lt hj_8 (by decide)) dX1_prepare_46 ?_
    refine z_nm (P := fun z => z.toInt = (v22.2.2.1 85 3).toInt) rfl (fun z_95 hz_95 => ?_)
    refine s_ishl E dX1_prepare_49 ?_
    refine z_any (fun z_96 => ?_)
    refine s_iconst (v := (-1)) E dX1_prepare_50 (by decide) ?_
    refine s_ixor E dX1_prepare_51 ?_
    refine z_any (fun z_97 => ?_)
    refine s_iand E dX1_prepare_52 ?_
    refine z_any (fun z_98 => ?_)
    refine s_iload E dX1_prepare_53 rfl ?_
    refine s_sI (As := [AR 69, AI z_98, AI q22_5_7]) (S := [AI q22_5_7, AR 86]) E (Z_X1_roomsOf_r69 l D aC b v22 z_98 q22_5_7 hj_8.1 ) cs_X1_38 rfl rfl (Nat.le_of_ble_eq_true rfl) (Nat.le_of_ble_eq_true rfl) ⟨(Nat.le_of_ble_eq_true rfl), (Nat.le_of_ble_eq_true rfl)⟩ (Nat.le_of_ble_eq_true rfl) dX1_prepare_55 (fun z_101 u_99 hp_100 => ?_)
    obtain ⟨hz_101, hp_100⟩ := hp_100
    have hj_102 := jv_trans hj_8 hp_100
    refine s_iast E rfl (jv_lt hj_102 (by decide)) (z_in (u := q22_5_7.toInt) rfl (by omega) (by omega)) dX1_prepare_58 ?_
    refine s_gen (P := Jv w) (jv_a_86 hj_102 (by have hb_ := z32 z_101; omega) (by have hb_ := z32 z_101; omega)) (fun v_103 hj_104 => ?_)
    refine z_iinc (u := q22_5_7.toInt) (L2 := fun z_105 => [some (AR 85), some (AR 69), some (AR 81), some (AI x1), some (AI x2), some (AI z_105)]) E dX1_prepare_59 rfl rfl (by decide) (fun _ => rfl) (by decide) (by omega) (by omega) (fun z_105 hz_105 => ?_)
    refine s_goto (tgt := 22) E dX1_prepare_62 (by decide) ?_
    exact ih22 z_105 v_103 ⟨⟨by have hb_ := z32 z_105; omega, by have hb_ := z32 z_105; omega⟩, hj_104⟩ (by first | omega | (dsimp only; omega))
set_option maxRecDepth 20000 in
set_option maxHeartbeats 2000000 in
theorem Z_X1_goodWithout_85 (l : Launch) (D : va_G) (aC : Nat → ClassId) (b : Nat) (w : XW) (x1 : Int32) (x2 : Int32) (hI : Iv w) (hx1 : 0 ≤ x1.toInt ∧ x1.toInt ≤ 14) : CnI l D aC b M_X1_goodWithout 0 0 0 0 [AR 85, AI x1, AI x2] w (fun r u => ((-2147483648) ≤ r.toInt ∧ r.toInt ≤ 2147483647) ∧ w = u) := by
  refine cn_I (own := RX1) (nm := "goodWithout") (L0 := [some (AR 85), some (AI x1), some (AI x2), none]) (by decide +kernel) rfl rfl (Nat.le_of_ble_eq_true rfl) rfl ?_
  intro p e s m args below meth c E hin
  have hJ : Jv w w := jv_rfl hI
  refine s_iload_n E dX1_goodWithout_0 rfl rfl ?_
  refine s_iload_n E dX1_goodWithout_1 rfl rfl ?_
  refine z_icmp_ne (tgt := 9) (u := x1.toInt) (v := x2.toInt) E dX1_goodWithout_2 (by decide) rfl rfl (fun h_1 => ?_) (fun h_1 => ?_)
  ·
    refine s_aload_n E dX1_goodWithout_9 rfl rfl ?_
    refine s_gR (r := 86) E fg_X1_9 rfl rfl (jv_lt hJ (by decide)) (jv_r hJ (by decide +kernel)) dX1_goodWithout_10 ?_
    refine s_iload_n E dX1_goodWithout_13 rfl rfl ?_
    refine s_iald E rfl (jv_lt hJ (by decide)) (z_in (u := x1.toInt) rfl (by omega) (by omega)) dX1_goodWithout_14 ?_
    refine z_any (fun z_2 => ?_)
    refine s_istore_n (L2 := [some (AR 85), some (AI x1), some (AI x2), some (AI z_2)]) E dX1_goodWithout_15 rfl (by decide) rfl ?_
    refine s_iload_n E dX1_goodWithout_16 rfl rfl ?_
    refine s_aload_n E dX1_goodWithout_17 rfl rfl ?_
    refine s_gR (r := 87) E fg_X1_15 rfl rfl (jv_lt hJ (by decide)) (jv_r hJ (by decide +kernel)) dX1_goodWithout_18 ?_
    refine s_iload_n E dX1_goodWithout_21 rfl rfl ?_
    refine s_iald E rfl (jv_lt hJ (by decide)) (z_in (u := x1.toInt) rfl (by omega) (by omega)) dX1_goodWithout_22 ?_
    refine z_any (fun z_3 => ?_)
    refine s_iand E dX1_goodWithout_23 ?_
    refine z_any (fun z_4 => ?_)
    refine s_iload_n E dX1_goodWithout_24 rfl rfl ?_
    refine s_iconst (v := (-1)) E dX1_goodWithout_25 (by decide) ?_
    refine s_ixor E dX1_goodWithout_26 ?_
    refine z_any (fun z_5 => ?_)
    refine s_aload_n E dX1_goodWithout_27 rfl rfl ?_
    refine s_gR (r := 88) E fg_X1_18 rfl rfl (jv_lt hJ (by decide)) (jv_r hJ (by decide +kernel)) dX1_goodWithout_28 ?_
    refine s_iload_n E dX1_goodWithout_31 rfl rfl ?_
    refine s_iald E rfl (jv_lt hJ (by decide)) (z_in (u := x1.toInt) rfl (by omega) (by omega)) dX1_goodWithout_32 ?_
    refine z_any (fun z_6 => ?_)
    refine s_iand E dX1_goodWithout_33 ?_
    refine z_any (fun z_7 => ?_)
    refine s_ior E dX1_goodWithout_34 ?_
    refine z_any (fun z_8 => ?_)
    exact r_int E dX1_goodWithout_35 ⟨⟨by have hb_ := z32 z_8; omega, by have hb_ := z32 z_8; omega⟩, rfl⟩
  ·
    refine s_iconst (v := 0) E dX1_goodWithout_5 (by decide) ?_
    refine s_goto (tgt := 15) E dX1_goodWithout_6 (by decide) ?_
    refine s_istore_n (L2 := [some (AR 85), some (AI x1), some (AI x2), some (AI 0)]) E dX1_goodWithout_15 rfl (by decide) rfl ?_
    refine s_iload_n E dX1_goodWithout_16 rfl rfl ?_
    refine s_aload_n E dX1_goodWithout_17 rfl rfl ?_
    refine s_gR (r := 87) E fg_X1_15 rfl rfl (jv_lt hJ (by decide)) (jv_r hJ (by decide +kernel)) dX1_goodWithout_18 ?_
    refine s_iload_n E dX1_goodWithout_21 rfl rfl ?_
    refine s_iald E rfl (jv_lt hJ (by decide)) (z_in (u := x1.toInt) rfl (by omega) (by omega)) dX1_goodWithout_22 ?_
    refine z_any (fun z_9 => ?_)
    refine s_iand E dX1_goodWithout_23 ?_
    refine z_any (fun z_10 => ?_)
    refine s_iload_n E dX1_goodWithout_24 rfl rfl ?_
    refine s_iconst (v := (-1)) E dX1_goodWithout_25 (by decide) ?_
    refine s_ixor E dX1_goodWithout_26 ?_
    refine z_any (fun z_11 => ?_)
    refine s_aload_n E dX1_goodWithout_27 rfl rfl ?_
    refine s_gR (r := 88) E fg_X1_18 rfl rfl (jv_lt hJ (by decide)) (jv_r hJ (by decide +kernel)) dX1_goodWithout_28 ?_
    refine s_iload_n E dX1_goodWithout_31 rfl rfl ?_
    refine s_iald E rfl (jv_lt hJ (by decide)) (z_in (u := x1.toInt) rfl (by omega) (by omega)) dX1_goodWithout_32 ?_
    refine z_any (fun z_12 => ?_)
    refine s_iand E dX1_goodWithout_33 ?_
    refine z_any (fun z_13 => ?_)
    refine s_ior E dX1_goodWithout_34 ?_
    refine z_any (fun z_14 => ?_)
    exact r_int E dX1_goodWithout_35 ⟨⟨by have hb_ := z32 z_14; omega, by have hb_ := z32 z_14; omega⟩, rfl⟩
set_option maxRecDepth 20000 in
set_option maxHeartbeats 2000000 in
theorem Z_X1_lookBack_85_r69 (l : Launch) (D : va_G) (aC : Nat → ClassId) (b : Nat) (w : XW) (x1 : Int32) (hI : Iv w) (hx1 : 0 ≤ x1.toInt ∧ x1.toInt ≤ 14) : CnV l D aC b M_X1_lookBack 2 46 0 0 [AR 85, AR 69, AI x1] w (fun u => Jv w u) := by
  refine cn_V (own := RX1) (nm := "lookBack") (L0 := [some (AR 85), some (AR 69), some (AI x1), none]) (by decide +kernel) rfl rfl (Nat.le_of_ble_eq_true rfl) rfl ?_
  intro p e s m args below meth c E hin
  have hJ : Jv w w := jv_rfl hI
  refine s_aload_n E dX1_lookBack_0 rfl rfl ?_
  refine s_gR (r := 87) E fg_X1_15 rfl rfl (jv_lt hJ (by decide)) (jv_r hJ (by decide +kernel)) dX1_lookBack_1 ?_
  refine s_iload_n E dX1_lookBack_4 rfl rfl ?_
  refine s_iconst (v := 1) E dX1_lookBack_5 (by decide) ?_
  refine s_aload_n E dX1_lookBack_6 rfl rfl ?_
  refine s_aload_n E dX1_lookBack_7 rfl rfl ?_
  refine s_gI E fg_X1_25 rfl rfl (jv_lt hJ (by decide)) dX1_lookBack_8 ?_
  refine z_nm (P := fun z => z.toInt = (w.2.2.1 85 4).toInt) rfl (fun z_1 hz_1 => ?_)
  refine s_iload_n E dX1_lookBack_11 rfl rfl ?_
  refine s_vI (As := [AI z_1, AI x1]) (S := [AI 1, AI x1, AR 87]) E (Z_X2_placeOf_69 l D aC b w z_1 x1 hJ.1 ) cv_X1_45 rfl rfl rfl (jv_lt hJ (by decide)) (Nat.le_of_ble_eq_true rfl) (Nat.le_of_ble_eq_true rfl) ⟨(Nat.le_of_ble_eq_true rfl), (Nat.le_of_ble_eq_true rfl)⟩ (Nat.le_of_ble_eq_true rfl) dX1_lookBack_12 (fun z_4 u_2 hp_3 => ?_)
  obtain ⟨hz_4, hp_3⟩ := hp_3
  subst hp_3
  refine s_ishl E dX1_lookBack_15 ?_
  refine z_any (fun z_6 => ?_)
  refine s_iast E rfl (jv_lt hJ (by decide)) (z_in (u := x1.toInt) rfl (by omega) (by omega)) dX1_lookBack_16 ?_
  refine s_gen (P := Jv w) (jv_a_87 hJ (by have hb_ := z32 z_6; omega) (by have hb_ := z32 z_6; omega)) (fun v_7 hj_8 => ?_)
  refine s_aload_n E dX1_lookBack_17 rfl rfl ?_
  refine s_gR (r := 88) E fg_X1_18 rfl rfl (jv_lt hj_8 (by decide)) (jv_r hj_8 (by decide +kernel)) dX1_lookBack_18 ?_
  refine s_iload_n E dX1_lookBack_21 rfl rfl ?_
  refine s_iconst (v := 0) E dX1_lookBack_22 (by decide) ?_
  refine s_iast E rfl (jv_lt hj_8 (by decide)) (z_in (u := x1.toInt) rfl (by omega) (by omega)) dX1_lookBack_23 ?_
  refine s_gen (P := Jv w) (jv_a_88 hj_8 (by decide) (by decide)) (fun v_9 hj_10 => ?_)
  refine s_iload_n E dX1_lookBack_24 rfl rfl ?_
  refine s_iconst (v := 1) E dX1_lookBack_25 (by decide) ?_
  refine z_isub (u := x1.toInt) (v := 1) E dX1_lookBack_26 rfl (by decide) (by omega) (by omega) (fun z_11 hz_11 => ?_)
  refine s_istore_n (L2 := [some (AR 85), some (AR 69), some (AI x1), some (AI z_11)]) E dX1_lookBack_27 rfl (by decide) rfl ?_
  refine z_loop (St := Int32) (Pi := fun q28_3_11 v28 => ((-1) ≤ q28_3_11.toInt ∧ q28_3_11.toInt ≤ 13) ∧ Jv w v28) (Lf := fun q28_3_11 => [some (AR 85), some (AR 69), some (AI x1), some (AI q28_3_11)]) (fun q28_3_11 _ => (q28_3_11.toInt - (-1)).toNat) z_11 ⟨⟨by have hb_ := z32 z_11; omega, by have hb_ := z32 z_11; omega⟩, hj_10⟩ ?_
  rintro q28_3_11 v28 ⟨hq28_3, hj_12⟩ ih28
  refine s_loc (L2 := [some (AR 85), some (AR 69), some (AI x1), some (AI q28_3_11)]) rfl ?_
  refine s_iload_n E dX1_lookBack_28 rfl rfl ?_
  refine z_if_lt (tgt := 82) (u := q28_3_11.toInt) E dX1_lookBack_29 (by decide) rfl (fun h_13 => ?_) (fun h_13 => ?_)
  ·
    exact r_void E dX1_lookBack_82 hj_12
  ·
    refine s_aload_n E dX1_lookBack_32 rfl rfl ?_
    refine s_gR (r := 87) E fg_X1_15 rfl rfl (jv_lt hj_12 (by decide)) (jv_r hj_12 (by decide +kernel)) dX1_lookBack_33 ?_
    refine s_iload_n E dX1_lookBack_36 rfl rfl ?_
    refine s_aload_n E dX1_lookBack_37 rfl rfl ?_
    refine s_aload_n E dX1_lookBack_38 rfl rfl ?_
    refine s_gI E fg_X1_21 rfl rfl (jv_lt hj_12 (by decide)) dX1_lookBack_39 ?_
    refine z_nm (P := fun z => z.toInt = (v28.2.2.1 85 3).toInt) rfl (fun z_14 hz_14 => ?_)
    refine s_aload_n E dX1_lookBack_42 rfl rfl ?_
    refine s_gR (r := 87) E fg_X1_15 rfl rfl (jv_lt hj_12 (by decide)) (jv_r hj_12 (by decide +kernel)) dX1_lookBack_43 ?_
    refine s_iload_n E dX1_lookBack_46 rfl rfl ?_
    refine s_iconst (v := 1) E dX1_lookBack_47 (by decide) ?_
    refine z_iadd (u := q28_3_11.toInt) (v := 1) E dX1_lookBack_48 rfl (by decide) (by omega) (by omega) (fun z_15 hz_15 => ?_)
    refine s_iald E rfl (jv_lt hj_12 (by decide)) (z_in (u := z_15.toInt) rfl (by omega) (by omega)) dX1_lookBack_49 ?_
    refine z_any (fun z_16 => ?_)
    refine s_vI (As := [AI z_14, AI z_16]) (S := [AI q28_3_11, AR 87]) E (Z_X2_spread_69 l D aC b v28 z_14 z_16 hj_12.1 ) cv_X1_66 rfl rfl rfl (jv_lt hj_12 (by decide)) (Nat.le_of_ble_eq_true rfl) (Nat.le_of_ble_eq_true rfl) ⟨(Nat.le_of_ble_eq_true rfl), (Nat.le_of_ble_eq_true rfl)⟩ (Nat.le_of_ble_eq_true rfl) dX1_lookBack_50 (fun z_19 u_17 hp_18 => ?_)
    obtain ⟨hz_19, hp_18⟩ := hp_18
    have hj_20 := jv_trans hj_12 hp_18
    refine s_iast E rfl (jv_lt hj_20 (by decide)) (z_in (u := q28_3_11.toInt) rfl (by omega) (by omega)) dX1_lookBack_53 ?_
    refine s_gen (P := Jv w) (jv_a_87 hj_20 (by have hb_ := z32 z_19; omega) (by have hb_ := z32 z_19; omega)) (fun v_21 hj_22 => ?_)
    refine s_aload_n E dX1_lookBack_54 rfl rfl ?_
    refine s_gR (r := 88) E fg_X1_18 rfl rfl (jv_lt hj_22 (by decide)) (jv_r hj_22 (by decide +kernel)) dX1_lookBack_55 ?_
    refine s_iload_n E dX1_lookBack_58 rfl rfl ?_
    refine s_aload_n E dX1_lookBack_59 rfl rfl ?_
    refine s_aload_n E dX1_lookBack_60 rfl rfl ?_
    refine s_gI E fg_X1_21 rfl rfl (jv_lt hj_22 (by decide)) dX1_lookBack_61 ?_
    refine z_nm (P := fun z => z.toInt = (v_21.2.2.1 85 3).toInt) rfl (fun z_23 hz_23 => ?_)
    refine s_aload_n E dX1_lookBack_64 rfl rfl ?_
    refine s_iload_n E dX1_lookBack_65 rfl rfl ?_
    refine s_iconst (v := 1) E dX1_lookBack_66 (by decide) ?_
    refine z_iadd (u := q28_3_11.toInt) (v := 1) E dX1_lookBack_67 rfl (by decide) (by omega) (by omega) (fun z_24 hz_24 => ?_)
    refine s_iload_n E dX1_lookBack_68 rfl rfl ?_
    refine s_vI (As := [AI z_24, AI x1]) (S := [AI z_23, AR 69, AI q28_3_11, AR 88]) E (Z_X1_goodWithout_85 l D aC b v_21 z_24 x1 hj_22.1 ⟨by have hb_ := z32 z_24; omega, by have hb_ := z32 z_24; omega⟩) cv_X1_69 rfl rfl rfl (jv_lt hj_22 (by decide)) (Nat.le_of_ble_eq_true rfl) (Nat.le_of_ble_eq_true rfl) ⟨(Nat.le_of_ble_eq_true rfl), (Nat.le_of_ble_eq_true rfl)⟩ (Nat.le_of_ble_eq_true rfl) dX1_lookBack_69 (fun z_27 u_25 hp_26 => ?_)
    obtain ⟨hz_27, hp_26⟩ := hp_26
    subst hp_26
    refine s_vI (As := [AI z_23, AI z_27]) (S := [AI q28_3_11, AR 88]) E (Z_X2_spread_69 l D aC b v_21 z_23 z_27 hj_22.1 ) cv_X1_66 rfl rfl rfl (jv_lt hj_22 (by decide)) (Nat.le_of_ble_eq_true rfl) (Nat.le_of_ble_eq_true rfl) ⟨(Nat.le_of_ble_eq_true rfl), (Nat.le_of_ble_eq_true rfl)⟩ (Nat.le_of_ble_eq_true rfl) dX1_lookBack_72 (fun z_31 u_29 hp_30 => ?_)
    obtain ⟨hz_31, hp_30⟩ := hp_30
    have hj_32 := jv_trans hj_22 hp_30
    refine s_iast E rfl (jv_lt hj_32 (by decide)) (z_in (u := q28_3_11.toInt) rfl (by omega) (by omega)) dX1_lookBack_75 ?_
    refine s_gen (P := Jv w) (jv_a_88 hj_32 (by have hb_ := z32 z_31; omega) (by have hb_ := z32 z_31; omega)) (fun v_33 hj_34 => ?_)
    refine z_iinc (u := q28_3_11.toInt) (L2 := fun z_35 => [some (AR 85), some (AR 69), some (AI x1), some (AI z_35)]) E dX1_lookBack_76 rfl rfl (by decide) (fun _ => rfl) (by decide) (by omega) (by omega) (fun z_35 hz_35 => ?_)
    refine s_goto (tgt := 28) E dX1_lookBack_79 (by decide) ?_
    exact ih28 z_35 v_33 ⟨⟨by have hb_ := z32 z_35; omega, by have hb_ := z32 z_35; omega⟩, hj_34⟩ (by first | omega | (dsimp only; omega))
set_option maxRecDepth 20000 in
set_option maxHeartbeats 2000000 in
theorem Z_X1_soonest_85_r69 (l : Launch) (D : va_G) (aC : Nat → ClassId) (b : Nat) (w : XW)  (hI : Iv w)  : CnI l D aC b M_X1_soonest 3 69 0 0 [AR 85, AR 69] w (fun r u => ((-1) ≤ r.toInt ∧ r.toInt ≤ 14 ∧ (¬ r.toInt = 0 ∨ (1 ≤ (w.2.2.1 85 7).toInt ∧ (w.2.2.1 85 7).toInt ≤ 1)) ∧ (r.toInt = 0 ∨ (0 ≤ (w.2.2.1 85 7).toInt ∧ (w.2.2.1 85 7).toInt ≤ 0))) ∧ Jv w u) := by
  refine cn_I (own := RX1) (nm := "soonest") (L0 := [some (AR 85), some (AR 69), none, none]) (by decide +kernel) rfl rfl (Nat.le_of_ble_eq_true rfl) rfl ?_
  intro p e s m args below meth c E hin
  have hJ : Jv w w := jv_rfl hI
  refine s_aload_n E dX1_soonest_0 rfl rfl ?_
  refine s_gI E fg_X1_59 rfl rfl (jv_lt hJ (by decide)) dX1_soonest_1 ?_
  refine z_nm (P := fun z => z.toInt = (w.2.2.1 85 7).toInt ∧ 0 ≤ z.toInt ∧ z.toInt ≤ 1) ⟨rfl, (rg_85_7 hJ)⟩ (fun z_1 hz_1 => ?_)
  refine z_if_eq (tgt := 9) (u := z_1.toInt) E dX1_soonest_4 (by decide) rfl (fun h_2 => ?_) (fun h_2 => ?_)
  ·
    refine s_aload_n E dX1_soonest_9 rfl rfl ?_
    refine s_aload_n E dX1_soonest_10 rfl rfl ?_
    refine s_gI E fg_X1_21 rfl rfl (jv_lt hJ (by decide)) dX1_soonest_11 ?_
    refine z_nm (P := fun z => z.toInt = (w.2.2.1 85 3).toInt) rfl (fun z_3 hz_3 => ?_)
    refine s_iconst (v := 0) E dX1_soonest_14 (by decide) ?_
    refine s_vI (As := [AI z_3, AI 0]) (S := []) E (Z_X2_placeOf_69 l D aC b w z_3 0 hJ.1 ) cv_X1_45 rfl rfl rfl (jv_lt hJ (by decide)) (Nat.le_of_ble_eq_true rfl) (Nat.le_of_ble_eq_true rfl) ⟨(Nat.le_of_ble_eq_true rfl), (Nat.le_of_ble_eq_true rfl)⟩ (Nat.le_of_ble_eq_true rfl) dX1_soonest_15 (fun z_6 u_4 hp_5 => ?_)
    obtain ⟨hz_6, hp_5⟩ := hp_5
    subst hp_5
    refine s_istore_n (L2 := [some (AR 85), some (AR 69), some (AI z_6), none]) E dX1_soonest_18 rfl (by decide) rfl ?_
    refine s_iconst (v := 1) E dX1_soonest_19 (by decide) ?_
    refine s_istore_n (L2 := [some (AR 85), some (AR 69), some (AI z_6), some (AI 1)]) E dX1_soonest_20 rfl (by decide) rfl ?_
    refine z_loop (St := Int32) (Pi := fun q21_3_7 v21 => (1 ≤ q21_3_7.toInt ∧ q21_3_7.toInt ≤ 15) ∧ Jv w v21) (Lf := fun q21_3_7 => [some (AR 85), some (AR 69), some (AI z_6), some (AI q21_3_7)]) (fun q21_3_7 _ => (16 - q21_3_7.toInt).toNat) 1 ⟨⟨by decide, by decide⟩, hJ⟩ ?_
    rintro q21_3_7 v21 ⟨hq21_3, hj_8⟩ ih21
    refine s_loc (L2 := [some (AR 85), some (AR 69), some (AI z_6), some (AI q21_3_7)]) rfl ?_
    refine s_iload_n E dX1_soonest_21 rfl rfl ?_
    refine s_aload_n E dX1_soonest_22 rfl rfl ?_
    refine s_gI E fg_X1_33 rfl rfl (jv_lt hj_8 (by decide)) dX1_soonest_23 ?_
    refine z_nm (P := fun z => z.toInt = (v21.2.2.1 85 5).toInt ∧ 0 ≤ z.toInt ∧ z.toInt ≤ 14) ⟨rfl, (rg_85_5 hj_8)⟩ (fun z_9 hz_9 => ?_)
    refine z_icmp_gt (tgt := 72) (u := q21_3_7.toInt) (v := z_9.toInt) E dX1_soonest_26 (by decide) rfl rfl (fun h_10 => ?_) (fun h_10 => ?_)
    ·
      refine s_iconst (v := (-1)) E dX1_soonest_72 (by decide) ?_
      exact r_int E dX1_soonest_73 ⟨⟨by decide, by decide, by first | (left; decide) | (right; have hb_ := z32 (w.2.2.1 85 7); omega), by first | (left; decide) | (right; have hb_ := z32 (w.2.2.1 85 7); omega)⟩, hj_8⟩
    ·
      refine s_aload_n E dX1_soonest_29 rfl rfl ?_
      refine s_aload_n E dX1_soonest_30 rfl rfl ?_
      refine s_iload_n E dX1_soonest_31 rfl rfl ?_
      refine s_vV (As := [AR 69, AI q21_3_7]) (S := []) E (Z_X1_lookBack_85_r69 l D aC b v21 q21_3_7 hj_8.1 ⟨by have hb_ := z32 q21_3_7; omega, by have hb_ := z32 q21_3_7; omega⟩) cv_X1_62 rfl rfl rfl (jv_lt hj_8 (by decide)) (Nat.le_of_ble_eq_true rfl) (Nat.le_of_ble_eq_true rfl) ⟨(Nat.le_of_ble_eq_true rfl), (Nat.le_of_ble_eq_true rfl)⟩ (Nat.le_of_ble_eq_true rfl) dX1_soonest_32 (fun u_11 hp_12 => ?_)
      have hj_13 := jv_trans hj_8 hp_12
      refine s_aload_n E dX1_soonest_35 rfl rfl ?_
      refine s_gI E fg_X1_55 rfl rfl (jv_lt hj_13 (by decide)) dX1_soonest_36 ?_
      refine z_nm (P := fun z => z.toInt = (u_11.2.2.1 85 6).toInt ∧ 0 ≤ z.toInt ∧ z.toInt ≤ 1) ⟨rfl, (rg_85_6 hj_13)⟩ (fun z_14 hz_14 => ?_)
      refine z_if_eq (tgt := 51) (u := z_14.toInt) E dX1_soonest_39 (by decide) rfl (fun h_15 => ?_) (fun h_15 => ?_)
      ·
        refine s_aload_n E dX1_soonest_51 rfl rfl ?_
        refine s_gR (r := 88) E fg_X1_18 rfl rfl (jv_lt hj_13 (by decide)) (jv_r hj_13 (by decide +kernel)) dX1_soonest_52 ?_
        refine s_iconst (v := 0) E dX1_soonest_55 (by decide) ?_
        refine s_iald E rfl (jv_lt hj_13 (by decide)) (z_in (u := 0) (by decide) (by omega) (by omega)) dX1_soonest_56 ?_
        refine z_any (fun z_16 => ?_)
        refine s_iload_n E dX1_soonest_57 rfl rfl ?_
        refine s_sI (As := [AI z_16, AI z_6]) (S := []) E (Z_X9_hasBit l D aC b u_11 z_16 z_6 hj_13.1 ) cs_X1_51 rfl rfl (Nat.le_of_ble_eq_true rfl) (Nat.le_of_ble_eq_true rfl) ⟨(Nat.le_of_ble_eq_true rfl), (Nat.le_of_ble_eq_true rfl)⟩ (Nat.le_of_ble_eq_true rfl) dX1_soonest_58 (fun z_19 u_17 hp_18 => ?_)
        obtain ⟨hz_19, hp_18⟩ := hp_18
        subst hp_18
        refine z_if_eq (tgt := 66) (u := z_19.toInt) E dX1_soonest_61 (by decide) rfl (fun h_21 => ?_) (fun h_21 => ?_)
        ·
          refine z_iinc (u := q21_3_7.toInt) (L2 := fun z_22 => [some (AR 85), some (AR 69), some (AI z_6), some (AI z_22)]) E dX1_soonest_66 rfl rfl (by decide) (fun _ => rfl) (by decide) (by omega) (by omega) (fun z_22 hz_22 => ?_)
          refine s_goto (tgt := 21) E dX1_soonest_69 (by decide) ?_
          exact ih21 z_22 u_11 ⟨⟨by have hb_ := z32 z_22; omega, by have hb_ := z32 z_22; omega⟩, hj_13⟩ (by first | omega | (dsimp only; omega))
        ·
          refine s_iload_n E dX1_soonest_64 rfl rfl ?_
          exact r_int E dX1_soonest_65 ⟨⟨by have hb_ := z32 q21_3_7; omega, by have hb_ := z32 q21_3_7; omega, by have hb_ := z32 q21_3_7; have hc_ := z32 (w.2.2.1 85 7); omega, by have hb_ := z32 q21_3_7; have hc_ := z32 (w.2.2.1 85 7); omega⟩, hj_13⟩
      ·
        refine s_aload_n E dX1_soonest_42 rfl rfl ?_
        refine s_gR (r := 87) E fg_X1_15 rfl rfl (jv_lt hj_13 (by decide)) (jv_r hj_13 (by decide +kernel)) dX1_soonest_43 ?_
        refine s_iconst (v := 0) E dX1_soonest_46 (by decide) ?_
        refine s_iald E rfl (jv_lt hj_13 (by decide)) (z_in (u := 0) (by decide) (by omega) (by omega)) dX1_soonest_47 ?_
        refine z_any (fun z_23 => ?_)
        refine s_goto (tgt := 57) E dX1_soonest_48 (by decide) ?_
        refine s_iload_n E dX1_soonest_57 rfl rfl ?_
        refine s_sI (As := [AI z_23, AI z_6]) (S := []) E (Z_X9_hasBit l D aC b u_11 z_23 z_6 hj_13.1 ) cs_X1_51 rfl rfl (Nat.le_of_ble_eq_true rfl) (Nat.le_of_ble_eq_true rfl) ⟨(Nat.le_of_ble_eq_true rfl), (Nat.le_of_ble_eq_true rfl)⟩ (Nat.le_of_ble_eq_true rfl) dX1_soonest_58 (fun z_26 u_24 hp_25 => ?_)
        obtain ⟨hz_26, hp_25⟩ := hp_25
        subst hp_25
        refine z_if_eq (tgt := 66) (u := z_26.toInt) E dX1_soonest_61 (by decide) rfl (fun h_28 => ?_) (fun h_28 => ?_)
        ·
          refine z_iinc (u := q21_3_7.toInt) (L2 := fun z_29 => [some (AR 85), some (AR 69), some (AI z_6), some (AI z_29)]) E dX1_soonest_66 rfl rfl (by decide) (fun _ => rfl) (by decide) (by omega) (by omega) (fun z_29 hz_29 => ?_)
          refine s_goto (tgt := 21) E dX1_soonest_69 (by decide) ?_
          exact ih21 z_29 u_11 ⟨⟨by have hb_ := z32 z_29; omega, by have hb_ := z32 z_29; omega⟩, hj_13⟩ (by first | omega | (dsimp only; omega))
        ·
          refine s_iload_n E dX1_soonest_64 rfl rfl ?_
          exact r_int E dX1_soonest_65 ⟨⟨by have hb_ := z32 q21_3_7; omega, by have hb_ := z32 q21_3_7; omega, by have hb_ := z32 q21_3_7; have hc_ := z32 (w.2.2.1 85 7); omega, by have hb_ := z32 q21_3_7; have hc_ := z32 (w.2.2.1 85 7); omega⟩, hj_13⟩
  ·
    refine s_iconst (v := 0) E dX1_soonest_7 (by decide) ?_
    exact r_int E dX1_soonest_8 ⟨⟨by decide, by decide, by first | (left; decide) | (right; have hb_ := z32 (w.2.2.1 85 7); omega), by first | (left; decide) | (right; have hb_ := z32 (w.2.2.1 85 7); omega)⟩, hJ⟩
set_option maxRecDepth 20000 in
set_option maxHeartbeats 2000000 in
theorem Z_X9_carry_0 (l : Launch) (D : va_G) (aC : Nat → ClassId) (b : Nat) (w : XW) (x1 : Int32) (x2 : Int32) (x3 : Int32) (hI : Iv w)  : CnI l D aC b M_X9_carry 4 94 0 0 [AR 0, AI x1, AI x2, AI x3] w (fun r u => ((-2) ≤ r.toInt ∧ r.toInt ≤ 14 ∧ (¬ r.toInt = 0 ∨ (0 ≤ x1.toInt ∧ x1.toInt ≤ 5)) ∧ (¬ r.toInt = 0 ∨ (0 ≤ x2.toInt ∧ x2.toInt ≤ 5)) ∧ (¬ r.toInt = 0 ∨ (0 ≤ x3.toInt ∧ x3.toInt ≤ 5)) ∧ (¬ r.toInt = 0 ∨ (1 ≤ (w.2.2.1 5 3).toInt ∧ (w.2.2.1 5 3).toInt ≤ 6))) ∧ Jv w u) := by
  refine cn_I (own := RX9) (nm := "carry") (L0 := [some (AR 0), some (AI x1), some (AI x2), some (AI x3)]) (by decide +kernel) rfl rfl (Nat.le_of_ble_eq_true rfl) rfl ?_
  intro p e s m args below meth c E hin
  have hJ : Jv w w := jv_rfl hI
  refine s_aload_n E dX9_carry_0 rfl rfl ?_
  refine s_gR (r := 2) E fg_X9_20 rfl rfl (jv_lt hJ (by decide)) (jv_r hJ (by decide +kernel)) dX9_carry_1 ?_
  refine s_iload_n E dX9_carry_4 rfl rfl ?_
  refine s_vI (As := [AI x1]) (S := []) E (Z_X0_hasLady_2 l D aC b w x1 hJ.1 ) cv_X9_139 rfl rfl rfl (jv_lt hJ (by decide)) (Nat.le_of_ble_eq_true rfl) (Nat.le_of_ble_eq_true rfl) ⟨(Nat.le_of_ble_eq_true rfl), (Nat.le_of_ble_eq_true rfl)⟩ (Nat.le_of_ble_eq_true rfl) dX9_carry_5 (fun z_3 u_1 hp_2 => ?_)
  obtain ⟨hz_3, hp_2⟩ := hp_2
  subst hp_2
  refine z_if_eq (tgt := 38) (u := z_3.toInt) E dX9_carry_8 (by decide) rfl (fun h_5 => ?_) (fun h_5 => ?_)
  ·
    refine s_bipush (v := (-2)) E dX9_carry_38 (by decide) ?_
    exact r_int E dX9_carry_40 ⟨⟨by decide, by decide, by first | (left; decide) | (right; have hb_ := z32 x1; omega), by first | (left; decide) | (right; have hb_ := z32 x2; omega), by first | (left; decide) | (right; have hb_ := z32 x3; omega), by first | (left; decide) | (right; have hb_ := z32 (w.2.2.1 5 3); omega)⟩, hJ⟩
  ·
    refine s_aload_n E dX9_carry_11 rfl rfl ?_
    refine s_gR (r := 2) E fg_X9_20 rfl rfl (jv_lt hJ (by decide)) (jv_r hJ (by decide +kernel)) dX9_carry_12 ?_
    refine s_iload_n E dX9_carry_15 rfl rfl ?_
    refine s_vI (As := [AI x2]) (S := []) E (Z_X0_hasLady_2 l D aC b w x2 hJ.1 ) cv_X9_139 rfl rfl rfl (jv_lt hJ (by decide)) (Nat.le_of_ble_eq_true rfl) (Nat.le_of_ble_eq_true rfl) ⟨(Nat.le_of_ble_eq_true rfl), (Nat.le_of_ble_eq_true rfl)⟩ (Nat.le_of_ble_eq_true rfl) dX9_carry_16 (fun z_8 u_6 hp_7 => ?_)
    obtain ⟨hz_8, hp_7⟩ := hp_7
    subst hp_7
    refine z_if_eq (tgt := 38) (u := z_8.toInt) E dX9_carry_19 (by decide) rfl (fun h_10 => ?_) (fun h_10 => ?_)
    ·
      refine s_bipush (v := (-2)) E dX9_carry_38 (by decide) ?_
      exact r_int E dX9_carry_40 ⟨⟨by decide, by decide, by first | (left; decide) | (right; have hb_ := z32 x1; omega), by first | (left; decide) | (right; have hb_ := z32 x2; omega), by first | (left; decide) | (right; have hb_ := z32 x3; omega), by first | (left; decide) | (right; have hb_ := z32 (w.2.2.1 5 3); omega)⟩, hJ⟩
    ·
      refine s_aload_n E dX9_carry_22 rfl rfl ?_
      refine s_gR (r := 2) E fg_X9_20 rfl rfl (jv_lt hJ (by decide)) (jv_r hJ (by decide +kernel)) dX9_carry_23 ?_
      refine s_iload_n E dX9_carry_26 rfl rfl ?_
      refine s_vI (As := [AI x3]) (S := []) E (Z_X0_hasLady_2 l D aC b w x3 hJ.1 ) cv_X9_139 rfl rfl rfl (jv_lt hJ (by decide)) (Nat.le_of_ble_eq_true rfl) (Nat.le_of_ble_eq_true rfl) ⟨(Nat.le_of_ble_eq_true rfl), (Nat.le_of_ble_eq_true rfl)⟩ (Nat.le_of_ble_eq_true rfl) dX9_carry_27 (fun z_13 u_11 hp_12 => ?_)
      obtain ⟨hz_13, hp_12⟩ := hp_12
      subst hp_12
      refine z_if_eq (tgt := 38) (u := z_13.toInt) E dX9_carry_30 (by decide) rfl (fun h_15 => ?_) (fun h_15 => ?_)
      ·
        refine s_bipush (v := (-2)) E dX9_carry_38 (by decide) ?_
        exact r_int E dX9_carry_40 ⟨⟨by decide, by decide, by first | (left; decide) | (right; have hb_ := z32 x1; omega), by first | (left; decide) | (right; have hb_ := z32 x2; omega), by first | (left; decide) | (right; have hb_ := z32 x3; omega), by first | (left; decide) | (right; have hb_ := z32 (w.2.2.1 5 3); omega)⟩, hJ⟩
      ·
        refine s_iload_n E dX9_carry_33 rfl rfl ?_
        refine s_iload_n E dX9_carry_34 rfl rfl ?_
        refine z_icmp_ne (tgt := 41) (u := x2.toInt) (v := x3.toInt) E dX9_carry_35 (by decide) rfl rfl (fun h_16 => ?_) (fun h_16 => ?_)
        ·
          refine s_aload_n E dX9_carry_41 rfl rfl ?_
          refine s_gR (r := 81) E fg_X9_64 rfl rfl (jv_lt hJ (by decide)) (jv_r hJ (by decide +kernel)) dX9_carry_42 ?_
          refine s_aload_n E dX9_carry_45 rfl rfl ?_
          refine s_gR (r := 2) E fg_X9_20 rfl rfl (jv_lt hJ (by decide)) (jv_r hJ (by decide +kernel)) dX9_carry_46 ?_
          refine s_aload_n E dX9_carry_49 rfl rfl ?_
          refine s_gR (r := 2) E fg_X9_20 rfl rfl (jv_lt hJ (by decide)) (jv_r hJ (by decide +kernel)) dX9_carry_50 ?_
          refine s_gI E fg_X9_214 rfl rfl (jv_lt hJ (by decide)) dX9_carry_53 ?_
          refine z_nm (P := fun z => z.toInt = (w.2.2.1 2 3).toInt) rfl (fun z_17 hz_17 => ?_)
          refine s_iload_n E dX9_carry_56 rfl rfl ?_
          refine s_vV (As := [AR 2, AI z_17, AI x2]) (S := []) E (Z_X5_prepare_81_r2 l D aC b w z_17 x2 hJ.1 ) cv_X9_217 rfl rfl rfl (jv_lt hJ (by decide)) (Nat.le_of_ble_eq_true rfl) (Nat.le_of_ble_eq_true rfl) ⟨(Nat.le_of_ble_eq_true rfl), (Nat.le_of_ble_eq_true rfl)⟩ (Nat.le_of_ble_eq_true rfl) dX9_carry_57 (fun u_18 hp_19 => ?_)
          have hj_20 := jv_trans hJ hp_19
          refine s_aload_n E dX9_carry_60 rfl rfl ?_
          refine s_gR (r := 81) E fg_X9_64 rfl rfl (jv_lt hj_20 (by decide)) (jv_r hj_20 (by decide +kernel)) dX9_carry_61 ?_
          refine s_aload_n E dX9_carry_64 rfl rfl ?_
          refine s_gR (r := 69) E fg_X9_54 rfl rfl (jv_lt hj_20 (by decide)) (jv_r hj_20 (by decide +kernel)) dX9_carry_65 ?_
          refine s_iload_n E dX9_carry_68 rfl rfl ?_
          refine s_iconst (v := 0) E dX9_carry_69 (by decide) ?_
          refine s_vV (As := [AR 69, AI x1, AI 0]) (S := []) E (Z_X5_follow_81_r69 l D aC b u_18 x1 0 hj_20.1 ) cv_X9_220 rfl rfl rfl (jv_lt hj_20 (by decide)) (Nat.le_of_ble_eq_true rfl) (Nat.le_of_ble_eq_true rfl) ⟨(Nat.le_of_ble_eq_true rfl), (Nat.le_of_ble_eq_true rfl)⟩ (Nat.le_of_ble_eq_true rfl) dX9_carry_70 (fun u_21 hp_22 => ?_)
          have hj_23 := jv_trans hj_20 hp_22
          refine s_aload_n E dX9_carry_73 rfl rfl ?_
          refine s_gR (r := 85) E fg_X9_71 rfl rfl (jv_lt hj_23 (by decide)) (jv_r hj_23 (by decide +kernel)) dX9_carry_74 ?_
          refine s_aload_n E dX9_carry_77 rfl rfl ?_
          refine s_gR (r := 69) E fg_X9_54 rfl rfl (jv_lt hj_23 (by decide)) (jv_r hj_23 (by decide +kernel)) dX9_carry_78 ?_
          refine s_aload_n E dX9_carry_81 rfl rfl ?_
          refine s_gR (r := 81) E fg_X9_64 rfl rfl (jv_lt hj_23 (by decide)) (jv_r hj_23 (by decide +kernel)) dX9_carry_82 ?_
          refine s_iload_n E dX9_carry_85 rfl rfl ?_
          refine s_iload_n E dX9_carry_86 rfl rfl ?_
          refine s_vV (As := [AR 69, AR 81, AI x2, AI x3]) (S := []) E (Z_X1_prepare_85_r69_r81 l D aC b u_21 x2 x3 hj_23.1 ) cv_X9_243 rfl rfl rfl (jv_lt hj_23 (by decide)) (Nat.le_of_ble_eq_true rfl) (Nat.le_of_ble_eq_true rfl) ⟨(Nat.le_of_ble_eq_true rfl), (Nat.le_of_ble_eq_true rfl)⟩ (Nat.le_of_ble_eq_true rfl) dX9_carry_87 (fun u_24 hp_25 => ?_)
          have hj_26 := jv_trans hj_23 hp_25
          refine s_aload_n E dX9_carry_90 rfl rfl ?_
          refine s_gR (r := 85) E fg_X9_71 rfl rfl (jv_lt hj_26 (by decide)) (jv_r hj_26 (by decide +kernel)) dX9_carry_91 ?_
          refine s_aload_n E dX9_carry_94 rfl rfl ?_
          refine s_gR (r := 69) E fg_X9_54 rfl rfl (jv_lt hj_26 (by decide)) (jv_r hj_26 (by decide +kernel)) dX9_carry_95 ?_
          refine s_vI (As := [AR 69]) (S := []) E (Z_X1_soonest_85_r69 l D aC b u_24  hj_26.1 ) cv_X9_246 rfl rfl rfl (jv_lt hj_26 (by decide)) (Nat.le_of_ble_eq_true rfl) (Nat.le_of_ble_eq_true rfl) ⟨(Nat.le_of_ble_eq_true rfl), (Nat.le_of_ble_eq_true rfl)⟩ (Nat.le_of_ble_eq_true rfl) dX9_carry_98 (fun z_29 u_27 hp_28 => ?_)
          obtain ⟨hz_29, hp_28⟩ := hp_28
          have hj_30 := jv_trans hj_26 hp_28
          exact r_int E dX9_carry_101 ⟨⟨by have hb_ := z32 z_29; omega, by have hb_ := z32 z_29; omega, by have hb_ := z32 z_29; have hc_ := z32 x1; omega, by have hb_ := z32 z_29; have hc_ := z32 x2; omega, by have hb_ := z32 z_29; have hc_ := z32 x3; omega, by have hb_ := z32 z_29; have hc_ := z32 (w.2.2.1 5 3); omega⟩, hj_30⟩
        ·
          refine s_bipush (v := (-2)) E dX9_carry_38 (by decide) ?_
          exact r_int E dX9_carry_40 ⟨⟨by decide, by decide, by first | (left; decide) | (right; have hb_ := z32 x1; omega), by first | (left; decide) | (right; have hb_ := z32 x2; omega), by first | (left; decide) | (right; have hb_ := z32 x3; omega), by first | (left; decide) | (right; have hb_ := z32 (w.2.2.1 5 3); omega)⟩, hJ⟩
set_option maxRecDepth 20000 in
set_option maxHeartbeats 2000000 in
theorem Z_X9_lowest (l : Launch) (D : va_G) (aC : Nat → ClassId) (b : Nat) (w : XW) (x1 : Int32) (hI : Iv w)  : CnI l D aC b M_X9_lowest 1 21 0 0 [AI x1] w (fun r u => ((-1) ≤ r.toInt ∧ r.toInt ≤ 31) ∧ Jv w u) := by
  refine cn_I (own := RX9) (nm := "lowest") (L0 := [some (AI x1), none]) (by decide +kernel) rfl rfl (Nat.le_of_ble_eq_true rfl) rfl ?_
  intro p e s m args below meth c E hin
  have hJ : Jv w w := jv_rfl hI
  refine s_iconst (v := 0) E dX9_lowest_0 (by decide) ?_
  refine s_istore_n (L2 := [some (AI x1), some (AI 0)]) E dX9_lowest_1 rfl (by decide) rfl ?_
  refine z_loop (St := Int32) (Pi := fun q2_1_0 v2 => (0 ≤ q2_1_0.toInt ∧ q2_1_0.toInt ≤ 32) ∧ Jv w v2) (Lf := fun q2_1_0 => [some (AI x1), some (AI q2_1_0)]) (fun q2_1_0 _ => (33 - q2_1_0.toInt).toNat) 0 ⟨⟨by decide, by decide⟩, hJ⟩ ?_
  rintro q2_1_0 v2 ⟨hq2_1, hj_1⟩ ih2
  refine s_loc (L2 := [some (AI x1), some (AI q2_1_0)]) rfl ?_
  refine s_iload_n E dX9_lowest_2 rfl rfl ?_
  refine s_bipush (v := 32) E dX9_lowest_3 (by decide) ?_
  refine z_icmp_ge (tgt := 24) (u := q2_1_0.toInt) (v := 32) E dX9_lowest_5 (by decide) rfl (by decide) (fun h_2 => ?_) (fun h_2 => ?_)
  ·
    refine s_iconst (v := (-1)) E dX9_lowest_24 (by decide) ?_
    exact r_int E dX9_lowest_25 ⟨(by decide), hj_1⟩
  ·
    refine s_iload_n E dX9_lowest_8 rfl rfl ?_
    refine s_iload_n E dX9_lowest_9 rfl rfl ?_
    refine s_sI (As := [AI x1, AI q2_1_0]) (S := []) E (Z_X9_hasBit l D aC b v2 x1 q2_1_0 hj_1.1 ) cs_X9_175 rfl rfl (Nat.le_of_ble_eq_true rfl) (Nat.le_of_ble_eq_true rfl) ⟨(Nat.le_of_ble_eq_true rfl), (Nat.le_of_ble_eq_true rfl)⟩ (Nat.le_of_ble_eq_true rfl) dX9_lowest_10 (fun z_5 u_3 hp_4 => ?_)
    obtain ⟨hz_5, hp_4⟩ := hp_4
    subst hp_4
    refine z_if_eq (tgt := 18) (u := z_5.toInt) E dX9_lowest_13 (by decide) rfl (fun h_7 => ?_) (fun h_7 => ?_)
    ·
      refine z_iinc (u := q2_1_0.toInt) (L2 := fun z_8 => [some (AI x1), some (AI z_8)]) E dX9_lowest_18 rfl rfl (by decide) (fun _ => rfl) (by decide) (by omega) (by omega) (fun z_8 hz_8 => ?_)
      refine s_goto (tgt := 2) E dX9_lowest_21 (by decide) ?_
      exact ih2 z_8 v2 ⟨⟨by have hb_ := z32 z_8; omega, by have hb_ := z32 z_8; omega⟩, hj_1⟩ (by first | omega | (dsimp only; omega))
    ·
      refine s_iload_n E dX9_lowest_16 rfl rfl ?_
      exact r_int E dX9_lowest_17 ⟨⟨by have hb_ := z32 q2_1_0; omega, by have hb_ := z32 q2_1_0; omega⟩, hj_1⟩
set_option maxRecDepth 20000 in
set_option maxHeartbeats 2000000 in
theorem Z_X1_roomAt_85_r69 (l : Launch) (D : va_G) (aC : Nat → ClassId) (b : Nat) (w : XW) (x1 : Int32) (x2 : Int32) (hI : Iv w) (hx1 : 0 ≤ x1.toInt ∧ x1.toInt ≤ 14) : CnI l D aC b M_X1_roomAt 2 44 0 0 [AR 85, AR 69, AI x1, AI x2] w (fun r u => ((-2147483648) ≤ r.toInt ∧ r.toInt ≤ 2147483647 ∧ (¬ r.toInt = 0 ∨ (0 ≤ (w.2.2.1 85 6).toInt ∧ (w.2.2.1 85 6).toInt ≤ 1)) ∧ (r.toInt = 0 ∨ (0 ≤ (w.2.2.1 85 6).toInt ∧ (w.2.2.1 85 6).toInt ≤ 1))) ∧ Jv w u) := by
  refine cn_I (own := RX1) (nm := "roomAt") (L0 := [some (AR 85), some (AR 69), some (AI x1), some (AI x2), none, none, none, none, none]) (by decide +kernel) rfl rfl (Nat.le_of_ble_eq_true rfl) rfl ?_
  intro p e s m args below meth c E hin
  have hJ : Jv w w := jv_rfl hI
  refine s_aload_n E dX1_roomAt_0 rfl rfl ?_
  refine s_aload_n E dX1_roomAt_1 rfl rfl ?_
  refine s_gI E fg_X1_21 rfl rfl (jv_lt hJ (by decide)) dX1_roomAt_2 ?_
  refine z_nm (P := fun z => z.toInt = (w.2.2.1 85 3).toInt) rfl (fun z_1 hz_1 => ?_)
  refine s_iconst (v := 0) E dX1_roomAt_5 (by decide) ?_
  refine s_vI (As := [AI z_1, AI 0]) (S := []) E (Z_X2_placeOf_69 l D aC b w z_1 0 hJ.1 ) cv_X1_45 rfl rfl rfl (jv_lt hJ (by decide)) (Nat.le_of_ble_eq_true rfl) (Nat.le_of_ble_eq_true rfl) ⟨(Nat.le_of_ble_eq_true rfl), (Nat.le_of_ble_eq_true rfl)⟩ (Nat.le_of_ble_eq_true rfl) dX1_roomAt_6 (fun z_4 u_2 hp_3 => ?_)
  obtain ⟨hz_4, hp_3⟩ := hp_3
  subst hp_3
  refine s_istore (L2 := [some (AR 85), some (AR 69), some (AI x1), some (AI x2), some (AI z_4), none, none, none, none]) E dX1_roomAt_9 (by decide) rfl ?_
  refine s_aload_n E dX1_roomAt_11 rfl rfl ?_
  refine s_gI E fg_X1_55 rfl rfl (jv_lt hJ (by decide)) dX1_roomAt_12 ?_
  refine z_nm (P := fun z => z.toInt = (w.2.2.1 85 6).toInt ∧ 0 ≤ z.toInt ∧ z.toInt ≤ 1) ⟨rfl, (rg_85_6 hJ)⟩ (fun z_6 hz_6 => ?_)
  refine s_istore (L2 := [some (AR 85), some (AR 69), some (AI x1), some (AI x2), some (AI z_4), some (AI z_6), none, none, none]) E dX1_roomAt_15 (by decide) rfl ?_
  refine s_iconst (v := 1) E dX1_roomAt_17 (by decide) ?_
  refine s_istore (L2 := [some (AR 85), some (AR 69), some (AI x1), some (AI x2), some (AI z_4), some (AI z_6), some (AI 1), none, none]) E dX1_roomAt_18 (by decide) rfl ?_
  refine z_loop (St := Int32 × Int32 × Int32) (Pi := fun ⟨q20_4_6, q20_5_6, q20_6_6⟩ v20 => (0 ≤ q20_5_6.toInt ∧ q20_5_6.toInt ≤ 1) ∧ (1 ≤ q20_6_6.toInt ∧ q20_6_6.toInt ≤ 15) ∧ Jv w v20) (Lf := fun ⟨q20_4_6, q20_5_6, q20_6_6⟩ => [some (AR 85), some (AR 69), some (AI x1), some (AI x2), some (AI q20_4_6), some (AI q20_5_6), some (AI q20_6_6), none, none]) (fun ⟨q20_4_6, q20_5_6, q20_6_6⟩ _ => (16 - q20_6_6.toInt).toNat) ⟨z_4, z_6, 1⟩ ⟨⟨by have hb_ := z32 z_6; omega, by have hb_ := z32 z_6; omega⟩, ⟨by decide, by decide⟩, hJ⟩ ?_
  rintro ⟨q20_4_6, q20_5_6, q20_6_6⟩ v20 ⟨hq20_5, hq20_6, hj_7⟩ ih20
  refine s_loc (L2 := [some (AR 85), some (AR 69), some (AI x1), some (AI x2), some (AI q20_4_6), some (AI q20_5_6), some (AI q20_6_6), none, none]) rfl ?_
  refine s_iload E dX1_roomAt_20 rfl ?_
  refine s_iload_n E dX1_roomAt_22 rfl rfl ?_
  refine z_icmp_gt (tgt := 122) (u := q20_6_6.toInt) (v := x2.toInt) E dX1_roomAt_23 (by decide) rfl rfl (fun h_8 => ?_) (fun h_8 => ?_)
  ·
    refine s_iload E dX1_roomAt_122 rfl ?_
    exact r_int E dX1_roomAt_124 ⟨⟨by have hb_ := z32 q20_4_6; omega, by have hb_ := z32 q20_4_6; omega, by have hb_ := z32 q20_4_6; have hc_ := z32 (w.2.2.1 85 6); omega, by have hb_ := z32 q20_4_6; have hc_ := z32 (w.2.2.1 85 6); omega⟩, hj_7⟩
  ·
    refine s_iload E dX1_roomAt_26 rfl ?_
    refine s_iload_n E dX1_roomAt_28 rfl rfl ?_
    refine z_icmp_gt (tgt := 122) (u := q20_6_6.toInt) (v := x1.toInt) E dX1_roomAt_29 (by decide) rfl rfl (fun h_9 => ?_) (fun h_9 => ?_)
    ·
      refine s_iload E dX1_roomAt_122 rfl ?_
      exact r_int E dX1_roomAt_124 ⟨⟨by have hb_ := z32 q20_4_6; omega, by have hb_ := z32 q20_4_6; omega, by have hb_ := z32 q20_4_6; have hc_ := z32 (w.2.2.1 85 6); omega, by have hb_ := z32 q20_4_6; have hc_ := z32 (w.2.2.1 85 6); omega⟩, hj_7⟩
    ·
      refine s_iload E dX1_roomAt_32 rfl ?_
      refine z_if_eq (tgt := 47) (u := q20_5_6.toInt) E dX1_roomAt_34 (by decide) rfl (fun h_10 => ?_) (fun h_10 => ?_)
      ·
        refine s_aload_n E dX1_roomAt_47 rfl rfl ?_
        refine s_iload E dX1_roomAt_48 rfl ?_
        refine s_iload_n E dX1_roomAt_50 rfl rfl ?_
        refine s_vI (As := [AI q20_6_6, AI x1]) (S := []) E (Z_X1_goodWithout_85 l D aC b v20 q20_6_6 x1 hj_7.1 ⟨by have hb_ := z32 q20_6_6; omega, by have hb_ := z32 q20_6_6; omega⟩) cv_X1_69 rfl rfl rfl (jv_lt hj_7 (by decide)) (Nat.le_of_ble_eq_true rfl) (Nat.le_of_ble_eq_true rfl) ⟨(Nat.le_of_ble_eq_true rfl), (Nat.le_of_ble_eq_true rfl)⟩ (Nat.le_of_ble_eq_true rfl) dX1_roomAt_51 (fun z_13 u_11 hp_12 => ?_)
        obtain ⟨hz_13, hp_12⟩ := hp_12
        subst hp_12
        refine s_istore (L2 := [some (AR 85), some (AR 69), some (AI x1), some (AI x2), some (AI q20_4_6), some (AI q20_5_6), some (AI q20_6_6), some (AI z_13), none]) E dX1_roomAt_54 (by decide) rfl ?_
        refine s_aload_n E dX1_roomAt_56 rfl rfl ?_
        refine s_aload_n E dX1_roomAt_57 rfl rfl ?_
        refine s_gI E fg_X1_21 rfl rfl (jv_lt hj_7 (by decide)) dX1_roomAt_58 ?_
        refine z_nm (P := fun z => z.toInt = (v20.2.2.1 85 3).toInt) rfl (fun z_15 hz_15 => ?_)
        refine s_iload E dX1_roomAt_61 rfl ?_
        refine s_vI (As := [AI z_15, AI q20_4_6]) (S := []) E (Z_X2_stepsFrom_69 l D aC b v20 z_15 q20_4_6 hj_7.1 ) cv_X1_72 rfl rfl rfl (jv_lt hj_7 (by decide)) (Nat.le_of_ble_eq_true rfl) (Nat.le_of_ble_eq_true rfl) ⟨(Nat.le_of_ble_eq_true rfl), (Nat.le_of_ble_eq_true rfl)⟩ (Nat.le_of_ble_eq_true rfl) dX1_roomAt_63 (fun z_18 u_16 hp_17 => ?_)
        obtain ⟨hz_18, hp_17⟩ := hp_17
        subst hp_17
        refine s_iload E dX1_roomAt_66 rfl ?_
        refine s_iand E dX1_roomAt_68 ?_
        refine z_any (fun z_20 => ?_)
        refine s_sI (As := [AI z_20]) (S := []) E (Z_X9_lowest l D aC b v20 z_20 hj_7.1 ) cs_X1_75 rfl rfl (Nat.le_of_ble_eq_true rfl) (Nat.le_of_ble_eq_true rfl) ⟨(Nat.le_of_ble_eq_true rfl), (Nat.le_of_ble_eq_true rfl)⟩ (Nat.le_of_ble_eq_true rfl) dX1_roomAt_69 (fun z_23 u_21 hp_22 => ?_)
        obtain ⟨hz_23, hp_22⟩ := hp_22
        have hj_24 := jv_trans hj_7 hp_22
        refine s_istore (L2 := [some (AR 85), some (AR 69), some (AI x1), some (AI x2), some (AI q20_4_6), some (AI q20_5_6), some (AI q20_6_6), some (AI z_13), some (AI z_23)]) E dX1_roomAt_72 (by decide) rfl ?_
        refine s_iload E dX1_roomAt_74 rfl ?_
        refine s_iconst (v := (-1)) E dX1_roomAt_76 (by decide) ?_
        refine z_icmp_ne (tgt := 85) (u := z_23.toInt) (v := (-1)) E dX1_roomAt_77 (by decide) rfl (by decide) (fun h_25 => ?_) (fun h_25 => ?_)
        ·
          refine s_iload E dX1_roomAt_85 rfl ?_
          refine s_istore (L2 := [some (AR 85), some (AR 69), some (AI x1), some (AI x2), some (AI z_23), some (AI q20_5_6), some (AI q20_6_6), some (AI z_13), some (AI z_23)]) E dX1_roomAt_87 (by decide) rfl ?_
          refine s_iload E dX1_roomAt_89 rfl ?_
          refine z_if_ne (tgt := 109) (u := q20_5_6.toInt) E dX1_roomAt_91 (by decide) rfl (fun h_26 => absurd h_26 (by omega)) (fun h_26 => ?_)
          refine s_aload_n E dX1_roomAt_94 rfl rfl ?_
          refine s_gR (r := 86) E fg_X1_9 rfl rfl (jv_lt hj_24 (by decide)) (jv_r hj_24 (by decide +kernel)) dX1_roomAt_95 ?_
          refine s_iload E dX1_roomAt_98 rfl ?_
          refine s_iald E rfl (jv_lt hj_24 (by decide)) (z_in (u := q20_6_6.toInt) rfl (by omega) (by omega)) dX1_roomAt_100 ?_
          refine z_any (fun z_27 => ?_)
          refine s_iload E dX1_roomAt_101 rfl ?_
          refine s_sI (As := [AI z_27, AI z_23]) (S := []) E (Z_X9_hasBit l D aC b u_21 z_27 z_23 hj_24.1 ) cs_X1_51 rfl rfl (Nat.le_of_ble_eq_true rfl) (Nat.le_of_ble_eq_true rfl) ⟨(Nat.le_of_ble_eq_true rfl), (Nat.le_of_ble_eq_true rfl)⟩ (Nat.le_of_ble_eq_true rfl) dX1_roomAt_103 (fun z_30 u_28 hp_29 => ?_)
          obtain ⟨hz_30, hp_29⟩ := hp_29
          subst hp_29
          refine z_if_eq (tgt := 113) (u := z_30.toInt) E dX1_roomAt_106 (by decide) rfl (fun h_32 => ?_) (fun h_32 => ?_)
          ·
            refine s_iconst (v := 0) E dX1_roomAt_113 (by decide) ?_
            refine s_istore (L2 := [some (AR 85), some (AR 69), some (AI x1), some (AI x2), some (AI z_23), some (AI 0), some (AI q20_6_6), some (AI z_13), some (AI z_23)]) E dX1_roomAt_114 (by decide) rfl ?_
            refine z_iinc (u := q20_6_6.toInt) (L2 := fun z_33 => [some (AR 85), some (AR 69), some (AI x1), some (AI x2), some (AI z_23), some (AI 0), some (AI z_33), some (AI z_13), some (AI z_23)]) E dX1_roomAt_116 rfl rfl (by decide) (fun _ => rfl) (by decide) (by omega) (by omega) (fun z_33 hz_33 => ?_)
            refine s_goto (tgt := 20) E dX1_roomAt_119 (by decide) ?_
            refine s_drop (i := 7) (L2 := [some (AR 85), some (AR 69), some (AI x1), some (AI x2), some (AI z_23), some (AI 0), some (AI z_33), none, some (AI z_23)]) rfl ?_
            refine s_drop (i := 8) (L2 := [some (AR 85), some (AR 69), some (AI x1), some (AI x2), some (AI z_23), some (AI 0), some (AI z_33), none, none]) rfl ?_
            exact ih20 ⟨z_23, 0, z_33⟩ u_21 ⟨⟨by decide, by decide⟩, ⟨by have hb_ := z32 z_33; omega, by have hb_ := z32 z_33; omega⟩, hj_24⟩ (by first | omega | (dsimp only; omega))
          ·
            refine s_iconst (v := 1) E dX1_roomAt_109 (by decide) ?_
            refine s_goto (tgt := 114) E dX1_roomAt_110 (by decide) ?_
            refine s_istore (L2 := [some (AR 85), some (AR 69), some (AI x1), some (AI x2), some (AI z_23), some (AI 1), some (AI q20_6_6), some (AI z_13), some (AI z_23)]) E dX1_roomAt_114 (by decide) rfl ?_
            refine z_iinc (u := q20_6_6.toInt) (L2 := fun z_34 => [some (AR 85), some (AR 69), some (AI x1), some (AI x2), some (AI z_23), some (AI 1), some (AI z_34), some (AI z_13), some (AI z_23)]) E dX1_roomAt_116 rfl rfl (by decide) (fun _ => rfl) (by decide) (by omega) (by omega) (fun z_34 hz_34 => ?_)
            refine s_goto (tgt := 20) E dX1_roomAt_119 (by decide) ?_
            refine s_drop (i := 7) (L2 := [some (AR 85), some (AR 69), some (AI x1), some (AI x2), some (AI z_23), some (AI 1), some (AI z_34), none, some (AI z_23)]) rfl ?_
            refine s_drop (i := 8) (L2 := [some (AR 85), some (AR 69), some (AI x1), some (AI x2), some (AI z_23), some (AI 1), some (AI z_34), none, none]) rfl ?_
            exact ih20 ⟨z_23, 1, z_34⟩ u_21 ⟨⟨by decide, by decide⟩, ⟨by have hb_ := z32 z_34; omega, by have hb_ := z32 z_34; omega⟩, hj_24⟩ (by first | omega | (dsimp only; omega))
        ·
          refine s_iload E dX1_roomAt_80 rfl ?_
          refine s_goto (tgt := 87) E dX1_roomAt_82 (by decide) ?_
          refine s_istore (L2 := [some (AR 85), some (AR 69), some (AI x1), some (AI x2), some (AI q20_4_6), some (AI q20_5_6), some (AI q20_6_6), some (AI z_13), some (AI z_23)]) E dX1_roomAt_87 (by decide) rfl ?_
          refine s_iload E dX1_roomAt_89 rfl ?_
          refine z_if_ne (tgt := 109) (u := q20_5_6.toInt) E dX1_roomAt_91 (by decide) rfl (fun h_35 => absurd h_35 (by omega)) (fun h_35 => ?_)
          refine s_aload_n E dX1_roomAt_94 rfl rfl ?_
          refine s_gR (r := 86) E fg_X1_9 rfl rfl (jv_lt hj_24 (by decide)) (jv_r hj_24 (by decide +kernel)) dX1_roomAt_95 ?_
          refine s_iload E dX1_roomAt_98 rfl ?_
          refine s_iald E rfl (jv_lt hj_24 (by decide)) (z_in (u := q20_6_6.toInt) rfl (by omega) (by omega)) dX1_roomAt_100 ?_
          refine z_any (fun z_36 => ?_)
          refine s_iload E dX1_roomAt_101 rfl ?_
          refine s_sI (As := [AI z_36, AI q20_4_6]) (S := []) E (Z_X9_hasBit l D aC b u_21 z_36 q20_4_6 hj_24.1 ) cs_X1_51 rfl rfl (Nat.le_of_ble_eq_true rfl) (Nat.le_of_ble_eq_true rfl) ⟨(Nat.le_of_ble_eq_true rfl), (Nat.le_of_ble_eq_true rfl)⟩ (Nat.le_of_ble_eq_true rfl) dX1_roomAt_103 (fun z_39 u_37 hp_38 => ?_)
          obtain ⟨hz_39, hp_38⟩ := hp_38
          subst hp_38
          refine z_if_eq (tgt := 113) (u := z_39.toInt) E dX1_roomAt_106 (by decide) rfl (fun h_41 => ?_) (fun h_41 => ?_)
          ·
            refine s_iconst (v := 0) E dX1_roomAt_113 (by decide) ?_
            refine s_istore (L2 := [some (AR 85), some (AR 69), some (AI x1), some (AI x2), some (AI q20_4_6), some (AI 0), some (AI q20_6_6), some (AI z_13), some (AI z_23)]) E dX1_roomAt_114 (by decide) rfl ?_
            refine z_iinc (u := q20_6_6.toInt) (L2 := fun z_42 => [some (AR 85), some (AR 69), some (AI x1), some (AI x2), some (AI q20_4_6), some (AI 0), some (AI z_42), some (AI z_13), some (AI z_23)]) E dX1_roomAt_116 rfl rfl (by decide) (fun _ => rfl) (by decide) (by omega) (by omega) (fun z_42 hz_42 => ?_)
            refine s_goto (tgt := 20) E dX1_roomAt_119 (by decide) ?_
            refine s_drop (i := 7) (L2 := [some (AR 85), some (AR 69), some (AI x1), some (AI x2), some (AI q20_4_6), some (AI 0), some (AI z_42), none, some (AI z_23)]) rfl ?_
            refine s_drop (i := 8) (L2 := [some (AR 85), some (AR 69), some (AI x1), some (AI x2), some (AI q20_4_6), some (AI 0), some (AI z_42), none, none]) rfl ?_
            exact ih20 ⟨q20_4_6, 0, z_42⟩ u_21 ⟨⟨by decide, by decide⟩, ⟨by have hb_ := z32 z_42; omega, by have hb_ := z32 z_42; omega⟩, hj_24⟩ (by first | omega | (dsimp only; omega))
          ·
            refine s_iconst (v := 1) E dX1_roomAt_109 (by decide) ?_
            refine s_goto (tgt := 114) E dX1_roomAt_110 (by decide) ?_
            refine s_istore (L2 := [some (AR 85), some (AR 69), some (AI x1), some (AI x2), some (AI q20_4_6), some (AI 1), some (AI q20_6_6), some (AI z_13), some (AI z_23)]) E dX1_roomAt_114 (by decide) rfl ?_
            refine z_iinc (u := q20_6_6.toInt) (L2 := fun z_43 => [some (AR 85), some (AR 69), some (AI x1), some (AI x2), some (AI q20_4_6), some (AI 1), some (AI z_43), some (AI z_13), some (AI z_23)]) E dX1_roomAt_116 rfl rfl (by decide) (fun _ => rfl) (by decide) (by omega) (by omega) (fun z_43 hz_43 => ?_)
            refine s_goto (tgt := 20) E dX1_roomAt_119 (by decide) ?_
            refine s_drop (i := 7) (L2 := [some (AR 85), some (AR 69), some (AI x1), some (AI x2), some (AI q20_4_6), some (AI 1), some (AI z_43), none, some (AI z_23)]) rfl ?_
            refine s_drop (i := 8) (L2 := [some (AR 85), some (AR 69), some (AI x1), some (AI x2), some (AI q20_4_6), some (AI 1), some (AI z_43), none, none]) rfl ?_
            exact ih20 ⟨q20_4_6, 1, z_43⟩ u_21 ⟨⟨by decide, by decide⟩, ⟨by have hb_ := z32 z_43; omega, by have hb_ := z32 z_43; omega⟩, hj_24⟩ (by first | omega | (dsimp only; omega))
      ·
        refine s_aload_n E dX1_roomAt_37 rfl rfl ?_
        refine s_gR (r := 87) E fg_X1_15 rfl rfl (jv_lt hj_7 (by decide)) (jv_r hj_7 (by decide +kernel)) dX1_roomAt_38 ?_
        refine s_iload E dX1_roomAt_41 rfl ?_
        refine s_iald E rfl (jv_lt hj_7 (by decide)) (z_in (u := q20_6_6.toInt) rfl (by omega) (by omega)) dX1_roomAt_43 ?_
        refine z_any (fun z_44 => ?_)
        refine s_goto (tgt := 54) E dX1_roomAt_44 (by decide) ?_
        refine s_istore (L2 := [some (AR 85), some (AR 69), some (AI x1), some (AI x2), some (AI q20_4_6), some (AI q20_5_6), some (AI q20_6_6), some (AI z_44), none]) E dX1_roomAt_54 (by decide) rfl ?_
        refine s_aload_n E dX1_roomAt_56 rfl rfl ?_
        refine s_aload_n E dX1_roomAt_57 rfl rfl ?_
        refine s_gI E fg_X1_21 rfl rfl (jv_lt hj_7 (by decide)) dX1_roomAt_58 ?_
        refine z_nm (P := fun z => z.toInt = (v20.2.2.1 85 3).toInt) rfl (fun z_45 hz_45 => ?_)
        refine s_iload E dX1_roomAt_61 rfl ?_
        refine s_vI (As := [AI z_45, AI q20_4_6]) (S := []) E (Z_X2_stepsFrom_69 l D aC b v20 z_45 q20_4_6 hj_7.1 ) cv_X1_72 rfl rfl rfl (jv_lt hj_7 (by decide)) (Nat.le_of_ble_eq_true rfl) (Nat.le_of_ble_eq_true rfl) ⟨(Nat.le_of_ble_eq_true rfl), (Nat.le_of_ble_eq_true rfl)⟩ (Nat.le_of_ble_eq_true rfl) dX1_roomAt_63 (fun z_48 u_46 hp_47 => ?_)
        obtain ⟨hz_48, hp_47⟩ := hp_47
        subst hp_47
        refine s_iload E dX1_roomAt_66 rfl ?_
        refine s_iand E dX1_roomAt_68 ?_
        refine z_any (fun z_50 => ?_)
        refine s_sI (As := [AI z_50]) (S := []) E (Z_X9_lowest l D aC b v20 z_50 hj_7.1 ) cs_X1_75 rfl rfl (Nat.le_of_ble_eq_true rfl) (Nat.le_of_ble_eq_true rfl) ⟨(Nat.le_of_ble_eq_true rfl), (Nat.le_of_ble_eq_true rfl)⟩ (Nat.le_of_ble_eq_true rfl) dX1_roomAt_69 (fun z_53 u_51 hp_52 => ?_)
        obtain ⟨hz_53, hp_52⟩ := hp_52
        have hj_54 := jv_trans hj_7 hp_52
        refine s_istore (L2 := [some (AR 85), some (AR 69), some (AI x1), some (AI x2), some (AI q20_4_6), some (AI q20_5_6), some (AI q20_6_6), some (AI z_44), some (AI z_53)]) E dX1_roomAt_72 (by decide) rfl ?_
        refine s_iload E dX1_roomAt_74 rfl ?_
        refine s_iconst (v := (-1)) E dX1_roomAt_76 (by decide) ?_
        refine z_icmp_ne (tgt := 85) (u := z_53.toInt) (v := (-1)) E dX1_roomAt_77 (by decide) rfl (by decide) (fun h_55 => ?_) (fun h_55 => ?_)
        ·
          refine s_iload E dX1_roomAt_85 rfl ?_
          refine s_istore (L2 := [some (AR 85), some (AR 69), some (AI x1), some (AI x2), some (AI z_53), some (AI q20_5_6), some (AI q20_6_6), some (AI z_44), some (AI z_53)]) E dX1_roomAt_87 (by decide) rfl ?_
          refine s_iload E dX1_roomAt_89 rfl ?_
          refine z_if_ne (tgt := 109) (u := q20_5_6.toInt) E dX1_roomAt_91 (by decide) rfl (fun h_56 => ?_) (fun h_56 => absurd h_56 (by omega))
          refine s_iconst (v := 1) E dX1_roomAt_109 (by decide) ?_
          refine s_goto (tgt := 114) E dX1_roomAt_110 (by decide) ?_
          refine s_istore (L2 := [some (AR 85), some (AR 69), some (AI x1), some (AI x2), some (AI z_53), some (AI 1), some (AI q20_6_6), some (AI z_44), some (AI z_53)]) E dX1_roomAt_114 (by decide) rfl ?_
          refine z_iinc (u := q20_6_6.toInt) (L2 := fun z_57 => [some (AR 85), some (AR 69), some (AI x1), some (AI x2), some (AI z_53), some (AI 1), some (AI z_57), some (AI z_44), some (AI z_53)]) E dX1_roomAt_116 rfl rfl (by decide) (fun _ => rfl) (by decide) (by omega) (by omega) (fun z_57 hz_57 => ?_)
          refine s_goto (tgt := 20) E dX1_roomAt_119 (by decide) ?_
          refine s_drop (i := 7) (L2 := [some (AR 85), some (AR 69), some (AI x1), some (AI x2), some (AI z_53), some (AI 1), some (AI z_57), none, some (AI z_53)]) rfl ?_
          refine s_drop (i := 8) (L2 := [some (AR 85), some (AR 69), some (AI x1), some (AI x2), some (AI z_53), some (AI 1), some (AI z_57), none, none]) rfl ?_
          exact ih20 ⟨z_53, 1, z_57⟩ u_51 ⟨⟨by decide, by decide⟩, ⟨by have hb_ := z32 z_57; omega, by have hb_ := z32 z_57; omega⟩, hj_54⟩ (by first | omega | (dsimp only; omega))
        ·
          refine s_iload E dX1_roomAt_80 rfl ?_
          refine s_goto (tgt := 87) E dX1_roomAt_82 (by decide) ?_
          refine s_istore (L2 := [some (AR 85), some (AR 69), some (AI x1), some (AI x2), some (AI q20_4_6), some (AI q20_5_6), some (AI q20_6_6), some (AI z_44), some (AI z_53)]) E dX1_roomAt_87 (by decide) rfl ?_
          refine s_iload E dX1_roomAt_89 rfl ?_
          refine z_if_ne (tgt := 109) (u := q20_5_6.toInt) E dX1_roomAt_91 (by decide) rfl (fun h_58 => ?_) (fun h_58 => absurd h_58 (by omega))
          refine s_iconst (v := 1) E dX1_roomAt_109 (by decide) ?_
          refine s_goto (tgt := 114) E dX1_roomAt_110 (by decide) ?_
          refine s_istore (L2 := [some (AR 85), some (AR 69), some (AI x1), some (AI x2), some (AI q20_4_6), some (AI 1), some (AI q20_6_6), some (AI z_44), some (AI z_53)]) E dX1_roomAt_114 (by decide) rfl ?_
          refine z_iinc (u := q20_6_6.toInt) (L2 := fun z_59 => [some (AR 85), some (AR 69), some (AI x1), some (AI x2), some (AI q20_4_6), some (AI 1), some (AI z_59), some (AI z_44), some (AI z_53)]) E dX1_roomAt_116 rfl rfl (by decide) (fun _ => rfl) (by decide) (by omega) (by omega) (fun z_59 hz_59 => ?_)
          refine s_goto (tgt := 20) E dX1_roomAt_119 (by decide) ?_
          refine s_drop (i := 7) (L2 := [some (AR 85), some (AR 69), some (AI x1), some (AI x2), some (AI q20_4_6), some (AI 1), some (AI z_59), none, some (AI z_53)]) rfl ?_
          refine s_drop (i := 8) (L2 := [some (AR 85), some (AR 69), some (AI x1), some (AI x2), some (AI q20_4_6), some (AI 1), some (AI z_59), none, none]) rfl ?_
          exact ih20 ⟨q20_4_6, 1, z_59⟩ u_51 ⟨⟨by decide, by decide⟩, ⟨by have hb_ := z32 z_59; omega, by have hb_ := z32 z_59; omega⟩, hj_54⟩ (by first | omega | (dsimp only; omega))
set_option maxRecDepth 20000 in
set_option maxHeartbeats 2000000 in
theorem Z_X9_walk_0 (l : Launch) (D : va_G) (aC : Nat → ClassId) (b : Nat) (w : XW) (x1 : Int32) (x2 : Int32) (x3 : Int32) (x4 : Int32) (hI : Iv w)  : CnI l D aC b M_X9_walk 5 117 0 0 [AR 0, AI x1, AI x2, AI x3, AI x4] w (fun r u => ((-2147483648) ≤ r.toInt ∧ r.toInt ≤ 2147483647 ∧ (¬ r.toInt = 0 ∨ (0 ≤ x4.toInt ∧ x4.toInt ≤ 14)) ∧ (¬ r.toInt = 0 ∨ (1 ≤ (w.2.2.1 2 0).toInt ∧ (w.2.2.1 2 0).toInt ≤ 2147483647))) ∧ Jv w u) := by
  refine cn_I (own := RX9) (nm := "walk") (L0 := [some (AR 0), some (AI x1), some (AI x2), some (AI x3), some (AI x4), none]) (by decide +kernel) rfl rfl (Nat.le_of_ble_eq_true rfl) rfl ?_
  intro p e s m args below meth c E hin
  have hJ : Jv w w := jv_rfl hI
  refine s_aload_n E dX9_walk_0 rfl rfl ?_
  refine s_gR (r := 2) E fg_X9_20 rfl rfl (jv_lt hJ (by decide)) (jv_r hJ (by decide +kernel)) dX9_walk_1 ?_
  refine s_iload E dX9_walk_4 rfl ?_
  refine s_vI (As := [AI x4]) (S := []) E (Z_X0_hasDance_2 l D aC b w x4 hJ.1 ) cv_X9_153 rfl rfl rfl (jv_lt hJ (by decide)) (Nat.le_of_ble_eq_true rfl) (Nat.le_of_ble_eq_true rfl) ⟨(Nat.le_of_ble_eq_true rfl), (Nat.le_of_ble_eq_true rfl)⟩ (Nat.le_of_ble_eq_true rfl) dX9_walk_6 (fun z_3 u_1 hp_2 => ?_)
  obtain ⟨hz_3, hp_2⟩ := hp_2
  subst hp_2
  refine z_if_ne (tgt := 15) (u := z_3.toInt) E dX9_walk_9 (by decide) rfl (fun h_5 => ?_) (fun h_5 => ?_)
  ·
    refine s_aload_n E dX9_walk_15 rfl rfl ?_
    refine s_iload_n E dX9_walk_16 rfl rfl ?_
    refine s_iload_n E dX9_walk_17 rfl rfl ?_
    refine s_iload_n E dX9_walk_18 rfl rfl ?_
    refine s_vI (As := [AI x1, AI x2, AI x3]) (S := []) E (Z_X9_carry_0 l D aC b w x1 x2 x3 hJ.1 ) cv_X9_250 rfl rfl rfl (jv_lt hJ (by decide)) (Nat.le_of_ble_eq_true rfl) (Nat.le_of_ble_eq_true rfl) ⟨(Nat.le_of_ble_eq_true rfl), (Nat.le_of_ble_eq_true rfl)⟩ (Nat.le_of_ble_eq_true rfl) dX9_walk_19 (fun z_8 u_6 hp_7 => ?_)
    obtain ⟨hz_8, hp_7⟩ := hp_7
    have hj_9 := jv_trans hJ hp_7
    refine s_istore (L2 := [some (AR 0), some (AI x1), some (AI x2), some (AI x3), some (AI x4), some (AI z_8)]) E dX9_walk_22 (by decide) rfl ?_
    refine s_iload E dX9_walk_24 rfl ?_
    refine z_if_ge (tgt := 34) (u := z_8.toInt) E dX9_walk_26 (by decide) rfl (fun h_10 => ?_) (fun h_10 => ?_)
    ·
      refine s_aload_n E dX9_walk_34 rfl rfl ?_
      refine s_gR (r := 85) E fg_X9_71 rfl rfl (jv_lt hj_9 (by decide)) (jv_r hj_9 (by decide +kernel)) dX9_walk_35 ?_
      refine s_aload_n E dX9_walk_38 rfl rfl ?_
      refine s_gR (r := 69) E fg_X9_54 rfl rfl (jv_lt hj_9 (by decide)) (jv_r hj_9 (by decide +kernel)) dX9_walk_39 ?_
      refine s_iload E dX9_walk_42 rfl ?_
      refine s_iload E dX9_walk_44 rfl ?_
      refine s_vI (As := [AR 69, AI z_8, AI x4]) (S := []) E (Z_X1_roomAt_85_r69 l D aC b u_6 z_8 x4 hj_9.1 ⟨by have hb_ := z32 z_8; omega, by have hb_ := z32 z_8; omega⟩) cv_X9_253 rfl rfl rfl (jv_lt hj_9 (by decide)) (Nat.le_of_ble_eq_true rfl) (Nat.le_of_ble_eq_true rfl) ⟨(Nat.le_of_ble_eq_true rfl), (Nat.le_of_ble_eq_true rfl)⟩ (Nat.le_of_ble_eq_true rfl) dX9_walk_46 (fun z_13 u_11 hp_12 => ?_)
      obtain ⟨hz_13, hp_12⟩ := hp_12
      have hj_14 := jv_trans hj_9 hp_12
      exact r_int E dX9_walk_49 ⟨⟨by have hb_ := z32 z_13; omega, by have hb_ := z32 z_13; omega, by have hb_ := z32 z_13; have hc_ := z32 x4; omega, by have hb_ := z32 z_13; have hc_ := z32 (w.2.2.1 2 0); omega⟩, hj_14⟩
    ·
      refine s_iload E dX9_walk_29 rfl ?_
      refine s_goto (tgt := 49) E dX9_walk_31 (by decide) ?_
      exact r_int E dX9_walk_49 ⟨⟨by have hb_ := z32 z_8; omega, by have hb_ := z32 z_8; omega, by have hb_ := z32 z_8; have hc_ := z32 x4; omega, by have hb_ := z32 z_8; have hc_ := z32 (w.2.2.1 2 0); omega⟩, hj_9⟩
  ·
    refine s_bipush (v := (-2)) E dX9_walk_12 (by decide) ?_
    exact r_int E dX9_walk_14 ⟨⟨by decide, by decide, by first | (left; decide) | (right; have hb_ := z32 x4; omega), by first | (left; decide) | (right; have hb_ := z32 (w.2.2.1 2 0); omega)⟩, hJ⟩
set_option maxRecDepth 20000 in
set_option maxHeartbeats 2000000 in
theorem Z_X8_has_3 (l : Launch) (D : va_G) (aC : Nat → ClassId) (b : Nat) (w : XW) (x1 : Int32) (hI : Iv w)  : CnI l D aC b M_X8_has 0 0 0 0 [AR 3, AI x1] w (fun r u => (0 ≤ r.toInt ∧ r.toInt ≤ 1 ∧ (r.toInt = 0 ∨ (0 ≤ x1.toInt ∧ x1.toInt ≤ 11)) ∧ (r.toInt = 0 ∨ (1 ≤ (w.2.2.1 3 3).toInt ∧ (w.2.2.1 3 3).toInt ≤ 12))) ∧ w = u) := by
  refine cn_I (own := RX8) (nm := "has") (L0 := [some (AR 3), some (AI x1)]) (by decide +kernel) rfl rfl (Nat.le_of_ble_eq_true rfl) rfl ?_
  intro p e s m args below meth c E hin
  have hJ : Jv w w := jv_rfl hI
  refine s_iload_n E dX8_has_0 rfl rfl ?_
  refine z_if_lt (tgt := 16) (u := x1.toInt) E dX8_has_1 (by decide) rfl (fun h_1 => ?_) (fun h_1 => ?_)
  ·
    refine s_iconst (v := 0) E dX8_has_16 (by decide) ?_
    exact r_bool E dX8_has_17 (Or.inl rfl) ⟨⟨by decide, by decide, by first | (left; decide) | (right; have hb_ := z32 x1; omega), by first | (left; decide) | (right; have hb_ := z32 (w.2.2.1 3 3); omega)⟩, rfl⟩
  ·
    refine s_iload_n E dX8_has_4 rfl rfl ?_
    refine s_aload_n E dX8_has_5 rfl rfl ?_
    refine s_gI E fg_X8_28 rfl rfl (jv_lt hJ (by decide)) dX8_has_6 ?_
    refine z_nm (P := fun z => z.toInt = (w.2.2.1 3 3).toInt ∧ 0 ≤ z.toInt ∧ z.toInt ≤ 12) ⟨rfl, (rg_3_3 hJ)⟩ (fun z_2 hz_2 => ?_)
    refine z_icmp_ge (tgt := 16) (u := x1.toInt) (v := z_2.toInt) E dX8_has_9 (by decide) rfl rfl (fun h_3 => ?_) (fun h_3 => ?_)
    ·
      refine s_iconst (v := 0) E dX8_has_16 (by decide) ?_
      exact r_bool E dX8_has_17 (Or.inl rfl) ⟨⟨by decide, by decide, by first | (left; decide) | (right; have hb_ := z32 x1; omega), by first | (left; decide) | (right; have hb_ := z32 (w.2.2.1 3 3); omega)⟩, rfl⟩
    ·
      refine s_iconst (v := 1) E dX8_has_12 (by decide) ?_
      refine s_goto (tgt := 17) E dX8_has_13 (by decide) ?_
      exact r_bool E dX8_has_17 (Or.inr rfl) ⟨⟨by decide, by decide, by first | (left; decide) | (right; have hb_ := z32 x1; omega), by first | (left; decide) | (right; have hb_ := z32 (w.2.2.1 3 3); omega)⟩, rfl⟩
set_option maxRecDepth 20000 in
set_option maxHeartbeats 2000000 in
theorem Z_X2_openDoor_75_r2 (l : Launch) (D : va_G) (aC : Nat → ClassId) (b : Nat) (w : XW) (x1 : Int32) (x2 : Int32) (hI : Iv w)  : CnV l D aC b M_X2_openDoor 2 44 0 0 [AR 75, AR 2, AI x1, AI x2] w (fun u => Jv w u) := by
  refine cn_V (own := RX2) (nm := "openDoor") (L0 := [some (AR 75), some (AR 2), some (AI x1), some (AI x2), none, none, none]) (by decide +kernel) rfl rfl (Nat.le_of_ble_eq_true rfl) rfl ?_
  intro p e s m args below meth c E hin
  have hJ : Jv w w := jv_rfl hI
  refine s_aload_n E dX2_openDoor_0 rfl rfl ?_
  refine s_gR (r := 3) E fg_X2_68 rfl rfl (jv_lt hJ (by decide)) (jv_r hJ (by decide +kernel)) dX2_openDoor_1 ?_
  refine s_iload_n E dX2_openDoor_4 rfl rfl ?_
  refine s_iconst (v := 0) E dX2_openDoor_5 (by decide) ?_
  refine s_vI (As := [AI x1, AI 0]) (S := []) E (Z_X8_cell_3 l D aC b w x1 0 hJ.1 ) cv_X2_44 rfl rfl rfl (jv_lt hJ (by decide)) (Nat.le_of_ble_eq_true rfl) (Nat.le_of_ble_eq_true rfl) ⟨(Nat.le_of_ble_eq_true rfl), (Nat.le_of_ble_eq_true rfl)⟩ (Nat.le_of_ble_eq_true rfl) dX2_openDoor_6 (fun z_3 u_1 hp_2 => ?_)
  obtain ⟨hz_3, hp_2⟩ := hp_2
  subst hp_2
  refine s_istore (L2 := [some (AR 75), some (AR 2), some (AI x1), some (AI x2), some (AI z_3), none, none]) E dX2_openDoor_9 (by decide) rfl ?_
  refine s_aload_n E dX2_openDoor_11 rfl rfl ?_
  refine s_gR (r := 3) E fg_X2_68 rfl rfl (jv_lt hJ (by decide)) (jv_r hJ (by decide +kernel)) dX2_openDoor_12 ?_
  refine s_iload_n E dX2_openDoor_15 rfl rfl ?_
  refine s_iconst (v := 1) E dX2_openDoor_16 (by decide) ?_
  refine s_vI (As := [AI x1, AI 1]) (S := []) E (Z_X8_cell_3 l D aC b w x1 1 hJ.1 ) cv_X2_44 rfl rfl rfl (jv_lt hJ (by decide)) (Nat.le_of_ble_eq_true rfl) (Nat.le_of_ble_eq_true rfl) ⟨(Nat.le_of_ble_eq_true rfl), (Nat.le_of_ble_eq_true rfl)⟩ (Nat.le_of_ble_eq_true rfl) dX2_openDoor_17 (fun z_7 u_5 hp_6 => ?_)
  obtain ⟨hz_7, hp_6⟩ := hp_6
  subst hp_6
  refine s_istore (L2 := [some (AR 75), some (AR 2), some (AI x1), some (AI x2), some (AI z_3), some (AI z_7), none]) E dX2_openDoor_20 (by decide) rfl ?_
  refine s_aload_n E dX2_openDoor_22 rfl rfl ?_
  refine s_iload E dX2_openDoor_23 rfl ?_
  refine s_vI (As := [AI z_3]) (S := []) E (Z_X0_hasRoom_2 l D aC b w z_3 hJ.1 ) cv_X2_74 rfl rfl rfl (jv_lt hJ (by decide)) (Nat.le_of_ble_eq_true rfl) (Nat.le_of_ble_eq_true rfl) ⟨(Nat.le_of_ble_eq_true rfl), (Nat.le_of_ble_eq_true rfl)⟩ (Nat.le_of_ble_eq_true rfl) dX2_openDoor_25 (fun z_11 u_9 hp_10 => ?_)
  obtain ⟨hz_11, hp_10⟩ := hp_10
  subst hp_10
  refine z_if_eq (tgt := 40) (u := z_11.toInt) E dX2_openDoor_28 (by decide) rfl (fun h_13 => ?_) (fun h_13 => ?_)
  ·
    exact r_void E dX2_openDoor_40 hJ
  ·
    refine s_aload_n E dX2_openDoor_31 rfl rfl ?_
    refine s_iload E dX2_openDoor_32 rfl ?_
    refine s_vI (As := [AI z_7]) (S := []) E (Z_X0_hasRoom_2 l D aC b w z_7 hJ.1 ) cv_X2_74 rfl rfl rfl (jv_lt hJ (by decide)) (Nat.le_of_ble_eq_true rfl) (Nat.le_of_ble_eq_true rfl) ⟨(Nat.le_of_ble_eq_true rfl), (Nat.le_of_ble_eq_true rfl)⟩ (Nat.le_of_ble_eq_true rfl) dX2_openDoor_34 (fun z_16 u_14 hp_15 => ?_)
    obtain ⟨hz_16, hp_15⟩ := hp_15
    subst hp_15
    refine z_if_ne (tgt := 41) (u := z_16.toInt) E dX2_openDoor_37 (by decide) rfl (fun h_18 => ?_) (fun h_18 => ?_)
    ·
      refine s_iconst (v := 0) E dX2_openDoor_41 (by decide) ?_
      refine s_istore (L2 := [some (AR 75), some (AR 2), some (AI x1), some (AI x2), some (AI z_3), some (AI z_7), some (AI 0)]) E dX2_openDoor_42 (by decide) rfl ?_
      refine z_loop (St := Int32) (Pi := fun q44_6_18 v44 => (0 ≤ q44_6_18.toInt ∧ q44_6_18.toInt ≤ 6) ∧ (1 ≤ (v44.2.2.1 2 1).toInt ∧ (v44.2.2.1 2 1).toInt ≤ 8) ∧ Jv w v44) (Lf := fun q44_6_18 => [some (AR 75), some (AR 2), some (AI x1), some (AI x2), some (AI z_3), some (AI z_7), some (AI q44_6_18)]) (fun q44_6_18 _ => (7 - q44_6_18.toInt).toNat) 0 ⟨⟨by decide, by decide⟩, ⟨by omega, by omega⟩, hJ⟩ ?_
      rintro q44_6_18 v44 ⟨hq44_6, ha44_0, hj_19⟩ ih44
      refine s_loc (L2 := [some (AR 75), some (AR 2), some (AI x1), some (AI x2), some (AI z_3), some (AI z_7), some (AI q44_6_18)]) rfl ?_
      refine s_iload E dX2_openDoor_44 rfl ?_
      refine s_aload_n E dX2_openDoor_46 rfl rfl ?_
      refine s_gI E fg_X2_35 rfl rfl (jv_lt hj_19 (by decide)) dX2_openDoor_47 ?_
      refine z_nm (P := fun z => z.toInt = (v44.2.2.1 75 5).toInt ∧ 0 ≤ z.toInt ∧ z.toInt ≤ 6) ⟨rfl, (rg_75_5 hj_19)⟩ (fun z_20 hz_20 => ?_)
      refine z_icmp_ge (tgt := 113) (u := q44_6_18.toInt) (v := z_20.toInt) E dX2_openDoor_50 (by decide) rfl rfl (fun h_21 => ?_) (fun h_21 => ?_)
      ·
        exact r_void E dX2_openDoor_113 hj_19
      ·
        refine s_aload_n E dX2_openDoor_53 rfl rfl ?_
        refine s_gR (r := 5) E fg_X2_39 rfl rfl (jv_lt hj_19 (by decide)) (jv_r hj_19 (by decide +kernel)) dX2_openDoor_54 ?_
        refine s_iload E dX2_openDoor_57 rfl ?_
        refine s_iconst (v := 1) E dX2_openDoor_59 (by decide) ?_
        refine s_vI (As := [AI q44_6_18, AI 1]) (S := []) E (Z_X8_cell_5 l D aC b v44 q44_6_18 1 hj_19.1 ) cv_X2_44 rfl rfl rfl (jv_lt hj_19 (by decide)) (Nat.le_of_ble_eq_true rfl) (Nat.le_of_ble_eq_true rfl) ⟨(Nat.le_of_ble_eq_true rfl), (Nat.le_of_ble_eq_true rfl)⟩ (Nat.le_of_ble_eq_true rfl) dX2_openDoor_60 (fun z_24 u_22 hp_23 => ?_)
        obtain ⟨hz_24, hp_23⟩ := hp_23
        subst hp_23
        refine s_iload_n E dX2_openDoor_63 rfl rfl ?_
        refine z_icmp_gt (tgt := 107) (u := z_24.toInt) (v := x2.toInt) E dX2_openDoor_64 (by decide) rfl rfl (fun h_26 => ?_) (fun h_26 => ?_)
        ·
          refine z_iinc (u := q44_6_18.toInt) (L2 := fun z_27 => [some (AR 75), some (AR 2), some (AI x1), some (AI x2), some (AI z_3), some (AI z_7), some (AI z_27)]) E dX2_openDoor_107 rfl rfl (by decide) (fun _ => rfl) (by decide) (by omega) (by omega) (fun z_27 hz_27 => ?_)
          refine s_goto (tgt := 44) E dX2_openDoor_110 (by decide) ?_
          exact ih44 z_27 v44 ⟨⟨by have hb_ := z32 z_27; omega, by have hb_ := z32 z_27; omega⟩, ⟨by omega, by omega⟩, hj_19⟩ (by first | omega | (dsimp only; omega))
        ·
          refine s_aload_n E dX2_openDoor_67 rfl rfl ?_
          refine s_gR (r := 76) E fg_X2_9 rfl rfl (jv_lt hj_19 (by decide)) (jv_r hj_19 (by decide +kernel)) dX2_openDoor_68 ?_
          refine s_iload E dX2_openDoor_71 rfl ?_
          refine s_bipush (v := 8) E dX2_openDoor_73 (by decide) ?_
          refine z_imul (u := q44_6_18.toInt) (v := 8) E dX2_openDoor_75 rfl (by decide) (by omega) (by omega) (fun z_28 hz_28 => ?_)
          refine s_iload E dX2_openDoor_76 rfl ?_
          refine z_iadd (u := z_28.toInt) (v := z_3.toInt) E dX2_openDoor_78 rfl rfl (by omega) (by omega) (fun z_29 hz_29 => ?_)
          refine s_dup2 E dX2_openDoor_79 ?_
          refine s_iald E rfl (jv_lt hj_19 (by decide)) (z_in (u := z_29.toInt) rfl (by omega) (by omega)) dX2_openDoor_80 ?_
          refine z_any (fun z_30 => ?_)
          refine s_iconst (v := 1) E dX2_openDoor_81 (by decide) ?_
          refine s_iload E dX2_openDoor_82 rfl ?_
          refine z_shl1 7 (u := z_7.toInt) (B := 128) E dX2_openDoor_84 rfl (by omega) (by omega) (by decide) (by decide) (fun z_31 hz_31 => ?_)
          refine s_ior E dX2_openDoor_85 ?_
          refine z_any (fun z_32 => ?_)
          refine s_iast E rfl (jv_lt hj_19 (by decide)) (z_in (u := z_29.toInt) rfl (by omega) (by omega)) dX2_openDoor_86 ?_
          refine s_gen (P := fun v => Jv w v ∧ (v.2.2.1 2 1).toInt = (v44.2.2.1 2 1).toInt ∧ (v.2.2.1 75 5).toInt = (v44.2.2.1 75 5).toInt) ⟨(jv_a_76 hj_19 (by have hb_ := z32 z_32; omega) (by have hb_ := z32 z_32; omega)), rfl, rfl⟩ (fun v_33 hj_34 => ?_)
          obtain ⟨hj_34, hk_35⟩ := hj_34
          refine s_aload_n E dX2_openDoor_87 rfl rfl ?_
          refine s_gR (r := 76) E fg_X2_9 rfl rfl (jv_lt hj_34 (by decide)) (jv_r hj_34 (by decide +kernel)) dX2_openDoor_88 ?_
          refine s_iload E dX2_openDoor_91 rfl ?_
          refine s_bipush (v := 8) E dX2_openDoor_93 (by decide) ?_
          refine z_imul (u := q44_6_18.toInt) (v := 8) E dX2_openDoor_95 rfl (by decide) (by omega) (by omega) (fun z_36 hz_36 => ?_)
          refine s_iload E dX2_openDoor_96 rfl ?_
          refine z_iadd (u := z_36.toInt) (v := z_7.toInt) E dX2_openDoor_98 rfl rfl (by omega) (by omega) (fun z_37 hz_37 => ?_)
          refine s_dup2 E dX2_openDoor_99 ?_
          refine s_iald E rfl (jv_lt hj_34 (by decide)) (z_in (u := z_37.toInt) rfl (by omega) (by omega)) dX2_openDoor_100 ?_
          refine z_any (fun z_38 => ?_)
          refine s_iconst (v := 1) E dX2_openDoor_101 (by decide) ?_
          refine s_iload E dX2_openDoor_102 rfl ?_
          refine z_shl1 7 (u := z_3.toInt) (B := 128) E dX2_openDoor_104 rfl (by omega) (by omega) (by decide) (by decide) (fun z_39 hz_39 => ?_)
          refine s_ior E dX2_openDoor_105 ?_
          refine z_any (fun z_40 => ?_)
          refine s_iast E rfl (jv_lt hj_34 (by decide)) (z_in (u := z_37.toInt) rfl (by omega) (by omega)) dX2_openDoor_106 ?_
          refine s_gen (P := fun v => Jv w v ∧ (v.2.2.1 2 1).toInt = (v_33.2.2.1 2 1).toInt ∧ (v.2.2.1 75 5).toInt = (v_33.2.2.1 75 5).toInt) ⟨(jv_a_76 hj_34 (by have hb_ := z32 z_40; omega) (by have hb_ := z32 z_40; omega)), rfl, rfl⟩ (fun v_41 hj_42 => ?_)
          obtain ⟨hj_42, hk_43⟩ := hj_42
          refine z_iinc (u := q44_6_18.toInt) (L2 := fun z_44 => [some (AR 75), some (AR 2), some (AI x1), some (AI x2), some (AI z_3), some (AI z_7), some (AI z_44)]) E dX2_openDoor_107 rfl rfl (by decide) (fun _ => rfl) (by decide) (by omega) (by omega) (fun z_44 hz_44 => ?_)
          refine s_goto (tgt := 44) E dX2_openDoor_110 (by decide) ?_
          exact ih44 z_44 v_41 ⟨⟨by have hb_ := z32 z_44; omega, by have hb_ := z32 z_44; omega⟩, ⟨by omega, by omega⟩, hj_42⟩ (by first | omega | (dsimp only; omega))
    ·
      exact r_void E dX2_openDoor_40 hJ
set_option maxRecDepth 20000 in
set_option maxHeartbeats 2000000 in
theorem Z_X2_openDoors_75_r2 (l : Launch) (D : va_G) (aC : Nat → ClassId) (b : Nat) (w : XW) (x1 : Int32) (x2 : Int32) (hI : Iv w)  : CnV l D aC b M_X2_openDoors 3 70 0 0 [AR 75, AR 2, AI x1, AI x2] w (fun u => Jv w u) := by
  refine cn_V (own := RX2) (nm := "openDoors") (L0 := [some (AR 75), some (AR 2), some (AI x1), some (AI x2), none, none]) (by decide +kernel) rfl rfl (Nat.le_of_ble_eq_true rfl) rfl ?_
  intro p e s m args below meth c E hin
  have hJ : Jv w w := jv_rfl hI
  refine s_aload_n E dX2_openDoors_0 rfl rfl ?_
  refine s_aload_n E dX2_openDoors_1 rfl rfl ?_
  refine s_gR (r := 5) E fg_X2_39 rfl rfl (jv_lt hJ (by decide)) (jv_r hJ (by decide +kernel)) dX2_openDoors_2 ?_
  refine s_gI E fg_X2_57 rfl rfl (jv_lt hJ (by decide)) dX2_openDoors_5 ?_
  refine z_nm (P := fun z => z.toInt = (w.2.2.1 5 3).toInt ∧ 0 ≤ z.toInt ∧ z.toInt ≤ 6) ⟨rfl, (rg_5_3 hJ)⟩ (fun z_1 hz_1 => ?_)
  refine s_pI E fp_X2_35 (Or.inl rfl) rfl (jv_lt hJ (by decide)) dX2_openDoors_8 ?_
  refine s_gen (P := Jv w) (jv_f_75_5 hJ (by have hb_ := z32 z_1; omega) (by have hb_ := z32 z_1; omega)) (fun v_2 hj_3 => ?_)
  refine s_aload_n E dX2_openDoors_11 rfl rfl ?_
  refine s_aload_n E dX2_openDoors_12 rfl rfl ?_
  refine s_gI E fg_X2_60 rfl rfl (jv_lt hj_3 (by decide)) dX2_openDoors_13 ?_
  refine z_nm (P := fun z => z.toInt = (v_2.2.2.1 2 1).toInt ∧ 0 ≤ z.toInt ∧ z.toInt ≤ 8) ⟨rfl, (rg_2_1 hj_3)⟩ (fun z_4 hz_4 => ?_)
  refine s_pI E fp_X2_63 (Or.inl rfl) rfl (jv_lt hj_3 (by decide)) dX2_openDoors_16 ?_
  refine s_gen (P := Jv w) (jv_f_75_6 hj_3 (by have hb_ := z32 z_4; omega) (by have hb_ := z32 z_4; omega)) (fun v_5 hj_6 => ?_)
  refine s_aload_n E dX2_openDoors_19 rfl rfl ?_
  refine s_aload_n E dX2_openDoors_20 rfl rfl ?_
  refine s_gI E fg_X2_64 rfl rfl (jv_lt hj_6 (by decide)) dX2_openDoors_21 ?_
  refine z_nm (P := fun z => z.toInt = (v_5.2.2.1 2 2).toInt ∧ 0 ≤ z.toInt ∧ z.toInt ≤ 14) ⟨rfl, (rg_2_2 hj_6)⟩ (fun z_7 hz_7 => ?_)
  refine s_pI E fp_X2_67 (Or.inl rfl) rfl (jv_lt hj_6 (by decide)) dX2_openDoors_24 ?_
  refine s_gen (P := Jv w) (jv_f_75_7 hj_6 (by have hb_ := z32 z_7; omega) (by have hb_ := z32 z_7; omega)) (fun v_8 hj_9 => ?_)
  refine s_iconst (v := 0) E dX2_openDoors_27 (by decide) ?_
  refine s_istore (L2 := [some (AR 75), some (AR 2), some (AI x1), some (AI x2), some (AI 0), none]) E dX2_openDoors_28 (by decide) rfl ?_
  refine z_loop (St := Int32) (Pi := fun q30_4_9 v30 => (0 ≤ q30_4_9.toInt ∧ q30_4_9.toInt ≤ 6) ∧ Jv w v30) (Lf := fun q30_4_9 => [some (AR 75), some (AR 2), some (AI x1), some (AI x2), some (AI q30_4_9), none]) (fun q30_4_9 _ => (7 - q30_4_9.toInt).toNat) 0 ⟨⟨by decide, by decide⟩, hj_9⟩ ?_
  rintro q30_4_9 v30 ⟨hq30_4, hj_10⟩ ih30
  refine s_loc (L2 := [some (AR 75), some (AR 2), some (AI x1), some (AI x2), some (AI q30_4_9), none]) rfl ?_
  refine s_iload E dX2_openDoors_30 rfl ?_
  refine s_aload_n E dX2_openDoors_32 rfl rfl ?_
  refine s_gI E fg_X2_35 rfl rfl (jv_lt hj_10 (by decide)) dX2_openDoors_33 ?_
  refine z_nm (P := fun z => z.toInt = (v30.2.2.1 75 5).toInt ∧ 0 ≤ z.toInt ∧ z.toInt ≤ 6) ⟨rfl, (rg_75_5 hj_10)⟩ (fun z_11 hz_11 => ?_)
  refine z_icmp_ge (tgt := 80) (u := q30_4_9.toInt) (v := z_11.toInt) E dX2_openDoors_36 (by decide) rfl rfl (fun h_12 => ?_) (fun h_12 => ?_)
  ·
    refine s_iconst (v := 0) E dX2_openDoors_80 (by decide) ?_
    refine s_istore (L2 := [some (AR 75), some (AR 2), some (AI x1), some (AI x2), some (AI 0), none]) E dX2_openDoors_81 (by decide) rfl ?_
    refine z_loop (St := Int32) (Pi := fun q83_4_12 v83 => (0 ≤ q83_4_12.toInt ∧ q83_4_12.toInt ≤ 12) ∧ Jv w v83) (Lf := fun q83_4_12 => [some (AR 75), some (AR 2), some (AI x1), some (AI x2), some (AI q83_4_12), none]) (fun q83_4_12 _ => (13 - q83_4_12.toInt).toNat) 0 ⟨⟨by decide, by decide⟩, hj_10⟩ ?_
    rintro q83_4_12 v83 ⟨hq83_4, hj_13⟩ ih83
    refine s_loc (L2 := [some (AR 75), some (AR 2), some (AI x1), some (AI x2), some (AI q83_4_12), none]) rfl ?_
    refine s_iload E dX2_openDoors_83 rfl ?_
    refine s_aload_n E dX2_openDoors_85 rfl rfl ?_
    refine s_gR (r := 3) E fg_X2_68 rfl rfl (jv_lt hj_13 (by decide)) (jv_r hj_13 (by decide +kernel)) dX2_openDoors_86 ?_
    refine s_gI E fg_X2_57 rfl rfl (jv_lt hj_13 (by decide)) dX2_openDoors_89 ?_
    refine z_nm (P := fun z => z.toInt = (v83.2.2.1 3 3).toInt ∧ 0 ≤ z.toInt ∧ z.toInt ≤ 12) ⟨rfl, (rg_3_3 hj_13)⟩ (fun z_14 hz_14 => ?_)
    refine z_icmp_ge (tgt := 146) (u := q83_4_12.toInt) (v := z_14.toInt) E dX2_openDoors_92 (by decide) rfl rfl (fun h_15 => ?_) (fun h_15 => ?_)
    ·
      exact r_void E dX2_openDoors_146 hj_13
    ·
      refine s_iload E dX2_openDoors_95 rfl ?_
      refine s_iload_n E dX2_openDoors_97 rfl rfl ?_
      refine z_icmp_eq (tgt := 107) (u := q83_4_12.toInt) (v := x1.toInt) E dX2_openDoors_98 (by decide) rfl rfl (fun h_16 => ?_) (fun h_16 => ?_)
      ·
        refine s_iconst (v := 1) E dX2_openDoors_107 (by decide) ?_
        refine s_goto (tgt := 112) E dX2_openDoors_108 (by decide) ?_
        refine s_istore (L2 := [some (AR 75), some (AR 2), some (AI x1), some (AI x2), some (AI q83_4_12), some (AI 1)]) E dX2_openDoors_112 (by decide) rfl ?_
        refine s_aload_n E dX2_openDoors_114 rfl rfl ?_
        refine s_aload_n E dX2_openDoors_115 rfl rfl ?_
        refine s_iload E dX2_openDoors_116 rfl ?_
        refine s_iload E dX2_openDoors_118 rfl ?_
        refine z_if_eq (tgt := 127) (u := 1) E dX2_openDoors_120 (by decide) (by decide) (fun h_17 => absurd h_17 (by omega)) (fun h_17 => ?_)
        refine s_iload_n E dX2_openDoors_123 rfl rfl ?_
        refine s_goto (tgt := 137) E dX2_openDoors_124 (by decide) ?_
        refine s_vV (As := [AR 2, AI q83_4_12, AI x2]) (S := []) E (Z_X2_openDoor_75_r2 l D aC b v83 q83_4_12 x2 hj_13.1 ) cv_X2_71 rfl rfl rfl (jv_lt hj_13 (by decide)) (Nat.le_of_ble_eq_true rfl) (Nat.le_of_ble_eq_true rfl) ⟨(Nat.le_of_ble_eq_true rfl), (Nat.le_of_ble_eq_true rfl)⟩ (Nat.le_of_ble_eq_true rfl) dX2_openDoors_137 (fun u_18 hp_19 => ?_)
        have hj_20 := jv_trans hj_13 hp_19
        refine z_iinc (u := q83_4_12.toInt) (L2 := fun z_21 => [some (AR 75), some (AR 2), some (AI x1), some (AI x2), some (AI z_21), some (AI 1)]) E dX2_openDoors_140 rfl rfl (by decide) (fun _ => rfl) (by decide) (by omega) (by omega) (fun z_21 hz_21 => ?_)
        refine s_goto (tgt := 83) E dX2_openDoors_143 (by decide) ?_
        refine s_drop (i := 5) (L2 := [some (AR 75), some (AR 2), some (AI x1), some (AI x2), some (AI z_21), none]) rfl ?_
        exact ih83 z_21 u_18 ⟨⟨by have hb_ := z32 z_21; omega, by have hb_ := z32 z_21; omega⟩, hj_20⟩ (by first | omega | (dsimp only; omega))
      ·
        refine s_iload_n E dX2_openDoors_101 rfl rfl ?_
        refine s_bipush (v := (-2)) E dX2_openDoors_102 (by decide) ?_
        refine z_icmp_ne (tgt := 111) (u := x1.toInt) (v := (-2)) E dX2_openDoors_104 (by decide) rfl (by decide) (fun h_22 => ?_) (fun h_22 => ?_)
        ·
          refine s_iconst (v := 0) E dX2_openDoors_111 (by decide) ?_
          refine s_istore (L2 := [some (AR 75), some (AR 2), some (AI x1), some (AI x2), some (AI q83_4_12), some (AI 0)]) E dX2_openDoors_112 (by decide) rfl ?_
          refine s_aload_n E dX2_openDoors_114 rfl rfl ?_
          refine s_aload_n E dX2_openDoors_115 rfl rfl ?_
          refine s_iload E dX2_openDoors_116 rfl ?_
          refine s_iload E dX2_openDoors_118 rfl ?_
          refine z_if_eq (tgt := 127) (u := 0) E dX2_openDoors_120 (by decide) (by decide) (fun h_23 => ?_) (fun h_23 => absurd h_23 (by omega))
          refine s_aload_n E dX2_openDoors_127 rfl rfl ?_
          refine s_gR (r := 3) E fg_X2_68 rfl rfl (jv_lt hj_13 (by decide)) (jv_r hj_13 (by decide +kernel)) dX2_openDoors_128 ?_
          refine s_iload E dX2_openDoors_131 rfl ?_
          refine s_iconst (v := 2) E dX2_openDoors_133 (by decide) ?_
          refine s_vI (As := [AI q83_4_12, AI 2]) (S := [AI q83_4_12, AR 2, AR 75]) E (Z_X8_cell_3 l D aC b v83 q83_4_12 2 hj_13.1 ) cv_X2_44 rfl rfl rfl (jv_lt hj_13 (by decide)) (Nat.le_of_ble_eq_true rfl) (Nat.le_of_ble_eq_true rfl) ⟨(Nat.le_of_ble_eq_true rfl), (Nat.le_of_ble_eq_true rfl)⟩ (Nat.le_of_ble_eq_true rfl) dX2_openDoors_134 (fun z_26 u_24 hp_25 => ?_)
          obtain ⟨hz_26, hp_25⟩ := hp_25
          subst hp_25
          refine s_vV (As := [AR 2, AI q83_4_12, AI z_26]) (S := []) E (Z_X2_openDoor_75_r2 l D aC b v83 q83_4_12 z_26 hj_13.1 ) cv_X2_71 rfl rfl rfl (jv_lt hj_13 (by decide)) (Nat.le_of_ble_eq_true rfl) (Nat.le_of_ble_eq_true rfl) ⟨(Nat.le_of_ble_eq_true rfl), (Nat.le_of_ble_eq_true rfl)⟩ (Nat.le_of_ble_eq_true rfl) dX2_openDoors_137 (fun u_28 hp_29 => ?_)
          have hj_30 := jv_trans hj_13 hp_29
          refine z_iinc (u := q83_4_12.toInt) (L2 := fun z_31 => [some (AR 75), some (AR 2), some (AI x1), some (AI x2), some (AI z_31), some (AI 0)]) E dX2_openDoors_140 rfl rfl (by decide) (fun _ => rfl) (by decide) (by omega) (by omega) (fun z_31 hz_31 => ?_)
          refine s_goto (tgt := 83) E dX2_openDoors_143 (by decide) ?_
          refine s_drop (i := 5) (L2 := [some (AR 75), some (AR 2), some (AI x1), some (AI x2), some (AI z_31), none]) rfl ?_
          exact ih83 z_31 u_28 ⟨⟨by have hb_ := z32 z_31; omega, by have hb_ := z32 z_31; omega⟩, hj_30⟩ (by first | omega | (dsimp only; omega))
        ·
          refine s_iconst (v := 1) E dX2_openDoors_107 (by decide) ?_
          refine s_goto (tgt := 112) E dX2_openDoors_108 (by decide) ?_
          refine s_istore (L2 := [some (AR 75), some (AR 2), some (AI x1), some (AI x2), some (AI q83_4_12), some (AI 1)]) E dX2_openDoors_112 (by decide) rfl ?_
          refine s_aload_n E dX2_openDoors_114 rfl rfl ?_
          refine s_aload_n E dX2_openDoors_115 rfl rfl ?_
          refine s_iload E dX2_openDoors_116 rfl ?_
          refine s_iload E dX2_openDoors_118 rfl ?_
          refine z_if_eq (tgt := 127) (u := 1) E dX2_openDoors_120 (by decide) (by decide) (fun h_32 => absurd h_32 (by omega)) (fun h_32 => ?_)
          refine s_iload_n E dX2_openDoors_123 rfl rfl ?_
          refine s_goto (tgt := 137) E dX2_openDoors_124 (by decide) ?_
          refine s_vV (As := [AR 2, AI q83_4_12, AI x2]) (S := []) E (Z_X2_openDoor_75_r2 l D aC b v83 q83_4_12 x2 hj_13.1 ) cv_X2_71 rfl rfl rfl (jv_lt hj_13 (by decide)) (Nat.le_of_ble_eq_true rfl) (Nat.le_of_ble_eq_true rfl) ⟨(Nat.le_of_ble_eq_true rfl), (Nat.le_of_ble_eq_true rfl)⟩ (Nat.le_of_ble_eq_true rfl) dX2_openDoors_137 (fun u_33 hp_34 => ?_)
          have hj_35 := jv_trans hj_13 hp_34
          refine z_iinc (u := q83_4_12.toInt) (L2 := fun z_36 => [some (AR 75), some (AR 2), some (AI x1), some (AI x2), some (AI z_36), some (AI 1)]) E dX2_openDoors_140 rfl rfl (by decide) (fun _ => rfl) (by decide) (by omega) (by omega) (fun z_36 hz_36 => ?_)
          refine s_goto (tgt := 83) E dX2_openDoors_143 (by decide) ?_
          refine s_drop (i := 5) (L2 := [some (AR 75), some (AR 2), some (AI x1), some (AI x2), some (AI z_36), none]) rfl ?_
          exact ih83 z_36 u_33 ⟨⟨by have hb_ := z32 z_36; omega, by have hb_ := z32 z_36; omega⟩, hj_35⟩ (by first | omega | (dsimp only; omega))
  ·
    refine s_iconst (v := 0) E dX2_openDoors_39 (by decide) ?_
    refine s_istore (L2 := [some (AR 75), some (AR 2), some (AI x1), some (AI x2), some (AI q30_4_9), some (AI 0)]) E dX2_openDoors_40 (by decide) rfl ?_
    refine z_loop (St := Int32) (Pi := fun q42_5_36 v42 => (0 ≤ q42_5_36.toInt ∧ q42_5_36.toInt ≤ 8) ∧ (1 ≤ (v42.2.2.1 75 5).toInt ∧ (v42.2.2.1 75 5).toInt ≤ 6) ∧ Jv w v42) (Lf := fun q42_5_36 => [some (AR 75), some (AR 2), some (AI x1), some (AI x2), some (AI q30_4_9), some (AI q42_5_36)]) (fun q42_5_36 _ => (9 - q42_5_36.toInt).toNat) 0 ⟨⟨by decide, by decide⟩, ⟨by omega, by omega⟩, hj_10⟩ ?_
    rintro q42_5_36 v42 ⟨hq42_5, ha42_0, hj_37⟩ ih42
    refine s_loc (L2 := [some (AR 75), some (AR 2), some (AI x1), some (AI x2), some (AI q30_4_9), some (AI q42_5_36)]) rfl ?_
    refine s_iload E dX2_openDoors_42 rfl ?_
    refine s_aload_n E dX2_openDoors_44 rfl rfl ?_
    refine s_gI E fg_X2_63 rfl rfl (jv_lt hj_37 (by decide)) dX2_openDoors_45 ?_
    refine z_nm (P := fun z => z.toInt = (v42.2.2.1 75 6).toInt ∧ 0 ≤ z.toInt ∧ z.toInt ≤ 8) ⟨rfl, (rg_75_6 hj_37)⟩ (fun z_38 hz_38 => ?_)
    refine z_icmp_ge (tgt := 74) (u := q42_5_36.toInt) (v := z_38.toInt) E dX2_openDoors_48 (by decide) rfl rfl (fun h_39 => ?_) (fun h_39 => ?_)
    ·
      refine z_iinc (u := q30_4_9.toInt) (L2 := fun z_40 => [some (AR 75), some (AR 2), some (AI x1), some (AI x2), some (AI z_40), some (AI q42_5_36)]) E dX2_openDoors_74 rfl rfl (by decide) (fun _ => rfl) (by decide) (by omega) (by omega) (fun z_40 hz_40 => ?_)
      refine s_goto (tgt := 30) E dX2_openDoors_77 (by decide) ?_
      refine s_drop (i := 5) (L2 := [some (AR 75), some (AR 2), some (AI x1), some (AI x2), some (AI z_40), none]) rfl ?_
      exact ih30 z_40 v42 ⟨⟨by have hb_ := z32 z_40; omega, by have hb_ := z32 z_40; omega⟩, hj_37⟩ (by first | omega | (dsimp only; omega))
    ·
      refine s_aload_n E dX2_openDoors_51 rfl rfl ?_
      refine s_gR (r := 76) E fg_X2_9 rfl rfl (jv_lt hj_37 (by decide)) (jv_r hj_37 (by decide +kernel)) dX2_openDoors_52 ?_
      refine s_iload E dX2_openDoors_55 rfl ?_
      refine s_bipush (v := 8) E dX2_openDoors_57 (by decide) ?_
      refine z_imul (u := q30_4_9.toInt) (v := 8) E dX2_openDoors_59 rfl (by decide) (by omega) (by omega) (fun z_41 hz_41 => ?_)
      refine s_iload E dX2_openDoors_60 rfl ?_
      refine z_iadd (u := z_41.toInt) (v := q42_5_36.toInt) E dX2_openDoors_62 rfl rfl (by omega) (by omega) (fun z_42 hz_42 => ?_)
      refine s_iconst (v := 1) E dX2_openDoors_63 (by decide) ?_
      refine s_iload E dX2_openDoors_64 rfl ?_
      refine z_shl1 7 (u := q42_5_36.toInt) (B := 128) E dX2_openDoors_66 rfl (by omega) (by omega) (by decide) (by decide) (fun z_43 hz_43 => ?_)
      refine s_iast E rfl (jv_lt hj_37 (by decide)) (z_in (u := z_42.toInt) rfl (by omega) (by omega)) dX2_openDoors_67 ?_
      refine s_gen (P := fun v => Jv w v ∧ (v.2.2.1 75 5).toInt = (v42.2.2.1 75 5).toInt ∧ (v.2.2.1 75 6).toInt = (v42.2.2.1 75 6).toInt) ⟨(jv_a_76 hj_37 (by have hb_ := z32 z_43; omega) (by have hb_ := z32 z_43; omega)), rfl, rfl⟩ (fun v_44 hj_45 => ?_)
      obtain ⟨hj_45, hk_46⟩ := hj_45
      refine z_iinc (u := q42_5_36.toInt) (L2 := fun z_47 => [some (AR 75), some (AR 2), some (AI x1), some (AI x2), some (AI q30_4_9), some (AI z_47)]) E dX2_openDoors_68 rfl rfl (by decide) (fun _ => rfl) (by decide) (by omega) (by omega) (fun z_47 hz_47 => ?_)
      refine s_goto (tgt := 42) E dX2_openDoors_71 (by decide) ?_
      exact ih42 z_47 v_44 ⟨⟨by have hb_ := z32 z_47; omega, by have hb_ := z32 z_47; omega⟩, ⟨by omega, by omega⟩, hj_45⟩ (by first | omega | (dsimp only; omega))
set_option maxRecDepth 20000 in
set_option maxHeartbeats 2000000 in
theorem Z_J7_fill_53178_r77 (l : Launch) (D : va_G) (aC : Nat → ClassId) (b : Nat) (w : XW) (x1 : Int32) (hI : Iv w)  : CnV l D aC b M_J7_fill_53178 0 0 0 0 [AR 77, AI x1] w (fun u => Jv w u) := by
  refine cn_V (own := RJ7) (nm := "fill") (L0 := [some (AR 77), some (AI x1), none, none]) (by decide +kernel) rfl rfl (Nat.le_of_ble_eq_true rfl) rfl ?_
  intro p e s m args below meth c E hin
  have hJ : Jv w w := jv_rfl hI
  refine s_iconst (v := 0) E dJ7_fill_53178_0 (by decide) ?_
  refine s_istore_n (L2 := [some (AR 77), some (AI x1), some (AI 0), none]) E dJ7_fill_53178_1 rfl (by decide) rfl ?_
  refine s_aload_n E dJ7_fill_53178_2 rfl rfl ?_
  refine s_alen (v := 90) E rfl (by decide) (jv_lt hJ (by decide)) (by decide) dJ7_fill_53178_3 ?_
  refine s_istore_n (L2 := [some (AR 77), some (AI x1), some (AI 0), some (AI 90)]) E dJ7_fill_53178_4 rfl (by decide) rfl ?_
  refine z_loop (St := Int32) (Pi := fun q5_2_0 v5 => (0 ≤ q5_2_0.toInt ∧ q5_2_0.toInt ≤ 90) ∧ Jv w v5) (Lf := fun q5_2_0 => [some (AR 77), some (AI x1), some (AI q5_2_0), some (AI 90)]) (fun q5_2_0 _ => (91 - q5_2_0.toInt).toNat) 0 ⟨⟨by decide, by decide⟩, hJ⟩ ?_
  rintro q5_2_0 v5 ⟨hq5_2, hj_1⟩ ih5
  refine s_loc (L2 := [some (AR 77), some (AI x1), some (AI q5_2_0), some (AI 90)]) rfl ?_
  refine s_iload_n E dJ7_fill_53178_5 rfl rfl ?_
  refine s_iload_n E dJ7_fill_53178_6 rfl rfl ?_
  refine z_icmp_ge (tgt := 20) (u := q5_2_0.toInt) (v := 90) E dJ7_fill_53178_7 (by decide) rfl (by decide) (fun h_2 => ?_) (fun h_2 => ?_)
  ·
    exact r_void E dJ7_fill_53178_20 hj_1
  ·
    refine s_aload_n E dJ7_fill_53178_10 rfl rfl ?_
    refine s_iload_n E dJ7_fill_53178_11 rfl rfl ?_
    refine s_iload_n E dJ7_fill_53178_12 rfl rfl ?_
    refine s_iast E rfl (jv_lt hj_1 (by decide)) (z_in (u := q5_2_0.toInt) rfl (by omega) (by omega)) dJ7_fill_53178_13 ?_
    refine s_gen (P := Jv w) (jv_a_77 hj_1 (by have hb_ := z32 x1; omega) (by have hb_ := z32 x1; omega)) (fun v_3 hj_4 => ?_)
    refine z_iinc (u := q5_2_0.toInt) (L2 := fun z_5 => [some (AR 77), some (AI x1), some (AI z_5), some (AI 90)]) E dJ7_fill_53178_14 rfl rfl (by decide) (fun _ => rfl) (by decide) (by omega) (by omega) (fun z_5 hz_5 => ?_)
    refine s_goto (tgt := 5) E dJ7_fill_53178_17 (by decide) ?_
    exact ih5 z_5 v_3 ⟨⟨by have hb_ := z32 z_5; omega, by have hb_ := z32 z_5; omega⟩, hj_4⟩ (by first | omega | (dsimp only; omega))
set_option maxRecDepth 20000 in
set_option maxHeartbeats 2000000 in
theorem Z_J7_fill_53178_r78 (l : Launch) (D : va_G) (aC : Nat → ClassId) (b : Nat) (w : XW) (x1 : Int32) (hI : Iv w)  : CnV l D aC b M_J7_fill_53178 0 0 0 0 [AR 78, AI x1] w (fun u => Jv w u) := by
  refine cn_V (own := RJ7) (nm := "fill") (L0 := [some (AR 78), some (AI x1), none, none]) (by decide +kernel) rfl rfl (Nat.le_of_ble_eq_true rfl) rfl ?_
  intro p e s m args below meth c E hin
  have hJ : Jv w w := jv_rfl hI
  refine s_iconst (v := 0) E dJ7_fill_53178_0 (by decide) ?_
  refine s_istore_n (L2 := [some (AR 78), some (AI x1), some (AI 0), none]) E dJ7_fill_53178_1 rfl (by decide) rfl ?_
  refine s_aload_n E dJ7_fill_53178_2 rfl rfl ?_
  refine s_alen (v := 90) E rfl (by decide) (jv_lt hJ (by decide)) (by decide) dJ7_fill_53178_3 ?_
  refine s_istore_n (L2 := [some (AR 78), some (AI x1), some (AI 0), some (AI 90)]) E dJ7_fill_53178_4 rfl (by decide) rfl ?_
  refine z_loop (St := Int32) (Pi := fun q5_2_0 v5 => (0 ≤ q5_2_0.toInt ∧ q5_2_0.toInt ≤ 90) ∧ Jv w v5) (Lf := fun q5_2_0 => [some (AR 78), some (AI x1), some (AI q5_2_0), some (AI 90)]) (fun q5_2_0 _ => (91 - q5_2_0.toInt).toNat) 0 ⟨⟨by decide, by decide⟩, hJ⟩ ?_
  rintro q5_2_0 v5 ⟨hq5_2, hj_1⟩ ih5
  refine s_loc (L2 := [some (AR 78), some (AI x1), some (AI q5_2_0), some (AI 90)]) rfl ?_
  refine s_iload_n E dJ7_fill_53178_5 rfl rfl ?_
  refine s_iload_n E dJ7_fill_53178_6 rfl rfl ?_
  refine z_icmp_ge (tgt := 20) (u := q5_2_0.toInt) (v := 90) E dJ7_fill_53178_7 (by decide) rfl (by decide) (fun h_2 => ?_) (fun h_2 => ?_)
  ·
    exact r_void E dJ7_fill_53178_20 hj_1
  ·
    refine s_aload_n E dJ7_fill_53178_10 rfl rfl ?_
    refine s_iload_n E dJ7_fill_53178_11 rfl rfl ?_
    refine s_iload_n E dJ7_fill_53178_12 rfl rfl ?_
    refine s_iast E rfl (jv_lt hj_1 (by decide)) (z_in (u := q5_2_0.toInt) rfl (by omega) (by omega)) dJ7_fill_53178_13 ?_
    refine s_gen (P := Jv w) (jv_a_78 hj_1 (by have hb_ := z32 x1; omega) (by have hb_ := z32 x1; omega)) (fun v_3 hj_4 => ?_)
    refine z_iinc (u := q5_2_0.toInt) (L2 := fun z_5 => [some (AR 78), some (AI x1), some (AI z_5), some (AI 90)]) E dJ7_fill_53178_14 rfl rfl (by decide) (fun _ => rfl) (by decide) (by omega) (by omega) (fun z_5 hz_5 => ?_)
    refine s_goto (tgt := 5) E dJ7_fill_53178_17 (by decide) ?_
    exact ih5 z_5 v_3 ⟨⟨by have hb_ := z32 z_5; omega, by have hb_ := z32 z_5; omega⟩, hj_4⟩ (by first | omega | (dsimp only; omega))
set_option maxRecDepth 20000 in
set_option maxHeartbeats 2000000 in
theorem Z_X8_hasCell_11 (l : Launch) (D : va_G) (aC : Nat → ClassId) (b : Nat) (w : XW) (x1 : Int32) (x2 : Int32) (hI : Iv w)  : CnI l D aC b M_X8_hasCell 0 0 0 0 [AR 11, AI x1, AI x2] w (fun r u => (0 ≤ r.toInt ∧ r.toInt ≤ 1 ∧ (r.toInt = 0 ∨ (0 ≤ x1.toInt ∧ x1.toInt ≤ 29)) ∧ (r.toInt = 0 ∨ (0 ≤ x2.toInt ∧ x2.toInt ≤ 3)) ∧ (r.toInt = 0 ∨ (1 ≤ (w.2.2.1 11 3).toInt ∧ (w.2.2.1 11 3).toInt ≤ 30))) ∧ w = u) := by
  refine cn_I (own := RX8) (nm := "hasCell") (L0 := [some (AR 11), some (AI x1), some (AI x2)]) (by decide +kernel) rfl rfl (Nat.le_of_ble_eq_true rfl) rfl ?_
  intro p e s m args below meth c E hin
  have hJ : Jv w w := jv_rfl hI
  refine s_iload_n E dX8_hasCell_0 rfl rfl ?_
  refine z_if_lt (tgt := 28) (u := x1.toInt) E dX8_hasCell_1 (by decide) rfl (fun h_1 => ?_) (fun h_1 => ?_)
  ·
    refine s_iconst (v := 0) E dX8_hasCell_28 (by decide) ?_
    exact r_bool E dX8_hasCell_29 (Or.inl rfl) ⟨⟨by decide, by decide, by first | (left; decide) | (right; have hb_ := z32 x1; omega), by first | (left; decide) | (right; have hb_ := z32 x2; omega), by first | (left; decide) | (right; have hb_ := z32 (w.2.2.1 11 3); omega)⟩, rfl⟩
  ·
    refine s_iload_n E dX8_hasCell_4 rfl rfl ?_
    refine s_aload_n E dX8_hasCell_5 rfl rfl ?_
    refine s_gI E fg_X8_28 rfl rfl (jv_lt hJ (by decide)) dX8_hasCell_6 ?_
    refine z_nm (P := fun z => z.toInt = (w.2.2.1 11 3).toInt ∧ 0 ≤ z.toInt ∧ z.toInt ≤ 30) ⟨rfl, (rg_11_3 hJ)⟩ (fun z_2 hz_2 => ?_)
    refine z_icmp_ge (tgt := 28) (u := x1.toInt) (v := z_2.toInt) E dX8_hasCell_9 (by decide) rfl rfl (fun h_3 => ?_) (fun h_3 => ?_)
    ·
      refine s_iconst (v := 0) E dX8_hasCell_28 (by decide) ?_
      exact r_bool E dX8_hasCell_29 (Or.inl rfl) ⟨⟨by decide, by decide, by first | (left; decide) | (right; have hb_ := z32 x1; omega), by first | (left; decide) | (right; have hb_ := z32 x2; omega), by first | (left; decide) | (right; have hb_ := z32 (w.2.2.1 11 3); omega)⟩, rfl⟩
    ·
      refine s_iload_n E dX8_hasCell_12 rfl rfl ?_
      refine z_if_lt (tgt := 28) (u := x2.toInt) E dX8_hasCell_13 (by decide) rfl (fun h_4 => ?_) (fun h_4 => ?_)
      ·
        refine s_iconst (v := 0) E dX8_hasCell_28 (by decide) ?_
        exact r_bool E dX8_hasCell_29 (Or.inl rfl) ⟨⟨by decide, by decide, by first | (left; decide) | (right; have hb_ := z32 x1; omega), by first | (left; decide) | (right; have hb_ := z32 x2; omega), by first | (left; decide) | (right; have hb_ := z32 (w.2.2.1 11 3); omega)⟩, rfl⟩
      ·
        refine s_iload_n E dX8_hasCell_16 rfl rfl ?_
        refine s_aload_n E dX8_hasCell_17 rfl rfl ?_
        refine s_gI E fg_X8_21 rfl rfl (jv_lt hJ (by decide)) dX8_hasCell_18 ?_
        refine s_top (y := 4) (z_pt (by decide) (rg_11_2 hJ)) ?_
        refine z_icmp_ge (tgt := 28) (u := x2.toInt) (v := 4) E dX8_hasCell_21 (by decide) rfl (by decide) (fun h_5 => ?_) (fun h_5 => ?_)
        ·
          refine s_iconst (v := 0) E dX8_hasCell_28 (by decide) ?_
          exact r_bool E dX8_hasCell_29 (Or.inl rfl) ⟨⟨by decide, by decide, by first | (left; decide) | (right; have hb_ := z32 x1; omega), by first | (left; decide) | (right; have hb_ := z32 x2; omega), by first | (left; decide) | (right; have hb_ := z32 (w.2.2.1 11 3); omega)⟩, rfl⟩
        ·
          refine s_iconst (v := 1) E dX8_hasCell_24 (by decide) ?_
          refine s_goto (tgt := 29) E dX8_hasCell_25 (by decide) ?_
          exact r_bool E dX8_hasCell_29 (Or.inr rfl) ⟨⟨by decide, by decide, by first | (left; decide) | (right; have hb_ := z32 x1; omega), by first | (left; decide) | (right; have hb_ := z32 x2; omega), by first | (left; decide) | (right; have hb_ := z32 (w.2.2.1 11 3); omega)⟩, rfl⟩
set_option maxRecDepth 20000 in
set_option maxHeartbeats 2000000 in
theorem Z_X8_cell_11 (l : Launch) (D : va_G) (aC : Nat → ClassId) (b : Nat) (w : XW) (x1 : Int32) (x2 : Int32) (hI : Iv w)  : CnI l D aC b M_X8_cell 1 22 0 0 [AR 11, AI x1, AI x2] w (fun r u => ((-2147483648) ≤ r.toInt ∧ r.toInt ≤ 2147483647 ∧ (¬ r.toInt = 0 ∨ (0 ≤ x1.toInt ∧ x1.toInt ≤ 29)) ∧ (¬ r.toInt = 0 ∨ (0 ≤ x2.toInt ∧ x2.toInt ≤ 3)) ∧ (¬ r.toInt = 0 ∨ (1 ≤ (w.2.2.1 11 3).toInt ∧ (w.2.2.1 11 3).toInt ≤ 30))) ∧ w = u) := by
  refine cn_I (own := RX8) (nm := "cell") (L0 := [some (AR 11), some (AI x1), some (AI x2)]) (by decide +kernel) rfl rfl (Nat.le_of_ble_eq_true rfl) rfl ?_
  intro p e s m args below meth c E hin
  have hJ : Jv w w := jv_rfl hI
  refine s_aload_n E dX8_cell_0 rfl rfl ?_
  refine s_iload_n E dX8_cell_1 rfl rfl ?_
  refine s_iload_n E dX8_cell_2 rfl rfl ?_
  refine s_vI (As := [AI x1, AI x2]) (S := []) E (Z_X8_hasCell_11 l D aC b w x1 x2 hJ.1 ) cv_X8_31 rfl rfl rfl (jv_lt hJ (by decide)) (Nat.le_of_ble_eq_true rfl) (Nat.le_of_ble_eq_true rfl) ⟨(Nat.le_of_ble_eq_true rfl), (Nat.le_of_ble_eq_true rfl)⟩ (Nat.le_of_ble_eq_true rfl) dX8_cell_3 (fun z_3 u_1 hp_2 => ?_)
  obtain ⟨hz_3, hp_2⟩ := hp_2
  subst hp_2
  refine z_if_eq (tgt := 25) (u := z_3.toInt) E dX8_cell_6 (by decide) rfl (fun h_5 => ?_) (fun h_5 => ?_)
  ·
    refine s_iconst (v := (-1)) E dX8_cell_25 (by decide) ?_
    exact r_int E dX8_cell_26 ⟨⟨by decide, by decide, by first | (left; decide) | (right; have hb_ := z32 x1; omega), by first | (left; decide) | (right; have hb_ := z32 x2; omega), by first | (left; decide) | (right; have hb_ := z32 (w.2.2.1 11 3); omega)⟩, rfl⟩
  ·
    refine s_aload_n E dX8_cell_9 rfl rfl ?_
    refine s_gR (r := 12) E fg_X8_24 rfl rfl (jv_lt hJ (by decide)) (jv_r hJ (by decide +kernel)) dX8_cell_10 ?_
    refine s_iload_n E dX8_cell_13 rfl rfl ?_
    refine s_aload_n E dX8_cell_14 rfl rfl ?_
    refine s_gI E fg_X8_21 rfl rfl (jv_lt hJ (by decide)) dX8_cell_15 ?_
    refine s_top (y := 4) (z_pt (by decide) (rg_11_2 hJ)) ?_
    refine z_imul (u := x1.toInt) (v := 4) E dX8_cell_18 rfl (by decide) (by omega) (by omega) (fun z_6 hz_6 => ?_)
    refine s_iload_n E dX8_cell_19 rfl rfl ?_
    refine z_iadd (u := z_6.toInt) (v := x2.toInt) E dX8_cell_20 rfl rfl (by omega) (by omega) (fun z_7 hz_7 => ?_)
    refine s_iald E rfl (jv_lt hJ (by decide)) (z_in (u := z_7.toInt) rfl (by omega) (by omega)) dX8_cell_21 ?_
    refine z_any (fun z_8 => ?_)
    refine s_goto (tgt := 26) E dX8_cell_22 (by decide) ?_
    exact r_int E dX8_cell_26 ⟨⟨by have hb_ := z32 z_8; omega, by have hb_ := z32 z_8; omega, by have hb_ := z32 z_8; have hc_ := z32 x1; omega, by have hb_ := z32 z_8; have hc_ := z32 x2; omega, by have hb_ := z32 z_8; have hc_ := z32 (w.2.2.1 11 3); omega⟩, rfl⟩
set_option maxRecDepth 20000 in
set_option maxHeartbeats 2000000 in
theorem Z_X2_hearBid_75 (l : Launch) (D : va_G) (aC : Nat → ClassId) (b : Nat) (w : XW) (x1 : Int32) (x2 : Int32) (x3 : Int32) (hI : Iv w)  : CnV l D aC b M_X2_hearBid 0 0 0 0 [AR 75, AI x1, AI x2, AI x3] w (fun u => Jv w u) := by
  refine cn_V (own := RX2) (nm := "hearBid") (L0 := [some (AR 75), some (AI x1), some (AI x2), some (AI x3), none]) (by decide +kernel) rfl rfl (Nat.le_of_ble_eq_true rfl) rfl ?_
  intro p e s m args below meth c E hin
  have hJ : Jv w w := jv_rfl hI
  refine s_iload_n E dX2_hearBid_0 rfl rfl ?_
  refine z_if_lt (tgt := 16) (u := x1.toInt) E dX2_hearBid_1 (by decide) rfl (fun h_1 => ?_) (fun h_1 => ?_)
  ·
    exact r_void E dX2_hearBid_16 hJ
  ·
    refine s_iload_n E dX2_hearBid_4 rfl rfl ?_
    refine s_aload_n E dX2_hearBid_5 rfl rfl ?_
    refine s_gI E fg_X2_35 rfl rfl (jv_lt hJ (by decide)) dX2_hearBid_6 ?_
    refine z_nm (P := fun z => z.toInt = (w.2.2.1 75 5).toInt ∧ 0 ≤ z.toInt ∧ z.toInt ≤ 6) ⟨rfl, (rg_75_5 hJ)⟩ (fun z_2 hz_2 => ?_)
    refine z_icmp_ge (tgt := 16) (u := x1.toInt) (v := z_2.toInt) E dX2_hearBid_9 (by decide) rfl rfl (fun h_3 => ?_) (fun h_3 => ?_)
    ·
      exact r_void E dX2_hearBid_16 hJ
    ·
      refine s_iload_n E dX2_hearBid_12 rfl rfl ?_
      refine z_if_ge (tgt := 17) (u := x3.toInt) E dX2_hearBid_13 (by decide) rfl (fun h_4 => ?_) (fun h_4 => ?_)
      ·
        refine s_iload_n E dX2_hearBid_17 rfl rfl ?_
        refine s_istore (L2 := [some (AR 75), some (AI x1), some (AI x2), some (AI x3), some (AI x3)]) E dX2_hearBid_18 (by decide) rfl ?_
        refine z_loop (St := Int32) (Pi := fun q20_4_4 v20 => (0 ≤ q20_4_4.toInt ∧ q20_4_4.toInt ≤ 2147483647) ∧ (1 ≤ (v20.2.2.1 75 5).toInt ∧ (v20.2.2.1 75 5).toInt ≤ 6) ∧ Jv w v20) (Lf := fun q20_4_4 => [some (AR 75), some (AI x1), some (AI x2), some (AI x3), some (AI q20_4_4)]) (fun q20_4_4 _ => (2147483648 - q20_4_4.toInt).toNat) x3 ⟨⟨by have hb_ := z32 x3; omega, by have hb_ := z32 x3; omega⟩, ⟨by omega, by omega⟩, hJ⟩ ?_
        rintro q20_4_4 v20 ⟨hq20_4, ha20_0, hj_5⟩ ih20
        refine s_loc (L2 := [some (AR 75), some (AI x1), some (AI x2), some (AI x3), some (AI q20_4_4)]) rfl ?_
        refine s_iload E dX2_hearBid_20 rfl ?_
        refine s_aload_n E dX2_hearBid_22 rfl rfl ?_
        refine s_gI E fg_X2_67 rfl rfl (jv_lt hj_5 (by decide)) dX2_hearBid_23 ?_
        refine z_nm (P := fun z => z.toInt = (v20.2.2.1 75 7).toInt ∧ 0 ≤ z.toInt ∧ z.toInt ≤ 14) ⟨rfl, (rg_75_7 hj_5)⟩ (fun z_6 hz_6 => ?_)
        refine z_icmp_gt (tgt := 77) (u := q20_4_4.toInt) (v := z_6.toInt) E dX2_hearBid_26 (by decide) rfl rfl (fun h_7 => ?_) (fun h_7 => ?_)
        ·
          exact r_void E dX2_hearBid_77 hj_5
        ·
          refine s_aload_n E dX2_hearBid_29 rfl rfl ?_
          refine s_gR (r := 78) E fg_X2_18 rfl rfl (jv_lt hj_5 (by decide)) (jv_r hj_5 (by decide +kernel)) dX2_hearBid_30 ?_
          refine s_iload_n E dX2_hearBid_33 rfl rfl ?_
          refine s_bipush (v := 15) E dX2_hearBid_34 (by decide) ?_
          refine z_imul (u := x1.toInt) (v := 15) E dX2_hearBid_36 rfl (by decide) (by omega) (by omega) (fun z_8 hz_8 => ?_)
          refine s_iload E dX2_hearBid_37 rfl ?_
          refine z_iadd (u := z_8.toInt) (v := q20_4_4.toInt) E dX2_hearBid_39 rfl rfl (by omega) (by omega) (fun z_9 hz_9 => ?_)
          refine s_iald E rfl (jv_lt hj_5 (by decide)) (z_in (u := z_9.toInt) rfl (by omega) (by omega)) dX2_hearBid_40 ?_
          refine z_any (fun z_10 => ?_)
          refine s_iload_n E dX2_hearBid_41 rfl rfl ?_
          refine z_icmp_gt (tgt := 71) (u := z_10.toInt) (v := x3.toInt) E dX2_hearBid_42 (by decide) rfl rfl (fun h_11 => ?_) (fun h_11 => ?_)
          ·
            refine z_iinc (u := q20_4_4.toInt) (L2 := fun z_12 => [some (AR 75), some (AI x1), some (AI x2), some (AI x3), some (AI z_12)]) E dX2_hearBid_71 rfl rfl (by decide) (fun _ => rfl) (by decide) (by omega) (by omega) (fun z_12 hz_12 => ?_)
            refine s_goto (tgt := 20) E dX2_hearBid_74 (by decide) ?_
            exact ih20 z_12 v20 ⟨⟨by have hb_ := z32 z_12; omega, by have hb_ := z32 z_12; omega⟩, ⟨by omega, by omega⟩, hj_5⟩ (by first | omega | (dsimp only; omega))
          ·
            refine s_aload_n E dX2_hearBid_45 rfl rfl ?_
            refine s_gR (r := 78) E fg_X2_18 rfl rfl (jv_lt hj_5 (by decide)) (jv_r hj_5 (by decide +kernel)) dX2_hearBid_46 ?_
            refine s_iload_n E dX2_hearBid_49 rfl rfl ?_
            refine s_bipush (v := 15) E dX2_hearBid_50 (by decide) ?_
            refine z_imul (u := x1.toInt) (v := 15) E dX2_hearBid_52 rfl (by decide) (by omega) (by omega) (fun z_13 hz_13 => ?_)
            refine s_iload E dX2_hearBid_53 rfl ?_
            refine z_iadd (u := z_13.toInt) (v := q20_4_4.toInt) E dX2_hearBid_55 rfl rfl (by omega) (by omega) (fun z_14 hz_14 => ?_)
            refine s_iload_n E dX2_hearBid_56 rfl rfl ?_
            refine s_iast E rfl (jv_lt hj_5 (by decide)) (z_in (u := z_14.toInt) rfl (by omega) (by omega)) dX2_hearBid_57 ?_
            refine s_gen (P := fun v => Jv w v ∧ (v.2.2.1 75 5).toInt = (v20.2.2.1 75 5).toInt) ⟨(jv_a_78 hj_5 (by have hb_ := z32 x3; omega) (by have hb_ := z32 x3; omega)), rfl⟩ (fun v_15 hj_16 => ?_)
            obtain ⟨hj_16, hk_17⟩ := hj_16
            refine s_aload_n E dX2_hearBid_58 rfl rfl ?_
            refine s_gR (r := 77) E fg_X2_15 rfl rfl (jv_lt hj_16 (by decide)) (jv_r hj_16 (by decide +kernel)) dX2_hearBid_59 ?_
            refine s_iload_n E dX2_hearBid_62 rfl rfl ?_
            refine s_bipush (v := 15) E dX2_hearBid_63 (by decide) ?_
            refine z_imul (u := x1.toInt) (v := 15) E dX2_hearBid_65 rfl (by decide) (by omega) (by omega) (fun z_18 hz_18 => ?_)
            refine s_iload E dX2_hearBid_66 rfl ?_
            refine z_iadd (u := z_18.toInt) (v := q20_4_4.toInt) E dX2_hearBid_68 rfl rfl (by omega) (by omega) (fun z_19 hz_19 => ?_)
            refine s_iload_n E dX2_hearBid_69 rfl rfl ?_
            refine s_iast E rfl (jv_lt hj_16 (by decide)) (z_in (u := z_19.toInt) rfl (by omega) (by omega)) dX2_hearBid_70 ?_
            refine s_gen (P := fun v => Jv w v ∧ (v.2.2.1 75 5).toInt = (v_15.2.2.1 75 5).toInt) ⟨(jv_a_77 hj_16 (by have hb_ := z32 x2; omega) (by have hb_ := z32 x2; omega)), rfl⟩ (fun v_20 hj_21 => ?_)
            obtain ⟨hj_21, hk_22⟩ := hj_21
            refine z_iinc (u := q20_4_4.toInt) (L2 := fun z_23 => [some (AR 75), some (AI x1), some (AI x2), some (AI x3), some (AI z_23)]) E dX2_hearBid_71 rfl rfl (by decide) (fun _ => rfl) (by decide) (by omega) (by omega) (fun z_23 hz_23 => ?_)
            refine s_goto (tgt := 20) E dX2_hearBid_74 (by decide) ?_
            exact ih20 z_23 v_20 ⟨⟨by have hb_ := z32 z_23; omega, by have hb_ := z32 z_23; omega⟩, ⟨by omega, by omega⟩, hj_21⟩ (by first | omega | (dsimp only; omega))
      ·
        exact r_void E dX2_hearBid_16 hJ
set_option maxRecDepth 20000 in
set_option maxHeartbeats 2000000 in
theorem Z_X8_hasCell_9 (l : Launch) (D : va_G) (aC : Nat → ClassId) (b : Nat) (w : XW) (x1 : Int32) (x2 : Int32) (hI : Iv w)  : CnI l D aC b M_X8_hasCell 0 0 0 0 [AR 9, AI x1, AI x2] w (fun r u => (0 ≤ r.toInt ∧ r.toInt ≤ 1 ∧ (r.toInt = 0 ∨ (0 ≤ x1.toInt ∧ x1.toInt ≤ 9)) ∧ (r.toInt = 0 ∨ (0 ≤ x2.toInt ∧ x2.toInt ≤ 2)) ∧ (r.toInt = 0 ∨ (1 ≤ (w.2.2.1 9 3).toInt ∧ (w.2.2.1 9 3).toInt ≤ 10))) ∧ w = u) := by
  refine cn_I (own := RX8) (nm := "hasCell") (L0 := [some (AR 9), some (AI x1), some (AI x2)]) (by decide +kernel) rfl rfl (Nat.le_of_ble_eq_true rfl) rfl ?_
  intro p e s m args below meth c E hin
  have hJ : Jv w w := jv_rfl hI
  refine s_iload_n E dX8_hasCell_0 rfl rfl ?_
  refine z_if_lt (tgt := 28) (u := x1.toInt) E dX8_hasCell_1 (by decide) rfl (fun h_1 => ?_) (fun h_1 => ?_)
  ·
    refine s_iconst (v := 0) E dX8_hasCell_28 (by decide) ?_
    exact r_bool E dX8_hasCell_29 (Or.inl rfl) ⟨⟨by decide, by decide, by first | (left; decide) | (right; have hb_ := z32 x1; omega), by first | (left; decide) | (right; have hb_ := z32 x2; omega), by first | (left; decide) | (right; have hb_ := z32 (w.2.2.1 9 3); omega)⟩, rfl⟩
  ·
    refine s_iload_n E dX8_hasCell_4 rfl rfl ?_
    refine s_aload_n E dX8_hasCell_5 rfl rfl ?_
    refine s_gI E fg_X8_28 rfl rfl (jv_lt hJ (by decide)) dX8_hasCell_6 ?_
    refine z_nm (P := fun z => z.toInt = (w.2.2.1 9 3).toInt ∧ 0 ≤ z.toInt ∧ z.toInt ≤ 10) ⟨rfl, (rg_9_3 hJ)⟩ (fun z_2 hz_2 => ?_)
    refine z_icmp_ge (tgt := 28) (u := x1.toInt) (v := z_2.toInt) E dX8_hasCell_9 (by decide) rfl rfl (fun h_3 => ?_) (fun h_3 => ?_)
    ·
      refine s_iconst (v := 0) E dX8_hasCell_28 (by decide) ?_
      exact r_bool E dX8_hasCell_29 (Or.inl rfl) ⟨⟨by decide, by decide, by first | (left; decide) | (right; have hb_ := z32 x1; omega), by first | (left; decide) | (right; have hb_ := z32 x2; omega), by first | (left; decide) | (right; have hb_ := z32 (w.2.2.1 9 3); omega)⟩, rfl⟩
    ·
      refine s_iload_n E dX8_hasCell_12 rfl rfl ?_
      refine z_if_lt (tgt := 28) (u := x2.toInt) E dX8_hasCell_13 (by decide) rfl (fun h_4 => ?_) (fun h_4 => ?_)
      ·
        refine s_iconst (v := 0) E dX8_hasCell_28 (by decide) ?_
        exact r_bool E dX8_hasCell_29 (Or.inl rfl) ⟨⟨by decide, by decide, by first | (left; decide) | (right; have hb_ := z32 x1; omega), by first | (left; decide) | (right; have hb_ := z32 x2; omega), by first | (left; decide) | (right; have hb_ := z32 (w.2.2.1 9 3); omega)⟩, rfl⟩
      ·
        refine s_iload_n E dX8_hasCell_16 rfl rfl ?_
        refine s_aload_n E dX8_hasCell_17 rfl rfl ?_
        refine s_gI E fg_X8_21 rfl rfl (jv_lt hJ (by decide)) dX8_hasCell_18 ?_
        refine s_top (y := 3) (z_pt (by decide) (rg_9_2 hJ)) ?_
        refine z_icmp_ge (tgt := 28) (u := x2.toInt) (v := 3) E dX8_hasCell_21 (by decide) rfl (by decide) (fun h_5 => ?_) (fun h_5 => ?_)
        ·
          refine s_iconst (v := 0) E dX8_hasCell_28 (by decide) ?_
          exact r_bool E dX8_hasCell_29 (Or.inl rfl) ⟨⟨by decide, by decide, by first | (left; decide) | (right; have hb_ := z32 x1; omega), by first | (left; decide) | (right; have hb_ := z32 x2; omega), by first | (left; decide) | (right; have hb_ := z32 (w.2.2.1 9 3); omega)⟩, rfl⟩
        ·
          refine s_iconst (v := 1) E dX8_hasCell_24 (by decide) ?_
          refine s_goto (tgt := 29) E dX8_hasCell_25 (by decide) ?_
          exact r_bool E dX8_hasCell_29 (Or.inr rfl) ⟨⟨by decide, by decide, by first | (left; decide) | (right; have hb_ := z32 x1; omega), by first | (left; decide) | (right; have hb_ := z32 x2; omega), by first | (left; decide) | (right; have hb_ := z32 (w.2.2.1 9 3); omega)⟩, rfl⟩
set_option maxRecDepth 20000 in
set_option maxHeartbeats 2000000 in
theorem Z_X8_cell_9 (l : Launch) (D : va_G) (aC : Nat → ClassId) (b : Nat) (w : XW) (x1 : Int32) (x2 : Int32) (hI : Iv w)  : CnI l D aC b M_X8_cell 1 22 0 0 [AR 9, AI x1, AI x2] w (fun r u => ((-2147483648) ≤ r.toInt ∧ r.toInt ≤ 2147483647 ∧ (¬ r.toInt = 0 ∨ (0 ≤ x1.toInt ∧ x1.toInt ≤ 9)) ∧ (¬ r.toInt = 0 ∨ (0 ≤ x2.toInt ∧ x2.toInt ≤ 2)) ∧ (¬ r.toInt = 0 ∨ (1 ≤ (w.2.2.1 9 3).toInt ∧ (w.2.2.1 9 3).toInt ≤ 10))) ∧ w = u) := by
  refine cn_I (own := RX8) (nm := "cell") (L0 := [some (AR 9), some (AI x1), some (AI x2)]) (by decide +kernel) rfl rfl (Nat.le_of_ble_eq_true rfl) rfl ?_
  intro p e s m args below meth c E hin
  have hJ : Jv w w := jv_rfl hI
  refine s_aload_n E dX8_cell_0 rfl rfl ?_
  refine s_iload_n E dX8_cell_1 rfl rfl ?_
  refine s_iload_n E dX8_cell_2 rfl rfl ?_
  refine s_vI (As := [AI x1, AI x2]) (S := []) E (Z_X8_hasCell_9 l D aC b w x1 x2 hJ.1 ) cv_X8_31 rfl rfl rfl (jv_lt hJ (by decide)) (Nat.le_of_ble_eq_true rfl) (Nat.le_of_ble_eq_true rfl) ⟨(Nat.le_of_ble_eq_true rfl), (Nat.le_of_ble_eq_true rfl)⟩ (Nat.le_of_ble_eq_true rfl) dX8_cell_3 (fun z_3 u_1 hp_2 => ?_)
  obtain ⟨hz_3, hp_2⟩ := hp_2
  subst hp_2
  refine z_if_eq (tgt := 25) (u := z_3.toInt) E dX8_cell_6 (by decide) rfl (fun h_5 => ?_) (fun h_5 => ?_)
  ·
    refine s_iconst (v := (-1)) E dX8_cell_25 (by decide) ?_
    exact r_int E dX8_cell_26 ⟨⟨by decide, by decide, by first | (left; decide) | (right; have hb_ := z32 x1; omega), by first | (left; decide) | (right; have hb_ := z32 x2; omega), by first | (left; decide) | (right; have hb_ := z32 (w.2.2.1 9 3); omega)⟩, rfl⟩
  ·
    refine s_aload_n E dX8_cell_9 rfl rfl ?_
    refine s_gR (r := 10) E fg_X8_24 rfl rfl (jv_lt hJ (by decide)) (jv_r hJ (by decide +kernel)) dX8_cell_10 ?_
    refine s_iload_n E dX8_cell_13 rfl rfl ?_
    refine s_aload_n E dX8_cell_14 rfl rfl ?_
    refine s_gI E fg_X8_21 rfl rfl (jv_lt hJ (by decide)) dX8_cell_15 ?_
    refine s_top (y := 3) (z_pt (by decide) (rg_9_2 hJ)) ?_
    refine z_imul (u := x1.toInt) (v := 3) E dX8_cell_18 rfl (by decide) (by omega) (by omega) (fun z_6 hz_6 => ?_)
    refine s_iload_n E dX8_cell_19 rfl rfl ?_
    refine z_iadd (u := z_6.toInt) (v := x2.toInt) E dX8_cell_20 rfl rfl (by omega) (by omega) (fun z_7 hz_7 => ?_)
    refine s_iald E rfl (jv_lt hJ (by decide)) (z_in (u := z_7.toInt) rfl (by omega) (by omega)) dX8_cell_21 ?_
    refine z_any (fun z_8 => ?_)
    refine s_goto (tgt := 26) E dX8_cell_22 (by decide) ?_
    exact r_int E dX8_cell_26 ⟨⟨by have hb_ := z32 z_8; omega, by have hb_ := z32 z_8; omega, by have hb_ := z32 z_8; have hc_ := z32 x1; omega, by have hb_ := z32 z_8; have hc_ := z32 x2; omega, by have hb_ := z32 z_8; have hc_ := z32 (w.2.2.1 9 3); omega⟩, rfl⟩
set_option maxRecDepth 20000 in
set_option maxHeartbeats 2000000 in
theorem Z_X2_hearBids_75_r2 (l : Launch) (D : va_G) (aC : Nat → ClassId) (b : Nat) (w : XW)  (hI : Iv w)  : CnV l D aC b M_X2_hearBids 2 44 0 0 [AR 75, AR 2] w (fun u => Jv w u) := by
  refine cn_V (own := RX2) (nm := "hearBids") (L0 := [some (AR 75), some (AR 2), none]) (by decide +kernel) rfl rfl (Nat.le_of_ble_eq_true rfl) rfl ?_
  intro p e s m args below meth c E hin
  have hJ : Jv w w := jv_rfl hI
  refine s_aload_n E dX2_hearBids_0 rfl rfl ?_
  refine s_gR (r := 77) E fg_X2_15 rfl rfl (jv_lt hJ (by decide)) (jv_r hJ (by decide +kernel)) dX2_hearBids_1 ?_
  refine s_iconst (v := (-1)) E dX2_hearBids_4 (by decide) ?_
  refine s_sV (As := [AR 77, AI (-1)]) (S := []) E (Z_J7_fill_53178_r77 l D aC b w ((-1)) hJ.1 ) cs_X2_78 rfl rfl (Nat.le_of_ble_eq_true rfl) (Nat.le_of_ble_eq_true rfl) ⟨(Nat.le_of_ble_eq_true rfl), (Nat.le_of_ble_eq_true rfl)⟩ (Nat.le_of_ble_eq_true rfl) dX2_hearBids_5 (fun u_1 hp_2 => ?_)
  have hj_3 := jv_trans hJ hp_2
  refine s_aload_n E dX2_hearBids_8 rfl rfl ?_
  refine s_gR (r := 78) E fg_X2_18 rfl rfl (jv_lt hj_3 (by decide)) (jv_r hj_3 (by decide +kernel)) dX2_hearBids_9 ?_
  refine s_iconst (v := (-1)) E dX2_hearBids_12 (by decide) ?_
  refine s_sV (As := [AR 78, AI (-1)]) (S := []) E (Z_J7_fill_53178_r78 l D aC b u_1 ((-1)) hj_3.1 ) cs_X2_78 rfl rfl (Nat.le_of_ble_eq_true rfl) (Nat.le_of_ble_eq_true rfl) ⟨(Nat.le_of_ble_eq_true rfl), (Nat.le_of_ble_eq_true rfl)⟩ (Nat.le_of_ble_eq_true rfl) dX2_hearBids_13 (fun u_4 hp_5 => ?_)
  have hj_6 := jv_trans hj_3 hp_5
  refine s_iconst (v := 0) E dX2_hearBids_16 (by decide) ?_
  refine s_istore_n (L2 := [some (AR 75), some (AR 2), some (AI 0)]) E dX2_hearBids_17 rfl (by decide) rfl ?_
  refine z_loop (St := Int32) (Pi := fun q18_2_6 v18 => (0 ≤ q18_2_6.toInt ∧ q18_2_6.toInt ≤ 10) ∧ Jv w v18) (Lf := fun q18_2_6 => [some (AR 75), some (AR 2), some (AI q18_2_6)]) (fun q18_2_6 _ => (11 - q18_2_6.toInt).toNat) 0 ⟨⟨by decide, by decide⟩, hj_6⟩ ?_
  rintro q18_2_6 v18 ⟨hq18_2, hj_7⟩ ih18
  refine s_loc (L2 := [some (AR 75), some (AR 2), some (AI q18_2_6)]) rfl ?_
  refine s_iload_n E dX2_hearBids_18 rfl rfl ?_
  refine s_aload_n E dX2_hearBids_19 rfl rfl ?_
  refine s_gR (r := 9) E fg_X2_84 rfl rfl (jv_lt hj_7 (by decide)) (jv_r hj_7 (by decide +kernel)) dX2_hearBids_20 ?_
  refine s_gI E fg_X2_57 rfl rfl (jv_lt hj_7 (by decide)) dX2_hearBids_23 ?_
  refine z_nm (P := fun z => z.toInt = (v18.2.2.1 9 3).toInt ∧ 0 ≤ z.toInt ∧ z.toInt ≤ 10) ⟨rfl, (rg_9_3 hj_7)⟩ (fun z_8 hz_8 => ?_)
  refine z_icmp_ge (tgt := 66) (u := q18_2_6.toInt) (v := z_8.toInt) E dX2_hearBids_26 (by decide) rfl rfl (fun h_9 => ?_) (fun h_9 => ?_)
  ·
    refine s_iconst (v := 0) E dX2_hearBids_66 (by decide) ?_
    refine s_istore_n (L2 := [some (AR 75), some (AR 2), some (AI 0)]) E dX2_hearBids_67 rfl (by decide) rfl ?_
    refine z_loop (St := Int32) (Pi := fun q68_2_9 v68 => (0 ≤ q68_2_9.toInt ∧ q68_2_9.toInt ≤ 30) ∧ Jv w v68) (Lf := fun q68_2_9 => [some (AR 75), some (AR 2), some (AI q68_2_9)]) (fun q68_2_9 _ => (31 - q68_2_9.toInt).toNat) 0 ⟨⟨by decide, by decide⟩, hj_7⟩ ?_
    rintro q68_2_9 v68 ⟨hq68_2, hj_10⟩ ih68
    refine s_loc (L2 := [some (AR 75), some (AR 2), some (AI q68_2_9)]) rfl ?_
    refine s_iload_n E dX2_hearBids_68 rfl rfl ?_
    refine s_aload_n E dX2_hearBids_69 rfl rfl ?_
    refine s_gR (r := 11) E fg_X2_91 rfl rfl (jv_lt hj_10 (by decide)) (jv_r hj_10 (by decide +kernel)) dX2_hearBids_70 ?_
    refine s_gI E fg_X2_57 rfl rfl (jv_lt hj_10 (by decide)) dX2_hearBids_73 ?_
    refine z_nm (P := fun z => z.toInt = (v68.2.2.1 11 3).toInt ∧ 0 ≤ z.toInt ∧ z.toInt ≤ 30) ⟨rfl, (rg_11_3 hj_10)⟩ (fun z_11 hz_11 => ?_)
    refine z_icmp_ge (tgt := 128) (u := q68_2_9.toInt) (v := z_11.toInt) E dX2_hearBids_76 (by decide) rfl rfl (fun h_12 => ?_) (fun h_12 => ?_)
    ·
      exact r_void E dX2_hearBids_128 hj_10
    ·
      refine s_aload_n E dX2_hearBids_79 rfl rfl ?_
      refine s_gR (r := 11) E fg_X2_91 rfl rfl (jv_lt hj_10 (by decide)) (jv_r hj_10 (by decide +kernel)) dX2_hearBids_80 ?_
      refine s_iload_n E dX2_hearBids_83 rfl rfl ?_
      refine s_iconst (v := 0) E dX2_hearBids_84 (by decide) ?_
      refine s_vI (As := [AI q68_2_9, AI 0]) (S := []) E (Z_X8_cell_11 l D aC b v68 q68_2_9 0 hj_10.1 ) cv_X2_44 rfl rfl rfl (jv_lt hj_10 (by decide)) (Nat.le_of_ble_eq_true rfl) (Nat.le_of_ble_eq_true rfl) ⟨(Nat.le_of_ble_eq_true rfl), (Nat.le_of_ble_eq_true rfl)⟩ (Nat.le_of_ble_eq_true rfl) dX2_hearBids_85 (fun z_15 u_13 hp_14 => ?_)
      obtain ⟨hz_15, hp_14⟩ := hp_14
      subst hp_14
      refine z_if_ne (tgt := 122) (u := z_15.toInt) E dX2_hearBids_88 (by decide) rfl (fun h_17 => ?_) (fun h_17 => ?_)
      ·
        refine z_iinc (u := q68_2_9.toInt) (L2 := fun z_18 => [some (AR 75), some (AR 2), some (AI z_18)]) E dX2_hearBids_122 rfl rfl (by decide) (fun _ => rfl) (by decide) (by omega) (by omega) (fun z_18 hz_18 => ?_)
        refine s_goto (tgt := 68) E dX2_hearBids_125 (by decide) ?_
        exact ih68 z_18 v68 ⟨⟨by have hb_ := z32 z_18; omega, by have hb_ := z32 z_18; omega⟩, hj_10⟩ (by first | omega | (dsimp only; omega))
      ·
        refine s_aload_n E dX2_hearBids_91 rfl rfl ?_
        refine s_aload_n E dX2_hearBids_92 rfl rfl ?_
        refine s_gR (r := 11) E fg_X2_91 rfl rfl (jv_lt hj_10 (by decide)) (jv_r hj_10 (by decide +kernel)) dX2_hearBids_93 ?_
        refine s_iload_n E dX2_hearBids_96 rfl rfl ?_
        refine s_iconst (v := 1) E dX2_hearBids_97 (by decide) ?_
        refine s_vI (As := [AI q68_2_9, AI 1]) (S := [AR 75]) E (Z_X8_cell_11 l D aC b v68 q68_2_9 1 hj_10.1 ) cv_X2_44 rfl rfl rfl (jv_lt hj_10 (by decide)) (Nat.le_of_ble_eq_true rfl) (Nat.le_of_ble_eq_true rfl) ⟨(Nat.le_of_ble_eq_true rfl), (Nat.le_of_ble_eq_true rfl)⟩ (Nat.le_of_ble_eq_true rfl) dX2_hearBids_98 (fun z_21 u_19 hp_20 => ?_)
        obtain ⟨hz_21, hp_20⟩ := hp_20
        subst hp_20
        refine s_aload_n E dX2_hearBids_101 rfl rfl ?_
        refine s_gR (r := 11) E fg_X2_91 rfl rfl (jv_lt hj_10 (by decide)) (jv_r hj_10 (by decide +kernel)) dX2_hearBids_102 ?_
        refine s_iload_n E dX2_hearBids_105 rfl rfl ?_
        refine s_iconst (v := 2) E dX2_hearBids_106 (by decide) ?_
        refine s_vI (As := [AI q68_2_9, AI 2]) (S := [AI z_21, AR 75]) E (Z_X8_cell_11 l D aC b v68 q68_2_9 2 hj_10.1 ) cv_X2_44 rfl rfl rfl (jv_lt hj_10 (by decide)) (Nat.le_of_ble_eq_true rfl) (Nat.le_of_ble_eq_true rfl) ⟨(Nat.le_of_ble_eq_true rfl), (Nat.le_of_ble_eq_true rfl)⟩ (Nat.le_of_ble_eq_true rfl) dX2_hearBids_107 (fun z_25 u_23 hp_24 => ?_)
        obtain ⟨hz_25, hp_24⟩ := hp_24
        subst hp_24
        refine s_aload_n E dX2_hearBids_110 rfl rfl ?_
        refine s_gR (r := 11) E fg_X2_91 rfl rfl (jv_lt hj_10 (by decide)) (jv_r hj_10 (by decide +kernel)) dX2_hearBids_111 ?_
        refine s_iload_n E dX2_hearBids_114 rfl rfl ?_
        refine s_iconst (v := 3) E dX2_hearBids_115 (by decide) ?_
        refine s_vI (As := [AI q68_2_9, AI 3]) (S := [AI z_25, AI z_21, AR 75]) E (Z_X8_cell_11 l D aC b v68 q68_2_9 3 hj_10.1 ) cv_X2_44 rfl rfl rfl (jv_lt hj_10 (by decide)) (Nat.le_of_ble_eq_true rfl) (Nat.le_of_ble_eq_true rfl) ⟨(Nat.le_of_ble_eq_true rfl), (Nat.le_of_ble_eq_true rfl)⟩ (Nat.le_of_ble_eq_true rfl) dX2_hearBids_116 (fun z_29 u_27 hp_28 => ?_)
        obtain ⟨hz_29, hp_28⟩ := hp_28
        subst hp_28
        refine s_vV (As := [AI z_21, AI z_25, AI z_29]) (S := []) E (Z_X2_hearBid_75 l D aC b v68 z_21 z_25 z_29 hj_10.1 ) cv_X2_87 rfl rfl rfl (jv_lt hj_10 (by decide)) (Nat.le_of_ble_eq_true rfl) (Nat.le_of_ble_eq_true rfl) ⟨(Nat.le_of_ble_eq_true rfl), (Nat.le_of_ble_eq_true rfl)⟩ (Nat.le_of_ble_eq_true rfl) dX2_hearBids_119 (fun u_31 hp_32 => ?_)
        have hj_33 := jv_trans hj_10 hp_32
        refine z_iinc (u := q68_2_9.toInt) (L2 := fun z_34 => [some (AR 75), some (AR 2), some (AI z_34)]) E dX2_hearBids_122 rfl rfl (by decide) (fun _ => rfl) (by decide) (by omega) (by omega) (fun z_34 hz_34 => ?_)
        refine s_goto (tgt := 68) E dX2_hearBids_125 (by decide) ?_
        exact ih68 z_34 u_31 ⟨⟨by have hb_ := z32 z_34; omega, by have hb_ := z32 z_34; omega⟩, hj_33⟩ (by first | omega | (dsimp only; omega))
  ·
    refine s_aload_n E dX2_hearBids_29 rfl rfl ?_
    refine s_aload_n E dX2_hearBids_30 rfl rfl ?_
    refine s_gR (r := 9) E fg_X2_84 rfl rfl (jv_lt hj_7 (by decide)) (jv_r hj_7 (by decide +kernel)) dX2_hearBids_31 ?_
    refine s_iload_n E dX2_hearBids_34 rfl rfl ?_
    refine s_iconst (v := 0) E dX2_hearBids_35 (by decide) ?_
    refine s_vI (As := [AI q18_2_6, AI 0]) (S := [AR 75]) E (Z_X8_cell_9 l D aC b v18 q18_2_6 0 hj_7.1 ) cv_X2_44 rfl rfl rfl (jv_lt hj_7 (by decide)) (Nat.le_of_ble_eq_true rfl) (Nat.le_of_ble_eq_true rfl) ⟨(Nat.le_of_ble_eq_true rfl), (Nat.le_of_ble_eq_true rfl)⟩ (Nat.le_of_ble_eq_true rfl) dX2_hearBids_36 (fun z_37 u_35 hp_36 => ?_)
    obtain ⟨hz_37, hp_36⟩ := hp_36
    subst hp_36
    refine s_aload_n E dX2_hearBids_39 rfl rfl ?_
    refine s_gR (r := 9) E fg_X2_84 rfl rfl (jv_lt hj_7 (by decide)) (jv_r hj_7 (by decide +kernel)) dX2_hearBids_40 ?_
    refine s_iload_n E dX2_hearBids_43 rfl rfl ?_
    refine s_iconst (v := 1) E dX2_hearBids_44 (by decide) ?_
    refine s_vI (As := [AI q18_2_6, AI 1]) (S := [AI z_37, AR 75]) E (Z_X8_cell_9 l D aC b v18 q18_2_6 1 hj_7.1 ) cv_X2_44 rfl rfl rfl (jv_lt hj_7 (by decide)) (Nat.le_of_ble_eq_true rfl) (Nat.le_of_ble_eq_true rfl) ⟨(Nat.le_of_ble_eq_true rfl), (Nat.le_of_ble_eq_true rfl)⟩ (Nat.le_of_ble_eq_true rfl) dX2_hearBids_45 (fun z_41 u_39 hp_40 => ?_)
    obtain ⟨hz_41, hp_40⟩ := hp_40
    subst hp_40
    refine s_aload_n E dX2_hearBids_48 rfl rfl ?_
    refine s_gR (r := 9) E fg_X2_84 rfl rfl (jv_lt hj_7 (by decide)) (jv_r hj_7 (by decide +kernel)) dX2_hearBids_49 ?_
    refine s_iload_n E dX2_hearBids_52 rfl rfl ?_
    refine s_iconst (v := 2) E dX2_hearBids_53 (by decide) ?_
    refine s_vI (As := [AI q18_2_6, AI 2]) (S := [AI z_41, AI z_37, AR 75]) E (Z_X8_cell_9 l D aC b v18 q18_2_6 2 hj_7.1 ) cv_X2_44 rfl rfl rfl (jv_lt hj_7 (by decide)) (Nat.le_of_ble_eq_true rfl) (Nat.le_of_ble_eq_true rfl) ⟨(Nat.le_of_ble_eq_true rfl), (Nat.le_of_ble_eq_true rfl)⟩ (Nat.le_of_ble_eq_true rfl) dX2_hearBids_54 (fun z_45 u_43 hp_44 => ?_)
    obtain ⟨hz_45, hp_44⟩ := hp_44
    subst hp_44
    refine s_vV (As := [AI z_37, AI z_41, AI z_45]) (S := []) E (Z_X2_hearBid_75 l D aC b v18 z_37 z_41 z_45 hj_7.1 ) cv_X2_87 rfl rfl rfl (jv_lt hj_7 (by decide)) (Nat.le_of_ble_eq_true rfl) (Nat.le_of_ble_eq_true rfl) ⟨(Nat.le_of_ble_eq_true rfl), (Nat.le_of_ble_eq_true rfl)⟩ (Nat.le_of_ble_eq_true rfl) dX2_hearBids_57 (fun u_47 hp_48 => ?_)
    have hj_49 := jv_trans hj_7 hp_48
    refine z_iinc (u := q18_2_6.toInt) (L2 := fun z_50 => [some (AR 75), some (AR 2), some (AI z_50)]) E dX2_hearBids_60 rfl rfl (by decide) (fun _ => rfl) (by decide) (by omega) (by omega) (fun z_50 hz_50 => ?_)
    refine s_goto (tgt := 18) E dX2_hearBids_63 (by decide) ?_
    exact ih18 z_50 u_47 ⟨⟨by have hb_ := z32 z_50; omega, by have hb_ := z32 z_50; omega⟩, hj_49⟩ (by first | omega | (dsimp only; omega))
set_option maxRecDepth 20000 in
set_option maxHeartbeats 2000000 in
theorem Z_X2_isHere_75 (l : Launch) (D : va_G) (aC : Nat → ClassId) (b : Nat) (w : XW) (x1 : Int32) (x2 : Int32) (hI : Iv w)  : CnI l D aC b M_X2_isHere 0 0 0 0 [AR 75, AI x1, AI x2] w (fun r u => (0 ≤ r.toInt ∧ r.toInt ≤ 1 ∧ (r.toInt = 0 ∨ (0 ≤ x1.toInt ∧ x1.toInt ≤ 5)) ∧ (r.toInt = 0 ∨ (0 ≤ x2.toInt ∧ x2.toInt ≤ 14)) ∧ (r.toInt = 0 ∨ (1 ≤ (w.2.2.1 75 5).toInt ∧ (w.2.2.1 75 5).toInt ≤ 6))) ∧ w = u) := by
  refine cn_I (own := RX2) (nm := "isHere") (L0 := [some (AR 75), some (AI x1), some (AI x2)]) (by decide +kernel) rfl rfl (Nat.le_of_ble_eq_true rfl) rfl ?_
  intro p e s m args below meth c E hin
  have hJ : Jv w w := jv_rfl hI
  refine s_iload_n E dX2_isHere_0 rfl rfl ?_
  refine z_if_lt (tgt := 28) (u := x1.toInt) E dX2_isHere_1 (by decide) rfl (fun h_1 => ?_) (fun h_1 => ?_)
  ·
    refine s_iconst (v := 0) E dX2_isHere_28 (by decide) ?_
    exact r_bool E dX2_isHere_29 (Or.inl rfl) ⟨⟨by decide, by decide, by first | (left; decide) | (right; have hb_ := z32 x1; omega), by first | (left; decide) | (right; have hb_ := z32 x2; omega), by first | (left; decide) | (right; have hb_ := z32 (w.2.2.1 75 5); omega)⟩, rfl⟩
  ·
    refine s_iload_n E dX2_isHere_4 rfl rfl ?_
    refine s_aload_n E dX2_isHere_5 rfl rfl ?_
    refine s_gI E fg_X2_35 rfl rfl (jv_lt hJ (by decide)) dX2_isHere_6 ?_
    refine z_nm (P := fun z => z.toInt = (w.2.2.1 75 5).toInt ∧ 0 ≤ z.toInt ∧ z.toInt ≤ 6) ⟨rfl, (rg_75_5 hJ)⟩ (fun z_2 hz_2 => ?_)
    refine z_icmp_ge (tgt := 28) (u := x1.toInt) (v := z_2.toInt) E dX2_isHere_9 (by decide) rfl rfl (fun h_3 => ?_) (fun h_3 => ?_)
    ·
      refine s_iconst (v := 0) E dX2_isHere_28 (by decide) ?_
      exact r_bool E dX2_isHere_29 (Or.inl rfl) ⟨⟨by decide, by decide, by first | (left; decide) | (right; have hb_ := z32 x1; omega), by first | (left; decide) | (right; have hb_ := z32 x2; omega), by first | (left; decide) | (right; have hb_ := z32 (w.2.2.1 75 5); omega)⟩, rfl⟩
    ·
      refine s_iload_n E dX2_isHere_12 rfl rfl ?_
      refine z_if_lt (tgt := 28) (u := x2.toInt) E dX2_isHere_13 (by decide) rfl (fun h_4 => ?_) (fun h_4 => ?_)
      ·
        refine s_iconst (v := 0) E dX2_isHere_28 (by decide) ?_
        exact r_bool E dX2_isHere_29 (Or.inl rfl) ⟨⟨by decide, by decide, by first | (left; decide) | (right; have hb_ := z32 x1; omega), by first | (left; decide) | (right; have hb_ := z32 x2; omega), by first | (left; decide) | (right; have hb_ := z32 (w.2.2.1 75 5); omega)⟩, rfl⟩
      ·
        refine s_iload_n E dX2_isHere_16 rfl rfl ?_
        refine s_aload_n E dX2_isHere_17 rfl rfl ?_
        refine s_gI E fg_X2_67 rfl rfl (jv_lt hJ (by decide)) dX2_isHere_18 ?_
        refine z_nm (P := fun z => z.toInt = (w.2.2.1 75 7).toInt ∧ 0 ≤ z.toInt ∧ z.toInt ≤ 14) ⟨rfl, (rg_75_7 hJ)⟩ (fun z_5 hz_5 => ?_)
        refine z_icmp_gt (tgt := 28) (u := x2.toInt) (v := z_5.toInt) E dX2_isHere_21 (by decide) rfl rfl (fun h_6 => ?_) (fun h_6 => ?_)
        ·
          refine s_iconst (v := 0) E dX2_isHere_28 (by decide) ?_
          exact r_bool E dX2_isHere_29 (Or.inl rfl) ⟨⟨by decide, by decide, by first | (left; decide) | (right; have hb_ := z32 x1; omega), by first | (left; decide) | (right; have hb_ := z32 x2; omega), by first | (left; decide) | (right; have hb_ := z32 (w.2.2.1 75 5); omega)⟩, rfl⟩
        ·
          refine s_iconst (v := 1) E dX2_isHere_24 (by decide) ?_
          refine s_goto (tgt := 29) E dX2_isHere_25 (by decide) ?_
          exact r_bool E dX2_isHere_29 (Or.inr rfl) ⟨⟨by decide, by decide, by first | (left; decide) | (right; have hb_ := z32 x1; omega), by first | (left; decide) | (right; have hb_ := z32 x2; omega), by first | (left; decide) | (right; have hb_ := z32 (w.2.2.1 75 5); omega)⟩, rfl⟩
set_option maxRecDepth 20000 in
set_option maxHeartbeats 2000000 in
theorem Z_X2_placeOf_75 (l : Launch) (D : va_G) (aC : Nat → ClassId) (b : Nat) (w : XW) (x1 : Int32) (x2 : Int32) (hI : Iv w)  : CnI l D aC b M_X2_placeOf 1 22 0 0 [AR 75, AI x1, AI x2] w (fun r u => ((-2147483648) ≤ r.toInt ∧ r.toInt ≤ 2147483647 ∧ (¬ r.toInt = 0 ∨ (0 ≤ x1.toInt ∧ x1.toInt ≤ 5)) ∧ (¬ r.toInt = 0 ∨ (0 ≤ x2.toInt ∧ x2.toInt ≤ 14)) ∧ (¬ r.toInt = 0 ∨ (1 ≤ (w.2.2.1 75 5).toInt ∧ (w.2.2.1 75 5).toInt ≤ 6))) ∧ w = u) := by
  refine cn_I (own := RX2) (nm := "placeOf") (L0 := [some (AR 75), some (AI x1), some (AI x2)]) (by decide +kernel) rfl rfl (Nat.le_of_ble_eq_true rfl) rfl ?_
  intro p e s m args below meth c E hin
  have hJ : Jv w w := jv_rfl hI
  refine s_aload_n E dX2_placeOf_0 rfl rfl ?_
  refine s_iload_n E dX2_placeOf_1 rfl rfl ?_
  refine s_iload_n E dX2_placeOf_2 rfl rfl ?_
  refine s_vI (As := [AI x1, AI x2]) (S := []) E (Z_X2_isHere_75 l D aC b w x1 x2 hJ.1 ) cv_X2_127 rfl rfl rfl (jv_lt hJ (by decide)) (Nat.le_of_ble_eq_true rfl) (Nat.le_of_ble_eq_true rfl) ⟨(Nat.le_of_ble_eq_true rfl), (Nat.le_of_ble_eq_true rfl)⟩ (Nat.le_of_ble_eq_true rfl) dX2_placeOf_3 (fun z_3 u_1 hp_2 => ?_)
  obtain ⟨hz_3, hp_2⟩ := hp_2
  subst hp_2
  refine z_if_eq (tgt := 23) (u := z_3.toInt) E dX2_placeOf_6 (by decide) rfl (fun h_5 => ?_) (fun h_5 => ?_)
  ·
    refine s_iconst (v := (-1)) E dX2_placeOf_23 (by decide) ?_
    exact r_int E dX2_placeOf_24 ⟨⟨by decide, by decide, by first | (left; decide) | (right; have hb_ := z32 x1; omega), by first | (left; decide) | (right; have hb_ := z32 x2; omega), by first | (left; decide) | (right; have hb_ := z32 (w.2.2.1 75 5); omega)⟩, rfl⟩
  ·
    refine s_aload_n E dX2_placeOf_9 rfl rfl ?_
    refine s_gR (r := 79) E fg_X2_21 rfl rfl (jv_lt hJ (by decide)) (jv_r hJ (by decide +kernel)) dX2_placeOf_10 ?_
    refine s_iload_n E dX2_placeOf_13 rfl rfl ?_
    refine s_bipush (v := 15) E dX2_placeOf_14 (by decide) ?_
    refine z_imul (u := x1.toInt) (v := 15) E dX2_placeOf_16 rfl (by decide) (by omega) (by omega) (fun z_6 hz_6 => ?_)
    refine s_iload_n E dX2_placeOf_17 rfl rfl ?_
    refine z_iadd (u := z_6.toInt) (v := x2.toInt) E dX2_placeOf_18 rfl rfl (by omega) (by omega) (fun z_7 hz_7 => ?_)
    refine s_iald E rfl (jv_lt hJ (by decide)) (z_in (u := z_7.toInt) rfl (by omega) (by omega)) dX2_placeOf_19 ?_
    refine z_any (fun z_8 => ?_)
    refine s_goto (tgt := 24) E dX2_placeOf_20 (by decide) ?_
    exact r_int E dX2_placeOf_24 ⟨⟨by have hb_ := z32 z_8; omega, by have hb_ := z32 z_8; omega, by have hb_ := z32 z_8; have hc_ := z32 x1; omega, by have hb_ := z32 z_8; have hc_ := z32 x2; omega, by have hb_ := z32 z_8; have hc_ := z32 (w.2.2.1 75 5); omega⟩, rfl⟩
set_option maxRecDepth 20000 in
set_option maxHeartbeats 2000000 in
theorem Z_X2_ladiesIn_75 (l : Launch) (D : va_G) (aC : Nat → ClassId) (b : Nat) (w : XW) (x1 : Int32) (x2 : Int32) (hI : Iv w)  : CnI l D aC b M_X2_ladiesIn 2 44 0 0 [AR 75, AI x1, AI x2] w (fun r u => ((-2147483648) ≤ r.toInt ∧ r.toInt ≤ 2147483647) ∧ Jv w u) := by
  refine cn_I (own := RX2) (nm := "ladiesIn") (L0 := [some (AR 75), some (AI x1), some (AI x2), none, none]) (by decide +kernel) rfl rfl (Nat.le_of_ble_eq_true rfl) rfl ?_
  intro p e s m args below meth c E hin
  have hJ : Jv w w := jv_rfl hI
  refine s_iconst (v := 0) E dX2_ladiesIn_0 (by decide) ?_
  refine s_istore_n (L2 := [some (AR 75), some (AI x1), some (AI x2), some (AI 0), none]) E dX2_ladiesIn_1 rfl (by decide) rfl ?_
  refine s_iconst (v := 0) E dX2_ladiesIn_2 (by decide) ?_
  refine s_istore (L2 := [some (AR 75), some (AI x1), some (AI x2), some (AI 0), some (AI 0)]) E dX2_ladiesIn_3 (by decide) rfl ?_
  refine z_loop (St := Int32 × Int32) (Pi := fun ⟨q5_3_0, q5_4_0⟩ v5 => (0 ≤ q5_4_0.toInt ∧ q5_4_0.toInt ≤ 6) ∧ Jv w v5) (Lf := fun ⟨q5_3_0, q5_4_0⟩ => [some (AR 75), some (AI x1), some (AI x2), some (AI q5_3_0), some (AI q5_4_0)]) (fun ⟨q5_3_0, q5_4_0⟩ _ => (7 - q5_4_0.toInt).toNat) ⟨0, 0⟩ ⟨⟨by decide, by decide⟩, hJ⟩ ?_
  rintro ⟨q5_3_0, q5_4_0⟩ v5 ⟨hq5_4, hj_1⟩ ih5
  refine s_loc (L2 := [some (AR 75), some (AI x1), some (AI x2), some (AI q5_3_0), some (AI q5_4_0)]) rfl ?_
  refine s_iload E dX2_ladiesIn_5 rfl ?_
  refine s_aload_n E dX2_ladiesIn_7 rfl rfl ?_
  refine s_gI E fg_X2_35 rfl rfl (jv_lt hj_1 (by decide)) dX2_ladiesIn_8 ?_
  refine z_nm (P := fun z => z.toInt = (v5.2.2.1 75 5).toInt ∧ 0 ≤ z.toInt ∧ z.toInt ≤ 6) ⟨rfl, (rg_75_5 hj_1)⟩ (fun z_2 hz_2 => ?_)
  refine z_icmp_ge (tgt := 38) (u := q5_4_0.toInt) (v := z_2.toInt) E dX2_ladiesIn_11 (by decide) rfl rfl (fun h_3 => ?_) (fun h_3 => ?_)
  ·
    refine s_iload_n E dX2_ladiesIn_38 rfl rfl ?_
    exact r_int E dX2_ladiesIn_39 ⟨⟨by have hb_ := z32 q5_3_0; omega, by have hb_ := z32 q5_3_0; omega⟩, hj_1⟩
  ·
    refine s_aload_n E dX2_ladiesIn_14 rfl rfl ?_
    refine s_iload E dX2_ladiesIn_15 rfl ?_
    refine s_iload_n E dX2_ladiesIn_17 rfl rfl ?_
    refine s_vI (As := [AI q5_4_0, AI x2]) (S := []) E (Z_X2_placeOf_75 l D aC b v5 q5_4_0 x2 hj_1.1 ) cv_X2_111 rfl rfl rfl (jv_lt hj_1 (by decide)) (Nat.le_of_ble_eq_true rfl) (Nat.le_of_ble_eq_true rfl) ⟨(Nat.le_of_ble_eq_true rfl), (Nat.le_of_ble_eq_true rfl)⟩ (Nat.le_of_ble_eq_true rfl) dX2_ladiesIn_18 (fun z_6 u_4 hp_5 => ?_)
    obtain ⟨hz_6, hp_5⟩ := hp_5
    subst hp_5
    refine s_iload_n E dX2_ladiesIn_21 rfl rfl ?_
    refine z_icmp_ne (tgt := 32) (u := z_6.toInt) (v := x1.toInt) E dX2_ladiesIn_22 (by decide) rfl rfl (fun h_8 => ?_) (fun h_8 => ?_)
    ·
      refine z_iinc (u := q5_4_0.toInt) (L2 := fun z_9 => [some (AR 75), some (AI x1), some (AI x2), some (AI q5_3_0), some (AI z_9)]) E dX2_ladiesIn_32 rfl rfl (by decide) (fun _ => rfl) (by decide) (by omega) (by omega) (fun z_9 hz_9 => ?_)
      refine s_goto (tgt := 5) E dX2_ladiesIn_35 (by decide) ?_
      exact ih5 ⟨q5_3_0, z_9⟩ v5 ⟨⟨by have hb_ := z32 z_9; omega, by have hb_ := z32 z_9; omega⟩, hj_1⟩ (by first | omega | (dsimp only; omega))
    ·
      refine s_iload_n E dX2_ladiesIn_25 rfl rfl ?_
      refine s_iconst (v := 1) E dX2_ladiesIn_26 (by decide) ?_
      refine s_iload E dX2_ladiesIn_27 rfl ?_
      refine z_shl1 5 (u := q5_4_0.toInt) (B := 32) E dX2_ladiesIn_29 rfl (by omega) (by omega) (by decide) (by decide) (fun z_10 hz_10 => ?_)
      refine s_ior E dX2_ladiesIn_30 ?_
      refine z_any (fun z_11 => ?_)
      refine s_istore_n (L2 := [some (AR 75), some (AI x1), some (AI x2), some (AI z_11), some (AI q5_4_0)]) E dX2_ladiesIn_31 rfl (by decide) rfl ?_
      refine z_iinc (u := q5_4_0.toInt) (L2 := fun z_12 => [some (AR 75), some (AI x1), some (AI x2), some (AI z_11), some (AI z_12)]) E dX2_ladiesIn_32 rfl rfl (by decide) (fun _ => rfl) (by decide) (by omega) (by omega) (fun z_12 hz_12 => ?_)
      refine s_goto (tgt := 5) E dX2_ladiesIn_35 (by decide) ?_
      exact ih5 ⟨z_11, z_12⟩ v5 ⟨⟨by have hb_ := z32 z_12; omega, by have hb_ := z32 z_12; omega⟩, hj_1⟩ (by first | omega | (dsimp only; omega))
set_option maxRecDepth 20000 in
set_option maxHeartbeats 2000000 in
theorem Z_X2_gather_75 (l : Launch) (D : va_G) (aC : Nat → ClassId) (b : Nat) (w : XW)  (hI : Iv w)  : CnV l D aC b M_X2_gather 3 68 0 0 [AR 75] w (fun u => Jv w u) := by
  refine cn_V (own := RX2) (nm := "gather") (L0 := [some (AR 75), none, none]) (by decide +kernel) rfl rfl (Nat.le_of_ble_eq_true rfl) rfl ?_
  intro p e s m args below meth c E hin
  have hJ : Jv w w := jv_rfl hI
  refine s_iconst (v := 0) E dX2_gather_0 (by decide) ?_
  refine s_istore_n (L2 := [some (AR 75), some (AI 0), none]) E dX2_gather_1 rfl (by decide) rfl ?_
  refine z_loop (St := Int32) (Pi := fun q2_1_0 v2 => (0 ≤ q2_1_0.toInt ∧ q2_1_0.toInt ≤ 6) ∧ Jv w v2) (Lf := fun q2_1_0 => [some (AR 75), some (AI q2_1_0), none]) (fun q2_1_0 _ => (7 - q2_1_0.toInt).toNat) 0 ⟨⟨by decide, by decide⟩, hJ⟩ ?_
  rintro q2_1_0 v2 ⟨hq2_1, hj_1⟩ ih2
  refine s_loc (L2 := [some (AR 75), some (AI q2_1_0), none]) rfl ?_
  refine s_iload_n E dX2_gather_2 rfl rfl ?_
  refine s_aload_n E dX2_gather_3 rfl rfl ?_
  refine s_gI E fg_X2_35 rfl rfl (jv_lt hj_1 (by decide)) dX2_gather_4 ?_
  refine z_nm (P := fun z => z.toInt = (v2.2.2.1 75 5).toInt ∧ 0 ≤ z.toInt ∧ z.toInt ≤ 6) ⟨rfl, (rg_75_5 hj_1)⟩ (fun z_2 hz_2 => ?_)
  refine z_icmp_ge (tgt := 54) (u := q2_1_0.toInt) (v := z_2.toInt) E dX2_gather_7 (by decide) rfl rfl (fun h_3 => ?_) (fun h_3 => ?_)
  ·
    exact r_void E dX2_gather_54 hj_1
  ·
    refine s_iconst (v := 0) E dX2_gather_10 (by decide) ?_
    refine s_istore_n (L2 := [some (AR 75), some (AI q2_1_0), some (AI 0)]) E dX2_gather_11 rfl (by decide) rfl ?_
    refine z_loop (St := Int32) (Pi := fun q12_2_3 v12 => (0 ≤ q12_2_3.toInt ∧ q12_2_3.toInt ≤ 15) ∧ Jv w v12) (Lf := fun q12_2_3 => [some (AR 75), some (AI q2_1_0), some (AI q12_2_3)]) (fun q12_2_3 _ => (16 - q12_2_3.toInt).toNat) 0 ⟨⟨by decide, by decide⟩, hj_1⟩ ?_
    rintro q12_2_3 v12 ⟨hq12_2, hj_4⟩ ih12
    refine s_loc (L2 := [some (AR 75), some (AI q2_1_0), some (AI q12_2_3)]) rfl ?_
    refine s_iload_n E dX2_gather_12 rfl rfl ?_
    refine s_aload_n E dX2_gather_13 rfl rfl ?_
    refine s_gI E fg_X2_67 rfl rfl (jv_lt hj_4 (by decide)) dX2_gather_14 ?_
    refine z_nm (P := fun z => z.toInt = (v12.2.2.1 75 7).toInt ∧ 0 ≤ z.toInt ∧ z.toInt ≤ 14) ⟨rfl, (rg_75_7 hj_4)⟩ (fun z_5 hz_5 => ?_)
    refine z_icmp_gt (tgt := 48) (u := q12_2_3.toInt) (v := z_5.toInt) E dX2_gather_17 (by decide) rfl rfl (fun h_6 => ?_) (fun h_6 => ?_)
    ·
      refine z_iinc (u := q2_1_0.toInt) (L2 := fun z_7 => [some (AR 75), some (AI z_7), some (AI q12_2_3)]) E dX2_gather_48 rfl rfl (by decide) (fun _ => rfl) (by decide) (by omega) (by omega) (fun z_7 hz_7 => ?_)
      refine s_goto (tgt := 2) E dX2_gather_51 (by decide) ?_
      refine s_drop (i := 2) (L2 := [some (AR 75), some (AI z_7), none]) rfl ?_
      exact ih2 z_7 v12 ⟨⟨by have hb_ := z32 z_7; omega, by have hb_ := z32 z_7; omega⟩, hj_4⟩ (by first | omega | (dsimp only; omega))
    ·
      refine s_aload_n E dX2_gather_20 rfl rfl ?_
      refine s_gR (r := 80) E fg_X2_24 rfl rfl (jv_lt hj_4 (by decide)) (jv_r hj_4 (by decide +kernel)) dX2_gather_21 ?_
      refine s_iload_n E dX2_gather_24 rfl rfl ?_
      refine s_bipush (v := 15) E dX2_gather_25 (by decide) ?_
      refine z_imul (u := q2_1_0.toInt) (v := 15) E dX2_gather_27 rfl (by decide) (by omega) (by omega) (fun z_8 hz_8 => ?_)
      refine s_iload_n E dX2_gather_28 rfl rfl ?_
      refine z_iadd (u := z_8.toInt) (v := q12_2_3.toInt) E dX2_gather_29 rfl rfl (by omega) (by omega) (fun z_9 hz_9 => ?_)
      refine s_aload_n E dX2_gather_30 rfl rfl ?_
      refine s_aload_n E dX2_gather_31 rfl rfl ?_
      refine s_iload_n E dX2_gather_32 rfl rfl ?_
      refine s_iload_n E dX2_gather_33 rfl rfl ?_
      refine s_vI (As := [AI q2_1_0, AI q12_2_3]) (S := [AR 75, AI z_9, AR 80]) E (Z_X2_placeOf_75 l D aC b v12 q2_1_0 q12_2_3 hj_4.1 ) cv_X2_111 rfl rfl rfl (jv_lt hj_4 (by decide)) (Nat.le_of_ble_eq_true rfl) (Nat.le_of_ble_eq_true rfl) ⟨(Nat.le_of_ble_eq_true rfl), (Nat.le_of_ble_eq_true rfl)⟩ (Nat.le_of_ble_eq_true rfl) dX2_gather_34 (fun z_12 u_10 hp_11 => ?_)
      obtain ⟨hz_12, hp_11⟩ := hp_11
      subst hp_11
      refine s_iload_n E dX2_gather_37 rfl rfl ?_
      refine s_vI (As := [AI z_12, AI q12_2_3]) (S := [AI z_9, AR 80]) E (Z_X2_ladiesIn_75 l D aC b v12 z_12 q12_2_3 hj_4.1 ) cv_X2_114 rfl rfl rfl (jv_lt hj_4 (by decide)) (Nat.le_of_ble_eq_true rfl) (Nat.le_of_ble_eq_true rfl) ⟨(Nat.le_of_ble_eq_true rfl), (Nat.le_of_ble_eq_true rfl)⟩ (Nat.le_of_ble_eq_true rfl) dX2_gather_38 (fun z_16 u_14 hp_15 => ?_)
      obtain ⟨hz_16, hp_15⟩ := hp_15
      have hj_17 := jv_trans hj_4 hp_15
      refine s_iast E rfl (jv_lt hj_17 (by decide)) (z_in (u := z_9.toInt) rfl (by omega) (by omega)) dX2_gather_41 ?_
      refine s_gen (P := Jv w) (jv_a_80 hj_17 (by have hb_ := z32 z_16; omega) (by have hb_ := z32 z_16; omega)) (fun v_18 hj_19 => ?_)
      refine z_iinc (u := q12_2_3.toInt) (L2 := fun z_20 => [some (AR 75), some (AI q2_1_0), some (AI z_20)]) E dX2_gather_42 rfl rfl (by decide) (fun _ => rfl) (by decide) (by omega) (by omega) (fun z_20 hz_20 => ?_)
      refine s_goto (tgt := 12) E dX2_gather_45 (by decide) ?_
      exact ih12 z_20 v_18 ⟨⟨by have hb_ := z32 z_20; omega, by have hb_ := z32 z_20; omega⟩, hj_19⟩ (by first | omega | (dsimp only; omega))
set_option maxRecDepth 20000 in
set_option maxHeartbeats 2000000 in
theorem Z_X2_goalOf_75 (l : Launch) (D : va_G) (aC : Nat → ClassId) (b : Nat) (w : XW) (x1 : Int32) (x2 : Int32) (hI : Iv w)  : CnI l D aC b M_X2_goalOf 1 22 0 0 [AR 75, AI x1, AI x2] w (fun r u => ((-2147483648) ≤ r.toInt ∧ r.toInt ≤ 2147483647 ∧ (¬ r.toInt = 0 ∨ (0 ≤ x1.toInt ∧ x1.toInt ≤ 5)) ∧ (¬ r.toInt = 0 ∨ (0 ≤ x2.toInt ∧ x2.toInt ≤ 14)) ∧ (¬ r.toInt = 0 ∨ (1 ≤ (w.2.2.1 75 5).toInt ∧ (w.2.2.1 75 5).toInt ≤ 6))) ∧ w = u) := by
  refine cn_I (own := RX2) (nm := "goalOf") (L0 := [some (AR 75), some (AI x1), some (AI x2)]) (by decide +kernel) rfl rfl (Nat.le_of_ble_eq_true rfl) rfl ?_
  intro p e s m args below meth c E hin
  have hJ : Jv w w := jv_rfl hI
  refine s_aload_n E dX2_goalOf_0 rfl rfl ?_
  refine s_iload_n E dX2_goalOf_1 rfl rfl ?_
  refine s_iload_n E dX2_goalOf_2 rfl rfl ?_
  refine s_vI (As := [AI x1, AI x2]) (S := []) E (Z_X2_isHere_75 l D aC b w x1 x2 hJ.1 ) cv_X2_127 rfl rfl rfl (jv_lt hJ (by decide)) (Nat.le_of_ble_eq_true rfl) (Nat.le_of_ble_eq_true rfl) ⟨(Nat.le_of_ble_eq_true rfl), (Nat.le_of_ble_eq_true rfl)⟩ (Nat.le_of_ble_eq_true rfl) dX2_goalOf_3 (fun z_3 u_1 hp_2 => ?_)
  obtain ⟨hz_3, hp_2⟩ := hp_2
  subst hp_2
  refine z_if_eq (tgt := 23) (u := z_3.toInt) E dX2_goalOf_6 (by decide) rfl (fun h_5 => ?_) (fun h_5 => ?_)
  ·
    refine s_iconst (v := (-1)) E dX2_goalOf_23 (by decide) ?_
    exact r_int E dX2_goalOf_24 ⟨⟨by decide, by decide, by first | (left; decide) | (right; have hb_ := z32 x1; omega), by first | (left; decide) | (right; have hb_ := z32 x2; omega), by first | (left; decide) | (right; have hb_ := z32 (w.2.2.1 75 5); omega)⟩, rfl⟩
  ·
    refine s_aload_n E dX2_goalOf_9 rfl rfl ?_
    refine s_gR (r := 77) E fg_X2_15 rfl rfl (jv_lt hJ (by decide)) (jv_r hJ (by decide +kernel)) dX2_goalOf_10 ?_
    refine s_iload_n E dX2_goalOf_13 rfl rfl ?_
    refine s_bipush (v := 15) E dX2_goalOf_14 (by decide) ?_
    refine z_imul (u := x1.toInt) (v := 15) E dX2_goalOf_16 rfl (by decide) (by omega) (by omega) (fun z_6 hz_6 => ?_)
    refine s_iload_n E dX2_goalOf_17 rfl rfl ?_
    refine z_iadd (u := z_6.toInt) (v := x2.toInt) E dX2_goalOf_18 rfl rfl (by omega) (by omega) (fun z_7 hz_7 => ?_)
    refine s_iald E rfl (jv_lt hJ (by decide)) (z_in (u := z_7.toInt) rfl (by omega) (by omega)) dX2_goalOf_19 ?_
    refine z_any (fun z_8 => ?_)
    refine s_goto (tgt := 24) E dX2_goalOf_20 (by decide) ?_
    exact r_int E dX2_goalOf_24 ⟨⟨by have hb_ := z32 z_8; omega, by have hb_ := z32 z_8; omega, by have hb_ := z32 z_8; have hc_ := z32 x1; omega, by have hb_ := z32 z_8; have hc_ := z32 x2; omega, by have hb_ := z32 z_8; have hc_ := z32 (w.2.2.1 75 5); omega⟩, rfl⟩
set_option maxRecDepth 20000 in
set_option maxHeartbeats 2000000 in
theorem Z_X2_stepsFrom_75 (l : Launch) (D : va_G) (aC : Nat → ClassId) (b : Nat) (w : XW) (x1 : Int32) (x2 : Int32) (hI : Iv w)  : CnI l D aC b M_X2_stepsFrom 0 0 0 0 [AR 75, AI x1, AI x2] w (fun r u => ((-2147483648) ≤ r.toInt ∧ r.toInt ≤ 2147483647 ∧ (r.toInt = 0 ∨ (0 ≤ x1.toInt ∧ x1.toInt ≤ 5)) ∧ (r.toInt = 0 ∨ (0 ≤ x2.toInt ∧ x2.toInt ≤ 7)) ∧ (r.toInt = 0 ∨ (1 ≤ (w.2.2.1 75 5).toInt ∧ (w.2.2.1 75 5).toInt ≤ 6)) ∧ (r.toInt = 0 ∨ (1 ≤ (w.2.2.1 75 6).toInt ∧ (w.2.2.1 75 6).toInt ≤ 8))) ∧ w = u) := by
  refine cn_I (own := RX2) (nm := "stepsFrom") (L0 := [some (AR 75), some (AI x1), some (AI x2)]) (by decide +kernel) rfl rfl (Nat.le_of_ble_eq_true rfl) rfl ?_
  intro p e s m args below meth c E hin
  have hJ : Jv w w := jv_rfl hI
  refine s_iload_n E dX2_stepsFrom_0 rfl rfl ?_
  refine z_if_lt (tgt := 24) (u := x1.toInt) E dX2_stepsFrom_1 (by decide) rfl (fun h_1 => ?_) (fun h_1 => ?_)
  ·
    refine s_iconst (v := 0) E dX2_stepsFrom_24 (by decide) ?_
    exact r_int E dX2_stepsFrom_25 ⟨⟨by decide, by decide, by first | (left; decide) | (right; have hb_ := z32 x1; omega), by first | (left; decide) | (right; have hb_ := z32 x2; omega), by first | (left; decide) | (right; have hb_ := z32 (w.2.2.1 75 5); omega), by first | (left; decide) | (right; have hb_ := z32 (w.2.2.1 75 6); omega)⟩, rfl⟩
  ·
    refine s_iload_n E dX2_stepsFrom_4 rfl rfl ?_
    refine s_aload_n E dX2_stepsFrom_5 rfl rfl ?_
    refine s_gI E fg_X2_35 rfl rfl (jv_lt hJ (by decide)) dX2_stepsFrom_6 ?_
    refine z_nm (P := fun z => z.toInt = (w.2.2.1 75 5).toInt ∧ 0 ≤ z.toInt ∧ z.toInt ≤ 6) ⟨rfl, (rg_75_5 hJ)⟩ (fun z_2 hz_2 => ?_)
    refine z_icmp_ge (tgt := 24) (u := x1.toInt) (v := z_2.toInt) E dX2_stepsFrom_9 (by decide) rfl rfl (fun h_3 => ?_) (fun h_3 => ?_)
    ·
      refine s_iconst (v := 0) E dX2_stepsFrom_24 (by decide) ?_
      exact r_int E dX2_stepsFrom_25 ⟨⟨by decide, by decide, by first | (left; decide) | (right; have hb_ := z32 x1; omega), by first | (left; decide) | (right; have hb_ := z32 x2; omega), by first | (left; decide) | (right; have hb_ := z32 (w.2.2.1 75 5); omega), by first | (left; decide) | (right; have hb_ := z32 (w.2.2.1 75 6); omega)⟩, rfl⟩
    ·
      refine s_iload_n E dX2_stepsFrom_12 rfl rfl ?_
      refine z_if_lt (tgt := 24) (u := x2.toInt) E dX2_stepsFrom_13 (by decide) rfl (fun h_4 => ?_) (fun h_4 => ?_)
      ·
        refine s_iconst (v := 0) E dX2_stepsFrom_24 (by decide) ?_
        exact r_int E dX2_stepsFrom_25 ⟨⟨by decide, by decide, by first | (left; decide) | (right; have hb_ := z32 x1; omega), by first | (left; decide) | (right; have hb_ := z32 x2; omega), by first | (left; decide) | (right; have hb_ := z32 (w.2.2.1 75 5); omega), by first | (left; decide) | (right; have hb_ := z32 (w.2.2.1 75 6); omega)⟩, rfl⟩
      ·
        refine s_iload_n E dX2_stepsFrom_16 rfl rfl ?_
        refine s_aload_n E dX2_stepsFrom_17 rfl rfl ?_
        refine s_gI E fg_X2_63 rfl rfl (jv_lt hJ (by decide)) dX2_stepsFrom_18 ?_
        refine z_nm (P := fun z => z.toInt = (w.2.2.1 75 6).toInt ∧ 0 ≤ z.toInt ∧ z.toInt ≤ 8) ⟨rfl, (rg_75_6 hJ)⟩ (fun z_5 hz_5 => ?_)
        refine z_icmp_lt (tgt := 26) (u := x2.toInt) (v := z_5.toInt) E dX2_stepsFrom_21 (by decide) rfl rfl (fun h_6 => ?_) (fun h_6 => ?_)
        ·
          refine s_aload_n E dX2_stepsFrom_26 rfl rfl ?_
          refine s_gR (r := 76) E fg_X2_9 rfl rfl (jv_lt hJ (by decide)) (jv_r hJ (by decide +kernel)) dX2_stepsFrom_27 ?_
          refine s_iload_n E dX2_stepsFrom_30 rfl rfl ?_
          refine s_bipush (v := 8) E dX2_stepsFrom_31 (by decide) ?_
          refine z_imul (u := x1.toInt) (v := 8) E dX2_stepsFrom_33 rfl (by decide) (by omega) (by omega) (fun z_7 hz_7 => ?_)
          refine s_iload_n E dX2_stepsFrom_34 rfl rfl ?_
          refine z_iadd (u := z_7.toInt) (v := x2.toInt) E dX2_stepsFrom_35 rfl rfl (by omega) (by omega) (fun z_8 hz_8 => ?_)
          refine s_iald E rfl (jv_lt hJ (by decide)) (z_in (u := z_8.toInt) rfl (by omega) (by omega)) dX2_stepsFrom_36 ?_
          refine z_any (fun z_9 => ?_)
          exact r_int E dX2_stepsFrom_37 ⟨⟨by have hb_ := z32 z_9; omega, by have hb_ := z32 z_9; omega, by have hb_ := z32 z_9; have hc_ := z32 x1; omega, by have hb_ := z32 z_9; have hc_ := z32 x2; omega, by have hb_ := z32 z_9; have hc_ := z32 (w.2.2.1 75 5); omega, by have hb_ := z32 z_9; have hc_ := z32 (w.2.2.1 75 6); omega⟩, rfl⟩
        ·
          refine s_iconst (v := 0) E dX2_stepsFrom_24 (by decide) ?_
          exact r_int E dX2_stepsFrom_25 ⟨⟨by decide, by decide, by first | (left; decide) | (right; have hb_ := z32 x1; omega), by first | (left; decide) | (right; have hb_ := z32 x2; omega), by first | (left; decide) | (right; have hb_ := z32 (w.2.2.1 75 5); omega), by first | (left; decide) | (right; have hb_ := z32 (w.2.2.1 75 6); omega)⟩, rfl⟩
set_option maxRecDepth 20000 in
set_option maxHeartbeats 2000000 in
theorem Z_X2_spread_75 (l : Launch) (D : va_G) (aC : Nat → ClassId) (b : Nat) (w : XW) (x1 : Int32) (x2 : Int32) (hI : Iv w)  : CnI l D aC b M_X2_spread 1 22 0 0 [AR 75, AI x1, AI x2] w (fun r u => ((-2147483648) ≤ r.toInt ∧ r.toInt ≤ 2147483647) ∧ Jv w u) := by
  refine cn_I (own := RX2) (nm := "spread") (L0 := [some (AR 75), some (AI x1), some (AI x2), none, none]) (by decide +kernel) rfl rfl (Nat.le_of_ble_eq_true rfl) rfl ?_
  intro p e s m args below meth c E hin
  have hJ : Jv w w := jv_rfl hI
  refine s_iconst (v := 0) E dX2_spread_0 (by decide) ?_
  refine s_istore_n (L2 := [some (AR 75), some (AI x1), some (AI x2), some (AI 0), none]) E dX2_spread_1 rfl (by decide) rfl ?_
  refine s_iconst (v := 0) E dX2_spread_2 (by decide) ?_
  refine s_istore (L2 := [some (AR 75), some (AI x1), some (AI x2), some (AI 0), some (AI 0)]) E dX2_spread_3 (by decide) rfl ?_
  refine z_loop (St := Int32 × Int32) (Pi := fun ⟨q5_3_0, q5_4_0⟩ v5 => (0 ≤ q5_4_0.toInt ∧ q5_4_0.toInt ≤ 8) ∧ Jv w v5) (Lf := fun ⟨q5_3_0, q5_4_0⟩ => [some (AR 75), some (AI x1), some (AI x2), some (AI q5_3_0), some (AI q5_4_0)]) (fun ⟨q5_3_0, q5_4_0⟩ _ => (9 - q5_4_0.toInt).toNat) ⟨0, 0⟩ ⟨⟨by decide, by decide⟩, hJ⟩ ?_
  rintro ⟨q5_3_0, q5_4_0⟩ v5 ⟨hq5_4, hj_1⟩ ih5
  refine s_loc (L2 := [some (AR 75), some (AI x1), some (AI x2), some (AI q5_3_0), some (AI q5_4_0)]) rfl ?_
  refine s_iload E dX2_spread_5 rfl ?_
  refine s_aload_n E dX2_spread_7 rfl rfl ?_
  refine s_gI E fg_X2_63 rfl rfl (jv_lt hj_1 (by decide)) dX2_spread_8 ?_
  refine z_nm (P := fun z => z.toInt = (v5.2.2.1 75 6).toInt ∧ 0 ≤ z.toInt ∧ z.toInt ≤ 8) ⟨rfl, (rg_75_6 hj_1)⟩ (fun z_2 hz_2 => ?_)
  refine z_icmp_ge (tgt := 39) (u := q5_4_0.toInt) (v := z_2.toInt) E dX2_spread_11 (by decide) rfl rfl (fun h_3 => ?_) (fun h_3 => ?_)
  ·
    refine s_iload_n E dX2_spread_39 rfl rfl ?_
    exact r_int E dX2_spread_40 ⟨⟨by have hb_ := z32 q5_3_0; omega, by have hb_ := z32 q5_3_0; omega⟩, hj_1⟩
  ·
    refine s_iload_n E dX2_spread_14 rfl rfl ?_
    refine s_iload E dX2_spread_15 rfl ?_
    refine s_sI (As := [AI x2, AI q5_4_0]) (S := []) E (Z_X9_hasBit l D aC b v5 x2 q5_4_0 hj_1.1 ) cs_X2_123 rfl rfl (Nat.le_of_ble_eq_true rfl) (Nat.le_of_ble_eq_true rfl) ⟨(Nat.le_of_ble_eq_true rfl), (Nat.le_of_ble_eq_true rfl)⟩ (Nat.le_of_ble_eq_true rfl) dX2_spread_17 (fun z_6 u_4 hp_5 => ?_)
    obtain ⟨hz_6, hp_5⟩ := hp_5
    subst hp_5
    refine z_if_eq (tgt := 33) (u := z_6.toInt) E dX2_spread_20 (by decide) rfl (fun h_8 => ?_) (fun h_8 => ?_)
    ·
      refine z_iinc (u := q5_4_0.toInt) (L2 := fun z_9 => [some (AR 75), some (AI x1), some (AI x2), some (AI q5_3_0), some (AI z_9)]) E dX2_spread_33 rfl rfl (by decide) (fun _ => rfl) (by decide) (by omega) (by omega) (fun z_9 hz_9 => ?_)
      refine s_goto (tgt := 5) E dX2_spread_36 (by decide) ?_
      exact ih5 ⟨q5_3_0, z_9⟩ v5 ⟨⟨by have hb_ := z32 z_9; omega, by have hb_ := z32 z_9; omega⟩, hj_1⟩ (by first | omega | (dsimp only; omega))
    ·
      refine s_iload_n E dX2_spread_23 rfl rfl ?_
      refine s_aload_n E dX2_spread_24 rfl rfl ?_
      refine s_iload_n E dX2_spread_25 rfl rfl ?_
      refine s_iload E dX2_spread_26 rfl ?_
      refine s_vI (As := [AI x1, AI q5_4_0]) (S := [AI q5_3_0]) E (Z_X2_stepsFrom_75 l D aC b v5 x1 q5_4_0 hj_1.1 ) cv_X2_101 rfl rfl rfl (jv_lt hj_1 (by decide)) (Nat.le_of_ble_eq_true rfl) (Nat.le_of_ble_eq_true rfl) ⟨(Nat.le_of_ble_eq_true rfl), (Nat.le_of_ble_eq_true rfl)⟩ (Nat.le_of_ble_eq_true rfl) dX2_spread_28 (fun z_12 u_10 hp_11 => ?_)
      obtain ⟨hz_12, hp_11⟩ := hp_11
      subst hp_11
      refine s_ior E dX2_spread_31 ?_
      refine z_any (fun z_14 => ?_)
      refine s_istore_n (L2 := [some (AR 75), some (AI x1), some (AI x2), some (AI z_14), some (AI q5_4_0)]) E dX2_spread_32 rfl (by decide) rfl ?_
      refine z_iinc (u := q5_4_0.toInt) (L2 := fun z_15 => [some (AR 75), some (AI x1), some (AI x2), some (AI z_14), some (AI z_15)]) E dX2_spread_33 rfl rfl (by decide) (fun _ => rfl) (by decide) (by omega) (by omega) (fun z_15 hz_15 => ?_)
      refine s_goto (tgt := 5) E dX2_spread_36 (by decide) ?_
      exact ih5 ⟨z_14, z_15⟩ v5 ⟨⟨by have hb_ := z32 z_15; omega, by have hb_ := z32 z_15; omega⟩, hj_1⟩ (by first | omega | (dsimp only; omega))
set_option maxRecDepth 20000 in
set_option maxHeartbeats 2000000 in
theorem Z_X2_nextRoom_75 (l : Launch) (D : va_G) (aC : Nat → ClassId) (b : Nat) (w : XW) (x1 : Int32) (x2 : Int32) (x3 : Int32) (hI : Iv w)  : CnI l D aC b M_X2_nextRoom 2 46 0 0 [AR 75, AI x1, AI x2, AI x3] w (fun r u => ((-2147483648) ≤ r.toInt ∧ r.toInt ≤ 2147483647) ∧ Jv w u) := by
  refine cn_I (own := RX2) (nm := "nextRoom") (L0 := [some (AR 75), some (AI x1), some (AI x2), some (AI x3), none, none, none]) (by decide +kernel) rfl rfl (Nat.le_of_ble_eq_true rfl) rfl ?_
  intro p e s m args below meth c E hin
  have hJ : Jv w w := jv_rfl hI
  refine s_iload_n E dX2_nextRoom_0 rfl rfl ?_
  refine s_iconst (v := (-1)) E dX2_nextRoom_1 (by decide) ?_
  refine z_icmp_eq (tgt := 10) (u := x3.toInt) (v := (-1)) E dX2_nextRoom_2 (by decide) rfl (by decide) (fun h_1 => ?_) (fun h_1 => ?_)
  ·
    refine s_iload_n E dX2_nextRoom_10 rfl rfl ?_
    exact r_int E dX2_nextRoom_11 ⟨⟨by have hb_ := z32 x2; omega, by have hb_ := z32 x2; omega⟩, hJ⟩
  ·
    refine s_iload_n E dX2_nextRoom_5 rfl rfl ?_
    refine s_iload_n E dX2_nextRoom_6 rfl rfl ?_
    refine z_icmp_ne (tgt := 12) (u := x3.toInt) (v := x2.toInt) E dX2_nextRoom_7 (by decide) rfl rfl (fun h_2 => ?_) (fun h_2 => ?_)
    ·
      refine s_iconst (v := 1) E dX2_nextRoom_12 (by decide) ?_
      refine s_iload_n E dX2_nextRoom_13 rfl rfl ?_
      refine s_ishl E dX2_nextRoom_14 ?_
      refine z_any (fun z_3 => ?_)
      refine s_istore (L2 := [some (AR 75), some (AI x1), some (AI x2), some (AI x3), some (AI z_3), none, none]) E dX2_nextRoom_15 (by decide) rfl ?_
      refine s_iconst (v := 0) E dX2_nextRoom_17 (by decide) ?_
      refine s_istore (L2 := [some (AR 75), some (AI x1), some (AI x2), some (AI x3), some (AI z_3), some (AI 0), none]) E dX2_nextRoom_18 (by decide) rfl ?_
      refine z_loop (St := Int32 × Int32) (Pi := fun ⟨q20_4_3, q20_5_3⟩ v20 => (0 ≤ q20_5_3.toInt ∧ q20_5_3.toInt ≤ 8) ∧ Jv w v20) (Lf := fun ⟨q20_4_3, q20_5_3⟩ => [some (AR 75), some (AI x1), some (AI x2), some (AI x3), some (AI q20_4_3), some (AI q20_5_3), none]) (fun ⟨q20_4_3, q20_5_3⟩ _ => (9 - q20_5_3.toInt).toNat) ⟨z_3, 0⟩ ⟨⟨by decide, by decide⟩, hJ⟩ ?_
      rintro ⟨q20_4_3, q20_5_3⟩ v20 ⟨hq20_5, hj_4⟩ ih20
      refine s_loc (L2 := [some (AR 75), some (AI x1), some (AI x2), some (AI x3), some (AI q20_4_3), some (AI q20_5_3), none]) rfl ?_
      refine s_iload E dX2_nextRoom_20 rfl ?_
      refine s_aload_n E dX2_nextRoom_22 rfl rfl ?_
      refine s_gI E fg_X2_63 rfl rfl (jv_lt hj_4 (by decide)) dX2_nextRoom_23 ?_
      refine z_nm (P := fun z => z.toInt = (v20.2.2.1 75 6).toInt ∧ 0 ≤ z.toInt ∧ z.toInt ≤ 8) ⟨rfl, (rg_75_6 hj_4)⟩ (fun z_5 hz_5 => ?_)
      refine z_icmp_ge (tgt := 66) (u := q20_5_3.toInt) (v := z_5.toInt) E dX2_nextRoom_26 (by decide) rfl rfl (fun h_6 => ?_) (fun h_6 => ?_)
      ·
        refine s_iload_n E dX2_nextRoom_66 rfl rfl ?_
        exact r_int E dX2_nextRoom_67 ⟨⟨by have hb_ := z32 x2; omega, by have hb_ := z32 x2; omega⟩, hj_4⟩
      ·
        refine s_aload_n E dX2_nextRoom_29 rfl rfl ?_
        refine s_iload_n E dX2_nextRoom_30 rfl rfl ?_
        refine s_iload_n E dX2_nextRoom_31 rfl rfl ?_
        refine s_vI (As := [AI x1, AI x2]) (S := []) E (Z_X2_stepsFrom_75 l D aC b v20 x1 x2 hj_4.1 ) cv_X2_101 rfl rfl rfl (jv_lt hj_4 (by decide)) (Nat.le_of_ble_eq_true rfl) (Nat.le_of_ble_eq_true rfl) ⟨(Nat.le_of_ble_eq_true rfl), (Nat.le_of_ble_eq_true rfl)⟩ (Nat.le_of_ble_eq_true rfl) dX2_nextRoom_32 (fun z_9 u_7 hp_8 => ?_)
        obtain ⟨hz_9, hp_8⟩ := hp_8
        subst hp_8
        refine s_iload E dX2_nextRoom_35 rfl ?_
        refine s_iand E dX2_nextRoom_37 ?_
        refine z_any (fun z_11 => ?_)
        refine s_istore (L2 := [some (AR 75), some (AI x1), some (AI x2), some (AI x3), some (AI q20_4_3), some (AI q20_5_3), some (AI z_11)]) E dX2_nextRoom_38 (by decide) rfl ?_
        refine s_iload E dX2_nextRoom_40 rfl ?_
        refine z_if_eq (tgt := 51) (u := z_11.toInt) E dX2_nextRoom_42 (by decide) rfl (fun h_12 => ?_) (fun h_12 => ?_)
        ·
          refine s_aload_n E dX2_nextRoom_51 rfl rfl ?_
          refine s_iload_n E dX2_nextRoom_52 rfl rfl ?_
          refine s_iload E dX2_nextRoom_53 rfl ?_
          refine s_vI (As := [AI x1, AI q20_4_3]) (S := []) E (Z_X2_spread_75 l D aC b v20 x1 q20_4_3 hj_4.1 ) cv_X2_108 rfl rfl rfl (jv_lt hj_4 (by decide)) (Nat.le_of_ble_eq_true rfl) (Nat.le_of_ble_eq_true rfl) ⟨(Nat.le_of_ble_eq_true rfl), (Nat.le_of_ble_eq_true rfl)⟩ (Nat.le_of_ble_eq_true rfl) dX2_nextRoom_55 (fun z_15 u_13 hp_14 => ?_)
          obtain ⟨hz_15, hp_14⟩ := hp_14
          have hj_16 := jv_trans hj_4 hp_14
          refine s_istore (L2 := [some (AR 75), some (AI x1), some (AI x2), some (AI x3), some (AI z_15), some (AI q20_5_3), some (AI z_11)]) E dX2_nextRoom_58 (by decide) rfl ?_
          refine z_iinc (u := q20_5_3.toInt) (L2 := fun z_17 => [some (AR 75), some (AI x1), some (AI x2), some (AI x3), some (AI z_15), some (AI z_17), some (AI z_11)]) E dX2_nextRoom_60 rfl rfl (by decide) (fun _ => rfl) (by decide) (by omega) (by omega) (fun z_17 hz_17 => ?_)
          refine s_goto (tgt := 20) E dX2_nextRoom_63 (by decide) ?_
          refine s_drop (i := 6) (L2 := [some (AR 75), some (AI x1), some (AI x2), some (AI x3), some (AI z_15), some (AI z_17), none]) rfl ?_
          exact ih20 ⟨z_15, z_17⟩ u_13 ⟨⟨by have hb_ := z32 z_17; omega, by have hb_ := z32 z_17; omega⟩, hj_16⟩ (by first | omega | (dsimp only; omega))
        ·
          refine s_iload E dX2_nextRoom_45 rfl ?_
          refine s_sI (As := [AI z_11]) (S := []) E (Z_X9_lowest l D aC b v20 z_11 hj_4.1 ) cs_X2_104 rfl rfl (Nat.le_of_ble_eq_true rfl) (Nat.le_of_ble_eq_true rfl) ⟨(Nat.le_of_ble_eq_true rfl), (Nat.le_of_ble_eq_true rfl)⟩ (Nat.le_of_ble_eq_true rfl) dX2_nextRoom_47 (fun z_20 u_18 hp_19 => ?_)
          obtain ⟨hz_20, hp_19⟩ := hp_19
          have hj_21 := jv_trans hj_4 hp_19
          exact r_int E dX2_nextRoom_50 ⟨⟨by have hb_ := z32 z_20; omega, by have hb_ := z32 z_20; omega⟩, hj_21⟩
    ·
      refine s_iload_n E dX2_nextRoom_10 rfl rfl ?_
      exact r_int E dX2_nextRoom_11 ⟨⟨by have hb_ := z32 x2; omega, by have hb_ := z32 x2; omega⟩, hJ⟩
set_option maxRecDepth 20000 in
set_option maxHeartbeats 2000000 in
theorem Z_X2_goAsBidden_75 (l : Launch) (D : va_G) (aC : Nat → ClassId) (b : Nat) (w : XW) (x1 : Int32) (x2 : Int32) (hI : Iv w) (hx1 : 0 ≤ x1.toInt ∧ x1.toInt ≤ 5) : CnV l D aC b M_X2_goAsBidden 3 72 0 0 [AR 75, AI x1, AI x2] w (fun u => Jv w u) := by
  refine cn_V (own := RX2) (nm := "goAsBidden") (L0 := [some (AR 75), some (AI x1), some (AI x2), none, none]) (by decide +kernel) rfl rfl (Nat.le_of_ble_eq_true rfl) rfl ?_
  intro p e s m args below meth c E hin
  have hJ : Jv w w := jv_rfl hI
  refine s_iload_n E dX2_goAsBidden_0 rfl rfl ?_
  refine s_istore_n (L2 := [some (AR 75), some (AI x1), some (AI x2), some (AI x2), none]) E dX2_goAsBidden_1 rfl (by decide) rfl ?_
  refine s_aload_n E dX2_goAsBidden_2 rfl rfl ?_
  refine s_gR (r := 79) E fg_X2_21 rfl rfl (jv_lt hJ (by decide)) (jv_r hJ (by decide +kernel)) dX2_goAsBidden_3 ?_
  refine s_iload_n E dX2_goAsBidden_6 rfl rfl ?_
  refine s_bipush (v := 15) E dX2_goAsBidden_7 (by decide) ?_
  refine z_imul (u := x1.toInt) (v := 15) E dX2_goAsBidden_9 rfl (by decide) (by omega) (by omega) (fun z_1 hz_1 => ?_)
  refine s_iload_n E dX2_goAsBidden_10 rfl rfl ?_
  refine s_iast E rfl (jv_lt hJ (by decide)) (z_in (u := z_1.toInt) rfl (by omega) (by omega)) dX2_goAsBidden_11 ?_
  refine s_gen (P := Jv w) (jv_a_79 hJ (by have hb_ := z32 x2; omega) (by have hb_ := z32 x2; omega)) (fun v_2 hj_3 => ?_)
  refine s_iconst (v := 0) E dX2_goAsBidden_12 (by decide) ?_
  refine s_istore (L2 := [some (AR 75), some (AI x1), some (AI x2), some (AI x2), some (AI 0)]) E dX2_goAsBidden_13 (by decide) rfl ?_
  refine z_loop (St := Int32 × Int32) (Pi := fun ⟨q15_3_3, q15_4_3⟩ v15 => (0 ≤ q15_4_3.toInt ∧ q15_4_3.toInt ≤ 14) ∧ Jv w v15) (Lf := fun ⟨q15_3_3, q15_4_3⟩ => [some (AR 75), some (AI x1), some (AI x2), some (AI q15_3_3), some (AI q15_4_3)]) (fun ⟨q15_3_3, q15_4_3⟩ _ => (15 - q15_4_3.toInt).toNat) ⟨x2, 0⟩ ⟨⟨by decide, by decide⟩, hj_3⟩ ?_
  rintro ⟨q15_3_3, q15_4_3⟩ v15 ⟨hq15_4, hj_4⟩ ih15
  refine s_loc (L2 := [some (AR 75), some (AI x1), some (AI x2), some (AI q15_3_3), some (AI q15_4_3)]) rfl ?_
  refine s_iload E dX2_goAsBidden_15 rfl ?_
  refine s_aload_n E dX2_goAsBidden_17 rfl rfl ?_
  refine s_gI E fg_X2_67 rfl rfl (jv_lt hj_4 (by decide)) dX2_goAsBidden_18 ?_
  refine z_nm (P := fun z => z.toInt = (v15.2.2.1 75 7).toInt ∧ 0 ≤ z.toInt ∧ z.toInt ≤ 14) ⟨rfl, (rg_75_7 hj_4)⟩ (fun z_5 hz_5 => ?_)
  refine z_icmp_ge (tgt := 59) (u := q15_4_3.toInt) (v := z_5.toInt) E dX2_goAsBidden_21 (by decide) rfl rfl (fun h_6 => ?_) (fun h_6 => ?_)
  ·
    exact r_void E dX2_goAsBidden_59 hj_4
  ·
    refine s_aload_n E dX2_goAsBidden_24 rfl rfl ?_
    refine s_iload_n E dX2_goAsBidden_25 rfl rfl ?_
    refine s_iload_n E dX2_goAsBidden_26 rfl rfl ?_
    refine s_aload_n E dX2_goAsBidden_27 rfl rfl ?_
    refine s_iload_n E dX2_goAsBidden_28 rfl rfl ?_
    refine s_iload E dX2_goAsBidden_29 rfl ?_
    refine s_vI (As := [AI x1, AI q15_4_3]) (S := [AI q15_3_3, AI x1, AR 75]) E (Z_X2_goalOf_75 l D aC b v15 x1 q15_4_3 hj_4.1 ) cv_X2_94 rfl rfl rfl (jv_lt hj_4 (by decide)) (Nat.le_of_ble_eq_true rfl) (Nat.le_of_ble_eq_true rfl) ⟨(Nat.le_of_ble_eq_true rfl), (Nat.le_of_ble_eq_true rfl)⟩ (Nat.le_of_ble_eq_true rfl) dX2_goAsBidden_31 (fun z_9 u_7 hp_8 => ?_)
    obtain ⟨hz_9, hp_8⟩ := hp_8
    subst hp_8
    refine s_vI (As := [AI x1, AI q15_3_3, AI z_9]) (S := []) E (Z_X2_nextRoom_75 l D aC b v15 x1 q15_3_3 z_9 hj_4.1 ) cv_X2_97 rfl rfl rfl (jv_lt hj_4 (by decide)) (Nat.le_of_ble_eq_true rfl) (Nat.le_of_ble_eq_true rfl) ⟨(Nat.le_of_ble_eq_true rfl), (Nat.le_of_ble_eq_true rfl)⟩ (Nat.le_of_ble_eq_true rfl) dX2_goAsBidden_34 (fun z_13 u_11 hp_12 => ?_)
    obtain ⟨hz_13, hp_12⟩ := hp_12
    have hj_14 := jv_trans hj_4 hp_12
    refine s_istore_n (L2 := [some (AR 75), some (AI x1), some (AI x2), some (AI z_13), some (AI q15_4_3)]) E dX2_goAsBidden_37 rfl (by decide) rfl ?_
    refine s_aload_n E dX2_goAsBidden_38 rfl rfl ?_
    refine s_gR (r := 79) E fg_X2_21 rfl rfl (jv_lt hj_14 (by decide)) (jv_r hj_14 (by decide +kernel)) dX2_goAsBidden_39 ?_
    refine s_iload_n E dX2_goAsBidden_42 rfl rfl ?_
    refine s_bipush (v := 15) E dX2_goAsBidden_43 (by decide) ?_
    refine z_imul (u := x1.toInt) (v := 15) E dX2_goAsBidden_45 rfl (by decide) (by omega) (by omega) (fun z_15 hz_15 => ?_)
    refine s_iload E dX2_goAsBidden_46 rfl ?_
    refine z_iadd (u := z_15.toInt) (v := q15_4_3.toInt) E dX2_goAsBidden_48 rfl rfl (by omega) (by omega) (fun z_16 hz_16 => ?_)
    refine s_iconst (v := 1) E dX2_goAsBidden_49 (by decide) ?_
    refine z_iadd (u := z_16.toInt) (v := 1) E dX2_goAsBidden_50 rfl (by decide) (by omega) (by omega) (fun z_17 hz_17 => ?_)
    refine s_iload_n E dX2_goAsBidden_51 rfl rfl ?_
    refine s_iast E rfl (jv_lt hj_14 (by decide)) (z_in (u := z_17.toInt) rfl (by omega) (by omega)) dX2_goAsBidden_52 ?_
    refine s_gen (P := Jv w) (jv_a_79 hj_14 (by have hb_ := z32 z_13; omega) (by have hb_ := z32 z_13; omega)) (fun v_18 hj_19 => ?_)
    refine z_iinc (u := q15_4_3.toInt) (L2 := fun z_20 => [some (AR 75), some (AI x1), some (AI x2), some (AI z_13), some (AI z_20)]) E dX2_goAsBidden_53 rfl rfl (by decide) (fun _ => rfl) (by decide) (by omega) (by omega) (fun z_20 hz_20 => ?_)
    refine s_goto (tgt := 15) E dX2_goAsBidden_56 (by decide) ?_
    exact ih15 ⟨z_13, z_20⟩ v_18 ⟨⟨by have hb_ := z32 z_20; omega, by have hb_ := z32 z_20; omega⟩, hj_19⟩ (by first | omega | (dsimp only; omega))
set_option maxRecDepth 20000 in
set_option maxHeartbeats 2000000 in
theorem Z_X2_settle_75_r2 (l : Launch) (D : va_G) (aC : Nat → ClassId) (b : Nat) (w : XW) (x1 : Int32) (x2 : Int32) (hI : Iv w)  : CnV l D aC b M_X2_settle 4 96 0 0 [AR 75, AR 2, AI x1, AI x2] w (fun u => Jv w u) := by
  refine cn_V (own := RX2) (nm := "settle") (L0 := [some (AR 75), some (AR 2), some (AI x1), some (AI x2), none]) (by decide +kernel) rfl rfl (Nat.le_of_ble_eq_true rfl) rfl ?_
  intro p e s m args below meth c E hin
  have hJ : Jv w w := jv_rfl hI
  refine s_aload_n E dX2_settle_0 rfl rfl ?_
  refine s_aload_n E dX2_settle_1 rfl rfl ?_
  refine s_iload_n E dX2_settle_2 rfl rfl ?_
  refine s_iload_n E dX2_settle_3 rfl rfl ?_
  refine s_vV (As := [AR 2, AI x1, AI x2]) (S := []) E (Z_X2_openDoors_75_r2 l D aC b w x1 x2 hJ.1 ) cv_X2_27 rfl rfl rfl (jv_lt hJ (by decide)) (Nat.le_of_ble_eq_true rfl) (Nat.le_of_ble_eq_true rfl) ⟨(Nat.le_of_ble_eq_true rfl), (Nat.le_of_ble_eq_true rfl)⟩ (Nat.le_of_ble_eq_true rfl) dX2_settle_4 (fun u_1 hp_2 => ?_)
  have hj_3 := jv_trans hJ hp_2
  refine s_aload_n E dX2_settle_7 rfl rfl ?_
  refine s_aload_n E dX2_settle_8 rfl rfl ?_
  refine s_vV (As := [AR 2]) (S := []) E (Z_X2_hearBids_75_r2 l D aC b u_1  hj_3.1 ) cv_X2_31 rfl rfl rfl (jv_lt hj_3 (by decide)) (Nat.le_of_ble_eq_true rfl) (Nat.le_of_ble_eq_true rfl) ⟨(Nat.le_of_ble_eq_true rfl), (Nat.le_of_ble_eq_true rfl)⟩ (Nat.le_of_ble_eq_true rfl) dX2_settle_9 (fun u_4 hp_5 => ?_)
  have hj_6 := jv_trans hj_3 hp_5
  refine s_iconst (v := 0) E dX2_settle_12 (by decide) ?_
  refine s_istore (L2 := [some (AR 75), some (AR 2), some (AI x1), some (AI x2), some (AI 0)]) E dX2_settle_13 (by decide) rfl ?_
  refine z_loop (St := Int32) (Pi := fun q15_4_6 v15 => (0 ≤ q15_4_6.toInt ∧ q15_4_6.toInt ≤ 6) ∧ Jv w v15) (Lf := fun q15_4_6 => [some (AR 75), some (AR 2), some (AI x1), some (AI x2), some (AI q15_4_6)]) (fun q15_4_6 _ => (7 - q15_4_6.toInt).toNat) 0 ⟨⟨by decide, by decide⟩, hj_6⟩ ?_
  rintro q15_4_6 v15 ⟨hq15_4, hj_7⟩ ih15
  refine s_loc (L2 := [some (AR 75), some (AR 2), some (AI x1), some (AI x2), some (AI q15_4_6)]) rfl ?_
  refine s_iload E dX2_settle_15 rfl ?_
  refine s_aload_n E dX2_settle_17 rfl rfl ?_
  refine s_gI E fg_X2_35 rfl rfl (jv_lt hj_7 (by decide)) dX2_settle_18 ?_
  refine z_nm (P := fun z => z.toInt = (v15.2.2.1 75 5).toInt ∧ 0 ≤ z.toInt ∧ z.toInt ≤ 6) ⟨rfl, (rg_75_5 hj_7)⟩ (fun z_8 hz_8 => ?_)
  refine z_icmp_ge (tgt := 46) (u := q15_4_6.toInt) (v := z_8.toInt) E dX2_settle_21 (by decide) rfl rfl (fun h_9 => ?_) (fun h_9 => ?_)
  ·
    refine s_aload_n E dX2_settle_46 rfl rfl ?_
    refine s_vV (As := []) (S := []) E (Z_X2_gather_75 l D aC b v15  hj_7.1 ) cv_X2_54 rfl rfl rfl (jv_lt hj_7 (by decide)) (Nat.le_of_ble_eq_true rfl) (Nat.le_of_ble_eq_true rfl) ⟨(Nat.le_of_ble_eq_true rfl), (Nat.le_of_ble_eq_true rfl)⟩ (Nat.le_of_ble_eq_true rfl) dX2_settle_47 (fun u_10 hp_11 => ?_)
    have hj_12 := jv_trans hj_7 hp_11
    exact r_void E dX2_settle_50 hj_12
  ·
    refine s_aload_n E dX2_settle_24 rfl rfl ?_
    refine s_iload E dX2_settle_25 rfl ?_
    refine s_aload_n E dX2_settle_27 rfl rfl ?_
    refine s_gR (r := 5) E fg_X2_39 rfl rfl (jv_lt hj_7 (by decide)) (jv_r hj_7 (by decide +kernel)) dX2_settle_28 ?_
    refine s_iload E dX2_settle_31 rfl ?_
    refine s_iconst (v := 0) E dX2_settle_33 (by decide) ?_
    refine s_vI (As := [AI q15_4_6, AI 0]) (S := [AI q15_4_6, AR 75]) E (Z_X8_cell_5 l D aC b v15 q15_4_6 0 hj_7.1 ) cv_X2_44 rfl rfl rfl (jv_lt hj_7 (by decide)) (Nat.le_of_ble_eq_true rfl) (Nat.le_of_ble_eq_true rfl) ⟨(Nat.le_of_ble_eq_true rfl), (Nat.le_of_ble_eq_true rfl)⟩ (Nat.le_of_ble_eq_true rfl) dX2_settle_34 (fun z_15 u_13 hp_14 => ?_)
    obtain ⟨hz_15, hp_14⟩ := hp_14
    subst hp_14
    refine s_vV (As := [AI q15_4_6, AI z_15]) (S := []) E (Z_X2_goAsBidden_75 l D aC b v15 q15_4_6 z_15 hj_7.1 ⟨by have hb_ := z32 q15_4_6; omega, by have hb_ := z32 q15_4_6; omega⟩) cv_X2_50 rfl rfl rfl (jv_lt hj_7 (by decide)) (Nat.le_of_ble_eq_true rfl) (Nat.le_of_ble_eq_true rfl) ⟨(Nat.le_of_ble_eq_true rfl), (Nat.le_of_ble_eq_true rfl)⟩ (Nat.le_of_ble_eq_true rfl) dX2_settle_37 (fun u_17 hp_18 => ?_)
    have hj_19 := jv_trans hj_7 hp_18
    refine z_iinc (u := q15_4_6.toInt) (L2 := fun z_20 => [some (AR 75), some (AR 2), some (AI x1), some (AI x2), some (AI z_20)]) E dX2_settle_40 rfl rfl (by decide) (fun _ => rfl) (by decide) (by omega) (by omega) (fun z_20 hz_20 => ?_)
    refine s_goto (tgt := 15) E dX2_settle_43 (by decide) ?_
    exact ih15 z_20 u_17 ⟨⟨by have hb_ := z32 z_20; omega, by have hb_ := z32 z_20; omega⟩, hj_19⟩ (by first | omega | (dsimp only; omega))
set_option maxRecDepth 20000 in
set_option maxHeartbeats 2000000 in
theorem Z_X2_companyOf_75 (l : Launch) (D : va_G) (aC : Nat → ClassId) (b : Nat) (w : XW) (x1 : Int32) (x2 : Int32) (hI : Iv w)  : CnI l D aC b M_X2_companyOf 1 22 0 0 [AR 75, AI x1, AI x2] w (fun r u => ((-2147483648) ≤ r.toInt ∧ r.toInt ≤ 2147483647 ∧ (r.toInt = 0 ∨ (0 ≤ x1.toInt ∧ x1.toInt ≤ 5)) ∧ (r.toInt = 0 ∨ (0 ≤ x2.toInt ∧ x2.toInt ≤ 14)) ∧ (r.toInt = 0 ∨ (1 ≤ (w.2.2.1 75 5).toInt ∧ (w.2.2.1 75 5).toInt ≤ 6))) ∧ w = u) := by
  refine cn_I (own := RX2) (nm := "companyOf") (L0 := [some (AR 75), some (AI x1), some (AI x2)]) (by decide +kernel) rfl rfl (Nat.le_of_ble_eq_true rfl) rfl ?_
  intro p e s m args below meth c E hin
  have hJ : Jv w w := jv_rfl hI
  refine s_aload_n E dX2_companyOf_0 rfl rfl ?_
  refine s_iload_n E dX2_companyOf_1 rfl rfl ?_
  refine s_iload_n E dX2_companyOf_2 rfl rfl ?_
  refine s_vI (As := [AI x1, AI x2]) (S := []) E (Z_X2_isHere_75 l D aC b w x1 x2 hJ.1 ) cv_X2_127 rfl rfl rfl (jv_lt hJ (by decide)) (Nat.le_of_ble_eq_true rfl) (Nat.le_of_ble_eq_true rfl) ⟨(Nat.le_of_ble_eq_true rfl), (Nat.le_of_ble_eq_true rfl)⟩ (Nat.le_of_ble_eq_true rfl) dX2_companyOf_3 (fun z_3 u_1 hp_2 => ?_)
  obtain ⟨hz_3, hp_2⟩ := hp_2
  subst hp_2
  refine z_if_eq (tgt := 23) (u := z_3.toInt) E dX2_companyOf_6 (by decide) rfl (fun h_5 => ?_) (fun h_5 => ?_)
  ·
    refine s_iconst (v := 0) E dX2_companyOf_23 (by decide) ?_
    exact r_int E dX2_companyOf_24 ⟨⟨by decide, by decide, by first | (left; decide) | (right; have hb_ := z32 x1; omega), by first | (left; decide) | (right; have hb_ := z32 x2; omega), by first | (left; decide) | (right; have hb_ := z32 (w.2.2.1 75 5); omega)⟩, rfl⟩
  ·
    refine s_aload_n E dX2_companyOf_9 rfl rfl ?_
    refine s_gR (r := 80) E fg_X2_24 rfl rfl (jv_lt hJ (by decide)) (jv_r hJ (by decide +kernel)) dX2_companyOf_10 ?_
    refine s_iload_n E dX2_companyOf_13 rfl rfl ?_
    refine s_bipush (v := 15) E dX2_companyOf_14 (by decide) ?_
    refine z_imul (u := x1.toInt) (v := 15) E dX2_companyOf_16 rfl (by decide) (by omega) (by omega) (fun z_6 hz_6 => ?_)
    refine s_iload_n E dX2_companyOf_17 rfl rfl ?_
    refine z_iadd (u := z_6.toInt) (v := x2.toInt) E dX2_companyOf_18 rfl rfl (by omega) (by omega) (fun z_7 hz_7 => ?_)
    refine s_iald E rfl (jv_lt hJ (by decide)) (z_in (u := z_7.toInt) rfl (by omega) (by omega)) dX2_companyOf_19 ?_
    refine z_any (fun z_8 => ?_)
    refine s_goto (tgt := 24) E dX2_companyOf_20 (by decide) ?_
    exact r_int E dX2_companyOf_24 ⟨⟨by have hb_ := z32 z_8; omega, by have hb_ := z32 z_8; omega, by have hb_ := z32 z_8; have hc_ := z32 x1; omega, by have hb_ := z32 z_8; have hc_ := z32 x2; omega, by have hb_ := z32 z_8; have hc_ := z32 (w.2.2.1 75 5); omega⟩, rfl⟩
set_option maxRecDepth 20000 in
set_option maxHeartbeats 2000000 in
theorem Z_X5_passed_81_r75 (l : Launch) (D : va_G) (aC : Nat → ClassId) (b : Nat) (w : XW) (x1 : Int32) (x2 : Int32) (hI : Iv w)  : CnI l D aC b M_X5_passed 2 44 0 0 [AR 81, AR 75, AI x1, AI x2] w (fun r u => ((-2147483648) ≤ r.toInt ∧ r.toInt ≤ 2147483647) ∧ Jv w u) := by
  refine cn_I (own := RX5) (nm := "passed") (L0 := [some (AR 81), some (AR 75), some (AI x1), some (AI x2), none, none]) (by decide +kernel) rfl rfl (Nat.le_of_ble_eq_true rfl) rfl ?_
  intro p e s m args below meth c E hin
  have hJ : Jv w w := jv_rfl hI
  refine s_iload_n E dX5_passed_0 rfl rfl ?_
  refine s_istore (L2 := [some (AR 81), some (AR 75), some (AI x1), some (AI x2), some (AI x2), none]) E dX5_passed_1 (by decide) rfl ?_
  refine s_iconst (v := 0) E dX5_passed_3 (by decide) ?_
  refine s_istore (L2 := [some (AR 81), some (AR 75), some (AI x1), some (AI x2), some (AI x2), some (AI 0)]) E dX5_passed_4 (by decide) rfl ?_
  refine z_loop (St := Int32 × Int32) (Pi := fun ⟨q6_4_0, q6_5_0⟩ v6 => (0 ≤ q6_5_0.toInt ∧ q6_5_0.toInt ≤ 6) ∧ Jv w v6) (Lf := fun ⟨q6_4_0, q6_5_0⟩ => [some (AR 81), some (AR 75), some (AI x1), some (AI x2), some (AI q6_4_0), some (AI q6_5_0)]) (fun ⟨q6_4_0, q6_5_0⟩ _ => (7 - q6_5_0.toInt).toNat) ⟨x2, 0⟩ ⟨⟨by decide, by decide⟩, hJ⟩ ?_
  rintro ⟨q6_4_0, q6_5_0⟩ v6 ⟨hq6_5, hj_1⟩ ih6
  refine s_loc (L2 := [some (AR 81), some (AR 75), some (AI x1), some (AI x2), some (AI q6_4_0), some (AI q6_5_0)]) rfl ?_
  refine s_iload E dX5_passed_6 rfl ?_
  refine s_aload_n E dX5_passed_8 rfl rfl ?_
  refine s_gI E fg_X5_33 rfl rfl (jv_lt hj_1 (by decide)) dX5_passed_9 ?_
  refine z_nm (P := fun z => z.toInt = (v6.2.2.1 81 3).toInt ∧ 0 ≤ z.toInt ∧ z.toInt ≤ 6) ⟨rfl, (rg_81_3 hj_1)⟩ (fun z_2 hz_2 => ?_)
  refine z_icmp_ge (tgt := 50) (u := q6_5_0.toInt) (v := z_2.toInt) E dX5_passed_12 (by decide) rfl rfl (fun h_3 => ?_) (fun h_3 => ?_)
  ·
    refine s_iload E dX5_passed_50 rfl ?_
    exact r_int E dX5_passed_52 ⟨⟨by have hb_ := z32 q6_4_0; omega, by have hb_ := z32 q6_4_0; omega⟩, hj_1⟩
  ·
    refine s_iload_n E dX5_passed_15 rfl rfl ?_
    refine s_iload E dX5_passed_16 rfl ?_
    refine s_sI (As := [AI x2, AI q6_5_0]) (S := []) E (Z_X9_hasBit l D aC b v6 x2 q6_5_0 hj_1.1 ) cs_X5_50 rfl rfl (Nat.le_of_ble_eq_true rfl) (Nat.le_of_ble_eq_true rfl) ⟨(Nat.le_of_ble_eq_true rfl), (Nat.le_of_ble_eq_true rfl)⟩ (Nat.le_of_ble_eq_true rfl) dX5_passed_18 (fun z_6 u_4 hp_5 => ?_)
    obtain ⟨hz_6, hp_5⟩ := hp_5
    subst hp_5
    refine z_if_eq (tgt := 44) (u := z_6.toInt) E dX5_passed_21 (by decide) rfl (fun h_8 => ?_) (fun h_8 => ?_)
    ·
      refine z_iinc (u := q6_5_0.toInt) (L2 := fun z_9 => [some (AR 81), some (AR 75), some (AI x1), some (AI x2), some (AI q6_4_0), some (AI z_9)]) E dX5_passed_44 rfl rfl (by decide) (fun _ => rfl) (by decide) (by omega) (by omega) (fun z_9 hz_9 => ?_)
      refine s_goto (tgt := 6) E dX5_passed_47 (by decide) ?_
      exact ih6 ⟨q6_4_0, z_9⟩ v6 ⟨⟨by have hb_ := z32 z_9; omega, by have hb_ := z32 z_9; omega⟩, hj_1⟩ (by first | omega | (dsimp only; omega))
    ·
      refine s_iload E dX5_passed_24 rfl ?_
      refine s_aload_n E dX5_passed_26 rfl rfl ?_
      refine s_gR (r := 82) E fg_X5_9 rfl rfl (jv_lt hj_1 (by decide)) (jv_r hj_1 (by decide +kernel)) dX5_passed_27 ?_
      refine s_iload E dX5_passed_30 rfl ?_
      refine s_iald E rfl (jv_lt hj_1 (by decide)) (z_in (u := q6_5_0.toInt) rfl (by omega) (by omega)) dX5_passed_32 ?_
      refine z_any (fun z_10 => ?_)
      refine s_aload_n E dX5_passed_33 rfl rfl ?_
      refine s_iload E dX5_passed_34 rfl ?_
      refine s_iload_n E dX5_passed_36 rfl rfl ?_
      refine s_vI (As := [AI q6_5_0, AI x1]) (S := [AI z_10, AI q6_4_0]) E (Z_X2_companyOf_75 l D aC b v6 q6_5_0 x1 hj_1.1 ) cv_X5_54 rfl rfl rfl (jv_lt hj_1 (by decide)) (Nat.le_of_ble_eq_true rfl) (Nat.le_of_ble_eq_true rfl) ⟨(Nat.le_of_ble_eq_true rfl), (Nat.le_of_ble_eq_true rfl)⟩ (Nat.le_of_ble_eq_true rfl) dX5_passed_37 (fun z_13 u_11 hp_12 => ?_)
      obtain ⟨hz_13, hp_12⟩ := hp_12
      subst hp_12
      refine s_iand E dX5_passed_40 ?_
      refine z_any (fun z_15 => ?_)
      refine s_ior E dX5_passed_41 ?_
      refine z_any (fun z_16 => ?_)
      refine s_istore (L2 := [some (AR 81), some (AR 75), some (AI x1), some (AI x2), some (AI z_16), some (AI q6_5_0)]) E dX5_passed_42 (by decide) rfl ?_
      refine z_iinc (u := q6_5_0.toInt) (L2 := fun z_17 => [some (AR 81), some (AR 75), some (AI x1), some (AI x2), some (AI z_16), some (AI z_17)]) E dX5_passed_44 rfl rfl (by decide) (fun _ => rfl) (by decide) (by omega) (by omega) (fun z_17 hz_17 => ?_)
      refine s_goto (tgt := 6) E dX5_passed_47 (by decide) ?_
      exact ih6 ⟨z_16, z_17⟩ v6 ⟨⟨by have hb_ := z32 z_17; omega, by have hb_ := z32 z_17; omega⟩, hj_1⟩ (by first | omega | (dsimp only; omega))
set_option maxRecDepth 20000 in
set_option maxHeartbeats 2000000 in
theorem Z_X5_follow_81_r75 (l : Launch) (D : va_G) (aC : Nat → ClassId) (b : Nat) (w : XW) (x1 : Int32) (x2 : Int32) (hI : Iv w)  : CnV l D aC b M_X5_follow 3 69 0 0 [AR 81, AR 75, AI x1, AI x2] w (fun u => Jv w u) := by
  refine cn_V (own := RX5) (nm := "follow") (L0 := [some (AR 81), some (AR 75), some (AI x1), some (AI x2), none, none]) (by decide +kernel) rfl rfl (Nat.le_of_ble_eq_true rfl) rfl ?_
  intro p e s m args below meth c E hin
  have hJ : Jv w w := jv_rfl hI
  refine s_aload_n E dX5_follow_0 rfl rfl ?_
  refine s_iload_n E dX5_follow_1 rfl rfl ?_
  refine s_pI E fp_X5_59 (Or.inl rfl) rfl (jv_lt hJ (by decide)) dX5_follow_2 ?_
  refine s_gen (P := Jv w) (jv_f_81_5 hJ (by have hb_ := z32 x1; omega) (by have hb_ := z32 x1; omega)) (fun v_1 hj_2 => ?_)
  refine s_iconst (v := 1) E dX5_follow_5 (by decide) ?_
  refine s_iload_n E dX5_follow_6 rfl rfl ?_
  refine s_ishl E dX5_follow_7 ?_
  refine z_any (fun z_3 => ?_)
  refine s_istore (L2 := [some (AR 81), some (AR 75), some (AI x1), some (AI x2), some (AI z_3), none]) E dX5_follow_8 (by decide) rfl ?_
  refine s_iconst (v := 0) E dX5_follow_10 (by decide) ?_
  refine s_istore (L2 := [some (AR 81), some (AR 75), some (AI x1), some (AI x2), some (AI z_3), some (AI 0)]) E dX5_follow_11 (by decide) rfl ?_
  refine z_loop (St := Int32 × Int32) (Pi := fun ⟨q13_4_3, q13_5_3⟩ v13 => (0 ≤ q13_5_3.toInt ∧ q13_5_3.toInt ≤ 15) ∧ Jv w v13) (Lf := fun ⟨q13_4_3, q13_5_3⟩ => [some (AR 81), some (AR 75), some (AI x1), some (AI x2), some (AI q13_4_3), some (AI q13_5_3)]) (fun ⟨q13_4_3, q13_5_3⟩ _ => (16 - q13_5_3.toInt).toNat) ⟨z_3, 0⟩ ⟨⟨by decide, by decide⟩, hj_2⟩ ?_
  rintro ⟨q13_4_3, q13_5_3⟩ v13 ⟨hq13_5, hj_4⟩ ih13
  refine s_loc (L2 := [some (AR 81), some (AR 75), some (AI x1), some (AI x2), some (AI q13_4_3), some (AI q13_5_3)]) rfl ?_
  refine s_iload E dX5_follow_13 rfl ?_
  refine s_aload_n E dX5_follow_15 rfl rfl ?_
  refine s_gI E fg_X5_38 rfl rfl (jv_lt hj_4 (by decide)) dX5_follow_16 ?_
  refine z_nm (P := fun z => z.toInt = (v13.2.2.1 81 4).toInt ∧ 0 ≤ z.toInt ∧ z.toInt ≤ 14) ⟨rfl, (rg_81_4 hj_4)⟩ (fun z_5 hz_5 => ?_)
  refine z_icmp_gt (tgt := 57) (u := q13_5_3.toInt) (v := z_5.toInt) E dX5_follow_19 (by decide) rfl rfl (fun h_6 => ?_) (fun h_6 => ?_)
  ·
    exact r_void E dX5_follow_57 hj_4
  ·
    refine s_iload_n E dX5_follow_22 rfl rfl ?_
    refine s_iload E dX5_follow_23 rfl ?_
    refine s_sI (As := [AI x2, AI q13_5_3]) (S := []) E (Z_X9_hasBit l D aC b v13 x2 q13_5_3 hj_4.1 ) cs_X5_50 rfl rfl (Nat.le_of_ble_eq_true rfl) (Nat.le_of_ble_eq_true rfl) ⟨(Nat.le_of_ble_eq_true rfl), (Nat.le_of_ble_eq_true rfl)⟩ (Nat.le_of_ble_eq_true rfl) dX5_follow_25 (fun z_9 u_7 hp_8 => ?_)
    obtain ⟨hz_9, hp_8⟩ := hp_8
    subst hp_8
    refine z_if_ne (tgt := 42) (u := z_9.toInt) E dX5_follow_28 (by decide) rfl (fun h_11 => ?_) (fun h_11 => ?_)
    ·
      refine s_aload_n E dX5_follow_42 rfl rfl ?_
      refine s_gR (r := 84) E fg_X5_18 rfl rfl (jv_lt hj_4 (by decide)) (jv_r hj_4 (by decide +kernel)) dX5_follow_43 ?_
      refine s_iload E dX5_follow_46 rfl ?_
      refine s_iload E dX5_follow_48 rfl ?_
      refine s_iast E rfl (jv_lt hj_4 (by decide)) (z_in (u := q13_5_3.toInt) rfl (by omega) (by omega)) dX5_follow_50 ?_
      refine s_gen (P := Jv w) (jv_a_84 hj_4 (by have hb_ := z32 q13_4_3; omega) (by have hb_ := z32 q13_4_3; omega)) (fun v_12 hj_13 => ?_)
      refine z_iinc (u := q13_5_3.toInt) (L2 := fun z_14 => [some (AR 81), some (AR 75), some (AI x1), some (AI x2), some (AI q13_4_3), some (AI z_14)]) E dX5_follow_51 rfl rfl (by decide) (fun _ => rfl) (by decide) (by omega) (by omega) (fun z_14 hz_14 => ?_)
      refine s_goto (tgt := 13) E dX5_follow_54 (by decide) ?_
      exact ih13 ⟨q13_4_3, z_14⟩ v_12 ⟨⟨by have hb_ := z32 z_14; omega, by have hb_ := z32 z_14; omega⟩, hj_13⟩ (by first | omega | (dsimp only; omega))
    ·
      refine s_aload_n E dX5_follow_31 rfl rfl ?_
      refine s_aload_n E dX5_follow_32 rfl rfl ?_
      refine s_iload E dX5_follow_33 rfl ?_
      refine s_iload E dX5_follow_35 rfl ?_
      refine s_vI (As := [AR 75, AI q13_5_3, AI q13_4_3]) (S := []) E (Z_X5_passed_81_r75 l D aC b v13 q13_5_3 q13_4_3 hj_4.1 ) cv_X5_62 rfl rfl rfl (jv_lt hj_4 (by decide)) (Nat.le_of_ble_eq_true rfl) (Nat.le_of_ble_eq_true rfl) ⟨(Nat.le_of_ble_eq_true rfl), (Nat.le_of_ble_eq_true rfl)⟩ (Nat.le_of_ble_eq_true rfl) dX5_follow_37 (fun z_17 u_15 hp_16 => ?_)
      obtain ⟨hz_17, hp_16⟩ := hp_16
      have hj_18 := jv_trans hj_4 hp_16
      refine s_istore (L2 := [some (AR 81), some (AR 75), some (AI x1), some (AI x2), some (AI z_17), some (AI q13_5_3)]) E dX5_follow_40 (by decide) rfl ?_
      refine s_aload_n E dX5_follow_42 rfl rfl ?_
      refine s_gR (r := 84) E fg_X5_18 rfl rfl (jv_lt hj_18 (by decide)) (jv_r hj_18 (by decide +kernel)) dX5_follow_43 ?_
      refine s_iload E dX5_follow_46 rfl ?_
      refine s_iload E dX5_follow_48 rfl ?_
      refine s_iast E rfl (jv_lt hj_18 (by decide)) (z_in (u := q13_5_3.toInt) rfl (by omega) (by omega)) dX5_follow_50 ?_
      refine s_gen (P := Jv w) (jv_a_84 hj_18 (by have hb_ := z32 z_17; omega) (by have hb_ := z32 z_17; omega)) (fun v_19 hj_20 => ?_)
      refine z_iinc (u := q13_5_3.toInt) (L2 := fun z_21 => [some (AR 81), some (AR 75), some (AI x1), some (AI x2), some (AI z_17), some (AI z_21)]) E dX5_follow_51 rfl rfl (by decide) (fun _ => rfl) (by decide) (by omega) (by omega) (fun z_21 hz_21 => ?_)
      refine s_goto (tgt := 13) E dX5_follow_54 (by decide) ?_
      exact ih13 ⟨z_17, z_21⟩ v_19 ⟨⟨by have hb_ := z32 z_21; omega, by have hb_ := z32 z_21; omega⟩, hj_20⟩ (by first | omega | (dsimp only; omega))
set_option maxRecDepth 20000 in
set_option maxHeartbeats 2000000 in
theorem Z_X9_inTheEnd_0_r75 (l : Launch) (D : va_G) (aC : Nat → ClassId) (b : Nat) (w : XW) (x1 : Int32) (hI : Iv w)  : CnI l D aC b M_X9_inTheEnd 4 94 0 0 [AR 0, AR 75, AI x1] w (fun r u => ((-2147483648) ≤ r.toInt ∧ r.toInt ≤ 2147483647) ∧ Jv w u) := by
  refine cn_I (own := RX9) (nm := "inTheEnd") (L0 := [some (AR 0), some (AR 75), some (AI x1)]) (by decide +kernel) rfl rfl (Nat.le_of_ble_eq_true rfl) rfl ?_
  intro p e s m args below meth c E hin
  have hJ : Jv w w := jv_rfl hI
  refine s_aload_n E dX9_inTheEnd_0 rfl rfl ?_
  refine s_gR (r := 81) E fg_X9_64 rfl rfl (jv_lt hJ (by decide)) (jv_r hJ (by decide +kernel)) dX9_inTheEnd_1 ?_
  refine s_aload_n E dX9_inTheEnd_4 rfl rfl ?_
  refine s_iload_n E dX9_inTheEnd_5 rfl rfl ?_
  refine s_iconst (v := 0) E dX9_inTheEnd_6 (by decide) ?_
  refine s_vV (As := [AR 75, AI x1, AI 0]) (S := []) E (Z_X5_follow_81_r75 l D aC b w x1 0 hJ.1 ) cv_X9_220 rfl rfl rfl (jv_lt hJ (by decide)) (Nat.le_of_ble_eq_true rfl) (Nat.le_of_ble_eq_true rfl) ⟨(Nat.le_of_ble_eq_true rfl), (Nat.le_of_ble_eq_true rfl)⟩ (Nat.le_of_ble_eq_true rfl) dX9_inTheEnd_7 (fun u_1 hp_2 => ?_)
  have hj_3 := jv_trans hJ hp_2
  refine s_aload_n E dX9_inTheEnd_10 rfl rfl ?_
  refine s_gR (r := 81) E fg_X9_64 rfl rfl (jv_lt hj_3 (by decide)) (jv_r hj_3 (by decide +kernel)) dX9_inTheEnd_11 ?_
  refine s_aload_n E dX9_inTheEnd_14 rfl rfl ?_
  refine s_gR (r := 2) E fg_X9_20 rfl rfl (jv_lt hj_3 (by decide)) (jv_r hj_3 (by decide +kernel)) dX9_inTheEnd_15 ?_
  refine s_gI E fg_X9_169 rfl rfl (jv_lt hj_3 (by decide)) dX9_inTheEnd_18 ?_
  refine z_nm (P := fun z => z.toInt = (u_1.2.2.1 2 2).toInt ∧ 0 ≤ z.toInt ∧ z.toInt ≤ 14) ⟨rfl, (rg_2_2 hj_3)⟩ (fun z_4 hz_4 => ?_)
  refine s_vI (As := [AI z_4]) (S := []) E (Z_X5_behind_81 l D aC b u_1 z_4 hj_3.1 ) cv_X9_224 rfl rfl rfl (jv_lt hj_3 (by decide)) (Nat.le_of_ble_eq_true rfl) (Nat.le_of_ble_eq_true rfl) ⟨(Nat.le_of_ble_eq_true rfl), (Nat.le_of_ble_eq_true rfl)⟩ (Nat.le_of_ble_eq_true rfl) dX9_inTheEnd_21 (fun z_7 u_5 hp_6 => ?_)
  obtain ⟨hz_7, hp_6⟩ := hp_6
  subst hp_6
  exact r_int E dX9_inTheEnd_24 ⟨⟨by have hb_ := z32 z_7; omega, by have hb_ := z32 z_7; omega⟩, hj_3⟩
set_option maxRecDepth 20000 in
set_option maxHeartbeats 2000000 in
theorem Z_X9_widen_0 (l : Launch) (D : va_G) (aC : Nat → ClassId) (b : Nat) (w : XW) (x1 : Int32) (x2 : Int32) (hI : Iv w)  : CnI l D aC b M_X9_widen 5 120 0 0 [AR 0, AI x1, AI x2] w (fun r u => ((-2) ≤ r.toInt ∧ r.toInt ≤ 64) ∧ Jv w u) := by
  refine cn_I (own := RX9) (nm := "widen") (L0 := [some (AR 0), some (AI x1), some (AI x2), none, none, none, none]) (by decide +kernel) rfl rfl (Nat.le_of_ble_eq_true rfl) rfl ?_
  intro p e s m args below meth c E hin
  have hJ : Jv w w := jv_rfl hI
  refine s_aload_n E dX9_widen_0 rfl rfl ?_
  refine s_gR (r := 2) E fg_X9_20 rfl rfl (jv_lt hJ (by decide)) (jv_r hJ (by decide +kernel)) dX9_widen_1 ?_
  refine s_iload_n E dX9_widen_4 rfl rfl ?_
  refine s_vI (As := [AI x1]) (S := []) E (Z_X0_hasLady_2 l D aC b w x1 hJ.1 ) cv_X9_139 rfl rfl rfl (jv_lt hJ (by decide)) (Nat.le_of_ble_eq_true rfl) (Nat.le_of_ble_eq_true rfl) ⟨(Nat.le_of_ble_eq_true rfl), (Nat.le_of_ble_eq_true rfl)⟩ (Nat.le_of_ble_eq_true rfl) dX9_widen_5 (fun z_3 u_1 hp_2 => ?_)
  obtain ⟨hz_3, hp_2⟩ := hp_2
  subst hp_2
  refine z_if_eq (tgt := 25) (u := z_3.toInt) E dX9_widen_8 (by decide) rfl (fun h_5 => ?_) (fun h_5 => ?_)
  ·
    refine s_bipush (v := (-2)) E dX9_widen_25 (by decide) ?_
    exact r_int E dX9_widen_27 ⟨(by decide), hJ⟩
  ·
    refine s_aload_n E dX9_widen_11 rfl rfl ?_
    refine s_gR (r := 2) E fg_X9_20 rfl rfl (jv_lt hJ (by decide)) (jv_r hJ (by decide +kernel)) dX9_widen_12 ?_
    refine s_gR (r := 3) E fg_X9_119 rfl rfl (jv_lt hJ (by decide)) (jv_r hJ (by decide +kernel)) dX9_widen_15 ?_
    refine s_iload_n E dX9_widen_18 rfl rfl ?_
    refine s_vI (As := [AI x2]) (S := []) E (Z_X8_has_3 l D aC b w x2 hJ.1 ) cv_X9_257 rfl rfl rfl (jv_lt hJ (by decide)) (Nat.le_of_ble_eq_true rfl) (Nat.le_of_ble_eq_true rfl) ⟨(Nat.le_of_ble_eq_true rfl), (Nat.le_of_ble_eq_true rfl)⟩ (Nat.le_of_ble_eq_true rfl) dX9_widen_19 (fun z_8 u_6 hp_7 => ?_)
    obtain ⟨hz_8, hp_7⟩ := hp_7
    subst hp_7
    refine z_if_ne (tgt := 28) (u := z_8.toInt) E dX9_widen_22 (by decide) rfl (fun h_10 => ?_) (fun h_10 => ?_)
    ·
      refine s_aload_n E dX9_widen_28 rfl rfl ?_
      refine s_vV (As := []) (S := []) E (Z_X9_passAsTold_0 l D aC b w  hJ.1 ) cv_X9_227 rfl rfl rfl (jv_lt hJ (by decide)) (Nat.le_of_ble_eq_true rfl) (Nat.le_of_ble_eq_true rfl) ⟨(Nat.le_of_ble_eq_true rfl), (Nat.le_of_ble_eq_true rfl)⟩ (Nat.le_of_ble_eq_true rfl) dX9_widen_29 (fun u_11 hp_12 => ?_)
      have hj_13 := jv_trans hJ hp_12
      refine s_iconst (v := 1) E dX9_widen_32 (by decide) ?_
      refine s_istore_n (L2 := [some (AR 0), some (AI x1), some (AI x2), some (AI 1), none, none, none]) E dX9_widen_33 rfl (by decide) rfl ?_
      refine s_iconst (v := 0) E dX9_widen_34 (by decide) ?_
      refine s_istore (L2 := [some (AR 0), some (AI x1), some (AI x2), some (AI 1), some (AI 0), none, none]) E dX9_widen_35 (by decide) rfl ?_
      refine s_iconst (v := 1) E dX9_widen_37 (by decide) ?_
      refine s_istore (L2 := [some (AR 0), some (AI x1), some (AI x2), some (AI 1), some (AI 0), some (AI 1), none]) E dX9_widen_38 (by decide) rfl ?_
      refine z_loop (St := Int32 × Int32 × Int32) (Pi := fun ⟨q40_3_13, q40_4_13, q40_5_13⟩ v40 => (1 ≤ q40_3_13.toInt ∧ q40_3_13.toInt ≤ 64) ∧ (0 ≤ q40_4_13.toInt ∧ q40_4_13.toInt ≤ 63) ∧ (1 ≤ q40_5_13.toInt ∧ q40_5_13.toInt ≤ 10) ∧ Jv w v40) (Lf := fun ⟨q40_3_13, q40_4_13, q40_5_13⟩ => [some (AR 0), some (AI x1), some (AI x2), some (AI q40_3_13), some (AI q40_4_13), some (AI q40_5_13), none]) (fun ⟨q40_3_13, q40_4_13, q40_5_13⟩ _ => (11 - q40_5_13.toInt).toNat) ⟨1, 0, 1⟩ ⟨⟨by decide, by decide⟩, ⟨by decide, by decide⟩, ⟨by decide, by decide⟩, hj_13⟩ ?_
      rintro ⟨q40_3_13, q40_4_13, q40_5_13⟩ v40 ⟨hq40_3, hq40_4, hq40_5, hj_14⟩ ih40
      refine s_loc (L2 := [some (AR 0), some (AI x1), some (AI x2), some (AI q40_3_13), some (AI q40_4_13), some (AI q40_5_13), none]) rfl ?_
      refine s_iload E dX9_widen_40 rfl ?_
      refine s_bipush (v := 9) E dX9_widen_42 (by decide) ?_
      refine z_icmp_gt (tgt := 95) (u := q40_5_13.toInt) (v := 9) E dX9_widen_44 (by decide) rfl (by decide) (fun h_15 => ?_) (fun h_15 => ?_)
      ·
        refine s_iload_n E dX9_widen_95 rfl rfl ?_
        exact r_int E dX9_widen_96 ⟨⟨by have hb_ := z32 q40_3_13; omega, by have hb_ := z32 q40_3_13; omega⟩, hj_14⟩
      ·
        refine s_aload_n E dX9_widen_47 rfl rfl ?_
        refine s_gR (r := 75) E fg_X9_58 rfl rfl (jv_lt hj_14 (by decide)) (jv_r hj_14 (by decide +kernel)) dX9_widen_48 ?_
        refine s_aload_n E dX9_widen_51 rfl rfl ?_
        refine s_gR (r := 2) E fg_X9_20 rfl rfl (jv_lt hj_14 (by decide)) (jv_r hj_14 (by decide +kernel)) dX9_widen_52 ?_
        refine s_iload_n E dX9_widen_55 rfl rfl ?_
        refine s_iload E dX9_widen_56 rfl ?_
        refine s_vV (As := [AR 2, AI x2, AI q40_5_13]) (S := []) E (Z_X2_settle_75_r2 l D aC b v40 x2 q40_5_13 hj_14.1 ) cv_X9_116 rfl rfl rfl (jv_lt hj_14 (by decide)) (Nat.le_of_ble_eq_true rfl) (Nat.le_of_ble_eq_true rfl) ⟨(Nat.le_of_ble_eq_true rfl), (Nat.le_of_ble_eq_true rfl)⟩ (Nat.le_of_ble_eq_true rfl) dX9_widen_58 (fun u_16 hp_17 => ?_)
        have hj_18 := jv_trans hj_14 hp_17
        refine s_aload_n E dX9_widen_61 rfl rfl ?_
        refine s_aload_n E dX9_widen_62 rfl rfl ?_
        refine s_gR (r := 75) E fg_X9_58 rfl rfl (jv_lt hj_18 (by decide)) (jv_r hj_18 (by decide +kernel)) dX9_widen_63 ?_
        refine s_iload_n E dX9_widen_66 rfl rfl ?_
        refine s_vI (As := [AR 75, AI x1]) (S := []) E (Z_X9_inTheEnd_0_r75 l D aC b u_16 x1 hj_18.1 ) cv_X9_230 rfl rfl rfl (jv_lt hj_18 (by decide)) (Nat.le_of_ble_eq_true rfl) (Nat.le_of_ble_eq_true rfl) ⟨(Nat.le_of_ble_eq_true rfl), (Nat.le_of_ble_eq_true rfl)⟩ (Nat.le_of_ble_eq_true rfl) dX9_widen_67 (fun z_21 u_19 hp_20 => ?_)
        obtain ⟨hz_21, hp_20⟩ := hp_20
        have hj_22 := jv_trans hj_18 hp_20
        refine s_sI (As := [AI z_21]) (S := []) E (Z_J6_bitCount_0f7a4 l D aC b u_19 z_21 hj_22.1 ) cs_X9_203 rfl rfl (Nat.le_of_ble_eq_true rfl) (Nat.le_of_ble_eq_true rfl) ⟨(Nat.le_of_ble_eq_true rfl), (Nat.le_of_ble_eq_true rfl)⟩ (Nat.le_of_ble_eq_true rfl) dX9_widen_70 (fun z_25 u_23 hp_24 => ?_)
        obtain ⟨hz_25, hp_24⟩ := hp_24
        subst hp_24
        refine s_istore (L2 := [some (AR 0), some (AI x1), some (AI x2), some (AI q40_3_13), some (AI q40_4_13), some (AI q40_5_13), some (AI z_25)]) E dX9_widen_73 (by decide) rfl ?_
        refine s_iload E dX9_widen_75 rfl ?_
        refine s_iload E dX9_widen_77 rfl ?_
        refine z_icmp_le (tgt := 89) (u := z_25.toInt) (v := q40_4_13.toInt) E dX9_widen_79 (by decide) rfl rfl (fun h_27 => ?_) (fun h_27 => ?_)
        ·
          refine z_iinc (u := q40_5_13.toInt) (L2 := fun z_28 => [some (AR 0), some (AI x1), some (AI x2), some (AI q40_3_13), some (AI q40_4_13), some (AI z_28), some (AI z_25)]) E dX9_widen_89 rfl rfl (by decide) (fun _ => rfl) (by decide) (by omega) (by omega) (fun z_28 hz_28 => ?_)
          refine s_goto (tgt := 40) E dX9_widen_92 (by decide) ?_
          refine s_drop (i := 6) (L2 := [some (AR 0), some (AI x1), some (AI x2), some (AI q40_3_13), some (AI q40_4_13), some (AI z_28), none]) rfl ?_
          exact ih40 ⟨q40_3_13, q40_4_13, z_28⟩ u_19 ⟨⟨by have hb_ := z32 q40_3_13; omega, by have hb_ := z32 q40_3_13; omega⟩, ⟨by have hb_ := z32 q40_4_13; omega, by have hb_ := z32 q40_4_13; omega⟩, ⟨by have hb_ := z32 z_28; omega, by have hb_ := z32 z_28; omega⟩, hj_22⟩ (by first | omega | (dsimp only; omega))
        ·
          refine s_iload E dX9_widen_82 rfl ?_
          refine s_istore (L2 := [some (AR 0), some (AI x1), some (AI x2), some (AI q40_3_13), some (AI z_25), some (AI q40_5_13), some (AI z_25)]) E dX9_widen_84 (by decide) rfl ?_
          refine s_iload E dX9_widen_86 rfl ?_
          refine s_istore_n (L2 := [some (AR 0), some (AI x1), some (AI x2), some (AI q40_5_13), some (AI z_25), some (AI q40_5_13), some (AI z_25)]) E dX9_widen_88 rfl (by decide) rfl ?_
          refine z_iinc (u := q40_5_13.toInt) (L2 := fun z_29 => [some (AR 0), some (AI x1), some (AI x2), some (AI q40_5_13), some (AI z_25), some (AI z_29), some (AI z_25)]) E dX9_widen_89 rfl rfl (by decide) (fun _ => rfl) (by decide) (by omega) (by omega) (fun z_29 hz_29 => ?_)
          refine s_goto (tgt := 40) E dX9_widen_92 (by decide) ?_
          refine s_drop (i := 6) (L2 := [some (AR 0), some (AI x1), some (AI x2), some (AI q40_5_13), some (AI z_25), some (AI z_29), none]) rfl ?_
          exact ih40 ⟨q40_5_13, z_25, z_29⟩ u_19 ⟨⟨by have hb_ := z32 q40_5_13; omega, by have hb_ := z32 q40_5_13; omega⟩, ⟨by have hb_ := z32 z_25; omega, by have hb_ := z32 z_25; omega⟩, ⟨by have hb_ := z32 z_29; omega, by have hb_ := z32 z_29; omega⟩, hj_22⟩ (by first | omega | (dsimp only; omega))
    ·
      refine s_bipush (v := (-2)) E dX9_widen_25 (by decide) ?_
      exact r_int E dX9_widen_27 ⟨(by decide), hJ⟩
set_option maxRecDepth 20000 in
set_option maxHeartbeats 2000000 in
theorem Z_X9_shut_0 (l : Launch) (D : va_G) (aC : Nat → ClassId) (b : Nat) (w : XW) (x1 : Int32) (x2 : Int32) (hI : Iv w)  : CnI l D aC b M_X9_shut 5 120 0 0 [AR 0, AI x1, AI x2] w (fun r u => ((-2147483648) ≤ r.toInt ∧ r.toInt ≤ 2147483647 ∧ (¬ r.toInt = 0 ∨ (0 ≤ x1.toInt ∧ x1.toInt ≤ 5)) ∧ (¬ r.toInt = 0 ∨ (0 ≤ x2.toInt ∧ x2.toInt ≤ 11)) ∧ (¬ r.toInt = 0 ∨ (1 ≤ (w.2.2.1 5 3).toInt ∧ (w.2.2.1 5 3).toInt ≤ 6)) ∧ (¬ r.toInt = 0 ∨ (1 ≤ (w.2.2.1 3 3).toInt ∧ (w.2.2.1 3 3).toInt ≤ 12))) ∧ Jv w u) := by
  refine cn_I (own := RX9) (nm := "shut") (L0 := [some (AR 0), some (AI x1), some (AI x2)]) (by decide +kernel) rfl rfl (Nat.le_of_ble_eq_true rfl) rfl ?_
  intro p e s m args below meth c E hin
  have hJ : Jv w w := jv_rfl hI
  refine s_aload_n E dX9_shut_0 rfl rfl ?_
  refine s_gR (r := 2) E fg_X9_20 rfl rfl (jv_lt hJ (by decide)) (jv_r hJ (by decide +kernel)) dX9_shut_1 ?_
  refine s_iload_n E dX9_shut_4 rfl rfl ?_
  refine s_vI (As := [AI x1]) (S := []) E (Z_X0_hasLady_2 l D aC b w x1 hJ.1 ) cv_X9_139 rfl rfl rfl (jv_lt hJ (by decide)) (Nat.le_of_ble_eq_true rfl) (Nat.le_of_ble_eq_true rfl) ⟨(Nat.le_of_ble_eq_true rfl), (Nat.le_of_ble_eq_true rfl)⟩ (Nat.le_of_ble_eq_true rfl) dX9_shut_5 (fun z_3 u_1 hp_2 => ?_)
  obtain ⟨hz_3, hp_2⟩ := hp_2
  subst hp_2
  refine z_if_eq (tgt := 25) (u := z_3.toInt) E dX9_shut_8 (by decide) rfl (fun h_5 => ?_) (fun h_5 => ?_)
  ·
    refine s_bipush (v := (-2)) E dX9_shut_25 (by decide) ?_
    exact r_int E dX9_shut_27 ⟨⟨by decide, by decide, by first | (left; decide) | (right; have hb_ := z32 x1; omega), by first | (left; decide) | (right; have hb_ := z32 x2; omega), by first | (left; decide) | (right; have hb_ := z32 (w.2.2.1 5 3); omega), by first | (left; decide) | (right; have hb_ := z32 (w.2.2.1 3 3); omega)⟩, hJ⟩
  ·
    refine s_aload_n E dX9_shut_11 rfl rfl ?_
    refine s_gR (r := 2) E fg_X9_20 rfl rfl (jv_lt hJ (by decide)) (jv_r hJ (by decide +kernel)) dX9_shut_12 ?_
    refine s_gR (r := 3) E fg_X9_119 rfl rfl (jv_lt hJ (by decide)) (jv_r hJ (by decide +kernel)) dX9_shut_15 ?_
    refine s_iload_n E dX9_shut_18 rfl rfl ?_
    refine s_vI (As := [AI x2]) (S := []) E (Z_X8_has_3 l D aC b w x2 hJ.1 ) cv_X9_257 rfl rfl rfl (jv_lt hJ (by decide)) (Nat.le_of_ble_eq_true rfl) (Nat.le_of_ble_eq_true rfl) ⟨(Nat.le_of_ble_eq_true rfl), (Nat.le_of_ble_eq_true rfl)⟩ (Nat.le_of_ble_eq_true rfl) dX9_shut_19 (fun z_8 u_6 hp_7 => ?_)
    obtain ⟨hz_8, hp_7⟩ := hp_7
    subst hp_7
    refine z_if_ne (tgt := 28) (u := z_8.toInt) E dX9_shut_22 (by decide) rfl (fun h_10 => ?_) (fun h_10 => ?_)
    ·
      refine s_aload_n E dX9_shut_28 rfl rfl ?_
      refine s_vV (As := []) (S := []) E (Z_X9_passAsTold_0 l D aC b w  hJ.1 ) cv_X9_227 rfl rfl rfl (jv_lt hJ (by decide)) (Nat.le_of_ble_eq_true rfl) (Nat.le_of_ble_eq_true rfl) ⟨(Nat.le_of_ble_eq_true rfl), (Nat.le_of_ble_eq_true rfl)⟩ (Nat.le_of_ble_eq_true rfl) dX9_shut_29 (fun u_11 hp_12 => ?_)
      have hj_13 := jv_trans hJ hp_12
      refine s_aload_n E dX9_shut_32 rfl rfl ?_
      refine s_gR (r := 75) E fg_X9_58 rfl rfl (jv_lt hj_13 (by decide)) (jv_r hj_13 (by decide +kernel)) dX9_shut_33 ?_
      refine s_aload_n E dX9_shut_36 rfl rfl ?_
      refine s_gR (r := 2) E fg_X9_20 rfl rfl (jv_lt hj_13 (by decide)) (jv_r hj_13 (by decide +kernel)) dX9_shut_37 ?_
      refine s_iload_n E dX9_shut_40 rfl rfl ?_
      refine s_iconst (v := 0) E dX9_shut_41 (by decide) ?_
      refine s_vV (As := [AR 2, AI x2, AI 0]) (S := []) E (Z_X2_settle_75_r2 l D aC b u_11 x2 0 hj_13.1 ) cv_X9_116 rfl rfl rfl (jv_lt hj_13 (by decide)) (Nat.le_of_ble_eq_true rfl) (Nat.le_of_ble_eq_true rfl) ⟨(Nat.le_of_ble_eq_true rfl), (Nat.le_of_ble_eq_true rfl)⟩ (Nat.le_of_ble_eq_true rfl) dX9_shut_42 (fun u_14 hp_15 => ?_)
      have hj_16 := jv_trans hj_13 hp_15
      refine s_aload_n E dX9_shut_45 rfl rfl ?_
      refine s_aload_n E dX9_shut_46 rfl rfl ?_
      refine s_gR (r := 75) E fg_X9_58 rfl rfl (jv_lt hj_16 (by decide)) (jv_r hj_16 (by decide +kernel)) dX9_shut_47 ?_
      refine s_iload_n E dX9_shut_50 rfl rfl ?_
      refine s_vI (As := [AR 75, AI x1]) (S := []) E (Z_X9_inTheEnd_0_r75 l D aC b u_14 x1 hj_16.1 ) cv_X9_230 rfl rfl rfl (jv_lt hj_16 (by decide)) (Nat.le_of_ble_eq_true rfl) (Nat.le_of_ble_eq_true rfl) ⟨(Nat.le_of_ble_eq_true rfl), (Nat.le_of_ble_eq_true rfl)⟩ (Nat.le_of_ble_eq_true rfl) dX9_shut_51 (fun z_19 u_17 hp_18 => ?_)
      obtain ⟨hz_19, hp_18⟩ := hp_18
      have hj_20 := jv_trans hj_16 hp_18
      exact r_int E dX9_shut_54 ⟨⟨by have hb_ := z32 z_19; omega, by have hb_ := z32 z_19; omega, by have hb_ := z32 z_19; have hc_ := z32 x1; omega, by have hb_ := z32 z_19; have hc_ := z32 x2; omega, by have hb_ := z32 z_19; have hc_ := z32 (w.2.2.1 5 3); omega, by have hb_ := z32 z_19; have hc_ := z32 (w.2.2.1 3 3); omega⟩, hj_20⟩
    ·
      refine s_bipush (v := (-2)) E dX9_shut_25 (by decide) ?_
      exact r_int E dX9_shut_27 ⟨⟨by decide, by decide, by first | (left; decide) | (right; have hb_ := z32 x1; omega), by first | (left; decide) | (right; have hb_ := z32 x2; omega), by first | (left; decide) | (right; have hb_ := z32 (w.2.2.1 5 3); omega), by first | (left; decide) | (right; have hb_ := z32 (w.2.2.1 3 3); omega)⟩, hJ⟩
