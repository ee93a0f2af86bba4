set_option maxRecDepth 20000 in
set_option maxHeartbeats 2000000 in
theorem Z_X10_rests_95 (l : Launch) (D : va_G) (aC : Nat → ClassId) (b : Nat) (w : XW) (x1 : Int32) (x2 : Int32) (hI : Iv w)  : CnI l D aC b M_X10_rests 6 135 0 0 [AR 95, AI x1, AI x2] w (fun r u => ((-2147483648) ≤ r.toInt ∧ r.toInt ≤ 2147483647 ∧ (¬ r.toInt = 0 ∨ (0 ≤ x1.toInt ∧ x1.toInt ≤ 5)) ∧ (¬ r.toInt = 0 ∨ (0 ≤ x2.toInt ∧ x2.toInt ≤ 5))) ∧ Jv w u) := by
  refine cn_I (own := RX10) (nm := "rests") (L0 := [some (AR 95), some (AI x1), some (AI x2), none, none, none, none, none]) (by decide +kernel) rfl rfl (Nat.le_of_ble_eq_true rfl) rfl ?_
  intro p e s m args below meth c E hin
  have hJ : Jv w w := jv_rfl hI
  have hb_x1 := z32 x1
  have hb_x2 := z32 x2
  refine s_aload_n E dX10_rests_0 rfl rfl ?_
  refine s_iload_n E dX10_rests_1 rfl rfl ?_
  refine s_iload_n E dX10_rests_2 rfl rfl ?_
  refine s_vI (As := [AI x1, AI x2]) (S := []) E (Z_X10_areTwo_95 l D aC b w x1 x2 hJ.1 ) cv_X10_416 rfl rfl rfl (jv_lt hJ (by decide)) (Nat.le_of_ble_eq_true rfl) (Nat.le_of_ble_eq_true rfl) ⟨(Nat.le_of_ble_eq_true rfl), (Nat.le_of_ble_eq_true rfl)⟩ (Nat.le_of_ble_eq_true rfl) dX10_rests_3 (fun z_3 u_1 hp_2 => ?_)
  obtain ⟨hz_3, hp_2⟩ := hp_2
  have hj_4 := jv_trans hJ hp_2
  refine z_if_ne (tgt := 12) (u := z_3.toInt) E dX10_rests_6 (by decide) rfl (fun h_5 => ?_) (fun h_5 => ?_)
  ·
    refine s_iconst (v := 0) E dX10_rests_12 (by decide) ?_
    refine s_istore_n (L2 := [some (AR 95), some (AI x1), some (AI x2), some (AI 0), none, none, none, none]) E dX10_rests_13 rfl (by decide) rfl ?_
    refine s_iconst (v := 0) E dX10_rests_14 (by decide) ?_
    refine s_istore (L2 := [some (AR 95), some (AI x1), some (AI x2), some (AI 0), some (AI 0), none, none, none]) E dX10_rests_15 (by decide) rfl ?_
    refine z_loop (St := Int32 × Int32) (Pi := fun ⟨q17_3_5, q17_4_5⟩ v17 => (0 ≤ q17_4_5.toInt ∧ q17_4_5.toInt ≤ 4) ∧ Jv w v17) (Lf := fun ⟨q17_3_5, q17_4_5⟩ => [some (AR 95), some (AI x1), some (AI x2), some (AI q17_3_5), some (AI q17_4_5), none, none, none]) (fun ⟨q17_3_5, q17_4_5⟩ _ => (5 - q17_4_5.toInt).toNat) ⟨0, 0⟩ ⟨⟨by decide, by decide⟩, hj_4⟩ ?_
    rintro ⟨q17_3_5, q17_4_5⟩ v17 ⟨hq17_4, hj_6⟩ ih17
    have hbq17_3 := z32 q17_3_5
    refine s_loc (L2 := [some (AR 95), some (AI x1), some (AI x2), some (AI q17_3_5), some (AI q17_4_5), none, none, none]) rfl ?_
    refine s_iload E dX10_rests_17 rfl ?_
    refine s_iconst (v := 4) E dX10_rests_19 (by decide) ?_
    refine z_icmp_ge (tgt := 118) (u := q17_4_5.toInt) (v := 4) E dX10_rests_20 (by decide) rfl (by decide) (fun h_7 => ?_) (fun h_7 => ?_)
    ·
      refine s_iload_n E dX10_rests_118 rfl rfl ?_
      exact r_int E dX10_rests_119 ⟨⟨by have hb_ := z32 q17_3_5; omega, by have hb_ := z32 q17_3_5; omega, by first | (right; decide) | (have hb_ := z32 q17_3_5; omega) | (have hb_ := z32 q17_3_5; have hc_ := z32 x1; omega), by first | (right; decide) | (have hb_ := z32 q17_3_5; omega) | (have hb_ := z32 q17_3_5; have hc_ := z32 x2; omega)⟩, hj_6⟩
    ·
      refine s_iload E dX10_rests_23 rfl ?_
      refine s_iconst (v := 1) E dX10_rests_25 (by decide) ?_
      refine z_mask (v := 1) E dX10_rests_26 (by decide) (by decide) (fun z_8 hz_8 => ?_)
      refine s_istore (L2 := [some (AR 95), some (AI x1), some (AI x2), some (AI q17_3_5), some (AI q17_4_5), some (AI z_8), none, none]) E dX10_rests_27 (by decide) rfl ?_
      refine s_iload E dX10_rests_29 rfl ?_
      refine s_iconst (v := 1) E dX10_rests_31 (by decide) ?_
      refine s_ishr E dX10_rests_32 ?_
      refine z_nm (P := fun z => (-2147483648) ≤ z.toInt ∧ z.toInt ≤ 2147483647) (z32 _) (fun z_9 hz_9 => ?_)
      refine s_istore (L2 := [some (AR 95), some (AI x1), some (AI x2), some (AI q17_3_5), some (AI q17_4_5), some (AI z_8), some (AI z_9), none]) E dX10_rests_33 (by decide) rfl ?_
      refine s_aload_n E dX10_rests_35 rfl rfl ?_
      refine s_iload_n E dX10_rests_36 rfl rfl ?_
      refine s_iload_n E dX10_rests_37 rfl rfl ?_
      refine s_iload E dX10_rests_38 rfl ?_
      refine s_iload E dX10_rests_40 rfl ?_
      refine s_iconst (v := 0) E dX10_rests_42 (by decide) ?_
      refine s_vI (As := [AI x1, AI x2, AI z_8, AI z_9, AI 0]) (S := []) E (Z_X10_gainsBy_95 l D aC b v17 x1 x2 z_8 z_9 0 hj_6.1 ⟨by have hb_ := z32 x1; omega, by have hb_ := z32 x1; omega⟩ ⟨by have hb_ := z32 x2; omega, by have hb_ := z32 x2; omega⟩ (by decide)) cv_X10_419 rfl rfl rfl (jv_lt hj_6 (by decide)) (Nat.le_of_ble_eq_true rfl) (Nat.le_of_ble_eq_true rfl) ⟨(Nat.le_of_ble_eq_true rfl), (Nat.le_of_ble_eq_true rfl)⟩ (Nat.le_of_ble_eq_true rfl) dX10_rests_43 (fun z_12 u_10 hp_11 => ?_)
      obtain ⟨hz_12, hp_11⟩ := hp_11
      have hj_13 := jv_trans hj_6 hp_11
      refine s_aload_n E dX10_rests_46 rfl rfl ?_
      refine s_iload_n E dX10_rests_47 rfl rfl ?_
      refine s_iload_n E dX10_rests_48 rfl rfl ?_
      refine s_iconst (v := 1) E dX10_rests_49 (by decide) ?_
      refine s_iload E dX10_rests_50 rfl ?_
      refine z_isub (u := 1) (v := z_8.toInt) E dX10_rests_52 (by decide) rfl (by omega) (by omega) (fun z_14 hz_14 => ?_)
      refine s_iload E dX10_rests_53 rfl ?_
      refine s_iconst (v := 0) E dX10_rests_55 (by decide) ?_
      refine s_vI (As := [AI x1, AI x2, AI z_14, AI z_9, AI 0]) (S := [AI z_12]) E (Z_X10_gainsBy_95 l D aC b u_10 x1 x2 z_14 z_9 0 hj_13.1 ⟨by have hb_ := z32 x1; omega, by have hb_ := z32 x1; omega⟩ ⟨by have hb_ := z32 x2; omega, by have hb_ := z32 x2; omega⟩ (by decide)) cv_X10_419 rfl rfl rfl (jv_lt hj_13 (by decide)) (Nat.le_of_ble_eq_true rfl) (Nat.le_of_ble_eq_true rfl) ⟨(Nat.le_of_ble_eq_true rfl), (Nat.le_of_ble_eq_true rfl)⟩ (Nat.le_of_ble_eq_true rfl) dX10_rests_56 (fun z_17 u_15 hp_16 => ?_)
      obtain ⟨hz_17, hp_16⟩ := hp_16
      have hj_18 := jv_trans hj_13 hp_16
      refine z_icmp_lt (tgt := 93) (u := z_12.toInt) (v := z_17.toInt) E dX10_rests_59 (by decide) rfl rfl (fun h_19 => ?_) (fun h_19 => ?_)
      ·
        refine s_iconst (v := 0) E dX10_rests_93 (by decide) ?_
        refine s_istore (L2 := [some (AR 95), some (AI x1), some (AI x2), some (AI q17_3_5), some (AI q17_4_5), some (AI z_8), some (AI z_9), some (AI 0)]) E dX10_rests_94 (by decide) rfl ?_
        refine s_iload_n E dX10_rests_96 rfl rfl ?_
        refine s_iload E dX10_rests_97 rfl ?_
        refine z_if_eq (tgt := 109) (u := 0) E dX10_rests_99 (by decide) (by decide) (fun h_20 => ?_) (fun h_20 => absurd h_20 (by omega))
        refine s_iconst (v := 0) E dX10_rests_109 (by decide) ?_
        refine s_ior E dX10_rests_110 ?_
        refine z_nm (P := fun z => (-2147483648) ≤ z.toInt ∧ z.toInt ≤ 2147483647) (z32 _) (fun z_21 hz_21 => ?_)
        refine s_istore_n (L2 := [some (AR 95), some (AI x1), some (AI x2), some (AI z_21), some (AI q17_4_5), some (AI z_8), some (AI z_9), some (AI 0)]) E dX10_rests_111 rfl (by decide) rfl ?_
        refine z_iinc (u := q17_4_5.toInt) (L2 := fun z_22 => [some (AR 95), some (AI x1), some (AI x2), some (AI z_21), some (AI z_22), some (AI z_8), some (AI z_9), some (AI 0)]) E dX10_rests_112 rfl rfl (by decide) (fun _ => rfl) (by decide) (by omega) (by omega) (fun z_22 hz_22 => ?_)
        refine s_goto (tgt := 17) E dX10_rests_115 (by decide) ?_
        refine s_drop (i := 5) (L2 := [some (AR 95), some (AI x1), some (AI x2), some (AI z_21), some (AI z_22), none, some (AI z_9), some (AI 0)]) rfl ?_
        refine s_drop (i := 6) (L2 := [some (AR 95), some (AI x1), some (AI x2), some (AI z_21), some (AI z_22), none, none, some (AI 0)]) rfl ?_
        refine s_drop (i := 7) (L2 := [some (AR 95), some (AI x1), some (AI x2), some (AI z_21), some (AI z_22), none, none, none]) rfl ?_
        exact ih17 ⟨z_21, z_22⟩ u_15 ⟨⟨by have hb_ := z32 z_22; omega, by have hb_ := z32 z_22; omega⟩, hj_18⟩ (by first | omega | decide | (dsimp only; omega) | (dsimp only; decide))
      ·
        refine s_aload_n E dX10_rests_62 rfl rfl ?_
        refine s_iload_n E dX10_rests_63 rfl rfl ?_
        refine s_iload_n E dX10_rests_64 rfl rfl ?_
        refine s_iload E dX10_rests_65 rfl ?_
        refine s_iload E dX10_rests_67 rfl ?_
        refine s_iconst (v := 1) E dX10_rests_69 (by decide) ?_
        refine s_vI (As := [AI x1, AI x2, AI z_8, AI z_9, AI 1]) (S := []) E (Z_X10_gainsBy_95 l D aC b u_15 x1 x2 z_8 z_9 1 hj_18.1 ⟨by have hb_ := z32 x1; omega, by have hb_ := z32 x1; omega⟩ ⟨by have hb_ := z32 x2; omega, by have hb_ := z32 x2; omega⟩ (by decide)) cv_X10_419 rfl rfl rfl (jv_lt hj_18 (by decide)) (Nat.le_of_ble_eq_true rfl) (Nat.le_of_ble_eq_true rfl) ⟨(Nat.le_of_ble_eq_true rfl), (Nat.le_of_ble_eq_true rfl)⟩ (Nat.le_of_ble_eq_true rfl) dX10_rests_70 (fun z_25 u_23 hp_24 => ?_)
        obtain ⟨hz_25, hp_24⟩ := hp_24
        have hj_26 := jv_trans hj_18 hp_24
        refine s_aload_n E dX10_rests_73 rfl rfl ?_
        refine s_iload_n E dX10_rests_74 rfl rfl ?_
        refine s_iload_n E dX10_rests_75 rfl rfl ?_
        refine s_iload E dX10_rests_76 rfl ?_
        refine s_iconst (v := 1) E dX10_rests_78 (by decide) ?_
        refine s_iload E dX10_rests_79 rfl ?_
        refine s_isub E dX10_rests_81 ?_
        refine z_nm (P := fun z => (-2147483648) ≤ z.toInt ∧ z.toInt ≤ 2147483647) (z32 _) (fun z_27 hz_27 => ?_)
        refine s_iconst (v := 1) E dX10_rests_82 (by decide) ?_
        refine s_vI (As := [AI x1, AI x2, AI z_8, AI z_27, AI 1]) (S := [AI z_25]) E (Z_X10_gainsBy_95 l D aC b u_23 x1 x2 z_8 z_27 1 hj_26.1 ⟨by have hb_ := z32 x1; omega, by have hb_ := z32 x1; omega⟩ ⟨by have hb_ := z32 x2; omega, by have hb_ := z32 x2; omega⟩ (by decide)) cv_X10_419 rfl rfl rfl (jv_lt hj_26 (by decide)) (Nat.le_of_ble_eq_true rfl) (Nat.le_of_ble_eq_true rfl) ⟨(Nat.le_of_ble_eq_true rfl), (Nat.le_of_ble_eq_true rfl)⟩ (Nat.le_of_ble_eq_true rfl) dX10_rests_83 (fun z_30 u_28 hp_29 => ?_)
        obtain ⟨hz_30, hp_29⟩ := hp_29
        have hj_31 := jv_trans hj_26 hp_29
        refine z_icmp_lt (tgt := 93) (u := z_25.toInt) (v := z_30.toInt) E dX10_rests_86 (by decide) rfl rfl (fun h_32 => ?_) (fun h_32 => ?_)
        ·
          refine s_iconst (v := 0) E dX10_rests_93 (by decide) ?_
          refine s_istore (L2 := [some (AR 95), some (AI x1), some (AI x2), some (AI q17_3_5), some (AI q17_4_5), some (AI z_8), some (AI z_9), some (AI 0)]) E dX10_rests_94 (by decide) rfl ?_
          refine s_iload_n E dX10_rests_96 rfl rfl ?_
          refine s_iload E dX10_rests_97 rfl ?_
          refine z_if_eq (tgt := 109) (u := 0) E dX10_rests_99 (by decide) (by decide) (fun h_33 => ?_) (fun h_33 => absurd h_33 (by omega))
          refine s_iconst (v := 0) E dX10_rests_109 (by decide) ?_
          refine s_ior E dX10_rests_110 ?_
          refine z_nm (P := fun z => (-2147483648) ≤ z.toInt ∧ z.toInt ≤ 2147483647) (z32 _) (fun z_34 hz_34 => ?_)
          refine s_istore_n (L2 := [some (AR 95), some (AI x1), some (AI x2), some (AI z_34), some (AI q17_4_5), some (AI z_8), some (AI z_9), some (AI 0)]) E dX10_rests_111 rfl (by decide) rfl ?_
          refine z_iinc (u := q17_4_5.toInt) (L2 := fun z_35 => [some (AR 95), some (AI x1), some (AI x2), some (AI z_34), some (AI z_35), some (AI z_8), some (AI z_9), some (AI 0)]) E dX10_rests_112 rfl rfl (by decide) (fun _ => rfl) (by decide) (by omega) (by omega) (fun z_35 hz_35 => ?_)
          refine s_goto (tgt := 17) E dX10_rests_115 (by decide) ?_
          refine s_drop (i := 5) (L2 := [some (AR 95), some (AI x1), some (AI x2), some (AI z_34), some (AI z_35), none, some (AI z_9), some (AI 0)]) rfl ?_
          refine s_drop (i := 6) (L2 := [some (AR 95), some (AI x1), some (AI x2), some (AI z_34), some (AI z_35), none, none, some (AI 0)]) rfl ?_
          refine s_drop (i := 7) (L2 := [some (AR 95), some (AI x1), some (AI x2), some (AI z_34), some (AI z_35), none, none, none]) rfl ?_
          exact ih17 ⟨z_34, z_35⟩ u_28 ⟨⟨by have hb_ := z32 z_35; omega, by have hb_ := z32 z_35; omega⟩, hj_31⟩ (by first | omega | decide | (dsimp only; omega) | (dsimp only; decide))
        ·
          refine s_iconst (v := 1) E dX10_rests_89 (by decide) ?_
          refine s_goto (tgt := 94) E dX10_rests_90 (by decide) ?_
          refine s_istore (L2 := [some (AR 95), some (AI x1), some (AI x2), some (AI q17_3_5), some (AI q17_4_5), some (AI z_8), some (AI z_9), some (AI 1)]) E dX10_rests_94 (by decide) rfl ?_
          refine s_iload_n E dX10_rests_96 rfl rfl ?_
          refine s_iload E dX10_rests_97 rfl ?_
          refine z_if_eq (tgt := 109) (u := 1) E dX10_rests_99 (by decide) (by decide) (fun h_36 => absurd h_36 (by omega)) (fun h_36 => ?_)
          refine s_iconst (v := 1) E dX10_rests_102 (by decide) ?_
          refine s_iload E dX10_rests_103 rfl ?_
          refine z_shl1 3 (u := q17_4_5.toInt) (B := 8) E dX10_rests_105 rfl (by omega) (by omega) (by decide) (by decide) (fun z_37 hz_37 => ?_)
          refine s_goto (tgt := 110) E dX10_rests_106 (by decide) ?_
          refine s_ior E dX10_rests_110 ?_
          refine z_nm (P := fun z => (-2147483648) ≤ z.toInt ∧ z.toInt ≤ 2147483647) (z32 _) (fun z_38 hz_38 => ?_)
          refine s_istore_n (L2 := [some (AR 95), some (AI x1), some (AI x2), some (AI z_38), some (AI q17_4_5), some (AI z_8), some (AI z_9), some (AI 1)]) E dX10_rests_111 rfl (by decide) rfl ?_
          refine z_iinc (u := q17_4_5.toInt) (L2 := fun z_39 => [some (AR 95), some (AI x1), some (AI x2), some (AI z_38), some (AI z_39), some (AI z_8), some (AI z_9), some (AI 1)]) E dX10_rests_112 rfl rfl (by decide) (fun _ => rfl) (by decide) (by omega) (by omega) (fun z_39 hz_39 => ?_)
          refine s_goto (tgt := 17) E dX10_rests_115 (by decide) ?_
          refine s_drop (i := 5) (L2 := [some (AR 95), some (AI x1), some (AI x2), some (AI z_38), some (AI z_39), none, some (AI z_9), some (AI 1)]) rfl ?_
          refine s_drop (i := 6) (L2 := [some (AR 95), some (AI x1), some (AI x2), some (AI z_38), some (AI z_39), none, none, some (AI 1)]) rfl ?_
          refine s_drop (i := 7) (L2 := [some (AR 95), some (AI x1), some (AI x2), some (AI z_38), some (AI z_39), none, none, none]) rfl ?_
          exact ih17 ⟨z_38, z_39⟩ u_28 ⟨⟨by have hb_ := z32 z_39; omega, by have hb_ := z32 z_39; omega⟩, hj_31⟩ (by first | omega | decide | (dsimp only; omega) | (dsimp only; decide))
  ·
    refine s_bipush (v := (-2)) E dX10_rests_9 (by decide) ?_
    exact r_int E dX10_rests_11 ⟨⟨by decide, by decide, by first | (left; decide) | (right; decide) | (right; have hb_ := z32 x1; omega), by first | (left; decide) | (right; decide) | (right; have hb_ := z32 x2; omega)⟩, hj_4⟩
set_option maxRecDepth 20000 in
set_option maxHeartbeats 2000000 in
theorem Z_X10_gains_95 (l : Launch) (D : va_G) (aC : Nat → ClassId) (b : Nat) (w : XW) (x1 : Int32) (x2 : Int32) (x3 : Int32) (x4 : Int32) (hI : Iv w)  : CnI l D aC b M_X10_gains 6 135 0 0 [AR 95, AI x1, AI x2, AI x3, AI x4] w (fun r u => ((-2147483648) ≤ r.toInt ∧ r.toInt ≤ 2147483647 ∧ (¬ r.toInt = 0 ∨ (0 ≤ x1.toInt ∧ x1.toInt ≤ 5)) ∧ (¬ r.toInt = 0 ∨ (0 ≤ x2.toInt ∧ x2.toInt ≤ 5)) ∧ (¬ r.toInt = 0 ∨ (0 ≤ x3.toInt ∧ x3.toInt ≤ 1)) ∧ (¬ r.toInt = 0 ∨ (0 ≤ x4.toInt ∧ x4.toInt ≤ 1))) ∧ Jv w u) := by
  refine cn_I (own := RX10) (nm := "gains") (L0 := [some (AR 95), some (AI x1), some (AI x2), some (AI x3), some (AI x4)]) (by decide +kernel) rfl rfl (Nat.le_of_ble_eq_true rfl) rfl ?_
  intro p e s m args below meth c E hin
  have hJ : Jv w w := jv_rfl hI
  have hb_x1 := z32 x1
  have hb_x2 := z32 x2
  have hb_x3 := z32 x3
  have hb_x4 := z32 x4
  refine s_aload_n E dX10_gains_0 rfl rfl ?_
  refine s_iload_n E dX10_gains_1 rfl rfl ?_
  refine s_iload_n E dX10_gains_2 rfl rfl ?_
  refine s_vI (As := [AI x1, AI x2]) (S := []) E (Z_X10_areTwo_95 l D aC b w x1 x2 hJ.1 ) cv_X10_416 rfl rfl rfl (jv_lt hJ (by decide)) (Nat.le_of_ble_eq_true rfl) (Nat.le_of_ble_eq_true rfl) ⟨(Nat.le_of_ble_eq_true rfl), (Nat.le_of_ble_eq_true rfl)⟩ (Nat.le_of_ble_eq_true rfl) dX10_gains_3 (fun z_3 u_1 hp_2 => ?_)
  obtain ⟨hz_3, hp_2⟩ := hp_2
  have hj_4 := jv_trans hJ hp_2
  refine z_if_eq (tgt := 43) (u := z_3.toInt) E dX10_gains_6 (by decide) rfl (fun h_5 => ?_) (fun h_5 => ?_)
  ·
    refine s_sipush (v := (-1000)) E dX10_gains_43 (by decide) ?_
    exact r_int E dX10_gains_46 ⟨⟨by decide, by decide, by first | (left; decide) | (right; decide) | (right; have hb_ := z32 x1; omega), by first | (left; decide) | (right; decide) | (right; have hb_ := z32 x2; omega), by first | (left; decide) | (right; decide) | (right; have hb_ := z32 x3; omega), by first | (left; decide) | (right; decide) | (right; have hb_ := z32 x4; omega)⟩, hj_4⟩
  ·
    refine s_iload_n E dX10_gains_9 rfl rfl ?_
    refine z_i2l (u := x3.toInt) E dX10_gains_10 rfl (fun z_6 hz_6 => ?_)
    refine s_lconst (v := 0) E dX10_gains_11 (by decide) ?_
    refine s_lconst (v := 1) E dX10_gains_12 (by decide) ?_
    refine s_sI (As := [AL z_6, AL 0, AL 1]) (S := []) E (Z_X10_in l D aC b u_1 z_6 0 1) cs_X10_82 rfl rfl (Nat.le_of_ble_eq_true rfl) (Nat.le_of_ble_eq_true rfl) ⟨(Nat.le_of_ble_eq_true rfl), (Nat.le_of_ble_eq_true rfl)⟩ (Nat.le_of_ble_eq_true rfl) dX10_gains_13 (fun z_7 u_8 hp_9 => ?_)
    obtain ⟨hz_7, hp_9⟩ := hp_9
    subst hp_9
    have hcL_ : (0 : Int64).toInt = 0 := (by decide)
    have hcL_ : (1 : Int64).toInt = 1 := (by decide)
    refine z_if_eq (tgt := 43) (u := z_7.toInt) E dX10_gains_16 (by decide) rfl (fun h_10 => ?_) (fun h_10 => ?_)
    ·
      refine s_sipush (v := (-1000)) E dX10_gains_43 (by decide) ?_
      exact r_int E dX10_gains_46 ⟨⟨by decide, by decide, by first | (left; decide) | (right; decide) | (right; have hb_ := z32 x1; omega), by first | (left; decide) | (right; decide) | (right; have hb_ := z32 x2; omega), by first | (left; decide) | (right; decide) | (right; have hb_ := z32 x3; omega), by first | (left; decide) | (right; decide) | (right; have hb_ := z32 x4; omega)⟩, hj_4⟩
    ·
      refine s_iload E dX10_gains_19 rfl ?_
      refine z_i2l (u := x4.toInt) E dX10_gains_21 rfl (fun z_11 hz_11 => ?_)
      refine s_lconst (v := 0) E dX10_gains_22 (by decide) ?_
      refine s_lconst (v := 1) E dX10_gains_23 (by decide) ?_
      refine s_sI (As := [AL z_11, AL 0, AL 1]) (S := []) E (Z_X10_in l D aC b u_1 z_11 0 1) cs_X10_82 rfl rfl (Nat.le_of_ble_eq_true rfl) (Nat.le_of_ble_eq_true rfl) ⟨(Nat.le_of_ble_eq_true rfl), (Nat.le_of_ble_eq_true rfl)⟩ (Nat.le_of_ble_eq_true rfl) dX10_gains_24 (fun z_12 u_13 hp_14 => ?_)
      obtain ⟨hz_12, hp_14⟩ := hp_14
      subst hp_14
      have hcL_ : (0 : Int64).toInt = 0 := (by decide)
      have hcL_ : (1 : Int64).toInt = 1 := (by decide)
      refine z_if_eq (tgt := 43) (u := z_12.toInt) E dX10_gains_27 (by decide) rfl (fun h_15 => ?_) (fun h_15 => ?_)
      ·
        refine s_sipush (v := (-1000)) E dX10_gains_43 (by decide) ?_
        exact r_int E dX10_gains_46 ⟨⟨by decide, by decide, by first | (left; decide) | (right; decide) | (right; have hb_ := z32 x1; omega), by first | (left; decide) | (right; decide) | (right; have hb_ := z32 x2; omega), by first | (left; decide) | (right; decide) | (right; have hb_ := z32 x3; omega), by first | (left; decide) | (right; decide) | (right; have hb_ := z32 x4; omega)⟩, hj_4⟩
      ·
        refine s_aload_n E dX10_gains_30 rfl rfl ?_
        refine s_iload_n E dX10_gains_31 rfl rfl ?_
        refine s_iload_n E dX10_gains_32 rfl rfl ?_
        refine s_iload_n E dX10_gains_33 rfl rfl ?_
        refine s_iload E dX10_gains_34 rfl ?_
        refine s_iconst (v := 0) E dX10_gains_36 (by decide) ?_
        refine s_vI (As := [AI x1, AI x2, AI x3, AI x4, AI 0]) (S := []) E (Z_X10_gainsBy_95 l D aC b u_1 x1 x2 x3 x4 0 hj_4.1 ⟨by have hb_ := z32 x1; omega, by have hb_ := z32 x1; omega⟩ ⟨by have hb_ := z32 x2; omega, by have hb_ := z32 x2; omega⟩ (by decide)) cv_X10_419 rfl rfl rfl (jv_lt hj_4 (by decide)) (Nat.le_of_ble_eq_true rfl) (Nat.le_of_ble_eq_true rfl) ⟨(Nat.le_of_ble_eq_true rfl), (Nat.le_of_ble_eq_true rfl)⟩ (Nat.le_of_ble_eq_true rfl) dX10_gains_37 (fun z_18 u_16 hp_17 => ?_)
        obtain ⟨hz_18, hp_17⟩ := hp_17
        have hj_19 := jv_trans hj_4 hp_17
        refine s_goto (tgt := 46) E dX10_gains_40 (by decide) ?_
        exact r_int E dX10_gains_46 ⟨⟨by have hb_ := z32 z_18; omega, by have hb_ := z32 z_18; omega, by first | (right; decide) | (have hb_ := z32 z_18; omega) | (have hb_ := z32 z_18; have hc_ := z32 x1; omega), by first | (right; decide) | (have hb_ := z32 z_18; omega) | (have hb_ := z32 z_18; have hc_ := z32 x2; omega), by first | (right; decide) | (have hb_ := z32 z_18; omega) | (have hb_ := z32 z_18; have hc_ := z32 x3; omega), by first | (right; decide) | (have hb_ := z32 z_18; omega) | (have hb_ := z32 z_18; have hc_ := z32 x4; omega)⟩, hj_19⟩
set_option maxRecDepth 20000 in
set_option maxHeartbeats 2000000 in
theorem Z_X10_asksMusic_95 (l : Launch) (D : va_G) (aC : Nat → ClassId) (b : Nat) (w : XW) (x1 : Int32) (x2 : Int32) (x3 : Int32) (hI : Iv w)  : CnI l D aC b M_X10_asksMusic 5 113 0 0 [AR 95, AI x1, AI x2, AI x3] w (fun r u => (0 ≤ r.toInt ∧ r.toInt ≤ 1 ∧ (r.toInt = 0 ∨ (0 ≤ x1.toInt ∧ x1.toInt ≤ 5)) ∧ (r.toInt = 0 ∨ (0 ≤ x2.toInt ∧ x2.toInt ≤ 8)) ∧ (r.toInt = 0 ∨ (0 ≤ x3.toInt ∧ x3.toInt ≤ 1))) ∧ Jv w u) := by
  refine cn_I (own := RX10) (nm := "asksMusic") (L0 := [some (AR 95), some (AI x1), some (AI x2), some (AI x3)]) (by decide +kernel) rfl rfl (Nat.le_of_ble_eq_true rfl) rfl ?_
  intro p e s m args below meth c E hin
  have hJ : Jv w w := jv_rfl hI
  have hb_x1 := z32 x1
  have hb_x2 := z32 x2
  have hb_x3 := z32 x3
  refine s_aload_n E dX10_asksMusic_0 rfl rfl ?_
  refine s_iload_n E dX10_asksMusic_1 rfl rfl ?_
  refine s_vI (As := [AI x1]) (S := []) E (Z_X10_asksLady_95 l D aC b w x1 hJ.1 ) cv_X10_288 rfl rfl rfl (jv_lt hJ (by decide)) (Nat.le_of_ble_eq_true rfl) (Nat.le_of_ble_eq_true rfl) ⟨(Nat.le_of_ble_eq_true rfl), (Nat.le_of_ble_eq_true rfl)⟩ (Nat.le_of_ble_eq_true rfl) dX10_asksMusic_2 (fun z_3 u_1 hp_2 => ?_)
  obtain ⟨hz_3, hxz_3, hp_2⟩ := hp_2
  have hj_4 := jv_trans hJ hp_2
  refine z_if_eq (tgt := 43) (u := z_3.toInt) E dX10_asksMusic_5 (by decide) rfl (fun h_5 => ?_) (fun h_5 => ?_)
  ·
    refine s_iconst (v := 0) E dX10_asksMusic_43 (by decide) ?_
    exact r_bool E dX10_asksMusic_44 (Or.inl rfl) ⟨⟨by decide, by decide, by first | (left; decide) | (right; decide) | (right; have hb_ := z32 x1; omega), by first | (left; decide) | (right; decide) | (right; have hb_ := z32 x2; omega), by first | (left; decide) | (right; decide) | (right; have hb_ := z32 x3; omega)⟩, hj_4⟩
  ·
    refine s_aload_n E dX10_asksMusic_8 rfl rfl ?_
    refine s_iload_n E dX10_asksMusic_9 rfl rfl ?_
    refine z_i2l (u := x2.toInt) E dX10_asksMusic_10 rfl (fun z_6 hz_6 => ?_)
    refine s_vI (As := [AL z_6]) (S := []) E (Z_X10_isDance_95 l D aC b u_1 z_6 hj_4.1 ) cv_X10_282 rfl rfl rfl (jv_lt hj_4 (by decide)) (Nat.le_of_ble_eq_true rfl) (Nat.le_of_ble_eq_true rfl) ⟨(Nat.le_of_ble_eq_true rfl), (Nat.le_of_ble_eq_true rfl)⟩ (Nat.le_of_ble_eq_true rfl) dX10_asksMusic_11 (fun z_9 u_7 hp_8 => ?_)
    obtain ⟨hz_9, hp_8⟩ := hp_8
    subst hp_8
    refine z_if_eq (tgt := 43) (u := z_9.toInt) E dX10_asksMusic_14 (by decide) rfl (fun h_11 => ?_) (fun h_11 => ?_)
    ·
      refine s_iconst (v := 0) E dX10_asksMusic_43 (by decide) ?_
      exact r_bool E dX10_asksMusic_44 (Or.inl rfl) ⟨⟨by decide, by decide, by first | (left; decide) | (right; decide) | (right; have hb_ := z32 x1; omega), by first | (left; decide) | (right; decide) | (right; have hb_ := z32 x2; omega), by first | (left; decide) | (right; decide) | (right; have hb_ := z32 x3; omega)⟩, hj_4⟩
    ·
      refine s_iload_n E dX10_asksMusic_17 rfl rfl ?_
      refine z_i2l (u := x2.toInt) E dX10_asksMusic_18 rfl (fun z_12 hz_12 => ?_)
      refine s_lconst (v := 0) E dX10_asksMusic_19 (by decide) ?_
      refine s_ldc2 E k_1918 rfl dX10_asksMusic_20 ?_
      refine s_sI (As := [AL z_12, AL 0, AL 8]) (S := []) E (Z_X10_in l D aC b u_1 z_12 0 8) cs_X10_82 rfl rfl (Nat.le_of_ble_eq_true rfl) (Nat.le_of_ble_eq_true rfl) ⟨(Nat.le_of_ble_eq_true rfl), (Nat.le_of_ble_eq_true rfl)⟩ (Nat.le_of_ble_eq_true rfl) dX10_asksMusic_23 (fun z_13 u_14 hp_15 => ?_)
      obtain ⟨hz_13, hp_15⟩ := hp_15
      subst hp_15
      have hcL_ : (0 : Int64).toInt = 0 := (by decide)
      have hcL_ : (8 : Int64).toInt = 8 := (by decide)
      refine z_if_eq (tgt := 43) (u := z_13.toInt) E dX10_asksMusic_26 (by decide) rfl (fun h_16 => ?_) (fun h_16 => ?_)
      ·
        refine s_iconst (v := 0) E dX10_asksMusic_43 (by decide) ?_
        exact r_bool E dX10_asksMusic_44 (Or.inl rfl) ⟨⟨by decide, by decide, by first | (left; decide) | (right; decide) | (right; have hb_ := z32 x1; omega), by first | (left; decide) | (right; decide) | (right; have hb_ := z32 x2; omega), by first | (left; decide) | (right; decide) | (right; have hb_ := z32 x3; omega)⟩, hj_4⟩
      ·
        refine s_iload_n E dX10_asksMusic_29 rfl rfl ?_
        refine z_i2l (u := x3.toInt) E dX10_asksMusic_30 rfl (fun z_17 hz_17 => ?_)
        refine s_lconst (v := 0) E dX10_asksMusic_31 (by decide) ?_
        refine s_lconst (v := 1) E dX10_asksMusic_32 (by decide) ?_
        refine s_sI (As := [AL z_17, AL 0, AL 1]) (S := []) E (Z_X10_in l D aC b u_1 z_17 0 1) cs_X10_82 rfl rfl (Nat.le_of_ble_eq_true rfl) (Nat.le_of_ble_eq_true rfl) ⟨(Nat.le_of_ble_eq_true rfl), (Nat.le_of_ble_eq_true rfl)⟩ (Nat.le_of_ble_eq_true rfl) dX10_asksMusic_33 (fun z_18 u_19 hp_20 => ?_)
        obtain ⟨hz_18, hp_20⟩ := hp_20
        subst hp_20
        have hcL_ : (0 : Int64).toInt = 0 := (by decide)
        have hcL_ : (1 : Int64).toInt = 1 := (by decide)
        refine z_if_eq (tgt := 43) (u := z_18.toInt) E dX10_asksMusic_36 (by decide) rfl (fun h_21 => ?_) (fun h_21 => ?_)
        ·
          refine s_iconst (v := 0) E dX10_asksMusic_43 (by decide) ?_
          exact r_bool E dX10_asksMusic_44 (Or.inl rfl) ⟨⟨by decide, by decide, by first | (left; decide) | (right; decide) | (right; have hb_ := z32 x1; omega), by first | (left; decide) | (right; decide) | (right; have hb_ := z32 x2; omega), by first | (left; decide) | (right; decide) | (right; have hb_ := z32 x3; omega)⟩, hj_4⟩
        ·
          refine s_iconst (v := 1) E dX10_asksMusic_39 (by decide) ?_
          refine s_goto (tgt := 44) E dX10_asksMusic_40 (by decide) ?_
          exact r_bool E dX10_asksMusic_44 (Or.inr rfl) ⟨⟨by decide, by decide, by first | (left; decide) | (right; decide) | (right; have hb_ := z32 x1; omega), by first | (left; decide) | (right; decide) | (right; have hb_ := z32 x2; omega), by first | (left; decide) | (right; decide) | (right; have hb_ := z32 x3; omega)⟩, hj_4⟩
