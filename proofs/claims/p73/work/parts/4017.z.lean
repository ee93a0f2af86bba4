set_option maxRecDepth 20000 in
set_option maxHeartbeats 2000000 in
theorem Z_X10_waits_95 (l : Launch) (D : va_G) (aC : Nat → ClassId) (b : Nat) (w : XW) (x1 : Int32) (hI : Iv w)  : CnI l D aC b M_X10_waits 5 113 0 0 [AR 95, AI x1] w (fun r u => ((-2147483648) ≤ r.toInt ∧ r.toInt ≤ 2147483647 ∧ (¬ r.toInt = 0 ∨ (0 ≤ x1.toInt ∧ x1.toInt ≤ 5))) ∧ Jv w u) := by
  refine cn_I (own := RX10) (nm := "waits") (L0 := [some (AR 95), some (AI x1), none, none]) (by decide +kernel) rfl rfl (Nat.le_of_ble_eq_true rfl) rfl ?_
  intro p e s m args below meth c E hin
  have hJ : Jv w w := jv_rfl hI
  have hb_x1 := z32 x1
  refine s_aload_n E dX10_waits_0 rfl rfl ?_
  refine s_iload_n E dX10_waits_1 rfl rfl ?_
  refine s_vI (As := [AI x1]) (S := []) E (Z_X10_asksLady_95 l D aC b w x1 hJ.1 ) cv_X10_288 rfl rfl rfl (jv_lt hJ (by decide)) (Nat.le_of_ble_eq_true rfl) (Nat.le_of_ble_eq_true rfl) ⟨(Nat.le_of_ble_eq_true rfl), (Nat.le_of_ble_eq_true rfl)⟩ (Nat.le_of_ble_eq_true rfl) dX10_waits_2 (fun z_3 u_1 hp_2 => ?_)
  obtain ⟨hz_3, hxz_3, hp_2⟩ := hp_2
  have hj_4 := jv_trans hJ hp_2
  refine z_if_ne (tgt := 11) (u := z_3.toInt) E dX10_waits_5 (by decide) rfl (fun h_5 => ?_) (fun h_5 => ?_)
  ·
    refine s_iconst (v := 0) E dX10_waits_11 (by decide) ?_
    refine s_istore_n (L2 := [some (AR 95), some (AI x1), some (AI 0), none]) E dX10_waits_12 rfl (by decide) rfl ?_
    refine s_iconst (v := 0) E dX10_waits_13 (by decide) ?_
    refine s_istore_n (L2 := [some (AR 95), some (AI x1), some (AI 0), some (AI 0)]) E dX10_waits_14 rfl (by decide) rfl ?_
    refine z_loop (St := Int32 × Int32) (Pi := fun ⟨q15_2_5, q15_3_5⟩ v15 => (0 ≤ q15_3_5.toInt ∧ q15_3_5.toInt ≤ 14) ∧ u_1 = v15) (Lf := fun ⟨q15_2_5, q15_3_5⟩ => [some (AR 95), some (AI x1), some (AI q15_2_5), some (AI q15_3_5)]) (fun ⟨q15_2_5, q15_3_5⟩ _ => (15 - q15_3_5.toInt).toNat) ⟨0, 0⟩ ⟨⟨by decide, by decide⟩, rfl⟩ ?_
    rintro ⟨q15_2_5, q15_3_5⟩ v15 ⟨hq15_3, hv_⟩ ih15
    subst hv_
    have hbq15_2 := z32 q15_2_5
    refine s_loc (L2 := [some (AR 95), some (AI x1), some (AI q15_2_5), some (AI q15_3_5)]) rfl ?_
    refine s_iload_n E dX10_waits_15 rfl rfl ?_
    refine s_aload_n E dX10_waits_16 rfl rfl ?_
    refine s_vI (As := []) (S := [AI q15_3_5]) E (Z_X10_dances_95 l D aC b u_1  hj_4.1 ) cv_X10_247 rfl rfl rfl (jv_lt hj_4 (by decide)) (Nat.le_of_ble_eq_true rfl) (Nat.le_of_ble_eq_true rfl) ⟨(Nat.le_of_ble_eq_true rfl), (Nat.le_of_ble_eq_true rfl)⟩ (Nat.le_of_ble_eq_true rfl) dX10_waits_17 (fun z_9 u_7 hp_8 => ?_)
    obtain ⟨hz_9, hxz_9, hp_8⟩ := hp_8
    subst hp_8
    refine z_icmp_ge (tgt := 79) (u := q15_3_5.toInt) (v := z_9.toInt) E dX10_waits_20 (by decide) rfl rfl (fun h_11 => ?_) (fun h_11 => ?_)
    ·
      refine s_iload_n E dX10_waits_79 rfl rfl ?_
      exact r_int E dX10_waits_80 ⟨⟨by have hb_ := z32 q15_2_5; omega, by have hb_ := z32 q15_2_5; omega, by first | (right; decide) | (have hb_ := z32 q15_2_5; omega) | (have hb_ := z32 q15_2_5; have hc_ := z32 x1; omega)⟩, hj_4⟩
    ·
      refine s_iload_n E dX10_waits_23 rfl rfl ?_
      refine s_aload_n E dX10_waits_24 rfl rfl ?_
      refine s_iload_n E dX10_waits_25 rfl rfl ?_
      refine s_iload_n E dX10_waits_26 rfl rfl ?_
      refine s_vI (As := [AI x1, AI q15_3_5]) (S := [AI q15_2_5]) E (Z_X10_biddenOf_95 l D aC b u_1 x1 q15_3_5 hj_4.1 ⟨by have hb_ := z32 x1; omega, by have hb_ := z32 x1; omega⟩ ⟨by have hb_ := z32 q15_3_5; omega, by have hb_ := z32 q15_3_5; omega⟩) cv_X10_258 rfl rfl rfl (jv_lt hj_4 (by decide)) (Nat.le_of_ble_eq_true rfl) (Nat.le_of_ble_eq_true rfl) ⟨(Nat.le_of_ble_eq_true rfl), (Nat.le_of_ble_eq_true rfl)⟩ (Nat.le_of_ble_eq_true rfl) dX10_waits_27 (fun z_14 u_12 hp_13 => ?_)
      obtain ⟨hz_14, hp_13⟩ := hp_13
      subst hp_13
      refine s_iconst (v := (-1)) E dX10_waits_30 (by decide) ?_
      refine z_icmp_eq (tgt := 70) (u := z_14.toInt) (v := (-1)) E dX10_waits_31 (by decide) rfl (by decide) (fun h_16 => ?_) (fun h_16 => ?_)
      ·
        refine s_iconst (v := 0) E dX10_waits_70 (by decide) ?_
        refine z_iadd (u := q15_2_5.toInt) (v := 0) E dX10_waits_71 rfl (by decide) (by omega) (by omega) (fun z_17 hz_17 => ?_)
        refine s_istore_n (L2 := [some (AR 95), some (AI x1), some (AI z_17), some (AI q15_3_5)]) E dX10_waits_72 rfl (by decide) rfl ?_
        refine z_iinc (u := q15_3_5.toInt) (L2 := fun z_18 => [some (AR 95), some (AI x1), some (AI z_17), some (AI z_18)]) E dX10_waits_73 rfl rfl (by decide) (fun _ => rfl) (by decide) (by omega) (by omega) (fun z_18 hz_18 => ?_)
        refine s_goto (tgt := 15) E dX10_waits_76 (by decide) ?_
        exact ih15 ⟨z_17, z_18⟩ u_1 ⟨⟨by have hb_ := z32 z_18; omega, by have hb_ := z32 z_18; omega⟩, rfl⟩ (by first | omega | decide | (dsimp only; omega) | (dsimp only; decide))
      ·
        refine s_aload_n E dX10_waits_34 rfl rfl ?_
        refine s_iload_n E dX10_waits_35 rfl rfl ?_
        refine s_iload_n E dX10_waits_36 rfl rfl ?_
        refine s_vI (As := [AI x1, AI q15_3_5]) (S := [AI q15_2_5]) E (Z_X10_biddenOf_95 l D aC b u_1 x1 q15_3_5 hj_4.1 ⟨by have hb_ := z32 x1; omega, by have hb_ := z32 x1; omega⟩ ⟨by have hb_ := z32 q15_3_5; omega, by have hb_ := z32 q15_3_5; omega⟩) cv_X10_258 rfl rfl rfl (jv_lt hj_4 (by decide)) (Nat.le_of_ble_eq_true rfl) (Nat.le_of_ble_eq_true rfl) ⟨(Nat.le_of_ble_eq_true rfl), (Nat.le_of_ble_eq_true rfl)⟩ (Nat.le_of_ble_eq_true rfl) dX10_waits_37 (fun z_21 u_19 hp_20 => ?_)
        obtain ⟨hz_21, hp_20⟩ := hp_20
        subst hp_20
        refine s_aload_n E dX10_waits_40 rfl rfl ?_
        refine s_iload_n E dX10_waits_41 rfl rfl ?_
        refine s_iload_n E dX10_waits_42 rfl rfl ?_
        refine s_vI (As := [AI x1, AI q15_3_5]) (S := [AI z_21, AI q15_2_5]) E (Z_X10_atOf_95 l D aC b u_1 x1 q15_3_5 hj_4.1 ⟨by have hb_ := z32 x1; omega, by have hb_ := z32 x1; omega⟩ ⟨by have hb_ := z32 q15_3_5; omega, by have hb_ := z32 q15_3_5; omega⟩) cv_X10_255 rfl rfl rfl (jv_lt hj_4 (by decide)) (Nat.le_of_ble_eq_true rfl) (Nat.le_of_ble_eq_true rfl) ⟨(Nat.le_of_ble_eq_true rfl), (Nat.le_of_ble_eq_true rfl)⟩ (Nat.le_of_ble_eq_true rfl) dX10_waits_43 (fun z_25 u_23 hp_24 => ?_)
        obtain ⟨hz_25, hxz_25, hp_24⟩ := hp_24
        subst hp_24
        refine z_icmp_eq (tgt := 70) (u := z_21.toInt) (v := z_25.toInt) E dX10_waits_46 (by decide) rfl rfl (fun h_27 => ?_) (fun h_27 => ?_)
        ·
          refine s_iconst (v := 0) E dX10_waits_70 (by decide) ?_
          refine z_iadd (u := q15_2_5.toInt) (v := 0) E dX10_waits_71 rfl (by decide) (by omega) (by omega) (fun z_28 hz_28 => ?_)
          refine s_istore_n (L2 := [some (AR 95), some (AI x1), some (AI z_28), some (AI q15_3_5)]) E dX10_waits_72 rfl (by decide) rfl ?_
          refine z_iinc (u := q15_3_5.toInt) (L2 := fun z_29 => [some (AR 95), some (AI x1), some (AI z_28), some (AI z_29)]) E dX10_waits_73 rfl rfl (by decide) (fun _ => rfl) (by decide) (by omega) (by omega) (fun z_29 hz_29 => ?_)
          refine s_goto (tgt := 15) E dX10_waits_76 (by decide) ?_
          exact ih15 ⟨z_28, z_29⟩ u_1 ⟨⟨by have hb_ := z32 z_29; omega, by have hb_ := z32 z_29; omega⟩, rfl⟩ (by first | omega | decide | (dsimp only; omega) | (dsimp only; decide))
        ·
          refine s_aload_n E dX10_waits_49 rfl rfl ?_
          refine s_iload_n E dX10_waits_50 rfl rfl ?_
          refine s_iload_n E dX10_waits_51 rfl rfl ?_
          refine s_iconst (v := 1) E dX10_waits_52 (by decide) ?_
          refine z_iadd (u := q15_3_5.toInt) (v := 1) E dX10_waits_53 rfl (by decide) (by omega) (by omega) (fun z_30 hz_30 => ?_)
          refine s_vI (As := [AI x1, AI z_30]) (S := [AI q15_2_5]) E (Z_X10_atOf_95 l D aC b u_1 x1 z_30 hj_4.1 ⟨by have hb_ := z32 x1; omega, by have hb_ := z32 x1; omega⟩ ⟨by have hb_ := z32 z_30; omega, by have hb_ := z32 z_30; omega⟩) cv_X10_255 rfl rfl rfl (jv_lt hj_4 (by decide)) (Nat.le_of_ble_eq_true rfl) (Nat.le_of_ble_eq_true rfl) ⟨(Nat.le_of_ble_eq_true rfl), (Nat.le_of_ble_eq_true rfl)⟩ (Nat.le_of_ble_eq_true rfl) dX10_waits_54 (fun z_33 u_31 hp_32 => ?_)
          obtain ⟨hz_33, hxz_33, hp_32⟩ := hp_32
          subst hp_32
          refine s_aload_n E dX10_waits_57 rfl rfl ?_
          refine s_iload_n E dX10_waits_58 rfl rfl ?_
          refine s_iload_n E dX10_waits_59 rfl rfl ?_
          refine s_vI (As := [AI x1, AI q15_3_5]) (S := [AI z_33, AI q15_2_5]) E (Z_X10_atOf_95 l D aC b u_1 x1 q15_3_5 hj_4.1 ⟨by have hb_ := z32 x1; omega, by have hb_ := z32 x1; omega⟩ ⟨by have hb_ := z32 q15_3_5; omega, by have hb_ := z32 q15_3_5; omega⟩) cv_X10_255 rfl rfl rfl (jv_lt hj_4 (by decide)) (Nat.le_of_ble_eq_true rfl) (Nat.le_of_ble_eq_true rfl) ⟨(Nat.le_of_ble_eq_true rfl), (Nat.le_of_ble_eq_true rfl)⟩ (Nat.le_of_ble_eq_true rfl) dX10_waits_60 (fun z_37 u_35 hp_36 => ?_)
          obtain ⟨hz_37, hxz_37, hp_36⟩ := hp_36
          subst hp_36
          refine z_icmp_ne (tgt := 70) (u := z_33.toInt) (v := z_37.toInt) E dX10_waits_63 (by decide) rfl rfl (fun h_39 => ?_) (fun h_39 => ?_)
          ·
            refine s_iconst (v := 0) E dX10_waits_70 (by decide) ?_
            refine z_iadd (u := q15_2_5.toInt) (v := 0) E dX10_waits_71 rfl (by decide) (by omega) (by omega) (fun z_40 hz_40 => ?_)
            refine s_istore_n (L2 := [some (AR 95), some (AI x1), some (AI z_40), some (AI q15_3_5)]) E dX10_waits_72 rfl (by decide) rfl ?_
            refine z_iinc (u := q15_3_5.toInt) (L2 := fun z_41 => [some (AR 95), some (AI x1), some (AI z_40), some (AI z_41)]) E dX10_waits_73 rfl rfl (by decide) (fun _ => rfl) (by decide) (by omega) (by omega) (fun z_41 hz_41 => ?_)
            refine s_goto (tgt := 15) E dX10_waits_76 (by decide) ?_
            exact ih15 ⟨z_40, z_41⟩ u_1 ⟨⟨by have hb_ := z32 z_41; omega, by have hb_ := z32 z_41; omega⟩, rfl⟩ (by first | omega | decide | (dsimp only; omega) | (dsimp only; decide))
          ·
            refine s_iconst (v := 1) E dX10_waits_66 (by decide) ?_
            refine s_goto (tgt := 71) E dX10_waits_67 (by decide) ?_
            refine s_iadd E dX10_waits_71 ?_
            refine z_nm (P := fun z => (-2147483648) ≤ z.toInt ∧ z.toInt ≤ 2147483647) (z32 _) (fun z_42 hz_42 => ?_)
            refine s_istore_n (L2 := [some (AR 95), some (AI x1), some (AI z_42), some (AI q15_3_5)]) E dX10_waits_72 rfl (by decide) rfl ?_
            refine z_iinc (u := q15_3_5.toInt) (L2 := fun z_43 => [some (AR 95), some (AI x1), some (AI z_42), some (AI z_43)]) E dX10_waits_73 rfl rfl (by decide) (fun _ => rfl) (by decide) (by omega) (by omega) (fun z_43 hz_43 => ?_)
            refine s_goto (tgt := 15) E dX10_waits_76 (by decide) ?_
            exact ih15 ⟨z_42, z_43⟩ u_1 ⟨⟨by have hb_ := z32 z_43; omega, by have hb_ := z32 z_43; omega⟩, rfl⟩ (by first | omega | decide | (dsimp only; omega) | (dsimp only; decide))
  ·
    refine s_bipush (v := (-2)) E dX10_waits_8 (by decide) ?_
    exact r_int E dX10_waits_10 ⟨⟨by decide, by decide, by first | (left; decide) | (right; decide) | (right; have hb_ := z32 x1; omega)⟩, hj_4⟩
set_option maxRecDepth 20000 in
set_option maxHeartbeats 2000000 in
theorem Z_X10_mate_95 (l : Launch) (D : va_G) (aC : Nat → ClassId) (b : Nat) (w : XW) (x1 : Int32) (hI : Iv w)  : CnI l D aC b M_X10_mate 5 113 0 0 [AR 95, AI x1] w (fun r u => ((-2) ≤ r.toInt ∧ r.toInt ≤ 64 ∧ (¬ r.toInt = 0 ∨ (0 ≤ x1.toInt ∧ x1.toInt ≤ 5))) ∧ Jv w u) := by
  refine cn_I (own := RX10) (nm := "mate") (L0 := [some (AR 95), some (AI x1), none, none, none]) (by decide +kernel) rfl rfl (Nat.le_of_ble_eq_true rfl) rfl ?_
  intro p e s m args below meth c E hin
  have hJ : Jv w w := jv_rfl hI
  have hb_x1 := z32 x1
  refine s_aload_n E dX10_mate_0 rfl rfl ?_
  refine s_iload_n E dX10_mate_1 rfl rfl ?_
  refine s_vI (As := [AI x1]) (S := []) E (Z_X10_asksLady_95 l D aC b w x1 hJ.1 ) cv_X10_288 rfl rfl rfl (jv_lt hJ (by decide)) (Nat.le_of_ble_eq_true rfl) (Nat.le_of_ble_eq_true rfl) ⟨(Nat.le_of_ble_eq_true rfl), (Nat.le_of_ble_eq_true rfl)⟩ (Nat.le_of_ble_eq_true rfl) dX10_mate_2 (fun z_3 u_1 hp_2 => ?_)
  obtain ⟨hz_3, hxz_3, hp_2⟩ := hp_2
  have hj_4 := jv_trans hJ hp_2
  refine z_if_ne (tgt := 11) (u := z_3.toInt) E dX10_mate_5 (by decide) rfl (fun h_5 => ?_) (fun h_5 => ?_)
  ·
    refine s_iconst (v := (-1)) E dX10_mate_11 (by decide) ?_
    refine s_istore_n (L2 := [some (AR 95), some (AI x1), some (AI (-1)), none, none]) E dX10_mate_12 rfl (by decide) rfl ?_
    refine s_iconst (v := 0) E dX10_mate_13 (by decide) ?_
    refine s_istore_n (L2 := [some (AR 95), some (AI x1), some (AI (-1)), some (AI 0), none]) E dX10_mate_14 rfl (by decide) rfl ?_
    refine s_iconst (v := 0) E dX10_mate_15 (by decide) ?_
    refine s_istore (L2 := [some (AR 95), some (AI x1), some (AI (-1)), some (AI 0), some (AI 0)]) E dX10_mate_16 (by decide) rfl ?_
    refine z_loop (St := Int32 × Int32 × Int32) (Pi := fun ⟨q18_2_5, q18_3_5, q18_4_5⟩ v18 => ((-1) ≤ q18_2_5.toInt ∧ q18_2_5.toInt ≤ 64) ∧ (0 ≤ q18_4_5.toInt ∧ q18_4_5.toInt ≤ 6) ∧ u_1 = v18) (Lf := fun ⟨q18_2_5, q18_3_5, q18_4_5⟩ => [some (AR 95), some (AI x1), some (AI q18_2_5), some (AI q18_3_5), some (AI q18_4_5)]) (fun ⟨q18_2_5, q18_3_5, q18_4_5⟩ _ => (7 - q18_4_5.toInt).toNat) ⟨(-1), 0, 0⟩ ⟨⟨by decide, by decide⟩, ⟨by decide, by decide⟩, rfl⟩ ?_
    rintro ⟨q18_2_5, q18_3_5, q18_4_5⟩ v18 ⟨hq18_2, hq18_4, hv_⟩ ih18
    subst hv_
    have hbq18_3 := z32 q18_3_5
    refine s_loc (L2 := [some (AR 95), some (AI x1), some (AI q18_2_5), some (AI q18_3_5), some (AI q18_4_5)]) rfl ?_
    refine s_iload E dX10_mate_18 rfl ?_
    refine s_aload_n E dX10_mate_20 rfl rfl ?_
    refine s_vI (As := []) (S := [AI q18_4_5]) E (Z_X10_ladies_95 l D aC b u_1  hj_4.1 ) cv_X10_244 rfl rfl rfl (jv_lt hj_4 (by decide)) (Nat.le_of_ble_eq_true rfl) (Nat.le_of_ble_eq_true rfl) ⟨(Nat.le_of_ble_eq_true rfl), (Nat.le_of_ble_eq_true rfl)⟩ (Nat.le_of_ble_eq_true rfl) dX10_mate_21 (fun z_9 u_7 hp_8 => ?_)
    obtain ⟨hz_9, hxz_9, hp_8⟩ := hp_8
    subst hp_8
    refine z_icmp_ge (tgt := 64) (u := q18_4_5.toInt) (v := z_9.toInt) E dX10_mate_24 (by decide) rfl rfl (fun h_11 => ?_) (fun h_11 => ?_)
    ·
      refine s_iload_n E dX10_mate_64 rfl rfl ?_
      exact r_int E dX10_mate_65 ⟨⟨by have hb_ := z32 q18_2_5; omega, by have hb_ := z32 q18_2_5; omega, by first | (right; decide) | (have hb_ := z32 q18_2_5; omega) | (have hb_ := z32 q18_2_5; have hc_ := z32 x1; omega)⟩, hj_4⟩
    ·
      refine s_iload E dX10_mate_27 rfl ?_
      refine s_iload_n E dX10_mate_29 rfl rfl ?_
      refine z_icmp_eq (tgt := 58) (u := q18_4_5.toInt) (v := x1.toInt) E dX10_mate_30 (by decide) rfl rfl (fun h_12 => ?_) (fun h_12 => ?_)
      ·
        refine z_iinc (u := q18_4_5.toInt) (L2 := fun z_13 => [some (AR 95), some (AI x1), some (AI q18_2_5), some (AI q18_3_5), some (AI z_13)]) E dX10_mate_58 rfl rfl (by decide) (fun _ => rfl) (by decide) (by omega) (by omega) (fun z_13 hz_13 => ?_)
        refine s_goto (tgt := 18) E dX10_mate_61 (by decide) ?_
        exact ih18 ⟨q18_2_5, q18_3_5, z_13⟩ u_1 ⟨⟨by have hb_ := z32 q18_2_5; omega, by have hb_ := z32 q18_2_5; omega⟩, ⟨by have hb_ := z32 z_13; omega, by have hb_ := z32 z_13; omega⟩, rfl⟩ (by first | omega | decide | (dsimp only; omega) | (dsimp only; decide))
      ·
        refine s_aload_n E dX10_mate_33 rfl rfl ?_
        refine s_iload_n E dX10_mate_34 rfl rfl ?_
        refine s_iload E dX10_mate_35 rfl ?_
        refine s_vI (As := [AI x1, AI q18_4_5]) (S := []) E (Z_X10_oftenMeet_95 l D aC b u_1 x1 q18_4_5 hj_4.1 ⟨by have hb_ := z32 x1; omega, by have hb_ := z32 x1; omega⟩ ⟨by have hb_ := z32 q18_4_5; omega, by have hb_ := z32 q18_4_5; omega⟩) cv_X10_310 rfl rfl rfl (jv_lt hj_4 (by decide)) (Nat.le_of_ble_eq_true rfl) (Nat.le_of_ble_eq_true rfl) ⟨(Nat.le_of_ble_eq_true rfl), (Nat.le_of_ble_eq_true rfl)⟩ (Nat.le_of_ble_eq_true rfl) dX10_mate_37 (fun z_16 u_14 hp_15 => ?_)
        obtain ⟨hz_16, hp_15⟩ := hp_15
        subst hp_15
        refine s_iload_n E dX10_mate_40 rfl rfl ?_
        refine z_icmp_gt (tgt := 47) (u := z_16.toInt) (v := q18_3_5.toInt) E dX10_mate_41 (by decide) rfl rfl (fun h_18 => ?_) (fun h_18 => ?_)
        ·
          refine s_aload_n E dX10_mate_47 rfl rfl ?_
          refine s_iload_n E dX10_mate_48 rfl rfl ?_
          refine s_iload E dX10_mate_49 rfl ?_
          refine s_vI (As := [AI x1, AI q18_4_5]) (S := []) E (Z_X10_oftenMeet_95 l D aC b u_1 x1 q18_4_5 hj_4.1 ⟨by have hb_ := z32 x1; omega, by have hb_ := z32 x1; omega⟩ ⟨by have hb_ := z32 q18_4_5; omega, by have hb_ := z32 q18_4_5; omega⟩) cv_X10_310 rfl rfl rfl (jv_lt hj_4 (by decide)) (Nat.le_of_ble_eq_true rfl) (Nat.le_of_ble_eq_true rfl) ⟨(Nat.le_of_ble_eq_true rfl), (Nat.le_of_ble_eq_true rfl)⟩ (Nat.le_of_ble_eq_true rfl) dX10_mate_51 (fun z_21 u_19 hp_20 => ?_)
          obtain ⟨hz_21, hp_20⟩ := hp_20
          subst hp_20
          refine s_istore_n (L2 := [some (AR 95), some (AI x1), some (AI q18_2_5), some (AI z_21), some (AI q18_4_5)]) E dX10_mate_54 rfl (by decide) rfl ?_
          refine s_iload E dX10_mate_55 rfl ?_
          refine s_istore_n (L2 := [some (AR 95), some (AI x1), some (AI q18_4_5), some (AI z_21), some (AI q18_4_5)]) E dX10_mate_57 rfl (by decide) rfl ?_
          refine z_iinc (u := q18_4_5.toInt) (L2 := fun z_23 => [some (AR 95), some (AI x1), some (AI q18_4_5), some (AI z_21), some (AI z_23)]) E dX10_mate_58 rfl rfl (by decide) (fun _ => rfl) (by decide) (by omega) (by omega) (fun z_23 hz_23 => ?_)
          refine s_goto (tgt := 18) E dX10_mate_61 (by decide) ?_
          exact ih18 ⟨q18_4_5, z_21, z_23⟩ u_1 ⟨⟨by have hb_ := z32 q18_4_5; omega, by have hb_ := z32 q18_4_5; omega⟩, ⟨by have hb_ := z32 z_23; omega, by have hb_ := z32 z_23; omega⟩, rfl⟩ (by first | omega | decide | (dsimp only; omega) | (dsimp only; decide))
        ·
          refine s_goto (tgt := 58) E dX10_mate_44 (by decide) ?_
          refine z_iinc (u := q18_4_5.toInt) (L2 := fun z_24 => [some (AR 95), some (AI x1), some (AI q18_2_5), some (AI q18_3_5), some (AI z_24)]) E dX10_mate_58 rfl rfl (by decide) (fun _ => rfl) (by decide) (by omega) (by omega) (fun z_24 hz_24 => ?_)
          refine s_goto (tgt := 18) E dX10_mate_61 (by decide) ?_
          exact ih18 ⟨q18_2_5, q18_3_5, z_24⟩ u_1 ⟨⟨by have hb_ := z32 q18_2_5; omega, by have hb_ := z32 q18_2_5; omega⟩, ⟨by have hb_ := z32 z_24; omega, by have hb_ := z32 z_24; omega⟩, rfl⟩ (by first | omega | decide | (dsimp only; omega) | (dsimp only; decide))
  ·
    refine s_bipush (v := (-2)) E dX10_mate_8 (by decide) ?_
    exact r_int E dX10_mate_10 ⟨⟨by decide, by decide, by first | (left; decide) | (right; decide) | (right; have hb_ := z32 x1; omega)⟩, hj_4⟩
set_option maxRecDepth 20000 in
set_option maxHeartbeats 2000000 in
theorem Z_X10_doesGive_95 (l : Launch) (D : va_G) (aC : Nat → ClassId) (b : Nat) (w : XW) (x1 : Int32) (x2 : Int32) (hI : Iv w) (hx1 : 0 ≤ x1.toInt ∧ x1.toInt ≤ 5) (hx2 : 0 ≤ x2.toInt ∧ x2.toInt ≤ 5) : CnI l D aC b M_X10_doesGive 1 21 0 0 [AR 95, AI x1, AI x2] w (fun r u => (0 ≤ r.toInt ∧ r.toInt ≤ 1 ∧ (r.toInt = 0 ∨ (0 ≤ (w.2.2.1 95 23).toInt ∧ (w.2.2.1 95 23).toInt ≤ 3))) ∧ w = u) := by
  refine cn_I (own := RX10) (nm := "doesGive") (L0 := [some (AR 95), some (AI x1), some (AI x2), none]) (by decide +kernel) rfl rfl (Nat.le_of_ble_eq_true rfl) rfl ?_
  intro p e s m args below meth c E hin
  have hJ : Jv w w := jv_rfl hI
  refine s_aload_n E dX10_doesGive_0 rfl rfl ?_
  refine s_gI E fg_X10_267 rfl rfl (jv_lt hJ (by decide)) dX10_doesGive_1 ?_
  refine z_nm (P := fun z => z.toInt = (w.2.2.1 95 23).toInt ∧ (-2147483648) ≤ z.toInt ∧ z.toInt ≤ 2147483647) ⟨rfl, z32 _⟩ (fun z_1 hz_1 => ?_)
  refine s_iconst (v := 1) E dX10_doesGive_4 (by decide) ?_
  refine z_icmp_ne (tgt := 41) (u := z_1.toInt) (v := 1) E dX10_doesGive_5 (by decide) rfl (by decide) (fun h_2 => ?_) (fun h_2 => ?_)
  ·
    refine s_aload_n E dX10_doesGive_41 rfl rfl ?_
    refine s_gI E fg_X10_267 rfl rfl (jv_lt hJ (by decide)) dX10_doesGive_42 ?_
    refine z_nm (P := fun z => z.toInt = (w.2.2.1 95 23).toInt ∧ (-2147483648) ≤ z.toInt ∧ z.toInt ≤ 2147483647) ⟨rfl, z32 _⟩ (fun z_3 hz_3 => ?_)
    refine z_if_eq (tgt := 92) (u := z_3.toInt) E dX10_doesGive_45 (by decide) rfl (fun h_4 => ?_) (fun h_4 => ?_)
    ·
      refine s_iconst (v := 1) E dX10_doesGive_92 (by decide) ?_
      refine s_goto (tgt := 97) E dX10_doesGive_93 (by decide) ?_
      exact r_bool E dX10_doesGive_97 (Or.inr rfl) ⟨⟨by decide, by decide, by first | (left; decide) | (right; decide) | (right; have hb_ := z32 (w.2.2.1 95 23); omega)⟩, rfl⟩
    ·
      refine s_aload_n E dX10_doesGive_48 rfl rfl ?_
      refine s_gI E fg_X10_267 rfl rfl (jv_lt hJ (by decide)) dX10_doesGive_49 ?_
      refine z_nm (P := fun z => z.toInt = (w.2.2.1 95 23).toInt ∧ (-2147483648) ≤ z.toInt ∧ z.toInt ≤ 2147483647) ⟨rfl, z32 _⟩ (fun z_5 hz_5 => ?_)
      refine s_iconst (v := 2) E dX10_doesGive_52 (by decide) ?_
      refine z_icmp_ne (tgt := 69) (u := z_5.toInt) (v := 2) E dX10_doesGive_53 (by decide) rfl (by decide) (fun h_6 => ?_) (fun h_6 => ?_)
      ·
        refine s_aload_n E dX10_doesGive_69 rfl rfl ?_
        refine s_gI E fg_X10_267 rfl rfl (jv_lt hJ (by decide)) dX10_doesGive_70 ?_
        refine z_nm (P := fun z => z.toInt = (w.2.2.1 95 23).toInt ∧ (-2147483648) ≤ z.toInt ∧ z.toInt ≤ 2147483647) ⟨rfl, z32 _⟩ (fun z_7 hz_7 => ?_)
        refine s_iconst (v := 3) E dX10_doesGive_73 (by decide) ?_
        refine z_icmp_ne (tgt := 96) (u := z_7.toInt) (v := 3) E dX10_doesGive_74 (by decide) rfl (by decide) (fun h_8 => ?_) (fun h_8 => ?_)
        ·
          refine s_iconst (v := 0) E dX10_doesGive_96 (by decide) ?_
          exact r_bool E dX10_doesGive_97 (Or.inl rfl) ⟨⟨by decide, by decide, by first | (left; decide) | (right; decide) | (right; have hb_ := z32 (w.2.2.1 95 23); omega)⟩, rfl⟩
        ·
          refine s_aload_n E dX10_doesGive_77 rfl rfl ?_
          refine s_gR (r := 105) E fg_X10_43 rfl rfl (jv_lt hJ (by decide)) (jv_r hJ (by decide +kernel)) dX10_doesGive_78 ?_
          refine s_iload_n E dX10_doesGive_81 rfl rfl ?_
          refine s_iald E rfl (jv_lt hJ (by decide)) (z_in (u := x2.toInt) rfl (by omega) (by omega)) dX10_doesGive_82 ?_
          refine z_nm (P := fun z => (-2147483648) ≤ z.toInt ∧ z.toInt ≤ 2147483647) (z32 _) (fun z_9 hz_9 => ?_)
          refine s_aload_n E dX10_doesGive_83 rfl rfl ?_
          refine s_gR (r := 105) E fg_X10_43 rfl rfl (jv_lt hJ (by decide)) (jv_r hJ (by decide +kernel)) dX10_doesGive_84 ?_
          refine s_iload_n E dX10_doesGive_87 rfl rfl ?_
          refine s_iald E rfl (jv_lt hJ (by decide)) (z_in (u := x1.toInt) rfl (by omega) (by omega)) dX10_doesGive_88 ?_
          refine z_nm (P := fun z => (-2147483648) ≤ z.toInt ∧ z.toInt ≤ 2147483647) (z32 _) (fun z_10 hz_10 => ?_)
          refine z_icmp_ge (tgt := 96) (u := z_9.toInt) (v := z_10.toInt) E dX10_doesGive_89 (by decide) rfl rfl (fun h_11 => ?_) (fun h_11 => ?_)
          ·
            refine s_iconst (v := 0) E dX10_doesGive_96 (by decide) ?_
            exact r_bool E dX10_doesGive_97 (Or.inl rfl) ⟨⟨by decide, by decide, by first | (left; decide) | (right; decide) | (right; have hb_ := z32 (w.2.2.1 95 23); omega)⟩, rfl⟩
          ·
            refine s_iconst (v := 1) E dX10_doesGive_92 (by decide) ?_
            refine s_goto (tgt := 97) E dX10_doesGive_93 (by decide) ?_
            exact r_bool E dX10_doesGive_97 (Or.inr rfl) ⟨⟨by decide, by decide, by first | (left; decide) | (right; decide) | (right; have hb_ := z32 (w.2.2.1 95 23); omega)⟩, rfl⟩
      ·
        refine s_aload_n E dX10_doesGive_56 rfl rfl ?_
        refine s_iload_n E dX10_doesGive_57 rfl rfl ?_
        refine s_vI (As := [AI x2]) (S := []) E (Z_X10_wideOf_95 l D aC b w x2 hJ.1 ⟨by have hb_ := z32 x2; omega, by have hb_ := z32 x2; omega⟩) cv_X10_238 rfl rfl rfl (jv_lt hJ (by decide)) (Nat.le_of_ble_eq_true rfl) (Nat.le_of_ble_eq_true rfl) ⟨(Nat.le_of_ble_eq_true rfl), (Nat.le_of_ble_eq_true rfl)⟩ (Nat.le_of_ble_eq_true rfl) dX10_doesGive_58 (fun z_14 u_12 hp_13 => ?_)
        obtain ⟨hz_14, hxz_14, hp_13⟩ := hp_13
        subst hp_13
        refine s_aload_n E dX10_doesGive_61 rfl rfl ?_
        refine s_iload_n E dX10_doesGive_62 rfl rfl ?_
        refine s_vI (As := [AI x1]) (S := [AI z_14]) E (Z_X10_wideOf_95 l D aC b w x1 hJ.1 ⟨by have hb_ := z32 x1; omega, by have hb_ := z32 x1; omega⟩) cv_X10_238 rfl rfl rfl (jv_lt hJ (by decide)) (Nat.le_of_ble_eq_true rfl) (Nat.le_of_ble_eq_true rfl) ⟨(Nat.le_of_ble_eq_true rfl), (Nat.le_of_ble_eq_true rfl)⟩ (Nat.le_of_ble_eq_true rfl) dX10_doesGive_63 (fun z_18 u_16 hp_17 => ?_)
        obtain ⟨hz_18, hxz_18, hp_17⟩ := hp_17
        subst hp_17
        refine z_icmp_le (tgt := 92) (u := z_14.toInt) (v := z_18.toInt) E dX10_doesGive_66 (by decide) rfl rfl (fun h_20 => ?_) (fun h_20 => ?_)
        ·
          refine s_iconst (v := 1) E dX10_doesGive_92 (by decide) ?_
          refine s_goto (tgt := 97) E dX10_doesGive_93 (by decide) ?_
          exact r_bool E dX10_doesGive_97 (Or.inr rfl) ⟨⟨by decide, by decide, by first | (left; decide) | (right; decide) | (right; have hb_ := z32 (w.2.2.1 95 23); omega)⟩, rfl⟩
        ·
          refine s_aload_n E dX10_doesGive_69 rfl rfl ?_
          refine s_gI E fg_X10_267 rfl rfl (jv_lt hJ (by decide)) dX10_doesGive_70 ?_
          refine z_nm (P := fun z => z.toInt = (w.2.2.1 95 23).toInt ∧ (-2147483648) ≤ z.toInt ∧ z.toInt ≤ 2147483647) ⟨rfl, z32 _⟩ (fun z_21 hz_21 => ?_)
          refine s_iconst (v := 3) E dX10_doesGive_73 (by decide) ?_
          refine z_icmp_ne (tgt := 96) (u := z_21.toInt) (v := 3) E dX10_doesGive_74 (by decide) rfl (by decide) (fun h_22 => ?_) (fun h_22 => absurd h_22 (by omega))
          refine s_iconst (v := 0) E dX10_doesGive_96 (by decide) ?_
          exact r_bool E dX10_doesGive_97 (Or.inl rfl) ⟨⟨by decide, by decide, by first | (left; decide) | (right; decide) | (right; have hb_ := z32 (w.2.2.1 95 23); omega)⟩, rfl⟩
  ·
    refine s_iconst (v := 0) E dX10_doesGive_8 (by decide) ?_
    refine s_istore_n (L2 := [some (AR 95), some (AI x1), some (AI x2), some (AI 0)]) E dX10_doesGive_9 rfl (by decide) rfl ?_
    refine z_loop (St := Int32) (Pi := fun q10_3_22 v10 => (0 ≤ q10_3_22.toInt ∧ q10_3_22.toInt ≤ 8) ∧ w = v10) (Lf := fun q10_3_22 => [some (AR 95), some (AI x1), some (AI x2), some (AI q10_3_22)]) (fun q10_3_22 _ => (9 - q10_3_22.toInt).toNat) 0 ⟨⟨by decide, by decide⟩, rfl⟩ ?_
    rintro q10_3_22 v10 ⟨hq10_3, hv_⟩ ih10
    subst hv_
    refine s_loc (L2 := [some (AR 95), some (AI x1), some (AI x2), some (AI q10_3_22)]) rfl ?_
    refine s_iload_n E dX10_doesGive_10 rfl rfl ?_
    refine s_aload_n E dX10_doesGive_11 rfl rfl ?_
    refine s_gR (r := 96) E fg_X10_9 rfl rfl (jv_lt hJ (by decide)) (jv_r hJ (by decide +kernel)) dX10_doesGive_12 ?_
    refine s_bipush (v := 6) E dX10_doesGive_15 (by decide) ?_
    refine s_iald E rfl (jv_lt hJ (by decide)) (z_in (u := 6) (by decide) (by omega) (by omega)) dX10_doesGive_17 ?_
    refine z_nm (P := fun z => z.toInt = (w.2.2.1 96 6).toInt ∧ 0 ≤ z.toInt ∧ z.toInt ≤ 8) ⟨rfl, (rw_96_6 hJ)⟩ (fun z_24 hz_24 => ?_)
    refine z_icmp_ge (tgt := 39) (u := q10_3_22.toInt) (v := z_24.toInt) E dX10_doesGive_18 (by decide) rfl rfl (fun h_25 => ?_) (fun h_25 => ?_)
    ·
      refine s_iconst (v := 0) E dX10_doesGive_39 (by decide) ?_
      exact r_bool E dX10_doesGive_40 (Or.inl rfl) ⟨⟨by decide, by decide, by first | (left; decide) | (right; decide) | (right; have hb_ := z32 (w.2.2.1 95 23); omega)⟩, rfl⟩
    ·
      refine s_aload_n E dX10_doesGive_21 rfl rfl ?_
      refine s_gR (r := 104) E fg_X10_40 rfl rfl (jv_lt hJ (by decide)) (jv_r hJ (by decide +kernel)) dX10_doesGive_22 ?_
      refine s_iload_n E dX10_doesGive_25 rfl rfl ?_
      refine s_iald E rfl (jv_lt hJ (by decide)) (z_in (u := q10_3_22.toInt) rfl (by omega) (by omega)) dX10_doesGive_26 ?_
      refine z_nm (P := fun z => z.toInt = (w.2.2.1 104 q10_3_22.toNatClampNeg).toInt ∧ 0 ≤ z.toInt ∧ z.toInt ≤ 5) ⟨rfl, (ra_104 hJ _)⟩ (fun z_26 hz_26 => ?_)
      refine s_iload_n E dX10_doesGive_27 rfl rfl ?_
      refine z_icmp_ne (tgt := 33) (u := z_26.toInt) (v := x2.toInt) E dX10_doesGive_28 (by decide) rfl rfl (fun h_27 => ?_) (fun h_27 => ?_)
      ·
        refine z_iinc (u := q10_3_22.toInt) (L2 := fun z_28 => [some (AR 95), some (AI x1), some (AI x2), some (AI z_28)]) E dX10_doesGive_33 rfl rfl (by decide) (fun _ => rfl) (by decide) (by omega) (by omega) (fun z_28 hz_28 => ?_)
        refine s_goto (tgt := 10) E dX10_doesGive_36 (by decide) ?_
        exact ih10 z_28 w ⟨⟨by have hb_ := z32 z_28; omega, by have hb_ := z32 z_28; omega⟩, rfl⟩ (by first | omega | decide | (dsimp only; omega) | (dsimp only; decide))
      ·
        refine s_iconst (v := 1) E dX10_doesGive_31 (by decide) ?_
        exact r_bool E dX10_doesGive_32 (Or.inr rfl) ⟨⟨by decide, by decide, by first | (left; decide) | (right; decide) | (right; have hb_ := z32 (w.2.2.1 95 23); omega)⟩, rfl⟩
set_option maxRecDepth 20000 in
set_option maxHeartbeats 2000000 in
theorem Z_X10_giverTo_95 (l : Launch) (D : va_G) (aC : Nat → ClassId) (b : Nat) (w : XW) (x1 : Int32) (x2 : Int32) (x3 : Int32) (hI : Iv w) (hx1 : 0 ≤ x1.toInt ∧ x1.toInt ≤ 5) (hx3 : 0 ≤ x3.toInt ∧ x3.toInt ≤ 14) : CnI l D aC b M_X10_giverTo 2 45 0 0 [AR 95, AI x1, AI x2, AI x3] w (fun r u => ((-1) ≤ r.toInt ∧ r.toInt ≤ 5 ∧ (¬ r.toInt = 0 ∨ (0 ≤ (w.2.2.1 95 23).toInt ∧ (w.2.2.1 95 23).toInt ≤ 3))) ∧ (r.toInt = -1 ∨ (0 ≤ r.toInt ∧ r.toInt ≤ 5 ∧ bt x2 r.toInt.toNat = true)) ∧ w = u) := by
  refine cn_I (own := RX10) (nm := "giverTo") (L0 := [some (AR 95), some (AI x1), some (AI x2), some (AI x3), none]) (by decide +kernel) rfl rfl (Nat.le_of_ble_eq_true rfl) rfl ?_
  intro p e s m args below meth c E hin
  have hJ : Jv w w := jv_rfl hI
  have hb_x2 := z32 x2
  refine s_iconst (v := 0) E dX10_giverTo_0 (by decide) ?_
  refine s_istore (L2 := [some (AR 95), some (AI x1), some (AI x2), some (AI x3), some (AI 0)]) E dX10_giverTo_1 (by decide) rfl ?_
  refine z_loop (St := Int32) (Pi := fun q3_4_0 v3 => (0 ≤ q3_4_0.toInt ∧ q3_4_0.toInt ≤ 6) ∧ w = v3) (Lf := fun q3_4_0 => [some (AR 95), some (AI x1), some (AI x2), some (AI x3), some (AI q3_4_0)]) (fun q3_4_0 _ => (7 - q3_4_0.toInt).toNat) 0 ⟨⟨by decide, by decide⟩, rfl⟩ ?_
  rintro q3_4_0 v3 ⟨hq3_4, hv_⟩ ih3
  subst hv_
  refine s_loc (L2 := [some (AR 95), some (AI x1), some (AI x2), some (AI x3), some (AI q3_4_0)]) rfl ?_
  refine s_iload E dX10_giverTo_3 rfl ?_
  refine s_aload_n E dX10_giverTo_5 rfl rfl ?_
  refine s_vI (As := []) (S := [AI q3_4_0]) E (Z_X10_ladies_95 l D aC b w  hJ.1 ) cv_X10_244 rfl rfl rfl (jv_lt hJ (by decide)) (Nat.le_of_ble_eq_true rfl) (Nat.le_of_ble_eq_true rfl) ⟨(Nat.le_of_ble_eq_true rfl), (Nat.le_of_ble_eq_true rfl)⟩ (Nat.le_of_ble_eq_true rfl) dX10_giverTo_6 (fun z_4 u_2 hp_3 => ?_)
  obtain ⟨hz_4, hxz_4, hp_3⟩ := hp_3
  subst hp_3
  refine z_icmp_ge (tgt := 58) (u := q3_4_0.toInt) (v := z_4.toInt) E dX10_giverTo_9 (by decide) rfl rfl (fun h_6 => ?_) (fun h_6 => ?_)
  ·
    refine s_iconst (v := (-1)) E dX10_giverTo_58 (by decide) ?_
    exact r_int E dX10_giverTo_59 ⟨⟨by decide, by decide, by first | (left; decide) | (right; decide) | (right; have hb_ := z32 (w.2.2.1 95 23); omega)⟩, (Or.inl (by decide)), rfl⟩
  ·
    refine s_iload E dX10_giverTo_12 rfl ?_
    refine s_iload_n E dX10_giverTo_14 rfl rfl ?_
    refine z_icmp_eq (tgt := 52) (u := q3_4_0.toInt) (v := x1.toInt) E dX10_giverTo_15 (by decide) rfl rfl (fun h_7 => ?_) (fun h_7 => ?_)
    ·
      refine z_iinc (u := q3_4_0.toInt) (L2 := fun z_8 => [some (AR 95), some (AI x1), some (AI x2), some (AI x3), some (AI z_8)]) E dX10_giverTo_52 rfl rfl (by decide) (fun _ => rfl) (by decide) (by omega) (by omega) (fun z_8 hz_8 => ?_)
      refine s_goto (tgt := 3) E dX10_giverTo_55 (by decide) ?_
      exact ih3 z_8 w ⟨⟨by have hb_ := z32 z_8; omega, by have hb_ := z32 z_8; omega⟩, rfl⟩ (by first | omega | decide | (dsimp only; omega) | (dsimp only; decide))
    ·
      refine s_iload_n E dX10_giverTo_18 rfl rfl ?_
      refine s_iload E dX10_giverTo_19 rfl ?_
      refine s_sI (As := [AI x2, AI q3_4_0]) (S := []) E (Z_X10_bit l D aC b w x2 q3_4_0 hJ.1 ) cs_X10_252 rfl rfl (Nat.le_of_ble_eq_true rfl) (Nat.le_of_ble_eq_true rfl) ⟨(Nat.le_of_ble_eq_true rfl), (Nat.le_of_ble_eq_true rfl)⟩ (Nat.le_of_ble_eq_true rfl) dX10_giverTo_21 (fun z_11 u_9 hp_10 => ?_)
      obtain ⟨hz_11, hxz_11, hp_10⟩ := hp_10
      subst hp_10
      have hb21 := hxz_11 (by omega) (by omega)
      refine s_iconst (v := 1) E dX10_giverTo_24 (by decide) ?_
      refine z_icmp_ne (tgt := 52) (u := z_11.toInt) (v := 1) E dX10_giverTo_25 (by decide) rfl (by decide) (fun h_13 => ?_) (fun h_13 => ?_)
      ·
        refine z_iinc (u := q3_4_0.toInt) (L2 := fun z_14 => [some (AR 95), some (AI x1), some (AI x2), some (AI x3), some (AI z_14)]) E dX10_giverTo_52 rfl rfl (by decide) (fun _ => rfl) (by decide) (by omega) (by omega) (fun z_14 hz_14 => ?_)
        refine s_goto (tgt := 3) E dX10_giverTo_55 (by decide) ?_
        exact ih3 z_14 w ⟨⟨by have hb_ := z32 z_14; omega, by have hb_ := z32 z_14; omega⟩, rfl⟩ (by first | omega | decide | (dsimp only; omega) | (dsimp only; decide))
      ·
        refine s_aload_n E dX10_giverTo_28 rfl rfl ?_
        refine s_iload E dX10_giverTo_29 rfl ?_
        refine s_iload_n E dX10_giverTo_31 rfl rfl ?_
        refine s_iload_n E dX10_giverTo_32 rfl rfl ?_
        refine s_vI (As := [AI q3_4_0, AI x1, AI x3]) (S := []) E (Z_X10_doMeet_95 l D aC b w q3_4_0 x1 x3 hJ.1 ⟨by have hb_ := z32 q3_4_0; omega, by have hb_ := z32 q3_4_0; omega⟩ ⟨by have hb_ := z32 x1; omega, by have hb_ := z32 x1; omega⟩ ⟨by have hb_ := z32 x3; omega, by have hb_ := z32 x3; omega⟩) cv_X10_303 rfl rfl rfl (jv_lt hJ (by decide)) (Nat.le_of_ble_eq_true rfl) (Nat.le_of_ble_eq_true rfl) ⟨(Nat.le_of_ble_eq_true rfl), (Nat.le_of_ble_eq_true rfl)⟩ (Nat.le_of_ble_eq_true rfl) dX10_giverTo_33 (fun z_17 u_15 hp_16 => ?_)
        obtain ⟨hz_17, hp_16⟩ := hp_16
        subst hp_16
        refine z_if_eq (tgt := 52) (u := z_17.toInt) E dX10_giverTo_36 (by decide) rfl (fun h_19 => ?_) (fun h_19 => ?_)
        ·
          refine z_iinc (u := q3_4_0.toInt) (L2 := fun z_20 => [some (AR 95), some (AI x1), some (AI x2), some (AI x3), some (AI z_20)]) E dX10_giverTo_52 rfl rfl (by decide) (fun _ => rfl) (by decide) (by omega) (by omega) (fun z_20 hz_20 => ?_)
          refine s_goto (tgt := 3) E dX10_giverTo_55 (by decide) ?_
          exact ih3 z_20 w ⟨⟨by have hb_ := z32 z_20; omega, by have hb_ := z32 z_20; omega⟩, rfl⟩ (by first | omega | decide | (dsimp only; omega) | (dsimp only; decide))
        ·
          refine s_aload_n E dX10_giverTo_39 rfl rfl ?_
          refine s_iload E dX10_giverTo_40 rfl ?_
          refine s_iload_n E dX10_giverTo_42 rfl rfl ?_
          refine s_vI (As := [AI q3_4_0, AI x1]) (S := []) E (Z_X10_doesGive_95 l D aC b w q3_4_0 x1 hJ.1 ⟨by have hb_ := z32 q3_4_0; omega, by have hb_ := z32 q3_4_0; omega⟩ ⟨by have hb_ := z32 x1; omega, by have hb_ := z32 x1; omega⟩) cv_X10_328 rfl rfl rfl (jv_lt hJ (by decide)) (Nat.le_of_ble_eq_true rfl) (Nat.le_of_ble_eq_true rfl) ⟨(Nat.le_of_ble_eq_true rfl), (Nat.le_of_ble_eq_true rfl)⟩ (Nat.le_of_ble_eq_true rfl) dX10_giverTo_43 (fun z_23 u_21 hp_22 => ?_)
          obtain ⟨hz_23, hp_22⟩ := hp_22
          subst hp_22
          refine z_if_eq (tgt := 52) (u := z_23.toInt) E dX10_giverTo_46 (by decide) rfl (fun h_25 => ?_) (fun h_25 => ?_)
          ·
            refine z_iinc (u := q3_4_0.toInt) (L2 := fun z_26 => [some (AR 95), some (AI x1), some (AI x2), some (AI x3), some (AI z_26)]) E dX10_giverTo_52 rfl rfl (by decide) (fun _ => rfl) (by decide) (by omega) (by omega) (fun z_26 hz_26 => ?_)
            refine s_goto (tgt := 3) E dX10_giverTo_55 (by decide) ?_
            exact ih3 z_26 w ⟨⟨by have hb_ := z32 z_26; omega, by have hb_ := z32 z_26; omega⟩, rfl⟩ (by first | omega | decide | (dsimp only; omega) | (dsimp only; decide))
          ·
            refine s_iload E dX10_giverTo_49 rfl ?_
            exact r_int E dX10_giverTo_51 ⟨⟨by have hb_ := z32 q3_4_0; omega, by have hb_ := z32 q3_4_0; omega, by first | (right; decide) | (have hb_ := z32 q3_4_0; omega) | (have hb_ := z32 q3_4_0; have hc_ := z32 (w.2.2.1 95 23); omega)⟩, (Or.inr ⟨by omega, by omega, hb21.mp (by omega)⟩), rfl⟩
