set_option maxRecDepth 20000 in
set_option maxHeartbeats 2000000 in
theorem Z_X10_late_95 (l : Launch) (D : va_G) (aC : Nat → ClassId) (b : Nat) (w : XW) (x1 : Int32) (hI : Iv w)  : CnI l D aC b M_X10_late 5 113 0 0 [AR 95, AI x1] w (fun r u => ((-2) ≤ r.toInt ∧ r.toInt ≤ 64 ∧ (¬ r.toInt = 0 ∨ (0 ≤ x1.toInt ∧ x1.toInt ≤ 5))) ∧ Jv w u) := by
  refine cn_I (own := RX10) (nm := "late") (L0 := [some (AR 95), some (AI x1), none, none]) (by decide +kernel) rfl rfl (Nat.le_of_ble_eq_true rfl) rfl ?_
  intro p e s m args below meth c E hin
  have hJ : Jv w w := jv_rfl hI
  have hb_x1 := z32 x1
  refine s_aload_n E dX10_late_0 rfl rfl ?_
  refine s_iload_n E dX10_late_1 rfl rfl ?_
  refine s_vI (As := [AI x1]) (S := []) E (Z_X10_asksLady_95 l D aC b w x1 hJ.1 ) cv_X10_288 rfl rfl rfl (jv_lt hJ (by decide)) (Nat.le_of_ble_eq_true rfl) (Nat.le_of_ble_eq_true rfl) ⟨(Nat.le_of_ble_eq_true rfl), (Nat.le_of_ble_eq_true rfl)⟩ (Nat.le_of_ble_eq_true rfl) dX10_late_2 (fun z_3 u_1 hp_2 => ?_)
  obtain ⟨hz_3, hp_2⟩ := hp_2
  have hj_4 := jv_trans hJ hp_2
  refine z_if_ne (tgt := 11) (u := z_3.toInt) E dX10_late_5 (by decide) rfl (fun h_5 => ?_) (fun h_5 => ?_)
  ·
    refine s_iconst (v := (-1)) E dX10_late_11 (by decide) ?_
    refine s_istore_n (L2 := [some (AR 95), some (AI x1), some (AI (-1)), none]) E dX10_late_12 rfl (by decide) rfl ?_
    refine s_iconst (v := 1) E dX10_late_13 (by decide) ?_
    refine s_istore_n (L2 := [some (AR 95), some (AI x1), some (AI (-1)), some (AI 1)]) E dX10_late_14 rfl (by decide) rfl ?_
    refine z_loop (St := Int32 × Int32) (Pi := fun ⟨q15_2_5, q15_3_5⟩ v15 => ((-1) ≤ q15_2_5.toInt ∧ q15_2_5.toInt ≤ 64) ∧ (1 ≤ q15_3_5.toInt ∧ q15_3_5.toInt ≤ 15) ∧ u_1 = v15) (Lf := fun ⟨q15_2_5, q15_3_5⟩ => [some (AR 95), some (AI x1), some (AI q15_2_5), some (AI q15_3_5)]) (fun ⟨q15_2_5, q15_3_5⟩ _ => (16 - q15_3_5.toInt).toNat) ⟨(-1), 1⟩ ⟨⟨by decide, by decide⟩, ⟨by decide, by decide⟩, rfl⟩ ?_
    rintro ⟨q15_2_5, q15_3_5⟩ v15 ⟨hq15_2, hq15_3, hv_⟩ ih15
    subst hv_
    refine s_loc (L2 := [some (AR 95), some (AI x1), some (AI q15_2_5), some (AI q15_3_5)]) rfl ?_
    refine s_iload_n E dX10_late_15 rfl rfl ?_
    refine s_aload_n E dX10_late_16 rfl rfl ?_
    refine s_vI (As := []) (S := [AI q15_3_5]) E (Z_X10_dances_95 l D aC b u_1  hj_4.1 ) cv_X10_247 rfl rfl rfl (jv_lt hj_4 (by decide)) (Nat.le_of_ble_eq_true rfl) (Nat.le_of_ble_eq_true rfl) ⟨(Nat.le_of_ble_eq_true rfl), (Nat.le_of_ble_eq_true rfl)⟩ (Nat.le_of_ble_eq_true rfl) dX10_late_17 (fun z_9 u_7 hp_8 => ?_)
    obtain ⟨hz_9, hxz_9, hp_8⟩ := hp_8
    subst hp_8
    refine z_icmp_gt (tgt := 52) (u := q15_3_5.toInt) (v := z_9.toInt) E dX10_late_20 (by decide) rfl rfl (fun h_11 => ?_) (fun h_11 => ?_)
    ·
      refine s_iload_n E dX10_late_52 rfl rfl ?_
      exact r_int E dX10_late_53 ⟨⟨by have hb_ := z32 q15_2_5; omega, by have hb_ := z32 q15_2_5; omega, by first | (right; decide) | (have hb_ := z32 q15_2_5; omega) | (have hb_ := z32 q15_2_5; have hc_ := z32 x1; omega)⟩, hj_4⟩
    ·
      refine s_aload_n E dX10_late_23 rfl rfl ?_
      refine s_iload_n E dX10_late_24 rfl rfl ?_
      refine s_iload_n E dX10_late_25 rfl rfl ?_
      refine s_vI (As := [AI x1, AI q15_3_5]) (S := []) E (Z_X10_atOf_95 l D aC b u_1 x1 q15_3_5 hj_4.1 ⟨by have hb_ := z32 x1; omega, by have hb_ := z32 x1; omega⟩ ⟨by have hb_ := z32 q15_3_5; omega, by have hb_ := z32 q15_3_5; omega⟩) cv_X10_255 rfl rfl rfl (jv_lt hj_4 (by decide)) (Nat.le_of_ble_eq_true rfl) (Nat.le_of_ble_eq_true rfl) ⟨(Nat.le_of_ble_eq_true rfl), (Nat.le_of_ble_eq_true rfl)⟩ (Nat.le_of_ble_eq_true rfl) dX10_late_26 (fun z_14 u_12 hp_13 => ?_)
      obtain ⟨hz_14, hp_13⟩ := hp_13
      subst hp_13
      refine s_aload_n E dX10_late_29 rfl rfl ?_
      refine s_iload_n E dX10_late_30 rfl rfl ?_
      refine s_iload_n E dX10_late_31 rfl rfl ?_
      refine s_iconst (v := 1) E dX10_late_32 (by decide) ?_
      refine z_isub (u := q15_3_5.toInt) (v := 1) E dX10_late_33 rfl (by decide) (by omega) (by omega) (fun z_16 hz_16 => ?_)
      refine s_vI (As := [AI x1, AI z_16]) (S := [AI z_14]) E (Z_X10_atOf_95 l D aC b u_1 x1 z_16 hj_4.1 ⟨by have hb_ := z32 x1; omega, by have hb_ := z32 x1; omega⟩ ⟨by have hb_ := z32 z_16; omega, by have hb_ := z32 z_16; omega⟩) cv_X10_255 rfl rfl rfl (jv_lt hj_4 (by decide)) (Nat.le_of_ble_eq_true rfl) (Nat.le_of_ble_eq_true rfl) ⟨(Nat.le_of_ble_eq_true rfl), (Nat.le_of_ble_eq_true rfl)⟩ (Nat.le_of_ble_eq_true rfl) dX10_late_34 (fun z_19 u_17 hp_18 => ?_)
      obtain ⟨hz_19, hp_18⟩ := hp_18
      subst hp_18
      refine z_icmp_eq (tgt := 44) (u := z_14.toInt) (v := z_19.toInt) E dX10_late_37 (by decide) rfl rfl (fun h_21 => ?_) (fun h_21 => ?_)
      ·
        refine s_iload_n E dX10_late_44 rfl rfl ?_
        refine s_istore_n (L2 := [some (AR 95), some (AI x1), some (AI q15_2_5), some (AI q15_3_5)]) E dX10_late_45 rfl (by decide) rfl ?_
        refine z_iinc (u := q15_3_5.toInt) (L2 := fun z_22 => [some (AR 95), some (AI x1), some (AI q15_2_5), some (AI z_22)]) E dX10_late_46 rfl rfl (by decide) (fun _ => rfl) (by decide) (by omega) (by omega) (fun z_22 hz_22 => ?_)
        refine s_goto (tgt := 15) E dX10_late_49 (by decide) ?_
        exact ih15 ⟨q15_2_5, z_22⟩ u_1 ⟨⟨by have hb_ := z32 q15_2_5; omega, by have hb_ := z32 q15_2_5; omega⟩, ⟨by have hb_ := z32 z_22; omega, by have hb_ := z32 z_22; omega⟩, rfl⟩ (by first | omega | decide | (dsimp only; omega) | (dsimp only; decide))
      ·
        refine s_iload_n E dX10_late_40 rfl rfl ?_
        refine s_goto (tgt := 45) E dX10_late_41 (by decide) ?_
        refine s_istore_n (L2 := [some (AR 95), some (AI x1), some (AI q15_3_5), some (AI q15_3_5)]) E dX10_late_45 rfl (by decide) rfl ?_
        refine z_iinc (u := q15_3_5.toInt) (L2 := fun z_23 => [some (AR 95), some (AI x1), some (AI q15_3_5), some (AI z_23)]) E dX10_late_46 rfl rfl (by decide) (fun _ => rfl) (by decide) (by omega) (by omega) (fun z_23 hz_23 => ?_)
        refine s_goto (tgt := 15) E dX10_late_49 (by decide) ?_
        exact ih15 ⟨q15_3_5, z_23⟩ u_1 ⟨⟨by have hb_ := z32 q15_3_5; omega, by have hb_ := z32 q15_3_5; omega⟩, ⟨by have hb_ := z32 z_23; omega, by have hb_ := z32 z_23; omega⟩, rfl⟩ (by first | omega | decide | (dsimp only; omega) | (dsimp only; decide))
  ·
    refine s_bipush (v := (-2)) E dX10_late_8 (by decide) ?_
    exact r_int E dX10_late_10 ⟨⟨by decide, by decide, by first | (left; decide) | (right; decide) | (right; have hb_ := z32 x1; omega)⟩, hj_4⟩
set_option maxRecDepth 20000 in
set_option maxHeartbeats 2000000 in
theorem Z_X10_waits_95 (l : Launch) (D : va_G) (aC : Nat → ClassId) (b : Nat) (w : XW) (x1 : Int32) (hI : Iv w)  : CnI l D aC b M_X10_waits 5 113 0 0 [AR 95, AI x1] w (fun r u => ((-2147483648) ≤ r.toInt ∧ r.toInt ≤ 2147483647 ∧ (¬ r.toInt = 0 ∨ (0 ≤ x1.toInt ∧ x1.toInt ≤ 5))) ∧ Jv w u) := by
  refine cn_I (own := RX10) (nm := "waits") (L0 := [some (AR 95), some (AI x1), none, none]) (by decide +kernel) rfl rfl (Nat.le_of_ble_eq_true rfl) rfl ?_
  intro p e s m args below meth c E hin
  have hJ : Jv w w := jv_rfl hI
  have hb_x1 := z32 x1
  refine s_aload_n E dX10_waits_0 rfl rfl ?_
  refine s_iload_n E dX10_waits_1 rfl rfl ?_
  refine s_vI (As := [AI x1]) (S := []) E (Z_X10_asksLady_95 l D aC b w x1 hJ.1 ) cv_X10_288 rfl rfl rfl (jv_lt hJ (by decide)) (Nat.le_of_ble_eq_true rfl) (Nat.le_of_ble_eq_true rfl) ⟨(Nat.le_of_ble_eq_true rfl), (Nat.le_of_ble_eq_true rfl)⟩ (Nat.le_of_ble_eq_true rfl) dX10_waits_2 (fun z_3 u_1 hp_2 => ?_)
  obtain ⟨hz_3, hp_2⟩ := hp_2
  have hj_4 := jv_trans hJ hp_2
  refine z_if_ne (tgt := 11) (u := z_3.toInt) E dX10_waits_5 (by decide) rfl (fun h_5 => ?_) (fun h_5 => ?_)
  ·
    refine s_iconst (v := 0) E dX10_waits_11 (by decide) ?_
    refine s_istore_n (L2 := [some (AR 95), some (AI x1), some (AI 0), none]) E dX10_waits_12 rfl (by decide) rfl ?_
    refine s_iconst (v := 0) E dX10_waits_13 (by decide) ?_
    refine s_istore_n (L2 := [some (AR 95), some (AI x1), some (AI 0), some (AI 0)]) E dX10_waits_14 rfl (by decide) rfl ?_
    refine z_loop (St := Int32 × Int32) (Pi := fun ⟨q15_2_5, q15_3_5⟩ v15 => (0 ≤ q15_3_5.toInt ∧ q15_3_5.toInt ≤ 14) ∧ u_1 = v15) (Lf := fun ⟨q15_2_5, q15_3_5⟩ => [some (AR 95), some (AI x1), some (AI q15_2_5), some (AI q15_3_5)]) (fun ⟨q15_2_5, q15_3_5⟩ _ => (15 - q15_3_5.toInt).toNat) ⟨0, 0⟩ ⟨⟨by decide, by decide⟩, rfl⟩ ?_
    rintro ⟨q15_2_5, q15_3_5⟩ v15 ⟨hq15_3, hv_⟩ ih15
    subst hv_
    have hbq15_2 := z32 q15_2_5
    refine s_loc (L2 := [some (AR 95), some (AI x1), some (AI q15_2_5), some (AI q15_3_5)]) rfl ?_
    refine s_iload_n E dX10_waits_15 rfl rfl ?_
    refine s_aload_n E dX10_waits_16 rfl rfl ?_
    refine s_vI (As := []) (S := [AI q15_3_5]) E (Z_X10_dances_95 l D aC b u_1  hj_4.1 ) cv_X10_247 rfl rfl rfl (jv_lt hj_4 (by decide)) (Nat.le_of_ble_eq_true rfl) (Nat.le_of_ble_eq_true rfl) ⟨(Nat.le_of_ble_eq_true rfl), (Nat.le_of_ble_eq_true rfl)⟩ (Nat.le_of_ble_eq_true rfl) dX10_waits_17 (fun z_9 u_7 hp_8 => ?_)
    obtain ⟨hz_9, hxz_9, hp_8⟩ := hp_8
    subst hp_8
    refine z_icmp_ge (tgt := 79) (u := q15_3_5.toInt) (v := z_9.toInt) E dX10_waits_20 (by decide) rfl rfl (fun h_11 => ?_) (fun h_11 => ?_)
    ·
      refine s_iload_n E dX10_waits_79 rfl rfl ?_
      exact r_int E dX10_waits_80 ⟨⟨by have hb_ := z32 q15_2_5; omega, by have hb_ := z32 q15_2_5; omega, by first | (right; decide) | (have hb_ := z32 q15_2_5; omega) | (have hb_ := z32 q15_2_5; have hc_ := z32 x1; omega)⟩, hj_4⟩
    ·
      refine s_iload_n E dX10_waits_23 rfl rfl ?_
      refine s_aload_n E dX10_waits_24 rfl rfl ?_
      refine s_iload_n E dX10_waits_25 rfl rfl ?_
      refine s_iload_n E dX10_waits_26 rfl rfl ?_
      refine s_vI (As := [AI x1, AI q15_3_5]) (S := [AI q15_2_5]) E (Z_X10_biddenOf_95 l D aC b u_1 x1 q15_3_5 hj_4.1 ⟨by have hb_ := z32 x1; omega, by have hb_ := z32 x1; omega⟩ ⟨by have hb_ := z32 q15_3_5; omega, by have hb_ := z32 q15_3_5; omega⟩) cv_X10_258 rfl rfl rfl (jv_lt hj_4 (by decide)) (Nat.le_of_ble_eq_true rfl) (Nat.le_of_ble_eq_true rfl) ⟨(Nat.le_of_ble_eq_true rfl), (Nat.le_of_ble_eq_true rfl)⟩ (Nat.le_of_ble_eq_true rfl) dX10_waits_27 (fun z_14 u_12 hp_13 => ?_)
      obtain ⟨hz_14, hp_13⟩ := hp_13
      subst hp_13
      refine s_iconst (v := (-1)) E dX10_waits_30 (by decide) ?_
      refine z_icmp_eq (tgt := 70) (u := z_14.toInt) (v := (-1)) E dX10_waits_31 (by decide) rfl (by decide) (fun h_16 => ?_) (fun h_16 => ?_)
      ·
        refine s_iconst (v := 0) E dX10_waits_70 (by decide) ?_
        refine z_iadd (u := q15_2_5.toInt) (v := 0) E dX10_waits_71 rfl (by decide) (by omega) (by omega) (fun z_17 hz_17 => ?_)
        refine s_istore_n (L2 := [some (AR 95), some (AI x1), some (AI z_17), some (AI q15_3_5)]) E dX10_waits_72 rfl (by decide) rfl ?_
        refine z_iinc (u := q15_3_5.toInt) (L2 := fun z_18 => [some (AR 95), some (AI x1), some (AI z_17), some (AI z_18)]) E dX10_waits_73 rfl rfl (by decide) (fun _ => rfl) (by decide) (by omega) (by omega) (fun z_18 hz_18 => ?_)
        refine s_goto (tgt := 15) E dX10_waits_76 (by decide) ?_
        exact ih15 ⟨z_17, z_18⟩ u_1 ⟨⟨by have hb_ := z32 z_18; omega, by have hb_ := z32 z_18; omega⟩, rfl⟩ (by first | omega | decide | (dsimp only; omega) | (dsimp only; decide))
      ·
        refine s_aload_n E dX10_waits_34 rfl rfl ?_
        refine s_iload_n E dX10_waits_35 rfl rfl ?_
        refine s_iload_n E dX10_waits_36 rfl rfl ?_
        refine s_vI (As := [AI x1, AI q15_3_5]) (S := [AI q15_2_5]) E (Z_X10_biddenOf_95 l D aC b u_1 x1 q15_3_5 hj_4.1 ⟨by have hb_ := z32 x1; omega, by have hb_ := z32 x1; omega⟩ ⟨by have hb_ := z32 q15_3_5; omega, by have hb_ := z32 q15_3_5; omega⟩) cv_X10_258 rfl rfl rfl (jv_lt hj_4 (by decide)) (Nat.le_of_ble_eq_true rfl) (Nat.le_of_ble_eq_true rfl) ⟨(Nat.le_of_ble_eq_true rfl), (Nat.le_of_ble_eq_true rfl)⟩ (Nat.le_of_ble_eq_true rfl) dX10_waits_37 (fun z_21 u_19 hp_20 => ?_)
        obtain ⟨hz_21, hp_20⟩ := hp_20
        subst hp_20
        refine s_aload_n E dX10_waits_40 rfl rfl ?_
        refine s_iload_n E dX10_waits_41 rfl rfl ?_
        refine s_iload_n E dX10_waits_42 rfl rfl ?_
        refine s_vI (As := [AI x1, AI q15_3_5]) (S := [AI z_21, AI q15_2_5]) E (Z_X10_atOf_95 l D aC b u_1 x1 q15_3_5 hj_4.1 ⟨by have hb_ := z32 x1; omega, by have hb_ := z32 x1; omega⟩ ⟨by have hb_ := z32 q15_3_5; omega, by have hb_ := z32 q15_3_5; omega⟩) cv_X10_255 rfl rfl rfl (jv_lt hj_4 (by decide)) (Nat.le_of_ble_eq_true rfl) (Nat.le_of_ble_eq_true rfl) ⟨(Nat.le_of_ble_eq_true rfl), (Nat.le_of_ble_eq_true rfl)⟩ (Nat.le_of_ble_eq_true rfl) dX10_waits_43 (fun z_25 u_23 hp_24 => ?_)
        obtain ⟨hz_25, hp_24⟩ := hp_24
        subst hp_24
        refine z_icmp_eq (tgt := 70) (u := z_21.toInt) (v := z_25.toInt) E dX10_waits_46 (by decide) rfl rfl (fun h_27 => ?_) (fun h_27 => ?_)
        ·
          refine s_iconst (v := 0) E dX10_waits_70 (by decide) ?_
          refine z_iadd (u := q15_2_5.toInt) (v := 0) E dX10_waits_71 rfl (by decide) (by omega) (by omega) (fun z_28 hz_28 => ?_)
          refine s_istore_n (L2 := [some (AR 95), some (AI x1), some (AI z_28), some (AI q15_3_5)]) E dX10_waits_72 rfl (by decide) rfl ?_
          refine z_iinc (u := q15_3_5.toInt) (L2 := fun z_29 => [some (AR 95), some (AI x1), some (AI z_28), some (AI z_29)]) E dX10_waits_73 rfl rfl (by decide) (fun _ => rfl) (by decide) (by omega) (by omega) (fun z_29 hz_29 => ?_)
          refine s_goto (tgt := 15) E dX10_waits_76 (by decide) ?_
          exact ih15 ⟨z_28, z_29⟩ u_1 ⟨⟨by have hb_ := z32 z_29; omega, by have hb_ := z32 z_29; omega⟩, rfl⟩ (by first | omega | decide | (dsimp only; omega) | (dsimp only; decide))
        ·
          refine s_aload_n E dX10_waits_49 rfl rfl ?_
          refine s_iload_n E dX10_waits_50 rfl rfl ?_
          refine s_iload_n E dX10_waits_51 rfl rfl ?_
          refine s_iconst (v := 1) E dX10_waits_52 (by decide) ?_
          refine z_iadd (u := q15_3_5.toInt) (v := 1) E dX10_waits_53 rfl (by decide) (by omega) (by omega) (fun z_30 hz_30 => ?_)
          refine s_vI (As := [AI x1, AI z_30]) (S := [AI q15_2_5]) E (Z_X10_atOf_95 l D aC b u_1 x1 z_30 hj_4.1 ⟨by have hb_ := z32 x1; omega, by have hb_ := z32 x1; omega⟩ ⟨by have hb_ := z32 z_30; omega, by have hb_ := z32 z_30; omega⟩) cv_X10_255 rfl rfl rfl (jv_lt hj_4 (by decide)) (Nat.le_of_ble_eq_true rfl) (Nat.le_of_ble_eq_true rfl) ⟨(Nat.le_of_ble_eq_true rfl), (Nat.le_of_ble_eq_true rfl)⟩ (Nat.le_of_ble_eq_true rfl) dX10_waits_54 (fun z_33 u_31 hp_32 => ?_)
          obtain ⟨hz_33, hp_32⟩ := hp_32
          subst hp_32
          refine s_aload_n E dX10_waits_57 rfl rfl ?_
          refine s_iload_n E dX10_waits_58 rfl rfl ?_
          refine s_iload_n E dX10_waits_59 rfl rfl ?_
          refine s_vI (As := [AI x1, AI q15_3_5]) (S := [AI z_33, AI q15_2_5]) E (Z_X10_atOf_95 l D aC b u_1 x1 q15_3_5 hj_4.1 ⟨by have hb_ := z32 x1; omega, by have hb_ := z32 x1; omega⟩ ⟨by have hb_ := z32 q15_3_5; omega, by have hb_ := z32 q15_3_5; omega⟩) cv_X10_255 rfl rfl rfl (jv_lt hj_4 (by decide)) (Nat.le_of_ble_eq_true rfl) (Nat.le_of_ble_eq_true rfl) ⟨(Nat.le_of_ble_eq_true rfl), (Nat.le_of_ble_eq_true rfl)⟩ (Nat.le_of_ble_eq_true rfl) dX10_waits_60 (fun z_37 u_35 hp_36 => ?_)
          obtain ⟨hz_37, hp_36⟩ := hp_36
          subst hp_36
          refine z_icmp_ne (tgt := 70) (u := z_33.toInt) (v := z_37.toInt) E dX10_waits_63 (by decide) rfl rfl (fun h_39 => ?_) (fun h_39 => ?_)
          ·
            refine s_iconst (v := 0) E dX10_waits_70 (by decide) ?_
            refine z_iadd (u := q15_2_5.toInt) (v := 0) E dX10_waits_71 rfl (by decide) (by omega) (by omega) (fun z_40 hz_40 => ?_)
            refine s_istore_n (L2 := [some (AR 95), some (AI x1), some (AI z_40), some (AI q15_3_5)]) E dX10_waits_72 rfl (by decide) rfl ?_
            refine z_iinc (u := q15_3_5.toInt) (L2 := fun z_41 => [some (AR 95), some (AI x1), some (AI z_40), some (AI z_41)]) E dX10_waits_73 rfl rfl (by decide) (fun _ => rfl) (by decide) (by omega) (by omega) (fun z_41 hz_41 => ?_)
            refine s_goto (tgt := 15) E dX10_waits_76 (by decide) ?_
            exact ih15 ⟨z_40, z_41⟩ u_1 ⟨⟨by have hb_ := z32 z_41; omega, by have hb_ := z32 z_41; omega⟩, rfl⟩ (by first | omega | decide | (dsimp only; omega) | (dsimp only; decide))
          ·
            refine s_iconst (v := 1) E dX10_waits_66 (by decide) ?_
            refine s_goto (tgt := 71) E dX10_waits_67 (by decide) ?_
            refine s_iadd E dX10_waits_71 ?_
            refine z_nm (P := fun z => (-2147483648) ≤ z.toInt ∧ z.toInt ≤ 2147483647) (z32 _) (fun z_42 hz_42 => ?_)
            refine s_istore_n (L2 := [some (AR 95), some (AI x1), some (AI z_42), some (AI q15_3_5)]) E dX10_waits_72 rfl (by decide) rfl ?_
            refine z_iinc (u := q15_3_5.toInt) (L2 := fun z_43 => [some (AR 95), some (AI x1), some (AI z_42), some (AI z_43)]) E dX10_waits_73 rfl rfl (by decide) (fun _ => rfl) (by decide) (by omega) (by omega) (fun z_43 hz_43 => ?_)
            refine s_goto (tgt := 15) E dX10_waits_76 (by decide) ?_
            exact ih15 ⟨z_42, z_43⟩ u_1 ⟨⟨by have hb_ := z32 z_43; omega, by have hb_ := z32 z_43; omega⟩, rfl⟩ (by first | omega | decide | (dsimp only; omega) | (dsimp only; decide))
  ·
    refine s_bipush (v := (-2)) E dX10_waits_8 (by decide) ?_
    exact r_int E dX10_waits_10 ⟨⟨by decide, by decide, by first | (left; decide) | (right; decide) | (right; have hb_ := z32 x1; omega)⟩, hj_4⟩
set_option maxRecDepth 20000 in
set_option maxHeartbeats 2000000 in
theorem Z_X10_mate_95 (l : Launch) (D : va_G) (aC : Nat → ClassId) (b : Nat) (w : XW) (x1 : Int32) (hI : Iv w)  : CnI l D aC b M_X10_mate 5 113 0 0 [AR 95, AI x1] w (fun r u => ((-2) ≤ r.toInt ∧ r.toInt ≤ 64 ∧ (¬ r.toInt = 0 ∨ (0 ≤ x1.toInt ∧ x1.toInt ≤ 5))) ∧ Jv w u) := by
  refine cn_I (own := RX10) (nm := "mate") (L0 := [some (AR 95), some (AI x1), none, none, none]) (by decide +kernel) rfl rfl (Nat.le_of_ble_eq_true rfl) rfl ?_
  intro p e s m args below meth c E hin
  have hJ : Jv w w := jv_rfl hI
  have hb_x1 := z32 x1
  refine s_aload_n E dX10_mate_0 rfl rfl ?_
  refine s_iload_n E dX10_mate_1 rfl rfl ?_
  refine s_vI (As := [AI x1]) (S := []) E (Z_X10_asksLady_95 l D aC b w x1 hJ.1 ) cv_X10_288 rfl rfl rfl (jv_lt hJ (by decide)) (Nat.le_of_ble_eq_true rfl) (Nat.le_of_ble_eq_true rfl) ⟨(Nat.le_of_ble_eq_true rfl), (Nat.le_of_ble_eq_true rfl)⟩ (Nat.le_of_ble_eq_true rfl) dX10_mate_2 (fun z_3 u_1 hp_2 => ?_)
  obtain ⟨hz_3, hp_2⟩ := hp_2
  have hj_4 := jv_trans hJ hp_2
  refine z_if_ne (tgt := 11) (u := z_3.toInt) E dX10_mate_5 (by decide) rfl (fun h_5 => ?_) (fun h_5 => ?_)
  ·
    refine s_iconst (v := (-1)) E dX10_mate_11 (by decide) ?_
    refine s_istore_n (L2 := [some (AR 95), some (AI x1), some (AI (-1)), none, none]) E dX10_mate_12 rfl (by decide) rfl ?_
    refine s_iconst (v := 0) E dX10_mate_13 (by decide) ?_
    refine s_istore_n (L2 := [some (AR 95), some (AI x1), some (AI (-1)), some (AI 0), none]) E dX10_mate_14 rfl (by decide) rfl ?_
    refine s_iconst (v := 0) E dX10_mate_15 (by decide) ?_
    refine s_istore (L2 := [some (AR 95), some (AI x1), some (AI (-1)), some (AI 0), some (AI 0)]) E dX10_mate_16 (by decide) rfl ?_
    refine z_loop (St := Int32 × Int32 × Int32) (Pi := fun ⟨q18_2_5, q18_3_5, q18_4_5⟩ v18 => ((-1) ≤ q18_2_5.toInt ∧ q18_2_5.toInt ≤ 64) ∧ (0 ≤ q18_4_5.toInt ∧ q18_4_5.toInt ≤ 6) ∧ u_1 = v18) (Lf := fun ⟨q18_2_5, q18_3_5, q18_4_5⟩ => [some (AR 95), some (AI x1), some (AI q18_2_5), some (AI q18_3_5), some (AI q18_4_5)]) (fun ⟨q18_2_5, q18_3_5, q18_4_5⟩ _ => (7 - q18_4_5.toInt).toNat) ⟨(-1), 0, 0⟩ ⟨⟨by decide, by decide⟩, ⟨by decide, by decide⟩, rfl⟩ ?_
    rintro ⟨q18_2_5, q18_3_5, q18_4_5⟩ v18 ⟨hq18_2, hq18_4, hv_⟩ ih18
    subst hv_
    have hbq18_3 := z32 q18_3_5
    refine s_loc (L2 := [some (AR 95), some (AI x1), some (AI q18_2_5), some (AI q18_3_5), some (AI q18_4_5)]) rfl ?_
    refine s_iload E dX10_mate_18 rfl ?_
    refine s_aload_n E dX10_mate_20 rfl rfl ?_
    refine s_vI (As := []) (S := [AI q18_4_5]) E (Z_X10_ladies_95 l D aC b u_1  hj_4.1 ) cv_X10_244 rfl rfl rfl (jv_lt hj_4 (by decide)) (Nat.le_of_ble_eq_true rfl) (Nat.le_of_ble_eq_true rfl) ⟨(Nat.le_of_ble_eq_true rfl), (Nat.le_of_ble_eq_true rfl)⟩ (Nat.le_of_ble_eq_true rfl) dX10_mate_21 (fun z_9 u_7 hp_8 => ?_)
    obtain ⟨hz_9, hxz_9, hp_8⟩ := hp_8
    subst hp_8
    refine z_icmp_ge (tgt := 64) (u := q18_4_5.toInt) (v := z_9.toInt) E dX10_mate_24 (by decide) rfl rfl (fun h_11 => ?_) (fun h_11 => ?_)
    ·
      refine s_iload_n E dX10_mate_64 rfl rfl ?_
      exact r_int E dX10_mate_65 ⟨⟨by have hb_ := z32 q18_2_5; omega, by have hb_ := z32 q18_2_5; omega, by first | (right; decide) | (have hb_ := z32 q18_2_5; omega) | (have hb_ := z32 q18_2_5; have hc_ := z32 x1; omega)⟩, hj_4⟩
    ·
      refine s_iload E dX10_mate_27 rfl ?_
      refine s_iload_n E dX10_mate_29 rfl rfl ?_
      refine z_icmp_eq (tgt := 58) (u := q18_4_5.toInt) (v := x1.toInt) E dX10_mate_30 (by decide) rfl rfl (fun h_12 => ?_) (fun h_12 => ?_)
      ·
        refine z_iinc (u := q18_4_5.toInt) (L2 := fun z_13 => [some (AR 95), some (AI x1), some (AI q18_2_5), some (AI q18_3_5), some (AI z_13)]) E dX10_mate_58 rfl rfl (by decide) (fun _ => rfl) (by decide) (by omega) (by omega) (fun z_13 hz_13 => ?_)
        refine s_goto (tgt := 18) E dX10_mate_61 (by decide) ?_
        exact ih18 ⟨q18_2_5, q18_3_5, z_13⟩ u_1 ⟨⟨by have hb_ := z32 q18_2_5; omega, by have hb_ := z32 q18_2_5; omega⟩, ⟨by have hb_ := z32 z_13; omega, by have hb_ := z32 z_13; omega⟩, rfl⟩ (by first | omega | decide | (dsimp only; omega) | (dsimp only; decide))
      ·
        refine s_aload_n E dX10_mate_33 rfl rfl ?_
        refine s_iload_n E dX10_mate_34 rfl rfl ?_
        refine s_iload E dX10_mate_35 rfl ?_
        refine s_vI (As := [AI x1, AI q18_4_5]) (S := []) E (Z_X10_oftenMeet_95 l D aC b u_1 x1 q18_4_5 hj_4.1 ⟨by have hb_ := z32 x1; omega, by have hb_ := z32 x1; omega⟩ ⟨by have hb_ := z32 q18_4_5; omega, by have hb_ := z32 q18_4_5; omega⟩) cv_X10_310 rfl rfl rfl (jv_lt hj_4 (by decide)) (Nat.le_of_ble_eq_true rfl) (Nat.le_of_ble_eq_true rfl) ⟨(Nat.le_of_ble_eq_true rfl), (Nat.le_of_ble_eq_true rfl)⟩ (Nat.le_of_ble_eq_true rfl) dX10_mate_37 (fun z_16 u_14 hp_15 => ?_)
        obtain ⟨hz_16, hp_15⟩ := hp_15
        subst hp_15
        refine s_iload_n E dX10_mate_40 rfl rfl ?_
        refine z_icmp_gt (tgt := 47) (u := z_16.toInt) (v := q18_3_5.toInt) E dX10_mate_41 (by decide) rfl rfl (fun h_18 => ?_) (fun h_18 => ?_)
        ·
          refine s_aload_n E dX10_mate_47 rfl rfl ?_
          refine s_iload_n E dX10_mate_48 rfl rfl ?_
          refine s_iload E dX10_mate_49 rfl ?_
          refine s_vI (As := [AI x1, AI q18_4_5]) (S := []) E (Z_X10_oftenMeet_95 l D aC b u_1 x1 q18_4_5 hj_4.1 ⟨by have hb_ := z32 x1; omega, by have hb_ := z32 x1; omega⟩ ⟨by have hb_ := z32 q18_4_5; omega, by have hb_ := z32 q18_4_5; omega⟩) cv_X10_310 rfl rfl rfl (jv_lt hj_4 (by decide)) (Nat.le_of_ble_eq_true rfl) (Nat.le_of_ble_eq_true rfl) ⟨(Nat.le_of_ble_eq_true rfl), (Nat.le_of_ble_eq_true rfl)⟩ (Nat.le_of_ble_eq_true rfl) dX10_mate_51 (fun z_21 u_19 hp_20 => ?_)
          obtain ⟨hz_21, hp_20⟩ := hp_20
          subst hp_20
          refine s_istore_n (L2 := [some (AR 95), some (AI x1), some (AI q18_2_5), some (AI z_21), some (AI q18_4_5)]) E dX10_mate_54 rfl (by decide) rfl ?_
          refine s_iload E dX10_mate_55 rfl ?_
          refine s_istore_n (L2 := [some (AR 95), some (AI x1), some (AI q18_4_5), some (AI z_21), some (AI q18_4_5)]) E dX10_mate_57 rfl (by decide) rfl ?_
          refine z_iinc (u := q18_4_5.toInt) (L2 := fun z_23 => [some (AR 95), some (AI x1), some (AI q18_4_5), some (AI z_21), some (AI z_23)]) E dX10_mate_58 rfl rfl (by decide) (fun _ => rfl) (by decide) (by omega) (by omega) (fun z_23 hz_23 => ?_)
          refine s_goto (tgt := 18) E dX10_mate_61 (by decide) ?_
          exact ih18 ⟨q18_4_5, z_21, z_23⟩ u_1 ⟨⟨by have hb_ := z32 q18_4_5; omega, by have hb_ := z32 q18_4_5; omega⟩, ⟨by have hb_ := z32 z_23; omega, by have hb_ := z32 z_23; omega⟩, rfl⟩ (by first | omega | decide | (dsimp only; omega) | (dsimp only; decide))
        ·
          refine s_goto (tgt := 58) E dX10_mate_44 (by decide) ?_
          refine z_iinc (u := q18_4_5.toInt) (L2 := fun z_24 => [some (AR 95), some (AI x1), some (AI q18_2_5), some (AI q18_3_5), some (AI z_24)]) E dX10_mate_58 rfl rfl (by decide) (fun _ => rfl) (by decide) (by omega) (by omega) (fun z_24 hz_24 => ?_)
          refine s_goto (tgt := 18) E dX10_mate_61 (by decide) ?_
          exact ih18 ⟨q18_2_5, q18_3_5, z_24⟩ u_1 ⟨⟨by have hb_ := z32 q18_2_5; omega, by have hb_ := z32 q18_2_5; omega⟩, ⟨by have hb_ := z32 z_24; omega, by have hb_ := z32 z_24; omega⟩, rfl⟩ (by first | omega | decide | (dsimp only; omega) | (dsimp only; decide))
  ·
    refine s_bipush (v := (-2)) E dX10_mate_8 (by decide) ?_
    exact r_int E dX10_mate_10 ⟨⟨by decide, by decide, by first | (left; decide) | (right; decide) | (right; have hb_ := z32 x1; omega)⟩, hj_4⟩
set_option maxRecDepth 20000 in
set_option maxHeartbeats 2000000 in
theorem Z_X10_doesGive_95 (l : Launch) (D : va_G) (aC : Nat → ClassId) (b : Nat) (w : XW) (x1 : Int32) (x2 : Int32) (hI : Iv w) (hx1 : 0 ≤ x1.toInt ∧ x1.toInt ≤ 5) (hx2 : 0 ≤ x2.toInt ∧ x2.toInt ≤ 5) : CnI l D aC b M_X10_doesGive 1 21 0 0 [AR 95, AI x1, AI x2] w (fun r u => (0 ≤ r.toInt ∧ r.toInt ≤ 1 ∧ (r.toInt = 0 ∨ (0 ≤ (w.2.2.1 95 23).toInt ∧ (w.2.2.1 95 23).toInt ≤ 3))) ∧ w = u) := by
  refine cn_I (own := RX10) (nm := "doesGive") (L0 := [some (AR 95), some (AI x1), some (AI x2), none]) (by decide +kernel) rfl rfl (Nat.le_of_ble_eq_true rfl) rfl ?_
  intro p e s m args below meth c E hin
  have hJ : Jv w w := jv_rfl hI
  refine s_aload_n E dX10_doesGive_0 rfl rfl ?_
  refine s_gI E fg_X10_267 rfl rfl (jv_lt hJ (by decide)) dX10_doesGive_1 ?_
  refine z_nm (P := fun z => z.toInt = (w.2.2.1 95 23).toInt ∧ (-2147483648) ≤ z.toInt ∧ z.toInt ≤ 2147483647) ⟨rfl, z32 _⟩ (fun z_1 hz_1 => ?_)
  refine s_iconst (v := 1) E dX10_doesGive_4 (by decide) ?_
  refine z_icmp_ne (tgt := 41) (u := z_1.toInt) (v := 1) E dX10_doesGive_5 (by decide) rfl (by decide) (fun h_2 => ?_) (fun h_2 => ?_)
  ·
    refine s_aload_n E dX10_doesGive_41 rfl rfl ?_
    refine s_gI E fg_X10_267 rfl rfl (jv_lt hJ (by decide)) dX10_doesGive_42 ?_
    refine z_nm (P := fun z => z.toInt = (w.2.2.1 95 23).toInt ∧ (-2147483648) ≤ z.toInt ∧ z.toInt ≤ 2147483647) ⟨rfl, z32 _⟩ (fun z_3 hz_3 => ?_)
    refine z_if_eq (tgt := 92) (u := z_3.toInt) E dX10_doesGive_45 (by decide) rfl (fun h_4 => ?_) (fun h_4 => ?_)
    ·
      refine s_iconst (v := 1) E dX10_doesGive_92 (by decide) ?_
      refine s_goto (tgt := 97) E dX10_doesGive_93 (by decide) ?_
      exact r_bool E dX10_doesGive_97 (Or.inr rfl) ⟨⟨by decide, by decide, by first | (left; decide) | (right; decide) | (right; have hb_ := z32 (w.2.2.1 95 23); omega)⟩, rfl⟩
    ·
      refine s_aload_n E dX10_doesGive_48 rfl rfl ?_
      refine s_gI E fg_X10_267 rfl rfl (jv_lt hJ (by decide)) dX10_doesGive_49 ?_
      refine z_nm (P := fun z => z.toInt = (w.2.2.1 95 23).toInt ∧ (-2147483648) ≤ z.toInt ∧ z.toInt ≤ 2147483647) ⟨rfl, z32 _⟩ (fun z_5 hz_5 => ?_)
      refine s_iconst (v := 2) E dX10_doesGive_52 (by decide) ?_
      refine z_icmp_ne (tgt := 69) (u := z_5.toInt) (v := 2) E dX10_doesGive_53 (by decide) rfl (by decide) (fun h_6 => ?_) (fun h_6 => ?_)
      ·
        refine s_aload_n E dX10_doesGive_69 rfl rfl ?_
        refine s_gI E fg_X10_267 rfl rfl (jv_lt hJ (by decide)) dX10_doesGive_70 ?_
        refine z_nm (P := fun z => z.toInt = (w.2.2.1 95 23).toInt ∧ (-2147483648) ≤ z.toInt ∧ z.toInt ≤ 2147483647) ⟨rfl, z32 _⟩ (fun z_7 hz_7 => ?_)
        refine s_iconst (v := 3) E dX10_doesGive_73 (by decide) ?_
        refine z_icmp_ne (tgt := 96) (u := z_7.toInt) (v := 3) E dX10_doesGive_74 (by decide) rfl (by decide) (fun h_8 => ?_) (fun h_8 => ?_)
        ·
          refine s_iconst (v := 0) E dX10_doesGive_96 (by decide) ?_
          exact r_bool E dX10_doesGive_97 (Or.inl rfl) ⟨⟨by decide, by decide, by first | (left; decide) | (right; decide) | (right; have hb_ := z32 (w.2.2.1 95 23); omega)⟩, rfl⟩
        ·
          refine s_aload_n E dX10_doesGive_77 rfl rfl ?_
          refine s_gR (r := 105) E fg_X10_43 rfl rfl (jv_lt hJ (by decide)) (jv_r hJ (by decide +kernel)) dX10_doesGive_78 ?_
          refine s_iload_n E dX10_doesGive_81 rfl rfl ?_
          refine s_iald E rfl (jv_lt hJ (by decide)) (z_in (u := x2.toInt) rfl (by omega) (by omega)) dX10_doesGive_82 ?_
          refine z_nm (P := fun z => (-2147483648) ≤ z.toInt ∧ z.toInt ≤ 2147483647) (z32 _) (fun z_9 hz_9 => ?_)
          refine s_aload_n E dX10_doesGive_83 rfl rfl ?_
          refine s_gR (r := 105) E fg_X10_43 rfl rfl (jv_lt hJ (by decide)) (jv_r hJ (by decide +kernel)) dX10_doesGive_84 ?_
          refine s_iload_n E dX10_doesGive_87 rfl rfl ?_
          refine s_iald E rfl (jv_lt hJ (by decide)) (z_in (u := x1.toInt) rfl (by omega) (by omega)) dX10_doesGive_88 ?_
          refine z_nm (P := fun z => (-2147483648) ≤ z.toInt ∧ z.toInt ≤ 2147483647) (z32 _) (fun z_10 hz_10 => ?_)
          refine z_icmp_ge (tgt := 96) (u := z_9.toInt) (v := z_10.toInt) E dX10_doesGive_89 (by decide) rfl rfl (fun h_11 => ?_) (fun h_11 => ?_)
          ·
            refine s_iconst (v := 0) E dX10_doesGive_96 (by decide) ?_
            exact r_bool E dX10_doesGive_97 (Or.inl rfl) ⟨⟨by decide, by decide, by first | (left; decide) | (right; decide) | (right; have hb_ := z32 (w.2.2.1 95 23); omega)⟩, rfl⟩
          ·
            refine s_iconst (v := 1) E dX10_doesGive_92 (by decide) ?_
            refine s_goto (tgt := 97) E dX10_doesGive_93 (by decide) ?_
            exact r_bool E dX10_doesGive_97 (Or.inr rfl) ⟨⟨by decide, by decide, by first | (left; decide) | (right; decide) | (right; have hb_ := z32 (w.2.2.1 95 23); omega)⟩, rfl⟩
      ·
        refine s_aload_n E dX10_doesGive_56 rfl rfl ?_
        refine s_iload_n E dX10_doesGive_57 rfl rfl ?_
        refine s_vI (As := [AI x2]) (S := []) E (Z_X10_wideOf_95 l D aC b w x2 hJ.1 ⟨by have hb_ := z32 x2; omega, by have hb_ := z32 x2; omega⟩) cv_X10_238 rfl rfl rfl (jv_lt hJ (by decide)) (Nat.le_of_ble_eq_true rfl) (Nat.le_of_ble_eq_true rfl) ⟨(Nat.le_of_ble_eq_true rfl), (Nat.le_of_ble_eq_true rfl)⟩ (Nat.le_of_ble_eq_true rfl) dX10_doesGive_58 (fun z_14 u_12 hp_13 => ?_)
        obtain ⟨hz_14, hxz_14, hp_13⟩ := hp_13
        subst hp_13
        refine s_aload_n E dX10_doesGive_61 rfl rfl ?_
        refine s_iload_n E dX10_doesGive_62 rfl rfl ?_
        refine s_vI (As := [AI x1]) (S := [AI z_14]) E (Z_X10_wideOf_95 l D aC b w x1 hJ.1 ⟨by have hb_ := z32 x1; omega, by have hb_ := z32 x1; omega⟩) cv_X10_238 rfl rfl rfl (jv_lt hJ (by decide)) (Nat.le_of_ble_eq_true rfl) (Nat.le_of_ble_eq_true rfl) ⟨(Nat.le_of_ble_eq_true rfl), (Nat.le_of_ble_eq_true rfl)⟩ (Nat.le_of_ble_eq_true rfl) dX10_doesGive_63 (fun z_18 u_16 hp_17 => ?_)
        obtain ⟨hz_18, hxz_18, hp_17⟩ := hp_17
        subst hp_17
        refine z_icmp_le (tgt := 92) (u := z_14.toInt) (v := z_18.toInt) E dX10_doesGive_66 (by decide) rfl rfl (fun h_20 => ?_) (fun h_20 => ?_)
        ·
          refine s_iconst (v := 1) E dX10_doesGive_92 (by decide) ?_
          refine s_goto (tgt := 97) E dX10_doesGive_93 (by decide) ?_
          exact r_bool E dX10_doesGive_97 (Or.inr rfl) ⟨⟨by decide, by decide, by first | (left; decide) | (right; decide) | (right; have hb_ := z32 (w.2.2.1 95 23); omega)⟩, rfl⟩
        ·
          refine s_aload_n E dX10_doesGive_69 rfl rfl ?_
          refine s_gI E fg_X10_267 rfl rfl (jv_lt hJ (by decide)) dX10_doesGive_70 ?_
          refine z_nm (P := fun z => z.toInt = (w.2.2.1 95 23).toInt ∧ (-2147483648) ≤ z.toInt ∧ z.toInt ≤ 2147483647) ⟨rfl, z32 _⟩ (fun z_21 hz_21 => ?_)
          refine s_iconst (v := 3) E dX10_doesGive_73 (by decide) ?_
          refine z_icmp_ne (tgt := 96) (u := z_21.toInt) (v := 3) E dX10_doesGive_74 (by decide) rfl (by decide) (fun h_22 => ?_) (fun h_22 => absurd h_22 (by omega))
          refine s_iconst (v := 0) E dX10_doesGive_96 (by decide) ?_
          exact r_bool E dX10_doesGive_97 (Or.inl rfl) ⟨⟨by decide, by decide, by first | (left; decide) | (right; decide) | (right; have hb_ := z32 (w.2.2.1 95 23); omega)⟩, rfl⟩
  ·
    refine s_iconst (v := 0) E dX10_doesGive_8 (by decide) ?_
    refine s_istore_n (L2 := [some (AR 95), some (AI x1), some (AI x2), some (AI 0)]) E dX10_doesGive_9 rfl (by decide) rfl ?_
    refine z_loop (St := Int32) (Pi := fun q10_3_22 v10 => (0 ≤ q10_3_22.toInt ∧ q10_3_22.toInt ≤ 8) ∧ w = v10) (Lf := fun q10_3_22 => [some (AR 95), some (AI x1), some (AI x2), some (AI q10_3_22)]) (fun q10_3_22 _ => (9 - q10_3_22.toInt).toNat) 0 ⟨⟨by decide, by decide⟩, rfl⟩ ?_
    rintro q10_3_22 v10 ⟨hq10_3, hv_⟩ ih10
    subst hv_
    refine s_loc (L2 := [some (AR 95), some (AI x1), some (AI x2), some (AI q10_3_22)]) rfl ?_
    refine s_iload_n E dX10_doesGive_10 rfl rfl ?_
    refine s_aload_n E dX10_doesGive_11 rfl rfl ?_
    refine s_gR (r := 96) E fg_X10_9 rfl rfl (jv_lt hJ (by decide)) (jv_r hJ (by decide +kernel)) dX10_doesGive_12 ?_
    refine s_bipush (v := 6) E dX10_doesGive_15 (by decide) ?_
    refine s_iald E rfl (jv_lt hJ (by decide)) (z_in (u := 6) (by decide) (by omega) (by omega)) dX10_doesGive_17 ?_
    refine z_nm (P := fun z => z.toInt = (w.2.2.1 96 6).toInt ∧ 0 ≤ z.toInt ∧ z.toInt ≤ 8) ⟨rfl, (rw_96_6 hJ)⟩ (fun z_24 hz_24 => ?_)
    refine z_icmp_ge (tgt := 39) (u := q10_3_22.toInt) (v := z_24.toInt) E dX10_doesGive_18 (by decide) rfl rfl (fun h_25 => ?_) (fun h_25 => ?_)
    ·
      refine s_iconst (v := 0) E dX10_doesGive_39 (by decide) ?_
      exact r_bool E dX10_doesGive_40 (Or.inl rfl) ⟨⟨by decide, by decide, by first | (left; decide) | (right; decide) | (right; have hb_ := z32 (w.2.2.1 95 23); omega)⟩, rfl⟩
    ·
      refine s_aload_n E dX10_doesGive_21 rfl rfl ?_
      refine s_gR (r := 104) E fg_X10_40 rfl rfl (jv_lt hJ (by decide)) (jv_r hJ (by decide +kernel)) dX10_doesGive_22 ?_
      refine s_iload_n E dX10_doesGive_25 rfl rfl ?_
      refine s_iald E rfl (jv_lt hJ (by decide)) (z_in (u := q10_3_22.toInt) rfl (by omega) (by omega)) dX10_doesGive_26 ?_
      refine z_nm (P := fun z => z.toInt = (w.2.2.1 104 q10_3_22.toNatClampNeg).toInt ∧ 0 ≤ z.toInt ∧ z.toInt ≤ 5) ⟨rfl, (ra_104 hJ _)⟩ (fun z_26 hz_26 => ?_)
      refine s_iload_n E dX10_doesGive_27 rfl rfl ?_
      refine z_icmp_ne (tgt := 33) (u := z_26.toInt) (v := x2.toInt) E dX10_doesGive_28 (by decide) rfl rfl (fun h_27 => ?_) (fun h_27 => ?_)
      ·
        refine z_iinc (u := q10_3_22.toInt) (L2 := fun z_28 => [some (AR 95), some (AI x1), some (AI x2), some (AI z_28)]) E dX10_doesGive_33 rfl rfl (by decide) (fun _ => rfl) (by decide) (by omega) (by omega) (fun z_28 hz_28 => ?_)
        refine s_goto (tgt := 10) E dX10_doesGive_36 (by decide) ?_
        exact ih10 z_28 w ⟨⟨by have hb_ := z32 z_28; omega, by have hb_ := z32 z_28; omega⟩, rfl⟩ (by first | omega | decide | (dsimp only; omega) | (dsimp only; decide))
      ·
        refine s_iconst (v := 1) E dX10_doesGive_31 (by decide) ?_
        exact r_bool E dX10_doesGive_32 (Or.inr rfl) ⟨⟨by decide, by decide, by first | (left; decide) | (right; decide) | (right; have hb_ := z32 (w.2.2.1 95 23); omega)⟩, rfl⟩
set_option maxRecDepth 20000 in
set_option maxHeartbeats 2000000 in
theorem Z_X10_giverTo_95 (l : Launch) (D : va_G) (aC : Nat → ClassId) (b : Nat) (w : XW) (x1 : Int32) (x2 : Int32) (x3 : Int32) (hI : Iv w) (hx1 : 0 ≤ x1.toInt ∧ x1.toInt ≤ 5) (hx3 : 0 ≤ x3.toInt ∧ x3.toInt ≤ 14) : CnI l D aC b M_X10_giverTo 2 45 0 0 [AR 95, AI x1, AI x2, AI x3] w (fun r u => ((-1) ≤ r.toInt ∧ r.toInt ≤ 5 ∧ (¬ r.toInt = 0 ∨ (0 ≤ (w.2.2.1 95 23).toInt ∧ (w.2.2.1 95 23).toInt ≤ 3))) ∧ (r.toInt = -1 ∨ (0 ≤ r.toInt ∧ r.toInt ≤ 5 ∧ bt x2 r.toInt.toNat = true)) ∧ w = u) := by
  refine cn_I (own := RX10) (nm := "giverTo") (L0 := [some (AR 95), some (AI x1), some (AI x2), some (AI x3), none]) (by decide +kernel) rfl rfl (Nat.le_of_ble_eq_true rfl) rfl ?_
  intro p e s m args below meth c E hin
  have hJ : Jv w w := jv_rfl hI
  have hb_x2 := z32 x2
  refine s_iconst (v := 0) E dX10_giverTo_0 (by decide) ?_
  refine s_istore (L2 := [some (AR 95), some (AI x1), some (AI x2), some (AI x3), some (AI 0)]) E dX10_giverTo_1 (by decide) rfl ?_
  refine z_loop (St := Int32) (Pi := fun q3_4_0 v3 => (0 ≤ q3_4_0.toInt ∧ q3_4_0.toInt ≤ 6) ∧ w = v3) (Lf := fun q3_4_0 => [some (AR 95), some (AI x1), some (AI x2), some (AI x3), some (AI q3_4_0)]) (fun q3_4_0 _ => (7 - q3_4_0.toInt).toNat) 0 ⟨⟨by decide, by decide⟩, rfl⟩ ?_
  rintro q3_4_0 v3 ⟨hq3_4, hv_⟩ ih3
  subst hv_
  refine s_loc (L2 := [some (AR 95), some (AI x1), some (AI x2), some (AI x3), some (AI q3_4_0)]) rfl ?_
  refine s_iload E dX10_giverTo_3 rfl ?_
  refine s_aload_n E dX10_giverTo_5 rfl rfl ?_
  refine s_vI (As := []) (S := [AI q3_4_0]) E (Z_X10_ladies_95 l D aC b w  hJ.1 ) cv_X10_244 rfl rfl rfl (jv_lt hJ (by decide)) (Nat.le_of_ble_eq_true rfl) (Nat.le_of_ble_eq_true rfl) ⟨(Nat.le_of_ble_eq_true rfl), (Nat.le_of_ble_eq_true rfl)⟩ (Nat.le_of_ble_eq_true rfl) dX10_giverTo_6 (fun z_4 u_2 hp_3 => ?_)
  obtain ⟨hz_4, hxz_4, hp_3⟩ := hp_3
  subst hp_3
  refine z_icmp_ge (tgt := 58) (u := q3_4_0.toInt) (v := z_4.toInt) E dX10_giverTo_9 (by decide) rfl rfl (fun h_6 => ?_) (fun h_6 => ?_)
  ·
    refine s_iconst (v := (-1)) E dX10_giverTo_58 (by decide) ?_
    exact r_int E dX10_giverTo_59 ⟨⟨by decide, by decide, by first | (left; decide) | (right; decide) | (right; have hb_ := z32 (w.2.2.1 95 23); omega)⟩, (Or.inl (by decide)), rfl⟩
  ·
    refine s_iload E dX10_giverTo_12 rfl ?_
    refine s_iload_n E dX10_giverTo_14 rfl rfl ?_
    refine z_icmp_eq (tgt := 52) (u := q3_4_0.toInt) (v := x1.toInt) E dX10_giverTo_15 (by decide) rfl rfl (fun h_7 => ?_) (fun h_7 => ?_)
    ·
      refine z_iinc (u := q3_4_0.toInt) (L2 := fun z_8 => [some (AR 95), some (AI x1), some (AI x2), some (AI x3), some (AI z_8)]) E dX10_giverTo_52 rfl rfl (by decide) (fun _ => rfl) (by decide) (by omega) (by omega) (fun z_8 hz_8 => ?_)
      refine s_goto (tgt := 3) E dX10_giverTo_55 (by decide) ?_
      exact ih3 z_8 w ⟨⟨by have hb_ := z32 z_8; omega, by have hb_ := z32 z_8; omega⟩, rfl⟩ (by first | omega | decide | (dsimp only; omega) | (dsimp only; decide))
    ·
      refine s_iload_n E dX10_giverTo_18 rfl rfl ?_
      refine s_iload E dX10_giverTo_19 rfl ?_
      refine s_sI (As := [AI x2, AI q3_4_0]) (S := []) E (Z_X10_bit l D aC b w x2 q3_4_0 hJ.1 ) cs_X10_252 rfl rfl (Nat.le_of_ble_eq_true rfl) (Nat.le_of_ble_eq_true rfl) ⟨(Nat.le_of_ble_eq_true rfl), (Nat.le_of_ble_eq_true rfl)⟩ (Nat.le_of_ble_eq_true rfl) dX10_giverTo_21 (fun z_11 u_9 hp_10 => ?_)
      obtain ⟨hz_11, hxz_11, hp_10⟩ := hp_10
      subst hp_10
      have hb21 := hxz_11 (by omega) (by omega)
      refine s_iconst (v := 1) E dX10_giverTo_24 (by decide) ?_
      refine z_icmp_ne (tgt := 52) (u := z_11.toInt) (v := 1) E dX10_giverTo_25 (by decide) rfl (by decide) (fun h_13 => ?_) (fun h_13 => ?_)
      ·
        refine z_iinc (u := q3_4_0.toInt) (L2 := fun z_14 => [some (AR 95), some (AI x1), some (AI x2), some (AI x3), some (AI z_14)]) E dX10_giverTo_52 rfl rfl (by decide) (fun _ => rfl) (by decide) (by omega) (by omega) (fun z_14 hz_14 => ?_)
        refine s_goto (tgt := 3) E dX10_giverTo_55 (by decide) ?_
        exact ih3 z_14 w ⟨⟨by have hb_ := z32 z_14; omega, by have hb_ := z32 z_14; omega⟩, rfl⟩ (by first | omega | decide | (dsimp only; omega) | (dsimp only; decide))
      ·
        refine s_aload_n E dX10_giverTo_28 rfl rfl ?_
        refine s_iload E dX10_giverTo_29 rfl ?_
        refine s_iload_n E dX10_giverTo_31 rfl rfl ?_
        refine s_iload_n E dX10_giverTo_32 rfl rfl ?_
        refine s_vI (As := [AI q3_4_0, AI x1, AI x3]) (S := []) E (Z_X10_doMeet_95 l D aC b w q3_4_0 x1 x3 hJ.1 ⟨by have hb_ := z32 q3_4_0; omega, by have hb_ := z32 q3_4_0; omega⟩ ⟨by have hb_ := z32 x1; omega, by have hb_ := z32 x1; omega⟩ ⟨by have hb_ := z32 x3; omega, by have hb_ := z32 x3; omega⟩) cv_X10_303 rfl rfl rfl (jv_lt hJ (by decide)) (Nat.le_of_ble_eq_true rfl) (Nat.le_of_ble_eq_true rfl) ⟨(Nat.le_of_ble_eq_true rfl), (Nat.le_of_ble_eq_true rfl)⟩ (Nat.le_of_ble_eq_true rfl) dX10_giverTo_33 (fun z_17 u_15 hp_16 => ?_)
        obtain ⟨hz_17, hp_16⟩ := hp_16
        subst hp_16
        refine z_if_eq (tgt := 52) (u := z_17.toInt) E dX10_giverTo_36 (by decide) rfl (fun h_19 => ?_) (fun h_19 => ?_)
        ·
          refine z_iinc (u := q3_4_0.toInt) (L2 := fun z_20 => [some (AR 95), some (AI x1), some (AI x2), some (AI x3), some (AI z_20)]) E dX10_giverTo_52 rfl rfl (by decide) (fun _ => rfl) (by decide) (by omega) (by omega) (fun z_20 hz_20 => ?_)
          refine s_goto (tgt := 3) E dX10_giverTo_55 (by decide) ?_
          exact ih3 z_20 w ⟨⟨by have hb_ := z32 z_20; omega, by have hb_ := z32 z_20; omega⟩, rfl⟩ (by first | omega | decide | (dsimp only; omega) | (dsimp only; decide))
        ·
          refine s_aload_n E dX10_giverTo_39 rfl rfl ?_
          refine s_iload E dX10_giverTo_40 rfl ?_
          refine s_iload_n E dX10_giverTo_42 rfl rfl ?_
          refine s_vI (As := [AI q3_4_0, AI x1]) (S := []) E (Z_X10_doesGive_95 l D aC b w q3_4_0 x1 hJ.1 ⟨by have hb_ := z32 q3_4_0; omega, by have hb_ := z32 q3_4_0; omega⟩ ⟨by have hb_ := z32 x1; omega, by have hb_ := z32 x1; omega⟩) cv_X10_328 rfl rfl rfl (jv_lt hJ (by decide)) (Nat.le_of_ble_eq_true rfl) (Nat.le_of_ble_eq_true rfl) ⟨(Nat.le_of_ble_eq_true rfl), (Nat.le_of_ble_eq_true rfl)⟩ (Nat.le_of_ble_eq_true rfl) dX10_giverTo_43 (fun z_23 u_21 hp_22 => ?_)
          obtain ⟨hz_23, hp_22⟩ := hp_22
          subst hp_22
          refine z_if_eq (tgt := 52) (u := z_23.toInt) E dX10_giverTo_46 (by decide) rfl (fun h_25 => ?_) (fun h_25 => ?_)
          ·
            refine z_iinc (u := q3_4_0.toInt) (L2 := fun z_26 => [some (AR 95), some (AI x1), some (AI x2), some (AI x3), some (AI z_26)]) E dX10_giverTo_52 rfl rfl (by decide) (fun _ => rfl) (by decide) (by omega) (by omega) (fun z_26 hz_26 => ?_)
            refine s_goto (tgt := 3) E dX10_giverTo_55 (by decide) ?_
            exact ih3 z_26 w ⟨⟨by have hb_ := z32 z_26; omega, by have hb_ := z32 z_26; omega⟩, rfl⟩ (by first | omega | decide | (dsimp only; omega) | (dsimp only; decide))
          ·
            refine s_iload E dX10_giverTo_49 rfl ?_
            exact r_int E dX10_giverTo_51 ⟨⟨by have hb_ := z32 q3_4_0; omega, by have hb_ := z32 q3_4_0; omega, by first | (right; decide) | (have hb_ := z32 q3_4_0; omega) | (have hb_ := z32 q3_4_0; have hc_ := z32 (w.2.2.1 95 23); omega)⟩, (Or.inr ⟨by omega, by omega, hb21.mp (by omega)⟩), rfl⟩
set_option maxRecDepth 20000 in
set_option maxHeartbeats 2000000 in
theorem Z_X10_goNote_95 (l : Launch) (D : va_G) (aC : Nat → ClassId) (b : Nat) (w : XW) (x1 : Int32) (x2 : Int32) (hI : Iv w) (hx1 : 0 ≤ x1.toInt ∧ x1.toInt ≤ 5) (hx2 : 0 ≤ x2.toInt ∧ x2.toInt ≤ 14) : CnI l D aC b M_X10_goNote 3 69 0 0 [AR 95, AI x1, AI x2] w (fun r u => ((-2147483648) ≤ r.toInt ∧ r.toInt ≤ 2147483647) ∧ (HN (u.2.2.1 107) (u.2.2.1 108) x1.toInt) ∧ ((u.2.2.1 95) = (w.2.2.1 95)) ∧ ((u.2.2.1 96) = (w.2.2.1 96)) ∧ ((u.2.2.2) = (w.2.2.2)) ∧ Jv w u) := by
  refine cn_I (own := RX10) (nm := "goNote") (L0 := [some (AR 95), some (AI x1), some (AI x2), none, none, none, none, none]) (by decide +kernel) rfl rfl (Nat.le_of_ble_eq_true rfl) rfl ?_
  intro p e s m args below meth c E hin
  have hJ : Jv w w := jv_rfl hI
  refine s_aload_n E dX10_goNote_0 rfl rfl ?_
  refine s_gI E fg_X10_264 rfl rfl (jv_lt hJ (by decide)) dX10_goNote_1 ?_
  refine z_nm (P := fun z => z.toInt = (w.2.2.1 95 21).toInt ∧ (-2147483648) ≤ z.toInt ∧ z.toInt ≤ 2147483647) ⟨rfl, z32 _⟩ (fun z_1 hz_1 => ?_)
  refine s_iload_n E dX10_goNote_4 rfl rfl ?_
  refine s_sI (As := [AI z_1, AI x1]) (S := []) E (Z_X10_bit l D aC b w z_1 x1 hJ.1 ) cs_X10_252 rfl rfl (Nat.le_of_ble_eq_true rfl) (Nat.le_of_ble_eq_true rfl) ⟨(Nat.le_of_ble_eq_true rfl), (Nat.le_of_ble_eq_true rfl)⟩ (Nat.le_of_ble_eq_true rfl) dX10_goNote_5 (fun z_4 u_2 hp_3 => ?_)
  obtain ⟨hz_4, hxz_4, hp_3⟩ := hp_3
  subst hp_3
  refine s_iconst (v := 1) E dX10_goNote_8 (by decide) ?_
  refine z_icmp_ne (tgt := 16) (u := z_4.toInt) (v := 1) E dX10_goNote_9 (by decide) rfl (by decide) (fun h_6 => ?_) (fun h_6 => ?_)
  ·
    refine s_iconst (v := 1) E dX10_goNote_16 (by decide) ?_
    refine s_iload_n E dX10_goNote_17 rfl rfl ?_
    refine s_ishl E dX10_goNote_18 ?_
    refine z_nm (P := fun z => z = 1 <<< (x1 &&& 31) ∧ 1 ≤ z.toInt ∧ z.toInt ≤ 32) ⟨rfl, y_shl1 5 (by omega) (by omega) (by decide) (by decide)⟩ (fun z_7 hz_7 => ?_)
    refine s_istore_n (L2 := [some (AR 95), some (AI x1), some (AI x2), some (AI z_7), none, none, none, none]) E dX10_goNote_19 rfl (by decide) rfl ?_
    refine s_iconst (v := 0) E dX10_goNote_20 (by decide) ?_
    refine s_istore (L2 := [some (AR 95), some (AI x1), some (AI x2), some (AI z_7), some (AI 0), none, none, none]) E dX10_goNote_21 (by decide) rfl ?_
    refine z_loop (St := Int32) (Pi := fun q23_4_7 v23 => (0 ≤ q23_4_7.toInt ∧ q23_4_7.toInt ≤ 6) ∧ (GN0 (v23.2.2.1 107) x1.toInt q23_4_7.toInt) ∧ ((v23.2.2.1 95) = (w.2.2.1 95)) ∧ ((v23.2.2.1 96) = (w.2.2.1 96)) ∧ ((v23.2.2.2) = (w.2.2.2)) ∧ Jv w v23) (Lf := fun q23_4_7 => [some (AR 95), some (AI x1), some (AI x2), some (AI z_7), some (AI q23_4_7), none, none, none]) (fun q23_4_7 _ => (7 - q23_4_7.toInt).toNat) 0 ⟨⟨by decide, by decide⟩, (fun o h1_ => by have h0_ : (0 : Int32).toInt = 0 := by decide; omega), rfl, rfl, rfl, hJ⟩ ?_
    rintro q23_4_7 v23 ⟨hq23_4, hl23, hf23_95, hf23_96, hf23_L, hj_8⟩ ih23
    refine s_loc (L2 := [some (AR 95), some (AI x1), some (AI x2), some (AI z_7), some (AI q23_4_7), none, none, none]) rfl ?_
    refine s_iload E dX10_goNote_23 rfl ?_
    refine s_bipush (v := 6) E dX10_goNote_25 (by decide) ?_
    refine z_icmp_ge (tgt := 62) (u := q23_4_7.toInt) (v := 6) E dX10_goNote_27 (by decide) rfl (by decide) (fun h_9 => ?_) (fun h_9 => ?_)
    ·
      refine s_iconst (v := 0) E dX10_goNote_62 (by decide) ?_
      refine s_istore (L2 := [some (AR 95), some (AI x1), some (AI x2), some (AI z_7), some (AI 0), none, none, none]) E dX10_goNote_63 (by decide) rfl ?_
      refine z_loop (St := Int32 × Int32) (Pi := fun ⟨q65_3_9, q65_4_9⟩ v65 => (0 ≤ q65_4_9.toInt ∧ q65_4_9.toInt ≤ 15) ∧ (GN (v65.2.2.1 107) (v65.2.2.1 108) q65_3_9 x1.toInt q65_4_9.toInt) ∧ ((v65.2.2.1 95) = (w.2.2.1 95)) ∧ ((v65.2.2.1 96) = (w.2.2.1 96)) ∧ ((v65.2.2.2) = (w.2.2.2)) ∧ Jv w v65) (Lf := fun ⟨q65_3_9, q65_4_9⟩ => [some (AR 95), some (AI x1), some (AI x2), some (AI q65_3_9), some (AI q65_4_9), none, none, none]) (fun ⟨q65_3_9, q65_4_9⟩ _ => (16 - q65_4_9.toInt).toNat) ⟨z_7, 0⟩ ⟨⟨by decide, by decide⟩, (gn_start hl23 (by omega) (by first | exact fun o_ ho_ hh_ => absurd hh_ (by rw [b_0]; decide) | exact y_shlF (by omega) (by omega) (by assumption)) _), hf23_95, hf23_96, hf23_L, hj_8⟩ ?_
      rintro ⟨q65_3_9, q65_4_9⟩ v65 ⟨hq65_4, hl65, hf65_95, hf65_96, hf65_L, hj_10⟩ ih65
      have hbq65_3 := z32 q65_3_9
      refine s_loc (L2 := [some (AR 95), some (AI x1), some (AI x2), some (AI q65_3_9), some (AI q65_4_9), none, none, none]) rfl ?_
      refine s_iload E dX10_goNote_65 rfl ?_
      refine s_iload_n E dX10_goNote_67 rfl rfl ?_
      refine z_icmp_gt (tgt := 186) (u := q65_4_9.toInt) (v := x2.toInt) E dX10_goNote_68 (by decide) rfl rfl (fun h_11 => ?_) (fun h_11 => ?_)
      ·
        refine s_iload_n E dX10_goNote_186 rfl rfl ?_
        exact r_int E dX10_goNote_187 ⟨⟨by have hb_ := z32 q65_3_9; omega, by have hb_ := z32 q65_3_9; omega⟩, (gn_end hl65), hf65_95, hf65_96, hf65_L, hj_10⟩
      ·
        refine s_iload_n E dX10_goNote_71 rfl rfl ?_
        refine s_istore (L2 := [some (AR 95), some (AI x1), some (AI x2), some (AI q65_3_9), some (AI q65_4_9), some (AI q65_3_9), none, none]) E dX10_goNote_72 (by decide) rfl ?_
        refine s_iconst (v := 0) E dX10_goNote_74 (by decide) ?_
        refine s_istore (L2 := [some (AR 95), some (AI x1), some (AI x2), some (AI q65_3_9), some (AI q65_4_9), some (AI q65_3_9), some (AI 0), none]) E dX10_goNote_75 (by decide) rfl ?_
        refine z_loop (St := Int32 × Int32) (Pi := fun ⟨q77_5_11, q77_6_11⟩ v77 => (0 ≤ q77_6_11.toInt ∧ q77_6_11.toInt ≤ 6) ∧ (GI (v77.2.2.1 107) (v77.2.2.1 108) q65_3_9 q77_5_11 x1.toInt q65_4_9.toInt) ∧ ((v77.2.2.1 95) = (w.2.2.1 95)) ∧ ((v77.2.2.1 96) = (w.2.2.1 96)) ∧ ((v77.2.2.2) = (w.2.2.2)) ∧ Jv w v77) (Lf := fun ⟨q77_5_11, q77_6_11⟩ => [some (AR 95), some (AI x1), some (AI x2), some (AI q65_3_9), some (AI q65_4_9), some (AI q77_5_11), some (AI q77_6_11), none]) (fun ⟨q77_5_11, q77_6_11⟩ _ => (7 - q77_6_11.toInt).toNat) ⟨q65_3_9, 0⟩ ⟨⟨by decide, by decide⟩, (gi_start hl65), hf65_95, hf65_96, hf65_L, hj_10⟩ ?_
        rintro ⟨q77_5_11, q77_6_11⟩ v77 ⟨hq77_6, hl77, hf77_95, hf77_96, hf77_L, hj_12⟩ ih77
        have hbq77_5 := z32 q77_5_11
        refine s_loc (L2 := [some (AR 95), some (AI x1), some (AI x2), some (AI q65_3_9), some (AI q65_4_9), some (AI q77_5_11), some (AI q77_6_11), none]) rfl ?_
        refine s_iload E dX10_goNote_77 rfl ?_
        refine s_aload_n E dX10_goNote_79 rfl rfl ?_
        refine s_vI (As := []) (S := [AI q77_6_11]) E (Z_X10_ladies_95 l D aC b v77  hj_12.1 ) cv_X10_244 rfl rfl rfl (jv_lt hj_12 (by decide)) (Nat.le_of_ble_eq_true rfl) (Nat.le_of_ble_eq_true rfl) ⟨(Nat.le_of_ble_eq_true rfl), (Nat.le_of_ble_eq_true rfl)⟩ (Nat.le_of_ble_eq_true rfl) dX10_goNote_80 (fun z_15 u_13 hp_14 => ?_)
        obtain ⟨hz_15, hxz_15, hp_14⟩ := hp_14
        subst hp_14
        refine z_icmp_ge (tgt := 169) (u := q77_6_11.toInt) (v := z_15.toInt) E dX10_goNote_83 (by decide) rfl rfl (fun h_17 => ?_) (fun h_17 => ?_)
        ·
          refine s_iload E dX10_goNote_169 rfl ?_
          refine s_istore_n (L2 := [some (AR 95), some (AI x1), some (AI x2), some (AI q77_5_11), some (AI q65_4_9), some (AI q77_5_11), some (AI q77_6_11), none]) E dX10_goNote_171 rfl (by decide) rfl ?_
          refine s_aload_n E dX10_goNote_172 rfl rfl ?_
          refine s_gR (r := 106) E fg_X10_46 rfl rfl (jv_lt hj_12 (by decide)) (jv_r hj_12 (by decide +kernel)) dX10_goNote_173 ?_
          refine s_iload E dX10_goNote_176 rfl ?_
          refine s_iload_n E dX10_goNote_178 rfl rfl ?_
          refine s_iast E rfl (jv_lt hj_12 (by decide)) (z_in (u := q65_4_9.toInt) rfl (by omega) (by omega)) dX10_goNote_179 ?_
          have hj_19 : Jv w (upI v77 106 q65_4_9.toNatClampNeg q77_5_11) := (jv_a_106 hj_12 (by have hb_ := z32 q77_5_11; omega) (by have hb_ := z32 q77_5_11; omega))
          refine z_iinc (u := q65_4_9.toInt) (L2 := fun z_20 => [some (AR 95), some (AI x1), some (AI x2), some (AI q77_5_11), some (AI z_20), some (AI q77_5_11), some (AI q77_6_11), none]) E dX10_goNote_180 rfl rfl (by decide) (fun _ => rfl) (by decide) (by omega) (by omega) (fun z_20 hz_20 => ?_)
          refine s_goto (tgt := 65) E dX10_goNote_183 (by decide) ?_
          refine s_drop (i := 5) (L2 := [some (AR 95), some (AI x1), some (AI x2), some (AI q77_5_11), some (AI z_20), none, some (AI q77_6_11), none]) rfl ?_
          refine s_drop (i := 6) (L2 := [some (AR 95), some (AI x1), some (AI x2), some (AI q77_5_11), some (AI z_20), none, none, none]) rfl ?_
          exact ih65 ⟨q77_5_11, z_20⟩ (upI v77 106 q65_4_9.toNatClampNeg q77_5_11) ⟨⟨by have hb_ := z32 z_20; omega, by have hb_ := z32 z_20; omega⟩, (gn_nextW hl77 (by omega)), ((upI_ne (show 95 ≠ 106 by decide)).trans hf77_95), ((upI_ne (show 96 ≠ 106 by decide)).trans hf77_96), (show ((upI v77 106 q65_4_9.toNatClampNeg q77_5_11).2.2.2) = (w.2.2.2) from hf77_L), hj_19⟩ (by first | omega | decide | (dsimp only; omega) | (dsimp only; decide))
        ·
          refine s_aload_n E dX10_goNote_86 rfl rfl ?_
          refine s_gI E fg_X10_270 rfl rfl (jv_lt hj_12 (by decide)) dX10_goNote_87 ?_
          refine z_nm (P := fun z => z.toInt = (v77.2.2.1 95 24).toInt ∧ (-2147483648) ≤ z.toInt ∧ z.toInt ≤ 2147483647) ⟨rfl, z32 _⟩ (fun z_21 hz_21 => ?_)
          refine s_iload E dX10_goNote_90 rfl ?_
          refine s_sI (As := [AI z_21, AI q65_4_9]) (S := []) E (Z_X10_bit l D aC b v77 z_21 q65_4_9 hj_12.1 ) cs_X10_252 rfl rfl (Nat.le_of_ble_eq_true rfl) (Nat.le_of_ble_eq_true rfl) ⟨(Nat.le_of_ble_eq_true rfl), (Nat.le_of_ble_eq_true rfl)⟩ (Nat.le_of_ble_eq_true rfl) dX10_goNote_92 (fun z_24 u_22 hp_23 => ?_)
          obtain ⟨hz_24, hxz_24, hp_23⟩ := hp_23
          subst hp_23
          refine z_if_ne (tgt := 169) (u := z_24.toInt) E dX10_goNote_95 (by decide) rfl (fun h_26 => ?_) (fun h_26 => ?_)
          ·
            refine s_iload E dX10_goNote_169 rfl ?_
            refine s_istore_n (L2 := [some (AR 95), some (AI x1), some (AI x2), some (AI q77_5_11), some (AI q65_4_9), some (AI q77_5_11), some (AI q77_6_11), none]) E dX10_goNote_171 rfl (by decide) rfl ?_
            refine s_aload_n E dX10_goNote_172 rfl rfl ?_
            refine s_gR (r := 106) E fg_X10_46 rfl rfl (jv_lt hj_12 (by decide)) (jv_r hj_12 (by decide +kernel)) dX10_goNote_173 ?_
            refine s_iload E dX10_goNote_176 rfl ?_
            refine s_iload_n E dX10_goNote_178 rfl rfl ?_
            refine s_iast E rfl (jv_lt hj_12 (by decide)) (z_in (u := q65_4_9.toInt) rfl (by omega) (by omega)) dX10_goNote_179 ?_
            have hj_28 : Jv w (upI v77 106 q65_4_9.toNatClampNeg q77_5_11) := (jv_a_106 hj_12 (by have hb_ := z32 q77_5_11; omega) (by have hb_ := z32 q77_5_11; omega))
            refine z_iinc (u := q65_4_9.toInt) (L2 := fun z_29 => [some (AR 95), some (AI x1), some (AI x2), some (AI q77_5_11), some (AI z_29), some (AI q77_5_11), some (AI q77_6_11), none]) E dX10_goNote_180 rfl rfl (by decide) (fun _ => rfl) (by decide) (by omega) (by omega) (fun z_29 hz_29 => ?_)
            refine s_goto (tgt := 65) E dX10_goNote_183 (by decide) ?_
            refine s_drop (i := 5) (L2 := [some (AR 95), some (AI x1), some (AI x2), some (AI q77_5_11), some (AI z_29), none, some (AI q77_6_11), none]) rfl ?_
            refine s_drop (i := 6) (L2 := [some (AR 95), some (AI x1), some (AI x2), some (AI q77_5_11), some (AI z_29), none, none, none]) rfl ?_
            exact ih65 ⟨q77_5_11, z_29⟩ (upI v77 106 q65_4_9.toNatClampNeg q77_5_11) ⟨⟨by have hb_ := z32 z_29; omega, by have hb_ := z32 z_29; omega⟩, (gn_nextW hl77 (by omega)), ((upI_ne (show 95 ≠ 106 by decide)).trans hf77_95), ((upI_ne (show 96 ≠ 106 by decide)).trans hf77_96), (show ((upI v77 106 q65_4_9.toNatClampNeg q77_5_11).2.2.2) = (w.2.2.2) from hf77_L), hj_28⟩ (by first | omega | decide | (dsimp only; omega) | (dsimp only; decide))
          ·
            refine s_iload_n E dX10_goNote_98 rfl rfl ?_
            refine s_aload_n E dX10_goNote_99 rfl rfl ?_
            refine s_gI E fg_X10_264 rfl rfl (jv_lt hj_12 (by decide)) dX10_goNote_100 ?_
            refine z_nm (P := fun z => z.toInt = (v77.2.2.1 95 21).toInt ∧ (-2147483648) ≤ z.toInt ∧ z.toInt ≤ 2147483647) ⟨rfl, z32 _⟩ (fun z_30 hz_30 => ?_)
            refine s_ior E dX10_goNote_103 ?_
            refine z_nm (P := fun z => z = q65_3_9 ||| z_30 ∧ (-2147483648) ≤ z.toInt ∧ z.toInt ≤ 2147483647) ⟨rfl, z32 _⟩ (fun z_31 hz_31 => ?_)
            refine s_iload E dX10_goNote_104 rfl ?_
            refine s_sI (As := [AI z_31, AI q77_6_11]) (S := []) E (Z_X10_bit l D aC b v77 z_31 q77_6_11 hj_12.1 ) cs_X10_252 rfl rfl (Nat.le_of_ble_eq_true rfl) (Nat.le_of_ble_eq_true rfl) ⟨(Nat.le_of_ble_eq_true rfl), (Nat.le_of_ble_eq_true rfl)⟩ (Nat.le_of_ble_eq_true rfl) dX10_goNote_106 (fun z_34 u_32 hp_33 => ?_)
            obtain ⟨hz_34, hxz_34, hp_33⟩ := hp_33
            subst hp_33
            have hb106 := hxz_34 (by omega) (by omega)
            refine s_iconst (v := 1) E dX10_goNote_109 (by decide) ?_
            refine z_icmp_ne (tgt := 116) (u := z_34.toInt) (v := 1) E dX10_goNote_110 (by decide) rfl (by decide) (fun h_36 => ?_) (fun h_36 => ?_)
            ·
              replace hb106 : ¬ bt q65_3_9 q77_6_11.toInt.toNat = true := y_nb hb106 (by omega) (by assumption)
              refine s_aload_n E dX10_goNote_116 rfl rfl ?_
              refine s_iload E dX10_goNote_117 rfl ?_
              refine s_iload_n E dX10_goNote_119 rfl rfl ?_
              refine s_iload E dX10_goNote_120 rfl ?_
              refine s_vI (As := [AI q77_6_11, AI q65_3_9, AI q65_4_9]) (S := []) E (Z_X10_giverTo_95 l D aC b v77 q77_6_11 q65_3_9 q65_4_9 hj_12.1 ⟨by have hb_ := z32 q77_6_11; omega, by have hb_ := z32 q77_6_11; omega⟩ ⟨by have hb_ := z32 q65_4_9; omega, by have hb_ := z32 q65_4_9; omega⟩) cv_X10_332 rfl rfl rfl (jv_lt hj_12 (by decide)) (Nat.le_of_ble_eq_true rfl) (Nat.le_of_ble_eq_true rfl) ⟨(Nat.le_of_ble_eq_true rfl), (Nat.le_of_ble_eq_true rfl)⟩ (Nat.le_of_ble_eq_true rfl) dX10_goNote_122 (fun z_39 u_37 hp_38 => ?_)
              obtain ⟨hz_39, hxz_39, hp_38⟩ := hp_38
              subst hp_38
              have hx122 := hxz_39
              refine s_istore (L2 := [some (AR 95), some (AI x1), some (AI x2), some (AI q65_3_9), some (AI q65_4_9), some (AI q77_5_11), some (AI q77_6_11), some (AI z_39)]) E dX10_goNote_125 (by decide) rfl ?_
              refine s_iload E dX10_goNote_127 rfl ?_
              refine s_iconst (v := (-1)) E dX10_goNote_129 (by decide) ?_
              refine z_icmp_ne (tgt := 136) (u := z_39.toInt) (v := (-1)) E dX10_goNote_130 (by decide) rfl (by decide) (fun h_41 => ?_) (fun h_41 => ?_)
              ·
                have hg122 : 0 ≤ z_39.toInt ∧ z_39.toInt ≤ 5 ∧ bt q65_3_9 z_39.toInt.toNat = true := hx122.resolve_left (by omega)
                refine s_iload E dX10_goNote_136 rfl ?_
                refine s_iconst (v := 1) E dX10_goNote_138 (by decide) ?_
                refine s_iload E dX10_goNote_139 rfl ?_
                refine s_ishl E dX10_goNote_141 ?_
                refine z_nm (P := fun z => z = 1 <<< (q77_6_11 &&& 31) ∧ 1 ≤ z.toInt ∧ z.toInt ≤ 32) ⟨rfl, y_shl1 5 (by omega) (by omega) (by decide) (by decide)⟩ (fun z_42 hz_42 => ?_)
                refine s_ior E dX10_goNote_142 ?_
                refine z_nm (P := fun z => z = q77_5_11 ||| z_42 ∧ (-2147483648) ≤ z.toInt ∧ z.toInt ≤ 2147483647) ⟨rfl, z32 _⟩ (fun z_43 hz_43 => ?_)
                refine s_istore (L2 := [some (AR 95), some (AI x1), some (AI x2), some (AI q65_3_9), some (AI q65_4_9), some (AI z_43), some (AI q77_6_11), some (AI z_39)]) E dX10_goNote_143 (by decide) rfl ?_
                refine s_aload_n E dX10_goNote_145 rfl rfl ?_
                refine s_gR (r := 107) E fg_X10_49 rfl rfl (jv_lt hj_12 (by decide)) (jv_r hj_12 (by decide +kernel)) dX10_goNote_146 ?_
                refine s_iload E dX10_goNote_149 rfl ?_
                refine s_iload E dX10_goNote_151 rfl ?_
                refine s_iast E rfl (jv_lt hj_12 (by decide)) (z_in (u := q77_6_11.toInt) rfl (by omega) (by omega)) dX10_goNote_153 ?_
                have hj_45 : Jv w (upI v77 107 q77_6_11.toNatClampNeg q65_4_9) := (jv_a_107 hj_12 (by have hb_ := z32 q65_4_9; omega) (by have hb_ := z32 q65_4_9; omega))
                refine s_aload_n E dX10_goNote_154 rfl rfl ?_
                refine s_gR (r := 108) E fg_X10_52 rfl rfl (jv_lt hj_45 (by decide)) (jv_r hj_45 (by decide +kernel)) dX10_goNote_155 ?_
                refine s_iload E dX10_goNote_158 rfl ?_
                refine s_iload E dX10_goNote_160 rfl ?_
                refine s_iast E rfl (jv_lt hj_45 (by decide)) (z_in (u := q77_6_11.toInt) rfl (by omega) (by omega)) dX10_goNote_162 ?_
                have hj_47 : Jv w (upI (upI v77 107 q77_6_11.toNatClampNeg q65_4_9) 108 q77_6_11.toNatClampNeg z_39) := (jv_a_108 hj_45 (by have hb_ := z32 z_39; omega) (by have hb_ := z32 z_39; omega))
                refine z_iinc (u := q77_6_11.toInt) (L2 := fun z_48 => [some (AR 95), some (AI x1), some (AI x2), some (AI q65_3_9), some (AI q65_4_9), some (AI z_43), some (AI z_48), some (AI z_39)]) E dX10_goNote_163 rfl rfl (by decide) (fun _ => rfl) (by decide) (by omega) (by omega) (fun z_48 hz_48 => ?_)
                refine s_goto (tgt := 77) E dX10_goNote_166 (by decide) ?_
                refine s_drop (i := 7) (L2 := [some (AR 95), some (AI x1), some (AI x2), some (AI q65_3_9), some (AI q65_4_9), some (AI z_43), some (AI z_48), none]) rfl ?_
                exact ih77 ⟨z_43, z_48⟩ (upI (upI v77 107 q77_6_11.toNatClampNeg q65_4_9) 108 q77_6_11.toNatClampNeg z_39) ⟨⟨by have hb_ := z32 z_48; omega, by have hb_ := z32 z_48; omega⟩, (by first | exact hl77 | exact gi_upW hl77 (by omega) (by omega) (by omega) hb106 hg122 (by assumption) (by assumption)), ((upI_ne (show 95 ≠ 108 by decide)).trans ((upI_ne (show 95 ≠ 107 by decide)).trans hf77_95)), ((upI_ne (show 96 ≠ 108 by decide)).trans ((upI_ne (show 96 ≠ 107 by decide)).trans hf77_96)), (show ((upI (upI v77 107 q77_6_11.toNatClampNeg q65_4_9) 108 q77_6_11.toNatClampNeg z_39).2.2.2) = (w.2.2.2) from (show ((upI v77 107 q77_6_11.toNatClampNeg q65_4_9).2.2.2) = (w.2.2.2) from hf77_L)), hj_47⟩ (by first | omega | decide | (dsimp only; omega) | (dsimp only; decide))
              ·
                refine s_goto (tgt := 163) E dX10_goNote_133 (by decide) ?_
                refine z_iinc (u := q77_6_11.toInt) (L2 := fun z_49 => [some (AR 95), some (AI x1), some (AI x2), some (AI q65_3_9), some (AI q65_4_9), some (AI q77_5_11), some (AI z_49), some (AI z_39)]) E dX10_goNote_163 rfl rfl (by decide) (fun _ => rfl) (by decide) (by omega) (by omega) (fun z_49 hz_49 => ?_)
                refine s_goto (tgt := 77) E dX10_goNote_166 (by decide) ?_
                refine s_drop (i := 7) (L2 := [some (AR 95), some (AI x1), some (AI x2), some (AI q65_3_9), some (AI q65_4_9), some (AI q77_5_11), some (AI z_49), none]) rfl ?_
                exact ih77 ⟨q77_5_11, z_49⟩ v77 ⟨⟨by have hb_ := z32 z_49; omega, by have hb_ := z32 z_49; omega⟩, (by first | exact hl77 | exact gi_upW hl77 (by omega) (by omega) (by omega) hb106 hg122 (by assumption) (by assumption)), hf77_95, hf77_96, hf77_L, hj_12⟩ (by first | omega | decide | (dsimp only; omega) | (dsimp only; decide))
            ·
              refine s_goto (tgt := 163) E dX10_goNote_113 (by decide) ?_
              refine z_iinc (u := q77_6_11.toInt) (L2 := fun z_50 => [some (AR 95), some (AI x1), some (AI x2), some (AI q65_3_9), some (AI q65_4_9), some (AI q77_5_11), some (AI z_50), none]) E dX10_goNote_163 rfl rfl (by decide) (fun _ => rfl) (by decide) (by omega) (by omega) (fun z_50 hz_50 => ?_)
              refine s_goto (tgt := 77) E dX10_goNote_166 (by decide) ?_
              exact ih77 ⟨q77_5_11, z_50⟩ v77 ⟨⟨by have hb_ := z32 z_50; omega, by have hb_ := z32 z_50; omega⟩, (by first | exact hl77 | exact gi_upW hl77 (by omega) (by omega) (by omega) hb106 hg122 (by assumption) (by assumption)), hf77_95, hf77_96, hf77_L, hj_12⟩ (by first | omega | decide | (dsimp only; omega) | (dsimp only; decide))
    ·
      refine s_aload_n E dX10_goNote_30 rfl rfl ?_
      refine s_gR (r := 107) E fg_X10_49 rfl rfl (jv_lt hj_8 (by decide)) (jv_r hj_8 (by decide +kernel)) dX10_goNote_31 ?_
      refine s_iload E dX10_goNote_34 rfl ?_
      refine s_iload E dX10_goNote_36 rfl ?_
      refine s_iload_n E dX10_goNote_38 rfl rfl ?_
      refine z_icmp_ne (tgt := 46) (u := q23_4_7.toInt) (v := x1.toInt) E dX10_goNote_39 (by decide) rfl rfl (fun h_51 => ?_) (fun h_51 => ?_)
      ·
        refine s_iconst (v := (-1)) E dX10_goNote_46 (by decide) ?_
        refine s_iast E rfl (jv_lt hj_8 (by decide)) (z_in (u := q23_4_7.toInt) rfl (by omega) (by omega)) dX10_goNote_47 ?_
        have hj_53 : Jv w (upI v23 107 q23_4_7.toNatClampNeg (-1)) := (jv_a_107 hj_8 (by decide) (by decide))
        refine s_aload_n E dX10_goNote_48 rfl rfl ?_
        refine s_gR (r := 108) E fg_X10_52 rfl rfl (jv_lt hj_53 (by decide)) (jv_r hj_53 (by decide +kernel)) dX10_goNote_49 ?_
        refine s_iload E dX10_goNote_52 rfl ?_
        refine s_iconst (v := (-1)) E dX10_goNote_54 (by decide) ?_
        refine s_iast E rfl (jv_lt hj_53 (by decide)) (z_in (u := q23_4_7.toInt) rfl (by omega) (by omega)) dX10_goNote_55 ?_
        have hj_55 : Jv w (upI (upI v23 107 q23_4_7.toNatClampNeg (-1)) 108 q23_4_7.toNatClampNeg (-1)) := (jv_a_108 hj_53 (by decide) (by decide))
        refine z_iinc (u := q23_4_7.toInt) (L2 := fun z_56 => [some (AR 95), some (AI x1), some (AI x2), some (AI z_7), some (AI z_56), none, none, none]) E dX10_goNote_56 rfl rfl (by decide) (fun _ => rfl) (by decide) (by omega) (by omega) (fun z_56 hz_56 => ?_)
        refine s_goto (tgt := 23) E dX10_goNote_59 (by decide) ?_
        exact ih23 z_56 (upI (upI v23 107 q23_4_7.toNatClampNeg (-1)) 108 q23_4_7.toNatClampNeg (-1)) ⟨⟨by have hb_ := z32 z_56; omega, by have hb_ := z32 z_56; omega⟩, (gn0_W hl23 (by omega) (by first | exact Or.inl (by omega) | exact Or.inr (by decide)) (by omega)), ((upI_ne (show 95 ≠ 108 by decide)).trans ((upI_ne (show 95 ≠ 107 by decide)).trans hf23_95)), ((upI_ne (show 96 ≠ 108 by decide)).trans ((upI_ne (show 96 ≠ 107 by decide)).trans hf23_96)), (show ((upI (upI v23 107 q23_4_7.toNatClampNeg (-1)) 108 q23_4_7.toNatClampNeg (-1)).2.2.2) = (w.2.2.2) from (show ((upI v23 107 q23_4_7.toNatClampNeg (-1)).2.2.2) = (w.2.2.2) from hf23_L)), hj_55⟩ (by first | omega | decide | (dsimp only; omega) | (dsimp only; decide))
      ·
        refine s_iconst (v := 0) E dX10_goNote_42 (by decide) ?_
        refine s_goto (tgt := 47) E dX10_goNote_43 (by decide) ?_
        refine s_iast E rfl (jv_lt hj_8 (by decide)) (z_in (u := q23_4_7.toInt) rfl (by omega) (by omega)) dX10_goNote_47 ?_
        have hj_58 : Jv w (upI v23 107 q23_4_7.toNatClampNeg 0) := (jv_a_107 hj_8 (by decide) (by decide))
        refine s_aload_n E dX10_goNote_48 rfl rfl ?_
        refine s_gR (r := 108) E fg_X10_52 rfl rfl (jv_lt hj_58 (by decide)) (jv_r hj_58 (by decide +kernel)) dX10_goNote_49 ?_
        refine s_iload E dX10_goNote_52 rfl ?_
        refine s_iconst (v := (-1)) E dX10_goNote_54 (by decide) ?_
        refine s_iast E rfl (jv_lt hj_58 (by decide)) (z_in (u := q23_4_7.toInt) rfl (by omega) (by omega)) dX10_goNote_55 ?_
        have hj_60 : Jv w (upI (upI v23 107 q23_4_7.toNatClampNeg 0) 108 q23_4_7.toNatClampNeg (-1)) := (jv_a_108 hj_58 (by decide) (by decide))
        refine z_iinc (u := q23_4_7.toInt) (L2 := fun z_61 => [some (AR 95), some (AI x1), some (AI x2), some (AI z_7), some (AI z_61), none, none, none]) E dX10_goNote_56 rfl rfl (by decide) (fun _ => rfl) (by decide) (by omega) (by omega) (fun z_61 hz_61 => ?_)
        refine s_goto (tgt := 23) E dX10_goNote_59 (by decide) ?_
        exact ih23 z_61 (upI (upI v23 107 q23_4_7.toNatClampNeg 0) 108 q23_4_7.toNatClampNeg (-1)) ⟨⟨by have hb_ := z32 z_61; omega, by have hb_ := z32 z_61; omega⟩, (gn0_W hl23 (by omega) (by first | exact Or.inl (by omega) | exact Or.inr (by decide)) (by omega)), ((upI_ne (show 95 ≠ 108 by decide)).trans ((upI_ne (show 95 ≠ 107 by decide)).trans hf23_95)), ((upI_ne (show 96 ≠ 108 by decide)).trans ((upI_ne (show 96 ≠ 107 by decide)).trans hf23_96)), (show ((upI (upI v23 107 q23_4_7.toNatClampNeg 0) 108 q23_4_7.toNatClampNeg (-1)).2.2.2) = (w.2.2.2) from (show ((upI v23 107 q23_4_7.toNatClampNeg 0).2.2.2) = (w.2.2.2) from hf23_L)), hj_60⟩ (by first | omega | decide | (dsimp only; omega) | (dsimp only; decide))
  ·
    refine s_iconst (v := 0) E dX10_goNote_12 (by decide) ?_
    refine s_goto (tgt := 19) E dX10_goNote_13 (by decide) ?_
    refine s_istore_n (L2 := [some (AR 95), some (AI x1), some (AI x2), some (AI 0), none, none, none, none]) E dX10_goNote_19 rfl (by decide) rfl ?_
    refine s_iconst (v := 0) E dX10_goNote_20 (by decide) ?_
    refine s_istore (L2 := [some (AR 95), some (AI x1), some (AI x2), some (AI 0), some (AI 0), none, none, none]) E dX10_goNote_21 (by decide) rfl ?_
    refine z_loop (St := Int32) (Pi := fun q23_4_61 v23 => (0 ≤ q23_4_61.toInt ∧ q23_4_61.toInt ≤ 6) ∧ (GN0 (v23.2.2.1 107) x1.toInt q23_4_61.toInt) ∧ ((v23.2.2.1 95) = (w.2.2.1 95)) ∧ ((v23.2.2.1 96) = (w.2.2.1 96)) ∧ ((v23.2.2.2) = (w.2.2.2)) ∧ Jv w v23) (Lf := fun q23_4_61 => [some (AR 95), some (AI x1), some (AI x2), some (AI 0), some (AI q23_4_61), none, none, none]) (fun q23_4_61 _ => (7 - q23_4_61.toInt).toNat) 0 ⟨⟨by decide, by decide⟩, (fun o h1_ => by have h0_ : (0 : Int32).toInt = 0 := by decide; omega), rfl, rfl, rfl, hJ⟩ ?_
    rintro q23_4_61 v23 ⟨hq23_4, hl23, hf23_95, hf23_96, hf23_L, hj_62⟩ ih23
    refine s_loc (L2 := [some (AR 95), some (AI x1), some (AI x2), some (AI 0), some (AI q23_4_61), none, none, none]) rfl ?_
    refine s_iload E dX10_goNote_23 rfl ?_
    refine s_bipush (v := 6) E dX10_goNote_25 (by decide) ?_
    refine z_icmp_ge (tgt := 62) (u := q23_4_61.toInt) (v := 6) E dX10_goNote_27 (by decide) rfl (by decide) (fun h_63 => ?_) (fun h_63 => ?_)
    ·
      refine s_iconst (v := 0) E dX10_goNote_62 (by decide) ?_
      refine s_istore (L2 := [some (AR 95), some (AI x1), some (AI x2), some (AI 0), some (AI 0), none, none, none]) E dX10_goNote_63 (by decide) rfl ?_
      refine z_loop (St := Int32 × Int32) (Pi := fun ⟨q65_3_63, q65_4_63⟩ v65 => (0 ≤ q65_4_63.toInt ∧ q65_4_63.toInt ≤ 15) ∧ (GN (v65.2.2.1 107) (v65.2.2.1 108) q65_3_63 x1.toInt q65_4_63.toInt) ∧ ((v65.2.2.1 95) = (w.2.2.1 95)) ∧ ((v65.2.2.1 96) = (w.2.2.1 96)) ∧ ((v65.2.2.2) = (w.2.2.2)) ∧ Jv w v65) (Lf := fun ⟨q65_3_63, q65_4_63⟩ => [some (AR 95), some (AI x1), some (AI x2), some (AI q65_3_63), some (AI q65_4_63), none, none, none]) (fun ⟨q65_3_63, q65_4_63⟩ _ => (16 - q65_4_63.toInt).toNat) ⟨0, 0⟩ ⟨⟨by decide, by decide⟩, (gn_start hl23 (by omega) (by first | exact fun o_ ho_ hh_ => absurd hh_ (by rw [b_0]; decide) | exact y_shlF (by omega) (by omega) (by assumption)) _), hf23_95, hf23_96, hf23_L, hj_62⟩ ?_
      rintro ⟨q65_3_63, q65_4_63⟩ v65 ⟨hq65_4, hl65, hf65_95, hf65_96, hf65_L, hj_64⟩ ih65
      have hbq65_3 := z32 q65_3_63
      refine s_loc (L2 := [some (AR 95), some (AI x1), some (AI x2), some (AI q65_3_63), some (AI q65_4_63), none, none, none]) rfl ?_
      refine s_iload E dX10_goNote_65 rfl ?_
      refine s_iload_n E dX10_goNote_67 rfl rfl ?_
      refine z_icmp_gt (tgt := 186) (u := q65_4_63.toInt) (v := x2.toInt) E dX10_goNote_68 (by decide) rfl rfl (fun h_65 => ?_) (fun h_65 => ?_)
      ·
        refine s_iload_n E dX10_goNote_186 rfl rfl ?_
        exact r_int E dX10_goNote_187 ⟨⟨by have hb_ := z32 q65_3_63; omega, by have hb_ := z32 q65_3_63; omega⟩, (gn_end hl65), hf65_95, hf65_96, hf65_L, hj_64⟩
      ·
        refine s_iload_n E dX10_goNote_71 rfl rfl ?_
        refine s_istore (L2 := [some (AR 95), some (AI x1), some (AI x2), some (AI q65_3_63), some (AI q65_4_63), some (AI q65_3_63), none, none]) E dX10_goNote_72 (by decide) rfl ?_
        refine s_iconst (v := 0) E dX10_goNote_74 (by decide) ?_
        refine s_istore (L2 := [some (AR 95), some (AI x1), some (AI x2), some (AI q65_3_63), some (AI q65_4_63), some (AI q65_3_63), some (AI 0), none]) E dX10_goNote_75 (by decide) rfl ?_
        refine z_loop (St := Int32 × Int32) (Pi := fun ⟨q77_5_65, q77_6_65⟩ v77 => (0 ≤ q77_6_65.toInt ∧ q77_6_65.toInt ≤ 6) ∧ (GI (v77.2.2.1 107) (v77.2.2.1 108) q65_3_63 q77_5_65 x1.toInt q65_4_63.toInt) ∧ ((v77.2.2.1 95) = (w.2.2.1 95)) ∧ ((v77.2.2.1 96) = (w.2.2.1 96)) ∧ ((v77.2.2.2) = (w.2.2.2)) ∧ Jv w v77) (Lf := fun ⟨q77_5_65, q77_6_65⟩ => [some (AR 95), some (AI x1), some (AI x2), some (AI q65_3_63), some (AI q65_4_63), some (AI q77_5_65), some (AI q77_6_65), none]) (fun ⟨q77_5_65, q77_6_65⟩ _ => (7 - q77_6_65.toInt).toNat) ⟨q65_3_63, 0⟩ ⟨⟨by decide, by decide⟩, (gi_start hl65), hf65_95, hf65_96, hf65_L, hj_64⟩ ?_
        rintro ⟨q77_5_65, q77_6_65⟩ v77 ⟨hq77_6, hl77, hf77_95, hf77_96, hf77_L, hj_66⟩ ih77
        have hbq77_5 := z32 q77_5_65
        refine s_loc (L2 := [some (AR 95), some (AI x1), some (AI x2), some (AI q65_3_63), some (AI q65_4_63), some (AI q77_5_65), some (AI q77_6_65), none]) rfl ?_
        refine s_iload E dX10_goNote_77 rfl ?_
        refine s_aload_n E dX10_goNote_79 rfl rfl ?_
        refine s_vI (As := []) (S := [AI q77_6_65]) E (Z_X10_ladies_95 l D aC b v77  hj_66.1 ) cv_X10_244 rfl rfl rfl (jv_lt hj_66 (by decide)) (Nat.le_of_ble_eq_true rfl) (Nat.le_of_ble_eq_true rfl) ⟨(Nat.le_of_ble_eq_true rfl), (Nat.le_of_ble_eq_true rfl)⟩ (Nat.le_of_ble_eq_true rfl) dX10_goNote_80 (fun z_69 u_67 hp_68 => ?_)
        obtain ⟨hz_69, hxz_69, hp_68⟩ := hp_68
        subst hp_68
        refine z_icmp_ge (tgt := 169) (u := q77_6_65.toInt) (v := z_69.toInt) E dX10_goNote_83 (by decide) rfl rfl (fun h_71 => ?_) (fun h_71 => ?_)
        ·
          refine s_iload E dX10_goNote_169 rfl ?_
          refine s_istore_n (L2 := [some (AR 95), some (AI x1), some (AI x2), some (AI q77_5_65), some (AI q65_4_63), some (AI q77_5_65), some (AI q77_6_65), none]) E dX10_goNote_171 rfl (by decide) rfl ?_
          refine s_aload_n E dX10_goNote_172 rfl rfl ?_
          refine s_gR (r := 106) E fg_X10_46 rfl rfl (jv_lt hj_66 (by decide)) (jv_r hj_66 (by decide +kernel)) dX10_goNote_173 ?_
          refine s_iload E dX10_goNote_176 rfl ?_
          refine s_iload_n E dX10_goNote_178 rfl rfl ?_
          refine s_iast E rfl (jv_lt hj_66 (by decide)) (z_in (u := q65_4_63.toInt) rfl (by omega) (by omega)) dX10_goNote_179 ?_
          have hj_73 : Jv w (upI v77 106 q65_4_63.toNatClampNeg q77_5_65) := (jv_a_106 hj_66 (by have hb_ := z32 q77_5_65; omega) (by have hb_ := z32 q77_5_65; omega))
          refine z_iinc (u := q65_4_63.toInt) (L2 := fun z_74 => [some (AR 95), some (AI x1), some (AI x2), some (AI q77_5_65), some (AI z_74), some (AI q77_5_65), some (AI q77_6_65), none]) E dX10_goNote_180 rfl rfl (by decide) (fun _ => rfl) (by decide) (by omega) (by omega) (fun z_74 hz_74 => ?_)
          refine s_goto (tgt := 65) E dX10_goNote_183 (by decide) ?_
          refine s_drop (i := 5) (L2 := [some (AR 95), some (AI x1), some (AI x2), some (AI q77_5_65), some (AI z_74), none, some (AI q77_6_65), none]) rfl ?_
          refine s_drop (i := 6) (L2 := [some (AR 95), some (AI x1), some (AI x2), some (AI q77_5_65), some (AI z_74), none, none, none]) rfl ?_
          exact ih65 ⟨q77_5_65, z_74⟩ (upI v77 106 q65_4_63.toNatClampNeg q77_5_65) ⟨⟨by have hb_ := z32 z_74; omega, by have hb_ := z32 z_74; omega⟩, (gn_nextW hl77 (by omega)), ((upI_ne (show 95 ≠ 106 by decide)).trans hf77_95), ((upI_ne (show 96 ≠ 106 by decide)).trans hf77_96), (show ((upI v77 106 q65_4_63.toNatClampNeg q77_5_65).2.2.2) = (w.2.2.2) from hf77_L), hj_73⟩ (by first | omega | decide | (dsimp only; omega) | (dsimp only; decide))
        ·
          refine s_aload_n E dX10_goNote_86 rfl rfl ?_
          refine s_gI E fg_X10_270 rfl rfl (jv_lt hj_66 (by decide)) dX10_goNote_87 ?_
          refine z_nm (P := fun z => z.toInt = (v77.2.2.1 95 24).toInt ∧ (-2147483648) ≤ z.toInt ∧ z.toInt ≤ 2147483647) ⟨rfl, z32 _⟩ (fun z_75 hz_75 => ?_)
          refine s_iload E dX10_goNote_90 rfl ?_
          refine s_sI (As := [AI z_75, AI q65_4_63]) (S := []) E (Z_X10_bit l D aC b v77 z_75 q65_4_63 hj_66.1 ) cs_X10_252 rfl rfl (Nat.le_of_ble_eq_true rfl) (Nat.le_of_ble_eq_true rfl) ⟨(Nat.le_of_ble_eq_true rfl), (Nat.le_of_ble_eq_true rfl)⟩ (Nat.le_of_ble_eq_true rfl) dX10_goNote_92 (fun z_78 u_76 hp_77 => ?_)
          obtain ⟨hz_78, hxz_78, hp_77⟩ := hp_77
          subst hp_77
          refine z_if_ne (tgt := 169) (u := z_78.toInt) E dX10_goNote_95 (by decide) rfl (fun h_80 => ?_) (fun h_80 => ?_)
          ·
            refine s_iload E dX10_goNote_169 rfl ?_
            refine s_istore_n (L2 := [some (AR 95), some (AI x1), some (AI x2), some (AI q77_5_65), some (AI q65_4_63), some (AI q77_5_65), some (AI q77_6_65), none]) E dX10_goNote_171 rfl (by decide) rfl ?_
            refine s_aload_n E dX10_goNote_172 rfl rfl ?_
            refine s_gR (r := 106) E fg_X10_46 rfl rfl (jv_lt hj_66 (by decide)) (jv_r hj_66 (by decide +kernel)) dX10_goNote_173 ?_
            refine s_iload E dX10_goNote_176 rfl ?_
            refine s_iload_n E dX10_goNote_178 rfl rfl ?_
            refine s_iast E rfl (jv_lt hj_66 (by decide)) (z_in (u := q65_4_63.toInt) rfl (by omega) (by omega)) dX10_goNote_179 ?_
            have hj_82 : Jv w (upI v77 106 q65_4_63.toNatClampNeg q77_5_65) := (jv_a_106 hj_66 (by have hb_ := z32 q77_5_65; omega) (by have hb_ := z32 q77_5_65; omega))
            refine z_iinc (u := q65_4_63.toInt) (L2 := fun z_83 => [some (AR 95), some (AI x1), some (AI x2), some (AI q77_5_65), some (AI z_83), some (AI q77_5_65), some (AI q77_6_65), none]) E dX10_goNote_180 rfl rfl (by decide) (fun _ => rfl) (by decide) (by omega) (by omega) (fun z_83 hz_83 => ?_)
            refine s_goto (tgt := 65) E dX10_goNote_183 (by decide) ?_
            refine s_drop (i := 5) (L2 := [some (AR 95), some (AI x1), some (AI x2), some (AI q77_5_65), some (AI z_83), none, some (AI q77_6_65), none]) rfl ?_
            refine s_drop (i := 6) (L2 := [some (AR 95), some (AI x1), some (AI x2), some (AI q77_5_65), some (AI z_83), none, none, none]) rfl ?_
            exact ih65 ⟨q77_5_65, z_83⟩ (upI v77 106 q65_4_63.toNatClampNeg q77_5_65) ⟨⟨by have hb_ := z32 z_83; omega, by have hb_ := z32 z_83; omega⟩, (gn_nextW hl77 (by omega)), ((upI_ne (show 95 ≠ 106 by decide)).trans hf77_95), ((upI_ne (show 96 ≠ 106 by decide)).trans hf77_96), (show ((upI v77 106 q65_4_63.toNatClampNeg q77_5_65).2.2.2) = (w.2.2.2) from hf77_L), hj_82⟩ (by first | omega | decide | (dsimp only; omega) | (dsimp only; decide))
          ·
            refine s_iload_n E dX10_goNote_98 rfl rfl ?_
            refine s_aload_n E dX10_goNote_99 rfl rfl ?_
            refine s_gI E fg_X10_264 rfl rfl (jv_lt hj_66 (by decide)) dX10_goNote_100 ?_
            refine z_nm (P := fun z => z.toInt = (v77.2.2.1 95 21).toInt ∧ (-2147483648) ≤ z.toInt ∧ z.toInt ≤ 2147483647) ⟨rfl, z32 _⟩ (fun z_84 hz_84 => ?_)
            refine s_ior E dX10_goNote_103 ?_
            refine z_nm (P := fun z => z = q65_3_63 ||| z_84 ∧ (-2147483648) ≤ z.toInt ∧ z.toInt ≤ 2147483647) ⟨rfl, z32 _⟩ (fun z_85 hz_85 => ?_)
            refine s_iload E dX10_goNote_104 rfl ?_
            refine s_sI (As := [AI z_85, AI q77_6_65]) (S := []) E (Z_X10_bit l D aC b v77 z_85 q77_6_65 hj_66.1 ) cs_X10_252 rfl rfl (Nat.le_of_ble_eq_true rfl) (Nat.le_of_ble_eq_true rfl) ⟨(Nat.le_of_ble_eq_true rfl), (Nat.le_of_ble_eq_true rfl)⟩ (Nat.le_of_ble_eq_true rfl) dX10_goNote_106 (fun z_88 u_86 hp_87 => ?_)
            obtain ⟨hz_88, hxz_88, hp_87⟩ := hp_87
            subst hp_87
            have hb106 := hxz_88 (by omega) (by omega)
            refine s_iconst (v := 1) E dX10_goNote_109 (by decide) ?_
            refine z_icmp_ne (tgt := 116) (u := z_88.toInt) (v := 1) E dX10_goNote_110 (by decide) rfl (by decide) (fun h_90 => ?_) (fun h_90 => ?_)
            ·
              replace hb106 : ¬ bt q65_3_63 q77_6_65.toInt.toNat = true := y_nb hb106 (by omega) (by assumption)
              refine s_aload_n E dX10_goNote_116 rfl rfl ?_
              refine s_iload E dX10_goNote_117 rfl ?_
              refine s_iload_n E dX10_goNote_119 rfl rfl ?_
              refine s_iload E dX10_goNote_120 rfl ?_
              refine s_vI (As := [AI q77_6_65, AI q65_3_63, AI q65_4_63]) (S := []) E (Z_X10_giverTo_95 l D aC b v77 q77_6_65 q65_3_63 q65_4_63 hj_66.1 ⟨by have hb_ := z32 q77_6_65; omega, by have hb_ := z32 q77_6_65; omega⟩ ⟨by have hb_ := z32 q65_4_63; omega, by have hb_ := z32 q65_4_63; omega⟩) cv_X10_332 rfl rfl rfl (jv_lt hj_66 (by decide)) (Nat.le_of_ble_eq_true rfl) (Nat.le_of_ble_eq_true rfl) ⟨(Nat.le_of_ble_eq_true rfl), (Nat.le_of_ble_eq_true rfl)⟩ (Nat.le_of_ble_eq_true rfl) dX10_goNote_122 (fun z_93 u_91 hp_92 => ?_)
              obtain ⟨hz_93, hxz_93, hp_92⟩ := hp_92
              subst hp_92
              have hx122 := hxz_93
              refine s_istore (L2 := [some (AR 95), some (AI x1), some (AI x2), some (AI q65_3_63), some (AI q65_4_63), some (AI q77_5_65), some (AI q77_6_65), some (AI z_93)]) E dX10_goNote_125 (by decide) rfl ?_
              refine s_iload E dX10_goNote_127 rfl ?_
              refine s_iconst (v := (-1)) E dX10_goNote_129 (by decide) ?_
              refine z_icmp_ne (tgt := 136) (u := z_93.toInt) (v := (-1)) E dX10_goNote_130 (by decide) rfl (by decide) (fun h_95 => ?_) (fun h_95 => ?_)
              ·
                have hg122 : 0 ≤ z_93.toInt ∧ z_93.toInt ≤ 5 ∧ bt q65_3_63 z_93.toInt.toNat = true := hx122.resolve_left (by omega)
                refine s_iload E dX10_goNote_136 rfl ?_
                refine s_iconst (v := 1) E dX10_goNote_138 (by decide) ?_
                refine s_iload E dX10_goNote_139 rfl ?_
                refine s_ishl E dX10_goNote_141 ?_
                refine z_nm (P := fun z => z = 1 <<< (q77_6_65 &&& 31) ∧ 1 ≤ z.toInt ∧ z.toInt ≤ 32) ⟨rfl, y_shl1 5 (by omega) (by omega) (by decide) (by decide)⟩ (fun z_96 hz_96 => ?_)
                refine s_ior E dX10_goNote_142 ?_
                refine z_nm (P := fun z => z = q77_5_65 ||| z_96 ∧ (-2147483648) ≤ z.toInt ∧ z.toInt ≤ 2147483647) ⟨rfl, z32 _⟩ (fun z_97 hz_97 => ?_)
                refine s_istore (L2 := [some (AR 95), some (AI x1), some (AI x2), some (AI q65_3_63), some (AI q65_4_63), some (AI z_97), some (AI q77_6_65), some (AI z_93)]) E dX10_goNote_143 (by decide) rfl ?_
                refine s_aload_n E dX10_goNote_145 rfl rfl ?_
                refine s_gR (r := 107) E fg_X10_49 rfl rfl (jv_lt hj_66 (by decide)) (jv_r hj_66 (by decide +kernel)) dX10_goNote_146 ?_
                refine s_iload E dX10_goNote_149 rfl ?_
                refine s_iload E dX10_goNote_151 rfl ?_
                refine s_iast E rfl (jv_lt hj_66 (by decide)) (z_in (u := q77_6_65.toInt) rfl (by omega) (by omega)) dX10_goNote_153 ?_
                have hj_99 : Jv w (upI v77 107 q77_6_65.toNatClampNeg q65_4_63) := (jv_a_107 hj_66 (by have hb_ := z32 q65_4_63; omega) (by have hb_ := z32 q65_4_63; omega))
                refine s_aload_n E dX10_goNote_154 rfl rfl ?_
                refine s_gR (r := 108) E fg_X10_52 rfl rfl (jv_lt hj_99 (by decide)) (jv_r hj_99 (by decide +kernel)) dX10_goNote_155 ?_
                refine s_iload E dX10_goNote_158 rfl ?_
                refine s_iload E dX10_goNote_160 rfl ?_
                refine s_iast E rfl (jv_lt hj_99 (by decide)) (z_in (u := q77_6_65.toInt) rfl (by omega) (by omega)) dX10_goNote_162 ?_
                have hj_101 : Jv w (upI (upI v77 107 q77_6_65.toNatClampNeg q65_4_63) 108 q77_6_65.toNatClampNeg z_93) := (jv_a_108 hj_99 (by have hb_ := z32 z_93; omega) (by have hb_ := z32 z_93; omega))
                refine z_iinc (u := q77_6_65.toInt) (L2 := fun z_102 => [some (AR 95), some (AI x1), some (AI x2), some (AI q65_3_63), some (AI q65_4_63), some (AI z_97), some (AI z_102), some (AI z_93)]) E dX10_goNote_163 rfl rfl (by decide) (fun _ => rfl) (by decide) (by omega) (by omega) (fun z_102 hz_102 => ?_)
                refine s_goto (tgt := 77) E dX10_goNote_166 (by decide) ?_
                refine s_drop (i := 7) (L2 := [some (AR 95), some (AI x1), some (AI x2), some (AI q65_3_63), some (AI q65_4_63), some (AI z_97), some (AI z_102), none]) rfl ?_
                exact ih77 ⟨z_97, z_102⟩ (upI (upI v77 107 q77_6_65.toNatClampNeg q65_4_63) 108 q77_6_65.toNatClampNeg z_93) ⟨⟨by have hb_ := z32 z_102; omega, by have hb_ := z32 z_102; omega⟩, (by first | exact hl77 | exact gi_upW hl77 (by omega) (by omega) (by omega) hb106 hg122 (by assumption) (by assumption)), ((upI_ne (show 95 ≠ 108 by decide)).trans ((upI_ne (show 95 ≠ 107 by decide)).trans hf77_95)), ((upI_ne (show 96 ≠ 108 by decide)).trans ((upI_ne (show 96 ≠ 107 by decide)).trans hf77_96)), (show ((upI (upI v77 107 q77_6_65.toNatClampNeg q65_4_63) 108 q77_6_65.toNatClampNeg z_93).2.2.2) = (w.2.2.2) from (show ((upI v77 107 q77_6_65.toNatClampNeg q65_4_63).2.2.2) = (w.2.2.2) from hf77_L)), hj_101⟩ (by first | omega | decide | (dsimp only; omega) | (dsimp only; decide))
              ·
                refine s_goto (tgt := 163) E dX10_goNote_133 (by decide) ?_
                refine z_iinc (u := q77_6_65.toInt) (L2 := fun z_103 => [some (AR 95), some (AI x1), some (AI x2), some (AI q65_3_63), some (AI q65_4_63), some (AI q77_5_65), some (AI z_103), some (AI z_93)]) E dX10_goNote_163 rfl rfl (by decide) (fun _ => rfl) (by decide) (by omega) (by omega) (fun z_103 hz_103 => ?_)
                refine s_goto (tgt := 77) E dX10_goNote_166 (by decide) ?_
                refine s_drop (i := 7) (L2 := [some (AR 95), some (AI x1), some (AI x2), some (AI q65_3_63), some (AI q65_4_63), some (AI q77_5_65), some (AI z_103), none]) rfl ?_
                exact ih77 ⟨q77_5_65, z_103⟩ v77 ⟨⟨by have hb_ := z32 z_103; omega, by have hb_ := z32 z_103; omega⟩, (by first | exact hl77 | exact gi_upW hl77 (by omega) (by omega) (by omega) hb106 hg122 (by assumption) (by assumption)), hf77_95, hf77_96, hf77_L, hj_66⟩ (by first | omega | decide | (dsimp only; omega) | (dsimp only; decide))
            ·
              refine s_goto (tgt := 163) E dX10_goNote_113 (by decide) ?_
              refine z_iinc (u := q77_6_65.toInt) (L2 := fun z_104 => [some (AR 95), some (AI x1), some (AI x2), some (AI q65_3_63), some (AI q65_4_63), some (AI q77_5_65), some (AI z_104), none]) E dX10_goNote_163 rfl rfl (by decide) (fun _ => rfl) (by decide) (by omega) (by omega) (fun z_104 hz_104 => ?_)
              refine s_goto (tgt := 77) E dX10_goNote_166 (by decide) ?_
              exact ih77 ⟨q77_5_65, z_104⟩ v77 ⟨⟨by have hb_ := z32 z_104; omega, by have hb_ := z32 z_104; omega⟩, (by first | exact hl77 | exact gi_upW hl77 (by omega) (by omega) (by omega) hb106 hg122 (by assumption) (by assumption)), hf77_95, hf77_96, hf77_L, hj_66⟩ (by first | omega | decide | (dsimp only; omega) | (dsimp only; decide))
    ·
      refine s_aload_n E dX10_goNote_30 rfl rfl ?_
      refine s_gR (r := 107) E fg_X10_49 rfl rfl (jv_lt hj_62 (by decide)) (jv_r hj_62 (by decide +kernel)) dX10_goNote_31 ?_
      refine s_iload E dX10_goNote_34 rfl ?_
      refine s_iload E dX10_goNote_36 rfl ?_
      refine s_iload_n E dX10_goNote_38 rfl rfl ?_
      refine z_icmp_ne (tgt := 46) (u := q23_4_61.toInt) (v := x1.toInt) E dX10_goNote_39 (by decide) rfl rfl (fun h_105 => ?_) (fun h_105 => ?_)
      ·
        refine s_iconst (v := (-1)) E dX10_goNote_46 (by decide) ?_
        refine s_iast E rfl (jv_lt hj_62 (by decide)) (z_in (u := q23_4_61.toInt) rfl (by omega) (by omega)) dX10_goNote_47 ?_
        have hj_107 : Jv w (upI v23 107 q23_4_61.toNatClampNeg (-1)) := (jv_a_107 hj_62 (by decide) (by decide))
        refine s_aload_n E dX10_goNote_48 rfl rfl ?_
        refine s_gR (r := 108) E fg_X10_52 rfl rfl (jv_lt hj_107 (by decide)) (jv_r hj_107 (by decide +kernel)) dX10_goNote_49 ?_
        refine s_iload E dX10_goNote_52 rfl ?_
        refine s_iconst (v := (-1)) E dX10_goNote_54 (by decide) ?_
        refine s_iast E rfl (jv_lt hj_107 (by decide)) (z_in (u := q23_4_61.toInt) rfl (by omega) (by omega)) dX10_goNote_55 ?_
        have hj_109 : Jv w (upI (upI v23 107 q23_4_61.toNatClampNeg (-1)) 108 q23_4_61.toNatClampNeg (-1)) := (jv_a_108 hj_107 (by decide) (by decide))
        refine z_iinc (u := q23_4_61.toInt) (L2 := fun z_110 => [some (AR 95), some (AI x1), some (AI x2), some (AI 0), some (AI z_110), none, none, none]) E dX10_goNote_56 rfl rfl (by decide) (fun _ => rfl) (by decide) (by omega) (by omega) (fun z_110 hz_110 => ?_)
        refine s_goto (tgt := 23) E dX10_goNote_59 (by decide) ?_
        exact ih23 z_110 (upI (upI v23 107 q23_4_61.toNatClampNeg (-1)) 108 q23_4_61.toNatClampNeg (-1)) ⟨⟨by have hb_ := z32 z_110; omega, by have hb_ := z32 z_110; omega⟩, (gn0_W hl23 (by omega) (by first | exact Or.inl (by omega) | exact Or.inr (by decide)) (by omega)), ((upI_ne (show 95 ≠ 108 by decide)).trans ((upI_ne (show 95 ≠ 107 by decide)).trans hf23_95)), ((upI_ne (show 96 ≠ 108 by decide)).trans ((upI_ne (show 96 ≠ 107 by decide)).trans hf23_96)), (show ((upI (upI v23 107 q23_4_61.toNatClampNeg (-1)) 108 q23_4_61.toNatClampNeg (-1)).2.2.2) = (w.2.2.2) from (show ((upI v23 107 q23_4_61.toNatClampNeg (-1)).2.2.2) = (w.2.2.2) from hf23_L)), hj_109⟩ (by first | omega | decide | (dsimp only; omega) | (dsimp only; decide))
      ·
        refine s_iconst (v := 0) E dX10_goNote_42 (by decide) ?_
        refine s_goto (tgt := 47) E dX10_goNote_43 (by decide) ?_
        refine s_iast E rfl (jv_lt hj_62 (by decide)) (z_in (u := q23_4_61.toInt) rfl (by omega) (by omega)) dX10_goNote_47 ?_
        have hj_112 : Jv w (upI v23 107 q23_4_61.toNatClampNeg 0) := (jv_a_107 hj_62 (by decide) (by decide))
        refine s_aload_n E dX10_goNote_48 rfl rfl ?_
        refine s_gR (r := 108) E fg_X10_52 rfl rfl (jv_lt hj_112 (by decide)) (jv_r hj_112 (by decide +kernel)) dX10_goNote_49 ?_
        refine s_iload E dX10_goNote_52 rfl ?_
        refine s_iconst (v := (-1)) E dX10_goNote_54 (by decide) ?_
        refine s_iast E rfl (jv_lt hj_112 (by decide)) (z_in (u := q23_4_61.toInt) rfl (by omega) (by omega)) dX10_goNote_55 ?_
        have hj_114 : Jv w (upI (upI v23 107 q23_4_61.toNatClampNeg 0) 108 q23_4_61.toNatClampNeg (-1)) := (jv_a_108 hj_112 (by decide) (by decide))
        refine z_iinc (u := q23_4_61.toInt) (L2 := fun z_115 => [some (AR 95), some (AI x1), some (AI x2), some (AI 0), some (AI z_115), none, none, none]) E dX10_goNote_56 rfl rfl (by decide) (fun _ => rfl) (by decide) (by omega) (by omega) (fun z_115 hz_115 => ?_)
        refine s_goto (tgt := 23) E dX10_goNote_59 (by decide) ?_
        exact ih23 z_115 (upI (upI v23 107 q23_4_61.toNatClampNeg 0) 108 q23_4_61.toNatClampNeg (-1)) ⟨⟨by have hb_ := z32 z_115; omega, by have hb_ := z32 z_115; omega⟩, (gn0_W hl23 (by omega) (by first | exact Or.inl (by omega) | exact Or.inr (by decide)) (by omega)), ((upI_ne (show 95 ≠ 108 by decide)).trans ((upI_ne (show 95 ≠ 107 by decide)).trans hf23_95)), ((upI_ne (show 96 ≠ 108 by decide)).trans ((upI_ne (show 96 ≠ 107 by decide)).trans hf23_96)), (show ((upI (upI v23 107 q23_4_61.toNatClampNeg 0) 108 q23_4_61.toNatClampNeg (-1)).2.2.2) = (w.2.2.2) from (show ((upI v23 107 q23_4_61.toNatClampNeg 0).2.2.2) = (w.2.2.2) from hf23_L)), hj_114⟩ (by first | omega | decide | (dsimp only; omega) | (dsimp only; decide))
set_option maxRecDepth 20000 in
set_option maxHeartbeats 2000000 in
theorem Z_X10_goNote__95 (l : Launch) (D : va_G) (aC : Nat → ClassId) (b : Nat) (w : XW) (x1 : Int32) (hI : Iv w) (hx1 : 0 ≤ x1.toInt ∧ x1.toInt ≤ 5) : CnI l D aC b M_X10_goNote_ 4 96 0 0 [AR 95, AI x1] w (fun r u => ((-2147483648) ≤ r.toInt ∧ r.toInt ≤ 2147483647) ∧ (HN (u.2.2.1 107) (u.2.2.1 108) x1.toInt) ∧ Jv w u) := by
  refine cn_I (own := RX10) (nm := "goNote") (L0 := [some (AR 95), some (AI x1)]) (by decide +kernel) rfl rfl (Nat.le_of_ble_eq_true rfl) rfl ?_
  intro p e s m args below meth c E hin
  have hJ : Jv w w := jv_rfl hI
  refine s_aload_n E dX10_goNote__0 rfl rfl ?_
  refine s_iload_n E dX10_goNote__1 rfl rfl ?_
  refine s_aload_n E dX10_goNote__2 rfl rfl ?_
  refine s_vI (As := []) (S := [AI x1, AR 95]) E (Z_X10_dances_95 l D aC b w  hJ.1 ) cv_X10_247 rfl rfl rfl (jv_lt hJ (by decide)) (Nat.le_of_ble_eq_true rfl) (Nat.le_of_ble_eq_true rfl) ⟨(Nat.le_of_ble_eq_true rfl), (Nat.le_of_ble_eq_true rfl)⟩ (Nat.le_of_ble_eq_true rfl) dX10_goNote__3 (fun z_3 u_1 hp_2 => ?_)
  obtain ⟨hz_3, hxz_3, hp_2⟩ := hp_2
  subst hp_2
  refine s_vI (As := [AI x1, AI z_3]) (S := []) E (Z_X10_goNote_95 l D aC b w x1 z_3 hJ.1 ⟨by have hb_ := z32 x1; omega, by have hb_ := z32 x1; omega⟩ ⟨by have hb_ := z32 z_3; omega, by have hb_ := z32 z_3; omega⟩) cv_X10_335 rfl rfl rfl (jv_lt hJ (by decide)) (Nat.le_of_ble_eq_true rfl) (Nat.le_of_ble_eq_true rfl) ⟨(Nat.le_of_ble_eq_true rfl), (Nat.le_of_ble_eq_true rfl)⟩ (Nat.le_of_ble_eq_true rfl) dX10_goNote__6 (fun z_7 u_5 hp_6 => ?_)
  obtain ⟨hz_7, hxz_7, hf_u_5_95, hf_u_5_96, hf_u_5_L, hp_6⟩ := hp_6
  have hj_8 := jv_trans hJ hp_6
  have hxn_ := hxz_7
  exact r_int E dX10_goNote__9 ⟨⟨by have hb_ := z32 z_7; omega, by have hb_ := z32 z_7; omega⟩, (hxn_), hj_8⟩
set_option maxRecDepth 20000 in
set_option maxHeartbeats 2000000 in
theorem Z_X10_hears_95 (l : Launch) (D : va_G) (aC : Nat → ClassId) (b : Nat) (w : XW) (x1 : Int32) (hI : Iv w)  : CnI l D aC b M_X10_hears 5 117 0 0 [AR 95, AI x1] w (fun r u => ((-2147483648) ≤ r.toInt ∧ r.toInt ≤ 2147483647 ∧ (¬ r.toInt = 0 ∨ (0 ≤ x1.toInt ∧ x1.toInt ≤ 5))) ∧ Jv w u) := by
  refine cn_I (own := RX10) (nm := "hears") (L0 := [some (AR 95), some (AI x1), none, none]) (by decide +kernel) rfl rfl (Nat.le_of_ble_eq_true rfl) rfl ?_
  intro p e s m args below meth c E hin
  have hJ : Jv w w := jv_rfl hI
  have hb_x1 := z32 x1
  refine s_aload_n E dX10_hears_0 rfl rfl ?_
  refine s_iload_n E dX10_hears_1 rfl rfl ?_
  refine s_vI (As := [AI x1]) (S := []) E (Z_X10_asksLady_95 l D aC b w x1 hJ.1 ) cv_X10_288 rfl rfl rfl (jv_lt hJ (by decide)) (Nat.le_of_ble_eq_true rfl) (Nat.le_of_ble_eq_true rfl) ⟨(Nat.le_of_ble_eq_true rfl), (Nat.le_of_ble_eq_true rfl)⟩ (Nat.le_of_ble_eq_true rfl) dX10_hears_2 (fun z_3 u_1 hp_2 => ?_)
  obtain ⟨hz_3, hp_2⟩ := hp_2
  have hj_4 := jv_trans hJ hp_2
  refine z_if_ne (tgt := 11) (u := z_3.toInt) E dX10_hears_5 (by decide) rfl (fun h_5 => ?_) (fun h_5 => ?_)
  ·
    refine s_iconst (v := 0) E dX10_hears_11 (by decide) ?_
    refine s_istore_n (L2 := [some (AR 95), some (AI x1), some (AI 0), none]) E dX10_hears_12 rfl (by decide) rfl ?_
    refine s_iconst (v := 0) E dX10_hears_13 (by decide) ?_
    refine s_istore_n (L2 := [some (AR 95), some (AI x1), some (AI 0), some (AI 0)]) E dX10_hears_14 rfl (by decide) rfl ?_
    refine z_loop (St := Int32 × Int32) (Pi := fun ⟨q15_2_5, q15_3_5⟩ v15 => (0 ≤ q15_3_5.toInt ∧ q15_3_5.toInt ≤ 6) ∧ Jv w v15) (Lf := fun ⟨q15_2_5, q15_3_5⟩ => [some (AR 95), some (AI x1), some (AI q15_2_5), some (AI q15_3_5)]) (fun ⟨q15_2_5, q15_3_5⟩ _ => (7 - q15_3_5.toInt).toNat) ⟨0, 0⟩ ⟨⟨by decide, by decide⟩, hj_4⟩ ?_
    rintro ⟨q15_2_5, q15_3_5⟩ v15 ⟨hq15_3, hj_6⟩ ih15
    have hbq15_2 := z32 q15_2_5
    refine s_loc (L2 := [some (AR 95), some (AI x1), some (AI q15_2_5), some (AI q15_3_5)]) rfl ?_
    refine s_iload_n E dX10_hears_15 rfl rfl ?_
    refine s_aload_n E dX10_hears_16 rfl rfl ?_
    refine s_vI (As := []) (S := [AI q15_3_5]) E (Z_X10_ladies_95 l D aC b v15  hj_6.1 ) cv_X10_244 rfl rfl rfl (jv_lt hj_6 (by decide)) (Nat.le_of_ble_eq_true rfl) (Nat.le_of_ble_eq_true rfl) ⟨(Nat.le_of_ble_eq_true rfl), (Nat.le_of_ble_eq_true rfl)⟩ (Nat.le_of_ble_eq_true rfl) dX10_hears_17 (fun z_9 u_7 hp_8 => ?_)
    obtain ⟨hz_9, hxz_9, hp_8⟩ := hp_8
    subst hp_8
    refine z_icmp_ge (tgt := 43) (u := q15_3_5.toInt) (v := z_9.toInt) E dX10_hears_20 (by decide) rfl rfl (fun h_11 => ?_) (fun h_11 => ?_)
    ·
      refine s_iload_n E dX10_hears_43 rfl rfl ?_
      exact r_int E dX10_hears_44 ⟨⟨by have hb_ := z32 q15_2_5; omega, by have hb_ := z32 q15_2_5; omega, by first | (right; decide) | (have hb_ := z32 q15_2_5; omega) | (have hb_ := z32 q15_2_5; have hc_ := z32 x1; omega)⟩, hj_6⟩
    ·
      refine s_iload_n E dX10_hears_23 rfl rfl ?_
      refine s_aload_n E dX10_hears_24 rfl rfl ?_
      refine s_iload_n E dX10_hears_25 rfl rfl ?_
      refine s_vI (As := [AI q15_3_5]) (S := [AI q15_2_5]) E (Z_X10_goNote__95 l D aC b v15 q15_3_5 hj_6.1 ⟨by have hb_ := z32 q15_3_5; omega, by have hb_ := z32 q15_3_5; omega⟩) cv_X10_338 rfl rfl rfl (jv_lt hj_6 (by decide)) (Nat.le_of_ble_eq_true rfl) (Nat.le_of_ble_eq_true rfl) ⟨(Nat.le_of_ble_eq_true rfl), (Nat.le_of_ble_eq_true rfl)⟩ (Nat.le_of_ble_eq_true rfl) dX10_hears_26 (fun z_14 u_12 hp_13 => ?_)
      obtain ⟨hz_14, hxz_14, hp_13⟩ := hp_13
      have hj_15 := jv_trans hj_6 hp_13
      refine s_iload_n E dX10_hears_29 rfl rfl ?_
      refine s_sI (As := [AI z_14, AI x1]) (S := [AI q15_2_5]) E (Z_X10_bit l D aC b u_12 z_14 x1 hj_15.1 ) cs_X10_252 rfl rfl (Nat.le_of_ble_eq_true rfl) (Nat.le_of_ble_eq_true rfl) ⟨(Nat.le_of_ble_eq_true rfl), (Nat.le_of_ble_eq_true rfl)⟩ (Nat.le_of_ble_eq_true rfl) dX10_hears_30 (fun z_18 u_16 hp_17 => ?_)
      obtain ⟨hz_18, hxz_18, hp_17⟩ := hp_17
      subst hp_17
      refine s_iload_n E dX10_hears_33 rfl rfl ?_
      refine s_ishl E dX10_hears_34 ?_
      refine z_nm (P := fun z => (-2147483648) ≤ z.toInt ∧ z.toInt ≤ 2147483647) (z32 _) (fun z_20 hz_20 => ?_)
      refine s_ior E dX10_hears_35 ?_
      refine z_nm (P := fun z => (-2147483648) ≤ z.toInt ∧ z.toInt ≤ 2147483647) (z32 _) (fun z_21 hz_21 => ?_)
      refine s_istore_n (L2 := [some (AR 95), some (AI x1), some (AI z_21), some (AI q15_3_5)]) E dX10_hears_36 rfl (by decide) rfl ?_
      refine z_iinc (u := q15_3_5.toInt) (L2 := fun z_22 => [some (AR 95), some (AI x1), some (AI z_21), some (AI z_22)]) E dX10_hears_37 rfl rfl (by decide) (fun _ => rfl) (by decide) (by omega) (by omega) (fun z_22 hz_22 => ?_)
      refine s_goto (tgt := 15) E dX10_hears_40 (by decide) ?_
      exact ih15 ⟨z_21, z_22⟩ u_12 ⟨⟨by have hb_ := z32 z_22; omega, by have hb_ := z32 z_22; omega⟩, hj_15⟩ (by first | omega | decide | (dsimp only; omega) | (dsimp only; decide))
  ·
    refine s_bipush (v := (-2)) E dX10_hears_8 (by decide) ?_
    exact r_int E dX10_hears_10 ⟨⟨by decide, by decide, by first | (left; decide) | (right; decide) | (right; have hb_ := z32 x1; omega)⟩, hj_4⟩
set_option maxRecDepth 20000 in
set_option maxHeartbeats 2000000 in
theorem Z_X10_asksNote_95 (l : Launch) (D : va_G) (aC : Nat → ClassId) (b : Nat) (w : XW) (x1 : Int32) (x2 : Int32) (hI : Iv w)  : CnI l D aC b M_X10_asksNote 5 117 0 0 [AR 95, AI x1, AI x2] w (fun r u => (0 ≤ r.toInt ∧ r.toInt ≤ 1 ∧ (r.toInt = 0 ∨ (0 ≤ x1.toInt ∧ x1.toInt ≤ 5)) ∧ (r.toInt = 0 ∨ (0 ≤ x2.toInt ∧ x2.toInt ≤ 5))) ∧ (r.toInt = 0 ∨ HN (u.2.2.1 107) (u.2.2.1 108) x1.toInt) ∧ Jv w u) := by
  refine cn_I (own := RX10) (nm := "asksNote") (L0 := [some (AR 95), some (AI x1), some (AI x2)]) (by decide +kernel) rfl rfl (Nat.le_of_ble_eq_true rfl) rfl ?_
  intro p e s m args below meth c E hin
  have hJ : Jv w w := jv_rfl hI
  have hb_x1 := z32 x1
  have hb_x2 := z32 x2
  refine s_aload_n E dX10_asksNote_0 rfl rfl ?_
  refine s_iload_n E dX10_asksNote_1 rfl rfl ?_
  refine s_vI (As := [AI x1]) (S := []) E (Z_X10_asksLady_95 l D aC b w x1 hJ.1 ) cv_X10_288 rfl rfl rfl (jv_lt hJ (by decide)) (Nat.le_of_ble_eq_true rfl) (Nat.le_of_ble_eq_true rfl) ⟨(Nat.le_of_ble_eq_true rfl), (Nat.le_of_ble_eq_true rfl)⟩ (Nat.le_of_ble_eq_true rfl) dX10_asksNote_2 (fun z_3 u_1 hp_2 => ?_)
  obtain ⟨hz_3, hp_2⟩ := hp_2
  have hj_4 := jv_trans hJ hp_2
  refine z_if_eq (tgt := 17) (u := z_3.toInt) E dX10_asksNote_5 (by decide) rfl (fun h_5 => ?_) (fun h_5 => ?_)
  ·
    refine s_iconst (v := 0) E dX10_asksNote_17 (by decide) ?_
    exact r_bool E dX10_asksNote_18 (Or.inl rfl) ⟨⟨by decide, by decide, by first | (left; decide) | (right; decide) | (right; have hb_ := z32 x1; omega), by first | (left; decide) | (right; decide) | (right; have hb_ := z32 x2; omega)⟩, (Or.inl (by decide)), hj_4⟩
  ·
    refine s_aload_n E dX10_asksNote_8 rfl rfl ?_
    refine s_iload_n E dX10_asksNote_9 rfl rfl ?_
    refine z_i2l (u := x2.toInt) E dX10_asksNote_10 rfl (fun z_6 hz_6 => ?_)
    refine s_vI (As := [AL z_6]) (S := []) E (Z_X10_isLady_95 l D aC b u_1 z_6 hj_4.1 ) cv_X10_222 rfl rfl rfl (jv_lt hj_4 (by decide)) (Nat.le_of_ble_eq_true rfl) (Nat.le_of_ble_eq_true rfl) ⟨(Nat.le_of_ble_eq_true rfl), (Nat.le_of_ble_eq_true rfl)⟩ (Nat.le_of_ble_eq_true rfl) dX10_asksNote_11 (fun z_9 u_7 hp_8 => ?_)
    obtain ⟨hz_9, hp_8⟩ := hp_8
    subst hp_8
    refine z_if_ne (tgt := 19) (u := z_9.toInt) E dX10_asksNote_14 (by decide) rfl (fun h_11 => ?_) (fun h_11 => ?_)
    ·
      refine s_aload_n E dX10_asksNote_19 rfl rfl ?_
      refine s_iload_n E dX10_asksNote_20 rfl rfl ?_
      refine s_vI (As := [AI x1]) (S := []) E (Z_X10_goNote__95 l D aC b u_1 x1 hj_4.1 ⟨by have hb_ := z32 x1; omega, by have hb_ := z32 x1; omega⟩) cv_X10_338 rfl rfl rfl (jv_lt hj_4 (by decide)) (Nat.le_of_ble_eq_true rfl) (Nat.le_of_ble_eq_true rfl) ⟨(Nat.le_of_ble_eq_true rfl), (Nat.le_of_ble_eq_true rfl)⟩ (Nat.le_of_ble_eq_true rfl) dX10_asksNote_21 (fun z_14 u_12 hp_13 => ?_)
      obtain ⟨hz_14, hxz_14, hp_13⟩ := hp_13
      have hj_15 := jv_trans hj_4 hp_13
      have hn_ := hxz_14
      refine s_popI E dX10_asksNote_24 ?_
      refine s_iconst (v := 1) E dX10_asksNote_25 (by decide) ?_
      exact r_bool E dX10_asksNote_26 (Or.inr rfl) ⟨⟨by decide, by decide, by first | (left; decide) | (right; decide) | (right; have hb_ := z32 x1; omega), by first | (left; decide) | (right; decide) | (right; have hb_ := z32 x2; omega)⟩, (Or.inr hn_), hj_15⟩
    ·
      refine s_iconst (v := 0) E dX10_asksNote_17 (by decide) ?_
      exact r_bool E dX10_asksNote_18 (Or.inl rfl) ⟨⟨by decide, by decide, by first | (left; decide) | (right; decide) | (right; have hb_ := z32 x1; omega), by first | (left; decide) | (right; decide) | (right; have hb_ := z32 x2; omega)⟩, (Or.inl (by decide)), hj_4⟩
set_option maxRecDepth 20000 in
set_option maxHeartbeats 2000000 in
theorem Z_X10_hands_95 (l : Launch) (D : va_G) (aC : Nat → ClassId) (b : Nat) (w : XW) (x1 : Int32) (x2 : Int32) (hI : Iv w)  : CnI l D aC b M_X10_hands 6 139 0 0 [AR 95, AI x1, AI x2] w (fun r u => ((-2147483648) ≤ r.toInt ∧ r.toInt ≤ 2147483647 ∧ (¬ r.toInt = 0 ∨ (0 ≤ x1.toInt ∧ x1.toInt ≤ 5)) ∧ (¬ r.toInt = 0 ∨ (0 ≤ x2.toInt ∧ x2.toInt ≤ 5))) ∧ Jv w u) := by
  refine cn_I (own := RX10) (nm := "hands") (L0 := [some (AR 95), some (AI x1), some (AI x2), none, none]) (by decide +kernel) rfl rfl (Nat.le_of_ble_eq_true rfl) rfl ?_
  intro p e s m args below meth c E hin
  have hJ : Jv w w := jv_rfl hI
  have hb_x1 := z32 x1
  have hb_x2 := z32 x2
  refine s_aload_n E dX10_hands_0 rfl rfl ?_
  refine s_iload_n E dX10_hands_1 rfl rfl ?_
  refine s_iload_n E dX10_hands_2 rfl rfl ?_
  refine s_vI (As := [AI x1, AI x2]) (S := []) E (Z_X10_asksNote_95 l D aC b w x1 x2 hJ.1 ) cv_X10_340 rfl rfl rfl (jv_lt hJ (by decide)) (Nat.le_of_ble_eq_true rfl) (Nat.le_of_ble_eq_true rfl) ⟨(Nat.le_of_ble_eq_true rfl), (Nat.le_of_ble_eq_true rfl)⟩ (Nat.le_of_ble_eq_true rfl) dX10_hands_3 (fun z_3 u_1 hp_2 => ?_)
  obtain ⟨hz_3, hxz_3, hp_2⟩ := hp_2
  have hj_4 := jv_trans hJ hp_2
  have hn_ := hxz_3
  refine z_if_ne (tgt := 12) (u := z_3.toInt) E dX10_hands_6 (by decide) rfl (fun h_5 => ?_) (fun h_5 => ?_)
  ·
    replace hn_ := hn_.resolve_left (by omega)
    refine s_aload_n E dX10_hands_12 rfl rfl ?_
    refine s_gR (r := 107) E fg_X10_49 rfl rfl (jv_lt hj_4 (by decide)) (jv_r hj_4 (by decide +kernel)) dX10_hands_13 ?_
    refine s_iload_n E dX10_hands_16 rfl rfl ?_
    refine s_iald E rfl (jv_lt hj_4 (by decide)) (z_in (u := x2.toInt) rfl (by omega) (by omega)) dX10_hands_17 ?_
    refine z_nm (P := fun z => z.toInt = (u_1.2.2.1 107 x2.toNatClampNeg).toInt ∧ (-1) ≤ z.toInt ∧ z.toInt ≤ 14) ⟨rfl, (ra_107 hj_4 _)⟩ (fun z_6 hz_6 => ?_)
    refine s_iconst (v := (-1)) E dX10_hands_18 (by decide) ?_
    refine z_icmp_ne (tgt := 24) (u := z_6.toInt) (v := (-1)) E dX10_hands_19 (by decide) rfl (by decide) (fun h_7 => ?_) (fun h_7 => ?_)
    ·
      refine s_iconst (v := 0) E dX10_hands_24 (by decide) ?_
      refine s_istore_n (L2 := [some (AR 95), some (AI x1), some (AI x2), some (AI 0), none]) E dX10_hands_25 rfl (by decide) rfl ?_
      refine s_iload_n E dX10_hands_26 rfl rfl ?_
      refine s_istore (L2 := [some (AR 95), some (AI x1), some (AI x2), some (AI 0), some (AI x2)]) E dX10_hands_27 (by decide) rfl ?_
      refine z_loop (St := Int32 × Int32) (Pi := fun ⟨q29_3_7, q29_4_7⟩ v29 => (0 ≤ q29_4_7.toInt ∧ q29_4_7.toInt ≤ 5) ∧ (q29_4_7.toInt = x1.toInt ∨ ¬ (u_1.2.2.1 107 q29_4_7.toNatClampNeg).toInt = -1) ∧ u_1 = v29) (Lf := fun ⟨q29_3_7, q29_4_7⟩ => [some (AR 95), some (AI x1), some (AI x2), some (AI q29_3_7), some (AI q29_4_7)]) (fun ⟨q29_3_7, q29_4_7⟩ v29 => (if q29_4_7.toInt = x1.toInt then 0 else ((v29.2.2.1 107 q29_4_7.toNatClampNeg).toInt + 2).toNat)) ⟨0, x2⟩ ⟨⟨by have hb_ := z32 x2; omega, by have hb_ := z32 x2; omega⟩, (Or.inr (by omega)), rfl⟩ ?_
      rintro ⟨q29_3_7, q29_4_7⟩ v29 ⟨hq29_4, hl29, hv_⟩ ih29
      subst hv_
      have hbq29_3 := z32 q29_3_7
      refine s_loc (L2 := [some (AR 95), some (AI x1), some (AI x2), some (AI q29_3_7), some (AI q29_4_7)]) rfl ?_
      refine s_iload E dX10_hands_29 rfl ?_
      refine s_iload_n E dX10_hands_31 rfl rfl ?_
      refine z_icmp_eq (tgt := 50) (u := q29_4_7.toInt) (v := x1.toInt) E dX10_hands_32 (by decide) rfl rfl (fun h_9 => ?_) (fun h_9 => ?_)
      ·
        refine s_iload_n E dX10_hands_50 rfl rfl ?_
        exact r_int E dX10_hands_51 ⟨⟨by have hb_ := z32 q29_3_7; omega, by have hb_ := z32 q29_3_7; omega, by first | (right; decide) | (have hb_ := z32 q29_3_7; omega) | (have hb_ := z32 q29_3_7; have hc_ := z32 x1; omega), by first | (right; decide) | (have hb_ := z32 q29_3_7; omega) | (have hb_ := z32 q29_3_7; have hc_ := z32 x2; omega)⟩, hj_4⟩
      ·
        obtain ⟨g1_, g2_, g3_⟩ := hn_ q29_4_7.toNatClampNeg (by have e_ : q29_4_7.toNatClampNeg = q29_4_7.toInt.toNat := rfl; omega) (by have e_ : q29_4_7.toNatClampNeg = q29_4_7.toInt.toNat := rfl; omega) (hl29.resolve_left (by omega))
        have gr_ := ra_107 hj_4 q29_4_7.toNatClampNeg
        refine z_iincW (L2 := fun z_10 => [some (AR 95), some (AI x1), some (AI x2), some (AI z_10), some (AI q29_4_7)]) E dX10_hands_35 rfl (by decide) (fun _ => rfl) (fun z_10 => ?_)
        refine s_aload_n E dX10_hands_38 rfl rfl ?_
        refine s_gR (r := 108) E fg_X10_52 rfl rfl (jv_lt hj_4 (by decide)) (jv_r hj_4 (by decide +kernel)) dX10_hands_39 ?_
        refine s_iload E dX10_hands_42 rfl ?_
        refine s_iald E rfl (jv_lt hj_4 (by decide)) (z_in (u := q29_4_7.toInt) rfl (by omega) (by omega)) dX10_hands_44 ?_
        refine z_nm (P := fun z => z.toInt = (u_1.2.2.1 108 q29_4_7.toNatClampNeg).toInt ∧ (-1) ≤ z.toInt ∧ z.toInt ≤ 5) ⟨rfl, (ra_108 hj_4 _)⟩ (fun z_11 hz_11 => ?_)
        have hO_ : z_11.toInt = x1.toInt ∨ (¬ (u_1.2.2.1 107 z_11.toNatClampNeg).toInt = -1 ∧ (u_1.2.2.1 107 z_11.toNatClampNeg).toInt < (u_1.2.2.1 107 q29_4_7.toNatClampNeg).toInt) := by have e_ : z_11.toNatClampNeg = (u_1.2.2.1 108 q29_4_7.toNatClampNeg).toInt.toNat := (by have e2_ : z_11.toNatClampNeg = z_11.toInt.toNat := rfl; omega); rw [e_]; omega
        refine s_istore (L2 := [some (AR 95), some (AI x1), some (AI x2), some (AI z_10), some (AI z_11)]) E dX10_hands_45 (by decide) rfl ?_
        refine s_goto (tgt := 29) E dX10_hands_47 (by decide) ?_
        exact ih29 ⟨z_10, z_11⟩ u_1 ⟨⟨by have hb_ := z32 z_11; omega, by have hb_ := z32 z_11; omega⟩, (hO_.elim Or.inl (fun h_ => Or.inr h_.1)), rfl⟩ (by dsimp only; split <;> split <;> omega)
    ·
      refine s_iconst (v := (-1)) E dX10_hands_22 (by decide) ?_
      exact r_int E dX10_hands_23 ⟨⟨by decide, by decide, by first | (left; decide) | (right; decide) | (right; have hb_ := z32 x1; omega), by first | (left; decide) | (right; decide) | (right; have hb_ := z32 x2; omega)⟩, hj_4⟩
  ·
    refine s_bipush (v := (-2)) E dX10_hands_9 (by decide) ?_
    exact r_int E dX10_hands_11 ⟨⟨by decide, by decide, by first | (left; decide) | (right; decide) | (right; have hb_ := z32 x1; omega), by first | (left; decide) | (right; decide) | (right; have hb_ := z32 x2; omega)⟩, hj_4⟩
set_option maxRecDepth 20000 in
set_option maxHeartbeats 2000000 in
theorem Z_X10_allLadies_95 (l : Launch) (D : va_G) (aC : Nat → ClassId) (b : Nat) (w : XW)  (hI : Iv w)  : CnI l D aC b M_X10_allLadies 1 20 0 0 [AR 95] w (fun r u => (0 ≤ r.toInt ∧ r.toInt ≤ 63) ∧ w = u) := by
  refine cn_I (own := RX10) (nm := "allLadies") (L0 := [some (AR 95)]) (by decide +kernel) rfl rfl (Nat.le_of_ble_eq_true rfl) rfl ?_
  intro p e s m args below meth c E hin
  have hJ : Jv w w := jv_rfl hI
  refine s_iconst (v := 1) E dX10_allLadies_0 (by decide) ?_
  refine s_aload_n E dX10_allLadies_1 rfl rfl ?_
  refine s_vI (As := []) (S := [AI 1]) E (Z_X10_ladies_95 l D aC b w  hJ.1 ) cv_X10_244 rfl rfl rfl (jv_lt hJ (by decide)) (Nat.le_of_ble_eq_true rfl) (Nat.le_of_ble_eq_true rfl) ⟨(Nat.le_of_ble_eq_true rfl), (Nat.le_of_ble_eq_true rfl)⟩ (Nat.le_of_ble_eq_true rfl) dX10_allLadies_2 (fun z_3 u_1 hp_2 => ?_)
  obtain ⟨hz_3, hxz_3, hp_2⟩ := hp_2
  subst hp_2
  refine z_shl1 6 (u := z_3.toInt) (B := 64) E dX10_allLadies_5 rfl (by omega) (by omega) (by decide) (by decide) (fun z_5 hz_5 => ?_)
  refine s_iconst (v := 1) E dX10_allLadies_6 (by decide) ?_
  refine z_isub (u := z_5.toInt) (v := 1) E dX10_allLadies_7 rfl (by decide) (by omega) (by omega) (fun z_6 hz_6 => ?_)
  exact r_int E dX10_allLadies_8 ⟨⟨by have hb_ := z32 z_6; omega, by have hb_ := z32 z_6; omega⟩, rfl⟩
set_option maxRecDepth 20000 in
set_option maxHeartbeats 2000000 in
theorem Z_X10_seatsIn_95 (l : Launch) (D : va_G) (aC : Nat → ClassId) (b : Nat) (w : XW) (x1 : Int32) (hI : Iv w)  : CnI l D aC b M_X10_seatsIn 1 21 0 0 [AR 95, AI x1] w (fun r u => ((-2147483648) ≤ r.toInt ∧ r.toInt ≤ 2147483647) ∧ w = u) := by
  refine cn_I (own := RX10) (nm := "seatsIn") (L0 := [some (AR 95), some (AI x1), none, none]) (by decide +kernel) rfl rfl (Nat.le_of_ble_eq_true rfl) rfl ?_
  intro p e s m args below meth c E hin
  have hJ : Jv w w := jv_rfl hI
  have hb_x1 := z32 x1
  refine s_iconst (v := 0) E dX10_seatsIn_0 (by decide) ?_
  refine s_istore_n (L2 := [some (AR 95), some (AI x1), some (AI 0), none]) E dX10_seatsIn_1 rfl (by decide) rfl ?_
  refine s_iconst (v := 0) E dX10_seatsIn_2 (by decide) ?_
  refine s_istore_n (L2 := [some (AR 95), some (AI x1), some (AI 0), some (AI 0)]) E dX10_seatsIn_3 rfl (by decide) rfl ?_
  refine z_loop (St := Int32 × Int32) (Pi := fun ⟨q4_2_0, q4_3_0⟩ v4 => (0 ≤ q4_3_0.toInt ∧ q4_3_0.toInt ≤ 6) ∧ w = v4) (Lf := fun ⟨q4_2_0, q4_3_0⟩ => [some (AR 95), some (AI x1), some (AI q4_2_0), some (AI q4_3_0)]) (fun ⟨q4_2_0, q4_3_0⟩ _ => (7 - q4_3_0.toInt).toNat) ⟨0, 0⟩ ⟨⟨by decide, by decide⟩, rfl⟩ ?_
  rintro ⟨q4_2_0, q4_3_0⟩ v4 ⟨hq4_3, hv_⟩ ih4
  subst hv_
  have hbq4_2 := z32 q4_2_0
  refine s_loc (L2 := [some (AR 95), some (AI x1), some (AI q4_2_0), some (AI q4_3_0)]) rfl ?_
  refine s_iload_n E dX10_seatsIn_4 rfl rfl ?_
  refine s_aload_n E dX10_seatsIn_5 rfl rfl ?_
  refine s_vI (As := []) (S := [AI q4_3_0]) E (Z_X10_ladies_95 l D aC b w  hJ.1 ) cv_X10_244 rfl rfl rfl (jv_lt hJ (by decide)) (Nat.le_of_ble_eq_true rfl) (Nat.le_of_ble_eq_true rfl) ⟨(Nat.le_of_ble_eq_true rfl), (Nat.le_of_ble_eq_true rfl)⟩ (Nat.le_of_ble_eq_true rfl) dX10_seatsIn_6 (fun z_4 u_2 hp_3 => ?_)
  obtain ⟨hz_4, hxz_4, hp_3⟩ := hp_3
  subst hp_3
  refine z_icmp_ge (tgt := 33) (u := q4_3_0.toInt) (v := z_4.toInt) E dX10_seatsIn_9 (by decide) rfl rfl (fun h_6 => ?_) (fun h_6 => ?_)
  ·
    refine s_iload_n E dX10_seatsIn_33 rfl rfl ?_
    exact r_int E dX10_seatsIn_34 ⟨⟨by have hb_ := z32 q4_2_0; omega, by have hb_ := z32 q4_2_0; omega⟩, rfl⟩
  ·
    refine s_iload_n E dX10_seatsIn_12 rfl rfl ?_
    refine s_iload_n E dX10_seatsIn_13 rfl rfl ?_
    refine s_iload_n E dX10_seatsIn_14 rfl rfl ?_
    refine s_sI (As := [AI x1, AI q4_3_0]) (S := [AI q4_2_0]) E (Z_X10_bit l D aC b w x1 q4_3_0 hJ.1 ) cs_X10_252 rfl rfl (Nat.le_of_ble_eq_true rfl) (Nat.le_of_ble_eq_true rfl) ⟨(Nat.le_of_ble_eq_true rfl), (Nat.le_of_ble_eq_true rfl)⟩ (Nat.le_of_ble_eq_true rfl) dX10_seatsIn_15 (fun z_9 u_7 hp_8 => ?_)
    obtain ⟨hz_9, hxz_9, hp_8⟩ := hp_8
    subst hp_8
    refine s_aload_n E dX10_seatsIn_18 rfl rfl ?_
    refine s_gR (r := 105) E fg_X10_43 rfl rfl (jv_lt hJ (by decide)) (jv_r hJ (by decide +kernel)) dX10_seatsIn_19 ?_
    refine s_iload_n E dX10_seatsIn_22 rfl rfl ?_
    refine s_iald E rfl (jv_lt hJ (by decide)) (z_in (u := q4_3_0.toInt) rfl (by omega) (by omega)) dX10_seatsIn_23 ?_
    refine z_nm (P := fun z => (-2147483648) ≤ z.toInt ∧ z.toInt ≤ 2147483647) (z32 _) (fun z_11 hz_11 => ?_)
    refine s_imul E dX10_seatsIn_24 ?_
    refine z_nm (P := fun z => (-2147483648) ≤ z.toInt ∧ z.toInt ≤ 2147483647) (z32 _) (fun z_12 hz_12 => ?_)
    refine s_iadd E dX10_seatsIn_25 ?_
    refine z_nm (P := fun z => (-2147483648) ≤ z.toInt ∧ z.toInt ≤ 2147483647) (z32 _) (fun z_13 hz_13 => ?_)
    refine s_istore_n (L2 := [some (AR 95), some (AI x1), some (AI z_13), some (AI q4_3_0)]) E dX10_seatsIn_26 rfl (by decide) rfl ?_
    refine z_iinc (u := q4_3_0.toInt) (L2 := fun z_14 => [some (AR 95), some (AI x1), some (AI z_13), some (AI z_14)]) E dX10_seatsIn_27 rfl rfl (by decide) (fun _ => rfl) (by decide) (by omega) (by omega) (fun z_14 hz_14 => ?_)
    refine s_goto (tgt := 4) E dX10_seatsIn_30 (by decide) ?_
    exact ih4 ⟨z_13, z_14⟩ w ⟨⟨by have hb_ := z32 z_14; omega, by have hb_ := z32 z_14; omega⟩, rfl⟩ (by first | omega | decide | (dsimp only; omega) | (dsimp only; decide))
set_option maxRecDepth 20000 in
set_option maxHeartbeats 2000000 in
theorem Z_X10_doesHold_95 (l : Launch) (D : va_G) (aC : Nat → ClassId) (b : Nat) (w : XW) (x1 : Int32) (hI : Iv w)  : CnI l D aC b M_X10_doesHold 2 44 0 0 [AR 95, AI x1] w (fun r u => (0 ≤ r.toInt ∧ r.toInt ≤ 1) ∧ w = u) := by
  refine cn_I (own := RX10) (nm := "doesHold") (L0 := [some (AR 95), some (AI x1)]) (by decide +kernel) rfl rfl (Nat.le_of_ble_eq_true rfl) rfl ?_
  intro p e s m args below meth c E hin
  have hJ : Jv w w := jv_rfl hI
  have hb_x1 := z32 x1
  refine s_iconst (v := 2) E dX10_doesHold_0 (by decide) ?_
  refine s_aload_n E dX10_doesHold_1 rfl rfl ?_
  refine s_iload_n E dX10_doesHold_2 rfl rfl ?_
  refine s_vI (As := [AI x1]) (S := [AI 2]) E (Z_X10_seatsIn_95 l D aC b w x1 hJ.1 ) cv_X10_390 rfl rfl rfl (jv_lt hJ (by decide)) (Nat.le_of_ble_eq_true rfl) (Nat.le_of_ble_eq_true rfl) ⟨(Nat.le_of_ble_eq_true rfl), (Nat.le_of_ble_eq_true rfl)⟩ (Nat.le_of_ble_eq_true rfl) dX10_doesHold_3 (fun z_3 u_1 hp_2 => ?_)
  obtain ⟨hz_3, hp_2⟩ := hp_2
  subst hp_2
  refine s_imul E dX10_doesHold_6 ?_
  refine z_nm (P := fun z => (-2147483648) ≤ z.toInt ∧ z.toInt ≤ 2147483647) (z32 _) (fun z_5 hz_5 => ?_)
  refine s_aload_n E dX10_doesHold_7 rfl rfl ?_
  refine s_aload_n E dX10_doesHold_8 rfl rfl ?_
  refine s_vI (As := []) (S := [AR 95, AI z_5]) E (Z_X10_allLadies_95 l D aC b w  hJ.1 ) cv_X10_393 rfl rfl rfl (jv_lt hJ (by decide)) (Nat.le_of_ble_eq_true rfl) (Nat.le_of_ble_eq_true rfl) ⟨(Nat.le_of_ble_eq_true rfl), (Nat.le_of_ble_eq_true rfl)⟩ (Nat.le_of_ble_eq_true rfl) dX10_doesHold_9 (fun z_8 u_6 hp_7 => ?_)
  obtain ⟨hz_8, hp_7⟩ := hp_7
  subst hp_7
  refine s_vI (As := [AI z_8]) (S := [AI z_5]) E (Z_X10_seatsIn_95 l D aC b w z_8 hJ.1 ) cv_X10_390 rfl rfl rfl (jv_lt hJ (by decide)) (Nat.le_of_ble_eq_true rfl) (Nat.le_of_ble_eq_true rfl) ⟨(Nat.le_of_ble_eq_true rfl), (Nat.le_of_ble_eq_true rfl)⟩ (Nat.le_of_ble_eq_true rfl) dX10_doesHold_12 (fun z_12 u_10 hp_11 => ?_)
  obtain ⟨hz_12, hp_11⟩ := hp_11
  subst hp_11
  refine z_icmp_le (tgt := 22) (u := z_5.toInt) (v := z_12.toInt) E dX10_doesHold_15 (by decide) rfl rfl (fun h_14 => ?_) (fun h_14 => ?_)
  ·
    refine s_iconst (v := 0) E dX10_doesHold_22 (by decide) ?_
    exact r_bool E dX10_doesHold_23 (Or.inl rfl) ⟨(by decide), rfl⟩
  ·
    refine s_iconst (v := 1) E dX10_doesHold_18 (by decide) ?_
    refine s_goto (tgt := 23) E dX10_doesHold_19 (by decide) ?_
    exact r_bool E dX10_doesHold_23 (Or.inr rfl) ⟨(by decide), rfl⟩
set_option maxRecDepth 20000 in
set_option maxHeartbeats 2000000 in
theorem Z_X10_powerOf_95 (l : Launch) (D : va_G) (aC : Nat → ClassId) (b : Nat) (w : XW) (x1 : Int32) (hI : Iv w) (hx1 : 0 ≤ x1.toInt ∧ x1.toInt ≤ 5) : CnI l D aC b M_X10_powerOf 3 65 0 0 [AR 95, AI x1] w (fun r u => ((-2147483648) ≤ r.toInt ∧ r.toInt ≤ 2147483647) ∧ w = u) := by
  refine cn_I (own := RX10) (nm := "powerOf") (L0 := [some (AR 95), some (AI x1), none, none]) (by decide +kernel) rfl rfl (Nat.le_of_ble_eq_true rfl) rfl ?_
  intro p e s m args below meth c E hin
  have hJ : Jv w w := jv_rfl hI
  refine s_iconst (v := 0) E dX10_powerOf_0 (by decide) ?_
  refine s_istore_n (L2 := [some (AR 95), some (AI x1), some (AI 0), none]) E dX10_powerOf_1 rfl (by decide) rfl ?_
  refine s_iconst (v := 0) E dX10_powerOf_2 (by decide) ?_
  refine s_istore_n (L2 := [some (AR 95), some (AI x1), some (AI 0), some (AI 0)]) E dX10_powerOf_3 rfl (by decide) rfl ?_
  refine z_loop (St := Int32 × Int32) (Pi := fun ⟨q4_2_0, q4_3_0⟩ v4 => (0 ≤ q4_3_0.toInt ∧ q4_3_0.toInt ≤ 64) ∧ w = v4) (Lf := fun ⟨q4_2_0, q4_3_0⟩ => [some (AR 95), some (AI x1), some (AI q4_2_0), some (AI q4_3_0)]) (fun ⟨q4_2_0, q4_3_0⟩ _ => (65 - q4_3_0.toInt).toNat) ⟨0, 0⟩ ⟨⟨by decide, by decide⟩, rfl⟩ ?_
  rintro ⟨q4_2_0, q4_3_0⟩ v4 ⟨hq4_3, hv_⟩ ih4
  subst hv_
  have hbq4_2 := z32 q4_2_0
  refine s_loc (L2 := [some (AR 95), some (AI x1), some (AI q4_2_0), some (AI q4_3_0)]) rfl ?_
  refine s_iload_n E dX10_powerOf_4 rfl rfl ?_
  refine s_aload_n E dX10_powerOf_5 rfl rfl ?_
  refine s_vI (As := []) (S := [AI q4_3_0]) E (Z_X10_allLadies_95 l D aC b w  hJ.1 ) cv_X10_393 rfl rfl rfl (jv_lt hJ (by decide)) (Nat.le_of_ble_eq_true rfl) (Nat.le_of_ble_eq_true rfl) ⟨(Nat.le_of_ble_eq_true rfl), (Nat.le_of_ble_eq_true rfl)⟩ (Nat.le_of_ble_eq_true rfl) dX10_powerOf_6 (fun z_4 u_2 hp_3 => ?_)
  obtain ⟨hz_4, hp_3⟩ := hp_3
  subst hp_3
  refine z_icmp_gt (tgt := 57) (u := q4_3_0.toInt) (v := z_4.toInt) E dX10_powerOf_9 (by decide) rfl rfl (fun h_6 => ?_) (fun h_6 => ?_)
  ·
    refine s_iload_n E dX10_powerOf_57 rfl rfl ?_
    exact r_int E dX10_powerOf_58 ⟨⟨by have hb_ := z32 q4_2_0; omega, by have hb_ := z32 q4_2_0; omega⟩, rfl⟩
  ·
    refine s_iload_n E dX10_powerOf_12 rfl rfl ?_
    refine s_iload_n E dX10_powerOf_13 rfl rfl ?_
    refine s_iload_n E dX10_powerOf_14 rfl rfl ?_
    refine s_sI (As := [AI q4_3_0, AI x1]) (S := [AI q4_2_0]) E (Z_X10_bit l D aC b w q4_3_0 x1 hJ.1 ) cs_X10_252 rfl rfl (Nat.le_of_ble_eq_true rfl) (Nat.le_of_ble_eq_true rfl) ⟨(Nat.le_of_ble_eq_true rfl), (Nat.le_of_ble_eq_true rfl)⟩ (Nat.le_of_ble_eq_true rfl) dX10_powerOf_15 (fun z_9 u_7 hp_8 => ?_)
    obtain ⟨hz_9, hxz_9, hp_8⟩ := hp_8
    subst hp_8
    refine s_iconst (v := 1) E dX10_powerOf_18 (by decide) ?_
    refine z_icmp_ne (tgt := 48) (u := z_9.toInt) (v := 1) E dX10_powerOf_19 (by decide) rfl (by decide) (fun h_11 => ?_) (fun h_11 => ?_)
    ·
      refine s_iconst (v := 0) E dX10_powerOf_48 (by decide) ?_
      refine z_iadd (u := q4_2_0.toInt) (v := 0) E dX10_powerOf_49 rfl (by decide) (by omega) (by omega) (fun z_12 hz_12 => ?_)
      refine s_istore_n (L2 := [some (AR 95), some (AI x1), some (AI z_12), some (AI q4_3_0)]) E dX10_powerOf_50 rfl (by decide) rfl ?_
      refine z_iinc (u := q4_3_0.toInt) (L2 := fun z_13 => [some (AR 95), some (AI x1), some (AI z_12), some (AI z_13)]) E dX10_powerOf_51 rfl rfl (by decide) (fun _ => rfl) (by decide) (by omega) (by omega) (fun z_13 hz_13 => ?_)
      refine s_goto (tgt := 4) E dX10_powerOf_54 (by decide) ?_
      exact ih4 ⟨z_12, z_13⟩ w ⟨⟨by have hb_ := z32 z_13; omega, by have hb_ := z32 z_13; omega⟩, rfl⟩ (by first | omega | decide | (dsimp only; omega) | (dsimp only; decide))
    ·
      refine s_aload_n E dX10_powerOf_22 rfl rfl ?_
      refine s_iload_n E dX10_powerOf_23 rfl rfl ?_
      refine s_vI (As := [AI q4_3_0]) (S := [AI q4_2_0]) E (Z_X10_doesHold_95 l D aC b w q4_3_0 hJ.1 ) cv_X10_396 rfl rfl rfl (jv_lt hJ (by decide)) (Nat.le_of_ble_eq_true rfl) (Nat.le_of_ble_eq_true rfl) ⟨(Nat.le_of_ble_eq_true rfl), (Nat.le_of_ble_eq_true rfl)⟩ (Nat.le_of_ble_eq_true rfl) dX10_powerOf_24 (fun z_16 u_14 hp_15 => ?_)
      obtain ⟨hz_16, hp_15⟩ := hp_15
      subst hp_15
      refine z_if_eq (tgt := 48) (u := z_16.toInt) E dX10_powerOf_27 (by decide) rfl (fun h_18 => ?_) (fun h_18 => ?_)
      ·
        refine s_iconst (v := 0) E dX10_powerOf_48 (by decide) ?_
        refine z_iadd (u := q4_2_0.toInt) (v := 0) E dX10_powerOf_49 rfl (by decide) (by omega) (by omega) (fun z_19 hz_19 => ?_)
        refine s_istore_n (L2 := [some (AR 95), some (AI x1), some (AI z_19), some (AI q4_3_0)]) E dX10_powerOf_50 rfl (by decide) rfl ?_
        refine z_iinc (u := q4_3_0.toInt) (L2 := fun z_20 => [some (AR 95), some (AI x1), some (AI z_19), some (AI z_20)]) E dX10_powerOf_51 rfl rfl (by decide) (fun _ => rfl) (by decide) (by omega) (by omega) (fun z_20 hz_20 => ?_)
        refine s_goto (tgt := 4) E dX10_powerOf_54 (by decide) ?_
        exact ih4 ⟨z_19, z_20⟩ w ⟨⟨by have hb_ := z32 z_20; omega, by have hb_ := z32 z_20; omega⟩, rfl⟩ (by first | omega | decide | (dsimp only; omega) | (dsimp only; decide))
      ·
        refine s_aload_n E dX10_powerOf_30 rfl rfl ?_
        refine s_iload_n E dX10_powerOf_31 rfl rfl ?_
        refine s_iconst (v := 1) E dX10_powerOf_32 (by decide) ?_
        refine s_iload_n E dX10_powerOf_33 rfl rfl ?_
        refine z_shl1 5 (u := x1.toInt) (B := 32) E dX10_powerOf_34 rfl (by omega) (by omega) (by decide) (by decide) (fun z_21 hz_21 => ?_)
        refine s_iconst (v := (-1)) E dX10_powerOf_35 (by decide) ?_
        refine s_ixor E dX10_powerOf_36 ?_
        refine z_nm (P := fun z => (-2147483648) ≤ z.toInt ∧ z.toInt ≤ 2147483647) (z32 _) (fun z_22 hz_22 => ?_)
        refine s_iand E dX10_powerOf_37 ?_
        refine z_nm (P := fun z => (-2147483648) ≤ z.toInt ∧ z.toInt ≤ 2147483647) (z32 _) (fun z_23 hz_23 => ?_)
        refine s_vI (As := [AI z_23]) (S := [AI q4_2_0]) E (Z_X10_doesHold_95 l D aC b w z_23 hJ.1 ) cv_X10_396 rfl rfl rfl (jv_lt hJ (by decide)) (Nat.le_of_ble_eq_true rfl) (Nat.le_of_ble_eq_true rfl) ⟨(Nat.le_of_ble_eq_true rfl), (Nat.le_of_ble_eq_true rfl)⟩ (Nat.le_of_ble_eq_true rfl) dX10_powerOf_38 (fun z_26 u_24 hp_25 => ?_)
        obtain ⟨hz_26, hp_25⟩ := hp_25
        subst hp_25
        refine z_if_ne (tgt := 48) (u := z_26.toInt) E dX10_powerOf_41 (by decide) rfl (fun h_28 => ?_) (fun h_28 => ?_)
        ·
          refine s_iconst (v := 0) E dX10_powerOf_48 (by decide) ?_
          refine z_iadd (u := q4_2_0.toInt) (v := 0) E dX10_powerOf_49 rfl (by decide) (by omega) (by omega) (fun z_29 hz_29 => ?_)
          refine s_istore_n (L2 := [some (AR 95), some (AI x1), some (AI z_29), some (AI q4_3_0)]) E dX10_powerOf_50 rfl (by decide) rfl ?_
          refine z_iinc (u := q4_3_0.toInt) (L2 := fun z_30 => [some (AR 95), some (AI x1), some (AI z_29), some (AI z_30)]) E dX10_powerOf_51 rfl rfl (by decide) (fun _ => rfl) (by decide) (by omega) (by omega) (fun z_30 hz_30 => ?_)
          refine s_goto (tgt := 4) E dX10_powerOf_54 (by decide) ?_
          exact ih4 ⟨z_29, z_30⟩ w ⟨⟨by have hb_ := z32 z_30; omega, by have hb_ := z32 z_30; omega⟩, rfl⟩ (by first | omega | decide | (dsimp only; omega) | (dsimp only; decide))
        ·
          refine s_iconst (v := 1) E dX10_powerOf_44 (by decide) ?_
          refine s_goto (tgt := 49) E dX10_powerOf_45 (by decide) ?_
          refine s_iadd E dX10_powerOf_49 ?_
          refine z_nm (P := fun z => (-2147483648) ≤ z.toInt ∧ z.toInt ≤ 2147483647) (z32 _) (fun z_31 hz_31 => ?_)
          refine s_istore_n (L2 := [some (AR 95), some (AI x1), some (AI z_31), some (AI q4_3_0)]) E dX10_powerOf_50 rfl (by decide) rfl ?_
          refine z_iinc (u := q4_3_0.toInt) (L2 := fun z_32 => [some (AR 95), some (AI x1), some (AI z_31), some (AI z_32)]) E dX10_powerOf_51 rfl rfl (by decide) (fun _ => rfl) (by decide) (by omega) (by omega) (fun z_32 hz_32 => ?_)
          refine s_goto (tgt := 4) E dX10_powerOf_54 (by decide) ?_
          exact ih4 ⟨z_31, z_32⟩ w ⟨⟨by have hb_ := z32 z_32; omega, by have hb_ := z32 z_32; omega⟩, rfl⟩ (by first | omega | decide | (dsimp only; omega) | (dsimp only; decide))
set_option maxRecDepth 20000 in
set_option maxHeartbeats 2000000 in
theorem Z_X10_dummies_95 (l : Launch) (D : va_G) (aC : Nat → ClassId) (b : Nat) (w : XW)  (hI : Iv w)  : CnI l D aC b M_X10_dummies 5 112 0 0 [AR 95] w (fun r u => ((-2147483648) ≤ r.toInt ∧ r.toInt ≤ 2147483647) ∧ Jv w u) := by
  refine cn_I (own := RX10) (nm := "dummies") (L0 := [some (AR 95), none, none]) (by decide +kernel) rfl rfl (Nat.le_of_ble_eq_true rfl) rfl ?_
  intro p e s m args below meth c E hin
  have hJ : Jv w w := jv_rfl hI
  refine s_aload_n E dX10_dummies_0 rfl rfl ?_
  refine s_vI (As := []) (S := []) E (Z_X10_asksBall_95 l D aC b w  hJ.1 ) cv_X10_322 rfl rfl rfl (jv_lt hJ (by decide)) (Nat.le_of_ble_eq_true rfl) (Nat.le_of_ble_eq_true rfl) ⟨(Nat.le_of_ble_eq_true rfl), (Nat.le_of_ble_eq_true rfl)⟩ (Nat.le_of_ble_eq_true rfl) dX10_dummies_1 (fun z_3 u_1 hp_2 => ?_)
  obtain ⟨hz_3, hp_2⟩ := hp_2
  have hj_4 := jv_trans hJ hp_2
  refine z_if_ne (tgt := 10) (u := z_3.toInt) E dX10_dummies_4 (by decide) rfl (fun h_5 => ?_) (fun h_5 => ?_)
  ·
    refine s_iconst (v := 0) E dX10_dummies_10 (by decide) ?_
    refine s_istore_n (L2 := [some (AR 95), some (AI 0), none]) E dX10_dummies_11 rfl (by decide) rfl ?_
    refine s_iconst (v := 0) E dX10_dummies_12 (by decide) ?_
    refine s_istore_n (L2 := [some (AR 95), some (AI 0), some (AI 0)]) E dX10_dummies_13 rfl (by decide) rfl ?_
    refine z_loop (St := Int32 × Int32) (Pi := fun ⟨q14_1_5, q14_2_5⟩ v14 => (0 ≤ q14_2_5.toInt ∧ q14_2_5.toInt ≤ 6) ∧ u_1 = v14) (Lf := fun ⟨q14_1_5, q14_2_5⟩ => [some (AR 95), some (AI q14_1_5), some (AI q14_2_5)]) (fun ⟨q14_1_5, q14_2_5⟩ _ => (7 - q14_2_5.toInt).toNat) ⟨0, 0⟩ ⟨⟨by decide, by decide⟩, rfl⟩ ?_
    rintro ⟨q14_1_5, q14_2_5⟩ v14 ⟨hq14_2, hv_⟩ ih14
    subst hv_
    have hbq14_1 := z32 q14_1_5
    refine s_loc (L2 := [some (AR 95), some (AI q14_1_5), some (AI q14_2_5)]) rfl ?_
    refine s_iload_n E dX10_dummies_14 rfl rfl ?_
    refine s_aload_n E dX10_dummies_15 rfl rfl ?_
    refine s_vI (As := []) (S := [AI q14_2_5]) E (Z_X10_ladies_95 l D aC b u_1  hj_4.1 ) cv_X10_244 rfl rfl rfl (jv_lt hj_4 (by decide)) (Nat.le_of_ble_eq_true rfl) (Nat.le_of_ble_eq_true rfl) ⟨(Nat.le_of_ble_eq_true rfl), (Nat.le_of_ble_eq_true rfl)⟩ (Nat.le_of_ble_eq_true rfl) dX10_dummies_16 (fun z_9 u_7 hp_8 => ?_)
    obtain ⟨hz_9, hxz_9, hp_8⟩ := hp_8
    subst hp_8
    refine z_icmp_ge (tgt := 46) (u := q14_2_5.toInt) (v := z_9.toInt) E dX10_dummies_19 (by decide) rfl rfl (fun h_11 => ?_) (fun h_11 => ?_)
    ·
      refine s_iload_n E dX10_dummies_46 rfl rfl ?_
      exact r_int E dX10_dummies_47 ⟨⟨by have hb_ := z32 q14_1_5; omega, by have hb_ := z32 q14_1_5; omega⟩, hj_4⟩
    ·
      refine s_iload_n E dX10_dummies_22 rfl rfl ?_
      refine s_aload_n E dX10_dummies_23 rfl rfl ?_
      refine s_iload_n E dX10_dummies_24 rfl rfl ?_
      refine s_vI (As := [AI q14_2_5]) (S := [AI q14_1_5]) E (Z_X10_powerOf_95 l D aC b u_1 q14_2_5 hj_4.1 ⟨by have hb_ := z32 q14_2_5; omega, by have hb_ := z32 q14_2_5; omega⟩) cv_X10_402 rfl rfl rfl (jv_lt hj_4 (by decide)) (Nat.le_of_ble_eq_true rfl) (Nat.le_of_ble_eq_true rfl) ⟨(Nat.le_of_ble_eq_true rfl), (Nat.le_of_ble_eq_true rfl)⟩ (Nat.le_of_ble_eq_true rfl) dX10_dummies_25 (fun z_14 u_12 hp_13 => ?_)
      obtain ⟨hz_14, hp_13⟩ := hp_13
      subst hp_13
      refine z_if_ne (tgt := 37) (u := z_14.toInt) E dX10_dummies_28 (by decide) rfl (fun h_16 => ?_) (fun h_16 => ?_)
      ·
        refine s_iconst (v := 0) E dX10_dummies_37 (by decide) ?_
        refine s_ior E dX10_dummies_38 ?_
        refine z_nm (P := fun z => (-2147483648) ≤ z.toInt ∧ z.toInt ≤ 2147483647) (z32 _) (fun z_17 hz_17 => ?_)
        refine s_istore_n (L2 := [some (AR 95), some (AI z_17), some (AI q14_2_5)]) E dX10_dummies_39 rfl (by decide) rfl ?_
        refine z_iinc (u := q14_2_5.toInt) (L2 := fun z_18 => [some (AR 95), some (AI z_17), some (AI z_18)]) E dX10_dummies_40 rfl rfl (by decide) (fun _ => rfl) (by decide) (by omega) (by omega) (fun z_18 hz_18 => ?_)
        refine s_goto (tgt := 14) E dX10_dummies_43 (by decide) ?_
        exact ih14 ⟨z_17, z_18⟩ u_1 ⟨⟨by have hb_ := z32 z_18; omega, by have hb_ := z32 z_18; omega⟩, rfl⟩ (by first | omega | decide | (dsimp only; omega) | (dsimp only; decide))
      ·
        refine s_iconst (v := 1) E dX10_dummies_31 (by decide) ?_
        refine s_iload_n E dX10_dummies_32 rfl rfl ?_
        refine z_shl1 5 (u := q14_2_5.toInt) (B := 32) E dX10_dummies_33 rfl (by omega) (by omega) (by decide) (by decide) (fun z_19 hz_19 => ?_)
        refine s_goto (tgt := 38) E dX10_dummies_34 (by decide) ?_
        refine s_ior E dX10_dummies_38 ?_
        refine z_nm (P := fun z => (-2147483648) ≤ z.toInt ∧ z.toInt ≤ 2147483647) (z32 _) (fun z_20 hz_20 => ?_)
        refine s_istore_n (L2 := [some (AR 95), some (AI z_20), some (AI q14_2_5)]) E dX10_dummies_39 rfl (by decide) rfl ?_
        refine z_iinc (u := q14_2_5.toInt) (L2 := fun z_21 => [some (AR 95), some (AI z_20), some (AI z_21)]) E dX10_dummies_40 rfl rfl (by decide) (fun _ => rfl) (by decide) (by omega) (by omega) (fun z_21 hz_21 => ?_)
        refine s_goto (tgt := 14) E dX10_dummies_43 (by decide) ?_
        exact ih14 ⟨z_20, z_21⟩ u_1 ⟨⟨by have hb_ := z32 z_21; omega, by have hb_ := z32 z_21; omega⟩, rfl⟩ (by first | omega | decide | (dsimp only; omega) | (dsimp only; decide))
  ·
    refine s_bipush (v := (-2)) E dX10_dummies_7 (by decide) ?_
    exact r_int E dX10_dummies_9 ⟨(by decide), hj_4⟩
set_option maxRecDepth 20000 in
set_option maxHeartbeats 2000000 in
theorem Z_X10_isSet_95 (l : Launch) (D : va_G) (aC : Nat → ClassId) (b : Nat) (w : XW) (x1 : Int32) (hI : Iv w)  : CnI l D aC b M_X10_isSet 1 25 0 0 [AR 95, AI x1] w (fun r u => (0 ≤ r.toInt ∧ r.toInt ≤ 1 ∧ (¬ r.toInt = 0 ∨ (0 ≤ (w.2.2.1 96 9).toInt ∧ (w.2.2.1 96 9).toInt ≤ 2147483647)) ∧ (r.toInt = 0 ∨ (0 ≤ x1.toInt ∧ x1.toInt ≤ 63)) ∧ (r.toInt = 0 ∨ (1 ≤ (w.2.2.1 96 9).toInt ∧ (w.2.2.1 96 9).toInt ≤ 2147483647)) ∧ (r.toInt = 0 ∨ (0 ≤ (w.2.2.1 96 5).toInt ∧ (w.2.2.1 96 5).toInt ≤ 6))) ∧ w = u) := by
  refine cn_I (own := RX10) (nm := "isSet") (L0 := [some (AR 95), some (AI x1)]) (by decide +kernel) rfl rfl (Nat.le_of_ble_eq_true rfl) rfl ?_
  intro p e s m args below meth c E hin
  have hJ : Jv w w := jv_rfl hI
  have hb_x1 := z32 x1
  refine s_aload_n E dX10_isSet_0 rfl rfl ?_
  refine s_vI (As := []) (S := []) E (Z_X10_isBall_95 l D aC b w  hJ.1 ) cv_X10_86 rfl rfl rfl (jv_lt hJ (by decide)) (Nat.le_of_ble_eq_true rfl) (Nat.le_of_ble_eq_true rfl) ⟨(Nat.le_of_ble_eq_true rfl), (Nat.le_of_ble_eq_true rfl)⟩ (Nat.le_of_ble_eq_true rfl) dX10_isSet_1 (fun z_3 u_1 hp_2 => ?_)
  obtain ⟨hz_3, hp_2⟩ := hp_2
  subst hp_2
  refine z_if_eq (tgt := 31) (u := z_3.toInt) E dX10_isSet_4 (by decide) rfl (fun h_5 => ?_) (fun h_5 => ?_)
  ·
    refine s_iconst (v := 0) E dX10_isSet_31 (by decide) ?_
    exact r_bool E dX10_isSet_32 (Or.inl rfl) ⟨⟨by decide, by decide, by first | (left; decide) | (right; decide) | (right; have hb_ := z32 (w.2.2.1 96 9); omega), by first | (left; decide) | (right; decide) | (right; have hb_ := z32 x1; omega), by first | (left; decide) | (right; decide) | (right; have hb_ := z32 (w.2.2.1 96 9); omega), by first | (left; decide) | (right; decide) | (right; have hb_ := z32 (w.2.2.1 96 5); omega)⟩, rfl⟩
  ·
    refine s_iload_n E dX10_isSet_7 rfl rfl ?_
    refine z_i2l (u := x1.toInt) E dX10_isSet_8 rfl (fun z_6 hz_6 => ?_)
    refine s_lconst (v := 0) E dX10_isSet_9 (by decide) ?_
    refine s_iconst (v := 1) E dX10_isSet_10 (by decide) ?_
    refine s_aload_n E dX10_isSet_11 rfl rfl ?_
    refine s_gR (r := 96) E fg_X10_9 rfl rfl (jv_lt hJ (by decide)) (jv_r hJ (by decide +kernel)) dX10_isSet_12 ?_
    refine s_iconst (v := 5) E dX10_isSet_15 (by decide) ?_
    refine s_iald E rfl (jv_lt hJ (by decide)) (z_in (u := 5) (by decide) (by omega) (by omega)) dX10_isSet_16 ?_
    refine z_nm (P := fun z => z.toInt = (w.2.2.1 96 5).toInt ∧ 0 ≤ z.toInt ∧ z.toInt ≤ 6) ⟨rfl, (rw_96_5 hJ)⟩ (fun z_7 hz_7 => ?_)
    refine z_shl1 6 (u := z_7.toInt) (B := 64) E dX10_isSet_17 rfl (by omega) (by omega) (by decide) (by decide) (fun z_8 hz_8 => ?_)
    refine s_iconst (v := 1) E dX10_isSet_18 (by decide) ?_
    refine z_isub (u := z_8.toInt) (v := 1) E dX10_isSet_19 rfl (by decide) (by omega) (by omega) (fun z_9 hz_9 => ?_)
    refine z_i2l (u := z_9.toInt) E dX10_isSet_20 rfl (fun z_10 hz_10 => ?_)
    refine s_sI (As := [AL z_6, AL 0, AL z_10]) (S := []) E (Z_X10_in l D aC b w z_6 0 z_10) cs_X10_82 rfl rfl (Nat.le_of_ble_eq_true rfl) (Nat.le_of_ble_eq_true rfl) ⟨(Nat.le_of_ble_eq_true rfl), (Nat.le_of_ble_eq_true rfl)⟩ (Nat.le_of_ble_eq_true rfl) dX10_isSet_21 (fun z_11 u_12 hp_13 => ?_)
    obtain ⟨hz_11, hp_13⟩ := hp_13
    subst hp_13
    refine z_if_eq (tgt := 31) (u := z_11.toInt) E dX10_isSet_24 (by decide) rfl (fun h_14 => ?_) (fun h_14 => ?_)
    ·
      refine s_iconst (v := 0) E dX10_isSet_31 (by decide) ?_
      exact r_bool E dX10_isSet_32 (Or.inl rfl) ⟨⟨by decide, by decide, by first | (left; decide) | (right; decide) | (right; have hb_ := z32 (w.2.2.1 96 9); omega), by first | (left; decide) | (right; decide) | (right; have hb_ := z32 x1; omega), by first | (left; decide) | (right; decide) | (right; have hb_ := z32 (w.2.2.1 96 9); omega), by first | (left; decide) | (right; decide) | (right; have hb_ := z32 (w.2.2.1 96 5); omega)⟩, rfl⟩
    ·
      refine s_iconst (v := 1) E dX10_isSet_27 (by decide) ?_
      refine s_goto (tgt := 32) E dX10_isSet_28 (by decide) ?_
      exact r_bool E dX10_isSet_32 (Or.inr rfl) ⟨⟨by decide, by decide, by first | (left; decide) | (right; decide) | (right; have hb_ := z32 (w.2.2.1 96 9); omega), by first | (left; decide) | (right; decide) | (right; have hb_ := z32 x1; omega), by first | (left; decide) | (right; decide) | (right; have hb_ := z32 (w.2.2.1 96 9); omega), by first | (left; decide) | (right; decide) | (right; have hb_ := z32 (w.2.2.1 96 5); omega)⟩, rfl⟩
set_option maxRecDepth 20000 in
set_option maxHeartbeats 2000000 in
theorem Z_X10_blocks_95 (l : Launch) (D : va_G) (aC : Nat → ClassId) (b : Nat) (w : XW) (x1 : Int32) (hI : Iv w)  : CnI l D aC b M_X10_blocks 4 92 0 0 [AR 95, AI x1] w (fun r u => ((-2) ≤ r.toInt ∧ r.toInt ≤ 1 ∧ (¬ r.toInt = 0 ∨ (0 ≤ x1.toInt ∧ x1.toInt ≤ 63))) ∧ Jv w u) := by
  refine cn_I (own := RX10) (nm := "blocks") (L0 := [some (AR 95), some (AI x1)]) (by decide +kernel) rfl rfl (Nat.le_of_ble_eq_true rfl) rfl ?_
  intro p e s m args below meth c E hin
  have hJ : Jv w w := jv_rfl hI
  have hb_x1 := z32 x1
  refine s_aload_n E dX10_blocks_0 rfl rfl ?_
  refine s_vV (As := []) (S := []) E (Z_X10_asItIs_95 l D aC b w  hJ.1 ) cv_X10_279 rfl rfl rfl (jv_lt hJ (by decide)) (Nat.le_of_ble_eq_true rfl) (Nat.le_of_ble_eq_true rfl) ⟨(Nat.le_of_ble_eq_true rfl), (Nat.le_of_ble_eq_true rfl)⟩ (Nat.le_of_ble_eq_true rfl) dX10_blocks_1 (fun u_1 hp_2 => ?_)
  have hj_3 := jv_trans hJ hp_2
  refine s_aload_n E dX10_blocks_4 rfl rfl ?_
  refine s_iload_n E dX10_blocks_5 rfl rfl ?_
  refine s_vI (As := [AI x1]) (S := []) E (Z_X10_isSet_95 l D aC b u_1 x1 hj_3.1 ) cv_X10_399 rfl rfl rfl (jv_lt hj_3 (by decide)) (Nat.le_of_ble_eq_true rfl) (Nat.le_of_ble_eq_true rfl) ⟨(Nat.le_of_ble_eq_true rfl), (Nat.le_of_ble_eq_true rfl)⟩ (Nat.le_of_ble_eq_true rfl) dX10_blocks_6 (fun z_6 u_4 hp_5 => ?_)
  obtain ⟨hz_6, hp_5⟩ := hp_5
  subst hp_5
  refine z_if_eq (tgt := 35) (u := z_6.toInt) E dX10_blocks_9 (by decide) rfl (fun h_8 => ?_) (fun h_8 => ?_)
  ·
    refine s_bipush (v := (-2)) E dX10_blocks_35 (by decide) ?_
    exact r_int E dX10_blocks_37 ⟨⟨by decide, by decide, by first | (left; decide) | (right; decide) | (right; have hb_ := z32 x1; omega)⟩, hj_3⟩
  ·
    refine s_aload_n E dX10_blocks_12 rfl rfl ?_
    refine s_aload_n E dX10_blocks_13 rfl rfl ?_
    refine s_vI (As := []) (S := [AR 95]) E (Z_X10_allLadies_95 l D aC b u_1  hj_3.1 ) cv_X10_393 rfl rfl rfl (jv_lt hj_3 (by decide)) (Nat.le_of_ble_eq_true rfl) (Nat.le_of_ble_eq_true rfl) ⟨(Nat.le_of_ble_eq_true rfl), (Nat.le_of_ble_eq_true rfl)⟩ (Nat.le_of_ble_eq_true rfl) dX10_blocks_14 (fun z_11 u_9 hp_10 => ?_)
    obtain ⟨hz_11, hp_10⟩ := hp_10
    subst hp_10
    refine s_iload_n E dX10_blocks_17 rfl rfl ?_
    refine s_iconst (v := (-1)) E dX10_blocks_18 (by decide) ?_
    refine s_ixor E dX10_blocks_19 ?_
    refine z_nm (P := fun z => (-2147483648) ≤ z.toInt ∧ z.toInt ≤ 2147483647) (z32 _) (fun z_13 hz_13 => ?_)
    refine s_iand E dX10_blocks_20 ?_
    refine z_nm (P := fun z => (-2147483648) ≤ z.toInt ∧ z.toInt ≤ 2147483647) (z32 _) (fun z_14 hz_14 => ?_)
    refine s_vI (As := [AI z_14]) (S := []) E (Z_X10_doesHold_95 l D aC b u_1 z_14 hj_3.1 ) cv_X10_396 rfl rfl rfl (jv_lt hj_3 (by decide)) (Nat.le_of_ble_eq_true rfl) (Nat.le_of_ble_eq_true rfl) ⟨(Nat.le_of_ble_eq_true rfl), (Nat.le_of_ble_eq_true rfl)⟩ (Nat.le_of_ble_eq_true rfl) dX10_blocks_21 (fun z_17 u_15 hp_16 => ?_)
    obtain ⟨hz_17, hp_16⟩ := hp_16
    subst hp_16
    refine z_if_eq (tgt := 31) (u := z_17.toInt) E dX10_blocks_24 (by decide) rfl (fun h_19 => ?_) (fun h_19 => ?_)
    ·
      refine s_iconst (v := 1) E dX10_blocks_31 (by decide) ?_
      refine s_goto (tgt := 37) E dX10_blocks_32 (by decide) ?_
      exact r_int E dX10_blocks_37 ⟨⟨by decide, by decide, by first | (left; decide) | (right; decide) | (right; have hb_ := z32 x1; omega)⟩, hj_3⟩
    ·
      refine s_iconst (v := 0) E dX10_blocks_27 (by decide) ?_
      refine s_goto (tgt := 37) E dX10_blocks_28 (by decide) ?_
      exact r_int E dX10_blocks_37 ⟨⟨by decide, by decide, by first | (left; decide) | (right; decide) | (right; have hb_ := z32 x1; omega)⟩, hj_3⟩
set_option maxRecDepth 20000 in
set_option maxHeartbeats 2000000 in
theorem Z_X10_strongest_95 (l : Launch) (D : va_G) (aC : Nat → ClassId) (b : Nat) (w : XW)  (hI : Iv w)  : CnI l D aC b M_X10_strongest 5 112 0 0 [AR 95] w (fun r u => ((-2) ≤ r.toInt ∧ r.toInt ≤ 64) ∧ Jv w u) := by
  refine cn_I (own := RX10) (nm := "strongest") (L0 := [some (AR 95), none, none, none]) (by decide +kernel) rfl rfl (Nat.le_of_ble_eq_true rfl) rfl ?_
  intro p e s m args below meth c E hin
  have hJ : Jv w w := jv_rfl hI
  refine s_aload_n E dX10_strongest_0 rfl rfl ?_
  refine s_vI (As := []) (S := []) E (Z_X10_asksBall_95 l D aC b w  hJ.1 ) cv_X10_322 rfl rfl rfl (jv_lt hJ (by decide)) (Nat.le_of_ble_eq_true rfl) (Nat.le_of_ble_eq_true rfl) ⟨(Nat.le_of_ble_eq_true rfl), (Nat.le_of_ble_eq_true rfl)⟩ (Nat.le_of_ble_eq_true rfl) dX10_strongest_1 (fun z_3 u_1 hp_2 => ?_)
  obtain ⟨hz_3, hp_2⟩ := hp_2
  have hj_4 := jv_trans hJ hp_2
  refine z_if_ne (tgt := 10) (u := z_3.toInt) E dX10_strongest_4 (by decide) rfl (fun h_5 => ?_) (fun h_5 => ?_)
  ·
    refine s_iconst (v := (-1)) E dX10_strongest_10 (by decide) ?_
    refine s_istore_n (L2 := [some (AR 95), some (AI (-1)), none, none]) E dX10_strongest_11 rfl (by decide) rfl ?_
    refine s_iconst (v := 0) E dX10_strongest_12 (by decide) ?_
    refine s_istore_n (L2 := [some (AR 95), some (AI (-1)), some (AI 0), none]) E dX10_strongest_13 rfl (by decide) rfl ?_
    refine s_iconst (v := 0) E dX10_strongest_14 (by decide) ?_
    refine s_istore_n (L2 := [some (AR 95), some (AI (-1)), some (AI 0), some (AI 0)]) E dX10_strongest_15 rfl (by decide) rfl ?_
    refine z_loop (St := Int32 × Int32 × Int32) (Pi := fun ⟨q16_1_5, q16_2_5, q16_3_5⟩ v16 => ((-1) ≤ q16_1_5.toInt ∧ q16_1_5.toInt ≤ 64) ∧ (0 ≤ q16_3_5.toInt ∧ q16_3_5.toInt ≤ 6) ∧ u_1 = v16) (Lf := fun ⟨q16_1_5, q16_2_5, q16_3_5⟩ => [some (AR 95), some (AI q16_1_5), some (AI q16_2_5), some (AI q16_3_5)]) (fun ⟨q16_1_5, q16_2_5, q16_3_5⟩ _ => (7 - q16_3_5.toInt).toNat) ⟨(-1), 0, 0⟩ ⟨⟨by decide, by decide⟩, ⟨by decide, by decide⟩, rfl⟩ ?_
    rintro ⟨q16_1_5, q16_2_5, q16_3_5⟩ v16 ⟨hq16_1, hq16_3, hv_⟩ ih16
    subst hv_
    have hbq16_2 := z32 q16_2_5
    refine s_loc (L2 := [some (AR 95), some (AI q16_1_5), some (AI q16_2_5), some (AI q16_3_5)]) rfl ?_
    refine s_iload_n E dX10_strongest_16 rfl rfl ?_
    refine s_aload_n E dX10_strongest_17 rfl rfl ?_
    refine s_vI (As := []) (S := [AI q16_3_5]) E (Z_X10_ladies_95 l D aC b u_1  hj_4.1 ) cv_X10_244 rfl rfl rfl (jv_lt hj_4 (by decide)) (Nat.le_of_ble_eq_true rfl) (Nat.le_of_ble_eq_true rfl) ⟨(Nat.le_of_ble_eq_true rfl), (Nat.le_of_ble_eq_true rfl)⟩ (Nat.le_of_ble_eq_true rfl) dX10_strongest_18 (fun z_9 u_7 hp_8 => ?_)
    obtain ⟨hz_9, hxz_9, hp_8⟩ := hp_8
    subst hp_8
    refine z_icmp_ge (tgt := 50) (u := q16_3_5.toInt) (v := z_9.toInt) E dX10_strongest_21 (by decide) rfl rfl (fun h_11 => ?_) (fun h_11 => ?_)
    ·
      refine s_iload_n E dX10_strongest_50 rfl rfl ?_
      exact r_int E dX10_strongest_51 ⟨⟨by have hb_ := z32 q16_1_5; omega, by have hb_ := z32 q16_1_5; omega⟩, hj_4⟩
    ·
      refine s_aload_n E dX10_strongest_24 rfl rfl ?_
      refine s_iload_n E dX10_strongest_25 rfl rfl ?_
      refine s_vI (As := [AI q16_3_5]) (S := []) E (Z_X10_powerOf_95 l D aC b u_1 q16_3_5 hj_4.1 ⟨by have hb_ := z32 q16_3_5; omega, by have hb_ := z32 q16_3_5; omega⟩) cv_X10_402 rfl rfl rfl (jv_lt hj_4 (by decide)) (Nat.le_of_ble_eq_true rfl) (Nat.le_of_ble_eq_true rfl) ⟨(Nat.le_of_ble_eq_true rfl), (Nat.le_of_ble_eq_true rfl)⟩ (Nat.le_of_ble_eq_true rfl) dX10_strongest_26 (fun z_14 u_12 hp_13 => ?_)
      obtain ⟨hz_14, hp_13⟩ := hp_13
      subst hp_13
      refine s_iload_n E dX10_strongest_29 rfl rfl ?_
      refine z_icmp_gt (tgt := 36) (u := z_14.toInt) (v := q16_2_5.toInt) E dX10_strongest_30 (by decide) rfl rfl (fun h_16 => ?_) (fun h_16 => ?_)
      ·
        refine s_aload_n E dX10_strongest_36 rfl rfl ?_
        refine s_iload_n E dX10_strongest_37 rfl rfl ?_
        refine s_vI (As := [AI q16_3_5]) (S := []) E (Z_X10_powerOf_95 l D aC b u_1 q16_3_5 hj_4.1 ⟨by have hb_ := z32 q16_3_5; omega, by have hb_ := z32 q16_3_5; omega⟩) cv_X10_402 rfl rfl rfl (jv_lt hj_4 (by decide)) (Nat.le_of_ble_eq_true rfl) (Nat.le_of_ble_eq_true rfl) ⟨(Nat.le_of_ble_eq_true rfl), (Nat.le_of_ble_eq_true rfl)⟩ (Nat.le_of_ble_eq_true rfl) dX10_strongest_38 (fun z_19 u_17 hp_18 => ?_)
        obtain ⟨hz_19, hp_18⟩ := hp_18
        subst hp_18
        refine s_istore_n (L2 := [some (AR 95), some (AI q16_1_5), some (AI z_19), some (AI q16_3_5)]) E dX10_strongest_41 rfl (by decide) rfl ?_
        refine s_iload_n E dX10_strongest_42 rfl rfl ?_
        refine s_istore_n (L2 := [some (AR 95), some (AI q16_3_5), some (AI z_19), some (AI q16_3_5)]) E dX10_strongest_43 rfl (by decide) rfl ?_
        refine z_iinc (u := q16_3_5.toInt) (L2 := fun z_21 => [some (AR 95), some (AI q16_3_5), some (AI z_19), some (AI z_21)]) E dX10_strongest_44 rfl rfl (by decide) (fun _ => rfl) (by decide) (by omega) (by omega) (fun z_21 hz_21 => ?_)
        refine s_goto (tgt := 16) E dX10_strongest_47 (by decide) ?_
        exact ih16 ⟨q16_3_5, z_19, z_21⟩ u_1 ⟨⟨by have hb_ := z32 q16_3_5; omega, by have hb_ := z32 q16_3_5; omega⟩, ⟨by have hb_ := z32 z_21; omega, by have hb_ := z32 z_21; omega⟩, rfl⟩ (by first | omega | decide | (dsimp only; omega) | (dsimp only; decide))
      ·
        refine s_goto (tgt := 44) E dX10_strongest_33 (by decide) ?_
        refine z_iinc (u := q16_3_5.toInt) (L2 := fun z_22 => [some (AR 95), some (AI q16_1_5), some (AI q16_2_5), some (AI z_22)]) E dX10_strongest_44 rfl rfl (by decide) (fun _ => rfl) (by decide) (by omega) (by omega) (fun z_22 hz_22 => ?_)
        refine s_goto (tgt := 16) E dX10_strongest_47 (by decide) ?_
        exact ih16 ⟨q16_1_5, q16_2_5, z_22⟩ u_1 ⟨⟨by have hb_ := z32 q16_1_5; omega, by have hb_ := z32 q16_1_5; omega⟩, ⟨by have hb_ := z32 z_22; omega, by have hb_ := z32 z_22; omega⟩, rfl⟩ (by first | omega | decide | (dsimp only; omega) | (dsimp only; decide))
  ·
    refine s_bipush (v := (-2)) E dX10_strongest_7 (by decide) ?_
    exact r_int E dX10_strongest_9 ⟨(by decide), hj_4⟩
set_option maxRecDepth 20000 in
set_option maxHeartbeats 2000000 in
theorem Z_X10_have_95 (l : Launch) (D : va_G) (aC : Nat → ClassId) (b : Nat) (w : XW) (x1 : Int32) (x2 : Int32) (hI : Iv w)  : CnI l D aC b M_X10_have 5 113 0 0 [AR 95, AI x1, AI x2] w (fun r u => ((-2147483648) ≤ r.toInt ∧ r.toInt ≤ 2147483647 ∧ (¬ r.toInt = 0 ∨ (0 ≤ x1.toInt ∧ x1.toInt ≤ 5)) ∧ (¬ r.toInt = 0 ∨ (0 ≤ x2.toInt ∧ x2.toInt ≤ 14))) ∧ Jv w u) := by
  refine cn_I (own := RX10) (nm := "have") (L0 := [some (AR 95), some (AI x1), some (AI x2)]) (by decide +kernel) rfl rfl (Nat.le_of_ble_eq_true rfl) rfl ?_
  intro p e s m args below meth c E hin
  have hJ : Jv w w := jv_rfl hI
  have hb_x1 := z32 x1
  have hb_x2 := z32 x2
  refine s_aload_n E dX10_have_0 rfl rfl ?_
  refine s_iload_n E dX10_have_1 rfl rfl ?_
  refine s_vI (As := [AI x2]) (S := []) E (Z_X10_asksDance_95 l D aC b w x2 hJ.1 ) cv_X10_294 rfl rfl rfl (jv_lt hJ (by decide)) (Nat.le_of_ble_eq_true rfl) (Nat.le_of_ble_eq_true rfl) ⟨(Nat.le_of_ble_eq_true rfl), (Nat.le_of_ble_eq_true rfl)⟩ (Nat.le_of_ble_eq_true rfl) dX10_have_2 (fun z_3 u_1 hp_2 => ?_)
  obtain ⟨hz_3, hp_2⟩ := hp_2
  have hj_4 := jv_trans hJ hp_2
  refine z_if_eq (tgt := 26) (u := z_3.toInt) E dX10_have_5 (by decide) rfl (fun h_5 => ?_) (fun h_5 => ?_)
  ·
    refine s_bipush (v := (-2)) E dX10_have_26 (by decide) ?_
    exact r_int E dX10_have_28 ⟨⟨by decide, by decide, by first | (left; decide) | (right; decide) | (right; have hb_ := z32 x1; omega), by first | (left; decide) | (right; decide) | (right; have hb_ := z32 x2; omega)⟩, hj_4⟩
  ·
    refine s_aload_n E dX10_have_8 rfl rfl ?_
    refine s_iload_n E dX10_have_9 rfl rfl ?_
    refine z_i2l (u := x1.toInt) E dX10_have_10 rfl (fun z_6 hz_6 => ?_)
    refine s_vI (As := [AL z_6]) (S := []) E (Z_X10_isLady_95 l D aC b u_1 z_6 hj_4.1 ) cv_X10_222 rfl rfl rfl (jv_lt hj_4 (by decide)) (Nat.le_of_ble_eq_true rfl) (Nat.le_of_ble_eq_true rfl) ⟨(Nat.le_of_ble_eq_true rfl), (Nat.le_of_ble_eq_true rfl)⟩ (Nat.le_of_ble_eq_true rfl) dX10_have_11 (fun z_9 u_7 hp_8 => ?_)
    obtain ⟨hz_9, hp_8⟩ := hp_8
    subst hp_8
    refine z_if_eq (tgt := 26) (u := z_9.toInt) E dX10_have_14 (by decide) rfl (fun h_11 => ?_) (fun h_11 => ?_)
    ·
      refine s_bipush (v := (-2)) E dX10_have_26 (by decide) ?_
      exact r_int E dX10_have_28 ⟨⟨by decide, by decide, by first | (left; decide) | (right; decide) | (right; have hb_ := z32 x1; omega), by first | (left; decide) | (right; decide) | (right; have hb_ := z32 x2; omega)⟩, hj_4⟩
    ·
      refine s_aload_n E dX10_have_17 rfl rfl ?_
      refine s_iload_n E dX10_have_18 rfl rfl ?_
      refine s_iload_n E dX10_have_19 rfl rfl ?_
      refine s_vI (As := [AI x1, AI x2]) (S := []) E (Z_X10_goNote_95 l D aC b u_1 x1 x2 hj_4.1 ⟨by have hb_ := z32 x1; omega, by have hb_ := z32 x1; omega⟩ ⟨by have hb_ := z32 x2; omega, by have hb_ := z32 x2; omega⟩) cv_X10_335 rfl rfl rfl (jv_lt hj_4 (by decide)) (Nat.le_of_ble_eq_true rfl) (Nat.le_of_ble_eq_true rfl) ⟨(Nat.le_of_ble_eq_true rfl), (Nat.le_of_ble_eq_true rfl)⟩ (Nat.le_of_ble_eq_true rfl) dX10_have_20 (fun z_14 u_12 hp_13 => ?_)
      obtain ⟨hz_14, hxz_14, hf_u_12_95, hf_u_12_96, hf_u_12_L, hp_13⟩ := hp_13
      have hj_15 := jv_trans hj_4 hp_13
      refine s_goto (tgt := 28) E dX10_have_23 (by decide) ?_
      exact r_int E dX10_have_28 ⟨⟨by have hb_ := z32 z_14; omega, by have hb_ := z32 z_14; omega, by first | (right; decide) | (have hb_ := z32 z_14; omega) | (have hb_ := z32 z_14; have hc_ := z32 x1; omega), by first | (right; decide) | (have hb_ := z32 z_14; omega) | (have hb_ := z32 z_14; have hc_ := z32 x2; omega)⟩, hj_15⟩
set_option maxRecDepth 20000 in
set_option maxHeartbeats 2000000 in
theorem Z_X10_gets_95 (l : Launch) (D : va_G) (aC : Nat → ClassId) (b : Nat) (w : XW) (x1 : Int32) (x2 : Int32) (hI : Iv w)  : CnI l D aC b M_X10_gets 6 139 0 0 [AR 95, AI x1, AI x2] w (fun r u => ((-2) ≤ r.toInt ∧ r.toInt ≤ 14 ∧ (¬ r.toInt = 0 ∨ (0 ≤ x1.toInt ∧ x1.toInt ≤ 5)) ∧ (¬ r.toInt = 0 ∨ (0 ≤ x2.toInt ∧ x2.toInt ≤ 5))) ∧ Jv w u) := by
  refine cn_I (own := RX10) (nm := "gets") (L0 := [some (AR 95), some (AI x1), some (AI x2)]) (by decide +kernel) rfl rfl (Nat.le_of_ble_eq_true rfl) rfl ?_
  intro p e s m args below meth c E hin
  have hJ : Jv w w := jv_rfl hI
  have hb_x1 := z32 x1
  have hb_x2 := z32 x2
  refine s_aload_n E dX10_gets_0 rfl rfl ?_
  refine s_iload_n E dX10_gets_1 rfl rfl ?_
  refine s_iload_n E dX10_gets_2 rfl rfl ?_
  refine s_vI (As := [AI x1, AI x2]) (S := []) E (Z_X10_asksNote_95 l D aC b w x1 x2 hJ.1 ) cv_X10_340 rfl rfl rfl (jv_lt hJ (by decide)) (Nat.le_of_ble_eq_true rfl) (Nat.le_of_ble_eq_true rfl) ⟨(Nat.le_of_ble_eq_true rfl), (Nat.le_of_ble_eq_true rfl)⟩ (Nat.le_of_ble_eq_true rfl) dX10_gets_3 (fun z_3 u_1 hp_2 => ?_)
  obtain ⟨hz_3, hxz_3, hp_2⟩ := hp_2
  have hj_4 := jv_trans hJ hp_2
  refine z_if_eq (tgt := 18) (u := z_3.toInt) E dX10_gets_6 (by decide) rfl (fun h_5 => ?_) (fun h_5 => ?_)
  ·
    refine s_bipush (v := (-2)) E dX10_gets_18 (by decide) ?_
    exact r_int E dX10_gets_20 ⟨⟨by decide, by decide, by first | (left; decide) | (right; decide) | (right; have hb_ := z32 x1; omega), by first | (left; decide) | (right; decide) | (right; have hb_ := z32 x2; omega)⟩, hj_4⟩
  ·
    refine s_aload_n E dX10_gets_9 rfl rfl ?_
    refine s_gR (r := 107) E fg_X10_49 rfl rfl (jv_lt hj_4 (by decide)) (jv_r hj_4 (by decide +kernel)) dX10_gets_10 ?_
    refine s_iload_n E dX10_gets_13 rfl rfl ?_
    refine s_iald E rfl (jv_lt hj_4 (by decide)) (z_in (u := x2.toInt) rfl (by omega) (by omega)) dX10_gets_14 ?_
    refine z_nm (P := fun z => z.toInt = (u_1.2.2.1 107 x2.toNatClampNeg).toInt ∧ (-1) ≤ z.toInt ∧ z.toInt ≤ 14) ⟨rfl, (ra_107 hj_4 _)⟩ (fun z_6 hz_6 => ?_)
    refine s_goto (tgt := 20) E dX10_gets_15 (by decide) ?_
    exact r_int E dX10_gets_20 ⟨⟨by have hb_ := z32 z_6; omega, by have hb_ := z32 z_6; omega, by first | (right; decide) | (have hb_ := z32 z_6; omega) | (have hb_ := z32 z_6; have hc_ := z32 x1; omega), by first | (right; decide) | (have hb_ := z32 z_6; omega) | (have hb_ := z32 z_6; have hc_ := z32 x2; omega)⟩, hj_4⟩
set_option maxRecDepth 20000 in
set_option maxHeartbeats 2000000 in
theorem Z_X10_from_95 (l : Launch) (D : va_G) (aC : Nat → ClassId) (b : Nat) (w : XW) (x1 : Int32) (x2 : Int32) (hI : Iv w)  : CnI l D aC b M_X10_from 6 139 0 0 [AR 95, AI x1, AI x2] w (fun r u => ((-2) ≤ r.toInt ∧ r.toInt ≤ 5 ∧ (¬ r.toInt = 0 ∨ (0 ≤ x1.toInt ∧ x1.toInt ≤ 5)) ∧ (¬ r.toInt = 0 ∨ (0 ≤ x2.toInt ∧ x2.toInt ≤ 5))) ∧ Jv w u) := by
  refine cn_I (own := RX10) (nm := "from") (L0 := [some (AR 95), some (AI x1), some (AI x2)]) (by decide +kernel) rfl rfl (Nat.le_of_ble_eq_true rfl) rfl ?_
  intro p e s m args below meth c E hin
  have hJ : Jv w w := jv_rfl hI
  have hb_x1 := z32 x1
  have hb_x2 := z32 x2
  refine s_aload_n E dX10_from_0 rfl rfl ?_
  refine s_iload_n E dX10_from_1 rfl rfl ?_
  refine s_iload_n E dX10_from_2 rfl rfl ?_
  refine s_vI (As := [AI x1, AI x2]) (S := []) E (Z_X10_asksNote_95 l D aC b w x1 x2 hJ.1 ) cv_X10_340 rfl rfl rfl (jv_lt hJ (by decide)) (Nat.le_of_ble_eq_true rfl) (Nat.le_of_ble_eq_true rfl) ⟨(Nat.le_of_ble_eq_true rfl), (Nat.le_of_ble_eq_true rfl)⟩ (Nat.le_of_ble_eq_true rfl) dX10_from_3 (fun z_3 u_1 hp_2 => ?_)
  obtain ⟨hz_3, hxz_3, hp_2⟩ := hp_2
  have hj_4 := jv_trans hJ hp_2
  refine z_if_eq (tgt := 18) (u := z_3.toInt) E dX10_from_6 (by decide) rfl (fun h_5 => ?_) (fun h_5 => ?_)
  ·
    refine s_bipush (v := (-2)) E dX10_from_18 (by decide) ?_
    exact r_int E dX10_from_20 ⟨⟨by decide, by decide, by first | (left; decide) | (right; decide) | (right; have hb_ := z32 x1; omega), by first | (left; decide) | (right; decide) | (right; have hb_ := z32 x2; omega)⟩, hj_4⟩
  ·
    refine s_aload_n E dX10_from_9 rfl rfl ?_
    refine s_gR (r := 108) E fg_X10_52 rfl rfl (jv_lt hj_4 (by decide)) (jv_r hj_4 (by decide +kernel)) dX10_from_10 ?_
    refine s_iload_n E dX10_from_13 rfl rfl ?_
    refine s_iald E rfl (jv_lt hj_4 (by decide)) (z_in (u := x2.toInt) rfl (by omega) (by omega)) dX10_from_14 ?_
    refine z_nm (P := fun z => z.toInt = (u_1.2.2.1 108 x2.toNatClampNeg).toInt ∧ (-1) ≤ z.toInt ∧ z.toInt ≤ 5) ⟨rfl, (ra_108 hj_4 _)⟩ (fun z_6 hz_6 => ?_)
    refine s_goto (tgt := 20) E dX10_from_15 (by decide) ?_
    exact r_int E dX10_from_20 ⟨⟨by have hb_ := z32 z_6; omega, by have hb_ := z32 z_6; omega, by first | (right; decide) | (have hb_ := z32 z_6; omega) | (have hb_ := z32 z_6; have hc_ := z32 x1; omega), by first | (right; decide) | (have hb_ := z32 z_6; omega) | (have hb_ := z32 z_6; have hc_ := z32 x2; omega)⟩, hj_4⟩
set_option maxRecDepth 20000 in
set_option maxHeartbeats 2000000 in
theorem Z_X10_all_95 (l : Launch) (D : va_G) (aC : Nat → ClassId) (b : Nat) (w : XW) (x1 : Int32) (hI : Iv w)  : CnI l D aC b M_X10_all 5 117 0 0 [AR 95, AI x1] w (fun r u => ((-2) ≤ r.toInt ∧ r.toInt ≤ 14 ∧ (¬ r.toInt = 0 ∨ (0 ≤ x1.toInt ∧ x1.toInt ≤ 5))) ∧ Jv w u) := by
  refine cn_I (own := RX10) (nm := "all") (L0 := [some (AR 95), some (AI x1), none]) (by decide +kernel) rfl rfl (Nat.le_of_ble_eq_true rfl) rfl ?_
  intro p e s m args below meth c E hin
  have hJ : Jv w w := jv_rfl hI
  have hb_x1 := z32 x1
  refine s_aload_n E dX10_all_0 rfl rfl ?_
  refine s_iload_n E dX10_all_1 rfl rfl ?_
  refine s_vI (As := [AI x1]) (S := []) E (Z_X10_asksLady_95 l D aC b w x1 hJ.1 ) cv_X10_288 rfl rfl rfl (jv_lt hJ (by decide)) (Nat.le_of_ble_eq_true rfl) (Nat.le_of_ble_eq_true rfl) ⟨(Nat.le_of_ble_eq_true rfl), (Nat.le_of_ble_eq_true rfl)⟩ (Nat.le_of_ble_eq_true rfl) dX10_all_2 (fun z_3 u_1 hp_2 => ?_)
  obtain ⟨hz_3, hp_2⟩ := hp_2
  have hj_4 := jv_trans hJ hp_2
  refine z_if_ne (tgt := 11) (u := z_3.toInt) E dX10_all_5 (by decide) rfl (fun h_5 => ?_) (fun h_5 => ?_)
  ·
    refine s_aload_n E dX10_all_11 rfl rfl ?_
    refine s_iload_n E dX10_all_12 rfl rfl ?_
    refine s_vI (As := [AI x1]) (S := []) E (Z_X10_goNote__95 l D aC b u_1 x1 hj_4.1 ⟨by have hb_ := z32 x1; omega, by have hb_ := z32 x1; omega⟩) cv_X10_338 rfl rfl rfl (jv_lt hj_4 (by decide)) (Nat.le_of_ble_eq_true rfl) (Nat.le_of_ble_eq_true rfl) ⟨(Nat.le_of_ble_eq_true rfl), (Nat.le_of_ble_eq_true rfl)⟩ (Nat.le_of_ble_eq_true rfl) dX10_all_13 (fun z_8 u_6 hp_7 => ?_)
    obtain ⟨hz_8, hxz_8, hp_7⟩ := hp_7
    have hj_9 := jv_trans hj_4 hp_7
    refine s_popI E dX10_all_16 ?_
    refine s_iconst (v := 0) E dX10_all_17 (by decide) ?_
    refine s_istore_n (L2 := [some (AR 95), some (AI x1), some (AI 0)]) E dX10_all_18 rfl (by decide) rfl ?_
    refine z_loop (St := Int32) (Pi := fun q19_2_9 v19 => (0 ≤ q19_2_9.toInt ∧ q19_2_9.toInt ≤ 15) ∧ u_6 = v19) (Lf := fun q19_2_9 => [some (AR 95), some (AI x1), some (AI q19_2_9)]) (fun q19_2_9 _ => (16 - q19_2_9.toInt).toNat) 0 ⟨⟨by decide, by decide⟩, rfl⟩ ?_
    rintro q19_2_9 v19 ⟨hq19_2, hv_⟩ ih19
    subst hv_
    refine s_loc (L2 := [some (AR 95), some (AI x1), some (AI q19_2_9)]) rfl ?_
    refine s_iload_n E dX10_all_19 rfl rfl ?_
    refine s_aload_n E dX10_all_20 rfl rfl ?_
    refine s_vI (As := []) (S := [AI q19_2_9]) E (Z_X10_dances_95 l D aC b u_6  hj_9.1 ) cv_X10_247 rfl rfl rfl (jv_lt hj_9 (by decide)) (Nat.le_of_ble_eq_true rfl) (Nat.le_of_ble_eq_true rfl) ⟨(Nat.le_of_ble_eq_true rfl), (Nat.le_of_ble_eq_true rfl)⟩ (Nat.le_of_ble_eq_true rfl) dX10_all_21 (fun z_13 u_11 hp_12 => ?_)
    obtain ⟨hz_13, hxz_13, hp_12⟩ := hp_12
    subst hp_12
    refine z_icmp_gt (tgt := 52) (u := q19_2_9.toInt) (v := z_13.toInt) E dX10_all_24 (by decide) rfl rfl (fun h_15 => ?_) (fun h_15 => ?_)
    ·
      refine s_iconst (v := (-1)) E dX10_all_52 (by decide) ?_
      exact r_int E dX10_all_53 ⟨⟨by decide, by decide, by first | (left; decide) | (right; decide) | (right; have hb_ := z32 x1; omega)⟩, hj_9⟩
    ·
      refine s_aload_n E dX10_all_27 rfl rfl ?_
      refine s_gR (r := 106) E fg_X10_46 rfl rfl (jv_lt hj_9 (by decide)) (jv_r hj_9 (by decide +kernel)) dX10_all_28 ?_
      refine s_iload_n E dX10_all_31 rfl rfl ?_
      refine s_iald E rfl (jv_lt hj_9 (by decide)) (z_in (u := q19_2_9.toInt) rfl (by omega) (by omega)) dX10_all_32 ?_
      refine z_nm (P := fun z => (-2147483648) ≤ z.toInt ∧ z.toInt ≤ 2147483647) (z32 _) (fun z_16 hz_16 => ?_)
      refine s_iconst (v := 1) E dX10_all_33 (by decide) ?_
      refine s_aload_n E dX10_all_34 rfl rfl ?_
      refine s_vI (As := []) (S := [AI 1, AI z_16]) E (Z_X10_ladies_95 l D aC b u_6  hj_9.1 ) cv_X10_244 rfl rfl rfl (jv_lt hj_9 (by decide)) (Nat.le_of_ble_eq_true rfl) (Nat.le_of_ble_eq_true rfl) ⟨(Nat.le_of_ble_eq_true rfl), (Nat.le_of_ble_eq_true rfl)⟩ (Nat.le_of_ble_eq_true rfl) dX10_all_35 (fun z_19 u_17 hp_18 => ?_)
      obtain ⟨hz_19, hxz_19, hp_18⟩ := hp_18
      subst hp_18
      refine z_shl1 6 (u := z_19.toInt) (B := 64) E dX10_all_38 rfl (by omega) (by omega) (by decide) (by decide) (fun z_21 hz_21 => ?_)
      refine s_iconst (v := 1) E dX10_all_39 (by decide) ?_
      refine z_isub (u := z_21.toInt) (v := 1) E dX10_all_40 rfl (by decide) (by omega) (by omega) (fun z_22 hz_22 => ?_)
      refine z_icmp_ne (tgt := 46) (u := z_16.toInt) (v := z_22.toInt) E dX10_all_41 (by decide) rfl rfl (fun h_23 => ?_) (fun h_23 => ?_)
      ·
        refine z_iinc (u := q19_2_9.toInt) (L2 := fun z_24 => [some (AR 95), some (AI x1), some (AI z_24)]) E dX10_all_46 rfl rfl (by decide) (fun _ => rfl) (by decide) (by omega) (by omega) (fun z_24 hz_24 => ?_)
        refine s_goto (tgt := 19) E dX10_all_49 (by decide) ?_
        exact ih19 z_24 u_6 ⟨⟨by have hb_ := z32 z_24; omega, by have hb_ := z32 z_24; omega⟩, rfl⟩ (by first | omega | decide | (dsimp only; omega) | (dsimp only; decide))
      ·
        refine s_iload_n E dX10_all_44 rfl rfl ?_
        exact r_int E dX10_all_45 ⟨⟨by have hb_ := z32 q19_2_9; omega, by have hb_ := z32 q19_2_9; omega, by first | (right; decide) | (have hb_ := z32 q19_2_9; omega) | (have hb_ := z32 q19_2_9; have hc_ := z32 x1; omega)⟩, hj_9⟩
  ·
    refine s_bipush (v := (-2)) E dX10_all_8 (by decide) ?_
    exact r_int E dX10_all_10 ⟨⟨by decide, by decide, by first | (left; decide) | (right; decide) | (right; have hb_ := z32 x1; omega)⟩, hj_4⟩
set_option maxRecDepth 20000 in
set_option maxHeartbeats 2000000 in
theorem Z_X10_best_95 (l : Launch) (D : va_G) (aC : Nat → ClassId) (b : Nat) (w : XW)  (hI : Iv w)  : CnI l D aC b M_X10_best 5 117 0 0 [AR 95] w (fun r u => ((-2) ≤ r.toInt ∧ r.toInt ≤ 64) ∧ Jv w u) := by
  refine cn_I (own := RX10) (nm := "best") (L0 := [some (AR 95), none, none, none, none]) (by decide +kernel) rfl rfl (Nat.le_of_ble_eq_true rfl) rfl ?_
  intro p e s m args below meth c E hin
  have hJ : Jv w w := jv_rfl hI
  refine s_aload_n E dX10_best_0 rfl rfl ?_
  refine s_vI (As := []) (S := []) E (Z_X10_asksBall_95 l D aC b w  hJ.1 ) cv_X10_322 rfl rfl rfl (jv_lt hJ (by decide)) (Nat.le_of_ble_eq_true rfl) (Nat.le_of_ble_eq_true rfl) ⟨(Nat.le_of_ble_eq_true rfl), (Nat.le_of_ble_eq_true rfl)⟩ (Nat.le_of_ble_eq_true rfl) dX10_best_1 (fun z_3 u_1 hp_2 => ?_)
  obtain ⟨hz_3, hp_2⟩ := hp_2
  have hj_4 := jv_trans hJ hp_2
  refine z_if_ne (tgt := 10) (u := z_3.toInt) E dX10_best_4 (by decide) rfl (fun h_5 => ?_) (fun h_5 => ?_)
  ·
    refine s_iconst (v := (-1)) E dX10_best_10 (by decide) ?_
    refine s_istore_n (L2 := [some (AR 95), some (AI (-1)), none, none, none]) E dX10_best_11 rfl (by decide) rfl ?_
    refine s_iconst (v := 0) E dX10_best_12 (by decide) ?_
    refine s_istore_n (L2 := [some (AR 95), some (AI (-1)), some (AI 0), none, none]) E dX10_best_13 rfl (by decide) rfl ?_
    refine s_iconst (v := 0) E dX10_best_14 (by decide) ?_
    refine s_istore_n (L2 := [some (AR 95), some (AI (-1)), some (AI 0), some (AI 0), none]) E dX10_best_15 rfl (by decide) rfl ?_
    refine z_loop (St := Int32 × Int32 × Int32) (Pi := fun ⟨q16_1_5, q16_2_5, q16_3_5⟩ v16 => ((-1) ≤ q16_1_5.toInt ∧ q16_1_5.toInt ≤ 64) ∧ (0 ≤ q16_2_5.toInt ∧ q16_2_5.toInt ≤ 2147483647) ∧ (0 ≤ q16_3_5.toInt ∧ q16_3_5.toInt ≤ 6) ∧ Jv w v16) (Lf := fun ⟨q16_1_5, q16_2_5, q16_3_5⟩ => [some (AR 95), some (AI q16_1_5), some (AI q16_2_5), some (AI q16_3_5), none]) (fun ⟨q16_1_5, q16_2_5, q16_3_5⟩ _ => (7 - q16_3_5.toInt).toNat) ⟨(-1), 0, 0⟩ ⟨⟨by decide, by decide⟩, ⟨by decide, by decide⟩, ⟨by decide, by decide⟩, hj_4⟩ ?_
    rintro ⟨q16_1_5, q16_2_5, q16_3_5⟩ v16 ⟨hq16_1, hq16_2, hq16_3, hj_6⟩ ih16
    refine s_loc (L2 := [some (AR 95), some (AI q16_1_5), some (AI q16_2_5), some (AI q16_3_5), none]) rfl ?_
    refine s_iload_n E dX10_best_16 rfl rfl ?_
    refine s_aload_n E dX10_best_17 rfl rfl ?_
    refine s_vI (As := []) (S := [AI q16_3_5]) E (Z_X10_ladies_95 l D aC b v16  hj_6.1 ) cv_X10_244 rfl rfl rfl (jv_lt hj_6 (by decide)) (Nat.le_of_ble_eq_true rfl) (Nat.le_of_ble_eq_true rfl) ⟨(Nat.le_of_ble_eq_true rfl), (Nat.le_of_ble_eq_true rfl)⟩ (Nat.le_of_ble_eq_true rfl) dX10_best_18 (fun z_9 u_7 hp_8 => ?_)
    obtain ⟨hz_9, hxz_9, hp_8⟩ := hp_8
    subst hp_8
    refine z_icmp_ge (tgt := 54) (u := q16_3_5.toInt) (v := z_9.toInt) E dX10_best_21 (by decide) rfl rfl (fun h_11 => ?_) (fun h_11 => ?_)
    ·
      refine s_iload_n E dX10_best_54 rfl rfl ?_
      exact r_int E dX10_best_55 ⟨⟨by have hb_ := z32 q16_1_5; omega, by have hb_ := z32 q16_1_5; omega⟩, hj_6⟩
    ·
      refine s_aload_n E dX10_best_24 rfl rfl ?_
      refine s_iload_n E dX10_best_25 rfl rfl ?_
      refine s_vI (As := [AI q16_3_5]) (S := []) E (Z_X10_goNote__95 l D aC b v16 q16_3_5 hj_6.1 ⟨by have hb_ := z32 q16_3_5; omega, by have hb_ := z32 q16_3_5; omega⟩) cv_X10_338 rfl rfl rfl (jv_lt hj_6 (by decide)) (Nat.le_of_ble_eq_true rfl) (Nat.le_of_ble_eq_true rfl) ⟨(Nat.le_of_ble_eq_true rfl), (Nat.le_of_ble_eq_true rfl)⟩ (Nat.le_of_ble_eq_true rfl) dX10_best_26 (fun z_14 u_12 hp_13 => ?_)
      obtain ⟨hz_14, hxz_14, hp_13⟩ := hp_13
      have hj_15 := jv_trans hj_6 hp_13
      refine s_sI (As := [AI z_14]) (S := []) E (Z_X10_bits l D aC b u_12 z_14 hj_15.1 ) cs_X10_319 rfl rfl (Nat.le_of_ble_eq_true rfl) (Nat.le_of_ble_eq_true rfl) ⟨(Nat.le_of_ble_eq_true rfl), (Nat.le_of_ble_eq_true rfl)⟩ (Nat.le_of_ble_eq_true rfl) dX10_best_29 (fun z_18 u_16 hp_17 => ?_)
      obtain ⟨hz_18, hp_17⟩ := hp_17
      subst hp_17
      refine s_istore (L2 := [some (AR 95), some (AI q16_1_5), some (AI q16_2_5), some (AI q16_3_5), some (AI z_18)]) E dX10_best_32 (by decide) rfl ?_
      refine s_iload E dX10_best_34 rfl ?_
      refine s_iload_n E dX10_best_36 rfl rfl ?_
      refine z_icmp_gt (tgt := 43) (u := z_18.toInt) (v := q16_2_5.toInt) E dX10_best_37 (by decide) rfl rfl (fun h_20 => ?_) (fun h_20 => ?_)
      ·
        refine s_iload E dX10_best_43 rfl ?_
        refine s_istore_n (L2 := [some (AR 95), some (AI q16_1_5), some (AI z_18), some (AI q16_3_5), some (AI z_18)]) E dX10_best_45 rfl (by decide) rfl ?_
        refine s_iload_n E dX10_best_46 rfl rfl ?_
        refine s_istore_n (L2 := [some (AR 95), some (AI q16_3_5), some (AI z_18), some (AI q16_3_5), some (AI z_18)]) E dX10_best_47 rfl (by decide) rfl ?_
        refine z_iinc (u := q16_3_5.toInt) (L2 := fun z_21 => [some (AR 95), some (AI q16_3_5), some (AI z_18), some (AI z_21), some (AI z_18)]) E dX10_best_48 rfl rfl (by decide) (fun _ => rfl) (by decide) (by omega) (by omega) (fun z_21 hz_21 => ?_)
        refine s_goto (tgt := 16) E dX10_best_51 (by decide) ?_
        refine s_drop (i := 4) (L2 := [some (AR 95), some (AI q16_3_5), some (AI z_18), some (AI z_21), none]) rfl ?_
        exact ih16 ⟨q16_3_5, z_18, z_21⟩ u_12 ⟨⟨by have hb_ := z32 q16_3_5; omega, by have hb_ := z32 q16_3_5; omega⟩, ⟨by have hb_ := z32 z_18; omega, by have hb_ := z32 z_18; omega⟩, ⟨by have hb_ := z32 z_21; omega, by have hb_ := z32 z_21; omega⟩, hj_15⟩ (by first | omega | decide | (dsimp only; omega) | (dsimp only; decide))
      ·
        refine s_goto (tgt := 48) E dX10_best_40 (by decide) ?_
        refine z_iinc (u := q16_3_5.toInt) (L2 := fun z_22 => [some (AR 95), some (AI q16_1_5), some (AI q16_2_5), some (AI z_22), some (AI z_18)]) E dX10_best_48 rfl rfl (by decide) (fun _ => rfl) (by decide) (by omega) (by omega) (fun z_22 hz_22 => ?_)
        refine s_goto (tgt := 16) E dX10_best_51 (by decide) ?_
        refine s_drop (i := 4) (L2 := [some (AR 95), some (AI q16_1_5), some (AI q16_2_5), some (AI z_22), none]) rfl ?_
        exact ih16 ⟨q16_1_5, q16_2_5, z_22⟩ u_12 ⟨⟨by have hb_ := z32 q16_1_5; omega, by have hb_ := z32 q16_1_5; omega⟩, ⟨by have hb_ := z32 q16_2_5; omega, by have hb_ := z32 q16_2_5; omega⟩, ⟨by have hb_ := z32 z_22; omega, by have hb_ := z32 z_22; omega⟩, hj_15⟩ (by first | omega | decide | (dsimp only; omega) | (dsimp only; decide))
  ·
    refine s_bipush (v := (-2)) E dX10_best_7 (by decide) ?_
    exact r_int E dX10_best_9 ⟨(by decide), hj_4⟩
set_option maxRecDepth 20000 in
set_option maxHeartbeats 2000000 in
theorem Z_X10_lasts_95 (l : Launch) (D : va_G) (aC : Nat → ClassId) (b : Nat) (w : XW) (x1 : Int32) (hI : Iv w)  : CnI l D aC b M_X10_lasts 5 117 0 0 [AR 95, AI x1] w (fun r u => ((-2) ≤ r.toInt ∧ r.toInt ≤ 14 ∧ (¬ r.toInt = 0 ∨ (0 ≤ x1.toInt ∧ x1.toInt ≤ 5))) ∧ Jv w u) := by
  refine cn_I (own := RX10) (nm := "lasts") (L0 := [some (AR 95), some (AI x1), none, none]) (by decide +kernel) rfl rfl (Nat.le_of_ble_eq_true rfl) rfl ?_
  intro p e s m args below meth c E hin
  have hJ : Jv w w := jv_rfl hI
  have hb_x1 := z32 x1
  refine s_aload_n E dX10_lasts_0 rfl rfl ?_
  refine s_iload_n E dX10_lasts_1 rfl rfl ?_
  refine s_vI (As := [AI x1]) (S := []) E (Z_X10_asksLady_95 l D aC b w x1 hJ.1 ) cv_X10_288 rfl rfl rfl (jv_lt hJ (by decide)) (Nat.le_of_ble_eq_true rfl) (Nat.le_of_ble_eq_true rfl) ⟨(Nat.le_of_ble_eq_true rfl), (Nat.le_of_ble_eq_true rfl)⟩ (Nat.le_of_ble_eq_true rfl) dX10_lasts_2 (fun z_3 u_1 hp_2 => ?_)
  obtain ⟨hz_3, hp_2⟩ := hp_2
  have hj_4 := jv_trans hJ hp_2
  refine z_if_ne (tgt := 11) (u := z_3.toInt) E dX10_lasts_5 (by decide) rfl (fun h_5 => ?_) (fun h_5 => ?_)
  ·
    refine s_aload_n E dX10_lasts_11 rfl rfl ?_
    refine s_iload_n E dX10_lasts_12 rfl rfl ?_
    refine s_vI (As := [AI x1]) (S := []) E (Z_X10_goNote__95 l D aC b u_1 x1 hj_4.1 ⟨by have hb_ := z32 x1; omega, by have hb_ := z32 x1; omega⟩) cv_X10_338 rfl rfl rfl (jv_lt hj_4 (by decide)) (Nat.le_of_ble_eq_true rfl) (Nat.le_of_ble_eq_true rfl) ⟨(Nat.le_of_ble_eq_true rfl), (Nat.le_of_ble_eq_true rfl)⟩ (Nat.le_of_ble_eq_true rfl) dX10_lasts_13 (fun z_8 u_6 hp_7 => ?_)
    obtain ⟨hz_8, hxz_8, hp_7⟩ := hp_7
    have hj_9 := jv_trans hj_4 hp_7
    refine s_popI E dX10_lasts_16 ?_
    refine s_iconst (v := (-1)) E dX10_lasts_17 (by decide) ?_
    refine s_istore_n (L2 := [some (AR 95), some (AI x1), some (AI (-1)), none]) E dX10_lasts_18 rfl (by decide) rfl ?_
    refine s_iconst (v := 0) E dX10_lasts_19 (by decide) ?_
    refine s_istore_n (L2 := [some (AR 95), some (AI x1), some (AI (-1)), some (AI 0)]) E dX10_lasts_20 rfl (by decide) rfl ?_
    refine z_loop (St := Int32 × Int32) (Pi := fun ⟨q21_2_9, q21_3_9⟩ v21 => ((-1) ≤ q21_2_9.toInt ∧ q21_2_9.toInt ≤ 14) ∧ (0 ≤ q21_3_9.toInt ∧ q21_3_9.toInt ≤ 6) ∧ u_6 = v21) (Lf := fun ⟨q21_2_9, q21_3_9⟩ => [some (AR 95), some (AI x1), some (AI q21_2_9), some (AI q21_3_9)]) (fun ⟨q21_2_9, q21_3_9⟩ _ => (7 - q21_3_9.toInt).toNat) ⟨(-1), 0⟩ ⟨⟨by decide, by decide⟩, ⟨by decide, by decide⟩, rfl⟩ ?_
    rintro ⟨q21_2_9, q21_3_9⟩ v21 ⟨hq21_2, hq21_3, hv_⟩ ih21
    subst hv_
    refine s_loc (L2 := [some (AR 95), some (AI x1), some (AI q21_2_9), some (AI q21_3_9)]) rfl ?_
    refine s_iload_n E dX10_lasts_21 rfl rfl ?_
    refine s_aload_n E dX10_lasts_22 rfl rfl ?_
    refine s_vI (As := []) (S := [AI q21_3_9]) E (Z_X10_ladies_95 l D aC b u_6  hj_9.1 ) cv_X10_244 rfl rfl rfl (jv_lt hj_9 (by decide)) (Nat.le_of_ble_eq_true rfl) (Nat.le_of_ble_eq_true rfl) ⟨(Nat.le_of_ble_eq_true rfl), (Nat.le_of_ble_eq_true rfl)⟩ (Nat.le_of_ble_eq_true rfl) dX10_lasts_23 (fun z_13 u_11 hp_12 => ?_)
    obtain ⟨hz_13, hxz_13, hp_12⟩ := hp_12
    subst hp_12
    refine z_icmp_ge (tgt := 55) (u := q21_3_9.toInt) (v := z_13.toInt) E dX10_lasts_26 (by decide) rfl rfl (fun h_15 => ?_) (fun h_15 => ?_)
    ·
      refine s_iload_n E dX10_lasts_55 rfl rfl ?_
      exact r_int E dX10_lasts_56 ⟨⟨by have hb_ := z32 q21_2_9; omega, by have hb_ := z32 q21_2_9; omega, by first | (right; decide) | (have hb_ := z32 q21_2_9; omega) | (have hb_ := z32 q21_2_9; have hc_ := z32 x1; omega)⟩, hj_9⟩
    ·
      refine s_iload_n E dX10_lasts_29 rfl rfl ?_
      refine s_iload_n E dX10_lasts_30 rfl rfl ?_
      refine z_icmp_ne (tgt := 38) (u := q21_3_9.toInt) (v := x1.toInt) E dX10_lasts_31 (by decide) rfl rfl (fun h_16 => ?_) (fun h_16 => ?_)
      ·
        refine s_iload_n E dX10_lasts_38 rfl rfl ?_
        refine s_aload_n E dX10_lasts_39 rfl rfl ?_
        refine s_gR (r := 107) E fg_X10_49 rfl rfl (jv_lt hj_9 (by decide)) (jv_r hj_9 (by decide +kernel)) dX10_lasts_40 ?_
        refine s_iload_n E dX10_lasts_43 rfl rfl ?_
        refine s_iald E rfl (jv_lt hj_9 (by decide)) (z_in (u := q21_3_9.toInt) rfl (by omega) (by omega)) dX10_lasts_44 ?_
        refine z_nm (P := fun z => z.toInt = (u_6.2.2.1 107 q21_3_9.toNatClampNeg).toInt ∧ (-1) ≤ z.toInt ∧ z.toInt ≤ 14) ⟨rfl, (ra_107 hj_9 _)⟩ (fun z_17 hz_17 => ?_)
        refine z_max (u := q21_2_9.toInt) (v := z_17.toInt) E ⟨k_1728, k_41, k_4, k_42⟩ (Nat.le_of_ble_eq_true rfl) (Nat.le_of_ble_eq_true rfl) (Nat.le_of_ble_eq_true rfl) (Nat.le_of_ble_eq_true rfl) dX10_lasts_45 rfl rfl (fun z_18 hz_18 => ?_)
        refine s_istore_n (L2 := [some (AR 95), some (AI x1), some (AI z_18), some (AI q21_3_9)]) E dX10_lasts_48 rfl (by decide) rfl ?_
        refine z_iinc (u := q21_3_9.toInt) (L2 := fun z_19 => [some (AR 95), some (AI x1), some (AI z_18), some (AI z_19)]) E dX10_lasts_49 rfl rfl (by decide) (fun _ => rfl) (by decide) (by omega) (by omega) (fun z_19 hz_19 => ?_)
        refine s_goto (tgt := 21) E dX10_lasts_52 (by decide) ?_
        exact ih21 ⟨z_18, z_19⟩ u_6 ⟨⟨by have hb_ := z32 z_18; omega, by have hb_ := z32 z_18; omega⟩, ⟨by have hb_ := z32 z_19; omega, by have hb_ := z32 z_19; omega⟩, rfl⟩ (by first | omega | decide | (dsimp only; omega) | (dsimp only; decide))
      ·
        refine s_iload_n E dX10_lasts_34 rfl rfl ?_
        refine s_goto (tgt := 48) E dX10_lasts_35 (by decide) ?_
        refine s_istore_n (L2 := [some (AR 95), some (AI x1), some (AI q21_2_9), some (AI q21_3_9)]) E dX10_lasts_48 rfl (by decide) rfl ?_
        refine z_iinc (u := q21_3_9.toInt) (L2 := fun z_20 => [some (AR 95), some (AI x1), some (AI q21_2_9), some (AI z_20)]) E dX10_lasts_49 rfl rfl (by decide) (fun _ => rfl) (by decide) (by omega) (by omega) (fun z_20 hz_20 => ?_)
        refine s_goto (tgt := 21) E dX10_lasts_52 (by decide) ?_
        exact ih21 ⟨q21_2_9, z_20⟩ u_6 ⟨⟨by have hb_ := z32 q21_2_9; omega, by have hb_ := z32 q21_2_9; omega⟩, ⟨by have hb_ := z32 z_20; omega, by have hb_ := z32 z_20; omega⟩, rfl⟩ (by first | omega | decide | (dsimp only; omega) | (dsimp only; decide))
  ·
    refine s_bipush (v := (-2)) E dX10_lasts_8 (by decide) ?_
    exact r_int E dX10_lasts_10 ⟨⟨by decide, by decide, by first | (left; decide) | (right; decide) | (right; have hb_ := z32 x1; omega)⟩, hj_4⟩
set_option maxRecDepth 20000 in
set_option maxHeartbeats 2000000 in
theorem Z_X10_needed_95 (l : Launch) (D : va_G) (aC : Nat → ClassId) (b : Nat) (w : XW) (x1 : Int32) (hI : Iv w)  : CnI l D aC b M_X10_needed 5 117 0 0 [AR 95, AI x1] w (fun r u => ((-2147483648) ≤ r.toInt ∧ r.toInt ≤ 2147483647 ∧ (¬ r.toInt = 0 ∨ (0 ≤ x1.toInt ∧ x1.toInt ≤ 5))) ∧ Jv w u) := by
  refine cn_I (own := RX10) (nm := "needed") (L0 := [some (AR 95), some (AI x1), none, none, none]) (by decide +kernel) rfl rfl (Nat.le_of_ble_eq_true rfl) rfl ?_
  intro p e s m args below meth c E hin
  have hJ : Jv w w := jv_rfl hI
  have hb_x1 := z32 x1
  refine s_aload_n E dX10_needed_0 rfl rfl ?_
  refine s_iload_n E dX10_needed_1 rfl rfl ?_
  refine s_vI (As := [AI x1]) (S := []) E (Z_X10_asksLady_95 l D aC b w x1 hJ.1 ) cv_X10_288 rfl rfl rfl (jv_lt hJ (by decide)) (Nat.le_of_ble_eq_true rfl) (Nat.le_of_ble_eq_true rfl) ⟨(Nat.le_of_ble_eq_true rfl), (Nat.le_of_ble_eq_true rfl)⟩ (Nat.le_of_ble_eq_true rfl) dX10_needed_2 (fun z_3 u_1 hp_2 => ?_)
  obtain ⟨hz_3, hp_2⟩ := hp_2
  have hj_4 := jv_trans hJ hp_2
  refine z_if_ne (tgt := 11) (u := z_3.toInt) E dX10_needed_5 (by decide) rfl (fun h_5 => ?_) (fun h_5 => ?_)
  ·
    refine s_aload_n E dX10_needed_11 rfl rfl ?_
    refine s_iload_n E dX10_needed_12 rfl rfl ?_
    refine s_vI (As := [AI x1]) (S := []) E (Z_X10_goNote__95 l D aC b u_1 x1 hj_4.1 ⟨by have hb_ := z32 x1; omega, by have hb_ := z32 x1; omega⟩) cv_X10_338 rfl rfl rfl (jv_lt hj_4 (by decide)) (Nat.le_of_ble_eq_true rfl) (Nat.le_of_ble_eq_true rfl) ⟨(Nat.le_of_ble_eq_true rfl), (Nat.le_of_ble_eq_true rfl)⟩ (Nat.le_of_ble_eq_true rfl) dX10_needed_13 (fun z_8 u_6 hp_7 => ?_)
    obtain ⟨hz_8, hxz_8, hp_7⟩ := hp_7
    have hj_9 := jv_trans hj_4 hp_7
    refine s_istore_n (L2 := [some (AR 95), some (AI x1), some (AI z_8), none, none]) E dX10_needed_16 rfl (by decide) rfl ?_
    refine s_iconst (v := 0) E dX10_needed_17 (by decide) ?_
    refine s_istore_n (L2 := [some (AR 95), some (AI x1), some (AI z_8), some (AI 0), none]) E dX10_needed_18 rfl (by decide) rfl ?_
    refine s_iconst (v := 0) E dX10_needed_19 (by decide) ?_
    refine s_istore (L2 := [some (AR 95), some (AI x1), some (AI z_8), some (AI 0), some (AI 0)]) E dX10_needed_20 (by decide) rfl ?_
    refine z_loop (St := Int32 × Int32) (Pi := fun ⟨q22_3_9, q22_4_9⟩ v22 => (0 ≤ q22_4_9.toInt ∧ q22_4_9.toInt ≤ 6) ∧ Jv w v22) (Lf := fun ⟨q22_3_9, q22_4_9⟩ => [some (AR 95), some (AI x1), some (AI z_8), some (AI q22_3_9), some (AI q22_4_9)]) (fun ⟨q22_3_9, q22_4_9⟩ _ => (7 - q22_4_9.toInt).toNat) ⟨0, 0⟩ ⟨⟨by decide, by decide⟩, hj_9⟩ ?_
    rintro ⟨q22_3_9, q22_4_9⟩ v22 ⟨hq22_4, hj_10⟩ ih22
    have hbq22_3 := z32 q22_3_9
    refine s_loc (L2 := [some (AR 95), some (AI x1), some (AI z_8), some (AI q22_3_9), some (AI q22_4_9)]) rfl ?_
    refine s_iload E dX10_needed_22 rfl ?_
    refine s_aload_n E dX10_needed_24 rfl rfl ?_
    refine s_vI (As := []) (S := [AI q22_4_9]) E (Z_X10_ladies_95 l D aC b v22  hj_10.1 ) cv_X10_244 rfl rfl rfl (jv_lt hj_10 (by decide)) (Nat.le_of_ble_eq_true rfl) (Nat.le_of_ble_eq_true rfl) ⟨(Nat.le_of_ble_eq_true rfl), (Nat.le_of_ble_eq_true rfl)⟩ (Nat.le_of_ble_eq_true rfl) dX10_needed_25 (fun z_13 u_11 hp_12 => ?_)
    obtain ⟨hz_13, hxz_13, hp_12⟩ := hp_12
    subst hp_12
    refine z_icmp_ge (tgt := 84) (u := q22_4_9.toInt) (v := z_13.toInt) E dX10_needed_28 (by decide) rfl rfl (fun h_15 => ?_) (fun h_15 => ?_)
    ·
      refine s_iload_n E dX10_needed_84 rfl rfl ?_
      exact r_int E dX10_needed_85 ⟨⟨by have hb_ := z32 q22_3_9; omega, by have hb_ := z32 q22_3_9; omega, by first | (right; decide) | (have hb_ := z32 q22_3_9; omega) | (have hb_ := z32 q22_3_9; have hc_ := z32 x1; omega)⟩, hj_10⟩
    ·
      refine s_iload E dX10_needed_31 rfl ?_
      refine s_iload_n E dX10_needed_33 rfl rfl ?_
      refine z_icmp_ne (tgt := 40) (u := q22_4_9.toInt) (v := x1.toInt) E dX10_needed_34 (by decide) rfl rfl (fun h_16 => ?_) (fun h_16 => ?_)
      ·
        refine s_aload_n E dX10_needed_40 rfl rfl ?_
        refine s_iconst (v := 1) E dX10_needed_41 (by decide) ?_
        refine s_iload E dX10_needed_42 rfl ?_
        refine z_shl1 5 (u := q22_4_9.toInt) (B := 32) E dX10_needed_44 rfl (by omega) (by omega) (by decide) (by decide) (fun z_17 hz_17 => ?_)
        refine s_pI E fp_X10_264 (Or.inl rfl) rfl (jv_lt hj_10 (by decide)) dX10_needed_45 ?_
        refine s_gen (P := Jv w) (jv_f_95_21 hj_10 (by have hb_ := z32 z_17; omega) (by have hb_ := z32 z_17; omega)) (fun v_18 hj_19 => ?_)
        refine s_iload_n E dX10_needed_48 rfl rfl ?_
        refine s_iload_n E dX10_needed_49 rfl rfl ?_
        refine s_aload_n E dX10_needed_50 rfl rfl ?_
        refine s_iload_n E dX10_needed_51 rfl rfl ?_
        refine s_vI (As := [AI x1]) (S := [AI z_8, AI q22_3_9]) E (Z_X10_goNote__95 l D aC b v_18 x1 hj_19.1 ⟨by have hb_ := z32 x1; omega, by have hb_ := z32 x1; omega⟩) cv_X10_338 rfl rfl rfl (jv_lt hj_19 (by decide)) (Nat.le_of_ble_eq_true rfl) (Nat.le_of_ble_eq_true rfl) ⟨(Nat.le_of_ble_eq_true rfl), (Nat.le_of_ble_eq_true rfl)⟩ (Nat.le_of_ble_eq_true rfl) dX10_needed_52 (fun z_22 u_20 hp_21 => ?_)
        obtain ⟨hz_22, hxz_22, hp_21⟩ := hp_21
        have hj_23 := jv_trans hj_19 hp_21
        refine s_iconst (v := (-1)) E dX10_needed_55 (by decide) ?_
        refine s_ixor E dX10_needed_56 ?_
        refine z_nm (P := fun z => (-2147483648) ≤ z.toInt ∧ z.toInt ≤ 2147483647) (z32 _) (fun z_24 hz_24 => ?_)
        refine s_iand E dX10_needed_57 ?_
        refine z_nm (P := fun z => (-2147483648) ≤ z.toInt ∧ z.toInt ≤ 2147483647) (z32 _) (fun z_25 hz_25 => ?_)
        refine s_aload_n E dX10_needed_58 rfl rfl ?_
        refine s_gI E fg_X10_264 rfl rfl (jv_lt hj_23 (by decide)) dX10_needed_59 ?_
        refine z_nm (P := fun z => z.toInt = (u_20.2.2.1 95 21).toInt ∧ (-2147483648) ≤ z.toInt ∧ z.toInt ≤ 2147483647) ⟨rfl, z32 _⟩ (fun z_26 hz_26 => ?_)
        refine s_iconst (v := (-1)) E dX10_needed_62 (by decide) ?_
        refine s_ixor E dX10_needed_63 ?_
        refine z_nm (P := fun z => (-2147483648) ≤ z.toInt ∧ z.toInt ≤ 2147483647) (z32 _) (fun z_27 hz_27 => ?_)
        refine s_iand E dX10_needed_64 ?_
        refine z_nm (P := fun z => (-2147483648) ≤ z.toInt ∧ z.toInt ≤ 2147483647) (z32 _) (fun z_28 hz_28 => ?_)
        refine z_if_eq (tgt := 75) (u := z_28.toInt) E dX10_needed_65 (by decide) rfl (fun h_29 => ?_) (fun h_29 => ?_)
        ·
          refine s_iconst (v := 0) E dX10_needed_75 (by decide) ?_
          refine s_ior E dX10_needed_76 ?_
          refine z_nm (P := fun z => (-2147483648) ≤ z.toInt ∧ z.toInt ≤ 2147483647) (z32 _) (fun z_30 hz_30 => ?_)
          refine s_istore_n (L2 := [some (AR 95), some (AI x1), some (AI z_8), some (AI z_30), some (AI q22_4_9)]) E dX10_needed_77 rfl (by decide) rfl ?_
          refine z_iinc (u := q22_4_9.toInt) (L2 := fun z_31 => [some (AR 95), some (AI x1), some (AI z_8), some (AI z_30), some (AI z_31)]) E dX10_needed_78 rfl rfl (by decide) (fun _ => rfl) (by decide) (by omega) (by omega) (fun z_31 hz_31 => ?_)
          refine s_goto (tgt := 22) E dX10_needed_81 (by decide) ?_
          exact ih22 ⟨z_30, z_31⟩ u_20 ⟨⟨by have hb_ := z32 z_31; omega, by have hb_ := z32 z_31; omega⟩, hj_23⟩ (by first | omega | decide | (dsimp only; omega) | (dsimp only; decide))
        ·
          refine s_iconst (v := 1) E dX10_needed_68 (by decide) ?_
          refine s_iload E dX10_needed_69 rfl ?_
          refine z_shl1 5 (u := q22_4_9.toInt) (B := 32) E dX10_needed_71 rfl (by omega) (by omega) (by decide) (by decide) (fun z_32 hz_32 => ?_)
          refine s_goto (tgt := 76) E dX10_needed_72 (by decide) ?_
          refine s_ior E dX10_needed_76 ?_
          refine z_nm (P := fun z => (-2147483648) ≤ z.toInt ∧ z.toInt ≤ 2147483647) (z32 _) (fun z_33 hz_33 => ?_)
          refine s_istore_n (L2 := [some (AR 95), some (AI x1), some (AI z_8), some (AI z_33), some (AI q22_4_9)]) E dX10_needed_77 rfl (by decide) rfl ?_
          refine z_iinc (u := q22_4_9.toInt) (L2 := fun z_34 => [some (AR 95), some (AI x1), some (AI z_8), some (AI z_33), some (AI z_34)]) E dX10_needed_78 rfl rfl (by decide) (fun _ => rfl) (by decide) (by omega) (by omega) (fun z_34 hz_34 => ?_)
          refine s_goto (tgt := 22) E dX10_needed_81 (by decide) ?_
          exact ih22 ⟨z_33, z_34⟩ u_20 ⟨⟨by have hb_ := z32 z_34; omega, by have hb_ := z32 z_34; omega⟩, hj_23⟩ (by first | omega | decide | (dsimp only; omega) | (dsimp only; decide))
      ·
        refine s_goto (tgt := 78) E dX10_needed_37 (by decide) ?_
        refine z_iinc (u := q22_4_9.toInt) (L2 := fun z_35 => [some (AR 95), some (AI x1), some (AI z_8), some (AI q22_3_9), some (AI z_35)]) E dX10_needed_78 rfl rfl (by decide) (fun _ => rfl) (by decide) (by omega) (by omega) (fun z_35 hz_35 => ?_)
        refine s_goto (tgt := 22) E dX10_needed_81 (by decide) ?_
        exact ih22 ⟨q22_3_9, z_35⟩ v22 ⟨⟨by have hb_ := z32 z_35; omega, by have hb_ := z32 z_35; omega⟩, hj_10⟩ (by first | omega | decide | (dsimp only; omega) | (dsimp only; decide))
  ·
    refine s_bipush (v := (-2)) E dX10_needed_8 (by decide) ?_
    exact r_int E dX10_needed_10 ⟨⟨by decide, by decide, by first | (left; decide) | (right; decide) | (right; have hb_ := z32 x1; omega)⟩, hj_4⟩
