set_option maxRecDepth 20000 in
set_option maxHeartbeats 2000000 in
theorem Z_X10_cabinet_95 (l : Launch) (D : va_G) (aC : Nat → ClassId) (b : Nat) (w : XW)  (hI : Iv w)  : CnI l D aC b M_X10_cabinet 5 112 0 0 [AR 95] w (fun r u => ((-2) ≤ r.toInt ∧ r.toInt ≤ 64) ∧ Jv w u) := by
  refine cn_I (own := RX10) (nm := "cabinet") (L0 := [some (AR 95), none, none]) (by decide +kernel) rfl rfl (Nat.le_of_ble_eq_true rfl) rfl ?_
  intro p e s m args below meth c E hin
  have hJ : Jv w w := jv_rfl hI
  refine s_aload_n E dX10_cabinet_0 rfl rfl ?_
  refine s_vI (As := []) (S := []) E (Z_X10_asksBall_95 l D aC b w  hJ.1 ) cv_X10_322 rfl rfl rfl (jv_lt hJ (by decide)) (Nat.le_of_ble_eq_true rfl) (Nat.le_of_ble_eq_true rfl) ⟨(Nat.le_of_ble_eq_true rfl), (Nat.le_of_ble_eq_true rfl)⟩ (Nat.le_of_ble_eq_true rfl) dX10_cabinet_1 (fun z_3 u_1 hp_2 => ?_)
  obtain ⟨hz_3, hp_2⟩ := hp_2
  have hj_4 := jv_trans hJ hp_2
  refine z_if_ne (tgt := 10) (u := z_3.toInt) E dX10_cabinet_4 (by decide) rfl (fun h_5 => ?_) (fun h_5 => ?_)
  ·
    refine s_iconst (v := (-1)) E dX10_cabinet_10 (by decide) ?_
    refine s_istore_n (L2 := [some (AR 95), some (AI (-1)), none]) E dX10_cabinet_11 rfl (by decide) rfl ?_
    refine s_iconst (v := 0) E dX10_cabinet_12 (by decide) ?_
    refine s_istore_n (L2 := [some (AR 95), some (AI (-1)), some (AI 0)]) E dX10_cabinet_13 rfl (by decide) rfl ?_
    refine z_loop (St := Int32 × Int32) (Pi := fun ⟨q14_1_5, q14_2_5⟩ v14 => ((-1) ≤ q14_1_5.toInt ∧ q14_1_5.toInt ≤ 64) ∧ (0 ≤ q14_2_5.toInt ∧ q14_2_5.toInt ≤ 64) ∧ u_1 = v14) (Lf := fun ⟨q14_1_5, q14_2_5⟩ => [some (AR 95), some (AI q14_1_5), some (AI q14_2_5)]) (fun ⟨q14_1_5, q14_2_5⟩ _ => (65 - q14_2_5.toInt).toNat) ⟨(-1), 0⟩ ⟨⟨by decide, by decide⟩, ⟨by decide, by decide⟩, rfl⟩ ?_
    rintro ⟨q14_1_5, q14_2_5⟩ v14 ⟨hq14_1, hq14_2, hv_⟩ ih14
    subst hv_
    refine s_loc (L2 := [some (AR 95), some (AI q14_1_5), some (AI q14_2_5)]) rfl ?_
    refine s_iload_n E dX10_cabinet_14 rfl rfl ?_
    refine s_aload_n E dX10_cabinet_15 rfl rfl ?_
    refine s_vI (As := []) (S := [AI q14_2_5]) E (Z_X10_allLadies_95 l D aC b u_1  hj_4.1 ) cv_X10_393 rfl rfl rfl (jv_lt hj_4 (by decide)) (Nat.le_of_ble_eq_true rfl) (Nat.le_of_ble_eq_true rfl) ⟨(Nat.le_of_ble_eq_true rfl), (Nat.le_of_ble_eq_true rfl)⟩ (Nat.le_of_ble_eq_true rfl) dX10_cabinet_16 (fun z_9 u_7 hp_8 => ?_)
    obtain ⟨hz_9, hp_8⟩ := hp_8
    subst hp_8
    refine z_icmp_gt (tgt := 54) (u := q14_2_5.toInt) (v := z_9.toInt) E dX10_cabinet_19 (by decide) rfl rfl (fun h_11 => ?_) (fun h_11 => ?_)
    ·
      refine s_iload_n E dX10_cabinet_54 rfl rfl ?_
      exact r_int E dX10_cabinet_55 ⟨⟨by have hb_ := z32 q14_1_5; omega, by have hb_ := z32 q14_1_5; omega⟩, hj_4⟩
    ·
      refine s_aload_n E dX10_cabinet_22 rfl rfl ?_
      refine s_iload_n E dX10_cabinet_23 rfl rfl ?_
      refine s_vI (As := [AI q14_2_5]) (S := []) E (Z_X10_doesHold_95 l D aC b u_1 q14_2_5 hj_4.1 ) cv_X10_396 rfl rfl rfl (jv_lt hj_4 (by decide)) (Nat.le_of_ble_eq_true rfl) (Nat.le_of_ble_eq_true rfl) ⟨(Nat.le_of_ble_eq_true rfl), (Nat.le_of_ble_eq_true rfl)⟩ (Nat.le_of_ble_eq_true rfl) dX10_cabinet_24 (fun z_14 u_12 hp_13 => ?_)
      obtain ⟨hz_14, hp_13⟩ := hp_13
      subst hp_13
      refine z_if_eq (tgt := 48) (u := z_14.toInt) E dX10_cabinet_27 (by decide) rfl (fun h_16 => ?_) (fun h_16 => ?_)
      ·
        refine z_iinc (u := q14_2_5.toInt) (L2 := fun z_17 => [some (AR 95), some (AI q14_1_5), some (AI z_17)]) E dX10_cabinet_48 rfl rfl (by decide) (fun _ => rfl) (by decide) (by omega) (by omega) (fun z_17 hz_17 => ?_)
        refine s_goto (tgt := 14) E dX10_cabinet_51 (by decide) ?_
        exact ih14 ⟨q14_1_5, z_17⟩ u_1 ⟨⟨by have hb_ := z32 q14_1_5; omega, by have hb_ := z32 q14_1_5; omega⟩, ⟨by have hb_ := z32 z_17; omega, by have hb_ := z32 z_17; omega⟩, rfl⟩ (by first | omega | decide | (dsimp only; omega) | (dsimp only; decide))
      ·
        refine s_iload_n E dX10_cabinet_30 rfl rfl ?_
        refine s_iconst (v := (-1)) E dX10_cabinet_31 (by decide) ?_
        refine z_icmp_eq (tgt := 46) (u := q14_1_5.toInt) (v := (-1)) E dX10_cabinet_32 (by decide) rfl (by decide) (fun h_18 => ?_) (fun h_18 => ?_)
        ·
          refine s_iload_n E dX10_cabinet_46 rfl rfl ?_
          refine s_istore_n (L2 := [some (AR 95), some (AI q14_2_5), some (AI q14_2_5)]) E dX10_cabinet_47 rfl (by decide) rfl ?_
          refine z_iinc (u := q14_2_5.toInt) (L2 := fun z_19 => [some (AR 95), some (AI q14_2_5), some (AI z_19)]) E dX10_cabinet_48 rfl rfl (by decide) (fun _ => rfl) (by decide) (by omega) (by omega) (fun z_19 hz_19 => ?_)
          refine s_goto (tgt := 14) E dX10_cabinet_51 (by decide) ?_
          exact ih14 ⟨q14_2_5, z_19⟩ u_1 ⟨⟨by have hb_ := z32 q14_2_5; omega, by have hb_ := z32 q14_2_5; omega⟩, ⟨by have hb_ := z32 z_19; omega, by have hb_ := z32 z_19; omega⟩, rfl⟩ (by first | omega | decide | (dsimp only; omega) | (dsimp only; decide))
        ·
          refine s_iload_n E dX10_cabinet_35 rfl rfl ?_
          refine s_sI (As := [AI q14_2_5]) (S := []) E (Z_X10_bits l D aC b u_1 q14_2_5 hj_4.1 ) cs_X10_319 rfl rfl (Nat.le_of_ble_eq_true rfl) (Nat.le_of_ble_eq_true rfl) ⟨(Nat.le_of_ble_eq_true rfl), (Nat.le_of_ble_eq_true rfl)⟩ (Nat.le_of_ble_eq_true rfl) dX10_cabinet_36 (fun z_22 u_20 hp_21 => ?_)
          obtain ⟨hz_22, hp_21⟩ := hp_21
          subst hp_21
          refine s_iload_n E dX10_cabinet_39 rfl rfl ?_
          refine s_sI (As := [AI q14_1_5]) (S := [AI z_22]) E (Z_X10_bits l D aC b u_1 q14_1_5 hj_4.1 ) cs_X10_319 rfl rfl (Nat.le_of_ble_eq_true rfl) (Nat.le_of_ble_eq_true rfl) ⟨(Nat.le_of_ble_eq_true rfl), (Nat.le_of_ble_eq_true rfl)⟩ (Nat.le_of_ble_eq_true rfl) dX10_cabinet_40 (fun z_26 u_24 hp_25 => ?_)
          obtain ⟨hz_26, hp_25⟩ := hp_25
          subst hp_25
          refine z_icmp_ge (tgt := 48) (u := z_22.toInt) (v := z_26.toInt) E dX10_cabinet_43 (by decide) rfl rfl (fun h_28 => ?_) (fun h_28 => ?_)
          ·
            refine z_iinc (u := q14_2_5.toInt) (L2 := fun z_29 => [some (AR 95), some (AI q14_1_5), some (AI z_29)]) E dX10_cabinet_48 rfl rfl (by decide) (fun _ => rfl) (by decide) (by omega) (by omega) (fun z_29 hz_29 => ?_)
            refine s_goto (tgt := 14) E dX10_cabinet_51 (by decide) ?_
            exact ih14 ⟨q14_1_5, z_29⟩ u_1 ⟨⟨by have hb_ := z32 q14_1_5; omega, by have hb_ := z32 q14_1_5; omega⟩, ⟨by have hb_ := z32 z_29; omega, by have hb_ := z32 z_29; omega⟩, rfl⟩ (by first | omega | decide | (dsimp only; omega) | (dsimp only; decide))
          ·
            refine s_iload_n E dX10_cabinet_46 rfl rfl ?_
            refine s_istore_n (L2 := [some (AR 95), some (AI q14_2_5), some (AI q14_2_5)]) E dX10_cabinet_47 rfl (by decide) rfl ?_
            refine z_iinc (u := q14_2_5.toInt) (L2 := fun z_30 => [some (AR 95), some (AI q14_2_5), some (AI z_30)]) E dX10_cabinet_48 rfl rfl (by decide) (fun _ => rfl) (by decide) (by omega) (by omega) (fun z_30 hz_30 => ?_)
            refine s_goto (tgt := 14) E dX10_cabinet_51 (by decide) ?_
            exact ih14 ⟨q14_2_5, z_30⟩ u_1 ⟨⟨by have hb_ := z32 q14_2_5; omega, by have hb_ := z32 q14_2_5; omega⟩, ⟨by have hb_ := z32 z_30; omega, by have hb_ := z32 z_30; omega⟩, rfl⟩ (by first | omega | decide | (dsimp only; omega) | (dsimp only; decide))
  ·
    refine s_bipush (v := (-2)) E dX10_cabinet_7 (by decide) ?_
    exact r_int E dX10_cabinet_9 ⟨(by decide), hj_4⟩
set_option maxRecDepth 20000 in
set_option maxHeartbeats 2000000 in
theorem Z_X10_isLeast_95 (l : Launch) (D : va_G) (aC : Nat → ClassId) (b : Nat) (w : XW) (x1 : Int32) (hI : Iv w)  : CnI l D aC b M_X10_isLeast 3 65 0 0 [AR 95, AI x1] w (fun r u => (0 ≤ r.toInt ∧ r.toInt ≤ 1) ∧ w = u) := by
  refine cn_I (own := RX10) (nm := "isLeast") (L0 := [some (AR 95), some (AI x1), none]) (by decide +kernel) rfl rfl (Nat.le_of_ble_eq_true rfl) rfl ?_
  intro p e s m args below meth c E hin
  have hJ : Jv w w := jv_rfl hI
  have hb_x1 := z32 x1
  refine s_aload_n E dX10_isLeast_0 rfl rfl ?_
  refine s_iload_n E dX10_isLeast_1 rfl rfl ?_
  refine s_vI (As := [AI x1]) (S := []) E (Z_X10_doesHold_95 l D aC b w x1 hJ.1 ) cv_X10_396 rfl rfl rfl (jv_lt hJ (by decide)) (Nat.le_of_ble_eq_true rfl) (Nat.le_of_ble_eq_true rfl) ⟨(Nat.le_of_ble_eq_true rfl), (Nat.le_of_ble_eq_true rfl)⟩ (Nat.le_of_ble_eq_true rfl) dX10_isLeast_2 (fun z_3 u_1 hp_2 => ?_)
  obtain ⟨hz_3, hp_2⟩ := hp_2
  subst hp_2
  refine z_if_ne (tgt := 10) (u := z_3.toInt) E dX10_isLeast_5 (by decide) rfl (fun h_5 => ?_) (fun h_5 => ?_)
  ·
    refine s_iconst (v := 0) E dX10_isLeast_10 (by decide) ?_
    refine s_istore_n (L2 := [some (AR 95), some (AI x1), some (AI 0)]) E dX10_isLeast_11 rfl (by decide) rfl ?_
    refine z_loop (St := Int32) (Pi := fun q12_2_5 v12 => (0 ≤ q12_2_5.toInt ∧ q12_2_5.toInt ≤ 6) ∧ w = v12) (Lf := fun q12_2_5 => [some (AR 95), some (AI x1), some (AI q12_2_5)]) (fun q12_2_5 _ => (7 - q12_2_5.toInt).toNat) 0 ⟨⟨by decide, by decide⟩, rfl⟩ ?_
    rintro q12_2_5 v12 ⟨hq12_2, hv_⟩ ih12
    subst hv_
    refine s_loc (L2 := [some (AR 95), some (AI x1), some (AI q12_2_5)]) rfl ?_
    refine s_iload_n E dX10_isLeast_12 rfl rfl ?_
    refine s_aload_n E dX10_isLeast_13 rfl rfl ?_
    refine s_vI (As := []) (S := [AI q12_2_5]) E (Z_X10_ladies_95 l D aC b w  hJ.1 ) cv_X10_244 rfl rfl rfl (jv_lt hJ (by decide)) (Nat.le_of_ble_eq_true rfl) (Nat.le_of_ble_eq_true rfl) ⟨(Nat.le_of_ble_eq_true rfl), (Nat.le_of_ble_eq_true rfl)⟩ (Nat.le_of_ble_eq_true rfl) dX10_isLeast_14 (fun z_9 u_7 hp_8 => ?_)
    obtain ⟨hz_9, hxz_9, hp_8⟩ := hp_8
    subst hp_8
    refine z_icmp_ge (tgt := 51) (u := q12_2_5.toInt) (v := z_9.toInt) E dX10_isLeast_17 (by decide) rfl rfl (fun h_11 => ?_) (fun h_11 => ?_)
    ·
      refine s_iconst (v := 1) E dX10_isLeast_51 (by decide) ?_
      exact r_bool E dX10_isLeast_52 (Or.inr rfl) ⟨(by decide), rfl⟩
    ·
      refine s_iload_n E dX10_isLeast_20 rfl rfl ?_
      refine s_iload_n E dX10_isLeast_21 rfl rfl ?_
      refine s_sI (As := [AI x1, AI q12_2_5]) (S := []) E (Z_X10_bit l D aC b w x1 q12_2_5 hJ.1 ) cs_X10_252 rfl rfl (Nat.le_of_ble_eq_true rfl) (Nat.le_of_ble_eq_true rfl) ⟨(Nat.le_of_ble_eq_true rfl), (Nat.le_of_ble_eq_true rfl)⟩ (Nat.le_of_ble_eq_true rfl) dX10_isLeast_22 (fun z_14 u_12 hp_13 => ?_)
      obtain ⟨hz_14, hxz_14, hp_13⟩ := hp_13
      subst hp_13
      refine s_iconst (v := 1) E dX10_isLeast_25 (by decide) ?_
      refine z_icmp_ne (tgt := 45) (u := z_14.toInt) (v := 1) E dX10_isLeast_26 (by decide) rfl (by decide) (fun h_16 => ?_) (fun h_16 => ?_)
      ·
        refine z_iinc (u := q12_2_5.toInt) (L2 := fun z_17 => [some (AR 95), some (AI x1), some (AI z_17)]) E dX10_isLeast_45 rfl rfl (by decide) (fun _ => rfl) (by decide) (by omega) (by omega) (fun z_17 hz_17 => ?_)
        refine s_goto (tgt := 12) E dX10_isLeast_48 (by decide) ?_
        exact ih12 z_17 w ⟨⟨by have hb_ := z32 z_17; omega, by have hb_ := z32 z_17; omega⟩, rfl⟩ (by first | omega | decide | (dsimp only; omega) | (dsimp only; decide))
      ·
        refine s_aload_n E dX10_isLeast_29 rfl rfl ?_
        refine s_iload_n E dX10_isLeast_30 rfl rfl ?_
        refine s_iconst (v := 1) E dX10_isLeast_31 (by decide) ?_
        refine s_iload_n E dX10_isLeast_32 rfl rfl ?_
        refine z_shl1 5 (u := q12_2_5.toInt) (B := 32) E dX10_isLeast_33 rfl (by omega) (by omega) (by decide) (by decide) (fun z_18 hz_18 => ?_)
        refine s_iconst (v := (-1)) E dX10_isLeast_34 (by decide) ?_
        refine s_ixor E dX10_isLeast_35 ?_
        refine z_nm (P := fun z => (-2147483648) ≤ z.toInt ∧ z.toInt ≤ 2147483647) (z32 _) (fun z_19 hz_19 => ?_)
        refine s_iand E dX10_isLeast_36 ?_
        refine z_nm (P := fun z => (-2147483648) ≤ z.toInt ∧ z.toInt ≤ 2147483647) (z32 _) (fun z_20 hz_20 => ?_)
        refine s_vI (As := [AI z_20]) (S := []) E (Z_X10_doesHold_95 l D aC b w z_20 hJ.1 ) cv_X10_396 rfl rfl rfl (jv_lt hJ (by decide)) (Nat.le_of_ble_eq_true rfl) (Nat.le_of_ble_eq_true rfl) ⟨(Nat.le_of_ble_eq_true rfl), (Nat.le_of_ble_eq_true rfl)⟩ (Nat.le_of_ble_eq_true rfl) dX10_isLeast_37 (fun z_23 u_21 hp_22 => ?_)
        obtain ⟨hz_23, hp_22⟩ := hp_22
        subst hp_22
        refine z_if_eq (tgt := 45) (u := z_23.toInt) E dX10_isLeast_40 (by decide) rfl (fun h_25 => ?_) (fun h_25 => ?_)
        ·
          refine z_iinc (u := q12_2_5.toInt) (L2 := fun z_26 => [some (AR 95), some (AI x1), some (AI z_26)]) E dX10_isLeast_45 rfl rfl (by decide) (fun _ => rfl) (by decide) (by omega) (by omega) (fun z_26 hz_26 => ?_)
          refine s_goto (tgt := 12) E dX10_isLeast_48 (by decide) ?_
          exact ih12 z_26 w ⟨⟨by have hb_ := z32 z_26; omega, by have hb_ := z32 z_26; omega⟩, rfl⟩ (by first | omega | decide | (dsimp only; omega) | (dsimp only; decide))
        ·
          refine s_iconst (v := 0) E dX10_isLeast_43 (by decide) ?_
          exact r_bool E dX10_isLeast_44 (Or.inl rfl) ⟨(by decide), rfl⟩
  ·
    refine s_iconst (v := 0) E dX10_isLeast_8 (by decide) ?_
    exact r_bool E dX10_isLeast_9 (Or.inl rfl) ⟨(by decide), rfl⟩
set_option maxRecDepth 20000 in
set_option maxHeartbeats 2000000 in
theorem Z_X10_cabinets_95 (l : Launch) (D : va_G) (aC : Nat → ClassId) (b : Nat) (w : XW)  (hI : Iv w)  : CnI l D aC b M_X10_cabinets 5 112 0 0 [AR 95] w (fun r u => ((-2147483648) ≤ r.toInt ∧ r.toInt ≤ 2147483647) ∧ Jv w u) := by
  refine cn_I (own := RX10) (nm := "cabinets") (L0 := [some (AR 95), none, none]) (by decide +kernel) rfl rfl (Nat.le_of_ble_eq_true rfl) rfl ?_
  intro p e s m args below meth c E hin
  have hJ : Jv w w := jv_rfl hI
  refine s_aload_n E dX10_cabinets_0 rfl rfl ?_
  refine s_vI (As := []) (S := []) E (Z_X10_asksBall_95 l D aC b w  hJ.1 ) cv_X10_322 rfl rfl rfl (jv_lt hJ (by decide)) (Nat.le_of_ble_eq_true rfl) (Nat.le_of_ble_eq_true rfl) ⟨(Nat.le_of_ble_eq_true rfl), (Nat.le_of_ble_eq_true rfl)⟩ (Nat.le_of_ble_eq_true rfl) dX10_cabinets_1 (fun z_3 u_1 hp_2 => ?_)
  obtain ⟨hz_3, hp_2⟩ := hp_2
  have hj_4 := jv_trans hJ hp_2
  refine z_if_ne (tgt := 10) (u := z_3.toInt) E dX10_cabinets_4 (by decide) rfl (fun h_5 => ?_) (fun h_5 => ?_)
  ·
    refine s_iconst (v := 0) E dX10_cabinets_10 (by decide) ?_
    refine s_istore_n (L2 := [some (AR 95), some (AI 0), none]) E dX10_cabinets_11 rfl (by decide) rfl ?_
    refine s_iconst (v := 0) E dX10_cabinets_12 (by decide) ?_
    refine s_istore_n (L2 := [some (AR 95), some (AI 0), some (AI 0)]) E dX10_cabinets_13 rfl (by decide) rfl ?_
    refine z_loop (St := Int32 × Int32) (Pi := fun ⟨q14_1_5, q14_2_5⟩ v14 => (0 ≤ q14_2_5.toInt ∧ q14_2_5.toInt ≤ 64) ∧ u_1 = v14) (Lf := fun ⟨q14_1_5, q14_2_5⟩ => [some (AR 95), some (AI q14_1_5), some (AI q14_2_5)]) (fun ⟨q14_1_5, q14_2_5⟩ _ => (65 - q14_2_5.toInt).toNat) ⟨0, 0⟩ ⟨⟨by decide, by decide⟩, rfl⟩ ?_
    rintro ⟨q14_1_5, q14_2_5⟩ v14 ⟨hq14_2, hv_⟩ ih14
    subst hv_
    have hbq14_1 := z32 q14_1_5
    refine s_loc (L2 := [some (AR 95), some (AI q14_1_5), some (AI q14_2_5)]) rfl ?_
    refine s_iload_n E dX10_cabinets_14 rfl rfl ?_
    refine s_aload_n E dX10_cabinets_15 rfl rfl ?_
    refine s_vI (As := []) (S := [AI q14_2_5]) E (Z_X10_allLadies_95 l D aC b u_1  hj_4.1 ) cv_X10_393 rfl rfl rfl (jv_lt hj_4 (by decide)) (Nat.le_of_ble_eq_true rfl) (Nat.le_of_ble_eq_true rfl) ⟨(Nat.le_of_ble_eq_true rfl), (Nat.le_of_ble_eq_true rfl)⟩ (Nat.le_of_ble_eq_true rfl) dX10_cabinets_16 (fun z_9 u_7 hp_8 => ?_)
    obtain ⟨hz_9, hp_8⟩ := hp_8
    subst hp_8
    refine z_icmp_gt (tgt := 44) (u := q14_2_5.toInt) (v := z_9.toInt) E dX10_cabinets_19 (by decide) rfl rfl (fun h_11 => ?_) (fun h_11 => ?_)
    ·
      refine s_iload_n E dX10_cabinets_44 rfl rfl ?_
      exact r_int E dX10_cabinets_45 ⟨⟨by have hb_ := z32 q14_1_5; omega, by have hb_ := z32 q14_1_5; omega⟩, hj_4⟩
    ·
      refine s_iload_n E dX10_cabinets_22 rfl rfl ?_
      refine s_aload_n E dX10_cabinets_23 rfl rfl ?_
      refine s_iload_n E dX10_cabinets_24 rfl rfl ?_
      refine s_vI (As := [AI q14_2_5]) (S := [AI q14_1_5]) E (Z_X10_isLeast_95 l D aC b u_1 q14_2_5 hj_4.1 ) cv_X10_413 rfl rfl rfl (jv_lt hj_4 (by decide)) (Nat.le_of_ble_eq_true rfl) (Nat.le_of_ble_eq_true rfl) ⟨(Nat.le_of_ble_eq_true rfl), (Nat.le_of_ble_eq_true rfl)⟩ (Nat.le_of_ble_eq_true rfl) dX10_cabinets_25 (fun z_14 u_12 hp_13 => ?_)
      obtain ⟨hz_14, hp_13⟩ := hp_13
      subst hp_13
      refine z_if_eq (tgt := 35) (u := z_14.toInt) E dX10_cabinets_28 (by decide) rfl (fun h_16 => ?_) (fun h_16 => ?_)
      ·
        refine s_iconst (v := 0) E dX10_cabinets_35 (by decide) ?_
        refine z_iadd (u := q14_1_5.toInt) (v := 0) E dX10_cabinets_36 rfl (by decide) (by omega) (by omega) (fun z_17 hz_17 => ?_)
        refine s_istore_n (L2 := [some (AR 95), some (AI z_17), some (AI q14_2_5)]) E dX10_cabinets_37 rfl (by decide) rfl ?_
        refine z_iinc (u := q14_2_5.toInt) (L2 := fun z_18 => [some (AR 95), some (AI z_17), some (AI z_18)]) E dX10_cabinets_38 rfl rfl (by decide) (fun _ => rfl) (by decide) (by omega) (by omega) (fun z_18 hz_18 => ?_)
        refine s_goto (tgt := 14) E dX10_cabinets_41 (by decide) ?_
        exact ih14 ⟨z_17, z_18⟩ u_1 ⟨⟨by have hb_ := z32 z_18; omega, by have hb_ := z32 z_18; omega⟩, rfl⟩ (by first | omega | decide | (dsimp only; omega) | (dsimp only; decide))
      ·
        refine s_iconst (v := 1) E dX10_cabinets_31 (by decide) ?_
        refine s_goto (tgt := 36) E dX10_cabinets_32 (by decide) ?_
        refine s_iadd E dX10_cabinets_36 ?_
        refine z_nm (P := fun z => (-2147483648) ≤ z.toInt ∧ z.toInt ≤ 2147483647) (z32 _) (fun z_19 hz_19 => ?_)
        refine s_istore_n (L2 := [some (AR 95), some (AI z_19), some (AI q14_2_5)]) E dX10_cabinets_37 rfl (by decide) rfl ?_
        refine z_iinc (u := q14_2_5.toInt) (L2 := fun z_20 => [some (AR 95), some (AI z_19), some (AI z_20)]) E dX10_cabinets_38 rfl rfl (by decide) (fun _ => rfl) (by decide) (by omega) (by omega) (fun z_20 hz_20 => ?_)
        refine s_goto (tgt := 14) E dX10_cabinets_41 (by decide) ?_
        exact ih14 ⟨z_19, z_20⟩ u_1 ⟨⟨by have hb_ := z32 z_20; omega, by have hb_ := z32 z_20; omega⟩, rfl⟩ (by first | omega | decide | (dsimp only; omega) | (dsimp only; decide))
  ·
    refine s_bipush (v := (-2)) E dX10_cabinets_7 (by decide) ?_
    exact r_int E dX10_cabinets_9 ⟨(by decide), hj_4⟩
set_option maxRecDepth 20000 in
set_option maxHeartbeats 2000000 in
theorem Z_X10_kingmaker_95 (l : Launch) (D : va_G) (aC : Nat → ClassId) (b : Nat) (w : XW)  (hI : Iv w)  : CnI l D aC b M_X10_kingmaker 5 112 0 0 [AR 95] w (fun r u => ((-2) ≤ r.toInt ∧ r.toInt ≤ 7) ∧ Jv w u) := by
  refine cn_I (own := RX10) (nm := "kingmaker") (L0 := [some (AR 95), none, none]) (by decide +kernel) rfl rfl (Nat.le_of_ble_eq_true rfl) rfl ?_
  intro p e s m args below meth c E hin
  have hJ : Jv w w := jv_rfl hI
  refine s_aload_n E dX10_kingmaker_0 rfl rfl ?_
  refine s_vI (As := []) (S := []) E (Z_X10_asksBall_95 l D aC b w  hJ.1 ) cv_X10_322 rfl rfl rfl (jv_lt hJ (by decide)) (Nat.le_of_ble_eq_true rfl) (Nat.le_of_ble_eq_true rfl) ⟨(Nat.le_of_ble_eq_true rfl), (Nat.le_of_ble_eq_true rfl)⟩ (Nat.le_of_ble_eq_true rfl) dX10_kingmaker_1 (fun z_3 u_1 hp_2 => ?_)
  obtain ⟨hz_3, hp_2⟩ := hp_2
  have hj_4 := jv_trans hJ hp_2
  refine z_if_ne (tgt := 10) (u := z_3.toInt) E dX10_kingmaker_4 (by decide) rfl (fun h_5 => ?_) (fun h_5 => ?_)
  ·
    refine s_iconst (v := 0) E dX10_kingmaker_10 (by decide) ?_
    refine s_istore_n (L2 := [some (AR 95), some (AI 0), none]) E dX10_kingmaker_11 rfl (by decide) rfl ?_
    refine z_loop (St := Int32) (Pi := fun q12_1_5 v12 => (0 ≤ q12_1_5.toInt ∧ q12_1_5.toInt ≤ 8) ∧ u_1 = v12) (Lf := fun q12_1_5 => [some (AR 95), some (AI q12_1_5), none]) (fun q12_1_5 _ => (9 - q12_1_5.toInt).toNat) 0 ⟨⟨by decide, by decide⟩, rfl⟩ ?_
    rintro q12_1_5 v12 ⟨hq12_1, hv_⟩ ih12
    subst hv_
    refine s_loc (L2 := [some (AR 95), some (AI q12_1_5), none]) rfl ?_
    refine s_iload_n E dX10_kingmaker_12 rfl rfl ?_
    refine s_aload_n E dX10_kingmaker_13 rfl rfl ?_
    refine s_gR (r := 96) E fg_X10_9 rfl rfl (jv_lt hj_4 (by decide)) (jv_r hj_4 (by decide +kernel)) dX10_kingmaker_14 ?_
    refine s_bipush (v := 6) E dX10_kingmaker_17 (by decide) ?_
    refine s_iald E rfl (jv_lt hj_4 (by decide)) (z_in (u := 6) (by decide) (by omega) (by omega)) dX10_kingmaker_19 ?_
    refine z_nm (P := fun z => z.toInt = (u_1.2.2.1 96 6).toInt ∧ 0 ≤ z.toInt ∧ z.toInt ≤ 8) ⟨rfl, (rw_96_6 hj_4)⟩ (fun z_7 hz_7 => ?_)
    refine z_icmp_ge (tgt := 90) (u := q12_1_5.toInt) (v := z_7.toInt) E dX10_kingmaker_20 (by decide) rfl rfl (fun h_8 => ?_) (fun h_8 => ?_)
    ·
      refine s_iconst (v := (-1)) E dX10_kingmaker_90 (by decide) ?_
      exact r_int E dX10_kingmaker_91 ⟨(by decide), hj_4⟩
    ·
      refine s_iconst (v := 0) E dX10_kingmaker_23 (by decide) ?_
      refine s_istore_n (L2 := [some (AR 95), some (AI q12_1_5), some (AI 0)]) E dX10_kingmaker_24 rfl (by decide) rfl ?_
      refine z_loop (St := Int32) (Pi := fun q25_2_8 v25 => (0 ≤ q25_2_8.toInt ∧ q25_2_8.toInt ≤ 6) ∧ u_1 = v25) (Lf := fun q25_2_8 => [some (AR 95), some (AI q12_1_5), some (AI q25_2_8)]) (fun q25_2_8 _ => (7 - q25_2_8.toInt).toNat) 0 ⟨⟨by decide, by decide⟩, rfl⟩ ?_
      rintro q25_2_8 v25 ⟨hq25_2, hv_⟩ ih25
      subst hv_
      refine s_loc (L2 := [some (AR 95), some (AI q12_1_5), some (AI q25_2_8)]) rfl ?_
      refine s_iload_n E dX10_kingmaker_25 rfl rfl ?_
      refine s_aload_n E dX10_kingmaker_26 rfl rfl ?_
      refine s_vI (As := []) (S := [AI q25_2_8]) E (Z_X10_ladies_95 l D aC b u_1  hj_4.1 ) cv_X10_244 rfl rfl rfl (jv_lt hj_4 (by decide)) (Nat.le_of_ble_eq_true rfl) (Nat.le_of_ble_eq_true rfl) ⟨(Nat.le_of_ble_eq_true rfl), (Nat.le_of_ble_eq_true rfl)⟩ (Nat.le_of_ble_eq_true rfl) dX10_kingmaker_27 (fun z_12 u_10 hp_11 => ?_)
      obtain ⟨hz_12, hxz_12, hp_11⟩ := hp_11
      subst hp_11
      refine z_icmp_ge (tgt := 84) (u := q25_2_8.toInt) (v := z_12.toInt) E dX10_kingmaker_30 (by decide) rfl rfl (fun h_14 => ?_) (fun h_14 => ?_)
      ·
        refine z_iinc (u := q12_1_5.toInt) (L2 := fun z_15 => [some (AR 95), some (AI z_15), some (AI q25_2_8)]) E dX10_kingmaker_84 rfl rfl (by decide) (fun _ => rfl) (by decide) (by omega) (by omega) (fun z_15 hz_15 => ?_)
        refine s_goto (tgt := 12) E dX10_kingmaker_87 (by decide) ?_
        refine s_drop (i := 2) (L2 := [some (AR 95), some (AI z_15), none]) rfl ?_
        exact ih12 z_15 u_1 ⟨⟨by have hb_ := z32 z_15; omega, by have hb_ := z32 z_15; omega⟩, rfl⟩ (by first | omega | decide | (dsimp only; omega) | (dsimp only; decide))
      ·
        refine s_aload_n E dX10_kingmaker_33 rfl rfl ?_
        refine s_gR (r := 104) E fg_X10_40 rfl rfl (jv_lt hj_4 (by decide)) (jv_r hj_4 (by decide +kernel)) dX10_kingmaker_34 ?_
        refine s_iload_n E dX10_kingmaker_37 rfl rfl ?_
        refine s_iald E rfl (jv_lt hj_4 (by decide)) (z_in (u := q12_1_5.toInt) rfl (by omega) (by omega)) dX10_kingmaker_38 ?_
        refine z_nm (P := fun z => z.toInt = (u_1.2.2.1 104 q12_1_5.toNatClampNeg).toInt ∧ 0 ≤ z.toInt ∧ z.toInt ≤ 5) ⟨rfl, (ra_104 hj_4 _)⟩ (fun z_16 hz_16 => ?_)
        refine s_iload_n E dX10_kingmaker_39 rfl rfl ?_
        refine z_icmp_eq (tgt := 78) (u := z_16.toInt) (v := q25_2_8.toInt) E dX10_kingmaker_40 (by decide) rfl rfl (fun h_17 => ?_) (fun h_17 => ?_)
        ·
          refine z_iinc (u := q25_2_8.toInt) (L2 := fun z_18 => [some (AR 95), some (AI q12_1_5), some (AI z_18)]) E dX10_kingmaker_78 rfl rfl (by decide) (fun _ => rfl) (by decide) (by omega) (by omega) (fun z_18 hz_18 => ?_)
          refine s_goto (tgt := 25) E dX10_kingmaker_81 (by decide) ?_
          exact ih25 z_18 u_1 ⟨⟨by have hb_ := z32 z_18; omega, by have hb_ := z32 z_18; omega⟩, rfl⟩ (by first | omega | decide | (dsimp only; omega) | (dsimp only; decide))
        ·
          refine s_iconst (v := 2) E dX10_kingmaker_43 (by decide) ?_
          refine s_aload_n E dX10_kingmaker_44 rfl rfl ?_
          refine s_gR (r := 105) E fg_X10_43 rfl rfl (jv_lt hj_4 (by decide)) (jv_r hj_4 (by decide +kernel)) dX10_kingmaker_45 ?_
          refine s_iload_n E dX10_kingmaker_48 rfl rfl ?_
          refine s_iald E rfl (jv_lt hj_4 (by decide)) (z_in (u := q25_2_8.toInt) rfl (by omega) (by omega)) dX10_kingmaker_49 ?_
          refine z_nm (P := fun z => (-2147483648) ≤ z.toInt ∧ z.toInt ≤ 2147483647) (z32 _) (fun z_19 hz_19 => ?_)
          refine s_aload_n E dX10_kingmaker_50 rfl rfl ?_
          refine s_gR (r := 96) E fg_X10_9 rfl rfl (jv_lt hj_4 (by decide)) (jv_r hj_4 (by decide +kernel)) dX10_kingmaker_51 ?_
          refine s_bipush (v := 58) E dX10_kingmaker_54 (by decide) ?_
          refine s_iconst (v := 2) E dX10_kingmaker_56 (by decide) ?_
          refine s_iload_n E dX10_kingmaker_57 rfl rfl ?_
          refine z_imul (u := 2) (v := q12_1_5.toInt) E dX10_kingmaker_58 (by decide) rfl (by omega) (by omega) (fun z_20 hz_20 => ?_)
          refine z_iadd (u := 58) (v := z_20.toInt) E dX10_kingmaker_59 (by decide) rfl (by omega) (by omega) (fun z_21 hz_21 => ?_)
          refine s_iconst (v := 1) E dX10_kingmaker_60 (by decide) ?_
          refine z_iadd (u := z_21.toInt) (v := 1) E dX10_kingmaker_61 rfl (by decide) (by omega) (by omega) (fun z_22 hz_22 => ?_)
          refine s_iald E rfl (jv_lt hj_4 (by decide)) (z_in (u := z_22.toInt) rfl (by omega) (by omega)) dX10_kingmaker_62 ?_
          refine z_nm (P := fun z => z.toInt = (u_1.2.2.1 96 z_22.toNatClampNeg).toInt ∧ 0 ≤ z.toInt ∧ z.toInt ≤ 20) ⟨rfl, (rs_v hj_4 (by decide) 0 20 59 73 2 z_22 z_22.toInt (by decide +kernel) rfl (by omega) (by omega) (by omega))⟩ (fun z_23 hz_23 => ?_)
          refine s_iadd E dX10_kingmaker_63 ?_
          refine z_nm (P := fun z => (-2147483648) ≤ z.toInt ∧ z.toInt ≤ 2147483647) (z32 _) (fun z_24 hz_24 => ?_)
          refine s_imul E dX10_kingmaker_64 ?_
          refine z_nm (P := fun z => (-2147483648) ≤ z.toInt ∧ z.toInt ≤ 2147483647) (z32 _) (fun z_25 hz_25 => ?_)
          refine s_aload_n E dX10_kingmaker_65 rfl rfl ?_
          refine s_aload_n E dX10_kingmaker_66 rfl rfl ?_
          refine s_vI (As := []) (S := [AR 95, AI z_25]) E (Z_X10_allLadies_95 l D aC b u_1  hj_4.1 ) cv_X10_393 rfl rfl rfl (jv_lt hj_4 (by decide)) (Nat.le_of_ble_eq_true rfl) (Nat.le_of_ble_eq_true rfl) ⟨(Nat.le_of_ble_eq_true rfl), (Nat.le_of_ble_eq_true rfl)⟩ (Nat.le_of_ble_eq_true rfl) dX10_kingmaker_67 (fun z_28 u_26 hp_27 => ?_)
          obtain ⟨hz_28, hp_27⟩ := hp_27
          subst hp_27
          refine s_vI (As := [AI z_28]) (S := [AI z_25]) E (Z_X10_seatsIn_95 l D aC b u_1 z_28 hj_4.1 ) cv_X10_390 rfl rfl rfl (jv_lt hj_4 (by decide)) (Nat.le_of_ble_eq_true rfl) (Nat.le_of_ble_eq_true rfl) ⟨(Nat.le_of_ble_eq_true rfl), (Nat.le_of_ble_eq_true rfl)⟩ (Nat.le_of_ble_eq_true rfl) dX10_kingmaker_70 (fun z_32 u_30 hp_31 => ?_)
          obtain ⟨hz_32, hp_31⟩ := hp_31
          subst hp_31
          refine z_icmp_le (tgt := 78) (u := z_25.toInt) (v := z_32.toInt) E dX10_kingmaker_73 (by decide) rfl rfl (fun h_34 => ?_) (fun h_34 => ?_)
          ·
            refine z_iinc (u := q25_2_8.toInt) (L2 := fun z_35 => [some (AR 95), some (AI q12_1_5), some (AI z_35)]) E dX10_kingmaker_78 rfl rfl (by decide) (fun _ => rfl) (by decide) (by omega) (by omega) (fun z_35 hz_35 => ?_)
            refine s_goto (tgt := 25) E dX10_kingmaker_81 (by decide) ?_
            exact ih25 z_35 u_1 ⟨⟨by have hb_ := z32 z_35; omega, by have hb_ := z32 z_35; omega⟩, rfl⟩ (by first | omega | decide | (dsimp only; omega) | (dsimp only; decide))
          ·
            refine s_iload_n E dX10_kingmaker_76 rfl rfl ?_
            exact r_int E dX10_kingmaker_77 ⟨⟨by have hb_ := z32 q12_1_5; omega, by have hb_ := z32 q12_1_5; omega⟩, hj_4⟩
  ·
    refine s_bipush (v := (-2)) E dX10_kingmaker_7 (by decide) ?_
    exact r_int E dX10_kingmaker_9 ⟨(by decide), hj_4⟩
set_option maxRecDepth 20000 in
set_option maxHeartbeats 2000000 in
theorem Z_X10_areTwo_95 (l : Launch) (D : va_G) (aC : Nat → ClassId) (b : Nat) (w : XW) (x1 : Int32) (x2 : Int32) (hI : Iv w)  : CnI l D aC b M_X10_areTwo 5 113 0 0 [AR 95, AI x1, AI x2] w (fun r u => (0 ≤ r.toInt ∧ r.toInt ≤ 1 ∧ (r.toInt = 0 ∨ (0 ≤ x1.toInt ∧ x1.toInt ≤ 5)) ∧ (r.toInt = 0 ∨ (0 ≤ x2.toInt ∧ x2.toInt ≤ 5))) ∧ Jv w u) := by
  refine cn_I (own := RX10) (nm := "areTwo") (L0 := [some (AR 95), some (AI x1), some (AI x2)]) (by decide +kernel) rfl rfl (Nat.le_of_ble_eq_true rfl) rfl ?_
  intro p e s m args below meth c E hin
  have hJ : Jv w w := jv_rfl hI
  have hb_x1 := z32 x1
  have hb_x2 := z32 x2
  refine s_aload_n E dX10_areTwo_0 rfl rfl ?_
  refine s_iload_n E dX10_areTwo_1 rfl rfl ?_
  refine s_vI (As := [AI x1]) (S := []) E (Z_X10_asksLady_95 l D aC b w x1 hJ.1 ) cv_X10_288 rfl rfl rfl (jv_lt hJ (by decide)) (Nat.le_of_ble_eq_true rfl) (Nat.le_of_ble_eq_true rfl) ⟨(Nat.le_of_ble_eq_true rfl), (Nat.le_of_ble_eq_true rfl)⟩ (Nat.le_of_ble_eq_true rfl) dX10_areTwo_2 (fun z_3 u_1 hp_2 => ?_)
  obtain ⟨hz_3, hxz_3, hp_2⟩ := hp_2
  have hj_4 := jv_trans hJ hp_2
  refine z_if_eq (tgt := 26) (u := z_3.toInt) E dX10_areTwo_5 (by decide) rfl (fun h_5 => ?_) (fun h_5 => ?_)
  ·
    refine s_iconst (v := 0) E dX10_areTwo_26 (by decide) ?_
    exact r_bool E dX10_areTwo_27 (Or.inl rfl) ⟨⟨by decide, by decide, by first | (left; decide) | (right; decide) | (right; have hb_ := z32 x1; omega), by first | (left; decide) | (right; decide) | (right; have hb_ := z32 x2; omega)⟩, hj_4⟩
  ·
    refine s_aload_n E dX10_areTwo_8 rfl rfl ?_
    refine s_iload_n E dX10_areTwo_9 rfl rfl ?_
    refine z_i2l (u := x2.toInt) E dX10_areTwo_10 rfl (fun z_6 hz_6 => ?_)
    refine s_vI (As := [AL z_6]) (S := []) E (Z_X10_isLady_95 l D aC b u_1 z_6 hj_4.1 ) cv_X10_222 rfl rfl rfl (jv_lt hj_4 (by decide)) (Nat.le_of_ble_eq_true rfl) (Nat.le_of_ble_eq_true rfl) ⟨(Nat.le_of_ble_eq_true rfl), (Nat.le_of_ble_eq_true rfl)⟩ (Nat.le_of_ble_eq_true rfl) dX10_areTwo_11 (fun z_9 u_7 hp_8 => ?_)
    obtain ⟨hz_9, hxz_9, hp_8⟩ := hp_8
    subst hp_8
    refine z_if_eq (tgt := 26) (u := z_9.toInt) E dX10_areTwo_14 (by decide) rfl (fun h_11 => ?_) (fun h_11 => ?_)
    ·
      refine s_iconst (v := 0) E dX10_areTwo_26 (by decide) ?_
      exact r_bool E dX10_areTwo_27 (Or.inl rfl) ⟨⟨by decide, by decide, by first | (left; decide) | (right; decide) | (right; have hb_ := z32 x1; omega), by first | (left; decide) | (right; decide) | (right; have hb_ := z32 x2; omega)⟩, hj_4⟩
    ·
      refine s_iload_n E dX10_areTwo_17 rfl rfl ?_
      refine s_iload_n E dX10_areTwo_18 rfl rfl ?_
      refine z_icmp_eq (tgt := 26) (u := x1.toInt) (v := x2.toInt) E dX10_areTwo_19 (by decide) rfl rfl (fun h_12 => ?_) (fun h_12 => ?_)
      ·
        refine s_iconst (v := 0) E dX10_areTwo_26 (by decide) ?_
        exact r_bool E dX10_areTwo_27 (Or.inl rfl) ⟨⟨by decide, by decide, by first | (left; decide) | (right; decide) | (right; have hb_ := z32 x1; omega), by first | (left; decide) | (right; decide) | (right; have hb_ := z32 x2; omega)⟩, hj_4⟩
      ·
        refine s_iconst (v := 1) E dX10_areTwo_22 (by decide) ?_
        refine s_goto (tgt := 27) E dX10_areTwo_23 (by decide) ?_
        exact r_bool E dX10_areTwo_27 (Or.inr rfl) ⟨⟨by decide, by decide, by first | (left; decide) | (right; decide) | (right; have hb_ := z32 x1; omega), by first | (left; decide) | (right; decide) | (right; have hb_ := z32 x2; omega)⟩, hj_4⟩
set_option maxRecDepth 20000 in
set_option maxHeartbeats 2000000 in
theorem Z_X10_gainsBy_95 (l : Launch) (D : va_G) (aC : Nat → ClassId) (b : Nat) (w : XW) (x1 : Int32) (x2 : Int32) (x3 : Int32) (x4 : Int32) (x5 : Int32) (hI : Iv w) (hx1 : 0 ≤ x1.toInt ∧ x1.toInt ≤ 5) (hx2 : 0 ≤ x2.toInt ∧ x2.toInt ≤ 5) (hx5 : 0 ≤ x5.toInt ∧ x5.toInt ≤ 1) : CnI l D aC b M_X10_gainsBy 4 91 0 0 [AR 95, AI x1, AI x2, AI x3, AI x4, AI x5] w (fun r u => ((-2147483648) ≤ r.toInt ∧ r.toInt ≤ 2147483647) ∧ Jv w u) := by
  refine cn_I (own := RX10) (nm := "gainsBy") (L0 := [some (AR 95), some (AI x1), some (AI x2), some (AI x3), some (AI x4), some (AI x5), none, none]) (by decide +kernel) rfl rfl (Nat.le_of_ble_eq_true rfl) rfl ?_
  intro p e s m args below meth c E hin
  have hJ : Jv w w := jv_rfl hI
  have hb_x3 := z32 x3
  have hb_x4 := z32 x4
  refine s_aload_n E dX10_gainsBy_0 rfl rfl ?_
  refine s_iload_n E dX10_gainsBy_1 rfl rfl ?_
  refine s_iload_n E dX10_gainsBy_2 rfl rfl ?_
  refine s_ishl E dX10_gainsBy_3 ?_
  refine z_nm (P := fun z => (-2147483648) ≤ z.toInt ∧ z.toInt ≤ 2147483647) (z32 _) (fun z_1 hz_1 => ?_)
  refine s_iload E dX10_gainsBy_4 rfl ?_
  refine s_iload_n E dX10_gainsBy_6 rfl rfl ?_
  refine s_ishl E dX10_gainsBy_7 ?_
  refine z_nm (P := fun z => (-2147483648) ≤ z.toInt ∧ z.toInt ≤ 2147483647) (z32 _) (fun z_2 hz_2 => ?_)
  refine s_ior E dX10_gainsBy_8 ?_
  refine z_nm (P := fun z => (-2147483648) ≤ z.toInt ∧ z.toInt ≤ 2147483647) (z32 _) (fun z_3 hz_3 => ?_)
  refine s_pI E fp_X10_249 (Or.inl rfl) rfl (jv_lt hJ (by decide)) dX10_gainsBy_9 ?_
  refine s_gen (P := Jv w) (jv_f_95_22 hJ (by have hb_ := z32 z_3; omega) (by have hb_ := z32 z_3; omega)) (fun v_4 hj_5 => ?_)
  refine s_aload_n E dX10_gainsBy_12 rfl rfl ?_
  refine s_vV (As := []) (S := []) E (Z_X10_layPlaces_95 l D aC b v_4  hj_5.1 ) cv_X10_276 rfl rfl rfl (jv_lt hj_5 (by decide)) (Nat.le_of_ble_eq_true rfl) (Nat.le_of_ble_eq_true rfl) ⟨(Nat.le_of_ble_eq_true rfl), (Nat.le_of_ble_eq_true rfl)⟩ (Nat.le_of_ble_eq_true rfl) dX10_gainsBy_13 (fun u_6 hp_7 => ?_)
  have hj_8 := jv_trans hj_5 hp_7
  refine s_iload E dX10_gainsBy_16 rfl ?_
  refine z_if_ne (tgt := 25) (u := x5.toInt) E dX10_gainsBy_18 (by decide) rfl (fun h_9 => ?_) (fun h_9 => ?_)
  ·
    refine s_iload_n E dX10_gainsBy_25 rfl rfl ?_
    refine s_istore (L2 := [some (AR 95), some (AI x1), some (AI x2), some (AI x3), some (AI x4), some (AI x5), some (AI x2), none]) E dX10_gainsBy_26 (by decide) rfl ?_
    refine s_iconst (v := 2) E dX10_gainsBy_28 (by decide) ?_
    refine s_aload_n E dX10_gainsBy_29 rfl rfl ?_
    refine s_iload E dX10_gainsBy_30 rfl ?_
    refine s_vI (As := [AI x2]) (S := [AI 2]) E (Z_X10_friendsOf_95 l D aC b u_6 x2 hj_8.1 ⟨by have hb_ := z32 x2; omega, by have hb_ := z32 x2; omega⟩) cv_X10_313 rfl rfl rfl (jv_lt hj_8 (by decide)) (Nat.le_of_ble_eq_true rfl) (Nat.le_of_ble_eq_true rfl) ⟨(Nat.le_of_ble_eq_true rfl), (Nat.le_of_ble_eq_true rfl)⟩ (Nat.le_of_ble_eq_true rfl) dX10_gainsBy_32 (fun z_12 u_10 hp_11 => ?_)
    obtain ⟨hz_12, hp_11⟩ := hp_11
    subst hp_11
    refine s_sI (As := [AI z_12]) (S := [AI 2]) E (Z_X10_bits l D aC b u_6 z_12 hj_8.1 ) cs_X10_319 rfl rfl (Nat.le_of_ble_eq_true rfl) (Nat.le_of_ble_eq_true rfl) ⟨(Nat.le_of_ble_eq_true rfl), (Nat.le_of_ble_eq_true rfl)⟩ (Nat.le_of_ble_eq_true rfl) dX10_gainsBy_35 (fun z_16 u_14 hp_15 => ?_)
    obtain ⟨hz_16, hp_15⟩ := hp_15
    subst hp_15
    refine s_imul E dX10_gainsBy_38 ?_
    refine z_nm (P := fun z => (-2147483648) ≤ z.toInt ∧ z.toInt ≤ 2147483647) (z32 _) (fun z_18 hz_18 => ?_)
    refine s_aload_n E dX10_gainsBy_39 rfl rfl ?_
    refine s_iload E dX10_gainsBy_40 rfl ?_
    refine s_vI (As := [AI x2]) (S := [AI z_18]) E (Z_X10_stepsOf_95 l D aC b u_6 x2 hj_8.1 ⟨by have hb_ := z32 x2; omega, by have hb_ := z32 x2; omega⟩) cv_X10_300 rfl rfl rfl (jv_lt hj_8 (by decide)) (Nat.le_of_ble_eq_true rfl) (Nat.le_of_ble_eq_true rfl) ⟨(Nat.le_of_ble_eq_true rfl), (Nat.le_of_ble_eq_true rfl)⟩ (Nat.le_of_ble_eq_true rfl) dX10_gainsBy_42 (fun z_21 u_19 hp_20 => ?_)
    obtain ⟨hz_21, hp_20⟩ := hp_20
    subst hp_20
    refine s_isub E dX10_gainsBy_45 ?_
    refine z_nm (P := fun z => (-2147483648) ≤ z.toInt ∧ z.toInt ≤ 2147483647) (z32 _) (fun z_23 hz_23 => ?_)
    refine s_istore (L2 := [some (AR 95), some (AI x1), some (AI x2), some (AI x3), some (AI x4), some (AI x5), some (AI x2), some (AI z_23)]) E dX10_gainsBy_46 (by decide) rfl ?_
    refine s_aload_n E dX10_gainsBy_48 rfl rfl ?_
    refine s_iconst (v := 0) E dX10_gainsBy_49 (by decide) ?_
    refine s_pI E fp_X10_249 (Or.inl rfl) rfl (jv_lt hj_8 (by decide)) dX10_gainsBy_50 ?_
    refine s_gen (P := Jv w) (jv_f_95_22 hj_8 (by decide) (by decide)) (fun v_24 hj_25 => ?_)
    refine s_iload E dX10_gainsBy_53 rfl ?_
    exact r_int E dX10_gainsBy_55 ⟨⟨by have hb_ := z32 z_23; omega, by have hb_ := z32 z_23; omega⟩, hj_25⟩
  ·
    refine s_iload_n E dX10_gainsBy_21 rfl rfl ?_
    refine s_goto (tgt := 26) E dX10_gainsBy_22 (by decide) ?_
    refine s_istore (L2 := [some (AR 95), some (AI x1), some (AI x2), some (AI x3), some (AI x4), some (AI x5), some (AI x1), none]) E dX10_gainsBy_26 (by decide) rfl ?_
    refine s_iconst (v := 2) E dX10_gainsBy_28 (by decide) ?_
    refine s_aload_n E dX10_gainsBy_29 rfl rfl ?_
    refine s_iload E dX10_gainsBy_30 rfl ?_
    refine s_vI (As := [AI x1]) (S := [AI 2]) E (Z_X10_friendsOf_95 l D aC b u_6 x1 hj_8.1 ⟨by have hb_ := z32 x1; omega, by have hb_ := z32 x1; omega⟩) cv_X10_313 rfl rfl rfl (jv_lt hj_8 (by decide)) (Nat.le_of_ble_eq_true rfl) (Nat.le_of_ble_eq_true rfl) ⟨(Nat.le_of_ble_eq_true rfl), (Nat.le_of_ble_eq_true rfl)⟩ (Nat.le_of_ble_eq_true rfl) dX10_gainsBy_32 (fun z_28 u_26 hp_27 => ?_)
    obtain ⟨hz_28, hp_27⟩ := hp_27
    subst hp_27
    refine s_sI (As := [AI z_28]) (S := [AI 2]) E (Z_X10_bits l D aC b u_6 z_28 hj_8.1 ) cs_X10_319 rfl rfl (Nat.le_of_ble_eq_true rfl) (Nat.le_of_ble_eq_true rfl) ⟨(Nat.le_of_ble_eq_true rfl), (Nat.le_of_ble_eq_true rfl)⟩ (Nat.le_of_ble_eq_true rfl) dX10_gainsBy_35 (fun z_32 u_30 hp_31 => ?_)
    obtain ⟨hz_32, hp_31⟩ := hp_31
    subst hp_31
    refine s_imul E dX10_gainsBy_38 ?_
    refine z_nm (P := fun z => (-2147483648) ≤ z.toInt ∧ z.toInt ≤ 2147483647) (z32 _) (fun z_34 hz_34 => ?_)
    refine s_aload_n E dX10_gainsBy_39 rfl rfl ?_
    refine s_iload E dX10_gainsBy_40 rfl ?_
    refine s_vI (As := [AI x1]) (S := [AI z_34]) E (Z_X10_stepsOf_95 l D aC b u_6 x1 hj_8.1 ⟨by have hb_ := z32 x1; omega, by have hb_ := z32 x1; omega⟩) cv_X10_300 rfl rfl rfl (jv_lt hj_8 (by decide)) (Nat.le_of_ble_eq_true rfl) (Nat.le_of_ble_eq_true rfl) ⟨(Nat.le_of_ble_eq_true rfl), (Nat.le_of_ble_eq_true rfl)⟩ (Nat.le_of_ble_eq_true rfl) dX10_gainsBy_42 (fun z_37 u_35 hp_36 => ?_)
    obtain ⟨hz_37, hp_36⟩ := hp_36
    subst hp_36
    refine s_isub E dX10_gainsBy_45 ?_
    refine z_nm (P := fun z => (-2147483648) ≤ z.toInt ∧ z.toInt ≤ 2147483647) (z32 _) (fun z_39 hz_39 => ?_)
    refine s_istore (L2 := [some (AR 95), some (AI x1), some (AI x2), some (AI x3), some (AI x4), some (AI x5), some (AI x1), some (AI z_39)]) E dX10_gainsBy_46 (by decide) rfl ?_
    refine s_aload_n E dX10_gainsBy_48 rfl rfl ?_
    refine s_iconst (v := 0) E dX10_gainsBy_49 (by decide) ?_
    refine s_pI E fp_X10_249 (Or.inl rfl) rfl (jv_lt hj_8 (by decide)) dX10_gainsBy_50 ?_
    refine s_gen (P := Jv w) (jv_f_95_22 hj_8 (by decide) (by decide)) (fun v_40 hj_41 => ?_)
    refine s_iload E dX10_gainsBy_53 rfl ?_
    exact r_int E dX10_gainsBy_55 ⟨⟨by have hb_ := z32 z_39; omega, by have hb_ := z32 z_39; omega⟩, hj_41⟩
