set_option maxRecDepth 20000 in
set_option maxHeartbeats 2000000 in
theorem Z_X10_feed_95 (l : Launch) (D : va_G) (aC : Nat → ClassId) (b : Nat) (w : XW) (x1 : Int32) (x2 : Int32) (x3 : Int32) (x4 : Int32) (x5 : Int32) (hI : Iv w)  : CnI l D aC b M_X10_feed 0 0 0 0 [AR 95, AI x1, AI x2, AI x3, AI x4, AI x5] w (fun r u => ((-1) ≤ r.toInt ∧ r.toInt ≤ 1000 ∧ (¬ r.toInt = 0 ∨ (0 ≤ (w.2.2.1 95 5).toInt ∧ (w.2.2.1 95 5).toInt ≤ 980))) ∧ Jv w u) := by
  refine cn_I (own := RX10) (nm := "feed") (L0 := [some (AR 95), some (AI x1), some (AI x2), some (AI x3), some (AI x4), some (AI x5), none]) (by decide +kernel) rfl rfl (Nat.le_of_ble_eq_true rfl) rfl ?_
  intro p e s m args below meth c E hin
  have hJ : Jv w w := jv_rfl hI
  have hb_x1 := z32 x1
  have hb_x2 := z32 x2
  have hb_x3 := z32 x3
  have hb_x4 := z32 x4
  have hb_x5 := z32 x5
  refine s_aload_n E dX10_feed_0 rfl rfl ?_
  refine s_gI E fg_X10_90 rfl rfl (jv_lt hJ (by decide)) dX10_feed_1 ?_
  refine z_nm (P := fun z => z.toInt = (w.2.2.1 95 5).toInt ∧ 0 ≤ z.toInt ∧ z.toInt ≤ 1000) ⟨rfl, (rg_95_5 hJ)⟩ (fun z_1 hz_1 => ?_)
  refine s_bipush (v := 20) E dX10_feed_4 (by decide) ?_
  refine z_iadd (u := z_1.toInt) (v := 20) E dX10_feed_6 rfl (by decide) (by omega) (by omega) (fun z_2 hz_2 => ?_)
  refine s_sipush (v := 1000) E dX10_feed_7 (by decide) ?_
  refine z_icmp_le (tgt := 15) (u := z_2.toInt) (v := 1000) E dX10_feed_10 (by decide) rfl (by decide) (fun h_3 => ?_) (fun h_3 => ?_)
  ·
    refine s_aload_n E dX10_feed_15 rfl rfl ?_
    refine s_gR (r := 100) E fg_X10_24 rfl rfl (jv_lt hJ (by decide)) (jv_r hJ (by decide +kernel)) dX10_feed_16 ?_
    refine s_iconst (v := 0) E dX10_feed_19 (by decide) ?_
    refine s_iload_n E dX10_feed_20 rfl rfl ?_
    refine s_iast E rfl (jv_lt hJ (by decide)) (z_in (u := 0) (by decide) (by omega) (by omega)) dX10_feed_21 ?_
    refine s_gen (P := fun v => Jv w v ∧ (v.2.2.1 95 5).toInt = (w.2.2.1 95 5).toInt) ⟨(jv_a_100 hJ (by have hb_ := z32 x1; omega) (by have hb_ := z32 x1; omega)), rfl⟩ (fun v_4 hj_5 => ?_)
    obtain ⟨hj_5, hk_6k0⟩ := hj_5
    refine s_aload_n E dX10_feed_22 rfl rfl ?_
    refine s_gR (r := 100) E fg_X10_24 rfl rfl (jv_lt hj_5 (by decide)) (jv_r hj_5 (by decide +kernel)) dX10_feed_23 ?_
    refine s_iconst (v := 1) E dX10_feed_26 (by decide) ?_
    refine s_iload_n E dX10_feed_27 rfl rfl ?_
    refine s_iast E rfl (jv_lt hj_5 (by decide)) (z_in (u := 1) (by decide) (by omega) (by omega)) dX10_feed_28 ?_
    refine s_gen (P := fun v => Jv w v ∧ (v.2.2.1 95 5).toInt = (v_4.2.2.1 95 5).toInt) ⟨(jv_a_100 hj_5 (by have hb_ := z32 x2; omega) (by have hb_ := z32 x2; omega)), rfl⟩ (fun v_7 hj_8 => ?_)
    obtain ⟨hj_8, hk_9k0⟩ := hj_8
    refine s_aload_n E dX10_feed_29 rfl rfl ?_
    refine s_gR (r := 100) E fg_X10_24 rfl rfl (jv_lt hj_8 (by decide)) (jv_r hj_8 (by decide +kernel)) dX10_feed_30 ?_
    refine s_iconst (v := 2) E dX10_feed_33 (by decide) ?_
    refine s_iload_n E dX10_feed_34 rfl rfl ?_
    refine s_iast E rfl (jv_lt hj_8 (by decide)) (z_in (u := 2) (by decide) (by omega) (by omega)) dX10_feed_35 ?_
    refine s_gen (P := fun v => Jv w v ∧ (v.2.2.1 95 5).toInt = (v_7.2.2.1 95 5).toInt) ⟨(jv_a_100 hj_8 (by have hb_ := z32 x3; omega) (by have hb_ := z32 x3; omega)), rfl⟩ (fun v_10 hj_11 => ?_)
    obtain ⟨hj_11, hk_12k0⟩ := hj_11
    refine s_aload_n E dX10_feed_36 rfl rfl ?_
    refine s_gR (r := 100) E fg_X10_24 rfl rfl (jv_lt hj_11 (by decide)) (jv_r hj_11 (by decide +kernel)) dX10_feed_37 ?_
    refine s_iconst (v := 3) E dX10_feed_40 (by decide) ?_
    refine s_iload E dX10_feed_41 rfl ?_
    refine s_iast E rfl (jv_lt hj_11 (by decide)) (z_in (u := 3) (by decide) (by omega) (by omega)) dX10_feed_43 ?_
    refine s_gen (P := fun v => Jv w v ∧ (v.2.2.1 95 5).toInt = (v_10.2.2.1 95 5).toInt) ⟨(jv_a_100 hj_11 (by have hb_ := z32 x4; omega) (by have hb_ := z32 x4; omega)), rfl⟩ (fun v_13 hj_14 => ?_)
    obtain ⟨hj_14, hk_15k0⟩ := hj_14
    refine s_aload_n E dX10_feed_44 rfl rfl ?_
    refine s_gR (r := 100) E fg_X10_24 rfl rfl (jv_lt hj_14 (by decide)) (jv_r hj_14 (by decide +kernel)) dX10_feed_45 ?_
    refine s_iconst (v := 4) E dX10_feed_48 (by decide) ?_
    refine s_iload E dX10_feed_49 rfl ?_
    refine s_iast E rfl (jv_lt hj_14 (by decide)) (z_in (u := 4) (by decide) (by omega) (by omega)) dX10_feed_51 ?_
    refine s_gen (P := fun v => Jv w v ∧ (v.2.2.1 95 5).toInt = (v_13.2.2.1 95 5).toInt) ⟨(jv_a_100 hj_14 (by have hb_ := z32 x5; omega) (by have hb_ := z32 x5; omega)), rfl⟩ (fun v_16 hj_17 => ?_)
    obtain ⟨hj_17, hk_18k0⟩ := hj_17
    refine s_iconst (v := 0) E dX10_feed_52 (by decide) ?_
    refine s_istore (L2 := [some (AR 95), some (AI x1), some (AI x2), some (AI x3), some (AI x4), some (AI x5), some (AI 0)]) E dX10_feed_53 (by decide) rfl ?_
    refine z_loop (St := Int32) (Pi := fun q55_6_18 v55 => (0 ≤ q55_6_18.toInt ∧ q55_6_18.toInt ≤ 20) ∧ (0 ≤ (v55.2.2.1 95 5).toInt ∧ (v55.2.2.1 95 5).toInt ≤ 980) ∧ Jv w v55) (Lf := fun q55_6_18 => [some (AR 95), some (AI x1), some (AI x2), some (AI x3), some (AI x4), some (AI x5), some (AI q55_6_18)]) (fun q55_6_18 _ => (21 - q55_6_18.toInt).toNat) 0 ⟨⟨by decide, by decide⟩, ⟨by omega, by omega⟩, hj_17⟩ ?_
    rintro q55_6_18 v55 ⟨hq55_6, ha55_0, hj_19⟩ ih55
    refine s_loc (L2 := [some (AR 95), some (AI x1), some (AI x2), some (AI x3), some (AI x4), some (AI x5), some (AI q55_6_18)]) rfl ?_
    refine s_iload E dX10_feed_55 rfl ?_
    refine s_bipush (v := 20) E dX10_feed_57 (by decide) ?_
    refine z_icmp_ge (tgt := 101) (u := q55_6_18.toInt) (v := 20) E dX10_feed_59 (by decide) rfl (by decide) (fun h_20 => ?_) (fun h_20 => ?_)
    ·
      refine s_aload_n E dX10_feed_101 rfl rfl ?_
      refine s_dupR E dX10_feed_102 ?_
      refine s_gI E fg_X10_90 rfl rfl (jv_lt hj_19 (by decide)) dX10_feed_103 ?_
      refine z_nm (P := fun z => z.toInt = (v55.2.2.1 95 5).toInt ∧ 0 ≤ z.toInt ∧ z.toInt ≤ 1000) ⟨rfl, (rg_95_5 hj_19)⟩ (fun z_21 hz_21 => ?_)
      refine s_bipush (v := 20) E dX10_feed_106 (by decide) ?_
      refine z_iadd (u := z_21.toInt) (v := 20) E dX10_feed_108 rfl (by decide) (by omega) (by omega) (fun z_22 hz_22 => ?_)
      refine s_pI E fp_X10_90 (Or.inl rfl) rfl (jv_lt hj_19 (by decide)) dX10_feed_109 ?_
      refine s_gen (P := Jv w) (jv_f_95_5 hj_19 (by have hb_ := z32 z_22; omega) (by have hb_ := z32 z_22; omega)) (fun v_23 hj_24 => ?_)
      refine s_aload_n E dX10_feed_112 rfl rfl ?_
      refine s_gI E fg_X10_90 rfl rfl (jv_lt hj_24 (by decide)) dX10_feed_113 ?_
      refine z_nm (P := fun z => z.toInt = (v_23.2.2.1 95 5).toInt ∧ 0 ≤ z.toInt ∧ z.toInt ≤ 1000) ⟨rfl, (rg_95_5 hj_24)⟩ (fun z_25 hz_25 => ?_)
      exact r_int E dX10_feed_116 ⟨⟨by have hb_ := z32 z_25; omega, by have hb_ := z32 z_25; omega, by first | (right; decide) | (have hb_ := z32 z_25; omega) | (have hb_ := z32 z_25; have hc_ := z32 (w.2.2.1 95 5); omega)⟩, hj_24⟩
    ·
      refine s_aload_n E dX10_feed_62 rfl rfl ?_
      refine s_gR (r := 99) E fg_X10_20 rfl rfl (jv_lt hj_19 (by decide)) (jv_r hj_19 (by decide +kernel)) dX10_feed_63 ?_
      refine s_aload_n E dX10_feed_66 rfl rfl ?_
      refine s_gI E fg_X10_90 rfl rfl (jv_lt hj_19 (by decide)) dX10_feed_67 ?_
      refine z_nm (P := fun z => z.toInt = (v55.2.2.1 95 5).toInt ∧ 0 ≤ z.toInt ∧ z.toInt ≤ 1000) ⟨rfl, (rg_95_5 hj_19)⟩ (fun z_26 hz_26 => ?_)
      refine s_iload E dX10_feed_70 rfl ?_
      refine z_iadd (u := z_26.toInt) (v := q55_6_18.toInt) E dX10_feed_72 rfl rfl (by omega) (by omega) (fun z_27 hz_27 => ?_)
      refine s_aload_n E dX10_feed_73 rfl rfl ?_
      refine s_gR (r := 100) E fg_X10_24 rfl rfl (jv_lt hj_19 (by decide)) (jv_r hj_19 (by decide +kernel)) dX10_feed_74 ?_
      refine s_iload E dX10_feed_77 rfl ?_
      refine s_iconst (v := 4) E dX10_feed_79 (by decide) ?_
      refine z_idiv (u := q55_6_18.toInt) (v := 4) E dX10_feed_80 rfl (by decide) (by omega) (by omega) (fun z_28 hz_28 => ?_)
      refine s_iald E rfl (jv_lt hj_19 (by decide)) (z_in (u := z_28.toInt) rfl (by omega) (by omega)) dX10_feed_81 ?_
      refine z_nm (P := fun z => (-2147483648) ≤ z.toInt ∧ z.toInt ≤ 2147483647) (z32 _) (fun z_29 hz_29 => ?_)
      refine s_bipush (v := 24) E dX10_feed_82 (by decide) ?_
      refine s_bipush (v := 8) E dX10_feed_84 (by decide) ?_
      refine s_iload E dX10_feed_86 rfl ?_
      refine s_iconst (v := 4) E dX10_feed_88 (by decide) ?_
      refine z_irem (u := q55_6_18.toInt) (v := 4) E dX10_feed_89 rfl (by decide) (by omega) (by omega) (fun z_30 hz_30 => ?_)
      refine z_imul (u := 8) (v := z_30.toInt) E dX10_feed_90 (by decide) rfl (by omega) (by omega) (fun z_31 hz_31 => ?_)
      refine z_isub (u := 24) (v := z_31.toInt) E dX10_feed_91 (by decide) rfl (by omega) (by omega) (fun z_32 hz_32 => ?_)
      refine s_ishr E dX10_feed_92 ?_
      refine z_nm (P := fun z => (-2147483648) ≤ z.toInt ∧ z.toInt ≤ 2147483647) (z32 _) (fun z_33 hz_33 => ?_)
      refine s_i2b E dX10_feed_93 ?_
      refine z_nm (P := fun z => (-2147483648) ≤ z.toInt ∧ z.toInt ≤ 2147483647) (z32 _) (fun z_34 hz_34 => ?_)
      refine s_bast E rfl (jv_lt hj_19 (by decide)) (z_in (u := z_27.toInt) rfl (by omega) (by omega)) dX10_feed_94 ?_
      refine s_gen (P := fun v => Jv w v ∧ (v.2.2.1 95 5).toInt = (v55.2.2.1 95 5).toInt) ⟨(jv_b_99 hj_19), rfl⟩ (fun v_35 hj_36 => ?_)
      obtain ⟨hj_36, hk_37k0⟩ := hj_36
      refine z_iinc (u := q55_6_18.toInt) (L2 := fun z_38 => [some (AR 95), some (AI x1), some (AI x2), some (AI x3), some (AI x4), some (AI x5), some (AI z_38)]) E dX10_feed_95 rfl rfl (by decide) (fun _ => rfl) (by decide) (by omega) (by omega) (fun z_38 hz_38 => ?_)
      refine s_goto (tgt := 55) E dX10_feed_98 (by decide) ?_
      exact ih55 z_38 v_35 ⟨⟨by have hb_ := z32 z_38; omega, by have hb_ := z32 z_38; omega⟩, ⟨by omega, by omega⟩, hj_36⟩ (by first | omega | decide | (dsimp only; omega) | (dsimp only; decide))
  ·
    refine s_iconst (v := (-1)) E dX10_feed_13 (by decide) ?_
    exact r_int E dX10_feed_14 ⟨⟨by decide, by decide, by first | (left; decide) | (right; decide) | (right; have hb_ := z32 (w.2.2.1 95 5); omega)⟩, hJ⟩
set_option maxRecDepth 20000 in
set_option maxHeartbeats 2000000 in
theorem Z_X10_end_95 (l : Launch) (D : va_G) (aC : Nat → ClassId) (b : Nat) (w : XW) (x1 : Int32) (hI : Iv w)  : CnI l D aC b M_X10_end 1 25 0 0 [AR 95, AI x1] w (fun r u => ((-1) ≤ r.toInt ∧ r.toInt ≤ 1000 ∧ (¬ r.toInt = 0 ∨ (0 ≤ x1.toInt ∧ x1.toInt ≤ 1000))) ∧ Jv w u) := by
  refine cn_I (own := RX10) (nm := "end") (L0 := [some (AR 95), some (AI x1)]) (by decide +kernel) rfl rfl (Nat.le_of_ble_eq_true rfl) rfl ?_
  intro p e s m args below meth c E hin
  have hJ : Jv w w := jv_rfl hI
  have hb_x1 := z32 x1
  refine s_iload_n E dX10_end_0 rfl rfl ?_
  refine z_i2l (u := x1.toInt) E dX10_end_1 rfl (fun z_1 hz_1 => ?_)
  refine s_lconst (v := 0) E dX10_end_2 (by decide) ?_
  refine s_aload_n E dX10_end_3 rfl rfl ?_
  refine s_gI E fg_X10_90 rfl rfl (jv_lt hJ (by decide)) dX10_end_4 ?_
  refine z_nm (P := fun z => z.toInt = (w.2.2.1 95 5).toInt ∧ 0 ≤ z.toInt ∧ z.toInt ≤ 1000) ⟨rfl, (rg_95_5 hJ)⟩ (fun z_2 hz_2 => ?_)
  refine z_i2l (u := z_2.toInt) E dX10_end_7 rfl (fun z_3 hz_3 => ?_)
  refine s_sI (As := [AL z_1, AL 0, AL z_3]) (S := []) E (Z_X10_in l D aC b w z_1 0 z_3) cs_X10_82 rfl rfl (Nat.le_of_ble_eq_true rfl) (Nat.le_of_ble_eq_true rfl) ⟨(Nat.le_of_ble_eq_true rfl), (Nat.le_of_ble_eq_true rfl)⟩ (Nat.le_of_ble_eq_true rfl) dX10_end_8 (fun z_4 u_5 hp_6 => ?_)
  obtain ⟨hz_4, hp_6⟩ := hp_6
  subst hp_6
  refine z_if_ne (tgt := 16) (u := z_4.toInt) E dX10_end_11 (by decide) rfl (fun h_7 => ?_) (fun h_7 => ?_)
  ·
    refine s_aload_n E dX10_end_16 rfl rfl ?_
    refine s_iload_n E dX10_end_17 rfl rfl ?_
    refine s_pI E fp_X10_90 (Or.inl rfl) rfl (jv_lt hJ (by decide)) dX10_end_18 ?_
    refine s_gen (P := Jv w) (jv_f_95_5 hJ (by have hb_ := z32 x1; omega) (by have hb_ := z32 x1; omega)) (fun v_8 hj_9 => ?_)
    refine s_iload_n E dX10_end_21 rfl rfl ?_
    exact r_int E dX10_end_22 ⟨⟨by have hb_ := z32 x1; omega, by have hb_ := z32 x1; omega, by first | (right; decide) | (have hb_ := z32 x1; omega) | (have hb_ := z32 x1; have hc_ := z32 x1; omega)⟩, hj_9⟩
  ·
    refine s_iconst (v := (-1)) E dX10_end_14 (by decide) ?_
    exact r_int E dX10_end_15 ⟨⟨by decide, by decide, by first | (left; decide) | (right; decide) | (right; have hb_ := z32 x1; omega)⟩, hJ⟩
set_option maxRecDepth 20000 in
set_option maxHeartbeats 2000000 in
theorem Z_X10_see_95 (l : Launch) (D : va_G) (aC : Nat → ClassId) (b : Nat) (w : XW) (x1 : Int32) (hI : Iv w) (hx1 : 0 ≤ x1.toInt ∧ x1.toInt ≤ 1000) : CnI l D aC b M_X10_see 0 0 0 0 [AR 95, AI x1] w (fun r u => ((-1) ≤ r.toInt ∧ r.toInt ≤ 255 ∧ (¬ r.toInt = 0 ∨ (0 ≤ x1.toInt ∧ x1.toInt ≤ 999)) ∧ (¬ r.toInt = 0 ∨ (1 ≤ (w.2.2.1 95 7).toInt ∧ (w.2.2.1 95 7).toInt ≤ 1000))) ∧ (r.toInt = seeV (w.2.2.1 99) (w.2.2.1 95 7).toInt x1.toInt ∧ (r.toInt < 0 ∨ x1.toInt < (w.2.2.1 95 7).toInt)) ∧ w = u) := by
  refine cn_I (own := RX10) (nm := "see") (L0 := [some (AR 95), some (AI x1)]) (by decide +kernel) rfl rfl (Nat.le_of_ble_eq_true rfl) rfl ?_
  intro p e s m args below meth c E hin
  have hJ : Jv w w := jv_rfl hI
  refine s_iload_n E dX10_see_0 rfl rfl ?_
  refine s_aload_n E dX10_see_1 rfl rfl ?_
  refine s_gI E fg_X10_93 rfl rfl (jv_lt hJ (by decide)) dX10_see_2 ?_
  refine z_nm (P := fun z => z.toInt = (w.2.2.1 95 7).toInt ∧ 0 ≤ z.toInt ∧ z.toInt ≤ 1000) ⟨rfl, (rg_95_7 hJ)⟩ (fun z_1 hz_1 => ?_)
  refine z_icmp_ge (tgt := 21) (u := x1.toInt) (v := z_1.toInt) E dX10_see_5 (by decide) rfl rfl (fun h_2 => ?_) (fun h_2 => ?_)
  ·
    refine s_iconst (v := (-1)) E dX10_see_21 (by decide) ?_
    exact r_int E dX10_see_22 ⟨⟨by decide, by decide, by first | (left; decide) | (right; decide) | (right; have hb_ := z32 x1; omega), by first | (left; decide) | (right; decide) | (right; have hb_ := z32 (w.2.2.1 95 7); omega)⟩, (by first | exact ⟨see_no (by omega) (by decide), by omega⟩ | exact ⟨see_yes (by omega) (by assumption) (by assumption), by omega⟩), rfl⟩
  ·
    refine s_aload_n E dX10_see_8 rfl rfl ?_
    refine s_gR (r := 99) E fg_X10_20 rfl rfl (jv_lt hJ (by decide)) (jv_r hJ (by decide +kernel)) dX10_see_9 ?_
    refine s_iload_n E dX10_see_12 rfl rfl ?_
    refine s_bald E rfl (jv_lt hJ (by decide)) (z_in (u := x1.toInt) rfl (by omega) (by omega)) dX10_see_13 ?_
    refine z_nm (P := fun z => z = w.2.2.1 99 x1.toNatClampNeg ∧ (-128) ≤ z.toInt ∧ z.toInt ≤ 127) ⟨rfl, (ra_99 hJ _)⟩ (fun z_3 hz_3 => ?_)
    refine s_sipush (v := 255) E dX10_see_14 (by decide) ?_
    refine s_iand E dX10_see_17 ?_
    refine z_nm (P := fun z => z = z_3 &&& 255 ∧ 0 ≤ z.toInt ∧ z.toInt ≤ 255) ⟨rfl, y_and (by decide) (by decide)⟩ (fun z_4 hz_4 => ?_)
    refine s_goto (tgt := 22) E dX10_see_18 (by decide) ?_
    exact r_int E dX10_see_22 ⟨⟨by have hb_ := z32 z_4; omega, by have hb_ := z32 z_4; omega, by first | (right; decide) | (have hb_ := z32 z_4; omega) | (have hb_ := z32 z_4; have hc_ := z32 x1; omega), by first | (right; decide) | (have hb_ := z32 z_4; omega) | (have hb_ := z32 z_4; have hc_ := z32 (w.2.2.1 95 7); omega)⟩, (by first | exact ⟨see_no (by omega) (by decide), by omega⟩ | exact ⟨see_yes (by omega) (by assumption) (by assumption), by omega⟩), rfl⟩
set_option maxRecDepth 20000 in
set_option maxHeartbeats 2000000 in
theorem Z_X10_advance_95 (l : Launch) (D : va_G) (aC : Nat → ClassId) (b : Nat) (w : XW)  (hI : Iv w)  : CnV l D aC b M_X10_advance 1 25 0 0 [AR 95] w (fun u => ((u.2.2.1 95 7).toInt = (w.2.2.1 95 7).toInt ∧ (u.2.2.1 95 12).toInt = (w.2.2.1 95 12).toInt ∧ (w.2.2.1 95 8).toInt ≤ (u.2.2.1 95 9).toInt ∧ (u.2.2.1 95 9).toInt ≤ (u.2.2.1 95 8).toInt ∧ ((u.2.2.1 95 10).toInt = 0 ∨ (u.2.2.1 95 9).toInt < (u.2.2.1 95 8).toInt)) ∧ ((u.2.2.1 99) = (w.2.2.1 99)) ∧ ((u.2.2.1 101) = (w.2.2.1 101)) ∧ Jv w u) := by
  refine cn_V (own := RX10) (nm := "advance") (L0 := [some (AR 95), none]) (by decide +kernel) rfl rfl (Nat.le_of_ble_eq_true rfl) rfl ?_
  intro p e s m args below meth c E hin
  have hJ : Jv w w := jv_rfl hI
  refine z_loop (St := Unit) (Pi := fun () v0 => ((v0.2.2.1 95 7).toInt = (w.2.2.1 95 7).toInt ∧ (v0.2.2.1 95 12).toInt = (w.2.2.1 95 12).toInt ∧ (w.2.2.1 95 8).toInt ≤ (v0.2.2.1 95 8).toInt) ∧ ((v0.2.2.1 99) = (w.2.2.1 99)) ∧ ((v0.2.2.1 101) = (w.2.2.1 101)) ∧ Jv w v0) (Lf := fun () => [some (AR 95), none]) (fun () v0 => (1000 - (v0.2.2.1 95 8).toInt).toNat) () ⟨(by omega), rfl, rfl, hJ⟩ ?_
  rintro () v0 ⟨hl0, hf0_99, hf0_101, hj_1⟩ ih0
  refine s_loc (L2 := [some (AR 95), none]) rfl ?_
  refine s_aload_n E dX10_advance_0 rfl rfl ?_
  refine s_aload_n E dX10_advance_1 rfl rfl ?_
  refine s_gI E fg_X10_96 rfl rfl (jv_lt hj_1 (by decide)) dX10_advance_2 ?_
  refine z_nm (P := fun z => z.toInt = (v0.2.2.1 95 8).toInt ∧ 0 ≤ z.toInt ∧ z.toInt ≤ 1000) ⟨rfl, (rg_95_8 hj_1)⟩ (fun z_2 hz_2 => ?_)
  refine s_vI (As := [AI z_2]) (S := []) E (Z_X10_see_95 l D aC b v0 z_2 hj_1.1 ⟨by have hb_ := z32 z_2; omega, by have hb_ := z32 z_2; omega⟩) cv_X10_99 rfl rfl rfl (jv_lt hj_1 (by decide)) (Nat.le_of_ble_eq_true rfl) (Nat.le_of_ble_eq_true rfl) ⟨(Nat.le_of_ble_eq_true rfl), (Nat.le_of_ble_eq_true rfl)⟩ (Nat.le_of_ble_eq_true rfl) dX10_advance_5 (fun z_5 u_3 hp_4 => ?_)
  obtain ⟨hz_5, hxz_5, hp_4⟩ := hp_4
  subst hp_4
  rw [show z_2.toInt = (v0.2.2.1 95 8).toInt from by omega] at hxz_5
  have hs_ := rg_95_7 hj_1
  refine s_bipush (v := 32) E dX10_advance_8 (by decide) ?_
  refine z_icmp_eq (tgt := 26) (u := z_5.toInt) (v := 32) E dX10_advance_10 (by decide) rfl (by decide) (fun h_7 => ?_) (fun h_7 => ?_)
  ·
    refine s_aload_n E dX10_advance_26 rfl rfl ?_
    refine s_dupR E dX10_advance_27 ?_
    refine s_gI E fg_X10_96 rfl rfl (jv_lt hj_1 (by decide)) dX10_advance_28 ?_
    refine z_nm (P := fun z => z.toInt = (v0.2.2.1 95 8).toInt ∧ 0 ≤ z.toInt ∧ z.toInt ≤ 1000) ⟨rfl, (rg_95_8 hj_1)⟩ (fun z_8 hz_8 => ?_)
    refine s_iconst (v := 1) E dX10_advance_31 (by decide) ?_
    refine z_iadd (u := z_8.toInt) (v := 1) E dX10_advance_32 rfl (by decide) (by omega) (by omega) (fun z_9 hz_9 => ?_)
    have hhz_9 : 0 ≤ z_9.toInt ∧ z_9.toInt ≤ 1000 := by omega
    refine s_pI E fp_X10_96 (Or.inl rfl) rfl (jv_lt hj_1 (by decide)) dX10_advance_33 ?_
    refine s_gen (P := fun v => Jv w v ∧ (v.2.2.1 95 7).toInt = (v0.2.2.1 95 7).toInt ∧ (v.2.2.1 95 8).toInt = z_9.toInt ∧ (v.2.2.1 95 9).toInt = (v0.2.2.1 95 9).toInt ∧ (v.2.2.1 95 10).toInt = (v0.2.2.1 95 10).toInt ∧ (v.2.2.1 95 12).toInt = (v0.2.2.1 95 12).toInt ∧ (v.2.2.1 99) = (v0.2.2.1 99) ∧ (v.2.2.1 101) = (v0.2.2.1 101)) ⟨(jv_f_95_8 hj_1 (by have hb_ := z32 z_9; omega) (by have hb_ := z32 z_9; omega)), rfl, rfl, rfl, rfl, rfl, (by first | rfl | exact upI_ne (by decide)), (by first | rfl | exact upI_ne (by decide))⟩ (fun v_10 hj_11 => ?_)
    obtain ⟨hj_11, hk_12k0, hk_12k1, hk_12k2, hk_12k3, hk_12k4, hk_12c99, hk_12c101⟩ := hj_11
    refine s_goto (tgt := 0) E dX10_advance_36 (by decide) ?_
    exact ih0 () v_10 ⟨(by omega), (hk_12c99.trans hf0_99), (hk_12c101.trans hf0_101), hj_11⟩ (by first | omega | decide | (dsimp only; omega) | (dsimp only; decide))
  ·
    refine s_aload_n E dX10_advance_13 rfl rfl ?_
    refine s_aload_n E dX10_advance_14 rfl rfl ?_
    refine s_gI E fg_X10_96 rfl rfl (jv_lt hj_1 (by decide)) dX10_advance_15 ?_
    refine z_nm (P := fun z => z.toInt = (v0.2.2.1 95 8).toInt ∧ 0 ≤ z.toInt ∧ z.toInt ≤ 1000) ⟨rfl, (rg_95_8 hj_1)⟩ (fun z_13 hz_13 => ?_)
    refine s_vI (As := [AI z_13]) (S := []) E (Z_X10_see_95 l D aC b v0 z_13 hj_1.1 ⟨by have hb_ := z32 z_13; omega, by have hb_ := z32 z_13; omega⟩) cv_X10_99 rfl rfl rfl (jv_lt hj_1 (by decide)) (Nat.le_of_ble_eq_true rfl) (Nat.le_of_ble_eq_true rfl) ⟨(Nat.le_of_ble_eq_true rfl), (Nat.le_of_ble_eq_true rfl)⟩ (Nat.le_of_ble_eq_true rfl) dX10_advance_18 (fun z_16 u_14 hp_15 => ?_)
    obtain ⟨hz_16, hxz_16, hp_15⟩ := hp_15
    subst hp_15
    rw [show z_13.toInt = (v0.2.2.1 95 8).toInt from by omega] at hxz_16
    have hs_ := rg_95_7 hj_1
    refine s_bipush (v := 10) E dX10_advance_21 (by decide) ?_
    refine z_icmp_ne (tgt := 39) (u := z_16.toInt) (v := 10) E dX10_advance_23 (by decide) rfl (by decide) (fun h_18 => ?_) (fun h_18 => ?_)
    ·
      refine s_aload_n E dX10_advance_39 rfl rfl ?_
      refine s_aload_n E dX10_advance_40 rfl rfl ?_
      refine s_gI E fg_X10_96 rfl rfl (jv_lt hj_1 (by decide)) dX10_advance_41 ?_
      refine z_nm (P := fun z => z.toInt = (v0.2.2.1 95 8).toInt ∧ 0 ≤ z.toInt ∧ z.toInt ≤ 1000) ⟨rfl, (rg_95_8 hj_1)⟩ (fun z_19 hz_19 => ?_)
      refine s_pI E fp_X10_103 (Or.inl rfl) rfl (jv_lt hj_1 (by decide)) dX10_advance_44 ?_
      refine s_gen (P := fun v => Jv w v ∧ (v.2.2.1 95 7).toInt = (v0.2.2.1 95 7).toInt ∧ (v.2.2.1 95 8).toInt = (v0.2.2.1 95 8).toInt ∧ (v.2.2.1 95 9).toInt = z_19.toInt ∧ (v.2.2.1 95 10).toInt = (v0.2.2.1 95 10).toInt ∧ (v.2.2.1 95 12).toInt = (v0.2.2.1 95 12).toInt ∧ (v.2.2.1 99) = (v0.2.2.1 99) ∧ (v.2.2.1 101) = (v0.2.2.1 101)) ⟨(jv_f_95_9 hj_1 (by have hb_ := z32 z_19; omega) (by have hb_ := z32 z_19; omega)), rfl, rfl, rfl, rfl, rfl, (by first | rfl | exact upI_ne (by decide)), (by first | rfl | exact upI_ne (by decide))⟩ (fun v_20 hj_21 => ?_)
      obtain ⟨hj_21, hk_22k0, hk_22k1, hk_22k2, hk_22k3, hk_22k4, hk_22c99, hk_22c101⟩ := hj_21
      refine s_aload_n E dX10_advance_47 rfl rfl ?_
      refine s_aload_n E dX10_advance_48 rfl rfl ?_
      refine s_gI E fg_X10_96 rfl rfl (jv_lt hj_21 (by decide)) dX10_advance_49 ?_
      refine z_nm (P := fun z => z.toInt = (v_20.2.2.1 95 8).toInt ∧ 0 ≤ z.toInt ∧ z.toInt ≤ 1000) ⟨rfl, (rg_95_8 hj_21)⟩ (fun z_23 hz_23 => ?_)
      refine s_vI (As := [AI z_23]) (S := []) E (Z_X10_see_95 l D aC b v_20 z_23 hj_21.1 ⟨by have hb_ := z32 z_23; omega, by have hb_ := z32 z_23; omega⟩) cv_X10_99 rfl rfl rfl (jv_lt hj_21 (by decide)) (Nat.le_of_ble_eq_true rfl) (Nat.le_of_ble_eq_true rfl) ⟨(Nat.le_of_ble_eq_true rfl), (Nat.le_of_ble_eq_true rfl)⟩ (Nat.le_of_ble_eq_true rfl) dX10_advance_52 (fun z_26 u_24 hp_25 => ?_)
      obtain ⟨hz_26, hxz_26, hp_25⟩ := hp_25
      subst hp_25
      rw [show z_23.toInt = (v_20.2.2.1 95 8).toInt from by omega] at hxz_26
      have hs_ := rg_95_7 hj_21
      refine s_istore_n (L2 := [some (AR 95), some (AI z_26)]) E dX10_advance_55 rfl (by decide) rfl ?_
      refine s_iload_n E dX10_advance_56 rfl rfl ?_
      refine s_iconst (v := (-1)) E dX10_advance_57 (by decide) ?_
      refine z_icmp_ne (tgt := 69) (u := z_26.toInt) (v := (-1)) E dX10_advance_58 (by decide) rfl (by decide) (fun h_28 => ?_) (fun h_28 => ?_)
      ·
        refine s_iload_n E dX10_advance_69 rfl rfl ?_
        refine z_i2l (u := z_26.toInt) E dX10_advance_70 rfl (fun z_29 hz_29 => ?_)
        refine s_ldc2 E k_1397 rfl dX10_advance_71 ?_
        refine s_ldc2 E k_1398 rfl dX10_advance_74 ?_
        refine s_sI (As := [AL z_29, AL 97, AL 122]) (S := []) E (Z_X10_in l D aC b v_20 z_29 97 122) cs_X10_82 rfl rfl (Nat.le_of_ble_eq_true rfl) (Nat.le_of_ble_eq_true rfl) ⟨(Nat.le_of_ble_eq_true rfl), (Nat.le_of_ble_eq_true rfl)⟩ (Nat.le_of_ble_eq_true rfl) dX10_advance_77 (fun z_30 u_31 hp_32 => ?_)
        obtain ⟨hz_30, hp_32⟩ := hp_32
        subst hp_32
        refine z_if_eq (tgt := 125) (u := z_30.toInt) E dX10_advance_80 (by decide) rfl (fun h_33 => ?_) (fun h_33 => ?_)
        ·
          refine s_iload_n E dX10_advance_125 rfl rfl ?_
          refine z_i2l (u := z_26.toInt) E dX10_advance_126 rfl (fun z_34 hz_34 => ?_)
          refine s_ldc2 E k_1399 rfl dX10_advance_127 ?_
          refine s_ldc2 E k_1400 rfl dX10_advance_130 ?_
          refine s_sI (As := [AL z_34, AL 48, AL 57]) (S := []) E (Z_X10_in l D aC b v_20 z_34 48 57) cs_X10_82 rfl rfl (Nat.le_of_ble_eq_true rfl) (Nat.le_of_ble_eq_true rfl) ⟨(Nat.le_of_ble_eq_true rfl), (Nat.le_of_ble_eq_true rfl)⟩ (Nat.le_of_ble_eq_true rfl) dX10_advance_133 (fun z_35 u_36 hp_37 => ?_)
          obtain ⟨hz_35, hp_37⟩ := hp_37
          subst hp_37
          refine z_if_eq (tgt := 214) (u := z_35.toInt) E dX10_advance_136 (by decide) rfl (fun h_38 => ?_) (fun h_38 => ?_)
          ·
            refine s_aload_n E dX10_advance_214 rfl rfl ?_
            refine s_iload_n E dX10_advance_215 rfl rfl ?_
            refine s_bipush (v := 59) E dX10_advance_216 (by decide) ?_
            refine z_icmp_ne (tgt := 225) (u := z_26.toInt) (v := 59) E dX10_advance_218 (by decide) rfl (by decide) (fun h_39 => ?_) (fun h_39 => ?_)
            ·
              refine s_iconst (v := 4) E dX10_advance_225 (by decide) ?_
              refine s_pI E fp_X10_106 (Or.inl rfl) rfl (jv_lt hj_21 (by decide)) dX10_advance_226 ?_
              refine s_gen (P := fun v => Jv w v ∧ (v.2.2.1 95 7).toInt = (v_20.2.2.1 95 7).toInt ∧ (v.2.2.1 95 8).toInt = (v_20.2.2.1 95 8).toInt ∧ (v.2.2.1 95 9).toInt = (v_20.2.2.1 95 9).toInt ∧ (v.2.2.1 95 10).toInt = 4 ∧ (v.2.2.1 95 12).toInt = (v_20.2.2.1 95 12).toInt ∧ (v.2.2.1 99) = (v_20.2.2.1 99) ∧ (v.2.2.1 101) = (v_20.2.2.1 101)) ⟨(jv_f_95_10 hj_21 (by decide) (by decide)), rfl, rfl, rfl, rfl, rfl, (by first | rfl | exact upI_ne (by decide)), (by first | rfl | exact upI_ne (by decide))⟩ (fun v_40 hj_41 => ?_)
              obtain ⟨hj_41, hk_42k0, hk_42k1, hk_42k2, hk_42k3, hk_42k4, hk_42c99, hk_42c101⟩ := hj_41
              refine s_aload_n E dX10_advance_229 rfl rfl ?_
              refine s_dupR E dX10_advance_230 ?_
              refine s_gI E fg_X10_96 rfl rfl (jv_lt hj_41 (by decide)) dX10_advance_231 ?_
              refine z_nm (P := fun z => z.toInt = (v_40.2.2.1 95 8).toInt ∧ 0 ≤ z.toInt ∧ z.toInt ≤ 1000) ⟨rfl, (rg_95_8 hj_41)⟩ (fun z_43 hz_43 => ?_)
              refine s_iconst (v := 1) E dX10_advance_234 (by decide) ?_
              refine z_iadd (u := z_43.toInt) (v := 1) E dX10_advance_235 rfl (by decide) (by omega) (by omega) (fun z_44 hz_44 => ?_)
              have hhz_44 : 0 ≤ z_44.toInt ∧ z_44.toInt ≤ 1000 := by omega
              refine s_pI E fp_X10_96 (Or.inl rfl) rfl (jv_lt hj_41 (by decide)) dX10_advance_236 ?_
              refine s_gen (P := fun v => Jv w v ∧ (v.2.2.1 95 7).toInt = (v_40.2.2.1 95 7).toInt ∧ (v.2.2.1 95 8).toInt = z_44.toInt ∧ (v.2.2.1 95 9).toInt = (v_40.2.2.1 95 9).toInt ∧ (v.2.2.1 95 10).toInt = (v_40.2.2.1 95 10).toInt ∧ (v.2.2.1 95 12).toInt = (v_40.2.2.1 95 12).toInt ∧ (v.2.2.1 99) = (v_40.2.2.1 99) ∧ (v.2.2.1 101) = (v_40.2.2.1 101)) ⟨(jv_f_95_8 hj_41 (by have hb_ := z32 z_44; omega) (by have hb_ := z32 z_44; omega)), rfl, rfl, rfl, rfl, rfl, (by first | rfl | exact upI_ne (by decide)), (by first | rfl | exact upI_ne (by decide))⟩ (fun v_45 hj_46 => ?_)
              obtain ⟨hj_46, hk_47k0, hk_47k1, hk_47k2, hk_47k3, hk_47k4, hk_47c99, hk_47c101⟩ := hj_46
              exact r_void E dX10_advance_239 ⟨(by omega), (hk_47c99.trans (hk_42c99.trans (hk_22c99.trans hf0_99))), (hk_47c101.trans (hk_42c101.trans (hk_22c101.trans hf0_101))), hj_46⟩
            ·
              refine s_iconst (v := 3) E dX10_advance_221 (by decide) ?_
              refine s_goto (tgt := 226) E dX10_advance_222 (by decide) ?_
              refine s_pI E fp_X10_106 (Or.inl rfl) rfl (jv_lt hj_21 (by decide)) dX10_advance_226 ?_
              refine s_gen (P := fun v => Jv w v ∧ (v.2.2.1 95 7).toInt = (v_20.2.2.1 95 7).toInt ∧ (v.2.2.1 95 8).toInt = (v_20.2.2.1 95 8).toInt ∧ (v.2.2.1 95 9).toInt = (v_20.2.2.1 95 9).toInt ∧ (v.2.2.1 95 10).toInt = 3 ∧ (v.2.2.1 95 12).toInt = (v_20.2.2.1 95 12).toInt ∧ (v.2.2.1 99) = (v_20.2.2.1 99) ∧ (v.2.2.1 101) = (v_20.2.2.1 101)) ⟨(jv_f_95_10 hj_21 (by decide) (by decide)), rfl, rfl, rfl, rfl, rfl, (by first | rfl | exact upI_ne (by decide)), (by first | rfl | exact upI_ne (by decide))⟩ (fun v_48 hj_49 => ?_)
              obtain ⟨hj_49, hk_50k0, hk_50k1, hk_50k2, hk_50k3, hk_50k4, hk_50c99, hk_50c101⟩ := hj_49
              refine s_aload_n E dX10_advance_229 rfl rfl ?_
              refine s_dupR E dX10_advance_230 ?_
              refine s_gI E fg_X10_96 rfl rfl (jv_lt hj_49 (by decide)) dX10_advance_231 ?_
              refine z_nm (P := fun z => z.toInt = (v_48.2.2.1 95 8).toInt ∧ 0 ≤ z.toInt ∧ z.toInt ≤ 1000) ⟨rfl, (rg_95_8 hj_49)⟩ (fun z_51 hz_51 => ?_)
              refine s_iconst (v := 1) E dX10_advance_234 (by decide) ?_
              refine z_iadd (u := z_51.toInt) (v := 1) E dX10_advance_235 rfl (by decide) (by omega) (by omega) (fun z_52 hz_52 => ?_)
              have hhz_52 : 0 ≤ z_52.toInt ∧ z_52.toInt ≤ 1000 := by omega
              refine s_pI E fp_X10_96 (Or.inl rfl) rfl (jv_lt hj_49 (by decide)) dX10_advance_236 ?_
              refine s_gen (P := fun v => Jv w v ∧ (v.2.2.1 95 7).toInt = (v_48.2.2.1 95 7).toInt ∧ (v.2.2.1 95 8).toInt = z_52.toInt ∧ (v.2.2.1 95 9).toInt = (v_48.2.2.1 95 9).toInt ∧ (v.2.2.1 95 10).toInt = (v_48.2.2.1 95 10).toInt ∧ (v.2.2.1 95 12).toInt = (v_48.2.2.1 95 12).toInt ∧ (v.2.2.1 99) = (v_48.2.2.1 99) ∧ (v.2.2.1 101) = (v_48.2.2.1 101)) ⟨(jv_f_95_8 hj_49 (by have hb_ := z32 z_52; omega) (by have hb_ := z32 z_52; omega)), rfl, rfl, rfl, rfl, rfl, (by first | rfl | exact upI_ne (by decide)), (by first | rfl | exact upI_ne (by decide))⟩ (fun v_53 hj_54 => ?_)
              obtain ⟨hj_54, hk_55k0, hk_55k1, hk_55k2, hk_55k3, hk_55k4, hk_55c99, hk_55c101⟩ := hj_54
              exact r_void E dX10_advance_239 ⟨(by omega), (hk_55c99.trans (hk_50c99.trans (hk_22c99.trans hf0_99))), (hk_55c101.trans (hk_50c101.trans (hk_22c101.trans hf0_101))), hj_54⟩
          ·
            refine s_aload_n E dX10_advance_139 rfl rfl ?_
            refine s_iconst (v := 0) E dX10_advance_140 (by decide) ?_
            refine s_pI E fp_X10_117 (Or.inl rfl) rfl (jv_lt hj_21 (by decide)) dX10_advance_141 ?_
            refine s_gen (P := fun v => Jv w v ∧ (v.2.2.1 95 7).toInt = (v_20.2.2.1 95 7).toInt ∧ (v.2.2.1 95 8).toInt = (v_20.2.2.1 95 8).toInt ∧ (v.2.2.1 95 9).toInt = (v_20.2.2.1 95 9).toInt ∧ (v.2.2.1 95 10).toInt = (v_20.2.2.1 95 10).toInt ∧ (v.2.2.1 95 12).toInt = (v_20.2.2.1 95 12).toInt ∧ (v.2.2.1 99) = (v_20.2.2.1 99) ∧ (v.2.2.1 101) = (v_20.2.2.1 101)) ⟨(jv_f_95_11 hj_21 (by decide) (by decide)), rfl, rfl, rfl, rfl, rfl, (by first | rfl | exact upI_ne (by decide)), (by first | rfl | exact upI_ne (by decide))⟩ (fun v_56 hj_57 => ?_)
            obtain ⟨hj_57, hk_58k0, hk_58k1, hk_58k2, hk_58k3, hk_58k4, hk_58c99, hk_58c101⟩ := hj_57
            refine z_loop (St := Unit) (Pi := fun () v144 => ((v144.2.2.1 95 7).toInt = (w.2.2.1 95 7).toInt ∧ (v144.2.2.1 95 12).toInt = (w.2.2.1 95 12).toInt ∧ (w.2.2.1 95 8).toInt ≤ (v144.2.2.1 95 9).toInt ∧ (v144.2.2.1 95 9).toInt ≤ (v144.2.2.1 95 8).toInt ∧ ((v144.2.2.1 95 9).toInt < (v144.2.2.1 95 8).toInt ∨ (48 ≤ seeV (v144.2.2.1 99) (v144.2.2.1 95 7).toInt (v144.2.2.1 95 8).toInt ∧ seeV (v144.2.2.1 99) (v144.2.2.1 95 7).toInt (v144.2.2.1 95 8).toInt ≤ 57))) ∧ ((v144.2.2.1 99) = (w.2.2.1 99)) ∧ ((v144.2.2.1 101) = (w.2.2.1 101)) ∧ Jv w v144) (Lf := fun () => [some (AR 95), some (AI z_26)]) (fun () v144 => (1000 - (v144.2.2.1 95 8).toInt).toNat) () ⟨(by omega), (hk_58c99.trans (hk_22c99.trans hf0_99)), (hk_58c101.trans (hk_22c101.trans hf0_101)), hj_57⟩ ?_
            rintro () v144 ⟨hl144, hf144_99, hf144_101, hj_59⟩ ih144
            refine s_loc (L2 := [some (AR 95), some (AI z_26)]) rfl ?_
            refine s_aload_n E dX10_advance_144 rfl rfl ?_
            refine s_aload_n E dX10_advance_145 rfl rfl ?_
            refine s_gI E fg_X10_96 rfl rfl (jv_lt hj_59 (by decide)) dX10_advance_146 ?_
            refine z_nm (P := fun z => z.toInt = (v144.2.2.1 95 8).toInt ∧ 0 ≤ z.toInt ∧ z.toInt ≤ 1000) ⟨rfl, (rg_95_8 hj_59)⟩ (fun z_60 hz_60 => ?_)
            refine s_vI (As := [AI z_60]) (S := []) E (Z_X10_see_95 l D aC b v144 z_60 hj_59.1 ⟨by have hb_ := z32 z_60; omega, by have hb_ := z32 z_60; omega⟩) cv_X10_99 rfl rfl rfl (jv_lt hj_59 (by decide)) (Nat.le_of_ble_eq_true rfl) (Nat.le_of_ble_eq_true rfl) ⟨(Nat.le_of_ble_eq_true rfl), (Nat.le_of_ble_eq_true rfl)⟩ (Nat.le_of_ble_eq_true rfl) dX10_advance_149 (fun z_63 u_61 hp_62 => ?_)
            obtain ⟨hz_63, hxz_63, hp_62⟩ := hp_62
            subst hp_62
            rw [show z_60.toInt = (v144.2.2.1 95 8).toInt from by omega] at hxz_63
            have hs_ := rg_95_7 hj_59
            refine z_i2l (u := z_63.toInt) E dX10_advance_152 rfl (fun z_65 hz_65 => ?_)
            refine s_ldc2 E k_1399 rfl dX10_advance_153 ?_
            refine s_ldc2 E k_1400 rfl dX10_advance_156 ?_
            refine s_sI (As := [AL z_65, AL 48, AL 57]) (S := []) E (Z_X10_in l D aC b v144 z_65 48 57) cs_X10_82 rfl rfl (Nat.le_of_ble_eq_true rfl) (Nat.le_of_ble_eq_true rfl) ⟨(Nat.le_of_ble_eq_true rfl), (Nat.le_of_ble_eq_true rfl)⟩ (Nat.le_of_ble_eq_true rfl) dX10_advance_159 (fun z_66 u_67 hp_68 => ?_)
            obtain ⟨hz_66, hp_68⟩ := hp_68
            subst hp_68
            refine z_if_eq (tgt := 206) (u := z_66.toInt) E dX10_advance_162 (by decide) rfl (fun h_69 => ?_) (fun h_69 => ?_)
            ·
              refine s_aload_n E dX10_advance_206 rfl rfl ?_
              refine s_iconst (v := 2) E dX10_advance_207 (by decide) ?_
              refine s_pI E fp_X10_106 (Or.inl rfl) rfl (jv_lt hj_59 (by decide)) dX10_advance_208 ?_
              refine s_gen (P := fun v => Jv w v ∧ (v.2.2.1 95 7).toInt = (v144.2.2.1 95 7).toInt ∧ (v.2.2.1 95 8).toInt = (v144.2.2.1 95 8).toInt ∧ (v.2.2.1 95 9).toInt = (v144.2.2.1 95 9).toInt ∧ (v.2.2.1 95 10).toInt = 2 ∧ (v.2.2.1 95 12).toInt = (v144.2.2.1 95 12).toInt ∧ (v.2.2.1 99) = (v144.2.2.1 99) ∧ (v.2.2.1 101) = (v144.2.2.1 101)) ⟨(jv_f_95_10 hj_59 (by decide) (by decide)), rfl, rfl, rfl, rfl, rfl, (by first | rfl | exact upI_ne (by decide)), (by first | rfl | exact upI_ne (by decide))⟩ (fun v_70 hj_71 => ?_)
              obtain ⟨hj_71, hk_72k0, hk_72k1, hk_72k2, hk_72k3, hk_72k4, hk_72c99, hk_72c101⟩ := hj_71
              refine s_goto (tgt := 239) E dX10_advance_211 (by decide) ?_
              exact r_void E dX10_advance_239 ⟨(by omega), (hk_72c99.trans hf144_99), (hk_72c101.trans hf144_101), hj_71⟩
            ·
              refine s_aload_n E dX10_advance_165 rfl rfl ?_
              refine s_ldc E k_1401 rfl dX10_advance_166 ?_
              refine s_bipush (v := 10) E dX10_advance_168 (by decide) ?_
              refine s_aload_n E dX10_advance_170 rfl rfl ?_
              refine s_gI E fg_X10_117 rfl rfl (jv_lt hj_59 (by decide)) dX10_advance_171 ?_
              refine z_nm (P := fun z => z.toInt = (v144.2.2.1 95 11).toInt ∧ 0 ≤ z.toInt ∧ z.toInt ≤ 99999) ⟨rfl, (rg_95_11 hj_59)⟩ (fun z_73 hz_73 => ?_)
              refine z_imul (u := 10) (v := z_73.toInt) E dX10_advance_174 (by decide) rfl (by omega) (by omega) (fun z_74 hz_74 => ?_)
              refine s_aload_n E dX10_advance_175 rfl rfl ?_
              refine s_aload_n E dX10_advance_176 rfl rfl ?_
              refine s_gI E fg_X10_96 rfl rfl (jv_lt hj_59 (by decide)) dX10_advance_177 ?_
              refine z_nm (P := fun z => z.toInt = (v144.2.2.1 95 8).toInt ∧ 0 ≤ z.toInt ∧ z.toInt ≤ 1000) ⟨rfl, (rg_95_8 hj_59)⟩ (fun z_75 hz_75 => ?_)
              refine s_vI (As := [AI z_75]) (S := [AI z_74, AI 99999, AR 95]) E (Z_X10_see_95 l D aC b v144 z_75 hj_59.1 ⟨by have hb_ := z32 z_75; omega, by have hb_ := z32 z_75; omega⟩) cv_X10_99 rfl rfl rfl (jv_lt hj_59 (by decide)) (Nat.le_of_ble_eq_true rfl) (Nat.le_of_ble_eq_true rfl) ⟨(Nat.le_of_ble_eq_true rfl), (Nat.le_of_ble_eq_true rfl)⟩ (Nat.le_of_ble_eq_true rfl) dX10_advance_180 (fun z_78 u_76 hp_77 => ?_)
              obtain ⟨hz_78, hxz_78, hp_77⟩ := hp_77
              subst hp_77
              rw [show z_75.toInt = (v144.2.2.1 95 8).toInt from by omega] at hxz_78
              have hs_ := rg_95_7 hj_59
              refine z_iadd (u := z_74.toInt) (v := z_78.toInt) E dX10_advance_183 rfl rfl (by omega) (by omega) (fun z_80 hz_80 => ?_)
              refine s_bipush (v := 48) E dX10_advance_184 (by decide) ?_
              refine z_isub (u := z_80.toInt) (v := 48) E dX10_advance_186 rfl (by decide) (by omega) (by omega) (fun z_81 hz_81 => ?_)
              have hhz_81 : 0 ≤ z_81.toInt ∧ z_81.toInt ≤ 1000000 := by omega
              refine z_min (u := 99999) (v := z_81.toInt) E ⟨k_1402, k_369, k_4, k_370⟩ (Nat.le_of_ble_eq_true rfl) (Nat.le_of_ble_eq_true rfl) (Nat.le_of_ble_eq_true rfl) (Nat.le_of_ble_eq_true rfl) dX10_advance_187 (by decide) rfl (fun z_82 hz_82 => ?_)
              refine s_pI E fp_X10_117 (Or.inl rfl) rfl (jv_lt hj_59 (by decide)) dX10_advance_190 ?_
              refine s_gen (P := fun v => Jv w v ∧ (v.2.2.1 95 7).toInt = (v144.2.2.1 95 7).toInt ∧ (v.2.2.1 95 8).toInt = (v144.2.2.1 95 8).toInt ∧ (v.2.2.1 95 9).toInt = (v144.2.2.1 95 9).toInt ∧ (v.2.2.1 95 10).toInt = (v144.2.2.1 95 10).toInt ∧ (v.2.2.1 95 12).toInt = (v144.2.2.1 95 12).toInt ∧ (v.2.2.1 99) = (v144.2.2.1 99) ∧ (v.2.2.1 101) = (v144.2.2.1 101)) ⟨(jv_f_95_11 hj_59 (by have hb_ := z32 z_82; omega) (by have hb_ := z32 z_82; omega)), rfl, rfl, rfl, rfl, rfl, (by first | rfl | exact upI_ne (by decide)), (by first | rfl | exact upI_ne (by decide))⟩ (fun v_83 hj_84 => ?_)
              obtain ⟨hj_84, hk_85k0, hk_85k1, hk_85k2, hk_85k3, hk_85k4, hk_85c99, hk_85c101⟩ := hj_84
              refine s_aload_n E dX10_advance_193 rfl rfl ?_
              refine s_dupR E dX10_advance_194 ?_
              refine s_gI E fg_X10_96 rfl rfl (jv_lt hj_84 (by decide)) dX10_advance_195 ?_
              refine z_nm (P := fun z => z.toInt = (v_83.2.2.1 95 8).toInt ∧ 0 ≤ z.toInt ∧ z.toInt ≤ 1000) ⟨rfl, (rg_95_8 hj_84)⟩ (fun z_86 hz_86 => ?_)
              refine s_iconst (v := 1) E dX10_advance_198 (by decide) ?_
              refine z_iadd (u := z_86.toInt) (v := 1) E dX10_advance_199 rfl (by decide) (by omega) (by omega) (fun z_87 hz_87 => ?_)
              have hhz_87 : 0 ≤ z_87.toInt ∧ z_87.toInt ≤ 1000 := by omega
              refine s_pI E fp_X10_96 (Or.inl rfl) rfl (jv_lt hj_84 (by decide)) dX10_advance_200 ?_
              refine s_gen (P := fun v => Jv w v ∧ (v.2.2.1 95 7).toInt = (v_83.2.2.1 95 7).toInt ∧ (v.2.2.1 95 8).toInt = z_87.toInt ∧ (v.2.2.1 95 9).toInt = (v_83.2.2.1 95 9).toInt ∧ (v.2.2.1 95 10).toInt = (v_83.2.2.1 95 10).toInt ∧ (v.2.2.1 95 12).toInt = (v_83.2.2.1 95 12).toInt ∧ (v.2.2.1 99) = (v_83.2.2.1 99) ∧ (v.2.2.1 101) = (v_83.2.2.1 101)) ⟨(jv_f_95_8 hj_84 (by have hb_ := z32 z_87; omega) (by have hb_ := z32 z_87; omega)), rfl, rfl, rfl, rfl, rfl, (by first | rfl | exact upI_ne (by decide)), (by first | rfl | exact upI_ne (by decide))⟩ (fun v_88 hj_89 => ?_)
              obtain ⟨hj_89, hk_90k0, hk_90k1, hk_90k2, hk_90k3, hk_90k4, hk_90c99, hk_90c101⟩ := hj_89
              refine s_goto (tgt := 144) E dX10_advance_203 (by decide) ?_
              exact ih144 () v_88 ⟨(by omega), (hk_90c99.trans (hk_85c99.trans hf144_99)), (hk_90c101.trans (hk_85c101.trans hf144_101)), hj_89⟩ (by first | omega | decide | (dsimp only; omega) | (dsimp only; decide))
        ·
          refine z_loop (St := Unit) (Pi := fun () v83 => ((v83.2.2.1 95 7).toInt = (w.2.2.1 95 7).toInt ∧ (v83.2.2.1 95 12).toInt = (w.2.2.1 95 12).toInt ∧ (w.2.2.1 95 8).toInt ≤ (v83.2.2.1 95 9).toInt ∧ (v83.2.2.1 95 9).toInt ≤ (v83.2.2.1 95 8).toInt ∧ ((v83.2.2.1 95 9).toInt < (v83.2.2.1 95 8).toInt ∨ (97 ≤ seeV (v83.2.2.1 99) (v83.2.2.1 95 7).toInt (v83.2.2.1 95 8).toInt ∧ seeV (v83.2.2.1 99) (v83.2.2.1 95 7).toInt (v83.2.2.1 95 8).toInt ≤ 122))) ∧ ((v83.2.2.1 99) = (w.2.2.1 99)) ∧ ((v83.2.2.1 101) = (w.2.2.1 101)) ∧ Jv w v83) (Lf := fun () => [some (AR 95), some (AI z_26)]) (fun () v83 => (1000 - (v83.2.2.1 95 8).toInt).toNat) () ⟨(by omega), (hk_22c99.trans hf0_99), (hk_22c101.trans hf0_101), hj_21⟩ ?_
          rintro () v83 ⟨hl83, hf83_99, hf83_101, hj_91⟩ ih83
          refine s_loc (L2 := [some (AR 95), some (AI z_26)]) rfl ?_
          refine s_aload_n E dX10_advance_83 rfl rfl ?_
          refine s_aload_n E dX10_advance_84 rfl rfl ?_
          refine s_gI E fg_X10_96 rfl rfl (jv_lt hj_91 (by decide)) dX10_advance_85 ?_
          refine z_nm (P := fun z => z.toInt = (v83.2.2.1 95 8).toInt ∧ 0 ≤ z.toInt ∧ z.toInt ≤ 1000) ⟨rfl, (rg_95_8 hj_91)⟩ (fun z_92 hz_92 => ?_)
          refine s_vI (As := [AI z_92]) (S := []) E (Z_X10_see_95 l D aC b v83 z_92 hj_91.1 ⟨by have hb_ := z32 z_92; omega, by have hb_ := z32 z_92; omega⟩) cv_X10_99 rfl rfl rfl (jv_lt hj_91 (by decide)) (Nat.le_of_ble_eq_true rfl) (Nat.le_of_ble_eq_true rfl) ⟨(Nat.le_of_ble_eq_true rfl), (Nat.le_of_ble_eq_true rfl)⟩ (Nat.le_of_ble_eq_true rfl) dX10_advance_88 (fun z_95 u_93 hp_94 => ?_)
          obtain ⟨hz_95, hxz_95, hp_94⟩ := hp_94
          subst hp_94
          rw [show z_92.toInt = (v83.2.2.1 95 8).toInt from by omega] at hxz_95
          have hs_ := rg_95_7 hj_91
          refine z_i2l (u := z_95.toInt) E dX10_advance_91 rfl (fun z_97 hz_97 => ?_)
          refine s_ldc2 E k_1397 rfl dX10_advance_92 ?_
          refine s_ldc2 E k_1398 rfl dX10_advance_95 ?_
          refine s_sI (As := [AL z_97, AL 97, AL 122]) (S := []) E (Z_X10_in l D aC b v83 z_97 97 122) cs_X10_82 rfl rfl (Nat.le_of_ble_eq_true rfl) (Nat.le_of_ble_eq_true rfl) ⟨(Nat.le_of_ble_eq_true rfl), (Nat.le_of_ble_eq_true rfl)⟩ (Nat.le_of_ble_eq_true rfl) dX10_advance_98 (fun z_98 u_99 hp_100 => ?_)
          obtain ⟨hz_98, hp_100⟩ := hp_100
          subst hp_100
          refine z_if_eq (tgt := 117) (u := z_98.toInt) E dX10_advance_101 (by decide) rfl (fun h_101 => ?_) (fun h_101 => ?_)
          ·
            refine s_aload_n E dX10_advance_117 rfl rfl ?_
            refine s_iconst (v := 1) E dX10_advance_118 (by decide) ?_
            refine s_pI E fp_X10_106 (Or.inl rfl) rfl (jv_lt hj_91 (by decide)) dX10_advance_119 ?_
            refine s_gen (P := fun v => Jv w v ∧ (v.2.2.1 95 7).toInt = (v83.2.2.1 95 7).toInt ∧ (v.2.2.1 95 8).toInt = (v83.2.2.1 95 8).toInt ∧ (v.2.2.1 95 9).toInt = (v83.2.2.1 95 9).toInt ∧ (v.2.2.1 95 10).toInt = 1 ∧ (v.2.2.1 95 12).toInt = (v83.2.2.1 95 12).toInt ∧ (v.2.2.1 99) = (v83.2.2.1 99) ∧ (v.2.2.1 101) = (v83.2.2.1 101)) ⟨(jv_f_95_10 hj_91 (by decide) (by decide)), rfl, rfl, rfl, rfl, rfl, (by first | rfl | exact upI_ne (by decide)), (by first | rfl | exact upI_ne (by decide))⟩ (fun v_102 hj_103 => ?_)
            obtain ⟨hj_103, hk_104k0, hk_104k1, hk_104k2, hk_104k3, hk_104k4, hk_104c99, hk_104c101⟩ := hj_103
            refine s_goto (tgt := 239) E dX10_advance_122 (by decide) ?_
            exact r_void E dX10_advance_239 ⟨(by omega), (hk_104c99.trans hf83_99), (hk_104c101.trans hf83_101), hj_103⟩
          ·
            refine s_aload_n E dX10_advance_104 rfl rfl ?_
            refine s_dupR E dX10_advance_105 ?_
            refine s_gI E fg_X10_96 rfl rfl (jv_lt hj_91 (by decide)) dX10_advance_106 ?_
            refine z_nm (P := fun z => z.toInt = (v83.2.2.1 95 8).toInt ∧ 0 ≤ z.toInt ∧ z.toInt ≤ 1000) ⟨rfl, (rg_95_8 hj_91)⟩ (fun z_105 hz_105 => ?_)
            refine s_iconst (v := 1) E dX10_advance_109 (by decide) ?_
            refine z_iadd (u := z_105.toInt) (v := 1) E dX10_advance_110 rfl (by decide) (by omega) (by omega) (fun z_106 hz_106 => ?_)
            have hhz_106 : 0 ≤ z_106.toInt ∧ z_106.toInt ≤ 1000 := by omega
            refine s_pI E fp_X10_96 (Or.inl rfl) rfl (jv_lt hj_91 (by decide)) dX10_advance_111 ?_
            refine s_gen (P := fun v => Jv w v ∧ (v.2.2.1 95 7).toInt = (v83.2.2.1 95 7).toInt ∧ (v.2.2.1 95 8).toInt = z_106.toInt ∧ (v.2.2.1 95 9).toInt = (v83.2.2.1 95 9).toInt ∧ (v.2.2.1 95 10).toInt = (v83.2.2.1 95 10).toInt ∧ (v.2.2.1 95 12).toInt = (v83.2.2.1 95 12).toInt ∧ (v.2.2.1 99) = (v83.2.2.1 99) ∧ (v.2.2.1 101) = (v83.2.2.1 101)) ⟨(jv_f_95_8 hj_91 (by have hb_ := z32 z_106; omega) (by have hb_ := z32 z_106; omega)), rfl, rfl, rfl, rfl, rfl, (by first | rfl | exact upI_ne (by decide)), (by first | rfl | exact upI_ne (by decide))⟩ (fun v_107 hj_108 => ?_)
            obtain ⟨hj_108, hk_109k0, hk_109k1, hk_109k2, hk_109k3, hk_109k4, hk_109c99, hk_109c101⟩ := hj_108
            refine s_goto (tgt := 83) E dX10_advance_114 (by decide) ?_
            exact ih83 () v_107 ⟨(by omega), (hk_109c99.trans hf83_99), (hk_109c101.trans hf83_101), hj_108⟩ (by first | omega | decide | (dsimp only; omega) | (dsimp only; decide))
      ·
        refine s_aload_n E dX10_advance_61 rfl rfl ?_
        refine s_iconst (v := 0) E dX10_advance_62 (by decide) ?_
        refine s_pI E fp_X10_106 (Or.inl rfl) rfl (jv_lt hj_21 (by decide)) dX10_advance_63 ?_
        refine s_gen (P := fun v => Jv w v ∧ (v.2.2.1 95 7).toInt = (v_20.2.2.1 95 7).toInt ∧ (v.2.2.1 95 8).toInt = (v_20.2.2.1 95 8).toInt ∧ (v.2.2.1 95 9).toInt = (v_20.2.2.1 95 9).toInt ∧ (v.2.2.1 95 10).toInt = 0 ∧ (v.2.2.1 95 12).toInt = (v_20.2.2.1 95 12).toInt ∧ (v.2.2.1 99) = (v_20.2.2.1 99) ∧ (v.2.2.1 101) = (v_20.2.2.1 101)) ⟨(jv_f_95_10 hj_21 (by decide) (by decide)), rfl, rfl, rfl, rfl, rfl, (by first | rfl | exact upI_ne (by decide)), (by first | rfl | exact upI_ne (by decide))⟩ (fun v_110 hj_111 => ?_)
        obtain ⟨hj_111, hk_112k0, hk_112k1, hk_112k2, hk_112k3, hk_112k4, hk_112c99, hk_112c101⟩ := hj_111
        refine s_goto (tgt := 239) E dX10_advance_66 (by decide) ?_
        exact r_void E dX10_advance_239 ⟨(by omega), (hk_112c99.trans (hk_22c99.trans hf0_99)), (hk_112c101.trans (hk_22c101.trans hf0_101)), hj_111⟩
    ·
      refine s_aload_n E dX10_advance_26 rfl rfl ?_
      refine s_dupR E dX10_advance_27 ?_
      refine s_gI E fg_X10_96 rfl rfl (jv_lt hj_1 (by decide)) dX10_advance_28 ?_
      refine z_nm (P := fun z => z.toInt = (v0.2.2.1 95 8).toInt ∧ 0 ≤ z.toInt ∧ z.toInt ≤ 1000) ⟨rfl, (rg_95_8 hj_1)⟩ (fun z_113 hz_113 => ?_)
      refine s_iconst (v := 1) E dX10_advance_31 (by decide) ?_
      refine z_iadd (u := z_113.toInt) (v := 1) E dX10_advance_32 rfl (by decide) (by omega) (by omega) (fun z_114 hz_114 => ?_)
      have hhz_114 : 0 ≤ z_114.toInt ∧ z_114.toInt ≤ 1000 := by omega
      refine s_pI E fp_X10_96 (Or.inl rfl) rfl (jv_lt hj_1 (by decide)) dX10_advance_33 ?_
      refine s_gen (P := fun v => Jv w v ∧ (v.2.2.1 95 7).toInt = (v0.2.2.1 95 7).toInt ∧ (v.2.2.1 95 8).toInt = z_114.toInt ∧ (v.2.2.1 95 9).toInt = (v0.2.2.1 95 9).toInt ∧ (v.2.2.1 95 10).toInt = (v0.2.2.1 95 10).toInt ∧ (v.2.2.1 95 12).toInt = (v0.2.2.1 95 12).toInt ∧ (v.2.2.1 99) = (v0.2.2.1 99) ∧ (v.2.2.1 101) = (v0.2.2.1 101)) ⟨(jv_f_95_8 hj_1 (by have hb_ := z32 z_114; omega) (by have hb_ := z32 z_114; omega)), rfl, rfl, rfl, rfl, rfl, (by first | rfl | exact upI_ne (by decide)), (by first | rfl | exact upI_ne (by decide))⟩ (fun v_115 hj_116 => ?_)
      obtain ⟨hj_116, hk_117k0, hk_117k1, hk_117k2, hk_117k3, hk_117k4, hk_117c99, hk_117c101⟩ := hj_116
      refine s_goto (tgt := 0) E dX10_advance_36 (by decide) ?_
      exact ih0 () v_115 ⟨(by omega), (hk_117c99.trans hf0_99), (hk_117c101.trans hf0_101), hj_116⟩ (by first | omega | decide | (dsimp only; omega) | (dsimp only; decide))
set_option maxRecDepth 20000 in
set_option maxHeartbeats 2000000 in
theorem Z_X10_good_95 (l : Launch) (D : va_G) (aC : Nat → ClassId) (b : Nat) (w : XW)  (hI : Iv w)  : CnI l D aC b M_X10_good 0 0 0 0 [AR 95] w (fun r u => (0 ≤ r.toInt ∧ r.toInt ≤ 1 ∧ (¬ r.toInt = 0 ∨ (1 ≤ (w.2.2.1 95 12).toInt ∧ (w.2.2.1 95 12).toInt ≤ 3)) ∧ (r.toInt = 0 ∨ (0 ≤ (w.2.2.1 95 12).toInt ∧ (w.2.2.1 95 12).toInt ≤ 0))) ∧ ((r.toInt = 1 ↔ (w.2.2.1 95 12).toInt = 0)) ∧ w = u) := by
  refine cn_I (own := RX10) (nm := "good") (L0 := [some (AR 95)]) (by decide +kernel) rfl rfl (Nat.le_of_ble_eq_true rfl) rfl ?_
  intro p e s m args below meth c E hin
  have hJ : Jv w w := jv_rfl hI
  refine s_aload_n E dX10_good_0 rfl rfl ?_
  refine s_gI E fg_X10_127 rfl rfl (jv_lt hJ (by decide)) dX10_good_1 ?_
  refine z_nm (P := fun z => z.toInt = (w.2.2.1 95 12).toInt ∧ 0 ≤ z.toInt ∧ z.toInt ≤ 3) ⟨rfl, (rg_95_12 hJ)⟩ (fun z_1 hz_1 => ?_)
  refine z_if_ne (tgt := 11) (u := z_1.toInt) E dX10_good_4 (by decide) rfl (fun h_2 => ?_) (fun h_2 => ?_)
  ·
    refine s_iconst (v := 0) E dX10_good_11 (by decide) ?_
    exact r_bool E dX10_good_12 (Or.inl rfl) ⟨⟨by decide, by decide, by first | (left; decide) | (right; decide) | (right; have hb_ := z32 (w.2.2.1 95 12); omega), by first | (left; decide) | (right; decide) | (right; have hb_ := z32 (w.2.2.1 95 12); omega)⟩, (by omega), rfl⟩
  ·
    refine s_iconst (v := 1) E dX10_good_7 (by decide) ?_
    refine s_goto (tgt := 12) E dX10_good_8 (by decide) ?_
    exact r_bool E dX10_good_12 (Or.inr rfl) ⟨⟨by decide, by decide, by first | (left; decide) | (right; decide) | (right; have hb_ := z32 (w.2.2.1 95 12); omega), by first | (left; decide) | (right; decide) | (right; have hb_ := z32 (w.2.2.1 95 12); omega)⟩, (by omega), rfl⟩
set_option maxRecDepth 20000 in
set_option maxHeartbeats 2000000 in
theorem Z_X10_is_95 (l : Launch) (D : va_G) (aC : Nat → ClassId) (b : Nat) (w : XW)  (hI : Iv w) (si : Nat) (hsi : si < 30) : CnI l D aC b M_X10_is 4 200 0 0 [AR 95, AX (sA aC si)] w (fun r u => (0 ≤ r.toInt ∧ r.toInt ≤ 1 ∧ (r.toInt = 0 ∨ (0 ≤ (w.2.2.1 95 12).toInt ∧ (w.2.2.1 95 12).toInt ≤ 0)) ∧ (r.toInt = 0 ∨ (1 ≤ (w.2.2.1 95 10).toInt ∧ (w.2.2.1 95 10).toInt ≤ 1))) ∧ (r.toInt = 1 ↔ isP w si) ∧ w = u) := by
  refine cn_I (own := RX10) (nm := "is") (L0 := [some (AR 95), some (AX (sA aC si)), none, none]) (by decide +kernel) rfl rfl (Nat.le_of_ble_eq_true rfl) rfl ?_
  intro p e s m args below meth c E hin
  have hJ : Jv w w := jv_rfl hI
  refine s_aload_n E dX10_is_0 rfl rfl ?_
  refine s_vI (As := []) (S := []) E (Z_X10_good_95 l D aC b w  hJ.1 ) cv_X10_130 rfl rfl rfl (jv_lt hJ (by decide)) (Nat.le_of_ble_eq_true rfl) (Nat.le_of_ble_eq_true rfl) ⟨(Nat.le_of_ble_eq_true rfl), (Nat.le_of_ble_eq_true rfl)⟩ (Nat.le_of_ble_eq_true rfl) dX10_is_1 (fun z_3 u_1 hp_2 => ?_)
  obtain ⟨hz_3, hxz_3, hp_2⟩ := hp_2
  subst hp_2
  refine z_if_eq (tgt := 35) (u := z_3.toInt) E dX10_is_4 (by decide) rfl (fun h_5 => ?_) (fun h_5 => ?_)
  ·
    refine s_iconst (v := 0) E dX10_is_35 (by decide) ?_
    refine s_istore_n (L2 := [some (AR 95), some (AX (sA aC si)), some (AI 0), none]) E dX10_is_36 rfl (by decide) rfl ?_
    refine s_iconst (v := 0) E dX10_is_37 (by decide) ?_
    refine s_istore_n (L2 := [some (AR 95), some (AX (sA aC si)), some (AI 0), some (AI 0)]) E dX10_is_38 rfl (by decide) rfl ?_
    refine z_loop (St := Int32 × Int32) (Pi := fun ⟨q39_2_5, q39_3_5⟩ v39 => (0 ≤ q39_2_5.toInt ∧ q39_2_5.toInt ≤ 0) ∧ (0 ≤ q39_3_5.toInt ∧ q39_3_5.toInt ≤ 0) ∧ (isL w si q39_2_5 q39_3_5) ∧ w = v39) (Lf := fun ⟨q39_2_5, q39_3_5⟩ => [some (AR 95), some (AX (sA aC si)), some (AI q39_2_5), some (AI q39_3_5)]) (fun ⟨q39_2_5, q39_3_5⟩ _ => 0) ⟨0, 0⟩ ⟨⟨by decide, by decide⟩, ⟨by decide, by decide⟩, (by first | exact isL_1 (by omega) (by omega) (by omega) | exact isL_0 (by omega)), rfl⟩ ?_
    rintro ⟨q39_2_5, q39_3_5⟩ v39 ⟨hq39_2, hq39_3, hl39, hv_⟩ ih39
    subst hv_
    refine s_loc (L2 := [some (AR 95), some (AX (sA aC si)), some (AI q39_2_5), some (AI q39_3_5)]) rfl ?_
    refine s_iload_n E dX10_is_39 rfl rfl ?_
    refine s_xload_n E dX10_is_40 rfl rfl ?_
    refine s_xI (As := []) (S := [AI q39_3_5]) E hsi rfl (Z_lengthN l D aC b w si hsi) cx_X10_133 rfl rfl (Nat.le_of_ble_eq_true rfl) (Nat.le_of_ble_eq_true rfl) ⟨(Nat.le_of_ble_eq_true rfl), (Nat.le_of_ble_eq_true rfl)⟩ (Nat.le_of_ble_eq_true rfl) dX10_is_41 (fun z_9 u_7 hp_8 => ?_)
    obtain ⟨hz_9, hp_8⟩ := hp_8
    subst hp_8
    refine z_icmp_ge (tgt := 82) (u := q39_3_5.toInt) (v := z_9.toInt) E dX10_is_44 (by decide) rfl rfl (fun h_10 => ?_) (fun h_10 => ?_)
    ·
      refine s_iload_n E dX10_is_82 rfl rfl ?_
      exact r_bool E dX10_is_83 (z_bool (by omega) (by omega)) ⟨⟨by have hb_ := z32 q39_2_5; omega, by have hb_ := z32 q39_2_5; omega, by first | (right; decide) | (have hb_ := z32 q39_2_5; omega) | (have hb_ := z32 q39_2_5; have hc_ := z32 (w.2.2.1 95 12); omega), by first | (right; decide) | (have hb_ := z32 q39_2_5; omega) | (have hb_ := z32 q39_2_5; have hc_ := z32 (w.2.2.1 95 10); omega)⟩, (isL_end hl39 (by omega)), rfl⟩
    ·
      refine s_iload_n E dX10_is_47 rfl rfl ?_
      refine z_if_eq (tgt := 82) (u := q39_2_5.toInt) E dX10_is_48 (by decide) rfl (fun h_11 => ?_) (fun h_11 => absurd h_11 (by omega))
      refine s_iload_n E dX10_is_82 rfl rfl ?_
      exact r_bool E dX10_is_83 (z_bool (by omega) (by omega)) ⟨⟨by have hb_ := z32 q39_2_5; omega, by have hb_ := z32 q39_2_5; omega, by first | (right; decide) | (have hb_ := z32 q39_2_5; omega) | (have hb_ := z32 q39_2_5; have hc_ := z32 (w.2.2.1 95 12); omega), by first | (right; decide) | (have hb_ := z32 q39_2_5; omega) | (have hb_ := z32 q39_2_5; have hc_ := z32 (w.2.2.1 95 10); omega)⟩, (isL_end hl39 (by omega)), rfl⟩
  ·
    refine s_aload_n E dX10_is_7 rfl rfl ?_
    refine s_gI E fg_X10_106 rfl rfl (jv_lt hJ (by decide)) dX10_is_8 ?_
    refine z_nm (P := fun z => z.toInt = (w.2.2.1 95 10).toInt ∧ 0 ≤ z.toInt ∧ z.toInt ≤ 4) ⟨rfl, (rg_95_10 hJ)⟩ (fun z_12 hz_12 => ?_)
    refine s_iconst (v := 1) E dX10_is_11 (by decide) ?_
    refine z_icmp_ne (tgt := 35) (u := z_12.toInt) (v := 1) E dX10_is_12 (by decide) rfl (by decide) (fun h_13 => ?_) (fun h_13 => ?_)
    ·
      refine s_iconst (v := 0) E dX10_is_35 (by decide) ?_
      refine s_istore_n (L2 := [some (AR 95), some (AX (sA aC si)), some (AI 0), none]) E dX10_is_36 rfl (by decide) rfl ?_
      refine s_iconst (v := 0) E dX10_is_37 (by decide) ?_
      refine s_istore_n (L2 := [some (AR 95), some (AX (sA aC si)), some (AI 0), some (AI 0)]) E dX10_is_38 rfl (by decide) rfl ?_
      refine z_loop (St := Int32 × Int32) (Pi := fun ⟨q39_2_13, q39_3_13⟩ v39 => (0 ≤ q39_2_13.toInt ∧ q39_2_13.toInt ≤ 0) ∧ (0 ≤ q39_3_13.toInt ∧ q39_3_13.toInt ≤ 0) ∧ (isL w si q39_2_13 q39_3_13) ∧ w = v39) (Lf := fun ⟨q39_2_13, q39_3_13⟩ => [some (AR 95), some (AX (sA aC si)), some (AI q39_2_13), some (AI q39_3_13)]) (fun ⟨q39_2_13, q39_3_13⟩ _ => 0) ⟨0, 0⟩ ⟨⟨by decide, by decide⟩, ⟨by decide, by decide⟩, (by first | exact isL_1 (by omega) (by omega) (by omega) | exact isL_0 (by omega)), rfl⟩ ?_
      rintro ⟨q39_2_13, q39_3_13⟩ v39 ⟨hq39_2, hq39_3, hl39, hv_⟩ ih39
      subst hv_
      refine s_loc (L2 := [some (AR 95), some (AX (sA aC si)), some (AI q39_2_13), some (AI q39_3_13)]) rfl ?_
      refine s_iload_n E dX10_is_39 rfl rfl ?_
      refine s_xload_n E dX10_is_40 rfl rfl ?_
      refine s_xI (As := []) (S := [AI q39_3_13]) E hsi rfl (Z_lengthN l D aC b w si hsi) cx_X10_133 rfl rfl (Nat.le_of_ble_eq_true rfl) (Nat.le_of_ble_eq_true rfl) ⟨(Nat.le_of_ble_eq_true rfl), (Nat.le_of_ble_eq_true rfl)⟩ (Nat.le_of_ble_eq_true rfl) dX10_is_41 (fun z_17 u_15 hp_16 => ?_)
      obtain ⟨hz_17, hp_16⟩ := hp_16
      subst hp_16
      refine z_icmp_ge (tgt := 82) (u := q39_3_13.toInt) (v := z_17.toInt) E dX10_is_44 (by decide) rfl rfl (fun h_18 => ?_) (fun h_18 => ?_)
      ·
        refine s_iload_n E dX10_is_82 rfl rfl ?_
        exact r_bool E dX10_is_83 (z_bool (by omega) (by omega)) ⟨⟨by have hb_ := z32 q39_2_13; omega, by have hb_ := z32 q39_2_13; omega, by first | (right; decide) | (have hb_ := z32 q39_2_13; omega) | (have hb_ := z32 q39_2_13; have hc_ := z32 (w.2.2.1 95 12); omega), by first | (right; decide) | (have hb_ := z32 q39_2_13; omega) | (have hb_ := z32 q39_2_13; have hc_ := z32 (w.2.2.1 95 10); omega)⟩, (isL_end hl39 (by omega)), rfl⟩
      ·
        refine s_iload_n E dX10_is_47 rfl rfl ?_
        refine z_if_eq (tgt := 82) (u := q39_2_13.toInt) E dX10_is_48 (by decide) rfl (fun h_19 => ?_) (fun h_19 => absurd h_19 (by omega))
        refine s_iload_n E dX10_is_82 rfl rfl ?_
        exact r_bool E dX10_is_83 (z_bool (by omega) (by omega)) ⟨⟨by have hb_ := z32 q39_2_13; omega, by have hb_ := z32 q39_2_13; omega, by first | (right; decide) | (have hb_ := z32 q39_2_13; omega) | (have hb_ := z32 q39_2_13; have hc_ := z32 (w.2.2.1 95 12); omega), by first | (right; decide) | (have hb_ := z32 q39_2_13; omega) | (have hb_ := z32 q39_2_13; have hc_ := z32 (w.2.2.1 95 10); omega)⟩, (isL_end hl39 (by omega)), rfl⟩
    ·
      refine s_aload_n E dX10_is_15 rfl rfl ?_
      refine s_gI E fg_X10_96 rfl rfl (jv_lt hJ (by decide)) dX10_is_16 ?_
      refine z_nm (P := fun z => z.toInt = (w.2.2.1 95 8).toInt ∧ 0 ≤ z.toInt ∧ z.toInt ≤ 1000) ⟨rfl, (rg_95_8 hJ)⟩ (fun z_20 hz_20 => ?_)
      refine s_aload_n E dX10_is_19 rfl rfl ?_
      refine s_gI E fg_X10_103 rfl rfl (jv_lt hJ (by decide)) dX10_is_20 ?_
      refine z_nm (P := fun z => z.toInt = (w.2.2.1 95 9).toInt ∧ 0 ≤ z.toInt ∧ z.toInt ≤ 1000) ⟨rfl, (rg_95_9 hJ)⟩ (fun z_21 hz_21 => ?_)
      refine z_isub (u := z_20.toInt) (v := z_21.toInt) E dX10_is_23 rfl rfl (by omega) (by omega) (fun z_22 hz_22 => ?_)
      refine s_xload_n E dX10_is_24 rfl rfl ?_
      refine s_xI (As := []) (S := [AI z_22]) E hsi rfl (Z_lengthN l D aC b w si hsi) cx_X10_133 rfl rfl (Nat.le_of_ble_eq_true rfl) (Nat.le_of_ble_eq_true rfl) ⟨(Nat.le_of_ble_eq_true rfl), (Nat.le_of_ble_eq_true rfl)⟩ (Nat.le_of_ble_eq_true rfl) dX10_is_25 (fun z_25 u_23 hp_24 => ?_)
      obtain ⟨hz_25, hp_24⟩ := hp_24
      subst hp_24
      refine z_icmp_ne (tgt := 35) (u := z_22.toInt) (v := z_25.toInt) E dX10_is_28 (by decide) rfl rfl (fun h_26 => ?_) (fun h_26 => ?_)
      ·
        refine s_iconst (v := 0) E dX10_is_35 (by decide) ?_
        refine s_istore_n (L2 := [some (AR 95), some (AX (sA aC si)), some (AI 0), none]) E dX10_is_36 rfl (by decide) rfl ?_
        refine s_iconst (v := 0) E dX10_is_37 (by decide) ?_
        refine s_istore_n (L2 := [some (AR 95), some (AX (sA aC si)), some (AI 0), some (AI 0)]) E dX10_is_38 rfl (by decide) rfl ?_
        refine z_loop (St := Int32 × Int32) (Pi := fun ⟨q39_2_26, q39_3_26⟩ v39 => (0 ≤ q39_2_26.toInt ∧ q39_2_26.toInt ≤ 0) ∧ (0 ≤ q39_3_26.toInt ∧ q39_3_26.toInt ≤ 0) ∧ (isL w si q39_2_26 q39_3_26) ∧ w = v39) (Lf := fun ⟨q39_2_26, q39_3_26⟩ => [some (AR 95), some (AX (sA aC si)), some (AI q39_2_26), some (AI q39_3_26)]) (fun ⟨q39_2_26, q39_3_26⟩ _ => 0) ⟨0, 0⟩ ⟨⟨by decide, by decide⟩, ⟨by decide, by decide⟩, (by first | exact isL_1 (by omega) (by omega) (by omega) | exact isL_0 (by omega)), rfl⟩ ?_
        rintro ⟨q39_2_26, q39_3_26⟩ v39 ⟨hq39_2, hq39_3, hl39, hv_⟩ ih39
        subst hv_
        refine s_loc (L2 := [some (AR 95), some (AX (sA aC si)), some (AI q39_2_26), some (AI q39_3_26)]) rfl ?_
        refine s_iload_n E dX10_is_39 rfl rfl ?_
        refine s_xload_n E dX10_is_40 rfl rfl ?_
        refine s_xI (As := []) (S := [AI q39_3_26]) E hsi rfl (Z_lengthN l D aC b w si hsi) cx_X10_133 rfl rfl (Nat.le_of_ble_eq_true rfl) (Nat.le_of_ble_eq_true rfl) ⟨(Nat.le_of_ble_eq_true rfl), (Nat.le_of_ble_eq_true rfl)⟩ (Nat.le_of_ble_eq_true rfl) dX10_is_41 (fun z_30 u_28 hp_29 => ?_)
        obtain ⟨hz_30, hp_29⟩ := hp_29
        subst hp_29
        refine z_icmp_ge (tgt := 82) (u := q39_3_26.toInt) (v := z_30.toInt) E dX10_is_44 (by decide) rfl rfl (fun h_31 => ?_) (fun h_31 => ?_)
        ·
          refine s_iload_n E dX10_is_82 rfl rfl ?_
          exact r_bool E dX10_is_83 (z_bool (by omega) (by omega)) ⟨⟨by have hb_ := z32 q39_2_26; omega, by have hb_ := z32 q39_2_26; omega, by first | (right; decide) | (have hb_ := z32 q39_2_26; omega) | (have hb_ := z32 q39_2_26; have hc_ := z32 (w.2.2.1 95 12); omega), by first | (right; decide) | (have hb_ := z32 q39_2_26; omega) | (have hb_ := z32 q39_2_26; have hc_ := z32 (w.2.2.1 95 10); omega)⟩, (isL_end hl39 (by omega)), rfl⟩
        ·
          refine s_iload_n E dX10_is_47 rfl rfl ?_
          refine z_if_eq (tgt := 82) (u := q39_2_26.toInt) E dX10_is_48 (by decide) rfl (fun h_32 => ?_) (fun h_32 => absurd h_32 (by omega))
          refine s_iload_n E dX10_is_82 rfl rfl ?_
          exact r_bool E dX10_is_83 (z_bool (by omega) (by omega)) ⟨⟨by have hb_ := z32 q39_2_26; omega, by have hb_ := z32 q39_2_26; omega, by first | (right; decide) | (have hb_ := z32 q39_2_26; omega) | (have hb_ := z32 q39_2_26; have hc_ := z32 (w.2.2.1 95 12); omega), by first | (right; decide) | (have hb_ := z32 q39_2_26; omega) | (have hb_ := z32 q39_2_26; have hc_ := z32 (w.2.2.1 95 10); omega)⟩, (isL_end hl39 (by omega)), rfl⟩
      ·
        refine s_iconst (v := 1) E dX10_is_31 (by decide) ?_
        refine s_goto (tgt := 36) E dX10_is_32 (by decide) ?_
        refine s_istore_n (L2 := [some (AR 95), some (AX (sA aC si)), some (AI 1), none]) E dX10_is_36 rfl (by decide) rfl ?_
        refine s_iconst (v := 0) E dX10_is_37 (by decide) ?_
        refine s_istore_n (L2 := [some (AR 95), some (AX (sA aC si)), some (AI 1), some (AI 0)]) E dX10_is_38 rfl (by decide) rfl ?_
        refine z_loop (St := Int32 × Int32) (Pi := fun ⟨q39_2_32, q39_3_32⟩ v39 => (0 ≤ q39_2_32.toInt ∧ q39_2_32.toInt ≤ 1) ∧ (0 ≤ q39_3_32.toInt ∧ q39_3_32.toInt ≤ 8) ∧ (isL w si q39_2_32 q39_3_32) ∧ w = v39) (Lf := fun ⟨q39_2_32, q39_3_32⟩ => [some (AR 95), some (AX (sA aC si)), some (AI q39_2_32), some (AI q39_3_32)]) (fun ⟨q39_2_32, q39_3_32⟩ _ => (9 - q39_3_32.toInt).toNat) ⟨1, 0⟩ ⟨⟨by decide, by decide⟩, ⟨by decide, by decide⟩, (by first | exact isL_1 (by omega) (by omega) (by omega) | exact isL_0 (by omega)), rfl⟩ ?_
        rintro ⟨q39_2_32, q39_3_32⟩ v39 ⟨hq39_2, hq39_3, hl39, hv_⟩ ih39
        subst hv_
        refine s_loc (L2 := [some (AR 95), some (AX (sA aC si)), some (AI q39_2_32), some (AI q39_3_32)]) rfl ?_
        refine s_iload_n E dX10_is_39 rfl rfl ?_
        refine s_xload_n E dX10_is_40 rfl rfl ?_
        refine s_xI (As := []) (S := [AI q39_3_32]) E hsi rfl (Z_lengthN l D aC b w si hsi) cx_X10_133 rfl rfl (Nat.le_of_ble_eq_true rfl) (Nat.le_of_ble_eq_true rfl) ⟨(Nat.le_of_ble_eq_true rfl), (Nat.le_of_ble_eq_true rfl)⟩ (Nat.le_of_ble_eq_true rfl) dX10_is_41 (fun z_36 u_34 hp_35 => ?_)
        obtain ⟨hz_36, hp_35⟩ := hp_35
        subst hp_35
        refine z_icmp_ge (tgt := 82) (u := q39_3_32.toInt) (v := z_36.toInt) E dX10_is_44 (by decide) rfl rfl (fun h_37 => ?_) (fun h_37 => ?_)
        ·
          refine s_iload_n E dX10_is_82 rfl rfl ?_
          exact r_bool E dX10_is_83 (z_bool (by omega) (by omega)) ⟨⟨by have hb_ := z32 q39_2_32; omega, by have hb_ := z32 q39_2_32; omega, by first | (right; decide) | (have hb_ := z32 q39_2_32; omega) | (have hb_ := z32 q39_2_32; have hc_ := z32 (w.2.2.1 95 12); omega), by first | (right; decide) | (have hb_ := z32 q39_2_32; omega) | (have hb_ := z32 q39_2_32; have hc_ := z32 (w.2.2.1 95 10); omega)⟩, (isL_end hl39 (by omega)), rfl⟩
        ·
          refine s_iload_n E dX10_is_47 rfl rfl ?_
          refine z_if_eq (tgt := 82) (u := q39_2_32.toInt) E dX10_is_48 (by decide) rfl (fun h_38 => ?_) (fun h_38 => ?_)
          ·
            refine s_iload_n E dX10_is_82 rfl rfl ?_
            exact r_bool E dX10_is_83 (z_bool (by omega) (by omega)) ⟨⟨by have hb_ := z32 q39_2_32; omega, by have hb_ := z32 q39_2_32; omega, by first | (right; decide) | (have hb_ := z32 q39_2_32; omega) | (have hb_ := z32 q39_2_32; have hc_ := z32 (w.2.2.1 95 12); omega), by first | (right; decide) | (have hb_ := z32 q39_2_32; omega) | (have hb_ := z32 q39_2_32; have hc_ := z32 (w.2.2.1 95 10); omega)⟩, (isL_end hl39 (by omega)), rfl⟩
          ·
            obtain ⟨f1_, c_, e_⟩ := hl39.resolve_right (fun h_ => by have := h_.1; omega)
            obtain ⟨c1_, c2_, c3_⟩ := c_
            have ra_ := rg_95_8 hJ
            refine s_aload_n E dX10_is_51 rfl rfl ?_
            refine s_gR (r := 99) E fg_X10_20 rfl rfl (jv_lt hJ (by decide)) (jv_r hJ (by decide +kernel)) dX10_is_52 ?_
            refine s_aload_n E dX10_is_55 rfl rfl ?_
            refine s_gI E fg_X10_103 rfl rfl (jv_lt hJ (by decide)) dX10_is_56 ?_
            refine z_nm (P := fun z => z.toInt = (w.2.2.1 95 9).toInt ∧ 0 ≤ z.toInt ∧ z.toInt ≤ 1000) ⟨rfl, (rg_95_9 hJ)⟩ (fun z_39 hz_39 => ?_)
            refine s_iload_n E dX10_is_59 rfl rfl ?_
            refine z_iadd (u := z_39.toInt) (v := q39_3_32.toInt) E dX10_is_60 rfl rfl (by omega) (by omega) (fun z_40 hz_40 => ?_)
            have hhz_40 : 0 ≤ z_40.toInt ∧ z_40.toInt ≤ 999 := by omega
            refine s_bald E rfl (jv_lt hJ (by decide)) (z_in (u := z_40.toInt) rfl (by omega) (by omega)) dX10_is_61 ?_
            refine z_nm (P := fun z => z = w.2.2.1 99 z_40.toNatClampNeg ∧ (-128) ≤ z.toInt ∧ z.toInt ≤ 127) ⟨rfl, (ra_99 hJ _)⟩ (fun z_41 hz_41 => ?_)
            refine s_xload_n E dX10_is_62 rfl rfl ?_
            refine s_iload_n E dX10_is_63 rfl rfl ?_
            refine s_xI (As := [AI q39_3_32]) (S := [AI z_41]) E hsi rfl (Z_charAt l D aC b w si q39_3_32 hsi (by omega) (by omega)) cx_X10_139 rfl rfl (Nat.le_of_ble_eq_true rfl) (Nat.le_of_ble_eq_true rfl) ⟨(Nat.le_of_ble_eq_true rfl), (Nat.le_of_ble_eq_true rfl)⟩ (Nat.le_of_ble_eq_true rfl) dX10_is_64 (fun z_44 u_42 hp_43 => ?_)
            obtain ⟨hz_44, hp_43⟩ := hp_43
            subst hp_43
            have rf_ := rg_95_9 hJ
            have hm_ := isL_m (w := w) (si := si) (tz := z_41) (cz := z_44) (k := q39_3_32) (by assumption) (by assumption) (by omega) (by omega) (by omega)
            refine z_icmp_ne (tgt := 74) (u := z_41.toInt) (v := z_44.toInt) E dX10_is_67 (by decide) rfl rfl (fun h_45 => ?_) (fun h_45 => ?_)
            ·
              refine s_iconst (v := 0) E dX10_is_74 (by decide) ?_
              refine s_istore_n (L2 := [some (AR 95), some (AX (sA aC si)), some (AI 0), some (AI q39_3_32)]) E dX10_is_75 rfl (by decide) rfl ?_
              refine z_iinc (u := q39_3_32.toInt) (L2 := fun z_46 => [some (AR 95), some (AX (sA aC si)), some (AI 0), some (AI z_46)]) E dX10_is_76 rfl rfl (by decide) (fun _ => rfl) (by decide) (by omega) (by omega) (fun z_46 hz_46 => ?_)
              refine s_goto (tgt := 39) E dX10_is_79 (by decide) ?_
              exact ih39 ⟨0, z_46⟩ w ⟨⟨by decide, by decide⟩, ⟨by have hb_ := z32 z_46; omega, by have hb_ := z32 z_46; omega⟩, (by first | exact Or.inl ⟨by decide, ⟨c1_, c2_, c3_⟩, isE_s e_ (hm_.mp (by omega)) (by omega) (by omega)⟩ | exact Or.inr ⟨by decide, fun hP_ => absurd (hm_.mpr (hP_.2 q39_3_32.toInt.toNat (by omega))) (by omega)⟩), rfl⟩ (by first | omega | decide | (dsimp only; omega) | (dsimp only; decide))
            ·
              refine s_iconst (v := 1) E dX10_is_70 (by decide) ?_
              refine s_goto (tgt := 75) E dX10_is_71 (by decide) ?_
              refine s_istore_n (L2 := [some (AR 95), some (AX (sA aC si)), some (AI 1), some (AI q39_3_32)]) E dX10_is_75 rfl (by decide) rfl ?_
              refine z_iinc (u := q39_3_32.toInt) (L2 := fun z_47 => [some (AR 95), some (AX (sA aC si)), some (AI 1), some (AI z_47)]) E dX10_is_76 rfl rfl (by decide) (fun _ => rfl) (by decide) (by omega) (by omega) (fun z_47 hz_47 => ?_)
              refine s_goto (tgt := 39) E dX10_is_79 (by decide) ?_
              exact ih39 ⟨1, z_47⟩ w ⟨⟨by decide, by decide⟩, ⟨by have hb_ := z32 z_47; omega, by have hb_ := z32 z_47; omega⟩, (by first | exact Or.inl ⟨by decide, ⟨c1_, c2_, c3_⟩, isE_s e_ (hm_.mp (by omega)) (by omega) (by omega)⟩ | exact Or.inr ⟨by decide, fun hP_ => absurd (hm_.mpr (hP_.2 q39_3_32.toInt.toNat (by omega))) (by omega)⟩), rfl⟩ (by first | omega | decide | (dsimp only; omega) | (dsimp only; decide))
set_option maxRecDepth 20000 in
set_option maxHeartbeats 2000000 in
theorem Z_X10_isFull_95 (l : Launch) (D : va_G) (aC : Nat → ClassId) (b : Nat) (w : XW)  (hI : Iv w)  : CnI l D aC b M_X10_isFull 5 223 0 0 [AR 95] w (fun r u => (0 ≤ r.toInt ∧ r.toInt ≤ 1 ∧ (r.toInt = 0 ∨ (0 ≤ (w.2.2.1 95 12).toInt ∧ (w.2.2.1 95 12).toInt ≤ 0)) ∧ (r.toInt = 0 ∨ (1 ≤ (w.2.2.1 95 10).toInt ∧ (w.2.2.1 95 10).toInt ≤ 1))) ∧ (r.toInt = 1 ∨ ((isP w 20 → ¬ (w.2.2.1 101 4).toInt = 12) ∧ (isP w 21 → ¬ (w.2.2.1 101 5).toInt = 6) ∧ (isP w 22 → ¬ (w.2.2.1 101 6).toInt = 8) ∧ (isP w 23 → ¬ (w.2.2.1 101 7).toInt = 10))) ∧ w = u) := by
  refine cn_I (own := RX10) (nm := "isFull") (L0 := [some (AR 95)]) (by decide +kernel) rfl rfl (Nat.le_of_ble_eq_true rfl) rfl ?_
  intro p e s m args below meth c E hin
  have hJ : Jv w w := jv_rfl hI
  refine s_aload_n E dX10_isFull_0 rfl rfl ?_
  refine s_ldcS (i := 20) E (by decide) rfl dX10_isFull_1 ?_
  refine s_vI (As := [AX (sA aC 20)]) (S := []) E (Z_X10_is_95 l D aC b w  hJ.1  20 (by decide)) cv_X10_143 rfl rfl rfl (jv_lt hJ (by decide)) (Nat.le_of_ble_eq_true rfl) (Nat.le_of_ble_eq_true rfl) ⟨(Nat.le_of_ble_eq_true rfl), (Nat.le_of_ble_eq_true rfl)⟩ (Nat.le_of_ble_eq_true rfl) dX10_isFull_3 (fun z_3 u_1 hp_2 => ?_)
  obtain ⟨hz_3, hxz_3, hp_2⟩ := hp_2
  subst hp_2
  have hw_3 := hxz_3
  refine z_if_eq (tgt := 20) (u := z_3.toInt) E dX10_isFull_6 (by decide) rfl (fun h_5 => ?_) (fun h_5 => ?_)
  ·
    refine s_aload_n E dX10_isFull_20 rfl rfl ?_
    refine s_ldcS (i := 21) E (by decide) rfl dX10_isFull_21 ?_
    refine s_vI (As := [AX (sA aC 21)]) (S := []) E (Z_X10_is_95 l D aC b w  hJ.1  21 (by decide)) cv_X10_143 rfl rfl rfl (jv_lt hJ (by decide)) (Nat.le_of_ble_eq_true rfl) (Nat.le_of_ble_eq_true rfl) ⟨(Nat.le_of_ble_eq_true rfl), (Nat.le_of_ble_eq_true rfl)⟩ (Nat.le_of_ble_eq_true rfl) dX10_isFull_23 (fun z_8 u_6 hp_7 => ?_)
    obtain ⟨hz_8, hxz_8, hp_7⟩ := hp_7
    subst hp_7
    have hw_23 := hxz_8
    refine z_if_eq (tgt := 42) (u := z_8.toInt) E dX10_isFull_26 (by decide) rfl (fun h_10 => ?_) (fun h_10 => ?_)
    ·
      refine s_aload_n E dX10_isFull_42 rfl rfl ?_
      refine s_ldcS (i := 22) E (by decide) rfl dX10_isFull_43 ?_
      refine s_vI (As := [AX (sA aC 22)]) (S := []) E (Z_X10_is_95 l D aC b w  hJ.1  22 (by decide)) cv_X10_143 rfl rfl rfl (jv_lt hJ (by decide)) (Nat.le_of_ble_eq_true rfl) (Nat.le_of_ble_eq_true rfl) ⟨(Nat.le_of_ble_eq_true rfl), (Nat.le_of_ble_eq_true rfl)⟩ (Nat.le_of_ble_eq_true rfl) dX10_isFull_45 (fun z_13 u_11 hp_12 => ?_)
      obtain ⟨hz_13, hxz_13, hp_12⟩ := hp_12
      subst hp_12
      have hw_45 := hxz_13
      refine z_if_eq (tgt := 63) (u := z_13.toInt) E dX10_isFull_48 (by decide) rfl (fun h_15 => ?_) (fun h_15 => ?_)
      ·
        refine s_aload_n E dX10_isFull_63 rfl rfl ?_
        refine s_ldcS (i := 23) E (by decide) rfl dX10_isFull_64 ?_
        refine s_vI (As := [AX (sA aC 23)]) (S := []) E (Z_X10_is_95 l D aC b w  hJ.1  23 (by decide)) cv_X10_143 rfl rfl rfl (jv_lt hJ (by decide)) (Nat.le_of_ble_eq_true rfl) (Nat.le_of_ble_eq_true rfl) ⟨(Nat.le_of_ble_eq_true rfl), (Nat.le_of_ble_eq_true rfl)⟩ (Nat.le_of_ble_eq_true rfl) dX10_isFull_66 (fun z_18 u_16 hp_17 => ?_)
        obtain ⟨hz_18, hxz_18, hp_17⟩ := hp_17
        subst hp_17
        have hw_66 := hxz_18
        refine z_if_eq (tgt := 88) (u := z_18.toInt) E dX10_isFull_69 (by decide) rfl (fun h_20 => ?_) (fun h_20 => ?_)
        ·
          refine s_iconst (v := 0) E dX10_isFull_88 (by decide) ?_
          exact r_bool E dX10_isFull_89 (Or.inl rfl) ⟨⟨by decide, by decide, by first | (left; decide) | (right; decide) | (right; have hb_ := z32 (w.2.2.1 95 12); omega), by first | (left; decide) | (right; decide) | (right; have hb_ := z32 (w.2.2.1 95 10); omega)⟩, (by first | exact Or.inl (by decide) | exact Or.inr ⟨fun h_ => by have := hw_3.mpr h_; omega, fun h_ => by have := hw_23.mpr h_; omega, fun h_ => by have := hw_45.mpr h_; omega, fun h_ => by have := hw_66.mpr h_; omega⟩), rfl⟩
        ·
          refine s_aload_n E dX10_isFull_72 rfl rfl ?_
          refine s_gR (r := 101) E fg_X10_31 rfl rfl (jv_lt hJ (by decide)) (jv_r hJ (by decide +kernel)) dX10_isFull_73 ?_
          refine s_bipush (v := 7) E dX10_isFull_76 (by decide) ?_
          refine s_iald E rfl (jv_lt hJ (by decide)) (z_in (u := 7) (by decide) (by omega) (by omega)) dX10_isFull_78 ?_
          refine z_nm (P := fun z => z.toInt = (w.2.2.1 101 7).toInt ∧ 0 ≤ z.toInt ∧ z.toInt ≤ 10) ⟨rfl, (rw_101_7 hJ)⟩ (fun z_21 hz_21 => ?_)
          refine s_bipush (v := 10) E dX10_isFull_79 (by decide) ?_
          refine z_icmp_ne (tgt := 88) (u := z_21.toInt) (v := 10) E dX10_isFull_81 (by decide) rfl (by decide) (fun h_22 => ?_) (fun h_22 => ?_)
          ·
            refine s_iconst (v := 0) E dX10_isFull_88 (by decide) ?_
            exact r_bool E dX10_isFull_89 (Or.inl rfl) ⟨⟨by decide, by decide, by first | (left; decide) | (right; decide) | (right; have hb_ := z32 (w.2.2.1 95 12); omega), by first | (left; decide) | (right; decide) | (right; have hb_ := z32 (w.2.2.1 95 10); omega)⟩, (by first | exact Or.inl (by decide) | exact Or.inr ⟨fun h_ => by have := hw_3.mpr h_; omega, fun h_ => by have := hw_23.mpr h_; omega, fun h_ => by have := hw_45.mpr h_; omega, fun h_ => by have := hw_66.mpr h_; omega⟩), rfl⟩
          ·
            refine s_iconst (v := 1) E dX10_isFull_84 (by decide) ?_
            refine s_goto (tgt := 89) E dX10_isFull_85 (by decide) ?_
            exact r_bool E dX10_isFull_89 (Or.inr rfl) ⟨⟨by decide, by decide, by first | (left; decide) | (right; decide) | (right; have hb_ := z32 (w.2.2.1 95 12); omega), by first | (left; decide) | (right; decide) | (right; have hb_ := z32 (w.2.2.1 95 10); omega)⟩, (by first | exact Or.inl (by decide) | exact Or.inr ⟨fun h_ => by have := hw_3.mpr h_; omega, fun h_ => by have := hw_23.mpr h_; omega, fun h_ => by have := hw_45.mpr h_; omega, fun h_ => by have := hw_66.mpr h_; omega⟩), rfl⟩
      ·
        refine s_aload_n E dX10_isFull_51 rfl rfl ?_
        refine s_gR (r := 101) E fg_X10_31 rfl rfl (jv_lt hJ (by decide)) (jv_r hJ (by decide +kernel)) dX10_isFull_52 ?_
        refine s_bipush (v := 6) E dX10_isFull_55 (by decide) ?_
        refine s_iald E rfl (jv_lt hJ (by decide)) (z_in (u := 6) (by decide) (by omega) (by omega)) dX10_isFull_57 ?_
        refine z_nm (P := fun z => z.toInt = (w.2.2.1 101 6).toInt ∧ 0 ≤ z.toInt ∧ z.toInt ≤ 8) ⟨rfl, (rw_101_6 hJ)⟩ (fun z_23 hz_23 => ?_)
        refine s_bipush (v := 8) E dX10_isFull_58 (by decide) ?_
        refine z_icmp_eq (tgt := 84) (u := z_23.toInt) (v := 8) E dX10_isFull_60 (by decide) rfl (by decide) (fun h_24 => ?_) (fun h_24 => ?_)
        ·
          refine s_iconst (v := 1) E dX10_isFull_84 (by decide) ?_
          refine s_goto (tgt := 89) E dX10_isFull_85 (by decide) ?_
          exact r_bool E dX10_isFull_89 (Or.inr rfl) ⟨⟨by decide, by decide, by first | (left; decide) | (right; decide) | (right; have hb_ := z32 (w.2.2.1 95 12); omega), by first | (left; decide) | (right; decide) | (right; have hb_ := z32 (w.2.2.1 95 10); omega)⟩, (by first | exact Or.inl (by decide) | exact Or.inr ⟨fun h_ => by have := hw_3.mpr h_; omega, fun h_ => by have := hw_23.mpr h_; omega, fun h_ => by have := hw_45.mpr h_; omega, fun h_ => by have := hw_66.mpr h_; omega⟩), rfl⟩
        ·
          refine s_aload_n E dX10_isFull_63 rfl rfl ?_
          refine s_ldcS (i := 23) E (by decide) rfl dX10_isFull_64 ?_
          refine s_vI (As := [AX (sA aC 23)]) (S := []) E (Z_X10_is_95 l D aC b w  hJ.1  23 (by decide)) cv_X10_143 rfl rfl rfl (jv_lt hJ (by decide)) (Nat.le_of_ble_eq_true rfl) (Nat.le_of_ble_eq_true rfl) ⟨(Nat.le_of_ble_eq_true rfl), (Nat.le_of_ble_eq_true rfl)⟩ (Nat.le_of_ble_eq_true rfl) dX10_isFull_66 (fun z_27 u_25 hp_26 => ?_)
          obtain ⟨hz_27, hxz_27, hp_26⟩ := hp_26
          subst hp_26
          have hw_66 := hxz_27
          refine z_if_eq (tgt := 88) (u := z_27.toInt) E dX10_isFull_69 (by decide) rfl (fun h_29 => ?_) (fun h_29 => ?_)
          ·
            refine s_iconst (v := 0) E dX10_isFull_88 (by decide) ?_
            exact r_bool E dX10_isFull_89 (Or.inl rfl) ⟨⟨by decide, by decide, by first | (left; decide) | (right; decide) | (right; have hb_ := z32 (w.2.2.1 95 12); omega), by first | (left; decide) | (right; decide) | (right; have hb_ := z32 (w.2.2.1 95 10); omega)⟩, (by first | exact Or.inl (by decide) | exact Or.inr ⟨fun h_ => by have := hw_3.mpr h_; omega, fun h_ => by have := hw_23.mpr h_; omega, fun h_ => by have := hw_45.mpr h_; omega, fun h_ => by have := hw_66.mpr h_; omega⟩), rfl⟩
          ·
            refine s_aload_n E dX10_isFull_72 rfl rfl ?_
            refine s_gR (r := 101) E fg_X10_31 rfl rfl (jv_lt hJ (by decide)) (jv_r hJ (by decide +kernel)) dX10_isFull_73 ?_
            refine s_bipush (v := 7) E dX10_isFull_76 (by decide) ?_
            refine s_iald E rfl (jv_lt hJ (by decide)) (z_in (u := 7) (by decide) (by omega) (by omega)) dX10_isFull_78 ?_
            refine z_nm (P := fun z => z.toInt = (w.2.2.1 101 7).toInt ∧ 0 ≤ z.toInt ∧ z.toInt ≤ 10) ⟨rfl, (rw_101_7 hJ)⟩ (fun z_30 hz_30 => ?_)
            refine s_bipush (v := 10) E dX10_isFull_79 (by decide) ?_
            refine z_icmp_ne (tgt := 88) (u := z_30.toInt) (v := 10) E dX10_isFull_81 (by decide) rfl (by decide) (fun h_31 => ?_) (fun h_31 => ?_)
            ·
              refine s_iconst (v := 0) E dX10_isFull_88 (by decide) ?_
              exact r_bool E dX10_isFull_89 (Or.inl rfl) ⟨⟨by decide, by decide, by first | (left; decide) | (right; decide) | (right; have hb_ := z32 (w.2.2.1 95 12); omega), by first | (left; decide) | (right; decide) | (right; have hb_ := z32 (w.2.2.1 95 10); omega)⟩, (by first | exact Or.inl (by decide) | exact Or.inr ⟨fun h_ => by have := hw_3.mpr h_; omega, fun h_ => by have := hw_23.mpr h_; omega, fun h_ => by have := hw_45.mpr h_; omega, fun h_ => by have := hw_66.mpr h_; omega⟩), rfl⟩
            ·
              refine s_iconst (v := 1) E dX10_isFull_84 (by decide) ?_
              refine s_goto (tgt := 89) E dX10_isFull_85 (by decide) ?_
              exact r_bool E dX10_isFull_89 (Or.inr rfl) ⟨⟨by decide, by decide, by first | (left; decide) | (right; decide) | (right; have hb_ := z32 (w.2.2.1 95 12); omega), by first | (left; decide) | (right; decide) | (right; have hb_ := z32 (w.2.2.1 95 10); omega)⟩, (by first | exact Or.inl (by decide) | exact Or.inr ⟨fun h_ => by have := hw_3.mpr h_; omega, fun h_ => by have := hw_23.mpr h_; omega, fun h_ => by have := hw_45.mpr h_; omega, fun h_ => by have := hw_66.mpr h_; omega⟩), rfl⟩
    ·
      refine s_aload_n E dX10_isFull_29 rfl rfl ?_
      refine s_gR (r := 101) E fg_X10_31 rfl rfl (jv_lt hJ (by decide)) (jv_r hJ (by decide +kernel)) dX10_isFull_30 ?_
      refine s_iconst (v := 5) E dX10_isFull_33 (by decide) ?_
      refine s_iald E rfl (jv_lt hJ (by decide)) (z_in (u := 5) (by decide) (by omega) (by omega)) dX10_isFull_34 ?_
      refine z_nm (P := fun z => z.toInt = (w.2.2.1 101 5).toInt ∧ 0 ≤ z.toInt ∧ z.toInt ≤ 6) ⟨rfl, (rw_101_5 hJ)⟩ (fun z_32 hz_32 => ?_)
      refine s_bipush (v := 6) E dX10_isFull_35 (by decide) ?_
      refine z_icmp_ne (tgt := 42) (u := z_32.toInt) (v := 6) E dX10_isFull_37 (by decide) rfl (by decide) (fun h_33 => ?_) (fun h_33 => ?_)
      ·
        refine s_aload_n E dX10_isFull_42 rfl rfl ?_
        refine s_ldcS (i := 22) E (by decide) rfl dX10_isFull_43 ?_
        refine s_vI (As := [AX (sA aC 22)]) (S := []) E (Z_X10_is_95 l D aC b w  hJ.1  22 (by decide)) cv_X10_143 rfl rfl rfl (jv_lt hJ (by decide)) (Nat.le_of_ble_eq_true rfl) (Nat.le_of_ble_eq_true rfl) ⟨(Nat.le_of_ble_eq_true rfl), (Nat.le_of_ble_eq_true rfl)⟩ (Nat.le_of_ble_eq_true rfl) dX10_isFull_45 (fun z_36 u_34 hp_35 => ?_)
        obtain ⟨hz_36, hxz_36, hp_35⟩ := hp_35
        subst hp_35
        have hw_45 := hxz_36
        refine z_if_eq (tgt := 63) (u := z_36.toInt) E dX10_isFull_48 (by decide) rfl (fun h_38 => ?_) (fun h_38 => ?_)
        ·
          refine s_aload_n E dX10_isFull_63 rfl rfl ?_
          refine s_ldcS (i := 23) E (by decide) rfl dX10_isFull_64 ?_
          refine s_vI (As := [AX (sA aC 23)]) (S := []) E (Z_X10_is_95 l D aC b w  hJ.1  23 (by decide)) cv_X10_143 rfl rfl rfl (jv_lt hJ (by decide)) (Nat.le_of_ble_eq_true rfl) (Nat.le_of_ble_eq_true rfl) ⟨(Nat.le_of_ble_eq_true rfl), (Nat.le_of_ble_eq_true rfl)⟩ (Nat.le_of_ble_eq_true rfl) dX10_isFull_66 (fun z_41 u_39 hp_40 => ?_)
          obtain ⟨hz_41, hxz_41, hp_40⟩ := hp_40
          subst hp_40
          have hw_66 := hxz_41
          refine z_if_eq (tgt := 88) (u := z_41.toInt) E dX10_isFull_69 (by decide) rfl (fun h_43 => ?_) (fun h_43 => ?_)
          ·
            refine s_iconst (v := 0) E dX10_isFull_88 (by decide) ?_
            exact r_bool E dX10_isFull_89 (Or.inl rfl) ⟨⟨by decide, by decide, by first | (left; decide) | (right; decide) | (right; have hb_ := z32 (w.2.2.1 95 12); omega), by first | (left; decide) | (right; decide) | (right; have hb_ := z32 (w.2.2.1 95 10); omega)⟩, (by first | exact Or.inl (by decide) | exact Or.inr ⟨fun h_ => by have := hw_3.mpr h_; omega, fun h_ => by have := hw_23.mpr h_; omega, fun h_ => by have := hw_45.mpr h_; omega, fun h_ => by have := hw_66.mpr h_; omega⟩), rfl⟩
          ·
            refine s_aload_n E dX10_isFull_72 rfl rfl ?_
            refine s_gR (r := 101) E fg_X10_31 rfl rfl (jv_lt hJ (by decide)) (jv_r hJ (by decide +kernel)) dX10_isFull_73 ?_
            refine s_bipush (v := 7) E dX10_isFull_76 (by decide) ?_
            refine s_iald E rfl (jv_lt hJ (by decide)) (z_in (u := 7) (by decide) (by omega) (by omega)) dX10_isFull_78 ?_
            refine z_nm (P := fun z => z.toInt = (w.2.2.1 101 7).toInt ∧ 0 ≤ z.toInt ∧ z.toInt ≤ 10) ⟨rfl, (rw_101_7 hJ)⟩ (fun z_44 hz_44 => ?_)
            refine s_bipush (v := 10) E dX10_isFull_79 (by decide) ?_
            refine z_icmp_ne (tgt := 88) (u := z_44.toInt) (v := 10) E dX10_isFull_81 (by decide) rfl (by decide) (fun h_45 => ?_) (fun h_45 => ?_)
            ·
              refine s_iconst (v := 0) E dX10_isFull_88 (by decide) ?_
              exact r_bool E dX10_isFull_89 (Or.inl rfl) ⟨⟨by decide, by decide, by first | (left; decide) | (right; decide) | (right; have hb_ := z32 (w.2.2.1 95 12); omega), by first | (left; decide) | (right; decide) | (right; have hb_ := z32 (w.2.2.1 95 10); omega)⟩, (by first | exact Or.inl (by decide) | exact Or.inr ⟨fun h_ => by have := hw_3.mpr h_; omega, fun h_ => by have := hw_23.mpr h_; omega, fun h_ => by have := hw_45.mpr h_; omega, fun h_ => by have := hw_66.mpr h_; omega⟩), rfl⟩
            ·
              refine s_iconst (v := 1) E dX10_isFull_84 (by decide) ?_
              refine s_goto (tgt := 89) E dX10_isFull_85 (by decide) ?_
              exact r_bool E dX10_isFull_89 (Or.inr rfl) ⟨⟨by decide, by decide, by first | (left; decide) | (right; decide) | (right; have hb_ := z32 (w.2.2.1 95 12); omega), by first | (left; decide) | (right; decide) | (right; have hb_ := z32 (w.2.2.1 95 10); omega)⟩, (by first | exact Or.inl (by decide) | exact Or.inr ⟨fun h_ => by have := hw_3.mpr h_; omega, fun h_ => by have := hw_23.mpr h_; omega, fun h_ => by have := hw_45.mpr h_; omega, fun h_ => by have := hw_66.mpr h_; omega⟩), rfl⟩
        ·
          refine s_aload_n E dX10_isFull_51 rfl rfl ?_
          refine s_gR (r := 101) E fg_X10_31 rfl rfl (jv_lt hJ (by decide)) (jv_r hJ (by decide +kernel)) dX10_isFull_52 ?_
          refine s_bipush (v := 6) E dX10_isFull_55 (by decide) ?_
          refine s_iald E rfl (jv_lt hJ (by decide)) (z_in (u := 6) (by decide) (by omega) (by omega)) dX10_isFull_57 ?_
          refine z_nm (P := fun z => z.toInt = (w.2.2.1 101 6).toInt ∧ 0 ≤ z.toInt ∧ z.toInt ≤ 8) ⟨rfl, (rw_101_6 hJ)⟩ (fun z_46 hz_46 => ?_)
          refine s_bipush (v := 8) E dX10_isFull_58 (by decide) ?_
          refine z_icmp_eq (tgt := 84) (u := z_46.toInt) (v := 8) E dX10_isFull_60 (by decide) rfl (by decide) (fun h_47 => ?_) (fun h_47 => ?_)
          ·
            refine s_iconst (v := 1) E dX10_isFull_84 (by decide) ?_
            refine s_goto (tgt := 89) E dX10_isFull_85 (by decide) ?_
            exact r_bool E dX10_isFull_89 (Or.inr rfl) ⟨⟨by decide, by decide, by first | (left; decide) | (right; decide) | (right; have hb_ := z32 (w.2.2.1 95 12); omega), by first | (left; decide) | (right; decide) | (right; have hb_ := z32 (w.2.2.1 95 10); omega)⟩, (by first | exact Or.inl (by decide) | exact Or.inr ⟨fun h_ => by have := hw_3.mpr h_; omega, fun h_ => by have := hw_23.mpr h_; omega, fun h_ => by have := hw_45.mpr h_; omega, fun h_ => by have := hw_66.mpr h_; omega⟩), rfl⟩
          ·
            refine s_aload_n E dX10_isFull_63 rfl rfl ?_
            refine s_ldcS (i := 23) E (by decide) rfl dX10_isFull_64 ?_
            refine s_vI (As := [AX (sA aC 23)]) (S := []) E (Z_X10_is_95 l D aC b w  hJ.1  23 (by decide)) cv_X10_143 rfl rfl rfl (jv_lt hJ (by decide)) (Nat.le_of_ble_eq_true rfl) (Nat.le_of_ble_eq_true rfl) ⟨(Nat.le_of_ble_eq_true rfl), (Nat.le_of_ble_eq_true rfl)⟩ (Nat.le_of_ble_eq_true rfl) dX10_isFull_66 (fun z_50 u_48 hp_49 => ?_)
            obtain ⟨hz_50, hxz_50, hp_49⟩ := hp_49
            subst hp_49
            have hw_66 := hxz_50
            refine z_if_eq (tgt := 88) (u := z_50.toInt) E dX10_isFull_69 (by decide) rfl (fun h_52 => ?_) (fun h_52 => ?_)
            ·
              refine s_iconst (v := 0) E dX10_isFull_88 (by decide) ?_
              exact r_bool E dX10_isFull_89 (Or.inl rfl) ⟨⟨by decide, by decide, by first | (left; decide) | (right; decide) | (right; have hb_ := z32 (w.2.2.1 95 12); omega), by first | (left; decide) | (right; decide) | (right; have hb_ := z32 (w.2.2.1 95 10); omega)⟩, (by first | exact Or.inl (by decide) | exact Or.inr ⟨fun h_ => by have := hw_3.mpr h_; omega, fun h_ => by have := hw_23.mpr h_; omega, fun h_ => by have := hw_45.mpr h_; omega, fun h_ => by have := hw_66.mpr h_; omega⟩), rfl⟩
            ·
              refine s_aload_n E dX10_isFull_72 rfl rfl ?_
              refine s_gR (r := 101) E fg_X10_31 rfl rfl (jv_lt hJ (by decide)) (jv_r hJ (by decide +kernel)) dX10_isFull_73 ?_
              refine s_bipush (v := 7) E dX10_isFull_76 (by decide) ?_
              refine s_iald E rfl (jv_lt hJ (by decide)) (z_in (u := 7) (by decide) (by omega) (by omega)) dX10_isFull_78 ?_
              refine z_nm (P := fun z => z.toInt = (w.2.2.1 101 7).toInt ∧ 0 ≤ z.toInt ∧ z.toInt ≤ 10) ⟨rfl, (rw_101_7 hJ)⟩ (fun z_53 hz_53 => ?_)
              refine s_bipush (v := 10) E dX10_isFull_79 (by decide) ?_
              refine z_icmp_ne (tgt := 88) (u := z_53.toInt) (v := 10) E dX10_isFull_81 (by decide) rfl (by decide) (fun h_54 => ?_) (fun h_54 => ?_)
              ·
                refine s_iconst (v := 0) E dX10_isFull_88 (by decide) ?_
                exact r_bool E dX10_isFull_89 (Or.inl rfl) ⟨⟨by decide, by decide, by first | (left; decide) | (right; decide) | (right; have hb_ := z32 (w.2.2.1 95 12); omega), by first | (left; decide) | (right; decide) | (right; have hb_ := z32 (w.2.2.1 95 10); omega)⟩, (by first | exact Or.inl (by decide) | exact Or.inr ⟨fun h_ => by have := hw_3.mpr h_; omega, fun h_ => by have := hw_23.mpr h_; omega, fun h_ => by have := hw_45.mpr h_; omega, fun h_ => by have := hw_66.mpr h_; omega⟩), rfl⟩
              ·
                refine s_iconst (v := 1) E dX10_isFull_84 (by decide) ?_
                refine s_goto (tgt := 89) E dX10_isFull_85 (by decide) ?_
                exact r_bool E dX10_isFull_89 (Or.inr rfl) ⟨⟨by decide, by decide, by first | (left; decide) | (right; decide) | (right; have hb_ := z32 (w.2.2.1 95 12); omega), by first | (left; decide) | (right; decide) | (right; have hb_ := z32 (w.2.2.1 95 10); omega)⟩, (by first | exact Or.inl (by decide) | exact Or.inr ⟨fun h_ => by have := hw_3.mpr h_; omega, fun h_ => by have := hw_23.mpr h_; omega, fun h_ => by have := hw_45.mpr h_; omega, fun h_ => by have := hw_66.mpr h_; omega⟩), rfl⟩
      ·
        refine s_iconst (v := 1) E dX10_isFull_40 (by decide) ?_
        exact r_bool E dX10_isFull_41 (Or.inr rfl) ⟨⟨by decide, by decide, by first | (left; decide) | (right; decide) | (right; have hb_ := z32 (w.2.2.1 95 12); omega), by first | (left; decide) | (right; decide) | (right; have hb_ := z32 (w.2.2.1 95 10); omega)⟩, (Or.inl (by decide)), rfl⟩
  ·
    refine s_aload_n E dX10_isFull_9 rfl rfl ?_
    refine s_gR (r := 101) E fg_X10_31 rfl rfl (jv_lt hJ (by decide)) (jv_r hJ (by decide +kernel)) dX10_isFull_10 ?_
    refine s_iconst (v := 4) E dX10_isFull_13 (by decide) ?_
    refine s_iald E rfl (jv_lt hJ (by decide)) (z_in (u := 4) (by decide) (by omega) (by omega)) dX10_isFull_14 ?_
    refine z_nm (P := fun z => z.toInt = (w.2.2.1 101 4).toInt ∧ 0 ≤ z.toInt ∧ z.toInt ≤ 12) ⟨rfl, (rw_101_4 hJ)⟩ (fun z_55 hz_55 => ?_)
    refine s_bipush (v := 12) E dX10_isFull_15 (by decide) ?_
    refine z_icmp_eq (tgt := 40) (u := z_55.toInt) (v := 12) E dX10_isFull_17 (by decide) rfl (by decide) (fun h_56 => ?_) (fun h_56 => ?_)
    ·
      refine s_iconst (v := 1) E dX10_isFull_40 (by decide) ?_
      exact r_bool E dX10_isFull_41 (Or.inr rfl) ⟨⟨by decide, by decide, by first | (left; decide) | (right; decide) | (right; have hb_ := z32 (w.2.2.1 95 12); omega), by first | (left; decide) | (right; decide) | (right; have hb_ := z32 (w.2.2.1 95 10); omega)⟩, (Or.inl (by decide)), rfl⟩
    ·
      refine s_aload_n E dX10_isFull_20 rfl rfl ?_
      refine s_ldcS (i := 21) E (by decide) rfl dX10_isFull_21 ?_
      refine s_vI (As := [AX (sA aC 21)]) (S := []) E (Z_X10_is_95 l D aC b w  hJ.1  21 (by decide)) cv_X10_143 rfl rfl rfl (jv_lt hJ (by decide)) (Nat.le_of_ble_eq_true rfl) (Nat.le_of_ble_eq_true rfl) ⟨(Nat.le_of_ble_eq_true rfl), (Nat.le_of_ble_eq_true rfl)⟩ (Nat.le_of_ble_eq_true rfl) dX10_isFull_23 (fun z_59 u_57 hp_58 => ?_)
      obtain ⟨hz_59, hxz_59, hp_58⟩ := hp_58
      subst hp_58
      have hw_23 := hxz_59
      refine z_if_eq (tgt := 42) (u := z_59.toInt) E dX10_isFull_26 (by decide) rfl (fun h_61 => ?_) (fun h_61 => ?_)
      ·
        refine s_aload_n E dX10_isFull_42 rfl rfl ?_
        refine s_ldcS (i := 22) E (by decide) rfl dX10_isFull_43 ?_
        refine s_vI (As := [AX (sA aC 22)]) (S := []) E (Z_X10_is_95 l D aC b w  hJ.1  22 (by decide)) cv_X10_143 rfl rfl rfl (jv_lt hJ (by decide)) (Nat.le_of_ble_eq_true rfl) (Nat.le_of_ble_eq_true rfl) ⟨(Nat.le_of_ble_eq_true rfl), (Nat.le_of_ble_eq_true rfl)⟩ (Nat.le_of_ble_eq_true rfl) dX10_isFull_45 (fun z_64 u_62 hp_63 => ?_)
        obtain ⟨hz_64, hxz_64, hp_63⟩ := hp_63
        subst hp_63
        have hw_45 := hxz_64
        refine z_if_eq (tgt := 63) (u := z_64.toInt) E dX10_isFull_48 (by decide) rfl (fun h_66 => ?_) (fun h_66 => ?_)
        ·
          refine s_aload_n E dX10_isFull_63 rfl rfl ?_
          refine s_ldcS (i := 23) E (by decide) rfl dX10_isFull_64 ?_
          refine s_vI (As := [AX (sA aC 23)]) (S := []) E (Z_X10_is_95 l D aC b w  hJ.1  23 (by decide)) cv_X10_143 rfl rfl rfl (jv_lt hJ (by decide)) (Nat.le_of_ble_eq_true rfl) (Nat.le_of_ble_eq_true rfl) ⟨(Nat.le_of_ble_eq_true rfl), (Nat.le_of_ble_eq_true rfl)⟩ (Nat.le_of_ble_eq_true rfl) dX10_isFull_66 (fun z_69 u_67 hp_68 => ?_)
          obtain ⟨hz_69, hxz_69, hp_68⟩ := hp_68
          subst hp_68
          have hw_66 := hxz_69
          refine z_if_eq (tgt := 88) (u := z_69.toInt) E dX10_isFull_69 (by decide) rfl (fun h_71 => ?_) (fun h_71 => ?_)
          ·
            refine s_iconst (v := 0) E dX10_isFull_88 (by decide) ?_
            exact r_bool E dX10_isFull_89 (Or.inl rfl) ⟨⟨by decide, by decide, by first | (left; decide) | (right; decide) | (right; have hb_ := z32 (w.2.2.1 95 12); omega), by first | (left; decide) | (right; decide) | (right; have hb_ := z32 (w.2.2.1 95 10); omega)⟩, (by first | exact Or.inl (by decide) | exact Or.inr ⟨fun h_ => by have := hw_3.mpr h_; omega, fun h_ => by have := hw_23.mpr h_; omega, fun h_ => by have := hw_45.mpr h_; omega, fun h_ => by have := hw_66.mpr h_; omega⟩), rfl⟩
          ·
            refine s_aload_n E dX10_isFull_72 rfl rfl ?_
            refine s_gR (r := 101) E fg_X10_31 rfl rfl (jv_lt hJ (by decide)) (jv_r hJ (by decide +kernel)) dX10_isFull_73 ?_
            refine s_bipush (v := 7) E dX10_isFull_76 (by decide) ?_
            refine s_iald E rfl (jv_lt hJ (by decide)) (z_in (u := 7) (by decide) (by omega) (by omega)) dX10_isFull_78 ?_
            refine z_nm (P := fun z => z.toInt = (w.2.2.1 101 7).toInt ∧ 0 ≤ z.toInt ∧ z.toInt ≤ 10) ⟨rfl, (rw_101_7 hJ)⟩ (fun z_72 hz_72 => ?_)
            refine s_bipush (v := 10) E dX10_isFull_79 (by decide) ?_
            refine z_icmp_ne (tgt := 88) (u := z_72.toInt) (v := 10) E dX10_isFull_81 (by decide) rfl (by decide) (fun h_73 => ?_) (fun h_73 => ?_)
            ·
              refine s_iconst (v := 0) E dX10_isFull_88 (by decide) ?_
              exact r_bool E dX10_isFull_89 (Or.inl rfl) ⟨⟨by decide, by decide, by first | (left; decide) | (right; decide) | (right; have hb_ := z32 (w.2.2.1 95 12); omega), by first | (left; decide) | (right; decide) | (right; have hb_ := z32 (w.2.2.1 95 10); omega)⟩, (by first | exact Or.inl (by decide) | exact Or.inr ⟨fun h_ => by have := hw_3.mpr h_; omega, fun h_ => by have := hw_23.mpr h_; omega, fun h_ => by have := hw_45.mpr h_; omega, fun h_ => by have := hw_66.mpr h_; omega⟩), rfl⟩
            ·
              refine s_iconst (v := 1) E dX10_isFull_84 (by decide) ?_
              refine s_goto (tgt := 89) E dX10_isFull_85 (by decide) ?_
              exact r_bool E dX10_isFull_89 (Or.inr rfl) ⟨⟨by decide, by decide, by first | (left; decide) | (right; decide) | (right; have hb_ := z32 (w.2.2.1 95 12); omega), by first | (left; decide) | (right; decide) | (right; have hb_ := z32 (w.2.2.1 95 10); omega)⟩, (by first | exact Or.inl (by decide) | exact Or.inr ⟨fun h_ => by have := hw_3.mpr h_; omega, fun h_ => by have := hw_23.mpr h_; omega, fun h_ => by have := hw_45.mpr h_; omega, fun h_ => by have := hw_66.mpr h_; omega⟩), rfl⟩
        ·
          refine s_aload_n E dX10_isFull_51 rfl rfl ?_
          refine s_gR (r := 101) E fg_X10_31 rfl rfl (jv_lt hJ (by decide)) (jv_r hJ (by decide +kernel)) dX10_isFull_52 ?_
          refine s_bipush (v := 6) E dX10_isFull_55 (by decide) ?_
          refine s_iald E rfl (jv_lt hJ (by decide)) (z_in (u := 6) (by decide) (by omega) (by omega)) dX10_isFull_57 ?_
          refine z_nm (P := fun z => z.toInt = (w.2.2.1 101 6).toInt ∧ 0 ≤ z.toInt ∧ z.toInt ≤ 8) ⟨rfl, (rw_101_6 hJ)⟩ (fun z_74 hz_74 => ?_)
          refine s_bipush (v := 8) E dX10_isFull_58 (by decide) ?_
          refine z_icmp_eq (tgt := 84) (u := z_74.toInt) (v := 8) E dX10_isFull_60 (by decide) rfl (by decide) (fun h_75 => ?_) (fun h_75 => ?_)
          ·
            refine s_iconst (v := 1) E dX10_isFull_84 (by decide) ?_
            refine s_goto (tgt := 89) E dX10_isFull_85 (by decide) ?_
            exact r_bool E dX10_isFull_89 (Or.inr rfl) ⟨⟨by decide, by decide, by first | (left; decide) | (right; decide) | (right; have hb_ := z32 (w.2.2.1 95 12); omega), by first | (left; decide) | (right; decide) | (right; have hb_ := z32 (w.2.2.1 95 10); omega)⟩, (by first | exact Or.inl (by decide) | exact Or.inr ⟨fun h_ => by have := hw_3.mpr h_; omega, fun h_ => by have := hw_23.mpr h_; omega, fun h_ => by have := hw_45.mpr h_; omega, fun h_ => by have := hw_66.mpr h_; omega⟩), rfl⟩
          ·
            refine s_aload_n E dX10_isFull_63 rfl rfl ?_
            refine s_ldcS (i := 23) E (by decide) rfl dX10_isFull_64 ?_
            refine s_vI (As := [AX (sA aC 23)]) (S := []) E (Z_X10_is_95 l D aC b w  hJ.1  23 (by decide)) cv_X10_143 rfl rfl rfl (jv_lt hJ (by decide)) (Nat.le_of_ble_eq_true rfl) (Nat.le_of_ble_eq_true rfl) ⟨(Nat.le_of_ble_eq_true rfl), (Nat.le_of_ble_eq_true rfl)⟩ (Nat.le_of_ble_eq_true rfl) dX10_isFull_66 (fun z_78 u_76 hp_77 => ?_)
            obtain ⟨hz_78, hxz_78, hp_77⟩ := hp_77
            subst hp_77
            have hw_66 := hxz_78
            refine z_if_eq (tgt := 88) (u := z_78.toInt) E dX10_isFull_69 (by decide) rfl (fun h_80 => ?_) (fun h_80 => ?_)
            ·
              refine s_iconst (v := 0) E dX10_isFull_88 (by decide) ?_
              exact r_bool E dX10_isFull_89 (Or.inl rfl) ⟨⟨by decide, by decide, by first | (left; decide) | (right; decide) | (right; have hb_ := z32 (w.2.2.1 95 12); omega), by first | (left; decide) | (right; decide) | (right; have hb_ := z32 (w.2.2.1 95 10); omega)⟩, (by first | exact Or.inl (by decide) | exact Or.inr ⟨fun h_ => by have := hw_3.mpr h_; omega, fun h_ => by have := hw_23.mpr h_; omega, fun h_ => by have := hw_45.mpr h_; omega, fun h_ => by have := hw_66.mpr h_; omega⟩), rfl⟩
            ·
              refine s_aload_n E dX10_isFull_72 rfl rfl ?_
              refine s_gR (r := 101) E fg_X10_31 rfl rfl (jv_lt hJ (by decide)) (jv_r hJ (by decide +kernel)) dX10_isFull_73 ?_
              refine s_bipush (v := 7) E dX10_isFull_76 (by decide) ?_
              refine s_iald E rfl (jv_lt hJ (by decide)) (z_in (u := 7) (by decide) (by omega) (by omega)) dX10_isFull_78 ?_
              refine z_nm (P := fun z => z.toInt = (w.2.2.1 101 7).toInt ∧ 0 ≤ z.toInt ∧ z.toInt ≤ 10) ⟨rfl, (rw_101_7 hJ)⟩ (fun z_81 hz_81 => ?_)
              refine s_bipush (v := 10) E dX10_isFull_79 (by decide) ?_
              refine z_icmp_ne (tgt := 88) (u := z_81.toInt) (v := 10) E dX10_isFull_81 (by decide) rfl (by decide) (fun h_82 => ?_) (fun h_82 => ?_)
              ·
                refine s_iconst (v := 0) E dX10_isFull_88 (by decide) ?_
                exact r_bool E dX10_isFull_89 (Or.inl rfl) ⟨⟨by decide, by decide, by first | (left; decide) | (right; decide) | (right; have hb_ := z32 (w.2.2.1 95 12); omega), by first | (left; decide) | (right; decide) | (right; have hb_ := z32 (w.2.2.1 95 10); omega)⟩, (by first | exact Or.inl (by decide) | exact Or.inr ⟨fun h_ => by have := hw_3.mpr h_; omega, fun h_ => by have := hw_23.mpr h_; omega, fun h_ => by have := hw_45.mpr h_; omega, fun h_ => by have := hw_66.mpr h_; omega⟩), rfl⟩
              ·
                refine s_iconst (v := 1) E dX10_isFull_84 (by decide) ?_
                refine s_goto (tgt := 89) E dX10_isFull_85 (by decide) ?_
                exact r_bool E dX10_isFull_89 (Or.inr rfl) ⟨⟨by decide, by decide, by first | (left; decide) | (right; decide) | (right; have hb_ := z32 (w.2.2.1 95 12); omega), by first | (left; decide) | (right; decide) | (right; have hb_ := z32 (w.2.2.1 95 10); omega)⟩, (by first | exact Or.inl (by decide) | exact Or.inr ⟨fun h_ => by have := hw_3.mpr h_; omega, fun h_ => by have := hw_23.mpr h_; omega, fun h_ => by have := hw_45.mpr h_; omega, fun h_ => by have := hw_66.mpr h_; omega⟩), rfl⟩
      ·
        refine s_aload_n E dX10_isFull_29 rfl rfl ?_
        refine s_gR (r := 101) E fg_X10_31 rfl rfl (jv_lt hJ (by decide)) (jv_r hJ (by decide +kernel)) dX10_isFull_30 ?_
        refine s_iconst (v := 5) E dX10_isFull_33 (by decide) ?_
        refine s_iald E rfl (jv_lt hJ (by decide)) (z_in (u := 5) (by decide) (by omega) (by omega)) dX10_isFull_34 ?_
        refine z_nm (P := fun z => z.toInt = (w.2.2.1 101 5).toInt ∧ 0 ≤ z.toInt ∧ z.toInt ≤ 6) ⟨rfl, (rw_101_5 hJ)⟩ (fun z_83 hz_83 => ?_)
        refine s_bipush (v := 6) E dX10_isFull_35 (by decide) ?_
        refine z_icmp_ne (tgt := 42) (u := z_83.toInt) (v := 6) E dX10_isFull_37 (by decide) rfl (by decide) (fun h_84 => ?_) (fun h_84 => ?_)
        ·
          refine s_aload_n E dX10_isFull_42 rfl rfl ?_
          refine s_ldcS (i := 22) E (by decide) rfl dX10_isFull_43 ?_
          refine s_vI (As := [AX (sA aC 22)]) (S := []) E (Z_X10_is_95 l D aC b w  hJ.1  22 (by decide)) cv_X10_143 rfl rfl rfl (jv_lt hJ (by decide)) (Nat.le_of_ble_eq_true rfl) (Nat.le_of_ble_eq_true rfl) ⟨(Nat.le_of_ble_eq_true rfl), (Nat.le_of_ble_eq_true rfl)⟩ (Nat.le_of_ble_eq_true rfl) dX10_isFull_45 (fun z_87 u_85 hp_86 => ?_)
          obtain ⟨hz_87, hxz_87, hp_86⟩ := hp_86
          subst hp_86
          have hw_45 := hxz_87
          refine z_if_eq (tgt := 63) (u := z_87.toInt) E dX10_isFull_48 (by decide) rfl (fun h_89 => ?_) (fun h_89 => ?_)
          ·
            refine s_aload_n E dX10_isFull_63 rfl rfl ?_
            refine s_ldcS (i := 23) E (by decide) rfl dX10_isFull_64 ?_
            refine s_vI (As := [AX (sA aC 23)]) (S := []) E (Z_X10_is_95 l D aC b w  hJ.1  23 (by decide)) cv_X10_143 rfl rfl rfl (jv_lt hJ (by decide)) (Nat.le_of_ble_eq_true rfl) (Nat.le_of_ble_eq_true rfl) ⟨(Nat.le_of_ble_eq_true rfl), (Nat.le_of_ble_eq_true rfl)⟩ (Nat.le_of_ble_eq_true rfl) dX10_isFull_66 (fun z_92 u_90 hp_91 => ?_)
            obtain ⟨hz_92, hxz_92, hp_91⟩ := hp_91
            subst hp_91
            have hw_66 := hxz_92
            refine z_if_eq (tgt := 88) (u := z_92.toInt) E dX10_isFull_69 (by decide) rfl (fun h_94 => ?_) (fun h_94 => ?_)
            ·
              refine s_iconst (v := 0) E dX10_isFull_88 (by decide) ?_
              exact r_bool E dX10_isFull_89 (Or.inl rfl) ⟨⟨by decide, by decide, by first | (left; decide) | (right; decide) | (right; have hb_ := z32 (w.2.2.1 95 12); omega), by first | (left; decide) | (right; decide) | (right; have hb_ := z32 (w.2.2.1 95 10); omega)⟩, (by first | exact Or.inl (by decide) | exact Or.inr ⟨fun h_ => by have := hw_3.mpr h_; omega, fun h_ => by have := hw_23.mpr h_; omega, fun h_ => by have := hw_45.mpr h_; omega, fun h_ => by have := hw_66.mpr h_; omega⟩), rfl⟩
            ·
              refine s_aload_n E dX10_isFull_72 rfl rfl ?_
              refine s_gR (r := 101) E fg_X10_31 rfl rfl (jv_lt hJ (by decide)) (jv_r hJ (by decide +kernel)) dX10_isFull_73 ?_
              refine s_bipush (v := 7) E dX10_isFull_76 (by decide) ?_
              refine s_iald E rfl (jv_lt hJ (by decide)) (z_in (u := 7) (by decide) (by omega) (by omega)) dX10_isFull_78 ?_
              refine z_nm (P := fun z => z.toInt = (w.2.2.1 101 7).toInt ∧ 0 ≤ z.toInt ∧ z.toInt ≤ 10) ⟨rfl, (rw_101_7 hJ)⟩ (fun z_95 hz_95 => ?_)
              refine s_bipush (v := 10) E dX10_isFull_79 (by decide) ?_
              refine z_icmp_ne (tgt := 88) (u := z_95.toInt) (v := 10) E dX10_isFull_81 (by decide) rfl (by decide) (fun h_96 => ?_) (fun h_96 => ?_)
              ·
                refine s_iconst (v := 0) E dX10_isFull_88 (by decide) ?_
                exact r_bool E dX10_isFull_89 (Or.inl rfl) ⟨⟨by decide, by decide, by first | (left; decide) | (right; decide) | (right; have hb_ := z32 (w.2.2.1 95 12); omega), by first | (left; decide) | (right; decide) | (right; have hb_ := z32 (w.2.2.1 95 10); omega)⟩, (by first | exact Or.inl (by decide) | exact Or.inr ⟨fun h_ => by have := hw_3.mpr h_; omega, fun h_ => by have := hw_23.mpr h_; omega, fun h_ => by have := hw_45.mpr h_; omega, fun h_ => by have := hw_66.mpr h_; omega⟩), rfl⟩
              ·
                refine s_iconst (v := 1) E dX10_isFull_84 (by decide) ?_
                refine s_goto (tgt := 89) E dX10_isFull_85 (by decide) ?_
                exact r_bool E dX10_isFull_89 (Or.inr rfl) ⟨⟨by decide, by decide, by first | (left; decide) | (right; decide) | (right; have hb_ := z32 (w.2.2.1 95 12); omega), by first | (left; decide) | (right; decide) | (right; have hb_ := z32 (w.2.2.1 95 10); omega)⟩, (by first | exact Or.inl (by decide) | exact Or.inr ⟨fun h_ => by have := hw_3.mpr h_; omega, fun h_ => by have := hw_23.mpr h_; omega, fun h_ => by have := hw_45.mpr h_; omega, fun h_ => by have := hw_66.mpr h_; omega⟩), rfl⟩
          ·
            refine s_aload_n E dX10_isFull_51 rfl rfl ?_
            refine s_gR (r := 101) E fg_X10_31 rfl rfl (jv_lt hJ (by decide)) (jv_r hJ (by decide +kernel)) dX10_isFull_52 ?_
            refine s_bipush (v := 6) E dX10_isFull_55 (by decide) ?_
            refine s_iald E rfl (jv_lt hJ (by decide)) (z_in (u := 6) (by decide) (by omega) (by omega)) dX10_isFull_57 ?_
            refine z_nm (P := fun z => z.toInt = (w.2.2.1 101 6).toInt ∧ 0 ≤ z.toInt ∧ z.toInt ≤ 8) ⟨rfl, (rw_101_6 hJ)⟩ (fun z_97 hz_97 => ?_)
            refine s_bipush (v := 8) E dX10_isFull_58 (by decide) ?_
            refine z_icmp_eq (tgt := 84) (u := z_97.toInt) (v := 8) E dX10_isFull_60 (by decide) rfl (by decide) (fun h_98 => ?_) (fun h_98 => ?_)
            ·
              refine s_iconst (v := 1) E dX10_isFull_84 (by decide) ?_
              refine s_goto (tgt := 89) E dX10_isFull_85 (by decide) ?_
              exact r_bool E dX10_isFull_89 (Or.inr rfl) ⟨⟨by decide, by decide, by first | (left; decide) | (right; decide) | (right; have hb_ := z32 (w.2.2.1 95 12); omega), by first | (left; decide) | (right; decide) | (right; have hb_ := z32 (w.2.2.1 95 10); omega)⟩, (by first | exact Or.inl (by decide) | exact Or.inr ⟨fun h_ => by have := hw_3.mpr h_; omega, fun h_ => by have := hw_23.mpr h_; omega, fun h_ => by have := hw_45.mpr h_; omega, fun h_ => by have := hw_66.mpr h_; omega⟩), rfl⟩
            ·
              refine s_aload_n E dX10_isFull_63 rfl rfl ?_
              refine s_ldcS (i := 23) E (by decide) rfl dX10_isFull_64 ?_
              refine s_vI (As := [AX (sA aC 23)]) (S := []) E (Z_X10_is_95 l D aC b w  hJ.1  23 (by decide)) cv_X10_143 rfl rfl rfl (jv_lt hJ (by decide)) (Nat.le_of_ble_eq_true rfl) (Nat.le_of_ble_eq_true rfl) ⟨(Nat.le_of_ble_eq_true rfl), (Nat.le_of_ble_eq_true rfl)⟩ (Nat.le_of_ble_eq_true rfl) dX10_isFull_66 (fun z_101 u_99 hp_100 => ?_)
              obtain ⟨hz_101, hxz_101, hp_100⟩ := hp_100
              subst hp_100
              have hw_66 := hxz_101
              refine z_if_eq (tgt := 88) (u := z_101.toInt) E dX10_isFull_69 (by decide) rfl (fun h_103 => ?_) (fun h_103 => ?_)
              ·
                refine s_iconst (v := 0) E dX10_isFull_88 (by decide) ?_
                exact r_bool E dX10_isFull_89 (Or.inl rfl) ⟨⟨by decide, by decide, by first | (left; decide) | (right; decide) | (right; have hb_ := z32 (w.2.2.1 95 12); omega), by first | (left; decide) | (right; decide) | (right; have hb_ := z32 (w.2.2.1 95 10); omega)⟩, (by first | exact Or.inl (by decide) | exact Or.inr ⟨fun h_ => by have := hw_3.mpr h_; omega, fun h_ => by have := hw_23.mpr h_; omega, fun h_ => by have := hw_45.mpr h_; omega, fun h_ => by have := hw_66.mpr h_; omega⟩), rfl⟩
              ·
                refine s_aload_n E dX10_isFull_72 rfl rfl ?_
                refine s_gR (r := 101) E fg_X10_31 rfl rfl (jv_lt hJ (by decide)) (jv_r hJ (by decide +kernel)) dX10_isFull_73 ?_
                refine s_bipush (v := 7) E dX10_isFull_76 (by decide) ?_
                refine s_iald E rfl (jv_lt hJ (by decide)) (z_in (u := 7) (by decide) (by omega) (by omega)) dX10_isFull_78 ?_
                refine z_nm (P := fun z => z.toInt = (w.2.2.1 101 7).toInt ∧ 0 ≤ z.toInt ∧ z.toInt ≤ 10) ⟨rfl, (rw_101_7 hJ)⟩ (fun z_104 hz_104 => ?_)
                refine s_bipush (v := 10) E dX10_isFull_79 (by decide) ?_
                refine z_icmp_ne (tgt := 88) (u := z_104.toInt) (v := 10) E dX10_isFull_81 (by decide) rfl (by decide) (fun h_105 => ?_) (fun h_105 => ?_)
                ·
                  refine s_iconst (v := 0) E dX10_isFull_88 (by decide) ?_
                  exact r_bool E dX10_isFull_89 (Or.inl rfl) ⟨⟨by decide, by decide, by first | (left; decide) | (right; decide) | (right; have hb_ := z32 (w.2.2.1 95 12); omega), by first | (left; decide) | (right; decide) | (right; have hb_ := z32 (w.2.2.1 95 10); omega)⟩, (by first | exact Or.inl (by decide) | exact Or.inr ⟨fun h_ => by have := hw_3.mpr h_; omega, fun h_ => by have := hw_23.mpr h_; omega, fun h_ => by have := hw_45.mpr h_; omega, fun h_ => by have := hw_66.mpr h_; omega⟩), rfl⟩
                ·
                  refine s_iconst (v := 1) E dX10_isFull_84 (by decide) ?_
                  refine s_goto (tgt := 89) E dX10_isFull_85 (by decide) ?_
                  exact r_bool E dX10_isFull_89 (Or.inr rfl) ⟨⟨by decide, by decide, by first | (left; decide) | (right; decide) | (right; have hb_ := z32 (w.2.2.1 95 12); omega), by first | (left; decide) | (right; decide) | (right; have hb_ := z32 (w.2.2.1 95 10); omega)⟩, (by first | exact Or.inl (by decide) | exact Or.inr ⟨fun h_ => by have := hw_3.mpr h_; omega, fun h_ => by have := hw_23.mpr h_; omega, fun h_ => by have := hw_45.mpr h_; omega, fun h_ => by have := hw_66.mpr h_; omega⟩), rfl⟩
        ·
          refine s_iconst (v := 1) E dX10_isFull_40 (by decide) ?_
          exact r_bool E dX10_isFull_41 (Or.inr rfl) ⟨⟨by decide, by decide, by first | (left; decide) | (right; decide) | (right; have hb_ := z32 (w.2.2.1 95 12); omega), by first | (left; decide) | (right; decide) | (right; have hb_ := z32 (w.2.2.1 95 10); omega)⟩, (Or.inl (by decide)), rfl⟩
set_option maxRecDepth 20000 in
set_option maxHeartbeats 2000000 in
theorem Z_X10_takes_95 (l : Launch) (D : va_G) (aC : Nat → ClassId) (b : Nat) (w : XW)  (hI : Iv w) (si : Nat) (hsi : si < 30) (hpi : (w.2.2.1 95 9).toInt ≤ (w.2.2.1 95 8).toInt ∧ ((w.2.2.1 95 10).toInt = 0 ∨ (w.2.2.1 95 9).toInt < (w.2.2.1 95 8).toInt)) : CnI l D aC b M_X10_takes 5 223 0 0 [AR 95, AX (sA aC si)] w (fun r u => (0 ≤ r.toInt ∧ r.toInt ≤ 1 ∧ (r.toInt = 0 ∨ (0 ≤ (w.2.2.1 95 12).toInt ∧ (w.2.2.1 95 12).toInt ≤ 0)) ∧ (r.toInt = 0 ∨ (1 ≤ (w.2.2.1 95 10).toInt ∧ (w.2.2.1 95 10).toInt ≤ 1))) ∧ ((r.toInt = 1 ↔ isP w si) ∧ (r.toInt = 1 ∨ w = u) ∧ (u.2.2.1 95 7).toInt = (w.2.2.1 95 7).toInt ∧ ((u.2.2.1 95 12).toInt = 0 → (w.2.2.1 95 12).toInt = 0) ∧ (w.2.2.1 95 9).toInt ≤ (u.2.2.1 95 9).toInt ∧ (u.2.2.1 95 9).toInt ≤ (u.2.2.1 95 8).toInt ∧ ((u.2.2.1 95 10).toInt = 0 ∨ (u.2.2.1 95 9).toInt < (u.2.2.1 95 8).toInt)) ∧ ((u.2.2.1 101) = (w.2.2.1 101)) ∧ Jv w u) := by
  refine cn_I (own := RX10) (nm := "takes") (L0 := [some (AR 95), some (AX (sA aC si)), none]) (by decide +kernel) rfl rfl (Nat.le_of_ble_eq_true rfl) rfl ?_
  intro p e s m args below meth c E hin
  have hJ : Jv w w := jv_rfl hI
  refine s_aload_n E dX10_takes_0 rfl rfl ?_
  refine s_xload_n E dX10_takes_1 rfl rfl ?_
  refine s_vI (As := [AX (sA aC si)]) (S := []) E (Z_X10_is_95 l D aC b w  hJ.1  si hsi) cv_X10_143 rfl rfl rfl (jv_lt hJ (by decide)) (Nat.le_of_ble_eq_true rfl) (Nat.le_of_ble_eq_true rfl) ⟨(Nat.le_of_ble_eq_true rfl), (Nat.le_of_ble_eq_true rfl)⟩ (Nat.le_of_ble_eq_true rfl) dX10_takes_2 (fun z_3 u_1 hp_2 => ?_)
  obtain ⟨hz_3, hxz_3, hp_2⟩ := hp_2
  subst hp_2
  have hi_ := hxz_3
  refine s_istore_n (L2 := [some (AR 95), some (AX (sA aC si)), some (AI z_3)]) E dX10_takes_5 rfl (by decide) rfl ?_
  refine s_iload_n E dX10_takes_6 rfl rfl ?_
  refine z_if_eq (tgt := 14) (u := z_3.toInt) E dX10_takes_7 (by decide) rfl (fun h_5 => ?_) (fun h_5 => ?_)
  ·
    refine s_iload_n E dX10_takes_14 rfl rfl ?_
    exact r_bool E dX10_takes_15 (z_bool (by omega) (by omega)) ⟨⟨by have hb_ := z32 z_3; omega, by have hb_ := z32 z_3; omega, by first | (right; decide) | (have hb_ := z32 z_3; omega) | (have hb_ := z32 z_3; have hc_ := z32 (w.2.2.1 95 12); omega), by first | (right; decide) | (have hb_ := z32 z_3; omega) | (have hb_ := z32 z_3; have hc_ := z32 (w.2.2.1 95 10); omega)⟩, (⟨hi_, by first | exact Or.inr rfl | exact Or.inl (by omega), by omega⟩), rfl, hJ⟩
  ·
    refine s_aload_n E dX10_takes_10 rfl rfl ?_
    refine s_vV (As := []) (S := []) E (Z_X10_advance_95 l D aC b w  hJ.1 ) cv_X10_147 rfl rfl rfl (jv_lt hJ (by decide)) (Nat.le_of_ble_eq_true rfl) (Nat.le_of_ble_eq_true rfl) ⟨(Nat.le_of_ble_eq_true rfl), (Nat.le_of_ble_eq_true rfl)⟩ (Nat.le_of_ble_eq_true rfl) dX10_takes_11 (fun u_6 hp_7 => ?_)
    obtain ⟨hx_hp_7, hf_u_6_99, hf_u_6_101, hp_7⟩ := hp_7
    have hj_8 := jv_trans hJ hp_7
    refine s_iload_n E dX10_takes_14 rfl rfl ?_
    exact r_bool E dX10_takes_15 (z_bool (by omega) (by omega)) ⟨⟨by have hb_ := z32 z_3; omega, by have hb_ := z32 z_3; omega, by first | (right; decide) | (have hb_ := z32 z_3; omega) | (have hb_ := z32 z_3; have hc_ := z32 (w.2.2.1 95 12); omega), by first | (right; decide) | (have hb_ := z32 z_3; omega) | (have hb_ := z32 z_3; have hc_ := z32 (w.2.2.1 95 10); omega)⟩, (⟨hi_, by first | exact Or.inr rfl | exact Or.inl (by omega), by omega⟩), hf_u_6_101, hj_8⟩
set_option maxRecDepth 20000 in
set_option maxHeartbeats 2000000 in
theorem Z_X10_errs_95 (l : Launch) (D : va_G) (aC : Nat → ClassId) (b : Nat) (w : XW) (x1 : Int32) (hI : Iv w) (hx1 : 1 ≤ x1.toInt ∧ x1.toInt ≤ 3) : CnV l D aC b M_X10_errs 1 20 0 0 [AR 95, AI x1] w (fun u => ((u.2.2.1 95 7).toInt = (w.2.2.1 95 7).toInt ∧ (u.2.2.1 95 8).toInt = (w.2.2.1 95 8).toInt ∧ (u.2.2.1 95 9).toInt = (w.2.2.1 95 9).toInt ∧ (u.2.2.1 95 10).toInt = (w.2.2.1 95 10).toInt ∧ ¬ (u.2.2.1 95 12).toInt = 0) ∧ ((u.2.2.1 101) = (w.2.2.1 101)) ∧ Jv w u) := by
  refine cn_V (own := RX10) (nm := "errs") (L0 := [some (AR 95), some (AI x1)]) (by decide +kernel) rfl rfl (Nat.le_of_ble_eq_true rfl) rfl ?_
  intro p e s m args below meth c E hin
  have hJ : Jv w w := jv_rfl hI
  refine s_aload_n E dX10_errs_0 rfl rfl ?_
  refine s_vI (As := []) (S := []) E (Z_X10_good_95 l D aC b w  hJ.1 ) cv_X10_130 rfl rfl rfl (jv_lt hJ (by decide)) (Nat.le_of_ble_eq_true rfl) (Nat.le_of_ble_eq_true rfl) ⟨(Nat.le_of_ble_eq_true rfl), (Nat.le_of_ble_eq_true rfl)⟩ (Nat.le_of_ble_eq_true rfl) dX10_errs_1 (fun z_3 u_1 hp_2 => ?_)
  obtain ⟨hz_3, hxz_3, hp_2⟩ := hp_2
  subst hp_2
  refine z_if_ne (tgt := 8) (u := z_3.toInt) E dX10_errs_4 (by decide) rfl (fun h_5 => ?_) (fun h_5 => ?_)
  ·
    refine s_aload_n E dX10_errs_8 rfl rfl ?_
    refine s_iload_n E dX10_errs_9 rfl rfl ?_
    refine s_pI E fp_X10_127 (Or.inl rfl) rfl (jv_lt hJ (by decide)) dX10_errs_10 ?_
    refine s_gen (P := fun v => Jv w v ∧ (v.2.2.1 95 7).toInt = (w.2.2.1 95 7).toInt ∧ (v.2.2.1 95 8).toInt = (w.2.2.1 95 8).toInt ∧ (v.2.2.1 95 9).toInt = (w.2.2.1 95 9).toInt ∧ (v.2.2.1 95 10).toInt = (w.2.2.1 95 10).toInt ∧ (v.2.2.1 95 12).toInt = x1.toInt ∧ (v.2.2.1 101) = (w.2.2.1 101)) ⟨(jv_f_95_12 hJ (by have hb_ := z32 x1; omega) (by have hb_ := z32 x1; omega)), rfl, rfl, rfl, rfl, rfl, (by first | rfl | exact upI_ne (by decide))⟩ (fun v_6 hj_7 => ?_)
    obtain ⟨hj_7, hk_8k0, hk_8k1, hk_8k2, hk_8k3, hk_8k4, hk_8c101⟩ := hj_7
    refine s_aload_n E dX10_errs_13 rfl rfl ?_
    refine s_aload_n E dX10_errs_14 rfl rfl ?_
    refine s_gI E fg_X10_103 rfl rfl (jv_lt hj_7 (by decide)) dX10_errs_15 ?_
    refine z_nm (P := fun z => z.toInt = (v_6.2.2.1 95 9).toInt ∧ 0 ≤ z.toInt ∧ z.toInt ≤ 1000) ⟨rfl, (rg_95_9 hj_7)⟩ (fun z_9 hz_9 => ?_)
    refine s_pI E fp_X10_27 (Or.inl rfl) rfl (jv_lt hj_7 (by decide)) dX10_errs_18 ?_
    refine s_gen (P := fun v => Jv w v ∧ (v.2.2.1 95 7).toInt = (v_6.2.2.1 95 7).toInt ∧ (v.2.2.1 95 8).toInt = (v_6.2.2.1 95 8).toInt ∧ (v.2.2.1 95 9).toInt = (v_6.2.2.1 95 9).toInt ∧ (v.2.2.1 95 10).toInt = (v_6.2.2.1 95 10).toInt ∧ (v.2.2.1 95 12).toInt = (v_6.2.2.1 95 12).toInt ∧ (v.2.2.1 101) = (v_6.2.2.1 101)) ⟨(jv_f_95_13 hj_7 (by have hb_ := z32 z_9; omega) (by have hb_ := z32 z_9; omega)), rfl, rfl, rfl, rfl, rfl, (by first | rfl | exact upI_ne (by decide))⟩ (fun v_10 hj_11 => ?_)
    obtain ⟨hj_11, hk_12k0, hk_12k1, hk_12k2, hk_12k3, hk_12k4, hk_12c101⟩ := hj_11
    exact r_void E dX10_errs_21 ⟨(by omega), (hk_12c101.trans hk_8c101), hj_11⟩
  ·
    exact r_void E dX10_errs_7 ⟨(by omega), rfl, hJ⟩
set_option maxRecDepth 20000 in
set_option maxHeartbeats 2000000 in
theorem Z_X10_number_95 (l : Launch) (D : va_G) (aC : Nat → ClassId) (b : Nat) (w : XW) (x1 : Int32) (x2 : Int32) (hI : Iv w) (hpi : (w.2.2.1 95 9).toInt ≤ (w.2.2.1 95 8).toInt ∧ ((w.2.2.1 95 10).toInt = 0 ∨ (w.2.2.1 95 9).toInt < (w.2.2.1 95 8).toInt)) : CnI l D aC b M_X10_number 2 46 0 0 [AR 95, AI x1, AI x2] w (fun r u => (0 ≤ r.toInt ∧ r.toInt ≤ 99999 ∧ (r.toInt = 0 ∨ (0 ≤ (w.2.2.1 95 12).toInt ∧ (w.2.2.1 95 12).toInt ≤ 0))) ∧ (((u.2.2.1 95 12).toInt = 0 → r.toInt = (w.2.2.1 95 11).toInt ∧ (w.2.2.1 95 10).toInt = 2) ∧ (r.toInt = 0 ∨ (x1.toInt ≤ r.toInt ∧ r.toInt ≤ x2.toInt)) ∧ ((u.2.2.1 95 12).toInt = 0 → x1.toInt ≤ r.toInt ∧ r.toInt ≤ x2.toInt) ∧ (u.2.2.1 95 7).toInt = (w.2.2.1 95 7).toInt ∧ ((u.2.2.1 95 12).toInt = 0 → (w.2.2.1 95 12).toInt = 0) ∧ (w.2.2.1 95 9).toInt ≤ (u.2.2.1 95 9).toInt ∧ (u.2.2.1 95 9).toInt ≤ (u.2.2.1 95 8).toInt ∧ ((u.2.2.1 95 10).toInt = 0 ∨ (u.2.2.1 95 9).toInt < (u.2.2.1 95 8).toInt)) ∧ ((u.2.2.1 101) = (w.2.2.1 101)) ∧ Jv w u) := by
  refine cn_I (own := RX10) (nm := "number") (L0 := [some (AR 95), some (AI x1), some (AI x2), none]) (by decide +kernel) rfl rfl (Nat.le_of_ble_eq_true rfl) rfl ?_
  intro p e s m args below meth c E hin
  have hJ : Jv w w := jv_rfl hI
  have hb_x1 := z32 x1
  have hb_x2 := z32 x2
  refine s_aload_n E dX10_number_0 rfl rfl ?_
  refine s_vI (As := []) (S := []) E (Z_X10_good_95 l D aC b w  hJ.1 ) cv_X10_130 rfl rfl rfl (jv_lt hJ (by decide)) (Nat.le_of_ble_eq_true rfl) (Nat.le_of_ble_eq_true rfl) ⟨(Nat.le_of_ble_eq_true rfl), (Nat.le_of_ble_eq_true rfl)⟩ (Nat.le_of_ble_eq_true rfl) dX10_number_1 (fun z_3 u_1 hp_2 => ?_)
  obtain ⟨hz_3, hxz_3, hp_2⟩ := hp_2
  subst hp_2
  refine z_if_eq (tgt := 20) (u := z_3.toInt) E dX10_number_4 (by decide) rfl (fun h_5 => ?_) (fun h_5 => ?_)
  ·
    refine s_aload_n E dX10_number_20 rfl rfl ?_
    refine s_vI (As := []) (S := []) E (Z_X10_good_95 l D aC b w  hJ.1 ) cv_X10_130 rfl rfl rfl (jv_lt hJ (by decide)) (Nat.le_of_ble_eq_true rfl) (Nat.le_of_ble_eq_true rfl) ⟨(Nat.le_of_ble_eq_true rfl), (Nat.le_of_ble_eq_true rfl)⟩ (Nat.le_of_ble_eq_true rfl) dX10_number_21 (fun z_8 u_6 hp_7 => ?_)
    obtain ⟨hz_8, hxz_8, hp_7⟩ := hp_7
    subst hp_7
    refine z_if_eq (tgt := 47) (u := z_8.toInt) E dX10_number_24 (by decide) rfl (fun h_10 => ?_) (fun h_10 => ?_)
    ·
      refine s_aload_n E dX10_number_47 rfl rfl ?_
      refine s_vI (As := []) (S := []) E (Z_X10_good_95 l D aC b w  hJ.1 ) cv_X10_130 rfl rfl rfl (jv_lt hJ (by decide)) (Nat.le_of_ble_eq_true rfl) (Nat.le_of_ble_eq_true rfl) ⟨(Nat.le_of_ble_eq_true rfl), (Nat.le_of_ble_eq_true rfl)⟩ (Nat.le_of_ble_eq_true rfl) dX10_number_48 (fun z_13 u_11 hp_12 => ?_)
      obtain ⟨hz_13, hxz_13, hp_12⟩ := hp_12
      subst hp_12
      refine z_if_ne (tgt := 56) (u := z_13.toInt) E dX10_number_51 (by decide) rfl (fun h_15 => ?_) (fun h_15 => ?_)
      ·
        refine s_aload_n E dX10_number_56 rfl rfl ?_
        refine s_gI E fg_X10_117 rfl rfl (jv_lt hJ (by decide)) dX10_number_57 ?_
        refine z_nm (P := fun z => z.toInt = (w.2.2.1 95 11).toInt ∧ 0 ≤ z.toInt ∧ z.toInt ≤ 99999) ⟨rfl, (rg_95_11 hJ)⟩ (fun z_16 hz_16 => ?_)
        refine s_istore_n (L2 := [some (AR 95), some (AI x1), some (AI x2), some (AI z_16)]) E dX10_number_60 rfl (by decide) rfl ?_
        refine s_aload_n E dX10_number_61 rfl rfl ?_
        refine s_vV (As := []) (S := []) E (Z_X10_advance_95 l D aC b w  hJ.1 ) cv_X10_147 rfl rfl rfl (jv_lt hJ (by decide)) (Nat.le_of_ble_eq_true rfl) (Nat.le_of_ble_eq_true rfl) ⟨(Nat.le_of_ble_eq_true rfl), (Nat.le_of_ble_eq_true rfl)⟩ (Nat.le_of_ble_eq_true rfl) dX10_number_62 (fun u_17 hp_18 => ?_)
        obtain ⟨hx_hp_18, hf_u_17_99, hf_u_17_101, hp_18⟩ := hp_18
        have hj_19 := jv_trans hJ hp_18
        refine s_iload_n E dX10_number_65 rfl rfl ?_
        exact r_int E dX10_number_66 ⟨⟨by have hb_ := z32 z_16; omega, by have hb_ := z32 z_16; omega, by first | (right; decide) | (have hb_ := z32 z_16; omega) | (have hb_ := z32 z_16; have hc_ := z32 (w.2.2.1 95 12); omega)⟩, (by omega), hf_u_17_101, hj_19⟩
      ·
        refine s_iconst (v := 0) E dX10_number_54 (by decide) ?_
        exact r_int E dX10_number_55 ⟨⟨by decide, by decide, by first | (left; decide) | (right; decide) | (right; have hb_ := z32 (w.2.2.1 95 12); omega)⟩, (by omega), rfl, hJ⟩
    ·
      refine s_aload_n E dX10_number_27 rfl rfl ?_
      refine s_gI E fg_X10_117 rfl rfl (jv_lt hJ (by decide)) dX10_number_28 ?_
      refine z_nm (P := fun z => z.toInt = (w.2.2.1 95 11).toInt ∧ 0 ≤ z.toInt ∧ z.toInt ≤ 99999) ⟨rfl, (rg_95_11 hJ)⟩ (fun z_20 hz_20 => ?_)
      refine z_i2l (u := z_20.toInt) E dX10_number_31 rfl (fun z_21 hz_21 => ?_)
      refine s_iload_n E dX10_number_32 rfl rfl ?_
      refine z_i2l (u := x1.toInt) E dX10_number_33 rfl (fun z_22 hz_22 => ?_)
      refine s_iload_n E dX10_number_34 rfl rfl ?_
      refine z_i2l (u := x2.toInt) E dX10_number_35 rfl (fun z_23 hz_23 => ?_)
      refine s_sI (As := [AL z_21, AL z_22, AL z_23]) (S := []) E (Z_X10_in l D aC b w z_21 z_22 z_23) cs_X10_82 rfl rfl (Nat.le_of_ble_eq_true rfl) (Nat.le_of_ble_eq_true rfl) ⟨(Nat.le_of_ble_eq_true rfl), (Nat.le_of_ble_eq_true rfl)⟩ (Nat.le_of_ble_eq_true rfl) dX10_number_36 (fun z_24 u_25 hp_26 => ?_)
      obtain ⟨hz_24, hp_26⟩ := hp_26
      subst hp_26
      refine z_if_ne (tgt := 47) (u := z_24.toInt) E dX10_number_39 (by decide) rfl (fun h_27 => ?_) (fun h_27 => ?_)
      ·
        refine s_aload_n E dX10_number_47 rfl rfl ?_
        refine s_vI (As := []) (S := []) E (Z_X10_good_95 l D aC b w  hJ.1 ) cv_X10_130 rfl rfl rfl (jv_lt hJ (by decide)) (Nat.le_of_ble_eq_true rfl) (Nat.le_of_ble_eq_true rfl) ⟨(Nat.le_of_ble_eq_true rfl), (Nat.le_of_ble_eq_true rfl)⟩ (Nat.le_of_ble_eq_true rfl) dX10_number_48 (fun z_30 u_28 hp_29 => ?_)
        obtain ⟨hz_30, hxz_30, hp_29⟩ := hp_29
        subst hp_29
        refine z_if_ne (tgt := 56) (u := z_30.toInt) E dX10_number_51 (by decide) rfl (fun h_32 => ?_) (fun h_32 => ?_)
        ·
          refine s_aload_n E dX10_number_56 rfl rfl ?_
          refine s_gI E fg_X10_117 rfl rfl (jv_lt hJ (by decide)) dX10_number_57 ?_
          refine z_nm (P := fun z => z.toInt = (w.2.2.1 95 11).toInt ∧ 0 ≤ z.toInt ∧ z.toInt ≤ 99999) ⟨rfl, (rg_95_11 hJ)⟩ (fun z_33 hz_33 => ?_)
          refine s_istore_n (L2 := [some (AR 95), some (AI x1), some (AI x2), some (AI z_33)]) E dX10_number_60 rfl (by decide) rfl ?_
          refine s_aload_n E dX10_number_61 rfl rfl ?_
          refine s_vV (As := []) (S := []) E (Z_X10_advance_95 l D aC b w  hJ.1 ) cv_X10_147 rfl rfl rfl (jv_lt hJ (by decide)) (Nat.le_of_ble_eq_true rfl) (Nat.le_of_ble_eq_true rfl) ⟨(Nat.le_of_ble_eq_true rfl), (Nat.le_of_ble_eq_true rfl)⟩ (Nat.le_of_ble_eq_true rfl) dX10_number_62 (fun u_34 hp_35 => ?_)
          obtain ⟨hx_hp_35, hf_u_34_99, hf_u_34_101, hp_35⟩ := hp_35
          have hj_36 := jv_trans hJ hp_35
          refine s_iload_n E dX10_number_65 rfl rfl ?_
          exact r_int E dX10_number_66 ⟨⟨by have hb_ := z32 z_33; omega, by have hb_ := z32 z_33; omega, by first | (right; decide) | (have hb_ := z32 z_33; omega) | (have hb_ := z32 z_33; have hc_ := z32 (w.2.2.1 95 12); omega)⟩, (by omega), hf_u_34_101, hj_36⟩
        ·
          refine s_iconst (v := 0) E dX10_number_54 (by decide) ?_
          exact r_int E dX10_number_55 ⟨⟨by decide, by decide, by first | (left; decide) | (right; decide) | (right; have hb_ := z32 (w.2.2.1 95 12); omega)⟩, (by omega), rfl, hJ⟩
      ·
        refine s_aload_n E dX10_number_42 rfl rfl ?_
        refine s_iconst (v := 2) E dX10_number_43 (by decide) ?_
        refine s_vV (As := [AI 2]) (S := []) E (Z_X10_errs_95 l D aC b w 2 hJ.1 (by decide)) cv_X10_153 rfl rfl rfl (jv_lt hJ (by decide)) (Nat.le_of_ble_eq_true rfl) (Nat.le_of_ble_eq_true rfl) ⟨(Nat.le_of_ble_eq_true rfl), (Nat.le_of_ble_eq_true rfl)⟩ (Nat.le_of_ble_eq_true rfl) dX10_number_44 (fun u_37 hp_38 => ?_)
        have hc_ : (2 : Int32).toInt = 2 := by decide
        obtain ⟨hx_hp_38, hf_u_37_101, hp_38⟩ := hp_38
        have hj_39 := jv_trans hJ hp_38
        refine s_aload_n E dX10_number_47 rfl rfl ?_
        refine s_vI (As := []) (S := []) E (Z_X10_good_95 l D aC b u_37  hj_39.1 ) cv_X10_130 rfl rfl rfl (jv_lt hj_39 (by decide)) (Nat.le_of_ble_eq_true rfl) (Nat.le_of_ble_eq_true rfl) ⟨(Nat.le_of_ble_eq_true rfl), (Nat.le_of_ble_eq_true rfl)⟩ (Nat.le_of_ble_eq_true rfl) dX10_number_48 (fun z_42 u_40 hp_41 => ?_)
        obtain ⟨hz_42, hxz_42, hp_41⟩ := hp_41
        subst hp_41
        refine z_if_ne (tgt := 56) (u := z_42.toInt) E dX10_number_51 (by decide) rfl (fun h_44 => ?_) (fun h_44 => ?_)
        ·
          refine s_aload_n E dX10_number_56 rfl rfl ?_
          refine s_gI E fg_X10_117 rfl rfl (jv_lt hj_39 (by decide)) dX10_number_57 ?_
          refine z_nm (P := fun z => z.toInt = (u_37.2.2.1 95 11).toInt ∧ 0 ≤ z.toInt ∧ z.toInt ≤ 99999) ⟨rfl, (rg_95_11 hj_39)⟩ (fun z_45 hz_45 => ?_)
          refine s_istore_n (L2 := [some (AR 95), some (AI x1), some (AI x2), some (AI z_45)]) E dX10_number_60 rfl (by decide) rfl ?_
          refine s_aload_n E dX10_number_61 rfl rfl ?_
          refine s_vV (As := []) (S := []) E (Z_X10_advance_95 l D aC b u_37  hj_39.1 ) cv_X10_147 rfl rfl rfl (jv_lt hj_39 (by decide)) (Nat.le_of_ble_eq_true rfl) (Nat.le_of_ble_eq_true rfl) ⟨(Nat.le_of_ble_eq_true rfl), (Nat.le_of_ble_eq_true rfl)⟩ (Nat.le_of_ble_eq_true rfl) dX10_number_62 (fun u_46 hp_47 => ?_)
          obtain ⟨hx_hp_47, hf_u_46_99, hf_u_46_101, hp_47⟩ := hp_47
          have hj_48 := jv_trans hj_39 hp_47
          refine s_iload_n E dX10_number_65 rfl rfl ?_
          exact r_int E dX10_number_66 ⟨⟨by have hb_ := z32 z_45; omega, by have hb_ := z32 z_45; omega, by first | (right; decide) | (have hb_ := z32 z_45; omega) | (have hb_ := z32 z_45; have hc_ := z32 (w.2.2.1 95 12); omega)⟩, (by omega), (hf_u_46_101.trans hf_u_37_101), hj_48⟩
        ·
          refine s_iconst (v := 0) E dX10_number_54 (by decide) ?_
          exact r_int E dX10_number_55 ⟨⟨by decide, by decide, by first | (left; decide) | (right; decide) | (right; have hb_ := z32 (w.2.2.1 95 12); omega)⟩, (by omega), hf_u_37_101, hj_39⟩
  ·
    refine s_aload_n E dX10_number_7 rfl rfl ?_
    refine s_gI E fg_X10_106 rfl rfl (jv_lt hJ (by decide)) dX10_number_8 ?_
    refine z_nm (P := fun z => z.toInt = (w.2.2.1 95 10).toInt ∧ 0 ≤ z.toInt ∧ z.toInt ≤ 4) ⟨rfl, (rg_95_10 hJ)⟩ (fun z_49 hz_49 => ?_)
    refine s_iconst (v := 2) E dX10_number_11 (by decide) ?_
    refine z_icmp_eq (tgt := 20) (u := z_49.toInt) (v := 2) E dX10_number_12 (by decide) rfl (by decide) (fun h_50 => ?_) (fun h_50 => ?_)
    ·
      refine s_aload_n E dX10_number_20 rfl rfl ?_
      refine s_vI (As := []) (S := []) E (Z_X10_good_95 l D aC b w  hJ.1 ) cv_X10_130 rfl rfl rfl (jv_lt hJ (by decide)) (Nat.le_of_ble_eq_true rfl) (Nat.le_of_ble_eq_true rfl) ⟨(Nat.le_of_ble_eq_true rfl), (Nat.le_of_ble_eq_true rfl)⟩ (Nat.le_of_ble_eq_true rfl) dX10_number_21 (fun z_53 u_51 hp_52 => ?_)
      obtain ⟨hz_53, hxz_53, hp_52⟩ := hp_52
      subst hp_52
      refine z_if_eq (tgt := 47) (u := z_53.toInt) E dX10_number_24 (by decide) rfl (fun h_55 => ?_) (fun h_55 => ?_)
      ·
        refine s_aload_n E dX10_number_47 rfl rfl ?_
        refine s_vI (As := []) (S := []) E (Z_X10_good_95 l D aC b w  hJ.1 ) cv_X10_130 rfl rfl rfl (jv_lt hJ (by decide)) (Nat.le_of_ble_eq_true rfl) (Nat.le_of_ble_eq_true rfl) ⟨(Nat.le_of_ble_eq_true rfl), (Nat.le_of_ble_eq_true rfl)⟩ (Nat.le_of_ble_eq_true rfl) dX10_number_48 (fun z_58 u_56 hp_57 => ?_)
        obtain ⟨hz_58, hxz_58, hp_57⟩ := hp_57
        subst hp_57
        refine z_if_ne (tgt := 56) (u := z_58.toInt) E dX10_number_51 (by decide) rfl (fun h_60 => ?_) (fun h_60 => ?_)
        ·
          refine s_aload_n E dX10_number_56 rfl rfl ?_
          refine s_gI E fg_X10_117 rfl rfl (jv_lt hJ (by decide)) dX10_number_57 ?_
          refine z_nm (P := fun z => z.toInt = (w.2.2.1 95 11).toInt ∧ 0 ≤ z.toInt ∧ z.toInt ≤ 99999) ⟨rfl, (rg_95_11 hJ)⟩ (fun z_61 hz_61 => ?_)
          refine s_istore_n (L2 := [some (AR 95), some (AI x1), some (AI x2), some (AI z_61)]) E dX10_number_60 rfl (by decide) rfl ?_
          refine s_aload_n E dX10_number_61 rfl rfl ?_
          refine s_vV (As := []) (S := []) E (Z_X10_advance_95 l D aC b w  hJ.1 ) cv_X10_147 rfl rfl rfl (jv_lt hJ (by decide)) (Nat.le_of_ble_eq_true rfl) (Nat.le_of_ble_eq_true rfl) ⟨(Nat.le_of_ble_eq_true rfl), (Nat.le_of_ble_eq_true rfl)⟩ (Nat.le_of_ble_eq_true rfl) dX10_number_62 (fun u_62 hp_63 => ?_)
          obtain ⟨hx_hp_63, hf_u_62_99, hf_u_62_101, hp_63⟩ := hp_63
          have hj_64 := jv_trans hJ hp_63
          refine s_iload_n E dX10_number_65 rfl rfl ?_
          exact r_int E dX10_number_66 ⟨⟨by have hb_ := z32 z_61; omega, by have hb_ := z32 z_61; omega, by first | (right; decide) | (have hb_ := z32 z_61; omega) | (have hb_ := z32 z_61; have hc_ := z32 (w.2.2.1 95 12); omega)⟩, (by omega), hf_u_62_101, hj_64⟩
        ·
          refine s_iconst (v := 0) E dX10_number_54 (by decide) ?_
          exact r_int E dX10_number_55 ⟨⟨by decide, by decide, by first | (left; decide) | (right; decide) | (right; have hb_ := z32 (w.2.2.1 95 12); omega)⟩, (by omega), rfl, hJ⟩
      ·
        refine s_aload_n E dX10_number_27 rfl rfl ?_
        refine s_gI E fg_X10_117 rfl rfl (jv_lt hJ (by decide)) dX10_number_28 ?_
        refine z_nm (P := fun z => z.toInt = (w.2.2.1 95 11).toInt ∧ 0 ≤ z.toInt ∧ z.toInt ≤ 99999) ⟨rfl, (rg_95_11 hJ)⟩ (fun z_65 hz_65 => ?_)
        refine z_i2l (u := z_65.toInt) E dX10_number_31 rfl (fun z_66 hz_66 => ?_)
        refine s_iload_n E dX10_number_32 rfl rfl ?_
        refine z_i2l (u := x1.toInt) E dX10_number_33 rfl (fun z_67 hz_67 => ?_)
        refine s_iload_n E dX10_number_34 rfl rfl ?_
        refine z_i2l (u := x2.toInt) E dX10_number_35 rfl (fun z_68 hz_68 => ?_)
        refine s_sI (As := [AL z_66, AL z_67, AL z_68]) (S := []) E (Z_X10_in l D aC b w z_66 z_67 z_68) cs_X10_82 rfl rfl (Nat.le_of_ble_eq_true rfl) (Nat.le_of_ble_eq_true rfl) ⟨(Nat.le_of_ble_eq_true rfl), (Nat.le_of_ble_eq_true rfl)⟩ (Nat.le_of_ble_eq_true rfl) dX10_number_36 (fun z_69 u_70 hp_71 => ?_)
        obtain ⟨hz_69, hp_71⟩ := hp_71
        subst hp_71
        refine z_if_ne (tgt := 47) (u := z_69.toInt) E dX10_number_39 (by decide) rfl (fun h_72 => ?_) (fun h_72 => ?_)
        ·
          refine s_aload_n E dX10_number_47 rfl rfl ?_
          refine s_vI (As := []) (S := []) E (Z_X10_good_95 l D aC b w  hJ.1 ) cv_X10_130 rfl rfl rfl (jv_lt hJ (by decide)) (Nat.le_of_ble_eq_true rfl) (Nat.le_of_ble_eq_true rfl) ⟨(Nat.le_of_ble_eq_true rfl), (Nat.le_of_ble_eq_true rfl)⟩ (Nat.le_of_ble_eq_true rfl) dX10_number_48 (fun z_75 u_73 hp_74 => ?_)
          obtain ⟨hz_75, hxz_75, hp_74⟩ := hp_74
          subst hp_74
          refine z_if_ne (tgt := 56) (u := z_75.toInt) E dX10_number_51 (by decide) rfl (fun h_77 => ?_) (fun h_77 => ?_)
          ·
            refine s_aload_n E dX10_number_56 rfl rfl ?_
            refine s_gI E fg_X10_117 rfl rfl (jv_lt hJ (by decide)) dX10_number_57 ?_
            refine z_nm (P := fun z => z.toInt = (w.2.2.1 95 11).toInt ∧ 0 ≤ z.toInt ∧ z.toInt ≤ 99999) ⟨rfl, (rg_95_11 hJ)⟩ (fun z_78 hz_78 => ?_)
            refine s_istore_n (L2 := [some (AR 95), some (AI x1), some (AI x2), some (AI z_78)]) E dX10_number_60 rfl (by decide) rfl ?_
            refine s_aload_n E dX10_number_61 rfl rfl ?_
            refine s_vV (As := []) (S := []) E (Z_X10_advance_95 l D aC b w  hJ.1 ) cv_X10_147 rfl rfl rfl (jv_lt hJ (by decide)) (Nat.le_of_ble_eq_true rfl) (Nat.le_of_ble_eq_true rfl) ⟨(Nat.le_of_ble_eq_true rfl), (Nat.le_of_ble_eq_true rfl)⟩ (Nat.le_of_ble_eq_true rfl) dX10_number_62 (fun u_79 hp_80 => ?_)
            obtain ⟨hx_hp_80, hf_u_79_99, hf_u_79_101, hp_80⟩ := hp_80
            have hj_81 := jv_trans hJ hp_80
            refine s_iload_n E dX10_number_65 rfl rfl ?_
            exact r_int E dX10_number_66 ⟨⟨by have hb_ := z32 z_78; omega, by have hb_ := z32 z_78; omega, by first | (right; decide) | (have hb_ := z32 z_78; omega) | (have hb_ := z32 z_78; have hc_ := z32 (w.2.2.1 95 12); omega)⟩, (by omega), hf_u_79_101, hj_81⟩
          ·
            refine s_iconst (v := 0) E dX10_number_54 (by decide) ?_
            exact r_int E dX10_number_55 ⟨⟨by decide, by decide, by first | (left; decide) | (right; decide) | (right; have hb_ := z32 (w.2.2.1 95 12); omega)⟩, (by omega), rfl, hJ⟩
        ·
          refine s_aload_n E dX10_number_42 rfl rfl ?_
          refine s_iconst (v := 2) E dX10_number_43 (by decide) ?_
          refine s_vV (As := [AI 2]) (S := []) E (Z_X10_errs_95 l D aC b w 2 hJ.1 (by decide)) cv_X10_153 rfl rfl rfl (jv_lt hJ (by decide)) (Nat.le_of_ble_eq_true rfl) (Nat.le_of_ble_eq_true rfl) ⟨(Nat.le_of_ble_eq_true rfl), (Nat.le_of_ble_eq_true rfl)⟩ (Nat.le_of_ble_eq_true rfl) dX10_number_44 (fun u_82 hp_83 => ?_)
          have hc_ : (2 : Int32).toInt = 2 := by decide
          obtain ⟨hx_hp_83, hf_u_82_101, hp_83⟩ := hp_83
          have hj_84 := jv_trans hJ hp_83
          refine s_aload_n E dX10_number_47 rfl rfl ?_
          refine s_vI (As := []) (S := []) E (Z_X10_good_95 l D aC b u_82  hj_84.1 ) cv_X10_130 rfl rfl rfl (jv_lt hj_84 (by decide)) (Nat.le_of_ble_eq_true rfl) (Nat.le_of_ble_eq_true rfl) ⟨(Nat.le_of_ble_eq_true rfl), (Nat.le_of_ble_eq_true rfl)⟩ (Nat.le_of_ble_eq_true rfl) dX10_number_48 (fun z_87 u_85 hp_86 => ?_)
          obtain ⟨hz_87, hxz_87, hp_86⟩ := hp_86
          subst hp_86
          refine z_if_ne (tgt := 56) (u := z_87.toInt) E dX10_number_51 (by decide) rfl (fun h_89 => ?_) (fun h_89 => ?_)
          ·
            refine s_aload_n E dX10_number_56 rfl rfl ?_
            refine s_gI E fg_X10_117 rfl rfl (jv_lt hj_84 (by decide)) dX10_number_57 ?_
            refine z_nm (P := fun z => z.toInt = (u_82.2.2.1 95 11).toInt ∧ 0 ≤ z.toInt ∧ z.toInt ≤ 99999) ⟨rfl, (rg_95_11 hj_84)⟩ (fun z_90 hz_90 => ?_)
            refine s_istore_n (L2 := [some (AR 95), some (AI x1), some (AI x2), some (AI z_90)]) E dX10_number_60 rfl (by decide) rfl ?_
            refine s_aload_n E dX10_number_61 rfl rfl ?_
            refine s_vV (As := []) (S := []) E (Z_X10_advance_95 l D aC b u_82  hj_84.1 ) cv_X10_147 rfl rfl rfl (jv_lt hj_84 (by decide)) (Nat.le_of_ble_eq_true rfl) (Nat.le_of_ble_eq_true rfl) ⟨(Nat.le_of_ble_eq_true rfl), (Nat.le_of_ble_eq_true rfl)⟩ (Nat.le_of_ble_eq_true rfl) dX10_number_62 (fun u_91 hp_92 => ?_)
            obtain ⟨hx_hp_92, hf_u_91_99, hf_u_91_101, hp_92⟩ := hp_92
            have hj_93 := jv_trans hj_84 hp_92
            refine s_iload_n E dX10_number_65 rfl rfl ?_
            exact r_int E dX10_number_66 ⟨⟨by have hb_ := z32 z_90; omega, by have hb_ := z32 z_90; omega, by first | (right; decide) | (have hb_ := z32 z_90; omega) | (have hb_ := z32 z_90; have hc_ := z32 (w.2.2.1 95 12); omega)⟩, (by omega), (hf_u_91_101.trans hf_u_82_101), hj_93⟩
          ·
            refine s_iconst (v := 0) E dX10_number_54 (by decide) ?_
            exact r_int E dX10_number_55 ⟨⟨by decide, by decide, by first | (left; decide) | (right; decide) | (right; have hb_ := z32 (w.2.2.1 95 12); omega)⟩, (by omega), hf_u_82_101, hj_84⟩
    ·
      refine s_aload_n E dX10_number_15 rfl rfl ?_
      refine s_iconst (v := 1) E dX10_number_16 (by decide) ?_
      refine s_vV (As := [AI 1]) (S := []) E (Z_X10_errs_95 l D aC b w 1 hJ.1 (by decide)) cv_X10_153 rfl rfl rfl (jv_lt hJ (by decide)) (Nat.le_of_ble_eq_true rfl) (Nat.le_of_ble_eq_true rfl) ⟨(Nat.le_of_ble_eq_true rfl), (Nat.le_of_ble_eq_true rfl)⟩ (Nat.le_of_ble_eq_true rfl) dX10_number_17 (fun u_94 hp_95 => ?_)
      have hc_ : (1 : Int32).toInt = 1 := by decide
      obtain ⟨hx_hp_95, hf_u_94_101, hp_95⟩ := hp_95
      have hj_96 := jv_trans hJ hp_95
      refine s_aload_n E dX10_number_20 rfl rfl ?_
      refine s_vI (As := []) (S := []) E (Z_X10_good_95 l D aC b u_94  hj_96.1 ) cv_X10_130 rfl rfl rfl (jv_lt hj_96 (by decide)) (Nat.le_of_ble_eq_true rfl) (Nat.le_of_ble_eq_true rfl) ⟨(Nat.le_of_ble_eq_true rfl), (Nat.le_of_ble_eq_true rfl)⟩ (Nat.le_of_ble_eq_true rfl) dX10_number_21 (fun z_99 u_97 hp_98 => ?_)
      obtain ⟨hz_99, hxz_99, hp_98⟩ := hp_98
      subst hp_98
      refine z_if_eq (tgt := 47) (u := z_99.toInt) E dX10_number_24 (by decide) rfl (fun h_101 => ?_) (fun h_101 => ?_)
      ·
        refine s_aload_n E dX10_number_47 rfl rfl ?_
        refine s_vI (As := []) (S := []) E (Z_X10_good_95 l D aC b u_94  hj_96.1 ) cv_X10_130 rfl rfl rfl (jv_lt hj_96 (by decide)) (Nat.le_of_ble_eq_true rfl) (Nat.le_of_ble_eq_true rfl) ⟨(Nat.le_of_ble_eq_true rfl), (Nat.le_of_ble_eq_true rfl)⟩ (Nat.le_of_ble_eq_true rfl) dX10_number_48 (fun z_104 u_102 hp_103 => ?_)
        obtain ⟨hz_104, hxz_104, hp_103⟩ := hp_103
        subst hp_103
        refine z_if_ne (tgt := 56) (u := z_104.toInt) E dX10_number_51 (by decide) rfl (fun h_106 => ?_) (fun h_106 => ?_)
        ·
          refine s_aload_n E dX10_number_56 rfl rfl ?_
          refine s_gI E fg_X10_117 rfl rfl (jv_lt hj_96 (by decide)) dX10_number_57 ?_
          refine z_nm (P := fun z => z.toInt = (u_94.2.2.1 95 11).toInt ∧ 0 ≤ z.toInt ∧ z.toInt ≤ 99999) ⟨rfl, (rg_95_11 hj_96)⟩ (fun z_107 hz_107 => ?_)
          refine s_istore_n (L2 := [some (AR 95), some (AI x1), some (AI x2), some (AI z_107)]) E dX10_number_60 rfl (by decide) rfl ?_
          refine s_aload_n E dX10_number_61 rfl rfl ?_
          refine s_vV (As := []) (S := []) E (Z_X10_advance_95 l D aC b u_94  hj_96.1 ) cv_X10_147 rfl rfl rfl (jv_lt hj_96 (by decide)) (Nat.le_of_ble_eq_true rfl) (Nat.le_of_ble_eq_true rfl) ⟨(Nat.le_of_ble_eq_true rfl), (Nat.le_of_ble_eq_true rfl)⟩ (Nat.le_of_ble_eq_true rfl) dX10_number_62 (fun u_108 hp_109 => ?_)
          obtain ⟨hx_hp_109, hf_u_108_99, hf_u_108_101, hp_109⟩ := hp_109
          have hj_110 := jv_trans hj_96 hp_109
          refine s_iload_n E dX10_number_65 rfl rfl ?_
          exact r_int E dX10_number_66 ⟨⟨by have hb_ := z32 z_107; omega, by have hb_ := z32 z_107; omega, by first | (right; decide) | (have hb_ := z32 z_107; omega) | (have hb_ := z32 z_107; have hc_ := z32 (w.2.2.1 95 12); omega)⟩, (by omega), (hf_u_108_101.trans hf_u_94_101), hj_110⟩
        ·
          refine s_iconst (v := 0) E dX10_number_54 (by decide) ?_
          exact r_int E dX10_number_55 ⟨⟨by decide, by decide, by first | (left; decide) | (right; decide) | (right; have hb_ := z32 (w.2.2.1 95 12); omega)⟩, (by omega), hf_u_94_101, hj_96⟩
      ·
        refine s_aload_n E dX10_number_27 rfl rfl ?_
        refine s_gI E fg_X10_117 rfl rfl (jv_lt hj_96 (by decide)) dX10_number_28 ?_
        refine z_nm (P := fun z => z.toInt = (u_94.2.2.1 95 11).toInt ∧ 0 ≤ z.toInt ∧ z.toInt ≤ 99999) ⟨rfl, (rg_95_11 hj_96)⟩ (fun z_111 hz_111 => ?_)
        refine z_i2l (u := z_111.toInt) E dX10_number_31 rfl (fun z_112 hz_112 => ?_)
        refine s_iload_n E dX10_number_32 rfl rfl ?_
        refine z_i2l (u := x1.toInt) E dX10_number_33 rfl (fun z_113 hz_113 => ?_)
        refine s_iload_n E dX10_number_34 rfl rfl ?_
        refine z_i2l (u := x2.toInt) E dX10_number_35 rfl (fun z_114 hz_114 => ?_)
        refine s_sI (As := [AL z_112, AL z_113, AL z_114]) (S := []) E (Z_X10_in l D aC b u_94 z_112 z_113 z_114) cs_X10_82 rfl rfl (Nat.le_of_ble_eq_true rfl) (Nat.le_of_ble_eq_true rfl) ⟨(Nat.le_of_ble_eq_true rfl), (Nat.le_of_ble_eq_true rfl)⟩ (Nat.le_of_ble_eq_true rfl) dX10_number_36 (fun z_115 u_116 hp_117 => ?_)
        obtain ⟨hz_115, hp_117⟩ := hp_117
        subst hp_117
        refine z_if_ne (tgt := 47) (u := z_115.toInt) E dX10_number_39 (by decide) rfl (fun h_118 => ?_) (fun h_118 => ?_)
        ·
          refine s_aload_n E dX10_number_47 rfl rfl ?_
          refine s_vI (As := []) (S := []) E (Z_X10_good_95 l D aC b u_94  hj_96.1 ) cv_X10_130 rfl rfl rfl (jv_lt hj_96 (by decide)) (Nat.le_of_ble_eq_true rfl) (Nat.le_of_ble_eq_true rfl) ⟨(Nat.le_of_ble_eq_true rfl), (Nat.le_of_ble_eq_true rfl)⟩ (Nat.le_of_ble_eq_true rfl) dX10_number_48 (fun z_121 u_119 hp_120 => ?_)
          obtain ⟨hz_121, hxz_121, hp_120⟩ := hp_120
          subst hp_120
          refine z_if_ne (tgt := 56) (u := z_121.toInt) E dX10_number_51 (by decide) rfl (fun h_123 => ?_) (fun h_123 => ?_)
          ·
            refine s_aload_n E dX10_number_56 rfl rfl ?_
            refine s_gI E fg_X10_117 rfl rfl (jv_lt hj_96 (by decide)) dX10_number_57 ?_
            refine z_nm (P := fun z => z.toInt = (u_94.2.2.1 95 11).toInt ∧ 0 ≤ z.toInt ∧ z.toInt ≤ 99999) ⟨rfl, (rg_95_11 hj_96)⟩ (fun z_124 hz_124 => ?_)
            refine s_istore_n (L2 := [some (AR 95), some (AI x1), some (AI x2), some (AI z_124)]) E dX10_number_60 rfl (by decide) rfl ?_
            refine s_aload_n E dX10_number_61 rfl rfl ?_
            refine s_vV (As := []) (S := []) E (Z_X10_advance_95 l D aC b u_94  hj_96.1 ) cv_X10_147 rfl rfl rfl (jv_lt hj_96 (by decide)) (Nat.le_of_ble_eq_true rfl) (Nat.le_of_ble_eq_true rfl) ⟨(Nat.le_of_ble_eq_true rfl), (Nat.le_of_ble_eq_true rfl)⟩ (Nat.le_of_ble_eq_true rfl) dX10_number_62 (fun u_125 hp_126 => ?_)
            obtain ⟨hx_hp_126, hf_u_125_99, hf_u_125_101, hp_126⟩ := hp_126
            have hj_127 := jv_trans hj_96 hp_126
            refine s_iload_n E dX10_number_65 rfl rfl ?_
            exact r_int E dX10_number_66 ⟨⟨by have hb_ := z32 z_124; omega, by have hb_ := z32 z_124; omega, by first | (right; decide) | (have hb_ := z32 z_124; omega) | (have hb_ := z32 z_124; have hc_ := z32 (w.2.2.1 95 12); omega)⟩, (by omega), (hf_u_125_101.trans hf_u_94_101), hj_127⟩
          ·
            refine s_iconst (v := 0) E dX10_number_54 (by decide) ?_
            exact r_int E dX10_number_55 ⟨⟨by decide, by decide, by first | (left; decide) | (right; decide) | (right; have hb_ := z32 (w.2.2.1 95 12); omega)⟩, (by omega), hf_u_94_101, hj_96⟩
        ·
          refine s_aload_n E dX10_number_42 rfl rfl ?_
          refine s_iconst (v := 2) E dX10_number_43 (by decide) ?_
          refine s_vV (As := [AI 2]) (S := []) E (Z_X10_errs_95 l D aC b u_94 2 hj_96.1 (by decide)) cv_X10_153 rfl rfl rfl (jv_lt hj_96 (by decide)) (Nat.le_of_ble_eq_true rfl) (Nat.le_of_ble_eq_true rfl) ⟨(Nat.le_of_ble_eq_true rfl), (Nat.le_of_ble_eq_true rfl)⟩ (Nat.le_of_ble_eq_true rfl) dX10_number_44 (fun u_128 hp_129 => ?_)
          have hc_ : (2 : Int32).toInt = 2 := by decide
          obtain ⟨hx_hp_129, hf_u_128_101, hp_129⟩ := hp_129
          have hj_130 := jv_trans hj_96 hp_129
          refine s_aload_n E dX10_number_47 rfl rfl ?_
          refine s_vI (As := []) (S := []) E (Z_X10_good_95 l D aC b u_128  hj_130.1 ) cv_X10_130 rfl rfl rfl (jv_lt hj_130 (by decide)) (Nat.le_of_ble_eq_true rfl) (Nat.le_of_ble_eq_true rfl) ⟨(Nat.le_of_ble_eq_true rfl), (Nat.le_of_ble_eq_true rfl)⟩ (Nat.le_of_ble_eq_true rfl) dX10_number_48 (fun z_133 u_131 hp_132 => ?_)
          obtain ⟨hz_133, hxz_133, hp_132⟩ := hp_132
          subst hp_132
          refine z_if_ne (tgt := 56) (u := z_133.toInt) E dX10_number_51 (by decide) rfl (fun h_135 => ?_) (fun h_135 => ?_)
          ·
            refine s_aload_n E dX10_number_56 rfl rfl ?_
            refine s_gI E fg_X10_117 rfl rfl (jv_lt hj_130 (by decide)) dX10_number_57 ?_
            refine z_nm (P := fun z => z.toInt = (u_128.2.2.1 95 11).toInt ∧ 0 ≤ z.toInt ∧ z.toInt ≤ 99999) ⟨rfl, (rg_95_11 hj_130)⟩ (fun z_136 hz_136 => ?_)
            refine s_istore_n (L2 := [some (AR 95), some (AI x1), some (AI x2), some (AI z_136)]) E dX10_number_60 rfl (by decide) rfl ?_
            refine s_aload_n E dX10_number_61 rfl rfl ?_
            refine s_vV (As := []) (S := []) E (Z_X10_advance_95 l D aC b u_128  hj_130.1 ) cv_X10_147 rfl rfl rfl (jv_lt hj_130 (by decide)) (Nat.le_of_ble_eq_true rfl) (Nat.le_of_ble_eq_true rfl) ⟨(Nat.le_of_ble_eq_true rfl), (Nat.le_of_ble_eq_true rfl)⟩ (Nat.le_of_ble_eq_true rfl) dX10_number_62 (fun u_137 hp_138 => ?_)
            obtain ⟨hx_hp_138, hf_u_137_99, hf_u_137_101, hp_138⟩ := hp_138
            have hj_139 := jv_trans hj_130 hp_138
            refine s_iload_n E dX10_number_65 rfl rfl ?_
            exact r_int E dX10_number_66 ⟨⟨by have hb_ := z32 z_136; omega, by have hb_ := z32 z_136; omega, by first | (right; decide) | (have hb_ := z32 z_136; omega) | (have hb_ := z32 z_136; have hc_ := z32 (w.2.2.1 95 12); omega)⟩, (by omega), (hf_u_137_101.trans (hf_u_128_101.trans hf_u_94_101)), hj_139⟩
          ·
            refine s_iconst (v := 0) E dX10_number_54 (by decide) ?_
            exact r_int E dX10_number_55 ⟨⟨by decide, by decide, by first | (left; decide) | (right; decide) | (right; have hb_ := z32 (w.2.2.1 95 12); omega)⟩, (by omega), (hf_u_128_101.trans hf_u_94_101), hj_130⟩
set_option maxRecDepth 20000 in
set_option maxHeartbeats 2000000 in
theorem Z_X10_needs_95 (l : Launch) (D : va_G) (aC : Nat → ClassId) (b : Nat) (w : XW)  (hI : Iv w) (si : Nat) (hsi : si < 30) (hpi : (w.2.2.1 95 9).toInt ≤ (w.2.2.1 95 8).toInt ∧ ((w.2.2.1 95 10).toInt = 0 ∨ (w.2.2.1 95 9).toInt < (w.2.2.1 95 8).toInt)) : CnV l D aC b M_X10_needs 6 245 0 0 [AR 95, AX (sA aC si)] w (fun u => ((u.2.2.1 95 7).toInt = (w.2.2.1 95 7).toInt ∧ ((u.2.2.1 95 12).toInt = 0 → (w.2.2.1 95 12).toInt = 0) ∧ (w.2.2.1 95 9).toInt ≤ (u.2.2.1 95 9).toInt ∧ (u.2.2.1 95 9).toInt ≤ (u.2.2.1 95 8).toInt ∧ ((u.2.2.1 95 10).toInt = 0 ∨ (u.2.2.1 95 9).toInt < (u.2.2.1 95 8).toInt)) ∧ ((u.2.2.1 101) = (w.2.2.1 101)) ∧ Jv w u) := by
  refine cn_V (own := RX10) (nm := "needs") (L0 := [some (AR 95), some (AX (sA aC si))]) (by decide +kernel) rfl rfl (Nat.le_of_ble_eq_true rfl) rfl ?_
  intro p e s m args below meth c E hin
  have hJ : Jv w w := jv_rfl hI
  refine s_aload_n E dX10_needs_0 rfl rfl ?_
  refine s_xload_n E dX10_needs_1 rfl rfl ?_
  refine s_vI (As := [AX (sA aC si)]) (S := []) E (Z_X10_takes_95 l D aC b w  hJ.1  si hsi (by omega)) cv_X10_150 rfl rfl rfl (jv_lt hJ (by decide)) (Nat.le_of_ble_eq_true rfl) (Nat.le_of_ble_eq_true rfl) ⟨(Nat.le_of_ble_eq_true rfl), (Nat.le_of_ble_eq_true rfl)⟩ (Nat.le_of_ble_eq_true rfl) dX10_needs_2 (fun z_3 u_1 hp_2 => ?_)
  obtain ⟨hz_3, hxz_3, hf_u_1_101, hp_2⟩ := hp_2
  have hj_4 := jv_trans hJ hp_2
  refine z_if_ne (tgt := 13) (u := z_3.toInt) E dX10_needs_5 (by decide) rfl (fun h_5 => ?_) (fun h_5 => ?_)
  ·
    exact r_void E dX10_needs_13 ⟨(by omega), hf_u_1_101, hj_4⟩
  ·
    refine s_aload_n E dX10_needs_8 rfl rfl ?_
    refine s_iconst (v := 1) E dX10_needs_9 (by decide) ?_
    refine s_vV (As := [AI 1]) (S := []) E (Z_X10_errs_95 l D aC b u_1 1 hj_4.1 (by decide)) cv_X10_153 rfl rfl rfl (jv_lt hj_4 (by decide)) (Nat.le_of_ble_eq_true rfl) (Nat.le_of_ble_eq_true rfl) ⟨(Nat.le_of_ble_eq_true rfl), (Nat.le_of_ble_eq_true rfl)⟩ (Nat.le_of_ble_eq_true rfl) dX10_needs_10 (fun u_6 hp_7 => ?_)
    have hc_ : (1 : Int32).toInt = 1 := by decide
    obtain ⟨hx_hp_7, hf_u_6_101, hp_7⟩ := hp_7
    have hj_8 := jv_trans hj_4 hp_7
    exact r_void E dX10_needs_13 ⟨(by omega), (hf_u_6_101.trans hf_u_1_101), hj_8⟩
set_option maxRecDepth 20000 in
set_option maxHeartbeats 2000000 in
theorem Z_X10_told_95 (l : Launch) (D : va_G) (aC : Nat → ClassId) (b : Nat) (w : XW) (x1 : Int32) (x2 : Int32) (hI : Iv w) (si : Nat) (hsi : si < 30) (hpi : (w.2.2.1 95 9).toInt ≤ (w.2.2.1 95 8).toInt ∧ ((w.2.2.1 95 10).toInt = 0 ∨ (w.2.2.1 95 9).toInt < (w.2.2.1 95 8).toInt)) : CnI l D aC b M_X10_told 7 266 0 0 [AR 95, AX (sA aC si), AI x1, AI x2] w (fun r u => (0 ≤ r.toInt ∧ r.toInt ≤ 99999) ∧ ((r.toInt = 0 ∨ (x1.toInt ≤ r.toInt ∧ r.toInt ≤ x2.toInt)) ∧ ((u.2.2.1 95 12).toInt = 0 → x1.toInt ≤ r.toInt ∧ r.toInt ≤ x2.toInt) ∧ (u.2.2.1 95 7).toInt = (w.2.2.1 95 7).toInt ∧ ((u.2.2.1 95 12).toInt = 0 → (w.2.2.1 95 12).toInt = 0) ∧ (w.2.2.1 95 9).toInt ≤ (u.2.2.1 95 9).toInt ∧ (u.2.2.1 95 9).toInt ≤ (u.2.2.1 95 8).toInt ∧ ((u.2.2.1 95 10).toInt = 0 ∨ (u.2.2.1 95 9).toInt < (u.2.2.1 95 8).toInt)) ∧ ((u.2.2.1 101) = (w.2.2.1 101)) ∧ Jv w u) := by
  refine cn_I (own := RX10) (nm := "told") (L0 := [some (AR 95), some (AX (sA aC si)), some (AI x1), some (AI x2)]) (by decide +kernel) rfl rfl (Nat.le_of_ble_eq_true rfl) rfl ?_
  intro p e s m args below meth c E hin
  have hJ : Jv w w := jv_rfl hI
  have hb_x1 := z32 x1
  have hb_x2 := z32 x2
  refine s_aload_n E dX10_told_0 rfl rfl ?_
  refine s_xload_n E dX10_told_1 rfl rfl ?_
  refine s_vV (As := [AX (sA aC si)]) (S := []) E (Z_X10_needs_95 l D aC b w  hJ.1  si hsi (by omega)) cv_X10_157 rfl rfl rfl (jv_lt hJ (by decide)) (Nat.le_of_ble_eq_true rfl) (Nat.le_of_ble_eq_true rfl) ⟨(Nat.le_of_ble_eq_true rfl), (Nat.le_of_ble_eq_true rfl)⟩ (Nat.le_of_ble_eq_true rfl) dX10_told_2 (fun u_1 hp_2 => ?_)
  obtain ⟨hx_hp_2, hf_u_1_101, hp_2⟩ := hp_2
  have hj_3 := jv_trans hJ hp_2
  refine s_aload_n E dX10_told_5 rfl rfl ?_
  refine s_iload_n E dX10_told_6 rfl rfl ?_
  refine s_iload_n E dX10_told_7 rfl rfl ?_
  refine s_vI (As := [AI x1, AI x2]) (S := []) E (Z_X10_number_95 l D aC b u_1 x1 x2 hj_3.1  (by omega)) cv_X10_161 rfl rfl rfl (jv_lt hj_3 (by decide)) (Nat.le_of_ble_eq_true rfl) (Nat.le_of_ble_eq_true rfl) ⟨(Nat.le_of_ble_eq_true rfl), (Nat.le_of_ble_eq_true rfl)⟩ (Nat.le_of_ble_eq_true rfl) dX10_told_8 (fun z_6 u_4 hp_5 => ?_)
  obtain ⟨hz_6, hxz_6, hf_u_4_101, hp_5⟩ := hp_5
  have hj_7 := jv_trans hj_3 hp_5
  exact r_int E dX10_told_11 ⟨⟨by have hb_ := z32 z_6; omega, by have hb_ := z32 z_6; omega⟩, (by omega), (hf_u_4_101.trans hf_u_1_101), hj_7⟩
set_option maxRecDepth 20000 in
set_option maxHeartbeats 2000000 in
theorem Z_X10_freshRoom_95 (l : Launch) (D : va_G) (aC : Nat → ClassId) (b : Nat) (w : XW)  (hI : Iv w) (si : Nat) (hsi : si < 30) (hpi : (w.2.2.1 95 9).toInt ≤ (w.2.2.1 95 8).toInt ∧ ((w.2.2.1 95 10).toInt = 0 ∨ (w.2.2.1 95 9).toInt < (w.2.2.1 95 8).toInt)) : CnI l D aC b M_X10_freshRoom 8 289 0 0 [AR 95, AX (sA aC si)] w (fun r u => (0 ≤ r.toInt ∧ r.toInt ≤ 99999 ∧ (¬ r.toInt = 0 ∨ (0 ≤ (w.2.2.1 101 0).toInt ∧ (w.2.2.1 101 0).toInt ≤ 8)) ∧ (r.toInt = 0 ∨ (0 ≤ (w.2.2.1 101 0).toInt ∧ (w.2.2.1 101 0).toInt ≤ 8))) ∧ ((0 ≤ r.toInt ∧ r.toInt ≤ 7) ∧ (u.2.2.1 95 7).toInt = (w.2.2.1 95 7).toInt ∧ ((u.2.2.1 95 12).toInt = 0 → (w.2.2.1 95 12).toInt = 0) ∧ (w.2.2.1 95 9).toInt ≤ (u.2.2.1 95 9).toInt ∧ (u.2.2.1 95 9).toInt ≤ (u.2.2.1 95 8).toInt ∧ ((u.2.2.1 95 10).toInt = 0 ∨ (u.2.2.1 95 9).toInt < (u.2.2.1 95 8).toInt)) ∧ ((u.2.2.1 101) = (w.2.2.1 101)) ∧ Jv w u) := by
  refine cn_I (own := RX10) (nm := "freshRoom") (L0 := [some (AR 95), some (AX (sA aC si))]) (by decide +kernel) rfl rfl (Nat.le_of_ble_eq_true rfl) rfl ?_
  intro p e s m args below meth c E hin
  have hJ : Jv w w := jv_rfl hI
  refine s_aload_n E dX10_freshRoom_0 rfl rfl ?_
  refine s_xload_n E dX10_freshRoom_1 rfl rfl ?_
  refine s_iconst (v := 0) E dX10_freshRoom_2 (by decide) ?_
  refine s_aload_n E dX10_freshRoom_3 rfl rfl ?_
  refine s_gR (r := 101) E fg_X10_31 rfl rfl (jv_lt hJ (by decide)) (jv_r hJ (by decide +kernel)) dX10_freshRoom_4 ?_
  refine s_iconst (v := 0) E dX10_freshRoom_7 (by decide) ?_
  refine s_iald E rfl (jv_lt hJ (by decide)) (z_in (u := 0) (by decide) (by omega) (by omega)) dX10_freshRoom_8 ?_
  refine z_nm (P := fun z => z.toInt = (w.2.2.1 101 0).toInt ∧ 0 ≤ z.toInt ∧ z.toInt ≤ 8) ⟨rfl, (rw_101_0 hJ)⟩ (fun z_1 hz_1 => ?_)
  refine s_iconst (v := 1) E dX10_freshRoom_9 (by decide) ?_
  refine z_isub (u := z_1.toInt) (v := 1) E dX10_freshRoom_10 rfl (by decide) (by omega) (by omega) (fun z_2 hz_2 => ?_)
  refine s_vI (As := [AX (sA aC si), AI 0, AI z_2]) (S := []) E (Z_X10_told_95 l D aC b w 0 z_2 hJ.1  si hsi (by omega)) cv_X10_164 rfl rfl rfl (jv_lt hJ (by decide)) (Nat.le_of_ble_eq_true rfl) (Nat.le_of_ble_eq_true rfl) ⟨(Nat.le_of_ble_eq_true rfl), (Nat.le_of_ble_eq_true rfl)⟩ (Nat.le_of_ble_eq_true rfl) dX10_freshRoom_11 (fun z_5 u_3 hp_4 => ?_)
  obtain ⟨hz_5, hxz_5, hf_u_3_101, hp_4⟩ := hp_4
  have hc_ : (0 : Int32).toInt = 0 := by decide
  have hj_6 := jv_trans hJ hp_4
  exact r_int E dX10_freshRoom_14 ⟨⟨by have hb_ := z32 z_5; omega, by have hb_ := z32 z_5; omega, by first | (right; decide) | (have hb_ := z32 z_5; omega) | (have hb_ := z32 z_5; have hc_ := z32 (w.2.2.1 101 0); omega), by first | (right; decide) | (have hb_ := z32 z_5; omega) | (have hb_ := z32 z_5; have hc_ := z32 (w.2.2.1 101 0); omega)⟩, (by omega), hf_u_3_101, hj_6⟩
set_option maxRecDepth 20000 in
set_option maxHeartbeats 2000000 in
theorem Z_X10_readBid_95 (l : Launch) (D : va_G) (aC : Nat → ClassId) (b : Nat) (w : XW)  (hI : Iv w) (hpi : (w.2.2.1 95 9).toInt ≤ (w.2.2.1 95 8).toInt ∧ ((w.2.2.1 95 10).toInt = 0 ∨ (w.2.2.1 95 9).toInt < (w.2.2.1 95 8).toInt)) (hy7 : (w.2.2.1 101 7).toInt ≤ 9) : CnV l D aC b M_X10_readBid 9 310 0 0 [AR 95] w (fun u => ((u.2.2.1 95 7).toInt = (w.2.2.1 95 7).toInt ∧ ((u.2.2.1 95 12).toInt = 0 → (w.2.2.1 95 12).toInt = 0) ∧ (w.2.2.1 95 9).toInt ≤ (u.2.2.1 95 9).toInt ∧ (u.2.2.1 95 9).toInt ≤ (u.2.2.1 95 8).toInt ∧ ((u.2.2.1 95 10).toInt = 0 ∨ (u.2.2.1 95 9).toInt < (u.2.2.1 95 8).toInt) ∧ (u.2.2.1 101 9).toInt = (w.2.2.1 101 9).toInt) ∧ Jv w u) := by
  refine cn_V (own := RX10) (nm := "readBid") (L0 := [some (AR 95), none]) (by decide +kernel) rfl rfl (Nat.le_of_ble_eq_true rfl) rfl ?_
  intro p e s m args below meth c E hin
  have hJ : Jv w w := jv_rfl hI
  refine s_bipush (v := 74) E dX10_readBid_0 (by decide) ?_
  refine s_iconst (v := 3) E dX10_readBid_2 (by decide) ?_
  refine s_aload_n E dX10_readBid_3 rfl rfl ?_
  refine s_gR (r := 101) E fg_X10_31 rfl rfl (jv_lt hJ (by decide)) (jv_r hJ (by decide +kernel)) dX10_readBid_4 ?_
  refine s_bipush (v := 7) E dX10_readBid_7 (by decide) ?_
  refine s_iald E rfl (jv_lt hJ (by decide)) (z_in (u := 7) (by decide) (by omega) (by omega)) dX10_readBid_9 ?_
  refine z_nm (P := fun z => z.toInt = (w.2.2.1 101 7).toInt ∧ 0 ≤ z.toInt ∧ z.toInt ≤ 10) ⟨rfl, (rw_101_7 hJ)⟩ (fun z_1 hz_1 => ?_)
  refine z_imul (u := 3) (v := z_1.toInt) E dX10_readBid_10 (by decide) rfl (by omega) (by omega) (fun z_2 hz_2 => ?_)
  have hhz_2 : 0 ≤ z_2.toInt ∧ z_2.toInt ≤ 27 := by omega
  refine z_iadd (u := 74) (v := z_2.toInt) E dX10_readBid_11 (by decide) rfl (by omega) (by omega) (fun z_3 hz_3 => ?_)
  refine s_istore_n (L2 := [some (AR 95), some (AI z_3)]) E dX10_readBid_12 rfl (by decide) rfl ?_
  refine s_aload_n E dX10_readBid_13 rfl rfl ?_
  refine s_gR (r := 101) E fg_X10_31 rfl rfl (jv_lt hJ (by decide)) (jv_r hJ (by decide +kernel)) dX10_readBid_14 ?_
  refine s_iload_n E dX10_readBid_17 rfl rfl ?_
  refine s_aload_n E dX10_readBid_18 rfl rfl ?_
  refine s_iconst (v := 0) E dX10_readBid_19 (by decide) ?_
  refine s_aload_n E dX10_readBid_20 rfl rfl ?_
  refine s_gR (r := 101) E fg_X10_31 rfl rfl (jv_lt hJ (by decide)) (jv_r hJ (by decide +kernel)) dX10_readBid_21 ?_
  refine s_iconst (v := 5) E dX10_readBid_24 (by decide) ?_
  refine s_iald E rfl (jv_lt hJ (by decide)) (z_in (u := 5) (by decide) (by omega) (by omega)) dX10_readBid_25 ?_
  refine z_nm (P := fun z => z.toInt = (w.2.2.1 101 5).toInt ∧ 0 ≤ z.toInt ∧ z.toInt ≤ 6) ⟨rfl, (rw_101_5 hJ)⟩ (fun z_4 hz_4 => ?_)
  refine s_iconst (v := 1) E dX10_readBid_26 (by decide) ?_
  refine z_isub (u := z_4.toInt) (v := 1) E dX10_readBid_27 rfl (by decide) (by omega) (by omega) (fun z_5 hz_5 => ?_)
  refine s_vI (As := [AI 0, AI z_5]) (S := [AI z_3, AR 101]) E (Z_X10_number_95 l D aC b w 0 z_5 hJ.1  (by omega)) cv_X10_161 rfl rfl rfl (jv_lt hJ (by decide)) (Nat.le_of_ble_eq_true rfl) (Nat.le_of_ble_eq_true rfl) ⟨(Nat.le_of_ble_eq_true rfl), (Nat.le_of_ble_eq_true rfl)⟩ (Nat.le_of_ble_eq_true rfl) dX10_readBid_28 (fun z_8 u_6 hp_7 => ?_)
  obtain ⟨hz_8, hxz_8, hf_u_6_101, hp_7⟩ := hp_7
  have hc_ : (0 : Int32).toInt = 0 := by decide
  have hj_9 := jv_trans hJ hp_7
  have hfa_101_7 := congrArg Int32.toInt (congrFun hf_u_6_101 7)
  have hfa_101_9 := congrArg Int32.toInt (congrFun hf_u_6_101 9)
  have hrz_8 : 0 ≤ z_8.toInt ∧ z_8.toInt ≤ 5 := by omega
  refine s_iast E rfl (jv_lt hj_9 (by decide)) (z_in (u := z_3.toInt) rfl (by omega) (by omega)) dX10_readBid_31 ?_
  refine s_gen (P := fun v => Jv w v ∧ (v.2.2.1 95 7).toInt = (u_6.2.2.1 95 7).toInt ∧ (v.2.2.1 95 8).toInt = (u_6.2.2.1 95 8).toInt ∧ (v.2.2.1 95 9).toInt = (u_6.2.2.1 95 9).toInt ∧ (v.2.2.1 95 10).toInt = (u_6.2.2.1 95 10).toInt ∧ (v.2.2.1 95 12).toInt = (u_6.2.2.1 95 12).toInt ∧ (v.2.2.1 101 7).toInt = (u_6.2.2.1 101 7).toInt ∧ (v.2.2.1 101 9).toInt = (u_6.2.2.1 101 9).toInt) ⟨(jv_a_101 (i := z_3) (x := z_8) hj_9 0 5 74 101 3 z_3.toInt (by decide +kernel) (by decide) rfl (by omega) (by omega) (by omega) (by have hb_ := z32 z_8; omega) (by have hb_ := z32 z_8; omega)), rfl, rfl, rfl, rfl, rfl, (keep_ne (u := z_3.toInt) rfl (by omega) (by omega)), (keep_ne (u := z_3.toInt) rfl (by omega) (by omega))⟩ (fun v_10 hj_11 => ?_)
  obtain ⟨hj_11, hk_12k0, hk_12k1, hk_12k2, hk_12k3, hk_12k4, hk_12k5, hk_12k6⟩ := hj_11
  refine s_aload_n E dX10_readBid_32 rfl rfl ?_
  refine s_gR (r := 101) E fg_X10_31 rfl rfl (jv_lt hj_11 (by decide)) (jv_r hj_11 (by decide +kernel)) dX10_readBid_33 ?_
  refine s_iload_n E dX10_readBid_36 rfl rfl ?_
  refine s_iconst (v := 1) E dX10_readBid_37 (by decide) ?_
  refine z_iadd (u := z_3.toInt) (v := 1) E dX10_readBid_38 rfl (by decide) (by omega) (by omega) (fun z_13 hz_13 => ?_)
  refine s_aload_n E dX10_readBid_39 rfl rfl ?_
  refine s_ldcS (i := 24) E (by decide) rfl dX10_readBid_40 ?_
  refine s_vI (As := [AX (sA aC 24)]) (S := [AI z_13, AR 101]) E (Z_X10_freshRoom_95 l D aC b v_10  hj_11.1  24 (by decide) (by omega)) cv_X10_182 rfl rfl rfl (jv_lt hj_11 (by decide)) (Nat.le_of_ble_eq_true rfl) (Nat.le_of_ble_eq_true rfl) ⟨(Nat.le_of_ble_eq_true rfl), (Nat.le_of_ble_eq_true rfl)⟩ (Nat.le_of_ble_eq_true rfl) dX10_readBid_42 (fun z_16 u_14 hp_15 => ?_)
  obtain ⟨hz_16, hxz_16, hf_u_14_101, hp_15⟩ := hp_15
  have hj_17 := jv_trans hj_11 hp_15
  have hfa_101_7 := congrArg Int32.toInt (congrFun hf_u_14_101 7)
  have hfa_101_9 := congrArg Int32.toInt (congrFun hf_u_14_101 9)
  have hrz_16 : 0 ≤ z_16.toInt ∧ z_16.toInt ≤ 7 := by omega
  refine s_iast E rfl (jv_lt hj_17 (by decide)) (z_in (u := z_13.toInt) rfl (by omega) (by omega)) dX10_readBid_45 ?_
  refine s_gen (P := fun v => Jv w v ∧ (v.2.2.1 95 7).toInt = (u_14.2.2.1 95 7).toInt ∧ (v.2.2.1 95 8).toInt = (u_14.2.2.1 95 8).toInt ∧ (v.2.2.1 95 9).toInt = (u_14.2.2.1 95 9).toInt ∧ (v.2.2.1 95 10).toInt = (u_14.2.2.1 95 10).toInt ∧ (v.2.2.1 95 12).toInt = (u_14.2.2.1 95 12).toInt ∧ (v.2.2.1 101 7).toInt = (u_14.2.2.1 101 7).toInt ∧ (v.2.2.1 101 9).toInt = (u_14.2.2.1 101 9).toInt) ⟨(jv_a_101 (i := z_13) (x := z_16) hj_17 0 7 75 102 3 z_13.toInt (by decide +kernel) (by decide) rfl (by omega) (by omega) (by omega) (by have hb_ := z32 z_16; omega) (by have hb_ := z32 z_16; omega)), rfl, rfl, rfl, rfl, rfl, (keep_ne (u := z_13.toInt) rfl (by omega) (by omega)), (keep_ne (u := z_13.toInt) rfl (by omega) (by omega))⟩ (fun v_18 hj_19 => ?_)
  obtain ⟨hj_19, hk_20k0, hk_20k1, hk_20k2, hk_20k3, hk_20k4, hk_20k5, hk_20k6⟩ := hj_19
  refine s_aload_n E dX10_readBid_46 rfl rfl ?_
  refine s_gR (r := 101) E fg_X10_31 rfl rfl (jv_lt hj_19 (by decide)) (jv_r hj_19 (by decide +kernel)) dX10_readBid_47 ?_
  refine s_iload_n E dX10_readBid_50 rfl rfl ?_
  refine s_iconst (v := 2) E dX10_readBid_51 (by decide) ?_
  refine z_iadd (u := z_3.toInt) (v := 2) E dX10_readBid_52 rfl (by decide) (by omega) (by omega) (fun z_21 hz_21 => ?_)
  refine s_aload_n E dX10_readBid_53 rfl rfl ?_
  refine s_ldcS (i := 29) E (by decide) rfl dX10_readBid_54 ?_
  refine s_iconst (v := 0) E dX10_readBid_56 (by decide) ?_
  refine s_bipush (v := 13) E dX10_readBid_57 (by decide) ?_
  refine s_vI (As := [AX (sA aC 29), AI 0, AI 13]) (S := [AI z_21, AR 101]) E (Z_X10_told_95 l D aC b v_18 0 13 hj_19.1  29 (by decide) (by omega)) cv_X10_164 rfl rfl rfl (jv_lt hj_19 (by decide)) (Nat.le_of_ble_eq_true rfl) (Nat.le_of_ble_eq_true rfl) ⟨(Nat.le_of_ble_eq_true rfl), (Nat.le_of_ble_eq_true rfl)⟩ (Nat.le_of_ble_eq_true rfl) dX10_readBid_59 (fun z_24 u_22 hp_23 => ?_)
  obtain ⟨hz_24, hxz_24, hf_u_22_101, hp_23⟩ := hp_23
  have hc_ : (0 : Int32).toInt = 0 := by decide
  have hc_ : (13 : Int32).toInt = 13 := by decide
  have hj_25 := jv_trans hj_19 hp_23
  have hfa_101_7 := congrArg Int32.toInt (congrFun hf_u_22_101 7)
  have hfa_101_9 := congrArg Int32.toInt (congrFun hf_u_22_101 9)
  have hrz_24 : 0 ≤ z_24.toInt ∧ z_24.toInt ≤ 13 := by omega
  refine s_iast E rfl (jv_lt hj_25 (by decide)) (z_in (u := z_21.toInt) rfl (by omega) (by omega)) dX10_readBid_62 ?_
  refine s_gen (P := fun v => Jv w v ∧ (v.2.2.1 95 7).toInt = (u_22.2.2.1 95 7).toInt ∧ (v.2.2.1 95 8).toInt = (u_22.2.2.1 95 8).toInt ∧ (v.2.2.1 95 9).toInt = (u_22.2.2.1 95 9).toInt ∧ (v.2.2.1 95 10).toInt = (u_22.2.2.1 95 10).toInt ∧ (v.2.2.1 95 12).toInt = (u_22.2.2.1 95 12).toInt ∧ (v.2.2.1 101 7).toInt = (u_22.2.2.1 101 7).toInt ∧ (v.2.2.1 101 9).toInt = (u_22.2.2.1 101 9).toInt) ⟨(jv_a_101 (i := z_21) (x := z_24) hj_25 0 13 76 103 3 z_21.toInt (by decide +kernel) (by decide) rfl (by omega) (by omega) (by omega) (by have hb_ := z32 z_24; omega) (by have hb_ := z32 z_24; omega)), rfl, rfl, rfl, rfl, rfl, (keep_ne (u := z_21.toInt) rfl (by omega) (by omega)), (keep_ne (u := z_21.toInt) rfl (by omega) (by omega))⟩ (fun v_26 hj_27 => ?_)
  obtain ⟨hj_27, hk_28k0, hk_28k1, hk_28k2, hk_28k3, hk_28k4, hk_28k5, hk_28k6⟩ := hj_27
  refine s_aload_n E dX10_readBid_63 rfl rfl ?_
  refine s_gR (r := 101) E fg_X10_31 rfl rfl (jv_lt hj_27 (by decide)) (jv_r hj_27 (by decide +kernel)) dX10_readBid_64 ?_
  refine s_bipush (v := 7) E dX10_readBid_67 (by decide) ?_
  refine s_dup2 E dX10_readBid_69 ?_
  refine s_iald E rfl (jv_lt hj_27 (by decide)) (z_in (u := 7) (by decide) (by omega) (by omega)) dX10_readBid_70 ?_
  refine z_nm (P := fun z => z.toInt = (v_26.2.2.1 101 7).toInt ∧ 0 ≤ z.toInt ∧ z.toInt ≤ 10) ⟨rfl, (rw_101_7 hj_27)⟩ (fun z_29 hz_29 => ?_)
  refine s_iconst (v := 1) E dX10_readBid_71 (by decide) ?_
  refine z_iadd (u := z_29.toInt) (v := 1) E dX10_readBid_72 rfl (by decide) (by omega) (by omega) (fun z_30 hz_30 => ?_)
  have hhz_30 : 0 ≤ z_30.toInt ∧ z_30.toInt ≤ 10 := by omega
  refine s_iast E rfl (jv_lt hj_27 (by decide)) (z_in (u := 7) (by decide) (by omega) (by omega)) dX10_readBid_73 ?_
  refine s_gen (P := fun v => Jv w v ∧ (v.2.2.1 95 7).toInt = (v_26.2.2.1 95 7).toInt ∧ (v.2.2.1 95 8).toInt = (v_26.2.2.1 95 8).toInt ∧ (v.2.2.1 95 9).toInt = (v_26.2.2.1 95 9).toInt ∧ (v.2.2.1 95 10).toInt = (v_26.2.2.1 95 10).toInt ∧ (v.2.2.1 95 12).toInt = (v_26.2.2.1 95 12).toInt ∧ (v.2.2.1 101 7).toInt = z_30.toInt ∧ (v.2.2.1 101 9).toInt = (v_26.2.2.1 101 9).toInt) ⟨(jv_a_101 (i := 7) (x := z_30) hj_27 0 10 7 7 1 7 (by decide +kernel) (by decide) (by decide) (by omega) (by omega) (by omega) (by have hb_ := z32 z_30; omega) (by have hb_ := z32 z_30; omega)), rfl, rfl, rfl, rfl, rfl, rfl, rfl⟩ (fun v_31 hj_32 => ?_)
  obtain ⟨hj_32, hk_33k0, hk_33k1, hk_33k2, hk_33k3, hk_33k4, hk_33k5, hk_33k6⟩ := hj_32
  exact r_void E dX10_readBid_74 ⟨(by omega), hj_32⟩
set_option maxRecDepth 20000 in
set_option maxHeartbeats 2000000 in
theorem Z_X10_readDoor_95 (l : Launch) (D : va_G) (aC : Nat → ClassId) (b : Nat) (w : XW)  (hI : Iv w) (hpi : (w.2.2.1 95 9).toInt ≤ (w.2.2.1 95 8).toInt ∧ ((w.2.2.1 95 10).toInt = 0 ∨ (w.2.2.1 95 9).toInt < (w.2.2.1 95 8).toInt)) (hy4 : (w.2.2.1 101 4).toInt ≤ 11) : CnV l D aC b M_X10_readDoor 8 289 0 0 [AR 95] w (fun u => ((u.2.2.1 95 7).toInt = (w.2.2.1 95 7).toInt ∧ ((u.2.2.1 95 12).toInt = 0 → (w.2.2.1 95 12).toInt = 0) ∧ (w.2.2.1 95 9).toInt ≤ (u.2.2.1 95 9).toInt ∧ (u.2.2.1 95 9).toInt ≤ (u.2.2.1 95 8).toInt ∧ ((u.2.2.1 95 10).toInt = 0 ∨ (u.2.2.1 95 9).toInt < (u.2.2.1 95 8).toInt) ∧ (u.2.2.1 101 9).toInt = (w.2.2.1 101 9).toInt) ∧ Jv w u) := by
  refine cn_V (own := RX10) (nm := "readDoor") (L0 := [some (AR 95), none]) (by decide +kernel) rfl rfl (Nat.le_of_ble_eq_true rfl) rfl ?_
  intro p e s m args below meth c E hin
  have hJ : Jv w w := jv_rfl hI
  refine s_bipush (v := 10) E dX10_readDoor_0 (by decide) ?_
  refine s_iconst (v := 3) E dX10_readDoor_2 (by decide) ?_
  refine s_aload_n E dX10_readDoor_3 rfl rfl ?_
  refine s_gR (r := 101) E fg_X10_31 rfl rfl (jv_lt hJ (by decide)) (jv_r hJ (by decide +kernel)) dX10_readDoor_4 ?_
  refine s_iconst (v := 4) E dX10_readDoor_7 (by decide) ?_
  refine s_iald E rfl (jv_lt hJ (by decide)) (z_in (u := 4) (by decide) (by omega) (by omega)) dX10_readDoor_8 ?_
  refine z_nm (P := fun z => z.toInt = (w.2.2.1 101 4).toInt ∧ 0 ≤ z.toInt ∧ z.toInt ≤ 12) ⟨rfl, (rw_101_4 hJ)⟩ (fun z_1 hz_1 => ?_)
  refine z_imul (u := 3) (v := z_1.toInt) E dX10_readDoor_9 (by decide) rfl (by omega) (by omega) (fun z_2 hz_2 => ?_)
  have hhz_2 : 0 ≤ z_2.toInt ∧ z_2.toInt ≤ 33 := by omega
  refine z_iadd (u := 10) (v := z_2.toInt) E dX10_readDoor_10 (by decide) rfl (by omega) (by omega) (fun z_3 hz_3 => ?_)
  refine s_istore_n (L2 := [some (AR 95), some (AI z_3)]) E dX10_readDoor_11 rfl (by decide) rfl ?_
  refine s_aload_n E dX10_readDoor_12 rfl rfl ?_
  refine s_gR (r := 101) E fg_X10_31 rfl rfl (jv_lt hJ (by decide)) (jv_r hJ (by decide +kernel)) dX10_readDoor_13 ?_
  refine s_iload_n E dX10_readDoor_16 rfl rfl ?_
  refine s_aload_n E dX10_readDoor_17 rfl rfl ?_
  refine s_iconst (v := 0) E dX10_readDoor_18 (by decide) ?_
  refine s_aload_n E dX10_readDoor_19 rfl rfl ?_
  refine s_gR (r := 101) E fg_X10_31 rfl rfl (jv_lt hJ (by decide)) (jv_r hJ (by decide +kernel)) dX10_readDoor_20 ?_
  refine s_iconst (v := 0) E dX10_readDoor_23 (by decide) ?_
  refine s_iald E rfl (jv_lt hJ (by decide)) (z_in (u := 0) (by decide) (by omega) (by omega)) dX10_readDoor_24 ?_
  refine z_nm (P := fun z => z.toInt = (w.2.2.1 101 0).toInt ∧ 0 ≤ z.toInt ∧ z.toInt ≤ 8) ⟨rfl, (rw_101_0 hJ)⟩ (fun z_4 hz_4 => ?_)
  refine s_iconst (v := 1) E dX10_readDoor_25 (by decide) ?_
  refine z_isub (u := z_4.toInt) (v := 1) E dX10_readDoor_26 rfl (by decide) (by omega) (by omega) (fun z_5 hz_5 => ?_)
  refine s_vI (As := [AI 0, AI z_5]) (S := [AI z_3, AR 101]) E (Z_X10_number_95 l D aC b w 0 z_5 hJ.1  (by omega)) cv_X10_161 rfl rfl rfl (jv_lt hJ (by decide)) (Nat.le_of_ble_eq_true rfl) (Nat.le_of_ble_eq_true rfl) ⟨(Nat.le_of_ble_eq_true rfl), (Nat.le_of_ble_eq_true rfl)⟩ (Nat.le_of_ble_eq_true rfl) dX10_readDoor_27 (fun z_8 u_6 hp_7 => ?_)
  obtain ⟨hz_8, hxz_8, hf_u_6_101, hp_7⟩ := hp_7
  have hc_ : (0 : Int32).toInt = 0 := by decide
  have hj_9 := jv_trans hJ hp_7
  have hfa_101_4 := congrArg Int32.toInt (congrFun hf_u_6_101 4)
  have hfa_101_9 := congrArg Int32.toInt (congrFun hf_u_6_101 9)
  have hrz_8 : 0 ≤ z_8.toInt ∧ z_8.toInt ≤ 7 := by omega
  refine s_iast E rfl (jv_lt hj_9 (by decide)) (z_in (u := z_3.toInt) rfl (by omega) (by omega)) dX10_readDoor_30 ?_
  have hj_11 : Jv w (upI u_6 101 z_3.toNatClampNeg z_8) := (jv_dor hj_9 (Or.inl (by omega)) (by omega) (by omega) (by have hb_ := z32 z_8; omega) (by have hb_ := z32 z_8; omega))
  have hke_ : ((upI u_6 101 z_3.toNatClampNeg z_8).2.2.1 95 7).toInt = (u_6.2.2.1 95 7).toInt := rfl
  have hke_ : ((upI u_6 101 z_3.toNatClampNeg z_8).2.2.1 95 8).toInt = (u_6.2.2.1 95 8).toInt := rfl
  have hke_ : ((upI u_6 101 z_3.toNatClampNeg z_8).2.2.1 95 9).toInt = (u_6.2.2.1 95 9).toInt := rfl
  have hke_ : ((upI u_6 101 z_3.toNatClampNeg z_8).2.2.1 95 10).toInt = (u_6.2.2.1 95 10).toInt := rfl
  have hke_ : ((upI u_6 101 z_3.toNatClampNeg z_8).2.2.1 95 12).toInt = (u_6.2.2.1 95 12).toInt := rfl
  have hke_ : ((upI u_6 101 z_3.toNatClampNeg z_8).2.2.1 95 11).toInt = (u_6.2.2.1 95 11).toInt := rfl
  have hke_ : ((upI u_6 101 z_3.toNatClampNeg z_8).2.2.1 101 4).toInt = (u_6.2.2.1 101 4).toInt := keep_ne (u := z_3.toInt) rfl (by omega) (by omega)
  have hke_ : ((upI u_6 101 z_3.toNatClampNeg z_8).2.2.1 101 9).toInt = (u_6.2.2.1 101 9).toInt := keep_ne (u := z_3.toInt) rfl (by omega) (by omega)
  refine s_aload_n E dX10_readDoor_31 rfl rfl ?_
  refine s_ldcS (i := 24) E (by decide) rfl dX10_readDoor_32 ?_
  refine s_vV (As := [AX (sA aC 24)]) (S := []) E (Z_X10_needs_95 l D aC b (upI u_6 101 z_3.toNatClampNeg z_8)  hj_11.1  24 (by decide) (by omega)) cv_X10_157 rfl rfl rfl (jv_lt hj_11 (by decide)) (Nat.le_of_ble_eq_true rfl) (Nat.le_of_ble_eq_true rfl) ⟨(Nat.le_of_ble_eq_true rfl), (Nat.le_of_ble_eq_true rfl)⟩ (Nat.le_of_ble_eq_true rfl) dX10_readDoor_34 (fun u_12 hp_13 => ?_)
  obtain ⟨hx_hp_13, hf_u_12_101, hp_13⟩ := hp_13
  have hj_14 := jv_trans hj_11 hp_13
  have hfa_101_4 := congrArg Int32.toInt (congrFun hf_u_12_101 4)
  have hfa_101_9 := congrArg Int32.toInt (congrFun hf_u_12_101 9)
  refine s_aload_n E dX10_readDoor_37 rfl rfl ?_
  refine s_vI (As := []) (S := []) E (Z_X10_good_95 l D aC b u_12  hj_14.1 ) cv_X10_130 rfl rfl rfl (jv_lt hj_14 (by decide)) (Nat.le_of_ble_eq_true rfl) (Nat.le_of_ble_eq_true rfl) ⟨(Nat.le_of_ble_eq_true rfl), (Nat.le_of_ble_eq_true rfl)⟩ (Nat.le_of_ble_eq_true rfl) dX10_readDoor_38 (fun z_17 u_15 hp_16 => ?_)
  obtain ⟨hz_17, hxz_17, hp_16⟩ := hp_16
  subst hp_16
  refine z_if_eq (tgt := 70) (u := z_17.toInt) E dX10_readDoor_41 (by decide) rfl (fun h_19 => ?_) (fun h_19 => ?_)
  ·
    have f2_ : (u_12.2.2.1 101) = (u_12.2.2.1 101) := by first | rfl | exact f2a_
    refine s_aload_n E dX10_readDoor_70 rfl rfl ?_
    refine s_gR (r := 101) E fg_X10_31 rfl rfl (jv_lt hj_14 (by decide)) (jv_r hj_14 (by decide +kernel)) dX10_readDoor_71 ?_
    refine s_iload_n E dX10_readDoor_74 rfl rfl ?_
    refine s_iconst (v := 1) E dX10_readDoor_75 (by decide) ?_
    refine z_iadd (u := z_3.toInt) (v := 1) E dX10_readDoor_76 rfl (by decide) (by omega) (by omega) (fun z_20 hz_20 => ?_)
    refine s_aload_n E dX10_readDoor_77 rfl rfl ?_
    refine s_iconst (v := 0) E dX10_readDoor_78 (by decide) ?_
    refine s_aload_n E dX10_readDoor_79 rfl rfl ?_
    refine s_gR (r := 101) E fg_X10_31 rfl rfl (jv_lt hj_14 (by decide)) (jv_r hj_14 (by decide +kernel)) dX10_readDoor_80 ?_
    refine s_iconst (v := 0) E dX10_readDoor_83 (by decide) ?_
    refine s_iald E rfl (jv_lt hj_14 (by decide)) (z_in (u := 0) (by decide) (by omega) (by omega)) dX10_readDoor_84 ?_
    refine z_nm (P := fun z => z.toInt = (u_12.2.2.1 101 0).toInt ∧ 0 ≤ z.toInt ∧ z.toInt ≤ 8) ⟨rfl, (rw_101_0 hj_14)⟩ (fun z_21 hz_21 => ?_)
    refine s_iconst (v := 1) E dX10_readDoor_85 (by decide) ?_
    refine z_isub (u := z_21.toInt) (v := 1) E dX10_readDoor_86 rfl (by decide) (by omega) (by omega) (fun z_22 hz_22 => ?_)
    refine s_vI (As := [AI 0, AI z_22]) (S := [AI z_20, AR 101]) E (Z_X10_number_95 l D aC b u_12 0 z_22 hj_14.1  (by omega)) cv_X10_161 rfl rfl rfl (jv_lt hj_14 (by decide)) (Nat.le_of_ble_eq_true rfl) (Nat.le_of_ble_eq_true rfl) ⟨(Nat.le_of_ble_eq_true rfl), (Nat.le_of_ble_eq_true rfl)⟩ (Nat.le_of_ble_eq_true rfl) dX10_readDoor_87 (fun z_25 u_23 hp_24 => ?_)
    obtain ⟨hz_25, hxz_25, hf_u_23_101, hp_24⟩ := hp_24
    have hc_ : (0 : Int32).toInt = 0 := by decide
    have hj_26 := jv_trans hj_14 hp_24
    have hfa_101_4 := congrArg Int32.toInt (congrFun hf_u_23_101 4)
    have hfa_101_9 := congrArg Int32.toInt (congrFun hf_u_23_101 9)
    have f3_ : (u_23.2.2.1 101) = (u_12.2.2.1 101) := hf_u_23_101.trans f2_
    have hrz_25 : 0 ≤ z_25.toInt ∧ z_25.toInt ≤ 7 := by omega
    have hne_ : (u_23.2.2.1 95 12).toInt = 0 → ¬ (u_12.2.2.1 101 z_3.toNatClampNeg).toInt = z_25.toInt := by intro h0_; omega
    refine s_iast E rfl (jv_lt hj_26 (by decide)) (z_in (u := z_20.toInt) rfl (by omega) (by omega)) dX10_readDoor_90 ?_
    have hj_28 : Jv w (upI u_23 101 z_20.toNatClampNeg z_25) := (jv_dor hj_26 (Or.inr (by omega)) (by omega) (by omega) (by have hb_ := z32 z_25; omega) (by have hb_ := z32 z_25; omega))
    have hke_ : ((upI u_23 101 z_20.toNatClampNeg z_25).2.2.1 95 7).toInt = (u_23.2.2.1 95 7).toInt := rfl
    have hke_ : ((upI u_23 101 z_20.toNatClampNeg z_25).2.2.1 95 8).toInt = (u_23.2.2.1 95 8).toInt := rfl
    have hke_ : ((upI u_23 101 z_20.toNatClampNeg z_25).2.2.1 95 9).toInt = (u_23.2.2.1 95 9).toInt := rfl
    have hke_ : ((upI u_23 101 z_20.toNatClampNeg z_25).2.2.1 95 10).toInt = (u_23.2.2.1 95 10).toInt := rfl
    have hke_ : ((upI u_23 101 z_20.toNatClampNeg z_25).2.2.1 95 12).toInt = (u_23.2.2.1 95 12).toInt := rfl
    have hke_ : ((upI u_23 101 z_20.toNatClampNeg z_25).2.2.1 95 11).toInt = (u_23.2.2.1 95 11).toInt := rfl
    have hke_ : ((upI u_23 101 z_20.toNatClampNeg z_25).2.2.1 101 4).toInt = (u_23.2.2.1 101 4).toInt := keep_ne (u := z_20.toInt) rfl (by omega) (by omega)
    have hke_ : ((upI u_23 101 z_20.toNatClampNeg z_25).2.2.1 101 9).toInt = (u_23.2.2.1 101 9).toInt := keep_ne (u := z_20.toInt) rfl (by omega) (by omega)
    refine s_aload_n E dX10_readDoor_91 rfl rfl ?_
    refine s_gR (r := 101) E fg_X10_31 rfl rfl (jv_lt hj_28 (by decide)) (jv_r hj_28 (by decide +kernel)) dX10_readDoor_92 ?_
    refine s_iload_n E dX10_readDoor_95 rfl rfl ?_
    refine s_iconst (v := 2) E dX10_readDoor_96 (by decide) ?_
    refine z_iadd (u := z_3.toInt) (v := 2) E dX10_readDoor_97 rfl (by decide) (by omega) (by omega) (fun z_29 hz_29 => ?_)
    refine s_aload_n E dX10_readDoor_98 rfl rfl ?_
    refine s_ldcS (i := 25) E (by decide) rfl dX10_readDoor_99 ?_
    refine s_iconst (v := 1) E dX10_readDoor_101 (by decide) ?_
    refine s_bipush (v := 9) E dX10_readDoor_102 (by decide) ?_
    refine s_vI (As := [AX (sA aC 25), AI 1, AI 9]) (S := [AI z_29, AR 101]) E (Z_X10_told_95 l D aC b (upI u_23 101 z_20.toNatClampNeg z_25) 1 9 hj_28.1  25 (by decide) (by omega)) cv_X10_164 rfl rfl rfl (jv_lt hj_28 (by decide)) (Nat.le_of_ble_eq_true rfl) (Nat.le_of_ble_eq_true rfl) ⟨(Nat.le_of_ble_eq_true rfl), (Nat.le_of_ble_eq_true rfl)⟩ (Nat.le_of_ble_eq_true rfl) dX10_readDoor_104 (fun z_32 u_30 hp_31 => ?_)
    obtain ⟨hz_32, hxz_32, hf_u_30_101, hp_31⟩ := hp_31
    have hc_ : (1 : Int32).toInt = 1 := by decide
    have hc_ : (9 : Int32).toInt = 9 := by decide
    have hj_33 := jv_trans hj_28 hp_31
    have hfa_101_4 := congrArg Int32.toInt (congrFun hf_u_30_101 4)
    have hfa_101_9 := congrArg Int32.toInt (congrFun hf_u_30_101 9)
    have hrz_32 : 0 ≤ z_32.toInt ∧ z_32.toInt ≤ 9 := by omega
    have f4_ := hf_u_30_101
    refine s_iast E rfl (jv_lt hj_33 (by decide)) (z_in (u := z_29.toInt) rfl (by omega) (by omega)) dX10_readDoor_107 ?_
    have hj_35 : Jv w (upI u_30 101 z_29.toNatClampNeg z_32) := (jv_a_101 (i := z_29) (x := z_32) hj_33 0 9 12 45 3 z_29.toInt (by decide +kernel) (by decide) rfl (by omega) (by omega) (by omega) (by have hb_ := z32 z_32; omega) (by have hb_ := z32 z_32; omega))
    have hke_ : ((upI u_30 101 z_29.toNatClampNeg z_32).2.2.1 95 7).toInt = (u_30.2.2.1 95 7).toInt := rfl
    have hke_ : ((upI u_30 101 z_29.toNatClampNeg z_32).2.2.1 95 8).toInt = (u_30.2.2.1 95 8).toInt := rfl
    have hke_ : ((upI u_30 101 z_29.toNatClampNeg z_32).2.2.1 95 9).toInt = (u_30.2.2.1 95 9).toInt := rfl
    have hke_ : ((upI u_30 101 z_29.toNatClampNeg z_32).2.2.1 95 10).toInt = (u_30.2.2.1 95 10).toInt := rfl
    have hke_ : ((upI u_30 101 z_29.toNatClampNeg z_32).2.2.1 95 12).toInt = (u_30.2.2.1 95 12).toInt := rfl
    have hke_ : ((upI u_30 101 z_29.toNatClampNeg z_32).2.2.1 95 11).toInt = (u_30.2.2.1 95 11).toInt := rfl
    have hke_ : ((upI u_30 101 z_29.toNatClampNeg z_32).2.2.1 101 4).toInt = (u_30.2.2.1 101 4).toInt := keep_ne (u := z_29.toInt) rfl (by omega) (by omega)
    have hke_ : ((upI u_30 101 z_29.toNatClampNeg z_32).2.2.1 101 9).toInt = (u_30.2.2.1 101 9).toInt := keep_ne (u := z_29.toInt) rfl (by omega) (by omega)
    refine s_aload_n E dX10_readDoor_108 rfl rfl ?_
    refine s_gR (r := 101) E fg_X10_31 rfl rfl (jv_lt hj_35 (by decide)) (jv_r hj_35 (by decide +kernel)) dX10_readDoor_109 ?_
    refine s_iconst (v := 4) E dX10_readDoor_112 (by decide) ?_
    refine s_dup2 E dX10_readDoor_113 ?_
    refine s_iald E rfl (jv_lt hj_35 (by decide)) (z_in (u := 4) (by decide) (by omega) (by omega)) dX10_readDoor_114 ?_
    refine z_nm (P := fun z => z.toInt = ((upI u_30 101 z_29.toNatClampNeg z_32).2.2.1 101 4).toInt ∧ 0 ≤ z.toInt ∧ z.toInt ≤ 12) ⟨rfl, (rw_101_4 hj_35)⟩ (fun z_36 hz_36 => ?_)
    refine s_iconst (v := 1) E dX10_readDoor_115 (by decide) ?_
    refine z_iadd (u := z_36.toInt) (v := 1) E dX10_readDoor_116 rfl (by decide) (by omega) (by omega) (fun z_37 hz_37 => ?_)
    have hhz_37 : 0 ≤ z_37.toInt ∧ z_37.toInt ≤ 12 := by omega
    refine s_iast E rfl (jv_lt hj_35 (by decide)) (z_in (u := 4) (by decide) (by omega) (by omega)) dX10_readDoor_117 ?_
    have hj_39 : Jv w (upI (upI u_30 101 z_29.toNatClampNeg z_32) 101 4 z_37) := (jv_dor4 hj_35 (by omega) (by omega) (by omega) (fun h0_ => dor_fin (N := (w.2.2.1 101 4).toInt) f4_ f3_ (by omega) (by omega) (by omega) (by omega) (by omega) (hne_ (by omega))))
    have hke_ : ((upI (upI u_30 101 z_29.toNatClampNeg z_32) 101 4 z_37).2.2.1 95 7).toInt = ((upI u_30 101 z_29.toNatClampNeg z_32).2.2.1 95 7).toInt := rfl
    have hke_ : ((upI (upI u_30 101 z_29.toNatClampNeg z_32) 101 4 z_37).2.2.1 95 8).toInt = ((upI u_30 101 z_29.toNatClampNeg z_32).2.2.1 95 8).toInt := rfl
    have hke_ : ((upI (upI u_30 101 z_29.toNatClampNeg z_32) 101 4 z_37).2.2.1 95 9).toInt = ((upI u_30 101 z_29.toNatClampNeg z_32).2.2.1 95 9).toInt := rfl
    have hke_ : ((upI (upI u_30 101 z_29.toNatClampNeg z_32) 101 4 z_37).2.2.1 95 10).toInt = ((upI u_30 101 z_29.toNatClampNeg z_32).2.2.1 95 10).toInt := rfl
    have hke_ : ((upI (upI u_30 101 z_29.toNatClampNeg z_32) 101 4 z_37).2.2.1 95 12).toInt = ((upI u_30 101 z_29.toNatClampNeg z_32).2.2.1 95 12).toInt := rfl
    have hke_ : ((upI (upI u_30 101 z_29.toNatClampNeg z_32) 101 4 z_37).2.2.1 95 11).toInt = ((upI u_30 101 z_29.toNatClampNeg z_32).2.2.1 95 11).toInt := rfl
    have hke_ : ((upI (upI u_30 101 z_29.toNatClampNeg z_32) 101 4 z_37).2.2.1 101 4).toInt = z_37.toInt := rfl
    have hke_ : ((upI (upI u_30 101 z_29.toNatClampNeg z_32) 101 4 z_37).2.2.1 101 9).toInt = ((upI u_30 101 z_29.toNatClampNeg z_32).2.2.1 101 9).toInt := rfl
    exact r_void E dX10_readDoor_118 ⟨(by omega), hj_39⟩
  ·
    refine s_aload_n E dX10_readDoor_44 rfl rfl ?_
    refine s_gI E fg_X10_106 rfl rfl (jv_lt hj_14 (by decide)) dX10_readDoor_45 ?_
    refine z_nm (P := fun z => z.toInt = (u_12.2.2.1 95 10).toInt ∧ 0 ≤ z.toInt ∧ z.toInt ≤ 4) ⟨rfl, (rg_95_10 hj_14)⟩ (fun z_40 hz_40 => ?_)
    refine s_iconst (v := 2) E dX10_readDoor_48 (by decide) ?_
    refine z_icmp_ne (tgt := 70) (u := z_40.toInt) (v := 2) E dX10_readDoor_49 (by decide) rfl (by decide) (fun h_41 => ?_) (fun h_41 => ?_)
    ·
      have f2_ : (u_12.2.2.1 101) = (u_12.2.2.1 101) := by first | rfl | exact f2a_
      refine s_aload_n E dX10_readDoor_70 rfl rfl ?_
      refine s_gR (r := 101) E fg_X10_31 rfl rfl (jv_lt hj_14 (by decide)) (jv_r hj_14 (by decide +kernel)) dX10_readDoor_71 ?_
      refine s_iload_n E dX10_readDoor_74 rfl rfl ?_
      refine s_iconst (v := 1) E dX10_readDoor_75 (by decide) ?_
      refine z_iadd (u := z_3.toInt) (v := 1) E dX10_readDoor_76 rfl (by decide) (by omega) (by omega) (fun z_42 hz_42 => ?_)
      refine s_aload_n E dX10_readDoor_77 rfl rfl ?_
      refine s_iconst (v := 0) E dX10_readDoor_78 (by decide) ?_
      refine s_aload_n E dX10_readDoor_79 rfl rfl ?_
      refine s_gR (r := 101) E fg_X10_31 rfl rfl (jv_lt hj_14 (by decide)) (jv_r hj_14 (by decide +kernel)) dX10_readDoor_80 ?_
      refine s_iconst (v := 0) E dX10_readDoor_83 (by decide) ?_
      refine s_iald E rfl (jv_lt hj_14 (by decide)) (z_in (u := 0) (by decide) (by omega) (by omega)) dX10_readDoor_84 ?_
      refine z_nm (P := fun z => z.toInt = (u_12.2.2.1 101 0).toInt ∧ 0 ≤ z.toInt ∧ z.toInt ≤ 8) ⟨rfl, (rw_101_0 hj_14)⟩ (fun z_43 hz_43 => ?_)
      refine s_iconst (v := 1) E dX10_readDoor_85 (by decide) ?_
      refine z_isub (u := z_43.toInt) (v := 1) E dX10_readDoor_86 rfl (by decide) (by omega) (by omega) (fun z_44 hz_44 => ?_)
      refine s_vI (As := [AI 0, AI z_44]) (S := [AI z_42, AR 101]) E (Z_X10_number_95 l D aC b u_12 0 z_44 hj_14.1  (by omega)) cv_X10_161 rfl rfl rfl (jv_lt hj_14 (by decide)) (Nat.le_of_ble_eq_true rfl) (Nat.le_of_ble_eq_true rfl) ⟨(Nat.le_of_ble_eq_true rfl), (Nat.le_of_ble_eq_true rfl)⟩ (Nat.le_of_ble_eq_true rfl) dX10_readDoor_87 (fun z_47 u_45 hp_46 => ?_)
      obtain ⟨hz_47, hxz_47, hf_u_45_101, hp_46⟩ := hp_46
      have hc_ : (0 : Int32).toInt = 0 := by decide
      have hj_48 := jv_trans hj_14 hp_46
      have hfa_101_4 := congrArg Int32.toInt (congrFun hf_u_45_101 4)
      have hfa_101_9 := congrArg Int32.toInt (congrFun hf_u_45_101 9)
      have f3_ : (u_45.2.2.1 101) = (u_12.2.2.1 101) := hf_u_45_101.trans f2_
      have hrz_47 : 0 ≤ z_47.toInt ∧ z_47.toInt ≤ 7 := by omega
      have hne_ : (u_45.2.2.1 95 12).toInt = 0 → ¬ (u_12.2.2.1 101 z_3.toNatClampNeg).toInt = z_47.toInt := by intro h0_; omega
      refine s_iast E rfl (jv_lt hj_48 (by decide)) (z_in (u := z_42.toInt) rfl (by omega) (by omega)) dX10_readDoor_90 ?_
      have hj_50 : Jv w (upI u_45 101 z_42.toNatClampNeg z_47) := (jv_dor hj_48 (Or.inr (by omega)) (by omega) (by omega) (by have hb_ := z32 z_47; omega) (by have hb_ := z32 z_47; omega))
      have hke_ : ((upI u_45 101 z_42.toNatClampNeg z_47).2.2.1 95 7).toInt = (u_45.2.2.1 95 7).toInt := rfl
      have hke_ : ((upI u_45 101 z_42.toNatClampNeg z_47).2.2.1 95 8).toInt = (u_45.2.2.1 95 8).toInt := rfl
      have hke_ : ((upI u_45 101 z_42.toNatClampNeg z_47).2.2.1 95 9).toInt = (u_45.2.2.1 95 9).toInt := rfl
      have hke_ : ((upI u_45 101 z_42.toNatClampNeg z_47).2.2.1 95 10).toInt = (u_45.2.2.1 95 10).toInt := rfl
      have hke_ : ((upI u_45 101 z_42.toNatClampNeg z_47).2.2.1 95 12).toInt = (u_45.2.2.1 95 12).toInt := rfl
      have hke_ : ((upI u_45 101 z_42.toNatClampNeg z_47).2.2.1 95 11).toInt = (u_45.2.2.1 95 11).toInt := rfl
      have hke_ : ((upI u_45 101 z_42.toNatClampNeg z_47).2.2.1 101 4).toInt = (u_45.2.2.1 101 4).toInt := keep_ne (u := z_42.toInt) rfl (by omega) (by omega)
      have hke_ : ((upI u_45 101 z_42.toNatClampNeg z_47).2.2.1 101 9).toInt = (u_45.2.2.1 101 9).toInt := keep_ne (u := z_42.toInt) rfl (by omega) (by omega)
      refine s_aload_n E dX10_readDoor_91 rfl rfl ?_
      refine s_gR (r := 101) E fg_X10_31 rfl rfl (jv_lt hj_50 (by decide)) (jv_r hj_50 (by decide +kernel)) dX10_readDoor_92 ?_
      refine s_iload_n E dX10_readDoor_95 rfl rfl ?_
      refine s_iconst (v := 2) E dX10_readDoor_96 (by decide) ?_
      refine z_iadd (u := z_3.toInt) (v := 2) E dX10_readDoor_97 rfl (by decide) (by omega) (by omega) (fun z_51 hz_51 => ?_)
      refine s_aload_n E dX10_readDoor_98 rfl rfl ?_
      refine s_ldcS (i := 25) E (by decide) rfl dX10_readDoor_99 ?_
      refine s_iconst (v := 1) E dX10_readDoor_101 (by decide) ?_
      refine s_bipush (v := 9) E dX10_readDoor_102 (by decide) ?_
      refine s_vI (As := [AX (sA aC 25), AI 1, AI 9]) (S := [AI z_51, AR 101]) E (Z_X10_told_95 l D aC b (upI u_45 101 z_42.toNatClampNeg z_47) 1 9 hj_50.1  25 (by decide) (by omega)) cv_X10_164 rfl rfl rfl (jv_lt hj_50 (by decide)) (Nat.le_of_ble_eq_true rfl) (Nat.le_of_ble_eq_true rfl) ⟨(Nat.le_of_ble_eq_true rfl), (Nat.le_of_ble_eq_true rfl)⟩ (Nat.le_of_ble_eq_true rfl) dX10_readDoor_104 (fun z_54 u_52 hp_53 => ?_)
      obtain ⟨hz_54, hxz_54, hf_u_52_101, hp_53⟩ := hp_53
      have hc_ : (1 : Int32).toInt = 1 := by decide
      have hc_ : (9 : Int32).toInt = 9 := by decide
      have hj_55 := jv_trans hj_50 hp_53
      have hfa_101_4 := congrArg Int32.toInt (congrFun hf_u_52_101 4)
      have hfa_101_9 := congrArg Int32.toInt (congrFun hf_u_52_101 9)
      have hrz_54 : 0 ≤ z_54.toInt ∧ z_54.toInt ≤ 9 := by omega
      have f4_ := hf_u_52_101
      refine s_iast E rfl (jv_lt hj_55 (by decide)) (z_in (u := z_51.toInt) rfl (by omega) (by omega)) dX10_readDoor_107 ?_
      have hj_57 : Jv w (upI u_52 101 z_51.toNatClampNeg z_54) := (jv_a_101 (i := z_51) (x := z_54) hj_55 0 9 12 45 3 z_51.toInt (by decide +kernel) (by decide) rfl (by omega) (by omega) (by omega) (by have hb_ := z32 z_54; omega) (by have hb_ := z32 z_54; omega))
      have hke_ : ((upI u_52 101 z_51.toNatClampNeg z_54).2.2.1 95 7).toInt = (u_52.2.2.1 95 7).toInt := rfl
      have hke_ : ((upI u_52 101 z_51.toNatClampNeg z_54).2.2.1 95 8).toInt = (u_52.2.2.1 95 8).toInt := rfl
      have hke_ : ((upI u_52 101 z_51.toNatClampNeg z_54).2.2.1 95 9).toInt = (u_52.2.2.1 95 9).toInt := rfl
      have hke_ : ((upI u_52 101 z_51.toNatClampNeg z_54).2.2.1 95 10).toInt = (u_52.2.2.1 95 10).toInt := rfl
      have hke_ : ((upI u_52 101 z_51.toNatClampNeg z_54).2.2.1 95 12).toInt = (u_52.2.2.1 95 12).toInt := rfl
      have hke_ : ((upI u_52 101 z_51.toNatClampNeg z_54).2.2.1 95 11).toInt = (u_52.2.2.1 95 11).toInt := rfl
      have hke_ : ((upI u_52 101 z_51.toNatClampNeg z_54).2.2.1 101 4).toInt = (u_52.2.2.1 101 4).toInt := keep_ne (u := z_51.toInt) rfl (by omega) (by omega)
      have hke_ : ((upI u_52 101 z_51.toNatClampNeg z_54).2.2.1 101 9).toInt = (u_52.2.2.1 101 9).toInt := keep_ne (u := z_51.toInt) rfl (by omega) (by omega)
      refine s_aload_n E dX10_readDoor_108 rfl rfl ?_
      refine s_gR (r := 101) E fg_X10_31 rfl rfl (jv_lt hj_57 (by decide)) (jv_r hj_57 (by decide +kernel)) dX10_readDoor_109 ?_
      refine s_iconst (v := 4) E dX10_readDoor_112 (by decide) ?_
      refine s_dup2 E dX10_readDoor_113 ?_
      refine s_iald E rfl (jv_lt hj_57 (by decide)) (z_in (u := 4) (by decide) (by omega) (by omega)) dX10_readDoor_114 ?_
      refine z_nm (P := fun z => z.toInt = ((upI u_52 101 z_51.toNatClampNeg z_54).2.2.1 101 4).toInt ∧ 0 ≤ z.toInt ∧ z.toInt ≤ 12) ⟨rfl, (rw_101_4 hj_57)⟩ (fun z_58 hz_58 => ?_)
      refine s_iconst (v := 1) E dX10_readDoor_115 (by decide) ?_
      refine z_iadd (u := z_58.toInt) (v := 1) E dX10_readDoor_116 rfl (by decide) (by omega) (by omega) (fun z_59 hz_59 => ?_)
      have hhz_59 : 0 ≤ z_59.toInt ∧ z_59.toInt ≤ 12 := by omega
      refine s_iast E rfl (jv_lt hj_57 (by decide)) (z_in (u := 4) (by decide) (by omega) (by omega)) dX10_readDoor_117 ?_
      have hj_61 : Jv w (upI (upI u_52 101 z_51.toNatClampNeg z_54) 101 4 z_59) := (jv_dor4 hj_57 (by omega) (by omega) (by omega) (fun h0_ => dor_fin (N := (w.2.2.1 101 4).toInt) f4_ f3_ (by omega) (by omega) (by omega) (by omega) (by omega) (hne_ (by omega))))
      have hke_ : ((upI (upI u_52 101 z_51.toNatClampNeg z_54) 101 4 z_59).2.2.1 95 7).toInt = ((upI u_52 101 z_51.toNatClampNeg z_54).2.2.1 95 7).toInt := rfl
      have hke_ : ((upI (upI u_52 101 z_51.toNatClampNeg z_54) 101 4 z_59).2.2.1 95 8).toInt = ((upI u_52 101 z_51.toNatClampNeg z_54).2.2.1 95 8).toInt := rfl
      have hke_ : ((upI (upI u_52 101 z_51.toNatClampNeg z_54) 101 4 z_59).2.2.1 95 9).toInt = ((upI u_52 101 z_51.toNatClampNeg z_54).2.2.1 95 9).toInt := rfl
      have hke_ : ((upI (upI u_52 101 z_51.toNatClampNeg z_54) 101 4 z_59).2.2.1 95 10).toInt = ((upI u_52 101 z_51.toNatClampNeg z_54).2.2.1 95 10).toInt := rfl
      have hke_ : ((upI (upI u_52 101 z_51.toNatClampNeg z_54) 101 4 z_59).2.2.1 95 12).toInt = ((upI u_52 101 z_51.toNatClampNeg z_54).2.2.1 95 12).toInt := rfl
      have hke_ : ((upI (upI u_52 101 z_51.toNatClampNeg z_54) 101 4 z_59).2.2.1 95 11).toInt = ((upI u_52 101 z_51.toNatClampNeg z_54).2.2.1 95 11).toInt := rfl
      have hke_ : ((upI (upI u_52 101 z_51.toNatClampNeg z_54) 101 4 z_59).2.2.1 101 4).toInt = z_59.toInt := rfl
      have hke_ : ((upI (upI u_52 101 z_51.toNatClampNeg z_54) 101 4 z_59).2.2.1 101 9).toInt = ((upI u_52 101 z_51.toNatClampNeg z_54).2.2.1 101 9).toInt := rfl
      exact r_void E dX10_readDoor_118 ⟨(by omega), hj_61⟩
    ·
      refine s_aload_n E dX10_readDoor_52 rfl rfl ?_
      refine s_gI E fg_X10_117 rfl rfl (jv_lt hj_14 (by decide)) dX10_readDoor_53 ?_
      refine z_nm (P := fun z => z.toInt = (u_12.2.2.1 95 11).toInt ∧ 0 ≤ z.toInt ∧ z.toInt ≤ 99999) ⟨rfl, (rg_95_11 hj_14)⟩ (fun z_62 hz_62 => ?_)
      refine s_aload_n E dX10_readDoor_56 rfl rfl ?_
      refine s_gR (r := 101) E fg_X10_31 rfl rfl (jv_lt hj_14 (by decide)) (jv_r hj_14 (by decide +kernel)) dX10_readDoor_57 ?_
      refine s_iload_n E dX10_readDoor_60 rfl rfl ?_
      refine s_iald E rfl (jv_lt hj_14 (by decide)) (z_in (u := z_3.toInt) rfl (by omega) (by omega)) dX10_readDoor_61 ?_
      refine z_nm (P := fun z => z.toInt = (u_12.2.2.1 101 z_3.toNatClampNeg).toInt ∧ 0 ≤ z.toInt ∧ z.toInt ≤ 7 ∧ (104 ≤ z_3.toInt → z_3.toInt < 134 → okA z.toInt)) ⟨rfl, (rs_w hj_14 (by decide) 0 7 10 43 3 z_3 z_3.toInt (by decide +kernel) rfl (by omega) (by omega) (by omega))⟩ (fun z_63 hz_63 => ?_)
      refine z_icmp_ne (tgt := 70) (u := z_62.toInt) (v := z_63.toInt) E dX10_readDoor_62 (by decide) rfl rfl (fun h_64 => ?_) (fun h_64 => ?_)
      ·
        have f2_ : (u_12.2.2.1 101) = (u_12.2.2.1 101) := by first | rfl | exact f2a_
        refine s_aload_n E dX10_readDoor_70 rfl rfl ?_
        refine s_gR (r := 101) E fg_X10_31 rfl rfl (jv_lt hj_14 (by decide)) (jv_r hj_14 (by decide +kernel)) dX10_readDoor_71 ?_
        refine s_iload_n E dX10_readDoor_74 rfl rfl ?_
        refine s_iconst (v := 1) E dX10_readDoor_75 (by decide) ?_
        refine z_iadd (u := z_3.toInt) (v := 1) E dX10_readDoor_76 rfl (by decide) (by omega) (by omega) (fun z_65 hz_65 => ?_)
        refine s_aload_n E dX10_readDoor_77 rfl rfl ?_
        refine s_iconst (v := 0) E dX10_readDoor_78 (by decide) ?_
        refine s_aload_n E dX10_readDoor_79 rfl rfl ?_
        refine s_gR (r := 101) E fg_X10_31 rfl rfl (jv_lt hj_14 (by decide)) (jv_r hj_14 (by decide +kernel)) dX10_readDoor_80 ?_
        refine s_iconst (v := 0) E dX10_readDoor_83 (by decide) ?_
        refine s_iald E rfl (jv_lt hj_14 (by decide)) (z_in (u := 0) (by decide) (by omega) (by omega)) dX10_readDoor_84 ?_
        refine z_nm (P := fun z => z.toInt = (u_12.2.2.1 101 0).toInt ∧ 0 ≤ z.toInt ∧ z.toInt ≤ 8) ⟨rfl, (rw_101_0 hj_14)⟩ (fun z_66 hz_66 => ?_)
        refine s_iconst (v := 1) E dX10_readDoor_85 (by decide) ?_
        refine z_isub (u := z_66.toInt) (v := 1) E dX10_readDoor_86 rfl (by decide) (by omega) (by omega) (fun z_67 hz_67 => ?_)
        refine s_vI (As := [AI 0, AI z_67]) (S := [AI z_65, AR 101]) E (Z_X10_number_95 l D aC b u_12 0 z_67 hj_14.1  (by omega)) cv_X10_161 rfl rfl rfl (jv_lt hj_14 (by decide)) (Nat.le_of_ble_eq_true rfl) (Nat.le_of_ble_eq_true rfl) ⟨(Nat.le_of_ble_eq_true rfl), (Nat.le_of_ble_eq_true rfl)⟩ (Nat.le_of_ble_eq_true rfl) dX10_readDoor_87 (fun z_70 u_68 hp_69 => ?_)
        obtain ⟨hz_70, hxz_70, hf_u_68_101, hp_69⟩ := hp_69
        have hc_ : (0 : Int32).toInt = 0 := by decide
        have hj_71 := jv_trans hj_14 hp_69
        have hfa_101_4 := congrArg Int32.toInt (congrFun hf_u_68_101 4)
        have hfa_101_9 := congrArg Int32.toInt (congrFun hf_u_68_101 9)
        have f3_ : (u_68.2.2.1 101) = (u_12.2.2.1 101) := hf_u_68_101.trans f2_
        have hrz_70 : 0 ≤ z_70.toInt ∧ z_70.toInt ≤ 7 := by omega
        have hne_ : (u_68.2.2.1 95 12).toInt = 0 → ¬ (u_12.2.2.1 101 z_3.toNatClampNeg).toInt = z_70.toInt := by intro h0_; omega
        refine s_iast E rfl (jv_lt hj_71 (by decide)) (z_in (u := z_65.toInt) rfl (by omega) (by omega)) dX10_readDoor_90 ?_
        have hj_73 : Jv w (upI u_68 101 z_65.toNatClampNeg z_70) := (jv_dor hj_71 (Or.inr (by omega)) (by omega) (by omega) (by have hb_ := z32 z_70; omega) (by have hb_ := z32 z_70; omega))
        have hke_ : ((upI u_68 101 z_65.toNatClampNeg z_70).2.2.1 95 7).toInt = (u_68.2.2.1 95 7).toInt := rfl
        have hke_ : ((upI u_68 101 z_65.toNatClampNeg z_70).2.2.1 95 8).toInt = (u_68.2.2.1 95 8).toInt := rfl
        have hke_ : ((upI u_68 101 z_65.toNatClampNeg z_70).2.2.1 95 9).toInt = (u_68.2.2.1 95 9).toInt := rfl
        have hke_ : ((upI u_68 101 z_65.toNatClampNeg z_70).2.2.1 95 10).toInt = (u_68.2.2.1 95 10).toInt := rfl
        have hke_ : ((upI u_68 101 z_65.toNatClampNeg z_70).2.2.1 95 12).toInt = (u_68.2.2.1 95 12).toInt := rfl
        have hke_ : ((upI u_68 101 z_65.toNatClampNeg z_70).2.2.1 95 11).toInt = (u_68.2.2.1 95 11).toInt := rfl
        have hke_ : ((upI u_68 101 z_65.toNatClampNeg z_70).2.2.1 101 4).toInt = (u_68.2.2.1 101 4).toInt := keep_ne (u := z_65.toInt) rfl (by omega) (by omega)
        have hke_ : ((upI u_68 101 z_65.toNatClampNeg z_70).2.2.1 101 9).toInt = (u_68.2.2.1 101 9).toInt := keep_ne (u := z_65.toInt) rfl (by omega) (by omega)
        refine s_aload_n E dX10_readDoor_91 rfl rfl ?_
        refine s_gR (r := 101) E fg_X10_31 rfl rfl (jv_lt hj_73 (by decide)) (jv_r hj_73 (by decide +kernel)) dX10_readDoor_92 ?_
        refine s_iload_n E dX10_readDoor_95 rfl rfl ?_
        refine s_iconst (v := 2) E dX10_readDoor_96 (by decide) ?_
        refine z_iadd (u := z_3.toInt) (v := 2) E dX10_readDoor_97 rfl (by decide) (by omega) (by omega) (fun z_74 hz_74 => ?_)
        refine s_aload_n E dX10_readDoor_98 rfl rfl ?_
        refine s_ldcS (i := 25) E (by decide) rfl dX10_readDoor_99 ?_
        refine s_iconst (v := 1) E dX10_readDoor_101 (by decide) ?_
        refine s_bipush (v := 9) E dX10_readDoor_102 (by decide) ?_
        refine s_vI (As := [AX (sA aC 25), AI 1, AI 9]) (S := [AI z_74, AR 101]) E (Z_X10_told_95 l D aC b (upI u_68 101 z_65.toNatClampNeg z_70) 1 9 hj_73.1  25 (by decide) (by omega)) cv_X10_164 rfl rfl rfl (jv_lt hj_73 (by decide)) (Nat.le_of_ble_eq_true rfl) (Nat.le_of_ble_eq_true rfl) ⟨(Nat.le_of_ble_eq_true rfl), (Nat.le_of_ble_eq_true rfl)⟩ (Nat.le_of_ble_eq_true rfl) dX10_readDoor_104 (fun z_77 u_75 hp_76 => ?_)
        obtain ⟨hz_77, hxz_77, hf_u_75_101, hp_76⟩ := hp_76
        have hc_ : (1 : Int32).toInt = 1 := by decide
        have hc_ : (9 : Int32).toInt = 9 := by decide
        have hj_78 := jv_trans hj_73 hp_76
        have hfa_101_4 := congrArg Int32.toInt (congrFun hf_u_75_101 4)
        have hfa_101_9 := congrArg Int32.toInt (congrFun hf_u_75_101 9)
        have hrz_77 : 0 ≤ z_77.toInt ∧ z_77.toInt ≤ 9 := by omega
        have f4_ := hf_u_75_101
        refine s_iast E rfl (jv_lt hj_78 (by decide)) (z_in (u := z_74.toInt) rfl (by omega) (by omega)) dX10_readDoor_107 ?_
        have hj_80 : Jv w (upI u_75 101 z_74.toNatClampNeg z_77) := (jv_a_101 (i := z_74) (x := z_77) hj_78 0 9 12 45 3 z_74.toInt (by decide +kernel) (by decide) rfl (by omega) (by omega) (by omega) (by have hb_ := z32 z_77; omega) (by have hb_ := z32 z_77; omega))
        have hke_ : ((upI u_75 101 z_74.toNatClampNeg z_77).2.2.1 95 7).toInt = (u_75.2.2.1 95 7).toInt := rfl
        have hke_ : ((upI u_75 101 z_74.toNatClampNeg z_77).2.2.1 95 8).toInt = (u_75.2.2.1 95 8).toInt := rfl
        have hke_ : ((upI u_75 101 z_74.toNatClampNeg z_77).2.2.1 95 9).toInt = (u_75.2.2.1 95 9).toInt := rfl
        have hke_ : ((upI u_75 101 z_74.toNatClampNeg z_77).2.2.1 95 10).toInt = (u_75.2.2.1 95 10).toInt := rfl
        have hke_ : ((upI u_75 101 z_74.toNatClampNeg z_77).2.2.1 95 12).toInt = (u_75.2.2.1 95 12).toInt := rfl
        have hke_ : ((upI u_75 101 z_74.toNatClampNeg z_77).2.2.1 95 11).toInt = (u_75.2.2.1 95 11).toInt := rfl
        have hke_ : ((upI u_75 101 z_74.toNatClampNeg z_77).2.2.1 101 4).toInt = (u_75.2.2.1 101 4).toInt := keep_ne (u := z_74.toInt) rfl (by omega) (by omega)
        have hke_ : ((upI u_75 101 z_74.toNatClampNeg z_77).2.2.1 101 9).toInt = (u_75.2.2.1 101 9).toInt := keep_ne (u := z_74.toInt) rfl (by omega) (by omega)
        refine s_aload_n E dX10_readDoor_108 rfl rfl ?_
        refine s_gR (r := 101) E fg_X10_31 rfl rfl (jv_lt hj_80 (by decide)) (jv_r hj_80 (by decide +kernel)) dX10_readDoor_109 ?_
        refine s_iconst (v := 4) E dX10_readDoor_112 (by decide) ?_
        refine s_dup2 E dX10_readDoor_113 ?_
        refine s_iald E rfl (jv_lt hj_80 (by decide)) (z_in (u := 4) (by decide) (by omega) (by omega)) dX10_readDoor_114 ?_
        refine z_nm (P := fun z => z.toInt = ((upI u_75 101 z_74.toNatClampNeg z_77).2.2.1 101 4).toInt ∧ 0 ≤ z.toInt ∧ z.toInt ≤ 12) ⟨rfl, (rw_101_4 hj_80)⟩ (fun z_81 hz_81 => ?_)
        refine s_iconst (v := 1) E dX10_readDoor_115 (by decide) ?_
        refine z_iadd (u := z_81.toInt) (v := 1) E dX10_readDoor_116 rfl (by decide) (by omega) (by omega) (fun z_82 hz_82 => ?_)
        have hhz_82 : 0 ≤ z_82.toInt ∧ z_82.toInt ≤ 12 := by omega
        refine s_iast E rfl (jv_lt hj_80 (by decide)) (z_in (u := 4) (by decide) (by omega) (by omega)) dX10_readDoor_117 ?_
        have hj_84 : Jv w (upI (upI u_75 101 z_74.toNatClampNeg z_77) 101 4 z_82) := (jv_dor4 hj_80 (by omega) (by omega) (by omega) (fun h0_ => dor_fin (N := (w.2.2.1 101 4).toInt) f4_ f3_ (by omega) (by omega) (by omega) (by omega) (by omega) (hne_ (by omega))))
        have hke_ : ((upI (upI u_75 101 z_74.toNatClampNeg z_77) 101 4 z_82).2.2.1 95 7).toInt = ((upI u_75 101 z_74.toNatClampNeg z_77).2.2.1 95 7).toInt := rfl
        have hke_ : ((upI (upI u_75 101 z_74.toNatClampNeg z_77) 101 4 z_82).2.2.1 95 8).toInt = ((upI u_75 101 z_74.toNatClampNeg z_77).2.2.1 95 8).toInt := rfl
        have hke_ : ((upI (upI u_75 101 z_74.toNatClampNeg z_77) 101 4 z_82).2.2.1 95 9).toInt = ((upI u_75 101 z_74.toNatClampNeg z_77).2.2.1 95 9).toInt := rfl
        have hke_ : ((upI (upI u_75 101 z_74.toNatClampNeg z_77) 101 4 z_82).2.2.1 95 10).toInt = ((upI u_75 101 z_74.toNatClampNeg z_77).2.2.1 95 10).toInt := rfl
        have hke_ : ((upI (upI u_75 101 z_74.toNatClampNeg z_77) 101 4 z_82).2.2.1 95 12).toInt = ((upI u_75 101 z_74.toNatClampNeg z_77).2.2.1 95 12).toInt := rfl
        have hke_ : ((upI (upI u_75 101 z_74.toNatClampNeg z_77) 101 4 z_82).2.2.1 95 11).toInt = ((upI u_75 101 z_74.toNatClampNeg z_77).2.2.1 95 11).toInt := rfl
        have hke_ : ((upI (upI u_75 101 z_74.toNatClampNeg z_77) 101 4 z_82).2.2.1 101 4).toInt = z_82.toInt := rfl
        have hke_ : ((upI (upI u_75 101 z_74.toNatClampNeg z_77) 101 4 z_82).2.2.1 101 9).toInt = ((upI u_75 101 z_74.toNatClampNeg z_77).2.2.1 101 9).toInt := rfl
        exact r_void E dX10_readDoor_118 ⟨(by omega), hj_84⟩
      ·
        refine s_aload_n E dX10_readDoor_65 rfl rfl ?_
        refine s_iconst (v := 2) E dX10_readDoor_66 (by decide) ?_
        refine s_vV (As := [AI 2]) (S := []) E (Z_X10_errs_95 l D aC b u_12 2 hj_14.1 (by decide)) cv_X10_153 rfl rfl rfl (jv_lt hj_14 (by decide)) (Nat.le_of_ble_eq_true rfl) (Nat.le_of_ble_eq_true rfl) ⟨(Nat.le_of_ble_eq_true rfl), (Nat.le_of_ble_eq_true rfl)⟩ (Nat.le_of_ble_eq_true rfl) dX10_readDoor_67 (fun u_85 hp_86 => ?_)
        have hc_ : (2 : Int32).toInt = 2 := by decide
        obtain ⟨hx_hp_86, hf_u_85_101, hp_86⟩ := hp_86
        have hj_87 := jv_trans hj_14 hp_86
        have hfa_101_4 := congrArg Int32.toInt (congrFun hf_u_85_101 4)
        have hfa_101_9 := congrArg Int32.toInt (congrFun hf_u_85_101 9)
        have f2a_ : (u_85.2.2.1 101) = (u_12.2.2.1 101) := hf_u_85_101
        have f2_ : (u_85.2.2.1 101) = (u_12.2.2.1 101) := by first | rfl | exact f2a_
        refine s_aload_n E dX10_readDoor_70 rfl rfl ?_
        refine s_gR (r := 101) E fg_X10_31 rfl rfl (jv_lt hj_87 (by decide)) (jv_r hj_87 (by decide +kernel)) dX10_readDoor_71 ?_
        refine s_iload_n E dX10_readDoor_74 rfl rfl ?_
        refine s_iconst (v := 1) E dX10_readDoor_75 (by decide) ?_
        refine z_iadd (u := z_3.toInt) (v := 1) E dX10_readDoor_76 rfl (by decide) (by omega) (by omega) (fun z_88 hz_88 => ?_)
        refine s_aload_n E dX10_readDoor_77 rfl rfl ?_
        refine s_iconst (v := 0) E dX10_readDoor_78 (by decide) ?_
        refine s_aload_n E dX10_readDoor_79 rfl rfl ?_
        refine s_gR (r := 101) E fg_X10_31 rfl rfl (jv_lt hj_87 (by decide)) (jv_r hj_87 (by decide +kernel)) dX10_readDoor_80 ?_
        refine s_iconst (v := 0) E dX10_readDoor_83 (by decide) ?_
        refine s_iald E rfl (jv_lt hj_87 (by decide)) (z_in (u := 0) (by decide) (by omega) (by omega)) dX10_readDoor_84 ?_
        refine z_nm (P := fun z => z.toInt = (u_85.2.2.1 101 0).toInt ∧ 0 ≤ z.toInt ∧ z.toInt ≤ 8) ⟨rfl, (rw_101_0 hj_87)⟩ (fun z_89 hz_89 => ?_)
        refine s_iconst (v := 1) E dX10_readDoor_85 (by decide) ?_
        refine z_isub (u := z_89.toInt) (v := 1) E dX10_readDoor_86 rfl (by decide) (by omega) (by omega) (fun z_90 hz_90 => ?_)
        refine s_vI (As := [AI 0, AI z_90]) (S := [AI z_88, AR 101]) E (Z_X10_number_95 l D aC b u_85 0 z_90 hj_87.1  (by omega)) cv_X10_161 rfl rfl rfl (jv_lt hj_87 (by decide)) (Nat.le_of_ble_eq_true rfl) (Nat.le_of_ble_eq_true rfl) ⟨(Nat.le_of_ble_eq_true rfl), (Nat.le_of_ble_eq_true rfl)⟩ (Nat.le_of_ble_eq_true rfl) dX10_readDoor_87 (fun z_93 u_91 hp_92 => ?_)
        obtain ⟨hz_93, hxz_93, hf_u_91_101, hp_92⟩ := hp_92
        have hc_ : (0 : Int32).toInt = 0 := by decide
        have hj_94 := jv_trans hj_87 hp_92
        have hfa_101_4 := congrArg Int32.toInt (congrFun hf_u_91_101 4)
        have hfa_101_9 := congrArg Int32.toInt (congrFun hf_u_91_101 9)
        have f3_ : (u_91.2.2.1 101) = (u_12.2.2.1 101) := hf_u_91_101.trans f2_
        have hrz_93 : 0 ≤ z_93.toInt ∧ z_93.toInt ≤ 7 := by omega
        have hne_ : (u_91.2.2.1 95 12).toInt = 0 → ¬ (u_12.2.2.1 101 z_3.toNatClampNeg).toInt = z_93.toInt := by intro h0_; omega
        refine s_iast E rfl (jv_lt hj_94 (by decide)) (z_in (u := z_88.toInt) rfl (by omega) (by omega)) dX10_readDoor_90 ?_
        have hj_96 : Jv w (upI u_91 101 z_88.toNatClampNeg z_93) := (jv_dor hj_94 (Or.inr (by omega)) (by omega) (by omega) (by have hb_ := z32 z_93; omega) (by have hb_ := z32 z_93; omega))
        have hke_ : ((upI u_91 101 z_88.toNatClampNeg z_93).2.2.1 95 7).toInt = (u_91.2.2.1 95 7).toInt := rfl
        have hke_ : ((upI u_91 101 z_88.toNatClampNeg z_93).2.2.1 95 8).toInt = (u_91.2.2.1 95 8).toInt := rfl
        have hke_ : ((upI u_91 101 z_88.toNatClampNeg z_93).2.2.1 95 9).toInt = (u_91.2.2.1 95 9).toInt := rfl
        have hke_ : ((upI u_91 101 z_88.toNatClampNeg z_93).2.2.1 95 10).toInt = (u_91.2.2.1 95 10).toInt := rfl
        have hke_ : ((upI u_91 101 z_88.toNatClampNeg z_93).2.2.1 95 12).toInt = (u_91.2.2.1 95 12).toInt := rfl
        have hke_ : ((upI u_91 101 z_88.toNatClampNeg z_93).2.2.1 95 11).toInt = (u_91.2.2.1 95 11).toInt := rfl
        have hke_ : ((upI u_91 101 z_88.toNatClampNeg z_93).2.2.1 101 4).toInt = (u_91.2.2.1 101 4).toInt := keep_ne (u := z_88.toInt) rfl (by omega) (by omega)
        have hke_ : ((upI u_91 101 z_88.toNatClampNeg z_93).2.2.1 101 9).toInt = (u_91.2.2.1 101 9).toInt := keep_ne (u := z_88.toInt) rfl (by omega) (by omega)
        refine s_aload_n E dX10_readDoor_91 rfl rfl ?_
        refine s_gR (r := 101) E fg_X10_31 rfl rfl (jv_lt hj_96 (by decide)) (jv_r hj_96 (by decide +kernel)) dX10_readDoor_92 ?_
        refine s_iload_n E dX10_readDoor_95 rfl rfl ?_
        refine s_iconst (v := 2) E dX10_readDoor_96 (by decide) ?_
        refine z_iadd (u := z_3.toInt) (v := 2) E dX10_readDoor_97 rfl (by decide) (by omega) (by omega) (fun z_97 hz_97 => ?_)
        refine s_aload_n E dX10_readDoor_98 rfl rfl ?_
        refine s_ldcS (i := 25) E (by decide) rfl dX10_readDoor_99 ?_
        refine s_iconst (v := 1) E dX10_readDoor_101 (by decide) ?_
        refine s_bipush (v := 9) E dX10_readDoor_102 (by decide) ?_
        refine s_vI (As := [AX (sA aC 25), AI 1, AI 9]) (S := [AI z_97, AR 101]) E (Z_X10_told_95 l D aC b (upI u_91 101 z_88.toNatClampNeg z_93) 1 9 hj_96.1  25 (by decide) (by omega)) cv_X10_164 rfl rfl rfl (jv_lt hj_96 (by decide)) (Nat.le_of_ble_eq_true rfl) (Nat.le_of_ble_eq_true rfl) ⟨(Nat.le_of_ble_eq_true rfl), (Nat.le_of_ble_eq_true rfl)⟩ (Nat.le_of_ble_eq_true rfl) dX10_readDoor_104 (fun z_100 u_98 hp_99 => ?_)
        obtain ⟨hz_100, hxz_100, hf_u_98_101, hp_99⟩ := hp_99
        have hc_ : (1 : Int32).toInt = 1 := by decide
        have hc_ : (9 : Int32).toInt = 9 := by decide
        have hj_101 := jv_trans hj_96 hp_99
        have hfa_101_4 := congrArg Int32.toInt (congrFun hf_u_98_101 4)
        have hfa_101_9 := congrArg Int32.toInt (congrFun hf_u_98_101 9)
        have hrz_100 : 0 ≤ z_100.toInt ∧ z_100.toInt ≤ 9 := by omega
        have f4_ := hf_u_98_101
        refine s_iast E rfl (jv_lt hj_101 (by decide)) (z_in (u := z_97.toInt) rfl (by omega) (by omega)) dX10_readDoor_107 ?_
        have hj_103 : Jv w (upI u_98 101 z_97.toNatClampNeg z_100) := (jv_a_101 (i := z_97) (x := z_100) hj_101 0 9 12 45 3 z_97.toInt (by decide +kernel) (by decide) rfl (by omega) (by omega) (by omega) (by have hb_ := z32 z_100; omega) (by have hb_ := z32 z_100; omega))
        have hke_ : ((upI u_98 101 z_97.toNatClampNeg z_100).2.2.1 95 7).toInt = (u_98.2.2.1 95 7).toInt := rfl
        have hke_ : ((upI u_98 101 z_97.toNatClampNeg z_100).2.2.1 95 8).toInt = (u_98.2.2.1 95 8).toInt := rfl
        have hke_ : ((upI u_98 101 z_97.toNatClampNeg z_100).2.2.1 95 9).toInt = (u_98.2.2.1 95 9).toInt := rfl
        have hke_ : ((upI u_98 101 z_97.toNatClampNeg z_100).2.2.1 95 10).toInt = (u_98.2.2.1 95 10).toInt := rfl
        have hke_ : ((upI u_98 101 z_97.toNatClampNeg z_100).2.2.1 95 12).toInt = (u_98.2.2.1 95 12).toInt := rfl
        have hke_ : ((upI u_98 101 z_97.toNatClampNeg z_100).2.2.1 95 11).toInt = (u_98.2.2.1 95 11).toInt := rfl
        have hke_ : ((upI u_98 101 z_97.toNatClampNeg z_100).2.2.1 101 4).toInt = (u_98.2.2.1 101 4).toInt := keep_ne (u := z_97.toInt) rfl (by omega) (by omega)
        have hke_ : ((upI u_98 101 z_97.toNatClampNeg z_100).2.2.1 101 9).toInt = (u_98.2.2.1 101 9).toInt := keep_ne (u := z_97.toInt) rfl (by omega) (by omega)
        refine s_aload_n E dX10_readDoor_108 rfl rfl ?_
        refine s_gR (r := 101) E fg_X10_31 rfl rfl (jv_lt hj_103 (by decide)) (jv_r hj_103 (by decide +kernel)) dX10_readDoor_109 ?_
        refine s_iconst (v := 4) E dX10_readDoor_112 (by decide) ?_
        refine s_dup2 E dX10_readDoor_113 ?_
        refine s_iald E rfl (jv_lt hj_103 (by decide)) (z_in (u := 4) (by decide) (by omega) (by omega)) dX10_readDoor_114 ?_
        refine z_nm (P := fun z => z.toInt = ((upI u_98 101 z_97.toNatClampNeg z_100).2.2.1 101 4).toInt ∧ 0 ≤ z.toInt ∧ z.toInt ≤ 12) ⟨rfl, (rw_101_4 hj_103)⟩ (fun z_104 hz_104 => ?_)
        refine s_iconst (v := 1) E dX10_readDoor_115 (by decide) ?_
        refine z_iadd (u := z_104.toInt) (v := 1) E dX10_readDoor_116 rfl (by decide) (by omega) (by omega) (fun z_105 hz_105 => ?_)
        have hhz_105 : 0 ≤ z_105.toInt ∧ z_105.toInt ≤ 12 := by omega
        refine s_iast E rfl (jv_lt hj_103 (by decide)) (z_in (u := 4) (by decide) (by omega) (by omega)) dX10_readDoor_117 ?_
        have hj_107 : Jv w (upI (upI u_98 101 z_97.toNatClampNeg z_100) 101 4 z_105) := (jv_dor4 hj_103 (by omega) (by omega) (by omega) (fun h0_ => dor_fin (N := (w.2.2.1 101 4).toInt) f4_ f3_ (by omega) (by omega) (by omega) (by omega) (by omega) (hne_ (by omega))))
        have hke_ : ((upI (upI u_98 101 z_97.toNatClampNeg z_100) 101 4 z_105).2.2.1 95 7).toInt = ((upI u_98 101 z_97.toNatClampNeg z_100).2.2.1 95 7).toInt := rfl
        have hke_ : ((upI (upI u_98 101 z_97.toNatClampNeg z_100) 101 4 z_105).2.2.1 95 8).toInt = ((upI u_98 101 z_97.toNatClampNeg z_100).2.2.1 95 8).toInt := rfl
        have hke_ : ((upI (upI u_98 101 z_97.toNatClampNeg z_100) 101 4 z_105).2.2.1 95 9).toInt = ((upI u_98 101 z_97.toNatClampNeg z_100).2.2.1 95 9).toInt := rfl
        have hke_ : ((upI (upI u_98 101 z_97.toNatClampNeg z_100) 101 4 z_105).2.2.1 95 10).toInt = ((upI u_98 101 z_97.toNatClampNeg z_100).2.2.1 95 10).toInt := rfl
        have hke_ : ((upI (upI u_98 101 z_97.toNatClampNeg z_100) 101 4 z_105).2.2.1 95 12).toInt = ((upI u_98 101 z_97.toNatClampNeg z_100).2.2.1 95 12).toInt := rfl
        have hke_ : ((upI (upI u_98 101 z_97.toNatClampNeg z_100) 101 4 z_105).2.2.1 95 11).toInt = ((upI u_98 101 z_97.toNatClampNeg z_100).2.2.1 95 11).toInt := rfl
        have hke_ : ((upI (upI u_98 101 z_97.toNatClampNeg z_100) 101 4 z_105).2.2.1 101 4).toInt = z_105.toInt := rfl
        have hke_ : ((upI (upI u_98 101 z_97.toNatClampNeg z_100) 101 4 z_105).2.2.1 101 9).toInt = ((upI u_98 101 z_97.toNatClampNeg z_100).2.2.1 101 9).toInt := rfl
        exact r_void E dX10_readDoor_118 ⟨(by omega), hj_107⟩
set_option maxRecDepth 20000 in
set_option maxHeartbeats 2000000 in
theorem Z_X10_readNext_95 (l : Launch) (D : va_G) (aC : Nat → ClassId) (b : Nat) (w : XW)  (hI : Iv w) (hpi : (w.2.2.1 95 9).toInt ≤ (w.2.2.1 95 8).toInt ∧ ((w.2.2.1 95 10).toInt = 0 ∨ (w.2.2.1 95 9).toInt < (w.2.2.1 95 8).toInt)) : CnV l D aC b M_X10_readNext 10 331 0 0 [AR 95] w (fun u => ((u.2.2.1 95 7).toInt = (w.2.2.1 95 7).toInt ∧ ((u.2.2.1 95 12).toInt = 0 → (w.2.2.1 95 12).toInt = 0) ∧ (w.2.2.1 95 9).toInt ≤ (u.2.2.1 95 9).toInt ∧ (u.2.2.1 95 9).toInt ≤ (u.2.2.1 95 8).toInt ∧ ((u.2.2.1 95 10).toInt = 0 ∨ (u.2.2.1 95 9).toInt < (u.2.2.1 95 8).toInt) ∧ (u.2.2.1 101 9).toInt = (w.2.2.1 101 9).toInt) ∧ Jv w u) := by
  refine cn_V (own := RX10) (nm := "readNext") (L0 := [some (AR 95), none, none]) (by decide +kernel) rfl rfl (Nat.le_of_ble_eq_true rfl) rfl ?_
  intro p e s m args below meth c E hin
  have hJ : Jv w w := jv_rfl hI
  refine s_aload_n E dX10_readNext_0 rfl rfl ?_
  refine s_ldcS (i := 20) E (by decide) rfl dX10_readNext_1 ?_
  refine s_vI (As := [AX (sA aC 20)]) (S := []) E (Z_X10_is_95 l D aC b w  hJ.1  20 (by decide)) cv_X10_143 rfl rfl rfl (jv_lt hJ (by decide)) (Nat.le_of_ble_eq_true rfl) (Nat.le_of_ble_eq_true rfl) ⟨(Nat.le_of_ble_eq_true rfl), (Nat.le_of_ble_eq_true rfl)⟩ (Nat.le_of_ble_eq_true rfl) dX10_readNext_3 (fun z_3 u_1 hp_2 => ?_)
  obtain ⟨hz_3, hxz_3, hp_2⟩ := hp_2
  subst hp_2
  have hw_3 := hxz_3
  refine z_if_ne (tgt := 36) (u := z_3.toInt) E dX10_readNext_6 (by decide) rfl (fun h_5 => ?_) (fun h_5 => ?_)
  ·
    refine s_iconst (v := 1) E dX10_readNext_36 (by decide) ?_
    refine s_goto (tgt := 41) E dX10_readNext_37 (by decide) ?_
    refine s_istore_n (L2 := [some (AR 95), some (AI 1), none]) E dX10_readNext_41 rfl (by decide) rfl ?_
    refine s_iload_n E dX10_readNext_42 rfl rfl ?_
    refine z_if_ne (tgt := 51) (u := 1) E dX10_readNext_43 (by decide) (by decide) (fun h_6 => ?_) (fun h_6 => absurd h_6 (by omega))
    refine s_aload_n E dX10_readNext_51 rfl rfl ?_
    refine s_vI (As := []) (S := []) E (Z_X10_isFull_95 l D aC b w  hJ.1 ) cv_X10_195 rfl rfl rfl (jv_lt hJ (by decide)) (Nat.le_of_ble_eq_true rfl) (Nat.le_of_ble_eq_true rfl) ⟨(Nat.le_of_ble_eq_true rfl), (Nat.le_of_ble_eq_true rfl)⟩ (Nat.le_of_ble_eq_true rfl) dX10_readNext_52 (fun z_9 u_7 hp_8 => ?_)
    obtain ⟨hz_9, hxz_9, hp_8⟩ := hp_8
    subst hp_8
    have hq_ := hxz_9
    refine z_if_eq (tgt := 63) (u := z_9.toInt) E dX10_readNext_55 (by decide) rfl (fun h_11 => ?_) (fun h_11 => ?_)
    ·
      refine s_aload_n E dX10_readNext_63 rfl rfl ?_
      refine s_vI (As := []) (S := []) E (Z_X10_good_95 l D aC b w  hJ.1 ) cv_X10_130 rfl rfl rfl (jv_lt hJ (by decide)) (Nat.le_of_ble_eq_true rfl) (Nat.le_of_ble_eq_true rfl) ⟨(Nat.le_of_ble_eq_true rfl), (Nat.le_of_ble_eq_true rfl)⟩ (Nat.le_of_ble_eq_true rfl) dX10_readNext_64 (fun z_14 u_12 hp_13 => ?_)
      obtain ⟨hz_14, hxz_14, hp_13⟩ := hp_13
      subst hp_13
      refine z_if_ne (tgt := 71) (u := z_14.toInt) E dX10_readNext_67 (by decide) rfl (fun h_16 => ?_) (fun h_16 => ?_)
      ·
        have hn4_ := rw_101_4 hJ
        have hn5_ := rw_101_5 hJ
        have hn6_ := rw_101_6 hJ
        have hn7_ := rw_101_7 hJ
        refine s_aload_n E dX10_readNext_71 rfl rfl ?_
        refine s_ldcS (i := 20) E (by decide) rfl dX10_readNext_72 ?_
        refine s_vI (As := [AX (sA aC 20)]) (S := []) E (Z_X10_takes_95 l D aC b w  hJ.1  20 (by decide) (by omega)) cv_X10_150 rfl rfl rfl (jv_lt hJ (by decide)) (Nat.le_of_ble_eq_true rfl) (Nat.le_of_ble_eq_true rfl) ⟨(Nat.le_of_ble_eq_true rfl), (Nat.le_of_ble_eq_true rfl)⟩ (Nat.le_of_ble_eq_true rfl) dX10_readNext_74 (fun z_19 u_17 hp_18 => ?_)
        obtain ⟨hz_19, hxz_19, hf_u_17_101, hp_18⟩ := hp_18
        have hj_20 := jv_trans hJ hp_18
        have hfa_101_0 := congrArg Int32.toInt (congrFun hf_u_17_101 0)
        have hfa_101_4 := congrArg Int32.toInt (congrFun hf_u_17_101 4)
        have hfa_101_5 := congrArg Int32.toInt (congrFun hf_u_17_101 5)
        have hfa_101_6 := congrArg Int32.toInt (congrFun hf_u_17_101 6)
        have hfa_101_7 := congrArg Int32.toInt (congrFun hf_u_17_101 7)
        have hfa_101_9 := congrArg Int32.toInt (congrFun hf_u_17_101 9)
        have hT_ := hxz_19.1
        have hE_ := hxz_19.2.1
        refine z_if_eq (tgt := 87) (u := z_19.toInt) E dX10_readNext_77 (by decide) rfl (fun h_21 => ?_) (fun h_21 => ?_)
        ·
          have hE1_ : w = u_17 := hE_.resolve_left (by omega)
          refine s_aload_n E dX10_readNext_87 rfl rfl ?_
          refine s_ldcS (i := 21) E (by decide) rfl dX10_readNext_88 ?_
          refine s_vI (As := [AX (sA aC 21)]) (S := []) E (Z_X10_takes_95 l D aC b u_17  hj_20.1  21 (by decide) (by omega)) cv_X10_150 rfl rfl rfl (jv_lt hj_20 (by decide)) (Nat.le_of_ble_eq_true rfl) (Nat.le_of_ble_eq_true rfl) ⟨(Nat.le_of_ble_eq_true rfl), (Nat.le_of_ble_eq_true rfl)⟩ (Nat.le_of_ble_eq_true rfl) dX10_readNext_90 (fun z_24 u_22 hp_23 => ?_)
          obtain ⟨hz_24, hxz_24, hf_u_22_101, hp_23⟩ := hp_23
          have hj_25 := jv_trans hj_20 hp_23
          have hfa_101_0 := congrArg Int32.toInt (congrFun hf_u_22_101 0)
          have hfa_101_4 := congrArg Int32.toInt (congrFun hf_u_22_101 4)
          have hfa_101_5 := congrArg Int32.toInt (congrFun hf_u_22_101 5)
          have hfa_101_6 := congrArg Int32.toInt (congrFun hf_u_22_101 6)
          have hfa_101_7 := congrArg Int32.toInt (congrFun hf_u_22_101 7)
          have hfa_101_9 := congrArg Int32.toInt (congrFun hf_u_22_101 9)
          have hT2_ := hxz_24.1
          rw [← hE1_] at hT2_
          have hF_ := hxz_24.2.1
          refine z_if_eq (tgt := 150) (u := z_24.toInt) E dX10_readNext_93 (by decide) rfl (fun h_26 => ?_) (fun h_26 => ?_)
          ·
            have hE2_ : w = u_22 := hE1_.trans (hF_.resolve_left (by omega))
            refine s_aload_n E dX10_readNext_150 rfl rfl ?_
            refine s_ldcS (i := 22) E (by decide) rfl dX10_readNext_151 ?_
            refine s_vI (As := [AX (sA aC 22)]) (S := []) E (Z_X10_takes_95 l D aC b u_22  hj_25.1  22 (by decide) (by omega)) cv_X10_150 rfl rfl rfl (jv_lt hj_25 (by decide)) (Nat.le_of_ble_eq_true rfl) (Nat.le_of_ble_eq_true rfl) ⟨(Nat.le_of_ble_eq_true rfl), (Nat.le_of_ble_eq_true rfl)⟩ (Nat.le_of_ble_eq_true rfl) dX10_readNext_153 (fun z_29 u_27 hp_28 => ?_)
            obtain ⟨hz_29, hxz_29, hf_u_27_101, hp_28⟩ := hp_28
            have hj_30 := jv_trans hj_25 hp_28
            have hfa_101_0 := congrArg Int32.toInt (congrFun hf_u_27_101 0)
            have hfa_101_4 := congrArg Int32.toInt (congrFun hf_u_27_101 4)
            have hfa_101_5 := congrArg Int32.toInt (congrFun hf_u_27_101 5)
            have hfa_101_6 := congrArg Int32.toInt (congrFun hf_u_27_101 6)
            have hfa_101_7 := congrArg Int32.toInt (congrFun hf_u_27_101 7)
            have hfa_101_9 := congrArg Int32.toInt (congrFun hf_u_27_101 9)
            have hT3_ := hxz_29.1
            rw [← hE2_] at hT3_
            have hG_ := hxz_29.2.1
            refine z_if_eq (tgt := 224) (u := z_29.toInt) E dX10_readNext_156 (by decide) rfl (fun h_31 => ?_) (fun h_31 => ?_)
            ·
              have hd_ : ¬ (w.2.2.1 101 7).toInt = 10 := by first | exact (hq_.resolve_left (by omega)).2.2.2 (hw_30.mp (by omega)) | (exfalso; exact absurd (hT_.mpr (hw_3.mp (by omega))) (by omega)) | (exfalso; exact absurd (hT2_.mpr (hw_12.mp (by omega))) (by omega)) | (exfalso; exact absurd (hT3_.mpr (hw_21.mp (by omega))) (by omega)) | (exfalso; omega)
              refine s_aload_n E dX10_readNext_224 rfl rfl ?_
              refine s_vV (As := []) (S := []) E (Z_X10_advance_95 l D aC b u_27  hj_30.1 ) cv_X10_147 rfl rfl rfl (jv_lt hj_30 (by decide)) (Nat.le_of_ble_eq_true rfl) (Nat.le_of_ble_eq_true rfl) ⟨(Nat.le_of_ble_eq_true rfl), (Nat.le_of_ble_eq_true rfl)⟩ (Nat.le_of_ble_eq_true rfl) dX10_readNext_225 (fun u_32 hp_33 => ?_)
              obtain ⟨hx_hp_33, hf_u_32_99, hf_u_32_101, hp_33⟩ := hp_33
              have hj_34 := jv_trans hj_30 hp_33
              have hfa_101_0 := congrArg Int32.toInt (congrFun hf_u_32_101 0)
              have hfa_101_4 := congrArg Int32.toInt (congrFun hf_u_32_101 4)
              have hfa_101_5 := congrArg Int32.toInt (congrFun hf_u_32_101 5)
              have hfa_101_6 := congrArg Int32.toInt (congrFun hf_u_32_101 6)
              have hfa_101_7 := congrArg Int32.toInt (congrFun hf_u_32_101 7)
              have hfa_101_9 := congrArg Int32.toInt (congrFun hf_u_32_101 9)
              refine s_aload_n E dX10_readNext_228 rfl rfl ?_
              refine s_vV (As := []) (S := []) E (Z_X10_readBid_95 l D aC b u_32  hj_34.1  (by omega) (by omega)) cv_X10_206 rfl rfl rfl (jv_lt hj_34 (by decide)) (Nat.le_of_ble_eq_true rfl) (Nat.le_of_ble_eq_true rfl) ⟨(Nat.le_of_ble_eq_true rfl), (Nat.le_of_ble_eq_true rfl)⟩ (Nat.le_of_ble_eq_true rfl) dX10_readNext_229 (fun u_35 hp_36 => ?_)
              obtain ⟨hx_hp_36, hp_36⟩ := hp_36
              have hj_37 := jv_trans hj_34 hp_36
              exact r_void E dX10_readNext_232 ⟨(by omega), hj_37⟩
            ·
              have hd_ : ¬ (w.2.2.1 101 6).toInt = 8 := by first | exact (hq_.resolve_left (by omega)).2.2.1 (hT3_.mp (by omega)) | (exfalso; omega)
              refine s_bipush (v := 58) E dX10_readNext_159 (by decide) ?_
              refine s_iconst (v := 2) E dX10_readNext_161 (by decide) ?_
              refine s_aload_n E dX10_readNext_162 rfl rfl ?_
              refine s_gR (r := 101) E fg_X10_31 rfl rfl (jv_lt hj_30 (by decide)) (jv_r hj_30 (by decide +kernel)) dX10_readNext_163 ?_
              refine s_bipush (v := 6) E dX10_readNext_166 (by decide) ?_
              refine s_iald E rfl (jv_lt hj_30 (by decide)) (z_in (u := 6) (by decide) (by omega) (by omega)) dX10_readNext_168 ?_
              refine z_nm (P := fun z => z.toInt = (u_27.2.2.1 101 6).toInt ∧ 0 ≤ z.toInt ∧ z.toInt ≤ 8) ⟨rfl, (rw_101_6 hj_30)⟩ (fun z_38 hz_38 => ?_)
              refine z_imul (u := 2) (v := z_38.toInt) E dX10_readNext_169 (by decide) rfl (by omega) (by omega) (fun z_39 hz_39 => ?_)
              have hhz_39 : 0 ≤ z_39.toInt ∧ z_39.toInt ≤ 14 := by omega
              refine z_iadd (u := 58) (v := z_39.toInt) E dX10_readNext_170 (by decide) rfl (by omega) (by omega) (fun z_40 hz_40 => ?_)
              refine s_istore_n (L2 := [some (AR 95), some (AI 1), some (AI z_40)]) E dX10_readNext_171 rfl (by decide) rfl ?_
              refine s_aload_n E dX10_readNext_172 rfl rfl ?_
              refine s_gR (r := 101) E fg_X10_31 rfl rfl (jv_lt hj_30 (by decide)) (jv_r hj_30 (by decide +kernel)) dX10_readNext_173 ?_
              refine s_iload_n E dX10_readNext_176 rfl rfl ?_
              refine s_aload_n E dX10_readNext_177 rfl rfl ?_
              refine s_ldcS (i := 27) E (by decide) rfl dX10_readNext_178 ?_
              refine s_iconst (v := 0) E dX10_readNext_180 (by decide) ?_
              refine s_aload_n E dX10_readNext_181 rfl rfl ?_
              refine s_gR (r := 101) E fg_X10_31 rfl rfl (jv_lt hj_30 (by decide)) (jv_r hj_30 (by decide +kernel)) dX10_readNext_182 ?_
              refine s_iconst (v := 5) E dX10_readNext_185 (by decide) ?_
              refine s_iald E rfl (jv_lt hj_30 (by decide)) (z_in (u := 5) (by decide) (by omega) (by omega)) dX10_readNext_186 ?_
              refine z_nm (P := fun z => z.toInt = (u_27.2.2.1 101 5).toInt ∧ 0 ≤ z.toInt ∧ z.toInt ≤ 6) ⟨rfl, (rw_101_5 hj_30)⟩ (fun z_41 hz_41 => ?_)
              refine s_iconst (v := 1) E dX10_readNext_187 (by decide) ?_
              refine z_isub (u := z_41.toInt) (v := 1) E dX10_readNext_188 rfl (by decide) (by omega) (by omega) (fun z_42 hz_42 => ?_)
              refine s_vI (As := [AX (sA aC 27), AI 0, AI z_42]) (S := [AI z_40, AR 101]) E (Z_X10_told_95 l D aC b u_27 0 z_42 hj_30.1  27 (by decide) (by omega)) cv_X10_164 rfl rfl rfl (jv_lt hj_30 (by decide)) (Nat.le_of_ble_eq_true rfl) (Nat.le_of_ble_eq_true rfl) ⟨(Nat.le_of_ble_eq_true rfl), (Nat.le_of_ble_eq_true rfl)⟩ (Nat.le_of_ble_eq_true rfl) dX10_readNext_189 (fun z_45 u_43 hp_44 => ?_)
              obtain ⟨hz_45, hxz_45, hf_u_43_101, hp_44⟩ := hp_44
              have hc_ : (0 : Int32).toInt = 0 := by decide
              have hj_46 := jv_trans hj_30 hp_44
              have hfa_101_0 := congrArg Int32.toInt (congrFun hf_u_43_101 0)
              have hfa_101_4 := congrArg Int32.toInt (congrFun hf_u_43_101 4)
              have hfa_101_5 := congrArg Int32.toInt (congrFun hf_u_43_101 5)
              have hfa_101_6 := congrArg Int32.toInt (congrFun hf_u_43_101 6)
              have hfa_101_7 := congrArg Int32.toInt (congrFun hf_u_43_101 7)
              have hfa_101_9 := congrArg Int32.toInt (congrFun hf_u_43_101 9)
              have hrz_45 : 0 ≤ z_45.toInt ∧ z_45.toInt ≤ 5 := by omega
              refine s_iast E rfl (jv_lt hj_46 (by decide)) (z_in (u := z_40.toInt) rfl (by omega) (by omega)) dX10_readNext_192 ?_
              have hj_48 : Jv w (upI u_43 101 z_40.toNatClampNeg z_45) := (jv_a_101 (i := z_40) (x := z_45) hj_46 0 5 58 72 2 z_40.toInt (by decide +kernel) (by decide) rfl (by omega) (by omega) (by omega) (by have hb_ := z32 z_45; omega) (by have hb_ := z32 z_45; omega))
              have hke_ : ((upI u_43 101 z_40.toNatClampNeg z_45).2.2.1 95 7).toInt = (u_43.2.2.1 95 7).toInt := rfl
              have hke_ : ((upI u_43 101 z_40.toNatClampNeg z_45).2.2.1 95 8).toInt = (u_43.2.2.1 95 8).toInt := rfl
              have hke_ : ((upI u_43 101 z_40.toNatClampNeg z_45).2.2.1 95 9).toInt = (u_43.2.2.1 95 9).toInt := rfl
              have hke_ : ((upI u_43 101 z_40.toNatClampNeg z_45).2.2.1 95 10).toInt = (u_43.2.2.1 95 10).toInt := rfl
              have hke_ : ((upI u_43 101 z_40.toNatClampNeg z_45).2.2.1 95 12).toInt = (u_43.2.2.1 95 12).toInt := rfl
              have hke_ : ((upI u_43 101 z_40.toNatClampNeg z_45).2.2.1 101 0).toInt = (u_43.2.2.1 101 0).toInt := keep_ne (u := z_40.toInt) rfl (by omega) (by omega)
              have hke_ : ((upI u_43 101 z_40.toNatClampNeg z_45).2.2.1 101 4).toInt = (u_43.2.2.1 101 4).toInt := keep_ne (u := z_40.toInt) rfl (by omega) (by omega)
              have hke_ : ((upI u_43 101 z_40.toNatClampNeg z_45).2.2.1 101 5).toInt = (u_43.2.2.1 101 5).toInt := keep_ne (u := z_40.toInt) rfl (by omega) (by omega)
              have hke_ : ((upI u_43 101 z_40.toNatClampNeg z_45).2.2.1 101 6).toInt = (u_43.2.2.1 101 6).toInt := keep_ne (u := z_40.toInt) rfl (by omega) (by omega)
              have hke_ : ((upI u_43 101 z_40.toNatClampNeg z_45).2.2.1 101 7).toInt = (u_43.2.2.1 101 7).toInt := keep_ne (u := z_40.toInt) rfl (by omega) (by omega)
              have hke_ : ((upI u_43 101 z_40.toNatClampNeg z_45).2.2.1 101 9).toInt = (u_43.2.2.1 101 9).toInt := keep_ne (u := z_40.toInt) rfl (by omega) (by omega)
              refine s_aload_n E dX10_readNext_193 rfl rfl ?_
              refine s_gR (r := 101) E fg_X10_31 rfl rfl (jv_lt hj_48 (by decide)) (jv_r hj_48 (by decide +kernel)) dX10_readNext_194 ?_
              refine s_iload_n E dX10_readNext_197 rfl rfl ?_
              refine s_iconst (v := 1) E dX10_readNext_198 (by decide) ?_
              refine z_iadd (u := z_40.toInt) (v := 1) E dX10_readNext_199 rfl (by decide) (by omega) (by omega) (fun z_49 hz_49 => ?_)
              refine s_aload_n E dX10_readNext_200 rfl rfl ?_
              refine s_ldcS (i := 28) E (by decide) rfl dX10_readNext_201 ?_
              refine s_iconst (v := 1) E dX10_readNext_203 (by decide) ?_
              refine s_bipush (v := 20) E dX10_readNext_204 (by decide) ?_
              refine s_vI (As := [AX (sA aC 28), AI 1, AI 20]) (S := [AI z_49, AR 101]) E (Z_X10_told_95 l D aC b (upI u_43 101 z_40.toNatClampNeg z_45) 1 20 hj_48.1  28 (by decide) (by omega)) cv_X10_164 rfl rfl rfl (jv_lt hj_48 (by decide)) (Nat.le_of_ble_eq_true rfl) (Nat.le_of_ble_eq_true rfl) ⟨(Nat.le_of_ble_eq_true rfl), (Nat.le_of_ble_eq_true rfl)⟩ (Nat.le_of_ble_eq_true rfl) dX10_readNext_206 (fun z_52 u_50 hp_51 => ?_)
              obtain ⟨hz_52, hxz_52, hf_u_50_101, hp_51⟩ := hp_51
              have hc_ : (1 : Int32).toInt = 1 := by decide
              have hc_ : (20 : Int32).toInt = 20 := by decide
              have hj_53 := jv_trans hj_48 hp_51
              have hfa_101_0 := congrArg Int32.toInt (congrFun hf_u_50_101 0)
              have hfa_101_4 := congrArg Int32.toInt (congrFun hf_u_50_101 4)
              have hfa_101_5 := congrArg Int32.toInt (congrFun hf_u_50_101 5)
              have hfa_101_6 := congrArg Int32.toInt (congrFun hf_u_50_101 6)
              have hfa_101_7 := congrArg Int32.toInt (congrFun hf_u_50_101 7)
              have hfa_101_9 := congrArg Int32.toInt (congrFun hf_u_50_101 9)
              have hrz_52 : 0 ≤ z_52.toInt ∧ z_52.toInt ≤ 20 := by omega
              refine s_iast E rfl (jv_lt hj_53 (by decide)) (z_in (u := z_49.toInt) rfl (by omega) (by omega)) dX10_readNext_209 ?_
              have hj_55 : Jv w (upI u_50 101 z_49.toNatClampNeg z_52) := (jv_a_101 (i := z_49) (x := z_52) hj_53 0 20 59 73 2 z_49.toInt (by decide +kernel) (by decide) rfl (by omega) (by omega) (by omega) (by have hb_ := z32 z_52; omega) (by have hb_ := z32 z_52; omega))
              have hke_ : ((upI u_50 101 z_49.toNatClampNeg z_52).2.2.1 95 7).toInt = (u_50.2.2.1 95 7).toInt := rfl
              have hke_ : ((upI u_50 101 z_49.toNatClampNeg z_52).2.2.1 95 8).toInt = (u_50.2.2.1 95 8).toInt := rfl
              have hke_ : ((upI u_50 101 z_49.toNatClampNeg z_52).2.2.1 95 9).toInt = (u_50.2.2.1 95 9).toInt := rfl
              have hke_ : ((upI u_50 101 z_49.toNatClampNeg z_52).2.2.1 95 10).toInt = (u_50.2.2.1 95 10).toInt := rfl
              have hke_ : ((upI u_50 101 z_49.toNatClampNeg z_52).2.2.1 95 12).toInt = (u_50.2.2.1 95 12).toInt := rfl
              have hke_ : ((upI u_50 101 z_49.toNatClampNeg z_52).2.2.1 101 0).toInt = (u_50.2.2.1 101 0).toInt := keep_ne (u := z_49.toInt) rfl (by omega) (by omega)
              have hke_ : ((upI u_50 101 z_49.toNatClampNeg z_52).2.2.1 101 4).toInt = (u_50.2.2.1 101 4).toInt := keep_ne (u := z_49.toInt) rfl (by omega) (by omega)
              have hke_ : ((upI u_50 101 z_49.toNatClampNeg z_52).2.2.1 101 5).toInt = (u_50.2.2.1 101 5).toInt := keep_ne (u := z_49.toInt) rfl (by omega) (by omega)
              have hke_ : ((upI u_50 101 z_49.toNatClampNeg z_52).2.2.1 101 6).toInt = (u_50.2.2.1 101 6).toInt := keep_ne (u := z_49.toInt) rfl (by omega) (by omega)
              have hke_ : ((upI u_50 101 z_49.toNatClampNeg z_52).2.2.1 101 7).toInt = (u_50.2.2.1 101 7).toInt := keep_ne (u := z_49.toInt) rfl (by omega) (by omega)
              have hke_ : ((upI u_50 101 z_49.toNatClampNeg z_52).2.2.1 101 9).toInt = (u_50.2.2.1 101 9).toInt := keep_ne (u := z_49.toInt) rfl (by omega) (by omega)
              refine s_aload_n E dX10_readNext_210 rfl rfl ?_
              refine s_gR (r := 101) E fg_X10_31 rfl rfl (jv_lt hj_55 (by decide)) (jv_r hj_55 (by decide +kernel)) dX10_readNext_211 ?_
              refine s_bipush (v := 6) E dX10_readNext_214 (by decide) ?_
              refine s_dup2 E dX10_readNext_216 ?_
              refine s_iald E rfl (jv_lt hj_55 (by decide)) (z_in (u := 6) (by decide) (by omega) (by omega)) dX10_readNext_217 ?_
              refine z_nm (P := fun z => z.toInt = ((upI u_50 101 z_49.toNatClampNeg z_52).2.2.1 101 6).toInt ∧ 0 ≤ z.toInt ∧ z.toInt ≤ 8) ⟨rfl, (rw_101_6 hj_55)⟩ (fun z_56 hz_56 => ?_)
              refine s_iconst (v := 1) E dX10_readNext_218 (by decide) ?_
              refine z_iadd (u := z_56.toInt) (v := 1) E dX10_readNext_219 rfl (by decide) (by omega) (by omega) (fun z_57 hz_57 => ?_)
              have hhz_57 : 0 ≤ z_57.toInt ∧ z_57.toInt ≤ 8 := by omega
              refine s_iast E rfl (jv_lt hj_55 (by decide)) (z_in (u := 6) (by decide) (by omega) (by omega)) dX10_readNext_220 ?_
              have hj_59 : Jv w (upI (upI u_50 101 z_49.toNatClampNeg z_52) 101 6 z_57) := (jv_a_101 (i := 6) (x := z_57) hj_55 0 8 6 6 1 6 (by decide +kernel) (by decide) (by decide) (by omega) (by omega) (by omega) (by have hb_ := z32 z_57; omega) (by have hb_ := z32 z_57; omega))
              have hke_ : ((upI (upI u_50 101 z_49.toNatClampNeg z_52) 101 6 z_57).2.2.1 95 7).toInt = ((upI u_50 101 z_49.toNatClampNeg z_52).2.2.1 95 7).toInt := rfl
              have hke_ : ((upI (upI u_50 101 z_49.toNatClampNeg z_52) 101 6 z_57).2.2.1 95 8).toInt = ((upI u_50 101 z_49.toNatClampNeg z_52).2.2.1 95 8).toInt := rfl
              have hke_ : ((upI (upI u_50 101 z_49.toNatClampNeg z_52) 101 6 z_57).2.2.1 95 9).toInt = ((upI u_50 101 z_49.toNatClampNeg z_52).2.2.1 95 9).toInt := rfl
              have hke_ : ((upI (upI u_50 101 z_49.toNatClampNeg z_52) 101 6 z_57).2.2.1 95 10).toInt = ((upI u_50 101 z_49.toNatClampNeg z_52).2.2.1 95 10).toInt := rfl
              have hke_ : ((upI (upI u_50 101 z_49.toNatClampNeg z_52) 101 6 z_57).2.2.1 95 12).toInt = ((upI u_50 101 z_49.toNatClampNeg z_52).2.2.1 95 12).toInt := rfl
              have hke_ : ((upI (upI u_50 101 z_49.toNatClampNeg z_52) 101 6 z_57).2.2.1 101 0).toInt = ((upI u_50 101 z_49.toNatClampNeg z_52).2.2.1 101 0).toInt := rfl
              have hke_ : ((upI (upI u_50 101 z_49.toNatClampNeg z_52) 101 6 z_57).2.2.1 101 4).toInt = ((upI u_50 101 z_49.toNatClampNeg z_52).2.2.1 101 4).toInt := rfl
              have hke_ : ((upI (upI u_50 101 z_49.toNatClampNeg z_52) 101 6 z_57).2.2.1 101 5).toInt = ((upI u_50 101 z_49.toNatClampNeg z_52).2.2.1 101 5).toInt := rfl
              have hke_ : ((upI (upI u_50 101 z_49.toNatClampNeg z_52) 101 6 z_57).2.2.1 101 6).toInt = z_57.toInt := rfl
              have hke_ : ((upI (upI u_50 101 z_49.toNatClampNeg z_52) 101 6 z_57).2.2.1 101 7).toInt = ((upI u_50 101 z_49.toNatClampNeg z_52).2.2.1 101 7).toInt := rfl
              have hke_ : ((upI (upI u_50 101 z_49.toNatClampNeg z_52) 101 6 z_57).2.2.1 101 9).toInt = ((upI u_50 101 z_49.toNatClampNeg z_52).2.2.1 101 9).toInt := rfl
              refine s_goto (tgt := 232) E dX10_readNext_221 (by decide) ?_
              exact r_void E dX10_readNext_232 ⟨(by omega), hj_59⟩
          ·
            have hd_ : ¬ (w.2.2.1 101 5).toInt = 6 := by first | exact (hq_.resolve_left (by omega)).2.1 (hT2_.mp (by omega)) | (exfalso; omega)
            refine s_bipush (v := 46) E dX10_readNext_96 (by decide) ?_
            refine s_iconst (v := 2) E dX10_readNext_98 (by decide) ?_
            refine s_aload_n E dX10_readNext_99 rfl rfl ?_
            refine s_gR (r := 101) E fg_X10_31 rfl rfl (jv_lt hj_25 (by decide)) (jv_r hj_25 (by decide +kernel)) dX10_readNext_100 ?_
            refine s_iconst (v := 5) E dX10_readNext_103 (by decide) ?_
            refine s_iald E rfl (jv_lt hj_25 (by decide)) (z_in (u := 5) (by decide) (by omega) (by omega)) dX10_readNext_104 ?_
            refine z_nm (P := fun z => z.toInt = (u_22.2.2.1 101 5).toInt ∧ 0 ≤ z.toInt ∧ z.toInt ≤ 6) ⟨rfl, (rw_101_5 hj_25)⟩ (fun z_60 hz_60 => ?_)
            refine z_imul (u := 2) (v := z_60.toInt) E dX10_readNext_105 (by decide) rfl (by omega) (by omega) (fun z_61 hz_61 => ?_)
            have hhz_61 : 0 ≤ z_61.toInt ∧ z_61.toInt ≤ 10 := by omega
            refine z_iadd (u := 46) (v := z_61.toInt) E dX10_readNext_106 (by decide) rfl (by omega) (by omega) (fun z_62 hz_62 => ?_)
            refine s_istore_n (L2 := [some (AR 95), some (AI 1), some (AI z_62)]) E dX10_readNext_107 rfl (by decide) rfl ?_
            refine s_aload_n E dX10_readNext_108 rfl rfl ?_
            refine s_gR (r := 101) E fg_X10_31 rfl rfl (jv_lt hj_25 (by decide)) (jv_r hj_25 (by decide +kernel)) dX10_readNext_109 ?_
            refine s_iload_n E dX10_readNext_112 rfl rfl ?_
            refine s_aload_n E dX10_readNext_113 rfl rfl ?_
            refine s_ldcS (i := 26) E (by decide) rfl dX10_readNext_114 ?_
            refine s_vI (As := [AX (sA aC 26)]) (S := [AI z_62, AR 101]) E (Z_X10_freshRoom_95 l D aC b u_22  hj_25.1  26 (by decide) (by omega)) cv_X10_182 rfl rfl rfl (jv_lt hj_25 (by decide)) (Nat.le_of_ble_eq_true rfl) (Nat.le_of_ble_eq_true rfl) ⟨(Nat.le_of_ble_eq_true rfl), (Nat.le_of_ble_eq_true rfl)⟩ (Nat.le_of_ble_eq_true rfl) dX10_readNext_116 (fun z_65 u_63 hp_64 => ?_)
            obtain ⟨hz_65, hxz_65, hf_u_63_101, hp_64⟩ := hp_64
            have hj_66 := jv_trans hj_25 hp_64
            have hfa_101_0 := congrArg Int32.toInt (congrFun hf_u_63_101 0)
            have hfa_101_4 := congrArg Int32.toInt (congrFun hf_u_63_101 4)
            have hfa_101_5 := congrArg Int32.toInt (congrFun hf_u_63_101 5)
            have hfa_101_6 := congrArg Int32.toInt (congrFun hf_u_63_101 6)
            have hfa_101_7 := congrArg Int32.toInt (congrFun hf_u_63_101 7)
            have hfa_101_9 := congrArg Int32.toInt (congrFun hf_u_63_101 9)
            have hrz_65 : 0 ≤ z_65.toInt ∧ z_65.toInt ≤ 7 := by omega
            refine s_iast E rfl (jv_lt hj_66 (by decide)) (z_in (u := z_62.toInt) rfl (by omega) (by omega)) dX10_readNext_119 ?_
            have hj_68 : Jv w (upI u_63 101 z_62.toNatClampNeg z_65) := (jv_a_101 (i := z_62) (x := z_65) hj_66 0 7 46 56 2 z_62.toInt (by decide +kernel) (by decide) rfl (by omega) (by omega) (by omega) (by have hb_ := z32 z_65; omega) (by have hb_ := z32 z_65; omega))
            have hke_ : ((upI u_63 101 z_62.toNatClampNeg z_65).2.2.1 95 7).toInt = (u_63.2.2.1 95 7).toInt := rfl
            have hke_ : ((upI u_63 101 z_62.toNatClampNeg z_65).2.2.1 95 8).toInt = (u_63.2.2.1 95 8).toInt := rfl
            have hke_ : ((upI u_63 101 z_62.toNatClampNeg z_65).2.2.1 95 9).toInt = (u_63.2.2.1 95 9).toInt := rfl
            have hke_ : ((upI u_63 101 z_62.toNatClampNeg z_65).2.2.1 95 10).toInt = (u_63.2.2.1 95 10).toInt := rfl
            have hke_ : ((upI u_63 101 z_62.toNatClampNeg z_65).2.2.1 95 12).toInt = (u_63.2.2.1 95 12).toInt := rfl
            have hke_ : ((upI u_63 101 z_62.toNatClampNeg z_65).2.2.1 101 0).toInt = (u_63.2.2.1 101 0).toInt := keep_ne (u := z_62.toInt) rfl (by omega) (by omega)
            have hke_ : ((upI u_63 101 z_62.toNatClampNeg z_65).2.2.1 101 4).toInt = (u_63.2.2.1 101 4).toInt := keep_ne (u := z_62.toInt) rfl (by omega) (by omega)
            have hke_ : ((upI u_63 101 z_62.toNatClampNeg z_65).2.2.1 101 5).toInt = (u_63.2.2.1 101 5).toInt := keep_ne (u := z_62.toInt) rfl (by omega) (by omega)
            have hke_ : ((upI u_63 101 z_62.toNatClampNeg z_65).2.2.1 101 6).toInt = (u_63.2.2.1 101 6).toInt := keep_ne (u := z_62.toInt) rfl (by omega) (by omega)
            have hke_ : ((upI u_63 101 z_62.toNatClampNeg z_65).2.2.1 101 7).toInt = (u_63.2.2.1 101 7).toInt := keep_ne (u := z_62.toInt) rfl (by omega) (by omega)
            have hke_ : ((upI u_63 101 z_62.toNatClampNeg z_65).2.2.1 101 9).toInt = (u_63.2.2.1 101 9).toInt := keep_ne (u := z_62.toInt) rfl (by omega) (by omega)
            refine s_aload_n E dX10_readNext_120 rfl rfl ?_
            refine s_gR (r := 101) E fg_X10_31 rfl rfl (jv_lt hj_68 (by decide)) (jv_r hj_68 (by decide +kernel)) dX10_readNext_121 ?_
            refine s_iload_n E dX10_readNext_124 rfl rfl ?_
            refine s_iconst (v := 1) E dX10_readNext_125 (by decide) ?_
            refine z_iadd (u := z_62.toInt) (v := 1) E dX10_readNext_126 rfl (by decide) (by omega) (by omega) (fun z_69 hz_69 => ?_)
            refine s_aload_n E dX10_readNext_127 rfl rfl ?_
            refine s_ldcS (i := 25) E (by decide) rfl dX10_readNext_128 ?_
            refine s_iconst (v := 1) E dX10_readNext_130 (by decide) ?_
            refine s_bipush (v := 9) E dX10_readNext_131 (by decide) ?_
            refine s_vI (As := [AX (sA aC 25), AI 1, AI 9]) (S := [AI z_69, AR 101]) E (Z_X10_told_95 l D aC b (upI u_63 101 z_62.toNatClampNeg z_65) 1 9 hj_68.1  25 (by decide) (by omega)) cv_X10_164 rfl rfl rfl (jv_lt hj_68 (by decide)) (Nat.le_of_ble_eq_true rfl) (Nat.le_of_ble_eq_true rfl) ⟨(Nat.le_of_ble_eq_true rfl), (Nat.le_of_ble_eq_true rfl)⟩ (Nat.le_of_ble_eq_true rfl) dX10_readNext_133 (fun z_72 u_70 hp_71 => ?_)
            obtain ⟨hz_72, hxz_72, hf_u_70_101, hp_71⟩ := hp_71
            have hc_ : (1 : Int32).toInt = 1 := by decide
            have hc_ : (9 : Int32).toInt = 9 := by decide
            have hj_73 := jv_trans hj_68 hp_71
            have hfa_101_0 := congrArg Int32.toInt (congrFun hf_u_70_101 0)
            have hfa_101_4 := congrArg Int32.toInt (congrFun hf_u_70_101 4)
            have hfa_101_5 := congrArg Int32.toInt (congrFun hf_u_70_101 5)
            have hfa_101_6 := congrArg Int32.toInt (congrFun hf_u_70_101 6)
            have hfa_101_7 := congrArg Int32.toInt (congrFun hf_u_70_101 7)
            have hfa_101_9 := congrArg Int32.toInt (congrFun hf_u_70_101 9)
            have hrz_72 : 0 ≤ z_72.toInt ∧ z_72.toInt ≤ 9 := by omega
            have hLw_ : (u_70.2.2.1 95 12).toInt = 0 → 1 ≤ z_72.toInt := by intro h0_; omega
            refine s_iast E rfl (jv_lt hj_73 (by decide)) (z_in (u := z_69.toInt) rfl (by omega) (by omega)) dX10_readNext_136 ?_
            have hj_75 : Jv w (upI u_70 101 z_69.toNatClampNeg z_72) := (jv_lad hj_73 (by omega) (by omega) (by omega) (by have hb_ := z32 z_72; omega) (by have hb_ := z32 z_72; omega))
            have hke_ : ((upI u_70 101 z_69.toNatClampNeg z_72).2.2.1 95 7).toInt = (u_70.2.2.1 95 7).toInt := rfl
            have hke_ : ((upI u_70 101 z_69.toNatClampNeg z_72).2.2.1 95 8).toInt = (u_70.2.2.1 95 8).toInt := rfl
            have hke_ : ((upI u_70 101 z_69.toNatClampNeg z_72).2.2.1 95 9).toInt = (u_70.2.2.1 95 9).toInt := rfl
            have hke_ : ((upI u_70 101 z_69.toNatClampNeg z_72).2.2.1 95 10).toInt = (u_70.2.2.1 95 10).toInt := rfl
            have hke_ : ((upI u_70 101 z_69.toNatClampNeg z_72).2.2.1 95 12).toInt = (u_70.2.2.1 95 12).toInt := rfl
            have hke_ : ((upI u_70 101 z_69.toNatClampNeg z_72).2.2.1 101 0).toInt = (u_70.2.2.1 101 0).toInt := keep_ne (u := z_69.toInt) rfl (by omega) (by omega)
            have hke_ : ((upI u_70 101 z_69.toNatClampNeg z_72).2.2.1 101 4).toInt = (u_70.2.2.1 101 4).toInt := keep_ne (u := z_69.toInt) rfl (by omega) (by omega)
            have hke_ : ((upI u_70 101 z_69.toNatClampNeg z_72).2.2.1 101 5).toInt = (u_70.2.2.1 101 5).toInt := keep_ne (u := z_69.toInt) rfl (by omega) (by omega)
            have hke_ : ((upI u_70 101 z_69.toNatClampNeg z_72).2.2.1 101 6).toInt = (u_70.2.2.1 101 6).toInt := keep_ne (u := z_69.toInt) rfl (by omega) (by omega)
            have hke_ : ((upI u_70 101 z_69.toNatClampNeg z_72).2.2.1 101 7).toInt = (u_70.2.2.1 101 7).toInt := keep_ne (u := z_69.toInt) rfl (by omega) (by omega)
            have hke_ : ((upI u_70 101 z_69.toNatClampNeg z_72).2.2.1 101 9).toInt = (u_70.2.2.1 101 9).toInt := keep_ne (u := z_69.toInt) rfl (by omega) (by omega)
            refine s_aload_n E dX10_readNext_137 rfl rfl ?_
            refine s_gR (r := 101) E fg_X10_31 rfl rfl (jv_lt hj_75 (by decide)) (jv_r hj_75 (by decide +kernel)) dX10_readNext_138 ?_
            refine s_iconst (v := 5) E dX10_readNext_141 (by decide) ?_
            refine s_dup2 E dX10_readNext_142 ?_
            refine s_iald E rfl (jv_lt hj_75 (by decide)) (z_in (u := 5) (by decide) (by omega) (by omega)) dX10_readNext_143 ?_
            refine z_nm (P := fun z => z.toInt = ((upI u_70 101 z_69.toNatClampNeg z_72).2.2.1 101 5).toInt ∧ 0 ≤ z.toInt ∧ z.toInt ≤ 6) ⟨rfl, (rw_101_5 hj_75)⟩ (fun z_76 hz_76 => ?_)
            refine s_iconst (v := 1) E dX10_readNext_144 (by decide) ?_
            refine z_iadd (u := z_76.toInt) (v := 1) E dX10_readNext_145 rfl (by decide) (by omega) (by omega) (fun z_77 hz_77 => ?_)
            have hhz_77 : 0 ≤ z_77.toInt ∧ z_77.toInt ≤ 6 := by omega
            refine s_iast E rfl (jv_lt hj_75 (by decide)) (z_in (u := 5) (by decide) (by omega) (by omega)) dX10_readNext_146 ?_
            have hj_79 : Jv w (upI (upI u_70 101 z_69.toNatClampNeg z_72) 101 5 z_77) := (jv_lad5 hj_75 (by omega) (by omega) (by omega) (lad_fin (by omega) (by omega) hLw_))
            have hke_ : ((upI (upI u_70 101 z_69.toNatClampNeg z_72) 101 5 z_77).2.2.1 95 7).toInt = ((upI u_70 101 z_69.toNatClampNeg z_72).2.2.1 95 7).toInt := rfl
            have hke_ : ((upI (upI u_70 101 z_69.toNatClampNeg z_72) 101 5 z_77).2.2.1 95 8).toInt = ((upI u_70 101 z_69.toNatClampNeg z_72).2.2.1 95 8).toInt := rfl
            have hke_ : ((upI (upI u_70 101 z_69.toNatClampNeg z_72) 101 5 z_77).2.2.1 95 9).toInt = ((upI u_70 101 z_69.toNatClampNeg z_72).2.2.1 95 9).toInt := rfl
            have hke_ : ((upI (upI u_70 101 z_69.toNatClampNeg z_72) 101 5 z_77).2.2.1 95 10).toInt = ((upI u_70 101 z_69.toNatClampNeg z_72).2.2.1 95 10).toInt := rfl
            have hke_ : ((upI (upI u_70 101 z_69.toNatClampNeg z_72) 101 5 z_77).2.2.1 95 12).toInt = ((upI u_70 101 z_69.toNatClampNeg z_72).2.2.1 95 12).toInt := rfl
            have hke_ : ((upI (upI u_70 101 z_69.toNatClampNeg z_72) 101 5 z_77).2.2.1 101 0).toInt = ((upI u_70 101 z_69.toNatClampNeg z_72).2.2.1 101 0).toInt := rfl
            have hke_ : ((upI (upI u_70 101 z_69.toNatClampNeg z_72) 101 5 z_77).2.2.1 101 4).toInt = ((upI u_70 101 z_69.toNatClampNeg z_72).2.2.1 101 4).toInt := rfl
            have hke_ : ((upI (upI u_70 101 z_69.toNatClampNeg z_72) 101 5 z_77).2.2.1 101 5).toInt = z_77.toInt := rfl
            have hke_ : ((upI (upI u_70 101 z_69.toNatClampNeg z_72) 101 5 z_77).2.2.1 101 6).toInt = ((upI u_70 101 z_69.toNatClampNeg z_72).2.2.1 101 6).toInt := rfl
            have hke_ : ((upI (upI u_70 101 z_69.toNatClampNeg z_72) 101 5 z_77).2.2.1 101 7).toInt = ((upI u_70 101 z_69.toNatClampNeg z_72).2.2.1 101 7).toInt := rfl
            have hke_ : ((upI (upI u_70 101 z_69.toNatClampNeg z_72) 101 5 z_77).2.2.1 101 9).toInt = ((upI u_70 101 z_69.toNatClampNeg z_72).2.2.1 101 9).toInt := rfl
            refine s_goto (tgt := 232) E dX10_readNext_147 (by decide) ?_
            exact r_void E dX10_readNext_232 ⟨(by omega), hj_79⟩
        ·
          have hd_ : ¬ (w.2.2.1 101 4).toInt = 12 := by first | exact (hq_.resolve_left (by omega)).1 (hT_.mp (by omega)) | (exfalso; omega)
          refine s_aload_n E dX10_readNext_80 rfl rfl ?_
          refine s_vV (As := []) (S := []) E (Z_X10_readDoor_95 l D aC b u_17  hj_20.1  (by omega) (by omega)) cv_X10_198 rfl rfl rfl (jv_lt hj_20 (by decide)) (Nat.le_of_ble_eq_true rfl) (Nat.le_of_ble_eq_true rfl) ⟨(Nat.le_of_ble_eq_true rfl), (Nat.le_of_ble_eq_true rfl)⟩ (Nat.le_of_ble_eq_true rfl) dX10_readNext_81 (fun u_80 hp_81 => ?_)
          obtain ⟨hx_hp_81, hp_81⟩ := hp_81
          have hj_82 := jv_trans hj_20 hp_81
          refine s_goto (tgt := 232) E dX10_readNext_84 (by decide) ?_
          exact r_void E dX10_readNext_232 ⟨(by omega), hj_82⟩
      ·
        exact r_void E dX10_readNext_70 ⟨(by omega), hJ⟩
    ·
      refine s_aload_n E dX10_readNext_58 rfl rfl ?_
      refine s_iconst (v := 3) E dX10_readNext_59 (by decide) ?_
      refine s_vV (As := [AI 3]) (S := []) E (Z_X10_errs_95 l D aC b w 3 hJ.1 (by decide)) cv_X10_153 rfl rfl rfl (jv_lt hJ (by decide)) (Nat.le_of_ble_eq_true rfl) (Nat.le_of_ble_eq_true rfl) ⟨(Nat.le_of_ble_eq_true rfl), (Nat.le_of_ble_eq_true rfl)⟩ (Nat.le_of_ble_eq_true rfl) dX10_readNext_60 (fun u_83 hp_84 => ?_)
      have hc_ : (3 : Int32).toInt = 3 := by decide
      obtain ⟨hx_hp_84, hf_u_83_101, hp_84⟩ := hp_84
      have hj_85 := jv_trans hJ hp_84
      have hfa_101_0 := congrArg Int32.toInt (congrFun hf_u_83_101 0)
      have hfa_101_4 := congrArg Int32.toInt (congrFun hf_u_83_101 4)
      have hfa_101_5 := congrArg Int32.toInt (congrFun hf_u_83_101 5)
      have hfa_101_6 := congrArg Int32.toInt (congrFun hf_u_83_101 6)
      have hfa_101_7 := congrArg Int32.toInt (congrFun hf_u_83_101 7)
      have hfa_101_9 := congrArg Int32.toInt (congrFun hf_u_83_101 9)
      refine s_aload_n E dX10_readNext_63 rfl rfl ?_
      refine s_vI (As := []) (S := []) E (Z_X10_good_95 l D aC b u_83  hj_85.1 ) cv_X10_130 rfl rfl rfl (jv_lt hj_85 (by decide)) (Nat.le_of_ble_eq_true rfl) (Nat.le_of_ble_eq_true rfl) ⟨(Nat.le_of_ble_eq_true rfl), (Nat.le_of_ble_eq_true rfl)⟩ (Nat.le_of_ble_eq_true rfl) dX10_readNext_64 (fun z_88 u_86 hp_87 => ?_)
      obtain ⟨hz_88, hxz_88, hp_87⟩ := hp_87
      subst hp_87
      refine z_if_ne (tgt := 71) (u := z_88.toInt) E dX10_readNext_67 (by decide) rfl (fun h_90 => ?_) (fun h_90 => ?_)
      ·
        have hn4_ := rw_101_4 hj_85
        have hn5_ := rw_101_5 hj_85
        have hn6_ := rw_101_6 hj_85
        have hn7_ := rw_101_7 hj_85
        refine s_aload_n E dX10_readNext_71 rfl rfl ?_
        refine s_ldcS (i := 20) E (by decide) rfl dX10_readNext_72 ?_
        refine s_vI (As := [AX (sA aC 20)]) (S := []) E (Z_X10_takes_95 l D aC b u_83  hj_85.1  20 (by decide) (by omega)) cv_X10_150 rfl rfl rfl (jv_lt hj_85 (by decide)) (Nat.le_of_ble_eq_true rfl) (Nat.le_of_ble_eq_true rfl) ⟨(Nat.le_of_ble_eq_true rfl), (Nat.le_of_ble_eq_true rfl)⟩ (Nat.le_of_ble_eq_true rfl) dX10_readNext_74 (fun z_93 u_91 hp_92 => ?_)
        obtain ⟨hz_93, hxz_93, hf_u_91_101, hp_92⟩ := hp_92
        have hj_94 := jv_trans hj_85 hp_92
        have hfa_101_0 := congrArg Int32.toInt (congrFun hf_u_91_101 0)
        have hfa_101_4 := congrArg Int32.toInt (congrFun hf_u_91_101 4)
        have hfa_101_5 := congrArg Int32.toInt (congrFun hf_u_91_101 5)
        have hfa_101_6 := congrArg Int32.toInt (congrFun hf_u_91_101 6)
        have hfa_101_7 := congrArg Int32.toInt (congrFun hf_u_91_101 7)
        have hfa_101_9 := congrArg Int32.toInt (congrFun hf_u_91_101 9)
        have hT_ := hxz_93.1
        have hE_ := hxz_93.2.1
        refine z_if_eq (tgt := 87) (u := z_93.toInt) E dX10_readNext_77 (by decide) rfl (fun h_95 => ?_) (fun h_95 => ?_)
        ·
          have hE1_ : u_83 = u_91 := hE_.resolve_left (by omega)
          refine s_aload_n E dX10_readNext_87 rfl rfl ?_
          refine s_ldcS (i := 21) E (by decide) rfl dX10_readNext_88 ?_
          refine s_vI (As := [AX (sA aC 21)]) (S := []) E (Z_X10_takes_95 l D aC b u_91  hj_94.1  21 (by decide) (by omega)) cv_X10_150 rfl rfl rfl (jv_lt hj_94 (by decide)) (Nat.le_of_ble_eq_true rfl) (Nat.le_of_ble_eq_true rfl) ⟨(Nat.le_of_ble_eq_true rfl), (Nat.le_of_ble_eq_true rfl)⟩ (Nat.le_of_ble_eq_true rfl) dX10_readNext_90 (fun z_98 u_96 hp_97 => ?_)
          obtain ⟨hz_98, hxz_98, hf_u_96_101, hp_97⟩ := hp_97
          have hj_99 := jv_trans hj_94 hp_97
          have hfa_101_0 := congrArg Int32.toInt (congrFun hf_u_96_101 0)
          have hfa_101_4 := congrArg Int32.toInt (congrFun hf_u_96_101 4)
          have hfa_101_5 := congrArg Int32.toInt (congrFun hf_u_96_101 5)
          have hfa_101_6 := congrArg Int32.toInt (congrFun hf_u_96_101 6)
          have hfa_101_7 := congrArg Int32.toInt (congrFun hf_u_96_101 7)
          have hfa_101_9 := congrArg Int32.toInt (congrFun hf_u_96_101 9)
          have hT2_ := hxz_98.1
          rw [← hE1_] at hT2_
          have hF_ := hxz_98.2.1
          refine z_if_eq (tgt := 150) (u := z_98.toInt) E dX10_readNext_93 (by decide) rfl (fun h_100 => ?_) (fun h_100 => ?_)
          ·
            have hE2_ : u_83 = u_96 := hE1_.trans (hF_.resolve_left (by omega))
            refine s_aload_n E dX10_readNext_150 rfl rfl ?_
            refine s_ldcS (i := 22) E (by decide) rfl dX10_readNext_151 ?_
            refine s_vI (As := [AX (sA aC 22)]) (S := []) E (Z_X10_takes_95 l D aC b u_96  hj_99.1  22 (by decide) (by omega)) cv_X10_150 rfl rfl rfl (jv_lt hj_99 (by decide)) (Nat.le_of_ble_eq_true rfl) (Nat.le_of_ble_eq_true rfl) ⟨(Nat.le_of_ble_eq_true rfl), (Nat.le_of_ble_eq_true rfl)⟩ (Nat.le_of_ble_eq_true rfl) dX10_readNext_153 (fun z_103 u_101 hp_102 => ?_)
            obtain ⟨hz_103, hxz_103, hf_u_101_101, hp_102⟩ := hp_102
            have hj_104 := jv_trans hj_99 hp_102
            have hfa_101_0 := congrArg Int32.toInt (congrFun hf_u_101_101 0)
            have hfa_101_4 := congrArg Int32.toInt (congrFun hf_u_101_101 4)
            have hfa_101_5 := congrArg Int32.toInt (congrFun hf_u_101_101 5)
            have hfa_101_6 := congrArg Int32.toInt (congrFun hf_u_101_101 6)
            have hfa_101_7 := congrArg Int32.toInt (congrFun hf_u_101_101 7)
            have hfa_101_9 := congrArg Int32.toInt (congrFun hf_u_101_101 9)
            have hT3_ := hxz_103.1
            rw [← hE2_] at hT3_
            have hG_ := hxz_103.2.1
            refine z_if_eq (tgt := 224) (u := z_103.toInt) E dX10_readNext_156 (by decide) rfl (fun h_105 => ?_) (fun h_105 => ?_)
            ·
              have hd_ : ¬ (u_83.2.2.1 101 7).toInt = 10 := by first | exact (hq_.resolve_left (by omega)).2.2.2 (hw_30.mp (by omega)) | (exfalso; exact absurd (hT_.mpr (hw_3.mp (by omega))) (by omega)) | (exfalso; exact absurd (hT2_.mpr (hw_12.mp (by omega))) (by omega)) | (exfalso; exact absurd (hT3_.mpr (hw_21.mp (by omega))) (by omega)) | (exfalso; omega)
              refine s_aload_n E dX10_readNext_224 rfl rfl ?_
              refine s_vV (As := []) (S := []) E (Z_X10_advance_95 l D aC b u_101  hj_104.1 ) cv_X10_147 rfl rfl rfl (jv_lt hj_104 (by decide)) (Nat.le_of_ble_eq_true rfl) (Nat.le_of_ble_eq_true rfl) ⟨(Nat.le_of_ble_eq_true rfl), (Nat.le_of_ble_eq_true rfl)⟩ (Nat.le_of_ble_eq_true rfl) dX10_readNext_225 (fun u_106 hp_107 => ?_)
              obtain ⟨hx_hp_107, hf_u_106_99, hf_u_106_101, hp_107⟩ := hp_107
              have hj_108 := jv_trans hj_104 hp_107
              have hfa_101_0 := congrArg Int32.toInt (congrFun hf_u_106_101 0)
              have hfa_101_4 := congrArg Int32.toInt (congrFun hf_u_106_101 4)
              have hfa_101_5 := congrArg Int32.toInt (congrFun hf_u_106_101 5)
              have hfa_101_6 := congrArg Int32.toInt (congrFun hf_u_106_101 6)
              have hfa_101_7 := congrArg Int32.toInt (congrFun hf_u_106_101 7)
              have hfa_101_9 := congrArg Int32.toInt (congrFun hf_u_106_101 9)
              refine s_aload_n E dX10_readNext_228 rfl rfl ?_
              refine s_vV (As := []) (S := []) E (Z_X10_readBid_95 l D aC b u_106  hj_108.1  (by omega) (by omega)) cv_X10_206 rfl rfl rfl (jv_lt hj_108 (by decide)) (Nat.le_of_ble_eq_true rfl) (Nat.le_of_ble_eq_true rfl) ⟨(Nat.le_of_ble_eq_true rfl), (Nat.le_of_ble_eq_true rfl)⟩ (Nat.le_of_ble_eq_true rfl) dX10_readNext_229 (fun u_109 hp_110 => ?_)
              obtain ⟨hx_hp_110, hp_110⟩ := hp_110
              have hj_111 := jv_trans hj_108 hp_110
              exact r_void E dX10_readNext_232 ⟨(by omega), hj_111⟩
            ·
              have hd_ : ¬ (u_83.2.2.1 101 6).toInt = 8 := by first | exact (hq_.resolve_left (by omega)).2.2.1 (hT3_.mp (by omega)) | (exfalso; omega)
              refine s_bipush (v := 58) E dX10_readNext_159 (by decide) ?_
              refine s_iconst (v := 2) E dX10_readNext_161 (by decide) ?_
              refine s_aload_n E dX10_readNext_162 rfl rfl ?_
              refine s_gR (r := 101) E fg_X10_31 rfl rfl (jv_lt hj_104 (by decide)) (jv_r hj_104 (by decide +kernel)) dX10_readNext_163 ?_
              refine s_bipush (v := 6) E dX10_readNext_166 (by decide) ?_
              refine s_iald E rfl (jv_lt hj_104 (by decide)) (z_in (u := 6) (by decide) (by omega) (by omega)) dX10_readNext_168 ?_
              refine z_nm (P := fun z => z.toInt = (u_101.2.2.1 101 6).toInt ∧ 0 ≤ z.toInt ∧ z.toInt ≤ 8) ⟨rfl, (rw_101_6 hj_104)⟩ (fun z_112 hz_112 => ?_)
              refine z_imul (u := 2) (v := z_112.toInt) E dX10_readNext_169 (by decide) rfl (by omega) (by omega) (fun z_113 hz_113 => ?_)
              have hhz_113 : 0 ≤ z_113.toInt ∧ z_113.toInt ≤ 14 := by omega
              refine z_iadd (u := 58) (v := z_113.toInt) E dX10_readNext_170 (by decide) rfl (by omega) (by omega) (fun z_114 hz_114 => ?_)
              refine s_istore_n (L2 := [some (AR 95), some (AI 1), some (AI z_114)]) E dX10_readNext_171 rfl (by decide) rfl ?_
              refine s_aload_n E dX10_readNext_172 rfl rfl ?_
              refine s_gR (r := 101) E fg_X10_31 rfl rfl (jv_lt hj_104 (by decide)) (jv_r hj_104 (by decide +kernel)) dX10_readNext_173 ?_
              refine s_iload_n E dX10_readNext_176 rfl rfl ?_
              refine s_aload_n E dX10_readNext_177 rfl rfl ?_
              refine s_ldcS (i := 27) E (by decide) rfl dX10_readNext_178 ?_
              refine s_iconst (v := 0) E dX10_readNext_180 (by decide) ?_
              refine s_aload_n E dX10_readNext_181 rfl rfl ?_
              refine s_gR (r := 101) E fg_X10_31 rfl rfl (jv_lt hj_104 (by decide)) (jv_r hj_104 (by decide +kernel)) dX10_readNext_182 ?_
              refine s_iconst (v := 5) E dX10_readNext_185 (by decide) ?_
              refine s_iald E rfl (jv_lt hj_104 (by decide)) (z_in (u := 5) (by decide) (by omega) (by omega)) dX10_readNext_186 ?_
              refine z_nm (P := fun z => z.toInt = (u_101.2.2.1 101 5).toInt ∧ 0 ≤ z.toInt ∧ z.toInt ≤ 6) ⟨rfl, (rw_101_5 hj_104)⟩ (fun z_115 hz_115 => ?_)
              refine s_iconst (v := 1) E dX10_readNext_187 (by decide) ?_
              refine z_isub (u := z_115.toInt) (v := 1) E dX10_readNext_188 rfl (by decide) (by omega) (by omega) (fun z_116 hz_116 => ?_)
              refine s_vI (As := [AX (sA aC 27), AI 0, AI z_116]) (S := [AI z_114, AR 101]) E (Z_X10_told_95 l D aC b u_101 0 z_116 hj_104.1  27 (by decide) (by omega)) cv_X10_164 rfl rfl rfl (jv_lt hj_104 (by decide)) (Nat.le_of_ble_eq_true rfl) (Nat.le_of_ble_eq_true rfl) ⟨(Nat.le_of_ble_eq_true rfl), (Nat.le_of_ble_eq_true rfl)⟩ (Nat.le_of_ble_eq_true rfl) dX10_readNext_189 (fun z_119 u_117 hp_118 => ?_)
              obtain ⟨hz_119, hxz_119, hf_u_117_101, hp_118⟩ := hp_118
              have hc_ : (0 : Int32).toInt = 0 := by decide
              have hj_120 := jv_trans hj_104 hp_118
              have hfa_101_0 := congrArg Int32.toInt (congrFun hf_u_117_101 0)
              have hfa_101_4 := congrArg Int32.toInt (congrFun hf_u_117_101 4)
              have hfa_101_5 := congrArg Int32.toInt (congrFun hf_u_117_101 5)
              have hfa_101_6 := congrArg Int32.toInt (congrFun hf_u_117_101 6)
              have hfa_101_7 := congrArg Int32.toInt (congrFun hf_u_117_101 7)
              have hfa_101_9 := congrArg Int32.toInt (congrFun hf_u_117_101 9)
              have hrz_119 : 0 ≤ z_119.toInt ∧ z_119.toInt ≤ 5 := by omega
              refine s_iast E rfl (jv_lt hj_120 (by decide)) (z_in (u := z_114.toInt) rfl (by omega) (by omega)) dX10_readNext_192 ?_
              have hj_122 : Jv w (upI u_117 101 z_114.toNatClampNeg z_119) := (jv_a_101 (i := z_114) (x := z_119) hj_120 0 5 58 72 2 z_114.toInt (by decide +kernel) (by decide) rfl (by omega) (by omega) (by omega) (by have hb_ := z32 z_119; omega) (by have hb_ := z32 z_119; omega))
              have hke_ : ((upI u_117 101 z_114.toNatClampNeg z_119).2.2.1 95 7).toInt = (u_117.2.2.1 95 7).toInt := rfl
              have hke_ : ((upI u_117 101 z_114.toNatClampNeg z_119).2.2.1 95 8).toInt = (u_117.2.2.1 95 8).toInt := rfl
              have hke_ : ((upI u_117 101 z_114.toNatClampNeg z_119).2.2.1 95 9).toInt = (u_117.2.2.1 95 9).toInt := rfl
              have hke_ : ((upI u_117 101 z_114.toNatClampNeg z_119).2.2.1 95 10).toInt = (u_117.2.2.1 95 10).toInt := rfl
              have hke_ : ((upI u_117 101 z_114.toNatClampNeg z_119).2.2.1 95 12).toInt = (u_117.2.2.1 95 12).toInt := rfl
              have hke_ : ((upI u_117 101 z_114.toNatClampNeg z_119).2.2.1 101 0).toInt = (u_117.2.2.1 101 0).toInt := keep_ne (u := z_114.toInt) rfl (by omega) (by omega)
              have hke_ : ((upI u_117 101 z_114.toNatClampNeg z_119).2.2.1 101 4).toInt = (u_117.2.2.1 101 4).toInt := keep_ne (u := z_114.toInt) rfl (by omega) (by omega)
              have hke_ : ((upI u_117 101 z_114.toNatClampNeg z_119).2.2.1 101 5).toInt = (u_117.2.2.1 101 5).toInt := keep_ne (u := z_114.toInt) rfl (by omega) (by omega)
              have hke_ : ((upI u_117 101 z_114.toNatClampNeg z_119).2.2.1 101 6).toInt = (u_117.2.2.1 101 6).toInt := keep_ne (u := z_114.toInt) rfl (by omega) (by omega)
              have hke_ : ((upI u_117 101 z_114.toNatClampNeg z_119).2.2.1 101 7).toInt = (u_117.2.2.1 101 7).toInt := keep_ne (u := z_114.toInt) rfl (by omega) (by omega)
              have hke_ : ((upI u_117 101 z_114.toNatClampNeg z_119).2.2.1 101 9).toInt = (u_117.2.2.1 101 9).toInt := keep_ne (u := z_114.toInt) rfl (by omega) (by omega)
              refine s_aload_n E dX10_readNext_193 rfl rfl ?_
              refine s_gR (r := 101) E fg_X10_31 rfl rfl (jv_lt hj_122 (by decide)) (jv_r hj_122 (by decide +kernel)) dX10_readNext_194 ?_
              refine s_iload_n E dX10_readNext_197 rfl rfl ?_
              refine s_iconst (v := 1) E dX10_readNext_198 (by decide) ?_
              refine z_iadd (u := z_114.toInt) (v := 1) E dX10_readNext_199 rfl (by decide) (by omega) (by omega) (fun z_123 hz_123 => ?_)
              refine s_aload_n E dX10_readNext_200 rfl rfl ?_
              refine s_ldcS (i := 28) E (by decide) rfl dX10_readNext_201 ?_
              refine s_iconst (v := 1) E dX10_readNext_203 (by decide) ?_
              refine s_bipush (v := 20) E dX10_readNext_204 (by decide) ?_
              refine s_vI (As := [AX (sA aC 28), AI 1, AI 20]) (S := [AI z_123, AR 101]) E (Z_X10_told_95 l D aC b (upI u_117 101 z_114.toNatClampNeg z_119) 1 20 hj_122.1  28 (by decide) (by omega)) cv_X10_164 rfl rfl rfl (jv_lt hj_122 (by decide)) (Nat.le_of_ble_eq_true rfl) (Nat.le_of_ble_eq_true rfl) ⟨(Nat.le_of_ble_eq_true rfl), (Nat.le_of_ble_eq_true rfl)⟩ (Nat.le_of_ble_eq_true rfl) dX10_readNext_206 (fun z_126 u_124 hp_125 => ?_)
              obtain ⟨hz_126, hxz_126, hf_u_124_101, hp_125⟩ := hp_125
              have hc_ : (1 : Int32).toInt = 1 := by decide
              have hc_ : (20 : Int32).toInt = 20 := by decide
              have hj_127 := jv_trans hj_122 hp_125
              have hfa_101_0 := congrArg Int32.toInt (congrFun hf_u_124_101 0)
              have hfa_101_4 := congrArg Int32.toInt (congrFun hf_u_124_101 4)
              have hfa_101_5 := congrArg Int32.toInt (congrFun hf_u_124_101 5)
              have hfa_101_6 := congrArg Int32.toInt (congrFun hf_u_124_101 6)
              have hfa_101_7 := congrArg Int32.toInt (congrFun hf_u_124_101 7)
              have hfa_101_9 := congrArg Int32.toInt (congrFun hf_u_124_101 9)
              have hrz_126 : 0 ≤ z_126.toInt ∧ z_126.toInt ≤ 20 := by omega
              refine s_iast E rfl (jv_lt hj_127 (by decide)) (z_in (u := z_123.toInt) rfl (by omega) (by omega)) dX10_readNext_209 ?_
              have hj_129 : Jv w (upI u_124 101 z_123.toNatClampNeg z_126) := (jv_a_101 (i := z_123) (x := z_126) hj_127 0 20 59 73 2 z_123.toInt (by decide +kernel) (by decide) rfl (by omega) (by omega) (by omega) (by have hb_ := z32 z_126; omega) (by have hb_ := z32 z_126; omega))
              have hke_ : ((upI u_124 101 z_123.toNatClampNeg z_126).2.2.1 95 7).toInt = (u_124.2.2.1 95 7).toInt := rfl
              have hke_ : ((upI u_124 101 z_123.toNatClampNeg z_126).2.2.1 95 8).toInt = (u_124.2.2.1 95 8).toInt := rfl
              have hke_ : ((upI u_124 101 z_123.toNatClampNeg z_126).2.2.1 95 9).toInt = (u_124.2.2.1 95 9).toInt := rfl
              have hke_ : ((upI u_124 101 z_123.toNatClampNeg z_126).2.2.1 95 10).toInt = (u_124.2.2.1 95 10).toInt := rfl
              have hke_ : ((upI u_124 101 z_123.toNatClampNeg z_126).2.2.1 95 12).toInt = (u_124.2.2.1 95 12).toInt := rfl
              have hke_ : ((upI u_124 101 z_123.toNatClampNeg z_126).2.2.1 101 0).toInt = (u_124.2.2.1 101 0).toInt := keep_ne (u := z_123.toInt) rfl (by omega) (by omega)
              have hke_ : ((upI u_124 101 z_123.toNatClampNeg z_126).2.2.1 101 4).toInt = (u_124.2.2.1 101 4).toInt := keep_ne (u := z_123.toInt) rfl (by omega) (by omega)
              have hke_ : ((upI u_124 101 z_123.toNatClampNeg z_126).2.2.1 101 5).toInt = (u_124.2.2.1 101 5).toInt := keep_ne (u := z_123.toInt) rfl (by omega) (by omega)
              have hke_ : ((upI u_124 101 z_123.toNatClampNeg z_126).2.2.1 101 6).toInt = (u_124.2.2.1 101 6).toInt := keep_ne (u := z_123.toInt) rfl (by omega) (by omega)
              have hke_ : ((upI u_124 101 z_123.toNatClampNeg z_126).2.2.1 101 7).toInt = (u_124.2.2.1 101 7).toInt := keep_ne (u := z_123.toInt) rfl (by omega) (by omega)
              have hke_ : ((upI u_124 101 z_123.toNatClampNeg z_126).2.2.1 101 9).toInt = (u_124.2.2.1 101 9).toInt := keep_ne (u := z_123.toInt) rfl (by omega) (by omega)
              refine s_aload_n E dX10_readNext_210 rfl rfl ?_
              refine s_gR (r := 101) E fg_X10_31 rfl rfl (jv_lt hj_129 (by decide)) (jv_r hj_129 (by decide +kernel)) dX10_readNext_211 ?_
              refine s_bipush (v := 6) E dX10_readNext_214 (by decide) ?_
              refine s_dup2 E dX10_readNext_216 ?_
              refine s_iald E rfl (jv_lt hj_129 (by decide)) (z_in (u := 6) (by decide) (by omega) (by omega)) dX10_readNext_217 ?_
              refine z_nm (P := fun z => z.toInt = ((upI u_124 101 z_123.toNatClampNeg z_126).2.2.1 101 6).toInt ∧ 0 ≤ z.toInt ∧ z.toInt ≤ 8) ⟨rfl, (rw_101_6 hj_129)⟩ (fun z_130 hz_130 => ?_)
              refine s_iconst (v := 1) E dX10_readNext_218 (by decide) ?_
              refine z_iadd (u := z_130.toInt) (v := 1) E dX10_readNext_219 rfl (by decide) (by omega) (by omega) (fun z_131 hz_131 => ?_)
              have hhz_131 : 0 ≤ z_131.toInt ∧ z_131.toInt ≤ 8 := by omega
              refine s_iast E rfl (jv_lt hj_129 (by decide)) (z_in (u := 6) (by decide) (by omega) (by omega)) dX10_readNext_220 ?_
              have hj_133 : Jv w (upI (upI u_124 101 z_123.toNatClampNeg z_126) 101 6 z_131) := (jv_a_101 (i := 6) (x := z_131) hj_129 0 8 6 6 1 6 (by decide +kernel) (by decide) (by decide) (by omega) (by omega) (by omega) (by have hb_ := z32 z_131; omega) (by have hb_ := z32 z_131; omega))
              have hke_ : ((upI (upI u_124 101 z_123.toNatClampNeg z_126) 101 6 z_131).2.2.1 95 7).toInt = ((upI u_124 101 z_123.toNatClampNeg z_126).2.2.1 95 7).toInt := rfl
              have hke_ : ((upI (upI u_124 101 z_123.toNatClampNeg z_126) 101 6 z_131).2.2.1 95 8).toInt = ((upI u_124 101 z_123.toNatClampNeg z_126).2.2.1 95 8).toInt := rfl
              have hke_ : ((upI (upI u_124 101 z_123.toNatClampNeg z_126) 101 6 z_131).2.2.1 95 9).toInt = ((upI u_124 101 z_123.toNatClampNeg z_126).2.2.1 95 9).toInt := rfl
              have hke_ : ((upI (upI u_124 101 z_123.toNatClampNeg z_126) 101 6 z_131).2.2.1 95 10).toInt = ((upI u_124 101 z_123.toNatClampNeg z_126).2.2.1 95 10).toInt := rfl
              have hke_ : ((upI (upI u_124 101 z_123.toNatClampNeg z_126) 101 6 z_131).2.2.1 95 12).toInt = ((upI u_124 101 z_123.toNatClampNeg z_126).2.2.1 95 12).toInt := rfl
              have hke_ : ((upI (upI u_124 101 z_123.toNatClampNeg z_126) 101 6 z_131).2.2.1 101 0).toInt = ((upI u_124 101 z_123.toNatClampNeg z_126).2.2.1 101 0).toInt := rfl
              have hke_ : ((upI (upI u_124 101 z_123.toNatClampNeg z_126) 101 6 z_131).2.2.1 101 4).toInt = ((upI u_124 101 z_123.toNatClampNeg z_126).2.2.1 101 4).toInt := rfl
              have hke_ : ((upI (upI u_124 101 z_123.toNatClampNeg z_126) 101 6 z_131).2.2.1 101 5).toInt = ((upI u_124 101 z_123.toNatClampNeg z_126).2.2.1 101 5).toInt := rfl
              have hke_ : ((upI (upI u_124 101 z_123.toNatClampNeg z_126) 101 6 z_131).2.2.1 101 6).toInt = z_131.toInt := rfl
              have hke_ : ((upI (upI u_124 101 z_123.toNatClampNeg z_126) 101 6 z_131).2.2.1 101 7).toInt = ((upI u_124 101 z_123.toNatClampNeg z_126).2.2.1 101 7).toInt := rfl
              have hke_ : ((upI (upI u_124 101 z_123.toNatClampNeg z_126) 101 6 z_131).2.2.1 101 9).toInt = ((upI u_124 101 z_123.toNatClampNeg z_126).2.2.1 101 9).toInt := rfl
              refine s_goto (tgt := 232) E dX10_readNext_221 (by decide) ?_
              exact r_void E dX10_readNext_232 ⟨(by omega), hj_133⟩
          ·
            have hd_ : ¬ (u_83.2.2.1 101 5).toInt = 6 := by first | exact (hq_.resolve_left (by omega)).2.1 (hT2_.mp (by omega)) | (exfalso; omega)
            refine s_bipush (v := 46) E dX10_readNext_96 (by decide) ?_
            refine s_iconst (v := 2) E dX10_readNext_98 (by decide) ?_
            refine s_aload_n E dX10_readNext_99 rfl rfl ?_
            refine s_gR (r := 101) E fg_X10_31 rfl rfl (jv_lt hj_99 (by decide)) (jv_r hj_99 (by decide +kernel)) dX10_readNext_100 ?_
            refine s_iconst (v := 5) E dX10_readNext_103 (by decide) ?_
            refine s_iald E rfl (jv_lt hj_99 (by decide)) (z_in (u := 5) (by decide) (by omega) (by omega)) dX10_readNext_104 ?_
            refine z_nm (P := fun z => z.toInt = (u_96.2.2.1 101 5).toInt ∧ 0 ≤ z.toInt ∧ z.toInt ≤ 6) ⟨rfl, (rw_101_5 hj_99)⟩ (fun z_134 hz_134 => ?_)
            refine z_imul (u := 2) (v := z_134.toInt) E dX10_readNext_105 (by decide) rfl (by omega) (by omega) (fun z_135 hz_135 => ?_)
            have hhz_135 : 0 ≤ z_135.toInt ∧ z_135.toInt ≤ 10 := by omega
            refine z_iadd (u := 46) (v := z_135.toInt) E dX10_readNext_106 (by decide) rfl (by omega) (by omega) (fun z_136 hz_136 => ?_)
            refine s_istore_n (L2 := [some (AR 95), some (AI 1), some (AI z_136)]) E dX10_readNext_107 rfl (by decide) rfl ?_
            refine s_aload_n E dX10_readNext_108 rfl rfl ?_
            refine s_gR (r := 101) E fg_X10_31 rfl rfl (jv_lt hj_99 (by decide)) (jv_r hj_99 (by decide +kernel)) dX10_readNext_109 ?_
            refine s_iload_n E dX10_readNext_112 rfl rfl ?_
            refine s_aload_n E dX10_readNext_113 rfl rfl ?_
            refine s_ldcS (i := 26) E (by decide) rfl dX10_readNext_114 ?_
            refine s_vI (As := [AX (sA aC 26)]) (S := [AI z_136, AR 101]) E (Z_X10_freshRoom_95 l D aC b u_96  hj_99.1  26 (by decide) (by omega)) cv_X10_182 rfl rfl rfl (jv_lt hj_99 (by decide)) (Nat.le_of_ble_eq_true rfl) (Nat.le_of_ble_eq_true rfl) ⟨(Nat.le_of_ble_eq_true rfl), (Nat.le_of_ble_eq_true rfl)⟩ (Nat.le_of_ble_eq_true rfl) dX10_readNext_116 (fun z_139 u_137 hp_138 => ?_)
            obtain ⟨hz_139, hxz_139, hf_u_137_101, hp_138⟩ := hp_138
            have hj_140 := jv_trans hj_99 hp_138
            have hfa_101_0 := congrArg Int32.toInt (congrFun hf_u_137_101 0)
            have hfa_101_4 := congrArg Int32.toInt (congrFun hf_u_137_101 4)
            have hfa_101_5 := congrArg Int32.toInt (congrFun hf_u_137_101 5)
            have hfa_101_6 := congrArg Int32.toInt (congrFun hf_u_137_101 6)
            have hfa_101_7 := congrArg Int32.toInt (congrFun hf_u_137_101 7)
            have hfa_101_9 := congrArg Int32.toInt (congrFun hf_u_137_101 9)
            have hrz_139 : 0 ≤ z_139.toInt ∧ z_139.toInt ≤ 7 := by omega
            refine s_iast E rfl (jv_lt hj_140 (by decide)) (z_in (u := z_136.toInt) rfl (by omega) (by omega)) dX10_readNext_119 ?_
            have hj_142 : Jv w (upI u_137 101 z_136.toNatClampNeg z_139) := (jv_a_101 (i := z_136) (x := z_139) hj_140 0 7 46 56 2 z_136.toInt (by decide +kernel) (by decide) rfl (by omega) (by omega) (by omega) (by have hb_ := z32 z_139; omega) (by have hb_ := z32 z_139; omega))
            have hke_ : ((upI u_137 101 z_136.toNatClampNeg z_139).2.2.1 95 7).toInt = (u_137.2.2.1 95 7).toInt := rfl
            have hke_ : ((upI u_137 101 z_136.toNatClampNeg z_139).2.2.1 95 8).toInt = (u_137.2.2.1 95 8).toInt := rfl
            have hke_ : ((upI u_137 101 z_136.toNatClampNeg z_139).2.2.1 95 9).toInt = (u_137.2.2.1 95 9).toInt := rfl
            have hke_ : ((upI u_137 101 z_136.toNatClampNeg z_139).2.2.1 95 10).toInt = (u_137.2.2.1 95 10).toInt := rfl
            have hke_ : ((upI u_137 101 z_136.toNatClampNeg z_139).2.2.1 95 12).toInt = (u_137.2.2.1 95 12).toInt := rfl
            have hke_ : ((upI u_137 101 z_136.toNatClampNeg z_139).2.2.1 101 0).toInt = (u_137.2.2.1 101 0).toInt := keep_ne (u := z_136.toInt) rfl (by omega) (by omega)
            have hke_ : ((upI u_137 101 z_136.toNatClampNeg z_139).2.2.1 101 4).toInt = (u_137.2.2.1 101 4).toInt := keep_ne (u := z_136.toInt) rfl (by omega) (by omega)
            have hke_ : ((upI u_137 101 z_136.toNatClampNeg z_139).2.2.1 101 5).toInt = (u_137.2.2.1 101 5).toInt := keep_ne (u := z_136.toInt) rfl (by omega) (by omega)
            have hke_ : ((upI u_137 101 z_136.toNatClampNeg z_139).2.2.1 101 6).toInt = (u_137.2.2.1 101 6).toInt := keep_ne (u := z_136.toInt) rfl (by omega) (by omega)
            have hke_ : ((upI u_137 101 z_136.toNatClampNeg z_139).2.2.1 101 7).toInt = (u_137.2.2.1 101 7).toInt := keep_ne (u := z_136.toInt) rfl (by omega) (by omega)
            have hke_ : ((upI u_137 101 z_136.toNatClampNeg z_139).2.2.1 101 9).toInt = (u_137.2.2.1 101 9).toInt := keep_ne (u := z_136.toInt) rfl (by omega) (by omega)
            refine s_aload_n E dX10_readNext_120 rfl rfl ?_
            refine s_gR (r := 101) E fg_X10_31 rfl rfl (jv_lt hj_142 (by decide)) (jv_r hj_142 (by decide +kernel)) dX10_readNext_121 ?_
            refine s_iload_n E dX10_readNext_124 rfl rfl ?_
            refine s_iconst (v := 1) E dX10_readNext_125 (by decide) ?_
            refine z_iadd (u := z_136.toInt) (v := 1) E dX10_readNext_126 rfl (by decide) (by omega) (by omega) (fun z_143 hz_143 => ?_)
            refine s_aload_n E dX10_readNext_127 rfl rfl ?_
            refine s_ldcS (i := 25) E (by decide) rfl dX10_readNext_128 ?_
            refine s_iconst (v := 1) E dX10_readNext_130 (by decide) ?_
            refine s_bipush (v := 9) E dX10_readNext_131 (by decide) ?_
            refine s_vI (As := [AX (sA aC 25), AI 1, AI 9]) (S := [AI z_143, AR 101]) E (Z_X10_told_95 l D aC b (upI u_137 101 z_136.toNatClampNeg z_139) 1 9 hj_142.1  25 (by decide) (by omega)) cv_X10_164 rfl rfl rfl (jv_lt hj_142 (by decide)) (Nat.le_of_ble_eq_true rfl) (Nat.le_of_ble_eq_true rfl) ⟨(Nat.le_of_ble_eq_true rfl), (Nat.le_of_ble_eq_true rfl)⟩ (Nat.le_of_ble_eq_true rfl) dX10_readNext_133 (fun z_146 u_144 hp_145 => ?_)
            obtain ⟨hz_146, hxz_146, hf_u_144_101, hp_145⟩ := hp_145
            have hc_ : (1 : Int32).toInt = 1 := by decide
            have hc_ : (9 : Int32).toInt = 9 := by decide
            have hj_147 := jv_trans hj_142 hp_145
            have hfa_101_0 := congrArg Int32.toInt (congrFun hf_u_144_101 0)
            have hfa_101_4 := congrArg Int32.toInt (congrFun hf_u_144_101 4)
            have hfa_101_5 := congrArg Int32.toInt (congrFun hf_u_144_101 5)
            have hfa_101_6 := congrArg Int32.toInt (congrFun hf_u_144_101 6)
            have hfa_101_7 := congrArg Int32.toInt (congrFun hf_u_144_101 7)
            have hfa_101_9 := congrArg Int32.toInt (congrFun hf_u_144_101 9)
            have hrz_146 : 0 ≤ z_146.toInt ∧ z_146.toInt ≤ 9 := by omega
            have hLw_ : (u_144.2.2.1 95 12).toInt = 0 → 1 ≤ z_146.toInt := by intro h0_; omega
            refine s_iast E rfl (jv_lt hj_147 (by decide)) (z_in (u := z_143.toInt) rfl (by omega) (by omega)) dX10_readNext_136 ?_
            have hj_149 : Jv w (upI u_144 101 z_143.toNatClampNeg z_146) := (jv_lad hj_147 (by omega) (by omega) (by omega) (by have hb_ := z32 z_146; omega) (by have hb_ := z32 z_146; omega))
            have hke_ : ((upI u_144 101 z_143.toNatClampNeg z_146).2.2.1 95 7).toInt = (u_144.2.2.1 95 7).toInt := rfl
            have hke_ : ((upI u_144 101 z_143.toNatClampNeg z_146).2.2.1 95 8).toInt = (u_144.2.2.1 95 8).toInt := rfl
            have hke_ : ((upI u_144 101 z_143.toNatClampNeg z_146).2.2.1 95 9).toInt = (u_144.2.2.1 95 9).toInt := rfl
            have hke_ : ((upI u_144 101 z_143.toNatClampNeg z_146).2.2.1 95 10).toInt = (u_144.2.2.1 95 10).toInt := rfl
            have hke_ : ((upI u_144 101 z_143.toNatClampNeg z_146).2.2.1 95 12).toInt = (u_144.2.2.1 95 12).toInt := rfl
            have hke_ : ((upI u_144 101 z_143.toNatClampNeg z_146).2.2.1 101 0).toInt = (u_144.2.2.1 101 0).toInt := keep_ne (u := z_143.toInt) rfl (by omega) (by omega)
            have hke_ : ((upI u_144 101 z_143.toNatClampNeg z_146).2.2.1 101 4).toInt = (u_144.2.2.1 101 4).toInt := keep_ne (u := z_143.toInt) rfl (by omega) (by omega)
            have hke_ : ((upI u_144 101 z_143.toNatClampNeg z_146).2.2.1 101 5).toInt = (u_144.2.2.1 101 5).toInt := keep_ne (u := z_143.toInt) rfl (by omega) (by omega)
            have hke_ : ((upI u_144 101 z_143.toNatClampNeg z_146).2.2.1 101 6).toInt = (u_144.2.2.1 101 6).toInt := keep_ne (u := z_143.toInt) rfl (by omega) (by omega)
            have hke_ : ((upI u_144 101 z_143.toNatClampNeg z_146).2.2.1 101 7).toInt = (u_144.2.2.1 101 7).toInt := keep_ne (u := z_143.toInt) rfl (by omega) (by omega)
            have hke_ : ((upI u_144 101 z_143.toNatClampNeg z_146).2.2.1 101 9).toInt = (u_144.2.2.1 101 9).toInt := keep_ne (u := z_143.toInt) rfl (by omega) (by omega)
            refine s_aload_n E dX10_readNext_137 rfl rfl ?_
            refine s_gR (r := 101) E fg_X10_31 rfl rfl (jv_lt hj_149 (by decide)) (jv_r hj_149 (by decide +kernel)) dX10_readNext_138 ?_
            refine s_iconst (v := 5) E dX10_readNext_141 (by decide) ?_
            refine s_dup2 E dX10_readNext_142 ?_
            refine s_iald E rfl (jv_lt hj_149 (by decide)) (z_in (u := 5) (by decide) (by omega) (by omega)) dX10_readNext_143 ?_
            refine z_nm (P := fun z => z.toInt = ((upI u_144 101 z_143.toNatClampNeg z_146).2.2.1 101 5).toInt ∧ 0 ≤ z.toInt ∧ z.toInt ≤ 6) ⟨rfl, (rw_101_5 hj_149)⟩ (fun z_150 hz_150 => ?_)
            refine s_iconst (v := 1) E dX10_readNext_144 (by decide) ?_
            refine z_iadd (u := z_150.toInt) (v := 1) E dX10_readNext_145 rfl (by decide) (by omega) (by omega) (fun z_151 hz_151 => ?_)
            have hhz_151 : 0 ≤ z_151.toInt ∧ z_151.toInt ≤ 6 := by omega
            refine s_iast E rfl (jv_lt hj_149 (by decide)) (z_in (u := 5) (by decide) (by omega) (by omega)) dX10_readNext_146 ?_
            have hj_153 : Jv w (upI (upI u_144 101 z_143.toNatClampNeg z_146) 101 5 z_151) := (jv_lad5 hj_149 (by omega) (by omega) (by omega) (lad_fin (by omega) (by omega) hLw_))
            have hke_ : ((upI (upI u_144 101 z_143.toNatClampNeg z_146) 101 5 z_151).2.2.1 95 7).toInt = ((upI u_144 101 z_143.toNatClampNeg z_146).2.2.1 95 7).toInt := rfl
            have hke_ : ((upI (upI u_144 101 z_143.toNatClampNeg z_146) 101 5 z_151).2.2.1 95 8).toInt = ((upI u_144 101 z_143.toNatClampNeg z_146).2.2.1 95 8).toInt := rfl
            have hke_ : ((upI (upI u_144 101 z_143.toNatClampNeg z_146) 101 5 z_151).2.2.1 95 9).toInt = ((upI u_144 101 z_143.toNatClampNeg z_146).2.2.1 95 9).toInt := rfl
            have hke_ : ((upI (upI u_144 101 z_143.toNatClampNeg z_146) 101 5 z_151).2.2.1 95 10).toInt = ((upI u_144 101 z_143.toNatClampNeg z_146).2.2.1 95 10).toInt := rfl
            have hke_ : ((upI (upI u_144 101 z_143.toNatClampNeg z_146) 101 5 z_151).2.2.1 95 12).toInt = ((upI u_144 101 z_143.toNatClampNeg z_146).2.2.1 95 12).toInt := rfl
            have hke_ : ((upI (upI u_144 101 z_143.toNatClampNeg z_146) 101 5 z_151).2.2.1 101 0).toInt = ((upI u_144 101 z_143.toNatClampNeg z_146).2.2.1 101 0).toInt := rfl
            have hke_ : ((upI (upI u_144 101 z_143.toNatClampNeg z_146) 101 5 z_151).2.2.1 101 4).toInt = ((upI u_144 101 z_143.toNatClampNeg z_146).2.2.1 101 4).toInt := rfl
            have hke_ : ((upI (upI u_144 101 z_143.toNatClampNeg z_146) 101 5 z_151).2.2.1 101 5).toInt = z_151.toInt := rfl
            have hke_ : ((upI (upI u_144 101 z_143.toNatClampNeg z_146) 101 5 z_151).2.2.1 101 6).toInt = ((upI u_144 101 z_143.toNatClampNeg z_146).2.2.1 101 6).toInt := rfl
            have hke_ : ((upI (upI u_144 101 z_143.toNatClampNeg z_146) 101 5 z_151).2.2.1 101 7).toInt = ((upI u_144 101 z_143.toNatClampNeg z_146).2.2.1 101 7).toInt := rfl
            have hke_ : ((upI (upI u_144 101 z_143.toNatClampNeg z_146) 101 5 z_151).2.2.1 101 9).toInt = ((upI u_144 101 z_143.toNatClampNeg z_146).2.2.1 101 9).toInt := rfl
            refine s_goto (tgt := 232) E dX10_readNext_147 (by decide) ?_
            exact r_void E dX10_readNext_232 ⟨(by omega), hj_153⟩
        ·
          have hd_ : ¬ (u_83.2.2.1 101 4).toInt = 12 := by first | exact (hq_.resolve_left (by omega)).1 (hT_.mp (by omega)) | (exfalso; omega)
          refine s_aload_n E dX10_readNext_80 rfl rfl ?_
          refine s_vV (As := []) (S := []) E (Z_X10_readDoor_95 l D aC b u_91  hj_94.1  (by omega) (by omega)) cv_X10_198 rfl rfl rfl (jv_lt hj_94 (by decide)) (Nat.le_of_ble_eq_true rfl) (Nat.le_of_ble_eq_true rfl) ⟨(Nat.le_of_ble_eq_true rfl), (Nat.le_of_ble_eq_true rfl)⟩ (Nat.le_of_ble_eq_true rfl) dX10_readNext_81 (fun u_154 hp_155 => ?_)
          obtain ⟨hx_hp_155, hp_155⟩ := hp_155
          have hj_156 := jv_trans hj_94 hp_155
          refine s_goto (tgt := 232) E dX10_readNext_84 (by decide) ?_
          exact r_void E dX10_readNext_232 ⟨(by omega), hj_156⟩
      ·
        exact r_void E dX10_readNext_70 ⟨(by omega), hj_85⟩
  ·
    refine s_aload_n E dX10_readNext_9 rfl rfl ?_
    refine s_ldcS (i := 21) E (by decide) rfl dX10_readNext_10 ?_
    refine s_vI (As := [AX (sA aC 21)]) (S := []) E (Z_X10_is_95 l D aC b w  hJ.1  21 (by decide)) cv_X10_143 rfl rfl rfl (jv_lt hJ (by decide)) (Nat.le_of_ble_eq_true rfl) (Nat.le_of_ble_eq_true rfl) ⟨(Nat.le_of_ble_eq_true rfl), (Nat.le_of_ble_eq_true rfl)⟩ (Nat.le_of_ble_eq_true rfl) dX10_readNext_12 (fun z_159 u_157 hp_158 => ?_)
    obtain ⟨hz_159, hxz_159, hp_158⟩ := hp_158
    subst hp_158
    have hw_12 := hxz_159
    refine z_if_ne (tgt := 36) (u := z_159.toInt) E dX10_readNext_15 (by decide) rfl (fun h_161 => ?_) (fun h_161 => ?_)
    ·
      refine s_iconst (v := 1) E dX10_readNext_36 (by decide) ?_
      refine s_goto (tgt := 41) E dX10_readNext_37 (by decide) ?_
      refine s_istore_n (L2 := [some (AR 95), some (AI 1), none]) E dX10_readNext_41 rfl (by decide) rfl ?_
      refine s_iload_n E dX10_readNext_42 rfl rfl ?_
      refine z_if_ne (tgt := 51) (u := 1) E dX10_readNext_43 (by decide) (by decide) (fun h_162 => ?_) (fun h_162 => absurd h_162 (by omega))
      refine s_aload_n E dX10_readNext_51 rfl rfl ?_
      refine s_vI (As := []) (S := []) E (Z_X10_isFull_95 l D aC b w  hJ.1 ) cv_X10_195 rfl rfl rfl (jv_lt hJ (by decide)) (Nat.le_of_ble_eq_true rfl) (Nat.le_of_ble_eq_true rfl) ⟨(Nat.le_of_ble_eq_true rfl), (Nat.le_of_ble_eq_true rfl)⟩ (Nat.le_of_ble_eq_true rfl) dX10_readNext_52 (fun z_165 u_163 hp_164 => ?_)
      obtain ⟨hz_165, hxz_165, hp_164⟩ := hp_164
      subst hp_164
      have hq_ := hxz_165
      refine z_if_eq (tgt := 63) (u := z_165.toInt) E dX10_readNext_55 (by decide) rfl (fun h_167 => ?_) (fun h_167 => ?_)
      ·
        refine s_aload_n E dX10_readNext_63 rfl rfl ?_
        refine s_vI (As := []) (S := []) E (Z_X10_good_95 l D aC b w  hJ.1 ) cv_X10_130 rfl rfl rfl (jv_lt hJ (by decide)) (Nat.le_of_ble_eq_true rfl) (Nat.le_of_ble_eq_true rfl) ⟨(Nat.le_of_ble_eq_true rfl), (Nat.le_of_ble_eq_true rfl)⟩ (Nat.le_of_ble_eq_true rfl) dX10_readNext_64 (fun z_170 u_168 hp_169 => ?_)
        obtain ⟨hz_170, hxz_170, hp_169⟩ := hp_169
        subst hp_169
        refine z_if_ne (tgt := 71) (u := z_170.toInt) E dX10_readNext_67 (by decide) rfl (fun h_172 => ?_) (fun h_172 => ?_)
        ·
          have hn4_ := rw_101_4 hJ
          have hn5_ := rw_101_5 hJ
          have hn6_ := rw_101_6 hJ
          have hn7_ := rw_101_7 hJ
          refine s_aload_n E dX10_readNext_71 rfl rfl ?_
          refine s_ldcS (i := 20) E (by decide) rfl dX10_readNext_72 ?_
          refine s_vI (As := [AX (sA aC 20)]) (S := []) E (Z_X10_takes_95 l D aC b w  hJ.1  20 (by decide) (by omega)) cv_X10_150 rfl rfl rfl (jv_lt hJ (by decide)) (Nat.le_of_ble_eq_true rfl) (Nat.le_of_ble_eq_true rfl) ⟨(Nat.le_of_ble_eq_true rfl), (Nat.le_of_ble_eq_true rfl)⟩ (Nat.le_of_ble_eq_true rfl) dX10_readNext_74 (fun z_175 u_173 hp_174 => ?_)
          obtain ⟨hz_175, hxz_175, hf_u_173_101, hp_174⟩ := hp_174
          have hj_176 := jv_trans hJ hp_174
          have hfa_101_0 := congrArg Int32.toInt (congrFun hf_u_173_101 0)
          have hfa_101_4 := congrArg Int32.toInt (congrFun hf_u_173_101 4)
          have hfa_101_5 := congrArg Int32.toInt (congrFun hf_u_173_101 5)
          have hfa_101_6 := congrArg Int32.toInt (congrFun hf_u_173_101 6)
          have hfa_101_7 := congrArg Int32.toInt (congrFun hf_u_173_101 7)
          have hfa_101_9 := congrArg Int32.toInt (congrFun hf_u_173_101 9)
          have hT_ := hxz_175.1
          have hE_ := hxz_175.2.1
          refine z_if_eq (tgt := 87) (u := z_175.toInt) E dX10_readNext_77 (by decide) rfl (fun h_177 => ?_) (fun h_177 => ?_)
          ·
            have hE1_ : w = u_173 := hE_.resolve_left (by omega)
            refine s_aload_n E dX10_readNext_87 rfl rfl ?_
            refine s_ldcS (i := 21) E (by decide) rfl dX10_readNext_88 ?_
            refine s_vI (As := [AX (sA aC 21)]) (S := []) E (Z_X10_takes_95 l D aC b u_173  hj_176.1  21 (by decide) (by omega)) cv_X10_150 rfl rfl rfl (jv_lt hj_176 (by decide)) (Nat.le_of_ble_eq_true rfl) (Nat.le_of_ble_eq_true rfl) ⟨(Nat.le_of_ble_eq_true rfl), (Nat.le_of_ble_eq_true rfl)⟩ (Nat.le_of_ble_eq_true rfl) dX10_readNext_90 (fun z_180 u_178 hp_179 => ?_)
            obtain ⟨hz_180, hxz_180, hf_u_178_101, hp_179⟩ := hp_179
            have hj_181 := jv_trans hj_176 hp_179
            have hfa_101_0 := congrArg Int32.toInt (congrFun hf_u_178_101 0)
            have hfa_101_4 := congrArg Int32.toInt (congrFun hf_u_178_101 4)
            have hfa_101_5 := congrArg Int32.toInt (congrFun hf_u_178_101 5)
            have hfa_101_6 := congrArg Int32.toInt (congrFun hf_u_178_101 6)
            have hfa_101_7 := congrArg Int32.toInt (congrFun hf_u_178_101 7)
            have hfa_101_9 := congrArg Int32.toInt (congrFun hf_u_178_101 9)
            have hT2_ := hxz_180.1
            rw [← hE1_] at hT2_
            have hF_ := hxz_180.2.1
            refine z_if_eq (tgt := 150) (u := z_180.toInt) E dX10_readNext_93 (by decide) rfl (fun h_182 => ?_) (fun h_182 => ?_)
            ·
              have hE2_ : w = u_178 := hE1_.trans (hF_.resolve_left (by omega))
              refine s_aload_n E dX10_readNext_150 rfl rfl ?_
              refine s_ldcS (i := 22) E (by decide) rfl dX10_readNext_151 ?_
              refine s_vI (As := [AX (sA aC 22)]) (S := []) E (Z_X10_takes_95 l D aC b u_178  hj_181.1  22 (by decide) (by omega)) cv_X10_150 rfl rfl rfl (jv_lt hj_181 (by decide)) (Nat.le_of_ble_eq_true rfl) (Nat.le_of_ble_eq_true rfl) ⟨(Nat.le_of_ble_eq_true rfl), (Nat.le_of_ble_eq_true rfl)⟩ (Nat.le_of_ble_eq_true rfl) dX10_readNext_153 (fun z_185 u_183 hp_184 => ?_)
              obtain ⟨hz_185, hxz_185, hf_u_183_101, hp_184⟩ := hp_184
              have hj_186 := jv_trans hj_181 hp_184
              have hfa_101_0 := congrArg Int32.toInt (congrFun hf_u_183_101 0)
              have hfa_101_4 := congrArg Int32.toInt (congrFun hf_u_183_101 4)
              have hfa_101_5 := congrArg Int32.toInt (congrFun hf_u_183_101 5)
              have hfa_101_6 := congrArg Int32.toInt (congrFun hf_u_183_101 6)
              have hfa_101_7 := congrArg Int32.toInt (congrFun hf_u_183_101 7)
              have hfa_101_9 := congrArg Int32.toInt (congrFun hf_u_183_101 9)
              have hT3_ := hxz_185.1
              rw [← hE2_] at hT3_
              have hG_ := hxz_185.2.1
              refine z_if_eq (tgt := 224) (u := z_185.toInt) E dX10_readNext_156 (by decide) rfl (fun h_187 => ?_) (fun h_187 => ?_)
              ·
                have hd_ : ¬ (w.2.2.1 101 7).toInt = 10 := by first | exact (hq_.resolve_left (by omega)).2.2.2 (hw_30.mp (by omega)) | (exfalso; exact absurd (hT_.mpr (hw_3.mp (by omega))) (by omega)) | (exfalso; exact absurd (hT2_.mpr (hw_12.mp (by omega))) (by omega)) | (exfalso; exact absurd (hT3_.mpr (hw_21.mp (by omega))) (by omega)) | (exfalso; omega)
                refine s_aload_n E dX10_readNext_224 rfl rfl ?_
                refine s_vV (As := []) (S := []) E (Z_X10_advance_95 l D aC b u_183  hj_186.1 ) cv_X10_147 rfl rfl rfl (jv_lt hj_186 (by decide)) (Nat.le_of_ble_eq_true rfl) (Nat.le_of_ble_eq_true rfl) ⟨(Nat.le_of_ble_eq_true rfl), (Nat.le_of_ble_eq_true rfl)⟩ (Nat.le_of_ble_eq_true rfl) dX10_readNext_225 (fun u_188 hp_189 => ?_)
                obtain ⟨hx_hp_189, hf_u_188_99, hf_u_188_101, hp_189⟩ := hp_189
                have hj_190 := jv_trans hj_186 hp_189
                have hfa_101_0 := congrArg Int32.toInt (congrFun hf_u_188_101 0)
                have hfa_101_4 := congrArg Int32.toInt (congrFun hf_u_188_101 4)
                have hfa_101_5 := congrArg Int32.toInt (congrFun hf_u_188_101 5)
                have hfa_101_6 := congrArg Int32.toInt (congrFun hf_u_188_101 6)
                have hfa_101_7 := congrArg Int32.toInt (congrFun hf_u_188_101 7)
                have hfa_101_9 := congrArg Int32.toInt (congrFun hf_u_188_101 9)
                refine s_aload_n E dX10_readNext_228 rfl rfl ?_
                refine s_vV (As := []) (S := []) E (Z_X10_readBid_95 l D aC b u_188  hj_190.1  (by omega) (by omega)) cv_X10_206 rfl rfl rfl (jv_lt hj_190 (by decide)) (Nat.le_of_ble_eq_true rfl) (Nat.le_of_ble_eq_true rfl) ⟨(Nat.le_of_ble_eq_true rfl), (Nat.le_of_ble_eq_true rfl)⟩ (Nat.le_of_ble_eq_true rfl) dX10_readNext_229 (fun u_191 hp_192 => ?_)
                obtain ⟨hx_hp_192, hp_192⟩ := hp_192
                have hj_193 := jv_trans hj_190 hp_192
                exact r_void E dX10_readNext_232 ⟨(by omega), hj_193⟩
              ·
                have hd_ : ¬ (w.2.2.1 101 6).toInt = 8 := by first | exact (hq_.resolve_left (by omega)).2.2.1 (hT3_.mp (by omega)) | (exfalso; omega)
                refine s_bipush (v := 58) E dX10_readNext_159 (by decide) ?_
                refine s_iconst (v := 2) E dX10_readNext_161 (by decide) ?_
                refine s_aload_n E dX10_readNext_162 rfl rfl ?_
                refine s_gR (r := 101) E fg_X10_31 rfl rfl (jv_lt hj_186 (by decide)) (jv_r hj_186 (by decide +kernel)) dX10_readNext_163 ?_
                refine s_bipush (v := 6) E dX10_readNext_166 (by decide) ?_
                refine s_iald E rfl (jv_lt hj_186 (by decide)) (z_in (u := 6) (by decide) (by omega) (by omega)) dX10_readNext_168 ?_
                refine z_nm (P := fun z => z.toInt = (u_183.2.2.1 101 6).toInt ∧ 0 ≤ z.toInt ∧ z.toInt ≤ 8) ⟨rfl, (rw_101_6 hj_186)⟩ (fun z_194 hz_194 => ?_)
                refine z_imul (u := 2) (v := z_194.toInt) E dX10_readNext_169 (by decide) rfl (by omega) (by omega) (fun z_195 hz_195 => ?_)
                have hhz_195 : 0 ≤ z_195.toInt ∧ z_195.toInt ≤ 14 := by omega
                refine z_iadd (u := 58) (v := z_195.toInt) E dX10_readNext_170 (by decide) rfl (by omega) (by omega) (fun z_196 hz_196 => ?_)
                refine s_istore_n (L2 := [some (AR 95), some (AI 1), some (AI z_196)]) E dX10_readNext_171 rfl (by decide) rfl ?_
                refine s_aload_n E dX10_readNext_172 rfl rfl ?_
                refine s_gR (r := 101) E fg_X10_31 rfl rfl (jv_lt hj_186 (by decide)) (jv_r hj_186 (by decide +kernel)) dX10_readNext_173 ?_
                refine s_iload_n E dX10_readNext_176 rfl rfl ?_
                refine s_aload_n E dX10_readNext_177 rfl rfl ?_
                refine s_ldcS (i := 27) E (by decide) rfl dX10_readNext_178 ?_
                refine s_iconst (v := 0) E dX10_readNext_180 (by decide) ?_
                refine s_aload_n E dX10_readNext_181 rfl rfl ?_
                refine s_gR (r := 101) E fg_X10_31 rfl rfl (jv_lt hj_186 (by decide)) (jv_r hj_186 (by decide +kernel)) dX10_readNext_182 ?_
                refine s_iconst (v := 5) E dX10_readNext_185 (by decide) ?_
                refine s_iald E rfl (jv_lt hj_186 (by decide)) (z_in (u := 5) (by decide) (by omega) (by omega)) dX10_readNext_186 ?_
                refine z_nm (P := fun z => z.toInt = (u_183.2.2.1 101 5).toInt ∧ 0 ≤ z.toInt ∧ z.toInt ≤ 6) ⟨rfl, (rw_101_5 hj_186)⟩ (fun z_197 hz_197 => ?_)
                refine s_iconst (v := 1) E dX10_readNext_187 (by decide) ?_
                refine z_isub (u := z_197.toInt) (v := 1) E dX10_readNext_188 rfl (by decide) (by omega) (by omega) (fun z_198 hz_198 => ?_)
                refine s_vI (As := [AX (sA aC 27), AI 0, AI z_198]) (S := [AI z_196, AR 101]) E (Z_X10_told_95 l D aC b u_183 0 z_198 hj_186.1  27 (by decide) (by omega)) cv_X10_164 rfl rfl rfl (jv_lt hj_186 (by decide)) (Nat.le_of_ble_eq_true rfl) (Nat.le_of_ble_eq_true rfl) ⟨(Nat.le_of_ble_eq_true rfl), (Nat.le_of_ble_eq_true rfl)⟩ (Nat.le_of_ble_eq_true rfl) dX10_readNext_189 (fun z_201 u_199 hp_200 => ?_)
                obtain ⟨hz_201, hxz_201, hf_u_199_101, hp_200⟩ := hp_200
                have hc_ : (0 : Int32).toInt = 0 := by decide
                have hj_202 := jv_trans hj_186 hp_200
                have hfa_101_0 := congrArg Int32.toInt (congrFun hf_u_199_101 0)
                have hfa_101_4 := congrArg Int32.toInt (congrFun hf_u_199_101 4)
                have hfa_101_5 := congrArg Int32.toInt (congrFun hf_u_199_101 5)
                have hfa_101_6 := congrArg Int32.toInt (congrFun hf_u_199_101 6)
                have hfa_101_7 := congrArg Int32.toInt (congrFun hf_u_199_101 7)
                have hfa_101_9 := congrArg Int32.toInt (congrFun hf_u_199_101 9)
                have hrz_201 : 0 ≤ z_201.toInt ∧ z_201.toInt ≤ 5 := by omega
                refine s_iast E rfl (jv_lt hj_202 (by decide)) (z_in (u := z_196.toInt) rfl (by omega) (by omega)) dX10_readNext_192 ?_
                have hj_204 : Jv w (upI u_199 101 z_196.toNatClampNeg z_201) := (jv_a_101 (i := z_196) (x := z_201) hj_202 0 5 58 72 2 z_196.toInt (by decide +kernel) (by decide) rfl (by omega) (by omega) (by omega) (by have hb_ := z32 z_201; omega) (by have hb_ := z32 z_201; omega))
                have hke_ : ((upI u_199 101 z_196.toNatClampNeg z_201).2.2.1 95 7).toInt = (u_199.2.2.1 95 7).toInt := rfl
                have hke_ : ((upI u_199 101 z_196.toNatClampNeg z_201).2.2.1 95 8).toInt = (u_199.2.2.1 95 8).toInt := rfl
                have hke_ : ((upI u_199 101 z_196.toNatClampNeg z_201).2.2.1 95 9).toInt = (u_199.2.2.1 95 9).toInt := rfl
                have hke_ : ((upI u_199 101 z_196.toNatClampNeg z_201).2.2.1 95 10).toInt = (u_199.2.2.1 95 10).toInt := rfl
                have hke_ : ((upI u_199 101 z_196.toNatClampNeg z_201).2.2.1 95 12).toInt = (u_199.2.2.1 95 12).toInt := rfl
                have hke_ : ((upI u_199 101 z_196.toNatClampNeg z_201).2.2.1 101 0).toInt = (u_199.2.2.1 101 0).toInt := keep_ne (u := z_196.toInt) rfl (by omega) (by omega)
                have hke_ : ((upI u_199 101 z_196.toNatClampNeg z_201).2.2.1 101 4).toInt = (u_199.2.2.1 101 4).toInt := keep_ne (u := z_196.toInt) rfl (by omega) (by omega)
                have hke_ : ((upI u_199 101 z_196.toNatClampNeg z_201).2.2.1 101 5).toInt = (u_199.2.2.1 101 5).toInt := keep_ne (u := z_196.toInt) rfl (by omega) (by omega)
                have hke_ : ((upI u_199 101 z_196.toNatClampNeg z_201).2.2.1 101 6).toInt = (u_199.2.2.1 101 6).toInt := keep_ne (u := z_196.toInt) rfl (by omega) (by omega)
                have hke_ : ((upI u_199 101 z_196.toNatClampNeg z_201).2.2.1 101 7).toInt = (u_199.2.2.1 101 7).toInt := keep_ne (u := z_196.toInt) rfl (by omega) (by omega)
                have hke_ : ((upI u_199 101 z_196.toNatClampNeg z_201).2.2.1 101 9).toInt = (u_199.2.2.1 101 9).toInt := keep_ne (u := z_196.toInt) rfl (by omega) (by omega)
                refine s_aload_n E dX10_readNext_193 rfl rfl ?_
                refine s_gR (r := 101) E fg_X10_31 rfl rfl (jv_lt hj_204 (by decide)) (jv_r hj_204 (by decide +kernel)) dX10_readNext_194 ?_
                refine s_iload_n E dX10_readNext_197 rfl rfl ?_
                refine s_iconst (v := 1) E dX10_readNext_198 (by decide) ?_
                refine z_iadd (u := z_196.toInt) (v := 1) E dX10_readNext_199 rfl (by decide) (by omega) (by omega) (fun z_205 hz_205 => ?_)
                refine s_aload_n E dX10_readNext_200 rfl rfl ?_
                refine s_ldcS (i := 28) E (by decide) rfl dX10_readNext_201 ?_
                refine s_iconst (v := 1) E dX10_readNext_203 (by decide) ?_
                refine s_bipush (v := 20) E dX10_readNext_204 (by decide) ?_
                refine s_vI (As := [AX (sA aC 28), AI 1, AI 20]) (S := [AI z_205, AR 101]) E (Z_X10_told_95 l D aC b (upI u_199 101 z_196.toNatClampNeg z_201) 1 20 hj_204.1  28 (by decide) (by omega)) cv_X10_164 rfl rfl rfl (jv_lt hj_204 (by decide)) (Nat.le_of_ble_eq_true rfl) (Nat.le_of_ble_eq_true rfl) ⟨(Nat.le_of_ble_eq_true rfl), (Nat.le_of_ble_eq_true rfl)⟩ (Nat.le_of_ble_eq_true rfl) dX10_readNext_206 (fun z_208 u_206 hp_207 => ?_)
                obtain ⟨hz_208, hxz_208, hf_u_206_101, hp_207⟩ := hp_207
                have hc_ : (1 : Int32).toInt = 1 := by decide
                have hc_ : (20 : Int32).toInt = 20 := by decide
                have hj_209 := jv_trans hj_204 hp_207
                have hfa_101_0 := congrArg Int32.toInt (congrFun hf_u_206_101 0)
                have hfa_101_4 := congrArg Int32.toInt (congrFun hf_u_206_101 4)
                have hfa_101_5 := congrArg Int32.toInt (congrFun hf_u_206_101 5)
                have hfa_101_6 := congrArg Int32.toInt (congrFun hf_u_206_101 6)
                have hfa_101_7 := congrArg Int32.toInt (congrFun hf_u_206_101 7)
                have hfa_101_9 := congrArg Int32.toInt (congrFun hf_u_206_101 9)
                have hrz_208 : 0 ≤ z_208.toInt ∧ z_208.toInt ≤ 20 := by omega
                refine s_iast E rfl (jv_lt hj_209 (by decide)) (z_in (u := z_205.toInt) rfl (by omega) (by omega)) dX10_readNext_209 ?_
                have hj_211 : Jv w (upI u_206 101 z_205.toNatClampNeg z_208) := (jv_a_101 (i := z_205) (x := z_208) hj_209 0 20 59 73 2 z_205.toInt (by decide +kernel) (by decide) rfl (by omega) (by omega) (by omega) (by have hb_ := z32 z_208; omega) (by have hb_ := z32 z_208; omega))
                have hke_ : ((upI u_206 101 z_205.toNatClampNeg z_208).2.2.1 95 7).toInt = (u_206.2.2.1 95 7).toInt := rfl
                have hke_ : ((upI u_206 101 z_205.toNatClampNeg z_208).2.2.1 95 8).toInt = (u_206.2.2.1 95 8).toInt := rfl
                have hke_ : ((upI u_206 101 z_205.toNatClampNeg z_208).2.2.1 95 9).toInt = (u_206.2.2.1 95 9).toInt := rfl
                have hke_ : ((upI u_206 101 z_205.toNatClampNeg z_208).2.2.1 95 10).toInt = (u_206.2.2.1 95 10).toInt := rfl
                have hke_ : ((upI u_206 101 z_205.toNatClampNeg z_208).2.2.1 95 12).toInt = (u_206.2.2.1 95 12).toInt := rfl
                have hke_ : ((upI u_206 101 z_205.toNatClampNeg z_208).2.2.1 101 0).toInt = (u_206.2.2.1 101 0).toInt := keep_ne (u := z_205.toInt) rfl (by omega) (by omega)
                have hke_ : ((upI u_206 101 z_205.toNatClampNeg z_208).2.2.1 101 4).toInt = (u_206.2.2.1 101 4).toInt := keep_ne (u := z_205.toInt) rfl (by omega) (by omega)
                have hke_ : ((upI u_206 101 z_205.toNatClampNeg z_208).2.2.1 101 5).toInt = (u_206.2.2.1 101 5).toInt := keep_ne (u := z_205.toInt) rfl (by omega) (by omega)
                have hke_ : ((upI u_206 101 z_205.toNatClampNeg z_208).2.2.1 101 6).toInt = (u_206.2.2.1 101 6).toInt := keep_ne (u := z_205.toInt) rfl (by omega) (by omega)
                have hke_ : ((upI u_206 101 z_205.toNatClampNeg z_208).2.2.1 101 7).toInt = (u_206.2.2.1 101 7).toInt := keep_ne (u := z_205.toInt) rfl (by omega) (by omega)
                have hke_ : ((upI u_206 101 z_205.toNatClampNeg z_208).2.2.1 101 9).toInt = (u_206.2.2.1 101 9).toInt := keep_ne (u := z_205.toInt) rfl (by omega) (by omega)
                refine s_aload_n E dX10_readNext_210 rfl rfl ?_
                refine s_gR (r := 101) E fg_X10_31 rfl rfl (jv_lt hj_211 (by decide)) (jv_r hj_211 (by decide +kernel)) dX10_readNext_211 ?_
                refine s_bipush (v := 6) E dX10_readNext_214 (by decide) ?_
                refine s_dup2 E dX10_readNext_216 ?_
                refine s_iald E rfl (jv_lt hj_211 (by decide)) (z_in (u := 6) (by decide) (by omega) (by omega)) dX10_readNext_217 ?_
                refine z_nm (P := fun z => z.toInt = ((upI u_206 101 z_205.toNatClampNeg z_208).2.2.1 101 6).toInt ∧ 0 ≤ z.toInt ∧ z.toInt ≤ 8) ⟨rfl, (rw_101_6 hj_211)⟩ (fun z_212 hz_212 => ?_)
                refine s_iconst (v := 1) E dX10_readNext_218 (by decide) ?_
                refine z_iadd (u := z_212.toInt) (v := 1) E dX10_readNext_219 rfl (by decide) (by omega) (by omega) (fun z_213 hz_213 => ?_)
                have hhz_213 : 0 ≤ z_213.toInt ∧ z_213.toInt ≤ 8 := by omega
                refine s_iast E rfl (jv_lt hj_211 (by decide)) (z_in (u := 6) (by decide) (by omega) (by omega)) dX10_readNext_220 ?_
                have hj_215 : Jv w (upI (upI u_206 101 z_205.toNatClampNeg z_208) 101 6 z_213) := (jv_a_101 (i := 6) (x := z_213) hj_211 0 8 6 6 1 6 (by decide +kernel) (by decide) (by decide) (by omega) (by omega) (by omega) (by have hb_ := z32 z_213; omega) (by have hb_ := z32 z_213; omega))
                have hke_ : ((upI (upI u_206 101 z_205.toNatClampNeg z_208) 101 6 z_213).2.2.1 95 7).toInt = ((upI u_206 101 z_205.toNatClampNeg z_208).2.2.1 95 7).toInt := rfl
                have hke_ : ((upI (upI u_206 101 z_205.toNatClampNeg z_208) 101 6 z_213).2.2.1 95 8).toInt = ((upI u_206 101 z_205.toNatClampNeg z_208).2.2.1 95 8).toInt := rfl
                have hke_ : ((upI (upI u_206 101 z_205.toNatClampNeg z_208) 101 6 z_213).2.2.1 95 9).toInt = ((upI u_206 101 z_205.toNatClampNeg z_208).2.2.1 95 9).toInt := rfl
                have hke_ : ((upI (upI u_206 101 z_205.toNatClampNeg z_208) 101 6 z_213).2.2.1 95 10).toInt = ((upI u_206 101 z_205.toNatClampNeg z_208).2.2.1 95 10).toInt := rfl
                have hke_ : ((upI (upI u_206 101 z_205.toNatClampNeg z_208) 101 6 z_213).2.2.1 95 12).toInt = ((upI u_206 101 z_205.toNatClampNeg z_208).2.2.1 95 12).toInt := rfl
                have hke_ : ((upI (upI u_206 101 z_205.toNatClampNeg z_208) 101 6 z_213).2.2.1 101 0).toInt = ((upI u_206 101 z_205.toNatClampNeg z_208).2.2.1 101 0).toInt := rfl
                have hke_ : ((upI (upI u_206 101 z_205.toNatClampNeg z_208) 101 6 z_213).2.2.1 101 4).toInt = ((upI u_206 101 z_205.toNatClampNeg z_208).2.2.1 101 4).toInt := rfl
                have hke_ : ((upI (upI u_206 101 z_205.toNatClampNeg z_208) 101 6 z_213).2.2.1 101 5).toInt = ((upI u_206 101 z_205.toNatClampNeg z_208).2.2.1 101 5).toInt := rfl
                have hke_ : ((upI (upI u_206 101 z_205.toNatClampNeg z_208) 101 6 z_213).2.2.1 101 6).toInt = z_213.toInt := rfl
                have hke_ : ((upI (upI u_206 101 z_205.toNatClampNeg z_208) 101 6 z_213).2.2.1 101 7).toInt = ((upI u_206 101 z_205.toNatClampNeg z_208).2.2.1 101 7).toInt := rfl
                have hke_ : ((upI (upI u_206 101 z_205.toNatClampNeg z_208) 101 6 z_213).2.2.1 101 9).toInt = ((upI u_206 101 z_205.toNatClampNeg z_208).2.2.1 101 9).toInt := rfl
                refine s_goto (tgt := 232) E dX10_readNext_221 (by decide) ?_
                exact r_void E dX10_readNext_232 ⟨(by omega), hj_215⟩
            ·
              have hd_ : ¬ (w.2.2.1 101 5).toInt = 6 := by first | exact (hq_.resolve_left (by omega)).2.1 (hT2_.mp (by omega)) | (exfalso; omega)
              refine s_bipush (v := 46) E dX10_readNext_96 (by decide) ?_
              refine s_iconst (v := 2) E dX10_readNext_98 (by decide) ?_
              refine s_aload_n E dX10_readNext_99 rfl rfl ?_
              refine s_gR (r := 101) E fg_X10_31 rfl rfl (jv_lt hj_181 (by decide)) (jv_r hj_181 (by decide +kernel)) dX10_readNext_100 ?_
              refine s_iconst (v := 5) E dX10_readNext_103 (by decide) ?_
              refine s_iald E rfl (jv_lt hj_181 (by decide)) (z_in (u := 5) (by decide) (by omega) (by omega)) dX10_readNext_104 ?_
              refine z_nm (P := fun z => z.toInt = (u_178.2.2.1 101 5).toInt ∧ 0 ≤ z.toInt ∧ z.toInt ≤ 6) ⟨rfl, (rw_101_5 hj_181)⟩ (fun z_216 hz_216 => ?_)
              refine z_imul (u := 2) (v := z_216.toInt) E dX10_readNext_105 (by decide) rfl (by omega) (by omega) (fun z_217 hz_217 => ?_)
              have hhz_217 : 0 ≤ z_217.toInt ∧ z_217.toInt ≤ 10 := by omega
              refine z_iadd (u := 46) (v := z_217.toInt) E dX10_readNext_106 (by decide) rfl (by omega) (by omega) (fun z_218 hz_218 => ?_)
              refine s_istore_n (L2 := [some (AR 95), some (AI 1), some (AI z_218)]) E dX10_readNext_107 rfl (by decide) rfl ?_
              refine s_aload_n E dX10_readNext_108 rfl rfl ?_
              refine s_gR (r := 101) E fg_X10_31 rfl rfl (jv_lt hj_181 (by decide)) (jv_r hj_181 (by decide +kernel)) dX10_readNext_109 ?_
              refine s_iload_n E dX10_readNext_112 rfl rfl ?_
              refine s_aload_n E dX10_readNext_113 rfl rfl ?_
              refine s_ldcS (i := 26) E (by decide) rfl dX10_readNext_114 ?_
              refine s_vI (As := [AX (sA aC 26)]) (S := [AI z_218, AR 101]) E (Z_X10_freshRoom_95 l D aC b u_178  hj_181.1  26 (by decide) (by omega)) cv_X10_182 rfl rfl rfl (jv_lt hj_181 (by decide)) (Nat.le_of_ble_eq_true rfl) (Nat.le_of_ble_eq_true rfl) ⟨(Nat.le_of_ble_eq_true rfl), (Nat.le_of_ble_eq_true rfl)⟩ (Nat.le_of_ble_eq_true rfl) dX10_readNext_116 (fun z_221 u_219 hp_220 => ?_)
              obtain ⟨hz_221, hxz_221, hf_u_219_101, hp_220⟩ := hp_220
              have hj_222 := jv_trans hj_181 hp_220
              have hfa_101_0 := congrArg Int32.toInt (congrFun hf_u_219_101 0)
              have hfa_101_4 := congrArg Int32.toInt (congrFun hf_u_219_101 4)
              have hfa_101_5 := congrArg Int32.toInt (congrFun hf_u_219_101 5)
              have hfa_101_6 := congrArg Int32.toInt (congrFun hf_u_219_101 6)
              have hfa_101_7 := congrArg Int32.toInt (congrFun hf_u_219_101 7)
              have hfa_101_9 := congrArg Int32.toInt (congrFun hf_u_219_101 9)
              have hrz_221 : 0 ≤ z_221.toInt ∧ z_221.toInt ≤ 7 := by omega
              refine s_iast E rfl (jv_lt hj_222 (by decide)) (z_in (u := z_218.toInt) rfl (by omega) (by omega)) dX10_readNext_119 ?_
              have hj_224 : Jv w (upI u_219 101 z_218.toNatClampNeg z_221) := (jv_a_101 (i := z_218) (x := z_221) hj_222 0 7 46 56 2 z_218.toInt (by decide +kernel) (by decide) rfl (by omega) (by omega) (by omega) (by have hb_ := z32 z_221; omega) (by have hb_ := z32 z_221; omega))
              have hke_ : ((upI u_219 101 z_218.toNatClampNeg z_221).2.2.1 95 7).toInt = (u_219.2.2.1 95 7).toInt := rfl
              have hke_ : ((upI u_219 101 z_218.toNatClampNeg z_221).2.2.1 95 8).toInt = (u_219.2.2.1 95 8).toInt := rfl
              have hke_ : ((upI u_219 101 z_218.toNatClampNeg z_221).2.2.1 95 9).toInt = (u_219.2.2.1 95 9).toInt := rfl
              have hke_ : ((upI u_219 101 z_218.toNatClampNeg z_221).2.2.1 95 10).toInt = (u_219.2.2.1 95 10).toInt := rfl
              have hke_ : ((upI u_219 101 z_218.toNatClampNeg z_221).2.2.1 95 12).toInt = (u_219.2.2.1 95 12).toInt := rfl
              have hke_ : ((upI u_219 101 z_218.toNatClampNeg z_221).2.2.1 101 0).toInt = (u_219.2.2.1 101 0).toInt := keep_ne (u := z_218.toInt) rfl (by omega) (by omega)
              have hke_ : ((upI u_219 101 z_218.toNatClampNeg z_221).2.2.1 101 4).toInt = (u_219.2.2.1 101 4).toInt := keep_ne (u := z_218.toInt) rfl (by omega) (by omega)
              have hke_ : ((upI u_219 101 z_218.toNatClampNeg z_221).2.2.1 101 5).toInt = (u_219.2.2.1 101 5).toInt := keep_ne (u := z_218.toInt) rfl (by omega) (by omega)
              have hke_ : ((upI u_219 101 z_218.toNatClampNeg z_221).2.2.1 101 6).toInt = (u_219.2.2.1 101 6).toInt := keep_ne (u := z_218.toInt) rfl (by omega) (by omega)
              have hke_ : ((upI u_219 101 z_218.toNatClampNeg z_221).2.2.1 101 7).toInt = (u_219.2.2.1 101 7).toInt := keep_ne (u := z_218.toInt) rfl (by omega) (by omega)
              have hke_ : ((upI u_219 101 z_218.toNatClampNeg z_221).2.2.1 101 9).toInt = (u_219.2.2.1 101 9).toInt := keep_ne (u := z_218.toInt) rfl (by omega) (by omega)
              refine s_aload_n E dX10_readNext_120 rfl rfl ?_
              refine s_gR (r := 101) E fg_X10_31 rfl rfl (jv_lt hj_224 (by decide)) (jv_r hj_224 (by decide +kernel)) dX10_readNext_121 ?_
              refine s_iload_n E dX10_readNext_124 rfl rfl ?_
              refine s_iconst (v := 1) E dX10_readNext_125 (by decide) ?_
              refine z_iadd (u := z_218.toInt) (v := 1) E dX10_readNext_126 rfl (by decide) (by omega) (by omega) (fun z_225 hz_225 => ?_)
              refine s_aload_n E dX10_readNext_127 rfl rfl ?_
              refine s_ldcS (i := 25) E (by decide) rfl dX10_readNext_128 ?_
              refine s_iconst (v := 1) E dX10_readNext_130 (by decide) ?_
              refine s_bipush (v := 9) E dX10_readNext_131 (by decide) ?_
              refine s_vI (As := [AX (sA aC 25), AI 1, AI 9]) (S := [AI z_225, AR 101]) E (Z_X10_told_95 l D aC b (upI u_219 101 z_218.toNatClampNeg z_221) 1 9 hj_224.1  25 (by decide) (by omega)) cv_X10_164 rfl rfl rfl (jv_lt hj_224 (by decide)) (Nat.le_of_ble_eq_true rfl) (Nat.le_of_ble_eq_true rfl) ⟨(Nat.le_of_ble_eq_true rfl), (Nat.le_of_ble_eq_true rfl)⟩ (Nat.le_of_ble_eq_true rfl) dX10_readNext_133 (fun z_228 u_226 hp_227 => ?_)
              obtain ⟨hz_228, hxz_228, hf_u_226_101, hp_227⟩ := hp_227
              have hc_ : (1 : Int32).toInt = 1 := by decide
              have hc_ : (9 : Int32).toInt = 9 := by decide
              have hj_229 := jv_trans hj_224 hp_227
              have hfa_101_0 := congrArg Int32.toInt (congrFun hf_u_226_101 0)
              have hfa_101_4 := congrArg Int32.toInt (congrFun hf_u_226_101 4)
              have hfa_101_5 := congrArg Int32.toInt (congrFun hf_u_226_101 5)
              have hfa_101_6 := congrArg Int32.toInt (congrFun hf_u_226_101 6)
              have hfa_101_7 := congrArg Int32.toInt (congrFun hf_u_226_101 7)
              have hfa_101_9 := congrArg Int32.toInt (congrFun hf_u_226_101 9)
              have hrz_228 : 0 ≤ z_228.toInt ∧ z_228.toInt ≤ 9 := by omega
              have hLw_ : (u_226.2.2.1 95 12).toInt = 0 → 1 ≤ z_228.toInt := by intro h0_; omega
              refine s_iast E rfl (jv_lt hj_229 (by decide)) (z_in (u := z_225.toInt) rfl (by omega) (by omega)) dX10_readNext_136 ?_
              have hj_231 : Jv w (upI u_226 101 z_225.toNatClampNeg z_228) := (jv_lad hj_229 (by omega) (by omega) (by omega) (by have hb_ := z32 z_228; omega) (by have hb_ := z32 z_228; omega))
              have hke_ : ((upI u_226 101 z_225.toNatClampNeg z_228).2.2.1 95 7).toInt = (u_226.2.2.1 95 7).toInt := rfl
              have hke_ : ((upI u_226 101 z_225.toNatClampNeg z_228).2.2.1 95 8).toInt = (u_226.2.2.1 95 8).toInt := rfl
              have hke_ : ((upI u_226 101 z_225.toNatClampNeg z_228).2.2.1 95 9).toInt = (u_226.2.2.1 95 9).toInt := rfl
              have hke_ : ((upI u_226 101 z_225.toNatClampNeg z_228).2.2.1 95 10).toInt = (u_226.2.2.1 95 10).toInt := rfl
              have hke_ : ((upI u_226 101 z_225.toNatClampNeg z_228).2.2.1 95 12).toInt = (u_226.2.2.1 95 12).toInt := rfl
              have hke_ : ((upI u_226 101 z_225.toNatClampNeg z_228).2.2.1 101 0).toInt = (u_226.2.2.1 101 0).toInt := keep_ne (u := z_225.toInt) rfl (by omega) (by omega)
              have hke_ : ((upI u_226 101 z_225.toNatClampNeg z_228).2.2.1 101 4).toInt = (u_226.2.2.1 101 4).toInt := keep_ne (u := z_225.toInt) rfl (by omega) (by omega)
              have hke_ : ((upI u_226 101 z_225.toNatClampNeg z_228).2.2.1 101 5).toInt = (u_226.2.2.1 101 5).toInt := keep_ne (u := z_225.toInt) rfl (by omega) (by omega)
              have hke_ : ((upI u_226 101 z_225.toNatClampNeg z_228).2.2.1 101 6).toInt = (u_226.2.2.1 101 6).toInt := keep_ne (u := z_225.toInt) rfl (by omega) (by omega)
              have hke_ : ((upI u_226 101 z_225.toNatClampNeg z_228).2.2.1 101 7).toInt = (u_226.2.2.1 101 7).toInt := keep_ne (u := z_225.toInt) rfl (by omega) (by omega)
              have hke_ : ((upI u_226 101 z_225.toNatClampNeg z_228).2.2.1 101 9).toInt = (u_226.2.2.1 101 9).toInt := keep_ne (u := z_225.toInt) rfl (by omega) (by omega)
              refine s_aload_n E dX10_readNext_137 rfl rfl ?_
              refine s_gR (r := 101) E fg_X10_31 rfl rfl (jv_lt hj_231 (by decide)) (jv_r hj_231 (by decide +kernel)) dX10_readNext_138 ?_
              refine s_iconst (v := 5) E dX10_readNext_141 (by decide) ?_
              refine s_dup2 E dX10_readNext_142 ?_
              refine s_iald E rfl (jv_lt hj_231 (by decide)) (z_in (u := 5) (by decide) (by omega) (by omega)) dX10_readNext_143 ?_
              refine z_nm (P := fun z => z.toInt = ((upI u_226 101 z_225.toNatClampNeg z_228).2.2.1 101 5).toInt ∧ 0 ≤ z.toInt ∧ z.toInt ≤ 6) ⟨rfl, (rw_101_5 hj_231)⟩ (fun z_232 hz_232 => ?_)
              refine s_iconst (v := 1) E dX10_readNext_144 (by decide) ?_
              refine z_iadd (u := z_232.toInt) (v := 1) E dX10_readNext_145 rfl (by decide) (by omega) (by omega) (fun z_233 hz_233 => ?_)
              have hhz_233 : 0 ≤ z_233.toInt ∧ z_233.toInt ≤ 6 := by omega
              refine s_iast E rfl (jv_lt hj_231 (by decide)) (z_in (u := 5) (by decide) (by omega) (by omega)) dX10_readNext_146 ?_
              have hj_235 : Jv w (upI (upI u_226 101 z_225.toNatClampNeg z_228) 101 5 z_233) := (jv_lad5 hj_231 (by omega) (by omega) (by omega) (lad_fin (by omega) (by omega) hLw_))
              have hke_ : ((upI (upI u_226 101 z_225.toNatClampNeg z_228) 101 5 z_233).2.2.1 95 7).toInt = ((upI u_226 101 z_225.toNatClampNeg z_228).2.2.1 95 7).toInt := rfl
              have hke_ : ((upI (upI u_226 101 z_225.toNatClampNeg z_228) 101 5 z_233).2.2.1 95 8).toInt = ((upI u_226 101 z_225.toNatClampNeg z_228).2.2.1 95 8).toInt := rfl
              have hke_ : ((upI (upI u_226 101 z_225.toNatClampNeg z_228) 101 5 z_233).2.2.1 95 9).toInt = ((upI u_226 101 z_225.toNatClampNeg z_228).2.2.1 95 9).toInt := rfl
              have hke_ : ((upI (upI u_226 101 z_225.toNatClampNeg z_228) 101 5 z_233).2.2.1 95 10).toInt = ((upI u_226 101 z_225.toNatClampNeg z_228).2.2.1 95 10).toInt := rfl
              have hke_ : ((upI (upI u_226 101 z_225.toNatClampNeg z_228) 101 5 z_233).2.2.1 95 12).toInt = ((upI u_226 101 z_225.toNatClampNeg z_228).2.2.1 95 12).toInt := rfl
              have hke_ : ((upI (upI u_226 101 z_225.toNatClampNeg z_228) 101 5 z_233).2.2.1 101 0).toInt = ((upI u_226 101 z_225.toNatClampNeg z_228).2.2.1 101 0).toInt := rfl
              have hke_ : ((upI (upI u_226 101 z_225.toNatClampNeg z_228) 101 5 z_233).2.2.1 101 4).toInt = ((upI u_226 101 z_225.toNatClampNeg z_228).2.2.1 101 4).toInt := rfl
              have hke_ : ((upI (upI u_226 101 z_225.toNatClampNeg z_228) 101 5 z_233).2.2.1 101 5).toInt = z_233.toInt := rfl
              have hke_ : ((upI (upI u_226 101 z_225.toNatClampNeg z_228) 101 5 z_233).2.2.1 101 6).toInt = ((upI u_226 101 z_225.toNatClampNeg z_228).2.2.1 101 6).toInt := rfl
              have hke_ : ((upI (upI u_226 101 z_225.toNatClampNeg z_228) 101 5 z_233).2.2.1 101 7).toInt = ((upI u_226 101 z_225.toNatClampNeg z_228).2.2.1 101 7).toInt := rfl
              have hke_ : ((upI (upI u_226 101 z_225.toNatClampNeg z_228) 101 5 z_233).2.2.1 101 9).toInt = ((upI u_226 101 z_225.toNatClampNeg z_228).2.2.1 101 9).toInt := rfl
              refine s_goto (tgt := 232) E dX10_readNext_147 (by decide) ?_
              exact r_void E dX10_readNext_232 ⟨(by omega), hj_235⟩
          ·
            have hd_ : ¬ (w.2.2.1 101 4).toInt = 12 := by first | exact (hq_.resolve_left (by omega)).1 (hT_.mp (by omega)) | (exfalso; omega)
            refine s_aload_n E dX10_readNext_80 rfl rfl ?_
            refine s_vV (As := []) (S := []) E (Z_X10_readDoor_95 l D aC b u_173  hj_176.1  (by omega) (by omega)) cv_X10_198 rfl rfl rfl (jv_lt hj_176 (by decide)) (Nat.le_of_ble_eq_true rfl) (Nat.le_of_ble_eq_true rfl) ⟨(Nat.le_of_ble_eq_true rfl), (Nat.le_of_ble_eq_true rfl)⟩ (Nat.le_of_ble_eq_true rfl) dX10_readNext_81 (fun u_236 hp_237 => ?_)
            obtain ⟨hx_hp_237, hp_237⟩ := hp_237
            have hj_238 := jv_trans hj_176 hp_237
            refine s_goto (tgt := 232) E dX10_readNext_84 (by decide) ?_
            exact r_void E dX10_readNext_232 ⟨(by omega), hj_238⟩
        ·
          exact r_void E dX10_readNext_70 ⟨(by omega), hJ⟩
      ·
        refine s_aload_n E dX10_readNext_58 rfl rfl ?_
        refine s_iconst (v := 3) E dX10_readNext_59 (by decide) ?_
        refine s_vV (As := [AI 3]) (S := []) E (Z_X10_errs_95 l D aC b w 3 hJ.1 (by decide)) cv_X10_153 rfl rfl rfl (jv_lt hJ (by decide)) (Nat.le_of_ble_eq_true rfl) (Nat.le_of_ble_eq_true rfl) ⟨(Nat.le_of_ble_eq_true rfl), (Nat.le_of_ble_eq_true rfl)⟩ (Nat.le_of_ble_eq_true rfl) dX10_readNext_60 (fun u_239 hp_240 => ?_)
        have hc_ : (3 : Int32).toInt = 3 := by decide
        obtain ⟨hx_hp_240, hf_u_239_101, hp_240⟩ := hp_240
        have hj_241 := jv_trans hJ hp_240
        have hfa_101_0 := congrArg Int32.toInt (congrFun hf_u_239_101 0)
        have hfa_101_4 := congrArg Int32.toInt (congrFun hf_u_239_101 4)
        have hfa_101_5 := congrArg Int32.toInt (congrFun hf_u_239_101 5)
        have hfa_101_6 := congrArg Int32.toInt (congrFun hf_u_239_101 6)
        have hfa_101_7 := congrArg Int32.toInt (congrFun hf_u_239_101 7)
        have hfa_101_9 := congrArg Int32.toInt (congrFun hf_u_239_101 9)
        refine s_aload_n E dX10_readNext_63 rfl rfl ?_
        refine s_vI (As := []) (S := []) E (Z_X10_good_95 l D aC b u_239  hj_241.1 ) cv_X10_130 rfl rfl rfl (jv_lt hj_241 (by decide)) (Nat.le_of_ble_eq_true rfl) (Nat.le_of_ble_eq_true rfl) ⟨(Nat.le_of_ble_eq_true rfl), (Nat.le_of_ble_eq_true rfl)⟩ (Nat.le_of_ble_eq_true rfl) dX10_readNext_64 (fun z_244 u_242 hp_243 => ?_)
        obtain ⟨hz_244, hxz_244, hp_243⟩ := hp_243
        subst hp_243
        refine z_if_ne (tgt := 71) (u := z_244.toInt) E dX10_readNext_67 (by decide) rfl (fun h_246 => ?_) (fun h_246 => ?_)
        ·
          have hn4_ := rw_101_4 hj_241
          have hn5_ := rw_101_5 hj_241
          have hn6_ := rw_101_6 hj_241
          have hn7_ := rw_101_7 hj_241
          refine s_aload_n E dX10_readNext_71 rfl rfl ?_
          refine s_ldcS (i := 20) E (by decide) rfl dX10_readNext_72 ?_
          refine s_vI (As := [AX (sA aC 20)]) (S := []) E (Z_X10_takes_95 l D aC b u_239  hj_241.1  20 (by decide) (by omega)) cv_X10_150 rfl rfl rfl (jv_lt hj_241 (by decide)) (Nat.le_of_ble_eq_true rfl) (Nat.le_of_ble_eq_true rfl) ⟨(Nat.le_of_ble_eq_true rfl), (Nat.le_of_ble_eq_true rfl)⟩ (Nat.le_of_ble_eq_true rfl) dX10_readNext_74 (fun z_249 u_247 hp_248 => ?_)
          obtain ⟨hz_249, hxz_249, hf_u_247_101, hp_248⟩ := hp_248
          have hj_250 := jv_trans hj_241 hp_248
          have hfa_101_0 := congrArg Int32.toInt (congrFun hf_u_247_101 0)
          have hfa_101_4 := congrArg Int32.toInt (congrFun hf_u_247_101 4)
          have hfa_101_5 := congrArg Int32.toInt (congrFun hf_u_247_101 5)
          have hfa_101_6 := congrArg Int32.toInt (congrFun hf_u_247_101 6)
          have hfa_101_7 := congrArg Int32.toInt (congrFun hf_u_247_101 7)
          have hfa_101_9 := congrArg Int32.toInt (congrFun hf_u_247_101 9)
          have hT_ := hxz_249.1
          have hE_ := hxz_249.2.1
          refine z_if_eq (tgt := 87) (u := z_249.toInt) E dX10_readNext_77 (by decide) rfl (fun h_251 => ?_) (fun h_251 => ?_)
          ·
            have hE1_ : u_239 = u_247 := hE_.resolve_left (by omega)
            refine s_aload_n E dX10_readNext_87 rfl rfl ?_
            refine s_ldcS (i := 21) E (by decide) rfl dX10_readNext_88 ?_
            refine s_vI (As := [AX (sA aC 21)]) (S := []) E (Z_X10_takes_95 l D aC b u_247  hj_250.1  21 (by decide) (by omega)) cv_X10_150 rfl rfl rfl (jv_lt hj_250 (by decide)) (Nat.le_of_ble_eq_true rfl) (Nat.le_of_ble_eq_true rfl) ⟨(Nat.le_of_ble_eq_true rfl), (Nat.le_of_ble_eq_true rfl)⟩ (Nat.le_of_ble_eq_true rfl) dX10_readNext_90 (fun z_254 u_252 hp_253 => ?_)
            obtain ⟨hz_254, hxz_254, hf_u_252_101, hp_253⟩ := hp_253
            have hj_255 := jv_trans hj_250 hp_253
            have hfa_101_0 := congrArg Int32.toInt (congrFun hf_u_252_101 0)
            have hfa_101_4 := congrArg Int32.toInt (congrFun hf_u_252_101 4)
            have hfa_101_5 := congrArg Int32.toInt (congrFun hf_u_252_101 5)
            have hfa_101_6 := congrArg Int32.toInt (congrFun hf_u_252_101 6)
            have hfa_101_7 := congrArg Int32.toInt (congrFun hf_u_252_101 7)
            have hfa_101_9 := congrArg Int32.toInt (congrFun hf_u_252_101 9)
            have hT2_ := hxz_254.1
            rw [← hE1_] at hT2_
            have hF_ := hxz_254.2.1
            refine z_if_eq (tgt := 150) (u := z_254.toInt) E dX10_readNext_93 (by decide) rfl (fun h_256 => ?_) (fun h_256 => ?_)
            ·
              have hE2_ : u_239 = u_252 := hE1_.trans (hF_.resolve_left (by omega))
              refine s_aload_n E dX10_readNext_150 rfl rfl ?_
              refine s_ldcS (i := 22) E (by decide) rfl dX10_readNext_151 ?_
              refine s_vI (As := [AX (sA aC 22)]) (S := []) E (Z_X10_takes_95 l D aC b u_252  hj_255.1  22 (by decide) (by omega)) cv_X10_150 rfl rfl rfl (jv_lt hj_255 (by decide)) (Nat.le_of_ble_eq_true rfl) (Nat.le_of_ble_eq_true rfl) ⟨(Nat.le_of_ble_eq_true rfl), (Nat.le_of_ble_eq_true rfl)⟩ (Nat.le_of_ble_eq_true rfl) dX10_readNext_153 (fun z_259 u_257 hp_258 => ?_)
              obtain ⟨hz_259, hxz_259, hf_u_257_101, hp_258⟩ := hp_258
              have hj_260 := jv_trans hj_255 hp_258
              have hfa_101_0 := congrArg Int32.toInt (congrFun hf_u_257_101 0)
              have hfa_101_4 := congrArg Int32.toInt (congrFun hf_u_257_101 4)
              have hfa_101_5 := congrArg Int32.toInt (congrFun hf_u_257_101 5)
              have hfa_101_6 := congrArg Int32.toInt (congrFun hf_u_257_101 6)
              have hfa_101_7 := congrArg Int32.toInt (congrFun hf_u_257_101 7)
              have hfa_101_9 := congrArg Int32.toInt (congrFun hf_u_257_101 9)
              have hT3_ := hxz_259.1
              rw [← hE2_] at hT3_
              have hG_ := hxz_259.2.1
              refine z_if_eq (tgt := 224) (u := z_259.toInt) E dX10_readNext_156 (by decide) rfl (fun h_261 => ?_) (fun h_261 => ?_)
              ·
                have hd_ : ¬ (u_239.2.2.1 101 7).toInt = 10 := by first | exact (hq_.resolve_left (by omega)).2.2.2 (hw_30.mp (by omega)) | (exfalso; exact absurd (hT_.mpr (hw_3.mp (by omega))) (by omega)) | (exfalso; exact absurd (hT2_.mpr (hw_12.mp (by omega))) (by omega)) | (exfalso; exact absurd (hT3_.mpr (hw_21.mp (by omega))) (by omega)) | (exfalso; omega)
                refine s_aload_n E dX10_readNext_224 rfl rfl ?_
                refine s_vV (As := []) (S := []) E (Z_X10_advance_95 l D aC b u_257  hj_260.1 ) cv_X10_147 rfl rfl rfl (jv_lt hj_260 (by decide)) (Nat.le_of_ble_eq_true rfl) (Nat.le_of_ble_eq_true rfl) ⟨(Nat.le_of_ble_eq_true rfl), (Nat.le_of_ble_eq_true rfl)⟩ (Nat.le_of_ble_eq_true rfl) dX10_readNext_225 (fun u_262 hp_263 => ?_)
                obtain ⟨hx_hp_263, hf_u_262_99, hf_u_262_101, hp_263⟩ := hp_263
                have hj_264 := jv_trans hj_260 hp_263
                have hfa_101_0 := congrArg Int32.toInt (congrFun hf_u_262_101 0)
                have hfa_101_4 := congrArg Int32.toInt (congrFun hf_u_262_101 4)
                have hfa_101_5 := congrArg Int32.toInt (congrFun hf_u_262_101 5)
                have hfa_101_6 := congrArg Int32.toInt (congrFun hf_u_262_101 6)
                have hfa_101_7 := congrArg Int32.toInt (congrFun hf_u_262_101 7)
                have hfa_101_9 := congrArg Int32.toInt (congrFun hf_u_262_101 9)
                refine s_aload_n E dX10_readNext_228 rfl rfl ?_
                refine s_vV (As := []) (S := []) E (Z_X10_readBid_95 l D aC b u_262  hj_264.1  (by omega) (by omega)) cv_X10_206 rfl rfl rfl (jv_lt hj_264 (by decide)) (Nat.le_of_ble_eq_true rfl) (Nat.le_of_ble_eq_true rfl) ⟨(Nat.le_of_ble_eq_true rfl), (Nat.le_of_ble_eq_true rfl)⟩ (Nat.le_of_ble_eq_true rfl) dX10_readNext_229 (fun u_265 hp_266 => ?_)
                obtain ⟨hx_hp_266, hp_266⟩ := hp_266
                have hj_267 := jv_trans hj_264 hp_266
                exact r_void E dX10_readNext_232 ⟨(by omega), hj_267⟩
              ·
                have hd_ : ¬ (u_239.2.2.1 101 6).toInt = 8 := by first | exact (hq_.resolve_left (by omega)).2.2.1 (hT3_.mp (by omega)) | (exfalso; omega)
                refine s_bipush (v := 58) E dX10_readNext_159 (by decide) ?_
                refine s_iconst (v := 2) E dX10_readNext_161 (by decide) ?_
                refine s_aload_n E dX10_readNext_162 rfl rfl ?_
                refine s_gR (r := 101) E fg_X10_31 rfl rfl (jv_lt hj_260 (by decide)) (jv_r hj_260 (by decide +kernel)) dX10_readNext_163 ?_
                refine s_bipush (v := 6) E dX10_readNext_166 (by decide) ?_
                refine s_iald E rfl (jv_lt hj_260 (by decide)) (z_in (u := 6) (by decide) (by omega) (by omega)) dX10_readNext_168 ?_
                refine z_nm (P := fun z => z.toInt = (u_257.2.2.1 101 6).toInt ∧ 0 ≤ z.toInt ∧ z.toInt ≤ 8) ⟨rfl, (rw_101_6 hj_260)⟩ (fun z_268 hz_268 => ?_)
                refine z_imul (u := 2) (v := z_268.toInt) E dX10_readNext_169 (by decide) rfl (by omega) (by omega) (fun z_269 hz_269 => ?_)
                have hhz_269 : 0 ≤ z_269.toInt ∧ z_269.toInt ≤ 14 := by omega
                refine z_iadd (u := 58) (v := z_269.toInt) E dX10_readNext_170 (by decide) rfl (by omega) (by omega) (fun z_270 hz_270 => ?_)
                refine s_istore_n (L2 := [some (AR 95), some (AI 1), some (AI z_270)]) E dX10_readNext_171 rfl (by decide) rfl ?_
                refine s_aload_n E dX10_readNext_172 rfl rfl ?_
                refine s_gR (r := 101) E fg_X10_31 rfl rfl (jv_lt hj_260 (by decide)) (jv_r hj_260 (by decide +kernel)) dX10_readNext_173 ?_
                refine s_iload_n E dX10_readNext_176 rfl rfl ?_
                refine s_aload_n E dX10_readNext_177 rfl rfl ?_
                refine s_ldcS (i := 27) E (by decide) rfl dX10_readNext_178 ?_
                refine s_iconst (v := 0) E dX10_readNext_180 (by decide) ?_
                refine s_aload_n E dX10_readNext_181 rfl rfl ?_
                refine s_gR (r := 101) E fg_X10_31 rfl rfl (jv_lt hj_260 (by decide)) (jv_r hj_260 (by decide +kernel)) dX10_readNext_182 ?_
                refine s_iconst (v := 5) E dX10_readNext_185 (by decide) ?_
                refine s_iald E rfl (jv_lt hj_260 (by decide)) (z_in (u := 5) (by decide) (by omega) (by omega)) dX10_readNext_186 ?_
                refine z_nm (P := fun z => z.toInt = (u_257.2.2.1 101 5).toInt ∧ 0 ≤ z.toInt ∧ z.toInt ≤ 6) ⟨rfl, (rw_101_5 hj_260)⟩ (fun z_271 hz_271 => ?_)
                refine s_iconst (v := 1) E dX10_readNext_187 (by decide) ?_
                refine z_isub (u := z_271.toInt) (v := 1) E dX10_readNext_188 rfl (by decide) (by omega) (by omega) (fun z_272 hz_272 => ?_)
                refine s_vI (As := [AX (sA aC 27), AI 0, AI z_272]) (S := [AI z_270, AR 101]) E (Z_X10_told_95 l D aC b u_257 0 z_272 hj_260.1  27 (by decide) (by omega)) cv_X10_164 rfl rfl rfl (jv_lt hj_260 (by decide)) (Nat.le_of_ble_eq_true rfl) (Nat.le_of_ble_eq_true rfl) ⟨(Nat.le_of_ble_eq_true rfl), (Nat.le_of_ble_eq_true rfl)⟩ (Nat.le_of_ble_eq_true rfl) dX10_readNext_189 (fun z_275 u_273 hp_274 => ?_)
                obtain ⟨hz_275, hxz_275, hf_u_273_101, hp_274⟩ := hp_274
                have hc_ : (0 : Int32).toInt = 0 := by decide
                have hj_276 := jv_trans hj_260 hp_274
                have hfa_101_0 := congrArg Int32.toInt (congrFun hf_u_273_101 0)
                have hfa_101_4 := congrArg Int32.toInt (congrFun hf_u_273_101 4)
                have hfa_101_5 := congrArg Int32.toInt (congrFun hf_u_273_101 5)
                have hfa_101_6 := congrArg Int32.toInt (congrFun hf_u_273_101 6)
                have hfa_101_7 := congrArg Int32.toInt (congrFun hf_u_273_101 7)
                have hfa_101_9 := congrArg Int32.toInt (congrFun hf_u_273_101 9)
                have hrz_275 : 0 ≤ z_275.toInt ∧ z_275.toInt ≤ 5 := by omega
                refine s_iast E rfl (jv_lt hj_276 (by decide)) (z_in (u := z_270.toInt) rfl (by omega) (by omega)) dX10_readNext_192 ?_
                have hj_278 : Jv w (upI u_273 101 z_270.toNatClampNeg z_275) := (jv_a_101 (i := z_270) (x := z_275) hj_276 0 5 58 72 2 z_270.toInt (by decide +kernel) (by decide) rfl (by omega) (by omega) (by omega) (by have hb_ := z32 z_275; omega) (by have hb_ := z32 z_275; omega))
                have hke_ : ((upI u_273 101 z_270.toNatClampNeg z_275).2.2.1 95 7).toInt = (u_273.2.2.1 95 7).toInt := rfl
                have hke_ : ((upI u_273 101 z_270.toNatClampNeg z_275).2.2.1 95 8).toInt = (u_273.2.2.1 95 8).toInt := rfl
                have hke_ : ((upI u_273 101 z_270.toNatClampNeg z_275).2.2.1 95 9).toInt = (u_273.2.2.1 95 9).toInt := rfl
                have hke_ : ((upI u_273 101 z_270.toNatClampNeg z_275).2.2.1 95 10).toInt = (u_273.2.2.1 95 10).toInt := rfl
                have hke_ : ((upI u_273 101 z_270.toNatClampNeg z_275).2.2.1 95 12).toInt = (u_273.2.2.1 95 12).toInt := rfl
                have hke_ : ((upI u_273 101 z_270.toNatClampNeg z_275).2.2.1 101 0).toInt = (u_273.2.2.1 101 0).toInt := keep_ne (u := z_270.toInt) rfl (by omega) (by omega)
                have hke_ : ((upI u_273 101 z_270.toNatClampNeg z_275).2.2.1 101 4).toInt = (u_273.2.2.1 101 4).toInt := keep_ne (u := z_270.toInt) rfl (by omega) (by omega)
                have hke_ : ((upI u_273 101 z_270.toNatClampNeg z_275).2.2.1 101 5).toInt = (u_273.2.2.1 101 5).toInt := keep_ne (u := z_270.toInt) rfl (by omega) (by omega)
                have hke_ : ((upI u_273 101 z_270.toNatClampNeg z_275).2.2.1 101 6).toInt = (u_273.2.2.1 101 6).toInt := keep_ne (u := z_270.toInt) rfl (by omega) (by omega)
                have hke_ : ((upI u_273 101 z_270.toNatClampNeg z_275).2.2.1 101 7).toInt = (u_273.2.2.1 101 7).toInt := keep_ne (u := z_270.toInt) rfl (by omega) (by omega)
                have hke_ : ((upI u_273 101 z_270.toNatClampNeg z_275).2.2.1 101 9).toInt = (u_273.2.2.1 101 9).toInt := keep_ne (u := z_270.toInt) rfl (by omega) (by omega)
                refine s_aload_n E dX10_readNext_193 rfl rfl ?_
                refine s_gR (r := 101) E fg_X10_31 rfl rfl (jv_lt hj_278 (by decide)) (jv_r hj_278 (by decide +kernel)) dX10_readNext_194 ?_
                refine s_iload_n E dX10_readNext_197 rfl rfl ?_
                refine s_iconst (v := 1) E dX10_readNext_198 (by decide) ?_
                refine z_iadd (u := z_270.toInt) (v := 1) E dX10_readNext_199 rfl (by decide) (by omega) (by omega) (fun z_279 hz_279 => ?_)
                refine s_aload_n E dX10_readNext_200 rfl rfl ?_
                refine s_ldcS (i := 28) E (by decide) rfl dX10_readNext_201 ?_
                refine s_iconst (v := 1) E dX10_readNext_203 (by decide) ?_
                refine s_bipush (v := 20) E dX10_readNext_204 (by decide) ?_
                refine s_vI (As := [AX (sA aC 28), AI 1, AI 20]) (S := [AI z_279, AR 101]) E (Z_X10_told_95 l D aC b (upI u_273 101 z_270.toNatClampNeg z_275) 1 20 hj_278.1  28 (by decide) (by omega)) cv_X10_164 rfl rfl rfl (jv_lt hj_278 (by decide)) (Nat.le_of_ble_eq_true rfl) (Nat.le_of_ble_eq_true rfl) ⟨(Nat.le_of_ble_eq_true rfl), (Nat.le_of_ble_eq_true rfl)⟩ (Nat.le_of_ble_eq_true rfl) dX10_readNext_206 (fun z_282 u_280 hp_281 => ?_)
                obtain ⟨hz_282, hxz_282, hf_u_280_101, hp_281⟩ := hp_281
                have hc_ : (1 : Int32).toInt = 1 := by decide
                have hc_ : (20 : Int32).toInt = 20 := by decide
                have hj_283 := jv_trans hj_278 hp_281
                have hfa_101_0 := congrArg Int32.toInt (congrFun hf_u_280_101 0)
                have hfa_101_4 := congrArg Int32.toInt (congrFun hf_u_280_101 4)
                have hfa_101_5 := congrArg Int32.toInt (congrFun hf_u_280_101 5)
                have hfa_101_6 := congrArg Int32.toInt (congrFun hf_u_280_101 6)
                have hfa_101_7 := congrArg Int32.toInt (congrFun hf_u_280_101 7)
                have hfa_101_9 := congrArg Int32.toInt (congrFun hf_u_280_101 9)
                have hrz_282 : 0 ≤ z_282.toInt ∧ z_282.toInt ≤ 20 := by omega
                refine s_iast E rfl (jv_lt hj_283 (by decide)) (z_in (u := z_279.toInt) rfl (by omega) (by omega)) dX10_readNext_209 ?_
                have hj_285 : Jv w (upI u_280 101 z_279.toNatClampNeg z_282) := (jv_a_101 (i := z_279) (x := z_282) hj_283 0 20 59 73 2 z_279.toInt (by decide +kernel) (by decide) rfl (by omega) (by omega) (by omega) (by have hb_ := z32 z_282; omega) (by have hb_ := z32 z_282; omega))
                have hke_ : ((upI u_280 101 z_279.toNatClampNeg z_282).2.2.1 95 7).toInt = (u_280.2.2.1 95 7).toInt := rfl
                have hke_ : ((upI u_280 101 z_279.toNatClampNeg z_282).2.2.1 95 8).toInt = (u_280.2.2.1 95 8).toInt := rfl
                have hke_ : ((upI u_280 101 z_279.toNatClampNeg z_282).2.2.1 95 9).toInt = (u_280.2.2.1 95 9).toInt := rfl
                have hke_ : ((upI u_280 101 z_279.toNatClampNeg z_282).2.2.1 95 10).toInt = (u_280.2.2.1 95 10).toInt := rfl
                have hke_ : ((upI u_280 101 z_279.toNatClampNeg z_282).2.2.1 95 12).toInt = (u_280.2.2.1 95 12).toInt := rfl
                have hke_ : ((upI u_280 101 z_279.toNatClampNeg z_282).2.2.1 101 0).toInt = (u_280.2.2.1 101 0).toInt := keep_ne (u := z_279.toInt) rfl (by omega) (by omega)
                have hke_ : ((upI u_280 101 z_279.toNatClampNeg z_282).2.2.1 101 4).toInt = (u_280.2.2.1 101 4).toInt := keep_ne (u := z_279.toInt) rfl (by omega) (by omega)
                have hke_ : ((upI u_280 101 z_279.toNatClampNeg z_282).2.2.1 101 5).toInt = (u_280.2.2.1 101 5).toInt := keep_ne (u := z_279.toInt) rfl (by omega) (by omega)
                have hke_ : ((upI u_280 101 z_279.toNatClampNeg z_282).2.2.1 101 6).toInt = (u_280.2.2.1 101 6).toInt := keep_ne (u := z_279.toInt) rfl (by omega) (by omega)
                have hke_ : ((upI u_280 101 z_279.toNatClampNeg z_282).2.2.1 101 7).toInt = (u_280.2.2.1 101 7).toInt := keep_ne (u := z_279.toInt) rfl (by omega) (by omega)
                have hke_ : ((upI u_280 101 z_279.toNatClampNeg z_282).2.2.1 101 9).toInt = (u_280.2.2.1 101 9).toInt := keep_ne (u := z_279.toInt) rfl (by omega) (by omega)
                refine s_aload_n E dX10_readNext_210 rfl rfl ?_
                refine s_gR (r := 101) E fg_X10_31 rfl rfl (jv_lt hj_285 (by decide)) (jv_r hj_285 (by decide +kernel)) dX10_readNext_211 ?_
                refine s_bipush (v := 6) E dX10_readNext_214 (by decide) ?_
                refine s_dup2 E dX10_readNext_216 ?_
                refine s_iald E rfl (jv_lt hj_285 (by decide)) (z_in (u := 6) (by decide) (by omega) (by omega)) dX10_readNext_217 ?_
                refine z_nm (P := fun z => z.toInt = ((upI u_280 101 z_279.toNatClampNeg z_282).2.2.1 101 6).toInt ∧ 0 ≤ z.toInt ∧ z.toInt ≤ 8) ⟨rfl, (rw_101_6 hj_285)⟩ (fun z_286 hz_286 => ?_)
                refine s_iconst (v := 1) E dX10_readNext_218 (by decide) ?_
                refine z_iadd (u := z_286.toInt) (v := 1) E dX10_readNext_219 rfl (by decide) (by omega) (by omega) (fun z_287 hz_287 => ?_)
                have hhz_287 : 0 ≤ z_287.toInt ∧ z_287.toInt ≤ 8 := by omega
                refine s_iast E rfl (jv_lt hj_285 (by decide)) (z_in (u := 6) (by decide) (by omega) (by omega)) dX10_readNext_220 ?_
                have hj_289 : Jv w (upI (upI u_280 101 z_279.toNatClampNeg z_282) 101 6 z_287) := (jv_a_101 (i := 6) (x := z_287) hj_285 0 8 6 6 1 6 (by decide +kernel) (by decide) (by decide) (by omega) (by omega) (by omega) (by have hb_ := z32 z_287; omega) (by have hb_ := z32 z_287; omega))
                have hke_ : ((upI (upI u_280 101 z_279.toNatClampNeg z_282) 101 6 z_287).2.2.1 95 7).toInt = ((upI u_280 101 z_279.toNatClampNeg z_282).2.2.1 95 7).toInt := rfl
                have hke_ : ((upI (upI u_280 101 z_279.toNatClampNeg z_282) 101 6 z_287).2.2.1 95 8).toInt = ((upI u_280 101 z_279.toNatClampNeg z_282).2.2.1 95 8).toInt := rfl
                have hke_ : ((upI (upI u_280 101 z_279.toNatClampNeg z_282) 101 6 z_287).2.2.1 95 9).toInt = ((upI u_280 101 z_279.toNatClampNeg z_282).2.2.1 95 9).toInt := rfl
                have hke_ : ((upI (upI u_280 101 z_279.toNatClampNeg z_282) 101 6 z_287).2.2.1 95 10).toInt = ((upI u_280 101 z_279.toNatClampNeg z_282).2.2.1 95 10).toInt := rfl
                have hke_ : ((upI (upI u_280 101 z_279.toNatClampNeg z_282) 101 6 z_287).2.2.1 95 12).toInt = ((upI u_280 101 z_279.toNatClampNeg z_282).2.2.1 95 12).toInt := rfl
                have hke_ : ((upI (upI u_280 101 z_279.toNatClampNeg z_282) 101 6 z_287).2.2.1 101 0).toInt = ((upI u_280 101 z_279.toNatClampNeg z_282).2.2.1 101 0).toInt := rfl
                have hke_ : ((upI (upI u_280 101 z_279.toNatClampNeg z_282) 101 6 z_287).2.2.1 101 4).toInt = ((upI u_280 101 z_279.toNatClampNeg z_282).2.2.1 101 4).toInt := rfl
                have hke_ : ((upI (upI u_280 101 z_279.toNatClampNeg z_282) 101 6 z_287).2.2.1 101 5).toInt = ((upI u_280 101 z_279.toNatClampNeg z_282).2.2.1 101 5).toInt := rfl
                have hke_ : ((upI (upI u_280 101 z_279.toNatClampNeg z_282) 101 6 z_287).2.2.1 101 6).toInt = z_287.toInt := rfl
                have hke_ : ((upI (upI u_280 101 z_279.toNatClampNeg z_282) 101 6 z_287).2.2.1 101 7).toInt = ((upI u_280 101 z_279.toNatClampNeg z_282).2.2.1 101 7).toInt := rfl
                have hke_ : ((upI (upI u_280 101 z_279.toNatClampNeg z_282) 101 6 z_287).2.2.1 101 9).toInt = ((upI u_280 101 z_279.toNatClampNeg z_282).2.2.1 101 9).toInt := rfl
                refine s_goto (tgt := 232) E dX10_readNext_221 (by decide) ?_
                exact r_void E dX10_readNext_232 ⟨(by omega), hj_289⟩
            ·
              have hd_ : ¬ (u_239.2.2.1 101 5).toInt = 6 := by first | exact (hq_.resolve_left (by omega)).2.1 (hT2_.mp (by omega)) | (exfalso; omega)
              refine s_bipush (v := 46) E dX10_readNext_96 (by decide) ?_
              refine s_iconst (v := 2) E dX10_readNext_98 (by decide) ?_
              refine s_aload_n E dX10_readNext_99 rfl rfl ?_
              refine s_gR (r := 101) E fg_X10_31 rfl rfl (jv_lt hj_255 (by decide)) (jv_r hj_255 (by decide +kernel)) dX10_readNext_100 ?_
              refine s_iconst (v := 5) E dX10_readNext_103 (by decide) ?_
              refine s_iald E rfl (jv_lt hj_255 (by decide)) (z_in (u := 5) (by decide) (by omega) (by omega)) dX10_readNext_104 ?_
              refine z_nm (P := fun z => z.toInt = (u_252.2.2.1 101 5).toInt ∧ 0 ≤ z.toInt ∧ z.toInt ≤ 6) ⟨rfl, (rw_101_5 hj_255)⟩ (fun z_290 hz_290 => ?_)
              refine z_imul (u := 2) (v := z_290.toInt) E dX10_readNext_105 (by decide) rfl (by omega) (by omega) (fun z_291 hz_291 => ?_)
              have hhz_291 : 0 ≤ z_291.toInt ∧ z_291.toInt ≤ 10 := by omega
              refine z_iadd (u := 46) (v := z_291.toInt) E dX10_readNext_106 (by decide) rfl (by omega) (by omega) (fun z_292 hz_292 => ?_)
              refine s_istore_n (L2 := [some (AR 95), some (AI 1), some (AI z_292)]) E dX10_readNext_107 rfl (by decide) rfl ?_
              refine s_aload_n E dX10_readNext_108 rfl rfl ?_
              refine s_gR (r := 101) E fg_X10_31 rfl rfl (jv_lt hj_255 (by decide)) (jv_r hj_255 (by decide +kernel)) dX10_readNext_109 ?_
              refine s_iload_n E dX10_readNext_112 rfl rfl ?_
              refine s_aload_n E dX10_readNext_113 rfl rfl ?_
              refine s_ldcS (i := 26) E (by decide) rfl dX10_readNext_114 ?_
              refine s_vI (As := [AX (sA aC 26)]) (S := [AI z_292, AR 101]) E (Z_X10_freshRoom_95 l D aC b u_252  hj_255.1  26 (by decide) (by omega)) cv_X10_182 rfl rfl rfl (jv_lt hj_255 (by decide)) (Nat.le_of_ble_eq_true rfl) (Nat.le_of_ble_eq_true rfl) ⟨(Nat.le_of_ble_eq_true rfl), (Nat.le_of_ble_eq_true rfl)⟩ (Nat.le_of_ble_eq_true rfl) dX10_readNext_116 (fun z_295 u_293 hp_294 => ?_)
              obtain ⟨hz_295, hxz_295, hf_u_293_101, hp_294⟩ := hp_294
              have hj_296 := jv_trans hj_255 hp_294
              have hfa_101_0 := congrArg Int32.toInt (congrFun hf_u_293_101 0)
              have hfa_101_4 := congrArg Int32.toInt (congrFun hf_u_293_101 4)
              have hfa_101_5 := congrArg Int32.toInt (congrFun hf_u_293_101 5)
              have hfa_101_6 := congrArg Int32.toInt (congrFun hf_u_293_101 6)
              have hfa_101_7 := congrArg Int32.toInt (congrFun hf_u_293_101 7)
              have hfa_101_9 := congrArg Int32.toInt (congrFun hf_u_293_101 9)
              have hrz_295 : 0 ≤ z_295.toInt ∧ z_295.toInt ≤ 7 := by omega
              refine s_iast E rfl (jv_lt hj_296 (by decide)) (z_in (u := z_292.toInt) rfl (by omega) (by omega)) dX10_readNext_119 ?_
              have hj_298 : Jv w (upI u_293 101 z_292.toNatClampNeg z_295) := (jv_a_101 (i := z_292) (x := z_295) hj_296 0 7 46 56 2 z_292.toInt (by decide +kernel) (by decide) rfl (by omega) (by omega) (by omega) (by have hb_ := z32 z_295; omega) (by have hb_ := z32 z_295; omega))
              have hke_ : ((upI u_293 101 z_292.toNatClampNeg z_295).2.2.1 95 7).toInt = (u_293.2.2.1 95 7).toInt := rfl
              have hke_ : ((upI u_293 101 z_292.toNatClampNeg z_295).2.2.1 95 8).toInt = (u_293.2.2.1 95 8).toInt := rfl
              have hke_ : ((upI u_293 101 z_292.toNatClampNeg z_295).2.2.1 95 9).toInt = (u_293.2.2.1 95 9).toInt := rfl
              have hke_ : ((upI u_293 101 z_292.toNatClampNeg z_295).2.2.1 95 10).toInt = (u_293.2.2.1 95 10).toInt := rfl
              have hke_ : ((upI u_293 101 z_292.toNatClampNeg z_295).2.2.1 95 12).toInt = (u_293.2.2.1 95 12).toInt := rfl
              have hke_ : ((upI u_293 101 z_292.toNatClampNeg z_295).2.2.1 101 0).toInt = (u_293.2.2.1 101 0).toInt := keep_ne (u := z_292.toInt) rfl (by omega) (by omega)
              have hke_ : ((upI u_293 101 z_292.toNatClampNeg z_295).2.2.1 101 4).toInt = (u_293.2.2.1 101 4).toInt := keep_ne (u := z_292.toInt) rfl (by omega) (by omega)
              have hke_ : ((upI u_293 101 z_292.toNatClampNeg z_295).2.2.1 101 5).toInt = (u_293.2.2.1 101 5).toInt := keep_ne (u := z_292.toInt) rfl (by omega) (by omega)
              have hke_ : ((upI u_293 101 z_292.toNatClampNeg z_295).2.2.1 101 6).toInt = (u_293.2.2.1 101 6).toInt := keep_ne (u := z_292.toInt) rfl (by omega) (by omega)
              have hke_ : ((upI u_293 101 z_292.toNatClampNeg z_295).2.2.1 101 7).toInt = (u_293.2.2.1 101 7).toInt := keep_ne (u := z_292.toInt) rfl (by omega) (by omega)
              have hke_ : ((upI u_293 101 z_292.toNatClampNeg z_295).2.2.1 101 9).toInt = (u_293.2.2.1 101 9).toInt := keep_ne (u := z_292.toInt) rfl (by omega) (by omega)
              refine s_aload_n E dX10_readNext_120 rfl rfl ?_
              refine s_gR (r := 101) E fg_X10_31 rfl rfl (jv_lt hj_298 (by decide)) (jv_r hj_298 (by decide +kernel)) dX10_readNext_121 ?_
              refine s_iload_n E dX10_readNext_124 rfl rfl ?_
              refine s_iconst (v := 1) E dX10_readNext_125 (by decide) ?_
              refine z_iadd (u := z_292.toInt) (v := 1) E dX10_readNext_126 rfl (by decide) (by omega) (by omega) (fun z_299 hz_299 => ?_)
              refine s_aload_n E dX10_readNext_127 rfl rfl ?_
              refine s_ldcS (i := 25) E (by decide) rfl dX10_readNext_128 ?_
              refine s_iconst (v := 1) E dX10_readNext_130 (by decide) ?_
              refine s_bipush (v := 9) E dX10_readNext_131 (by decide) ?_
              refine s_vI (As := [AX (sA aC 25), AI 1, AI 9]) (S := [AI z_299, AR 101]) E (Z_X10_told_95 l D aC b (upI u_293 101 z_292.toNatClampNeg z_295) 1 9 hj_298.1  25 (by decide) (by omega)) cv_X10_164 rfl rfl rfl (jv_lt hj_298 (by decide)) (Nat.le_of_ble_eq_true rfl) (Nat.le_of_ble_eq_true rfl) ⟨(Nat.le_of_ble_eq_true rfl), (Nat.le_of_ble_eq_true rfl)⟩ (Nat.le_of_ble_eq_true rfl) dX10_readNext_133 (fun z_302 u_300 hp_301 => ?_)
              obtain ⟨hz_302, hxz_302, hf_u_300_101, hp_301⟩ := hp_301
              have hc_ : (1 : Int32).toInt = 1 := by decide
              have hc_ : (9 : Int32).toInt = 9 := by decide
              have hj_303 := jv_trans hj_298 hp_301
              have hfa_101_0 := congrArg Int32.toInt (congrFun hf_u_300_101 0)
              have hfa_101_4 := congrArg Int32.toInt (congrFun hf_u_300_101 4)
              have hfa_101_5 := congrArg Int32.toInt (congrFun hf_u_300_101 5)
              have hfa_101_6 := congrArg Int32.toInt (congrFun hf_u_300_101 6)
              have hfa_101_7 := congrArg Int32.toInt (congrFun hf_u_300_101 7)
              have hfa_101_9 := congrArg Int32.toInt (congrFun hf_u_300_101 9)
              have hrz_302 : 0 ≤ z_302.toInt ∧ z_302.toInt ≤ 9 := by omega
              have hLw_ : (u_300.2.2.1 95 12).toInt = 0 → 1 ≤ z_302.toInt := by intro h0_; omega
              refine s_iast E rfl (jv_lt hj_303 (by decide)) (z_in (u := z_299.toInt) rfl (by omega) (by omega)) dX10_readNext_136 ?_
              have hj_305 : Jv w (upI u_300 101 z_299.toNatClampNeg z_302) := (jv_lad hj_303 (by omega) (by omega) (by omega) (by have hb_ := z32 z_302; omega) (by have hb_ := z32 z_302; omega))
              have hke_ : ((upI u_300 101 z_299.toNatClampNeg z_302).2.2.1 95 7).toInt = (u_300.2.2.1 95 7).toInt := rfl
              have hke_ : ((upI u_300 101 z_299.toNatClampNeg z_302).2.2.1 95 8).toInt = (u_300.2.2.1 95 8).toInt := rfl
              have hke_ : ((upI u_300 101 z_299.toNatClampNeg z_302).2.2.1 95 9).toInt = (u_300.2.2.1 95 9).toInt := rfl
              have hke_ : ((upI u_300 101 z_299.toNatClampNeg z_302).2.2.1 95 10).toInt = (u_300.2.2.1 95 10).toInt := rfl
              have hke_ : ((upI u_300 101 z_299.toNatClampNeg z_302).2.2.1 95 12).toInt = (u_300.2.2.1 95 12).toInt := rfl
              have hke_ : ((upI u_300 101 z_299.toNatClampNeg z_302).2.2.1 101 0).toInt = (u_300.2.2.1 101 0).toInt := keep_ne (u := z_299.toInt) rfl (by omega) (by omega)
              have hke_ : ((upI u_300 101 z_299.toNatClampNeg z_302).2.2.1 101 4).toInt = (u_300.2.2.1 101 4).toInt := keep_ne (u := z_299.toInt) rfl (by omega) (by omega)
              have hke_ : ((upI u_300 101 z_299.toNatClampNeg z_302).2.2.1 101 5).toInt = (u_300.2.2.1 101 5).toInt := keep_ne (u := z_299.toInt) rfl (by omega) (by omega)
              have hke_ : ((upI u_300 101 z_299.toNatClampNeg z_302).2.2.1 101 6).toInt = (u_300.2.2.1 101 6).toInt := keep_ne (u := z_299.toInt) rfl (by omega) (by omega)
              have hke_ : ((upI u_300 101 z_299.toNatClampNeg z_302).2.2.1 101 7).toInt = (u_300.2.2.1 101 7).toInt := keep_ne (u := z_299.toInt) rfl (by omega) (by omega)
              have hke_ : ((upI u_300 101 z_299.toNatClampNeg z_302).2.2.1 101 9).toInt = (u_300.2.2.1 101 9).toInt := keep_ne (u := z_299.toInt) rfl (by omega) (by omega)
              refine s_aload_n E dX10_readNext_137 rfl rfl ?_
              refine s_gR (r := 101) E fg_X10_31 rfl rfl (jv_lt hj_305 (by decide)) (jv_r hj_305 (by decide +kernel)) dX10_readNext_138 ?_
              refine s_iconst (v := 5) E dX10_readNext_141 (by decide) ?_
              refine s_dup2 E dX10_readNext_142 ?_
              refine s_iald E rfl (jv_lt hj_305 (by decide)) (z_in (u := 5) (by decide) (by omega) (by omega)) dX10_readNext_143 ?_
              refine z_nm (P := fun z => z.toInt = ((upI u_300 101 z_299.toNatClampNeg z_302).2.2.1 101 5).toInt ∧ 0 ≤ z.toInt ∧ z.toInt ≤ 6) ⟨rfl, (rw_101_5 hj_305)⟩ (fun z_306 hz_306 => ?_)
              refine s_iconst (v := 1) E dX10_readNext_144 (by decide) ?_
              refine z_iadd (u := z_306.toInt) (v := 1) E dX10_readNext_145 rfl (by decide) (by omega) (by omega) (fun z_307 hz_307 => ?_)
              have hhz_307 : 0 ≤ z_307.toInt ∧ z_307.toInt ≤ 6 := by omega
              refine s_iast E rfl (jv_lt hj_305 (by decide)) (z_in (u := 5) (by decide) (by omega) (by omega)) dX10_readNext_146 ?_
              have hj_309 : Jv w (upI (upI u_300 101 z_299.toNatClampNeg z_302) 101 5 z_307) := (jv_lad5 hj_305 (by omega) (by omega) (by omega) (lad_fin (by omega) (by omega) hLw_))
              have hke_ : ((upI (upI u_300 101 z_299.toNatClampNeg z_302) 101 5 z_307).2.2.1 95 7).toInt = ((upI u_300 101 z_299.toNatClampNeg z_302).2.2.1 95 7).toInt := rfl
              have hke_ : ((upI (upI u_300 101 z_299.toNatClampNeg z_302) 101 5 z_307).2.2.1 95 8).toInt = ((upI u_300 101 z_299.toNatClampNeg z_302).2.2.1 95 8).toInt := rfl
              have hke_ : ((upI (upI u_300 101 z_299.toNatClampNeg z_302) 101 5 z_307).2.2.1 95 9).toInt = ((upI u_300 101 z_299.toNatClampNeg z_302).2.2.1 95 9).toInt := rfl
              have hke_ : ((upI (upI u_300 101 z_299.toNatClampNeg z_302) 101 5 z_307).2.2.1 95 10).toInt = ((upI u_300 101 z_299.toNatClampNeg z_302).2.2.1 95 10).toInt := rfl
              have hke_ : ((upI (upI u_300 101 z_299.toNatClampNeg z_302) 101 5 z_307).2.2.1 95 12).toInt = ((upI u_300 101 z_299.toNatClampNeg z_302).2.2.1 95 12).toInt := rfl
              have hke_ : ((upI (upI u_300 101 z_299.toNatClampNeg z_302) 101 5 z_307).2.2.1 101 0).toInt = ((upI u_300 101 z_299.toNatClampNeg z_302).2.2.1 101 0).toInt := rfl
              have hke_ : ((upI (upI u_300 101 z_299.toNatClampNeg z_302) 101 5 z_307).2.2.1 101 4).toInt = ((upI u_300 101 z_299.toNatClampNeg z_302).2.2.1 101 4).toInt := rfl
              have hke_ : ((upI (upI u_300 101 z_299.toNatClampNeg z_302) 101 5 z_307).2.2.1 101 5).toInt = z_307.toInt := rfl
              have hke_ : ((upI (upI u_300 101 z_299.toNatClampNeg z_302) 101 5 z_307).2.2.1 101 6).toInt = ((upI u_300 101 z_299.toNatClampNeg z_302).2.2.1 101 6).toInt := rfl
              have hke_ : ((upI (upI u_300 101 z_299.toNatClampNeg z_302) 101 5 z_307).2.2.1 101 7).toInt = ((upI u_300 101 z_299.toNatClampNeg z_302).2.2.1 101 7).toInt := rfl
              have hke_ : ((upI (upI u_300 101 z_299.toNatClampNeg z_302) 101 5 z_307).2.2.1 101 9).toInt = ((upI u_300 101 z_299.toNatClampNeg z_302).2.2.1 101 9).toInt := rfl
              refine s_goto (tgt := 232) E dX10_readNext_147 (by decide) ?_
              exact r_void E dX10_readNext_232 ⟨(by omega), hj_309⟩
          ·
            have hd_ : ¬ (u_239.2.2.1 101 4).toInt = 12 := by first | exact (hq_.resolve_left (by omega)).1 (hT_.mp (by omega)) | (exfalso; omega)
            refine s_aload_n E dX10_readNext_80 rfl rfl ?_
            refine s_vV (As := []) (S := []) E (Z_X10_readDoor_95 l D aC b u_247  hj_250.1  (by omega) (by omega)) cv_X10_198 rfl rfl rfl (jv_lt hj_250 (by decide)) (Nat.le_of_ble_eq_true rfl) (Nat.le_of_ble_eq_true rfl) ⟨(Nat.le_of_ble_eq_true rfl), (Nat.le_of_ble_eq_true rfl)⟩ (Nat.le_of_ble_eq_true rfl) dX10_readNext_81 (fun u_310 hp_311 => ?_)
            obtain ⟨hx_hp_311, hp_311⟩ := hp_311
            have hj_312 := jv_trans hj_250 hp_311
            refine s_goto (tgt := 232) E dX10_readNext_84 (by decide) ?_
            exact r_void E dX10_readNext_232 ⟨(by omega), hj_312⟩
        ·
          exact r_void E dX10_readNext_70 ⟨(by omega), hj_241⟩
    ·
      refine s_aload_n E dX10_readNext_18 rfl rfl ?_
      refine s_ldcS (i := 22) E (by decide) rfl dX10_readNext_19 ?_
      refine s_vI (As := [AX (sA aC 22)]) (S := []) E (Z_X10_is_95 l D aC b w  hJ.1  22 (by decide)) cv_X10_143 rfl rfl rfl (jv_lt hJ (by decide)) (Nat.le_of_ble_eq_true rfl) (Nat.le_of_ble_eq_true rfl) ⟨(Nat.le_of_ble_eq_true rfl), (Nat.le_of_ble_eq_true rfl)⟩ (Nat.le_of_ble_eq_true rfl) dX10_readNext_21 (fun z_315 u_313 hp_314 => ?_)
      obtain ⟨hz_315, hxz_315, hp_314⟩ := hp_314
      subst hp_314
      have hw_21 := hxz_315
      refine z_if_ne (tgt := 36) (u := z_315.toInt) E dX10_readNext_24 (by decide) rfl (fun h_317 => ?_) (fun h_317 => ?_)
      ·
        refine s_iconst (v := 1) E dX10_readNext_36 (by decide) ?_
        refine s_goto (tgt := 41) E dX10_readNext_37 (by decide) ?_
        refine s_istore_n (L2 := [some (AR 95), some (AI 1), none]) E dX10_readNext_41 rfl (by decide) rfl ?_
        refine s_iload_n E dX10_readNext_42 rfl rfl ?_
        refine z_if_ne (tgt := 51) (u := 1) E dX10_readNext_43 (by decide) (by decide) (fun h_318 => ?_) (fun h_318 => absurd h_318 (by omega))
        refine s_aload_n E dX10_readNext_51 rfl rfl ?_
        refine s_vI (As := []) (S := []) E (Z_X10_isFull_95 l D aC b w  hJ.1 ) cv_X10_195 rfl rfl rfl (jv_lt hJ (by decide)) (Nat.le_of_ble_eq_true rfl) (Nat.le_of_ble_eq_true rfl) ⟨(Nat.le_of_ble_eq_true rfl), (Nat.le_of_ble_eq_true rfl)⟩ (Nat.le_of_ble_eq_true rfl) dX10_readNext_52 (fun z_321 u_319 hp_320 => ?_)
        obtain ⟨hz_321, hxz_321, hp_320⟩ := hp_320
        subst hp_320
        have hq_ := hxz_321
        refine z_if_eq (tgt := 63) (u := z_321.toInt) E dX10_readNext_55 (by decide) rfl (fun h_323 => ?_) (fun h_323 => ?_)
        ·
          refine s_aload_n E dX10_readNext_63 rfl rfl ?_
          refine s_vI (As := []) (S := []) E (Z_X10_good_95 l D aC b w  hJ.1 ) cv_X10_130 rfl rfl rfl (jv_lt hJ (by decide)) (Nat.le_of_ble_eq_true rfl) (Nat.le_of_ble_eq_true rfl) ⟨(Nat.le_of_ble_eq_true rfl), (Nat.le_of_ble_eq_true rfl)⟩ (Nat.le_of_ble_eq_true rfl) dX10_readNext_64 (fun z_326 u_324 hp_325 => ?_)
          obtain ⟨hz_326, hxz_326, hp_325⟩ := hp_325
          subst hp_325
          refine z_if_ne (tgt := 71) (u := z_326.toInt) E dX10_readNext_67 (by decide) rfl (fun h_328 => ?_) (fun h_328 => ?_)
          ·
            have hn4_ := rw_101_4 hJ
            have hn5_ := rw_101_5 hJ
            have hn6_ := rw_101_6 hJ
            have hn7_ := rw_101_7 hJ
            refine s_aload_n E dX10_readNext_71 rfl rfl ?_
            refine s_ldcS (i := 20) E (by decide) rfl dX10_readNext_72 ?_
            refine s_vI (As := [AX (sA aC 20)]) (S := []) E (Z_X10_takes_95 l D aC b w  hJ.1  20 (by decide) (by omega)) cv_X10_150 rfl rfl rfl (jv_lt hJ (by decide)) (Nat.le_of_ble_eq_true rfl) (Nat.le_of_ble_eq_true rfl) ⟨(Nat.le_of_ble_eq_true rfl), (Nat.le_of_ble_eq_true rfl)⟩ (Nat.le_of_ble_eq_true rfl) dX10_readNext_74 (fun z_331 u_329 hp_330 => ?_)
            obtain ⟨hz_331, hxz_331, hf_u_329_101, hp_330⟩ := hp_330
            have hj_332 := jv_trans hJ hp_330
            have hfa_101_0 := congrArg Int32.toInt (congrFun hf_u_329_101 0)
            have hfa_101_4 := congrArg Int32.toInt (congrFun hf_u_329_101 4)
            have hfa_101_5 := congrArg Int32.toInt (congrFun hf_u_329_101 5)
            have hfa_101_6 := congrArg Int32.toInt (congrFun hf_u_329_101 6)
            have hfa_101_7 := congrArg Int32.toInt (congrFun hf_u_329_101 7)
            have hfa_101_9 := congrArg Int32.toInt (congrFun hf_u_329_101 9)
            have hT_ := hxz_331.1
            have hE_ := hxz_331.2.1
            refine z_if_eq (tgt := 87) (u := z_331.toInt) E dX10_readNext_77 (by decide) rfl (fun h_333 => ?_) (fun h_333 => ?_)
            ·
              have hE1_ : w = u_329 := hE_.resolve_left (by omega)
              refine s_aload_n E dX10_readNext_87 rfl rfl ?_
              refine s_ldcS (i := 21) E (by decide) rfl dX10_readNext_88 ?_
              refine s_vI (As := [AX (sA aC 21)]) (S := []) E (Z_X10_takes_95 l D aC b u_329  hj_332.1  21 (by decide) (by omega)) cv_X10_150 rfl rfl rfl (jv_lt hj_332 (by decide)) (Nat.le_of_ble_eq_true rfl) (Nat.le_of_ble_eq_true rfl) ⟨(Nat.le_of_ble_eq_true rfl), (Nat.le_of_ble_eq_true rfl)⟩ (Nat.le_of_ble_eq_true rfl) dX10_readNext_90 (fun z_336 u_334 hp_335 => ?_)
              obtain ⟨hz_336, hxz_336, hf_u_334_101, hp_335⟩ := hp_335
              have hj_337 := jv_trans hj_332 hp_335
              have hfa_101_0 := congrArg Int32.toInt (congrFun hf_u_334_101 0)
              have hfa_101_4 := congrArg Int32.toInt (congrFun hf_u_334_101 4)
              have hfa_101_5 := congrArg Int32.toInt (congrFun hf_u_334_101 5)
              have hfa_101_6 := congrArg Int32.toInt (congrFun hf_u_334_101 6)
              have hfa_101_7 := congrArg Int32.toInt (congrFun hf_u_334_101 7)
              have hfa_101_9 := congrArg Int32.toInt (congrFun hf_u_334_101 9)
              have hT2_ := hxz_336.1
              rw [← hE1_] at hT2_
              have hF_ := hxz_336.2.1
              refine z_if_eq (tgt := 150) (u := z_336.toInt) E dX10_readNext_93 (by decide) rfl (fun h_338 => ?_) (fun h_338 => ?_)
              ·
                have hE2_ : w = u_334 := hE1_.trans (hF_.resolve_left (by omega))
                refine s_aload_n E dX10_readNext_150 rfl rfl ?_
                refine s_ldcS (i := 22) E (by decide) rfl dX10_readNext_151 ?_
                refine s_vI (As := [AX (sA aC 22)]) (S := []) E (Z_X10_takes_95 l D aC b u_334  hj_337.1  22 (by decide) (by omega)) cv_X10_150 rfl rfl rfl (jv_lt hj_337 (by decide)) (Nat.le_of_ble_eq_true rfl) (Nat.le_of_ble_eq_true rfl) ⟨(Nat.le_of_ble_eq_true rfl), (Nat.le_of_ble_eq_true rfl)⟩ (Nat.le_of_ble_eq_true rfl) dX10_readNext_153 (fun z_341 u_339 hp_340 => ?_)
                obtain ⟨hz_341, hxz_341, hf_u_339_101, hp_340⟩ := hp_340
                have hj_342 := jv_trans hj_337 hp_340
                have hfa_101_0 := congrArg Int32.toInt (congrFun hf_u_339_101 0)
                have hfa_101_4 := congrArg Int32.toInt (congrFun hf_u_339_101 4)
                have hfa_101_5 := congrArg Int32.toInt (congrFun hf_u_339_101 5)
                have hfa_101_6 := congrArg Int32.toInt (congrFun hf_u_339_101 6)
                have hfa_101_7 := congrArg Int32.toInt (congrFun hf_u_339_101 7)
                have hfa_101_9 := congrArg Int32.toInt (congrFun hf_u_339_101 9)
                have hT3_ := hxz_341.1
                rw [← hE2_] at hT3_
                have hG_ := hxz_341.2.1
                refine z_if_eq (tgt := 224) (u := z_341.toInt) E dX10_readNext_156 (by decide) rfl (fun h_343 => ?_) (fun h_343 => ?_)
                ·
                  have hd_ : ¬ (w.2.2.1 101 7).toInt = 10 := by first | exact (hq_.resolve_left (by omega)).2.2.2 (hw_30.mp (by omega)) | (exfalso; exact absurd (hT_.mpr (hw_3.mp (by omega))) (by omega)) | (exfalso; exact absurd (hT2_.mpr (hw_12.mp (by omega))) (by omega)) | (exfalso; exact absurd (hT3_.mpr (hw_21.mp (by omega))) (by omega)) | (exfalso; omega)
                  refine s_aload_n E dX10_readNext_224 rfl rfl ?_
                  refine s_vV (As := []) (S := []) E (Z_X10_advance_95 l D aC b u_339  hj_342.1 ) cv_X10_147 rfl rfl rfl (jv_lt hj_342 (by decide)) (Nat.le_of_ble_eq_true rfl) (Nat.le_of_ble_eq_true rfl) ⟨(Nat.le_of_ble_eq_true rfl), (Nat.le_of_ble_eq_true rfl)⟩ (Nat.le_of_ble_eq_true rfl) dX10_readNext_225 (fun u_344 hp_345 => ?_)
                  obtain ⟨hx_hp_345, hf_u_344_99, hf_u_344_101, hp_345⟩ := hp_345
                  have hj_346 := jv_trans hj_342 hp_345
                  have hfa_101_0 := congrArg Int32.toInt (congrFun hf_u_344_101 0)
                  have hfa_101_4 := congrArg Int32.toInt (congrFun hf_u_344_101 4)
                  have hfa_101_5 := congrArg Int32.toInt (congrFun hf_u_344_101 5)
                  have hfa_101_6 := congrArg Int32.toInt (congrFun hf_u_344_101 6)
                  have hfa_101_7 := congrArg Int32.toInt (congrFun hf_u_344_101 7)
                  have hfa_101_9 := congrArg Int32.toInt (congrFun hf_u_344_101 9)
                  refine s_aload_n E dX10_readNext_228 rfl rfl ?_
                  refine s_vV (As := []) (S := []) E (Z_X10_readBid_95 l D aC b u_344  hj_346.1  (by omega) (by omega)) cv_X10_206 rfl rfl rfl (jv_lt hj_346 (by decide)) (Nat.le_of_ble_eq_true rfl) (Nat.le_of_ble_eq_true rfl) ⟨(Nat.le_of_ble_eq_true rfl), (Nat.le_of_ble_eq_true rfl)⟩ (Nat.le_of_ble_eq_true rfl) dX10_readNext_229 (fun u_347 hp_348 => ?_)
                  obtain ⟨hx_hp_348, hp_348⟩ := hp_348
                  have hj_349 := jv_trans hj_346 hp_348
                  exact r_void E dX10_readNext_232 ⟨(by omega), hj_349⟩
                ·
                  have hd_ : ¬ (w.2.2.1 101 6).toInt = 8 := by first | exact (hq_.resolve_left (by omega)).2.2.1 (hT3_.mp (by omega)) | (exfalso; omega)
                  refine s_bipush (v := 58) E dX10_readNext_159 (by decide) ?_
                  refine s_iconst (v := 2) E dX10_readNext_161 (by decide) ?_
                  refine s_aload_n E dX10_readNext_162 rfl rfl ?_
                  refine s_gR (r := 101) E fg_X10_31 rfl rfl (jv_lt hj_342 (by decide)) (jv_r hj_342 (by decide +kernel)) dX10_readNext_163 ?_
                  refine s_bipush (v := 6) E dX10_readNext_166 (by decide) ?_
                  refine s_iald E rfl (jv_lt hj_342 (by decide)) (z_in (u := 6) (by decide) (by omega) (by omega)) dX10_readNext_168 ?_
                  refine z_nm (P := fun z => z.toInt = (u_339.2.2.1 101 6).toInt ∧ 0 ≤ z.toInt ∧ z.toInt ≤ 8) ⟨rfl, (rw_101_6 hj_342)⟩ (fun z_350 hz_350 => ?_)
                  refine z_imul (u := 2) (v := z_350.toInt) E dX10_readNext_169 (by decide) rfl (by omega) (by omega) (fun z_351 hz_351 => ?_)
                  have hhz_351 : 0 ≤ z_351.toInt ∧ z_351.toInt ≤ 14 := by omega
                  refine z_iadd (u := 58) (v := z_351.toInt) E dX10_readNext_170 (by decide) rfl (by omega) (by omega) (fun z_352 hz_352 => ?_)
                  refine s_istore_n (L2 := [some (AR 95), some (AI 1), some (AI z_352)]) E dX10_readNext_171 rfl (by decide) rfl ?_
                  refine s_aload_n E dX10_readNext_172 rfl rfl ?_
                  refine s_gR (r := 101) E fg_X10_31 rfl rfl (jv_lt hj_342 (by decide)) (jv_r hj_342 (by decide +kernel)) dX10_readNext_173 ?_
                  refine s_iload_n E dX10_readNext_176 rfl rfl ?_
                  refine s_aload_n E dX10_readNext_177 rfl rfl ?_
                  refine s_ldcS (i := 27) E (by decide) rfl dX10_readNext_178 ?_
                  refine s_iconst (v := 0) E dX10_readNext_180 (by decide) ?_
                  refine s_aload_n E dX10_readNext_181 rfl rfl ?_
                  refine s_gR (r := 101) E fg_X10_31 rfl rfl (jv_lt hj_342 (by decide)) (jv_r hj_342 (by decide +kernel)) dX10_readNext_182 ?_
                  refine s_iconst (v := 5) E dX10_readNext_185 (by decide) ?_
                  refine s_iald E rfl (jv_lt hj_342 (by decide)) (z_in (u := 5) (by decide) (by omega) (by omega)) dX10_readNext_186 ?_
                  refine z_nm (P := fun z => z.toInt = (u_339.2.2.1 101 5).toInt ∧ 0 ≤ z.toInt ∧ z.toInt ≤ 6) ⟨rfl, (rw_101_5 hj_342)⟩ (fun z_353 hz_353 => ?_)
                  refine s_iconst (v := 1) E dX10_readNext_187 (by decide) ?_
                  refine z_isub (u := z_353.toInt) (v := 1) E dX10_readNext_188 rfl (by decide) (by omega) (by omega) (fun z_354 hz_354 => ?_)
                  refine s_vI (As := [AX (sA aC 27), AI 0, AI z_354]) (S := [AI z_352, AR 101]) E (Z_X10_told_95 l D aC b u_339 0 z_354 hj_342.1  27 (by decide) (by omega)) cv_X10_164 rfl rfl rfl (jv_lt hj_342 (by decide)) (Nat.le_of_ble_eq_true rfl) (Nat.le_of_ble_eq_true rfl) ⟨(Nat.le_of_ble_eq_true rfl), (Nat.le_of_ble_eq_true rfl)⟩ (Nat.le_of_ble_eq_true rfl) dX10_readNext_189 (fun z_357 u_355 hp_356 => ?_)
                  obtain ⟨hz_357, hxz_357, hf_u_355_101, hp_356⟩ := hp_356
                  have hc_ : (0 : Int32).toInt = 0 := by decide
                  have hj_358 := jv_trans hj_342 hp_356
                  have hfa_101_0 := congrArg Int32.toInt (congrFun hf_u_355_101 0)
                  have hfa_101_4 := congrArg Int32.toInt (congrFun hf_u_355_101 4)
                  have hfa_101_5 := congrArg Int32.toInt (congrFun hf_u_355_101 5)
                  have hfa_101_6 := congrArg Int32.toInt (congrFun hf_u_355_101 6)
                  have hfa_101_7 := congrArg Int32.toInt (congrFun hf_u_355_101 7)
                  have hfa_101_9 := congrArg Int32.toInt (congrFun hf_u_355_101 9)
                  have hrz_357 : 0 ≤ z_357.toInt ∧ z_357.toInt ≤ 5 := by omega
                  refine s_iast E rfl (jv_lt hj_358 (by decide)) (z_in (u := z_352.toInt) rfl (by omega) (by omega)) dX10_readNext_192 ?_
                  have hj_360 : Jv w (upI u_355 101 z_352.toNatClampNeg z_357) := (jv_a_101 (i := z_352) (x := z_357) hj_358 0 5 58 72 2 z_352.toInt (by decide +kernel) (by decide) rfl (by omega) (by omega) (by omega) (by have hb_ := z32 z_357; omega) (by have hb_ := z32 z_357; omega))
                  have hke_ : ((upI u_355 101 z_352.toNatClampNeg z_357).2.2.1 95 7).toInt = (u_355.2.2.1 95 7).toInt := rfl
                  have hke_ : ((upI u_355 101 z_352.toNatClampNeg z_357).2.2.1 95 8).toInt = (u_355.2.2.1 95 8).toInt := rfl
                  have hke_ : ((upI u_355 101 z_352.toNatClampNeg z_357).2.2.1 95 9).toInt = (u_355.2.2.1 95 9).toInt := rfl
                  have hke_ : ((upI u_355 101 z_352.toNatClampNeg z_357).2.2.1 95 10).toInt = (u_355.2.2.1 95 10).toInt := rfl
                  have hke_ : ((upI u_355 101 z_352.toNatClampNeg z_357).2.2.1 95 12).toInt = (u_355.2.2.1 95 12).toInt := rfl
                  have hke_ : ((upI u_355 101 z_352.toNatClampNeg z_357).2.2.1 101 0).toInt = (u_355.2.2.1 101 0).toInt := keep_ne (u := z_352.toInt) rfl (by omega) (by omega)
                  have hke_ : ((upI u_355 101 z_352.toNatClampNeg z_357).2.2.1 101 4).toInt = (u_355.2.2.1 101 4).toInt := keep_ne (u := z_352.toInt) rfl (by omega) (by omega)
                  have hke_ : ((upI u_355 101 z_352.toNatClampNeg z_357).2.2.1 101 5).toInt = (u_355.2.2.1 101 5).toInt := keep_ne (u := z_352.toInt) rfl (by omega) (by omega)
                  have hke_ : ((upI u_355 101 z_352.toNatClampNeg z_357).2.2.1 101 6).toInt = (u_355.2.2.1 101 6).toInt := keep_ne (u := z_352.toInt) rfl (by omega) (by omega)
                  have hke_ : ((upI u_355 101 z_352.toNatClampNeg z_357).2.2.1 101 7).toInt = (u_355.2.2.1 101 7).toInt := keep_ne (u := z_352.toInt) rfl (by omega) (by omega)
                  have hke_ : ((upI u_355 101 z_352.toNatClampNeg z_357).2.2.1 101 9).toInt = (u_355.2.2.1 101 9).toInt := keep_ne (u := z_352.toInt) rfl (by omega) (by omega)
                  refine s_aload_n E dX10_readNext_193 rfl rfl ?_
                  refine s_gR (r := 101) E fg_X10_31 rfl rfl (jv_lt hj_360 (by decide)) (jv_r hj_360 (by decide +kernel)) dX10_readNext_194 ?_
                  refine s_iload_n E dX10_readNext_197 rfl rfl ?_
                  refine s_iconst (v := 1) E dX10_readNext_198 (by decide) ?_
                  refine z_iadd (u := z_352.toInt) (v := 1) E dX10_readNext_199 rfl (by decide) (by omega) (by omega) (fun z_361 hz_361 => ?_)
                  refine s_aload_n E dX10_readNext_200 rfl rfl ?_
                  refine s_ldcS (i := 28) E (by decide) rfl dX10_readNext_201 ?_
                  refine s_iconst (v := 1) E dX10_readNext_203 (by decide) ?_
                  refine s_bipush (v := 20) E dX10_readNext_204 (by decide) ?_
                  refine s_vI (As := [AX (sA aC 28), AI 1, AI 20]) (S := [AI z_361, AR 101]) E (Z_X10_told_95 l D aC b (upI u_355 101 z_352.toNatClampNeg z_357) 1 20 hj_360.1  28 (by decide) (by omega)) cv_X10_164 rfl rfl rfl (jv_lt hj_360 (by decide)) (Nat.le_of_ble_eq_true rfl) (Nat.le_of_ble_eq_true rfl) ⟨(Nat.le_of_ble_eq_true rfl), (Nat.le_of_ble_eq_true rfl)⟩ (Nat.le_of_ble_eq_true rfl) dX10_readNext_206 (fun z_364 u_362 hp_363 => ?_)
                  obtain ⟨hz_364, hxz_364, hf_u_362_101, hp_363⟩ := hp_363
                  have hc_ : (1 : Int32).toInt = 1 := by decide
                  have hc_ : (20 : Int32).toInt = 20 := by decide
                  have hj_365 := jv_trans hj_360 hp_363
                  have hfa_101_0 := congrArg Int32.toInt (congrFun hf_u_362_101 0)
                  have hfa_101_4 := congrArg Int32.toInt (congrFun hf_u_362_101 4)
                  have hfa_101_5 := congrArg Int32.toInt (congrFun hf_u_362_101 5)
                  have hfa_101_6 := congrArg Int32.toInt (congrFun hf_u_362_101 6)
                  have hfa_101_7 := congrArg Int32.toInt (congrFun hf_u_362_101 7)
                  have hfa_101_9 := congrArg Int32.toInt (congrFun hf_u_362_101 9)
                  have hrz_364 : 0 ≤ z_364.toInt ∧ z_364.toInt ≤ 20 := by omega
                  refine s_iast E rfl (jv_lt hj_365 (by decide)) (z_in (u := z_361.toInt) rfl (by omega) (by omega)) dX10_readNext_209 ?_
                  have hj_367 : Jv w (upI u_362 101 z_361.toNatClampNeg z_364) := (jv_a_101 (i := z_361) (x := z_364) hj_365 0 20 59 73 2 z_361.toInt (by decide +kernel) (by decide) rfl (by omega) (by omega) (by omega) (by have hb_ := z32 z_364; omega) (by have hb_ := z32 z_364; omega))
                  have hke_ : ((upI u_362 101 z_361.toNatClampNeg z_364).2.2.1 95 7).toInt = (u_362.2.2.1 95 7).toInt := rfl
                  have hke_ : ((upI u_362 101 z_361.toNatClampNeg z_364).2.2.1 95 8).toInt = (u_362.2.2.1 95 8).toInt := rfl
                  have hke_ : ((upI u_362 101 z_361.toNatClampNeg z_364).2.2.1 95 9).toInt = (u_362.2.2.1 95 9).toInt := rfl
                  have hke_ : ((upI u_362 101 z_361.toNatClampNeg z_364).2.2.1 95 10).toInt = (u_362.2.2.1 95 10).toInt := rfl
                  have hke_ : ((upI u_362 101 z_361.toNatClampNeg z_364).2.2.1 95 12).toInt = (u_362.2.2.1 95 12).toInt := rfl
                  have hke_ : ((upI u_362 101 z_361.toNatClampNeg z_364).2.2.1 101 0).toInt = (u_362.2.2.1 101 0).toInt := keep_ne (u := z_361.toInt) rfl (by omega) (by omega)
                  have hke_ : ((upI u_362 101 z_361.toNatClampNeg z_364).2.2.1 101 4).toInt = (u_362.2.2.1 101 4).toInt := keep_ne (u := z_361.toInt) rfl (by omega) (by omega)
                  have hke_ : ((upI u_362 101 z_361.toNatClampNeg z_364).2.2.1 101 5).toInt = (u_362.2.2.1 101 5).toInt := keep_ne (u := z_361.toInt) rfl (by omega) (by omega)
                  have hke_ : ((upI u_362 101 z_361.toNatClampNeg z_364).2.2.1 101 6).toInt = (u_362.2.2.1 101 6).toInt := keep_ne (u := z_361.toInt) rfl (by omega) (by omega)
                  have hke_ : ((upI u_362 101 z_361.toNatClampNeg z_364).2.2.1 101 7).toInt = (u_362.2.2.1 101 7).toInt := keep_ne (u := z_361.toInt) rfl (by omega) (by omega)
                  have hke_ : ((upI u_362 101 z_361.toNatClampNeg z_364).2.2.1 101 9).toInt = (u_362.2.2.1 101 9).toInt := keep_ne (u := z_361.toInt) rfl (by omega) (by omega)
                  refine s_aload_n E dX10_readNext_210 rfl rfl ?_
                  refine s_gR (r := 101) E fg_X10_31 rfl rfl (jv_lt hj_367 (by decide)) (jv_r hj_367 (by decide +kernel)) dX10_readNext_211 ?_
                  refine s_bipush (v := 6) E dX10_readNext_214 (by decide) ?_
                  refine s_dup2 E dX10_readNext_216 ?_
                  refine s_iald E rfl (jv_lt hj_367 (by decide)) (z_in (u := 6) (by decide) (by omega) (by omega)) dX10_readNext_217 ?_
                  refine z_nm (P := fun z => z.toInt = ((upI u_362 101 z_361.toNatClampNeg z_364).2.2.1 101 6).toInt ∧ 0 ≤ z.toInt ∧ z.toInt ≤ 8) ⟨rfl, (rw_101_6 hj_367)⟩ (fun z_368 hz_368 => ?_)
                  refine s_iconst (v := 1) E dX10_readNext_218 (by decide) ?_
                  refine z_iadd (u := z_368.toInt) (v := 1) E dX10_readNext_219 rfl (by decide) (by omega) (by omega) (fun z_369 hz_369 => ?_)
                  have hhz_369 : 0 ≤ z_369.toInt ∧ z_369.toInt ≤ 8 := by omega
                  refine s_iast E rfl (jv_lt hj_367 (by decide)) (z_in (u := 6) (by decide) (by omega) (by omega)) dX10_readNext_220 ?_
                  have hj_371 : Jv w (upI (upI u_362 101 z_361.toNatClampNeg z_364) 101 6 z_369) := (jv_a_101 (i := 6) (x := z_369) hj_367 0 8 6 6 1 6 (by decide +kernel) (by decide) (by decide) (by omega) (by omega) (by omega) (by have hb_ := z32 z_369; omega) (by have hb_ := z32 z_369; omega))
                  have hke_ : ((upI (upI u_362 101 z_361.toNatClampNeg z_364) 101 6 z_369).2.2.1 95 7).toInt = ((upI u_362 101 z_361.toNatClampNeg z_364).2.2.1 95 7).toInt := rfl
                  have hke_ : ((upI (upI u_362 101 z_361.toNatClampNeg z_364) 101 6 z_369).2.2.1 95 8).toInt = ((upI u_362 101 z_361.toNatClampNeg z_364).2.2.1 95 8).toInt := rfl
                  have hke_ : ((upI (upI u_362 101 z_361.toNatClampNeg z_364) 101 6 z_369).2.2.1 95 9).toInt = ((upI u_362 101 z_361.toNatClampNeg z_364).2.2.1 95 9).toInt := rfl
                  have hke_ : ((upI (upI u_362 101 z_361.toNatClampNeg z_364) 101 6 z_369).2.2.1 95 10).toInt = ((upI u_362 101 z_361.toNatClampNeg z_364).2.2.1 95 10).toInt := rfl
                  have hke_ : ((upI (upI u_362 101 z_361.toNatClampNeg z_364) 101 6 z_369).2.2.1 95 12).toInt = ((upI u_362 101 z_361.toNatClampNeg z_364).2.2.1 95 12).toInt := rfl
                  have hke_ : ((upI (upI u_362 101 z_361.toNatClampNeg z_364) 101 6 z_369).2.2.1 101 0).toInt = ((upI u_362 101 z_361.toNatClampNeg z_364).2.2.1 101 0).toInt := rfl
                  have hke_ : ((upI (upI u_362 101 z_361.toNatClampNeg z_364) 101 6 z_369).2.2.1 101 4).toInt = ((upI u_362 101 z_361.toNatClampNeg z_364).2.2.1 101 4).toInt := rfl
                  have hke_ : ((upI (upI u_362 101 z_361.toNatClampNeg z_364) 101 6 z_369).2.2.1 101 5).toInt = ((upI u_362 101 z_361.toNatClampNeg z_364).2.2.1 101 5).toInt := rfl
                  have hke_ : ((upI (upI u_362 101 z_361.toNatClampNeg z_364) 101 6 z_369).2.2.1 101 6).toInt = z_369.toInt := rfl
                  have hke_ : ((upI (upI u_362 101 z_361.toNatClampNeg z_364) 101 6 z_369).2.2.1 101 7).toInt = ((upI u_362 101 z_361.toNatClampNeg z_364).2.2.1 101 7).toInt := rfl
                  have hke_ : ((upI (upI u_362 101 z_361.toNatClampNeg z_364) 101 6 z_369).2.2.1 101 9).toInt = ((upI u_362 101 z_361.toNatClampNeg z_364).2.2.1 101 9).toInt := rfl
                  refine s_goto (tgt := 232) E dX10_readNext_221 (by decide) ?_
                  exact r_void E dX10_readNext_232 ⟨(by omega), hj_371⟩
              ·
                have hd_ : ¬ (w.2.2.1 101 5).toInt = 6 := by first | exact (hq_.resolve_left (by omega)).2.1 (hT2_.mp (by omega)) | (exfalso; omega)
                refine s_bipush (v := 46) E dX10_readNext_96 (by decide) ?_
                refine s_iconst (v := 2) E dX10_readNext_98 (by decide) ?_
                refine s_aload_n E dX10_readNext_99 rfl rfl ?_
                refine s_gR (r := 101) E fg_X10_31 rfl rfl (jv_lt hj_337 (by decide)) (jv_r hj_337 (by decide +kernel)) dX10_readNext_100 ?_
                refine s_iconst (v := 5) E dX10_readNext_103 (by decide) ?_
                refine s_iald E rfl (jv_lt hj_337 (by decide)) (z_in (u := 5) (by decide) (by omega) (by omega)) dX10_readNext_104 ?_
                refine z_nm (P := fun z => z.toInt = (u_334.2.2.1 101 5).toInt ∧ 0 ≤ z.toInt ∧ z.toInt ≤ 6) ⟨rfl, (rw_101_5 hj_337)⟩ (fun z_372 hz_372 => ?_)
                refine z_imul (u := 2) (v := z_372.toInt) E dX10_readNext_105 (by decide) rfl (by omega) (by omega) (fun z_373 hz_373 => ?_)
                have hhz_373 : 0 ≤ z_373.toInt ∧ z_373.toInt ≤ 10 := by omega
                refine z_iadd (u := 46) (v := z_373.toInt) E dX10_readNext_106 (by decide) rfl (by omega) (by omega) (fun z_374 hz_374 => ?_)
                refine s_istore_n (L2 := [some (AR 95), some (AI 1), some (AI z_374)]) E dX10_readNext_107 rfl (by decide) rfl ?_
                refine s_aload_n E dX10_readNext_108 rfl rfl ?_
                refine s_gR (r := 101) E fg_X10_31 rfl rfl (jv_lt hj_337 (by decide)) (jv_r hj_337 (by decide +kernel)) dX10_readNext_109 ?_
                refine s_iload_n E dX10_readNext_112 rfl rfl ?_
                refine s_aload_n E dX10_readNext_113 rfl rfl ?_
                refine s_ldcS (i := 26) E (by decide) rfl dX10_readNext_114 ?_
                refine s_vI (As := [AX (sA aC 26)]) (S := [AI z_374, AR 101]) E (Z_X10_freshRoom_95 l D aC b u_334  hj_337.1  26 (by decide) (by omega)) cv_X10_182 rfl rfl rfl (jv_lt hj_337 (by decide)) (Nat.le_of_ble_eq_true rfl) (Nat.le_of_ble_eq_true rfl) ⟨(Nat.le_of_ble_eq_true rfl), (Nat.le_of_ble_eq_true rfl)⟩ (Nat.le_of_ble_eq_true rfl) dX10_readNext_116 (fun z_377 u_375 hp_376 => ?_)
                obtain ⟨hz_377, hxz_377, hf_u_375_101, hp_376⟩ := hp_376
                have hj_378 := jv_trans hj_337 hp_376
                have hfa_101_0 := congrArg Int32.toInt (congrFun hf_u_375_101 0)
                have hfa_101_4 := congrArg Int32.toInt (congrFun hf_u_375_101 4)
                have hfa_101_5 := congrArg Int32.toInt (congrFun hf_u_375_101 5)
                have hfa_101_6 := congrArg Int32.toInt (congrFun hf_u_375_101 6)
                have hfa_101_7 := congrArg Int32.toInt (congrFun hf_u_375_101 7)
                have hfa_101_9 := congrArg Int32.toInt (congrFun hf_u_375_101 9)
                have hrz_377 : 0 ≤ z_377.toInt ∧ z_377.toInt ≤ 7 := by omega
                refine s_iast E rfl (jv_lt hj_378 (by decide)) (z_in (u := z_374.toInt) rfl (by omega) (by omega)) dX10_readNext_119 ?_
                have hj_380 : Jv w (upI u_375 101 z_374.toNatClampNeg z_377) := (jv_a_101 (i := z_374) (x := z_377) hj_378 0 7 46 56 2 z_374.toInt (by decide +kernel) (by decide) rfl (by omega) (by omega) (by omega) (by have hb_ := z32 z_377; omega) (by have hb_ := z32 z_377; omega))
                have hke_ : ((upI u_375 101 z_374.toNatClampNeg z_377).2.2.1 95 7).toInt = (u_375.2.2.1 95 7).toInt := rfl
                have hke_ : ((upI u_375 101 z_374.toNatClampNeg z_377).2.2.1 95 8).toInt = (u_375.2.2.1 95 8).toInt := rfl
                have hke_ : ((upI u_375 101 z_374.toNatClampNeg z_377).2.2.1 95 9).toInt = (u_375.2.2.1 95 9).toInt := rfl
                have hke_ : ((upI u_375 101 z_374.toNatClampNeg z_377).2.2.1 95 10).toInt = (u_375.2.2.1 95 10).toInt := rfl
                have hke_ : ((upI u_375 101 z_374.toNatClampNeg z_377).2.2.1 95 12).toInt = (u_375.2.2.1 95 12).toInt := rfl
                have hke_ : ((upI u_375 101 z_374.toNatClampNeg z_377).2.2.1 101 0).toInt = (u_375.2.2.1 101 0).toInt := keep_ne (u := z_374.toInt) rfl (by omega) (by omega)
                have hke_ : ((upI u_375 101 z_374.toNatClampNeg z_377).2.2.1 101 4).toInt = (u_375.2.2.1 101 4).toInt := keep_ne (u := z_374.toInt) rfl (by omega) (by omega)
                have hke_ : ((upI u_375 101 z_374.toNatClampNeg z_377).2.2.1 101 5).toInt = (u_375.2.2.1 101 5).toInt := keep_ne (u := z_374.toInt) rfl (by omega) (by omega)
                have hke_ : ((upI u_375 101 z_374.toNatClampNeg z_377).2.2.1 101 6).toInt = (u_375.2.2.1 101 6).toInt := keep_ne (u := z_374.toInt) rfl (by omega) (by omega)
                have hke_ : ((upI u_375 101 z_374.toNatClampNeg z_377).2.2.1 101 7).toInt = (u_375.2.2.1 101 7).toInt := keep_ne (u := z_374.toInt) rfl (by omega) (by omega)
                have hke_ : ((upI u_375 101 z_374.toNatClampNeg z_377).2.2.1 101 9).toInt = (u_375.2.2.1 101 9).toInt := keep_ne (u := z_374.toInt) rfl (by omega) (by omega)
                refine s_aload_n E dX10_readNext_120 rfl rfl ?_
                refine s_gR (r := 101) E fg_X10_31 rfl rfl (jv_lt hj_380 (by decide)) (jv_r hj_380 (by decide +kernel)) dX10_readNext_121 ?_
                refine s_iload_n E dX10_readNext_124 rfl rfl ?_
                refine s_iconst (v := 1) E dX10_readNext_125 (by decide) ?_
                refine z_iadd (u := z_374.toInt) (v := 1) E dX10_readNext_126 rfl (by decide) (by omega) (by omega) (fun z_381 hz_381 => ?_)
                refine s_aload_n E dX10_readNext_127 rfl rfl ?_
                refine s_ldcS (i := 25) E (by decide) rfl dX10_readNext_128 ?_
                refine s_iconst (v := 1) E dX10_readNext_130 (by decide) ?_
                refine s_bipush (v := 9) E dX10_readNext_131 (by decide) ?_
                refine s_vI (As := [AX (sA aC 25), AI 1, AI 9]) (S := [AI z_381, AR 101]) E (Z_X10_told_95 l D aC b (upI u_375 101 z_374.toNatClampNeg z_377) 1 9 hj_380.1  25 (by decide) (by omega)) cv_X10_164 rfl rfl rfl (jv_lt hj_380 (by decide)) (Nat.le_of_ble_eq_true rfl) (Nat.le_of_ble_eq_true rfl) ⟨(Nat.le_of_ble_eq_true rfl), (Nat.le_of_ble_eq_true rfl)⟩ (Nat.le_of_ble_eq_true rfl) dX10_readNext_133 (fun z_384 u_382 hp_383 => ?_)
                obtain ⟨hz_384, hxz_384, hf_u_382_101, hp_383⟩ := hp_383
                have hc_ : (1 : Int32).toInt = 1 := by decide
                have hc_ : (9 : Int32).toInt = 9 := by decide
                have hj_385 := jv_trans hj_380 hp_383
                have hfa_101_0 := congrArg Int32.toInt (congrFun hf_u_382_101 0)
                have hfa_101_4 := congrArg Int32.toInt (congrFun hf_u_382_101 4)
                have hfa_101_5 := congrArg Int32.toInt (congrFun hf_u_382_101 5)
                have hfa_101_6 := congrArg Int32.toInt (congrFun hf_u_382_101 6)
                have hfa_101_7 := congrArg Int32.toInt (congrFun hf_u_382_101 7)
                have hfa_101_9 := congrArg Int32.toInt (congrFun hf_u_382_101 9)
                have hrz_384 : 0 ≤ z_384.toInt ∧ z_384.toInt ≤ 9 := by omega
                have hLw_ : (u_382.2.2.1 95 12).toInt = 0 → 1 ≤ z_384.toInt := by intro h0_; omega
                refine s_iast E rfl (jv_lt hj_385 (by decide)) (z_in (u := z_381.toInt) rfl (by omega) (by omega)) dX10_readNext_136 ?_
                have hj_387 : Jv w (upI u_382 101 z_381.toNatClampNeg z_384) := (jv_lad hj_385 (by omega) (by omega) (by omega) (by have hb_ := z32 z_384; omega) (by have hb_ := z32 z_384; omega))
                have hke_ : ((upI u_382 101 z_381.toNatClampNeg z_384).2.2.1 95 7).toInt = (u_382.2.2.1 95 7).toInt := rfl
                have hke_ : ((upI u_382 101 z_381.toNatClampNeg z_384).2.2.1 95 8).toInt = (u_382.2.2.1 95 8).toInt := rfl
                have hke_ : ((upI u_382 101 z_381.toNatClampNeg z_384).2.2.1 95 9).toInt = (u_382.2.2.1 95 9).toInt := rfl
                have hke_ : ((upI u_382 101 z_381.toNatClampNeg z_384).2.2.1 95 10).toInt = (u_382.2.2.1 95 10).toInt := rfl
                have hke_ : ((upI u_382 101 z_381.toNatClampNeg z_384).2.2.1 95 12).toInt = (u_382.2.2.1 95 12).toInt := rfl
                have hke_ : ((upI u_382 101 z_381.toNatClampNeg z_384).2.2.1 101 0).toInt = (u_382.2.2.1 101 0).toInt := keep_ne (u := z_381.toInt) rfl (by omega) (by omega)
                have hke_ : ((upI u_382 101 z_381.toNatClampNeg z_384).2.2.1 101 4).toInt = (u_382.2.2.1 101 4).toInt := keep_ne (u := z_381.toInt) rfl (by omega) (by omega)
                have hke_ : ((upI u_382 101 z_381.toNatClampNeg z_384).2.2.1 101 5).toInt = (u_382.2.2.1 101 5).toInt := keep_ne (u := z_381.toInt) rfl (by omega) (by omega)
                have hke_ : ((upI u_382 101 z_381.toNatClampNeg z_384).2.2.1 101 6).toInt = (u_382.2.2.1 101 6).toInt := keep_ne (u := z_381.toInt) rfl (by omega) (by omega)
                have hke_ : ((upI u_382 101 z_381.toNatClampNeg z_384).2.2.1 101 7).toInt = (u_382.2.2.1 101 7).toInt := keep_ne (u := z_381.toInt) rfl (by omega) (by omega)
                have hke_ : ((upI u_382 101 z_381.toNatClampNeg z_384).2.2.1 101 9).toInt = (u_382.2.2.1 101 9).toInt := keep_ne (u := z_381.toInt) rfl (by omega) (by omega)
                refine s_aload_n E dX10_readNext_137 rfl rfl ?_
                refine s_gR (r := 101) E fg_X10_31 rfl rfl (jv_lt hj_387 (by decide)) (jv_r hj_387 (by decide +kernel)) dX10_readNext_138 ?_
                refine s_iconst (v := 5) E dX10_readNext_141 (by decide) ?_
                refine s_dup2 E dX10_readNext_142 ?_
                refine s_iald E rfl (jv_lt hj_387 (by decide)) (z_in (u := 5) (by decide) (by omega) (by omega)) dX10_readNext_143 ?_
                refine z_nm (P := fun z => z.toInt = ((upI u_382 101 z_381.toNatClampNeg z_384).2.2.1 101 5).toInt ∧ 0 ≤ z.toInt ∧ z.toInt ≤ 6) ⟨rfl, (rw_101_5 hj_387)⟩ (fun z_388 hz_388 => ?_)
                refine s_iconst (v := 1) E dX10_readNext_144 (by decide) ?_
                refine z_iadd (u := z_388.toInt) (v := 1) E dX10_readNext_145 rfl (by decide) (by omega) (by omega) (fun z_389 hz_389 => ?_)
                have hhz_389 : 0 ≤ z_389.toInt ∧ z_389.toInt ≤ 6 := by omega
                refine s_iast E rfl (jv_lt hj_387 (by decide)) (z_in (u := 5) (by decide) (by omega) (by omega)) dX10_readNext_146 ?_
                have hj_391 : Jv w (upI (upI u_382 101 z_381.toNatClampNeg z_384) 101 5 z_389) := (jv_lad5 hj_387 (by omega) (by omega) (by omega) (lad_fin (by omega) (by omega) hLw_))
                have hke_ : ((upI (upI u_382 101 z_381.toNatClampNeg z_384) 101 5 z_389).2.2.1 95 7).toInt = ((upI u_382 101 z_381.toNatClampNeg z_384).2.2.1 95 7).toInt := rfl
                have hke_ : ((upI (upI u_382 101 z_381.toNatClampNeg z_384) 101 5 z_389).2.2.1 95 8).toInt = ((upI u_382 101 z_381.toNatClampNeg z_384).2.2.1 95 8).toInt := rfl
                have hke_ : ((upI (upI u_382 101 z_381.toNatClampNeg z_384) 101 5 z_389).2.2.1 95 9).toInt = ((upI u_382 101 z_381.toNatClampNeg z_384).2.2.1 95 9).toInt := rfl
                have hke_ : ((upI (upI u_382 101 z_381.toNatClampNeg z_384) 101 5 z_389).2.2.1 95 10).toInt = ((upI u_382 101 z_381.toNatClampNeg z_384).2.2.1 95 10).toInt := rfl
                have hke_ : ((upI (upI u_382 101 z_381.toNatClampNeg z_384) 101 5 z_389).2.2.1 95 12).toInt = ((upI u_382 101 z_381.toNatClampNeg z_384).2.2.1 95 12).toInt := rfl
                have hke_ : ((upI (upI u_382 101 z_381.toNatClampNeg z_384) 101 5 z_389).2.2.1 101 0).toInt = ((upI u_382 101 z_381.toNatClampNeg z_384).2.2.1 101 0).toInt := rfl
                have hke_ : ((upI (upI u_382 101 z_381.toNatClampNeg z_384) 101 5 z_389).2.2.1 101 4).toInt = ((upI u_382 101 z_381.toNatClampNeg z_384).2.2.1 101 4).toInt := rfl
                have hke_ : ((upI (upI u_382 101 z_381.toNatClampNeg z_384) 101 5 z_389).2.2.1 101 5).toInt = z_389.toInt := rfl
                have hke_ : ((upI (upI u_382 101 z_381.toNatClampNeg z_384) 101 5 z_389).2.2.1 101 6).toInt = ((upI u_382 101 z_381.toNatClampNeg z_384).2.2.1 101 6).toInt := rfl
                have hke_ : ((upI (upI u_382 101 z_381.toNatClampNeg z_384) 101 5 z_389).2.2.1 101 7).toInt = ((upI u_382 101 z_381.toNatClampNeg z_384).2.2.1 101 7).toInt := rfl
                have hke_ : ((upI (upI u_382 101 z_381.toNatClampNeg z_384) 101 5 z_389).2.2.1 101 9).toInt = ((upI u_382 101 z_381.toNatClampNeg z_384).2.2.1 101 9).toInt := rfl
                refine s_goto (tgt := 232) E dX10_readNext_147 (by decide) ?_
                exact r_void E dX10_readNext_232 ⟨(by omega), hj_391⟩
            ·
              have hd_ : ¬ (w.2.2.1 101 4).toInt = 12 := by first | exact (hq_.resolve_left (by omega)).1 (hT_.mp (by omega)) | (exfalso; omega)
              refine s_aload_n E dX10_readNext_80 rfl rfl ?_
              refine s_vV (As := []) (S := []) E (Z_X10_readDoor_95 l D aC b u_329  hj_332.1  (by omega) (by omega)) cv_X10_198 rfl rfl rfl (jv_lt hj_332 (by decide)) (Nat.le_of_ble_eq_true rfl) (Nat.le_of_ble_eq_true rfl) ⟨(Nat.le_of_ble_eq_true rfl), (Nat.le_of_ble_eq_true rfl)⟩ (Nat.le_of_ble_eq_true rfl) dX10_readNext_81 (fun u_392 hp_393 => ?_)
              obtain ⟨hx_hp_393, hp_393⟩ := hp_393
              have hj_394 := jv_trans hj_332 hp_393
              refine s_goto (tgt := 232) E dX10_readNext_84 (by decide) ?_
              exact r_void E dX10_readNext_232 ⟨(by omega), hj_394⟩
          ·
            exact r_void E dX10_readNext_70 ⟨(by omega), hJ⟩
        ·
          refine s_aload_n E dX10_readNext_58 rfl rfl ?_
          refine s_iconst (v := 3) E dX10_readNext_59 (by decide) ?_
          refine s_vV (As := [AI 3]) (S := []) E (Z_X10_errs_95 l D aC b w 3 hJ.1 (by decide)) cv_X10_153 rfl rfl rfl (jv_lt hJ (by decide)) (Nat.le_of_ble_eq_true rfl) (Nat.le_of_ble_eq_true rfl) ⟨(Nat.le_of_ble_eq_true rfl), (Nat.le_of_ble_eq_true rfl)⟩ (Nat.le_of_ble_eq_true rfl) dX10_readNext_60 (fun u_395 hp_396 => ?_)
          have hc_ : (3 : Int32).toInt = 3 := by decide
          obtain ⟨hx_hp_396, hf_u_395_101, hp_396⟩ := hp_396
          have hj_397 := jv_trans hJ hp_396
          have hfa_101_0 := congrArg Int32.toInt (congrFun hf_u_395_101 0)
          have hfa_101_4 := congrArg Int32.toInt (congrFun hf_u_395_101 4)
          have hfa_101_5 := congrArg Int32.toInt (congrFun hf_u_395_101 5)
          have hfa_101_6 := congrArg Int32.toInt (congrFun hf_u_395_101 6)
          have hfa_101_7 := congrArg Int32.toInt (congrFun hf_u_395_101 7)
          have hfa_101_9 := congrArg Int32.toInt (congrFun hf_u_395_101 9)
          refine s_aload_n E dX10_readNext_63 rfl rfl ?_
          refine s_vI (As := []) (S := []) E (Z_X10_good_95 l D aC b u_395  hj_397.1 ) cv_X10_130 rfl rfl rfl (jv_lt hj_397 (by decide)) (Nat.le_of_ble_eq_true rfl) (Nat.le_of_ble_eq_true rfl) ⟨(Nat.le_of_ble_eq_true rfl), (Nat.le_of_ble_eq_true rfl)⟩ (Nat.le_of_ble_eq_true rfl) dX10_readNext_64 (fun z_400 u_398 hp_399 => ?_)
          obtain ⟨hz_400, hxz_400, hp_399⟩ := hp_399
          subst hp_399
          refine z_if_ne (tgt := 71) (u := z_400.toInt) E dX10_readNext_67 (by decide) rfl (fun h_402 => ?_) (fun h_402 => ?_)
          ·
            have hn4_ := rw_101_4 hj_397
            have hn5_ := rw_101_5 hj_397
            have hn6_ := rw_101_6 hj_397
            have hn7_ := rw_101_7 hj_397
            refine s_aload_n E dX10_readNext_71 rfl rfl ?_
            refine s_ldcS (i := 20) E (by decide) rfl dX10_readNext_72 ?_
            refine s_vI (As := [AX (sA aC 20)]) (S := []) E (Z_X10_takes_95 l D aC b u_395  hj_397.1  20 (by decide) (by omega)) cv_X10_150 rfl rfl rfl (jv_lt hj_397 (by decide)) (Nat.le_of_ble_eq_true rfl) (Nat.le_of_ble_eq_true rfl) ⟨(Nat.le_of_ble_eq_true rfl), (Nat.le_of_ble_eq_true rfl)⟩ (Nat.le_of_ble_eq_true rfl) dX10_readNext_74 (fun z_405 u_403 hp_404 => ?_)
            obtain ⟨hz_405, hxz_405, hf_u_403_101, hp_404⟩ := hp_404
            have hj_406 := jv_trans hj_397 hp_404
            have hfa_101_0 := congrArg Int32.toInt (congrFun hf_u_403_101 0)
            have hfa_101_4 := congrArg Int32.toInt (congrFun hf_u_403_101 4)
            have hfa_101_5 := congrArg Int32.toInt (congrFun hf_u_403_101 5)
            have hfa_101_6 := congrArg Int32.toInt (congrFun hf_u_403_101 6)
            have hfa_101_7 := congrArg Int32.toInt (congrFun hf_u_403_101 7)
            have hfa_101_9 := congrArg Int32.toInt (congrFun hf_u_403_101 9)
            have hT_ := hxz_405.1
            have hE_ := hxz_405.2.1
            refine z_if_eq (tgt := 87) (u := z_405.toInt) E dX10_readNext_77 (by decide) rfl (fun h_407 => ?_) (fun h_407 => ?_)
            ·
              have hE1_ : u_395 = u_403 := hE_.resolve_left (by omega)
              refine s_aload_n E dX10_readNext_87 rfl rfl ?_
              refine s_ldcS (i := 21) E (by decide) rfl dX10_readNext_88 ?_
              refine s_vI (As := [AX (sA aC 21)]) (S := []) E (Z_X10_takes_95 l D aC b u_403  hj_406.1  21 (by decide) (by omega)) cv_X10_150 rfl rfl rfl (jv_lt hj_406 (by decide)) (Nat.le_of_ble_eq_true rfl) (Nat.le_of_ble_eq_true rfl) ⟨(Nat.le_of_ble_eq_true rfl), (Nat.le_of_ble_eq_true rfl)⟩ (Nat.le_of_ble_eq_true rfl) dX10_readNext_90 (fun z_410 u_408 hp_409 => ?_)
              obtain ⟨hz_410, hxz_410, hf_u_408_101, hp_409⟩ := hp_409
              have hj_411 := jv_trans hj_406 hp_409
              have hfa_101_0 := congrArg Int32.toInt (congrFun hf_u_408_101 0)
              have hfa_101_4 := congrArg Int32.toInt (congrFun hf_u_408_101 4)
              have hfa_101_5 := congrArg Int32.toInt (congrFun hf_u_408_101 5)
              have hfa_101_6 := congrArg Int32.toInt (congrFun hf_u_408_101 6)
              have hfa_101_7 := congrArg Int32.toInt (congrFun hf_u_408_101 7)
              have hfa_101_9 := congrArg Int32.toInt (congrFun hf_u_408_101 9)
              have hT2_ := hxz_410.1
              rw [← hE1_] at hT2_
              have hF_ := hxz_410.2.1
              refine z_if_eq (tgt := 150) (u := z_410.toInt) E dX10_readNext_93 (by decide) rfl (fun h_412 => ?_) (fun h_412 => ?_)
              ·
                have hE2_ : u_395 = u_408 := hE1_.trans (hF_.resolve_left (by omega))
                refine s_aload_n E dX10_readNext_150 rfl rfl ?_
                refine s_ldcS (i := 22) E (by decide) rfl dX10_readNext_151 ?_
                refine s_vI (As := [AX (sA aC 22)]) (S := []) E (Z_X10_takes_95 l D aC b u_408  hj_411.1  22 (by decide) (by omega)) cv_X10_150 rfl rfl rfl (jv_lt hj_411 (by decide)) (Nat.le_of_ble_eq_true rfl) (Nat.le_of_ble_eq_true rfl) ⟨(Nat.le_of_ble_eq_true rfl), (Nat.le_of_ble_eq_true rfl)⟩ (Nat.le_of_ble_eq_true rfl) dX10_readNext_153 (fun z_415 u_413 hp_414 => ?_)
                obtain ⟨hz_415, hxz_415, hf_u_413_101, hp_414⟩ := hp_414
                have hj_416 := jv_trans hj_411 hp_414
                have hfa_101_0 := congrArg Int32.toInt (congrFun hf_u_413_101 0)
                have hfa_101_4 := congrArg Int32.toInt (congrFun hf_u_413_101 4)
                have hfa_101_5 := congrArg Int32.toInt (congrFun hf_u_413_101 5)
                have hfa_101_6 := congrArg Int32.toInt (congrFun hf_u_413_101 6)
                have hfa_101_7 := congrArg Int32.toInt (congrFun hf_u_413_101 7)
                have hfa_101_9 := congrArg Int32.toInt (congrFun hf_u_413_101 9)
                have hT3_ := hxz_415.1
                rw [← hE2_] at hT3_
                have hG_ := hxz_415.2.1
                refine z_if_eq (tgt := 224) (u := z_415.toInt) E dX10_readNext_156 (by decide) rfl (fun h_417 => ?_) (fun h_417 => ?_)
                ·
                  have hd_ : ¬ (u_395.2.2.1 101 7).toInt = 10 := by first | exact (hq_.resolve_left (by omega)).2.2.2 (hw_30.mp (by omega)) | (exfalso; exact absurd (hT_.mpr (hw_3.mp (by omega))) (by omega)) | (exfalso; exact absurd (hT2_.mpr (hw_12.mp (by omega))) (by omega)) | (exfalso; exact absurd (hT3_.mpr (hw_21.mp (by omega))) (by omega)) | (exfalso; omega)
                  refine s_aload_n E dX10_readNext_224 rfl rfl ?_
                  refine s_vV (As := []) (S := []) E (Z_X10_advance_95 l D aC b u_413  hj_416.1 ) cv_X10_147 rfl rfl rfl (jv_lt hj_416 (by decide)) (Nat.le_of_ble_eq_true rfl) (Nat.le_of_ble_eq_true rfl) ⟨(Nat.le_of_ble_eq_true rfl), (Nat.le_of_ble_eq_true rfl)⟩ (Nat.le_of_ble_eq_true rfl) dX10_readNext_225 (fun u_418 hp_419 => ?_)
                  obtain ⟨hx_hp_419, hf_u_418_99, hf_u_418_101, hp_419⟩ := hp_419
                  have hj_420 := jv_trans hj_416 hp_419
                  have hfa_101_0 := congrArg Int32.toInt (congrFun hf_u_418_101 0)
                  have hfa_101_4 := congrArg Int32.toInt (congrFun hf_u_418_101 4)
                  have hfa_101_5 := congrArg Int32.toInt (congrFun hf_u_418_101 5)
                  have hfa_101_6 := congrArg Int32.toInt (congrFun hf_u_418_101 6)
                  have hfa_101_7 := congrArg Int32.toInt (congrFun hf_u_418_101 7)
                  have hfa_101_9 := congrArg Int32.toInt (congrFun hf_u_418_101 9)
                  refine s_aload_n E dX10_readNext_228 rfl rfl ?_
                  refine s_vV (As := []) (S := []) E (Z_X10_readBid_95 l D aC b u_418  hj_420.1  (by omega) (by omega)) cv_X10_206 rfl rfl rfl (jv_lt hj_420 (by decide)) (Nat.le_of_ble_eq_true rfl) (Nat.le_of_ble_eq_true rfl) ⟨(Nat.le_of_ble_eq_true rfl), (Nat.le_of_ble_eq_true rfl)⟩ (Nat.le_of_ble_eq_true rfl) dX10_readNext_229 (fun u_421 hp_422 => ?_)
                  obtain ⟨hx_hp_422, hp_422⟩ := hp_422
                  have hj_423 := jv_trans hj_420 hp_422
                  exact r_void E dX10_readNext_232 ⟨(by omega), hj_423⟩
                ·
                  have hd_ : ¬ (u_395.2.2.1 101 6).toInt = 8 := by first | exact (hq_.resolve_left (by omega)).2.2.1 (hT3_.mp (by omega)) | (exfalso; omega)
                  refine s_bipush (v := 58) E dX10_readNext_159 (by decide) ?_
                  refine s_iconst (v := 2) E dX10_readNext_161 (by decide) ?_
                  refine s_aload_n E dX10_readNext_162 rfl rfl ?_
                  refine s_gR (r := 101) E fg_X10_31 rfl rfl (jv_lt hj_416 (by decide)) (jv_r hj_416 (by decide +kernel)) dX10_readNext_163 ?_
                  refine s_bipush (v := 6) E dX10_readNext_166 (by decide) ?_
                  refine s_iald E rfl (jv_lt hj_416 (by decide)) (z_in (u := 6) (by decide) (by omega) (by omega)) dX10_readNext_168 ?_
                  refine z_nm (P := fun z => z.toInt = (u_413.2.2.1 101 6).toInt ∧ 0 ≤ z.toInt ∧ z.toInt ≤ 8) ⟨rfl, (rw_101_6 hj_416)⟩ (fun z_424 hz_424 => ?_)
                  refine z_imul (u := 2) (v := z_424.toInt) E dX10_readNext_169 (by decide) rfl (by omega) (by omega) (fun z_425 hz_425 => ?_)
                  have hhz_425 : 0 ≤ z_425.toInt ∧ z_425.toInt ≤ 14 := by omega
                  refine z_iadd (u := 58) (v := z_425.toInt) E dX10_readNext_170 (by decide) rfl (by omega) (by omega) (fun z_426 hz_426 => ?_)
                  refine s_istore_n (L2 := [some (AR 95), some (AI 1), some (AI z_426)]) E dX10_readNext_171 rfl (by decide) rfl ?_
                  refine s_aload_n E dX10_readNext_172 rfl rfl ?_
                  refine s_gR (r := 101) E fg_X10_31 rfl rfl (jv_lt hj_416 (by decide)) (jv_r hj_416 (by decide +kernel)) dX10_readNext_173 ?_
                  refine s_iload_n E dX10_readNext_176 rfl rfl ?_
                  refine s_aload_n E dX10_readNext_177 rfl rfl ?_
                  refine s_ldcS (i := 27) E (by decide) rfl dX10_readNext_178 ?_
                  refine s_iconst (v := 0) E dX10_readNext_180 (by decide) ?_
                  refine s_aload_n E dX10_readNext_181 rfl rfl ?_
                  refine s_gR (r := 101) E fg_X10_31 rfl rfl (jv_lt hj_416 (by decide)) (jv_r hj_416 (by decide +kernel)) dX10_readNext_182 ?_
                  refine s_iconst (v := 5) E dX10_readNext_185 (by decide) ?_
                  refine s_iald E rfl (jv_lt hj_416 (by decide)) (z_in (u := 5) (by decide) (by omega) (by omega)) dX10_readNext_186 ?_
                  refine z_nm (P := fun z => z.toInt = (u_413.2.2.1 101 5).toInt ∧ 0 ≤ z.toInt ∧ z.toInt ≤ 6) ⟨rfl, (rw_101_5 hj_416)⟩ (fun z_427 hz_427 => ?_)
                  refine s_iconst (v := 1) E dX10_readNext_187 (by decide) ?_
                  refine z_isub (u := z_427.toInt) (v := 1) E dX10_readNext_188 rfl (by decide) (by omega) (by omega) (fun z_428 hz_428 => ?_)
                  refine s_vI (As := [AX (sA aC 27), AI 0, AI z_428]) (S := [AI z_426, AR 101]) E (Z_X10_told_95 l D aC b u_413 0 z_428 hj_416.1  27 (by decide) (by omega)) cv_X10_164 rfl rfl rfl (jv_lt hj_416 (by decide)) (Nat.le_of_ble_eq_true rfl) (Nat.le_of_ble_eq_true rfl) ⟨(Nat.le_of_ble_eq_true rfl), (Nat.le_of_ble_eq_true rfl)⟩ (Nat.le_of_ble_eq_true rfl) dX10_readNext_189 (fun z_431 u_429 hp_430 => ?_)
                  obtain ⟨hz_431, hxz_431, hf_u_429_101, hp_430⟩ := hp_430
                  have hc_ : (0 : Int32).toInt = 0 := by decide
                  have hj_432 := jv_trans hj_416 hp_430
                  have hfa_101_0 := congrArg Int32.toInt (congrFun hf_u_429_101 0)
                  have hfa_101_4 := congrArg Int32.toInt (congrFun hf_u_429_101 4)
                  have hfa_101_5 := congrArg Int32.toInt (congrFun hf_u_429_101 5)
                  have hfa_101_6 := congrArg Int32.toInt (congrFun hf_u_429_101 6)
                  have hfa_101_7 := congrArg Int32.toInt (congrFun hf_u_429_101 7)
                  have hfa_101_9 := congrArg Int32.toInt (congrFun hf_u_429_101 9)
                  have hrz_431 : 0 ≤ z_431.toInt ∧ z_431.toInt ≤ 5 := by omega
                  refine s_iast E rfl (jv_lt hj_432 (by decide)) (z_in (u := z_426.toInt) rfl (by omega) (by omega)) dX10_readNext_192 ?_
                  have hj_434 : Jv w (upI u_429 101 z_426.toNatClampNeg z_431) := (jv_a_101 (i := z_426) (x := z_431) hj_432 0 5 58 72 2 z_426.toInt (by decide +kernel) (by decide) rfl (by omega) (by omega) (by omega) (by have hb_ := z32 z_431; omega) (by have hb_ := z32 z_431; omega))
                  have hke_ : ((upI u_429 101 z_426.toNatClampNeg z_431).2.2.1 95 7).toInt = (u_429.2.2.1 95 7).toInt := rfl
                  have hke_ : ((upI u_429 101 z_426.toNatClampNeg z_431).2.2.1 95 8).toInt = (u_429.2.2.1 95 8).toInt := rfl
                  have hke_ : ((upI u_429 101 z_426.toNatClampNeg z_431).2.2.1 95 9).toInt = (u_429.2.2.1 95 9).toInt := rfl
                  have hke_ : ((upI u_429 101 z_426.toNatClampNeg z_431).2.2.1 95 10).toInt = (u_429.2.2.1 95 10).toInt := rfl
                  have hke_ : ((upI u_429 101 z_426.toNatClampNeg z_431).2.2.1 95 12).toInt = (u_429.2.2.1 95 12).toInt := rfl
                  have hke_ : ((upI u_429 101 z_426.toNatClampNeg z_431).2.2.1 101 0).toInt = (u_429.2.2.1 101 0).toInt := keep_ne (u := z_426.toInt) rfl (by omega) (by omega)
                  have hke_ : ((upI u_429 101 z_426.toNatClampNeg z_431).2.2.1 101 4).toInt = (u_429.2.2.1 101 4).toInt := keep_ne (u := z_426.toInt) rfl (by omega) (by omega)
                  have hke_ : ((upI u_429 101 z_426.toNatClampNeg z_431).2.2.1 101 5).toInt = (u_429.2.2.1 101 5).toInt := keep_ne (u := z_426.toInt) rfl (by omega) (by omega)
                  have hke_ : ((upI u_429 101 z_426.toNatClampNeg z_431).2.2.1 101 6).toInt = (u_429.2.2.1 101 6).toInt := keep_ne (u := z_426.toInt) rfl (by omega) (by omega)
                  have hke_ : ((upI u_429 101 z_426.toNatClampNeg z_431).2.2.1 101 7).toInt = (u_429.2.2.1 101 7).toInt := keep_ne (u := z_426.toInt) rfl (by omega) (by omega)
                  have hke_ : ((upI u_429 101 z_426.toNatClampNeg z_431).2.2.1 101 9).toInt = (u_429.2.2.1 101 9).toInt := keep_ne (u := z_426.toInt) rfl (by omega) (by omega)
                  refine s_aload_n E dX10_readNext_193 rfl rfl ?_
                  refine s_gR (r := 101) E fg_X10_31 rfl rfl (jv_lt hj_434 (by decide)) (jv_r hj_434 (by decide +kernel)) dX10_readNext_194 ?_
                  refine s_iload_n E dX10_readNext_197 rfl rfl ?_
                  refine s_iconst (v := 1) E dX10_readNext_198 (by decide) ?_
                  refine z_iadd (u := z_426.toInt) (v := 1) E dX10_readNext_199 rfl (by decide) (by omega) (by omega) (fun z_435 hz_435 => ?_)
                  refine s_aload_n E dX10_readNext_200 rfl rfl ?_
                  refine s_ldcS (i := 28) E (by decide) rfl dX10_readNext_201 ?_
                  refine s_iconst (v := 1) E dX10_readNext_203 (by decide) ?_
                  refine s_bipush (v := 20) E dX10_readNext_204 (by decide) ?_
                  refine s_vI (As := [AX (sA aC 28), AI 1, AI 20]) (S := [AI z_435, AR 101]) E (Z_X10_told_95 l D aC b (upI u_429 101 z_426.toNatClampNeg z_431) 1 20 hj_434.1  28 (by decide) (by omega)) cv_X10_164 rfl rfl rfl (jv_lt hj_434 (by decide)) (Nat.le_of_ble_eq_true rfl) (Nat.le_of_ble_eq_true rfl) ⟨(Nat.le_of_ble_eq_true rfl), (Nat.le_of_ble_eq_true rfl)⟩ (Nat.le_of_ble_eq_true rfl) dX10_readNext_206 (fun z_438 u_436 hp_437 => ?_)
                  obtain ⟨hz_438, hxz_438, hf_u_436_101, hp_437⟩ := hp_437
                  have hc_ : (1 : Int32).toInt = 1 := by decide
                  have hc_ : (20 : Int32).toInt = 20 := by decide
                  have hj_439 := jv_trans hj_434 hp_437
                  have hfa_101_0 := congrArg Int32.toInt (congrFun hf_u_436_101 0)
                  have hfa_101_4 := congrArg Int32.toInt (congrFun hf_u_436_101 4)
                  have hfa_101_5 := congrArg Int32.toInt (congrFun hf_u_436_101 5)
                  have hfa_101_6 := congrArg Int32.toInt (congrFun hf_u_436_101 6)
                  have hfa_101_7 := congrArg Int32.toInt (congrFun hf_u_436_101 7)
                  have hfa_101_9 := congrArg Int32.toInt (congrFun hf_u_436_101 9)
                  have hrz_438 : 0 ≤ z_438.toInt ∧ z_438.toInt ≤ 20 := by omega
                  refine s_iast E rfl (jv_lt hj_439 (by decide)) (z_in (u := z_435.toInt) rfl (by omega) (by omega)) dX10_readNext_209 ?_
                  have hj_441 : Jv w (upI u_436 101 z_435.toNatClampNeg z_438) := (jv_a_101 (i := z_435) (x := z_438) hj_439 0 20 59 73 2 z_435.toInt (by decide +kernel) (by decide) rfl (by omega) (by omega) (by omega) (by have hb_ := z32 z_438; omega) (by have hb_ := z32 z_438; omega))
                  have hke_ : ((upI u_436 101 z_435.toNatClampNeg z_438).2.2.1 95 7).toInt = (u_436.2.2.1 95 7).toInt := rfl
                  have hke_ : ((upI u_436 101 z_435.toNatClampNeg z_438).2.2.1 95 8).toInt = (u_436.2.2.1 95 8).toInt := rfl
                  have hke_ : ((upI u_436 101 z_435.toNatClampNeg z_438).2.2.1 95 9).toInt = (u_436.2.2.1 95 9).toInt := rfl
                  have hke_ : ((upI u_436 101 z_435.toNatClampNeg z_438).2.2.1 95 10).toInt = (u_436.2.2.1 95 10).toInt := rfl
                  have hke_ : ((upI u_436 101 z_435.toNatClampNeg z_438).2.2.1 95 12).toInt = (u_436.2.2.1 95 12).toInt := rfl
                  have hke_ : ((upI u_436 101 z_435.toNatClampNeg z_438).2.2.1 101 0).toInt = (u_436.2.2.1 101 0).toInt := keep_ne (u := z_435.toInt) rfl (by omega) (by omega)
                  have hke_ : ((upI u_436 101 z_435.toNatClampNeg z_438).2.2.1 101 4).toInt = (u_436.2.2.1 101 4).toInt := keep_ne (u := z_435.toInt) rfl (by omega) (by omega)
                  have hke_ : ((upI u_436 101 z_435.toNatClampNeg z_438).2.2.1 101 5).toInt = (u_436.2.2.1 101 5).toInt := keep_ne (u := z_435.toInt) rfl (by omega) (by omega)
                  have hke_ : ((upI u_436 101 z_435.toNatClampNeg z_438).2.2.1 101 6).toInt = (u_436.2.2.1 101 6).toInt := keep_ne (u := z_435.toInt) rfl (by omega) (by omega)
                  have hke_ : ((upI u_436 101 z_435.toNatClampNeg z_438).2.2.1 101 7).toInt = (u_436.2.2.1 101 7).toInt := keep_ne (u := z_435.toInt) rfl (by omega) (by omega)
                  have hke_ : ((upI u_436 101 z_435.toNatClampNeg z_438).2.2.1 101 9).toInt = (u_436.2.2.1 101 9).toInt := keep_ne (u := z_435.toInt) rfl (by omega) (by omega)
                  refine s_aload_n E dX10_readNext_210 rfl rfl ?_
                  refine s_gR (r := 101) E fg_X10_31 rfl rfl (jv_lt hj_441 (by decide)) (jv_r hj_441 (by decide +kernel)) dX10_readNext_211 ?_
                  refine s_bipush (v := 6) E dX10_readNext_214 (by decide) ?_
                  refine s_dup2 E dX10_readNext_216 ?_
                  refine s_iald E rfl (jv_lt hj_441 (by decide)) (z_in (u := 6) (by decide) (by omega) (by omega)) dX10_readNext_217 ?_
                  refine z_nm (P := fun z => z.toInt = ((upI u_436 101 z_435.toNatClampNeg z_438).2.2.1 101 6).toInt ∧ 0 ≤ z.toInt ∧ z.toInt ≤ 8) ⟨rfl, (rw_101_6 hj_441)⟩ (fun z_442 hz_442 => ?_)
                  refine s_iconst (v := 1) E dX10_readNext_218 (by decide) ?_
                  refine z_iadd (u := z_442.toInt) (v := 1) E dX10_readNext_219 rfl (by decide) (by omega) (by omega) (fun z_443 hz_443 => ?_)
                  have hhz_443 : 0 ≤ z_443.toInt ∧ z_443.toInt ≤ 8 := by omega
                  refine s_iast E rfl (jv_lt hj_441 (by decide)) (z_in (u := 6) (by decide) (by omega) (by omega)) dX10_readNext_220 ?_
                  have hj_445 : Jv w (upI (upI u_436 101 z_435.toNatClampNeg z_438) 101 6 z_443) := (jv_a_101 (i := 6) (x := z_443) hj_441 0 8 6 6 1 6 (by decide +kernel) (by decide) (by decide) (by omega) (by omega) (by omega) (by have hb_ := z32 z_443; omega) (by have hb_ := z32 z_443; omega))
                  have hke_ : ((upI (upI u_436 101 z_435.toNatClampNeg z_438) 101 6 z_443).2.2.1 95 7).toInt = ((upI u_436 101 z_435.toNatClampNeg z_438).2.2.1 95 7).toInt := rfl
                  have hke_ : ((upI (upI u_436 101 z_435.toNatClampNeg z_438) 101 6 z_443).2.2.1 95 8).toInt = ((upI u_436 101 z_435.toNatClampNeg z_438).2.2.1 95 8).toInt := rfl
                  have hke_ : ((upI (upI u_436 101 z_435.toNatClampNeg z_438) 101 6 z_443).2.2.1 95 9).toInt = ((upI u_436 101 z_435.toNatClampNeg z_438).2.2.1 95 9).toInt := rfl
                  have hke_ : ((upI (upI u_436 101 z_435.toNatClampNeg z_438) 101 6 z_443).2.2.1 95 10).toInt = ((upI u_436 101 z_435.toNatClampNeg z_438).2.2.1 95 10).toInt := rfl
                  have hke_ : ((upI (upI u_436 101 z_435.toNatClampNeg z_438) 101 6 z_443).2.2.1 95 12).toInt = ((upI u_436 101 z_435.toNatClampNeg z_438).2.2.1 95 12).toInt := rfl
                  have hke_ : ((upI (upI u_436 101 z_435.toNatClampNeg z_438) 101 6 z_443).2.2.1 101 0).toInt = ((upI u_436 101 z_435.toNatClampNeg z_438).2.2.1 101 0).toInt := rfl
                  have hke_ : ((upI (upI u_436 101 z_435.toNatClampNeg z_438) 101 6 z_443).2.2.1 101 4).toInt = ((upI u_436 101 z_435.toNatClampNeg z_438).2.2.1 101 4).toInt := rfl
                  have hke_ : ((upI (upI u_436 101 z_435.toNatClampNeg z_438) 101 6 z_443).2.2.1 101 5).toInt = ((upI u_436 101 z_435.toNatClampNeg z_438).2.2.1 101 5).toInt := rfl
                  have hke_ : ((upI (upI u_436 101 z_435.toNatClampNeg z_438) 101 6 z_443).2.2.1 101 6).toInt = z_443.toInt := rfl
                  have hke_ : ((upI (upI u_436 101 z_435.toNatClampNeg z_438) 101 6 z_443).2.2.1 101 7).toInt = ((upI u_436 101 z_435.toNatClampNeg z_438).2.2.1 101 7).toInt := rfl
                  have hke_ : ((upI (upI u_436 101 z_435.toNatClampNeg z_438) 101 6 z_443).2.2.1 101 9).toInt = ((upI u_436 101 z_435.toNatClampNeg z_438).2.2.1 101 9).toInt := rfl
                  refine s_goto (tgt := 232) E dX10_readNext_221 (by decide) ?_
                  exact r_void E dX10_readNext_232 ⟨(by omega), hj_445⟩
              ·
                have hd_ : ¬ (u_395.2.2.1 101 5).toInt = 6 := by first | exact (hq_.resolve_left (by omega)).2.1 (hT2_.mp (by omega)) | (exfalso; omega)
                refine s_bipush (v := 46) E dX10_readNext_96 (by decide) ?_
                refine s_iconst (v := 2) E dX10_readNext_98 (by decide) ?_
                refine s_aload_n E dX10_readNext_99 rfl rfl ?_
                refine s_gR (r := 101) E fg_X10_31 rfl rfl (jv_lt hj_411 (by decide)) (jv_r hj_411 (by decide +kernel)) dX10_readNext_100 ?_
                refine s_iconst (v := 5) E dX10_readNext_103 (by decide) ?_
                refine s_iald E rfl (jv_lt hj_411 (by decide)) (z_in (u := 5) (by decide) (by omega) (by omega)) dX10_readNext_104 ?_
                refine z_nm (P := fun z => z.toInt = (u_408.2.2.1 101 5).toInt ∧ 0 ≤ z.toInt ∧ z.toInt ≤ 6) ⟨rfl, (rw_101_5 hj_411)⟩ (fun z_446 hz_446 => ?_)
                refine z_imul (u := 2) (v := z_446.toInt) E dX10_readNext_105 (by decide) rfl (by omega) (by omega) (fun z_447 hz_447 => ?_)
                have hhz_447 : 0 ≤ z_447.toInt ∧ z_447.toInt ≤ 10 := by omega
                refine z_iadd (u := 46) (v := z_447.toInt) E dX10_readNext_106 (by decide) rfl (by omega) (by omega) (fun z_448 hz_448 => ?_)
                refine s_istore_n (L2 := [some (AR 95), some (AI 1), some (AI z_448)]) E dX10_readNext_107 rfl (by decide) rfl ?_
                refine s_aload_n E dX10_readNext_108 rfl rfl ?_
                refine s_gR (r := 101) E fg_X10_31 rfl rfl (jv_lt hj_411 (by decide)) (jv_r hj_411 (by decide +kernel)) dX10_readNext_109 ?_
                refine s_iload_n E dX10_readNext_112 rfl rfl ?_
                refine s_aload_n E dX10_readNext_113 rfl rfl ?_
                refine s_ldcS (i := 26) E (by decide) rfl dX10_readNext_114 ?_
                refine s_vI (As := [AX (sA aC 26)]) (S := [AI z_448, AR 101]) E (Z_X10_freshRoom_95 l D aC b u_408  hj_411.1  26 (by decide) (by omega)) cv_X10_182 rfl rfl rfl (jv_lt hj_411 (by decide)) (Nat.le_of_ble_eq_true rfl) (Nat.le_of_ble_eq_true rfl) ⟨(Nat.le_of_ble_eq_true rfl), (Nat.le_of_ble_eq_true rfl)⟩ (Nat.le_of_ble_eq_true rfl) dX10_readNext_116 (fun z_451 u_449 hp_450 => ?_)
                obtain ⟨hz_451, hxz_451, hf_u_449_101, hp_450⟩ := hp_450
                have hj_452 := jv_trans hj_411 hp_450
                have hfa_101_0 := congrArg Int32.toInt (congrFun hf_u_449_101 0)
                have hfa_101_4 := congrArg Int32.toInt (congrFun hf_u_449_101 4)
                have hfa_101_5 := congrArg Int32.toInt (congrFun hf_u_449_101 5)
                have hfa_101_6 := congrArg Int32.toInt (congrFun hf_u_449_101 6)
                have hfa_101_7 := congrArg Int32.toInt (congrFun hf_u_449_101 7)
                have hfa_101_9 := congrArg Int32.toInt (congrFun hf_u_449_101 9)
                have hrz_451 : 0 ≤ z_451.toInt ∧ z_451.toInt ≤ 7 := by omega
                refine s_iast E rfl (jv_lt hj_452 (by decide)) (z_in (u := z_448.toInt) rfl (by omega) (by omega)) dX10_readNext_119 ?_
                have hj_454 : Jv w (upI u_449 101 z_448.toNatClampNeg z_451) := (jv_a_101 (i := z_448) (x := z_451) hj_452 0 7 46 56 2 z_448.toInt (by decide +kernel) (by decide) rfl (by omega) (by omega) (by omega) (by have hb_ := z32 z_451; omega) (by have hb_ := z32 z_451; omega))
                have hke_ : ((upI u_449 101 z_448.toNatClampNeg z_451).2.2.1 95 7).toInt = (u_449.2.2.1 95 7).toInt := rfl
                have hke_ : ((upI u_449 101 z_448.toNatClampNeg z_451).2.2.1 95 8).toInt = (u_449.2.2.1 95 8).toInt := rfl
                have hke_ : ((upI u_449 101 z_448.toNatClampNeg z_451).2.2.1 95 9).toInt = (u_449.2.2.1 95 9).toInt := rfl
                have hke_ : ((upI u_449 101 z_448.toNatClampNeg z_451).2.2.1 95 10).toInt = (u_449.2.2.1 95 10).toInt := rfl
                have hke_ : ((upI u_449 101 z_448.toNatClampNeg z_451).2.2.1 95 12).toInt = (u_449.2.2.1 95 12).toInt := rfl
                have hke_ : ((upI u_449 101 z_448.toNatClampNeg z_451).2.2.1 101 0).toInt = (u_449.2.2.1 101 0).toInt := keep_ne (u := z_448.toInt) rfl (by omega) (by omega)
                have hke_ : ((upI u_449 101 z_448.toNatClampNeg z_451).2.2.1 101 4).toInt = (u_449.2.2.1 101 4).toInt := keep_ne (u := z_448.toInt) rfl (by omega) (by omega)
                have hke_ : ((upI u_449 101 z_448.toNatClampNeg z_451).2.2.1 101 5).toInt = (u_449.2.2.1 101 5).toInt := keep_ne (u := z_448.toInt) rfl (by omega) (by omega)
                have hke_ : ((upI u_449 101 z_448.toNatClampNeg z_451).2.2.1 101 6).toInt = (u_449.2.2.1 101 6).toInt := keep_ne (u := z_448.toInt) rfl (by omega) (by omega)
                have hke_ : ((upI u_449 101 z_448.toNatClampNeg z_451).2.2.1 101 7).toInt = (u_449.2.2.1 101 7).toInt := keep_ne (u := z_448.toInt) rfl (by omega) (by omega)
                have hke_ : ((upI u_449 101 z_448.toNatClampNeg z_451).2.2.1 101 9).toInt = (u_449.2.2.1 101 9).toInt := keep_ne (u := z_448.toInt) rfl (by omega) (by omega)
                refine s_aload_n E dX10_readNext_120 rfl rfl ?_
                refine s_gR (r := 101) E fg_X10_31 rfl rfl (jv_lt hj_454 (by decide)) (jv_r hj_454 (by decide +kernel)) dX10_readNext_121 ?_
                refine s_iload_n E dX10_readNext_124 rfl rfl ?_
                refine s_iconst (v := 1) E dX10_readNext_125 (by decide) ?_
                refine z_iadd (u := z_448.toInt) (v := 1) E dX10_readNext_126 rfl (by decide) (by omega) (by omega) (fun z_455 hz_455 => ?_)
                refine s_aload_n E dX10_readNext_127 rfl rfl ?_
                refine s_ldcS (i := 25) E (by decide) rfl dX10_readNext_128 ?_
                refine s_iconst (v := 1) E dX10_readNext_130 (by decide) ?_
                refine s_bipush (v := 9) E dX10_readNext_131 (by decide) ?_
                refine s_vI (As := [AX (sA aC 25), AI 1, AI 9]) (S := [AI z_455, AR 101]) E (Z_X10_told_95 l D aC b (upI u_449 101 z_448.toNatClampNeg z_451) 1 9 hj_454.1  25 (by decide) (by omega)) cv_X10_164 rfl rfl rfl (jv_lt hj_454 (by decide)) (Nat.le_of_ble_eq_true rfl) (Nat.le_of_ble_eq_true rfl) ⟨(Nat.le_of_ble_eq_true rfl), (Nat.le_of_ble_eq_true rfl)⟩ (Nat.le_of_ble_eq_true rfl) dX10_readNext_133 (fun z_458 u_456 hp_457 => ?_)
                obtain ⟨hz_458, hxz_458, hf_u_456_101, hp_457⟩ := hp_457
                have hc_ : (1 : Int32).toInt = 1 := by decide
                have hc_ : (9 : Int32).toInt = 9 := by decide
                have hj_459 := jv_trans hj_454 hp_457
                have hfa_101_0 := congrArg Int32.toInt (congrFun hf_u_456_101 0)
                have hfa_101_4 := congrArg Int32.toInt (congrFun hf_u_456_101 4)
                have hfa_101_5 := congrArg Int32.toInt (congrFun hf_u_456_101 5)
                have hfa_101_6 := congrArg Int32.toInt (congrFun hf_u_456_101 6)
                have hfa_101_7 := congrArg Int32.toInt (congrFun hf_u_456_101 7)
                have hfa_101_9 := congrArg Int32.toInt (congrFun hf_u_456_101 9)
                have hrz_458 : 0 ≤ z_458.toInt ∧ z_458.toInt ≤ 9 := by omega
                have hLw_ : (u_456.2.2.1 95 12).toInt = 0 → 1 ≤ z_458.toInt := by intro h0_; omega
                refine s_iast E rfl (jv_lt hj_459 (by decide)) (z_in (u := z_455.toInt) rfl (by omega) (by omega)) dX10_readNext_136 ?_
                have hj_461 : Jv w (upI u_456 101 z_455.toNatClampNeg z_458) := (jv_lad hj_459 (by omega) (by omega) (by omega) (by have hb_ := z32 z_458; omega) (by have hb_ := z32 z_458; omega))
                have hke_ : ((upI u_456 101 z_455.toNatClampNeg z_458).2.2.1 95 7).toInt = (u_456.2.2.1 95 7).toInt := rfl
                have hke_ : ((upI u_456 101 z_455.toNatClampNeg z_458).2.2.1 95 8).toInt = (u_456.2.2.1 95 8).toInt := rfl
                have hke_ : ((upI u_456 101 z_455.toNatClampNeg z_458).2.2.1 95 9).toInt = (u_456.2.2.1 95 9).toInt := rfl
                have hke_ : ((upI u_456 101 z_455.toNatClampNeg z_458).2.2.1 95 10).toInt = (u_456.2.2.1 95 10).toInt := rfl
                have hke_ : ((upI u_456 101 z_455.toNatClampNeg z_458).2.2.1 95 12).toInt = (u_456.2.2.1 95 12).toInt := rfl
                have hke_ : ((upI u_456 101 z_455.toNatClampNeg z_458).2.2.1 101 0).toInt = (u_456.2.2.1 101 0).toInt := keep_ne (u := z_455.toInt) rfl (by omega) (by omega)
                have hke_ : ((upI u_456 101 z_455.toNatClampNeg z_458).2.2.1 101 4).toInt = (u_456.2.2.1 101 4).toInt := keep_ne (u := z_455.toInt) rfl (by omega) (by omega)
                have hke_ : ((upI u_456 101 z_455.toNatClampNeg z_458).2.2.1 101 5).toInt = (u_456.2.2.1 101 5).toInt := keep_ne (u := z_455.toInt) rfl (by omega) (by omega)
                have hke_ : ((upI u_456 101 z_455.toNatClampNeg z_458).2.2.1 101 6).toInt = (u_456.2.2.1 101 6).toInt := keep_ne (u := z_455.toInt) rfl (by omega) (by omega)
                have hke_ : ((upI u_456 101 z_455.toNatClampNeg z_458).2.2.1 101 7).toInt = (u_456.2.2.1 101 7).toInt := keep_ne (u := z_455.toInt) rfl (by omega) (by omega)
                have hke_ : ((upI u_456 101 z_455.toNatClampNeg z_458).2.2.1 101 9).toInt = (u_456.2.2.1 101 9).toInt := keep_ne (u := z_455.toInt) rfl (by omega) (by omega)
                refine s_aload_n E dX10_readNext_137 rfl rfl ?_
                refine s_gR (r := 101) E fg_X10_31 rfl rfl (jv_lt hj_461 (by decide)) (jv_r hj_461 (by decide +kernel)) dX10_readNext_138 ?_
                refine s_iconst (v := 5) E dX10_readNext_141 (by decide) ?_
                refine s_dup2 E dX10_readNext_142 ?_
                refine s_iald E rfl (jv_lt hj_461 (by decide)) (z_in (u := 5) (by decide) (by omega) (by omega)) dX10_readNext_143 ?_
                refine z_nm (P := fun z => z.toInt = ((upI u_456 101 z_455.toNatClampNeg z_458).2.2.1 101 5).toInt ∧ 0 ≤ z.toInt ∧ z.toInt ≤ 6) ⟨rfl, (rw_101_5 hj_461)⟩ (fun z_462 hz_462 => ?_)
                refine s_iconst (v := 1) E dX10_readNext_144 (by decide) ?_
                refine z_iadd (u := z_462.toInt) (v := 1) E dX10_readNext_145 rfl (by decide) (by omega) (by omega) (fun z_463 hz_463 => ?_)
                have hhz_463 : 0 ≤ z_463.toInt ∧ z_463.toInt ≤ 6 := by omega
                refine s_iast E rfl (jv_lt hj_461 (by decide)) (z_in (u := 5) (by decide) (by omega) (by omega)) dX10_readNext_146 ?_
                have hj_465 : Jv w (upI (upI u_456 101 z_455.toNatClampNeg z_458) 101 5 z_463) := (jv_lad5 hj_461 (by omega) (by omega) (by omega) (lad_fin (by omega) (by omega) hLw_))
                have hke_ : ((upI (upI u_456 101 z_455.toNatClampNeg z_458) 101 5 z_463).2.2.1 95 7).toInt = ((upI u_456 101 z_455.toNatClampNeg z_458).2.2.1 95 7).toInt := rfl
                have hke_ : ((upI (upI u_456 101 z_455.toNatClampNeg z_458) 101 5 z_463).2.2.1 95 8).toInt = ((upI u_456 101 z_455.toNatClampNeg z_458).2.2.1 95 8).toInt := rfl
                have hke_ : ((upI (upI u_456 101 z_455.toNatClampNeg z_458) 101 5 z_463).2.2.1 95 9).toInt = ((upI u_456 101 z_455.toNatClampNeg z_458).2.2.1 95 9).toInt := rfl
                have hke_ : ((upI (upI u_456 101 z_455.toNatClampNeg z_458) 101 5 z_463).2.2.1 95 10).toInt = ((upI u_456 101 z_455.toNatClampNeg z_458).2.2.1 95 10).toInt := rfl
                have hke_ : ((upI (upI u_456 101 z_455.toNatClampNeg z_458) 101 5 z_463).2.2.1 95 12).toInt = ((upI u_456 101 z_455.toNatClampNeg z_458).2.2.1 95 12).toInt := rfl
                have hke_ : ((upI (upI u_456 101 z_455.toNatClampNeg z_458) 101 5 z_463).2.2.1 101 0).toInt = ((upI u_456 101 z_455.toNatClampNeg z_458).2.2.1 101 0).toInt := rfl
                have hke_ : ((upI (upI u_456 101 z_455.toNatClampNeg z_458) 101 5 z_463).2.2.1 101 4).toInt = ((upI u_456 101 z_455.toNatClampNeg z_458).2.2.1 101 4).toInt := rfl
                have hke_ : ((upI (upI u_456 101 z_455.toNatClampNeg z_458) 101 5 z_463).2.2.1 101 5).toInt = z_463.toInt := rfl
                have hke_ : ((upI (upI u_456 101 z_455.toNatClampNeg z_458) 101 5 z_463).2.2.1 101 6).toInt = ((upI u_456 101 z_455.toNatClampNeg z_458).2.2.1 101 6).toInt := rfl
                have hke_ : ((upI (upI u_456 101 z_455.toNatClampNeg z_458) 101 5 z_463).2.2.1 101 7).toInt = ((upI u_456 101 z_455.toNatClampNeg z_458).2.2.1 101 7).toInt := rfl
                have hke_ : ((upI (upI u_456 101 z_455.toNatClampNeg z_458) 101 5 z_463).2.2.1 101 9).toInt = ((upI u_456 101 z_455.toNatClampNeg z_458).2.2.1 101 9).toInt := rfl
                refine s_goto (tgt := 232) E dX10_readNext_147 (by decide) ?_
                exact r_void E dX10_readNext_232 ⟨(by omega), hj_465⟩
            ·
              have hd_ : ¬ (u_395.2.2.1 101 4).toInt = 12 := by first | exact (hq_.resolve_left (by omega)).1 (hT_.mp (by omega)) | (exfalso; omega)
              refine s_aload_n E dX10_readNext_80 rfl rfl ?_
              refine s_vV (As := []) (S := []) E (Z_X10_readDoor_95 l D aC b u_403  hj_406.1  (by omega) (by omega)) cv_X10_198 rfl rfl rfl (jv_lt hj_406 (by decide)) (Nat.le_of_ble_eq_true rfl) (Nat.le_of_ble_eq_true rfl) ⟨(Nat.le_of_ble_eq_true rfl), (Nat.le_of_ble_eq_true rfl)⟩ (Nat.le_of_ble_eq_true rfl) dX10_readNext_81 (fun u_466 hp_467 => ?_)
              obtain ⟨hx_hp_467, hp_467⟩ := hp_467
              have hj_468 := jv_trans hj_406 hp_467
              refine s_goto (tgt := 232) E dX10_readNext_84 (by decide) ?_
              exact r_void E dX10_readNext_232 ⟨(by omega), hj_468⟩
          ·
            exact r_void E dX10_readNext_70 ⟨(by omega), hj_397⟩
      ·
        refine s_aload_n E dX10_readNext_27 rfl rfl ?_
        refine s_ldcS (i := 23) E (by decide) rfl dX10_readNext_28 ?_
        refine s_vI (As := [AX (sA aC 23)]) (S := []) E (Z_X10_is_95 l D aC b w  hJ.1  23 (by decide)) cv_X10_143 rfl rfl rfl (jv_lt hJ (by decide)) (Nat.le_of_ble_eq_true rfl) (Nat.le_of_ble_eq_true rfl) ⟨(Nat.le_of_ble_eq_true rfl), (Nat.le_of_ble_eq_true rfl)⟩ (Nat.le_of_ble_eq_true rfl) dX10_readNext_30 (fun z_471 u_469 hp_470 => ?_)
        obtain ⟨hz_471, hxz_471, hp_470⟩ := hp_470
        subst hp_470
        have hw_30 := hxz_471
        refine z_if_eq (tgt := 40) (u := z_471.toInt) E dX10_readNext_33 (by decide) rfl (fun h_473 => ?_) (fun h_473 => ?_)
        ·
          refine s_iconst (v := 0) E dX10_readNext_40 (by decide) ?_
          refine s_istore_n (L2 := [some (AR 95), some (AI 0), none]) E dX10_readNext_41 rfl (by decide) rfl ?_
          refine s_iload_n E dX10_readNext_42 rfl rfl ?_
          refine z_if_ne (tgt := 51) (u := 0) E dX10_readNext_43 (by decide) (by decide) (fun h_474 => absurd h_474 (by omega)) (fun h_474 => ?_)
          refine s_aload_n E dX10_readNext_46 rfl rfl ?_
          refine s_iconst (v := 1) E dX10_readNext_47 (by decide) ?_
          refine s_vV (As := [AI 1]) (S := []) E (Z_X10_errs_95 l D aC b w 1 hJ.1 (by decide)) cv_X10_153 rfl rfl rfl (jv_lt hJ (by decide)) (Nat.le_of_ble_eq_true rfl) (Nat.le_of_ble_eq_true rfl) ⟨(Nat.le_of_ble_eq_true rfl), (Nat.le_of_ble_eq_true rfl)⟩ (Nat.le_of_ble_eq_true rfl) dX10_readNext_48 (fun u_475 hp_476 => ?_)
          have hc_ : (1 : Int32).toInt = 1 := by decide
          obtain ⟨hx_hp_476, hf_u_475_101, hp_476⟩ := hp_476
          have hj_477 := jv_trans hJ hp_476
          have hfa_101_0 := congrArg Int32.toInt (congrFun hf_u_475_101 0)
          have hfa_101_4 := congrArg Int32.toInt (congrFun hf_u_475_101 4)
          have hfa_101_5 := congrArg Int32.toInt (congrFun hf_u_475_101 5)
          have hfa_101_6 := congrArg Int32.toInt (congrFun hf_u_475_101 6)
          have hfa_101_7 := congrArg Int32.toInt (congrFun hf_u_475_101 7)
          have hfa_101_9 := congrArg Int32.toInt (congrFun hf_u_475_101 9)
          refine s_aload_n E dX10_readNext_51 rfl rfl ?_
          refine s_vI (As := []) (S := []) E (Z_X10_isFull_95 l D aC b u_475  hj_477.1 ) cv_X10_195 rfl rfl rfl (jv_lt hj_477 (by decide)) (Nat.le_of_ble_eq_true rfl) (Nat.le_of_ble_eq_true rfl) ⟨(Nat.le_of_ble_eq_true rfl), (Nat.le_of_ble_eq_true rfl)⟩ (Nat.le_of_ble_eq_true rfl) dX10_readNext_52 (fun z_480 u_478 hp_479 => ?_)
          obtain ⟨hz_480, hxz_480, hp_479⟩ := hp_479
          subst hp_479
          have hq_ := hxz_480
          refine z_if_eq (tgt := 63) (u := z_480.toInt) E dX10_readNext_55 (by decide) rfl (fun h_482 => ?_) (fun h_482 => ?_)
          ·
            refine s_aload_n E dX10_readNext_63 rfl rfl ?_
            refine s_vI (As := []) (S := []) E (Z_X10_good_95 l D aC b u_475  hj_477.1 ) cv_X10_130 rfl rfl rfl (jv_lt hj_477 (by decide)) (Nat.le_of_ble_eq_true rfl) (Nat.le_of_ble_eq_true rfl) ⟨(Nat.le_of_ble_eq_true rfl), (Nat.le_of_ble_eq_true rfl)⟩ (Nat.le_of_ble_eq_true rfl) dX10_readNext_64 (fun z_485 u_483 hp_484 => ?_)
            obtain ⟨hz_485, hxz_485, hp_484⟩ := hp_484
            subst hp_484
            refine z_if_ne (tgt := 71) (u := z_485.toInt) E dX10_readNext_67 (by decide) rfl (fun h_487 => ?_) (fun h_487 => ?_)
            ·
              have hn4_ := rw_101_4 hj_477
              have hn5_ := rw_101_5 hj_477
              have hn6_ := rw_101_6 hj_477
              have hn7_ := rw_101_7 hj_477
              refine s_aload_n E dX10_readNext_71 rfl rfl ?_
              refine s_ldcS (i := 20) E (by decide) rfl dX10_readNext_72 ?_
              refine s_vI (As := [AX (sA aC 20)]) (S := []) E (Z_X10_takes_95 l D aC b u_475  hj_477.1  20 (by decide) (by omega)) cv_X10_150 rfl rfl rfl (jv_lt hj_477 (by decide)) (Nat.le_of_ble_eq_true rfl) (Nat.le_of_ble_eq_true rfl) ⟨(Nat.le_of_ble_eq_true rfl), (Nat.le_of_ble_eq_true rfl)⟩ (Nat.le_of_ble_eq_true rfl) dX10_readNext_74 (fun z_490 u_488 hp_489 => ?_)
              obtain ⟨hz_490, hxz_490, hf_u_488_101, hp_489⟩ := hp_489
              have hj_491 := jv_trans hj_477 hp_489
              have hfa_101_0 := congrArg Int32.toInt (congrFun hf_u_488_101 0)
              have hfa_101_4 := congrArg Int32.toInt (congrFun hf_u_488_101 4)
              have hfa_101_5 := congrArg Int32.toInt (congrFun hf_u_488_101 5)
              have hfa_101_6 := congrArg Int32.toInt (congrFun hf_u_488_101 6)
              have hfa_101_7 := congrArg Int32.toInt (congrFun hf_u_488_101 7)
              have hfa_101_9 := congrArg Int32.toInt (congrFun hf_u_488_101 9)
              have hT_ := hxz_490.1
              have hE_ := hxz_490.2.1
              refine z_if_eq (tgt := 87) (u := z_490.toInt) E dX10_readNext_77 (by decide) rfl (fun h_492 => ?_) (fun h_492 => ?_)
              ·
                have hE1_ : u_475 = u_488 := hE_.resolve_left (by omega)
                refine s_aload_n E dX10_readNext_87 rfl rfl ?_
                refine s_ldcS (i := 21) E (by decide) rfl dX10_readNext_88 ?_
                refine s_vI (As := [AX (sA aC 21)]) (S := []) E (Z_X10_takes_95 l D aC b u_488  hj_491.1  21 (by decide) (by omega)) cv_X10_150 rfl rfl rfl (jv_lt hj_491 (by decide)) (Nat.le_of_ble_eq_true rfl) (Nat.le_of_ble_eq_true rfl) ⟨(Nat.le_of_ble_eq_true rfl), (Nat.le_of_ble_eq_true rfl)⟩ (Nat.le_of_ble_eq_true rfl) dX10_readNext_90 (fun z_495 u_493 hp_494 => ?_)
                obtain ⟨hz_495, hxz_495, hf_u_493_101, hp_494⟩ := hp_494
                have hj_496 := jv_trans hj_491 hp_494
                have hfa_101_0 := congrArg Int32.toInt (congrFun hf_u_493_101 0)
                have hfa_101_4 := congrArg Int32.toInt (congrFun hf_u_493_101 4)
                have hfa_101_5 := congrArg Int32.toInt (congrFun hf_u_493_101 5)
                have hfa_101_6 := congrArg Int32.toInt (congrFun hf_u_493_101 6)
                have hfa_101_7 := congrArg Int32.toInt (congrFun hf_u_493_101 7)
                have hfa_101_9 := congrArg Int32.toInt (congrFun hf_u_493_101 9)
                have hT2_ := hxz_495.1
                rw [← hE1_] at hT2_
                have hF_ := hxz_495.2.1
                refine z_if_eq (tgt := 150) (u := z_495.toInt) E dX10_readNext_93 (by decide) rfl (fun h_497 => ?_) (fun h_497 => ?_)
                ·
                  have hE2_ : u_475 = u_493 := hE1_.trans (hF_.resolve_left (by omega))
                  refine s_aload_n E dX10_readNext_150 rfl rfl ?_
                  refine s_ldcS (i := 22) E (by decide) rfl dX10_readNext_151 ?_
                  refine s_vI (As := [AX (sA aC 22)]) (S := []) E (Z_X10_takes_95 l D aC b u_493  hj_496.1  22 (by decide) (by omega)) cv_X10_150 rfl rfl rfl (jv_lt hj_496 (by decide)) (Nat.le_of_ble_eq_true rfl) (Nat.le_of_ble_eq_true rfl) ⟨(Nat.le_of_ble_eq_true rfl), (Nat.le_of_ble_eq_true rfl)⟩ (Nat.le_of_ble_eq_true rfl) dX10_readNext_153 (fun z_500 u_498 hp_499 => ?_)
                  obtain ⟨hz_500, hxz_500, hf_u_498_101, hp_499⟩ := hp_499
                  have hj_501 := jv_trans hj_496 hp_499
                  have hfa_101_0 := congrArg Int32.toInt (congrFun hf_u_498_101 0)
                  have hfa_101_4 := congrArg Int32.toInt (congrFun hf_u_498_101 4)
                  have hfa_101_5 := congrArg Int32.toInt (congrFun hf_u_498_101 5)
                  have hfa_101_6 := congrArg Int32.toInt (congrFun hf_u_498_101 6)
                  have hfa_101_7 := congrArg Int32.toInt (congrFun hf_u_498_101 7)
                  have hfa_101_9 := congrArg Int32.toInt (congrFun hf_u_498_101 9)
                  have hT3_ := hxz_500.1
                  rw [← hE2_] at hT3_
                  have hG_ := hxz_500.2.1
                  refine z_if_eq (tgt := 224) (u := z_500.toInt) E dX10_readNext_156 (by decide) rfl (fun h_502 => ?_) (fun h_502 => ?_)
                  ·
                    have hd_ : ¬ (u_475.2.2.1 101 7).toInt = 10 := by first | exact (hq_.resolve_left (by omega)).2.2.2 (hw_30.mp (by omega)) | (exfalso; exact absurd (hT_.mpr (hw_3.mp (by omega))) (by omega)) | (exfalso; exact absurd (hT2_.mpr (hw_12.mp (by omega))) (by omega)) | (exfalso; exact absurd (hT3_.mpr (hw_21.mp (by omega))) (by omega)) | (exfalso; omega)
                    refine s_aload_n E dX10_readNext_224 rfl rfl ?_
                    refine s_vV (As := []) (S := []) E (Z_X10_advance_95 l D aC b u_498  hj_501.1 ) cv_X10_147 rfl rfl rfl (jv_lt hj_501 (by decide)) (Nat.le_of_ble_eq_true rfl) (Nat.le_of_ble_eq_true rfl) ⟨(Nat.le_of_ble_eq_true rfl), (Nat.le_of_ble_eq_true rfl)⟩ (Nat.le_of_ble_eq_true rfl) dX10_readNext_225 (fun u_503 hp_504 => ?_)
                    obtain ⟨hx_hp_504, hf_u_503_99, hf_u_503_101, hp_504⟩ := hp_504
                    have hj_505 := jv_trans hj_501 hp_504
                    have hfa_101_0 := congrArg Int32.toInt (congrFun hf_u_503_101 0)
                    have hfa_101_4 := congrArg Int32.toInt (congrFun hf_u_503_101 4)
                    have hfa_101_5 := congrArg Int32.toInt (congrFun hf_u_503_101 5)
                    have hfa_101_6 := congrArg Int32.toInt (congrFun hf_u_503_101 6)
                    have hfa_101_7 := congrArg Int32.toInt (congrFun hf_u_503_101 7)
                    have hfa_101_9 := congrArg Int32.toInt (congrFun hf_u_503_101 9)
                    refine s_aload_n E dX10_readNext_228 rfl rfl ?_
                    refine s_vV (As := []) (S := []) E (Z_X10_readBid_95 l D aC b u_503  hj_505.1  (by omega) (by omega)) cv_X10_206 rfl rfl rfl (jv_lt hj_505 (by decide)) (Nat.le_of_ble_eq_true rfl) (Nat.le_of_ble_eq_true rfl) ⟨(Nat.le_of_ble_eq_true rfl), (Nat.le_of_ble_eq_true rfl)⟩ (Nat.le_of_ble_eq_true rfl) dX10_readNext_229 (fun u_506 hp_507 => ?_)
                    obtain ⟨hx_hp_507, hp_507⟩ := hp_507
                    have hj_508 := jv_trans hj_505 hp_507
                    exact r_void E dX10_readNext_232 ⟨(by omega), hj_508⟩
                  ·
                    have hd_ : ¬ (u_475.2.2.1 101 6).toInt = 8 := by first | exact (hq_.resolve_left (by omega)).2.2.1 (hT3_.mp (by omega)) | (exfalso; omega)
                    refine s_bipush (v := 58) E dX10_readNext_159 (by decide) ?_
                    refine s_iconst (v := 2) E dX10_readNext_161 (by decide) ?_
                    refine s_aload_n E dX10_readNext_162 rfl rfl ?_
                    refine s_gR (r := 101) E fg_X10_31 rfl rfl (jv_lt hj_501 (by decide)) (jv_r hj_501 (by decide +kernel)) dX10_readNext_163 ?_
                    refine s_bipush (v := 6) E dX10_readNext_166 (by decide) ?_
                    refine s_iald E rfl (jv_lt hj_501 (by decide)) (z_in (u := 6) (by decide) (by omega) (by omega)) dX10_readNext_168 ?_
                    refine z_nm (P := fun z => z.toInt = (u_498.2.2.1 101 6).toInt ∧ 0 ≤ z.toInt ∧ z.toInt ≤ 8) ⟨rfl, (rw_101_6 hj_501)⟩ (fun z_509 hz_509 => ?_)
                    refine z_imul (u := 2) (v := z_509.toInt) E dX10_readNext_169 (by decide) rfl (by omega) (by omega) (fun z_510 hz_510 => ?_)
                    have hhz_510 : 0 ≤ z_510.toInt ∧ z_510.toInt ≤ 14 := by omega
                    refine z_iadd (u := 58) (v := z_510.toInt) E dX10_readNext_170 (by decide) rfl (by omega) (by omega) (fun z_511 hz_511 => ?_)
                    refine s_istore_n (L2 := [some (AR 95), some (AI 0), some (AI z_511)]) E dX10_readNext_171 rfl (by decide) rfl ?_
                    refine s_aload_n E dX10_readNext_172 rfl rfl ?_
                    refine s_gR (r := 101) E fg_X10_31 rfl rfl (jv_lt hj_501 (by decide)) (jv_r hj_501 (by decide +kernel)) dX10_readNext_173 ?_
                    refine s_iload_n E dX10_readNext_176 rfl rfl ?_
                    refine s_aload_n E dX10_readNext_177 rfl rfl ?_
                    refine s_ldcS (i := 27) E (by decide) rfl dX10_readNext_178 ?_
                    refine s_iconst (v := 0) E dX10_readNext_180 (by decide) ?_
                    refine s_aload_n E dX10_readNext_181 rfl rfl ?_
                    refine s_gR (r := 101) E fg_X10_31 rfl rfl (jv_lt hj_501 (by decide)) (jv_r hj_501 (by decide +kernel)) dX10_readNext_182 ?_
                    refine s_iconst (v := 5) E dX10_readNext_185 (by decide) ?_
                    refine s_iald E rfl (jv_lt hj_501 (by decide)) (z_in (u := 5) (by decide) (by omega) (by omega)) dX10_readNext_186 ?_
                    refine z_nm (P := fun z => z.toInt = (u_498.2.2.1 101 5).toInt ∧ 0 ≤ z.toInt ∧ z.toInt ≤ 6) ⟨rfl, (rw_101_5 hj_501)⟩ (fun z_512 hz_512 => ?_)
                    refine s_iconst (v := 1) E dX10_readNext_187 (by decide) ?_
                    refine z_isub (u := z_512.toInt) (v := 1) E dX10_readNext_188 rfl (by decide) (by omega) (by omega) (fun z_513 hz_513 => ?_)
                    refine s_vI (As := [AX (sA aC 27), AI 0, AI z_513]) (S := [AI z_511, AR 101]) E (Z_X10_told_95 l D aC b u_498 0 z_513 hj_501.1  27 (by decide) (by omega)) cv_X10_164 rfl rfl rfl (jv_lt hj_501 (by decide)) (Nat.le_of_ble_eq_true rfl) (Nat.le_of_ble_eq_true rfl) ⟨(Nat.le_of_ble_eq_true rfl), (Nat.le_of_ble_eq_true rfl)⟩ (Nat.le_of_ble_eq_true rfl) dX10_readNext_189 (fun z_516 u_514 hp_515 => ?_)
                    obtain ⟨hz_516, hxz_516, hf_u_514_101, hp_515⟩ := hp_515
                    have hc_ : (0 : Int32).toInt = 0 := by decide
                    have hj_517 := jv_trans hj_501 hp_515
                    have hfa_101_0 := congrArg Int32.toInt (congrFun hf_u_514_101 0)
                    have hfa_101_4 := congrArg Int32.toInt (congrFun hf_u_514_101 4)
                    have hfa_101_5 := congrArg Int32.toInt (congrFun hf_u_514_101 5)
                    have hfa_101_6 := congrArg Int32.toInt (congrFun hf_u_514_101 6)
                    have hfa_101_7 := congrArg Int32.toInt (congrFun hf_u_514_101 7)
                    have hfa_101_9 := congrArg Int32.toInt (congrFun hf_u_514_101 9)
                    have hrz_516 : 0 ≤ z_516.toInt ∧ z_516.toInt ≤ 5 := by omega
                    refine s_iast E rfl (jv_lt hj_517 (by decide)) (z_in (u := z_511.toInt) rfl (by omega) (by omega)) dX10_readNext_192 ?_
                    have hj_519 : Jv w (upI u_514 101 z_511.toNatClampNeg z_516) := (jv_a_101 (i := z_511) (x := z_516) hj_517 0 5 58 72 2 z_511.toInt (by decide +kernel) (by decide) rfl (by omega) (by omega) (by omega) (by have hb_ := z32 z_516; omega) (by have hb_ := z32 z_516; omega))
                    have hke_ : ((upI u_514 101 z_511.toNatClampNeg z_516).2.2.1 95 7).toInt = (u_514.2.2.1 95 7).toInt := rfl
                    have hke_ : ((upI u_514 101 z_511.toNatClampNeg z_516).2.2.1 95 8).toInt = (u_514.2.2.1 95 8).toInt := rfl
                    have hke_ : ((upI u_514 101 z_511.toNatClampNeg z_516).2.2.1 95 9).toInt = (u_514.2.2.1 95 9).toInt := rfl
                    have hke_ : ((upI u_514 101 z_511.toNatClampNeg z_516).2.2.1 95 10).toInt = (u_514.2.2.1 95 10).toInt := rfl
                    have hke_ : ((upI u_514 101 z_511.toNatClampNeg z_516).2.2.1 95 12).toInt = (u_514.2.2.1 95 12).toInt := rfl
                    have hke_ : ((upI u_514 101 z_511.toNatClampNeg z_516).2.2.1 101 0).toInt = (u_514.2.2.1 101 0).toInt := keep_ne (u := z_511.toInt) rfl (by omega) (by omega)
                    have hke_ : ((upI u_514 101 z_511.toNatClampNeg z_516).2.2.1 101 4).toInt = (u_514.2.2.1 101 4).toInt := keep_ne (u := z_511.toInt) rfl (by omega) (by omega)
                    have hke_ : ((upI u_514 101 z_511.toNatClampNeg z_516).2.2.1 101 5).toInt = (u_514.2.2.1 101 5).toInt := keep_ne (u := z_511.toInt) rfl (by omega) (by omega)
                    have hke_ : ((upI u_514 101 z_511.toNatClampNeg z_516).2.2.1 101 6).toInt = (u_514.2.2.1 101 6).toInt := keep_ne (u := z_511.toInt) rfl (by omega) (by omega)
                    have hke_ : ((upI u_514 101 z_511.toNatClampNeg z_516).2.2.1 101 7).toInt = (u_514.2.2.1 101 7).toInt := keep_ne (u := z_511.toInt) rfl (by omega) (by omega)
                    have hke_ : ((upI u_514 101 z_511.toNatClampNeg z_516).2.2.1 101 9).toInt = (u_514.2.2.1 101 9).toInt := keep_ne (u := z_511.toInt) rfl (by omega) (by omega)
                    refine s_aload_n E dX10_readNext_193 rfl rfl ?_
                    refine s_gR (r := 101) E fg_X10_31 rfl rfl (jv_lt hj_519 (by decide)) (jv_r hj_519 (by decide +kernel)) dX10_readNext_194 ?_
                    refine s_iload_n E dX10_readNext_197 rfl rfl ?_
                    refine s_iconst (v := 1) E dX10_readNext_198 (by decide) ?_
                    refine z_iadd (u := z_511.toInt) (v := 1) E dX10_readNext_199 rfl (by decide) (by omega) (by omega) (fun z_520 hz_520 => ?_)
                    refine s_aload_n E dX10_readNext_200 rfl rfl ?_
                    refine s_ldcS (i := 28) E (by decide) rfl dX10_readNext_201 ?_
                    refine s_iconst (v := 1) E dX10_readNext_203 (by decide) ?_
                    refine s_bipush (v := 20) E dX10_readNext_204 (by decide) ?_
                    refine s_vI (As := [AX (sA aC 28), AI 1, AI 20]) (S := [AI z_520, AR 101]) E (Z_X10_told_95 l D aC b (upI u_514 101 z_511.toNatClampNeg z_516) 1 20 hj_519.1  28 (by decide) (by omega)) cv_X10_164 rfl rfl rfl (jv_lt hj_519 (by decide)) (Nat.le_of_ble_eq_true rfl) (Nat.le_of_ble_eq_true rfl) ⟨(Nat.le_of_ble_eq_true rfl), (Nat.le_of_ble_eq_true rfl)⟩ (Nat.le_of_ble_eq_true rfl) dX10_readNext_206 (fun z_523 u_521 hp_522 => ?_)
                    obtain ⟨hz_523, hxz_523, hf_u_521_101, hp_522⟩ := hp_522
                    have hc_ : (1 : Int32).toInt = 1 := by decide
                    have hc_ : (20 : Int32).toInt = 20 := by decide
                    have hj_524 := jv_trans hj_519 hp_522
                    have hfa_101_0 := congrArg Int32.toInt (congrFun hf_u_521_101 0)
                    have hfa_101_4 := congrArg Int32.toInt (congrFun hf_u_521_101 4)
                    have hfa_101_5 := congrArg Int32.toInt (congrFun hf_u_521_101 5)
                    have hfa_101_6 := congrArg Int32.toInt (congrFun hf_u_521_101 6)
                    have hfa_101_7 := congrArg Int32.toInt (congrFun hf_u_521_101 7)
                    have hfa_101_9 := congrArg Int32.toInt (congrFun hf_u_521_101 9)
                    have hrz_523 : 0 ≤ z_523.toInt ∧ z_523.toInt ≤ 20 := by omega
                    refine s_iast E rfl (jv_lt hj_524 (by decide)) (z_in (u := z_520.toInt) rfl (by omega) (by omega)) dX10_readNext_209 ?_
                    have hj_526 : Jv w (upI u_521 101 z_520.toNatClampNeg z_523) := (jv_a_101 (i := z_520) (x := z_523) hj_524 0 20 59 73 2 z_520.toInt (by decide +kernel) (by decide) rfl (by omega) (by omega) (by omega) (by have hb_ := z32 z_523; omega) (by have hb_ := z32 z_523; omega))
                    have hke_ : ((upI u_521 101 z_520.toNatClampNeg z_523).2.2.1 95 7).toInt = (u_521.2.2.1 95 7).toInt := rfl
                    have hke_ : ((upI u_521 101 z_520.toNatClampNeg z_523).2.2.1 95 8).toInt = (u_521.2.2.1 95 8).toInt := rfl
                    have hke_ : ((upI u_521 101 z_520.toNatClampNeg z_523).2.2.1 95 9).toInt = (u_521.2.2.1 95 9).toInt := rfl
                    have hke_ : ((upI u_521 101 z_520.toNatClampNeg z_523).2.2.1 95 10).toInt = (u_521.2.2.1 95 10).toInt := rfl
                    have hke_ : ((upI u_521 101 z_520.toNatClampNeg z_523).2.2.1 95 12).toInt = (u_521.2.2.1 95 12).toInt := rfl
                    have hke_ : ((upI u_521 101 z_520.toNatClampNeg z_523).2.2.1 101 0).toInt = (u_521.2.2.1 101 0).toInt := keep_ne (u := z_520.toInt) rfl (by omega) (by omega)
                    have hke_ : ((upI u_521 101 z_520.toNatClampNeg z_523).2.2.1 101 4).toInt = (u_521.2.2.1 101 4).toInt := keep_ne (u := z_520.toInt) rfl (by omega) (by omega)
                    have hke_ : ((upI u_521 101 z_520.toNatClampNeg z_523).2.2.1 101 5).toInt = (u_521.2.2.1 101 5).toInt := keep_ne (u := z_520.toInt) rfl (by omega) (by omega)
                    have hke_ : ((upI u_521 101 z_520.toNatClampNeg z_523).2.2.1 101 6).toInt = (u_521.2.2.1 101 6).toInt := keep_ne (u := z_520.toInt) rfl (by omega) (by omega)
                    have hke_ : ((upI u_521 101 z_520.toNatClampNeg z_523).2.2.1 101 7).toInt = (u_521.2.2.1 101 7).toInt := keep_ne (u := z_520.toInt) rfl (by omega) (by omega)
                    have hke_ : ((upI u_521 101 z_520.toNatClampNeg z_523).2.2.1 101 9).toInt = (u_521.2.2.1 101 9).toInt := keep_ne (u := z_520.toInt) rfl (by omega) (by omega)
                    refine s_aload_n E dX10_readNext_210 rfl rfl ?_
                    refine s_gR (r := 101) E fg_X10_31 rfl rfl (jv_lt hj_526 (by decide)) (jv_r hj_526 (by decide +kernel)) dX10_readNext_211 ?_
                    refine s_bipush (v := 6) E dX10_readNext_214 (by decide) ?_
                    refine s_dup2 E dX10_readNext_216 ?_
                    refine s_iald E rfl (jv_lt hj_526 (by decide)) (z_in (u := 6) (by decide) (by omega) (by omega)) dX10_readNext_217 ?_
                    refine z_nm (P := fun z => z.toInt = ((upI u_521 101 z_520.toNatClampNeg z_523).2.2.1 101 6).toInt ∧ 0 ≤ z.toInt ∧ z.toInt ≤ 8) ⟨rfl, (rw_101_6 hj_526)⟩ (fun z_527 hz_527 => ?_)
                    refine s_iconst (v := 1) E dX10_readNext_218 (by decide) ?_
                    refine z_iadd (u := z_527.toInt) (v := 1) E dX10_readNext_219 rfl (by decide) (by omega) (by omega) (fun z_528 hz_528 => ?_)
                    have hhz_528 : 0 ≤ z_528.toInt ∧ z_528.toInt ≤ 8 := by omega
                    refine s_iast E rfl (jv_lt hj_526 (by decide)) (z_in (u := 6) (by decide) (by omega) (by omega)) dX10_readNext_220 ?_
                    have hj_530 : Jv w (upI (upI u_521 101 z_520.toNatClampNeg z_523) 101 6 z_528) := (jv_a_101 (i := 6) (x := z_528) hj_526 0 8 6 6 1 6 (by decide +kernel) (by decide) (by decide) (by omega) (by omega) (by omega) (by have hb_ := z32 z_528; omega) (by have hb_ := z32 z_528; omega))
                    have hke_ : ((upI (upI u_521 101 z_520.toNatClampNeg z_523) 101 6 z_528).2.2.1 95 7).toInt = ((upI u_521 101 z_520.toNatClampNeg z_523).2.2.1 95 7).toInt := rfl
                    have hke_ : ((upI (upI u_521 101 z_520.toNatClampNeg z_523) 101 6 z_528).2.2.1 95 8).toInt = ((upI u_521 101 z_520.toNatClampNeg z_523).2.2.1 95 8).toInt := rfl
                    have hke_ : ((upI (upI u_521 101 z_520.toNatClampNeg z_523) 101 6 z_528).2.2.1 95 9).toInt = ((upI u_521 101 z_520.toNatClampNeg z_523).2.2.1 95 9).toInt := rfl
                    have hke_ : ((upI (upI u_521 101 z_520.toNatClampNeg z_523) 101 6 z_528).2.2.1 95 10).toInt = ((upI u_521 101 z_520.toNatClampNeg z_523).2.2.1 95 10).toInt := rfl
                    have hke_ : ((upI (upI u_521 101 z_520.toNatClampNeg z_523) 101 6 z_528).2.2.1 95 12).toInt = ((upI u_521 101 z_520.toNatClampNeg z_523).2.2.1 95 12).toInt := rfl
                    have hke_ : ((upI (upI u_521 101 z_520.toNatClampNeg z_523) 101 6 z_528).2.2.1 101 0).toInt = ((upI u_521 101 z_520.toNatClampNeg z_523).2.2.1 101 0).toInt := rfl
                    have hke_ : ((upI (upI u_521 101 z_520.toNatClampNeg z_523) 101 6 z_528).2.2.1 101 4).toInt = ((upI u_521 101 z_520.toNatClampNeg z_523).2.2.1 101 4).toInt := rfl
                    have hke_ : ((upI (upI u_521 101 z_520.toNatClampNeg z_523) 101 6 z_528).2.2.1 101 5).toInt = ((upI u_521 101 z_520.toNatClampNeg z_523).2.2.1 101 5).toInt := rfl
                    have hke_ : ((upI (upI u_521 101 z_520.toNatClampNeg z_523) 101 6 z_528).2.2.1 101 6).toInt = z_528.toInt := rfl
                    have hke_ : ((upI (upI u_521 101 z_520.toNatClampNeg z_523) 101 6 z_528).2.2.1 101 7).toInt = ((upI u_521 101 z_520.toNatClampNeg z_523).2.2.1 101 7).toInt := rfl
                    have hke_ : ((upI (upI u_521 101 z_520.toNatClampNeg z_523) 101 6 z_528).2.2.1 101 9).toInt = ((upI u_521 101 z_520.toNatClampNeg z_523).2.2.1 101 9).toInt := rfl
                    refine s_goto (tgt := 232) E dX10_readNext_221 (by decide) ?_
                    exact r_void E dX10_readNext_232 ⟨(by omega), hj_530⟩
                ·
                  have hd_ : ¬ (u_475.2.2.1 101 5).toInt = 6 := by first | exact (hq_.resolve_left (by omega)).2.1 (hT2_.mp (by omega)) | (exfalso; omega)
                  refine s_bipush (v := 46) E dX10_readNext_96 (by decide) ?_
                  refine s_iconst (v := 2) E dX10_readNext_98 (by decide) ?_
                  refine s_aload_n E dX10_readNext_99 rfl rfl ?_
                  refine s_gR (r := 101) E fg_X10_31 rfl rfl (jv_lt hj_496 (by decide)) (jv_r hj_496 (by decide +kernel)) dX10_readNext_100 ?_
                  refine s_iconst (v := 5) E dX10_readNext_103 (by decide) ?_
                  refine s_iald E rfl (jv_lt hj_496 (by decide)) (z_in (u := 5) (by decide) (by omega) (by omega)) dX10_readNext_104 ?_
                  refine z_nm (P := fun z => z.toInt = (u_493.2.2.1 101 5).toInt ∧ 0 ≤ z.toInt ∧ z.toInt ≤ 6) ⟨rfl, (rw_101_5 hj_496)⟩ (fun z_531 hz_531 => ?_)
                  refine z_imul (u := 2) (v := z_531.toInt) E dX10_readNext_105 (by decide) rfl (by omega) (by omega) (fun z_532 hz_532 => ?_)
                  have hhz_532 : 0 ≤ z_532.toInt ∧ z_532.toInt ≤ 10 := by omega
                  refine z_iadd (u := 46) (v := z_532.toInt) E dX10_readNext_106 (by decide) rfl (by omega) (by omega) (fun z_533 hz_533 => ?_)
                  refine s_istore_n (L2 := [some (AR 95), some (AI 0), some (AI z_533)]) E dX10_readNext_107 rfl (by decide) rfl ?_
                  refine s_aload_n E dX10_readNext_108 rfl rfl ?_
                  refine s_gR (r := 101) E fg_X10_31 rfl rfl (jv_lt hj_496 (by decide)) (jv_r hj_496 (by decide +kernel)) dX10_readNext_109 ?_
                  refine s_iload_n E dX10_readNext_112 rfl rfl ?_
                  refine s_aload_n E dX10_readNext_113 rfl rfl ?_
                  refine s_ldcS (i := 26) E (by decide) rfl dX10_readNext_114 ?_
                  refine s_vI (As := [AX (sA aC 26)]) (S := [AI z_533, AR 101]) E (Z_X10_freshRoom_95 l D aC b u_493  hj_496.1  26 (by decide) (by omega)) cv_X10_182 rfl rfl rfl (jv_lt hj_496 (by decide)) (Nat.le_of_ble_eq_true rfl) (Nat.le_of_ble_eq_true rfl) ⟨(Nat.le_of_ble_eq_true rfl), (Nat.le_of_ble_eq_true rfl)⟩ (Nat.le_of_ble_eq_true rfl) dX10_readNext_116 (fun z_536 u_534 hp_535 => ?_)
                  obtain ⟨hz_536, hxz_536, hf_u_534_101, hp_535⟩ := hp_535
                  have hj_537 := jv_trans hj_496 hp_535
                  have hfa_101_0 := congrArg Int32.toInt (congrFun hf_u_534_101 0)
                  have hfa_101_4 := congrArg Int32.toInt (congrFun hf_u_534_101 4)
                  have hfa_101_5 := congrArg Int32.toInt (congrFun hf_u_534_101 5)
                  have hfa_101_6 := congrArg Int32.toInt (congrFun hf_u_534_101 6)
                  have hfa_101_7 := congrArg Int32.toInt (congrFun hf_u_534_101 7)
                  have hfa_101_9 := congrArg Int32.toInt (congrFun hf_u_534_101 9)
                  have hrz_536 : 0 ≤ z_536.toInt ∧ z_536.toInt ≤ 7 := by omega
                  refine s_iast E rfl (jv_lt hj_537 (by decide)) (z_in (u := z_533.toInt) rfl (by omega) (by omega)) dX10_readNext_119 ?_
                  have hj_539 : Jv w (upI u_534 101 z_533.toNatClampNeg z_536) := (jv_a_101 (i := z_533) (x := z_536) hj_537 0 7 46 56 2 z_533.toInt (by decide +kernel) (by decide) rfl (by omega) (by omega) (by omega) (by have hb_ := z32 z_536; omega) (by have hb_ := z32 z_536; omega))
                  have hke_ : ((upI u_534 101 z_533.toNatClampNeg z_536).2.2.1 95 7).toInt = (u_534.2.2.1 95 7).toInt := rfl
                  have hke_ : ((upI u_534 101 z_533.toNatClampNeg z_536).2.2.1 95 8).toInt = (u_534.2.2.1 95 8).toInt := rfl
                  have hke_ : ((upI u_534 101 z_533.toNatClampNeg z_536).2.2.1 95 9).toInt = (u_534.2.2.1 95 9).toInt := rfl
                  have hke_ : ((upI u_534 101 z_533.toNatClampNeg z_536).2.2.1 95 10).toInt = (u_534.2.2.1 95 10).toInt := rfl
                  have hke_ : ((upI u_534 101 z_533.toNatClampNeg z_536).2.2.1 95 12).toInt = (u_534.2.2.1 95 12).toInt := rfl
                  have hke_ : ((upI u_534 101 z_533.toNatClampNeg z_536).2.2.1 101 0).toInt = (u_534.2.2.1 101 0).toInt := keep_ne (u := z_533.toInt) rfl (by omega) (by omega)
                  have hke_ : ((upI u_534 101 z_533.toNatClampNeg z_536).2.2.1 101 4).toInt = (u_534.2.2.1 101 4).toInt := keep_ne (u := z_533.toInt) rfl (by omega) (by omega)
                  have hke_ : ((upI u_534 101 z_533.toNatClampNeg z_536).2.2.1 101 5).toInt = (u_534.2.2.1 101 5).toInt := keep_ne (u := z_533.toInt) rfl (by omega) (by omega)
                  have hke_ : ((upI u_534 101 z_533.toNatClampNeg z_536).2.2.1 101 6).toInt = (u_534.2.2.1 101 6).toInt := keep_ne (u := z_533.toInt) rfl (by omega) (by omega)
                  have hke_ : ((upI u_534 101 z_533.toNatClampNeg z_536).2.2.1 101 7).toInt = (u_534.2.2.1 101 7).toInt := keep_ne (u := z_533.toInt) rfl (by omega) (by omega)
                  have hke_ : ((upI u_534 101 z_533.toNatClampNeg z_536).2.2.1 101 9).toInt = (u_534.2.2.1 101 9).toInt := keep_ne (u := z_533.toInt) rfl (by omega) (by omega)
                  refine s_aload_n E dX10_readNext_120 rfl rfl ?_
                  refine s_gR (r := 101) E fg_X10_31 rfl rfl (jv_lt hj_539 (by decide)) (jv_r hj_539 (by decide +kernel)) dX10_readNext_121 ?_
                  refine s_iload_n E dX10_readNext_124 rfl rfl ?_
                  refine s_iconst (v := 1) E dX10_readNext_125 (by decide) ?_
                  refine z_iadd (u := z_533.toInt) (v := 1) E dX10_readNext_126 rfl (by decide) (by omega) (by omega) (fun z_540 hz_540 => ?_)
                  refine s_aload_n E dX10_readNext_127 rfl rfl ?_
                  refine s_ldcS (i := 25) E (by decide) rfl dX10_readNext_128 ?_
                  refine s_iconst (v := 1) E dX10_readNext_130 (by decide) ?_
                  refine s_bipush (v := 9) E dX10_readNext_131 (by decide) ?_
                  refine s_vI (As := [AX (sA aC 25), AI 1, AI 9]) (S := [AI z_540, AR 101]) E (Z_X10_told_95 l D aC b (upI u_534 101 z_533.toNatClampNeg z_536) 1 9 hj_539.1  25 (by decide) (by omega)) cv_X10_164 rfl rfl rfl (jv_lt hj_539 (by decide)) (Nat.le_of_ble_eq_true rfl) (Nat.le_of_ble_eq_true rfl) ⟨(Nat.le_of_ble_eq_true rfl), (Nat.le_of_ble_eq_true rfl)⟩ (Nat.le_of_ble_eq_true rfl) dX10_readNext_133 (fun z_543 u_541 hp_542 => ?_)
                  obtain ⟨hz_543, hxz_543, hf_u_541_101, hp_542⟩ := hp_542
                  have hc_ : (1 : Int32).toInt = 1 := by decide
                  have hc_ : (9 : Int32).toInt = 9 := by decide
                  have hj_544 := jv_trans hj_539 hp_542
                  have hfa_101_0 := congrArg Int32.toInt (congrFun hf_u_541_101 0)
                  have hfa_101_4 := congrArg Int32.toInt (congrFun hf_u_541_101 4)
                  have hfa_101_5 := congrArg Int32.toInt (congrFun hf_u_541_101 5)
                  have hfa_101_6 := congrArg Int32.toInt (congrFun hf_u_541_101 6)
                  have hfa_101_7 := congrArg Int32.toInt (congrFun hf_u_541_101 7)
                  have hfa_101_9 := congrArg Int32.toInt (congrFun hf_u_541_101 9)
                  have hrz_543 : 0 ≤ z_543.toInt ∧ z_543.toInt ≤ 9 := by omega
                  have hLw_ : (u_541.2.2.1 95 12).toInt = 0 → 1 ≤ z_543.toInt := by intro h0_; omega
                  refine s_iast E rfl (jv_lt hj_544 (by decide)) (z_in (u := z_540.toInt) rfl (by omega) (by omega)) dX10_readNext_136 ?_
                  have hj_546 : Jv w (upI u_541 101 z_540.toNatClampNeg z_543) := (jv_lad hj_544 (by omega) (by omega) (by omega) (by have hb_ := z32 z_543; omega) (by have hb_ := z32 z_543; omega))
                  have hke_ : ((upI u_541 101 z_540.toNatClampNeg z_543).2.2.1 95 7).toInt = (u_541.2.2.1 95 7).toInt := rfl
                  have hke_ : ((upI u_541 101 z_540.toNatClampNeg z_543).2.2.1 95 8).toInt = (u_541.2.2.1 95 8).toInt := rfl
                  have hke_ : ((upI u_541 101 z_540.toNatClampNeg z_543).2.2.1 95 9).toInt = (u_541.2.2.1 95 9).toInt := rfl
                  have hke_ : ((upI u_541 101 z_540.toNatClampNeg z_543).2.2.1 95 10).toInt = (u_541.2.2.1 95 10).toInt := rfl
                  have hke_ : ((upI u_541 101 z_540.toNatClampNeg z_543).2.2.1 95 12).toInt = (u_541.2.2.1 95 12).toInt := rfl
                  have hke_ : ((upI u_541 101 z_540.toNatClampNeg z_543).2.2.1 101 0).toInt = (u_541.2.2.1 101 0).toInt := keep_ne (u := z_540.toInt) rfl (by omega) (by omega)
                  have hke_ : ((upI u_541 101 z_540.toNatClampNeg z_543).2.2.1 101 4).toInt = (u_541.2.2.1 101 4).toInt := keep_ne (u := z_540.toInt) rfl (by omega) (by omega)
                  have hke_ : ((upI u_541 101 z_540.toNatClampNeg z_543).2.2.1 101 5).toInt = (u_541.2.2.1 101 5).toInt := keep_ne (u := z_540.toInt) rfl (by omega) (by omega)
                  have hke_ : ((upI u_541 101 z_540.toNatClampNeg z_543).2.2.1 101 6).toInt = (u_541.2.2.1 101 6).toInt := keep_ne (u := z_540.toInt) rfl (by omega) (by omega)
                  have hke_ : ((upI u_541 101 z_540.toNatClampNeg z_543).2.2.1 101 7).toInt = (u_541.2.2.1 101 7).toInt := keep_ne (u := z_540.toInt) rfl (by omega) (by omega)
                  have hke_ : ((upI u_541 101 z_540.toNatClampNeg z_543).2.2.1 101 9).toInt = (u_541.2.2.1 101 9).toInt := keep_ne (u := z_540.toInt) rfl (by omega) (by omega)
                  refine s_aload_n E dX10_readNext_137 rfl rfl ?_
                  refine s_gR (r := 101) E fg_X10_31 rfl rfl (jv_lt hj_546 (by decide)) (jv_r hj_546 (by decide +kernel)) dX10_readNext_138 ?_
                  refine s_iconst (v := 5) E dX10_readNext_141 (by decide) ?_
                  refine s_dup2 E dX10_readNext_142 ?_
                  refine s_iald E rfl (jv_lt hj_546 (by decide)) (z_in (u := 5) (by decide) (by omega) (by omega)) dX10_readNext_143 ?_
                  refine z_nm (P := fun z => z.toInt = ((upI u_541 101 z_540.toNatClampNeg z_543).2.2.1 101 5).toInt ∧ 0 ≤ z.toInt ∧ z.toInt ≤ 6) ⟨rfl, (rw_101_5 hj_546)⟩ (fun z_547 hz_547 => ?_)
                  refine s_iconst (v := 1) E dX10_readNext_144 (by decide) ?_
                  refine z_iadd (u := z_547.toInt) (v := 1) E dX10_readNext_145 rfl (by decide) (by omega) (by omega) (fun z_548 hz_548 => ?_)
                  have hhz_548 : 0 ≤ z_548.toInt ∧ z_548.toInt ≤ 6 := by omega
                  refine s_iast E rfl (jv_lt hj_546 (by decide)) (z_in (u := 5) (by decide) (by omega) (by omega)) dX10_readNext_146 ?_
                  have hj_550 : Jv w (upI (upI u_541 101 z_540.toNatClampNeg z_543) 101 5 z_548) := (jv_lad5 hj_546 (by omega) (by omega) (by omega) (lad_fin (by omega) (by omega) hLw_))
                  have hke_ : ((upI (upI u_541 101 z_540.toNatClampNeg z_543) 101 5 z_548).2.2.1 95 7).toInt = ((upI u_541 101 z_540.toNatClampNeg z_543).2.2.1 95 7).toInt := rfl
                  have hke_ : ((upI (upI u_541 101 z_540.toNatClampNeg z_543) 101 5 z_548).2.2.1 95 8).toInt = ((upI u_541 101 z_540.toNatClampNeg z_543).2.2.1 95 8).toInt := rfl
                  have hke_ : ((upI (upI u_541 101 z_540.toNatClampNeg z_543) 101 5 z_548).2.2.1 95 9).toInt = ((upI u_541 101 z_540.toNatClampNeg z_543).2.2.1 95 9).toInt := rfl
                  have hke_ : ((upI (upI u_541 101 z_540.toNatClampNeg z_543) 101 5 z_548).2.2.1 95 10).toInt = ((upI u_541 101 z_540.toNatClampNeg z_543).2.2.1 95 10).toInt := rfl
                  have hke_ : ((upI (upI u_541 101 z_540.toNatClampNeg z_543) 101 5 z_548).2.2.1 95 12).toInt = ((upI u_541 101 z_540.toNatClampNeg z_543).2.2.1 95 12).toInt := rfl
                  have hke_ : ((upI (upI u_541 101 z_540.toNatClampNeg z_543) 101 5 z_548).2.2.1 101 0).toInt = ((upI u_541 101 z_540.toNatClampNeg z_543).2.2.1 101 0).toInt := rfl
                  have hke_ : ((upI (upI u_541 101 z_540.toNatClampNeg z_543) 101 5 z_548).2.2.1 101 4).toInt = ((upI u_541 101 z_540.toNatClampNeg z_543).2.2.1 101 4).toInt := rfl
                  have hke_ : ((upI (upI u_541 101 z_540.toNatClampNeg z_543) 101 5 z_548).2.2.1 101 5).toInt = z_548.toInt := rfl
                  have hke_ : ((upI (upI u_541 101 z_540.toNatClampNeg z_543) 101 5 z_548).2.2.1 101 6).toInt = ((upI u_541 101 z_540.toNatClampNeg z_543).2.2.1 101 6).toInt := rfl
                  have hke_ : ((upI (upI u_541 101 z_540.toNatClampNeg z_543) 101 5 z_548).2.2.1 101 7).toInt = ((upI u_541 101 z_540.toNatClampNeg z_543).2.2.1 101 7).toInt := rfl
                  have hke_ : ((upI (upI u_541 101 z_540.toNatClampNeg z_543) 101 5 z_548).2.2.1 101 9).toInt = ((upI u_541 101 z_540.toNatClampNeg z_543).2.2.1 101 9).toInt := rfl
                  refine s_goto (tgt := 232) E dX10_readNext_147 (by decide) ?_
                  exact r_void E dX10_readNext_232 ⟨(by omega), hj_550⟩
              ·
                have hd_ : ¬ (u_475.2.2.1 101 4).toInt = 12 := by first | exact (hq_.resolve_left (by omega)).1 (hT_.mp (by omega)) | (exfalso; omega)
                refine s_aload_n E dX10_readNext_80 rfl rfl ?_
                refine s_vV (As := []) (S := []) E (Z_X10_readDoor_95 l D aC b u_488  hj_491.1  (by omega) (by omega)) cv_X10_198 rfl rfl rfl (jv_lt hj_491 (by decide)) (Nat.le_of_ble_eq_true rfl) (Nat.le_of_ble_eq_true rfl) ⟨(Nat.le_of_ble_eq_true rfl), (Nat.le_of_ble_eq_true rfl)⟩ (Nat.le_of_ble_eq_true rfl) dX10_readNext_81 (fun u_551 hp_552 => ?_)
                obtain ⟨hx_hp_552, hp_552⟩ := hp_552
                have hj_553 := jv_trans hj_491 hp_552
                refine s_goto (tgt := 232) E dX10_readNext_84 (by decide) ?_
                exact r_void E dX10_readNext_232 ⟨(by omega), hj_553⟩
            ·
              exact r_void E dX10_readNext_70 ⟨(by omega), hj_477⟩
          ·
            refine s_aload_n E dX10_readNext_58 rfl rfl ?_
            refine s_iconst (v := 3) E dX10_readNext_59 (by decide) ?_
            refine s_vV (As := [AI 3]) (S := []) E (Z_X10_errs_95 l D aC b u_475 3 hj_477.1 (by decide)) cv_X10_153 rfl rfl rfl (jv_lt hj_477 (by decide)) (Nat.le_of_ble_eq_true rfl) (Nat.le_of_ble_eq_true rfl) ⟨(Nat.le_of_ble_eq_true rfl), (Nat.le_of_ble_eq_true rfl)⟩ (Nat.le_of_ble_eq_true rfl) dX10_readNext_60 (fun u_554 hp_555 => ?_)
            have hc_ : (3 : Int32).toInt = 3 := by decide
            obtain ⟨hx_hp_555, hf_u_554_101, hp_555⟩ := hp_555
            have hj_556 := jv_trans hj_477 hp_555
            have hfa_101_0 := congrArg Int32.toInt (congrFun hf_u_554_101 0)
            have hfa_101_4 := congrArg Int32.toInt (congrFun hf_u_554_101 4)
            have hfa_101_5 := congrArg Int32.toInt (congrFun hf_u_554_101 5)
            have hfa_101_6 := congrArg Int32.toInt (congrFun hf_u_554_101 6)
            have hfa_101_7 := congrArg Int32.toInt (congrFun hf_u_554_101 7)
            have hfa_101_9 := congrArg Int32.toInt (congrFun hf_u_554_101 9)
            refine s_aload_n E dX10_readNext_63 rfl rfl ?_
            refine s_vI (As := []) (S := []) E (Z_X10_good_95 l D aC b u_554  hj_556.1 ) cv_X10_130 rfl rfl rfl (jv_lt hj_556 (by decide)) (Nat.le_of_ble_eq_true rfl) (Nat.le_of_ble_eq_true rfl) ⟨(Nat.le_of_ble_eq_true rfl), (Nat.le_of_ble_eq_true rfl)⟩ (Nat.le_of_ble_eq_true rfl) dX10_readNext_64 (fun z_559 u_557 hp_558 => ?_)
            obtain ⟨hz_559, hxz_559, hp_558⟩ := hp_558
            subst hp_558
            refine z_if_ne (tgt := 71) (u := z_559.toInt) E dX10_readNext_67 (by decide) rfl (fun h_561 => ?_) (fun h_561 => ?_)
            ·
              have hn4_ := rw_101_4 hj_556
              have hn5_ := rw_101_5 hj_556
              have hn6_ := rw_101_6 hj_556
              have hn7_ := rw_101_7 hj_556
              refine s_aload_n E dX10_readNext_71 rfl rfl ?_
              refine s_ldcS (i := 20) E (by decide) rfl dX10_readNext_72 ?_
              refine s_vI (As := [AX (sA aC 20)]) (S := []) E (Z_X10_takes_95 l D aC b u_554  hj_556.1  20 (by decide) (by omega)) cv_X10_150 rfl rfl rfl (jv_lt hj_556 (by decide)) (Nat.le_of_ble_eq_true rfl) (Nat.le_of_ble_eq_true rfl) ⟨(Nat.le_of_ble_eq_true rfl), (Nat.le_of_ble_eq_true rfl)⟩ (Nat.le_of_ble_eq_true rfl) dX10_readNext_74 (fun z_564 u_562 hp_563 => ?_)
              obtain ⟨hz_564, hxz_564, hf_u_562_101, hp_563⟩ := hp_563
              have hj_565 := jv_trans hj_556 hp_563
              have hfa_101_0 := congrArg Int32.toInt (congrFun hf_u_562_101 0)
              have hfa_101_4 := congrArg Int32.toInt (congrFun hf_u_562_101 4)
              have hfa_101_5 := congrArg Int32.toInt (congrFun hf_u_562_101 5)
              have hfa_101_6 := congrArg Int32.toInt (congrFun hf_u_562_101 6)
              have hfa_101_7 := congrArg Int32.toInt (congrFun hf_u_562_101 7)
              have hfa_101_9 := congrArg Int32.toInt (congrFun hf_u_562_101 9)
              have hT_ := hxz_564.1
              have hE_ := hxz_564.2.1
              refine z_if_eq (tgt := 87) (u := z_564.toInt) E dX10_readNext_77 (by decide) rfl (fun h_566 => ?_) (fun h_566 => ?_)
              ·
                have hE1_ : u_554 = u_562 := hE_.resolve_left (by omega)
                refine s_aload_n E dX10_readNext_87 rfl rfl ?_
                refine s_ldcS (i := 21) E (by decide) rfl dX10_readNext_88 ?_
                refine s_vI (As := [AX (sA aC 21)]) (S := []) E (Z_X10_takes_95 l D aC b u_562  hj_565.1  21 (by decide) (by omega)) cv_X10_150 rfl rfl rfl (jv_lt hj_565 (by decide)) (Nat.le_of_ble_eq_true rfl) (Nat.le_of_ble_eq_true rfl) ⟨(Nat.le_of_ble_eq_true rfl), (Nat.le_of_ble_eq_true rfl)⟩ (Nat.le_of_ble_eq_true rfl) dX10_readNext_90 (fun z_569 u_567 hp_568 => ?_)
                obtain ⟨hz_569, hxz_569, hf_u_567_101, hp_568⟩ := hp_568
                have hj_570 := jv_trans hj_565 hp_568
                have hfa_101_0 := congrArg Int32.toInt (congrFun hf_u_567_101 0)
                have hfa_101_4 := congrArg Int32.toInt (congrFun hf_u_567_101 4)
                have hfa_101_5 := congrArg Int32.toInt (congrFun hf_u_567_101 5)
                have hfa_101_6 := congrArg Int32.toInt (congrFun hf_u_567_101 6)
                have hfa_101_7 := congrArg Int32.toInt (congrFun hf_u_567_101 7)
                have hfa_101_9 := congrArg Int32.toInt (congrFun hf_u_567_101 9)
                have hT2_ := hxz_569.1
                rw [← hE1_] at hT2_
                have hF_ := hxz_569.2.1
                refine z_if_eq (tgt := 150) (u := z_569.toInt) E dX10_readNext_93 (by decide) rfl (fun h_571 => ?_) (fun h_571 => ?_)
                ·
                  have hE2_ : u_554 = u_567 := hE1_.trans (hF_.resolve_left (by omega))
                  refine s_aload_n E dX10_readNext_150 rfl rfl ?_
                  refine s_ldcS (i := 22) E (by decide) rfl dX10_readNext_151 ?_
                  refine s_vI (As := [AX (sA aC 22)]) (S := []) E (Z_X10_takes_95 l D aC b u_567  hj_570.1  22 (by decide) (by omega)) cv_X10_150 rfl rfl rfl (jv_lt hj_570 (by decide)) (Nat.le_of_ble_eq_true rfl) (Nat.le_of_ble_eq_true rfl) ⟨(Nat.le_of_ble_eq_true rfl), (Nat.le_of_ble_eq_true rfl)⟩ (Nat.le_of_ble_eq_true rfl) dX10_readNext_153 (fun z_574 u_572 hp_573 => ?_)
                  obtain ⟨hz_574, hxz_574, hf_u_572_101, hp_573⟩ := hp_573
                  have hj_575 := jv_trans hj_570 hp_573
                  have hfa_101_0 := congrArg Int32.toInt (congrFun hf_u_572_101 0)
                  have hfa_101_4 := congrArg Int32.toInt (congrFun hf_u_572_101 4)
                  have hfa_101_5 := congrArg Int32.toInt (congrFun hf_u_572_101 5)
                  have hfa_101_6 := congrArg Int32.toInt (congrFun hf_u_572_101 6)
                  have hfa_101_7 := congrArg Int32.toInt (congrFun hf_u_572_101 7)
                  have hfa_101_9 := congrArg Int32.toInt (congrFun hf_u_572_101 9)
                  have hT3_ := hxz_574.1
                  rw [← hE2_] at hT3_
                  have hG_ := hxz_574.2.1
                  refine z_if_eq (tgt := 224) (u := z_574.toInt) E dX10_readNext_156 (by decide) rfl (fun h_576 => ?_) (fun h_576 => ?_)
                  ·
                    have hd_ : ¬ (u_554.2.2.1 101 7).toInt = 10 := by first | exact (hq_.resolve_left (by omega)).2.2.2 (hw_30.mp (by omega)) | (exfalso; exact absurd (hT_.mpr (hw_3.mp (by omega))) (by omega)) | (exfalso; exact absurd (hT2_.mpr (hw_12.mp (by omega))) (by omega)) | (exfalso; exact absurd (hT3_.mpr (hw_21.mp (by omega))) (by omega)) | (exfalso; omega)
                    refine s_aload_n E dX10_readNext_224 rfl rfl ?_
                    refine s_vV (As := []) (S := []) E (Z_X10_advance_95 l D aC b u_572  hj_575.1 ) cv_X10_147 rfl rfl rfl (jv_lt hj_575 (by decide)) (Nat.le_of_ble_eq_true rfl) (Nat.le_of_ble_eq_true rfl) ⟨(Nat.le_of_ble_eq_true rfl), (Nat.le_of_ble_eq_true rfl)⟩ (Nat.le_of_ble_eq_true rfl) dX10_readNext_225 (fun u_577 hp_578 => ?_)
                    obtain ⟨hx_hp_578, hf_u_577_99, hf_u_577_101, hp_578⟩ := hp_578
                    have hj_579 := jv_trans hj_575 hp_578
                    have hfa_101_0 := congrArg Int32.toInt (congrFun hf_u_577_101 0)
                    have hfa_101_4 := congrArg Int32.toInt (congrFun hf_u_577_101 4)
                    have hfa_101_5 := congrArg Int32.toInt (congrFun hf_u_577_101 5)
                    have hfa_101_6 := congrArg Int32.toInt (congrFun hf_u_577_101 6)
                    have hfa_101_7 := congrArg Int32.toInt (congrFun hf_u_577_101 7)
                    have hfa_101_9 := congrArg Int32.toInt (congrFun hf_u_577_101 9)
                    refine s_aload_n E dX10_readNext_228 rfl rfl ?_
                    refine s_vV (As := []) (S := []) E (Z_X10_readBid_95 l D aC b u_577  hj_579.1  (by omega) (by omega)) cv_X10_206 rfl rfl rfl (jv_lt hj_579 (by decide)) (Nat.le_of_ble_eq_true rfl) (Nat.le_of_ble_eq_true rfl) ⟨(Nat.le_of_ble_eq_true rfl), (Nat.le_of_ble_eq_true rfl)⟩ (Nat.le_of_ble_eq_true rfl) dX10_readNext_229 (fun u_580 hp_581 => ?_)
                    obtain ⟨hx_hp_581, hp_581⟩ := hp_581
                    have hj_582 := jv_trans hj_579 hp_581
                    exact r_void E dX10_readNext_232 ⟨(by omega), hj_582⟩
                  ·
                    have hd_ : ¬ (u_554.2.2.1 101 6).toInt = 8 := by first | exact (hq_.resolve_left (by omega)).2.2.1 (hT3_.mp (by omega)) | (exfalso; omega)
                    refine s_bipush (v := 58) E dX10_readNext_159 (by decide) ?_
                    refine s_iconst (v := 2) E dX10_readNext_161 (by decide) ?_
                    refine s_aload_n E dX10_readNext_162 rfl rfl ?_
                    refine s_gR (r := 101) E fg_X10_31 rfl rfl (jv_lt hj_575 (by decide)) (jv_r hj_575 (by decide +kernel)) dX10_readNext_163 ?_
                    refine s_bipush (v := 6) E dX10_readNext_166 (by decide) ?_
                    refine s_iald E rfl (jv_lt hj_575 (by decide)) (z_in (u := 6) (by decide) (by omega) (by omega)) dX10_readNext_168 ?_
                    refine z_nm (P := fun z => z.toInt = (u_572.2.2.1 101 6).toInt ∧ 0 ≤ z.toInt ∧ z.toInt ≤ 8) ⟨rfl, (rw_101_6 hj_575)⟩ (fun z_583 hz_583 => ?_)
                    refine z_imul (u := 2) (v := z_583.toInt) E dX10_readNext_169 (by decide) rfl (by omega) (by omega) (fun z_584 hz_584 => ?_)
                    have hhz_584 : 0 ≤ z_584.toInt ∧ z_584.toInt ≤ 14 := by omega
                    refine z_iadd (u := 58) (v := z_584.toInt) E dX10_readNext_170 (by decide) rfl (by omega) (by omega) (fun z_585 hz_585 => ?_)
                    refine s_istore_n (L2 := [some (AR 95), some (AI 0), some (AI z_585)]) E dX10_readNext_171 rfl (by decide) rfl ?_
                    refine s_aload_n E dX10_readNext_172 rfl rfl ?_
                    refine s_gR (r := 101) E fg_X10_31 rfl rfl (jv_lt hj_575 (by decide)) (jv_r hj_575 (by decide +kernel)) dX10_readNext_173 ?_
                    refine s_iload_n E dX10_readNext_176 rfl rfl ?_
                    refine s_aload_n E dX10_readNext_177 rfl rfl ?_
                    refine s_ldcS (i := 27) E (by decide) rfl dX10_readNext_178 ?_
                    refine s_iconst (v := 0) E dX10_readNext_180 (by decide) ?_
                    refine s_aload_n E dX10_readNext_181 rfl rfl ?_
                    refine s_gR (r := 101) E fg_X10_31 rfl rfl (jv_lt hj_575 (by decide)) (jv_r hj_575 (by decide +kernel)) dX10_readNext_182 ?_
                    refine s_iconst (v := 5) E dX10_readNext_185 (by decide) ?_
                    refine s_iald E rfl (jv_lt hj_575 (by decide)) (z_in (u := 5) (by decide) (by omega) (by omega)) dX10_readNext_186 ?_
                    refine z_nm (P := fun z => z.toInt = (u_572.2.2.1 101 5).toInt ∧ 0 ≤ z.toInt ∧ z.toInt ≤ 6) ⟨rfl, (rw_101_5 hj_575)⟩ (fun z_586 hz_586 => ?_)
                    refine s_iconst (v := 1) E dX10_readNext_187 (by decide) ?_
                    refine z_isub (u := z_586.toInt) (v := 1) E dX10_readNext_188 rfl (by decide) (by omega) (by omega) (fun z_587 hz_587 => ?_)
                    refine s_vI (As := [AX (sA aC 27), AI 0, AI z_587]) (S := [AI z_585, AR 101]) E (Z_X10_told_95 l D aC b u_572 0 z_587 hj_575.1  27 (by decide) (by omega)) cv_X10_164 rfl rfl rfl (jv_lt hj_575 (by decide)) (Nat.le_of_ble_eq_true rfl) (Nat.le_of_ble_eq_true rfl) ⟨(Nat.le_of_ble_eq_true rfl), (Nat.le_of_ble_eq_true rfl)⟩ (Nat.le_of_ble_eq_true rfl) dX10_readNext_189 (fun z_590 u_588 hp_589 => ?_)
                    obtain ⟨hz_590, hxz_590, hf_u_588_101, hp_589⟩ := hp_589
                    have hc_ : (0 : Int32).toInt = 0 := by decide
                    have hj_591 := jv_trans hj_575 hp_589
                    have hfa_101_0 := congrArg Int32.toInt (congrFun hf_u_588_101 0)
                    have hfa_101_4 := congrArg Int32.toInt (congrFun hf_u_588_101 4)
                    have hfa_101_5 := congrArg Int32.toInt (congrFun hf_u_588_101 5)
                    have hfa_101_6 := congrArg Int32.toInt (congrFun hf_u_588_101 6)
                    have hfa_101_7 := congrArg Int32.toInt (congrFun hf_u_588_101 7)
                    have hfa_101_9 := congrArg Int32.toInt (congrFun hf_u_588_101 9)
                    have hrz_590 : 0 ≤ z_590.toInt ∧ z_590.toInt ≤ 5 := by omega
                    refine s_iast E rfl (jv_lt hj_591 (by decide)) (z_in (u := z_585.toInt) rfl (by omega) (by omega)) dX10_readNext_192 ?_
                    have hj_593 : Jv w (upI u_588 101 z_585.toNatClampNeg z_590) := (jv_a_101 (i := z_585) (x := z_590) hj_591 0 5 58 72 2 z_585.toInt (by decide +kernel) (by decide) rfl (by omega) (by omega) (by omega) (by have hb_ := z32 z_590; omega) (by have hb_ := z32 z_590; omega))
                    have hke_ : ((upI u_588 101 z_585.toNatClampNeg z_590).2.2.1 95 7).toInt = (u_588.2.2.1 95 7).toInt := rfl
                    have hke_ : ((upI u_588 101 z_585.toNatClampNeg z_590).2.2.1 95 8).toInt = (u_588.2.2.1 95 8).toInt := rfl
                    have hke_ : ((upI u_588 101 z_585.toNatClampNeg z_590).2.2.1 95 9).toInt = (u_588.2.2.1 95 9).toInt := rfl
                    have hke_ : ((upI u_588 101 z_585.toNatClampNeg z_590).2.2.1 95 10).toInt = (u_588.2.2.1 95 10).toInt := rfl
                    have hke_ : ((upI u_588 101 z_585.toNatClampNeg z_590).2.2.1 95 12).toInt = (u_588.2.2.1 95 12).toInt := rfl
                    have hke_ : ((upI u_588 101 z_585.toNatClampNeg z_590).2.2.1 101 0).toInt = (u_588.2.2.1 101 0).toInt := keep_ne (u := z_585.toInt) rfl (by omega) (by omega)
                    have hke_ : ((upI u_588 101 z_585.toNatClampNeg z_590).2.2.1 101 4).toInt = (u_588.2.2.1 101 4).toInt := keep_ne (u := z_585.toInt) rfl (by omega) (by omega)
                    have hke_ : ((upI u_588 101 z_585.toNatClampNeg z_590).2.2.1 101 5).toInt = (u_588.2.2.1 101 5).toInt := keep_ne (u := z_585.toInt) rfl (by omega) (by omega)
                    have hke_ : ((upI u_588 101 z_585.toNatClampNeg z_590).2.2.1 101 6).toInt = (u_588.2.2.1 101 6).toInt := keep_ne (u := z_585.toInt) rfl (by omega) (by omega)
                    have hke_ : ((upI u_588 101 z_585.toNatClampNeg z_590).2.2.1 101 7).toInt = (u_588.2.2.1 101 7).toInt := keep_ne (u := z_585.toInt) rfl (by omega) (by omega)
                    have hke_ : ((upI u_588 101 z_585.toNatClampNeg z_590).2.2.1 101 9).toInt = (u_588.2.2.1 101 9).toInt := keep_ne (u := z_585.toInt) rfl (by omega) (by omega)
                    refine s_aload_n E dX10_readNext_193 rfl rfl ?_
                    refine s_gR (r := 101) E fg_X10_31 rfl rfl (jv_lt hj_593 (by decide)) (jv_r hj_593 (by decide +kernel)) dX10_readNext_194 ?_
                    refine s_iload_n E dX10_readNext_197 rfl rfl ?_
                    refine s_iconst (v := 1) E dX10_readNext_198 (by decide) ?_
                    refine z_iadd (u := z_585.toInt) (v := 1) E dX10_readNext_199 rfl (by decide) (by omega) (by omega) (fun z_594 hz_594 => ?_)
                    refine s_aload_n E dX10_readNext_200 rfl rfl ?_
                    refine s_ldcS (i := 28) E (by decide) rfl dX10_readNext_201 ?_
                    refine s_iconst (v := 1) E dX10_readNext_203 (by decide) ?_
                    refine s_bipush (v := 20) E dX10_readNext_204 (by decide) ?_
                    refine s_vI (As := [AX (sA aC 28), AI 1, AI 20]) (S := [AI z_594, AR 101]) E (Z_X10_told_95 l D aC b (upI u_588 101 z_585.toNatClampNeg z_590) 1 20 hj_593.1  28 (by decide) (by omega)) cv_X10_164 rfl rfl rfl (jv_lt hj_593 (by decide)) (Nat.le_of_ble_eq_true rfl) (Nat.le_of_ble_eq_true rfl) ⟨(Nat.le_of_ble_eq_true rfl), (Nat.le_of_ble_eq_true rfl)⟩ (Nat.le_of_ble_eq_true rfl) dX10_readNext_206 (fun z_597 u_595 hp_596 => ?_)
                    obtain ⟨hz_597, hxz_597, hf_u_595_101, hp_596⟩ := hp_596
                    have hc_ : (1 : Int32).toInt = 1 := by decide
                    have hc_ : (20 : Int32).toInt = 20 := by decide
                    have hj_598 := jv_trans hj_593 hp_596
                    have hfa_101_0 := congrArg Int32.toInt (congrFun hf_u_595_101 0)
                    have hfa_101_4 := congrArg Int32.toInt (congrFun hf_u_595_101 4)
                    have hfa_101_5 := congrArg Int32.toInt (congrFun hf_u_595_101 5)
                    have hfa_101_6 := congrArg Int32.toInt (congrFun hf_u_595_101 6)
                    have hfa_101_7 := congrArg Int32.toInt (congrFun hf_u_595_101 7)
                    have hfa_101_9 := congrArg Int32.toInt (congrFun hf_u_595_101 9)
                    have hrz_597 : 0 ≤ z_597.toInt ∧ z_597.toInt ≤ 20 := by omega
                    refine s_iast E rfl (jv_lt hj_598 (by decide)) (z_in (u := z_594.toInt) rfl (by omega) (by omega)) dX10_readNext_209 ?_
                    have hj_600 : Jv w (upI u_595 101 z_594.toNatClampNeg z_597) := (jv_a_101 (i := z_594) (x := z_597) hj_598 0 20 59 73 2 z_594.toInt (by decide +kernel) (by decide) rfl (by omega) (by omega) (by omega) (by have hb_ := z32 z_597; omega) (by have hb_ := z32 z_597; omega))
                    have hke_ : ((upI u_595 101 z_594.toNatClampNeg z_597).2.2.1 95 7).toInt = (u_595.2.2.1 95 7).toInt := rfl
                    have hke_ : ((upI u_595 101 z_594.toNatClampNeg z_597).2.2.1 95 8).toInt = (u_595.2.2.1 95 8).toInt := rfl
                    have hke_ : ((upI u_595 101 z_594.toNatClampNeg z_597).2.2.1 95 9).toInt = (u_595.2.2.1 95 9).toInt := rfl
                    have hke_ : ((upI u_595 101 z_594.toNatClampNeg z_597).2.2.1 95 10).toInt = (u_595.2.2.1 95 10).toInt := rfl
                    have hke_ : ((upI u_595 101 z_594.toNatClampNeg z_597).2.2.1 95 12).toInt = (u_595.2.2.1 95 12).toInt := rfl
                    have hke_ : ((upI u_595 101 z_594.toNatClampNeg z_597).2.2.1 101 0).toInt = (u_595.2.2.1 101 0).toInt := keep_ne (u := z_594.toInt) rfl (by omega) (by omega)
                    have hke_ : ((upI u_595 101 z_594.toNatClampNeg z_597).2.2.1 101 4).toInt = (u_595.2.2.1 101 4).toInt := keep_ne (u := z_594.toInt) rfl (by omega) (by omega)
                    have hke_ : ((upI u_595 101 z_594.toNatClampNeg z_597).2.2.1 101 5).toInt = (u_595.2.2.1 101 5).toInt := keep_ne (u := z_594.toInt) rfl (by omega) (by omega)
                    have hke_ : ((upI u_595 101 z_594.toNatClampNeg z_597).2.2.1 101 6).toInt = (u_595.2.2.1 101 6).toInt := keep_ne (u := z_594.toInt) rfl (by omega) (by omega)
                    have hke_ : ((upI u_595 101 z_594.toNatClampNeg z_597).2.2.1 101 7).toInt = (u_595.2.2.1 101 7).toInt := keep_ne (u := z_594.toInt) rfl (by omega) (by omega)
                    have hke_ : ((upI u_595 101 z_594.toNatClampNeg z_597).2.2.1 101 9).toInt = (u_595.2.2.1 101 9).toInt := keep_ne (u := z_594.toInt) rfl (by omega) (by omega)
                    refine s_aload_n E dX10_readNext_210 rfl rfl ?_
                    refine s_gR (r := 101) E fg_X10_31 rfl rfl (jv_lt hj_600 (by decide)) (jv_r hj_600 (by decide +kernel)) dX10_readNext_211 ?_
                    refine s_bipush (v := 6) E dX10_readNext_214 (by decide) ?_
                    refine s_dup2 E dX10_readNext_216 ?_
                    refine s_iald E rfl (jv_lt hj_600 (by decide)) (z_in (u := 6) (by decide) (by omega) (by omega)) dX10_readNext_217 ?_
                    refine z_nm (P := fun z => z.toInt = ((upI u_595 101 z_594.toNatClampNeg z_597).2.2.1 101 6).toInt ∧ 0 ≤ z.toInt ∧ z.toInt ≤ 8) ⟨rfl, (rw_101_6 hj_600)⟩ (fun z_601 hz_601 => ?_)
                    refine s_iconst (v := 1) E dX10_readNext_218 (by decide) ?_
                    refine z_iadd (u := z_601.toInt) (v := 1) E dX10_readNext_219 rfl (by decide) (by omega) (by omega) (fun z_602 hz_602 => ?_)
                    have hhz_602 : 0 ≤ z_602.toInt ∧ z_602.toInt ≤ 8 := by omega
                    refine s_iast E rfl (jv_lt hj_600 (by decide)) (z_in (u := 6) (by decide) (by omega) (by omega)) dX10_readNext_220 ?_
                    have hj_604 : Jv w (upI (upI u_595 101 z_594.toNatClampNeg z_597) 101 6 z_602) := (jv_a_101 (i := 6) (x := z_602) hj_600 0 8 6 6 1 6 (by decide +kernel) (by decide) (by decide) (by omega) (by omega) (by omega) (by have hb_ := z32 z_602; omega) (by have hb_ := z32 z_602; omega))
                    have hke_ : ((upI (upI u_595 101 z_594.toNatClampNeg z_597) 101 6 z_602).2.2.1 95 7).toInt = ((upI u_595 101 z_594.toNatClampNeg z_597).2.2.1 95 7).toInt := rfl
                    have hke_ : ((upI (upI u_595 101 z_594.toNatClampNeg z_597) 101 6 z_602).2.2.1 95 8).toInt = ((upI u_595 101 z_594.toNatClampNeg z_597).2.2.1 95 8).toInt := rfl
                    have hke_ : ((upI (upI u_595 101 z_594.toNatClampNeg z_597) 101 6 z_602).2.2.1 95 9).toInt = ((upI u_595 101 z_594.toNatClampNeg z_597).2.2.1 95 9).toInt := rfl
                    have hke_ : ((upI (upI u_595 101 z_594.toNatClampNeg z_597) 101 6 z_602).2.2.1 95 10).toInt = ((upI u_595 101 z_594.toNatClampNeg z_597).2.2.1 95 10).toInt := rfl
                    have hke_ : ((upI (upI u_595 101 z_594.toNatClampNeg z_597) 101 6 z_602).2.2.1 95 12).toInt = ((upI u_595 101 z_594.toNatClampNeg z_597).2.2.1 95 12).toInt := rfl
                    have hke_ : ((upI (upI u_595 101 z_594.toNatClampNeg z_597) 101 6 z_602).2.2.1 101 0).toInt = ((upI u_595 101 z_594.toNatClampNeg z_597).2.2.1 101 0).toInt := rfl
                    have hke_ : ((upI (upI u_595 101 z_594.toNatClampNeg z_597) 101 6 z_602).2.2.1 101 4).toInt = ((upI u_595 101 z_594.toNatClampNeg z_597).2.2.1 101 4).toInt := rfl
                    have hke_ : ((upI (upI u_595 101 z_594.toNatClampNeg z_597) 101 6 z_602).2.2.1 101 5).toInt = ((upI u_595 101 z_594.toNatClampNeg z_597).2.2.1 101 5).toInt := rfl
                    have hke_ : ((upI (upI u_595 101 z_594.toNatClampNeg z_597) 101 6 z_602).2.2.1 101 6).toInt = z_602.toInt := rfl
                    have hke_ : ((upI (upI u_595 101 z_594.toNatClampNeg z_597) 101 6 z_602).2.2.1 101 7).toInt = ((upI u_595 101 z_594.toNatClampNeg z_597).2.2.1 101 7).toInt := rfl
                    have hke_ : ((upI (upI u_595 101 z_594.toNatClampNeg z_597) 101 6 z_602).2.2.1 101 9).toInt = ((upI u_595 101 z_594.toNatClampNeg z_597).2.2.1 101 9).toInt := rfl
                    refine s_goto (tgt := 232) E dX10_readNext_221 (by decide) ?_
                    exact r_void E dX10_readNext_232 ⟨(by omega), hj_604⟩
                ·
                  have hd_ : ¬ (u_554.2.2.1 101 5).toInt = 6 := by first | exact (hq_.resolve_left (by omega)).2.1 (hT2_.mp (by omega)) | (exfalso; omega)
                  refine s_bipush (v := 46) E dX10_readNext_96 (by decide) ?_
                  refine s_iconst (v := 2) E dX10_readNext_98 (by decide) ?_
                  refine s_aload_n E dX10_readNext_99 rfl rfl ?_
                  refine s_gR (r := 101) E fg_X10_31 rfl rfl (jv_lt hj_570 (by decide)) (jv_r hj_570 (by decide +kernel)) dX10_readNext_100 ?_
                  refine s_iconst (v := 5) E dX10_readNext_103 (by decide) ?_
                  refine s_iald E rfl (jv_lt hj_570 (by decide)) (z_in (u := 5) (by decide) (by omega) (by omega)) dX10_readNext_104 ?_
                  refine z_nm (P := fun z => z.toInt = (u_567.2.2.1 101 5).toInt ∧ 0 ≤ z.toInt ∧ z.toInt ≤ 6) ⟨rfl, (rw_101_5 hj_570)⟩ (fun z_605 hz_605 => ?_)
                  refine z_imul (u := 2) (v := z_605.toInt) E dX10_readNext_105 (by decide) rfl (by omega) (by omega) (fun z_606 hz_606 => ?_)
                  have hhz_606 : 0 ≤ z_606.toInt ∧ z_606.toInt ≤ 10 := by omega
                  refine z_iadd (u := 46) (v := z_606.toInt) E dX10_readNext_106 (by decide) rfl (by omega) (by omega) (fun z_607 hz_607 => ?_)
                  refine s_istore_n (L2 := [some (AR 95), some (AI 0), some (AI z_607)]) E dX10_readNext_107 rfl (by decide) rfl ?_
                  refine s_aload_n E dX10_readNext_108 rfl rfl ?_
                  refine s_gR (r := 101) E fg_X10_31 rfl rfl (jv_lt hj_570 (by decide)) (jv_r hj_570 (by decide +kernel)) dX10_readNext_109 ?_
                  refine s_iload_n E dX10_readNext_112 rfl rfl ?_
                  refine s_aload_n E dX10_readNext_113 rfl rfl ?_
                  refine s_ldcS (i := 26) E (by decide) rfl dX10_readNext_114 ?_
                  refine s_vI (As := [AX (sA aC 26)]) (S := [AI z_607, AR 101]) E (Z_X10_freshRoom_95 l D aC b u_567  hj_570.1  26 (by decide) (by omega)) cv_X10_182 rfl rfl rfl (jv_lt hj_570 (by decide)) (Nat.le_of_ble_eq_true rfl) (Nat.le_of_ble_eq_true rfl) ⟨(Nat.le_of_ble_eq_true rfl), (Nat.le_of_ble_eq_true rfl)⟩ (Nat.le_of_ble_eq_true rfl) dX10_readNext_116 (fun z_610 u_608 hp_609 => ?_)
                  obtain ⟨hz_610, hxz_610, hf_u_608_101, hp_609⟩ := hp_609
                  have hj_611 := jv_trans hj_570 hp_609
                  have hfa_101_0 := congrArg Int32.toInt (congrFun hf_u_608_101 0)
                  have hfa_101_4 := congrArg Int32.toInt (congrFun hf_u_608_101 4)
                  have hfa_101_5 := congrArg Int32.toInt (congrFun hf_u_608_101 5)
                  have hfa_101_6 := congrArg Int32.toInt (congrFun hf_u_608_101 6)
                  have hfa_101_7 := congrArg Int32.toInt (congrFun hf_u_608_101 7)
                  have hfa_101_9 := congrArg Int32.toInt (congrFun hf_u_608_101 9)
                  have hrz_610 : 0 ≤ z_610.toInt ∧ z_610.toInt ≤ 7 := by omega
                  refine s_iast E rfl (jv_lt hj_611 (by decide)) (z_in (u := z_607.toInt) rfl (by omega) (by omega)) dX10_readNext_119 ?_
                  have hj_613 : Jv w (upI u_608 101 z_607.toNatClampNeg z_610) := (jv_a_101 (i := z_607) (x := z_610) hj_611 0 7 46 56 2 z_607.toInt (by decide +kernel) (by decide) rfl (by omega) (by omega) (by omega) (by have hb_ := z32 z_610; omega) (by have hb_ := z32 z_610; omega))
                  have hke_ : ((upI u_608 101 z_607.toNatClampNeg z_610).2.2.1 95 7).toInt = (u_608.2.2.1 95 7).toInt := rfl
                  have hke_ : ((upI u_608 101 z_607.toNatClampNeg z_610).2.2.1 95 8).toInt = (u_608.2.2.1 95 8).toInt := rfl
                  have hke_ : ((upI u_608 101 z_607.toNatClampNeg z_610).2.2.1 95 9).toInt = (u_608.2.2.1 95 9).toInt := rfl
                  have hke_ : ((upI u_608 101 z_607.toNatClampNeg z_610).2.2.1 95 10).toInt = (u_608.2.2.1 95 10).toInt := rfl
                  have hke_ : ((upI u_608 101 z_607.toNatClampNeg z_610).2.2.1 95 12).toInt = (u_608.2.2.1 95 12).toInt := rfl
                  have hke_ : ((upI u_608 101 z_607.toNatClampNeg z_610).2.2.1 101 0).toInt = (u_608.2.2.1 101 0).toInt := keep_ne (u := z_607.toInt) rfl (by omega) (by omega)
                  have hke_ : ((upI u_608 101 z_607.toNatClampNeg z_610).2.2.1 101 4).toInt = (u_608.2.2.1 101 4).toInt := keep_ne (u := z_607.toInt) rfl (by omega) (by omega)
                  have hke_ : ((upI u_608 101 z_607.toNatClampNeg z_610).2.2.1 101 5).toInt = (u_608.2.2.1 101 5).toInt := keep_ne (u := z_607.toInt) rfl (by omega) (by omega)
                  have hke_ : ((upI u_608 101 z_607.toNatClampNeg z_610).2.2.1 101 6).toInt = (u_608.2.2.1 101 6).toInt := keep_ne (u := z_607.toInt) rfl (by omega) (by omega)
                  have hke_ : ((upI u_608 101 z_607.toNatClampNeg z_610).2.2.1 101 7).toInt = (u_608.2.2.1 101 7).toInt := keep_ne (u := z_607.toInt) rfl (by omega) (by omega)
                  have hke_ : ((upI u_608 101 z_607.toNatClampNeg z_610).2.2.1 101 9).toInt = (u_608.2.2.1 101 9).toInt := keep_ne (u := z_607.toInt) rfl (by omega) (by omega)
                  refine s_aload_n E dX10_readNext_120 rfl rfl ?_
                  refine s_gR (r := 101) E fg_X10_31 rfl rfl (jv_lt hj_613 (by decide)) (jv_r hj_613 (by decide +kernel)) dX10_readNext_121 ?_
                  refine s_iload_n E dX10_readNext_124 rfl rfl ?_
                  refine s_iconst (v := 1) E dX10_readNext_125 (by decide) ?_
                  refine z_iadd (u := z_607.toInt) (v := 1) E dX10_readNext_126 rfl (by decide) (by omega) (by omega) (fun z_614 hz_614 => ?_)
                  refine s_aload_n E dX10_readNext_127 rfl rfl ?_
                  refine s_ldcS (i := 25) E (by decide) rfl dX10_readNext_128 ?_
                  refine s_iconst (v := 1) E dX10_readNext_130 (by decide) ?_
                  refine s_bipush (v := 9) E dX10_readNext_131 (by decide) ?_
                  refine s_vI (As := [AX (sA aC 25), AI 1, AI 9]) (S := [AI z_614, AR 101]) E (Z_X10_told_95 l D aC b (upI u_608 101 z_607.toNatClampNeg z_610) 1 9 hj_613.1  25 (by decide) (by omega)) cv_X10_164 rfl rfl rfl (jv_lt hj_613 (by decide)) (Nat.le_of_ble_eq_true rfl) (Nat.le_of_ble_eq_true rfl) ⟨(Nat.le_of_ble_eq_true rfl), (Nat.le_of_ble_eq_true rfl)⟩ (Nat.le_of_ble_eq_true rfl) dX10_readNext_133 (fun z_617 u_615 hp_616 => ?_)
                  obtain ⟨hz_617, hxz_617, hf_u_615_101, hp_616⟩ := hp_616
                  have hc_ : (1 : Int32).toInt = 1 := by decide
                  have hc_ : (9 : Int32).toInt = 9 := by decide
                  have hj_618 := jv_trans hj_613 hp_616
                  have hfa_101_0 := congrArg Int32.toInt (congrFun hf_u_615_101 0)
                  have hfa_101_4 := congrArg Int32.toInt (congrFun hf_u_615_101 4)
                  have hfa_101_5 := congrArg Int32.toInt (congrFun hf_u_615_101 5)
                  have hfa_101_6 := congrArg Int32.toInt (congrFun hf_u_615_101 6)
                  have hfa_101_7 := congrArg Int32.toInt (congrFun hf_u_615_101 7)
                  have hfa_101_9 := congrArg Int32.toInt (congrFun hf_u_615_101 9)
                  have hrz_617 : 0 ≤ z_617.toInt ∧ z_617.toInt ≤ 9 := by omega
                  have hLw_ : (u_615.2.2.1 95 12).toInt = 0 → 1 ≤ z_617.toInt := by intro h0_; omega
                  refine s_iast E rfl (jv_lt hj_618 (by decide)) (z_in (u := z_614.toInt) rfl (by omega) (by omega)) dX10_readNext_136 ?_
                  have hj_620 : Jv w (upI u_615 101 z_614.toNatClampNeg z_617) := (jv_lad hj_618 (by omega) (by omega) (by omega) (by have hb_ := z32 z_617; omega) (by have hb_ := z32 z_617; omega))
                  have hke_ : ((upI u_615 101 z_614.toNatClampNeg z_617).2.2.1 95 7).toInt = (u_615.2.2.1 95 7).toInt := rfl
                  have hke_ : ((upI u_615 101 z_614.toNatClampNeg z_617).2.2.1 95 8).toInt = (u_615.2.2.1 95 8).toInt := rfl
                  have hke_ : ((upI u_615 101 z_614.toNatClampNeg z_617).2.2.1 95 9).toInt = (u_615.2.2.1 95 9).toInt := rfl
                  have hke_ : ((upI u_615 101 z_614.toNatClampNeg z_617).2.2.1 95 10).toInt = (u_615.2.2.1 95 10).toInt := rfl
                  have hke_ : ((upI u_615 101 z_614.toNatClampNeg z_617).2.2.1 95 12).toInt = (u_615.2.2.1 95 12).toInt := rfl
                  have hke_ : ((upI u_615 101 z_614.toNatClampNeg z_617).2.2.1 101 0).toInt = (u_615.2.2.1 101 0).toInt := keep_ne (u := z_614.toInt) rfl (by omega) (by omega)
                  have hke_ : ((upI u_615 101 z_614.toNatClampNeg z_617).2.2.1 101 4).toInt = (u_615.2.2.1 101 4).toInt := keep_ne (u := z_614.toInt) rfl (by omega) (by omega)
                  have hke_ : ((upI u_615 101 z_614.toNatClampNeg z_617).2.2.1 101 5).toInt = (u_615.2.2.1 101 5).toInt := keep_ne (u := z_614.toInt) rfl (by omega) (by omega)
                  have hke_ : ((upI u_615 101 z_614.toNatClampNeg z_617).2.2.1 101 6).toInt = (u_615.2.2.1 101 6).toInt := keep_ne (u := z_614.toInt) rfl (by omega) (by omega)
                  have hke_ : ((upI u_615 101 z_614.toNatClampNeg z_617).2.2.1 101 7).toInt = (u_615.2.2.1 101 7).toInt := keep_ne (u := z_614.toInt) rfl (by omega) (by omega)
                  have hke_ : ((upI u_615 101 z_614.toNatClampNeg z_617).2.2.1 101 9).toInt = (u_615.2.2.1 101 9).toInt := keep_ne (u := z_614.toInt) rfl (by omega) (by omega)
                  refine s_aload_n E dX10_readNext_137 rfl rfl ?_
                  refine s_gR (r := 101) E fg_X10_31 rfl rfl (jv_lt hj_620 (by decide)) (jv_r hj_620 (by decide +kernel)) dX10_readNext_138 ?_
                  refine s_iconst (v := 5) E dX10_readNext_141 (by decide) ?_
                  refine s_dup2 E dX10_readNext_142 ?_
                  refine s_iald E rfl (jv_lt hj_620 (by decide)) (z_in (u := 5) (by decide) (by omega) (by omega)) dX10_readNext_143 ?_
                  refine z_nm (P := fun z => z.toInt = ((upI u_615 101 z_614.toNatClampNeg z_617).2.2.1 101 5).toInt ∧ 0 ≤ z.toInt ∧ z.toInt ≤ 6) ⟨rfl, (rw_101_5 hj_620)⟩ (fun z_621 hz_621 => ?_)
                  refine s_iconst (v := 1) E dX10_readNext_144 (by decide) ?_
                  refine z_iadd (u := z_621.toInt) (v := 1) E dX10_readNext_145 rfl (by decide) (by omega) (by omega) (fun z_622 hz_622 => ?_)
                  have hhz_622 : 0 ≤ z_622.toInt ∧ z_622.toInt ≤ 6 := by omega
                  refine s_iast E rfl (jv_lt hj_620 (by decide)) (z_in (u := 5) (by decide) (by omega) (by omega)) dX10_readNext_146 ?_
                  have hj_624 : Jv w (upI (upI u_615 101 z_614.toNatClampNeg z_617) 101 5 z_622) := (jv_lad5 hj_620 (by omega) (by omega) (by omega) (lad_fin (by omega) (by omega) hLw_))
                  have hke_ : ((upI (upI u_615 101 z_614.toNatClampNeg z_617) 101 5 z_622).2.2.1 95 7).toInt = ((upI u_615 101 z_614.toNatClampNeg z_617).2.2.1 95 7).toInt := rfl
                  have hke_ : ((upI (upI u_615 101 z_614.toNatClampNeg z_617) 101 5 z_622).2.2.1 95 8).toInt = ((upI u_615 101 z_614.toNatClampNeg z_617).2.2.1 95 8).toInt := rfl
                  have hke_ : ((upI (upI u_615 101 z_614.toNatClampNeg z_617) 101 5 z_622).2.2.1 95 9).toInt = ((upI u_615 101 z_614.toNatClampNeg z_617).2.2.1 95 9).toInt := rfl
                  have hke_ : ((upI (upI u_615 101 z_614.toNatClampNeg z_617) 101 5 z_622).2.2.1 95 10).toInt = ((upI u_615 101 z_614.toNatClampNeg z_617).2.2.1 95 10).toInt := rfl
                  have hke_ : ((upI (upI u_615 101 z_614.toNatClampNeg z_617) 101 5 z_622).2.2.1 95 12).toInt = ((upI u_615 101 z_614.toNatClampNeg z_617).2.2.1 95 12).toInt := rfl
                  have hke_ : ((upI (upI u_615 101 z_614.toNatClampNeg z_617) 101 5 z_622).2.2.1 101 0).toInt = ((upI u_615 101 z_614.toNatClampNeg z_617).2.2.1 101 0).toInt := rfl
                  have hke_ : ((upI (upI u_615 101 z_614.toNatClampNeg z_617) 101 5 z_622).2.2.1 101 4).toInt = ((upI u_615 101 z_614.toNatClampNeg z_617).2.2.1 101 4).toInt := rfl
                  have hke_ : ((upI (upI u_615 101 z_614.toNatClampNeg z_617) 101 5 z_622).2.2.1 101 5).toInt = z_622.toInt := rfl
                  have hke_ : ((upI (upI u_615 101 z_614.toNatClampNeg z_617) 101 5 z_622).2.2.1 101 6).toInt = ((upI u_615 101 z_614.toNatClampNeg z_617).2.2.1 101 6).toInt := rfl
                  have hke_ : ((upI (upI u_615 101 z_614.toNatClampNeg z_617) 101 5 z_622).2.2.1 101 7).toInt = ((upI u_615 101 z_614.toNatClampNeg z_617).2.2.1 101 7).toInt := rfl
                  have hke_ : ((upI (upI u_615 101 z_614.toNatClampNeg z_617) 101 5 z_622).2.2.1 101 9).toInt = ((upI u_615 101 z_614.toNatClampNeg z_617).2.2.1 101 9).toInt := rfl
                  refine s_goto (tgt := 232) E dX10_readNext_147 (by decide) ?_
                  exact r_void E dX10_readNext_232 ⟨(by omega), hj_624⟩
              ·
                have hd_ : ¬ (u_554.2.2.1 101 4).toInt = 12 := by first | exact (hq_.resolve_left (by omega)).1 (hT_.mp (by omega)) | (exfalso; omega)
                refine s_aload_n E dX10_readNext_80 rfl rfl ?_
                refine s_vV (As := []) (S := []) E (Z_X10_readDoor_95 l D aC b u_562  hj_565.1  (by omega) (by omega)) cv_X10_198 rfl rfl rfl (jv_lt hj_565 (by decide)) (Nat.le_of_ble_eq_true rfl) (Nat.le_of_ble_eq_true rfl) ⟨(Nat.le_of_ble_eq_true rfl), (Nat.le_of_ble_eq_true rfl)⟩ (Nat.le_of_ble_eq_true rfl) dX10_readNext_81 (fun u_625 hp_626 => ?_)
                obtain ⟨hx_hp_626, hp_626⟩ := hp_626
                have hj_627 := jv_trans hj_565 hp_626
                refine s_goto (tgt := 232) E dX10_readNext_84 (by decide) ?_
                exact r_void E dX10_readNext_232 ⟨(by omega), hj_627⟩
            ·
              exact r_void E dX10_readNext_70 ⟨(by omega), hj_556⟩
        ·
          refine s_iconst (v := 1) E dX10_readNext_36 (by decide) ?_
          refine s_goto (tgt := 41) E dX10_readNext_37 (by decide) ?_
          refine s_istore_n (L2 := [some (AR 95), some (AI 1), none]) E dX10_readNext_41 rfl (by decide) rfl ?_
          refine s_iload_n E dX10_readNext_42 rfl rfl ?_
          refine z_if_ne (tgt := 51) (u := 1) E dX10_readNext_43 (by decide) (by decide) (fun h_628 => ?_) (fun h_628 => absurd h_628 (by omega))
          refine s_aload_n E dX10_readNext_51 rfl rfl ?_
          refine s_vI (As := []) (S := []) E (Z_X10_isFull_95 l D aC b w  hJ.1 ) cv_X10_195 rfl rfl rfl (jv_lt hJ (by decide)) (Nat.le_of_ble_eq_true rfl) (Nat.le_of_ble_eq_true rfl) ⟨(Nat.le_of_ble_eq_true rfl), (Nat.le_of_ble_eq_true rfl)⟩ (Nat.le_of_ble_eq_true rfl) dX10_readNext_52 (fun z_631 u_629 hp_630 => ?_)
          obtain ⟨hz_631, hxz_631, hp_630⟩ := hp_630
          subst hp_630
          have hq_ := hxz_631
          refine z_if_eq (tgt := 63) (u := z_631.toInt) E dX10_readNext_55 (by decide) rfl (fun h_633 => ?_) (fun h_633 => ?_)
          ·
            refine s_aload_n E dX10_readNext_63 rfl rfl ?_
            refine s_vI (As := []) (S := []) E (Z_X10_good_95 l D aC b w  hJ.1 ) cv_X10_130 rfl rfl rfl (jv_lt hJ (by decide)) (Nat.le_of_ble_eq_true rfl) (Nat.le_of_ble_eq_true rfl) ⟨(Nat.le_of_ble_eq_true rfl), (Nat.le_of_ble_eq_true rfl)⟩ (Nat.le_of_ble_eq_true rfl) dX10_readNext_64 (fun z_636 u_634 hp_635 => ?_)
            obtain ⟨hz_636, hxz_636, hp_635⟩ := hp_635
            subst hp_635
            refine z_if_ne (tgt := 71) (u := z_636.toInt) E dX10_readNext_67 (by decide) rfl (fun h_638 => ?_) (fun h_638 => ?_)
            ·
              have hn4_ := rw_101_4 hJ
              have hn5_ := rw_101_5 hJ
              have hn6_ := rw_101_6 hJ
              have hn7_ := rw_101_7 hJ
              refine s_aload_n E dX10_readNext_71 rfl rfl ?_
              refine s_ldcS (i := 20) E (by decide) rfl dX10_readNext_72 ?_
              refine s_vI (As := [AX (sA aC 20)]) (S := []) E (Z_X10_takes_95 l D aC b w  hJ.1  20 (by decide) (by omega)) cv_X10_150 rfl rfl rfl (jv_lt hJ (by decide)) (Nat.le_of_ble_eq_true rfl) (Nat.le_of_ble_eq_true rfl) ⟨(Nat.le_of_ble_eq_true rfl), (Nat.le_of_ble_eq_true rfl)⟩ (Nat.le_of_ble_eq_true rfl) dX10_readNext_74 (fun z_641 u_639 hp_640 => ?_)
              obtain ⟨hz_641, hxz_641, hf_u_639_101, hp_640⟩ := hp_640
              have hj_642 := jv_trans hJ hp_640
              have hfa_101_0 := congrArg Int32.toInt (congrFun hf_u_639_101 0)
              have hfa_101_4 := congrArg Int32.toInt (congrFun hf_u_639_101 4)
              have hfa_101_5 := congrArg Int32.toInt (congrFun hf_u_639_101 5)
              have hfa_101_6 := congrArg Int32.toInt (congrFun hf_u_639_101 6)
              have hfa_101_7 := congrArg Int32.toInt (congrFun hf_u_639_101 7)
              have hfa_101_9 := congrArg Int32.toInt (congrFun hf_u_639_101 9)
              have hT_ := hxz_641.1
              have hE_ := hxz_641.2.1
              refine z_if_eq (tgt := 87) (u := z_641.toInt) E dX10_readNext_77 (by decide) rfl (fun h_643 => ?_) (fun h_643 => ?_)
              ·
                have hE1_ : w = u_639 := hE_.resolve_left (by omega)
                refine s_aload_n E dX10_readNext_87 rfl rfl ?_
                refine s_ldcS (i := 21) E (by decide) rfl dX10_readNext_88 ?_
                refine s_vI (As := [AX (sA aC 21)]) (S := []) E (Z_X10_takes_95 l D aC b u_639  hj_642.1  21 (by decide) (by omega)) cv_X10_150 rfl rfl rfl (jv_lt hj_642 (by decide)) (Nat.le_of_ble_eq_true rfl) (Nat.le_of_ble_eq_true rfl) ⟨(Nat.le_of_ble_eq_true rfl), (Nat.le_of_ble_eq_true rfl)⟩ (Nat.le_of_ble_eq_true rfl) dX10_readNext_90 (fun z_646 u_644 hp_645 => ?_)
                obtain ⟨hz_646, hxz_646, hf_u_644_101, hp_645⟩ := hp_645
                have hj_647 := jv_trans hj_642 hp_645
                have hfa_101_0 := congrArg Int32.toInt (congrFun hf_u_644_101 0)
                have hfa_101_4 := congrArg Int32.toInt (congrFun hf_u_644_101 4)
                have hfa_101_5 := congrArg Int32.toInt (congrFun hf_u_644_101 5)
                have hfa_101_6 := congrArg Int32.toInt (congrFun hf_u_644_101 6)
                have hfa_101_7 := congrArg Int32.toInt (congrFun hf_u_644_101 7)
                have hfa_101_9 := congrArg Int32.toInt (congrFun hf_u_644_101 9)
                have hT2_ := hxz_646.1
                rw [← hE1_] at hT2_
                have hF_ := hxz_646.2.1
                refine z_if_eq (tgt := 150) (u := z_646.toInt) E dX10_readNext_93 (by decide) rfl (fun h_648 => ?_) (fun h_648 => ?_)
                ·
                  have hE2_ : w = u_644 := hE1_.trans (hF_.resolve_left (by omega))
                  refine s_aload_n E dX10_readNext_150 rfl rfl ?_
                  refine s_ldcS (i := 22) E (by decide) rfl dX10_readNext_151 ?_
                  refine s_vI (As := [AX (sA aC 22)]) (S := []) E (Z_X10_takes_95 l D aC b u_644  hj_647.1  22 (by decide) (by omega)) cv_X10_150 rfl rfl rfl (jv_lt hj_647 (by decide)) (Nat.le_of_ble_eq_true rfl) (Nat.le_of_ble_eq_true rfl) ⟨(Nat.le_of_ble_eq_true rfl), (Nat.le_of_ble_eq_true rfl)⟩ (Nat.le_of_ble_eq_true rfl) dX10_readNext_153 (fun z_651 u_649 hp_650 => ?_)
                  obtain ⟨hz_651, hxz_651, hf_u_649_101, hp_650⟩ := hp_650
                  have hj_652 := jv_trans hj_647 hp_650
                  have hfa_101_0 := congrArg Int32.toInt (congrFun hf_u_649_101 0)
                  have hfa_101_4 := congrArg Int32.toInt (congrFun hf_u_649_101 4)
                  have hfa_101_5 := congrArg Int32.toInt (congrFun hf_u_649_101 5)
                  have hfa_101_6 := congrArg Int32.toInt (congrFun hf_u_649_101 6)
                  have hfa_101_7 := congrArg Int32.toInt (congrFun hf_u_649_101 7)
                  have hfa_101_9 := congrArg Int32.toInt (congrFun hf_u_649_101 9)
                  have hT3_ := hxz_651.1
                  rw [← hE2_] at hT3_
                  have hG_ := hxz_651.2.1
                  refine z_if_eq (tgt := 224) (u := z_651.toInt) E dX10_readNext_156 (by decide) rfl (fun h_653 => ?_) (fun h_653 => ?_)
                  ·
                    have hd_ : ¬ (w.2.2.1 101 7).toInt = 10 := by first | exact (hq_.resolve_left (by omega)).2.2.2 (hw_30.mp (by omega)) | (exfalso; exact absurd (hT_.mpr (hw_3.mp (by omega))) (by omega)) | (exfalso; exact absurd (hT2_.mpr (hw_12.mp (by omega))) (by omega)) | (exfalso; exact absurd (hT3_.mpr (hw_21.mp (by omega))) (by omega)) | (exfalso; omega)
                    refine s_aload_n E dX10_readNext_224 rfl rfl ?_
                    refine s_vV (As := []) (S := []) E (Z_X10_advance_95 l D aC b u_649  hj_652.1 ) cv_X10_147 rfl rfl rfl (jv_lt hj_652 (by decide)) (Nat.le_of_ble_eq_true rfl) (Nat.le_of_ble_eq_true rfl) ⟨(Nat.le_of_ble_eq_true rfl), (Nat.le_of_ble_eq_true rfl)⟩ (Nat.le_of_ble_eq_true rfl) dX10_readNext_225 (fun u_654 hp_655 => ?_)
                    obtain ⟨hx_hp_655, hf_u_654_99, hf_u_654_101, hp_655⟩ := hp_655
                    have hj_656 := jv_trans hj_652 hp_655
                    have hfa_101_0 := congrArg Int32.toInt (congrFun hf_u_654_101 0)
                    have hfa_101_4 := congrArg Int32.toInt (congrFun hf_u_654_101 4)
                    have hfa_101_5 := congrArg Int32.toInt (congrFun hf_u_654_101 5)
                    have hfa_101_6 := congrArg Int32.toInt (congrFun hf_u_654_101 6)
                    have hfa_101_7 := congrArg Int32.toInt (congrFun hf_u_654_101 7)
                    have hfa_101_9 := congrArg Int32.toInt (congrFun hf_u_654_101 9)
                    refine s_aload_n E dX10_readNext_228 rfl rfl ?_
                    refine s_vV (As := []) (S := []) E (Z_X10_readBid_95 l D aC b u_654  hj_656.1  (by omega) (by omega)) cv_X10_206 rfl rfl rfl (jv_lt hj_656 (by decide)) (Nat.le_of_ble_eq_true rfl) (Nat.le_of_ble_eq_true rfl) ⟨(Nat.le_of_ble_eq_true rfl), (Nat.le_of_ble_eq_true rfl)⟩ (Nat.le_of_ble_eq_true rfl) dX10_readNext_229 (fun u_657 hp_658 => ?_)
                    obtain ⟨hx_hp_658, hp_658⟩ := hp_658
                    have hj_659 := jv_trans hj_656 hp_658
                    exact r_void E dX10_readNext_232 ⟨(by omega), hj_659⟩
                  ·
                    have hd_ : ¬ (w.2.2.1 101 6).toInt = 8 := by first | exact (hq_.resolve_left (by omega)).2.2.1 (hT3_.mp (by omega)) | (exfalso; omega)
                    refine s_bipush (v := 58) E dX10_readNext_159 (by decide) ?_
                    refine s_iconst (v := 2) E dX10_readNext_161 (by decide) ?_
                    refine s_aload_n E dX10_readNext_162 rfl rfl ?_
                    refine s_gR (r := 101) E fg_X10_31 rfl rfl (jv_lt hj_652 (by decide)) (jv_r hj_652 (by decide +kernel)) dX10_readNext_163 ?_
                    refine s_bipush (v := 6) E dX10_readNext_166 (by decide) ?_
                    refine s_iald E rfl (jv_lt hj_652 (by decide)) (z_in (u := 6) (by decide) (by omega) (by omega)) dX10_readNext_168 ?_
                    refine z_nm (P := fun z => z.toInt = (u_649.2.2.1 101 6).toInt ∧ 0 ≤ z.toInt ∧ z.toInt ≤ 8) ⟨rfl, (rw_101_6 hj_652)⟩ (fun z_660 hz_660 => ?_)
                    refine z_imul (u := 2) (v := z_660.toInt) E dX10_readNext_169 (by decide) rfl (by omega) (by omega) (fun z_661 hz_661 => ?_)
                    have hhz_661 : 0 ≤ z_661.toInt ∧ z_661.toInt ≤ 14 := by omega
                    refine z_iadd (u := 58) (v := z_661.toInt) E dX10_readNext_170 (by decide) rfl (by omega) (by omega) (fun z_662 hz_662 => ?_)
                    refine s_istore_n (L2 := [some (AR 95), some (AI 1), some (AI z_662)]) E dX10_readNext_171 rfl (by decide) rfl ?_
                    refine s_aload_n E dX10_readNext_172 rfl rfl ?_
                    refine s_gR (r := 101) E fg_X10_31 rfl rfl (jv_lt hj_652 (by decide)) (jv_r hj_652 (by decide +kernel)) dX10_readNext_173 ?_
                    refine s_iload_n E dX10_readNext_176 rfl rfl ?_
                    refine s_aload_n E dX10_readNext_177 rfl rfl ?_
                    refine s_ldcS (i := 27) E (by decide) rfl dX10_readNext_178 ?_
                    refine s_iconst (v := 0) E dX10_readNext_180 (by decide) ?_
                    refine s_aload_n E dX10_readNext_181 rfl rfl ?_
                    refine s_gR (r := 101) E fg_X10_31 rfl rfl (jv_lt hj_652 (by decide)) (jv_r hj_652 (by decide +kernel)) dX10_readNext_182 ?_
                    refine s_iconst (v := 5) E dX10_readNext_185 (by decide) ?_
                    refine s_iald E rfl (jv_lt hj_652 (by decide)) (z_in (u := 5) (by decide) (by omega) (by omega)) dX10_readNext_186 ?_
                    refine z_nm (P := fun z => z.toInt = (u_649.2.2.1 101 5).toInt ∧ 0 ≤ z.toInt ∧ z.toInt ≤ 6) ⟨rfl, (rw_101_5 hj_652)⟩ (fun z_663 hz_663 => ?_)
                    refine s_iconst (v := 1) E dX10_readNext_187 (by decide) ?_
                    refine z_isub (u := z_663.toInt) (v := 1) E dX10_readNext_188 rfl (by decide) (by omega) (by omega) (fun z_664 hz_664 => ?_)
                    refine s_vI (As := [AX (sA aC 27), AI 0, AI z_664]) (S := [AI z_662, AR 101]) E (Z_X10_told_95 l D aC b u_649 0 z_664 hj_652.1  27 (by decide) (by omega)) cv_X10_164 rfl rfl rfl (jv_lt hj_652 (by decide)) (Nat.le_of_ble_eq_true rfl) (Nat.le_of_ble_eq_true rfl) ⟨(Nat.le_of_ble_eq_true rfl), (Nat.le_of_ble_eq_true rfl)⟩ (Nat.le_of_ble_eq_true rfl) dX10_readNext_189 (fun z_667 u_665 hp_666 => ?_)
                    obtain ⟨hz_667, hxz_667, hf_u_665_101, hp_666⟩ := hp_666
                    have hc_ : (0 : Int32).toInt = 0 := by decide
                    have hj_668 := jv_trans hj_652 hp_666
                    have hfa_101_0 := congrArg Int32.toInt (congrFun hf_u_665_101 0)
                    have hfa_101_4 := congrArg Int32.toInt (congrFun hf_u_665_101 4)
                    have hfa_101_5 := congrArg Int32.toInt (congrFun hf_u_665_101 5)
                    have hfa_101_6 := congrArg Int32.toInt (congrFun hf_u_665_101 6)
                    have hfa_101_7 := congrArg Int32.toInt (congrFun hf_u_665_101 7)
                    have hfa_101_9 := congrArg Int32.toInt (congrFun hf_u_665_101 9)
                    have hrz_667 : 0 ≤ z_667.toInt ∧ z_667.toInt ≤ 5 := by omega
                    refine s_iast E rfl (jv_lt hj_668 (by decide)) (z_in (u := z_662.toInt) rfl (by omega) (by omega)) dX10_readNext_192 ?_
                    have hj_670 : Jv w (upI u_665 101 z_662.toNatClampNeg z_667) := (jv_a_101 (i := z_662) (x := z_667) hj_668 0 5 58 72 2 z_662.toInt (by decide +kernel) (by decide) rfl (by omega) (by omega) (by omega) (by have hb_ := z32 z_667; omega) (by have hb_ := z32 z_667; omega))
                    have hke_ : ((upI u_665 101 z_662.toNatClampNeg z_667).2.2.1 95 7).toInt = (u_665.2.2.1 95 7).toInt := rfl
                    have hke_ : ((upI u_665 101 z_662.toNatClampNeg z_667).2.2.1 95 8).toInt = (u_665.2.2.1 95 8).toInt := rfl
                    have hke_ : ((upI u_665 101 z_662.toNatClampNeg z_667).2.2.1 95 9).toInt = (u_665.2.2.1 95 9).toInt := rfl
                    have hke_ : ((upI u_665 101 z_662.toNatClampNeg z_667).2.2.1 95 10).toInt = (u_665.2.2.1 95 10).toInt := rfl
                    have hke_ : ((upI u_665 101 z_662.toNatClampNeg z_667).2.2.1 95 12).toInt = (u_665.2.2.1 95 12).toInt := rfl
                    have hke_ : ((upI u_665 101 z_662.toNatClampNeg z_667).2.2.1 101 0).toInt = (u_665.2.2.1 101 0).toInt := keep_ne (u := z_662.toInt) rfl (by omega) (by omega)
                    have hke_ : ((upI u_665 101 z_662.toNatClampNeg z_667).2.2.1 101 4).toInt = (u_665.2.2.1 101 4).toInt := keep_ne (u := z_662.toInt) rfl (by omega) (by omega)
                    have hke_ : ((upI u_665 101 z_662.toNatClampNeg z_667).2.2.1 101 5).toInt = (u_665.2.2.1 101 5).toInt := keep_ne (u := z_662.toInt) rfl (by omega) (by omega)
                    have hke_ : ((upI u_665 101 z_662.toNatClampNeg z_667).2.2.1 101 6).toInt = (u_665.2.2.1 101 6).toInt := keep_ne (u := z_662.toInt) rfl (by omega) (by omega)
                    have hke_ : ((upI u_665 101 z_662.toNatClampNeg z_667).2.2.1 101 7).toInt = (u_665.2.2.1 101 7).toInt := keep_ne (u := z_662.toInt) rfl (by omega) (by omega)
                    have hke_ : ((upI u_665 101 z_662.toNatClampNeg z_667).2.2.1 101 9).toInt = (u_665.2.2.1 101 9).toInt := keep_ne (u := z_662.toInt) rfl (by omega) (by omega)
                    refine s_aload_n E dX10_readNext_193 rfl rfl ?_
                    refine s_gR (r := 101) E fg_X10_31 rfl rfl (jv_lt hj_670 (by decide)) (jv_r hj_670 (by decide +kernel)) dX10_readNext_194 ?_
                    refine s_iload_n E dX10_readNext_197 rfl rfl ?_
                    refine s_iconst (v := 1) E dX10_readNext_198 (by decide) ?_
                    refine z_iadd (u := z_662.toInt) (v := 1) E dX10_readNext_199 rfl (by decide) (by omega) (by omega) (fun z_671 hz_671 => ?_)
                    refine s_aload_n E dX10_readNext_200 rfl rfl ?_
                    refine s_ldcS (i := 28) E (by decide) rfl dX10_readNext_201 ?_
                    refine s_iconst (v := 1) E dX10_readNext_203 (by decide) ?_
                    refine s_bipush (v := 20) E dX10_readNext_204 (by decide) ?_
                    refine s_vI (As := [AX (sA aC 28), AI 1, AI 20]) (S := [AI z_671, AR 101]) E (Z_X10_told_95 l D aC b (upI u_665 101 z_662.toNatClampNeg z_667) 1 20 hj_670.1  28 (by decide) (by omega)) cv_X10_164 rfl rfl rfl (jv_lt hj_670 (by decide)) (Nat.le_of_ble_eq_true rfl) (Nat.le_of_ble_eq_true rfl) ⟨(Nat.le_of_ble_eq_true rfl), (Nat.le_of_ble_eq_true rfl)⟩ (Nat.le_of_ble_eq_true rfl) dX10_readNext_206 (fun z_674 u_672 hp_673 => ?_)
                    obtain ⟨hz_674, hxz_674, hf_u_672_101, hp_673⟩ := hp_673
                    have hc_ : (1 : Int32).toInt = 1 := by decide
                    have hc_ : (20 : Int32).toInt = 20 := by decide
                    have hj_675 := jv_trans hj_670 hp_673
                    have hfa_101_0 := congrArg Int32.toInt (congrFun hf_u_672_101 0)
                    have hfa_101_4 := congrArg Int32.toInt (congrFun hf_u_672_101 4)
                    have hfa_101_5 := congrArg Int32.toInt (congrFun hf_u_672_101 5)
                    have hfa_101_6 := congrArg Int32.toInt (congrFun hf_u_672_101 6)
                    have hfa_101_7 := congrArg Int32.toInt (congrFun hf_u_672_101 7)
                    have hfa_101_9 := congrArg Int32.toInt (congrFun hf_u_672_101 9)
                    have hrz_674 : 0 ≤ z_674.toInt ∧ z_674.toInt ≤ 20 := by omega
                    refine s_iast E rfl (jv_lt hj_675 (by decide)) (z_in (u := z_671.toInt) rfl (by omega) (by omega)) dX10_readNext_209 ?_
                    have hj_677 : Jv w (upI u_672 101 z_671.toNatClampNeg z_674) := (jv_a_101 (i := z_671) (x := z_674) hj_675 0 20 59 73 2 z_671.toInt (by decide +kernel) (by decide) rfl (by omega) (by omega) (by omega) (by have hb_ := z32 z_674; omega) (by have hb_ := z32 z_674; omega))
                    have hke_ : ((upI u_672 101 z_671.toNatClampNeg z_674).2.2.1 95 7).toInt = (u_672.2.2.1 95 7).toInt := rfl
                    have hke_ : ((upI u_672 101 z_671.toNatClampNeg z_674).2.2.1 95 8).toInt = (u_672.2.2.1 95 8).toInt := rfl
                    have hke_ : ((upI u_672 101 z_671.toNatClampNeg z_674).2.2.1 95 9).toInt = (u_672.2.2.1 95 9).toInt := rfl
                    have hke_ : ((upI u_672 101 z_671.toNatClampNeg z_674).2.2.1 95 10).toInt = (u_672.2.2.1 95 10).toInt := rfl
                    have hke_ : ((upI u_672 101 z_671.toNatClampNeg z_674).2.2.1 95 12).toInt = (u_672.2.2.1 95 12).toInt := rfl
                    have hke_ : ((upI u_672 101 z_671.toNatClampNeg z_674).2.2.1 101 0).toInt = (u_672.2.2.1 101 0).toInt := keep_ne (u := z_671.toInt) rfl (by omega) (by omega)
                    have hke_ : ((upI u_672 101 z_671.toNatClampNeg z_674).2.2.1 101 4).toInt = (u_672.2.2.1 101 4).toInt := keep_ne (u := z_671.toInt) rfl (by omega) (by omega)
                    have hke_ : ((upI u_672 101 z_671.toNatClampNeg z_674).2.2.1 101 5).toInt = (u_672.2.2.1 101 5).toInt := keep_ne (u := z_671.toInt) rfl (by omega) (by omega)
                    have hke_ : ((upI u_672 101 z_671.toNatClampNeg z_674).2.2.1 101 6).toInt = (u_672.2.2.1 101 6).toInt := keep_ne (u := z_671.toInt) rfl (by omega) (by omega)
                    have hke_ : ((upI u_672 101 z_671.toNatClampNeg z_674).2.2.1 101 7).toInt = (u_672.2.2.1 101 7).toInt := keep_ne (u := z_671.toInt) rfl (by omega) (by omega)
                    have hke_ : ((upI u_672 101 z_671.toNatClampNeg z_674).2.2.1 101 9).toInt = (u_672.2.2.1 101 9).toInt := keep_ne (u := z_671.toInt) rfl (by omega) (by omega)
                    refine s_aload_n E dX10_readNext_210 rfl rfl ?_
                    refine s_gR (r := 101) E fg_X10_31 rfl rfl (jv_lt hj_677 (by decide)) (jv_r hj_677 (by decide +kernel)) dX10_readNext_211 ?_
                    refine s_bipush (v := 6) E dX10_readNext_214 (by decide) ?_
                    refine s_dup2 E dX10_readNext_216 ?_
                    refine s_iald E rfl (jv_lt hj_677 (by decide)) (z_in (u := 6) (by decide) (by omega) (by omega)) dX10_readNext_217 ?_
                    refine z_nm (P := fun z => z.toInt = ((upI u_672 101 z_671.toNatClampNeg z_674).2.2.1 101 6).toInt ∧ 0 ≤ z.toInt ∧ z.toInt ≤ 8) ⟨rfl, (rw_101_6 hj_677)⟩ (fun z_678 hz_678 => ?_)
                    refine s_iconst (v := 1) E dX10_readNext_218 (by decide) ?_
                    refine z_iadd (u := z_678.toInt) (v := 1) E dX10_readNext_219 rfl (by decide) (by omega) (by omega) (fun z_679 hz_679 => ?_)
                    have hhz_679 : 0 ≤ z_679.toInt ∧ z_679.toInt ≤ 8 := by omega
                    refine s_iast E rfl (jv_lt hj_677 (by decide)) (z_in (u := 6) (by decide) (by omega) (by omega)) dX10_readNext_220 ?_
                    have hj_681 : Jv w (upI (upI u_672 101 z_671.toNatClampNeg z_674) 101 6 z_679) := (jv_a_101 (i := 6) (x := z_679) hj_677 0 8 6 6 1 6 (by decide +kernel) (by decide) (by decide) (by omega) (by omega) (by omega) (by have hb_ := z32 z_679; omega) (by have hb_ := z32 z_679; omega))
                    have hke_ : ((upI (upI u_672 101 z_671.toNatClampNeg z_674) 101 6 z_679).2.2.1 95 7).toInt = ((upI u_672 101 z_671.toNatClampNeg z_674).2.2.1 95 7).toInt := rfl
                    have hke_ : ((upI (upI u_672 101 z_671.toNatClampNeg z_674) 101 6 z_679).2.2.1 95 8).toInt = ((upI u_672 101 z_671.toNatClampNeg z_674).2.2.1 95 8).toInt := rfl
                    have hke_ : ((upI (upI u_672 101 z_671.toNatClampNeg z_674) 101 6 z_679).2.2.1 95 9).toInt = ((upI u_672 101 z_671.toNatClampNeg z_674).2.2.1 95 9).toInt := rfl
                    have hke_ : ((upI (upI u_672 101 z_671.toNatClampNeg z_674) 101 6 z_679).2.2.1 95 10).toInt = ((upI u_672 101 z_671.toNatClampNeg z_674).2.2.1 95 10).toInt := rfl
                    have hke_ : ((upI (upI u_672 101 z_671.toNatClampNeg z_674) 101 6 z_679).2.2.1 95 12).toInt = ((upI u_672 101 z_671.toNatClampNeg z_674).2.2.1 95 12).toInt := rfl
                    have hke_ : ((upI (upI u_672 101 z_671.toNatClampNeg z_674) 101 6 z_679).2.2.1 101 0).toInt = ((upI u_672 101 z_671.toNatClampNeg z_674).2.2.1 101 0).toInt := rfl
                    have hke_ : ((upI (upI u_672 101 z_671.toNatClampNeg z_674) 101 6 z_679).2.2.1 101 4).toInt = ((upI u_672 101 z_671.toNatClampNeg z_674).2.2.1 101 4).toInt := rfl
                    have hke_ : ((upI (upI u_672 101 z_671.toNatClampNeg z_674) 101 6 z_679).2.2.1 101 5).toInt = ((upI u_672 101 z_671.toNatClampNeg z_674).2.2.1 101 5).toInt := rfl
                    have hke_ : ((upI (upI u_672 101 z_671.toNatClampNeg z_674) 101 6 z_679).2.2.1 101 6).toInt = z_679.toInt := rfl
                    have hke_ : ((upI (upI u_672 101 z_671.toNatClampNeg z_674) 101 6 z_679).2.2.1 101 7).toInt = ((upI u_672 101 z_671.toNatClampNeg z_674).2.2.1 101 7).toInt := rfl
                    have hke_ : ((upI (upI u_672 101 z_671.toNatClampNeg z_674) 101 6 z_679).2.2.1 101 9).toInt = ((upI u_672 101 z_671.toNatClampNeg z_674).2.2.1 101 9).toInt := rfl
                    refine s_goto (tgt := 232) E dX10_readNext_221 (by decide) ?_
                    exact r_void E dX10_readNext_232 ⟨(by omega), hj_681⟩
                ·
                  have hd_ : ¬ (w.2.2.1 101 5).toInt = 6 := by first | exact (hq_.resolve_left (by omega)).2.1 (hT2_.mp (by omega)) | (exfalso; omega)
                  refine s_bipush (v := 46) E dX10_readNext_96 (by decide) ?_
                  refine s_iconst (v := 2) E dX10_readNext_98 (by decide) ?_
                  refine s_aload_n E dX10_readNext_99 rfl rfl ?_
                  refine s_gR (r := 101) E fg_X10_31 rfl rfl (jv_lt hj_647 (by decide)) (jv_r hj_647 (by decide +kernel)) dX10_readNext_100 ?_
                  refine s_iconst (v := 5) E dX10_readNext_103 (by decide) ?_
                  refine s_iald E rfl (jv_lt hj_647 (by decide)) (z_in (u := 5) (by decide) (by omega) (by omega)) dX10_readNext_104 ?_
                  refine z_nm (P := fun z => z.toInt = (u_644.2.2.1 101 5).toInt ∧ 0 ≤ z.toInt ∧ z.toInt ≤ 6) ⟨rfl, (rw_101_5 hj_647)⟩ (fun z_682 hz_682 => ?_)
                  refine z_imul (u := 2) (v := z_682.toInt) E dX10_readNext_105 (by decide) rfl (by omega) (by omega) (fun z_683 hz_683 => ?_)
                  have hhz_683 : 0 ≤ z_683.toInt ∧ z_683.toInt ≤ 10 := by omega
                  refine z_iadd (u := 46) (v := z_683.toInt) E dX10_readNext_106 (by decide) rfl (by omega) (by omega) (fun z_684 hz_684 => ?_)
                  refine s_istore_n (L2 := [some (AR 95), some (AI 1), some (AI z_684)]) E dX10_readNext_107 rfl (by decide) rfl ?_
                  refine s_aload_n E dX10_readNext_108 rfl rfl ?_
                  refine s_gR (r := 101) E fg_X10_31 rfl rfl (jv_lt hj_647 (by decide)) (jv_r hj_647 (by decide +kernel)) dX10_readNext_109 ?_
                  refine s_iload_n E dX10_readNext_112 rfl rfl ?_
                  refine s_aload_n E dX10_readNext_113 rfl rfl ?_
                  refine s_ldcS (i := 26) E (by decide) rfl dX10_readNext_114 ?_
                  refine s_vI (As := [AX (sA aC 26)]) (S := [AI z_684, AR 101]) E (Z_X10_freshRoom_95 l D aC b u_644  hj_647.1  26 (by decide) (by omega)) cv_X10_182 rfl rfl rfl (jv_lt hj_647 (by decide)) (Nat.le_of_ble_eq_true rfl) (Nat.le_of_ble_eq_true rfl) ⟨(Nat.le_of_ble_eq_true rfl), (Nat.le_of_ble_eq_true rfl)⟩ (Nat.le_of_ble_eq_true rfl) dX10_readNext_116 (fun z_687 u_685 hp_686 => ?_)
                  obtain ⟨hz_687, hxz_687, hf_u_685_101, hp_686⟩ := hp_686
                  have hj_688 := jv_trans hj_647 hp_686
                  have hfa_101_0 := congrArg Int32.toInt (congrFun hf_u_685_101 0)
                  have hfa_101_4 := congrArg Int32.toInt (congrFun hf_u_685_101 4)
                  have hfa_101_5 := congrArg Int32.toInt (congrFun hf_u_685_101 5)
                  have hfa_101_6 := congrArg Int32.toInt (congrFun hf_u_685_101 6)
                  have hfa_101_7 := congrArg Int32.toInt (congrFun hf_u_685_101 7)
                  have hfa_101_9 := congrArg Int32.toInt (congrFun hf_u_685_101 9)
                  have hrz_687 : 0 ≤ z_687.toInt ∧ z_687.toInt ≤ 7 := by omega
                  refine s_iast E rfl (jv_lt hj_688 (by decide)) (z_in (u := z_684.toInt) rfl (by omega) (by omega)) dX10_readNext_119 ?_
                  have hj_690 : Jv w (upI u_685 101 z_684.toNatClampNeg z_687) := (jv_a_101 (i := z_684) (x := z_687) hj_688 0 7 46 56 2 z_684.toInt (by decide +kernel) (by decide) rfl (by omega) (by omega) (by omega) (by have hb_ := z32 z_687; omega) (by have hb_ := z32 z_687; omega))
                  have hke_ : ((upI u_685 101 z_684.toNatClampNeg z_687).2.2.1 95 7).toInt = (u_685.2.2.1 95 7).toInt := rfl
                  have hke_ : ((upI u_685 101 z_684.toNatClampNeg z_687).2.2.1 95 8).toInt = (u_685.2.2.1 95 8).toInt := rfl
                  have hke_ : ((upI u_685 101 z_684.toNatClampNeg z_687).2.2.1 95 9).toInt = (u_685.2.2.1 95 9).toInt := rfl
                  have hke_ : ((upI u_685 101 z_684.toNatClampNeg z_687).2.2.1 95 10).toInt = (u_685.2.2.1 95 10).toInt := rfl
                  have hke_ : ((upI u_685 101 z_684.toNatClampNeg z_687).2.2.1 95 12).toInt = (u_685.2.2.1 95 12).toInt := rfl
                  have hke_ : ((upI u_685 101 z_684.toNatClampNeg z_687).2.2.1 101 0).toInt = (u_685.2.2.1 101 0).toInt := keep_ne (u := z_684.toInt) rfl (by omega) (by omega)
                  have hke_ : ((upI u_685 101 z_684.toNatClampNeg z_687).2.2.1 101 4).toInt = (u_685.2.2.1 101 4).toInt := keep_ne (u := z_684.toInt) rfl (by omega) (by omega)
                  have hke_ : ((upI u_685 101 z_684.toNatClampNeg z_687).2.2.1 101 5).toInt = (u_685.2.2.1 101 5).toInt := keep_ne (u := z_684.toInt) rfl (by omega) (by omega)
                  have hke_ : ((upI u_685 101 z_684.toNatClampNeg z_687).2.2.1 101 6).toInt = (u_685.2.2.1 101 6).toInt := keep_ne (u := z_684.toInt) rfl (by omega) (by omega)
                  have hke_ : ((upI u_685 101 z_684.toNatClampNeg z_687).2.2.1 101 7).toInt = (u_685.2.2.1 101 7).toInt := keep_ne (u := z_684.toInt) rfl (by omega) (by omega)
                  have hke_ : ((upI u_685 101 z_684.toNatClampNeg z_687).2.2.1 101 9).toInt = (u_685.2.2.1 101 9).toInt := keep_ne (u := z_684.toInt) rfl (by omega) (by omega)
                  refine s_aload_n E dX10_readNext_120 rfl rfl ?_
                  refine s_gR (r := 101) E fg_X10_31 rfl rfl (jv_lt hj_690 (by decide)) (jv_r hj_690 (by decide +kernel)) dX10_readNext_121 ?_
                  refine s_iload_n E dX10_readNext_124 rfl rfl ?_
                  refine s_iconst (v := 1) E dX10_readNext_125 (by decide) ?_
                  refine z_iadd (u := z_684.toInt) (v := 1) E dX10_readNext_126 rfl (by decide) (by omega) (by omega) (fun z_691 hz_691 => ?_)
                  refine s_aload_n E dX10_readNext_127 rfl rfl ?_
                  refine s_ldcS (i := 25) E (by decide) rfl dX10_readNext_128 ?_
                  refine s_iconst (v := 1) E dX10_readNext_130 (by decide) ?_
                  refine s_bipush (v := 9) E dX10_readNext_131 (by decide) ?_
                  refine s_vI (As := [AX (sA aC 25), AI 1, AI 9]) (S := [AI z_691, AR 101]) E (Z_X10_told_95 l D aC b (upI u_685 101 z_684.toNatClampNeg z_687) 1 9 hj_690.1  25 (by decide) (by omega)) cv_X10_164 rfl rfl rfl (jv_lt hj_690 (by decide)) (Nat.le_of_ble_eq_true rfl) (Nat.le_of_ble_eq_true rfl) ⟨(Nat.le_of_ble_eq_true rfl), (Nat.le_of_ble_eq_true rfl)⟩ (Nat.le_of_ble_eq_true rfl) dX10_readNext_133 (fun z_694 u_692 hp_693 => ?_)
                  obtain ⟨hz_694, hxz_694, hf_u_692_101, hp_693⟩ := hp_693
                  have hc_ : (1 : Int32).toInt = 1 := by decide
                  have hc_ : (9 : Int32).toInt = 9 := by decide
                  have hj_695 := jv_trans hj_690 hp_693
                  have hfa_101_0 := congrArg Int32.toInt (congrFun hf_u_692_101 0)
                  have hfa_101_4 := congrArg Int32.toInt (congrFun hf_u_692_101 4)
                  have hfa_101_5 := congrArg Int32.toInt (congrFun hf_u_692_101 5)
                  have hfa_101_6 := congrArg Int32.toInt (congrFun hf_u_692_101 6)
                  have hfa_101_7 := congrArg Int32.toInt (congrFun hf_u_692_101 7)
                  have hfa_101_9 := congrArg Int32.toInt (congrFun hf_u_692_101 9)
                  have hrz_694 : 0 ≤ z_694.toInt ∧ z_694.toInt ≤ 9 := by omega
                  have hLw_ : (u_692.2.2.1 95 12).toInt = 0 → 1 ≤ z_694.toInt := by intro h0_; omega
                  refine s_iast E rfl (jv_lt hj_695 (by decide)) (z_in (u := z_691.toInt) rfl (by omega) (by omega)) dX10_readNext_136 ?_
                  have hj_697 : Jv w (upI u_692 101 z_691.toNatClampNeg z_694) := (jv_lad hj_695 (by omega) (by omega) (by omega) (by have hb_ := z32 z_694; omega) (by have hb_ := z32 z_694; omega))
                  have hke_ : ((upI u_692 101 z_691.toNatClampNeg z_694).2.2.1 95 7).toInt = (u_692.2.2.1 95 7).toInt := rfl
                  have hke_ : ((upI u_692 101 z_691.toNatClampNeg z_694).2.2.1 95 8).toInt = (u_692.2.2.1 95 8).toInt := rfl
                  have hke_ : ((upI u_692 101 z_691.toNatClampNeg z_694).2.2.1 95 9).toInt = (u_692.2.2.1 95 9).toInt := rfl
                  have hke_ : ((upI u_692 101 z_691.toNatClampNeg z_694).2.2.1 95 10).toInt = (u_692.2.2.1 95 10).toInt := rfl
                  have hke_ : ((upI u_692 101 z_691.toNatClampNeg z_694).2.2.1 95 12).toInt = (u_692.2.2.1 95 12).toInt := rfl
                  have hke_ : ((upI u_692 101 z_691.toNatClampNeg z_694).2.2.1 101 0).toInt = (u_692.2.2.1 101 0).toInt := keep_ne (u := z_691.toInt) rfl (by omega) (by omega)
                  have hke_ : ((upI u_692 101 z_691.toNatClampNeg z_694).2.2.1 101 4).toInt = (u_692.2.2.1 101 4).toInt := keep_ne (u := z_691.toInt) rfl (by omega) (by omega)
                  have hke_ : ((upI u_692 101 z_691.toNatClampNeg z_694).2.2.1 101 5).toInt = (u_692.2.2.1 101 5).toInt := keep_ne (u := z_691.toInt) rfl (by omega) (by omega)
                  have hke_ : ((upI u_692 101 z_691.toNatClampNeg z_694).2.2.1 101 6).toInt = (u_692.2.2.1 101 6).toInt := keep_ne (u := z_691.toInt) rfl (by omega) (by omega)
                  have hke_ : ((upI u_692 101 z_691.toNatClampNeg z_694).2.2.1 101 7).toInt = (u_692.2.2.1 101 7).toInt := keep_ne (u := z_691.toInt) rfl (by omega) (by omega)
                  have hke_ : ((upI u_692 101 z_691.toNatClampNeg z_694).2.2.1 101 9).toInt = (u_692.2.2.1 101 9).toInt := keep_ne (u := z_691.toInt) rfl (by omega) (by omega)
                  refine s_aload_n E dX10_readNext_137 rfl rfl ?_
                  refine s_gR (r := 101) E fg_X10_31 rfl rfl (jv_lt hj_697 (by decide)) (jv_r hj_697 (by decide +kernel)) dX10_readNext_138 ?_
                  refine s_iconst (v := 5) E dX10_readNext_141 (by decide) ?_
                  refine s_dup2 E dX10_readNext_142 ?_
                  refine s_iald E rfl (jv_lt hj_697 (by decide)) (z_in (u := 5) (by decide) (by omega) (by omega)) dX10_readNext_143 ?_
                  refine z_nm (P := fun z => z.toInt = ((upI u_692 101 z_691.toNatClampNeg z_694).2.2.1 101 5).toInt ∧ 0 ≤ z.toInt ∧ z.toInt ≤ 6) ⟨rfl, (rw_101_5 hj_697)⟩ (fun z_698 hz_698 => ?_)
                  refine s_iconst (v := 1) E dX10_readNext_144 (by decide) ?_
                  refine z_iadd (u := z_698.toInt) (v := 1) E dX10_readNext_145 rfl (by decide) (by omega) (by omega) (fun z_699 hz_699 => ?_)
                  have hhz_699 : 0 ≤ z_699.toInt ∧ z_699.toInt ≤ 6 := by omega
                  refine s_iast E rfl (jv_lt hj_697 (by decide)) (z_in (u := 5) (by decide) (by omega) (by omega)) dX10_readNext_146 ?_
                  have hj_701 : Jv w (upI (upI u_692 101 z_691.toNatClampNeg z_694) 101 5 z_699) := (jv_lad5 hj_697 (by omega) (by omega) (by omega) (lad_fin (by omega) (by omega) hLw_))
                  have hke_ : ((upI (upI u_692 101 z_691.toNatClampNeg z_694) 101 5 z_699).2.2.1 95 7).toInt = ((upI u_692 101 z_691.toNatClampNeg z_694).2.2.1 95 7).toInt := rfl
                  have hke_ : ((upI (upI u_692 101 z_691.toNatClampNeg z_694) 101 5 z_699).2.2.1 95 8).toInt = ((upI u_692 101 z_691.toNatClampNeg z_694).2.2.1 95 8).toInt := rfl
                  have hke_ : ((upI (upI u_692 101 z_691.toNatClampNeg z_694) 101 5 z_699).2.2.1 95 9).toInt = ((upI u_692 101 z_691.toNatClampNeg z_694).2.2.1 95 9).toInt := rfl
                  have hke_ : ((upI (upI u_692 101 z_691.toNatClampNeg z_694) 101 5 z_699).2.2.1 95 10).toInt = ((upI u_692 101 z_691.toNatClampNeg z_694).2.2.1 95 10).toInt := rfl
                  have hke_ : ((upI (upI u_692 101 z_691.toNatClampNeg z_694) 101 5 z_699).2.2.1 95 12).toInt = ((upI u_692 101 z_691.toNatClampNeg z_694).2.2.1 95 12).toInt := rfl
                  have hke_ : ((upI (upI u_692 101 z_691.toNatClampNeg z_694) 101 5 z_699).2.2.1 101 0).toInt = ((upI u_692 101 z_691.toNatClampNeg z_694).2.2.1 101 0).toInt := rfl
                  have hke_ : ((upI (upI u_692 101 z_691.toNatClampNeg z_694) 101 5 z_699).2.2.1 101 4).toInt = ((upI u_692 101 z_691.toNatClampNeg z_694).2.2.1 101 4).toInt := rfl
                  have hke_ : ((upI (upI u_692 101 z_691.toNatClampNeg z_694) 101 5 z_699).2.2.1 101 5).toInt = z_699.toInt := rfl
                  have hke_ : ((upI (upI u_692 101 z_691.toNatClampNeg z_694) 101 5 z_699).2.2.1 101 6).toInt = ((upI u_692 101 z_691.toNatClampNeg z_694).2.2.1 101 6).toInt := rfl
                  have hke_ : ((upI (upI u_692 101 z_691.toNatClampNeg z_694) 101 5 z_699).2.2.1 101 7).toInt = ((upI u_692 101 z_691.toNatClampNeg z_694).2.2.1 101 7).toInt := rfl
                  have hke_ : ((upI (upI u_692 101 z_691.toNatClampNeg z_694) 101 5 z_699).2.2.1 101 9).toInt = ((upI u_692 101 z_691.toNatClampNeg z_694).2.2.1 101 9).toInt := rfl
                  refine s_goto (tgt := 232) E dX10_readNext_147 (by decide) ?_
                  exact r_void E dX10_readNext_232 ⟨(by omega), hj_701⟩
              ·
                have hd_ : ¬ (w.2.2.1 101 4).toInt = 12 := by first | exact (hq_.resolve_left (by omega)).1 (hT_.mp (by omega)) | (exfalso; omega)
                refine s_aload_n E dX10_readNext_80 rfl rfl ?_
                refine s_vV (As := []) (S := []) E (Z_X10_readDoor_95 l D aC b u_639  hj_642.1  (by omega) (by omega)) cv_X10_198 rfl rfl rfl (jv_lt hj_642 (by decide)) (Nat.le_of_ble_eq_true rfl) (Nat.le_of_ble_eq_true rfl) ⟨(Nat.le_of_ble_eq_true rfl), (Nat.le_of_ble_eq_true rfl)⟩ (Nat.le_of_ble_eq_true rfl) dX10_readNext_81 (fun u_702 hp_703 => ?_)
                obtain ⟨hx_hp_703, hp_703⟩ := hp_703
                have hj_704 := jv_trans hj_642 hp_703
                refine s_goto (tgt := 232) E dX10_readNext_84 (by decide) ?_
                exact r_void E dX10_readNext_232 ⟨(by omega), hj_704⟩
            ·
              exact r_void E dX10_readNext_70 ⟨(by omega), hJ⟩
          ·
            refine s_aload_n E dX10_readNext_58 rfl rfl ?_
            refine s_iconst (v := 3) E dX10_readNext_59 (by decide) ?_
            refine s_vV (As := [AI 3]) (S := []) E (Z_X10_errs_95 l D aC b w 3 hJ.1 (by decide)) cv_X10_153 rfl rfl rfl (jv_lt hJ (by decide)) (Nat.le_of_ble_eq_true rfl) (Nat.le_of_ble_eq_true rfl) ⟨(Nat.le_of_ble_eq_true rfl), (Nat.le_of_ble_eq_true rfl)⟩ (Nat.le_of_ble_eq_true rfl) dX10_readNext_60 (fun u_705 hp_706 => ?_)
            have hc_ : (3 : Int32).toInt = 3 := by decide
            obtain ⟨hx_hp_706, hf_u_705_101, hp_706⟩ := hp_706
            have hj_707 := jv_trans hJ hp_706
            have hfa_101_0 := congrArg Int32.toInt (congrFun hf_u_705_101 0)
            have hfa_101_4 := congrArg Int32.toInt (congrFun hf_u_705_101 4)
            have hfa_101_5 := congrArg Int32.toInt (congrFun hf_u_705_101 5)
            have hfa_101_6 := congrArg Int32.toInt (congrFun hf_u_705_101 6)
            have hfa_101_7 := congrArg Int32.toInt (congrFun hf_u_705_101 7)
            have hfa_101_9 := congrArg Int32.toInt (congrFun hf_u_705_101 9)
            refine s_aload_n E dX10_readNext_63 rfl rfl ?_
            refine s_vI (As := []) (S := []) E (Z_X10_good_95 l D aC b u_705  hj_707.1 ) cv_X10_130 rfl rfl rfl (jv_lt hj_707 (by decide)) (Nat.le_of_ble_eq_true rfl) (Nat.le_of_ble_eq_true rfl) ⟨(Nat.le_of_ble_eq_true rfl), (Nat.le_of_ble_eq_true rfl)⟩ (Nat.le_of_ble_eq_true rfl) dX10_readNext_64 (fun z_710 u_708 hp_709 => ?_)
            obtain ⟨hz_710, hxz_710, hp_709⟩ := hp_709
            subst hp_709
            refine z_if_ne (tgt := 71) (u := z_710.toInt) E dX10_readNext_67 (by decide) rfl (fun h_712 => ?_) (fun h_712 => ?_)
            ·
              have hn4_ := rw_101_4 hj_707
              have hn5_ := rw_101_5 hj_707
              have hn6_ := rw_101_6 hj_707
              have hn7_ := rw_101_7 hj_707
              refine s_aload_n E dX10_readNext_71 rfl rfl ?_
              refine s_ldcS (i := 20) E (by decide) rfl dX10_readNext_72 ?_
              refine s_vI (As := [AX (sA aC 20)]) (S := []) E (Z_X10_takes_95 l D aC b u_705  hj_707.1  20 (by decide) (by omega)) cv_X10_150 rfl rfl rfl (jv_lt hj_707 (by decide)) (Nat.le_of_ble_eq_true rfl) (Nat.le_of_ble_eq_true rfl) ⟨(Nat.le_of_ble_eq_true rfl), (Nat.le_of_ble_eq_true rfl)⟩ (Nat.le_of_ble_eq_true rfl) dX10_readNext_74 (fun z_715 u_713 hp_714 => ?_)
              obtain ⟨hz_715, hxz_715, hf_u_713_101, hp_714⟩ := hp_714
              have hj_716 := jv_trans hj_707 hp_714
              have hfa_101_0 := congrArg Int32.toInt (congrFun hf_u_713_101 0)
              have hfa_101_4 := congrArg Int32.toInt (congrFun hf_u_713_101 4)
              have hfa_101_5 := congrArg Int32.toInt (congrFun hf_u_713_101 5)
              have hfa_101_6 := congrArg Int32.toInt (congrFun hf_u_713_101 6)
              have hfa_101_7 := congrArg Int32.toInt (congrFun hf_u_713_101 7)
              have hfa_101_9 := congrArg Int32.toInt (congrFun hf_u_713_101 9)
              have hT_ := hxz_715.1
              have hE_ := hxz_715.2.1
              refine z_if_eq (tgt := 87) (u := z_715.toInt) E dX10_readNext_77 (by decide) rfl (fun h_717 => ?_) (fun h_717 => ?_)
              ·
                have hE1_ : u_705 = u_713 := hE_.resolve_left (by omega)
                refine s_aload_n E dX10_readNext_87 rfl rfl ?_
                refine s_ldcS (i := 21) E (by decide) rfl dX10_readNext_88 ?_
                refine s_vI (As := [AX (sA aC 21)]) (S := []) E (Z_X10_takes_95 l D aC b u_713  hj_716.1  21 (by decide) (by omega)) cv_X10_150 rfl rfl rfl (jv_lt hj_716 (by decide)) (Nat.le_of_ble_eq_true rfl) (Nat.le_of_ble_eq_true rfl) ⟨(Nat.le_of_ble_eq_true rfl), (Nat.le_of_ble_eq_true rfl)⟩ (Nat.le_of_ble_eq_true rfl) dX10_readNext_90 (fun z_720 u_718 hp_719 => ?_)
                obtain ⟨hz_720, hxz_720, hf_u_718_101, hp_719⟩ := hp_719
                have hj_721 := jv_trans hj_716 hp_719
                have hfa_101_0 := congrArg Int32.toInt (congrFun hf_u_718_101 0)
                have hfa_101_4 := congrArg Int32.toInt (congrFun hf_u_718_101 4)
                have hfa_101_5 := congrArg Int32.toInt (congrFun hf_u_718_101 5)
                have hfa_101_6 := congrArg Int32.toInt (congrFun hf_u_718_101 6)
                have hfa_101_7 := congrArg Int32.toInt (congrFun hf_u_718_101 7)
                have hfa_101_9 := congrArg Int32.toInt (congrFun hf_u_718_101 9)
                have hT2_ := hxz_720.1
                rw [← hE1_] at hT2_
                have hF_ := hxz_720.2.1
                refine z_if_eq (tgt := 150) (u := z_720.toInt) E dX10_readNext_93 (by decide) rfl (fun h_722 => ?_) (fun h_722 => ?_)
                ·
                  have hE2_ : u_705 = u_718 := hE1_.trans (hF_.resolve_left (by omega))
                  refine s_aload_n E dX10_readNext_150 rfl rfl ?_
                  refine s_ldcS (i := 22) E (by decide) rfl dX10_readNext_151 ?_
                  refine s_vI (As := [AX (sA aC 22)]) (S := []) E (Z_X10_takes_95 l D aC b u_718  hj_721.1  22 (by decide) (by omega)) cv_X10_150 rfl rfl rfl (jv_lt hj_721 (by decide)) (Nat.le_of_ble_eq_true rfl) (Nat.le_of_ble_eq_true rfl) ⟨(Nat.le_of_ble_eq_true rfl), (Nat.le_of_ble_eq_true rfl)⟩ (Nat.le_of_ble_eq_true rfl) dX10_readNext_153 (fun z_725 u_723 hp_724 => ?_)
                  obtain ⟨hz_725, hxz_725, hf_u_723_101, hp_724⟩ := hp_724
                  have hj_726 := jv_trans hj_721 hp_724
                  have hfa_101_0 := congrArg Int32.toInt (congrFun hf_u_723_101 0)
                  have hfa_101_4 := congrArg Int32.toInt (congrFun hf_u_723_101 4)
                  have hfa_101_5 := congrArg Int32.toInt (congrFun hf_u_723_101 5)
                  have hfa_101_6 := congrArg Int32.toInt (congrFun hf_u_723_101 6)
                  have hfa_101_7 := congrArg Int32.toInt (congrFun hf_u_723_101 7)
                  have hfa_101_9 := congrArg Int32.toInt (congrFun hf_u_723_101 9)
                  have hT3_ := hxz_725.1
                  rw [← hE2_] at hT3_
                  have hG_ := hxz_725.2.1
                  refine z_if_eq (tgt := 224) (u := z_725.toInt) E dX10_readNext_156 (by decide) rfl (fun h_727 => ?_) (fun h_727 => ?_)
                  ·
                    have hd_ : ¬ (u_705.2.2.1 101 7).toInt = 10 := by first | exact (hq_.resolve_left (by omega)).2.2.2 (hw_30.mp (by omega)) | (exfalso; exact absurd (hT_.mpr (hw_3.mp (by omega))) (by omega)) | (exfalso; exact absurd (hT2_.mpr (hw_12.mp (by omega))) (by omega)) | (exfalso; exact absurd (hT3_.mpr (hw_21.mp (by omega))) (by omega)) | (exfalso; omega)
                    refine s_aload_n E dX10_readNext_224 rfl rfl ?_
                    refine s_vV (As := []) (S := []) E (Z_X10_advance_95 l D aC b u_723  hj_726.1 ) cv_X10_147 rfl rfl rfl (jv_lt hj_726 (by decide)) (Nat.le_of_ble_eq_true rfl) (Nat.le_of_ble_eq_true rfl) ⟨(Nat.le_of_ble_eq_true rfl), (Nat.le_of_ble_eq_true rfl)⟩ (Nat.le_of_ble_eq_true rfl) dX10_readNext_225 (fun u_728 hp_729 => ?_)
                    obtain ⟨hx_hp_729, hf_u_728_99, hf_u_728_101, hp_729⟩ := hp_729
                    have hj_730 := jv_trans hj_726 hp_729
                    have hfa_101_0 := congrArg Int32.toInt (congrFun hf_u_728_101 0)
                    have hfa_101_4 := congrArg Int32.toInt (congrFun hf_u_728_101 4)
                    have hfa_101_5 := congrArg Int32.toInt (congrFun hf_u_728_101 5)
                    have hfa_101_6 := congrArg Int32.toInt (congrFun hf_u_728_101 6)
                    have hfa_101_7 := congrArg Int32.toInt (congrFun hf_u_728_101 7)
                    have hfa_101_9 := congrArg Int32.toInt (congrFun hf_u_728_101 9)
                    refine s_aload_n E dX10_readNext_228 rfl rfl ?_
                    refine s_vV (As := []) (S := []) E (Z_X10_readBid_95 l D aC b u_728  hj_730.1  (by omega) (by omega)) cv_X10_206 rfl rfl rfl (jv_lt hj_730 (by decide)) (Nat.le_of_ble_eq_true rfl) (Nat.le_of_ble_eq_true rfl) ⟨(Nat.le_of_ble_eq_true rfl), (Nat.le_of_ble_eq_true rfl)⟩ (Nat.le_of_ble_eq_true rfl) dX10_readNext_229 (fun u_731 hp_732 => ?_)
                    obtain ⟨hx_hp_732, hp_732⟩ := hp_732
                    have hj_733 := jv_trans hj_730 hp_732
                    exact r_void E dX10_readNext_232 ⟨(by omega), hj_733⟩
                  ·
                    have hd_ : ¬ (u_705.2.2.1 101 6).toInt = 8 := by first | exact (hq_.resolve_left (by omega)).2.2.1 (hT3_.mp (by omega)) | (exfalso; omega)
                    refine s_bipush (v := 58) E dX10_readNext_159 (by decide) ?_
                    refine s_iconst (v := 2) E dX10_readNext_161 (by decide) ?_
                    refine s_aload_n E dX10_readNext_162 rfl rfl ?_
                    refine s_gR (r := 101) E fg_X10_31 rfl rfl (jv_lt hj_726 (by decide)) (jv_r hj_726 (by decide +kernel)) dX10_readNext_163 ?_
                    refine s_bipush (v := 6) E dX10_readNext_166 (by decide) ?_
                    refine s_iald E rfl (jv_lt hj_726 (by decide)) (z_in (u := 6) (by decide) (by omega) (by omega)) dX10_readNext_168 ?_
                    refine z_nm (P := fun z => z.toInt = (u_723.2.2.1 101 6).toInt ∧ 0 ≤ z.toInt ∧ z.toInt ≤ 8) ⟨rfl, (rw_101_6 hj_726)⟩ (fun z_734 hz_734 => ?_)
                    refine z_imul (u := 2) (v := z_734.toInt) E dX10_readNext_169 (by decide) rfl (by omega) (by omega) (fun z_735 hz_735 => ?_)
                    have hhz_735 : 0 ≤ z_735.toInt ∧ z_735.toInt ≤ 14 := by omega
                    refine z_iadd (u := 58) (v := z_735.toInt) E dX10_readNext_170 (by decide) rfl (by omega) (by omega) (fun z_736 hz_736 => ?_)
                    refine s_istore_n (L2 := [some (AR 95), some (AI 1), some (AI z_736)]) E dX10_readNext_171 rfl (by decide) rfl ?_
                    refine s_aload_n E dX10_readNext_172 rfl rfl ?_
                    refine s_gR (r := 101) E fg_X10_31 rfl rfl (jv_lt hj_726 (by decide)) (jv_r hj_726 (by decide +kernel)) dX10_readNext_173 ?_
                    refine s_iload_n E dX10_readNext_176 rfl rfl ?_
                    refine s_aload_n E dX10_readNext_177 rfl rfl ?_
                    refine s_ldcS (i := 27) E (by decide) rfl dX10_readNext_178 ?_
                    refine s_iconst (v := 0) E dX10_readNext_180 (by decide) ?_
                    refine s_aload_n E dX10_readNext_181 rfl rfl ?_
                    refine s_gR (r := 101) E fg_X10_31 rfl rfl (jv_lt hj_726 (by decide)) (jv_r hj_726 (by decide +kernel)) dX10_readNext_182 ?_
                    refine s_iconst (v := 5) E dX10_readNext_185 (by decide) ?_
                    refine s_iald E rfl (jv_lt hj_726 (by decide)) (z_in (u := 5) (by decide) (by omega) (by omega)) dX10_readNext_186 ?_
                    refine z_nm (P := fun z => z.toInt = (u_723.2.2.1 101 5).toInt ∧ 0 ≤ z.toInt ∧ z.toInt ≤ 6) ⟨rfl, (rw_101_5 hj_726)⟩ (fun z_737 hz_737 => ?_)
                    refine s_iconst (v := 1) E dX10_readNext_187 (by decide) ?_
                    refine z_isub (u := z_737.toInt) (v := 1) E dX10_readNext_188 rfl (by decide) (by omega) (by omega) (fun z_738 hz_738 => ?_)
                    refine s_vI (As := [AX (sA aC 27), AI 0, AI z_738]) (S := [AI z_736, AR 101]) E (Z_X10_told_95 l D aC b u_723 0 z_738 hj_726.1  27 (by decide) (by omega)) cv_X10_164 rfl rfl rfl (jv_lt hj_726 (by decide)) (Nat.le_of_ble_eq_true rfl) (Nat.le_of_ble_eq_true rfl) ⟨(Nat.le_of_ble_eq_true rfl), (Nat.le_of_ble_eq_true rfl)⟩ (Nat.le_of_ble_eq_true rfl) dX10_readNext_189 (fun z_741 u_739 hp_740 => ?_)
                    obtain ⟨hz_741, hxz_741, hf_u_739_101, hp_740⟩ := hp_740
                    have hc_ : (0 : Int32).toInt = 0 := by decide
                    have hj_742 := jv_trans hj_726 hp_740
                    have hfa_101_0 := congrArg Int32.toInt (congrFun hf_u_739_101 0)
                    have hfa_101_4 := congrArg Int32.toInt (congrFun hf_u_739_101 4)
                    have hfa_101_5 := congrArg Int32.toInt (congrFun hf_u_739_101 5)
                    have hfa_101_6 := congrArg Int32.toInt (congrFun hf_u_739_101 6)
                    have hfa_101_7 := congrArg Int32.toInt (congrFun hf_u_739_101 7)
                    have hfa_101_9 := congrArg Int32.toInt (congrFun hf_u_739_101 9)
                    have hrz_741 : 0 ≤ z_741.toInt ∧ z_741.toInt ≤ 5 := by omega
                    refine s_iast E rfl (jv_lt hj_742 (by decide)) (z_in (u := z_736.toInt) rfl (by omega) (by omega)) dX10_readNext_192 ?_
                    have hj_744 : Jv w (upI u_739 101 z_736.toNatClampNeg z_741) := (jv_a_101 (i := z_736) (x := z_741) hj_742 0 5 58 72 2 z_736.toInt (by decide +kernel) (by decide) rfl (by omega) (by omega) (by omega) (by have hb_ := z32 z_741; omega) (by have hb_ := z32 z_741; omega))
                    have hke_ : ((upI u_739 101 z_736.toNatClampNeg z_741).2.2.1 95 7).toInt = (u_739.2.2.1 95 7).toInt := rfl
                    have hke_ : ((upI u_739 101 z_736.toNatClampNeg z_741).2.2.1 95 8).toInt = (u_739.2.2.1 95 8).toInt := rfl
                    have hke_ : ((upI u_739 101 z_736.toNatClampNeg z_741).2.2.1 95 9).toInt = (u_739.2.2.1 95 9).toInt := rfl
                    have hke_ : ((upI u_739 101 z_736.toNatClampNeg z_741).2.2.1 95 10).toInt = (u_739.2.2.1 95 10).toInt := rfl
                    have hke_ : ((upI u_739 101 z_736.toNatClampNeg z_741).2.2.1 95 12).toInt = (u_739.2.2.1 95 12).toInt := rfl
                    have hke_ : ((upI u_739 101 z_736.toNatClampNeg z_741).2.2.1 101 0).toInt = (u_739.2.2.1 101 0).toInt := keep_ne (u := z_736.toInt) rfl (by omega) (by omega)
                    have hke_ : ((upI u_739 101 z_736.toNatClampNeg z_741).2.2.1 101 4).toInt = (u_739.2.2.1 101 4).toInt := keep_ne (u := z_736.toInt) rfl (by omega) (by omega)
                    have hke_ : ((upI u_739 101 z_736.toNatClampNeg z_741).2.2.1 101 5).toInt = (u_739.2.2.1 101 5).toInt := keep_ne (u := z_736.toInt) rfl (by omega) (by omega)
                    have hke_ : ((upI u_739 101 z_736.toNatClampNeg z_741).2.2.1 101 6).toInt = (u_739.2.2.1 101 6).toInt := keep_ne (u := z_736.toInt) rfl (by omega) (by omega)
                    have hke_ : ((upI u_739 101 z_736.toNatClampNeg z_741).2.2.1 101 7).toInt = (u_739.2.2.1 101 7).toInt := keep_ne (u := z_736.toInt) rfl (by omega) (by omega)
                    have hke_ : ((upI u_739 101 z_736.toNatClampNeg z_741).2.2.1 101 9).toInt = (u_739.2.2.1 101 9).toInt := keep_ne (u := z_736.toInt) rfl (by omega) (by omega)
                    refine s_aload_n E dX10_readNext_193 rfl rfl ?_
                    refine s_gR (r := 101) E fg_X10_31 rfl rfl (jv_lt hj_744 (by decide)) (jv_r hj_744 (by decide +kernel)) dX10_readNext_194 ?_
                    refine s_iload_n E dX10_readNext_197 rfl rfl ?_
                    refine s_iconst (v := 1) E dX10_readNext_198 (by decide) ?_
                    refine z_iadd (u := z_736.toInt) (v := 1) E dX10_readNext_199 rfl (by decide) (by omega) (by omega) (fun z_745 hz_745 => ?_)
                    refine s_aload_n E dX10_readNext_200 rfl rfl ?_
                    refine s_ldcS (i := 28) E (by decide) rfl dX10_readNext_201 ?_
                    refine s_iconst (v := 1) E dX10_readNext_203 (by decide) ?_
                    refine s_bipush (v := 20) E dX10_readNext_204 (by decide) ?_
                    refine s_vI (As := [AX (sA aC 28), AI 1, AI 20]) (S := [AI z_745, AR 101]) E (Z_X10_told_95 l D aC b (upI u_739 101 z_736.toNatClampNeg z_741) 1 20 hj_744.1  28 (by decide) (by omega)) cv_X10_164 rfl rfl rfl (jv_lt hj_744 (by decide)) (Nat.le_of_ble_eq_true rfl) (Nat.le_of_ble_eq_true rfl) ⟨(Nat.le_of_ble_eq_true rfl), (Nat.le_of_ble_eq_true rfl)⟩ (Nat.le_of_ble_eq_true rfl) dX10_readNext_206 (fun z_748 u_746 hp_747 => ?_)
                    obtain ⟨hz_748, hxz_748, hf_u_746_101, hp_747⟩ := hp_747
                    have hc_ : (1 : Int32).toInt = 1 := by decide
                    have hc_ : (20 : Int32).toInt = 20 := by decide
                    have hj_749 := jv_trans hj_744 hp_747
                    have hfa_101_0 := congrArg Int32.toInt (congrFun hf_u_746_101 0)
                    have hfa_101_4 := congrArg Int32.toInt (congrFun hf_u_746_101 4)
                    have hfa_101_5 := congrArg Int32.toInt (congrFun hf_u_746_101 5)
                    have hfa_101_6 := congrArg Int32.toInt (congrFun hf_u_746_101 6)
                    have hfa_101_7 := congrArg Int32.toInt (congrFun hf_u_746_101 7)
                    have hfa_101_9 := congrArg Int32.toInt (congrFun hf_u_746_101 9)
                    have hrz_748 : 0 ≤ z_748.toInt ∧ z_748.toInt ≤ 20 := by omega
                    refine s_iast E rfl (jv_lt hj_749 (by decide)) (z_in (u := z_745.toInt) rfl (by omega) (by omega)) dX10_readNext_209 ?_
                    have hj_751 : Jv w (upI u_746 101 z_745.toNatClampNeg z_748) := (jv_a_101 (i := z_745) (x := z_748) hj_749 0 20 59 73 2 z_745.toInt (by decide +kernel) (by decide) rfl (by omega) (by omega) (by omega) (by have hb_ := z32 z_748; omega) (by have hb_ := z32 z_748; omega))
                    have hke_ : ((upI u_746 101 z_745.toNatClampNeg z_748).2.2.1 95 7).toInt = (u_746.2.2.1 95 7).toInt := rfl
                    have hke_ : ((upI u_746 101 z_745.toNatClampNeg z_748).2.2.1 95 8).toInt = (u_746.2.2.1 95 8).toInt := rfl
                    have hke_ : ((upI u_746 101 z_745.toNatClampNeg z_748).2.2.1 95 9).toInt = (u_746.2.2.1 95 9).toInt := rfl
                    have hke_ : ((upI u_746 101 z_745.toNatClampNeg z_748).2.2.1 95 10).toInt = (u_746.2.2.1 95 10).toInt := rfl
                    have hke_ : ((upI u_746 101 z_745.toNatClampNeg z_748).2.2.1 95 12).toInt = (u_746.2.2.1 95 12).toInt := rfl
                    have hke_ : ((upI u_746 101 z_745.toNatClampNeg z_748).2.2.1 101 0).toInt = (u_746.2.2.1 101 0).toInt := keep_ne (u := z_745.toInt) rfl (by omega) (by omega)
                    have hke_ : ((upI u_746 101 z_745.toNatClampNeg z_748).2.2.1 101 4).toInt = (u_746.2.2.1 101 4).toInt := keep_ne (u := z_745.toInt) rfl (by omega) (by omega)
                    have hke_ : ((upI u_746 101 z_745.toNatClampNeg z_748).2.2.1 101 5).toInt = (u_746.2.2.1 101 5).toInt := keep_ne (u := z_745.toInt) rfl (by omega) (by omega)
                    have hke_ : ((upI u_746 101 z_745.toNatClampNeg z_748).2.2.1 101 6).toInt = (u_746.2.2.1 101 6).toInt := keep_ne (u := z_745.toInt) rfl (by omega) (by omega)
                    have hke_ : ((upI u_746 101 z_745.toNatClampNeg z_748).2.2.1 101 7).toInt = (u_746.2.2.1 101 7).toInt := keep_ne (u := z_745.toInt) rfl (by omega) (by omega)
                    have hke_ : ((upI u_746 101 z_745.toNatClampNeg z_748).2.2.1 101 9).toInt = (u_746.2.2.1 101 9).toInt := keep_ne (u := z_745.toInt) rfl (by omega) (by omega)
                    refine s_aload_n E dX10_readNext_210 rfl rfl ?_
                    refine s_gR (r := 101) E fg_X10_31 rfl rfl (jv_lt hj_751 (by decide)) (jv_r hj_751 (by decide +kernel)) dX10_readNext_211 ?_
                    refine s_bipush (v := 6) E dX10_readNext_214 (by decide) ?_
                    refine s_dup2 E dX10_readNext_216 ?_
                    refine s_iald E rfl (jv_lt hj_751 (by decide)) (z_in (u := 6) (by decide) (by omega) (by omega)) dX10_readNext_217 ?_
                    refine z_nm (P := fun z => z.toInt = ((upI u_746 101 z_745.toNatClampNeg z_748).2.2.1 101 6).toInt ∧ 0 ≤ z.toInt ∧ z.toInt ≤ 8) ⟨rfl, (rw_101_6 hj_751)⟩ (fun z_752 hz_752 => ?_)
                    refine s_iconst (v := 1) E dX10_readNext_218 (by decide) ?_
                    refine z_iadd (u := z_752.toInt) (v := 1) E dX10_readNext_219 rfl (by decide) (by omega) (by omega) (fun z_753 hz_753 => ?_)
                    have hhz_753 : 0 ≤ z_753.toInt ∧ z_753.toInt ≤ 8 := by omega
                    refine s_iast E rfl (jv_lt hj_751 (by decide)) (z_in (u := 6) (by decide) (by omega) (by omega)) dX10_readNext_220 ?_
                    have hj_755 : Jv w (upI (upI u_746 101 z_745.toNatClampNeg z_748) 101 6 z_753) := (jv_a_101 (i := 6) (x := z_753) hj_751 0 8 6 6 1 6 (by decide +kernel) (by decide) (by decide) (by omega) (by omega) (by omega) (by have hb_ := z32 z_753; omega) (by have hb_ := z32 z_753; omega))
                    have hke_ : ((upI (upI u_746 101 z_745.toNatClampNeg z_748) 101 6 z_753).2.2.1 95 7).toInt = ((upI u_746 101 z_745.toNatClampNeg z_748).2.2.1 95 7).toInt := rfl
                    have hke_ : ((upI (upI u_746 101 z_745.toNatClampNeg z_748) 101 6 z_753).2.2.1 95 8).toInt = ((upI u_746 101 z_745.toNatClampNeg z_748).2.2.1 95 8).toInt := rfl
                    have hke_ : ((upI (upI u_746 101 z_745.toNatClampNeg z_748) 101 6 z_753).2.2.1 95 9).toInt = ((upI u_746 101 z_745.toNatClampNeg z_748).2.2.1 95 9).toInt := rfl
                    have hke_ : ((upI (upI u_746 101 z_745.toNatClampNeg z_748) 101 6 z_753).2.2.1 95 10).toInt = ((upI u_746 101 z_745.toNatClampNeg z_748).2.2.1 95 10).toInt := rfl
                    have hke_ : ((upI (upI u_746 101 z_745.toNatClampNeg z_748) 101 6 z_753).2.2.1 95 12).toInt = ((upI u_746 101 z_745.toNatClampNeg z_748).2.2.1 95 12).toInt := rfl
                    have hke_ : ((upI (upI u_746 101 z_745.toNatClampNeg z_748) 101 6 z_753).2.2.1 101 0).toInt = ((upI u_746 101 z_745.toNatClampNeg z_748).2.2.1 101 0).toInt := rfl
                    have hke_ : ((upI (upI u_746 101 z_745.toNatClampNeg z_748) 101 6 z_753).2.2.1 101 4).toInt = ((upI u_746 101 z_745.toNatClampNeg z_748).2.2.1 101 4).toInt := rfl
                    have hke_ : ((upI (upI u_746 101 z_745.toNatClampNeg z_748) 101 6 z_753).2.2.1 101 5).toInt = ((upI u_746 101 z_745.toNatClampNeg z_748).2.2.1 101 5).toInt := rfl
                    have hke_ : ((upI (upI u_746 101 z_745.toNatClampNeg z_748) 101 6 z_753).2.2.1 101 6).toInt = z_753.toInt := rfl
                    have hke_ : ((upI (upI u_746 101 z_745.toNatClampNeg z_748) 101 6 z_753).2.2.1 101 7).toInt = ((upI u_746 101 z_745.toNatClampNeg z_748).2.2.1 101 7).toInt := rfl
                    have hke_ : ((upI (upI u_746 101 z_745.toNatClampNeg z_748) 101 6 z_753).2.2.1 101 9).toInt = ((upI u_746 101 z_745.toNatClampNeg z_748).2.2.1 101 9).toInt := rfl
                    refine s_goto (tgt := 232) E dX10_readNext_221 (by decide) ?_
                    exact r_void E dX10_readNext_232 ⟨(by omega), hj_755⟩
                ·
                  have hd_ : ¬ (u_705.2.2.1 101 5).toInt = 6 := by first | exact (hq_.resolve_left (by omega)).2.1 (hT2_.mp (by omega)) | (exfalso; omega)
                  refine s_bipush (v := 46) E dX10_readNext_96 (by decide) ?_
                  refine s_iconst (v := 2) E dX10_readNext_98 (by decide) ?_
                  refine s_aload_n E dX10_readNext_99 rfl rfl ?_
                  refine s_gR (r := 101) E fg_X10_31 rfl rfl (jv_lt hj_721 (by decide)) (jv_r hj_721 (by decide +kernel)) dX10_readNext_100 ?_
                  refine s_iconst (v := 5) E dX10_readNext_103 (by decide) ?_
                  refine s_iald E rfl (jv_lt hj_721 (by decide)) (z_in (u := 5) (by decide) (by omega) (by omega)) dX10_readNext_104 ?_
                  refine z_nm (P := fun z => z.toInt = (u_718.2.2.1 101 5).toInt ∧ 0 ≤ z.toInt ∧ z.toInt ≤ 6) ⟨rfl, (rw_101_5 hj_721)⟩ (fun z_756 hz_756 => ?_)
                  refine z_imul (u := 2) (v := z_756.toInt) E dX10_readNext_105 (by decide) rfl (by omega) (by omega) (fun z_757 hz_757 => ?_)
                  have hhz_757 : 0 ≤ z_757.toInt ∧ z_757.toInt ≤ 10 := by omega
                  refine z_iadd (u := 46) (v := z_757.toInt) E dX10_readNext_106 (by decide) rfl (by omega) (by omega) (fun z_758 hz_758 => ?_)
                  refine s_istore_n (L2 := [some (AR 95), some (AI 1), some (AI z_758)]) E dX10_readNext_107 rfl (by decide) rfl ?_
                  refine s_aload_n E dX10_readNext_108 rfl rfl ?_
                  refine s_gR (r := 101) E fg_X10_31 rfl rfl (jv_lt hj_721 (by decide)) (jv_r hj_721 (by decide +kernel)) dX10_readNext_109 ?_
                  refine s_iload_n E dX10_readNext_112 rfl rfl ?_
                  refine s_aload_n E dX10_readNext_113 rfl rfl ?_
                  refine s_ldcS (i := 26) E (by decide) rfl dX10_readNext_114 ?_
                  refine s_vI (As := [AX (sA aC 26)]) (S := [AI z_758, AR 101]) E (Z_X10_freshRoom_95 l D aC b u_718  hj_721.1  26 (by decide) (by omega)) cv_X10_182 rfl rfl rfl (jv_lt hj_721 (by decide)) (Nat.le_of_ble_eq_true rfl) (Nat.le_of_ble_eq_true rfl) ⟨(Nat.le_of_ble_eq_true rfl), (Nat.le_of_ble_eq_true rfl)⟩ (Nat.le_of_ble_eq_true rfl) dX10_readNext_116 (fun z_761 u_759 hp_760 => ?_)
                  obtain ⟨hz_761, hxz_761, hf_u_759_101, hp_760⟩ := hp_760
                  have hj_762 := jv_trans hj_721 hp_760
                  have hfa_101_0 := congrArg Int32.toInt (congrFun hf_u_759_101 0)
                  have hfa_101_4 := congrArg Int32.toInt (congrFun hf_u_759_101 4)
                  have hfa_101_5 := congrArg Int32.toInt (congrFun hf_u_759_101 5)
                  have hfa_101_6 := congrArg Int32.toInt (congrFun hf_u_759_101 6)
                  have hfa_101_7 := congrArg Int32.toInt (congrFun hf_u_759_101 7)
                  have hfa_101_9 := congrArg Int32.toInt (congrFun hf_u_759_101 9)
                  have hrz_761 : 0 ≤ z_761.toInt ∧ z_761.toInt ≤ 7 := by omega
                  refine s_iast E rfl (jv_lt hj_762 (by decide)) (z_in (u := z_758.toInt) rfl (by omega) (by omega)) dX10_readNext_119 ?_
                  have hj_764 : Jv w (upI u_759 101 z_758.toNatClampNeg z_761) := (jv_a_101 (i := z_758) (x := z_761) hj_762 0 7 46 56 2 z_758.toInt (by decide +kernel) (by decide) rfl (by omega) (by omega) (by omega) (by have hb_ := z32 z_761; omega) (by have hb_ := z32 z_761; omega))
                  have hke_ : ((upI u_759 101 z_758.toNatClampNeg z_761).2.2.1 95 7).toInt = (u_759.2.2.1 95 7).toInt := rfl
                  have hke_ : ((upI u_759 101 z_758.toNatClampNeg z_761).2.2.1 95 8).toInt = (u_759.2.2.1 95 8).toInt := rfl
                  have hke_ : ((upI u_759 101 z_758.toNatClampNeg z_761).2.2.1 95 9).toInt = (u_759.2.2.1 95 9).toInt := rfl
                  have hke_ : ((upI u_759 101 z_758.toNatClampNeg z_761).2.2.1 95 10).toInt = (u_759.2.2.1 95 10).toInt := rfl
                  have hke_ : ((upI u_759 101 z_758.toNatClampNeg z_761).2.2.1 95 12).toInt = (u_759.2.2.1 95 12).toInt := rfl
                  have hke_ : ((upI u_759 101 z_758.toNatClampNeg z_761).2.2.1 101 0).toInt = (u_759.2.2.1 101 0).toInt := keep_ne (u := z_758.toInt) rfl (by omega) (by omega)
                  have hke_ : ((upI u_759 101 z_758.toNatClampNeg z_761).2.2.1 101 4).toInt = (u_759.2.2.1 101 4).toInt := keep_ne (u := z_758.toInt) rfl (by omega) (by omega)
                  have hke_ : ((upI u_759 101 z_758.toNatClampNeg z_761).2.2.1 101 5).toInt = (u_759.2.2.1 101 5).toInt := keep_ne (u := z_758.toInt) rfl (by omega) (by omega)
                  have hke_ : ((upI u_759 101 z_758.toNatClampNeg z_761).2.2.1 101 6).toInt = (u_759.2.2.1 101 6).toInt := keep_ne (u := z_758.toInt) rfl (by omega) (by omega)
                  have hke_ : ((upI u_759 101 z_758.toNatClampNeg z_761).2.2.1 101 7).toInt = (u_759.2.2.1 101 7).toInt := keep_ne (u := z_758.toInt) rfl (by omega) (by omega)
                  have hke_ : ((upI u_759 101 z_758.toNatClampNeg z_761).2.2.1 101 9).toInt = (u_759.2.2.1 101 9).toInt := keep_ne (u := z_758.toInt) rfl (by omega) (by omega)
                  refine s_aload_n E dX10_readNext_120 rfl rfl ?_
                  refine s_gR (r := 101) E fg_X10_31 rfl rfl (jv_lt hj_764 (by decide)) (jv_r hj_764 (by decide +kernel)) dX10_readNext_121 ?_
                  refine s_iload_n E dX10_readNext_124 rfl rfl ?_
                  refine s_iconst (v := 1) E dX10_readNext_125 (by decide) ?_
                  refine z_iadd (u := z_758.toInt) (v := 1) E dX10_readNext_126 rfl (by decide) (by omega) (by omega) (fun z_765 hz_765 => ?_)
                  refine s_aload_n E dX10_readNext_127 rfl rfl ?_
                  refine s_ldcS (i := 25) E (by decide) rfl dX10_readNext_128 ?_
                  refine s_iconst (v := 1) E dX10_readNext_130 (by decide) ?_
                  refine s_bipush (v := 9) E dX10_readNext_131 (by decide) ?_
                  refine s_vI (As := [AX (sA aC 25), AI 1, AI 9]) (S := [AI z_765, AR 101]) E (Z_X10_told_95 l D aC b (upI u_759 101 z_758.toNatClampNeg z_761) 1 9 hj_764.1  25 (by decide) (by omega)) cv_X10_164 rfl rfl rfl (jv_lt hj_764 (by decide)) (Nat.le_of_ble_eq_true rfl) (Nat.le_of_ble_eq_true rfl) ⟨(Nat.le_of_ble_eq_true rfl), (Nat.le_of_ble_eq_true rfl)⟩ (Nat.le_of_ble_eq_true rfl) dX10_readNext_133 (fun z_768 u_766 hp_767 => ?_)
                  obtain ⟨hz_768, hxz_768, hf_u_766_101, hp_767⟩ := hp_767
                  have hc_ : (1 : Int32).toInt = 1 := by decide
                  have hc_ : (9 : Int32).toInt = 9 := by decide
                  have hj_769 := jv_trans hj_764 hp_767
                  have hfa_101_0 := congrArg Int32.toInt (congrFun hf_u_766_101 0)
                  have hfa_101_4 := congrArg Int32.toInt (congrFun hf_u_766_101 4)
                  have hfa_101_5 := congrArg Int32.toInt (congrFun hf_u_766_101 5)
                  have hfa_101_6 := congrArg Int32.toInt (congrFun hf_u_766_101 6)
                  have hfa_101_7 := congrArg Int32.toInt (congrFun hf_u_766_101 7)
                  have hfa_101_9 := congrArg Int32.toInt (congrFun hf_u_766_101 9)
                  have hrz_768 : 0 ≤ z_768.toInt ∧ z_768.toInt ≤ 9 := by omega
                  have hLw_ : (u_766.2.2.1 95 12).toInt = 0 → 1 ≤ z_768.toInt := by intro h0_; omega
                  refine s_iast E rfl (jv_lt hj_769 (by decide)) (z_in (u := z_765.toInt) rfl (by omega) (by omega)) dX10_readNext_136 ?_
                  have hj_771 : Jv w (upI u_766 101 z_765.toNatClampNeg z_768) := (jv_lad hj_769 (by omega) (by omega) (by omega) (by have hb_ := z32 z_768; omega) (by have hb_ := z32 z_768; omega))
                  have hke_ : ((upI u_766 101 z_765.toNatClampNeg z_768).2.2.1 95 7).toInt = (u_766.2.2.1 95 7).toInt := rfl
                  have hke_ : ((upI u_766 101 z_765.toNatClampNeg z_768).2.2.1 95 8).toInt = (u_766.2.2.1 95 8).toInt := rfl
                  have hke_ : ((upI u_766 101 z_765.toNatClampNeg z_768).2.2.1 95 9).toInt = (u_766.2.2.1 95 9).toInt := rfl
                  have hke_ : ((upI u_766 101 z_765.toNatClampNeg z_768).2.2.1 95 10).toInt = (u_766.2.2.1 95 10).toInt := rfl
                  have hke_ : ((upI u_766 101 z_765.toNatClampNeg z_768).2.2.1 95 12).toInt = (u_766.2.2.1 95 12).toInt := rfl
                  have hke_ : ((upI u_766 101 z_765.toNatClampNeg z_768).2.2.1 101 0).toInt = (u_766.2.2.1 101 0).toInt := keep_ne (u := z_765.toInt) rfl (by omega) (by omega)
                  have hke_ : ((upI u_766 101 z_765.toNatClampNeg z_768).2.2.1 101 4).toInt = (u_766.2.2.1 101 4).toInt := keep_ne (u := z_765.toInt) rfl (by omega) (by omega)
                  have hke_ : ((upI u_766 101 z_765.toNatClampNeg z_768).2.2.1 101 5).toInt = (u_766.2.2.1 101 5).toInt := keep_ne (u := z_765.toInt) rfl (by omega) (by omega)
                  have hke_ : ((upI u_766 101 z_765.toNatClampNeg z_768).2.2.1 101 6).toInt = (u_766.2.2.1 101 6).toInt := keep_ne (u := z_765.toInt) rfl (by omega) (by omega)
                  have hke_ : ((upI u_766 101 z_765.toNatClampNeg z_768).2.2.1 101 7).toInt = (u_766.2.2.1 101 7).toInt := keep_ne (u := z_765.toInt) rfl (by omega) (by omega)
                  have hke_ : ((upI u_766 101 z_765.toNatClampNeg z_768).2.2.1 101 9).toInt = (u_766.2.2.1 101 9).toInt := keep_ne (u := z_765.toInt) rfl (by omega) (by omega)
                  refine s_aload_n E dX10_readNext_137 rfl rfl ?_
                  refine s_gR (r := 101) E fg_X10_31 rfl rfl (jv_lt hj_771 (by decide)) (jv_r hj_771 (by decide +kernel)) dX10_readNext_138 ?_
                  refine s_iconst (v := 5) E dX10_readNext_141 (by decide) ?_
                  refine s_dup2 E dX10_readNext_142 ?_
                  refine s_iald E rfl (jv_lt hj_771 (by decide)) (z_in (u := 5) (by decide) (by omega) (by omega)) dX10_readNext_143 ?_
                  refine z_nm (P := fun z => z.toInt = ((upI u_766 101 z_765.toNatClampNeg z_768).2.2.1 101 5).toInt ∧ 0 ≤ z.toInt ∧ z.toInt ≤ 6) ⟨rfl, (rw_101_5 hj_771)⟩ (fun z_772 hz_772 => ?_)
                  refine s_iconst (v := 1) E dX10_readNext_144 (by decide) ?_
                  refine z_iadd (u := z_772.toInt) (v := 1) E dX10_readNext_145 rfl (by decide) (by omega) (by omega) (fun z_773 hz_773 => ?_)
                  have hhz_773 : 0 ≤ z_773.toInt ∧ z_773.toInt ≤ 6 := by omega
                  refine s_iast E rfl (jv_lt hj_771 (by decide)) (z_in (u := 5) (by decide) (by omega) (by omega)) dX10_readNext_146 ?_
                  have hj_775 : Jv w (upI (upI u_766 101 z_765.toNatClampNeg z_768) 101 5 z_773) := (jv_lad5 hj_771 (by omega) (by omega) (by omega) (lad_fin (by omega) (by omega) hLw_))
                  have hke_ : ((upI (upI u_766 101 z_765.toNatClampNeg z_768) 101 5 z_773).2.2.1 95 7).toInt = ((upI u_766 101 z_765.toNatClampNeg z_768).2.2.1 95 7).toInt := rfl
                  have hke_ : ((upI (upI u_766 101 z_765.toNatClampNeg z_768) 101 5 z_773).2.2.1 95 8).toInt = ((upI u_766 101 z_765.toNatClampNeg z_768).2.2.1 95 8).toInt := rfl
                  have hke_ : ((upI (upI u_766 101 z_765.toNatClampNeg z_768) 101 5 z_773).2.2.1 95 9).toInt = ((upI u_766 101 z_765.toNatClampNeg z_768).2.2.1 95 9).toInt := rfl
                  have hke_ : ((upI (upI u_766 101 z_765.toNatClampNeg z_768) 101 5 z_773).2.2.1 95 10).toInt = ((upI u_766 101 z_765.toNatClampNeg z_768).2.2.1 95 10).toInt := rfl
                  have hke_ : ((upI (upI u_766 101 z_765.toNatClampNeg z_768) 101 5 z_773).2.2.1 95 12).toInt = ((upI u_766 101 z_765.toNatClampNeg z_768).2.2.1 95 12).toInt := rfl
                  have hke_ : ((upI (upI u_766 101 z_765.toNatClampNeg z_768) 101 5 z_773).2.2.1 101 0).toInt = ((upI u_766 101 z_765.toNatClampNeg z_768).2.2.1 101 0).toInt := rfl
                  have hke_ : ((upI (upI u_766 101 z_765.toNatClampNeg z_768) 101 5 z_773).2.2.1 101 4).toInt = ((upI u_766 101 z_765.toNatClampNeg z_768).2.2.1 101 4).toInt := rfl
                  have hke_ : ((upI (upI u_766 101 z_765.toNatClampNeg z_768) 101 5 z_773).2.2.1 101 5).toInt = z_773.toInt := rfl
                  have hke_ : ((upI (upI u_766 101 z_765.toNatClampNeg z_768) 101 5 z_773).2.2.1 101 6).toInt = ((upI u_766 101 z_765.toNatClampNeg z_768).2.2.1 101 6).toInt := rfl
                  have hke_ : ((upI (upI u_766 101 z_765.toNatClampNeg z_768) 101 5 z_773).2.2.1 101 7).toInt = ((upI u_766 101 z_765.toNatClampNeg z_768).2.2.1 101 7).toInt := rfl
                  have hke_ : ((upI (upI u_766 101 z_765.toNatClampNeg z_768) 101 5 z_773).2.2.1 101 9).toInt = ((upI u_766 101 z_765.toNatClampNeg z_768).2.2.1 101 9).toInt := rfl
                  refine s_goto (tgt := 232) E dX10_readNext_147 (by decide) ?_
                  exact r_void E dX10_readNext_232 ⟨(by omega), hj_775⟩
              ·
                have hd_ : ¬ (u_705.2.2.1 101 4).toInt = 12 := by first | exact (hq_.resolve_left (by omega)).1 (hT_.mp (by omega)) | (exfalso; omega)
                refine s_aload_n E dX10_readNext_80 rfl rfl ?_
                refine s_vV (As := []) (S := []) E (Z_X10_readDoor_95 l D aC b u_713  hj_716.1  (by omega) (by omega)) cv_X10_198 rfl rfl rfl (jv_lt hj_716 (by decide)) (Nat.le_of_ble_eq_true rfl) (Nat.le_of_ble_eq_true rfl) ⟨(Nat.le_of_ble_eq_true rfl), (Nat.le_of_ble_eq_true rfl)⟩ (Nat.le_of_ble_eq_true rfl) dX10_readNext_81 (fun u_776 hp_777 => ?_)
                obtain ⟨hx_hp_777, hp_777⟩ := hp_777
                have hj_778 := jv_trans hj_716 hp_777
                refine s_goto (tgt := 232) E dX10_readNext_84 (by decide) ?_
                exact r_void E dX10_readNext_232 ⟨(by omega), hj_778⟩
            ·
              exact r_void E dX10_readNext_70 ⟨(by omega), hj_707⟩
set_option maxRecDepth 20000 in
set_option maxHeartbeats 2000000 in
theorem Z_X10_readFirst_95 (l : Launch) (D : va_G) (aC : Nat → ClassId) (b : Nat) (w : XW)  (hI : Iv w) (hpi : (w.2.2.1 95 9).toInt ≤ (w.2.2.1 95 8).toInt ∧ ((w.2.2.1 95 10).toInt = 0 ∨ (w.2.2.1 95 9).toInt < (w.2.2.1 95 8).toInt)) : CnV l D aC b M_X10_readFirst 8 289 0 0 [AR 95] w (fun u => ((u.2.2.1 95 7).toInt = (w.2.2.1 95 7).toInt ∧ ((u.2.2.1 95 12).toInt = 0 → (w.2.2.1 95 12).toInt = 0) ∧ (w.2.2.1 95 9).toInt ≤ (u.2.2.1 95 9).toInt ∧ (u.2.2.1 95 9).toInt ≤ (u.2.2.1 95 8).toInt ∧ ((u.2.2.1 95 10).toInt = 0 ∨ (u.2.2.1 95 9).toInt < (u.2.2.1 95 8).toInt) ∧ (u.2.2.1 101 9).toInt = (w.2.2.1 101 9).toInt) ∧ Jv w u) := by
  refine cn_V (own := RX10) (nm := "readFirst") (L0 := [some (AR 95)]) (by decide +kernel) rfl rfl (Nat.le_of_ble_eq_true rfl) rfl ?_
  intro p e s m args below meth c E hin
  have hJ : Jv w w := jv_rfl hI
  refine s_aload_n E dX10_readFirst_0 rfl rfl ?_
  refine s_ldcS (i := 15) E (by decide) rfl dX10_readFirst_1 ?_
  refine s_vV (As := [AX (sA aC 15)]) (S := []) E (Z_X10_needs_95 l D aC b w  hJ.1  15 (by decide) (by omega)) cv_X10_157 rfl rfl rfl (jv_lt hJ (by decide)) (Nat.le_of_ble_eq_true rfl) (Nat.le_of_ble_eq_true rfl) ⟨(Nat.le_of_ble_eq_true rfl), (Nat.le_of_ble_eq_true rfl)⟩ (Nat.le_of_ble_eq_true rfl) dX10_readFirst_3 (fun u_1 hp_2 => ?_)
  obtain ⟨hx_hp_2, hf_u_1_101, hp_2⟩ := hp_2
  have hj_3 := jv_trans hJ hp_2
  have hfa_101_9 := congrArg Int32.toInt (congrFun hf_u_1_101 9)
  refine s_aload_n E dX10_readFirst_6 rfl rfl ?_
  refine s_gR (r := 101) E fg_X10_31 rfl rfl (jv_lt hj_3 (by decide)) (jv_r hj_3 (by decide +kernel)) dX10_readFirst_7 ?_
  refine s_iconst (v := 0) E dX10_readFirst_10 (by decide) ?_
  refine s_aload_n E dX10_readFirst_11 rfl rfl ?_
  refine s_ldcS (i := 16) E (by decide) rfl dX10_readFirst_12 ?_
  refine s_iconst (v := 1) E dX10_readFirst_14 (by decide) ?_
  refine s_bipush (v := 8) E dX10_readFirst_15 (by decide) ?_
  refine s_vI (As := [AX (sA aC 16), AI 1, AI 8]) (S := [AI 0, AR 101]) E (Z_X10_told_95 l D aC b u_1 1 8 hj_3.1  16 (by decide) (by omega)) cv_X10_164 rfl rfl rfl (jv_lt hj_3 (by decide)) (Nat.le_of_ble_eq_true rfl) (Nat.le_of_ble_eq_true rfl) ⟨(Nat.le_of_ble_eq_true rfl), (Nat.le_of_ble_eq_true rfl)⟩ (Nat.le_of_ble_eq_true rfl) dX10_readFirst_17 (fun z_6 u_4 hp_5 => ?_)
  obtain ⟨hz_6, hxz_6, hf_u_4_101, hp_5⟩ := hp_5
  have hc_ : (1 : Int32).toInt = 1 := by decide
  have hc_ : (8 : Int32).toInt = 8 := by decide
  have hj_7 := jv_trans hj_3 hp_5
  have hfa_101_9 := congrArg Int32.toInt (congrFun hf_u_4_101 9)
  have hrz_6 : 0 ≤ z_6.toInt ∧ z_6.toInt ≤ 8 := by omega
  refine s_iast E rfl (jv_lt hj_7 (by decide)) (z_in (u := 0) (by decide) (by omega) (by omega)) dX10_readFirst_20 ?_
  refine s_gen (P := fun v => Jv w v ∧ (v.2.2.1 95 7).toInt = (u_4.2.2.1 95 7).toInt ∧ (v.2.2.1 95 8).toInt = (u_4.2.2.1 95 8).toInt ∧ (v.2.2.1 95 9).toInt = (u_4.2.2.1 95 9).toInt ∧ (v.2.2.1 95 10).toInt = (u_4.2.2.1 95 10).toInt ∧ (v.2.2.1 95 12).toInt = (u_4.2.2.1 95 12).toInt ∧ (v.2.2.1 101 9).toInt = (u_4.2.2.1 101 9).toInt) ⟨(jv_a_101 (i := 0) (x := z_6) hj_7 0 8 0 0 1 0 (by decide +kernel) (by decide) (by decide) (by omega) (by omega) (by omega) (by have hb_ := z32 z_6; omega) (by have hb_ := z32 z_6; omega)), rfl, rfl, rfl, rfl, rfl, rfl⟩ (fun v_8 hj_9 => ?_)
  obtain ⟨hj_9, hk_10k0, hk_10k1, hk_10k2, hk_10k3, hk_10k4, hk_10k5⟩ := hj_9
  refine s_aload_n E dX10_readFirst_21 rfl rfl ?_
  refine s_gR (r := 101) E fg_X10_31 rfl rfl (jv_lt hj_9 (by decide)) (jv_r hj_9 (by decide +kernel)) dX10_readFirst_22 ?_
  refine s_iconst (v := 1) E dX10_readFirst_25 (by decide) ?_
  refine s_aload_n E dX10_readFirst_26 rfl rfl ?_
  refine s_ldcS (i := 17) E (by decide) rfl dX10_readFirst_27 ?_
  refine s_iconst (v := 1) E dX10_readFirst_29 (by decide) ?_
  refine s_bipush (v := 14) E dX10_readFirst_30 (by decide) ?_
  refine s_vI (As := [AX (sA aC 17), AI 1, AI 14]) (S := [AI 1, AR 101]) E (Z_X10_told_95 l D aC b v_8 1 14 hj_9.1  17 (by decide) (by omega)) cv_X10_164 rfl rfl rfl (jv_lt hj_9 (by decide)) (Nat.le_of_ble_eq_true rfl) (Nat.le_of_ble_eq_true rfl) ⟨(Nat.le_of_ble_eq_true rfl), (Nat.le_of_ble_eq_true rfl)⟩ (Nat.le_of_ble_eq_true rfl) dX10_readFirst_32 (fun z_13 u_11 hp_12 => ?_)
  obtain ⟨hz_13, hxz_13, hf_u_11_101, hp_12⟩ := hp_12
  have hc_ : (1 : Int32).toInt = 1 := by decide
  have hc_ : (14 : Int32).toInt = 14 := by decide
  have hj_14 := jv_trans hj_9 hp_12
  have hfa_101_9 := congrArg Int32.toInt (congrFun hf_u_11_101 9)
  have hrz_13 : 0 ≤ z_13.toInt ∧ z_13.toInt ≤ 14 := by omega
  refine s_iast E rfl (jv_lt hj_14 (by decide)) (z_in (u := 1) (by decide) (by omega) (by omega)) dX10_readFirst_35 ?_
  refine s_gen (P := fun v => Jv w v ∧ (v.2.2.1 95 7).toInt = (u_11.2.2.1 95 7).toInt ∧ (v.2.2.1 95 8).toInt = (u_11.2.2.1 95 8).toInt ∧ (v.2.2.1 95 9).toInt = (u_11.2.2.1 95 9).toInt ∧ (v.2.2.1 95 10).toInt = (u_11.2.2.1 95 10).toInt ∧ (v.2.2.1 95 12).toInt = (u_11.2.2.1 95 12).toInt ∧ (v.2.2.1 101 9).toInt = (u_11.2.2.1 101 9).toInt) ⟨(jv_a_101 (i := 1) (x := z_13) hj_14 0 14 1 1 1 1 (by decide +kernel) (by decide) (by decide) (by omega) (by omega) (by omega) (by have hb_ := z32 z_13; omega) (by have hb_ := z32 z_13; omega)), rfl, rfl, rfl, rfl, rfl, rfl⟩ (fun v_15 hj_16 => ?_)
  obtain ⟨hj_16, hk_17k0, hk_17k1, hk_17k2, hk_17k3, hk_17k4, hk_17k5⟩ := hj_16
  refine s_aload_n E dX10_readFirst_36 rfl rfl ?_
  refine s_gR (r := 101) E fg_X10_31 rfl rfl (jv_lt hj_16 (by decide)) (jv_r hj_16 (by decide +kernel)) dX10_readFirst_37 ?_
  refine s_iconst (v := 2) E dX10_readFirst_40 (by decide) ?_
  refine s_aload_n E dX10_readFirst_41 rfl rfl ?_
  refine s_ldcS (i := 18) E (by decide) rfl dX10_readFirst_42 ?_
  refine s_iconst (v := 0) E dX10_readFirst_44 (by decide) ?_
  refine s_iconst (v := 3) E dX10_readFirst_45 (by decide) ?_
  refine s_vI (As := [AX (sA aC 18), AI 0, AI 3]) (S := [AI 2, AR 101]) E (Z_X10_told_95 l D aC b v_15 0 3 hj_16.1  18 (by decide) (by omega)) cv_X10_164 rfl rfl rfl (jv_lt hj_16 (by decide)) (Nat.le_of_ble_eq_true rfl) (Nat.le_of_ble_eq_true rfl) ⟨(Nat.le_of_ble_eq_true rfl), (Nat.le_of_ble_eq_true rfl)⟩ (Nat.le_of_ble_eq_true rfl) dX10_readFirst_46 (fun z_20 u_18 hp_19 => ?_)
  obtain ⟨hz_20, hxz_20, hf_u_18_101, hp_19⟩ := hp_19
  have hc_ : (0 : Int32).toInt = 0 := by decide
  have hc_ : (3 : Int32).toInt = 3 := by decide
  have hj_21 := jv_trans hj_16 hp_19
  have hfa_101_9 := congrArg Int32.toInt (congrFun hf_u_18_101 9)
  have hrz_20 : 0 ≤ z_20.toInt ∧ z_20.toInt ≤ 3 := by omega
  refine s_iast E rfl (jv_lt hj_21 (by decide)) (z_in (u := 2) (by decide) (by omega) (by omega)) dX10_readFirst_49 ?_
  refine s_gen (P := fun v => Jv w v ∧ (v.2.2.1 95 7).toInt = (u_18.2.2.1 95 7).toInt ∧ (v.2.2.1 95 8).toInt = (u_18.2.2.1 95 8).toInt ∧ (v.2.2.1 95 9).toInt = (u_18.2.2.1 95 9).toInt ∧ (v.2.2.1 95 10).toInt = (u_18.2.2.1 95 10).toInt ∧ (v.2.2.1 95 12).toInt = (u_18.2.2.1 95 12).toInt ∧ (v.2.2.1 101 9).toInt = (u_18.2.2.1 101 9).toInt) ⟨(jv_a_101 (i := 2) (x := z_20) hj_21 0 3 2 2 1 2 (by decide +kernel) (by decide) (by decide) (by omega) (by omega) (by omega) (by have hb_ := z32 z_20; omega) (by have hb_ := z32 z_20; omega)), rfl, rfl, rfl, rfl, rfl, rfl⟩ (fun v_22 hj_23 => ?_)
  obtain ⟨hj_23, hk_24k0, hk_24k1, hk_24k2, hk_24k3, hk_24k4, hk_24k5⟩ := hj_23
  refine s_aload_n E dX10_readFirst_50 rfl rfl ?_
  refine s_gR (r := 101) E fg_X10_31 rfl rfl (jv_lt hj_23 (by decide)) (jv_r hj_23 (by decide +kernel)) dX10_readFirst_51 ?_
  refine s_iconst (v := 3) E dX10_readFirst_54 (by decide) ?_
  refine s_aload_n E dX10_readFirst_55 rfl rfl ?_
  refine s_ldcS (i := 19) E (by decide) rfl dX10_readFirst_56 ?_
  refine s_iconst (v := 0) E dX10_readFirst_58 (by decide) ?_
  refine s_bipush (v := 10) E dX10_readFirst_59 (by decide) ?_
  refine s_vI (As := [AX (sA aC 19), AI 0, AI 10]) (S := [AI 3, AR 101]) E (Z_X10_told_95 l D aC b v_22 0 10 hj_23.1  19 (by decide) (by omega)) cv_X10_164 rfl rfl rfl (jv_lt hj_23 (by decide)) (Nat.le_of_ble_eq_true rfl) (Nat.le_of_ble_eq_true rfl) ⟨(Nat.le_of_ble_eq_true rfl), (Nat.le_of_ble_eq_true rfl)⟩ (Nat.le_of_ble_eq_true rfl) dX10_readFirst_61 (fun z_27 u_25 hp_26 => ?_)
  obtain ⟨hz_27, hxz_27, hf_u_25_101, hp_26⟩ := hp_26
  have hc_ : (0 : Int32).toInt = 0 := by decide
  have hc_ : (10 : Int32).toInt = 10 := by decide
  have hj_28 := jv_trans hj_23 hp_26
  have hfa_101_9 := congrArg Int32.toInt (congrFun hf_u_25_101 9)
  have hrz_27 : 0 ≤ z_27.toInt ∧ z_27.toInt ≤ 10 := by omega
  refine s_iast E rfl (jv_lt hj_28 (by decide)) (z_in (u := 3) (by decide) (by omega) (by omega)) dX10_readFirst_64 ?_
  refine s_gen (P := fun v => Jv w v ∧ (v.2.2.1 95 7).toInt = (u_25.2.2.1 95 7).toInt ∧ (v.2.2.1 95 8).toInt = (u_25.2.2.1 95 8).toInt ∧ (v.2.2.1 95 9).toInt = (u_25.2.2.1 95 9).toInt ∧ (v.2.2.1 95 10).toInt = (u_25.2.2.1 95 10).toInt ∧ (v.2.2.1 95 12).toInt = (u_25.2.2.1 95 12).toInt ∧ (v.2.2.1 101 9).toInt = (u_25.2.2.1 101 9).toInt) ⟨(jv_a_101 (i := 3) (x := z_27) hj_28 0 10 3 3 1 3 (by decide +kernel) (by decide) (by decide) (by omega) (by omega) (by omega) (by have hb_ := z32 z_27; omega) (by have hb_ := z32 z_27; omega)), rfl, rfl, rfl, rfl, rfl, rfl⟩ (fun v_29 hj_30 => ?_)
  obtain ⟨hj_30, hk_31k0, hk_31k1, hk_31k2, hk_31k3, hk_31k4, hk_31k5⟩ := hj_30
  exact r_void E dX10_readFirst_65 ⟨(by omega), hj_30⟩
set_option maxRecDepth 20000 in
set_option maxHeartbeats 2000000 in
theorem Z_X10_readLine_95 (l : Launch) (D : va_G) (aC : Nat → ClassId) (b : Nat) (w : XW)  (hI : Iv w) (hpi : (w.2.2.1 95 9).toInt ≤ (w.2.2.1 95 8).toInt ∧ ((w.2.2.1 95 10).toInt = 0 ∨ (w.2.2.1 95 9).toInt < (w.2.2.1 95 8).toInt)) (hy9 : (w.2.2.1 101 9).toInt ≤ 1000) : CnV l D aC b M_X10_readLine 11 353 0 0 [AR 95] w (fun u => ((u.2.2.1 95 7).toInt = (w.2.2.1 95 7).toInt ∧ ((u.2.2.1 95 12).toInt = 0 → (w.2.2.1 95 12).toInt = 0) ∧ (w.2.2.1 95 9).toInt ≤ (u.2.2.1 95 9).toInt ∧ (u.2.2.1 95 9).toInt ≤ (u.2.2.1 95 8).toInt ∧ ((u.2.2.1 95 10).toInt = 0 ∨ (u.2.2.1 95 9).toInt < (u.2.2.1 95 8).toInt) ∧ ((u.2.2.1 95 12).toInt = 0 → (w.2.2.1 95 9).toInt < (u.2.2.1 95 9).toInt) ∧ (u.2.2.1 101 9).toInt = (w.2.2.1 101 9).toInt + 1) ∧ Jv w u) := by
  refine cn_V (own := RX10) (nm := "readLine") (L0 := [some (AR 95)]) (by decide +kernel) rfl rfl (Nat.le_of_ble_eq_true rfl) rfl ?_
  intro p e s m args below meth c E hin
  have hJ : Jv w w := jv_rfl hI
  refine s_aload_n E dX10_readLine_0 rfl rfl ?_
  refine s_gR (r := 101) E fg_X10_31 rfl rfl (jv_lt hJ (by decide)) (jv_r hJ (by decide +kernel)) dX10_readLine_1 ?_
  refine s_bipush (v := 9) E dX10_readLine_4 (by decide) ?_
  refine s_iald E rfl (jv_lt hJ (by decide)) (z_in (u := 9) (by decide) (by omega) (by omega)) dX10_readLine_6 ?_
  refine z_nm (P := fun z => z.toInt = (w.2.2.1 101 9).toInt ∧ 0 ≤ z.toInt ∧ z.toInt ≤ 2147483647) ⟨rfl, (rw_101_9 hJ)⟩ (fun z_1 hz_1 => ?_)
  refine z_if_ne (tgt := 17) (u := z_1.toInt) E dX10_readLine_7 (by decide) rfl (fun h_2 => ?_) (fun h_2 => ?_)
  ·
    refine s_aload_n E dX10_readLine_17 rfl rfl ?_
    refine s_vV (As := []) (S := []) E (Z_X10_readNext_95 l D aC b w  hJ.1  (by omega)) cv_X10_212 rfl rfl rfl (jv_lt hJ (by decide)) (Nat.le_of_ble_eq_true rfl) (Nat.le_of_ble_eq_true rfl) ⟨(Nat.le_of_ble_eq_true rfl), (Nat.le_of_ble_eq_true rfl)⟩ (Nat.le_of_ble_eq_true rfl) dX10_readLine_18 (fun u_3 hp_4 => ?_)
    obtain ⟨hx_hp_4, hp_4⟩ := hp_4
    have hj_5 := jv_trans hJ hp_4
    refine s_aload_n E dX10_readLine_21 rfl rfl ?_
    refine s_vI (As := []) (S := []) E (Z_X10_good_95 l D aC b u_3  hj_5.1 ) cv_X10_130 rfl rfl rfl (jv_lt hj_5 (by decide)) (Nat.le_of_ble_eq_true rfl) (Nat.le_of_ble_eq_true rfl) ⟨(Nat.le_of_ble_eq_true rfl), (Nat.le_of_ble_eq_true rfl)⟩ (Nat.le_of_ble_eq_true rfl) dX10_readLine_22 (fun z_8 u_6 hp_7 => ?_)
    obtain ⟨hz_8, hxz_8, hp_7⟩ := hp_7
    subst hp_7
    refine z_if_eq (tgt := 41) (u := z_8.toInt) E dX10_readLine_25 (by decide) rfl (fun h_10 => ?_) (fun h_10 => ?_)
    ·
      refine s_aload_n E dX10_readLine_41 rfl rfl ?_
      refine s_vI (As := []) (S := []) E (Z_X10_good_95 l D aC b u_3  hj_5.1 ) cv_X10_130 rfl rfl rfl (jv_lt hj_5 (by decide)) (Nat.le_of_ble_eq_true rfl) (Nat.le_of_ble_eq_true rfl) ⟨(Nat.le_of_ble_eq_true rfl), (Nat.le_of_ble_eq_true rfl)⟩ (Nat.le_of_ble_eq_true rfl) dX10_readLine_42 (fun z_13 u_11 hp_12 => ?_)
      obtain ⟨hz_13, hxz_13, hp_12⟩ := hp_12
      subst hp_12
      refine z_if_eq (tgt := 52) (u := z_13.toInt) E dX10_readLine_45 (by decide) rfl (fun h_15 => ?_) (fun h_15 => ?_)
      ·
        refine s_aload_n E dX10_readLine_52 rfl rfl ?_
        refine s_gR (r := 101) E fg_X10_31 rfl rfl (jv_lt hj_5 (by decide)) (jv_r hj_5 (by decide +kernel)) dX10_readLine_53 ?_
        refine s_bipush (v := 9) E dX10_readLine_56 (by decide) ?_
        refine s_dup2 E dX10_readLine_58 ?_
        refine s_iald E rfl (jv_lt hj_5 (by decide)) (z_in (u := 9) (by decide) (by omega) (by omega)) dX10_readLine_59 ?_
        refine z_nm (P := fun z => z.toInt = (u_3.2.2.1 101 9).toInt ∧ 0 ≤ z.toInt ∧ z.toInt ≤ 2147483647) ⟨rfl, (rw_101_9 hj_5)⟩ (fun z_16 hz_16 => ?_)
        refine s_iconst (v := 1) E dX10_readLine_60 (by decide) ?_
        refine s_iadd E dX10_readLine_61 ?_
        refine z_nm (P := fun z => (-2147483648) ≤ z.toInt ∧ z.toInt ≤ 2147483647) (z32 _) (fun z_17 hz_17 => ?_)
        have hhz_17 : 1 ≤ z_17.toInt ∧ z_17.toInt ≤ 1001 := by omega
        refine s_iast E rfl (jv_lt hj_5 (by decide)) (z_in (u := 9) (by decide) (by omega) (by omega)) dX10_readLine_62 ?_
        refine s_gen (P := fun v => Jv w v ∧ (v.2.2.1 95 7).toInt = (u_3.2.2.1 95 7).toInt ∧ (v.2.2.1 95 8).toInt = (u_3.2.2.1 95 8).toInt ∧ (v.2.2.1 95 9).toInt = (u_3.2.2.1 95 9).toInt ∧ (v.2.2.1 95 10).toInt = (u_3.2.2.1 95 10).toInt ∧ (v.2.2.1 95 12).toInt = (u_3.2.2.1 95 12).toInt ∧ (v.2.2.1 101 9).toInt = z_17.toInt) ⟨(jv_a_101 (i := 9) (x := z_17) hj_5 0 2147483647 9 9 1 9 (by decide +kernel) (by decide) (by decide) (by omega) (by omega) (by omega) (by have hb_ := z32 z_17; omega) (by have hb_ := z32 z_17; omega)), rfl, rfl, rfl, rfl, rfl, rfl⟩ (fun v_18 hj_19 => ?_)
        obtain ⟨hj_19, hk_20k0, hk_20k1, hk_20k2, hk_20k3, hk_20k4, hk_20k5⟩ := hj_19
        exact r_void E dX10_readLine_63 ⟨(by omega), hj_19⟩
      ·
        refine s_aload_n E dX10_readLine_48 rfl rfl ?_
        refine s_vV (As := []) (S := []) E (Z_X10_advance_95 l D aC b u_3  hj_5.1 ) cv_X10_147 rfl rfl rfl (jv_lt hj_5 (by decide)) (Nat.le_of_ble_eq_true rfl) (Nat.le_of_ble_eq_true rfl) ⟨(Nat.le_of_ble_eq_true rfl), (Nat.le_of_ble_eq_true rfl)⟩ (Nat.le_of_ble_eq_true rfl) dX10_readLine_49 (fun u_21 hp_22 => ?_)
        obtain ⟨hx_hp_22, hf_u_21_99, hf_u_21_101, hp_22⟩ := hp_22
        have hj_23 := jv_trans hj_5 hp_22
        have hfa_101_9 := congrArg Int32.toInt (congrFun hf_u_21_101 9)
        refine s_aload_n E dX10_readLine_52 rfl rfl ?_
        refine s_gR (r := 101) E fg_X10_31 rfl rfl (jv_lt hj_23 (by decide)) (jv_r hj_23 (by decide +kernel)) dX10_readLine_53 ?_
        refine s_bipush (v := 9) E dX10_readLine_56 (by decide) ?_
        refine s_dup2 E dX10_readLine_58 ?_
        refine s_iald E rfl (jv_lt hj_23 (by decide)) (z_in (u := 9) (by decide) (by omega) (by omega)) dX10_readLine_59 ?_
        refine z_nm (P := fun z => z.toInt = (u_21.2.2.1 101 9).toInt ∧ 0 ≤ z.toInt ∧ z.toInt ≤ 2147483647) ⟨rfl, (rw_101_9 hj_23)⟩ (fun z_24 hz_24 => ?_)
        refine s_iconst (v := 1) E dX10_readLine_60 (by decide) ?_
        refine s_iadd E dX10_readLine_61 ?_
        refine z_nm (P := fun z => (-2147483648) ≤ z.toInt ∧ z.toInt ≤ 2147483647) (z32 _) (fun z_25 hz_25 => ?_)
        have hhz_25 : 1 ≤ z_25.toInt ∧ z_25.toInt ≤ 1001 := by omega
        refine s_iast E rfl (jv_lt hj_23 (by decide)) (z_in (u := 9) (by decide) (by omega) (by omega)) dX10_readLine_62 ?_
        refine s_gen (P := fun v => Jv w v ∧ (v.2.2.1 95 7).toInt = (u_21.2.2.1 95 7).toInt ∧ (v.2.2.1 95 8).toInt = (u_21.2.2.1 95 8).toInt ∧ (v.2.2.1 95 9).toInt = (u_21.2.2.1 95 9).toInt ∧ (v.2.2.1 95 10).toInt = (u_21.2.2.1 95 10).toInt ∧ (v.2.2.1 95 12).toInt = (u_21.2.2.1 95 12).toInt ∧ (v.2.2.1 101 9).toInt = z_25.toInt) ⟨(jv_a_101 (i := 9) (x := z_25) hj_23 0 2147483647 9 9 1 9 (by decide +kernel) (by decide) (by decide) (by omega) (by omega) (by omega) (by have hb_ := z32 z_25; omega) (by have hb_ := z32 z_25; omega)), rfl, rfl, rfl, rfl, rfl, rfl⟩ (fun v_26 hj_27 => ?_)
        obtain ⟨hj_27, hk_28k0, hk_28k1, hk_28k2, hk_28k3, hk_28k4, hk_28k5⟩ := hj_27
        exact r_void E dX10_readLine_63 ⟨(by omega), hj_27⟩
    ·
      refine s_aload_n E dX10_readLine_28 rfl rfl ?_
      refine s_gI E fg_X10_106 rfl rfl (jv_lt hj_5 (by decide)) dX10_readLine_29 ?_
      refine z_nm (P := fun z => z.toInt = (u_3.2.2.1 95 10).toInt ∧ 0 ≤ z.toInt ∧ z.toInt ≤ 4) ⟨rfl, (rg_95_10 hj_5)⟩ (fun z_29 hz_29 => ?_)
      refine s_iconst (v := 3) E dX10_readLine_32 (by decide) ?_
      refine z_icmp_eq (tgt := 41) (u := z_29.toInt) (v := 3) E dX10_readLine_33 (by decide) rfl (by decide) (fun h_30 => ?_) (fun h_30 => ?_)
      ·
        refine s_aload_n E dX10_readLine_41 rfl rfl ?_
        refine s_vI (As := []) (S := []) E (Z_X10_good_95 l D aC b u_3  hj_5.1 ) cv_X10_130 rfl rfl rfl (jv_lt hj_5 (by decide)) (Nat.le_of_ble_eq_true rfl) (Nat.le_of_ble_eq_true rfl) ⟨(Nat.le_of_ble_eq_true rfl), (Nat.le_of_ble_eq_true rfl)⟩ (Nat.le_of_ble_eq_true rfl) dX10_readLine_42 (fun z_33 u_31 hp_32 => ?_)
        obtain ⟨hz_33, hxz_33, hp_32⟩ := hp_32
        subst hp_32
        refine z_if_eq (tgt := 52) (u := z_33.toInt) E dX10_readLine_45 (by decide) rfl (fun h_35 => ?_) (fun h_35 => ?_)
        ·
          refine s_aload_n E dX10_readLine_52 rfl rfl ?_
          refine s_gR (r := 101) E fg_X10_31 rfl rfl (jv_lt hj_5 (by decide)) (jv_r hj_5 (by decide +kernel)) dX10_readLine_53 ?_
          refine s_bipush (v := 9) E dX10_readLine_56 (by decide) ?_
          refine s_dup2 E dX10_readLine_58 ?_
          refine s_iald E rfl (jv_lt hj_5 (by decide)) (z_in (u := 9) (by decide) (by omega) (by omega)) dX10_readLine_59 ?_
          refine z_nm (P := fun z => z.toInt = (u_3.2.2.1 101 9).toInt ∧ 0 ≤ z.toInt ∧ z.toInt ≤ 2147483647) ⟨rfl, (rw_101_9 hj_5)⟩ (fun z_36 hz_36 => ?_)
          refine s_iconst (v := 1) E dX10_readLine_60 (by decide) ?_
          refine s_iadd E dX10_readLine_61 ?_
          refine z_nm (P := fun z => (-2147483648) ≤ z.toInt ∧ z.toInt ≤ 2147483647) (z32 _) (fun z_37 hz_37 => ?_)
          have hhz_37 : 1 ≤ z_37.toInt ∧ z_37.toInt ≤ 1001 := by omega
          refine s_iast E rfl (jv_lt hj_5 (by decide)) (z_in (u := 9) (by decide) (by omega) (by omega)) dX10_readLine_62 ?_
          refine s_gen (P := fun v => Jv w v ∧ (v.2.2.1 95 7).toInt = (u_3.2.2.1 95 7).toInt ∧ (v.2.2.1 95 8).toInt = (u_3.2.2.1 95 8).toInt ∧ (v.2.2.1 95 9).toInt = (u_3.2.2.1 95 9).toInt ∧ (v.2.2.1 95 10).toInt = (u_3.2.2.1 95 10).toInt ∧ (v.2.2.1 95 12).toInt = (u_3.2.2.1 95 12).toInt ∧ (v.2.2.1 101 9).toInt = z_37.toInt) ⟨(jv_a_101 (i := 9) (x := z_37) hj_5 0 2147483647 9 9 1 9 (by decide +kernel) (by decide) (by decide) (by omega) (by omega) (by omega) (by have hb_ := z32 z_37; omega) (by have hb_ := z32 z_37; omega)), rfl, rfl, rfl, rfl, rfl, rfl⟩ (fun v_38 hj_39 => ?_)
          obtain ⟨hj_39, hk_40k0, hk_40k1, hk_40k2, hk_40k3, hk_40k4, hk_40k5⟩ := hj_39
          exact r_void E dX10_readLine_63 ⟨(by omega), hj_39⟩
        ·
          refine s_aload_n E dX10_readLine_48 rfl rfl ?_
          refine s_vV (As := []) (S := []) E (Z_X10_advance_95 l D aC b u_3  hj_5.1 ) cv_X10_147 rfl rfl rfl (jv_lt hj_5 (by decide)) (Nat.le_of_ble_eq_true rfl) (Nat.le_of_ble_eq_true rfl) ⟨(Nat.le_of_ble_eq_true rfl), (Nat.le_of_ble_eq_true rfl)⟩ (Nat.le_of_ble_eq_true rfl) dX10_readLine_49 (fun u_41 hp_42 => ?_)
          obtain ⟨hx_hp_42, hf_u_41_99, hf_u_41_101, hp_42⟩ := hp_42
          have hj_43 := jv_trans hj_5 hp_42
          have hfa_101_9 := congrArg Int32.toInt (congrFun hf_u_41_101 9)
          refine s_aload_n E dX10_readLine_52 rfl rfl ?_
          refine s_gR (r := 101) E fg_X10_31 rfl rfl (jv_lt hj_43 (by decide)) (jv_r hj_43 (by decide +kernel)) dX10_readLine_53 ?_
          refine s_bipush (v := 9) E dX10_readLine_56 (by decide) ?_
          refine s_dup2 E dX10_readLine_58 ?_
          refine s_iald E rfl (jv_lt hj_43 (by decide)) (z_in (u := 9) (by decide) (by omega) (by omega)) dX10_readLine_59 ?_
          refine z_nm (P := fun z => z.toInt = (u_41.2.2.1 101 9).toInt ∧ 0 ≤ z.toInt ∧ z.toInt ≤ 2147483647) ⟨rfl, (rw_101_9 hj_43)⟩ (fun z_44 hz_44 => ?_)
          refine s_iconst (v := 1) E dX10_readLine_60 (by decide) ?_
          refine s_iadd E dX10_readLine_61 ?_
          refine z_nm (P := fun z => (-2147483648) ≤ z.toInt ∧ z.toInt ≤ 2147483647) (z32 _) (fun z_45 hz_45 => ?_)
          have hhz_45 : 1 ≤ z_45.toInt ∧ z_45.toInt ≤ 1001 := by omega
          refine s_iast E rfl (jv_lt hj_43 (by decide)) (z_in (u := 9) (by decide) (by omega) (by omega)) dX10_readLine_62 ?_
          refine s_gen (P := fun v => Jv w v ∧ (v.2.2.1 95 7).toInt = (u_41.2.2.1 95 7).toInt ∧ (v.2.2.1 95 8).toInt = (u_41.2.2.1 95 8).toInt ∧ (v.2.2.1 95 9).toInt = (u_41.2.2.1 95 9).toInt ∧ (v.2.2.1 95 10).toInt = (u_41.2.2.1 95 10).toInt ∧ (v.2.2.1 95 12).toInt = (u_41.2.2.1 95 12).toInt ∧ (v.2.2.1 101 9).toInt = z_45.toInt) ⟨(jv_a_101 (i := 9) (x := z_45) hj_43 0 2147483647 9 9 1 9 (by decide +kernel) (by decide) (by decide) (by omega) (by omega) (by omega) (by have hb_ := z32 z_45; omega) (by have hb_ := z32 z_45; omega)), rfl, rfl, rfl, rfl, rfl, rfl⟩ (fun v_46 hj_47 => ?_)
          obtain ⟨hj_47, hk_48k0, hk_48k1, hk_48k2, hk_48k3, hk_48k4, hk_48k5⟩ := hj_47
          exact r_void E dX10_readLine_63 ⟨(by omega), hj_47⟩
      ·
        refine s_aload_n E dX10_readLine_36 rfl rfl ?_
        refine s_iconst (v := 1) E dX10_readLine_37 (by decide) ?_
        refine s_vV (As := [AI 1]) (S := []) E (Z_X10_errs_95 l D aC b u_3 1 hj_5.1 (by decide)) cv_X10_153 rfl rfl rfl (jv_lt hj_5 (by decide)) (Nat.le_of_ble_eq_true rfl) (Nat.le_of_ble_eq_true rfl) ⟨(Nat.le_of_ble_eq_true rfl), (Nat.le_of_ble_eq_true rfl)⟩ (Nat.le_of_ble_eq_true rfl) dX10_readLine_38 (fun u_49 hp_50 => ?_)
        have hc_ : (1 : Int32).toInt = 1 := by decide
        obtain ⟨hx_hp_50, hf_u_49_101, hp_50⟩ := hp_50
        have hj_51 := jv_trans hj_5 hp_50
        have hfa_101_9 := congrArg Int32.toInt (congrFun hf_u_49_101 9)
        refine s_aload_n E dX10_readLine_41 rfl rfl ?_
        refine s_vI (As := []) (S := []) E (Z_X10_good_95 l D aC b u_49  hj_51.1 ) cv_X10_130 rfl rfl rfl (jv_lt hj_51 (by decide)) (Nat.le_of_ble_eq_true rfl) (Nat.le_of_ble_eq_true rfl) ⟨(Nat.le_of_ble_eq_true rfl), (Nat.le_of_ble_eq_true rfl)⟩ (Nat.le_of_ble_eq_true rfl) dX10_readLine_42 (fun z_54 u_52 hp_53 => ?_)
        obtain ⟨hz_54, hxz_54, hp_53⟩ := hp_53
        subst hp_53
        refine z_if_eq (tgt := 52) (u := z_54.toInt) E dX10_readLine_45 (by decide) rfl (fun h_56 => ?_) (fun h_56 => ?_)
        ·
          refine s_aload_n E dX10_readLine_52 rfl rfl ?_
          refine s_gR (r := 101) E fg_X10_31 rfl rfl (jv_lt hj_51 (by decide)) (jv_r hj_51 (by decide +kernel)) dX10_readLine_53 ?_
          refine s_bipush (v := 9) E dX10_readLine_56 (by decide) ?_
          refine s_dup2 E dX10_readLine_58 ?_
          refine s_iald E rfl (jv_lt hj_51 (by decide)) (z_in (u := 9) (by decide) (by omega) (by omega)) dX10_readLine_59 ?_
          refine z_nm (P := fun z => z.toInt = (u_49.2.2.1 101 9).toInt ∧ 0 ≤ z.toInt ∧ z.toInt ≤ 2147483647) ⟨rfl, (rw_101_9 hj_51)⟩ (fun z_57 hz_57 => ?_)
          refine s_iconst (v := 1) E dX10_readLine_60 (by decide) ?_
          refine s_iadd E dX10_readLine_61 ?_
          refine z_nm (P := fun z => (-2147483648) ≤ z.toInt ∧ z.toInt ≤ 2147483647) (z32 _) (fun z_58 hz_58 => ?_)
          have hhz_58 : 1 ≤ z_58.toInt ∧ z_58.toInt ≤ 1001 := by omega
          refine s_iast E rfl (jv_lt hj_51 (by decide)) (z_in (u := 9) (by decide) (by omega) (by omega)) dX10_readLine_62 ?_
          refine s_gen (P := fun v => Jv w v ∧ (v.2.2.1 95 7).toInt = (u_49.2.2.1 95 7).toInt ∧ (v.2.2.1 95 8).toInt = (u_49.2.2.1 95 8).toInt ∧ (v.2.2.1 95 9).toInt = (u_49.2.2.1 95 9).toInt ∧ (v.2.2.1 95 10).toInt = (u_49.2.2.1 95 10).toInt ∧ (v.2.2.1 95 12).toInt = (u_49.2.2.1 95 12).toInt ∧ (v.2.2.1 101 9).toInt = z_58.toInt) ⟨(jv_a_101 (i := 9) (x := z_58) hj_51 0 2147483647 9 9 1 9 (by decide +kernel) (by decide) (by decide) (by omega) (by omega) (by omega) (by have hb_ := z32 z_58; omega) (by have hb_ := z32 z_58; omega)), rfl, rfl, rfl, rfl, rfl, rfl⟩ (fun v_59 hj_60 => ?_)
          obtain ⟨hj_60, hk_61k0, hk_61k1, hk_61k2, hk_61k3, hk_61k4, hk_61k5⟩ := hj_60
          exact r_void E dX10_readLine_63 ⟨(by omega), hj_60⟩
        ·
          refine s_aload_n E dX10_readLine_48 rfl rfl ?_
          refine s_vV (As := []) (S := []) E (Z_X10_advance_95 l D aC b u_49  hj_51.1 ) cv_X10_147 rfl rfl rfl (jv_lt hj_51 (by decide)) (Nat.le_of_ble_eq_true rfl) (Nat.le_of_ble_eq_true rfl) ⟨(Nat.le_of_ble_eq_true rfl), (Nat.le_of_ble_eq_true rfl)⟩ (Nat.le_of_ble_eq_true rfl) dX10_readLine_49 (fun u_62 hp_63 => ?_)
          obtain ⟨hx_hp_63, hf_u_62_99, hf_u_62_101, hp_63⟩ := hp_63
          have hj_64 := jv_trans hj_51 hp_63
          have hfa_101_9 := congrArg Int32.toInt (congrFun hf_u_62_101 9)
          refine s_aload_n E dX10_readLine_52 rfl rfl ?_
          refine s_gR (r := 101) E fg_X10_31 rfl rfl (jv_lt hj_64 (by decide)) (jv_r hj_64 (by decide +kernel)) dX10_readLine_53 ?_
          refine s_bipush (v := 9) E dX10_readLine_56 (by decide) ?_
          refine s_dup2 E dX10_readLine_58 ?_
          refine s_iald E rfl (jv_lt hj_64 (by decide)) (z_in (u := 9) (by decide) (by omega) (by omega)) dX10_readLine_59 ?_
          refine z_nm (P := fun z => z.toInt = (u_62.2.2.1 101 9).toInt ∧ 0 ≤ z.toInt ∧ z.toInt ≤ 2147483647) ⟨rfl, (rw_101_9 hj_64)⟩ (fun z_65 hz_65 => ?_)
          refine s_iconst (v := 1) E dX10_readLine_60 (by decide) ?_
          refine s_iadd E dX10_readLine_61 ?_
          refine z_nm (P := fun z => (-2147483648) ≤ z.toInt ∧ z.toInt ≤ 2147483647) (z32 _) (fun z_66 hz_66 => ?_)
          have hhz_66 : 1 ≤ z_66.toInt ∧ z_66.toInt ≤ 1001 := by omega
          refine s_iast E rfl (jv_lt hj_64 (by decide)) (z_in (u := 9) (by decide) (by omega) (by omega)) dX10_readLine_62 ?_
          refine s_gen (P := fun v => Jv w v ∧ (v.2.2.1 95 7).toInt = (u_62.2.2.1 95 7).toInt ∧ (v.2.2.1 95 8).toInt = (u_62.2.2.1 95 8).toInt ∧ (v.2.2.1 95 9).toInt = (u_62.2.2.1 95 9).toInt ∧ (v.2.2.1 95 10).toInt = (u_62.2.2.1 95 10).toInt ∧ (v.2.2.1 95 12).toInt = (u_62.2.2.1 95 12).toInt ∧ (v.2.2.1 101 9).toInt = z_66.toInt) ⟨(jv_a_101 (i := 9) (x := z_66) hj_64 0 2147483647 9 9 1 9 (by decide +kernel) (by decide) (by decide) (by omega) (by omega) (by omega) (by have hb_ := z32 z_66; omega) (by have hb_ := z32 z_66; omega)), rfl, rfl, rfl, rfl, rfl, rfl⟩ (fun v_67 hj_68 => ?_)
          obtain ⟨hj_68, hk_69k0, hk_69k1, hk_69k2, hk_69k3, hk_69k4, hk_69k5⟩ := hj_68
          exact r_void E dX10_readLine_63 ⟨(by omega), hj_68⟩
  ·
    refine s_aload_n E dX10_readLine_10 rfl rfl ?_
    refine s_vV (As := []) (S := []) E (Z_X10_readFirst_95 l D aC b w  hJ.1  (by omega)) cv_X10_209 rfl rfl rfl (jv_lt hJ (by decide)) (Nat.le_of_ble_eq_true rfl) (Nat.le_of_ble_eq_true rfl) ⟨(Nat.le_of_ble_eq_true rfl), (Nat.le_of_ble_eq_true rfl)⟩ (Nat.le_of_ble_eq_true rfl) dX10_readLine_11 (fun u_70 hp_71 => ?_)
    obtain ⟨hx_hp_71, hp_71⟩ := hp_71
    have hj_72 := jv_trans hJ hp_71
    refine s_goto (tgt := 21) E dX10_readLine_14 (by decide) ?_
    refine s_aload_n E dX10_readLine_21 rfl rfl ?_
    refine s_vI (As := []) (S := []) E (Z_X10_good_95 l D aC b u_70  hj_72.1 ) cv_X10_130 rfl rfl rfl (jv_lt hj_72 (by decide)) (Nat.le_of_ble_eq_true rfl) (Nat.le_of_ble_eq_true rfl) ⟨(Nat.le_of_ble_eq_true rfl), (Nat.le_of_ble_eq_true rfl)⟩ (Nat.le_of_ble_eq_true rfl) dX10_readLine_22 (fun z_75 u_73 hp_74 => ?_)
    obtain ⟨hz_75, hxz_75, hp_74⟩ := hp_74
    subst hp_74
    refine z_if_eq (tgt := 41) (u := z_75.toInt) E dX10_readLine_25 (by decide) rfl (fun h_77 => ?_) (fun h_77 => ?_)
    ·
      refine s_aload_n E dX10_readLine_41 rfl rfl ?_
      refine s_vI (As := []) (S := []) E (Z_X10_good_95 l D aC b u_70  hj_72.1 ) cv_X10_130 rfl rfl rfl (jv_lt hj_72 (by decide)) (Nat.le_of_ble_eq_true rfl) (Nat.le_of_ble_eq_true rfl) ⟨(Nat.le_of_ble_eq_true rfl), (Nat.le_of_ble_eq_true rfl)⟩ (Nat.le_of_ble_eq_true rfl) dX10_readLine_42 (fun z_80 u_78 hp_79 => ?_)
      obtain ⟨hz_80, hxz_80, hp_79⟩ := hp_79
      subst hp_79
      refine z_if_eq (tgt := 52) (u := z_80.toInt) E dX10_readLine_45 (by decide) rfl (fun h_82 => ?_) (fun h_82 => ?_)
      ·
        refine s_aload_n E dX10_readLine_52 rfl rfl ?_
        refine s_gR (r := 101) E fg_X10_31 rfl rfl (jv_lt hj_72 (by decide)) (jv_r hj_72 (by decide +kernel)) dX10_readLine_53 ?_
        refine s_bipush (v := 9) E dX10_readLine_56 (by decide) ?_
        refine s_dup2 E dX10_readLine_58 ?_
        refine s_iald E rfl (jv_lt hj_72 (by decide)) (z_in (u := 9) (by decide) (by omega) (by omega)) dX10_readLine_59 ?_
        refine z_nm (P := fun z => z.toInt = (u_70.2.2.1 101 9).toInt ∧ 0 ≤ z.toInt ∧ z.toInt ≤ 2147483647) ⟨rfl, (rw_101_9 hj_72)⟩ (fun z_83 hz_83 => ?_)
        refine s_iconst (v := 1) E dX10_readLine_60 (by decide) ?_
        refine s_iadd E dX10_readLine_61 ?_
        refine z_nm (P := fun z => (-2147483648) ≤ z.toInt ∧ z.toInt ≤ 2147483647) (z32 _) (fun z_84 hz_84 => ?_)
        have hhz_84 : 1 ≤ z_84.toInt ∧ z_84.toInt ≤ 1001 := by omega
        refine s_iast E rfl (jv_lt hj_72 (by decide)) (z_in (u := 9) (by decide) (by omega) (by omega)) dX10_readLine_62 ?_
        refine s_gen (P := fun v => Jv w v ∧ (v.2.2.1 95 7).toInt = (u_70.2.2.1 95 7).toInt ∧ (v.2.2.1 95 8).toInt = (u_70.2.2.1 95 8).toInt ∧ (v.2.2.1 95 9).toInt = (u_70.2.2.1 95 9).toInt ∧ (v.2.2.1 95 10).toInt = (u_70.2.2.1 95 10).toInt ∧ (v.2.2.1 95 12).toInt = (u_70.2.2.1 95 12).toInt ∧ (v.2.2.1 101 9).toInt = z_84.toInt) ⟨(jv_a_101 (i := 9) (x := z_84) hj_72 0 2147483647 9 9 1 9 (by decide +kernel) (by decide) (by decide) (by omega) (by omega) (by omega) (by have hb_ := z32 z_84; omega) (by have hb_ := z32 z_84; omega)), rfl, rfl, rfl, rfl, rfl, rfl⟩ (fun v_85 hj_86 => ?_)
        obtain ⟨hj_86, hk_87k0, hk_87k1, hk_87k2, hk_87k3, hk_87k4, hk_87k5⟩ := hj_86
        exact r_void E dX10_readLine_63 ⟨(by omega), hj_86⟩
      ·
        refine s_aload_n E dX10_readLine_48 rfl rfl ?_
        refine s_vV (As := []) (S := []) E (Z_X10_advance_95 l D aC b u_70  hj_72.1 ) cv_X10_147 rfl rfl rfl (jv_lt hj_72 (by decide)) (Nat.le_of_ble_eq_true rfl) (Nat.le_of_ble_eq_true rfl) ⟨(Nat.le_of_ble_eq_true rfl), (Nat.le_of_ble_eq_true rfl)⟩ (Nat.le_of_ble_eq_true rfl) dX10_readLine_49 (fun u_88 hp_89 => ?_)
        obtain ⟨hx_hp_89, hf_u_88_99, hf_u_88_101, hp_89⟩ := hp_89
        have hj_90 := jv_trans hj_72 hp_89
        have hfa_101_9 := congrArg Int32.toInt (congrFun hf_u_88_101 9)
        refine s_aload_n E dX10_readLine_52 rfl rfl ?_
        refine s_gR (r := 101) E fg_X10_31 rfl rfl (jv_lt hj_90 (by decide)) (jv_r hj_90 (by decide +kernel)) dX10_readLine_53 ?_
        refine s_bipush (v := 9) E dX10_readLine_56 (by decide) ?_
        refine s_dup2 E dX10_readLine_58 ?_
        refine s_iald E rfl (jv_lt hj_90 (by decide)) (z_in (u := 9) (by decide) (by omega) (by omega)) dX10_readLine_59 ?_
        refine z_nm (P := fun z => z.toInt = (u_88.2.2.1 101 9).toInt ∧ 0 ≤ z.toInt ∧ z.toInt ≤ 2147483647) ⟨rfl, (rw_101_9 hj_90)⟩ (fun z_91 hz_91 => ?_)
        refine s_iconst (v := 1) E dX10_readLine_60 (by decide) ?_
        refine s_iadd E dX10_readLine_61 ?_
        refine z_nm (P := fun z => (-2147483648) ≤ z.toInt ∧ z.toInt ≤ 2147483647) (z32 _) (fun z_92 hz_92 => ?_)
        have hhz_92 : 1 ≤ z_92.toInt ∧ z_92.toInt ≤ 1001 := by omega
        refine s_iast E rfl (jv_lt hj_90 (by decide)) (z_in (u := 9) (by decide) (by omega) (by omega)) dX10_readLine_62 ?_
        refine s_gen (P := fun v => Jv w v ∧ (v.2.2.1 95 7).toInt = (u_88.2.2.1 95 7).toInt ∧ (v.2.2.1 95 8).toInt = (u_88.2.2.1 95 8).toInt ∧ (v.2.2.1 95 9).toInt = (u_88.2.2.1 95 9).toInt ∧ (v.2.2.1 95 10).toInt = (u_88.2.2.1 95 10).toInt ∧ (v.2.2.1 95 12).toInt = (u_88.2.2.1 95 12).toInt ∧ (v.2.2.1 101 9).toInt = z_92.toInt) ⟨(jv_a_101 (i := 9) (x := z_92) hj_90 0 2147483647 9 9 1 9 (by decide +kernel) (by decide) (by decide) (by omega) (by omega) (by omega) (by have hb_ := z32 z_92; omega) (by have hb_ := z32 z_92; omega)), rfl, rfl, rfl, rfl, rfl, rfl⟩ (fun v_93 hj_94 => ?_)
        obtain ⟨hj_94, hk_95k0, hk_95k1, hk_95k2, hk_95k3, hk_95k4, hk_95k5⟩ := hj_94
        exact r_void E dX10_readLine_63 ⟨(by omega), hj_94⟩
    ·
      refine s_aload_n E dX10_readLine_28 rfl rfl ?_
      refine s_gI E fg_X10_106 rfl rfl (jv_lt hj_72 (by decide)) dX10_readLine_29 ?_
      refine z_nm (P := fun z => z.toInt = (u_70.2.2.1 95 10).toInt ∧ 0 ≤ z.toInt ∧ z.toInt ≤ 4) ⟨rfl, (rg_95_10 hj_72)⟩ (fun z_96 hz_96 => ?_)
      refine s_iconst (v := 3) E dX10_readLine_32 (by decide) ?_
      refine z_icmp_eq (tgt := 41) (u := z_96.toInt) (v := 3) E dX10_readLine_33 (by decide) rfl (by decide) (fun h_97 => ?_) (fun h_97 => ?_)
      ·
        refine s_aload_n E dX10_readLine_41 rfl rfl ?_
        refine s_vI (As := []) (S := []) E (Z_X10_good_95 l D aC b u_70  hj_72.1 ) cv_X10_130 rfl rfl rfl (jv_lt hj_72 (by decide)) (Nat.le_of_ble_eq_true rfl) (Nat.le_of_ble_eq_true rfl) ⟨(Nat.le_of_ble_eq_true rfl), (Nat.le_of_ble_eq_true rfl)⟩ (Nat.le_of_ble_eq_true rfl) dX10_readLine_42 (fun z_100 u_98 hp_99 => ?_)
        obtain ⟨hz_100, hxz_100, hp_99⟩ := hp_99
        subst hp_99
        refine z_if_eq (tgt := 52) (u := z_100.toInt) E dX10_readLine_45 (by decide) rfl (fun h_102 => ?_) (fun h_102 => ?_)
        ·
          refine s_aload_n E dX10_readLine_52 rfl rfl ?_
          refine s_gR (r := 101) E fg_X10_31 rfl rfl (jv_lt hj_72 (by decide)) (jv_r hj_72 (by decide +kernel)) dX10_readLine_53 ?_
          refine s_bipush (v := 9) E dX10_readLine_56 (by decide) ?_
          refine s_dup2 E dX10_readLine_58 ?_
          refine s_iald E rfl (jv_lt hj_72 (by decide)) (z_in (u := 9) (by decide) (by omega) (by omega)) dX10_readLine_59 ?_
          refine z_nm (P := fun z => z.toInt = (u_70.2.2.1 101 9).toInt ∧ 0 ≤ z.toInt ∧ z.toInt ≤ 2147483647) ⟨rfl, (rw_101_9 hj_72)⟩ (fun z_103 hz_103 => ?_)
          refine s_iconst (v := 1) E dX10_readLine_60 (by decide) ?_
          refine s_iadd E dX10_readLine_61 ?_
          refine z_nm (P := fun z => (-2147483648) ≤ z.toInt ∧ z.toInt ≤ 2147483647) (z32 _) (fun z_104 hz_104 => ?_)
          have hhz_104 : 1 ≤ z_104.toInt ∧ z_104.toInt ≤ 1001 := by omega
          refine s_iast E rfl (jv_lt hj_72 (by decide)) (z_in (u := 9) (by decide) (by omega) (by omega)) dX10_readLine_62 ?_
          refine s_gen (P := fun v => Jv w v ∧ (v.2.2.1 95 7).toInt = (u_70.2.2.1 95 7).toInt ∧ (v.2.2.1 95 8).toInt = (u_70.2.2.1 95 8).toInt ∧ (v.2.2.1 95 9).toInt = (u_70.2.2.1 95 9).toInt ∧ (v.2.2.1 95 10).toInt = (u_70.2.2.1 95 10).toInt ∧ (v.2.2.1 95 12).toInt = (u_70.2.2.1 95 12).toInt ∧ (v.2.2.1 101 9).toInt = z_104.toInt) ⟨(jv_a_101 (i := 9) (x := z_104) hj_72 0 2147483647 9 9 1 9 (by decide +kernel) (by decide) (by decide) (by omega) (by omega) (by omega) (by have hb_ := z32 z_104; omega) (by have hb_ := z32 z_104; omega)), rfl, rfl, rfl, rfl, rfl, rfl⟩ (fun v_105 hj_106 => ?_)
          obtain ⟨hj_106, hk_107k0, hk_107k1, hk_107k2, hk_107k3, hk_107k4, hk_107k5⟩ := hj_106
          exact r_void E dX10_readLine_63 ⟨(by omega), hj_106⟩
        ·
          refine s_aload_n E dX10_readLine_48 rfl rfl ?_
          refine s_vV (As := []) (S := []) E (Z_X10_advance_95 l D aC b u_70  hj_72.1 ) cv_X10_147 rfl rfl rfl (jv_lt hj_72 (by decide)) (Nat.le_of_ble_eq_true rfl) (Nat.le_of_ble_eq_true rfl) ⟨(Nat.le_of_ble_eq_true rfl), (Nat.le_of_ble_eq_true rfl)⟩ (Nat.le_of_ble_eq_true rfl) dX10_readLine_49 (fun u_108 hp_109 => ?_)
          obtain ⟨hx_hp_109, hf_u_108_99, hf_u_108_101, hp_109⟩ := hp_109
          have hj_110 := jv_trans hj_72 hp_109
          have hfa_101_9 := congrArg Int32.toInt (congrFun hf_u_108_101 9)
          refine s_aload_n E dX10_readLine_52 rfl rfl ?_
          refine s_gR (r := 101) E fg_X10_31 rfl rfl (jv_lt hj_110 (by decide)) (jv_r hj_110 (by decide +kernel)) dX10_readLine_53 ?_
          refine s_bipush (v := 9) E dX10_readLine_56 (by decide) ?_
          refine s_dup2 E dX10_readLine_58 ?_
          refine s_iald E rfl (jv_lt hj_110 (by decide)) (z_in (u := 9) (by decide) (by omega) (by omega)) dX10_readLine_59 ?_
          refine z_nm (P := fun z => z.toInt = (u_108.2.2.1 101 9).toInt ∧ 0 ≤ z.toInt ∧ z.toInt ≤ 2147483647) ⟨rfl, (rw_101_9 hj_110)⟩ (fun z_111 hz_111 => ?_)
          refine s_iconst (v := 1) E dX10_readLine_60 (by decide) ?_
          refine s_iadd E dX10_readLine_61 ?_
          refine z_nm (P := fun z => (-2147483648) ≤ z.toInt ∧ z.toInt ≤ 2147483647) (z32 _) (fun z_112 hz_112 => ?_)
          have hhz_112 : 1 ≤ z_112.toInt ∧ z_112.toInt ≤ 1001 := by omega
          refine s_iast E rfl (jv_lt hj_110 (by decide)) (z_in (u := 9) (by decide) (by omega) (by omega)) dX10_readLine_62 ?_
          refine s_gen (P := fun v => Jv w v ∧ (v.2.2.1 95 7).toInt = (u_108.2.2.1 95 7).toInt ∧ (v.2.2.1 95 8).toInt = (u_108.2.2.1 95 8).toInt ∧ (v.2.2.1 95 9).toInt = (u_108.2.2.1 95 9).toInt ∧ (v.2.2.1 95 10).toInt = (u_108.2.2.1 95 10).toInt ∧ (v.2.2.1 95 12).toInt = (u_108.2.2.1 95 12).toInt ∧ (v.2.2.1 101 9).toInt = z_112.toInt) ⟨(jv_a_101 (i := 9) (x := z_112) hj_110 0 2147483647 9 9 1 9 (by decide +kernel) (by decide) (by decide) (by omega) (by omega) (by omega) (by have hb_ := z32 z_112; omega) (by have hb_ := z32 z_112; omega)), rfl, rfl, rfl, rfl, rfl, rfl⟩ (fun v_113 hj_114 => ?_)
          obtain ⟨hj_114, hk_115k0, hk_115k1, hk_115k2, hk_115k3, hk_115k4, hk_115k5⟩ := hj_114
          exact r_void E dX10_readLine_63 ⟨(by omega), hj_114⟩
      ·
        refine s_aload_n E dX10_readLine_36 rfl rfl ?_
        refine s_iconst (v := 1) E dX10_readLine_37 (by decide) ?_
        refine s_vV (As := [AI 1]) (S := []) E (Z_X10_errs_95 l D aC b u_70 1 hj_72.1 (by decide)) cv_X10_153 rfl rfl rfl (jv_lt hj_72 (by decide)) (Nat.le_of_ble_eq_true rfl) (Nat.le_of_ble_eq_true rfl) ⟨(Nat.le_of_ble_eq_true rfl), (Nat.le_of_ble_eq_true rfl)⟩ (Nat.le_of_ble_eq_true rfl) dX10_readLine_38 (fun u_116 hp_117 => ?_)
        have hc_ : (1 : Int32).toInt = 1 := by decide
        obtain ⟨hx_hp_117, hf_u_116_101, hp_117⟩ := hp_117
        have hj_118 := jv_trans hj_72 hp_117
        have hfa_101_9 := congrArg Int32.toInt (congrFun hf_u_116_101 9)
        refine s_aload_n E dX10_readLine_41 rfl rfl ?_
        refine s_vI (As := []) (S := []) E (Z_X10_good_95 l D aC b u_116  hj_118.1 ) cv_X10_130 rfl rfl rfl (jv_lt hj_118 (by decide)) (Nat.le_of_ble_eq_true rfl) (Nat.le_of_ble_eq_true rfl) ⟨(Nat.le_of_ble_eq_true rfl), (Nat.le_of_ble_eq_true rfl)⟩ (Nat.le_of_ble_eq_true rfl) dX10_readLine_42 (fun z_121 u_119 hp_120 => ?_)
        obtain ⟨hz_121, hxz_121, hp_120⟩ := hp_120
        subst hp_120
        refine z_if_eq (tgt := 52) (u := z_121.toInt) E dX10_readLine_45 (by decide) rfl (fun h_123 => ?_) (fun h_123 => ?_)
        ·
          refine s_aload_n E dX10_readLine_52 rfl rfl ?_
          refine s_gR (r := 101) E fg_X10_31 rfl rfl (jv_lt hj_118 (by decide)) (jv_r hj_118 (by decide +kernel)) dX10_readLine_53 ?_
          refine s_bipush (v := 9) E dX10_readLine_56 (by decide) ?_
          refine s_dup2 E dX10_readLine_58 ?_
          refine s_iald E rfl (jv_lt hj_118 (by decide)) (z_in (u := 9) (by decide) (by omega) (by omega)) dX10_readLine_59 ?_
          refine z_nm (P := fun z => z.toInt = (u_116.2.2.1 101 9).toInt ∧ 0 ≤ z.toInt ∧ z.toInt ≤ 2147483647) ⟨rfl, (rw_101_9 hj_118)⟩ (fun z_124 hz_124 => ?_)
          refine s_iconst (v := 1) E dX10_readLine_60 (by decide) ?_
          refine s_iadd E dX10_readLine_61 ?_
          refine z_nm (P := fun z => (-2147483648) ≤ z.toInt ∧ z.toInt ≤ 2147483647) (z32 _) (fun z_125 hz_125 => ?_)
          have hhz_125 : 1 ≤ z_125.toInt ∧ z_125.toInt ≤ 1001 := by omega
          refine s_iast E rfl (jv_lt hj_118 (by decide)) (z_in (u := 9) (by decide) (by omega) (by omega)) dX10_readLine_62 ?_
          refine s_gen (P := fun v => Jv w v ∧ (v.2.2.1 95 7).toInt = (u_116.2.2.1 95 7).toInt ∧ (v.2.2.1 95 8).toInt = (u_116.2.2.1 95 8).toInt ∧ (v.2.2.1 95 9).toInt = (u_116.2.2.1 95 9).toInt ∧ (v.2.2.1 95 10).toInt = (u_116.2.2.1 95 10).toInt ∧ (v.2.2.1 95 12).toInt = (u_116.2.2.1 95 12).toInt ∧ (v.2.2.1 101 9).toInt = z_125.toInt) ⟨(jv_a_101 (i := 9) (x := z_125) hj_118 0 2147483647 9 9 1 9 (by decide +kernel) (by decide) (by decide) (by omega) (by omega) (by omega) (by have hb_ := z32 z_125; omega) (by have hb_ := z32 z_125; omega)), rfl, rfl, rfl, rfl, rfl, rfl⟩ (fun v_126 hj_127 => ?_)
          obtain ⟨hj_127, hk_128k0, hk_128k1, hk_128k2, hk_128k3, hk_128k4, hk_128k5⟩ := hj_127
          exact r_void E dX10_readLine_63 ⟨(by omega), hj_127⟩
        ·
          refine s_aload_n E dX10_readLine_48 rfl rfl ?_
          refine s_vV (As := []) (S := []) E (Z_X10_advance_95 l D aC b u_116  hj_118.1 ) cv_X10_147 rfl rfl rfl (jv_lt hj_118 (by decide)) (Nat.le_of_ble_eq_true rfl) (Nat.le_of_ble_eq_true rfl) ⟨(Nat.le_of_ble_eq_true rfl), (Nat.le_of_ble_eq_true rfl)⟩ (Nat.le_of_ble_eq_true rfl) dX10_readLine_49 (fun u_129 hp_130 => ?_)
          obtain ⟨hx_hp_130, hf_u_129_99, hf_u_129_101, hp_130⟩ := hp_130
          have hj_131 := jv_trans hj_118 hp_130
          have hfa_101_9 := congrArg Int32.toInt (congrFun hf_u_129_101 9)
          refine s_aload_n E dX10_readLine_52 rfl rfl ?_
          refine s_gR (r := 101) E fg_X10_31 rfl rfl (jv_lt hj_131 (by decide)) (jv_r hj_131 (by decide +kernel)) dX10_readLine_53 ?_
          refine s_bipush (v := 9) E dX10_readLine_56 (by decide) ?_
          refine s_dup2 E dX10_readLine_58 ?_
          refine s_iald E rfl (jv_lt hj_131 (by decide)) (z_in (u := 9) (by decide) (by omega) (by omega)) dX10_readLine_59 ?_
          refine z_nm (P := fun z => z.toInt = (u_129.2.2.1 101 9).toInt ∧ 0 ≤ z.toInt ∧ z.toInt ≤ 2147483647) ⟨rfl, (rw_101_9 hj_131)⟩ (fun z_132 hz_132 => ?_)
          refine s_iconst (v := 1) E dX10_readLine_60 (by decide) ?_
          refine s_iadd E dX10_readLine_61 ?_
          refine z_nm (P := fun z => (-2147483648) ≤ z.toInt ∧ z.toInt ≤ 2147483647) (z32 _) (fun z_133 hz_133 => ?_)
          have hhz_133 : 1 ≤ z_133.toInt ∧ z_133.toInt ≤ 1001 := by omega
          refine s_iast E rfl (jv_lt hj_131 (by decide)) (z_in (u := 9) (by decide) (by omega) (by omega)) dX10_readLine_62 ?_
          refine s_gen (P := fun v => Jv w v ∧ (v.2.2.1 95 7).toInt = (u_129.2.2.1 95 7).toInt ∧ (v.2.2.1 95 8).toInt = (u_129.2.2.1 95 8).toInt ∧ (v.2.2.1 95 9).toInt = (u_129.2.2.1 95 9).toInt ∧ (v.2.2.1 95 10).toInt = (u_129.2.2.1 95 10).toInt ∧ (v.2.2.1 95 12).toInt = (u_129.2.2.1 95 12).toInt ∧ (v.2.2.1 101 9).toInt = z_133.toInt) ⟨(jv_a_101 (i := 9) (x := z_133) hj_131 0 2147483647 9 9 1 9 (by decide +kernel) (by decide) (by decide) (by omega) (by omega) (by omega) (by have hb_ := z32 z_133; omega) (by have hb_ := z32 z_133; omega)), rfl, rfl, rfl, rfl, rfl, rfl⟩ (fun v_134 hj_135 => ?_)
          obtain ⟨hj_135, hk_136k0, hk_136k1, hk_136k2, hk_136k3, hk_136k4, hk_136k5⟩ := hj_135
          exact r_void E dX10_readLine_63 ⟨(by omega), hj_135⟩
set_option maxRecDepth 20000 in
set_option maxHeartbeats 2000000 in
theorem Z_X10_ball_95 (l : Launch) (D : va_G) (aC : Nat → ClassId) (b : Nat) (w : XW)  (hI : Iv w)  : CnI l D aC b M_X10_ball 12 373 0 0 [AR 95] w (fun r u => ((-4) ≤ r.toInt ∧ r.toInt ≤ 2147483647) ∧ Jv w u) := by
  refine cn_I (own := RX10) (nm := "ball") (L0 := [some (AR 95), none]) (by decide +kernel) rfl rfl (Nat.le_of_ble_eq_true rfl) rfl ?_
  intro p e s m args below meth c E hin
  have hJ : Jv w w := jv_rfl hI
  refine s_aload_n E dX10_ball_0 rfl rfl ?_
  refine s_aload_n E dX10_ball_1 rfl rfl ?_
  refine s_gI E fg_X10_90 rfl rfl (jv_lt hJ (by decide)) dX10_ball_2 ?_
  refine z_nm (P := fun z => z.toInt = (w.2.2.1 95 5).toInt ∧ 0 ≤ z.toInt ∧ z.toInt ≤ 1000) ⟨rfl, (rg_95_5 hJ)⟩ (fun z_1 hz_1 => ?_)
  refine s_pI E fp_X10_93 (Or.inl rfl) rfl (jv_lt hJ (by decide)) dX10_ball_5 ?_
  refine s_gen (P := fun v => Jv w v ∧ (v.2.2.1 95 7).toInt = z_1.toInt ∧ (v.2.2.1 95 8).toInt = (w.2.2.1 95 8).toInt ∧ (v.2.2.1 95 9).toInt = (w.2.2.1 95 9).toInt ∧ (v.2.2.1 95 10).toInt = (w.2.2.1 95 10).toInt ∧ (v.2.2.1 95 12).toInt = (w.2.2.1 95 12).toInt ∧ (v.2.2.1 101 9).toInt = (w.2.2.1 101 9).toInt) ⟨(jv_f_95_7 hJ (by have hb_ := z32 z_1; omega) (by have hb_ := z32 z_1; omega)), rfl, rfl, rfl, rfl, rfl, rfl⟩ (fun v_2 hj_3 => ?_)
  obtain ⟨hj_3, hk_4k0, hk_4k1, hk_4k2, hk_4k3, hk_4k4, hk_4k5⟩ := hj_3
  refine s_aload_n E dX10_ball_8 rfl rfl ?_
  refine s_iconst (v := 0) E dX10_ball_9 (by decide) ?_
  refine s_pI E fp_X10_90 (Or.inl rfl) rfl (jv_lt hj_3 (by decide)) dX10_ball_10 ?_
  refine s_gen (P := fun v => Jv w v ∧ (v.2.2.1 95 7).toInt = (v_2.2.2.1 95 7).toInt ∧ (v.2.2.1 95 8).toInt = (v_2.2.2.1 95 8).toInt ∧ (v.2.2.1 95 9).toInt = (v_2.2.2.1 95 9).toInt ∧ (v.2.2.1 95 10).toInt = (v_2.2.2.1 95 10).toInt ∧ (v.2.2.1 95 12).toInt = (v_2.2.2.1 95 12).toInt ∧ (v.2.2.1 101 9).toInt = (v_2.2.2.1 101 9).toInt) ⟨(jv_f_95_5 hj_3 (by decide) (by decide)), rfl, rfl, rfl, rfl, rfl, rfl⟩ (fun v_5 hj_6 => ?_)
  obtain ⟨hj_6, hk_7k0, hk_7k1, hk_7k2, hk_7k3, hk_7k4, hk_7k5⟩ := hj_6
  refine s_aload_n E dX10_ball_13 rfl rfl ?_
  refine s_iconst (v := 0) E dX10_ball_14 (by decide) ?_
  refine s_pI E fp_X10_96 (Or.inl rfl) rfl (jv_lt hj_6 (by decide)) dX10_ball_15 ?_
  refine s_gen (P := fun v => Jv w v ∧ (v.2.2.1 95 7).toInt = (v_5.2.2.1 95 7).toInt ∧ (v.2.2.1 95 8).toInt = 0 ∧ (v.2.2.1 95 9).toInt = (v_5.2.2.1 95 9).toInt ∧ (v.2.2.1 95 10).toInt = (v_5.2.2.1 95 10).toInt ∧ (v.2.2.1 95 12).toInt = (v_5.2.2.1 95 12).toInt ∧ (v.2.2.1 101 9).toInt = (v_5.2.2.1 101 9).toInt) ⟨(jv_f_95_8 hj_6 (by decide) (by decide)), rfl, rfl, rfl, rfl, rfl, rfl⟩ (fun v_8 hj_9 => ?_)
  obtain ⟨hj_9, hk_10k0, hk_10k1, hk_10k2, hk_10k3, hk_10k4, hk_10k5⟩ := hj_9
  refine s_aload_n E dX10_ball_18 rfl rfl ?_
  refine s_iconst (v := 0) E dX10_ball_19 (by decide) ?_
  refine s_pI E fp_X10_127 (Or.inl rfl) rfl (jv_lt hj_9 (by decide)) dX10_ball_20 ?_
  have k1_ : Jw w (upI v_8 95 12 0) := jw_up (jv_w hj_9) (in_of (a := 0) (z := 3) (by decide +kernel) (by decide) (by decide) (by decide)) ⟨by decide, by decide⟩ (by decide)
  refine s_aload_n E dX10_ball_23 rfl rfl ?_
  refine s_iconst (v := (-1)) E dX10_ball_24 (by decide) ?_
  refine s_pI E fp_X10_27 (Or.inl rfl) rfl (jw_lt k1_ (by decide)) dX10_ball_25 ?_
  have k2_ : Jw w (upI (upI v_8 95 12 0) 95 13 (-1)) := jw_up k1_ (in_of (a := (-2147483648)) (z := 2147483647) (by decide +kernel) (by decide) (by decide) (by decide)) ⟨by decide, by decide⟩ (by decide)
  refine s_iconst (v := 0) E dX10_ball_28 (by decide) ?_
  refine s_istore_n (L2 := [some (AR 95), some (AI 0)]) E dX10_ball_29 rfl (by decide) rfl ?_
  refine z_loop (St := Int32) (Pi := fun q30_ v30 => (0 ≤ q30_.toInt ∧ q30_.toInt ≤ 134) ∧ (∀ j : Nat, (j : Int) < q30_.toInt → v30.2.2.1 101 j = 0) ∧ v30.2.2.1 13 = v_8.2.2.1 13 ∧ v30.2.2.1 24 = v_8.2.2.1 24 ∧ Jw w v30) (Lf := fun q30_ => [some (AR 95), some (AI q30_)]) (fun q30_ _ => (135 - q30_.toInt).toNat) 0 ⟨⟨by decide, by decide⟩, fun j h_ => absurd h_ (by have h0_ : (0 : Int32).toInt = 0 := (by decide); omega), rfl, rfl, k2_⟩ ?_
  rintro q30_ v30 ⟨hq30_, hz30_, f13_, f24_, k3_⟩ ih30
  refine s_loc (L2 := [some (AR 95), some (AI q30_)]) rfl ?_
  refine s_iload_n E dX10_ball_30 rfl rfl ?_
  refine s_sipush (v := 134) E dX10_ball_31 (by decide) ?_
  refine z_icmp_ge (tgt := 50) (u := q30_.toInt) (v := 134) E dX10_ball_34 (by decide) rfl (by decide) (fun h30_ => ?_) (fun h30_ => ?_)
  ·
    have hJ5_ : Jv w v30 := jv_anew hj_9 k3_ f13_ f24_ (fun j hj_ => hz30_ j (by omega))
    have n9_ : (v30.2.2.1 101 9).toInt = 0 := by rw [hz30_ 9 (by omega)]; decide
    refine s_aload_n E dX10_ball_50 rfl rfl ?_
    refine s_vV (As := []) (S := []) E (Z_X10_advance_95 l D aC b v30  hJ5_.1 ) cv_X10_147 rfl rfl rfl (jv_lt hJ5_ (by decide)) (Nat.le_of_ble_eq_true rfl) (Nat.le_of_ble_eq_true rfl) ⟨(Nat.le_of_ble_eq_true rfl), (Nat.le_of_ble_eq_true rfl)⟩ (Nat.le_of_ble_eq_true rfl) dX10_ball_51 (fun u_11 hp_12 => ?_)
    obtain ⟨hx_hp_12, hf_u_11_99, hf_u_11_101, hp_12⟩ := hp_12
    have hj_13 := jv_trans hJ5_ hp_12
    have hfa_101_9 := congrArg Int32.toInt (congrFun hf_u_11_101 9)
    have hr_ := rg_95_9 hj_13
    refine z_loop (St := Unit) (Pi := fun () v54 => ((v54.2.2.1 95 9).toInt ≤ (v54.2.2.1 95 8).toInt ∧ ((v54.2.2.1 95 10).toInt = 0 ∨ (v54.2.2.1 95 9).toInt < (v54.2.2.1 95 8).toInt) ∧ ((v54.2.2.1 95 12).toInt = 0 → (v54.2.2.1 101 9).toInt ≤ (v54.2.2.1 95 9).toInt)) ∧ Jv w v54) (Lf := fun () => [some (AR 95), some (AI q30_)]) (fun () v54 => (if (v54.2.2.1 95 12).toInt = 0 then (1001 - (v54.2.2.1 95 9).toInt).toNat + 1 else 0)) () ⟨(by omega), hj_13⟩ ?_
    rintro () v54 ⟨hl54, hj_14⟩ ih54
    refine s_loc (L2 := [some (AR 95), some (AI q30_)]) rfl ?_
    refine s_aload_n E dX10_ball_54 rfl rfl ?_
    refine s_vI (As := []) (S := []) E (Z_X10_good_95 l D aC b v54  hj_14.1 ) cv_X10_130 rfl rfl rfl (jv_lt hj_14 (by decide)) (Nat.le_of_ble_eq_true rfl) (Nat.le_of_ble_eq_true rfl) ⟨(Nat.le_of_ble_eq_true rfl), (Nat.le_of_ble_eq_true rfl)⟩ (Nat.le_of_ble_eq_true rfl) dX10_ball_55 (fun z_17 u_15 hp_16 => ?_)
    obtain ⟨hz_17, hxz_17, hp_16⟩ := hp_16
    subst hp_16
    refine z_if_eq (tgt := 75) (u := z_17.toInt) E dX10_ball_58 (by decide) rfl (fun h_19 => ?_) (fun h_19 => ?_)
    ·
      refine s_aload_n E dX10_ball_75 rfl rfl ?_
      refine s_vI (As := []) (S := []) E (Z_X10_good_95 l D aC b v54  hj_14.1 ) cv_X10_130 rfl rfl rfl (jv_lt hj_14 (by decide)) (Nat.le_of_ble_eq_true rfl) (Nat.le_of_ble_eq_true rfl) ⟨(Nat.le_of_ble_eq_true rfl), (Nat.le_of_ble_eq_true rfl)⟩ (Nat.le_of_ble_eq_true rfl) dX10_ball_76 (fun z_22 u_20 hp_21 => ?_)
      obtain ⟨hz_22, hxz_22, hp_21⟩ := hp_21
      subst hp_21
      refine z_if_ne (tgt := 85) (u := z_22.toInt) E dX10_ball_79 (by decide) rfl (fun h_24 => ?_) (fun h_24 => ?_)
      ·
        have h0k_ : (v54.2.2.1 95 12).toInt = 0 := by omega
        refine s_iconst (v := 0) E dX10_ball_85 (by decide) ?_
        refine s_istore_n (L2 := [some (AR 95), some (AI 0)]) E dX10_ball_86 rfl (by decide) rfl ?_
        refine z_loop (St := Int32) (Pi := fun q87_ v87 => (0 ≤ q87_.toInt ∧ q87_.toInt ≤ 134) ∧ v87 = stI v54 96 (yP (v54.2.2.1 101) (v54.2.2.1 96) 0 q87_.toInt.toNat)) (Lf := fun q87_ => [some (AR 95), some (AI q87_)]) (fun q87_ _ => (135 - q87_.toInt).toNat) 0 ⟨⟨by decide, by decide⟩, st_start (by decide)⟩ ?_
        rintro q87_ v87 ⟨hq87_, hv87_⟩ ih87
        subst hv87_
        refine s_loc (L2 := [some (AR 95), some (AI q87_)]) rfl ?_
        refine s_iload_n E dX10_ball_87 rfl rfl ?_
        refine s_sipush (v := 134) E dX10_ball_88 (by decide) ?_
        refine z_icmp_ge (tgt := 112) (u := q87_.toInt) (v := 134) E dX10_ball_91 (by decide) rfl (by decide) (fun h87_ => ?_) (fun h87_ => ?_)
        ·
          have e87_ : q87_.toInt.toNat = 134 := by omega
          rw [e87_]
          have hJ7_ := cp_ball hj_14 h0k_
          refine s_gen (P := Jv w) hJ7_ (fun v112 hj112 => ?_)
          refine s_aload_n E dX10_ball_112 rfl rfl ?_
          refine s_gR (r := 96) E fg_X10_9 rfl rfl (jv_lt hj112 (by decide)) (jv_r hj112 (by decide +kernel)) dX10_ball_113 ?_
          refine s_bipush (v := 9) E dX10_ball_116 (by decide) ?_
          refine s_iald E rfl (jv_lt hj112 (by decide)) (z_in (u := 9) (by decide) (by omega) (by omega)) dX10_ball_118 ?_
          refine z_nm (P := fun z => z.toInt = (v112.2.2.1 96 9).toInt ∧ 0 ≤ z.toInt ∧ z.toInt ≤ 2147483647) ⟨rfl, (rw_96_9 hj112)⟩ (fun z_25 hz_25 => ?_)
          exact r_int E dX10_ball_119 ⟨⟨by have hb_ := z32 z_25; omega, by have hb_ := z32 z_25; omega⟩, hj112⟩
        ·
          refine s_aload_n E dX10_ball_94 rfl rfl ?_
          refine s_gR (r := 96) E fg_X10_9 rfl rfl (jv_lt hj_14 (by decide)) (jv_r hj_14 (by decide +kernel)) dX10_ball_95 ?_
          refine s_iload_n E dX10_ball_98 rfl rfl ?_
          refine s_aload_n E dX10_ball_99 rfl rfl ?_
          refine s_gR (r := 101) E fg_X10_31 rfl rfl (jv_lt hj_14 (by decide)) (jv_r hj_14 (by decide +kernel)) dX10_ball_100 ?_
          refine s_iload_n E dX10_ball_103 rfl rfl ?_
          refine s_iald E rfl (jv_lt hj_14 (by decide)) (z_in (u := q87_.toInt) rfl (by omega) (by omega)) dX10_ball_104 ?_
          refine z_nm (P := fun z => z = v54.2.2.1 101 q87_.toInt.toNat) (congrFun (st_ne (show 101 ≠ 96 by decide)) _) (fun z88_ hz88_ => ?_)
          refine s_iast E rfl (jv_lt hj_14 (by decide)) (z_in (u := q87_.toInt) rfl (by omega) (by omega)) dX10_ball_105 ?_
          refine z_iinc (u := q87_.toInt) (L2 := fun z_ => [some (AR 95), some (AI z_)]) E dX10_ball_106 rfl rfl (by decide) (fun _ => rfl) (by decide) (by omega) (by omega) (fun z89_ hz89_ => ?_)
          refine s_goto (tgt := 87) E dX10_ball_109 (by decide) ?_
          exact ih87 z89_ _ ⟨⟨by omega, by omega⟩, st_next (by show q87_.toInt.toNat = _; omega) hz88_ (by omega)⟩ (by first | omega | (dsimp only; omega))
      ·
        refine s_bipush (v := (-4)) E dX10_ball_82 (by decide) ?_
        exact r_int E dX10_ball_84 ⟨(by decide), hj_14⟩
    ·
      refine s_aload_n E dX10_ball_61 rfl rfl ?_
      refine s_gI E fg_X10_106 rfl rfl (jv_lt hj_14 (by decide)) dX10_ball_62 ?_
      refine z_nm (P := fun z => z.toInt = (v54.2.2.1 95 10).toInt ∧ 0 ≤ z.toInt ∧ z.toInt ≤ 4) ⟨rfl, (rg_95_10 hj_14)⟩ (fun z_26 hz_26 => ?_)
      refine z_if_eq (tgt := 75) (u := z_26.toInt) E dX10_ball_65 (by decide) rfl (fun h_27 => ?_) (fun h_27 => ?_)
      ·
        refine s_aload_n E dX10_ball_75 rfl rfl ?_
        refine s_vI (As := []) (S := []) E (Z_X10_good_95 l D aC b v54  hj_14.1 ) cv_X10_130 rfl rfl rfl (jv_lt hj_14 (by decide)) (Nat.le_of_ble_eq_true rfl) (Nat.le_of_ble_eq_true rfl) ⟨(Nat.le_of_ble_eq_true rfl), (Nat.le_of_ble_eq_true rfl)⟩ (Nat.le_of_ble_eq_true rfl) dX10_ball_76 (fun z_30 u_28 hp_29 => ?_)
        obtain ⟨hz_30, hxz_30, hp_29⟩ := hp_29
        subst hp_29
        refine z_if_ne (tgt := 85) (u := z_30.toInt) E dX10_ball_79 (by decide) rfl (fun h_32 => ?_) (fun h_32 => ?_)
        ·
          have h0k_ : (v54.2.2.1 95 12).toInt = 0 := by omega
          refine s_iconst (v := 0) E dX10_ball_85 (by decide) ?_
          refine s_istore_n (L2 := [some (AR 95), some (AI 0)]) E dX10_ball_86 rfl (by decide) rfl ?_
          refine z_loop (St := Int32) (Pi := fun q87_ v87 => (0 ≤ q87_.toInt ∧ q87_.toInt ≤ 134) ∧ v87 = stI v54 96 (yP (v54.2.2.1 101) (v54.2.2.1 96) 0 q87_.toInt.toNat)) (Lf := fun q87_ => [some (AR 95), some (AI q87_)]) (fun q87_ _ => (135 - q87_.toInt).toNat) 0 ⟨⟨by decide, by decide⟩, st_start (by decide)⟩ ?_
          rintro q87_ v87 ⟨hq87_, hv87_⟩ ih87
          subst hv87_
          refine s_loc (L2 := [some (AR 95), some (AI q87_)]) rfl ?_
          refine s_iload_n E dX10_ball_87 rfl rfl ?_
          refine s_sipush (v := 134) E dX10_ball_88 (by decide) ?_
          refine z_icmp_ge (tgt := 112) (u := q87_.toInt) (v := 134) E dX10_ball_91 (by decide) rfl (by decide) (fun h87_ => ?_) (fun h87_ => ?_)
          ·
            have e87_ : q87_.toInt.toNat = 134 := by omega
            rw [e87_]
            have hJ7_ := cp_ball hj_14 h0k_
            refine s_gen (P := Jv w) hJ7_ (fun v112 hj112 => ?_)
            refine s_aload_n E dX10_ball_112 rfl rfl ?_
            refine s_gR (r := 96) E fg_X10_9 rfl rfl (jv_lt hj112 (by decide)) (jv_r hj112 (by decide +kernel)) dX10_ball_113 ?_
            refine s_bipush (v := 9) E dX10_ball_116 (by decide) ?_
            refine s_iald E rfl (jv_lt hj112 (by decide)) (z_in (u := 9) (by decide) (by omega) (by omega)) dX10_ball_118 ?_
            refine z_nm (P := fun z => z.toInt = (v112.2.2.1 96 9).toInt ∧ 0 ≤ z.toInt ∧ z.toInt ≤ 2147483647) ⟨rfl, (rw_96_9 hj112)⟩ (fun z_33 hz_33 => ?_)
            exact r_int E dX10_ball_119 ⟨⟨by have hb_ := z32 z_33; omega, by have hb_ := z32 z_33; omega⟩, hj112⟩
          ·
            refine s_aload_n E dX10_ball_94 rfl rfl ?_
            refine s_gR (r := 96) E fg_X10_9 rfl rfl (jv_lt hj_14 (by decide)) (jv_r hj_14 (by decide +kernel)) dX10_ball_95 ?_
            refine s_iload_n E dX10_ball_98 rfl rfl ?_
            refine s_aload_n E dX10_ball_99 rfl rfl ?_
            refine s_gR (r := 101) E fg_X10_31 rfl rfl (jv_lt hj_14 (by decide)) (jv_r hj_14 (by decide +kernel)) dX10_ball_100 ?_
            refine s_iload_n E dX10_ball_103 rfl rfl ?_
            refine s_iald E rfl (jv_lt hj_14 (by decide)) (z_in (u := q87_.toInt) rfl (by omega) (by omega)) dX10_ball_104 ?_
            refine z_nm (P := fun z => z = v54.2.2.1 101 q87_.toInt.toNat) (congrFun (st_ne (show 101 ≠ 96 by decide)) _) (fun z88_ hz88_ => ?_)
            refine s_iast E rfl (jv_lt hj_14 (by decide)) (z_in (u := q87_.toInt) rfl (by omega) (by omega)) dX10_ball_105 ?_
            refine z_iinc (u := q87_.toInt) (L2 := fun z_ => [some (AR 95), some (AI z_)]) E dX10_ball_106 rfl rfl (by decide) (fun _ => rfl) (by decide) (by omega) (by omega) (fun z89_ hz89_ => ?_)
            refine s_goto (tgt := 87) E dX10_ball_109 (by decide) ?_
            exact ih87 z89_ _ ⟨⟨by omega, by omega⟩, st_next (by show q87_.toInt.toNat = _; omega) hz88_ (by omega)⟩ (by first | omega | (dsimp only; omega))
        ·
          refine s_bipush (v := (-4)) E dX10_ball_82 (by decide) ?_
          exact r_int E dX10_ball_84 ⟨(by decide), hj_14⟩
      ·
        have hr_ := rg_95_9 hj_14
        refine s_aload_n E dX10_ball_68 rfl rfl ?_
        refine s_vV (As := []) (S := []) E (Z_X10_readLine_95 l D aC b v54  hj_14.1  (by omega) (by omega)) cv_X10_215 rfl rfl rfl (jv_lt hj_14 (by decide)) (Nat.le_of_ble_eq_true rfl) (Nat.le_of_ble_eq_true rfl) ⟨(Nat.le_of_ble_eq_true rfl), (Nat.le_of_ble_eq_true rfl)⟩ (Nat.le_of_ble_eq_true rfl) dX10_ball_69 (fun u_34 hp_35 => ?_)
        obtain ⟨hx_hp_35, hp_35⟩ := hp_35
        have hj_36 := jv_trans hj_14 hp_35
        refine s_goto (tgt := 54) E dX10_ball_72 (by decide) ?_
        exact ih54 () u_34 ⟨(by omega), hj_36⟩ (by dsimp only; split <;> split <;> omega)
  ·
    refine s_aload_n E dX10_ball_37 rfl rfl ?_
    refine s_gR (r := 101) E fg_X10_31 rfl rfl (jw_lt k3_ (by decide)) (jw_r k3_ (by decide +kernel)) dX10_ball_38 ?_
    refine s_iload_n E dX10_ball_41 rfl rfl ?_
    refine s_iconst (v := 0) E dX10_ball_42 (by decide) ?_
    refine s_iast E rfl (jw_lt k3_ (by decide)) (z_in (u := q30_.toInt) rfl (by omega) (by omega)) dX10_ball_43 ?_
    refine z_iinc (u := q30_.toInt) (L2 := fun z_ => [some (AR 95), some (AI z_)]) E dX10_ball_44 rfl rfl (by decide) (fun _ => rfl) (by decide) (by omega) (by omega) (fun z31_ hz31_ => ?_)
    refine s_goto (tgt := 30) E dX10_ball_47 (by decide) ?_
    exact ih30 z31_ _ ⟨⟨by omega, by omega⟩, cl_step (by omega) hz30_ (by omega), (upI_ne (show 13 ≠ 101 by decide)).trans f13_, (upI_ne (show 24 ≠ 101 by decide)).trans f24_, cl_jw k3_ (by omega) (by omega)⟩ (by first | omega | (dsimp only; omega))
set_option maxRecDepth 20000 in
set_option maxHeartbeats 2000000 in
theorem Z_X10_fault_95 (l : Launch) (D : va_G) (aC : Nat → ClassId) (b : Nat) (w : XW) (x1 : Int32) (hI : Iv w)  : CnI l D aC b M_X10_fault 0 0 0 0 [AR 95, AI x1] w (fun r u => ((-2147483648) ≤ r.toInt ∧ r.toInt ≤ 2147483647 ∧ (¬ r.toInt = 0 ∨ (0 ≤ x1.toInt ∧ x1.toInt ≤ 1))) ∧ w = u) := by
  refine cn_I (own := RX10) (nm := "fault") (L0 := [some (AR 95), some (AI x1)]) (by decide +kernel) rfl rfl (Nat.le_of_ble_eq_true rfl) rfl ?_
  intro p e s m args below meth c E hin
  have hJ : Jv w w := jv_rfl hI
  have hb_x1 := z32 x1
  refine s_iload_n E dX10_fault_0 rfl rfl ?_
  refine z_if_ne (tgt := 11) (u := x1.toInt) E dX10_fault_1 (by decide) rfl (fun h_1 => ?_) (fun h_1 => ?_)
  ·
    refine s_iload_n E dX10_fault_11 rfl rfl ?_
    refine s_iconst (v := 1) E dX10_fault_12 (by decide) ?_
    refine z_icmp_ne (tgt := 23) (u := x1.toInt) (v := 1) E dX10_fault_13 (by decide) rfl (by decide) (fun h_2 => ?_) (fun h_2 => ?_)
    ·
      refine s_iconst (v := (-1)) E dX10_fault_23 (by decide) ?_
      exact r_int E dX10_fault_24 ⟨⟨by decide, by decide, by first | (left; decide) | (right; decide) | (right; have hb_ := z32 x1; omega)⟩, rfl⟩
    ·
      refine s_aload_n E dX10_fault_16 rfl rfl ?_
      refine s_gI E fg_X10_27 rfl rfl (jv_lt hJ (by decide)) dX10_fault_17 ?_
      refine z_nm (P := fun z => z.toInt = (w.2.2.1 95 13).toInt ∧ (-2147483648) ≤ z.toInt ∧ z.toInt ≤ 2147483647) ⟨rfl, z32 _⟩ (fun z_3 hz_3 => ?_)
      refine s_goto (tgt := 24) E dX10_fault_20 (by decide) ?_
      exact r_int E dX10_fault_24 ⟨⟨by have hb_ := z32 z_3; omega, by have hb_ := z32 z_3; omega, by first | (right; decide) | (have hb_ := z32 z_3; omega) | (have hb_ := z32 z_3; have hc_ := z32 x1; omega)⟩, rfl⟩
  ·
    refine s_aload_n E dX10_fault_4 rfl rfl ?_
    refine s_gI E fg_X10_127 rfl rfl (jv_lt hJ (by decide)) dX10_fault_5 ?_
    refine z_nm (P := fun z => z.toInt = (w.2.2.1 95 12).toInt ∧ 0 ≤ z.toInt ∧ z.toInt ≤ 3) ⟨rfl, (rg_95_12 hJ)⟩ (fun z_4 hz_4 => ?_)
    refine s_goto (tgt := 24) E dX10_fault_8 (by decide) ?_
    exact r_int E dX10_fault_24 ⟨⟨by have hb_ := z32 z_4; omega, by have hb_ := z32 z_4; omega, by first | (right; decide) | (have hb_ := z32 z_4; omega) | (have hb_ := z32 z_4; have hc_ := z32 x1; omega)⟩, rfl⟩
set_option maxRecDepth 20000 in
set_option maxHeartbeats 2000000 in
theorem Z_X10_isDoor_95 (l : Launch) (D : va_G) (aC : Nat → ClassId) (b : Nat) (w : XW) (x1 : Int32) (hI : Iv w)  : CnI l D aC b M_X10_isDoor 1 25 0 0 [AR 95, AI x1] w (fun r u => (0 ≤ r.toInt ∧ r.toInt ≤ 1 ∧ (¬ r.toInt = 0 ∨ (0 ≤ (w.2.2.1 96 4).toInt ∧ (w.2.2.1 96 4).toInt ≤ 12)) ∧ (r.toInt = 0 ∨ (0 ≤ x1.toInt ∧ x1.toInt ≤ 11)) ∧ (r.toInt = 0 ∨ (0 ≤ (w.2.2.1 96 4).toInt ∧ (w.2.2.1 96 4).toInt ≤ 12))) ∧ w = u) := by
  refine cn_I (own := RX10) (nm := "isDoor") (L0 := [some (AR 95), some (AI x1)]) (by decide +kernel) rfl rfl (Nat.le_of_ble_eq_true rfl) rfl ?_
  intro p e s m args below meth c E hin
  have hJ : Jv w w := jv_rfl hI
  have hb_x1 := z32 x1
  refine s_iload_n E dX10_isDoor_0 rfl rfl ?_
  refine z_i2l (u := x1.toInt) E dX10_isDoor_1 rfl (fun z_1 hz_1 => ?_)
  refine s_lconst (v := 0) E dX10_isDoor_2 (by decide) ?_
  refine s_aload_n E dX10_isDoor_3 rfl rfl ?_
  refine s_gR (r := 96) E fg_X10_9 rfl rfl (jv_lt hJ (by decide)) (jv_r hJ (by decide +kernel)) dX10_isDoor_4 ?_
  refine s_iconst (v := 4) E dX10_isDoor_7 (by decide) ?_
  refine s_iald E rfl (jv_lt hJ (by decide)) (z_in (u := 4) (by decide) (by omega) (by omega)) dX10_isDoor_8 ?_
  refine z_nm (P := fun z => z.toInt = (w.2.2.1 96 4).toInt ∧ 0 ≤ z.toInt ∧ z.toInt ≤ 12) ⟨rfl, (rw_96_4 hJ)⟩ (fun z_2 hz_2 => ?_)
  refine s_iconst (v := 1) E dX10_isDoor_9 (by decide) ?_
  refine z_isub (u := z_2.toInt) (v := 1) E dX10_isDoor_10 rfl (by decide) (by omega) (by omega) (fun z_3 hz_3 => ?_)
  refine z_i2l (u := z_3.toInt) E dX10_isDoor_11 rfl (fun z_4 hz_4 => ?_)
  refine s_sI (As := [AL z_1, AL 0, AL z_4]) (S := []) E (Z_X10_in l D aC b w z_1 0 z_4) cs_X10_82 rfl rfl (Nat.le_of_ble_eq_true rfl) (Nat.le_of_ble_eq_true rfl) ⟨(Nat.le_of_ble_eq_true rfl), (Nat.le_of_ble_eq_true rfl)⟩ (Nat.le_of_ble_eq_true rfl) dX10_isDoor_12 (fun z_5 u_6 hp_7 => ?_)
  obtain ⟨hz_5, hp_7⟩ := hp_7
  subst hp_7
  exact r_bool E dX10_isDoor_15 (z_bool (by omega) (by omega)) ⟨⟨by have hb_ := z32 z_5; omega, by have hb_ := z32 z_5; omega, by first | (right; decide) | (have hb_ := z32 z_5; omega) | (have hb_ := z32 z_5; have hc_ := z32 (w.2.2.1 96 4); omega), by first | (right; decide) | (have hb_ := z32 z_5; omega) | (have hb_ := z32 z_5; have hc_ := z32 x1; omega), by first | (right; decide) | (have hb_ := z32 z_5; omega) | (have hb_ := z32 z_5; have hc_ := z32 (w.2.2.1 96 4); omega)⟩, rfl⟩
set_option maxRecDepth 20000 in
set_option maxHeartbeats 2000000 in
theorem Z_X10_door_95 (l : Launch) (D : va_G) (aC : Nat → ClassId) (b : Nat) (w : XW) (x1 : Int32) (x2 : Int32) (hI : Iv w)  : CnI l D aC b M_X10_door 2 46 0 0 [AR 95, AI x1, AI x2] w (fun r u => ((-2) ≤ r.toInt ∧ r.toInt ≤ 9 ∧ (¬ r.toInt = 0 ∨ (0 ≤ x1.toInt ∧ x1.toInt ≤ 11)) ∧ (¬ r.toInt = 0 ∨ (0 ≤ x2.toInt ∧ x2.toInt ≤ 2)) ∧ (¬ r.toInt = 0 ∨ (0 ≤ (w.2.2.1 96 4).toInt ∧ (w.2.2.1 96 4).toInt ≤ 12)) ∧ (r.toInt = 0 ∨ (0 ≤ (w.2.2.1 96 4).toInt ∧ (w.2.2.1 96 4).toInt ≤ 12))) ∧ w = u) := by
  refine cn_I (own := RX10) (nm := "door") (L0 := [some (AR 95), some (AI x1), some (AI x2)]) (by decide +kernel) rfl rfl (Nat.le_of_ble_eq_true rfl) rfl ?_
  intro p e s m args below meth c E hin
  have hJ : Jv w w := jv_rfl hI
  have hb_x1 := z32 x1
  have hb_x2 := z32 x2
  refine s_aload_n E dX10_door_0 rfl rfl ?_
  refine s_iload_n E dX10_door_1 rfl rfl ?_
  refine s_vI (As := [AI x1]) (S := []) E (Z_X10_isDoor_95 l D aC b w x1 hJ.1 ) cv_X10_218 rfl rfl rfl (jv_lt hJ (by decide)) (Nat.le_of_ble_eq_true rfl) (Nat.le_of_ble_eq_true rfl) ⟨(Nat.le_of_ble_eq_true rfl), (Nat.le_of_ble_eq_true rfl)⟩ (Nat.le_of_ble_eq_true rfl) dX10_door_2 (fun z_3 u_1 hp_2 => ?_)
  obtain ⟨hz_3, hp_2⟩ := hp_2
  subst hp_2
  refine z_if_eq (tgt := 36) (u := z_3.toInt) E dX10_door_5 (by decide) rfl (fun h_5 => ?_) (fun h_5 => ?_)
  ·
    refine s_bipush (v := (-2)) E dX10_door_36 (by decide) ?_
    exact r_int E dX10_door_38 ⟨⟨by decide, by decide, by first | (left; decide) | (right; decide) | (right; have hb_ := z32 x1; omega), by first | (left; decide) | (right; decide) | (right; have hb_ := z32 x2; omega), by first | (left; decide) | (right; decide) | (right; have hb_ := z32 (w.2.2.1 96 4); omega), by first | (left; decide) | (right; decide) | (right; have hb_ := z32 (w.2.2.1 96 4); omega)⟩, rfl⟩
  ·
    refine s_iload_n E dX10_door_8 rfl rfl ?_
    refine z_i2l (u := x2.toInt) E dX10_door_9 rfl (fun z_6 hz_6 => ?_)
    refine s_lconst (v := 0) E dX10_door_10 (by decide) ?_
    refine s_ldc2 E k_1365 rfl dX10_door_11 ?_
    refine s_sI (As := [AL z_6, AL 0, AL 2]) (S := []) E (Z_X10_in l D aC b w z_6 0 2) cs_X10_82 rfl rfl (Nat.le_of_ble_eq_true rfl) (Nat.le_of_ble_eq_true rfl) ⟨(Nat.le_of_ble_eq_true rfl), (Nat.le_of_ble_eq_true rfl)⟩ (Nat.le_of_ble_eq_true rfl) dX10_door_14 (fun z_7 u_8 hp_9 => ?_)
    obtain ⟨hz_7, hp_9⟩ := hp_9
    subst hp_9
    refine z_if_eq (tgt := 36) (u := z_7.toInt) E dX10_door_17 (by decide) rfl (fun h_10 => ?_) (fun h_10 => ?_)
    ·
      refine s_bipush (v := (-2)) E dX10_door_36 (by decide) ?_
      exact r_int E dX10_door_38 ⟨⟨by decide, by decide, by first | (left; decide) | (right; decide) | (right; have hb_ := z32 x1; omega), by first | (left; decide) | (right; decide) | (right; have hb_ := z32 x2; omega), by first | (left; decide) | (right; decide) | (right; have hb_ := z32 (w.2.2.1 96 4); omega), by first | (left; decide) | (right; decide) | (right; have hb_ := z32 (w.2.2.1 96 4); omega)⟩, rfl⟩
    ·
      refine s_aload_n E dX10_door_20 rfl rfl ?_
      refine s_gR (r := 96) E fg_X10_9 rfl rfl (jv_lt hJ (by decide)) (jv_r hJ (by decide +kernel)) dX10_door_21 ?_
      refine s_bipush (v := 10) E dX10_door_24 (by decide) ?_
      refine s_iconst (v := 3) E dX10_door_26 (by decide) ?_
      refine s_iload_n E dX10_door_27 rfl rfl ?_
      refine z_imul (u := 3) (v := x1.toInt) E dX10_door_28 (by decide) rfl (by omega) (by omega) (fun z_11 hz_11 => ?_)
      refine z_iadd (u := 10) (v := z_11.toInt) E dX10_door_29 (by decide) rfl (by omega) (by omega) (fun z_12 hz_12 => ?_)
      refine s_iload_n E dX10_door_30 rfl rfl ?_
      refine z_iadd (u := z_12.toInt) (v := x2.toInt) E dX10_door_31 rfl rfl (by omega) (by omega) (fun z_13 hz_13 => ?_)
      refine s_iald E rfl (jv_lt hJ (by decide)) (z_in (u := z_13.toInt) rfl (by omega) (by omega)) dX10_door_32 ?_
      refine z_nm (P := fun z => z.toInt = (w.2.2.1 96 z_13.toNatClampNeg).toInt ∧ 0 ≤ z.toInt ∧ z.toInt ≤ 9 ∧ (104 ≤ z_13.toInt → z_13.toInt < 134 → okA z.toInt)) ⟨rfl, (rs_w hJ (by decide) 0 9 10 45 1 z_13 z_13.toInt (by decide +kernel) rfl (by omega) (by omega) (by omega))⟩ (fun z_14 hz_14 => ?_)
      refine s_goto (tgt := 38) E dX10_door_33 (by decide) ?_
      exact r_int E dX10_door_38 ⟨⟨by have hb_ := z32 z_14; omega, by have hb_ := z32 z_14; omega, by first | (right; decide) | (have hb_ := z32 z_14; omega) | (have hb_ := z32 z_14; have hc_ := z32 x1; omega), by first | (right; decide) | (have hb_ := z32 z_14; omega) | (have hb_ := z32 z_14; have hc_ := z32 x2; omega), by first | (right; decide) | (have hb_ := z32 z_14; omega) | (have hb_ := z32 z_14; have hc_ := z32 (w.2.2.1 96 4); omega), by first | (right; decide) | (have hb_ := z32 z_14; omega) | (have hb_ := z32 z_14; have hc_ := z32 (w.2.2.1 96 4); omega)⟩, rfl⟩
set_option maxRecDepth 20000 in
set_option maxHeartbeats 2000000 in
theorem Z_X10_isLady_95 (l : Launch) (D : va_G) (aC : Nat → ClassId) (b : Nat) (w : XW) (x1 : Int64) (hI : Iv w)  : CnI l D aC b M_X10_isLady 1 25 0 0 [AR 95, AL x1] w (fun r u => (0 ≤ r.toInt ∧ r.toInt ≤ 1 ∧ (¬ r.toInt = 0 ∨ (0 ≤ (w.2.2.1 96 5).toInt ∧ (w.2.2.1 96 5).toInt ≤ 6)) ∧ (r.toInt = 0 ∨ (0 ≤ x1.toInt ∧ x1.toInt ≤ 5)) ∧ (r.toInt = 0 ∨ (0 ≤ (w.2.2.1 96 5).toInt ∧ (w.2.2.1 96 5).toInt ≤ 6))) ∧ w = u) := by
  refine cn_I (own := RX10) (nm := "isLady") (L0 := [some (AR 95), some (AL x1), none]) (by decide +kernel) rfl rfl (Nat.le_of_ble_eq_true rfl) rfl ?_
  intro p e s m args below meth c E hin
  have hJ : Jv w w := jv_rfl hI
  refine s_lload_n E dX10_isLady_0 rfl rfl ?_
  refine s_lconst (v := 0) E dX10_isLady_1 (by decide) ?_
  refine s_aload_n E dX10_isLady_2 rfl rfl ?_
  refine s_gR (r := 96) E fg_X10_9 rfl rfl (jv_lt hJ (by decide)) (jv_r hJ (by decide +kernel)) dX10_isLady_3 ?_
  refine s_iconst (v := 5) E dX10_isLady_6 (by decide) ?_
  refine s_iald E rfl (jv_lt hJ (by decide)) (z_in (u := 5) (by decide) (by omega) (by omega)) dX10_isLady_7 ?_
  refine z_nm (P := fun z => z.toInt = (w.2.2.1 96 5).toInt ∧ 0 ≤ z.toInt ∧ z.toInt ≤ 6) ⟨rfl, (rw_96_5 hJ)⟩ (fun z_1 hz_1 => ?_)
  refine s_iconst (v := 1) E dX10_isLady_8 (by decide) ?_
  refine z_isub (u := z_1.toInt) (v := 1) E dX10_isLady_9 rfl (by decide) (by omega) (by omega) (fun z_2 hz_2 => ?_)
  refine z_i2l (u := z_2.toInt) E dX10_isLady_10 rfl (fun z_3 hz_3 => ?_)
  refine s_sI (As := [AL x1, AL 0, AL z_3]) (S := []) E (Z_X10_in l D aC b w x1 0 z_3) cs_X10_82 rfl rfl (Nat.le_of_ble_eq_true rfl) (Nat.le_of_ble_eq_true rfl) ⟨(Nat.le_of_ble_eq_true rfl), (Nat.le_of_ble_eq_true rfl)⟩ (Nat.le_of_ble_eq_true rfl) dX10_isLady_11 (fun z_4 u_5 hp_6 => ?_)
  obtain ⟨hz_4, hp_6⟩ := hp_6
  subst hp_6
  exact r_bool E dX10_isLady_14 (z_bool (by omega) (by omega)) ⟨⟨by have hb_ := z32 z_4; omega, by have hb_ := z32 z_4; omega, by first | (right; decide) | (have hb_ := z32 z_4; omega) | (have hb_ := z32 z_4; have hc_ := z32 (w.2.2.1 96 5); omega), by first | (right; decide) | (have hb_ := z32 z_4; omega) | (have hb_ := z32 z_4; have hc_ := z64 x1; omega), by first | (right; decide) | (have hb_ := z32 z_4; omega) | (have hb_ := z32 z_4; have hc_ := z32 (w.2.2.1 96 5); omega)⟩, rfl⟩
set_option maxRecDepth 20000 in
set_option maxHeartbeats 2000000 in
theorem Z_X10_lady_95 (l : Launch) (D : va_G) (aC : Nat → ClassId) (b : Nat) (w : XW) (x1 : Int32) (x2 : Int32) (hI : Iv w)  : CnI l D aC b M_X10_lady 2 47 0 0 [AR 95, AI x1, AI x2] w (fun r u => ((-2) ≤ r.toInt ∧ r.toInt ≤ 9 ∧ (¬ r.toInt = 0 ∨ (0 ≤ x1.toInt ∧ x1.toInt ≤ 5)) ∧ (¬ r.toInt = 0 ∨ (0 ≤ x2.toInt ∧ x2.toInt ≤ 1)) ∧ (¬ r.toInt = 0 ∨ (0 ≤ (w.2.2.1 96 5).toInt ∧ (w.2.2.1 96 5).toInt ≤ 6)) ∧ (r.toInt = 0 ∨ (0 ≤ (w.2.2.1 96 5).toInt ∧ (w.2.2.1 96 5).toInt ≤ 6))) ∧ w = u) := by
  refine cn_I (own := RX10) (nm := "lady") (L0 := [some (AR 95), some (AI x1), some (AI x2)]) (by decide +kernel) rfl rfl (Nat.le_of_ble_eq_true rfl) rfl ?_
  intro p e s m args below meth c E hin
  have hJ : Jv w w := jv_rfl hI
  have hb_x1 := z32 x1
  have hb_x2 := z32 x2
  refine s_aload_n E dX10_lady_0 rfl rfl ?_
  refine s_iload_n E dX10_lady_1 rfl rfl ?_
  refine z_i2l (u := x1.toInt) E dX10_lady_2 rfl (fun z_1 hz_1 => ?_)
  refine s_vI (As := [AL z_1]) (S := []) E (Z_X10_isLady_95 l D aC b w z_1 hJ.1 ) cv_X10_222 rfl rfl rfl (jv_lt hJ (by decide)) (Nat.le_of_ble_eq_true rfl) (Nat.le_of_ble_eq_true rfl) ⟨(Nat.le_of_ble_eq_true rfl), (Nat.le_of_ble_eq_true rfl)⟩ (Nat.le_of_ble_eq_true rfl) dX10_lady_3 (fun z_4 u_2 hp_3 => ?_)
  obtain ⟨hz_4, hp_3⟩ := hp_3
  subst hp_3
  refine z_if_eq (tgt := 35) (u := z_4.toInt) E dX10_lady_6 (by decide) rfl (fun h_6 => ?_) (fun h_6 => ?_)
  ·
    refine s_bipush (v := (-2)) E dX10_lady_35 (by decide) ?_
    exact r_int E dX10_lady_37 ⟨⟨by decide, by decide, by first | (left; decide) | (right; decide) | (right; have hb_ := z32 x1; omega), by first | (left; decide) | (right; decide) | (right; have hb_ := z32 x2; omega), by first | (left; decide) | (right; decide) | (right; have hb_ := z32 (w.2.2.1 96 5); omega), by first | (left; decide) | (right; decide) | (right; have hb_ := z32 (w.2.2.1 96 5); omega)⟩, rfl⟩
  ·
    refine s_iload_n E dX10_lady_9 rfl rfl ?_
    refine z_i2l (u := x2.toInt) E dX10_lady_10 rfl (fun z_7 hz_7 => ?_)
    refine s_lconst (v := 0) E dX10_lady_11 (by decide) ?_
    refine s_lconst (v := 1) E dX10_lady_12 (by decide) ?_
    refine s_sI (As := [AL z_7, AL 0, AL 1]) (S := []) E (Z_X10_in l D aC b w z_7 0 1) cs_X10_82 rfl rfl (Nat.le_of_ble_eq_true rfl) (Nat.le_of_ble_eq_true rfl) ⟨(Nat.le_of_ble_eq_true rfl), (Nat.le_of_ble_eq_true rfl)⟩ (Nat.le_of_ble_eq_true rfl) dX10_lady_13 (fun z_8 u_9 hp_10 => ?_)
    obtain ⟨hz_8, hp_10⟩ := hp_10
    subst hp_10
    refine z_if_eq (tgt := 35) (u := z_8.toInt) E dX10_lady_16 (by decide) rfl (fun h_11 => ?_) (fun h_11 => ?_)
    ·
      refine s_bipush (v := (-2)) E dX10_lady_35 (by decide) ?_
      exact r_int E dX10_lady_37 ⟨⟨by decide, by decide, by first | (left; decide) | (right; decide) | (right; have hb_ := z32 x1; omega), by first | (left; decide) | (right; decide) | (right; have hb_ := z32 x2; omega), by first | (left; decide) | (right; decide) | (right; have hb_ := z32 (w.2.2.1 96 5); omega), by first | (left; decide) | (right; decide) | (right; have hb_ := z32 (w.2.2.1 96 5); omega)⟩, rfl⟩
    ·
      refine s_aload_n E dX10_lady_19 rfl rfl ?_
      refine s_gR (r := 96) E fg_X10_9 rfl rfl (jv_lt hJ (by decide)) (jv_r hJ (by decide +kernel)) dX10_lady_20 ?_
      refine s_bipush (v := 46) E dX10_lady_23 (by decide) ?_
      refine s_iconst (v := 2) E dX10_lady_25 (by decide) ?_
      refine s_iload_n E dX10_lady_26 rfl rfl ?_
      refine z_imul (u := 2) (v := x1.toInt) E dX10_lady_27 (by decide) rfl (by omega) (by omega) (fun z_12 hz_12 => ?_)
      refine z_iadd (u := 46) (v := z_12.toInt) E dX10_lady_28 (by decide) rfl (by omega) (by omega) (fun z_13 hz_13 => ?_)
      refine s_iload_n E dX10_lady_29 rfl rfl ?_
      refine z_iadd (u := z_13.toInt) (v := x2.toInt) E dX10_lady_30 rfl rfl (by omega) (by omega) (fun z_14 hz_14 => ?_)
      refine s_iald E rfl (jv_lt hJ (by decide)) (z_in (u := z_14.toInt) rfl (by omega) (by omega)) dX10_lady_31 ?_
      refine z_nm (P := fun z => z.toInt = (w.2.2.1 96 z_14.toNatClampNeg).toInt ∧ 0 ≤ z.toInt ∧ z.toInt ≤ 9 ∧ (104 ≤ z_14.toInt → z_14.toInt < 134 → okA z.toInt)) ⟨rfl, (rs_w hJ (by decide) 0 9 46 57 1 z_14 z_14.toInt (by decide +kernel) rfl (by omega) (by omega) (by omega))⟩ (fun z_15 hz_15 => ?_)
      refine s_goto (tgt := 37) E dX10_lady_32 (by decide) ?_
      exact r_int E dX10_lady_37 ⟨⟨by have hb_ := z32 z_15; omega, by have hb_ := z32 z_15; omega, by first | (right; decide) | (have hb_ := z32 z_15; omega) | (have hb_ := z32 z_15; have hc_ := z32 x1; omega), by first | (right; decide) | (have hb_ := z32 z_15; omega) | (have hb_ := z32 z_15; have hc_ := z32 x2; omega), by first | (right; decide) | (have hb_ := z32 z_15; omega) | (have hb_ := z32 z_15; have hc_ := z32 (w.2.2.1 96 5); omega), by first | (right; decide) | (have hb_ := z32 z_15; omega) | (have hb_ := z32 z_15; have hc_ := z32 (w.2.2.1 96 5); omega)⟩, rfl⟩
set_option maxRecDepth 20000 in
set_option maxHeartbeats 2000000 in
theorem Z_X10_layMinisters_95 (l : Launch) (D : va_G) (aC : Nat → ClassId) (b : Nat) (w : XW)  (hI : Iv w)  : CnV l D aC b M_X10_layMinisters 0 0 0 0 [AR 95] w (fun u => Jv w u) := by
  refine cn_V (own := RX10) (nm := "layMinisters") (L0 := [some (AR 95), none, none]) (by decide +kernel) rfl rfl (Nat.le_of_ble_eq_true rfl) rfl ?_
  intro p e s m args below meth c E hin
  have hJ : Jv w w := jv_rfl hI
  refine s_iconst (v := 0) E dX10_layMinisters_0 (by decide) ?_
  refine s_istore_n (L2 := [some (AR 95), some (AI 0), none]) E dX10_layMinisters_1 rfl (by decide) rfl ?_
  refine z_loop (St := Int32) (Pi := fun q2_1_0 v2 => (0 ≤ q2_1_0.toInt ∧ q2_1_0.toInt ≤ 8) ∧ Jv w v2) (Lf := fun q2_1_0 => [some (AR 95), some (AI q2_1_0), none]) (fun q2_1_0 _ => (9 - q2_1_0.toInt).toNat) 0 ⟨⟨by decide, by decide⟩, hJ⟩ ?_
  rintro q2_1_0 v2 ⟨hq2_1, hj_1⟩ ih2
  refine s_loc (L2 := [some (AR 95), some (AI q2_1_0), none]) rfl ?_
  refine s_iload_n E dX10_layMinisters_2 rfl rfl ?_
  refine s_aload_n E dX10_layMinisters_3 rfl rfl ?_
  refine s_gR (r := 96) E fg_X10_9 rfl rfl (jv_lt hj_1 (by decide)) (jv_r hj_1 (by decide +kernel)) dX10_layMinisters_4 ?_
  refine s_bipush (v := 6) E dX10_layMinisters_7 (by decide) ?_
  refine s_iald E rfl (jv_lt hj_1 (by decide)) (z_in (u := 6) (by decide) (by omega) (by omega)) dX10_layMinisters_9 ?_
  refine z_nm (P := fun z => z.toInt = (v2.2.2.1 96 6).toInt ∧ 0 ≤ z.toInt ∧ z.toInt ≤ 8) ⟨rfl, (rw_96_6 hj_1)⟩ (fun z_2 hz_2 => ?_)
  refine z_icmp_ge (tgt := 36) (u := q2_1_0.toInt) (v := z_2.toInt) E dX10_layMinisters_10 (by decide) rfl rfl (fun h_3 => ?_) (fun h_3 => ?_)
  ·
    refine s_iconst (v := 0) E dX10_layMinisters_36 (by decide) ?_
    refine s_istore_n (L2 := [some (AR 95), some (AI 0), none]) E dX10_layMinisters_37 rfl (by decide) rfl ?_
    refine z_loop (St := Int32) (Pi := fun q38_1_3 v38 => (0 ≤ q38_1_3.toInt ∧ q38_1_3.toInt ≤ 30) ∧ Jv w v38) (Lf := fun q38_1_3 => [some (AR 95), some (AI q38_1_3), none]) (fun q38_1_3 _ => (31 - q38_1_3.toInt).toNat) 0 ⟨⟨by decide, by decide⟩, hj_1⟩ ?_
    rintro q38_1_3 v38 ⟨hq38_1, hj_4⟩ ih38
    refine s_loc (L2 := [some (AR 95), some (AI q38_1_3), none]) rfl ?_
    refine s_iload_n E dX10_layMinisters_38 rfl rfl ?_
    refine s_aload_n E dX10_layMinisters_39 rfl rfl ?_
    refine s_gR (r := 96) E fg_X10_9 rfl rfl (jv_lt hj_4 (by decide)) (jv_r hj_4 (by decide +kernel)) dX10_layMinisters_40 ?_
    refine s_bipush (v := 8) E dX10_layMinisters_43 (by decide) ?_
    refine s_iald E rfl (jv_lt hj_4 (by decide)) (z_in (u := 8) (by decide) (by omega) (by omega)) dX10_layMinisters_45 ?_
    refine z_nm (P := fun z => z.toInt = (v38.2.2.1 96 8).toInt ∧ 0 ≤ z.toInt ∧ z.toInt ≤ 30) ⟨rfl, (rw_96_8 hj_4)⟩ (fun z_5 hz_5 => ?_)
    refine z_icmp_ge (tgt := 85) (u := q38_1_3.toInt) (v := z_5.toInt) E dX10_layMinisters_46 (by decide) rfl rfl (fun h_6 => ?_) (fun h_6 => ?_)
    ·
      refine s_iconst (v := 0) E dX10_layMinisters_85 (by decide) ?_
      refine s_istore_n (L2 := [some (AR 95), some (AI 0), none]) E dX10_layMinisters_86 rfl (by decide) rfl ?_
      refine z_loop (St := Int32) (Pi := fun q87_1_6 v87 => (0 ≤ q87_1_6.toInt ∧ q87_1_6.toInt ≤ 6) ∧ Jv w v87) (Lf := fun q87_1_6 => [some (AR 95), some (AI q87_1_6), none]) (fun q87_1_6 _ => (7 - q87_1_6.toInt).toNat) 0 ⟨⟨by decide, by decide⟩, hj_4⟩ ?_
      rintro q87_1_6 v87 ⟨hq87_1, hj_7⟩ ih87
      refine s_loc (L2 := [some (AR 95), some (AI q87_1_6), none]) rfl ?_
      refine s_iload_n E dX10_layMinisters_87 rfl rfl ?_
      refine s_bipush (v := 6) E dX10_layMinisters_88 (by decide) ?_
      refine z_icmp_ge (tgt := 106) (u := q87_1_6.toInt) (v := 6) E dX10_layMinisters_90 (by decide) rfl (by decide) (fun h_8 => ?_) (fun h_8 => ?_)
      ·
        refine s_iconst (v := 0) E dX10_layMinisters_106 (by decide) ?_
        refine s_istore_n (L2 := [some (AR 95), some (AI 0), none]) E dX10_layMinisters_107 rfl (by decide) rfl ?_
        refine z_loop (St := Int32) (Pi := fun q108_1_8 v108 => (0 ≤ q108_1_8.toInt ∧ q108_1_8.toInt ≤ 8) ∧ Jv w v108) (Lf := fun q108_1_8 => [some (AR 95), some (AI q108_1_8), none]) (fun q108_1_8 _ => (9 - q108_1_8.toInt).toNat) 0 ⟨⟨by decide, by decide⟩, hj_7⟩ ?_
        rintro q108_1_8 v108 ⟨hq108_1, hj_9⟩ ih108
        refine s_loc (L2 := [some (AR 95), some (AI q108_1_8), none]) rfl ?_
        refine s_iload_n E dX10_layMinisters_108 rfl rfl ?_
        refine s_aload_n E dX10_layMinisters_109 rfl rfl ?_
        refine s_gR (r := 96) E fg_X10_9 rfl rfl (jv_lt hj_9 (by decide)) (jv_r hj_9 (by decide +kernel)) dX10_layMinisters_110 ?_
        refine s_bipush (v := 6) E dX10_layMinisters_113 (by decide) ?_
        refine s_iald E rfl (jv_lt hj_9 (by decide)) (z_in (u := 6) (by decide) (by omega) (by omega)) dX10_layMinisters_115 ?_
        refine z_nm (P := fun z => z.toInt = (v108.2.2.1 96 6).toInt ∧ 0 ≤ z.toInt ∧ z.toInt ≤ 8) ⟨rfl, (rw_96_6 hj_9)⟩ (fun z_10 hz_10 => ?_)
        refine z_icmp_ge (tgt := 152) (u := q108_1_8.toInt) (v := z_10.toInt) E dX10_layMinisters_116 (by decide) rfl rfl (fun h_11 => ?_) (fun h_11 => ?_)
        ·
          exact r_void E dX10_layMinisters_152 hj_9
        ·
          refine s_aload_n E dX10_layMinisters_119 rfl rfl ?_
          refine s_gR (r := 105) E fg_X10_43 rfl rfl (jv_lt hj_9 (by decide)) (jv_r hj_9 (by decide +kernel)) dX10_layMinisters_120 ?_
          refine s_aload_n E dX10_layMinisters_123 rfl rfl ?_
          refine s_gR (r := 104) E fg_X10_40 rfl rfl (jv_lt hj_9 (by decide)) (jv_r hj_9 (by decide +kernel)) dX10_layMinisters_124 ?_
          refine s_iload_n E dX10_layMinisters_127 rfl rfl ?_
          refine s_iald E rfl (jv_lt hj_9 (by decide)) (z_in (u := q108_1_8.toInt) rfl (by omega) (by omega)) dX10_layMinisters_128 ?_
          refine z_nm (P := fun z => z.toInt = (v108.2.2.1 104 q108_1_8.toNatClampNeg).toInt ∧ 0 ≤ z.toInt ∧ z.toInt ≤ 5) ⟨rfl, (ra_104 hj_9 _)⟩ (fun z_12 hz_12 => ?_)
          refine s_dup2 E dX10_layMinisters_129 ?_
          refine s_iald E rfl (jv_lt hj_9 (by decide)) (z_in (u := z_12.toInt) rfl (by omega) (by omega)) dX10_layMinisters_130 ?_
          refine z_nm (P := fun z => (-2147483648) ≤ z.toInt ∧ z.toInt ≤ 2147483647) (z32 _) (fun z_13 hz_13 => ?_)
          refine s_aload_n E dX10_layMinisters_131 rfl rfl ?_
          refine s_gR (r := 96) E fg_X10_9 rfl rfl (jv_lt hj_9 (by decide)) (jv_r hj_9 (by decide +kernel)) dX10_layMinisters_132 ?_
          refine s_bipush (v := 58) E dX10_layMinisters_135 (by decide) ?_
          refine s_iconst (v := 2) E dX10_layMinisters_137 (by decide) ?_
          refine s_iload_n E dX10_layMinisters_138 rfl rfl ?_
          refine z_imul (u := 2) (v := q108_1_8.toInt) E dX10_layMinisters_139 (by decide) rfl (by omega) (by omega) (fun z_14 hz_14 => ?_)
          refine z_iadd (u := 58) (v := z_14.toInt) E dX10_layMinisters_140 (by decide) rfl (by omega) (by omega) (fun z_15 hz_15 => ?_)
          refine s_iconst (v := 1) E dX10_layMinisters_141 (by decide) ?_
          refine z_iadd (u := z_15.toInt) (v := 1) E dX10_layMinisters_142 rfl (by decide) (by omega) (by omega) (fun z_16 hz_16 => ?_)
          refine s_iald E rfl (jv_lt hj_9 (by decide)) (z_in (u := z_16.toInt) rfl (by omega) (by omega)) dX10_layMinisters_143 ?_
          refine z_nm (P := fun z => z.toInt = (v108.2.2.1 96 z_16.toNatClampNeg).toInt ∧ 0 ≤ z.toInt ∧ z.toInt ≤ 20 ∧ (104 ≤ z_16.toInt → z_16.toInt < 134 → okA z.toInt)) ⟨rfl, (rs_w hj_9 (by decide) 0 20 59 73 2 z_16 z_16.toInt (by decide +kernel) rfl (by omega) (by omega) (by omega))⟩ (fun z_17 hz_17 => ?_)
          refine s_iadd E dX10_layMinisters_144 ?_
          refine z_nm (P := fun z => (-2147483648) ≤ z.toInt ∧ z.toInt ≤ 2147483647) (z32 _) (fun z_18 hz_18 => ?_)
          refine s_iast E rfl (jv_lt hj_9 (by decide)) (z_in (u := z_12.toInt) rfl (by omega) (by omega)) dX10_layMinisters_145 ?_
          refine s_gen (P := fun v => Jv w v ∧ (v.2.2.1 96 6).toInt = (v108.2.2.1 96 6).toInt) ⟨(jv_a_105 hj_9 (by have hb_ := z32 z_18; omega) (by have hb_ := z32 z_18; omega)), rfl⟩ (fun v_19 hj_20 => ?_)
          obtain ⟨hj_20, hk_21k0⟩ := hj_20
          refine z_iinc (u := q108_1_8.toInt) (L2 := fun z_22 => [some (AR 95), some (AI z_22), none]) E dX10_layMinisters_146 rfl rfl (by decide) (fun _ => rfl) (by decide) (by omega) (by omega) (fun z_22 hz_22 => ?_)
          refine s_goto (tgt := 108) E dX10_layMinisters_149 (by decide) ?_
          exact ih108 z_22 v_19 ⟨⟨by have hb_ := z32 z_22; omega, by have hb_ := z32 z_22; omega⟩, hj_20⟩ (by first | omega | decide | (dsimp only; omega) | (dsimp only; decide))
      ·
        refine s_aload_n E dX10_layMinisters_93 rfl rfl ?_
        refine s_gR (r := 105) E fg_X10_43 rfl rfl (jv_lt hj_7 (by decide)) (jv_r hj_7 (by decide +kernel)) dX10_layMinisters_94 ?_
        refine s_iload_n E dX10_layMinisters_97 rfl rfl ?_
        refine s_iconst (v := 0) E dX10_layMinisters_98 (by decide) ?_
        refine s_iast E rfl (jv_lt hj_7 (by decide)) (z_in (u := q87_1_6.toInt) rfl (by omega) (by omega)) dX10_layMinisters_99 ?_
        refine s_gen (P := Jv w) (jv_a_105 hj_7 (by decide) (by decide)) (fun v_23 hj_24 => ?_)
        refine z_iinc (u := q87_1_6.toInt) (L2 := fun z_25 => [some (AR 95), some (AI z_25), none]) E dX10_layMinisters_100 rfl rfl (by decide) (fun _ => rfl) (by decide) (by omega) (by omega) (fun z_25 hz_25 => ?_)
        refine s_goto (tgt := 87) E dX10_layMinisters_103 (by decide) ?_
        exact ih87 z_25 v_23 ⟨⟨by have hb_ := z32 z_25; omega, by have hb_ := z32 z_25; omega⟩, hj_24⟩ (by first | omega | decide | (dsimp only; omega) | (dsimp only; decide))
    ·
      refine s_aload_n E dX10_layMinisters_49 rfl rfl ?_
      refine s_gR (r := 96) E fg_X10_9 rfl rfl (jv_lt hj_4 (by decide)) (jv_r hj_4 (by decide +kernel)) dX10_layMinisters_50 ?_
      refine s_bipush (v := 104) E dX10_layMinisters_53 (by decide) ?_
      refine s_iload_n E dX10_layMinisters_55 rfl rfl ?_
      refine z_iadd (u := 104) (v := q38_1_3.toInt) E dX10_layMinisters_56 (by decide) rfl (by omega) (by omega) (fun z_26 hz_26 => ?_)
      refine s_iald E rfl (jv_lt hj_4 (by decide)) (z_in (u := z_26.toInt) rfl (by omega) (by omega)) dX10_layMinisters_57 ?_
      refine z_nm (P := fun z => z.toInt = (v38.2.2.1 96 z_26.toNatClampNeg).toInt ∧ 0 ≤ z.toInt ∧ z.toInt ≤ 100075 ∧ (104 ≤ z_26.toInt → z_26.toInt < 134 → okA z.toInt)) ⟨rfl, (rs_w hj_4 (by decide) 0 100075 104 133 1 z_26 z_26.toInt (by decide +kernel) rfl (by omega) (by omega) (by omega))⟩ (fun z_27 hz_27 => ?_)
      have hkz_27 := hz_27.2.2.2 (by omega) (by omega)
      unfold okA at hkz_27
      refine s_ldc E k_1504 rfl dX10_layMinisters_58 ?_
      refine z_isub (u := z_27.toInt) (v := 100000) E dX10_layMinisters_60 rfl (by decide) (by omega) (by omega) (fun z_28 hz_28 => ?_)
      refine s_istore_n (L2 := [some (AR 95), some (AI q38_1_3), some (AI z_28)]) E dX10_layMinisters_61 rfl (by decide) rfl ?_
      refine s_iload_n E dX10_layMinisters_62 rfl rfl ?_
      refine z_if_lt (tgt := 79) (u := z_28.toInt) E dX10_layMinisters_63 (by decide) rfl (fun h_29 => ?_) (fun h_29 => ?_)
      ·
        refine z_iinc (u := q38_1_3.toInt) (L2 := fun z_30 => [some (AR 95), some (AI z_30), some (AI z_28)]) E dX10_layMinisters_79 rfl rfl (by decide) (fun _ => rfl) (by decide) (by omega) (by omega) (fun z_30 hz_30 => ?_)
        refine s_goto (tgt := 38) E dX10_layMinisters_82 (by decide) ?_
        refine s_drop (i := 2) (L2 := [some (AR 95), some (AI z_30), none]) rfl ?_
        exact ih38 z_30 v38 ⟨⟨by have hb_ := z32 z_30; omega, by have hb_ := z32 z_30; omega⟩, hj_4⟩ (by first | omega | decide | (dsimp only; omega) | (dsimp only; decide))
      ·
        refine s_aload_n E dX10_layMinisters_66 rfl rfl ?_
        refine s_gR (r := 104) E fg_X10_40 rfl rfl (jv_lt hj_4 (by decide)) (jv_r hj_4 (by decide +kernel)) dX10_layMinisters_67 ?_
        refine s_iload_n E dX10_layMinisters_70 rfl rfl ?_
        refine s_bipush (v := 10) E dX10_layMinisters_71 (by decide) ?_
        refine z_idiv (u := z_28.toInt) (v := 10) E dX10_layMinisters_73 rfl (by decide) (by omega) (by omega) (fun z_31 hz_31 => ?_)
        refine s_iload_n E dX10_layMinisters_74 rfl rfl ?_
        refine s_bipush (v := 10) E dX10_layMinisters_75 (by decide) ?_
        refine z_irem (u := z_28.toInt) (v := 10) E dX10_layMinisters_77 rfl (by decide) (by omega) (by omega) (fun z_32 hz_32 => ?_)
        have hhz_32 : 0 ≤ z_32.toInt ∧ z_32.toInt ≤ 5 := by omega
        refine s_iast E rfl (jv_lt hj_4 (by decide)) (z_in (u := z_31.toInt) rfl (by omega) (by omega)) dX10_layMinisters_78 ?_
        refine s_gen (P := fun v => Jv w v ∧ (v.2.2.1 96 8).toInt = (v38.2.2.1 96 8).toInt) ⟨(jv_a_104 hj_4 (by have hb_ := z32 z_32; omega) (by have hb_ := z32 z_32; omega)), rfl⟩ (fun v_33 hj_34 => ?_)
        obtain ⟨hj_34, hk_35k0⟩ := hj_34
        refine z_iinc (u := q38_1_3.toInt) (L2 := fun z_36 => [some (AR 95), some (AI z_36), some (AI z_28)]) E dX10_layMinisters_79 rfl rfl (by decide) (fun _ => rfl) (by decide) (by omega) (by omega) (fun z_36 hz_36 => ?_)
        refine s_goto (tgt := 38) E dX10_layMinisters_82 (by decide) ?_
        refine s_drop (i := 2) (L2 := [some (AR 95), some (AI z_36), none]) rfl ?_
        exact ih38 z_36 v_33 ⟨⟨by have hb_ := z32 z_36; omega, by have hb_ := z32 z_36; omega⟩, hj_34⟩ (by first | omega | decide | (dsimp only; omega) | (dsimp only; decide))
  ·
    refine s_aload_n E dX10_layMinisters_13 rfl rfl ?_
    refine s_gR (r := 104) E fg_X10_40 rfl rfl (jv_lt hj_1 (by decide)) (jv_r hj_1 (by decide +kernel)) dX10_layMinisters_14 ?_
    refine s_iload_n E dX10_layMinisters_17 rfl rfl ?_
    refine s_aload_n E dX10_layMinisters_18 rfl rfl ?_
    refine s_gR (r := 96) E fg_X10_9 rfl rfl (jv_lt hj_1 (by decide)) (jv_r hj_1 (by decide +kernel)) dX10_layMinisters_19 ?_
    refine s_bipush (v := 58) E dX10_layMinisters_22 (by decide) ?_
    refine s_iconst (v := 2) E dX10_layMinisters_24 (by decide) ?_
    refine s_iload_n E dX10_layMinisters_25 rfl rfl ?_
    refine z_imul (u := 2) (v := q2_1_0.toInt) E dX10_layMinisters_26 (by decide) rfl (by omega) (by omega) (fun z_37 hz_37 => ?_)
    refine z_iadd (u := 58) (v := z_37.toInt) E dX10_layMinisters_27 (by decide) rfl (by omega) (by omega) (fun z_38 hz_38 => ?_)
    refine s_iald E rfl (jv_lt hj_1 (by decide)) (z_in (u := z_38.toInt) rfl (by omega) (by omega)) dX10_layMinisters_28 ?_
    refine z_nm (P := fun z => z.toInt = (v2.2.2.1 96 z_38.toNatClampNeg).toInt ∧ 0 ≤ z.toInt ∧ z.toInt ≤ 5 ∧ (104 ≤ z_38.toInt → z_38.toInt < 134 → okA z.toInt)) ⟨rfl, (rs_w hj_1 (by decide) 0 5 58 72 2 z_38 z_38.toInt (by decide +kernel) rfl (by omega) (by omega) (by omega))⟩ (fun z_39 hz_39 => ?_)
    refine s_iast E rfl (jv_lt hj_1 (by decide)) (z_in (u := q2_1_0.toInt) rfl (by omega) (by omega)) dX10_layMinisters_29 ?_
    refine s_gen (P := fun v => Jv w v ∧ (v.2.2.1 96 6).toInt = (v2.2.2.1 96 6).toInt) ⟨(jv_a_104 hj_1 (by have hb_ := z32 z_39; omega) (by have hb_ := z32 z_39; omega)), rfl⟩ (fun v_40 hj_41 => ?_)
    obtain ⟨hj_41, hk_42k0⟩ := hj_41
    refine z_iinc (u := q2_1_0.toInt) (L2 := fun z_43 => [some (AR 95), some (AI z_43), none]) E dX10_layMinisters_30 rfl rfl (by decide) (fun _ => rfl) (by decide) (by omega) (by omega) (fun z_43 hz_43 => ?_)
    refine s_goto (tgt := 2) E dX10_layMinisters_33 (by decide) ?_
    exact ih2 z_43 v_40 ⟨⟨by have hb_ := z32 z_43; omega, by have hb_ := z32 z_43; omega⟩, hj_41⟩ (by first | omega | decide | (dsimp only; omega) | (dsimp only; decide))
