set_option maxRecDepth 20000 in
set_option maxHeartbeats 2000000 in
theorem Z_X10_feed_95 (l : Launch) (D : va_G) (aC : Nat → ClassId) (b : Nat) (w : XW) (x1 : Int32) (x2 : Int32) (x3 : Int32) (x4 : Int32) (x5 : Int32) (hI : Iv w)  : CnI l D aC b M_X10_feed 0 0 0 0 [AR 95, AI x1, AI x2, AI x3, AI x4, AI x5] w (fun r u => ((-1) ≤ r.toInt ∧ r.toInt ≤ 1000 ∧ (¬ r.toInt = 0 ∨ (0 ≤ (w.2.2.1 95 5).toInt ∧ (w.2.2.1 95 5).toInt ≤ 980))) ∧ Jv w u) := by
  refine cn_I (own := RX10) (nm := "feed") (L0 := [some (AR 95), some (AI x1), some (AI x2), some (AI x3), some (AI x4), some (AI x5), none]) (by decide +kernel) rfl rfl (Nat.le_of_ble_eq_true rfl) rfl ?_
  intro p e s m args below meth c E hin
  have hJ : Jv w w := jv_rfl hI
  have hb_x1 := z32 x1
  have hb_x2 := z32 x2
  have hb_x3 := z32 x3
  have hb_x4 := z32 x4
  have hb_x5 := z32 x5
  refine s_aload_n E dX10_feed_0 rfl rfl ?_
  refine s_gI E fg_X10_90 rfl rfl (jv_lt hJ (by decide)) dX10_feed_1 ?_
  refine z_nm (P := fun z => z.toInt = (w.2.2.1 95 5).toInt ∧ 0 ≤ z.toInt ∧ z.toInt ≤ 1000) ⟨rfl, (rg_95_5 hJ)⟩ (fun z_1 hz_1 => ?_)
  refine s_bipush (v := 20) E dX10_feed_4 (by decide) ?_
  refine z_iadd (u := z_1.toInt) (v := 20) E dX10_feed_6 rfl (by decide) (by omega) (by omega) (fun z_2 hz_2 => ?_)
  refine s_sipush (v := 1000) E dX10_feed_7 (by decide) ?_
  refine z_icmp_le (tgt := 15) (u := z_2.toInt) (v := 1000) E dX10_feed_10 (by decide) rfl (by decide) (fun h_3 => ?_) (fun h_3 => ?_)
  ·
    refine s_aload_n E dX10_feed_15 rfl rfl ?_
    refine s_gR (r := 100) E fg_X10_24 rfl rfl (jv_lt hJ (by decide)) (jv_r hJ (by decide +kernel)) dX10_feed_16 ?_
    refine s_iconst (v := 0) E dX10_feed_19 (by decide) ?_
    refine s_iload_n E dX10_feed_20 rfl rfl ?_
    refine s_iast E rfl (jv_lt hJ (by decide)) (z_in (u := 0) (by decide) (by omega) (by omega)) dX10_feed_21 ?_
    refine s_gen (P := fun v => Jv w v ∧ (v.2.2.1 95 5).toInt = (w.2.2.1 95 5).toInt) ⟨(jv_a_100 hJ (by have hb_ := z32 x1; omega) (by have hb_ := z32 x1; omega)), rfl⟩ (fun v_4 hj_5 => ?_)
    obtain ⟨hj_5, hk_6k0⟩ := hj_5
    refine s_aload_n E dX10_feed_22 rfl rfl ?_
    refine s_gR (r := 100) E fg_X10_24 rfl rfl (jv_lt hj_5 (by decide)) (jv_r hj_5 (by decide +kernel)) dX10_feed_23 ?_
    refine s_iconst (v := 1) E dX10_feed_26 (by decide) ?_
    refine s_iload_n E dX10_feed_27 rfl rfl ?_
    refine s_iast E rfl (jv_lt hj_5 (by decide)) (z_in (u := 1) (by decide) (by omega) (by omega)) dX10_feed_28 ?_
    refine s_gen (P := fun v => Jv w v ∧ (v.2.2.1 95 5).toInt = (v_4.2.2.1 95 5).toInt) ⟨(jv_a_100 hj_5 (by have hb_ := z32 x2; omega) (by have hb_ := z32 x2; omega)), rfl⟩ (fun v_7 hj_8 => ?_)
    obtain ⟨hj_8, hk_9k0⟩ := hj_8
    refine s_aload_n E dX10_feed_29 rfl rfl ?_
    refine s_gR (r := 100) E fg_X10_24 rfl rfl (jv_lt hj_8 (by decide)) (jv_r hj_8 (by decide +kernel)) dX10_feed_30 ?_
    refine s_iconst (v := 2) E dX10_feed_33 (by decide) ?_
    refine s_iload_n E dX10_feed_34 rfl rfl ?_
    refine s_iast E rfl (jv_lt hj_8 (by decide)) (z_in (u := 2) (by decide) (by omega) (by omega)) dX10_feed_35 ?_
    refine s_gen (P := fun v => Jv w v ∧ (v.2.2.1 95 5).toInt = (v_7.2.2.1 95 5).toInt) ⟨(jv_a_100 hj_8 (by have hb_ := z32 x3; omega) (by have hb_ := z32 x3; omega)), rfl⟩ (fun v_10 hj_11 => ?_)
    obtain ⟨hj_11, hk_12k0⟩ := hj_11
    refine s_aload_n E dX10_feed_36 rfl rfl ?_
    refine s_gR (r := 100) E fg_X10_24 rfl rfl (jv_lt hj_11 (by decide)) (jv_r hj_11 (by decide +kernel)) dX10_feed_37 ?_
    refine s_iconst (v := 3) E dX10_feed_40 (by decide) ?_
    refine s_iload E dX10_feed_41 rfl ?_
    refine s_iast E rfl (jv_lt hj_11 (by decide)) (z_in (u := 3) (by decide) (by omega) (by omega)) dX10_feed_43 ?_
    refine s_gen (P := fun v => Jv w v ∧ (v.2.2.1 95 5).toInt = (v_10.2.2.1 95 5).toInt) ⟨(jv_a_100 hj_11 (by have hb_ := z32 x4; omega) (by have hb_ := z32 x4; omega)), rfl⟩ (fun v_13 hj_14 => ?_)
    obtain ⟨hj_14, hk_15k0⟩ := hj_14
    refine s_aload_n E dX10_feed_44 rfl rfl ?_
    refine s_gR (r := 100) E fg_X10_24 rfl rfl (jv_lt hj_14 (by decide)) (jv_r hj_14 (by decide +kernel)) dX10_feed_45 ?_
    refine s_iconst (v := 4) E dX10_feed_48 (by decide) ?_
    refine s_iload E dX10_feed_49 rfl ?_
    refine s_iast E rfl (jv_lt hj_14 (by decide)) (z_in (u := 4) (by decide) (by omega) (by omega)) dX10_feed_51 ?_
    refine s_gen (P := fun v => Jv w v ∧ (v.2.2.1 95 5).toInt = (v_13.2.2.1 95 5).toInt) ⟨(jv_a_100 hj_14 (by have hb_ := z32 x5; omega) (by have hb_ := z32 x5; omega)), rfl⟩ (fun v_16 hj_17 => ?_)
    obtain ⟨hj_17, hk_18k0⟩ := hj_17
    refine s_iconst (v := 0) E dX10_feed_52 (by decide) ?_
    refine s_istore (L2 := [some (AR 95), some (AI x1), some (AI x2), some (AI x3), some (AI x4), some (AI x5), some (AI 0)]) E dX10_feed_53 (by decide) rfl ?_
    refine z_loop (St := Int32) (Pi := fun q55_6_18 v55 => (0 ≤ q55_6_18.toInt ∧ q55_6_18.toInt ≤ 20) ∧ (0 ≤ (v55.2.2.1 95 5).toInt ∧ (v55.2.2.1 95 5).toInt ≤ 980) ∧ Jv w v55) (Lf := fun q55_6_18 => [some (AR 95), some (AI x1), some (AI x2), some (AI x3), some (AI x4), some (AI x5), some (AI q55_6_18)]) (fun q55_6_18 _ => (21 - q55_6_18.toInt).toNat) 0 ⟨⟨by decide, by decide⟩, ⟨by omega, by omega⟩, hj_17⟩ ?_
    rintro q55_6_18 v55 ⟨hq55_6, ha55_0, hj_19⟩ ih55
    refine s_loc (L2 := [some (AR 95), some (AI x1), some (AI x2), some (AI x3), some (AI x4), some (AI x5), some (AI q55_6_18)]) rfl ?_
    refine s_iload E dX10_feed_55 rfl ?_
    refine s_bipush (v := 20) E dX10_feed_57 (by decide) ?_
    refine z_icmp_ge (tgt := 101) (u := q55_6_18.toInt) (v := 20) E dX10_feed_59 (by decide) rfl (by decide) (fun h_20 => ?_) (fun h_20 => ?_)
    ·
      refine s_aload_n E dX10_feed_101 rfl rfl ?_
      refine s_dupR E dX10_feed_102 ?_
      refine s_gI E fg_X10_90 rfl rfl (jv_lt hj_19 (by decide)) dX10_feed_103 ?_
      refine z_nm (P := fun z => z.toInt = (v55.2.2.1 95 5).toInt ∧ 0 ≤ z.toInt ∧ z.toInt ≤ 1000) ⟨rfl, (rg_95_5 hj_19)⟩ (fun z_21 hz_21 => ?_)
      refine s_bipush (v := 20) E dX10_feed_106 (by decide) ?_
      refine z_iadd (u := z_21.toInt) (v := 20) E dX10_feed_108 rfl (by decide) (by omega) (by omega) (fun z_22 hz_22 => ?_)
      refine s_pI E fp_X10_90 (Or.inl rfl) rfl (jv_lt hj_19 (by decide)) dX10_feed_109 ?_
      refine s_gen (P := Jv w) (jv_f_95_5 hj_19 (by have hb_ := z32 z_22; omega) (by have hb_ := z32 z_22; omega)) (fun v_23 hj_24 => ?_)
      refine s_aload_n E dX10_feed_112 rfl rfl ?_
      refine s_gI E fg_X10_90 rfl rfl (jv_lt hj_24 (by decide)) dX10_feed_113 ?_
      refine z_nm (P := fun z => z.toInt = (v_23.2.2.1 95 5).toInt ∧ 0 ≤ z.toInt ∧ z.toInt ≤ 1000) ⟨rfl, (rg_95_5 hj_24)⟩ (fun z_25 hz_25 => ?_)
      exact r_int E dX10_feed_116 ⟨⟨by have hb_ := z32 z_25; omega, by have hb_ := z32 z_25; omega, by first | (right; decide) | (have hb_ := z32 z_25; omega) | (have hb_ := z32 z_25; have hc_ := z32 (w.2.2.1 95 5); omega)⟩, hj_24⟩
    ·
      refine s_aload_n E dX10_feed_62 rfl rfl ?_
      refine s_gR (r := 99) E fg_X10_20 rfl rfl (jv_lt hj_19 (by decide)) (jv_r hj_19 (by decide +kernel)) dX10_feed_63 ?_
      refine s_aload_n E dX10_feed_66 rfl rfl ?_
      refine s_gI E fg_X10_90 rfl rfl (jv_lt hj_19 (by decide)) dX10_feed_67 ?_
      refine z_nm (P := fun z => z.toInt = (v55.2.2.1 95 5).toInt ∧ 0 ≤ z.toInt ∧ z.toInt ≤ 1000) ⟨rfl, (rg_95_5 hj_19)⟩ (fun z_26 hz_26 => ?_)
      refine s_iload E dX10_feed_70 rfl ?_
      refine z_iadd (u := z_26.toInt) (v := q55_6_18.toInt) E dX10_feed_72 rfl rfl (by omega) (by omega) (fun z_27 hz_27 => ?_)
      refine s_aload_n E dX10_feed_73 rfl rfl ?_
      refine s_gR (r := 100) E fg_X10_24 rfl rfl (jv_lt hj_19 (by decide)) (jv_r hj_19 (by decide +kernel)) dX10_feed_74 ?_
      refine s_iload E dX10_feed_77 rfl ?_
      refine s_iconst (v := 4) E dX10_feed_79 (by decide) ?_
      refine z_idiv (u := q55_6_18.toInt) (v := 4) E dX10_feed_80 rfl (by decide) (by omega) (by omega) (fun z_28 hz_28 => ?_)
      refine s_iald E rfl (jv_lt hj_19 (by decide)) (z_in (u := z_28.toInt) rfl (by omega) (by omega)) dX10_feed_81 ?_
      refine z_nm (P := fun z => (-2147483648) ≤ z.toInt ∧ z.toInt ≤ 2147483647) (z32 _) (fun z_29 hz_29 => ?_)
      refine s_bipush (v := 24) E dX10_feed_82 (by decide) ?_
      refine s_bipush (v := 8) E dX10_feed_84 (by decide) ?_
      refine s_iload E dX10_feed_86 rfl ?_
      refine s_iconst (v := 4) E dX10_feed_88 (by decide) ?_
      refine z_irem (u := q55_6_18.toInt) (v := 4) E dX10_feed_89 rfl (by decide) (by omega) (by omega) (fun z_30 hz_30 => ?_)
      refine z_imul (u := 8) (v := z_30.toInt) E dX10_feed_90 (by decide) rfl (by omega) (by omega) (fun z_31 hz_31 => ?_)
      refine z_isub (u := 24) (v := z_31.toInt) E dX10_feed_91 (by decide) rfl (by omega) (by omega) (fun z_32 hz_32 => ?_)
      refine s_ishr E dX10_feed_92 ?_
      refine z_nm (P := fun z => (-2147483648) ≤ z.toInt ∧ z.toInt ≤ 2147483647) (z32 _) (fun z_33 hz_33 => ?_)
      refine s_i2b E dX10_feed_93 ?_
      refine z_nm (P := fun z => (-2147483648) ≤ z.toInt ∧ z.toInt ≤ 2147483647) (z32 _) (fun z_34 hz_34 => ?_)
      refine s_bast E rfl (jv_lt hj_19 (by decide)) (z_in (u := z_27.toInt) rfl (by omega) (by omega)) dX10_feed_94 ?_
      refine s_gen (P := fun v => Jv w v ∧ (v.2.2.1 95 5).toInt = (v55.2.2.1 95 5).toInt) ⟨(jv_b_99 hj_19), rfl⟩ (fun v_35 hj_36 => ?_)
      obtain ⟨hj_36, hk_37k0⟩ := hj_36
      refine z_iinc (u := q55_6_18.toInt) (L2 := fun z_38 => [some (AR 95), some (AI x1), some (AI x2), some (AI x3), some (AI x4), some (AI x5), some (AI z_38)]) E dX10_feed_95 rfl rfl (by decide) (fun _ => rfl) (by decide) (by omega) (by omega) (fun z_38 hz_38 => ?_)
      refine s_goto (tgt := 55) E dX10_feed_98 (by decide) ?_
      exact ih55 z_38 v_35 ⟨⟨by have hb_ := z32 z_38; omega, by have hb_ := z32 z_38; omega⟩, ⟨by omega, by omega⟩, hj_36⟩ (by first | omega | decide | (dsimp only; omega) | (dsimp only; decide))
  ·
    refine s_iconst (v := (-1)) E dX10_feed_13 (by decide) ?_
    exact r_int E dX10_feed_14 ⟨⟨by decide, by decide, by first | (left; decide) | (right; decide) | (right; have hb_ := z32 (w.2.2.1 95 5); omega)⟩, hJ⟩
set_option maxRecDepth 20000 in
set_option maxHeartbeats 2000000 in
theorem Z_X10_end_95 (l : Launch) (D : va_G) (aC : Nat → ClassId) (b : Nat) (w : XW) (x1 : Int32) (hI : Iv w)  : CnI l D aC b M_X10_end 1 25 0 0 [AR 95, AI x1] w (fun r u => ((-1) ≤ r.toInt ∧ r.toInt ≤ 1000 ∧ (¬ r.toInt = 0 ∨ (0 ≤ x1.toInt ∧ x1.toInt ≤ 1000))) ∧ Jv w u) := by
  refine cn_I (own := RX10) (nm := "end") (L0 := [some (AR 95), some (AI x1)]) (by decide +kernel) rfl rfl (Nat.le_of_ble_eq_true rfl) rfl ?_
  intro p e s m args below meth c E hin
  have hJ : Jv w w := jv_rfl hI
  have hb_x1 := z32 x1
  refine s_iload_n E dX10_end_0 rfl rfl ?_
  refine z_i2l (u := x1.toInt) E dX10_end_1 rfl (fun z_1 hz_1 => ?_)
  refine s_lconst (v := 0) E dX10_end_2 (by decide) ?_
  refine s_aload_n E dX10_end_3 rfl rfl ?_
  refine s_gI E fg_X10_90 rfl rfl (jv_lt hJ (by decide)) dX10_end_4 ?_
  refine z_nm (P := fun z => z.toInt = (w.2.2.1 95 5).toInt ∧ 0 ≤ z.toInt ∧ z.toInt ≤ 1000) ⟨rfl, (rg_95_5 hJ)⟩ (fun z_2 hz_2 => ?_)
  refine z_i2l (u := z_2.toInt) E dX10_end_7 rfl (fun z_3 hz_3 => ?_)
  refine s_sI (As := [AL z_1, AL 0, AL z_3]) (S := []) E (Z_X10_in l D aC b w z_1 0 z_3) cs_X10_82 rfl rfl (Nat.le_of_ble_eq_true rfl) (Nat.le_of_ble_eq_true rfl) ⟨(Nat.le_of_ble_eq_true rfl), (Nat.le_of_ble_eq_true rfl)⟩ (Nat.le_of_ble_eq_true rfl) dX10_end_8 (fun z_4 u_5 hp_6 => ?_)
  obtain ⟨hz_4, hp_6⟩ := hp_6
  subst hp_6
  have hcL_ : (0 : Int64).toInt = 0 := (by decide)
  refine z_if_ne (tgt := 16) (u := z_4.toInt) E dX10_end_11 (by decide) rfl (fun h_7 => ?_) (fun h_7 => ?_)
  ·
    refine s_aload_n E dX10_end_16 rfl rfl ?_
    refine s_iload_n E dX10_end_17 rfl rfl ?_
    refine s_pI E fp_X10_90 (Or.inl rfl) rfl (jv_lt hJ (by decide)) dX10_end_18 ?_
    refine s_gen (P := Jv w) (jv_f_95_5 hJ (by have hb_ := z32 x1; omega) (by have hb_ := z32 x1; omega)) (fun v_8 hj_9 => ?_)
    refine s_iload_n E dX10_end_21 rfl rfl ?_
    exact r_int E dX10_end_22 ⟨⟨by have hb_ := z32 x1; omega, by have hb_ := z32 x1; omega, by first | (right; decide) | (have hb_ := z32 x1; omega) | (have hb_ := z32 x1; have hc_ := z32 x1; omega)⟩, hj_9⟩
  ·
    refine s_iconst (v := (-1)) E dX10_end_14 (by decide) ?_
    exact r_int E dX10_end_15 ⟨⟨by decide, by decide, by first | (left; decide) | (right; decide) | (right; have hb_ := z32 x1; omega)⟩, hJ⟩
set_option maxRecDepth 20000 in
set_option maxHeartbeats 2000000 in
theorem Z_X10_see_95 (l : Launch) (D : va_G) (aC : Nat → ClassId) (b : Nat) (w : XW) (x1 : Int32) (hI : Iv w) (hx1 : 0 ≤ x1.toInt ∧ x1.toInt ≤ 1000) : CnI l D aC b M_X10_see 0 0 0 0 [AR 95, AI x1] w (fun r u => ((-1) ≤ r.toInt ∧ r.toInt ≤ 255 ∧ (¬ r.toInt = 0 ∨ (0 ≤ x1.toInt ∧ x1.toInt ≤ 999)) ∧ (¬ r.toInt = 0 ∨ (1 ≤ (w.2.2.1 95 7).toInt ∧ (w.2.2.1 95 7).toInt ≤ 1000))) ∧ (r.toInt = seeV (w.2.2.1 99) (w.2.2.1 95 7).toInt x1.toInt ∧ (r.toInt < 0 ∨ x1.toInt < (w.2.2.1 95 7).toInt)) ∧ w = u) := by
  refine cn_I (own := RX10) (nm := "see") (L0 := [some (AR 95), some (AI x1)]) (by decide +kernel) rfl rfl (Nat.le_of_ble_eq_true rfl) rfl ?_
  intro p e s m args below meth c E hin
  have hJ : Jv w w := jv_rfl hI
  refine s_iload_n E dX10_see_0 rfl rfl ?_
  refine s_aload_n E dX10_see_1 rfl rfl ?_
  refine s_gI E fg_X10_93 rfl rfl (jv_lt hJ (by decide)) dX10_see_2 ?_
  refine z_nm (P := fun z => z.toInt = (w.2.2.1 95 7).toInt ∧ 0 ≤ z.toInt ∧ z.toInt ≤ 1000) ⟨rfl, (rg_95_7 hJ)⟩ (fun z_1 hz_1 => ?_)
  refine z_icmp_ge (tgt := 21) (u := x1.toInt) (v := z_1.toInt) E dX10_see_5 (by decide) rfl rfl (fun h_2 => ?_) (fun h_2 => ?_)
  ·
    refine s_iconst (v := (-1)) E dX10_see_21 (by decide) ?_
    exact r_int E dX10_see_22 ⟨⟨by decide, by decide, by first | (left; decide) | (right; decide) | (right; have hb_ := z32 x1; omega), by first | (left; decide) | (right; decide) | (right; have hb_ := z32 (w.2.2.1 95 7); omega)⟩, (by have hrc_ : ((-1) : Int32).toInt = (-1) := (by decide); (first | exact ⟨see_no (by omega) (by decide), Or.inl (by decide)⟩ | exact ⟨see_yes (by omega) (by assumption) (by assumption), by omega⟩)), rfl⟩
  ·
    refine s_aload_n E dX10_see_8 rfl rfl ?_
    refine s_gR (r := 99) E fg_X10_20 rfl rfl (jv_lt hJ (by decide)) (jv_r hJ (by decide +kernel)) dX10_see_9 ?_
    refine s_iload_n E dX10_see_12 rfl rfl ?_
    refine s_bald E rfl (jv_lt hJ (by decide)) (z_in (u := x1.toInt) rfl (by omega) (by omega)) dX10_see_13 ?_
    refine z_nm (P := fun z => z = w.2.2.1 99 x1.toNatClampNeg ∧ (-128) ≤ z.toInt ∧ z.toInt ≤ 127) ⟨rfl, (ra_99 hJ _)⟩ (fun z_3 hz_3 => ?_)
    refine s_sipush (v := 255) E dX10_see_14 (by decide) ?_
    refine s_iand E dX10_see_17 ?_
    refine z_nm (P := fun z => z = z_3 &&& 255 ∧ 0 ≤ z.toInt ∧ z.toInt ≤ 255) ⟨rfl, y_and (by decide) (by decide)⟩ (fun z_4 hz_4 => ?_)
    refine s_goto (tgt := 22) E dX10_see_18 (by decide) ?_
    exact r_int E dX10_see_22 ⟨⟨by have hb_ := z32 z_4; omega, by have hb_ := z32 z_4; omega, by first | (right; decide) | (have hb_ := z32 z_4; omega) | (have hb_ := z32 z_4; have hc_ := z32 x1; omega), by first | (right; decide) | (have hb_ := z32 z_4; omega) | (have hb_ := z32 z_4; have hc_ := z32 (w.2.2.1 95 7); omega)⟩, (by first | exact ⟨see_no (by omega) (by decide), Or.inl (by decide)⟩ | exact ⟨see_yes (by omega) (by assumption) (by assumption), by omega⟩), rfl⟩
