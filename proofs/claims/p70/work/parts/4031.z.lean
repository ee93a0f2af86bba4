set_option maxRecDepth 20000 in
set_option maxHeartbeats 2000000 in
theorem Z_X10_hang_95 (l : Launch) (D : va_G) (aC : Nat → ClassId) (b : Nat) (w : XW) (x1 : Int32) (x2 : Int32) (hI : Iv w)  : CnI l D aC b M_X10_hang 2 46 0 0 [AR 95, AI x1, AI x2] w (fun r u => ((-5) ≤ r.toInt ∧ r.toInt ≤ 9 ∧ (¬ r.toInt = 0 ∨ (0 ≤ x1.toInt ∧ x1.toInt ≤ 11)) ∧ (¬ r.toInt = 0 ∨ (1 ≤ x2.toInt ∧ x2.toInt ≤ 9)) ∧ (¬ r.toInt = 0 ∨ (0 ≤ (w.2.2.1 96 4).toInt ∧ (w.2.2.1 96 4).toInt ≤ 12)) ∧ (¬ r.toInt = 0 ∨ (0 ≤ (w.2.2.1 96 8).toInt ∧ (w.2.2.1 96 8).toInt ≤ 0)) ∧ (r.toInt = 0 ∨ (0 ≤ (w.2.2.1 96 4).toInt ∧ (w.2.2.1 96 4).toInt ≤ 12))) ∧ Jv w u) := by
  refine cn_I (own := RX10) (nm := "hang") (L0 := [some (AR 95), some (AI x1), some (AI x2), none]) (by decide +kernel) rfl rfl (Nat.le_of_ble_eq_true rfl) rfl ?_
  intro p e s m args below meth c E hin
  have hJ : Jv w w := jv_rfl hI
  have hb_x1 := z32 x1
  have hb_x2 := z32 x2
  refine s_aload_n E dX10_hang_0 rfl rfl ?_
  refine s_iload_n E dX10_hang_1 rfl rfl ?_
  refine s_vI (As := [AI x1]) (S := []) E (Z_X10_isDoor_95 l D aC b w x1 hJ.1 ) cv_X10_218 rfl rfl rfl (jv_lt hJ (by decide)) (Nat.le_of_ble_eq_true rfl) (Nat.le_of_ble_eq_true rfl) ⟨(Nat.le_of_ble_eq_true rfl), (Nat.le_of_ble_eq_true rfl)⟩ (Nat.le_of_ble_eq_true rfl) dX10_hang_2 (fun z_3 u_1 hp_2 => ?_)
  obtain ⟨hz_3, hp_2⟩ := hp_2
  subst hp_2
  refine z_if_eq (tgt := 20) (u := z_3.toInt) E dX10_hang_5 (by decide) rfl (fun h_5 => ?_) (fun h_5 => ?_)
  ·
    refine s_bipush (v := (-2)) E dX10_hang_20 (by decide) ?_
    exact r_int E dX10_hang_22 ⟨⟨by decide, by decide, by first | (left; decide) | (right; decide) | (right; have hb_ := z32 x1; omega), by first | (left; decide) | (right; decide) | (right; have hb_ := z32 x2; omega), by first | (left; decide) | (right; decide) | (right; have hb_ := z32 (w.2.2.1 96 4); omega), by first | (left; decide) | (right; decide) | (right; have hb_ := z32 (w.2.2.1 96 8); omega), by first | (left; decide) | (right; decide) | (right; have hb_ := z32 (w.2.2.1 96 4); omega)⟩, hJ⟩
  ·
    refine s_iload_n E dX10_hang_8 rfl rfl ?_
    refine z_i2l (u := x2.toInt) E dX10_hang_9 rfl (fun z_6 hz_6 => ?_)
    refine s_lconst (v := 1) E dX10_hang_10 (by decide) ?_
    refine s_ldc2 E k_1975 rfl dX10_hang_11 ?_
    refine s_sI (As := [AL z_6, AL 1, AL 9]) (S := []) E (Z_X10_in l D aC b w z_6 1 9) cs_X10_82 rfl rfl (Nat.le_of_ble_eq_true rfl) (Nat.le_of_ble_eq_true rfl) ⟨(Nat.le_of_ble_eq_true rfl), (Nat.le_of_ble_eq_true rfl)⟩ (Nat.le_of_ble_eq_true rfl) dX10_hang_14 (fun z_7 u_8 hp_9 => ?_)
    obtain ⟨hz_7, hp_9⟩ := hp_9
    subst hp_9
    have hcL_ : (1 : Int64).toInt = 1 := (by decide)
    have hcL_ : (9 : Int64).toInt = 9 := (by decide)
    refine z_if_ne (tgt := 23) (u := z_7.toInt) E dX10_hang_17 (by decide) rfl (fun h_10 => ?_) (fun h_10 => ?_)
    ·
      refine s_aload_n E dX10_hang_23 rfl rfl ?_
      refine s_gR (r := 96) E fg_X10_9 rfl rfl (jv_lt hJ (by decide)) (jv_r hJ (by decide +kernel)) dX10_hang_24 ?_
      refine s_bipush (v := 8) E dX10_hang_27 (by decide) ?_
      refine s_iald E rfl (jv_lt hJ (by decide)) (z_in (u := 8) (by decide) (by omega) (by omega)) dX10_hang_29 ?_
      refine z_nm (P := fun z => z.toInt = (w.2.2.1 96 8).toInt ∧ 0 ≤ z.toInt ∧ z.toInt ≤ 30) ⟨rfl, (rw_96_8 hJ)⟩ (fun z_11 hz_11 => ?_)
      refine z_if_le (tgt := 36) (u := z_11.toInt) E dX10_hang_30 (by decide) rfl (fun h_12 => ?_) (fun h_12 => ?_)
      ·
        refine s_aload_n E dX10_hang_36 rfl rfl ?_
        refine s_gR (r := 96) E fg_X10_9 rfl rfl (jv_lt hJ (by decide)) (jv_r hJ (by decide +kernel)) dX10_hang_37 ?_
        refine s_bipush (v := 10) E dX10_hang_40 (by decide) ?_
        refine s_iconst (v := 3) E dX10_hang_42 (by decide) ?_
        refine s_iload_n E dX10_hang_43 rfl rfl ?_
        refine z_imul (u := 3) (v := x1.toInt) E dX10_hang_44 (by decide) rfl (by omega) (by omega) (fun z_13 hz_13 => ?_)
        refine z_iadd (u := 10) (v := z_13.toInt) E dX10_hang_45 (by decide) rfl (by omega) (by omega) (fun z_14 hz_14 => ?_)
        refine s_iconst (v := 2) E dX10_hang_46 (by decide) ?_
        refine z_iadd (u := z_14.toInt) (v := 2) E dX10_hang_47 rfl (by decide) (by omega) (by omega) (fun z_15 hz_15 => ?_)
        refine s_iald E rfl (jv_lt hJ (by decide)) (z_in (u := z_15.toInt) rfl (by omega) (by omega)) dX10_hang_48 ?_
        refine z_nm (P := fun z => z.toInt = (w.2.2.1 96 z_15.toNatClampNeg).toInt ∧ 0 ≤ z.toInt ∧ z.toInt ≤ 9) ⟨rfl, (rs_v hJ (by decide) 0 9 12 45 3 z_15 z_15.toInt (by decide +kernel) rfl (by omega) (by omega) (by omega))⟩ (fun z_16 hz_16 => ?_)
        refine s_istore_n (L2 := [some (AR 95), some (AI x1), some (AI x2), some (AI z_16)]) E dX10_hang_49 rfl (by decide) rfl ?_
        refine s_aload_n E dX10_hang_50 rfl rfl ?_
        refine s_gR (r := 96) E fg_X10_9 rfl rfl (jv_lt hJ (by decide)) (jv_r hJ (by decide +kernel)) dX10_hang_51 ?_
        refine s_bipush (v := 10) E dX10_hang_54 (by decide) ?_
        refine s_iconst (v := 3) E dX10_hang_56 (by decide) ?_
        refine s_iload_n E dX10_hang_57 rfl rfl ?_
        refine z_imul (u := 3) (v := x1.toInt) E dX10_hang_58 (by decide) rfl (by omega) (by omega) (fun z_17 hz_17 => ?_)
        refine z_iadd (u := 10) (v := z_17.toInt) E dX10_hang_59 (by decide) rfl (by omega) (by omega) (fun z_18 hz_18 => ?_)
        refine s_iconst (v := 2) E dX10_hang_60 (by decide) ?_
        refine z_iadd (u := z_18.toInt) (v := 2) E dX10_hang_61 rfl (by decide) (by omega) (by omega) (fun z_19 hz_19 => ?_)
        refine s_iload_n E dX10_hang_62 rfl rfl ?_
        refine s_iast E rfl (jv_lt hJ (by decide)) (z_in (u := z_19.toInt) rfl (by omega) (by omega)) dX10_hang_63 ?_
        refine s_gen (P := fun v => Jv w v ∧ (v.2.2.1 96 8).toInt = (w.2.2.1 96 8).toInt) ⟨(jv_a_96 (i := z_19) (x := x2) hJ 0 9 12 45 3 z_19.toInt (by decide +kernel) (by decide) rfl (by omega) (by omega) (by omega) (by have hb_ := z32 x2; omega) (by have hb_ := z32 x2; omega) (fun h0_ => by unfold okA; omega)), (keep_ne (u := z_19.toInt) rfl (by omega) (by omega))⟩ (fun v_20 hj_21 => ?_)
        obtain ⟨hj_21, hk_22k0⟩ := hj_21
        refine s_iload_n E dX10_hang_64 rfl rfl ?_
        exact r_int E dX10_hang_65 ⟨⟨by have hb_ := z32 z_16; omega, by have hb_ := z32 z_16; omega, by first | (right; decide) | (have hb_ := z32 z_16; omega) | (have hb_ := z32 z_16; have hc_ := z32 x1; omega), by first | (right; decide) | (have hb_ := z32 z_16; omega) | (have hb_ := z32 z_16; have hc_ := z32 x2; omega), by first | (right; decide) | (have hb_ := z32 z_16; omega) | (have hb_ := z32 z_16; have hc_ := z32 (w.2.2.1 96 4); omega), by first | (right; decide) | (have hb_ := z32 z_16; omega) | (have hb_ := z32 z_16; have hc_ := z32 (w.2.2.1 96 8); omega), by first | (right; decide) | (have hb_ := z32 z_16; omega) | (have hb_ := z32 z_16; have hc_ := z32 (w.2.2.1 96 4); omega)⟩, hj_21⟩
      ·
        refine s_bipush (v := (-5)) E dX10_hang_33 (by decide) ?_
        exact r_int E dX10_hang_35 ⟨⟨by decide, by decide, by first | (left; decide) | (right; decide) | (right; have hb_ := z32 x1; omega), by first | (left; decide) | (right; decide) | (right; have hb_ := z32 x2; omega), by first | (left; decide) | (right; decide) | (right; have hb_ := z32 (w.2.2.1 96 4); omega), by first | (left; decide) | (right; decide) | (right; have hb_ := z32 (w.2.2.1 96 8); omega), by first | (left; decide) | (right; decide) | (right; have hb_ := z32 (w.2.2.1 96 4); omega)⟩, hJ⟩
    ·
      refine s_bipush (v := (-2)) E dX10_hang_20 (by decide) ?_
      exact r_int E dX10_hang_22 ⟨⟨by decide, by decide, by first | (left; decide) | (right; decide) | (right; have hb_ := z32 x1; omega), by first | (left; decide) | (right; decide) | (right; have hb_ := z32 x2; omega), by first | (left; decide) | (right; decide) | (right; have hb_ := z32 (w.2.2.1 96 4); omega), by first | (left; decide) | (right; decide) | (right; have hb_ := z32 (w.2.2.1 96 8); omega), by first | (left; decide) | (right; decide) | (right; have hb_ := z32 (w.2.2.1 96 4); omega)⟩, hJ⟩
set_option maxRecDepth 20000 in
set_option maxHeartbeats 2000000 in
theorem Z_X10_count_95 (l : Launch) (D : va_G) (aC : Nat → ClassId) (b : Nat) (w : XW) (x1 : Int32) (hI : Iv w)  : CnI l D aC b M_X10_count 1 25 0 0 [AR 95, AI x1] w (fun r u => ((-2147483648) ≤ r.toInt ∧ r.toInt ≤ 2147483647 ∧ (¬ r.toInt = 0 ∨ (0 ≤ x1.toInt ∧ x1.toInt ≤ 11))) ∧ w = u) := by
  refine cn_I (own := RX10) (nm := "count") (L0 := [some (AR 95), some (AI x1), none, none]) (by decide +kernel) rfl rfl (Nat.le_of_ble_eq_true rfl) rfl ?_
  intro p e s m args below meth c E hin
  have hJ : Jv w w := jv_rfl hI
  have hb_x1 := z32 x1
  refine s_iload_n E dX10_count_0 rfl rfl ?_
  refine z_i2l (u := x1.toInt) E dX10_count_1 rfl (fun z_1 hz_1 => ?_)
  refine s_lconst (v := 0) E dX10_count_2 (by decide) ?_
  refine s_ldc2 E k_1975 rfl dX10_count_3 ?_
  refine s_sI (As := [AL z_1, AL 0, AL 9]) (S := []) E (Z_X10_in l D aC b w z_1 0 9) cs_X10_82 rfl rfl (Nat.le_of_ble_eq_true rfl) (Nat.le_of_ble_eq_true rfl) ⟨(Nat.le_of_ble_eq_true rfl), (Nat.le_of_ble_eq_true rfl)⟩ (Nat.le_of_ble_eq_true rfl) dX10_count_6 (fun z_2 u_3 hp_4 => ?_)
  obtain ⟨hz_2, hp_4⟩ := hp_4
  subst hp_4
  have hcL_ : (0 : Int64).toInt = 0 := (by decide)
  have hcL_ : (9 : Int64).toInt = 9 := (by decide)
  refine z_if_eq (tgt := 19) (u := z_2.toInt) E dX10_count_9 (by decide) rfl (fun h_5 => ?_) (fun h_5 => ?_)
  ·
    refine s_iload_n E dX10_count_19 rfl rfl ?_
    refine s_bipush (v := 10) E dX10_count_20 (by decide) ?_
    refine z_icmp_ne (tgt := 30) (u := x1.toInt) (v := 10) E dX10_count_22 (by decide) rfl (by decide) (fun h_6 => ?_) (fun h_6 => ?_)
    ·
      refine s_iload_n E dX10_count_30 rfl rfl ?_
      refine s_bipush (v := 11) E dX10_count_31 (by decide) ?_
      refine z_icmp_eq (tgt := 38) (u := x1.toInt) (v := 11) E dX10_count_33 (by decide) rfl (by decide) (fun h_7 => ?_) (fun h_7 => ?_)
      ·
        refine s_iconst (v := 0) E dX10_count_38 (by decide) ?_
        refine s_istore_n (L2 := [some (AR 95), some (AI x1), some (AI 0), none]) E dX10_count_39 rfl (by decide) rfl ?_
        refine s_iconst (v := 0) E dX10_count_40 (by decide) ?_
        refine s_istore_n (L2 := [some (AR 95), some (AI x1), some (AI 0), some (AI 0)]) E dX10_count_41 rfl (by decide) rfl ?_
        refine z_loop (St := Int32 × Int32) (Pi := fun ⟨q42_2_7, q42_3_7⟩ v42 => (0 ≤ q42_3_7.toInt ∧ q42_3_7.toInt ≤ 4) ∧ w = v42) (Lf := fun ⟨q42_2_7, q42_3_7⟩ => [some (AR 95), some (AI x1), some (AI q42_2_7), some (AI q42_3_7)]) (fun ⟨q42_2_7, q42_3_7⟩ _ => (5 - q42_3_7.toInt).toNat) ⟨0, 0⟩ ⟨⟨by decide, by decide⟩, rfl⟩ ?_
        rintro ⟨q42_2_7, q42_3_7⟩ v42 ⟨hq42_3, hv_⟩ ih42
        subst hv_
        have hbq42_2 := z32 q42_2_7
        refine s_loc (L2 := [some (AR 95), some (AI x1), some (AI q42_2_7), some (AI q42_3_7)]) rfl ?_
        refine s_iload_n E dX10_count_42 rfl rfl ?_
        refine s_iconst (v := 4) E dX10_count_43 (by decide) ?_
        refine z_icmp_ge (tgt := 71) (u := q42_3_7.toInt) (v := 4) E dX10_count_44 (by decide) rfl (by decide) (fun h_9 => ?_) (fun h_9 => ?_)
        ·
          refine s_iload_n E dX10_count_71 rfl rfl ?_
          exact r_int E dX10_count_72 ⟨⟨by have hb_ := z32 q42_2_7; omega, by have hb_ := z32 q42_2_7; omega, by first | (right; decide) | (have hb_ := z32 q42_2_7; omega) | (have hb_ := z32 q42_2_7; have hc_ := z32 x1; omega)⟩, rfl⟩
        ·
          refine s_iload_n E dX10_count_47 rfl rfl ?_
          refine s_aload_n E dX10_count_48 rfl rfl ?_
          refine s_gR (r := 112) E fg_X10_64 rfl rfl (jv_lt hJ (by decide)) (jv_r hJ (by decide +kernel)) dX10_count_49 ?_
          refine s_iload_n E dX10_count_52 rfl rfl ?_
          refine s_iald E rfl (jv_lt hJ (by decide)) (z_in (u := q42_3_7.toInt) rfl (by omega) (by omega)) dX10_count_53 ?_
          refine z_nm (P := fun z => z.toInt = (w.2.2.1 112 q42_3_7.toNatClampNeg).toInt ∧ (-1) ≤ z.toInt ∧ z.toInt ≤ 60) ⟨(jv_k hJ (by decide) _), (ra_112 hJ _)⟩ (fun z_10 hz_10 => ?_)
          refine s_iconst (v := (-1)) E dX10_count_54 (by decide) ?_
          refine z_icmp_ne (tgt := 62) (u := z_10.toInt) (v := (-1)) E dX10_count_55 (by decide) rfl (by decide) (fun h_11 => ?_) (fun h_11 => ?_)
          ·
            refine s_iconst (v := 1) E dX10_count_62 (by decide) ?_
            refine s_iadd E dX10_count_63 ?_
            refine z_nm (P := fun z => (-2147483648) ≤ z.toInt ∧ z.toInt ≤ 2147483647) (z32 _) (fun z_12 hz_12 => ?_)
            refine s_istore_n (L2 := [some (AR 95), some (AI x1), some (AI z_12), some (AI q42_3_7)]) E dX10_count_64 rfl (by decide) rfl ?_
            refine z_iinc (u := q42_3_7.toInt) (L2 := fun z_13 => [some (AR 95), some (AI x1), some (AI z_12), some (AI z_13)]) E dX10_count_65 rfl rfl (by decide) (fun _ => rfl) (by decide) (by omega) (by omega) (fun z_13 hz_13 => ?_)
            refine s_goto (tgt := 42) E dX10_count_68 (by decide) ?_
            exact ih42 ⟨z_12, z_13⟩ w ⟨⟨by have hb_ := z32 z_13; omega, by have hb_ := z32 z_13; omega⟩, rfl⟩ (by first | omega | decide | (dsimp only; omega) | (dsimp only; decide))
          ·
            refine s_iconst (v := 0) E dX10_count_58 (by decide) ?_
            refine s_goto (tgt := 63) E dX10_count_59 (by decide) ?_
            refine z_iadd (u := q42_2_7.toInt) (v := 0) E dX10_count_63 rfl (by decide) (by omega) (by omega) (fun z_14 hz_14 => ?_)
            refine s_istore_n (L2 := [some (AR 95), some (AI x1), some (AI z_14), some (AI q42_3_7)]) E dX10_count_64 rfl (by decide) rfl ?_
            refine z_iinc (u := q42_3_7.toInt) (L2 := fun z_15 => [some (AR 95), some (AI x1), some (AI z_14), some (AI z_15)]) E dX10_count_65 rfl rfl (by decide) (fun _ => rfl) (by decide) (by omega) (by omega) (fun z_15 hz_15 => ?_)
            refine s_goto (tgt := 42) E dX10_count_68 (by decide) ?_
            exact ih42 ⟨z_14, z_15⟩ w ⟨⟨by have hb_ := z32 z_15; omega, by have hb_ := z32 z_15; omega⟩, rfl⟩ (by first | omega | decide | (dsimp only; omega) | (dsimp only; decide))
      ·
        refine s_iconst (v := (-1)) E dX10_count_36 (by decide) ?_
        exact r_int E dX10_count_37 ⟨⟨by decide, by decide, by first | (left; decide) | (right; decide) | (right; have hb_ := z32 x1; omega)⟩, rfl⟩
    ·
      refine s_aload_n E dX10_count_25 rfl rfl ?_
      refine s_gI E fg_X10_90 rfl rfl (jv_lt hJ (by decide)) dX10_count_26 ?_
      refine z_nm (P := fun z => z.toInt = (w.2.2.1 95 5).toInt ∧ 0 ≤ z.toInt ∧ z.toInt ≤ 1000) ⟨rfl, (rg_95_5 hJ)⟩ (fun z_16 hz_16 => ?_)
      exact r_int E dX10_count_29 ⟨⟨by have hb_ := z32 z_16; omega, by have hb_ := z32 z_16; omega, by first | (right; decide) | (have hb_ := z32 z_16; omega) | (have hb_ := z32 z_16; have hc_ := z32 x1; omega)⟩, rfl⟩
  ·
    refine s_aload_n E dX10_count_12 rfl rfl ?_
    refine s_gR (r := 96) E fg_X10_9 rfl rfl (jv_lt hJ (by decide)) (jv_r hJ (by decide +kernel)) dX10_count_13 ?_
    refine s_iload_n E dX10_count_16 rfl rfl ?_
    refine s_iald E rfl (jv_lt hJ (by decide)) (z_in (u := x1.toInt) rfl (by omega) (by omega)) dX10_count_17 ?_
    refine z_nm (P := fun z => z.toInt = (w.2.2.1 96 x1.toNatClampNeg).toInt ∧ 0 ≤ z.toInt ∧ z.toInt ≤ 2147483647) ⟨rfl, (rs_v hJ (by decide) 0 2147483647 0 9 1 x1 x1.toInt (by decide +kernel) rfl (by omega) (by omega) (by omega))⟩ (fun z_17 hz_17 => ?_)
    exact r_int E dX10_count_18 ⟨⟨by have hb_ := z32 z_17; omega, by have hb_ := z32 z_17; omega, by first | (right; decide) | (have hb_ := z32 z_17; omega) | (have hb_ := z32 z_17; have hc_ := z32 x1; omega)⟩, rfl⟩
set_option maxRecDepth 20000 in
set_option maxHeartbeats 2000000 in
theorem Z_X10_image_95 (l : Launch) (D : va_G) (aC : Nat → ClassId) (b : Nat) (w : XW) (x1 : Int32) (hI : Iv w)  : CnI l D aC b M_X10_image 1 25 0 0 [AR 95, AI x1] w (fun r u => (r.toInt = -2 ∧ ¬ (0 ≤ x1.toInt ∧ x1.toInt ≤ 2) ∧ w = u) ∨ (r.toInt = 0 ∧ (0 ≤ x1.toInt ∧ x1.toInt ≤ 2) ∧ Jv (upI w 98 x1.toNatClampNeg 1) u)) := by
  refine cn_I (own := RX10) (nm := "image") (L0 := [some (AR 95), some (AI x1), none]) (by decide +kernel) rfl rfl (Nat.le_of_ble_eq_true rfl) rfl ?_
  intro p e s m args below meth c E hin
  have hJ : Jv w w := jv_rfl hI
  have hb_x1 := z32 x1
  refine s_iload_n E dX10_image_0 rfl rfl ?_
  refine z_i2l (u := x1.toInt) E dX10_image_1 rfl (fun z_1 hz_1 => ?_)
  refine s_lconst (v := 0) E dX10_image_2 (by decide) ?_
  refine s_ldc2 E k_1365 rfl dX10_image_3 ?_
  refine s_sI (As := [AL z_1, AL 0, AL 2]) (S := []) E (Z_X10_in l D aC b w z_1 0 2) cs_X10_82 rfl rfl (Nat.le_of_ble_eq_true rfl) (Nat.le_of_ble_eq_true rfl) ⟨(Nat.le_of_ble_eq_true rfl), (Nat.le_of_ble_eq_true rfl)⟩ (Nat.le_of_ble_eq_true rfl) dX10_image_6 (fun z_2 u_3 hp_4 => ?_)
  obtain ⟨hz_2, hp_4⟩ := hp_4
  subst hp_4
  have hcL_ : (0 : Int64).toInt = 0 := (by decide)
  have hcL_ : (2 : Int64).toInt = 2 := (by decide)
  refine z_if_ne (tgt := 15) (u := z_2.toInt) E dX10_image_9 (by decide) rfl (fun h_5 => ?_) (fun h_5 => ?_)
  ·
    refine s_iconst (v := 0) E dX10_image_15 (by decide) ?_
    refine s_istore_n (L2 := [some (AR 95), some (AI x1), some (AI 0)]) E dX10_image_16 rfl (by decide) rfl ?_
    refine z_loop (St := Int32) (Pi := fun q_ v_ => (0 ≤ q_.toInt ∧ q_.toInt ≤ 134) ∧ v_ = stI w 97 (yP (w.2.2.1 96) (w.2.2.1 97) (134 * x1.toInt.toNat) q_.toInt.toNat)) (Lf := fun q_ => [some (AR 95), some (AI x1), some (AI q_)]) (fun q_ _ => (135 - q_.toInt).toNat) 0 ⟨⟨by decide, by decide⟩, st_start (by decide)⟩ ?_
    rintro q_ v_ ⟨hq_, hv_⟩ ih_
    subst hv_
    refine s_loc (L2 := [some (AR 95), some (AI x1), some (AI q_)]) rfl ?_
    refine s_iload_n E dX10_image_17 rfl rfl ?_
    refine s_sipush (v := 134) E dX10_image_18 (by decide) ?_
    refine z_icmp_ge (tgt := 48) (u := q_.toInt) (v := 134) E dX10_image_21 (by decide) rfl (by decide) (fun h_ => ?_) (fun h_ => ?_)
    ·
      have e_ : q_.toInt.toNat = 134 := by omega
      rw [e_]
      refine s_gen (P := Jv w) (cp_image hJ (by omega)) (fun ve_ hje_ => ?_)
      refine s_aload_n E dX10_image_48 rfl rfl ?_
      refine s_gR (r := 98) E fg_X10_16 rfl rfl (jv_lt hje_ (by decide)) (jv_r hje_ (by decide +kernel)) dX10_image_49 ?_
      refine s_iload_n E dX10_image_52 rfl rfl ?_
      refine s_iconst (v := 1) E dX10_image_53 (by decide) ?_
      refine s_zast E rfl (jv_lt hje_ (by decide)) (z_in (u := x1.toInt) rfl (by omega) (by omega)) dX10_image_54 ?_
      have hI_ : Jv (upI w 98 (x1 : Int32).toNatClampNeg 1) (upI ve_ 98 (x1 : Int32).toNatClampNeg (vp_nar .boolean 1)) := img_k hje_ (by decide)
      refine s_iconst (v := 0) E dX10_image_55 (by decide) ?_
      exact r_int E dX10_image_56 (Or.inr ⟨by decide, by omega, hI_⟩)
    ·
      refine s_aload_n E dX10_image_24 rfl rfl ?_
      refine s_gR (r := 97) E fg_X10_13 rfl rfl (jv_lt hJ (by decide)) (jv_r hJ (by decide +kernel)) dX10_image_25 ?_
      refine s_sipush (v := 134) E dX10_image_28 (by decide) ?_
      refine s_iload_n E dX10_image_31 rfl rfl ?_
      refine z_imul (u := 134) (v := x1.toInt) E dX10_image_32 (by decide) rfl (by omega) (by omega) (fun zm_ hzm_ => ?_)
      refine s_iload_n E dX10_image_33 rfl rfl ?_
      refine z_iadd (u := zm_.toInt) (v := q_.toInt) E dX10_image_34 rfl rfl (by omega) (by omega) (fun zi_ hzi_ => ?_)
      refine s_aload_n E dX10_image_35 rfl rfl ?_
      refine s_gR (r := 96) E fg_X10_9 rfl rfl (jv_lt hJ (by decide)) (jv_r hJ (by decide +kernel)) dX10_image_36 ?_
      refine s_iload_n E dX10_image_39 rfl rfl ?_
      refine s_iald E rfl (jv_lt hJ (by decide)) (z_in (u := q_.toInt) rfl (by omega) (by omega)) dX10_image_40 ?_
      refine z_nm (P := fun z => z = w.2.2.1 96 q_.toInt.toNat) (congrFun (st_ne (show 96 ≠ 97 by decide)) _) (fun zv_ hzv_ => ?_)
      refine s_iast E rfl (jv_lt hJ (by decide)) (z_in (u := zi_.toInt) rfl (by omega) (by omega)) dX10_image_41 ?_
      refine z_iinc (u := q_.toInt) (L2 := fun z_ => [some (AR 95), some (AI x1), some (AI z_)]) E dX10_image_42 rfl rfl (by decide) (fun _ => rfl) (by decide) (by omega) (by omega) (fun zn_ hzn_ => ?_)
      refine s_goto (tgt := 17) E dX10_image_45 (by decide) ?_
      exact ih_ zn_ _ ⟨⟨by omega, by omega⟩, st_next (by show zi_.toInt.toNat = _; omega) hzv_ (by omega)⟩ (by first | omega | (dsimp only; omega))
  ·
    refine s_bipush (v := (-2)) E dX10_image_12 (by decide) ?_
    exact r_int E dX10_image_14 (Or.inl ⟨by decide, by omega, rfl⟩)
set_option maxRecDepth 20000 in
set_option maxHeartbeats 2000000 in
theorem Z_X10_back_95 (l : Launch) (D : va_G) (aC : Nat → ClassId) (b : Nat) (w : XW) (x1 : Int32) (hI : Iv w)  : CnI l D aC b M_X10_back 1 25 0 0 [AR 95, AI x1] w (fun r u => ((-6) ≤ r.toInt ∧ r.toInt ≤ 0 ∧ (¬ r.toInt = 0 ∨ (0 ≤ x1.toInt ∧ x1.toInt ≤ 2))) ∧ (r.toInt = bkA w 98 x1) ∧ Jv w u) := by
  refine cn_I (own := RX10) (nm := "back") (L0 := [some (AR 95), some (AI x1), none]) (by decide +kernel) rfl rfl (Nat.le_of_ble_eq_true rfl) rfl ?_
  intro p e s m args below meth c E hin
  have hJ : Jv w w := jv_rfl hI
  have hb_x1 := z32 x1
  refine s_iload_n E dX10_back_0 rfl rfl ?_
  refine z_i2l (u := x1.toInt) E dX10_back_1 rfl (fun z_1 hz_1 => ?_)
  refine s_lconst (v := 0) E dX10_back_2 (by decide) ?_
  refine s_ldc2 E k_1365 rfl dX10_back_3 ?_
  refine s_sI (As := [AL z_1, AL 0, AL 2]) (S := []) E (Z_X10_in l D aC b w z_1 0 2) cs_X10_82 rfl rfl (Nat.le_of_ble_eq_true rfl) (Nat.le_of_ble_eq_true rfl) ⟨(Nat.le_of_ble_eq_true rfl), (Nat.le_of_ble_eq_true rfl)⟩ (Nat.le_of_ble_eq_true rfl) dX10_back_6 (fun z_2 u_3 hp_4 => ?_)
  obtain ⟨hz_2, hp_4⟩ := hp_4
  subst hp_4
  have hcL_ : (0 : Int64).toInt = 0 := (by decide)
  have hcL_ : (2 : Int64).toInt = 2 := (by decide)
  refine z_if_ne (tgt := 15) (u := z_2.toInt) E dX10_back_9 (by decide) rfl (fun h_5 => ?_) (fun h_5 => ?_)
  ·
    refine s_aload_n E dX10_back_15 rfl rfl ?_
    refine s_gR (r := 98) E fg_X10_16 rfl rfl (jv_lt hJ (by decide)) (jv_r hJ (by decide +kernel)) dX10_back_16 ?_
    refine s_iload_n E dX10_back_19 rfl rfl ?_
    refine s_zald E rfl (jv_lt hJ (by decide)) (z_in (u := x1.toInt) rfl (by omega) (by omega)) dX10_back_20 ?_
    refine z_nm (P := fun z => z.toInt = (w.2.2.1 98 x1.toNatClampNeg).toInt ∧ 0 ≤ z.toInt ∧ z.toInt ≤ 1) ⟨rfl, (ra_98 hJ _)⟩ (fun z_6 hz_6 => ?_)
    refine z_if_ne (tgt := 27) (u := z_6.toInt) E dX10_back_21 (by decide) rfl (fun h_7 => ?_) (fun h_7 => ?_)
    ·
      refine s_iconst (v := 0) E dX10_back_27 (by decide) ?_
      refine s_istore_n (L2 := [some (AR 95), some (AI x1), some (AI 0)]) E dX10_back_28 rfl (by decide) rfl ?_
      refine z_loop (St := Int32) (Pi := fun q_ v_ => (0 ≤ q_.toInt ∧ q_.toInt ≤ 134) ∧ v_ = stI w 96 (yP (fun j => w.2.2.1 97 (134 * x1.toInt.toNat + j)) (w.2.2.1 96) (0) q_.toInt.toNat)) (Lf := fun q_ => [some (AR 95), some (AI x1), some (AI q_)]) (fun q_ _ => (135 - q_.toInt).toNat) 0 ⟨⟨by decide, by decide⟩, st_start (by decide)⟩ ?_
      rintro q_ v_ ⟨hq_, hv_⟩ ih_
      subst hv_
      refine s_loc (L2 := [some (AR 95), some (AI x1), some (AI q_)]) rfl ?_
      refine s_iload_n E dX10_back_29 rfl rfl ?_
      refine s_sipush (v := 134) E dX10_back_30 (by decide) ?_
      refine z_icmp_ge (tgt := 60) (u := q_.toInt) (v := 134) E dX10_back_33 (by decide) rfl (by decide) (fun h_ => ?_) (fun h_ => ?_)
      ·
        have e_ : q_.toInt.toNat = 134 := by omega
        rw [e_]
        refine s_gen (P := Jv w) (cp_back hJ (by omega)) (fun ve_ hje_ => ?_)
        refine s_iconst (v := 0) E dX10_back_60 (by decide) ?_
        exact r_int E dX10_back_61 ⟨⟨by decide, by decide, by first | (left; decide) | (right; decide) | (right; have hb_ := z32 x1; omega)⟩, (by have hrc_ : (0 : Int32).toInt = 0 := (by decide); unfold bkA; first | (rw [if_neg (by omega)]; decide) | (rw [if_pos (by first | omega | decide), if_pos (by omega)]; decide) | (rw [if_pos (by first | omega | decide), if_neg (by omega)]; decide)), hje_⟩
      ·
        refine s_aload_n E dX10_back_36 rfl rfl ?_
        refine s_gR (r := 96) E fg_X10_9 rfl rfl (jv_lt hJ (by decide)) (jv_r hJ (by decide +kernel)) dX10_back_37 ?_
        refine s_iload_n E dX10_back_40 rfl rfl ?_
        refine s_aload_n E dX10_back_41 rfl rfl ?_
        refine s_gR (r := 97) E fg_X10_13 rfl rfl (jv_lt hJ (by decide)) (jv_r hJ (by decide +kernel)) dX10_back_42 ?_
        refine s_sipush (v := 134) E dX10_back_45 (by decide) ?_
        refine s_iload_n E dX10_back_48 rfl rfl ?_
        refine z_imul (u := 134) (v := x1.toInt) E dX10_back_49 (by decide) rfl (by omega) (by omega) (fun zm_ hzm_ => ?_)
        refine s_iload_n E dX10_back_50 rfl rfl ?_
        refine z_iadd (u := zm_.toInt) (v := q_.toInt) E dX10_back_51 rfl rfl (by omega) (by omega) (fun zi_ hzi_ => ?_)
        refine s_iald E rfl (jv_lt hJ (by decide)) (z_in (u := zi_.toInt) rfl (by omega) (by omega)) dX10_back_52 ?_
        have ei_ : zi_.toNatClampNeg = 134 * x1.toInt.toNat + q_.toInt.toNat := by have e2_ : zi_.toNatClampNeg = zi_.toInt.toNat := rfl; omega
        refine z_nm (P := fun z => z = (fun j => w.2.2.1 97 (134 * x1.toInt.toNat + j)) q_.toInt.toNat) ((congrFun (st_ne (show 97 ≠ 96 by decide)) _).trans (by rw [ei_])) (fun zv_ hzv_ => ?_)
        refine s_iast E rfl (jv_lt hJ (by decide)) (z_in (u := q_.toInt) rfl (by omega) (by omega)) dX10_back_53 ?_
        refine z_iinc (u := q_.toInt) (L2 := fun z_ => [some (AR 95), some (AI x1), some (AI z_)]) E dX10_back_54 rfl rfl (by decide) (fun _ => rfl) (by decide) (by omega) (by omega) (fun zn_ hzn_ => ?_)
        refine s_goto (tgt := 29) E dX10_back_57 (by decide) ?_
        exact ih_ zn_ _ ⟨⟨by omega, by omega⟩, st_next (by show q_.toInt.toNat = _; omega) hzv_ (by omega)⟩ (by first | omega | (dsimp only; omega))
    ·
      refine s_bipush (v := (-6)) E dX10_back_24 (by decide) ?_
      exact r_int E dX10_back_26 ⟨⟨by decide, by decide, by first | (left; decide) | (right; decide) | (right; have hb_ := z32 x1; omega)⟩, (by have hrc_ : ((-6) : Int32).toInt = (-6) := (by decide); unfold bkA; first | (rw [if_neg (by omega)]; decide) | (rw [if_pos (by first | omega | decide), if_pos (by omega)]; decide) | (rw [if_pos (by first | omega | decide), if_neg (by omega)]; decide)), hJ⟩
  ·
    refine s_bipush (v := (-2)) E dX10_back_12 (by decide) ?_
    exact r_int E dX10_back_14 ⟨⟨by decide, by decide, by first | (left; decide) | (right; decide) | (right; have hb_ := z32 x1; omega)⟩, (by have hrc_ : ((-2) : Int32).toInt = (-2) := (by decide); unfold bkA; first | (rw [if_neg (by omega)]; decide) | (rw [if_pos (by first | omega | decide), if_pos (by omega)]; decide) | (rw [if_pos (by first | omega | decide), if_neg (by omega)]; decide)), hJ⟩
set_option maxRecDepth 20000 in
set_option maxHeartbeats 2000000 in
theorem Z_X10_row_95 (l : Launch) (D : va_G) (aC : Nat → ClassId) (b : Nat) (w : XW) (x1 : Int32) (x2 : Int32) (x3 : Int32) (hI : Iv w)  : CnI l D aC b M_X10_row 2 45 0 0 [AR 95, AI x1, AI x2, AI x3] w (fun r u => (r.toInt = -2 ∧ ¬ rwC x1 x2 x3 ∧ w = u) ∨ (r.toInt = -3 ∧ rwC x1 x2 x3 ∧ x3.toInt < 0 ∧ w = u) ∨ (r.toInt = 0 ∧ rwC x1 x2 x3 ∧ 0 ≤ x3.toInt ∧ Jn (upI (upI w 112 x1.toNatClampNeg x3) 113 x1.toNatClampNeg x2) u)) := by
  refine cn_I (own := RX10) (nm := "row") (L0 := [some (AR 95), some (AI x1), some (AI x2), some (AI x3), none]) (by decide +kernel) rfl rfl (Nat.le_of_ble_eq_true rfl) rfl ?_
  intro p e s m args below meth c E hin
  have hJ : Jv w w := jv_rfl hI
  have hb_x1 := z32 x1
  have hb_x2 := z32 x2
  have hb_x3 := z32 x3
  refine s_iload_n E dX10_row_0 rfl rfl ?_
  refine s_sI (As := [AI x1]) (S := []) E (Z_X10_isSlot l D aC b w x1 hJ.1 ) cs_X10_375 rfl rfl (Nat.le_of_ble_eq_true rfl) (Nat.le_of_ble_eq_true rfl) ⟨(Nat.le_of_ble_eq_true rfl), (Nat.le_of_ble_eq_true rfl)⟩ (Nat.le_of_ble_eq_true rfl) dX10_row_1 (fun z_3 u_1 hp_2 => ?_)
  obtain ⟨hz_3, hxz_3, hp_2⟩ := hp_2
  subst hp_2
  refine z_if_eq (tgt := 25) (u := z_3.toInt) E dX10_row_4 (by decide) rfl (fun h_5 => ?_) (fun h_5 => ?_)
  ·
    refine s_bipush (v := (-2)) E dX10_row_25 (by decide) ?_
    exact r_int E dX10_row_27 (Or.inl ⟨by decide, by unfold rwC; omega, rfl⟩)
  ·
    refine s_iload_n E dX10_row_7 rfl rfl ?_
    refine z_i2l (u := x2.toInt) E dX10_row_8 rfl (fun z_6 hz_6 => ?_)
    refine s_lconst (v := 0) E dX10_row_9 (by decide) ?_
    refine s_ldc2 E k_1737 rfl dX10_row_10 ?_
    refine s_sI (As := [AL z_6, AL 0, AL 3]) (S := []) E (Z_X10_in l D aC b w z_6 0 3) cs_X10_82 rfl rfl (Nat.le_of_ble_eq_true rfl) (Nat.le_of_ble_eq_true rfl) ⟨(Nat.le_of_ble_eq_true rfl), (Nat.le_of_ble_eq_true rfl)⟩ (Nat.le_of_ble_eq_true rfl) dX10_row_13 (fun z_7 u_8 hp_9 => ?_)
    obtain ⟨hz_7, hp_9⟩ := hp_9
    subst hp_9
    have hcL_ : (0 : Int64).toInt = 0 := (by decide)
    have hcL_ : (3 : Int64).toInt = 3 := (by decide)
    refine z_if_eq (tgt := 25) (u := z_7.toInt) E dX10_row_16 (by decide) rfl (fun h_10 => ?_) (fun h_10 => ?_)
    ·
      refine s_bipush (v := (-2)) E dX10_row_25 (by decide) ?_
      exact r_int E dX10_row_27 (Or.inl ⟨by decide, by unfold rwC; omega, rfl⟩)
    ·
      refine s_iload_n E dX10_row_19 rfl rfl ?_
      refine s_bipush (v := 60) E dX10_row_20 (by decide) ?_
      refine z_icmp_le (tgt := 28) (u := x3.toInt) (v := 60) E dX10_row_22 (by decide) rfl (by decide) (fun h_11 => ?_) (fun h_11 => ?_)
      ·
        refine s_iload_n E dX10_row_28 rfl rfl ?_
        refine z_if_ge (tgt := 35) (u := x3.toInt) E dX10_row_29 (by decide) rfl (fun h_12 => ?_) (fun h_12 => ?_)
        ·
          refine s_aload_n E dX10_row_35 rfl rfl ?_
          refine s_gR (r := 112) E fg_X10_64 rfl rfl (jv_lt hJ (by decide)) (jv_r hJ (by decide +kernel)) dX10_row_36 ?_
          refine s_iload_n E dX10_row_39 rfl rfl ?_
          refine s_iload_n E dX10_row_40 rfl rfl ?_
          refine s_iast E rfl (jv_lt hJ (by decide)) (z_in (u := x1.toInt) rfl (by omega) (by omega)) dX10_row_41 ?_
          have k1_ : Jv (upI w 112 x1.toNatClampNeg x3) (upI w 112 x1.toNatClampNeg x3) := jv_kp hJ (by decide) (in_of (a := (-1)) (z := 60) rfl (by decide) (by omega) (by omega))
          refine s_aload_n E dX10_row_42 rfl rfl ?_
          refine s_gR (r := 113) E fg_X10_67 rfl rfl (jv_lt k1_ (by decide)) (jv_r k1_ (by decide +kernel)) dX10_row_43 ?_
          refine s_iload_n E dX10_row_46 rfl rfl ?_
          refine s_iload_n E dX10_row_47 rfl rfl ?_
          refine s_iast E rfl (jv_lt k1_ (by decide)) (z_in (u := x1.toInt) rfl (by omega) (by omega)) dX10_row_48 ?_
          have k2_ : Jv (upI (upI w 112 x1.toNatClampNeg x3) 113 x1.toNatClampNeg x2) (upI (upI w 112 x1.toNatClampNeg x3) 113 x1.toNatClampNeg x2) := jv_kp k1_ (by decide) (in_of (a := 0) (z := 3) rfl (by decide) (by omega) (by omega))
          refine s_iconst (v := 0) E dX10_row_49 (by decide) ?_
          refine s_istore (L2 := [some (AR 95), some (AI x1), some (AI x2), some (AI x3), some (AI 0)]) E dX10_row_50 (by decide) rfl ?_
          refine z_loop (St := Int32) (Pi := fun q_ v_ => (0 ≤ q_.toInt ∧ q_.toInt ≤ 60) ∧ Jn (upI (upI w 112 x1.toNatClampNeg x3) 113 x1.toNatClampNeg x2) v_) (Lf := fun q_ => [some (AR 95), some (AI x1), some (AI x2), some (AI x3), some (AI q_)]) (fun q_ _ => (61 - q_.toInt).toNat) 0 ⟨⟨by decide, by decide⟩, jn_of k2_⟩ ?_
          rintro q_ v_ ⟨hq_, k3_⟩ ih_
          refine s_loc (L2 := [some (AR 95), some (AI x1), some (AI x2), some (AI x3), some (AI q_)]) rfl ?_
          refine s_iload E dX10_row_52 rfl ?_
          refine s_bipush (v := 60) E dX10_row_54 (by decide) ?_
          refine z_icmp_ge (tgt := 78) (u := q_.toInt) (v := 60) E dX10_row_56 (by decide) rfl (by decide) (fun h_ => ?_) (fun h_ => ?_)
          ·
            refine s_iconst (v := 0) E dX10_row_78 (by decide) ?_
            exact r_int E dX10_row_79 (Or.inr (Or.inr ⟨by decide, by unfold rwC; omega, by omega, k3_⟩))
          ·
            refine s_aload_n E dX10_row_59 rfl rfl ?_
            refine s_gR (r := 114) E fg_X10_70 rfl rfl (jv_lt (jv_rfl k3_.1) (by decide)) (jv_r (jv_rfl k3_.1) (by decide +kernel)) dX10_row_60 ?_
            refine s_bipush (v := 60) E dX10_row_63 (by decide) ?_
            refine s_iload_n E dX10_row_65 rfl rfl ?_
            refine z_imul (u := 60) (v := x1.toInt) E dX10_row_66 (by decide) rfl (by omega) (by omega) (fun zm_ hzm_ => ?_)
            refine s_iload E dX10_row_67 rfl ?_
            refine z_iadd (u := zm_.toInt) (v := q_.toInt) E dX10_row_69 rfl rfl (by omega) (by omega) (fun zi_ hzi_ => ?_)
            refine s_lconst (v := 0) E dX10_row_70 (by decide) ?_
            refine s_last E rfl (jv_lt (jv_rfl k3_.1) (by decide)) (z_in (u := zi_.toInt) rfl (by omega) (by omega)) dX10_row_71 ?_
            refine z_iinc (u := q_.toInt) (L2 := fun z_ => [some (AR 95), some (AI x1), some (AI x2), some (AI x3), some (AI z_)]) E dX10_row_72 rfl rfl (by decide) (fun _ => rfl) (by decide) (by omega) (by omega) (fun zn_ hzn_ => ?_)
            refine s_goto (tgt := 52) E dX10_row_75 (by decide) ?_
            exact ih_ zn_ _ ⟨⟨by omega, by omega⟩, jn_L k3_⟩ (by first | omega | (dsimp only; omega))
        ·
          refine s_bipush (v := (-3)) E dX10_row_32 (by decide) ?_
          exact r_int E dX10_row_34 (Or.inr (Or.inl ⟨by decide, by unfold rwC; omega, by omega, rfl⟩))
      ·
        refine s_bipush (v := (-2)) E dX10_row_25 (by decide) ?_
        exact r_int E dX10_row_27 (Or.inl ⟨by decide, by unfold rwC; omega, rfl⟩)
set_option maxRecDepth 20000 in
set_option maxHeartbeats 2000000 in
theorem Z_X10_cut (l : Launch) (D : va_G) (aC : Nat → ClassId) (b : Nat) (w : XW) (x1 : Int64) (x2 : Int32) (hI : Iv w) (hx2 : 0 ≤ x2.toInt ∧ x2.toInt ≤ 3) : CnL l D aC b M_X10_cut 0 0 0 0 [AL x1, AI x2] w (fun r u => ((-9223372036854775808) ≤ r.toInt ∧ r.toInt ≤ 9223372036854775807) ∧ w = u) := by
  refine cn_L (own := RX10) (nm := "cut") (L0 := [some (AL x1), none, some (AI x2), none]) (by decide +kernel) rfl rfl (Nat.le_of_ble_eq_true rfl) rfl ?_
  intro p e s m args below meth c E hin
  have hJ : Jv w w := jv_rfl hI
  refine s_bipush (v := 64) E dX10_cut_0 (by decide) ?_
  refine s_bipush (v := 8) E dX10_cut_2 (by decide) ?_
  refine s_iload_n E dX10_cut_4 rfl rfl ?_
  refine s_ishl E dX10_cut_5 ?_
  refine z_nm (P := fun z => (-2147483648) ≤ z.toInt ∧ z.toInt ≤ 2147483647) (z32 _) (fun z_1 hz_1 => ?_)
  refine s_isub E dX10_cut_6 ?_
  refine z_nm (P := fun z => (-2147483648) ≤ z.toInt ∧ z.toInt ≤ 2147483647) (z32 _) (fun z_2 hz_2 => ?_)
  refine s_istore_n (L2 := [some (AL x1), none, some (AI x2), some (AI z_2)]) E dX10_cut_7 rfl (by decide) rfl ?_
  refine s_lload_n E dX10_cut_8 rfl rfl ?_
  refine s_iload_n E dX10_cut_9 rfl rfl ?_
  refine s_lshl E dX10_cut_10 ?_
  refine z_anyL (fun z_3 => ?_)
  refine s_iload_n E dX10_cut_11 rfl rfl ?_
  refine s_lshr E dX10_cut_12 ?_
  refine z_anyL (fun z_4 => ?_)
  exact r_long E dX10_cut_13 ⟨⟨by have hb_ := z64 z_4; omega, by have hb_ := z64 z_4; omega⟩, rfl⟩
set_option maxRecDepth 20000 in
set_option maxHeartbeats 2000000 in
theorem Z_X10_write_95 (l : Launch) (D : va_G) (aC : Nat → ClassId) (b : Nat) (w : XW) (x1 : Int32) (x2 : Int32) (x3 : Int64) (hI : Iv w)  : CnI l D aC b M_X10_write 2 45 0 0 [AR 95, AI x1, AI x2, AL x3] w (fun r u => ((-7) ≤ r.toInt ∧ r.toInt ≤ 0 ∧ (¬ r.toInt = 0 ∨ (0 ≤ x1.toInt ∧ x1.toInt ≤ 3)) ∧ (¬ r.toInt = 0 ∨ (0 ≤ x2.toInt ∧ x2.toInt ≤ 59))) ∧ ((¬ (0 ≤ x1.toInt ∧ x1.toInt ≤ 3) ∧ r.toInt = -2) ∨ ((0 ≤ x1.toInt ∧ x1.toInt ≤ 3) ∧ (((w.2.2.1 112 x1.toNatClampNeg).toInt < 0 ∧ r.toInt = -6) ∨ (0 ≤ (w.2.2.1 112 x1.toNatClampNeg).toInt ∧ ¬ (0 ≤ x2.toInt ∧ x2.toInt < (w.2.2.1 112 x1.toNatClampNeg).toInt) ∧ r.toInt = -7) ∨ (0 ≤ x2.toInt ∧ x2.toInt < (w.2.2.1 112 x1.toNatClampNeg).toInt ∧ r.toInt = 0)))) ∧ Jn w u) := by
  refine cn_I (own := RX10) (nm := "write") (L0 := [some (AR 95), some (AI x1), some (AI x2), some (AL x3), none]) (by decide +kernel) rfl rfl (Nat.le_of_ble_eq_true rfl) rfl ?_
  intro p e s m args below meth c E hin
  have hJ : Jv w w := jv_rfl hI
  have hb_x1 := z32 x1
  have hb_x2 := z32 x2
  refine s_iload_n E dX10_write_0 rfl rfl ?_
  refine s_sI (As := [AI x1]) (S := []) E (Z_X10_isSlot l D aC b w x1 hJ.1 ) cs_X10_375 rfl rfl (Nat.le_of_ble_eq_true rfl) (Nat.le_of_ble_eq_true rfl) ⟨(Nat.le_of_ble_eq_true rfl), (Nat.le_of_ble_eq_true rfl)⟩ (Nat.le_of_ble_eq_true rfl) dX10_write_1 (fun z_3 u_1 hp_2 => ?_)
  obtain ⟨hz_3, hxz_3, hp_2⟩ := hp_2
  subst hp_2
  refine z_if_ne (tgt := 10) (u := z_3.toInt) E dX10_write_4 (by decide) rfl (fun h_5 => ?_) (fun h_5 => ?_)
  ·
    refine s_aload_n E dX10_write_10 rfl rfl ?_
    refine s_gR (r := 112) E fg_X10_64 rfl rfl (jv_lt hJ (by decide)) (jv_r hJ (by decide +kernel)) dX10_write_11 ?_
    refine s_iload_n E dX10_write_14 rfl rfl ?_
    refine s_iald E rfl (jv_lt hJ (by decide)) (z_in (u := x1.toInt) rfl (by omega) (by omega)) dX10_write_15 ?_
    refine z_nm (P := fun z => z.toInt = (w.2.2.1 112 x1.toNatClampNeg).toInt ∧ (-1) ≤ z.toInt ∧ z.toInt ≤ 60) ⟨(jv_k hJ (by decide) _), (ra_112 hJ _)⟩ (fun z_6 hz_6 => ?_)
    refine s_iconst (v := (-1)) E dX10_write_16 (by decide) ?_
    refine z_icmp_ne (tgt := 23) (u := z_6.toInt) (v := (-1)) E dX10_write_17 (by decide) rfl (by decide) (fun h_7 => ?_) (fun h_7 => ?_)
    ·
      refine s_iload_n E dX10_write_23 rfl rfl ?_
      refine z_i2l (u := x2.toInt) E dX10_write_24 rfl (fun z_8 hz_8 => ?_)
      refine s_lconst (v := 0) E dX10_write_25 (by decide) ?_
      refine s_aload_n E dX10_write_26 rfl rfl ?_
      refine s_gR (r := 112) E fg_X10_64 rfl rfl (jv_lt hJ (by decide)) (jv_r hJ (by decide +kernel)) dX10_write_27 ?_
      refine s_iload_n E dX10_write_30 rfl rfl ?_
      refine s_iald E rfl (jv_lt hJ (by decide)) (z_in (u := x1.toInt) rfl (by omega) (by omega)) dX10_write_31 ?_
      refine z_nm (P := fun z => z.toInt = (w.2.2.1 112 x1.toNatClampNeg).toInt ∧ (-1) ≤ z.toInt ∧ z.toInt ≤ 60) ⟨(jv_k hJ (by decide) _), (ra_112 hJ _)⟩ (fun z_9 hz_9 => ?_)
      refine s_iconst (v := 1) E dX10_write_32 (by decide) ?_
      refine z_isub (u := z_9.toInt) (v := 1) E dX10_write_33 rfl (by decide) (by omega) (by omega) (fun z_10 hz_10 => ?_)
      refine z_i2l (u := z_10.toInt) E dX10_write_34 rfl (fun z_11 hz_11 => ?_)
      refine s_sI (As := [AL z_8, AL 0, AL z_11]) (S := []) E (Z_X10_in l D aC b w z_8 0 z_11) cs_X10_82 rfl rfl (Nat.le_of_ble_eq_true rfl) (Nat.le_of_ble_eq_true rfl) ⟨(Nat.le_of_ble_eq_true rfl), (Nat.le_of_ble_eq_true rfl)⟩ (Nat.le_of_ble_eq_true rfl) dX10_write_35 (fun z_12 u_13 hp_14 => ?_)
      obtain ⟨hz_12, hp_14⟩ := hp_14
      subst hp_14
      have hcL_ : (0 : Int64).toInt = 0 := (by decide)
      refine z_if_ne (tgt := 44) (u := z_12.toInt) E dX10_write_38 (by decide) rfl (fun h_15 => ?_) (fun h_15 => ?_)
      ·
        refine s_aload_n E dX10_write_44 rfl rfl ?_
        refine s_gR (r := 114) E fg_X10_70 rfl rfl (jv_lt hJ (by decide)) (jv_r hJ (by decide +kernel)) dX10_write_45 ?_
        refine s_bipush (v := 60) E dX10_write_48 (by decide) ?_
        refine s_iload_n E dX10_write_50 rfl rfl ?_
        refine z_imul (u := 60) (v := x1.toInt) E dX10_write_51 (by decide) rfl (by omega) (by omega) (fun z_16 hz_16 => ?_)
        refine s_iload_n E dX10_write_52 rfl rfl ?_
        refine z_iadd (u := z_16.toInt) (v := x2.toInt) E dX10_write_53 rfl rfl (by omega) (by omega) (fun z_17 hz_17 => ?_)
        refine s_lload_n E dX10_write_54 rfl rfl ?_
        refine s_aload_n E dX10_write_55 rfl rfl ?_
        refine s_gR (r := 113) E fg_X10_67 rfl rfl (jv_lt hJ (by decide)) (jv_r hJ (by decide +kernel)) dX10_write_56 ?_
        refine s_iload_n E dX10_write_59 rfl rfl ?_
        refine s_iald E rfl (jv_lt hJ (by decide)) (z_in (u := x1.toInt) rfl (by omega) (by omega)) dX10_write_60 ?_
        refine z_nm (P := fun z => z.toInt = (w.2.2.1 113 x1.toNatClampNeg).toInt ∧ 0 ≤ z.toInt ∧ z.toInt ≤ 3) ⟨(jv_k hJ (by decide) _), (ra_113 hJ _)⟩ (fun z_18 hz_18 => ?_)
        refine s_sL (As := [AL x3, AI z_18]) (S := [AI z_17, AR 114]) E (Z_X10_cut l D aC b w x3 z_18 hJ.1 ⟨by have hb_ := z32 z_18; omega, by have hb_ := z32 z_18; omega⟩) cs_X10_472 rfl rfl (Nat.le_of_ble_eq_true rfl) (Nat.le_of_ble_eq_true rfl) ⟨(Nat.le_of_ble_eq_true rfl), (Nat.le_of_ble_eq_true rfl)⟩ (Nat.le_of_ble_eq_true rfl) dX10_write_61 (fun z_21 u_19 hp_20 => ?_)
        obtain ⟨hz_21, hp_20⟩ := hp_20
        subst hp_20
        refine s_last E rfl (jv_lt hJ (by decide)) (z_in (u := z_17.toInt) rfl (by omega) (by omega)) dX10_write_64 ?_
        refine s_gen (P := Jn w) (jn_L (jn_of hJ)) (fun v_23 hn_24 => ?_)
        refine s_iconst (v := 0) E dX10_write_65 (by decide) ?_
        exact r_int E dX10_write_66 ⟨⟨by decide, by decide, by first | (left; decide) | (right; decide) | (right; have hb_ := z32 x1; omega), by first | (left; decide) | (right; decide) | (right; have hb_ := z32 x2; omega)⟩, (by have hrc_ : (0 : Int32).toInt = 0 := (by decide); omega), hn_24⟩
      ·
        refine s_bipush (v := (-7)) E dX10_write_41 (by decide) ?_
        exact r_int E dX10_write_43 ⟨⟨by decide, by decide, by first | (left; decide) | (right; decide) | (right; have hb_ := z32 x1; omega), by first | (left; decide) | (right; decide) | (right; have hb_ := z32 x2; omega)⟩, (by have hrc_ : ((-7) : Int32).toInt = (-7) := (by decide); omega), (jn_of hJ)⟩
    ·
      refine s_bipush (v := (-6)) E dX10_write_20 (by decide) ?_
      exact r_int E dX10_write_22 ⟨⟨by decide, by decide, by first | (left; decide) | (right; decide) | (right; have hb_ := z32 x1; omega), by first | (left; decide) | (right; decide) | (right; have hb_ := z32 x2; omega)⟩, (by have hrc_ : ((-6) : Int32).toInt = (-6) := (by decide); omega), (jn_of hJ)⟩
  ·
    refine s_bipush (v := (-2)) E dX10_write_7 (by decide) ?_
    exact r_int E dX10_write_9 ⟨⟨by decide, by decide, by first | (left; decide) | (right; decide) | (right; have hb_ := z32 x1; omega), by first | (left; decide) | (right; decide) | (right; have hb_ := z32 x2; omega)⟩, (by have hrc_ : ((-2) : Int32).toInt = (-2) := (by decide); omega), (jn_of hJ)⟩
