set_option maxRecDepth 20000 in
set_option maxHeartbeats 2000000 in
theorem Z_X2_openDoors_75_r2 (l : Launch) (D : va_G) (aC : Nat → ClassId) (b : Nat) (w : XW) (x1 : Int32) (x2 : Int32) (hI : Iv w)  : CnV l D aC b M_X2_openDoors 3 70 0 0 [AR 75, AR 2, AI x1, AI x2] w (fun u => Jv w u) := by
  refine cn_V (own := RX2) (nm := "openDoors") (L0 := [some (AR 75), some (AR 2), some (AI x1), some (AI x2), none, none]) (by decide +kernel) rfl rfl (Nat.le_of_ble_eq_true rfl) rfl ?_
  intro p e s m args below meth c E hin
  have hJ : Jv w w := jv_rfl hI
  have hb_x1 := z32 x1
  have hb_x2 := z32 x2
  refine s_aload_n E dX2_openDoors_0 rfl rfl ?_
  refine s_aload_n E dX2_openDoors_1 rfl rfl ?_
  refine s_gR (r := 5) E fg_X2_39 rfl rfl (jv_lt hJ (by decide)) (jv_r hJ (by decide +kernel)) dX2_openDoors_2 ?_
  refine s_gI E fg_X2_57 rfl rfl (jv_lt hJ (by decide)) dX2_openDoors_5 ?_
  refine z_nm (P := fun z => z.toInt = (w.2.2.1 5 3).toInt ∧ 0 ≤ z.toInt ∧ z.toInt ≤ 6) ⟨rfl, (rg_5_3 hJ)⟩ (fun z_1 hz_1 => ?_)
  refine s_pI E fp_X2_35 (Or.inl rfl) rfl (jv_lt hJ (by decide)) dX2_openDoors_8 ?_
  refine s_gen (P := Jv w) (jv_f_75_5 hJ (by have hb_ := z32 z_1; omega) (by have hb_ := z32 z_1; omega)) (fun v_2 hj_3 => ?_)
  refine s_aload_n E dX2_openDoors_11 rfl rfl ?_
  refine s_aload_n E dX2_openDoors_12 rfl rfl ?_
  refine s_gI E fg_X2_60 rfl rfl (jv_lt hj_3 (by decide)) dX2_openDoors_13 ?_
  refine z_nm (P := fun z => z.toInt = (v_2.2.2.1 2 1).toInt ∧ 0 ≤ z.toInt ∧ z.toInt ≤ 8) ⟨rfl, (rg_2_1 hj_3)⟩ (fun z_4 hz_4 => ?_)
  refine s_pI E fp_X2_63 (Or.inl rfl) rfl (jv_lt hj_3 (by decide)) dX2_openDoors_16 ?_
  refine s_gen (P := Jv w) (jv_f_75_6 hj_3 (by have hb_ := z32 z_4; omega) (by have hb_ := z32 z_4; omega)) (fun v_5 hj_6 => ?_)
  refine s_aload_n E dX2_openDoors_19 rfl rfl ?_
  refine s_aload_n E dX2_openDoors_20 rfl rfl ?_
  refine s_gI E fg_X2_64 rfl rfl (jv_lt hj_6 (by decide)) dX2_openDoors_21 ?_
  refine z_nm (P := fun z => z.toInt = (v_5.2.2.1 2 2).toInt ∧ 0 ≤ z.toInt ∧ z.toInt ≤ 14) ⟨rfl, (rg_2_2 hj_6)⟩ (fun z_7 hz_7 => ?_)
  refine s_pI E fp_X2_67 (Or.inl rfl) rfl (jv_lt hj_6 (by decide)) dX2_openDoors_24 ?_
  refine s_gen (P := Jv w) (jv_f_75_7 hj_6 (by have hb_ := z32 z_7; omega) (by have hb_ := z32 z_7; omega)) (fun v_8 hj_9 => ?_)
  refine s_iconst (v := 0) E dX2_openDoors_27 (by decide) ?_
  refine s_istore (L2 := [some (AR 75), some (AR 2), some (AI x1), some (AI x2), some (AI 0), none]) E dX2_openDoors_28 (by decide) rfl ?_
  refine z_loop (St := Int32) (Pi := fun q30_4_9 v30 => (0 ≤ q30_4_9.toInt ∧ q30_4_9.toInt ≤ 6) ∧ Jv w v30) (Lf := fun q30_4_9 => [some (AR 75), some (AR 2), some (AI x1), some (AI x2), some (AI q30_4_9), none]) (fun q30_4_9 _ => (7 - q30_4_9.toInt).toNat) 0 ⟨⟨by decide, by decide⟩, hj_9⟩ ?_
  rintro q30_4_9 v30 ⟨hq30_4, hj_10⟩ ih30
  refine s_loc (L2 := [some (AR 75), some (AR 2), some (AI x1), some (AI x2), some (AI q30_4_9), none]) rfl ?_
  refine s_iload E dX2_openDoors_30 rfl ?_
  refine s_aload_n E dX2_openDoors_32 rfl rfl ?_
  refine s_gI E fg_X2_35 rfl rfl (jv_lt hj_10 (by decide)) dX2_openDoors_33 ?_
  refine z_nm (P := fun z => z.toInt = (v30.2.2.1 75 5).toInt ∧ 0 ≤ z.toInt ∧ z.toInt ≤ 6) ⟨rfl, (rg_75_5 hj_10)⟩ (fun z_11 hz_11 => ?_)
  refine z_icmp_ge (tgt := 80) (u := q30_4_9.toInt) (v := z_11.toInt) E dX2_openDoors_36 (by decide) rfl rfl (fun h_12 => ?_) (fun h_12 => ?_)
  ·
    refine s_iconst (v := 0) E dX2_openDoors_80 (by decide) ?_
    refine s_istore (L2 := [some (AR 75), some (AR 2), some (AI x1), some (AI x2), some (AI 0), none]) E dX2_openDoors_81 (by decide) rfl ?_
    refine z_loop (St := Int32) (Pi := fun q83_4_12 v83 => (0 ≤ q83_4_12.toInt ∧ q83_4_12.toInt ≤ 12) ∧ Jv w v83) (Lf := fun q83_4_12 => [some (AR 75), some (AR 2), some (AI x1), some (AI x2), some (AI q83_4_12), none]) (fun q83_4_12 _ => (13 - q83_4_12.toInt).toNat) 0 ⟨⟨by decide, by decide⟩, hj_10⟩ ?_
    rintro q83_4_12 v83 ⟨hq83_4, hj_13⟩ ih83
    refine s_loc (L2 := [some (AR 75), some (AR 2), some (AI x1), some (AI x2), some (AI q83_4_12), none]) rfl ?_
    refine s_iload E dX2_openDoors_83 rfl ?_
    refine s_aload_n E dX2_openDoors_85 rfl rfl ?_
    refine s_gR (r := 3) E fg_X2_68 rfl rfl (jv_lt hj_13 (by decide)) (jv_r hj_13 (by decide +kernel)) dX2_openDoors_86 ?_
    refine s_gI E fg_X2_57 rfl rfl (jv_lt hj_13 (by decide)) dX2_openDoors_89 ?_
    refine z_nm (P := fun z => z.toInt = (v83.2.2.1 3 3).toInt ∧ 0 ≤ z.toInt ∧ z.toInt ≤ 12) ⟨rfl, (rg_3_3 hj_13)⟩ (fun z_14 hz_14 => ?_)
    refine z_icmp_ge (tgt := 146) (u := q83_4_12.toInt) (v := z_14.toInt) E dX2_openDoors_92 (by decide) rfl rfl (fun h_15 => ?_) (fun h_15 => ?_)
    ·
      exact r_void E dX2_openDoors_146 hj_13
    ·
      refine s_iload E dX2_openDoors_95 rfl ?_
      refine s_iload_n E dX2_openDoors_97 rfl rfl ?_
      refine z_icmp_eq (tgt := 107) (u := q83_4_12.toInt) (v := x1.toInt) E dX2_openDoors_98 (by decide) rfl rfl (fun h_16 => ?_) (fun h_16 => ?_)
      ·
        refine s_iconst (v := 1) E dX2_openDoors_107 (by decide) ?_
        refine s_goto (tgt := 112) E dX2_openDoors_108 (by decide) ?_
        refine s_istore (L2 := [some (AR 75), some (AR 2), some (AI x1), some (AI x2), some (AI q83_4_12), some (AI 1)]) E dX2_openDoors_112 (by decide) rfl ?_
        refine s_aload_n E dX2_openDoors_114 rfl rfl ?_
        refine s_aload_n E dX2_openDoors_115 rfl rfl ?_
        refine s_iload E dX2_openDoors_116 rfl ?_
        refine s_iload E dX2_openDoors_118 rfl ?_
        refine z_if_eq (tgt := 127) (u := 1) E dX2_openDoors_120 (by decide) (by decide) (fun h_17 => absurd h_17 (by omega)) (fun h_17 => ?_)
        refine s_iload_n E dX2_openDoors_123 rfl rfl ?_
        refine s_goto (tgt := 137) E dX2_openDoors_124 (by decide) ?_
        refine s_vV (As := [AR 2, AI q83_4_12, AI x2]) (S := []) E (Z_X2_openDoor_75_r2 l D aC b v83 q83_4_12 x2 hj_13.1 ) cv_X2_71 rfl rfl rfl (jv_lt hj_13 (by decide)) (Nat.le_of_ble_eq_true rfl) (Nat.le_of_ble_eq_true rfl) ⟨(Nat.le_of_ble_eq_true rfl), (Nat.le_of_ble_eq_true rfl)⟩ (Nat.le_of_ble_eq_true rfl) dX2_openDoors_137 (fun u_18 hp_19 => ?_)
        have hj_20 := jv_trans hj_13 hp_19
        refine z_iinc (u := q83_4_12.toInt) (L2 := fun z_21 => [some (AR 75), some (AR 2), some (AI x1), some (AI x2), some (AI z_21), some (AI 1)]) E dX2_openDoors_140 rfl rfl (by decide) (fun _ => rfl) (by decide) (by omega) (by omega) (fun z_21 hz_21 => ?_)
        refine s_goto (tgt := 83) E dX2_openDoors_143 (by decide) ?_
        refine s_drop (i := 5) (L2 := [some (AR 75), some (AR 2), some (AI x1), some (AI x2), some (AI z_21), none]) rfl ?_
        exact ih83 z_21 u_18 ⟨⟨by have hb_ := z32 z_21; omega, by have hb_ := z32 z_21; omega⟩, hj_20⟩ (by first | omega | decide | (dsimp only; omega) | (dsimp only; decide))
      ·
        refine s_iload_n E dX2_openDoors_101 rfl rfl ?_
        refine s_bipush (v := (-2)) E dX2_openDoors_102 (by decide) ?_
        refine z_icmp_ne (tgt := 111) (u := x1.toInt) (v := (-2)) E dX2_openDoors_104 (by decide) rfl (by decide) (fun h_22 => ?_) (fun h_22 => ?_)
        ·
          refine s_iconst (v := 0) E dX2_openDoors_111 (by decide) ?_
          refine s_istore (L2 := [some (AR 75), some (AR 2), some (AI x1), some (AI x2), some (AI q83_4_12), some (AI 0)]) E dX2_openDoors_112 (by decide) rfl ?_
          refine s_aload_n E dX2_openDoors_114 rfl rfl ?_
          refine s_aload_n E dX2_openDoors_115 rfl rfl ?_
          refine s_iload E dX2_openDoors_116 rfl ?_
          refine s_iload E dX2_openDoors_118 rfl ?_
          refine z_if_eq (tgt := 127) (u := 0) E dX2_openDoors_120 (by decide) (by decide) (fun h_23 => ?_) (fun h_23 => absurd h_23 (by omega))
          refine s_aload_n E dX2_openDoors_127 rfl rfl ?_
          refine s_gR (r := 3) E fg_X2_68 rfl rfl (jv_lt hj_13 (by decide)) (jv_r hj_13 (by decide +kernel)) dX2_openDoors_128 ?_
          refine s_iload E dX2_openDoors_131 rfl ?_
          refine s_iconst (v := 2) E dX2_openDoors_133 (by decide) ?_
          refine s_vI (As := [AI q83_4_12, AI 2]) (S := [AI q83_4_12, AR 2, AR 75]) E (Z_X8_cell_3 l D aC b v83 q83_4_12 2 hj_13.1 ) cv_X2_44 rfl rfl rfl (jv_lt hj_13 (by decide)) (Nat.le_of_ble_eq_true rfl) (Nat.le_of_ble_eq_true rfl) ⟨(Nat.le_of_ble_eq_true rfl), (Nat.le_of_ble_eq_true rfl)⟩ (Nat.le_of_ble_eq_true rfl) dX2_openDoors_134 (fun z_26 u_24 hp_25 => ?_)
          obtain ⟨hz_26, hp_25⟩ := hp_25
          subst hp_25
          refine s_vV (As := [AR 2, AI q83_4_12, AI z_26]) (S := []) E (Z_X2_openDoor_75_r2 l D aC b v83 q83_4_12 z_26 hj_13.1 ) cv_X2_71 rfl rfl rfl (jv_lt hj_13 (by decide)) (Nat.le_of_ble_eq_true rfl) (Nat.le_of_ble_eq_true rfl) ⟨(Nat.le_of_ble_eq_true rfl), (Nat.le_of_ble_eq_true rfl)⟩ (Nat.le_of_ble_eq_true rfl) dX2_openDoors_137 (fun u_28 hp_29 => ?_)
          have hj_30 := jv_trans hj_13 hp_29
          refine z_iinc (u := q83_4_12.toInt) (L2 := fun z_31 => [some (AR 75), some (AR 2), some (AI x1), some (AI x2), some (AI z_31), some (AI 0)]) E dX2_openDoors_140 rfl rfl (by decide) (fun _ => rfl) (by decide) (by omega) (by omega) (fun z_31 hz_31 => ?_)
          refine s_goto (tgt := 83) E dX2_openDoors_143 (by decide) ?_
          refine s_drop (i := 5) (L2 := [some (AR 75), some (AR 2), some (AI x1), some (AI x2), some (AI z_31), none]) rfl ?_
          exact ih83 z_31 u_28 ⟨⟨by have hb_ := z32 z_31; omega, by have hb_ := z32 z_31; omega⟩, hj_30⟩ (by first | omega | decide | (dsimp only; omega) | (dsimp only; decide))
        ·
          refine s_iconst (v := 1) E dX2_openDoors_107 (by decide) ?_
          refine s_goto (tgt := 112) E dX2_openDoors_108 (by decide) ?_
          refine s_istore (L2 := [some (AR 75), some (AR 2), some (AI x1), some (AI x2), some (AI q83_4_12), some (AI 1)]) E dX2_openDoors_112 (by decide) rfl ?_
          refine s_aload_n E dX2_openDoors_114 rfl rfl ?_
          refine s_aload_n E dX2_openDoors_115 rfl rfl ?_
          refine s_iload E dX2_openDoors_116 rfl ?_
          refine s_iload E dX2_openDoors_118 rfl ?_
          refine z_if_eq (tgt := 127) (u := 1) E dX2_openDoors_120 (by decide) (by decide) (fun h_32 => absurd h_32 (by omega)) (fun h_32 => ?_)
          refine s_iload_n E dX2_openDoors_123 rfl rfl ?_
          refine s_goto (tgt := 137) E dX2_openDoors_124 (by decide) ?_
          refine s_vV (As := [AR 2, AI q83_4_12, AI x2]) (S := []) E (Z_X2_openDoor_75_r2 l D aC b v83 q83_4_12 x2 hj_13.1 ) cv_X2_71 rfl rfl rfl (jv_lt hj_13 (by decide)) (Nat.le_of_ble_eq_true rfl) (Nat.le_of_ble_eq_true rfl) ⟨(Nat.le_of_ble_eq_true rfl), (Nat.le_of_ble_eq_true rfl)⟩ (Nat.le_of_ble_eq_true rfl) dX2_openDoors_137 (fun u_33 hp_34 => ?_)
          have hj_35 := jv_trans hj_13 hp_34
          refine z_iinc (u := q83_4_12.toInt) (L2 := fun z_36 => [some (AR 75), some (AR 2), some (AI x1), some (AI x2), some (AI z_36), some (AI 1)]) E dX2_openDoors_140 rfl rfl (by decide) (fun _ => rfl) (by decide) (by omega) (by omega) (fun z_36 hz_36 => ?_)
          refine s_goto (tgt := 83) E dX2_openDoors_143 (by decide) ?_
          refine s_drop (i := 5) (L2 := [some (AR 75), some (AR 2), some (AI x1), some (AI x2), some (AI z_36), none]) rfl ?_
          exact ih83 z_36 u_33 ⟨⟨by have hb_ := z32 z_36; omega, by have hb_ := z32 z_36; omega⟩, hj_35⟩ (by first | omega | decide | (dsimp only; omega) | (dsimp only; decide))
  ·
    refine s_iconst (v := 0) E dX2_openDoors_39 (by decide) ?_
    refine s_istore (L2 := [some (AR 75), some (AR 2), some (AI x1), some (AI x2), some (AI q30_4_9), some (AI 0)]) E dX2_openDoors_40 (by decide) rfl ?_
    refine z_loop (St := Int32) (Pi := fun q42_5_36 v42 => (0 ≤ q42_5_36.toInt ∧ q42_5_36.toInt ≤ 8) ∧ (1 ≤ (v42.2.2.1 75 5).toInt ∧ (v42.2.2.1 75 5).toInt ≤ 6) ∧ Jv w v42) (Lf := fun q42_5_36 => [some (AR 75), some (AR 2), some (AI x1), some (AI x2), some (AI q30_4_9), some (AI q42_5_36)]) (fun q42_5_36 _ => (9 - q42_5_36.toInt).toNat) 0 ⟨⟨by decide, by decide⟩, ⟨by omega, by omega⟩, hj_10⟩ ?_
    rintro q42_5_36 v42 ⟨hq42_5, ha42_0, hj_37⟩ ih42
    refine s_loc (L2 := [some (AR 75), some (AR 2), some (AI x1), some (AI x2), some (AI q30_4_9), some (AI q42_5_36)]) rfl ?_
    refine s_iload E dX2_openDoors_42 rfl ?_
    refine s_aload_n E dX2_openDoors_44 rfl rfl ?_
    refine s_gI E fg_X2_63 rfl rfl (jv_lt hj_37 (by decide)) dX2_openDoors_45 ?_
    refine z_nm (P := fun z => z.toInt = (v42.2.2.1 75 6).toInt ∧ 0 ≤ z.toInt ∧ z.toInt ≤ 8) ⟨rfl, (rg_75_6 hj_37)⟩ (fun z_38 hz_38 => ?_)
    refine z_icmp_ge (tgt := 74) (u := q42_5_36.toInt) (v := z_38.toInt) E dX2_openDoors_48 (by decide) rfl rfl (fun h_39 => ?_) (fun h_39 => ?_)
    ·
      refine z_iinc (u := q30_4_9.toInt) (L2 := fun z_40 => [some (AR 75), some (AR 2), some (AI x1), some (AI x2), some (AI z_40), some (AI q42_5_36)]) E dX2_openDoors_74 rfl rfl (by decide) (fun _ => rfl) (by decide) (by omega) (by omega) (fun z_40 hz_40 => ?_)
      refine s_goto (tgt := 30) E dX2_openDoors_77 (by decide) ?_
      refine s_drop (i := 5) (L2 := [some (AR 75), some (AR 2), some (AI x1), some (AI x2), some (AI z_40), none]) rfl ?_
      exact ih30 z_40 v42 ⟨⟨by have hb_ := z32 z_40; omega, by have hb_ := z32 z_40; omega⟩, hj_37⟩ (by first | omega | decide | (dsimp only; omega) | (dsimp only; decide))
    ·
      refine s_aload_n E dX2_openDoors_51 rfl rfl ?_
      refine s_gR (r := 76) E fg_X2_9 rfl rfl (jv_lt hj_37 (by decide)) (jv_r hj_37 (by decide +kernel)) dX2_openDoors_52 ?_
      refine s_iload E dX2_openDoors_55 rfl ?_
      refine s_bipush (v := 8) E dX2_openDoors_57 (by decide) ?_
      refine z_imul (u := q30_4_9.toInt) (v := 8) E dX2_openDoors_59 rfl (by decide) (by omega) (by omega) (fun z_41 hz_41 => ?_)
      refine s_iload E dX2_openDoors_60 rfl ?_
      refine z_iadd (u := z_41.toInt) (v := q42_5_36.toInt) E dX2_openDoors_62 rfl rfl (by omega) (by omega) (fun z_42 hz_42 => ?_)
      refine s_iconst (v := 1) E dX2_openDoors_63 (by decide) ?_
      refine s_iload E dX2_openDoors_64 rfl ?_
      refine z_shl1 7 (u := q42_5_36.toInt) (B := 128) E dX2_openDoors_66 rfl (by omega) (by omega) (by decide) (by decide) (fun z_43 hz_43 => ?_)
      refine s_iast E rfl (jv_lt hj_37 (by decide)) (z_in (u := z_42.toInt) rfl (by omega) (by omega)) dX2_openDoors_67 ?_
      refine s_gen (P := fun v => Jv w v ∧ (v.2.2.1 75 5).toInt = (v42.2.2.1 75 5).toInt ∧ (v.2.2.1 75 6).toInt = (v42.2.2.1 75 6).toInt) ⟨(jv_a_76 hj_37 (by have hb_ := z32 z_43; omega) (by have hb_ := z32 z_43; omega)), rfl, rfl⟩ (fun v_44 hj_45 => ?_)
      obtain ⟨hj_45, hk_46k0, hk_46k1⟩ := hj_45
      refine z_iinc (u := q42_5_36.toInt) (L2 := fun z_47 => [some (AR 75), some (AR 2), some (AI x1), some (AI x2), some (AI q30_4_9), some (AI z_47)]) E dX2_openDoors_68 rfl rfl (by decide) (fun _ => rfl) (by decide) (by omega) (by omega) (fun z_47 hz_47 => ?_)
      refine s_goto (tgt := 42) E dX2_openDoors_71 (by decide) ?_
      exact ih42 z_47 v_44 ⟨⟨by have hb_ := z32 z_47; omega, by have hb_ := z32 z_47; omega⟩, ⟨by omega, by omega⟩, hj_45⟩ (by first | omega | decide | (dsimp only; omega) | (dsimp only; decide))
set_option maxRecDepth 20000 in
set_option maxHeartbeats 2000000 in
theorem Z_J7_fill_53178_r77 (l : Launch) (D : va_G) (aC : Nat → ClassId) (b : Nat) (w : XW) (x1 : Int32) (hI : Iv w)  : CnV l D aC b M_J7_fill_53178 0 0 0 0 [AR 77, AI x1] w (fun u => Jv w u) := by
  refine cn_V (own := RJ7) (nm := "fill") (L0 := [some (AR 77), some (AI x1), none, none]) (by decide +kernel) rfl rfl (Nat.le_of_ble_eq_true rfl) rfl ?_
  intro p e s m args below meth c E hin
  have hJ : Jv w w := jv_rfl hI
  have hb_x1 := z32 x1
  refine s_iconst (v := 0) E dJ7_fill_53178_0 (by decide) ?_
  refine s_istore_n (L2 := [some (AR 77), some (AI x1), some (AI 0), none]) E dJ7_fill_53178_1 rfl (by decide) rfl ?_
  refine s_aload_n E dJ7_fill_53178_2 rfl rfl ?_
  refine s_alen (v := 90) E rfl (by decide) (jv_lt hJ (by decide)) (by decide) dJ7_fill_53178_3 ?_
  refine s_istore_n (L2 := [some (AR 77), some (AI x1), some (AI 0), some (AI 90)]) E dJ7_fill_53178_4 rfl (by decide) rfl ?_
  refine z_loop (St := Int32) (Pi := fun q5_2_0 v5 => (0 ≤ q5_2_0.toInt ∧ q5_2_0.toInt ≤ 90) ∧ Jv w v5) (Lf := fun q5_2_0 => [some (AR 77), some (AI x1), some (AI q5_2_0), some (AI 90)]) (fun q5_2_0 _ => (91 - q5_2_0.toInt).toNat) 0 ⟨⟨by decide, by decide⟩, hJ⟩ ?_
  rintro q5_2_0 v5 ⟨hq5_2, hj_1⟩ ih5
  refine s_loc (L2 := [some (AR 77), some (AI x1), some (AI q5_2_0), some (AI 90)]) rfl ?_
  refine s_iload_n E dJ7_fill_53178_5 rfl rfl ?_
  refine s_iload_n E dJ7_fill_53178_6 rfl rfl ?_
  refine z_icmp_ge (tgt := 20) (u := q5_2_0.toInt) (v := 90) E dJ7_fill_53178_7 (by decide) rfl (by decide) (fun h_2 => ?_) (fun h_2 => ?_)
  ·
    exact r_void E dJ7_fill_53178_20 hj_1
  ·
    refine s_aload_n E dJ7_fill_53178_10 rfl rfl ?_
    refine s_iload_n E dJ7_fill_53178_11 rfl rfl ?_
    refine s_iload_n E dJ7_fill_53178_12 rfl rfl ?_
    refine s_iast E rfl (jv_lt hj_1 (by decide)) (z_in (u := q5_2_0.toInt) rfl (by omega) (by omega)) dJ7_fill_53178_13 ?_
    refine s_gen (P := Jv w) (jv_a_77 hj_1 (by have hb_ := z32 x1; omega) (by have hb_ := z32 x1; omega)) (fun v_3 hj_4 => ?_)
    refine z_iinc (u := q5_2_0.toInt) (L2 := fun z_5 => [some (AR 77), some (AI x1), some (AI z_5), some (AI 90)]) E dJ7_fill_53178_14 rfl rfl (by decide) (fun _ => rfl) (by decide) (by omega) (by omega) (fun z_5 hz_5 => ?_)
    refine s_goto (tgt := 5) E dJ7_fill_53178_17 (by decide) ?_
    exact ih5 z_5 v_3 ⟨⟨by have hb_ := z32 z_5; omega, by have hb_ := z32 z_5; omega⟩, hj_4⟩ (by first | omega | decide | (dsimp only; omega) | (dsimp only; decide))
set_option maxRecDepth 20000 in
set_option maxHeartbeats 2000000 in
theorem Z_J7_fill_53178_r78 (l : Launch) (D : va_G) (aC : Nat → ClassId) (b : Nat) (w : XW) (x1 : Int32) (hI : Iv w)  : CnV l D aC b M_J7_fill_53178 0 0 0 0 [AR 78, AI x1] w (fun u => Jv w u) := by
  refine cn_V (own := RJ7) (nm := "fill") (L0 := [some (AR 78), some (AI x1), none, none]) (by decide +kernel) rfl rfl (Nat.le_of_ble_eq_true rfl) rfl ?_
  intro p e s m args below meth c E hin
  have hJ : Jv w w := jv_rfl hI
  have hb_x1 := z32 x1
  refine s_iconst (v := 0) E dJ7_fill_53178_0 (by decide) ?_
  refine s_istore_n (L2 := [some (AR 78), some (AI x1), some (AI 0), none]) E dJ7_fill_53178_1 rfl (by decide) rfl ?_
  refine s_aload_n E dJ7_fill_53178_2 rfl rfl ?_
  refine s_alen (v := 90) E rfl (by decide) (jv_lt hJ (by decide)) (by decide) dJ7_fill_53178_3 ?_
  refine s_istore_n (L2 := [some (AR 78), some (AI x1), some (AI 0), some (AI 90)]) E dJ7_fill_53178_4 rfl (by decide) rfl ?_
  refine z_loop (St := Int32) (Pi := fun q5_2_0 v5 => (0 ≤ q5_2_0.toInt ∧ q5_2_0.toInt ≤ 90) ∧ Jv w v5) (Lf := fun q5_2_0 => [some (AR 78), some (AI x1), some (AI q5_2_0), some (AI 90)]) (fun q5_2_0 _ => (91 - q5_2_0.toInt).toNat) 0 ⟨⟨by decide, by decide⟩, hJ⟩ ?_
  rintro q5_2_0 v5 ⟨hq5_2, hj_1⟩ ih5
  refine s_loc (L2 := [some (AR 78), some (AI x1), some (AI q5_2_0), some (AI 90)]) rfl ?_
  refine s_iload_n E dJ7_fill_53178_5 rfl rfl ?_
  refine s_iload_n E dJ7_fill_53178_6 rfl rfl ?_
  refine z_icmp_ge (tgt := 20) (u := q5_2_0.toInt) (v := 90) E dJ7_fill_53178_7 (by decide) rfl (by decide) (fun h_2 => ?_) (fun h_2 => ?_)
  ·
    exact r_void E dJ7_fill_53178_20 hj_1
  ·
    refine s_aload_n E dJ7_fill_53178_10 rfl rfl ?_
    refine s_iload_n E dJ7_fill_53178_11 rfl rfl ?_
    refine s_iload_n E dJ7_fill_53178_12 rfl rfl ?_
    refine s_iast E rfl (jv_lt hj_1 (by decide)) (z_in (u := q5_2_0.toInt) rfl (by omega) (by omega)) dJ7_fill_53178_13 ?_
    refine s_gen (P := Jv w) (jv_a_78 hj_1 (by have hb_ := z32 x1; omega) (by have hb_ := z32 x1; omega)) (fun v_3 hj_4 => ?_)
    refine z_iinc (u := q5_2_0.toInt) (L2 := fun z_5 => [some (AR 78), some (AI x1), some (AI z_5), some (AI 90)]) E dJ7_fill_53178_14 rfl rfl (by decide) (fun _ => rfl) (by decide) (by omega) (by omega) (fun z_5 hz_5 => ?_)
    refine s_goto (tgt := 5) E dJ7_fill_53178_17 (by decide) ?_
    exact ih5 z_5 v_3 ⟨⟨by have hb_ := z32 z_5; omega, by have hb_ := z32 z_5; omega⟩, hj_4⟩ (by first | omega | decide | (dsimp only; omega) | (dsimp only; decide))
set_option maxRecDepth 20000 in
set_option maxHeartbeats 2000000 in
theorem Z_X2_hearBid_75 (l : Launch) (D : va_G) (aC : Nat → ClassId) (b : Nat) (w : XW) (x1 : Int32) (x2 : Int32) (x3 : Int32) (hI : Iv w)  : CnV l D aC b M_X2_hearBid 0 0 0 0 [AR 75, AI x1, AI x2, AI x3] w (fun u => Jv w u) := by
  refine cn_V (own := RX2) (nm := "hearBid") (L0 := [some (AR 75), some (AI x1), some (AI x2), some (AI x3), none]) (by decide +kernel) rfl rfl (Nat.le_of_ble_eq_true rfl) rfl ?_
  intro p e s m args below meth c E hin
  have hJ : Jv w w := jv_rfl hI
  have hb_x1 := z32 x1
  have hb_x2 := z32 x2
  have hb_x3 := z32 x3
  refine s_iload_n E dX2_hearBid_0 rfl rfl ?_
  refine z_if_lt (tgt := 16) (u := x1.toInt) E dX2_hearBid_1 (by decide) rfl (fun h_1 => ?_) (fun h_1 => ?_)
  ·
    exact r_void E dX2_hearBid_16 hJ
  ·
    refine s_iload_n E dX2_hearBid_4 rfl rfl ?_
    refine s_aload_n E dX2_hearBid_5 rfl rfl ?_
    refine s_gI E fg_X2_35 rfl rfl (jv_lt hJ (by decide)) dX2_hearBid_6 ?_
    refine z_nm (P := fun z => z.toInt = (w.2.2.1 75 5).toInt ∧ 0 ≤ z.toInt ∧ z.toInt ≤ 6) ⟨rfl, (rg_75_5 hJ)⟩ (fun z_2 hz_2 => ?_)
    refine z_icmp_ge (tgt := 16) (u := x1.toInt) (v := z_2.toInt) E dX2_hearBid_9 (by decide) rfl rfl (fun h_3 => ?_) (fun h_3 => ?_)
    ·
      exact r_void E dX2_hearBid_16 hJ
    ·
      refine s_iload_n E dX2_hearBid_12 rfl rfl ?_
      refine z_if_ge (tgt := 17) (u := x3.toInt) E dX2_hearBid_13 (by decide) rfl (fun h_4 => ?_) (fun h_4 => ?_)
      ·
        refine s_iload_n E dX2_hearBid_17 rfl rfl ?_
        refine s_istore (L2 := [some (AR 75), some (AI x1), some (AI x2), some (AI x3), some (AI x3)]) E dX2_hearBid_18 (by decide) rfl ?_
        refine z_loop (St := Int32) (Pi := fun q20_4_4 v20 => (0 ≤ q20_4_4.toInt ∧ q20_4_4.toInt ≤ 2147483647) ∧ (1 ≤ (v20.2.2.1 75 5).toInt ∧ (v20.2.2.1 75 5).toInt ≤ 6) ∧ Jv w v20) (Lf := fun q20_4_4 => [some (AR 75), some (AI x1), some (AI x2), some (AI x3), some (AI q20_4_4)]) (fun q20_4_4 _ => (2147483648 - q20_4_4.toInt).toNat) x3 ⟨⟨by have hb_ := z32 x3; omega, by have hb_ := z32 x3; omega⟩, ⟨by omega, by omega⟩, hJ⟩ ?_
        rintro q20_4_4 v20 ⟨hq20_4, ha20_0, hj_5⟩ ih20
        refine s_loc (L2 := [some (AR 75), some (AI x1), some (AI x2), some (AI x3), some (AI q20_4_4)]) rfl ?_
        refine s_iload E dX2_hearBid_20 rfl ?_
        refine s_aload_n E dX2_hearBid_22 rfl rfl ?_
        refine s_gI E fg_X2_67 rfl rfl (jv_lt hj_5 (by decide)) dX2_hearBid_23 ?_
        refine z_nm (P := fun z => z.toInt = (v20.2.2.1 75 7).toInt ∧ 0 ≤ z.toInt ∧ z.toInt ≤ 14) ⟨rfl, (rg_75_7 hj_5)⟩ (fun z_6 hz_6 => ?_)
        refine z_icmp_gt (tgt := 77) (u := q20_4_4.toInt) (v := z_6.toInt) E dX2_hearBid_26 (by decide) rfl rfl (fun h_7 => ?_) (fun h_7 => ?_)
        ·
          exact r_void E dX2_hearBid_77 hj_5
        ·
          refine s_aload_n E dX2_hearBid_29 rfl rfl ?_
          refine s_gR (r := 78) E fg_X2_18 rfl rfl (jv_lt hj_5 (by decide)) (jv_r hj_5 (by decide +kernel)) dX2_hearBid_30 ?_
          refine s_iload_n E dX2_hearBid_33 rfl rfl ?_
          refine s_bipush (v := 15) E dX2_hearBid_34 (by decide) ?_
          refine z_imul (u := x1.toInt) (v := 15) E dX2_hearBid_36 rfl (by decide) (by omega) (by omega) (fun z_8 hz_8 => ?_)
          refine s_iload E dX2_hearBid_37 rfl ?_
          refine z_iadd (u := z_8.toInt) (v := q20_4_4.toInt) E dX2_hearBid_39 rfl rfl (by omega) (by omega) (fun z_9 hz_9 => ?_)
          refine s_iald E rfl (jv_lt hj_5 (by decide)) (z_in (u := z_9.toInt) rfl (by omega) (by omega)) dX2_hearBid_40 ?_
          refine z_nm (P := fun z => (-2147483648) ≤ z.toInt ∧ z.toInt ≤ 2147483647) (z32 _) (fun z_10 hz_10 => ?_)
          refine s_iload_n E dX2_hearBid_41 rfl rfl ?_
          refine z_icmp_gt (tgt := 71) (u := z_10.toInt) (v := x3.toInt) E dX2_hearBid_42 (by decide) rfl rfl (fun h_11 => ?_) (fun h_11 => ?_)
          ·
            refine z_iinc (u := q20_4_4.toInt) (L2 := fun z_12 => [some (AR 75), some (AI x1), some (AI x2), some (AI x3), some (AI z_12)]) E dX2_hearBid_71 rfl rfl (by decide) (fun _ => rfl) (by decide) (by omega) (by omega) (fun z_12 hz_12 => ?_)
            refine s_goto (tgt := 20) E dX2_hearBid_74 (by decide) ?_
            exact ih20 z_12 v20 ⟨⟨by have hb_ := z32 z_12; omega, by have hb_ := z32 z_12; omega⟩, ⟨by omega, by omega⟩, hj_5⟩ (by first | omega | decide | (dsimp only; omega) | (dsimp only; decide))
          ·
            refine s_aload_n E dX2_hearBid_45 rfl rfl ?_
            refine s_gR (r := 78) E fg_X2_18 rfl rfl (jv_lt hj_5 (by decide)) (jv_r hj_5 (by decide +kernel)) dX2_hearBid_46 ?_
            refine s_iload_n E dX2_hearBid_49 rfl rfl ?_
            refine s_bipush (v := 15) E dX2_hearBid_50 (by decide) ?_
            refine z_imul (u := x1.toInt) (v := 15) E dX2_hearBid_52 rfl (by decide) (by omega) (by omega) (fun z_13 hz_13 => ?_)
            refine s_iload E dX2_hearBid_53 rfl ?_
            refine z_iadd (u := z_13.toInt) (v := q20_4_4.toInt) E dX2_hearBid_55 rfl rfl (by omega) (by omega) (fun z_14 hz_14 => ?_)
            refine s_iload_n E dX2_hearBid_56 rfl rfl ?_
            refine s_iast E rfl (jv_lt hj_5 (by decide)) (z_in (u := z_14.toInt) rfl (by omega) (by omega)) dX2_hearBid_57 ?_
            refine s_gen (P := fun v => Jv w v ∧ (v.2.2.1 75 5).toInt = (v20.2.2.1 75 5).toInt) ⟨(jv_a_78 hj_5 (by have hb_ := z32 x3; omega) (by have hb_ := z32 x3; omega)), rfl⟩ (fun v_15 hj_16 => ?_)
            obtain ⟨hj_16, hk_17k0⟩ := hj_16
            refine s_aload_n E dX2_hearBid_58 rfl rfl ?_
            refine s_gR (r := 77) E fg_X2_15 rfl rfl (jv_lt hj_16 (by decide)) (jv_r hj_16 (by decide +kernel)) dX2_hearBid_59 ?_
            refine s_iload_n E dX2_hearBid_62 rfl rfl ?_
            refine s_bipush (v := 15) E dX2_hearBid_63 (by decide) ?_
            refine z_imul (u := x1.toInt) (v := 15) E dX2_hearBid_65 rfl (by decide) (by omega) (by omega) (fun z_18 hz_18 => ?_)
            refine s_iload E dX2_hearBid_66 rfl ?_
            refine z_iadd (u := z_18.toInt) (v := q20_4_4.toInt) E dX2_hearBid_68 rfl rfl (by omega) (by omega) (fun z_19 hz_19 => ?_)
            refine s_iload_n E dX2_hearBid_69 rfl rfl ?_
            refine s_iast E rfl (jv_lt hj_16 (by decide)) (z_in (u := z_19.toInt) rfl (by omega) (by omega)) dX2_hearBid_70 ?_
            refine s_gen (P := fun v => Jv w v ∧ (v.2.2.1 75 5).toInt = (v_15.2.2.1 75 5).toInt) ⟨(jv_a_77 hj_16 (by have hb_ := z32 x2; omega) (by have hb_ := z32 x2; omega)), rfl⟩ (fun v_20 hj_21 => ?_)
            obtain ⟨hj_21, hk_22k0⟩ := hj_21
            refine z_iinc (u := q20_4_4.toInt) (L2 := fun z_23 => [some (AR 75), some (AI x1), some (AI x2), some (AI x3), some (AI z_23)]) E dX2_hearBid_71 rfl rfl (by decide) (fun _ => rfl) (by decide) (by omega) (by omega) (fun z_23 hz_23 => ?_)
            refine s_goto (tgt := 20) E dX2_hearBid_74 (by decide) ?_
            exact ih20 z_23 v_20 ⟨⟨by have hb_ := z32 z_23; omega, by have hb_ := z32 z_23; omega⟩, ⟨by omega, by omega⟩, hj_21⟩ (by first | omega | decide | (dsimp only; omega) | (dsimp only; decide))
      ·
        exact r_void E dX2_hearBid_16 hJ
set_option maxRecDepth 20000 in
set_option maxHeartbeats 2000000 in
theorem Z_X2_hearBids_75_r2 (l : Launch) (D : va_G) (aC : Nat → ClassId) (b : Nat) (w : XW)  (hI : Iv w)  : CnV l D aC b M_X2_hearBids 2 44 0 0 [AR 75, AR 2] w (fun u => Jv w u) := by
  refine cn_V (own := RX2) (nm := "hearBids") (L0 := [some (AR 75), some (AR 2), none]) (by decide +kernel) rfl rfl (Nat.le_of_ble_eq_true rfl) rfl ?_
  intro p e s m args below meth c E hin
  have hJ : Jv w w := jv_rfl hI
  refine s_aload_n E dX2_hearBids_0 rfl rfl ?_
  refine s_gR (r := 77) E fg_X2_15 rfl rfl (jv_lt hJ (by decide)) (jv_r hJ (by decide +kernel)) dX2_hearBids_1 ?_
  refine s_iconst (v := (-1)) E dX2_hearBids_4 (by decide) ?_
  refine s_sV (As := [AR 77, AI (-1)]) (S := []) E (Z_J7_fill_53178_r77 l D aC b w ((-1)) hJ.1 ) cs_X2_78 rfl rfl (Nat.le_of_ble_eq_true rfl) (Nat.le_of_ble_eq_true rfl) ⟨(Nat.le_of_ble_eq_true rfl), (Nat.le_of_ble_eq_true rfl)⟩ (Nat.le_of_ble_eq_true rfl) dX2_hearBids_5 (fun u_1 hp_2 => ?_)
  have hj_3 := jv_trans hJ hp_2
  refine s_aload_n E dX2_hearBids_8 rfl rfl ?_
  refine s_gR (r := 78) E fg_X2_18 rfl rfl (jv_lt hj_3 (by decide)) (jv_r hj_3 (by decide +kernel)) dX2_hearBids_9 ?_
  refine s_iconst (v := (-1)) E dX2_hearBids_12 (by decide) ?_
  refine s_sV (As := [AR 78, AI (-1)]) (S := []) E (Z_J7_fill_53178_r78 l D aC b u_1 ((-1)) hj_3.1 ) cs_X2_78 rfl rfl (Nat.le_of_ble_eq_true rfl) (Nat.le_of_ble_eq_true rfl) ⟨(Nat.le_of_ble_eq_true rfl), (Nat.le_of_ble_eq_true rfl)⟩ (Nat.le_of_ble_eq_true rfl) dX2_hearBids_13 (fun u_4 hp_5 => ?_)
  have hj_6 := jv_trans hj_3 hp_5
  refine s_iconst (v := 0) E dX2_hearBids_16 (by decide) ?_
  refine s_istore_n (L2 := [some (AR 75), some (AR 2), some (AI 0)]) E dX2_hearBids_17 rfl (by decide) rfl ?_
  refine z_loop (St := Int32) (Pi := fun q18_2_6 v18 => (0 ≤ q18_2_6.toInt ∧ q18_2_6.toInt ≤ 10) ∧ Jv w v18) (Lf := fun q18_2_6 => [some (AR 75), some (AR 2), some (AI q18_2_6)]) (fun q18_2_6 _ => (11 - q18_2_6.toInt).toNat) 0 ⟨⟨by decide, by decide⟩, hj_6⟩ ?_
  rintro q18_2_6 v18 ⟨hq18_2, hj_7⟩ ih18
  refine s_loc (L2 := [some (AR 75), some (AR 2), some (AI q18_2_6)]) rfl ?_
  refine s_iload_n E dX2_hearBids_18 rfl rfl ?_
  refine s_aload_n E dX2_hearBids_19 rfl rfl ?_
  refine s_gR (r := 9) E fg_X2_84 rfl rfl (jv_lt hj_7 (by decide)) (jv_r hj_7 (by decide +kernel)) dX2_hearBids_20 ?_
  refine s_gI E fg_X2_57 rfl rfl (jv_lt hj_7 (by decide)) dX2_hearBids_23 ?_
  refine z_nm (P := fun z => z.toInt = (v18.2.2.1 9 3).toInt ∧ 0 ≤ z.toInt ∧ z.toInt ≤ 10) ⟨rfl, (rg_9_3 hj_7)⟩ (fun z_8 hz_8 => ?_)
  refine z_icmp_ge (tgt := 66) (u := q18_2_6.toInt) (v := z_8.toInt) E dX2_hearBids_26 (by decide) rfl rfl (fun h_9 => ?_) (fun h_9 => ?_)
  ·
    refine s_iconst (v := 0) E dX2_hearBids_66 (by decide) ?_
    refine s_istore_n (L2 := [some (AR 75), some (AR 2), some (AI 0)]) E dX2_hearBids_67 rfl (by decide) rfl ?_
    refine z_loop (St := Int32) (Pi := fun q68_2_9 v68 => (0 ≤ q68_2_9.toInt ∧ q68_2_9.toInt ≤ 30) ∧ Jv w v68) (Lf := fun q68_2_9 => [some (AR 75), some (AR 2), some (AI q68_2_9)]) (fun q68_2_9 _ => (31 - q68_2_9.toInt).toNat) 0 ⟨⟨by decide, by decide⟩, hj_7⟩ ?_
    rintro q68_2_9 v68 ⟨hq68_2, hj_10⟩ ih68
    refine s_loc (L2 := [some (AR 75), some (AR 2), some (AI q68_2_9)]) rfl ?_
    refine s_iload_n E dX2_hearBids_68 rfl rfl ?_
    refine s_aload_n E dX2_hearBids_69 rfl rfl ?_
    refine s_gR (r := 11) E fg_X2_91 rfl rfl (jv_lt hj_10 (by decide)) (jv_r hj_10 (by decide +kernel)) dX2_hearBids_70 ?_
    refine s_gI E fg_X2_57 rfl rfl (jv_lt hj_10 (by decide)) dX2_hearBids_73 ?_
    refine z_nm (P := fun z => z.toInt = (v68.2.2.1 11 3).toInt ∧ 0 ≤ z.toInt ∧ z.toInt ≤ 30) ⟨rfl, (rg_11_3 hj_10)⟩ (fun z_11 hz_11 => ?_)
    refine z_icmp_ge (tgt := 128) (u := q68_2_9.toInt) (v := z_11.toInt) E dX2_hearBids_76 (by decide) rfl rfl (fun h_12 => ?_) (fun h_12 => ?_)
    ·
      exact r_void E dX2_hearBids_128 hj_10
    ·
      refine s_aload_n E dX2_hearBids_79 rfl rfl ?_
      refine s_gR (r := 11) E fg_X2_91 rfl rfl (jv_lt hj_10 (by decide)) (jv_r hj_10 (by decide +kernel)) dX2_hearBids_80 ?_
      refine s_iload_n E dX2_hearBids_83 rfl rfl ?_
      refine s_iconst (v := 0) E dX2_hearBids_84 (by decide) ?_
      refine s_vI (As := [AI q68_2_9, AI 0]) (S := []) E (Z_X8_cell_11 l D aC b v68 q68_2_9 0 hj_10.1 ) cv_X2_44 rfl rfl rfl (jv_lt hj_10 (by decide)) (Nat.le_of_ble_eq_true rfl) (Nat.le_of_ble_eq_true rfl) ⟨(Nat.le_of_ble_eq_true rfl), (Nat.le_of_ble_eq_true rfl)⟩ (Nat.le_of_ble_eq_true rfl) dX2_hearBids_85 (fun z_15 u_13 hp_14 => ?_)
      obtain ⟨hz_15, hp_14⟩ := hp_14
      subst hp_14
      refine z_if_ne (tgt := 122) (u := z_15.toInt) E dX2_hearBids_88 (by decide) rfl (fun h_17 => ?_) (fun h_17 => ?_)
      ·
        refine z_iinc (u := q68_2_9.toInt) (L2 := fun z_18 => [some (AR 75), some (AR 2), some (AI z_18)]) E dX2_hearBids_122 rfl rfl (by decide) (fun _ => rfl) (by decide) (by omega) (by omega) (fun z_18 hz_18 => ?_)
        refine s_goto (tgt := 68) E dX2_hearBids_125 (by decide) ?_
        exact ih68 z_18 v68 ⟨⟨by have hb_ := z32 z_18; omega, by have hb_ := z32 z_18; omega⟩, hj_10⟩ (by first | omega | decide | (dsimp only; omega) | (dsimp only; decide))
      ·
        refine s_aload_n E dX2_hearBids_91 rfl rfl ?_
        refine s_aload_n E dX2_hearBids_92 rfl rfl ?_
        refine s_gR (r := 11) E fg_X2_91 rfl rfl (jv_lt hj_10 (by decide)) (jv_r hj_10 (by decide +kernel)) dX2_hearBids_93 ?_
        refine s_iload_n E dX2_hearBids_96 rfl rfl ?_
        refine s_iconst (v := 1) E dX2_hearBids_97 (by decide) ?_
        refine s_vI (As := [AI q68_2_9, AI 1]) (S := [AR 75]) E (Z_X8_cell_11 l D aC b v68 q68_2_9 1 hj_10.1 ) cv_X2_44 rfl rfl rfl (jv_lt hj_10 (by decide)) (Nat.le_of_ble_eq_true rfl) (Nat.le_of_ble_eq_true rfl) ⟨(Nat.le_of_ble_eq_true rfl), (Nat.le_of_ble_eq_true rfl)⟩ (Nat.le_of_ble_eq_true rfl) dX2_hearBids_98 (fun z_21 u_19 hp_20 => ?_)
        obtain ⟨hz_21, hp_20⟩ := hp_20
        subst hp_20
        refine s_aload_n E dX2_hearBids_101 rfl rfl ?_
        refine s_gR (r := 11) E fg_X2_91 rfl rfl (jv_lt hj_10 (by decide)) (jv_r hj_10 (by decide +kernel)) dX2_hearBids_102 ?_
        refine s_iload_n E dX2_hearBids_105 rfl rfl ?_
        refine s_iconst (v := 2) E dX2_hearBids_106 (by decide) ?_
        refine s_vI (As := [AI q68_2_9, AI 2]) (S := [AI z_21, AR 75]) E (Z_X8_cell_11 l D aC b v68 q68_2_9 2 hj_10.1 ) cv_X2_44 rfl rfl rfl (jv_lt hj_10 (by decide)) (Nat.le_of_ble_eq_true rfl) (Nat.le_of_ble_eq_true rfl) ⟨(Nat.le_of_ble_eq_true rfl), (Nat.le_of_ble_eq_true rfl)⟩ (Nat.le_of_ble_eq_true rfl) dX2_hearBids_107 (fun z_25 u_23 hp_24 => ?_)
        obtain ⟨hz_25, hp_24⟩ := hp_24
        subst hp_24
        refine s_aload_n E dX2_hearBids_110 rfl rfl ?_
        refine s_gR (r := 11) E fg_X2_91 rfl rfl (jv_lt hj_10 (by decide)) (jv_r hj_10 (by decide +kernel)) dX2_hearBids_111 ?_
        refine s_iload_n E dX2_hearBids_114 rfl rfl ?_
        refine s_iconst (v := 3) E dX2_hearBids_115 (by decide) ?_
        refine s_vI (As := [AI q68_2_9, AI 3]) (S := [AI z_25, AI z_21, AR 75]) E (Z_X8_cell_11 l D aC b v68 q68_2_9 3 hj_10.1 ) cv_X2_44 rfl rfl rfl (jv_lt hj_10 (by decide)) (Nat.le_of_ble_eq_true rfl) (Nat.le_of_ble_eq_true rfl) ⟨(Nat.le_of_ble_eq_true rfl), (Nat.le_of_ble_eq_true rfl)⟩ (Nat.le_of_ble_eq_true rfl) dX2_hearBids_116 (fun z_29 u_27 hp_28 => ?_)
        obtain ⟨hz_29, hp_28⟩ := hp_28
        subst hp_28
        refine s_vV (As := [AI z_21, AI z_25, AI z_29]) (S := []) E (Z_X2_hearBid_75 l D aC b v68 z_21 z_25 z_29 hj_10.1 ) cv_X2_87 rfl rfl rfl (jv_lt hj_10 (by decide)) (Nat.le_of_ble_eq_true rfl) (Nat.le_of_ble_eq_true rfl) ⟨(Nat.le_of_ble_eq_true rfl), (Nat.le_of_ble_eq_true rfl)⟩ (Nat.le_of_ble_eq_true rfl) dX2_hearBids_119 (fun u_31 hp_32 => ?_)
        have hj_33 := jv_trans hj_10 hp_32
        refine z_iinc (u := q68_2_9.toInt) (L2 := fun z_34 => [some (AR 75), some (AR 2), some (AI z_34)]) E dX2_hearBids_122 rfl rfl (by decide) (fun _ => rfl) (by decide) (by omega) (by omega) (fun z_34 hz_34 => ?_)
        refine s_goto (tgt := 68) E dX2_hearBids_125 (by decide) ?_
        exact ih68 z_34 u_31 ⟨⟨by have hb_ := z32 z_34; omega, by have hb_ := z32 z_34; omega⟩, hj_33⟩ (by first | omega | decide | (dsimp only; omega) | (dsimp only; decide))
  ·
    refine s_aload_n E dX2_hearBids_29 rfl rfl ?_
    refine s_aload_n E dX2_hearBids_30 rfl rfl ?_
    refine s_gR (r := 9) E fg_X2_84 rfl rfl (jv_lt hj_7 (by decide)) (jv_r hj_7 (by decide +kernel)) dX2_hearBids_31 ?_
    refine s_iload_n E dX2_hearBids_34 rfl rfl ?_
    refine s_iconst (v := 0) E dX2_hearBids_35 (by decide) ?_
    refine s_vI (As := [AI q18_2_6, AI 0]) (S := [AR 75]) E (Z_X8_cell_9 l D aC b v18 q18_2_6 0 hj_7.1 ) cv_X2_44 rfl rfl rfl (jv_lt hj_7 (by decide)) (Nat.le_of_ble_eq_true rfl) (Nat.le_of_ble_eq_true rfl) ⟨(Nat.le_of_ble_eq_true rfl), (Nat.le_of_ble_eq_true rfl)⟩ (Nat.le_of_ble_eq_true rfl) dX2_hearBids_36 (fun z_37 u_35 hp_36 => ?_)
    obtain ⟨hz_37, hp_36⟩ := hp_36
    subst hp_36
    refine s_aload_n E dX2_hearBids_39 rfl rfl ?_
    refine s_gR (r := 9) E fg_X2_84 rfl rfl (jv_lt hj_7 (by decide)) (jv_r hj_7 (by decide +kernel)) dX2_hearBids_40 ?_
    refine s_iload_n E dX2_hearBids_43 rfl rfl ?_
    refine s_iconst (v := 1) E dX2_hearBids_44 (by decide) ?_
    refine s_vI (As := [AI q18_2_6, AI 1]) (S := [AI z_37, AR 75]) E (Z_X8_cell_9 l D aC b v18 q18_2_6 1 hj_7.1 ) cv_X2_44 rfl rfl rfl (jv_lt hj_7 (by decide)) (Nat.le_of_ble_eq_true rfl) (Nat.le_of_ble_eq_true rfl) ⟨(Nat.le_of_ble_eq_true rfl), (Nat.le_of_ble_eq_true rfl)⟩ (Nat.le_of_ble_eq_true rfl) dX2_hearBids_45 (fun z_41 u_39 hp_40 => ?_)
    obtain ⟨hz_41, hp_40⟩ := hp_40
    subst hp_40
    refine s_aload_n E dX2_hearBids_48 rfl rfl ?_
    refine s_gR (r := 9) E fg_X2_84 rfl rfl (jv_lt hj_7 (by decide)) (jv_r hj_7 (by decide +kernel)) dX2_hearBids_49 ?_
    refine s_iload_n E dX2_hearBids_52 rfl rfl ?_
    refine s_iconst (v := 2) E dX2_hearBids_53 (by decide) ?_
    refine s_vI (As := [AI q18_2_6, AI 2]) (S := [AI z_41, AI z_37, AR 75]) E (Z_X8_cell_9 l D aC b v18 q18_2_6 2 hj_7.1 ) cv_X2_44 rfl rfl rfl (jv_lt hj_7 (by decide)) (Nat.le_of_ble_eq_true rfl) (Nat.le_of_ble_eq_true rfl) ⟨(Nat.le_of_ble_eq_true rfl), (Nat.le_of_ble_eq_true rfl)⟩ (Nat.le_of_ble_eq_true rfl) dX2_hearBids_54 (fun z_45 u_43 hp_44 => ?_)
    obtain ⟨hz_45, hp_44⟩ := hp_44
    subst hp_44
    refine s_vV (As := [AI z_37, AI z_41, AI z_45]) (S := []) E (Z_X2_hearBid_75 l D aC b v18 z_37 z_41 z_45 hj_7.1 ) cv_X2_87 rfl rfl rfl (jv_lt hj_7 (by decide)) (Nat.le_of_ble_eq_true rfl) (Nat.le_of_ble_eq_true rfl) ⟨(Nat.le_of_ble_eq_true rfl), (Nat.le_of_ble_eq_true rfl)⟩ (Nat.le_of_ble_eq_true rfl) dX2_hearBids_57 (fun u_47 hp_48 => ?_)
    have hj_49 := jv_trans hj_7 hp_48
    refine z_iinc (u := q18_2_6.toInt) (L2 := fun z_50 => [some (AR 75), some (AR 2), some (AI z_50)]) E dX2_hearBids_60 rfl rfl (by decide) (fun _ => rfl) (by decide) (by omega) (by omega) (fun z_50 hz_50 => ?_)
    refine s_goto (tgt := 18) E dX2_hearBids_63 (by decide) ?_
    exact ih18 z_50 u_47 ⟨⟨by have hb_ := z32 z_50; omega, by have hb_ := z32 z_50; omega⟩, hj_49⟩ (by first | omega | decide | (dsimp only; omega) | (dsimp only; decide))
set_option maxRecDepth 20000 in
set_option maxHeartbeats 2000000 in
theorem Z_X2_isHere_75 (l : Launch) (D : va_G) (aC : Nat → ClassId) (b : Nat) (w : XW) (x1 : Int32) (x2 : Int32) (hI : Iv w)  : CnI l D aC b M_X2_isHere 0 0 0 0 [AR 75, AI x1, AI x2] w (fun r u => (0 ≤ r.toInt ∧ r.toInt ≤ 1 ∧ (r.toInt = 0 ∨ (0 ≤ x1.toInt ∧ x1.toInt ≤ 5)) ∧ (r.toInt = 0 ∨ (0 ≤ x2.toInt ∧ x2.toInt ≤ 14)) ∧ (r.toInt = 0 ∨ (1 ≤ (w.2.2.1 75 5).toInt ∧ (w.2.2.1 75 5).toInt ≤ 6))) ∧ w = u) := by
  refine cn_I (own := RX2) (nm := "isHere") (L0 := [some (AR 75), some (AI x1), some (AI x2)]) (by decide +kernel) rfl rfl (Nat.le_of_ble_eq_true rfl) rfl ?_
  intro p e s m args below meth c E hin
  have hJ : Jv w w := jv_rfl hI
  have hb_x1 := z32 x1
  have hb_x2 := z32 x2
  refine s_iload_n E dX2_isHere_0 rfl rfl ?_
  refine z_if_lt (tgt := 28) (u := x1.toInt) E dX2_isHere_1 (by decide) rfl (fun h_1 => ?_) (fun h_1 => ?_)
  ·
    refine s_iconst (v := 0) E dX2_isHere_28 (by decide) ?_
    exact r_bool E dX2_isHere_29 (Or.inl rfl) ⟨⟨by decide, by decide, by first | (left; decide) | (right; decide) | (right; have hb_ := z32 x1; omega), by first | (left; decide) | (right; decide) | (right; have hb_ := z32 x2; omega), by first | (left; decide) | (right; decide) | (right; have hb_ := z32 (w.2.2.1 75 5); omega)⟩, rfl⟩
  ·
    refine s_iload_n E dX2_isHere_4 rfl rfl ?_
    refine s_aload_n E dX2_isHere_5 rfl rfl ?_
    refine s_gI E fg_X2_35 rfl rfl (jv_lt hJ (by decide)) dX2_isHere_6 ?_
    refine z_nm (P := fun z => z.toInt = (w.2.2.1 75 5).toInt ∧ 0 ≤ z.toInt ∧ z.toInt ≤ 6) ⟨rfl, (rg_75_5 hJ)⟩ (fun z_2 hz_2 => ?_)
    refine z_icmp_ge (tgt := 28) (u := x1.toInt) (v := z_2.toInt) E dX2_isHere_9 (by decide) rfl rfl (fun h_3 => ?_) (fun h_3 => ?_)
    ·
      refine s_iconst (v := 0) E dX2_isHere_28 (by decide) ?_
      exact r_bool E dX2_isHere_29 (Or.inl rfl) ⟨⟨by decide, by decide, by first | (left; decide) | (right; decide) | (right; have hb_ := z32 x1; omega), by first | (left; decide) | (right; decide) | (right; have hb_ := z32 x2; omega), by first | (left; decide) | (right; decide) | (right; have hb_ := z32 (w.2.2.1 75 5); omega)⟩, rfl⟩
    ·
      refine s_iload_n E dX2_isHere_12 rfl rfl ?_
      refine z_if_lt (tgt := 28) (u := x2.toInt) E dX2_isHere_13 (by decide) rfl (fun h_4 => ?_) (fun h_4 => ?_)
      ·
        refine s_iconst (v := 0) E dX2_isHere_28 (by decide) ?_
        exact r_bool E dX2_isHere_29 (Or.inl rfl) ⟨⟨by decide, by decide, by first | (left; decide) | (right; decide) | (right; have hb_ := z32 x1; omega), by first | (left; decide) | (right; decide) | (right; have hb_ := z32 x2; omega), by first | (left; decide) | (right; decide) | (right; have hb_ := z32 (w.2.2.1 75 5); omega)⟩, rfl⟩
      ·
        refine s_iload_n E dX2_isHere_16 rfl rfl ?_
        refine s_aload_n E dX2_isHere_17 rfl rfl ?_
        refine s_gI E fg_X2_67 rfl rfl (jv_lt hJ (by decide)) dX2_isHere_18 ?_
        refine z_nm (P := fun z => z.toInt = (w.2.2.1 75 7).toInt ∧ 0 ≤ z.toInt ∧ z.toInt ≤ 14) ⟨rfl, (rg_75_7 hJ)⟩ (fun z_5 hz_5 => ?_)
        refine z_icmp_gt (tgt := 28) (u := x2.toInt) (v := z_5.toInt) E dX2_isHere_21 (by decide) rfl rfl (fun h_6 => ?_) (fun h_6 => ?_)
        ·
          refine s_iconst (v := 0) E dX2_isHere_28 (by decide) ?_
          exact r_bool E dX2_isHere_29 (Or.inl rfl) ⟨⟨by decide, by decide, by first | (left; decide) | (right; decide) | (right; have hb_ := z32 x1; omega), by first | (left; decide) | (right; decide) | (right; have hb_ := z32 x2; omega), by first | (left; decide) | (right; decide) | (right; have hb_ := z32 (w.2.2.1 75 5); omega)⟩, rfl⟩
        ·
          refine s_iconst (v := 1) E dX2_isHere_24 (by decide) ?_
          refine s_goto (tgt := 29) E dX2_isHere_25 (by decide) ?_
          exact r_bool E dX2_isHere_29 (Or.inr rfl) ⟨⟨by decide, by decide, by first | (left; decide) | (right; decide) | (right; have hb_ := z32 x1; omega), by first | (left; decide) | (right; decide) | (right; have hb_ := z32 x2; omega), by first | (left; decide) | (right; decide) | (right; have hb_ := z32 (w.2.2.1 75 5); omega)⟩, rfl⟩
set_option maxRecDepth 20000 in
set_option maxHeartbeats 2000000 in
theorem Z_X2_placeOf_75 (l : Launch) (D : va_G) (aC : Nat → ClassId) (b : Nat) (w : XW) (x1 : Int32) (x2 : Int32) (hI : Iv w)  : CnI l D aC b M_X2_placeOf 1 22 0 0 [AR 75, AI x1, AI x2] w (fun r u => ((-2147483648) ≤ r.toInt ∧ r.toInt ≤ 2147483647 ∧ (¬ r.toInt = 0 ∨ (0 ≤ x1.toInt ∧ x1.toInt ≤ 5)) ∧ (¬ r.toInt = 0 ∨ (0 ≤ x2.toInt ∧ x2.toInt ≤ 14)) ∧ (¬ r.toInt = 0 ∨ (1 ≤ (w.2.2.1 75 5).toInt ∧ (w.2.2.1 75 5).toInt ≤ 6))) ∧ w = u) := by
  refine cn_I (own := RX2) (nm := "placeOf") (L0 := [some (AR 75), some (AI x1), some (AI x2)]) (by decide +kernel) rfl rfl (Nat.le_of_ble_eq_true rfl) rfl ?_
  intro p e s m args below meth c E hin
  have hJ : Jv w w := jv_rfl hI
  have hb_x1 := z32 x1
  have hb_x2 := z32 x2
  refine s_aload_n E dX2_placeOf_0 rfl rfl ?_
  refine s_iload_n E dX2_placeOf_1 rfl rfl ?_
  refine s_iload_n E dX2_placeOf_2 rfl rfl ?_
  refine s_vI (As := [AI x1, AI x2]) (S := []) E (Z_X2_isHere_75 l D aC b w x1 x2 hJ.1 ) cv_X2_127 rfl rfl rfl (jv_lt hJ (by decide)) (Nat.le_of_ble_eq_true rfl) (Nat.le_of_ble_eq_true rfl) ⟨(Nat.le_of_ble_eq_true rfl), (Nat.le_of_ble_eq_true rfl)⟩ (Nat.le_of_ble_eq_true rfl) dX2_placeOf_3 (fun z_3 u_1 hp_2 => ?_)
  obtain ⟨hz_3, hp_2⟩ := hp_2
  subst hp_2
  refine z_if_eq (tgt := 23) (u := z_3.toInt) E dX2_placeOf_6 (by decide) rfl (fun h_5 => ?_) (fun h_5 => ?_)
  ·
    refine s_iconst (v := (-1)) E dX2_placeOf_23 (by decide) ?_
    exact r_int E dX2_placeOf_24 ⟨⟨by decide, by decide, by first | (left; decide) | (right; decide) | (right; have hb_ := z32 x1; omega), by first | (left; decide) | (right; decide) | (right; have hb_ := z32 x2; omega), by first | (left; decide) | (right; decide) | (right; have hb_ := z32 (w.2.2.1 75 5); omega)⟩, rfl⟩
  ·
    refine s_aload_n E dX2_placeOf_9 rfl rfl ?_
    refine s_gR (r := 79) E fg_X2_21 rfl rfl (jv_lt hJ (by decide)) (jv_r hJ (by decide +kernel)) dX2_placeOf_10 ?_
    refine s_iload_n E dX2_placeOf_13 rfl rfl ?_
    refine s_bipush (v := 15) E dX2_placeOf_14 (by decide) ?_
    refine z_imul (u := x1.toInt) (v := 15) E dX2_placeOf_16 rfl (by decide) (by omega) (by omega) (fun z_6 hz_6 => ?_)
    refine s_iload_n E dX2_placeOf_17 rfl rfl ?_
    refine z_iadd (u := z_6.toInt) (v := x2.toInt) E dX2_placeOf_18 rfl rfl (by omega) (by omega) (fun z_7 hz_7 => ?_)
    refine s_iald E rfl (jv_lt hJ (by decide)) (z_in (u := z_7.toInt) rfl (by omega) (by omega)) dX2_placeOf_19 ?_
    refine z_nm (P := fun z => (-2147483648) ≤ z.toInt ∧ z.toInt ≤ 2147483647) (z32 _) (fun z_8 hz_8 => ?_)
    refine s_goto (tgt := 24) E dX2_placeOf_20 (by decide) ?_
    exact r_int E dX2_placeOf_24 ⟨⟨by have hb_ := z32 z_8; omega, by have hb_ := z32 z_8; omega, by first | (right; decide) | (have hb_ := z32 z_8; omega) | (have hb_ := z32 z_8; have hc_ := z32 x1; omega), by first | (right; decide) | (have hb_ := z32 z_8; omega) | (have hb_ := z32 z_8; have hc_ := z32 x2; omega), by first | (right; decide) | (have hb_ := z32 z_8; omega) | (have hb_ := z32 z_8; have hc_ := z32 (w.2.2.1 75 5); omega)⟩, rfl⟩
set_option maxRecDepth 20000 in
set_option maxHeartbeats 2000000 in
theorem Z_X2_ladiesIn_75 (l : Launch) (D : va_G) (aC : Nat → ClassId) (b : Nat) (w : XW) (x1 : Int32) (x2 : Int32) (hI : Iv w)  : CnI l D aC b M_X2_ladiesIn 2 44 0 0 [AR 75, AI x1, AI x2] w (fun r u => ((-2147483648) ≤ r.toInt ∧ r.toInt ≤ 2147483647) ∧ w = u) := by
  refine cn_I (own := RX2) (nm := "ladiesIn") (L0 := [some (AR 75), some (AI x1), some (AI x2), none, none]) (by decide +kernel) rfl rfl (Nat.le_of_ble_eq_true rfl) rfl ?_
  intro p e s m args below meth c E hin
  have hJ : Jv w w := jv_rfl hI
  have hb_x1 := z32 x1
  have hb_x2 := z32 x2
  refine s_iconst (v := 0) E dX2_ladiesIn_0 (by decide) ?_
  refine s_istore_n (L2 := [some (AR 75), some (AI x1), some (AI x2), some (AI 0), none]) E dX2_ladiesIn_1 rfl (by decide) rfl ?_
  refine s_iconst (v := 0) E dX2_ladiesIn_2 (by decide) ?_
  refine s_istore (L2 := [some (AR 75), some (AI x1), some (AI x2), some (AI 0), some (AI 0)]) E dX2_ladiesIn_3 (by decide) rfl ?_
  refine z_loop (St := Int32 × Int32) (Pi := fun ⟨q5_3_0, q5_4_0⟩ v5 => (0 ≤ q5_4_0.toInt ∧ q5_4_0.toInt ≤ 6) ∧ w = v5) (Lf := fun ⟨q5_3_0, q5_4_0⟩ => [some (AR 75), some (AI x1), some (AI x2), some (AI q5_3_0), some (AI q5_4_0)]) (fun ⟨q5_3_0, q5_4_0⟩ _ => (7 - q5_4_0.toInt).toNat) ⟨0, 0⟩ ⟨⟨by decide, by decide⟩, rfl⟩ ?_
  rintro ⟨q5_3_0, q5_4_0⟩ v5 ⟨hq5_4, hv_⟩ ih5
  subst hv_
  have hbq5_3 := z32 q5_3_0
  refine s_loc (L2 := [some (AR 75), some (AI x1), some (AI x2), some (AI q5_3_0), some (AI q5_4_0)]) rfl ?_
  refine s_iload E dX2_ladiesIn_5 rfl ?_
  refine s_aload_n E dX2_ladiesIn_7 rfl rfl ?_
  refine s_gI E fg_X2_35 rfl rfl (jv_lt hJ (by decide)) dX2_ladiesIn_8 ?_
  refine z_nm (P := fun z => z.toInt = (w.2.2.1 75 5).toInt ∧ 0 ≤ z.toInt ∧ z.toInt ≤ 6) ⟨rfl, (rg_75_5 hJ)⟩ (fun z_2 hz_2 => ?_)
  refine z_icmp_ge (tgt := 38) (u := q5_4_0.toInt) (v := z_2.toInt) E dX2_ladiesIn_11 (by decide) rfl rfl (fun h_3 => ?_) (fun h_3 => ?_)
  ·
    refine s_iload_n E dX2_ladiesIn_38 rfl rfl ?_
    exact r_int E dX2_ladiesIn_39 ⟨⟨by have hb_ := z32 q5_3_0; omega, by have hb_ := z32 q5_3_0; omega⟩, rfl⟩
  ·
    refine s_aload_n E dX2_ladiesIn_14 rfl rfl ?_
    refine s_iload E dX2_ladiesIn_15 rfl ?_
    refine s_iload_n E dX2_ladiesIn_17 rfl rfl ?_
    refine s_vI (As := [AI q5_4_0, AI x2]) (S := []) E (Z_X2_placeOf_75 l D aC b w q5_4_0 x2 hJ.1 ) cv_X2_111 rfl rfl rfl (jv_lt hJ (by decide)) (Nat.le_of_ble_eq_true rfl) (Nat.le_of_ble_eq_true rfl) ⟨(Nat.le_of_ble_eq_true rfl), (Nat.le_of_ble_eq_true rfl)⟩ (Nat.le_of_ble_eq_true rfl) dX2_ladiesIn_18 (fun z_6 u_4 hp_5 => ?_)
    obtain ⟨hz_6, hp_5⟩ := hp_5
    subst hp_5
    refine s_iload_n E dX2_ladiesIn_21 rfl rfl ?_
    refine z_icmp_ne (tgt := 32) (u := z_6.toInt) (v := x1.toInt) E dX2_ladiesIn_22 (by decide) rfl rfl (fun h_8 => ?_) (fun h_8 => ?_)
    ·
      refine z_iinc (u := q5_4_0.toInt) (L2 := fun z_9 => [some (AR 75), some (AI x1), some (AI x2), some (AI q5_3_0), some (AI z_9)]) E dX2_ladiesIn_32 rfl rfl (by decide) (fun _ => rfl) (by decide) (by omega) (by omega) (fun z_9 hz_9 => ?_)
      refine s_goto (tgt := 5) E dX2_ladiesIn_35 (by decide) ?_
      exact ih5 ⟨q5_3_0, z_9⟩ w ⟨⟨by have hb_ := z32 z_9; omega, by have hb_ := z32 z_9; omega⟩, rfl⟩ (by first | omega | decide | (dsimp only; omega) | (dsimp only; decide))
    ·
      refine s_iload_n E dX2_ladiesIn_25 rfl rfl ?_
      refine s_iconst (v := 1) E dX2_ladiesIn_26 (by decide) ?_
      refine s_iload E dX2_ladiesIn_27 rfl ?_
      refine z_shl1 5 (u := q5_4_0.toInt) (B := 32) E dX2_ladiesIn_29 rfl (by omega) (by omega) (by decide) (by decide) (fun z_10 hz_10 => ?_)
      refine s_ior E dX2_ladiesIn_30 ?_
      refine z_nm (P := fun z => (-2147483648) ≤ z.toInt ∧ z.toInt ≤ 2147483647) (z32 _) (fun z_11 hz_11 => ?_)
      refine s_istore_n (L2 := [some (AR 75), some (AI x1), some (AI x2), some (AI z_11), some (AI q5_4_0)]) E dX2_ladiesIn_31 rfl (by decide) rfl ?_
      refine z_iinc (u := q5_4_0.toInt) (L2 := fun z_12 => [some (AR 75), some (AI x1), some (AI x2), some (AI z_11), some (AI z_12)]) E dX2_ladiesIn_32 rfl rfl (by decide) (fun _ => rfl) (by decide) (by omega) (by omega) (fun z_12 hz_12 => ?_)
      refine s_goto (tgt := 5) E dX2_ladiesIn_35 (by decide) ?_
      exact ih5 ⟨z_11, z_12⟩ w ⟨⟨by have hb_ := z32 z_12; omega, by have hb_ := z32 z_12; omega⟩, rfl⟩ (by first | omega | decide | (dsimp only; omega) | (dsimp only; decide))
set_option maxRecDepth 20000 in
set_option maxHeartbeats 2000000 in
theorem Z_X2_gather_75 (l : Launch) (D : va_G) (aC : Nat → ClassId) (b : Nat) (w : XW)  (hI : Iv w)  : CnV l D aC b M_X2_gather 3 68 0 0 [AR 75] w (fun u => Jv w u) := by
  refine cn_V (own := RX2) (nm := "gather") (L0 := [some (AR 75), none, none]) (by decide +kernel) rfl rfl (Nat.le_of_ble_eq_true rfl) rfl ?_
  intro p e s m args below meth c E hin
  have hJ : Jv w w := jv_rfl hI
  refine s_iconst (v := 0) E dX2_gather_0 (by decide) ?_
  refine s_istore_n (L2 := [some (AR 75), some (AI 0), none]) E dX2_gather_1 rfl (by decide) rfl ?_
  refine z_loop (St := Int32) (Pi := fun q2_1_0 v2 => (0 ≤ q2_1_0.toInt ∧ q2_1_0.toInt ≤ 6) ∧ Jv w v2) (Lf := fun q2_1_0 => [some (AR 75), some (AI q2_1_0), none]) (fun q2_1_0 _ => (7 - q2_1_0.toInt).toNat) 0 ⟨⟨by decide, by decide⟩, hJ⟩ ?_
  rintro q2_1_0 v2 ⟨hq2_1, hj_1⟩ ih2
  refine s_loc (L2 := [some (AR 75), some (AI q2_1_0), none]) rfl ?_
  refine s_iload_n E dX2_gather_2 rfl rfl ?_
  refine s_aload_n E dX2_gather_3 rfl rfl ?_
  refine s_gI E fg_X2_35 rfl rfl (jv_lt hj_1 (by decide)) dX2_gather_4 ?_
  refine z_nm (P := fun z => z.toInt = (v2.2.2.1 75 5).toInt ∧ 0 ≤ z.toInt ∧ z.toInt ≤ 6) ⟨rfl, (rg_75_5 hj_1)⟩ (fun z_2 hz_2 => ?_)
  refine z_icmp_ge (tgt := 54) (u := q2_1_0.toInt) (v := z_2.toInt) E dX2_gather_7 (by decide) rfl rfl (fun h_3 => ?_) (fun h_3 => ?_)
  ·
    exact r_void E dX2_gather_54 hj_1
  ·
    refine s_iconst (v := 0) E dX2_gather_10 (by decide) ?_
    refine s_istore_n (L2 := [some (AR 75), some (AI q2_1_0), some (AI 0)]) E dX2_gather_11 rfl (by decide) rfl ?_
    refine z_loop (St := Int32) (Pi := fun q12_2_3 v12 => (0 ≤ q12_2_3.toInt ∧ q12_2_3.toInt ≤ 15) ∧ (1 ≤ (v12.2.2.1 75 5).toInt ∧ (v12.2.2.1 75 5).toInt ≤ 6) ∧ Jv w v12) (Lf := fun q12_2_3 => [some (AR 75), some (AI q2_1_0), some (AI q12_2_3)]) (fun q12_2_3 _ => (16 - q12_2_3.toInt).toNat) 0 ⟨⟨by decide, by decide⟩, ⟨by omega, by omega⟩, hj_1⟩ ?_
    rintro q12_2_3 v12 ⟨hq12_2, ha12_0, hj_4⟩ ih12
    refine s_loc (L2 := [some (AR 75), some (AI q2_1_0), some (AI q12_2_3)]) rfl ?_
    refine s_iload_n E dX2_gather_12 rfl rfl ?_
    refine s_aload_n E dX2_gather_13 rfl rfl ?_
    refine s_gI E fg_X2_67 rfl rfl (jv_lt hj_4 (by decide)) dX2_gather_14 ?_
    refine z_nm (P := fun z => z.toInt = (v12.2.2.1 75 7).toInt ∧ 0 ≤ z.toInt ∧ z.toInt ≤ 14) ⟨rfl, (rg_75_7 hj_4)⟩ (fun z_5 hz_5 => ?_)
    refine z_icmp_gt (tgt := 48) (u := q12_2_3.toInt) (v := z_5.toInt) E dX2_gather_17 (by decide) rfl rfl (fun h_6 => ?_) (fun h_6 => ?_)
    ·
      refine z_iinc (u := q2_1_0.toInt) (L2 := fun z_7 => [some (AR 75), some (AI z_7), some (AI q12_2_3)]) E dX2_gather_48 rfl rfl (by decide) (fun _ => rfl) (by decide) (by omega) (by omega) (fun z_7 hz_7 => ?_)
      refine s_goto (tgt := 2) E dX2_gather_51 (by decide) ?_
      refine s_drop (i := 2) (L2 := [some (AR 75), some (AI z_7), none]) rfl ?_
      exact ih2 z_7 v12 ⟨⟨by have hb_ := z32 z_7; omega, by have hb_ := z32 z_7; omega⟩, hj_4⟩ (by first | omega | decide | (dsimp only; omega) | (dsimp only; decide))
    ·
      refine s_aload_n E dX2_gather_20 rfl rfl ?_
      refine s_gR (r := 80) E fg_X2_24 rfl rfl (jv_lt hj_4 (by decide)) (jv_r hj_4 (by decide +kernel)) dX2_gather_21 ?_
      refine s_iload_n E dX2_gather_24 rfl rfl ?_
      refine s_bipush (v := 15) E dX2_gather_25 (by decide) ?_
      refine z_imul (u := q2_1_0.toInt) (v := 15) E dX2_gather_27 rfl (by decide) (by omega) (by omega) (fun z_8 hz_8 => ?_)
      refine s_iload_n E dX2_gather_28 rfl rfl ?_
      refine z_iadd (u := z_8.toInt) (v := q12_2_3.toInt) E dX2_gather_29 rfl rfl (by omega) (by omega) (fun z_9 hz_9 => ?_)
      refine s_aload_n E dX2_gather_30 rfl rfl ?_
      refine s_aload_n E dX2_gather_31 rfl rfl ?_
      refine s_iload_n E dX2_gather_32 rfl rfl ?_
      refine s_iload_n E dX2_gather_33 rfl rfl ?_
      refine s_vI (As := [AI q2_1_0, AI q12_2_3]) (S := [AR 75, AI z_9, AR 80]) E (Z_X2_placeOf_75 l D aC b v12 q2_1_0 q12_2_3 hj_4.1 ) cv_X2_111 rfl rfl rfl (jv_lt hj_4 (by decide)) (Nat.le_of_ble_eq_true rfl) (Nat.le_of_ble_eq_true rfl) ⟨(Nat.le_of_ble_eq_true rfl), (Nat.le_of_ble_eq_true rfl)⟩ (Nat.le_of_ble_eq_true rfl) dX2_gather_34 (fun z_12 u_10 hp_11 => ?_)
      obtain ⟨hz_12, hp_11⟩ := hp_11
      subst hp_11
      refine s_iload_n E dX2_gather_37 rfl rfl ?_
      refine s_vI (As := [AI z_12, AI q12_2_3]) (S := [AI z_9, AR 80]) E (Z_X2_ladiesIn_75 l D aC b v12 z_12 q12_2_3 hj_4.1 ) cv_X2_114 rfl rfl rfl (jv_lt hj_4 (by decide)) (Nat.le_of_ble_eq_true rfl) (Nat.le_of_ble_eq_true rfl) ⟨(Nat.le_of_ble_eq_true rfl), (Nat.le_of_ble_eq_true rfl)⟩ (Nat.le_of_ble_eq_true rfl) dX2_gather_38 (fun z_16 u_14 hp_15 => ?_)
      obtain ⟨hz_16, hp_15⟩ := hp_15
      subst hp_15
      refine s_iast E rfl (jv_lt hj_4 (by decide)) (z_in (u := z_9.toInt) rfl (by omega) (by omega)) dX2_gather_41 ?_
      refine s_gen (P := fun v => Jv w v ∧ (v.2.2.1 75 5).toInt = (v12.2.2.1 75 5).toInt) ⟨(jv_a_80 hj_4 (by have hb_ := z32 z_16; omega) (by have hb_ := z32 z_16; omega)), rfl⟩ (fun v_18 hj_19 => ?_)
      obtain ⟨hj_19, hk_20k0⟩ := hj_19
      refine z_iinc (u := q12_2_3.toInt) (L2 := fun z_21 => [some (AR 75), some (AI q2_1_0), some (AI z_21)]) E dX2_gather_42 rfl rfl (by decide) (fun _ => rfl) (by decide) (by omega) (by omega) (fun z_21 hz_21 => ?_)
      refine s_goto (tgt := 12) E dX2_gather_45 (by decide) ?_
      exact ih12 z_21 v_18 ⟨⟨by have hb_ := z32 z_21; omega, by have hb_ := z32 z_21; omega⟩, ⟨by omega, by omega⟩, hj_19⟩ (by first | omega | decide | (dsimp only; omega) | (dsimp only; decide))
set_option maxRecDepth 20000 in
set_option maxHeartbeats 2000000 in
theorem Z_X2_goalOf_75 (l : Launch) (D : va_G) (aC : Nat → ClassId) (b : Nat) (w : XW) (x1 : Int32) (x2 : Int32) (hI : Iv w)  : CnI l D aC b M_X2_goalOf 1 22 0 0 [AR 75, AI x1, AI x2] w (fun r u => ((-2147483648) ≤ r.toInt ∧ r.toInt ≤ 2147483647 ∧ (¬ r.toInt = 0 ∨ (0 ≤ x1.toInt ∧ x1.toInt ≤ 5)) ∧ (¬ r.toInt = 0 ∨ (0 ≤ x2.toInt ∧ x2.toInt ≤ 14)) ∧ (¬ r.toInt = 0 ∨ (1 ≤ (w.2.2.1 75 5).toInt ∧ (w.2.2.1 75 5).toInt ≤ 6))) ∧ w = u) := by
  refine cn_I (own := RX2) (nm := "goalOf") (L0 := [some (AR 75), some (AI x1), some (AI x2)]) (by decide +kernel) rfl rfl (Nat.le_of_ble_eq_true rfl) rfl ?_
  intro p e s m args below meth c E hin
  have hJ : Jv w w := jv_rfl hI
  have hb_x1 := z32 x1
  have hb_x2 := z32 x2
  refine s_aload_n E dX2_goalOf_0 rfl rfl ?_
  refine s_iload_n E dX2_goalOf_1 rfl rfl ?_
  refine s_iload_n E dX2_goalOf_2 rfl rfl ?_
  refine s_vI (As := [AI x1, AI x2]) (S := []) E (Z_X2_isHere_75 l D aC b w x1 x2 hJ.1 ) cv_X2_127 rfl rfl rfl (jv_lt hJ (by decide)) (Nat.le_of_ble_eq_true rfl) (Nat.le_of_ble_eq_true rfl) ⟨(Nat.le_of_ble_eq_true rfl), (Nat.le_of_ble_eq_true rfl)⟩ (Nat.le_of_ble_eq_true rfl) dX2_goalOf_3 (fun z_3 u_1 hp_2 => ?_)
  obtain ⟨hz_3, hp_2⟩ := hp_2
  subst hp_2
  refine z_if_eq (tgt := 23) (u := z_3.toInt) E dX2_goalOf_6 (by decide) rfl (fun h_5 => ?_) (fun h_5 => ?_)
  ·
    refine s_iconst (v := (-1)) E dX2_goalOf_23 (by decide) ?_
    exact r_int E dX2_goalOf_24 ⟨⟨by decide, by decide, by first | (left; decide) | (right; decide) | (right; have hb_ := z32 x1; omega), by first | (left; decide) | (right; decide) | (right; have hb_ := z32 x2; omega), by first | (left; decide) | (right; decide) | (right; have hb_ := z32 (w.2.2.1 75 5); omega)⟩, rfl⟩
  ·
    refine s_aload_n E dX2_goalOf_9 rfl rfl ?_
    refine s_gR (r := 77) E fg_X2_15 rfl rfl (jv_lt hJ (by decide)) (jv_r hJ (by decide +kernel)) dX2_goalOf_10 ?_
    refine s_iload_n E dX2_goalOf_13 rfl rfl ?_
    refine s_bipush (v := 15) E dX2_goalOf_14 (by decide) ?_
    refine z_imul (u := x1.toInt) (v := 15) E dX2_goalOf_16 rfl (by decide) (by omega) (by omega) (fun z_6 hz_6 => ?_)
    refine s_iload_n E dX2_goalOf_17 rfl rfl ?_
    refine z_iadd (u := z_6.toInt) (v := x2.toInt) E dX2_goalOf_18 rfl rfl (by omega) (by omega) (fun z_7 hz_7 => ?_)
    refine s_iald E rfl (jv_lt hJ (by decide)) (z_in (u := z_7.toInt) rfl (by omega) (by omega)) dX2_goalOf_19 ?_
    refine z_nm (P := fun z => (-2147483648) ≤ z.toInt ∧ z.toInt ≤ 2147483647) (z32 _) (fun z_8 hz_8 => ?_)
    refine s_goto (tgt := 24) E dX2_goalOf_20 (by decide) ?_
    exact r_int E dX2_goalOf_24 ⟨⟨by have hb_ := z32 z_8; omega, by have hb_ := z32 z_8; omega, by first | (right; decide) | (have hb_ := z32 z_8; omega) | (have hb_ := z32 z_8; have hc_ := z32 x1; omega), by first | (right; decide) | (have hb_ := z32 z_8; omega) | (have hb_ := z32 z_8; have hc_ := z32 x2; omega), by first | (right; decide) | (have hb_ := z32 z_8; omega) | (have hb_ := z32 z_8; have hc_ := z32 (w.2.2.1 75 5); omega)⟩, rfl⟩
set_option maxRecDepth 20000 in
set_option maxHeartbeats 2000000 in
theorem Z_X2_stepsFrom_75 (l : Launch) (D : va_G) (aC : Nat → ClassId) (b : Nat) (w : XW) (x1 : Int32) (x2 : Int32) (hI : Iv w)  : CnI l D aC b M_X2_stepsFrom 0 0 0 0 [AR 75, AI x1, AI x2] w (fun r u => ((-2147483648) ≤ r.toInt ∧ r.toInt ≤ 2147483647 ∧ (r.toInt = 0 ∨ (0 ≤ x1.toInt ∧ x1.toInt ≤ 5)) ∧ (r.toInt = 0 ∨ (0 ≤ x2.toInt ∧ x2.toInt ≤ 7)) ∧ (r.toInt = 0 ∨ (1 ≤ (w.2.2.1 75 5).toInt ∧ (w.2.2.1 75 5).toInt ≤ 6)) ∧ (r.toInt = 0 ∨ (1 ≤ (w.2.2.1 75 6).toInt ∧ (w.2.2.1 75 6).toInt ≤ 8))) ∧ w = u) := by
  refine cn_I (own := RX2) (nm := "stepsFrom") (L0 := [some (AR 75), some (AI x1), some (AI x2)]) (by decide +kernel) rfl rfl (Nat.le_of_ble_eq_true rfl) rfl ?_
  intro p e s m args below meth c E hin
  have hJ : Jv w w := jv_rfl hI
  have hb_x1 := z32 x1
  have hb_x2 := z32 x2
  refine s_iload_n E dX2_stepsFrom_0 rfl rfl ?_
  refine z_if_lt (tgt := 24) (u := x1.toInt) E dX2_stepsFrom_1 (by decide) rfl (fun h_1 => ?_) (fun h_1 => ?_)
  ·
    refine s_iconst (v := 0) E dX2_stepsFrom_24 (by decide) ?_
    exact r_int E dX2_stepsFrom_25 ⟨⟨by decide, by decide, by first | (left; decide) | (right; decide) | (right; have hb_ := z32 x1; omega), by first | (left; decide) | (right; decide) | (right; have hb_ := z32 x2; omega), by first | (left; decide) | (right; decide) | (right; have hb_ := z32 (w.2.2.1 75 5); omega), by first | (left; decide) | (right; decide) | (right; have hb_ := z32 (w.2.2.1 75 6); omega)⟩, rfl⟩
  ·
    refine s_iload_n E dX2_stepsFrom_4 rfl rfl ?_
    refine s_aload_n E dX2_stepsFrom_5 rfl rfl ?_
    refine s_gI E fg_X2_35 rfl rfl (jv_lt hJ (by decide)) dX2_stepsFrom_6 ?_
    refine z_nm (P := fun z => z.toInt = (w.2.2.1 75 5).toInt ∧ 0 ≤ z.toInt ∧ z.toInt ≤ 6) ⟨rfl, (rg_75_5 hJ)⟩ (fun z_2 hz_2 => ?_)
    refine z_icmp_ge (tgt := 24) (u := x1.toInt) (v := z_2.toInt) E dX2_stepsFrom_9 (by decide) rfl rfl (fun h_3 => ?_) (fun h_3 => ?_)
    ·
      refine s_iconst (v := 0) E dX2_stepsFrom_24 (by decide) ?_
      exact r_int E dX2_stepsFrom_25 ⟨⟨by decide, by decide, by first | (left; decide) | (right; decide) | (right; have hb_ := z32 x1; omega), by first | (left; decide) | (right; decide) | (right; have hb_ := z32 x2; omega), by first | (left; decide) | (right; decide) | (right; have hb_ := z32 (w.2.2.1 75 5); omega), by first | (left; decide) | (right; decide) | (right; have hb_ := z32 (w.2.2.1 75 6); omega)⟩, rfl⟩
    ·
      refine s_iload_n E dX2_stepsFrom_12 rfl rfl ?_
      refine z_if_lt (tgt := 24) (u := x2.toInt) E dX2_stepsFrom_13 (by decide) rfl (fun h_4 => ?_) (fun h_4 => ?_)
      ·
        refine s_iconst (v := 0) E dX2_stepsFrom_24 (by decide) ?_
        exact r_int E dX2_stepsFrom_25 ⟨⟨by decide, by decide, by first | (left; decide) | (right; decide) | (right; have hb_ := z32 x1; omega), by first | (left; decide) | (right; decide) | (right; have hb_ := z32 x2; omega), by first | (left; decide) | (right; decide) | (right; have hb_ := z32 (w.2.2.1 75 5); omega), by first | (left; decide) | (right; decide) | (right; have hb_ := z32 (w.2.2.1 75 6); omega)⟩, rfl⟩
      ·
        refine s_iload_n E dX2_stepsFrom_16 rfl rfl ?_
        refine s_aload_n E dX2_stepsFrom_17 rfl rfl ?_
        refine s_gI E fg_X2_63 rfl rfl (jv_lt hJ (by decide)) dX2_stepsFrom_18 ?_
        refine z_nm (P := fun z => z.toInt = (w.2.2.1 75 6).toInt ∧ 0 ≤ z.toInt ∧ z.toInt ≤ 8) ⟨rfl, (rg_75_6 hJ)⟩ (fun z_5 hz_5 => ?_)
        refine z_icmp_lt (tgt := 26) (u := x2.toInt) (v := z_5.toInt) E dX2_stepsFrom_21 (by decide) rfl rfl (fun h_6 => ?_) (fun h_6 => ?_)
        ·
          refine s_aload_n E dX2_stepsFrom_26 rfl rfl ?_
          refine s_gR (r := 76) E fg_X2_9 rfl rfl (jv_lt hJ (by decide)) (jv_r hJ (by decide +kernel)) dX2_stepsFrom_27 ?_
          refine s_iload_n E dX2_stepsFrom_30 rfl rfl ?_
          refine s_bipush (v := 8) E dX2_stepsFrom_31 (by decide) ?_
          refine z_imul (u := x1.toInt) (v := 8) E dX2_stepsFrom_33 rfl (by decide) (by omega) (by omega) (fun z_7 hz_7 => ?_)
          refine s_iload_n E dX2_stepsFrom_34 rfl rfl ?_
          refine z_iadd (u := z_7.toInt) (v := x2.toInt) E dX2_stepsFrom_35 rfl rfl (by omega) (by omega) (fun z_8 hz_8 => ?_)
          refine s_iald E rfl (jv_lt hJ (by decide)) (z_in (u := z_8.toInt) rfl (by omega) (by omega)) dX2_stepsFrom_36 ?_
          refine z_nm (P := fun z => (-2147483648) ≤ z.toInt ∧ z.toInt ≤ 2147483647) (z32 _) (fun z_9 hz_9 => ?_)
          exact r_int E dX2_stepsFrom_37 ⟨⟨by have hb_ := z32 z_9; omega, by have hb_ := z32 z_9; omega, by first | (right; decide) | (have hb_ := z32 z_9; omega) | (have hb_ := z32 z_9; have hc_ := z32 x1; omega), by first | (right; decide) | (have hb_ := z32 z_9; omega) | (have hb_ := z32 z_9; have hc_ := z32 x2; omega), by first | (right; decide) | (have hb_ := z32 z_9; omega) | (have hb_ := z32 z_9; have hc_ := z32 (w.2.2.1 75 5); omega), by first | (right; decide) | (have hb_ := z32 z_9; omega) | (have hb_ := z32 z_9; have hc_ := z32 (w.2.2.1 75 6); omega)⟩, rfl⟩
        ·
          refine s_iconst (v := 0) E dX2_stepsFrom_24 (by decide) ?_
          exact r_int E dX2_stepsFrom_25 ⟨⟨by decide, by decide, by first | (left; decide) | (right; decide) | (right; have hb_ := z32 x1; omega), by first | (left; decide) | (right; decide) | (right; have hb_ := z32 x2; omega), by first | (left; decide) | (right; decide) | (right; have hb_ := z32 (w.2.2.1 75 5); omega), by first | (left; decide) | (right; decide) | (right; have hb_ := z32 (w.2.2.1 75 6); omega)⟩, rfl⟩
set_option maxRecDepth 20000 in
set_option maxHeartbeats 2000000 in
theorem Z_X2_spread_75 (l : Launch) (D : va_G) (aC : Nat → ClassId) (b : Nat) (w : XW) (x1 : Int32) (x2 : Int32) (hI : Iv w)  : CnI l D aC b M_X2_spread 1 22 0 0 [AR 75, AI x1, AI x2] w (fun r u => ((-2147483648) ≤ r.toInt ∧ r.toInt ≤ 2147483647) ∧ w = u) := by
  refine cn_I (own := RX2) (nm := "spread") (L0 := [some (AR 75), some (AI x1), some (AI x2), none, none]) (by decide +kernel) rfl rfl (Nat.le_of_ble_eq_true rfl) rfl ?_
  intro p e s m args below meth c E hin
  have hJ : Jv w w := jv_rfl hI
  have hb_x1 := z32 x1
  have hb_x2 := z32 x2
  refine s_iconst (v := 0) E dX2_spread_0 (by decide) ?_
  refine s_istore_n (L2 := [some (AR 75), some (AI x1), some (AI x2), some (AI 0), none]) E dX2_spread_1 rfl (by decide) rfl ?_
  refine s_iconst (v := 0) E dX2_spread_2 (by decide) ?_
  refine s_istore (L2 := [some (AR 75), some (AI x1), some (AI x2), some (AI 0), some (AI 0)]) E dX2_spread_3 (by decide) rfl ?_
  refine z_loop (St := Int32 × Int32) (Pi := fun ⟨q5_3_0, q5_4_0⟩ v5 => (0 ≤ q5_4_0.toInt ∧ q5_4_0.toInt ≤ 8) ∧ w = v5) (Lf := fun ⟨q5_3_0, q5_4_0⟩ => [some (AR 75), some (AI x1), some (AI x2), some (AI q5_3_0), some (AI q5_4_0)]) (fun ⟨q5_3_0, q5_4_0⟩ _ => (9 - q5_4_0.toInt).toNat) ⟨0, 0⟩ ⟨⟨by decide, by decide⟩, rfl⟩ ?_
  rintro ⟨q5_3_0, q5_4_0⟩ v5 ⟨hq5_4, hv_⟩ ih5
  subst hv_
  have hbq5_3 := z32 q5_3_0
  refine s_loc (L2 := [some (AR 75), some (AI x1), some (AI x2), some (AI q5_3_0), some (AI q5_4_0)]) rfl ?_
  refine s_iload E dX2_spread_5 rfl ?_
  refine s_aload_n E dX2_spread_7 rfl rfl ?_
  refine s_gI E fg_X2_63 rfl rfl (jv_lt hJ (by decide)) dX2_spread_8 ?_
  refine z_nm (P := fun z => z.toInt = (w.2.2.1 75 6).toInt ∧ 0 ≤ z.toInt ∧ z.toInt ≤ 8) ⟨rfl, (rg_75_6 hJ)⟩ (fun z_2 hz_2 => ?_)
  refine z_icmp_ge (tgt := 39) (u := q5_4_0.toInt) (v := z_2.toInt) E dX2_spread_11 (by decide) rfl rfl (fun h_3 => ?_) (fun h_3 => ?_)
  ·
    refine s_iload_n E dX2_spread_39 rfl rfl ?_
    exact r_int E dX2_spread_40 ⟨⟨by have hb_ := z32 q5_3_0; omega, by have hb_ := z32 q5_3_0; omega⟩, rfl⟩
  ·
    refine s_iload_n E dX2_spread_14 rfl rfl ?_
    refine s_iload E dX2_spread_15 rfl ?_
    refine s_sI (As := [AI x2, AI q5_4_0]) (S := []) E (Z_X9_hasBit l D aC b w x2 q5_4_0 hJ.1 ) cs_X2_123 rfl rfl (Nat.le_of_ble_eq_true rfl) (Nat.le_of_ble_eq_true rfl) ⟨(Nat.le_of_ble_eq_true rfl), (Nat.le_of_ble_eq_true rfl)⟩ (Nat.le_of_ble_eq_true rfl) dX2_spread_17 (fun z_6 u_4 hp_5 => ?_)
    obtain ⟨hz_6, hp_5⟩ := hp_5
    subst hp_5
    refine z_if_eq (tgt := 33) (u := z_6.toInt) E dX2_spread_20 (by decide) rfl (fun h_8 => ?_) (fun h_8 => ?_)
    ·
      refine z_iinc (u := q5_4_0.toInt) (L2 := fun z_9 => [some (AR 75), some (AI x1), some (AI x2), some (AI q5_3_0), some (AI z_9)]) E dX2_spread_33 rfl rfl (by decide) (fun _ => rfl) (by decide) (by omega) (by omega) (fun z_9 hz_9 => ?_)
      refine s_goto (tgt := 5) E dX2_spread_36 (by decide) ?_
      exact ih5 ⟨q5_3_0, z_9⟩ w ⟨⟨by have hb_ := z32 z_9; omega, by have hb_ := z32 z_9; omega⟩, rfl⟩ (by first | omega | decide | (dsimp only; omega) | (dsimp only; decide))
    ·
      refine s_iload_n E dX2_spread_23 rfl rfl ?_
      refine s_aload_n E dX2_spread_24 rfl rfl ?_
      refine s_iload_n E dX2_spread_25 rfl rfl ?_
      refine s_iload E dX2_spread_26 rfl ?_
      refine s_vI (As := [AI x1, AI q5_4_0]) (S := [AI q5_3_0]) E (Z_X2_stepsFrom_75 l D aC b w x1 q5_4_0 hJ.1 ) cv_X2_101 rfl rfl rfl (jv_lt hJ (by decide)) (Nat.le_of_ble_eq_true rfl) (Nat.le_of_ble_eq_true rfl) ⟨(Nat.le_of_ble_eq_true rfl), (Nat.le_of_ble_eq_true rfl)⟩ (Nat.le_of_ble_eq_true rfl) dX2_spread_28 (fun z_12 u_10 hp_11 => ?_)
      obtain ⟨hz_12, hp_11⟩ := hp_11
      subst hp_11
      refine s_ior E dX2_spread_31 ?_
      refine z_nm (P := fun z => (-2147483648) ≤ z.toInt ∧ z.toInt ≤ 2147483647) (z32 _) (fun z_14 hz_14 => ?_)
      refine s_istore_n (L2 := [some (AR 75), some (AI x1), some (AI x2), some (AI z_14), some (AI q5_4_0)]) E dX2_spread_32 rfl (by decide) rfl ?_
      refine z_iinc (u := q5_4_0.toInt) (L2 := fun z_15 => [some (AR 75), some (AI x1), some (AI x2), some (AI z_14), some (AI z_15)]) E dX2_spread_33 rfl rfl (by decide) (fun _ => rfl) (by decide) (by omega) (by omega) (fun z_15 hz_15 => ?_)
      refine s_goto (tgt := 5) E dX2_spread_36 (by decide) ?_
      exact ih5 ⟨z_14, z_15⟩ w ⟨⟨by have hb_ := z32 z_15; omega, by have hb_ := z32 z_15; omega⟩, rfl⟩ (by first | omega | decide | (dsimp only; omega) | (dsimp only; decide))
set_option maxRecDepth 20000 in
set_option maxHeartbeats 2000000 in
theorem Z_X2_nextRoom_75 (l : Launch) (D : va_G) (aC : Nat → ClassId) (b : Nat) (w : XW) (x1 : Int32) (x2 : Int32) (x3 : Int32) (hI : Iv w)  : CnI l D aC b M_X2_nextRoom 2 46 0 0 [AR 75, AI x1, AI x2, AI x3] w (fun r u => ((-2147483648) ≤ r.toInt ∧ r.toInt ≤ 2147483647) ∧ w = u) := by
  refine cn_I (own := RX2) (nm := "nextRoom") (L0 := [some (AR 75), some (AI x1), some (AI x2), some (AI x3), none, none, none]) (by decide +kernel) rfl rfl (Nat.le_of_ble_eq_true rfl) rfl ?_
  intro p e s m args below meth c E hin
  have hJ : Jv w w := jv_rfl hI
  have hb_x1 := z32 x1
  have hb_x2 := z32 x2
  have hb_x3 := z32 x3
  refine s_iload_n E dX2_nextRoom_0 rfl rfl ?_
  refine s_iconst (v := (-1)) E dX2_nextRoom_1 (by decide) ?_
  refine z_icmp_eq (tgt := 10) (u := x3.toInt) (v := (-1)) E dX2_nextRoom_2 (by decide) rfl (by decide) (fun h_1 => ?_) (fun h_1 => ?_)
  ·
    refine s_iload_n E dX2_nextRoom_10 rfl rfl ?_
    exact r_int E dX2_nextRoom_11 ⟨⟨by have hb_ := z32 x2; omega, by have hb_ := z32 x2; omega⟩, rfl⟩
  ·
    refine s_iload_n E dX2_nextRoom_5 rfl rfl ?_
    refine s_iload_n E dX2_nextRoom_6 rfl rfl ?_
    refine z_icmp_ne (tgt := 12) (u := x3.toInt) (v := x2.toInt) E dX2_nextRoom_7 (by decide) rfl rfl (fun h_2 => ?_) (fun h_2 => ?_)
    ·
      refine s_iconst (v := 1) E dX2_nextRoom_12 (by decide) ?_
      refine s_iload_n E dX2_nextRoom_13 rfl rfl ?_
      refine s_ishl E dX2_nextRoom_14 ?_
      refine z_nm (P := fun z => (-2147483648) ≤ z.toInt ∧ z.toInt ≤ 2147483647) (z32 _) (fun z_3 hz_3 => ?_)
      refine s_istore (L2 := [some (AR 75), some (AI x1), some (AI x2), some (AI x3), some (AI z_3), none, none]) E dX2_nextRoom_15 (by decide) rfl ?_
      refine s_iconst (v := 0) E dX2_nextRoom_17 (by decide) ?_
      refine s_istore (L2 := [some (AR 75), some (AI x1), some (AI x2), some (AI x3), some (AI z_3), some (AI 0), none]) E dX2_nextRoom_18 (by decide) rfl ?_
      refine z_loop (St := Int32 × Int32) (Pi := fun ⟨q20_4_3, q20_5_3⟩ v20 => (0 ≤ q20_5_3.toInt ∧ q20_5_3.toInt ≤ 8) ∧ w = v20) (Lf := fun ⟨q20_4_3, q20_5_3⟩ => [some (AR 75), some (AI x1), some (AI x2), some (AI x3), some (AI q20_4_3), some (AI q20_5_3), none]) (fun ⟨q20_4_3, q20_5_3⟩ _ => (9 - q20_5_3.toInt).toNat) ⟨z_3, 0⟩ ⟨⟨by decide, by decide⟩, rfl⟩ ?_
      rintro ⟨q20_4_3, q20_5_3⟩ v20 ⟨hq20_5, hv_⟩ ih20
      subst hv_
      have hbq20_4 := z32 q20_4_3
      refine s_loc (L2 := [some (AR 75), some (AI x1), some (AI x2), some (AI x3), some (AI q20_4_3), some (AI q20_5_3), none]) rfl ?_
      refine s_iload E dX2_nextRoom_20 rfl ?_
      refine s_aload_n E dX2_nextRoom_22 rfl rfl ?_
      refine s_gI E fg_X2_63 rfl rfl (jv_lt hJ (by decide)) dX2_nextRoom_23 ?_
      refine z_nm (P := fun z => z.toInt = (w.2.2.1 75 6).toInt ∧ 0 ≤ z.toInt ∧ z.toInt ≤ 8) ⟨rfl, (rg_75_6 hJ)⟩ (fun z_5 hz_5 => ?_)
      refine z_icmp_ge (tgt := 66) (u := q20_5_3.toInt) (v := z_5.toInt) E dX2_nextRoom_26 (by decide) rfl rfl (fun h_6 => ?_) (fun h_6 => ?_)
      ·
        refine s_iload_n E dX2_nextRoom_66 rfl rfl ?_
        exact r_int E dX2_nextRoom_67 ⟨⟨by have hb_ := z32 x2; omega, by have hb_ := z32 x2; omega⟩, rfl⟩
      ·
        refine s_aload_n E dX2_nextRoom_29 rfl rfl ?_
        refine s_iload_n E dX2_nextRoom_30 rfl rfl ?_
        refine s_iload_n E dX2_nextRoom_31 rfl rfl ?_
        refine s_vI (As := [AI x1, AI x2]) (S := []) E (Z_X2_stepsFrom_75 l D aC b w x1 x2 hJ.1 ) cv_X2_101 rfl rfl rfl (jv_lt hJ (by decide)) (Nat.le_of_ble_eq_true rfl) (Nat.le_of_ble_eq_true rfl) ⟨(Nat.le_of_ble_eq_true rfl), (Nat.le_of_ble_eq_true rfl)⟩ (Nat.le_of_ble_eq_true rfl) dX2_nextRoom_32 (fun z_9 u_7 hp_8 => ?_)
        obtain ⟨hz_9, hp_8⟩ := hp_8
        subst hp_8
        refine s_iload E dX2_nextRoom_35 rfl ?_
        refine s_iand E dX2_nextRoom_37 ?_
        refine z_nm (P := fun z => (-2147483648) ≤ z.toInt ∧ z.toInt ≤ 2147483647) (z32 _) (fun z_11 hz_11 => ?_)
        refine s_istore (L2 := [some (AR 75), some (AI x1), some (AI x2), some (AI x3), some (AI q20_4_3), some (AI q20_5_3), some (AI z_11)]) E dX2_nextRoom_38 (by decide) rfl ?_
        refine s_iload E dX2_nextRoom_40 rfl ?_
        refine z_if_eq (tgt := 51) (u := z_11.toInt) E dX2_nextRoom_42 (by decide) rfl (fun h_12 => ?_) (fun h_12 => ?_)
        ·
          refine s_aload_n E dX2_nextRoom_51 rfl rfl ?_
          refine s_iload_n E dX2_nextRoom_52 rfl rfl ?_
          refine s_iload E dX2_nextRoom_53 rfl ?_
          refine s_vI (As := [AI x1, AI q20_4_3]) (S := []) E (Z_X2_spread_75 l D aC b w x1 q20_4_3 hJ.1 ) cv_X2_108 rfl rfl rfl (jv_lt hJ (by decide)) (Nat.le_of_ble_eq_true rfl) (Nat.le_of_ble_eq_true rfl) ⟨(Nat.le_of_ble_eq_true rfl), (Nat.le_of_ble_eq_true rfl)⟩ (Nat.le_of_ble_eq_true rfl) dX2_nextRoom_55 (fun z_15 u_13 hp_14 => ?_)
          obtain ⟨hz_15, hp_14⟩ := hp_14
          subst hp_14
          refine s_istore (L2 := [some (AR 75), some (AI x1), some (AI x2), some (AI x3), some (AI z_15), some (AI q20_5_3), some (AI z_11)]) E dX2_nextRoom_58 (by decide) rfl ?_
          refine z_iinc (u := q20_5_3.toInt) (L2 := fun z_17 => [some (AR 75), some (AI x1), some (AI x2), some (AI x3), some (AI z_15), some (AI z_17), some (AI z_11)]) E dX2_nextRoom_60 rfl rfl (by decide) (fun _ => rfl) (by decide) (by omega) (by omega) (fun z_17 hz_17 => ?_)
          refine s_goto (tgt := 20) E dX2_nextRoom_63 (by decide) ?_
          refine s_drop (i := 6) (L2 := [some (AR 75), some (AI x1), some (AI x2), some (AI x3), some (AI z_15), some (AI z_17), none]) rfl ?_
          exact ih20 ⟨z_15, z_17⟩ w ⟨⟨by have hb_ := z32 z_17; omega, by have hb_ := z32 z_17; omega⟩, rfl⟩ (by first | omega | decide | (dsimp only; omega) | (dsimp only; decide))
        ·
          refine s_iload E dX2_nextRoom_45 rfl ?_
          refine s_sI (As := [AI z_11]) (S := []) E (Z_X9_lowest l D aC b w z_11 hJ.1 ) cs_X2_104 rfl rfl (Nat.le_of_ble_eq_true rfl) (Nat.le_of_ble_eq_true rfl) ⟨(Nat.le_of_ble_eq_true rfl), (Nat.le_of_ble_eq_true rfl)⟩ (Nat.le_of_ble_eq_true rfl) dX2_nextRoom_47 (fun z_20 u_18 hp_19 => ?_)
          obtain ⟨hz_20, hp_19⟩ := hp_19
          subst hp_19
          exact r_int E dX2_nextRoom_50 ⟨⟨by have hb_ := z32 z_20; omega, by have hb_ := z32 z_20; omega⟩, rfl⟩
    ·
      refine s_iload_n E dX2_nextRoom_10 rfl rfl ?_
      exact r_int E dX2_nextRoom_11 ⟨⟨by have hb_ := z32 x2; omega, by have hb_ := z32 x2; omega⟩, rfl⟩
set_option maxRecDepth 20000 in
set_option maxHeartbeats 2000000 in
theorem Z_X2_goAsBidden_75 (l : Launch) (D : va_G) (aC : Nat → ClassId) (b : Nat) (w : XW) (x1 : Int32) (x2 : Int32) (hI : Iv w) (hx1 : 0 ≤ x1.toInt ∧ x1.toInt ≤ 5) : CnV l D aC b M_X2_goAsBidden 3 72 0 0 [AR 75, AI x1, AI x2] w (fun u => Jv w u) := by
  refine cn_V (own := RX2) (nm := "goAsBidden") (L0 := [some (AR 75), some (AI x1), some (AI x2), none, none]) (by decide +kernel) rfl rfl (Nat.le_of_ble_eq_true rfl) rfl ?_
  intro p e s m args below meth c E hin
  have hJ : Jv w w := jv_rfl hI
  have hb_x2 := z32 x2
  refine s_iload_n E dX2_goAsBidden_0 rfl rfl ?_
  refine s_istore_n (L2 := [some (AR 75), some (AI x1), some (AI x2), some (AI x2), none]) E dX2_goAsBidden_1 rfl (by decide) rfl ?_
  refine s_aload_n E dX2_goAsBidden_2 rfl rfl ?_
  refine s_gR (r := 79) E fg_X2_21 rfl rfl (jv_lt hJ (by decide)) (jv_r hJ (by decide +kernel)) dX2_goAsBidden_3 ?_
  refine s_iload_n E dX2_goAsBidden_6 rfl rfl ?_
  refine s_bipush (v := 15) E dX2_goAsBidden_7 (by decide) ?_
  refine z_imul (u := x1.toInt) (v := 15) E dX2_goAsBidden_9 rfl (by decide) (by omega) (by omega) (fun z_1 hz_1 => ?_)
  refine s_iload_n E dX2_goAsBidden_10 rfl rfl ?_
  refine s_iast E rfl (jv_lt hJ (by decide)) (z_in (u := z_1.toInt) rfl (by omega) (by omega)) dX2_goAsBidden_11 ?_
  refine s_gen (P := Jv w) (jv_a_79 hJ (by have hb_ := z32 x2; omega) (by have hb_ := z32 x2; omega)) (fun v_2 hj_3 => ?_)
  refine s_iconst (v := 0) E dX2_goAsBidden_12 (by decide) ?_
  refine s_istore (L2 := [some (AR 75), some (AI x1), some (AI x2), some (AI x2), some (AI 0)]) E dX2_goAsBidden_13 (by decide) rfl ?_
  refine z_loop (St := Int32 × Int32) (Pi := fun ⟨q15_3_3, q15_4_3⟩ v15 => (0 ≤ q15_4_3.toInt ∧ q15_4_3.toInt ≤ 14) ∧ Jv w v15) (Lf := fun ⟨q15_3_3, q15_4_3⟩ => [some (AR 75), some (AI x1), some (AI x2), some (AI q15_3_3), some (AI q15_4_3)]) (fun ⟨q15_3_3, q15_4_3⟩ _ => (15 - q15_4_3.toInt).toNat) ⟨x2, 0⟩ ⟨⟨by decide, by decide⟩, hj_3⟩ ?_
  rintro ⟨q15_3_3, q15_4_3⟩ v15 ⟨hq15_4, hj_4⟩ ih15
  have hbq15_3 := z32 q15_3_3
  refine s_loc (L2 := [some (AR 75), some (AI x1), some (AI x2), some (AI q15_3_3), some (AI q15_4_3)]) rfl ?_
  refine s_iload E dX2_goAsBidden_15 rfl ?_
  refine s_aload_n E dX2_goAsBidden_17 rfl rfl ?_
  refine s_gI E fg_X2_67 rfl rfl (jv_lt hj_4 (by decide)) dX2_goAsBidden_18 ?_
  refine z_nm (P := fun z => z.toInt = (v15.2.2.1 75 7).toInt ∧ 0 ≤ z.toInt ∧ z.toInt ≤ 14) ⟨rfl, (rg_75_7 hj_4)⟩ (fun z_5 hz_5 => ?_)
  refine z_icmp_ge (tgt := 59) (u := q15_4_3.toInt) (v := z_5.toInt) E dX2_goAsBidden_21 (by decide) rfl rfl (fun h_6 => ?_) (fun h_6 => ?_)
  ·
    exact r_void E dX2_goAsBidden_59 hj_4
  ·
    refine s_aload_n E dX2_goAsBidden_24 rfl rfl ?_
    refine s_iload_n E dX2_goAsBidden_25 rfl rfl ?_
    refine s_iload_n E dX2_goAsBidden_26 rfl rfl ?_
    refine s_aload_n E dX2_goAsBidden_27 rfl rfl ?_
    refine s_iload_n E dX2_goAsBidden_28 rfl rfl ?_
    refine s_iload E dX2_goAsBidden_29 rfl ?_
    refine s_vI (As := [AI x1, AI q15_4_3]) (S := [AI q15_3_3, AI x1, AR 75]) E (Z_X2_goalOf_75 l D aC b v15 x1 q15_4_3 hj_4.1 ) cv_X2_94 rfl rfl rfl (jv_lt hj_4 (by decide)) (Nat.le_of_ble_eq_true rfl) (Nat.le_of_ble_eq_true rfl) ⟨(Nat.le_of_ble_eq_true rfl), (Nat.le_of_ble_eq_true rfl)⟩ (Nat.le_of_ble_eq_true rfl) dX2_goAsBidden_31 (fun z_9 u_7 hp_8 => ?_)
    obtain ⟨hz_9, hp_8⟩ := hp_8
    subst hp_8
    refine s_vI (As := [AI x1, AI q15_3_3, AI z_9]) (S := []) E (Z_X2_nextRoom_75 l D aC b v15 x1 q15_3_3 z_9 hj_4.1 ) cv_X2_97 rfl rfl rfl (jv_lt hj_4 (by decide)) (Nat.le_of_ble_eq_true rfl) (Nat.le_of_ble_eq_true rfl) ⟨(Nat.le_of_ble_eq_true rfl), (Nat.le_of_ble_eq_true rfl)⟩ (Nat.le_of_ble_eq_true rfl) dX2_goAsBidden_34 (fun z_13 u_11 hp_12 => ?_)
    obtain ⟨hz_13, hp_12⟩ := hp_12
    subst hp_12
    refine s_istore_n (L2 := [some (AR 75), some (AI x1), some (AI x2), some (AI z_13), some (AI q15_4_3)]) E dX2_goAsBidden_37 rfl (by decide) rfl ?_
    refine s_aload_n E dX2_goAsBidden_38 rfl rfl ?_
    refine s_gR (r := 79) E fg_X2_21 rfl rfl (jv_lt hj_4 (by decide)) (jv_r hj_4 (by decide +kernel)) dX2_goAsBidden_39 ?_
    refine s_iload_n E dX2_goAsBidden_42 rfl rfl ?_
    refine s_bipush (v := 15) E dX2_goAsBidden_43 (by decide) ?_
    refine z_imul (u := x1.toInt) (v := 15) E dX2_goAsBidden_45 rfl (by decide) (by omega) (by omega) (fun z_15 hz_15 => ?_)
    refine s_iload E dX2_goAsBidden_46 rfl ?_
    refine z_iadd (u := z_15.toInt) (v := q15_4_3.toInt) E dX2_goAsBidden_48 rfl rfl (by omega) (by omega) (fun z_16 hz_16 => ?_)
    refine s_iconst (v := 1) E dX2_goAsBidden_49 (by decide) ?_
    refine z_iadd (u := z_16.toInt) (v := 1) E dX2_goAsBidden_50 rfl (by decide) (by omega) (by omega) (fun z_17 hz_17 => ?_)
    refine s_iload_n E dX2_goAsBidden_51 rfl rfl ?_
    refine s_iast E rfl (jv_lt hj_4 (by decide)) (z_in (u := z_17.toInt) rfl (by omega) (by omega)) dX2_goAsBidden_52 ?_
    refine s_gen (P := fun v => Jv w v ∧ (v.2.2.1 75 7).toInt = (v15.2.2.1 75 7).toInt) ⟨(jv_a_79 hj_4 (by have hb_ := z32 z_13; omega) (by have hb_ := z32 z_13; omega)), rfl⟩ (fun v_18 hj_19 => ?_)
    obtain ⟨hj_19, hk_20k0⟩ := hj_19
    refine z_iinc (u := q15_4_3.toInt) (L2 := fun z_21 => [some (AR 75), some (AI x1), some (AI x2), some (AI z_13), some (AI z_21)]) E dX2_goAsBidden_53 rfl rfl (by decide) (fun _ => rfl) (by decide) (by omega) (by omega) (fun z_21 hz_21 => ?_)
    refine s_goto (tgt := 15) E dX2_goAsBidden_56 (by decide) ?_
    exact ih15 ⟨z_13, z_21⟩ v_18 ⟨⟨by have hb_ := z32 z_21; omega, by have hb_ := z32 z_21; omega⟩, hj_19⟩ (by first | omega | decide | (dsimp only; omega) | (dsimp only; decide))
set_option maxRecDepth 20000 in
set_option maxHeartbeats 2000000 in
theorem Z_X2_settle_75_r2 (l : Launch) (D : va_G) (aC : Nat → ClassId) (b : Nat) (w : XW) (x1 : Int32) (x2 : Int32) (hI : Iv w)  : CnV l D aC b M_X2_settle 4 96 0 0 [AR 75, AR 2, AI x1, AI x2] w (fun u => Jv w u) := by
  refine cn_V (own := RX2) (nm := "settle") (L0 := [some (AR 75), some (AR 2), some (AI x1), some (AI x2), none]) (by decide +kernel) rfl rfl (Nat.le_of_ble_eq_true rfl) rfl ?_
  intro p e s m args below meth c E hin
  have hJ : Jv w w := jv_rfl hI
  have hb_x1 := z32 x1
  have hb_x2 := z32 x2
  refine s_aload_n E dX2_settle_0 rfl rfl ?_
  refine s_aload_n E dX2_settle_1 rfl rfl ?_
  refine s_iload_n E dX2_settle_2 rfl rfl ?_
  refine s_iload_n E dX2_settle_3 rfl rfl ?_
  refine s_vV (As := [AR 2, AI x1, AI x2]) (S := []) E (Z_X2_openDoors_75_r2 l D aC b w x1 x2 hJ.1 ) cv_X2_27 rfl rfl rfl (jv_lt hJ (by decide)) (Nat.le_of_ble_eq_true rfl) (Nat.le_of_ble_eq_true rfl) ⟨(Nat.le_of_ble_eq_true rfl), (Nat.le_of_ble_eq_true rfl)⟩ (Nat.le_of_ble_eq_true rfl) dX2_settle_4 (fun u_1 hp_2 => ?_)
  have hj_3 := jv_trans hJ hp_2
  refine s_aload_n E dX2_settle_7 rfl rfl ?_
  refine s_aload_n E dX2_settle_8 rfl rfl ?_
  refine s_vV (As := [AR 2]) (S := []) E (Z_X2_hearBids_75_r2 l D aC b u_1  hj_3.1 ) cv_X2_31 rfl rfl rfl (jv_lt hj_3 (by decide)) (Nat.le_of_ble_eq_true rfl) (Nat.le_of_ble_eq_true rfl) ⟨(Nat.le_of_ble_eq_true rfl), (Nat.le_of_ble_eq_true rfl)⟩ (Nat.le_of_ble_eq_true rfl) dX2_settle_9 (fun u_4 hp_5 => ?_)
  have hj_6 := jv_trans hj_3 hp_5
  refine s_iconst (v := 0) E dX2_settle_12 (by decide) ?_
  refine s_istore (L2 := [some (AR 75), some (AR 2), some (AI x1), some (AI x2), some (AI 0)]) E dX2_settle_13 (by decide) rfl ?_
  refine z_loop (St := Int32) (Pi := fun q15_4_6 v15 => (0 ≤ q15_4_6.toInt ∧ q15_4_6.toInt ≤ 6) ∧ Jv w v15) (Lf := fun q15_4_6 => [some (AR 75), some (AR 2), some (AI x1), some (AI x2), some (AI q15_4_6)]) (fun q15_4_6 _ => (7 - q15_4_6.toInt).toNat) 0 ⟨⟨by decide, by decide⟩, hj_6⟩ ?_
  rintro q15_4_6 v15 ⟨hq15_4, hj_7⟩ ih15
  refine s_loc (L2 := [some (AR 75), some (AR 2), some (AI x1), some (AI x2), some (AI q15_4_6)]) rfl ?_
  refine s_iload E dX2_settle_15 rfl ?_
  refine s_aload_n E dX2_settle_17 rfl rfl ?_
  refine s_gI E fg_X2_35 rfl rfl (jv_lt hj_7 (by decide)) dX2_settle_18 ?_
  refine z_nm (P := fun z => z.toInt = (v15.2.2.1 75 5).toInt ∧ 0 ≤ z.toInt ∧ z.toInt ≤ 6) ⟨rfl, (rg_75_5 hj_7)⟩ (fun z_8 hz_8 => ?_)
  refine z_icmp_ge (tgt := 46) (u := q15_4_6.toInt) (v := z_8.toInt) E dX2_settle_21 (by decide) rfl rfl (fun h_9 => ?_) (fun h_9 => ?_)
  ·
    refine s_aload_n E dX2_settle_46 rfl rfl ?_
    refine s_vV (As := []) (S := []) E (Z_X2_gather_75 l D aC b v15  hj_7.1 ) cv_X2_54 rfl rfl rfl (jv_lt hj_7 (by decide)) (Nat.le_of_ble_eq_true rfl) (Nat.le_of_ble_eq_true rfl) ⟨(Nat.le_of_ble_eq_true rfl), (Nat.le_of_ble_eq_true rfl)⟩ (Nat.le_of_ble_eq_true rfl) dX2_settle_47 (fun u_10 hp_11 => ?_)
    have hj_12 := jv_trans hj_7 hp_11
    exact r_void E dX2_settle_50 hj_12
  ·
    refine s_aload_n E dX2_settle_24 rfl rfl ?_
    refine s_iload E dX2_settle_25 rfl ?_
    refine s_aload_n E dX2_settle_27 rfl rfl ?_
    refine s_gR (r := 5) E fg_X2_39 rfl rfl (jv_lt hj_7 (by decide)) (jv_r hj_7 (by decide +kernel)) dX2_settle_28 ?_
    refine s_iload E dX2_settle_31 rfl ?_
    refine s_iconst (v := 0) E dX2_settle_33 (by decide) ?_
    refine s_vI (As := [AI q15_4_6, AI 0]) (S := [AI q15_4_6, AR 75]) E (Z_X8_cell_5 l D aC b v15 q15_4_6 0 hj_7.1 ) cv_X2_44 rfl rfl rfl (jv_lt hj_7 (by decide)) (Nat.le_of_ble_eq_true rfl) (Nat.le_of_ble_eq_true rfl) ⟨(Nat.le_of_ble_eq_true rfl), (Nat.le_of_ble_eq_true rfl)⟩ (Nat.le_of_ble_eq_true rfl) dX2_settle_34 (fun z_15 u_13 hp_14 => ?_)
    obtain ⟨hz_15, hp_14⟩ := hp_14
    subst hp_14
    refine s_vV (As := [AI q15_4_6, AI z_15]) (S := []) E (Z_X2_goAsBidden_75 l D aC b v15 q15_4_6 z_15 hj_7.1 ⟨by have hb_ := z32 q15_4_6; omega, by have hb_ := z32 q15_4_6; omega⟩) cv_X2_50 rfl rfl rfl (jv_lt hj_7 (by decide)) (Nat.le_of_ble_eq_true rfl) (Nat.le_of_ble_eq_true rfl) ⟨(Nat.le_of_ble_eq_true rfl), (Nat.le_of_ble_eq_true rfl)⟩ (Nat.le_of_ble_eq_true rfl) dX2_settle_37 (fun u_17 hp_18 => ?_)
    have hj_19 := jv_trans hj_7 hp_18
    refine z_iinc (u := q15_4_6.toInt) (L2 := fun z_20 => [some (AR 75), some (AR 2), some (AI x1), some (AI x2), some (AI z_20)]) E dX2_settle_40 rfl rfl (by decide) (fun _ => rfl) (by decide) (by omega) (by omega) (fun z_20 hz_20 => ?_)
    refine s_goto (tgt := 15) E dX2_settle_43 (by decide) ?_
    exact ih15 z_20 u_17 ⟨⟨by have hb_ := z32 z_20; omega, by have hb_ := z32 z_20; omega⟩, hj_19⟩ (by first | omega | decide | (dsimp only; omega) | (dsimp only; decide))
set_option maxRecDepth 20000 in
set_option maxHeartbeats 2000000 in
theorem Z_X2_companyOf_75 (l : Launch) (D : va_G) (aC : Nat → ClassId) (b : Nat) (w : XW) (x1 : Int32) (x2 : Int32) (hI : Iv w)  : CnI l D aC b M_X2_companyOf 1 22 0 0 [AR 75, AI x1, AI x2] w (fun r u => ((-2147483648) ≤ r.toInt ∧ r.toInt ≤ 2147483647 ∧ (r.toInt = 0 ∨ (0 ≤ x1.toInt ∧ x1.toInt ≤ 5)) ∧ (r.toInt = 0 ∨ (0 ≤ x2.toInt ∧ x2.toInt ≤ 14)) ∧ (r.toInt = 0 ∨ (1 ≤ (w.2.2.1 75 5).toInt ∧ (w.2.2.1 75 5).toInt ≤ 6))) ∧ w = u) := by
  refine cn_I (own := RX2) (nm := "companyOf") (L0 := [some (AR 75), some (AI x1), some (AI x2)]) (by decide +kernel) rfl rfl (Nat.le_of_ble_eq_true rfl) rfl ?_
  intro p e s m args below meth c E hin
  have hJ : Jv w w := jv_rfl hI
  have hb_x1 := z32 x1
  have hb_x2 := z32 x2
  refine s_aload_n E dX2_companyOf_0 rfl rfl ?_
  refine s_iload_n E dX2_companyOf_1 rfl rfl ?_
  refine s_iload_n E dX2_companyOf_2 rfl rfl ?_
  refine s_vI (As := [AI x1, AI x2]) (S := []) E (Z_X2_isHere_75 l D aC b w x1 x2 hJ.1 ) cv_X2_127 rfl rfl rfl (jv_lt hJ (by decide)) (Nat.le_of_ble_eq_true rfl) (Nat.le_of_ble_eq_true rfl) ⟨(Nat.le_of_ble_eq_true rfl), (Nat.le_of_ble_eq_true rfl)⟩ (Nat.le_of_ble_eq_true rfl) dX2_companyOf_3 (fun z_3 u_1 hp_2 => ?_)
  obtain ⟨hz_3, hp_2⟩ := hp_2
  subst hp_2
  refine z_if_eq (tgt := 23) (u := z_3.toInt) E dX2_companyOf_6 (by decide) rfl (fun h_5 => ?_) (fun h_5 => ?_)
  ·
    refine s_iconst (v := 0) E dX2_companyOf_23 (by decide) ?_
    exact r_int E dX2_companyOf_24 ⟨⟨by decide, by decide, by first | (left; decide) | (right; decide) | (right; have hb_ := z32 x1; omega), by first | (left; decide) | (right; decide) | (right; have hb_ := z32 x2; omega), by first | (left; decide) | (right; decide) | (right; have hb_ := z32 (w.2.2.1 75 5); omega)⟩, rfl⟩
  ·
    refine s_aload_n E dX2_companyOf_9 rfl rfl ?_
    refine s_gR (r := 80) E fg_X2_24 rfl rfl (jv_lt hJ (by decide)) (jv_r hJ (by decide +kernel)) dX2_companyOf_10 ?_
    refine s_iload_n E dX2_companyOf_13 rfl rfl ?_
    refine s_bipush (v := 15) E dX2_companyOf_14 (by decide) ?_
    refine z_imul (u := x1.toInt) (v := 15) E dX2_companyOf_16 rfl (by decide) (by omega) (by omega) (fun z_6 hz_6 => ?_)
    refine s_iload_n E dX2_companyOf_17 rfl rfl ?_
    refine z_iadd (u := z_6.toInt) (v := x2.toInt) E dX2_companyOf_18 rfl rfl (by omega) (by omega) (fun z_7 hz_7 => ?_)
    refine s_iald E rfl (jv_lt hJ (by decide)) (z_in (u := z_7.toInt) rfl (by omega) (by omega)) dX2_companyOf_19 ?_
    refine z_nm (P := fun z => (-2147483648) ≤ z.toInt ∧ z.toInt ≤ 2147483647) (z32 _) (fun z_8 hz_8 => ?_)
    refine s_goto (tgt := 24) E dX2_companyOf_20 (by decide) ?_
    exact r_int E dX2_companyOf_24 ⟨⟨by have hb_ := z32 z_8; omega, by have hb_ := z32 z_8; omega, by first | (right; decide) | (have hb_ := z32 z_8; omega) | (have hb_ := z32 z_8; have hc_ := z32 x1; omega), by first | (right; decide) | (have hb_ := z32 z_8; omega) | (have hb_ := z32 z_8; have hc_ := z32 x2; omega), by first | (right; decide) | (have hb_ := z32 z_8; omega) | (have hb_ := z32 z_8; have hc_ := z32 (w.2.2.1 75 5); omega)⟩, rfl⟩
set_option maxRecDepth 20000 in
set_option maxHeartbeats 2000000 in
theorem Z_X5_passed_81_r75 (l : Launch) (D : va_G) (aC : Nat → ClassId) (b : Nat) (w : XW) (x1 : Int32) (x2 : Int32) (hI : Iv w)  : CnI l D aC b M_X5_passed 2 44 0 0 [AR 81, AR 75, AI x1, AI x2] w (fun r u => ((-2147483648) ≤ r.toInt ∧ r.toInt ≤ 2147483647) ∧ w = u) := by
  refine cn_I (own := RX5) (nm := "passed") (L0 := [some (AR 81), some (AR 75), some (AI x1), some (AI x2), none, none]) (by decide +kernel) rfl rfl (Nat.le_of_ble_eq_true rfl) rfl ?_
  intro p e s m args below meth c E hin
  have hJ : Jv w w := jv_rfl hI
  have hb_x1 := z32 x1
  have hb_x2 := z32 x2
  refine s_iload_n E dX5_passed_0 rfl rfl ?_
  refine s_istore (L2 := [some (AR 81), some (AR 75), some (AI x1), some (AI x2), some (AI x2), none]) E dX5_passed_1 (by decide) rfl ?_
  refine s_iconst (v := 0) E dX5_passed_3 (by decide) ?_
  refine s_istore (L2 := [some (AR 81), some (AR 75), some (AI x1), some (AI x2), some (AI x2), some (AI 0)]) E dX5_passed_4 (by decide) rfl ?_
  refine z_loop (St := Int32 × Int32) (Pi := fun ⟨q6_4_0, q6_5_0⟩ v6 => (0 ≤ q6_5_0.toInt ∧ q6_5_0.toInt ≤ 6) ∧ w = v6) (Lf := fun ⟨q6_4_0, q6_5_0⟩ => [some (AR 81), some (AR 75), some (AI x1), some (AI x2), some (AI q6_4_0), some (AI q6_5_0)]) (fun ⟨q6_4_0, q6_5_0⟩ _ => (7 - q6_5_0.toInt).toNat) ⟨x2, 0⟩ ⟨⟨by decide, by decide⟩, rfl⟩ ?_
  rintro ⟨q6_4_0, q6_5_0⟩ v6 ⟨hq6_5, hv_⟩ ih6
  subst hv_
  have hbq6_4 := z32 q6_4_0
  refine s_loc (L2 := [some (AR 81), some (AR 75), some (AI x1), some (AI x2), some (AI q6_4_0), some (AI q6_5_0)]) rfl ?_
  refine s_iload E dX5_passed_6 rfl ?_
  refine s_aload_n E dX5_passed_8 rfl rfl ?_
  refine s_gI E fg_X5_33 rfl rfl (jv_lt hJ (by decide)) dX5_passed_9 ?_
  refine z_nm (P := fun z => z.toInt = (w.2.2.1 81 3).toInt ∧ 0 ≤ z.toInt ∧ z.toInt ≤ 6) ⟨rfl, (rg_81_3 hJ)⟩ (fun z_2 hz_2 => ?_)
  refine z_icmp_ge (tgt := 50) (u := q6_5_0.toInt) (v := z_2.toInt) E dX5_passed_12 (by decide) rfl rfl (fun h_3 => ?_) (fun h_3 => ?_)
  ·
    refine s_iload E dX5_passed_50 rfl ?_
    exact r_int E dX5_passed_52 ⟨⟨by have hb_ := z32 q6_4_0; omega, by have hb_ := z32 q6_4_0; omega⟩, rfl⟩
  ·
    refine s_iload_n E dX5_passed_15 rfl rfl ?_
    refine s_iload E dX5_passed_16 rfl ?_
    refine s_sI (As := [AI x2, AI q6_5_0]) (S := []) E (Z_X9_hasBit l D aC b w x2 q6_5_0 hJ.1 ) cs_X5_50 rfl rfl (Nat.le_of_ble_eq_true rfl) (Nat.le_of_ble_eq_true rfl) ⟨(Nat.le_of_ble_eq_true rfl), (Nat.le_of_ble_eq_true rfl)⟩ (Nat.le_of_ble_eq_true rfl) dX5_passed_18 (fun z_6 u_4 hp_5 => ?_)
    obtain ⟨hz_6, hp_5⟩ := hp_5
    subst hp_5
    refine z_if_eq (tgt := 44) (u := z_6.toInt) E dX5_passed_21 (by decide) rfl (fun h_8 => ?_) (fun h_8 => ?_)
    ·
      refine z_iinc (u := q6_5_0.toInt) (L2 := fun z_9 => [some (AR 81), some (AR 75), some (AI x1), some (AI x2), some (AI q6_4_0), some (AI z_9)]) E dX5_passed_44 rfl rfl (by decide) (fun _ => rfl) (by decide) (by omega) (by omega) (fun z_9 hz_9 => ?_)
      refine s_goto (tgt := 6) E dX5_passed_47 (by decide) ?_
      exact ih6 ⟨q6_4_0, z_9⟩ w ⟨⟨by have hb_ := z32 z_9; omega, by have hb_ := z32 z_9; omega⟩, rfl⟩ (by first | omega | decide | (dsimp only; omega) | (dsimp only; decide))
    ·
      refine s_iload E dX5_passed_24 rfl ?_
      refine s_aload_n E dX5_passed_26 rfl rfl ?_
      refine s_gR (r := 82) E fg_X5_9 rfl rfl (jv_lt hJ (by decide)) (jv_r hJ (by decide +kernel)) dX5_passed_27 ?_
      refine s_iload E dX5_passed_30 rfl ?_
      refine s_iald E rfl (jv_lt hJ (by decide)) (z_in (u := q6_5_0.toInt) rfl (by omega) (by omega)) dX5_passed_32 ?_
      refine z_nm (P := fun z => (-2147483648) ≤ z.toInt ∧ z.toInt ≤ 2147483647) (z32 _) (fun z_10 hz_10 => ?_)
      refine s_aload_n E dX5_passed_33 rfl rfl ?_
      refine s_iload E dX5_passed_34 rfl ?_
      refine s_iload_n E dX5_passed_36 rfl rfl ?_
      refine s_vI (As := [AI q6_5_0, AI x1]) (S := [AI z_10, AI q6_4_0]) E (Z_X2_companyOf_75 l D aC b w q6_5_0 x1 hJ.1 ) cv_X5_54 rfl rfl rfl (jv_lt hJ (by decide)) (Nat.le_of_ble_eq_true rfl) (Nat.le_of_ble_eq_true rfl) ⟨(Nat.le_of_ble_eq_true rfl), (Nat.le_of_ble_eq_true rfl)⟩ (Nat.le_of_ble_eq_true rfl) dX5_passed_37 (fun z_13 u_11 hp_12 => ?_)
      obtain ⟨hz_13, hp_12⟩ := hp_12
      subst hp_12
      refine s_iand E dX5_passed_40 ?_
      refine z_nm (P := fun z => (-2147483648) ≤ z.toInt ∧ z.toInt ≤ 2147483647) (z32 _) (fun z_15 hz_15 => ?_)
      refine s_ior E dX5_passed_41 ?_
      refine z_nm (P := fun z => (-2147483648) ≤ z.toInt ∧ z.toInt ≤ 2147483647) (z32 _) (fun z_16 hz_16 => ?_)
      refine s_istore (L2 := [some (AR 81), some (AR 75), some (AI x1), some (AI x2), some (AI z_16), some (AI q6_5_0)]) E dX5_passed_42 (by decide) rfl ?_
      refine z_iinc (u := q6_5_0.toInt) (L2 := fun z_17 => [some (AR 81), some (AR 75), some (AI x1), some (AI x2), some (AI z_16), some (AI z_17)]) E dX5_passed_44 rfl rfl (by decide) (fun _ => rfl) (by decide) (by omega) (by omega) (fun z_17 hz_17 => ?_)
      refine s_goto (tgt := 6) E dX5_passed_47 (by decide) ?_
      exact ih6 ⟨z_16, z_17⟩ w ⟨⟨by have hb_ := z32 z_17; omega, by have hb_ := z32 z_17; omega⟩, rfl⟩ (by first | omega | decide | (dsimp only; omega) | (dsimp only; decide))
set_option maxRecDepth 20000 in
set_option maxHeartbeats 2000000 in
theorem Z_X5_follow_81_r75 (l : Launch) (D : va_G) (aC : Nat → ClassId) (b : Nat) (w : XW) (x1 : Int32) (x2 : Int32) (hI : Iv w)  : CnV l D aC b M_X5_follow 3 69 0 0 [AR 81, AR 75, AI x1, AI x2] w (fun u => Jv w u) := by
  refine cn_V (own := RX5) (nm := "follow") (L0 := [some (AR 81), some (AR 75), some (AI x1), some (AI x2), none, none]) (by decide +kernel) rfl rfl (Nat.le_of_ble_eq_true rfl) rfl ?_
  intro p e s m args below meth c E hin
  have hJ : Jv w w := jv_rfl hI
  have hb_x1 := z32 x1
  have hb_x2 := z32 x2
  refine s_aload_n E dX5_follow_0 rfl rfl ?_
  refine s_iload_n E dX5_follow_1 rfl rfl ?_
  refine s_pI E fp_X5_59 (Or.inl rfl) rfl (jv_lt hJ (by decide)) dX5_follow_2 ?_
  refine s_gen (P := Jv w) (jv_f_81_5 hJ (by have hb_ := z32 x1; omega) (by have hb_ := z32 x1; omega)) (fun v_1 hj_2 => ?_)
  refine s_iconst (v := 1) E dX5_follow_5 (by decide) ?_
  refine s_iload_n E dX5_follow_6 rfl rfl ?_
  refine s_ishl E dX5_follow_7 ?_
  refine z_nm (P := fun z => (-2147483648) ≤ z.toInt ∧ z.toInt ≤ 2147483647) (z32 _) (fun z_3 hz_3 => ?_)
  refine s_istore (L2 := [some (AR 81), some (AR 75), some (AI x1), some (AI x2), some (AI z_3), none]) E dX5_follow_8 (by decide) rfl ?_
  refine s_iconst (v := 0) E dX5_follow_10 (by decide) ?_
  refine s_istore (L2 := [some (AR 81), some (AR 75), some (AI x1), some (AI x2), some (AI z_3), some (AI 0)]) E dX5_follow_11 (by decide) rfl ?_
  refine z_loop (St := Int32 × Int32) (Pi := fun ⟨q13_4_3, q13_5_3⟩ v13 => (0 ≤ q13_5_3.toInt ∧ q13_5_3.toInt ≤ 15) ∧ Jv w v13) (Lf := fun ⟨q13_4_3, q13_5_3⟩ => [some (AR 81), some (AR 75), some (AI x1), some (AI x2), some (AI q13_4_3), some (AI q13_5_3)]) (fun ⟨q13_4_3, q13_5_3⟩ _ => (16 - q13_5_3.toInt).toNat) ⟨z_3, 0⟩ ⟨⟨by decide, by decide⟩, hj_2⟩ ?_
  rintro ⟨q13_4_3, q13_5_3⟩ v13 ⟨hq13_5, hj_4⟩ ih13
  have hbq13_4 := z32 q13_4_3
  refine s_loc (L2 := [some (AR 81), some (AR 75), some (AI x1), some (AI x2), some (AI q13_4_3), some (AI q13_5_3)]) rfl ?_
  refine s_iload E dX5_follow_13 rfl ?_
  refine s_aload_n E dX5_follow_15 rfl rfl ?_
  refine s_gI E fg_X5_38 rfl rfl (jv_lt hj_4 (by decide)) dX5_follow_16 ?_
  refine z_nm (P := fun z => z.toInt = (v13.2.2.1 81 4).toInt ∧ 0 ≤ z.toInt ∧ z.toInt ≤ 14) ⟨rfl, (rg_81_4 hj_4)⟩ (fun z_5 hz_5 => ?_)
  refine z_icmp_gt (tgt := 57) (u := q13_5_3.toInt) (v := z_5.toInt) E dX5_follow_19 (by decide) rfl rfl (fun h_6 => ?_) (fun h_6 => ?_)
  ·
    exact r_void E dX5_follow_57 hj_4
  ·
    refine s_iload_n E dX5_follow_22 rfl rfl ?_
    refine s_iload E dX5_follow_23 rfl ?_
    refine s_sI (As := [AI x2, AI q13_5_3]) (S := []) E (Z_X9_hasBit l D aC b v13 x2 q13_5_3 hj_4.1 ) cs_X5_50 rfl rfl (Nat.le_of_ble_eq_true rfl) (Nat.le_of_ble_eq_true rfl) ⟨(Nat.le_of_ble_eq_true rfl), (Nat.le_of_ble_eq_true rfl)⟩ (Nat.le_of_ble_eq_true rfl) dX5_follow_25 (fun z_9 u_7 hp_8 => ?_)
    obtain ⟨hz_9, hp_8⟩ := hp_8
    subst hp_8
    refine z_if_ne (tgt := 42) (u := z_9.toInt) E dX5_follow_28 (by decide) rfl (fun h_11 => ?_) (fun h_11 => ?_)
    ·
      refine s_aload_n E dX5_follow_42 rfl rfl ?_
      refine s_gR (r := 84) E fg_X5_18 rfl rfl (jv_lt hj_4 (by decide)) (jv_r hj_4 (by decide +kernel)) dX5_follow_43 ?_
      refine s_iload E dX5_follow_46 rfl ?_
      refine s_iload E dX5_follow_48 rfl ?_
      refine s_iast E rfl (jv_lt hj_4 (by decide)) (z_in (u := q13_5_3.toInt) rfl (by omega) (by omega)) dX5_follow_50 ?_
      refine s_gen (P := Jv w) (jv_a_84 hj_4 (by have hb_ := z32 q13_4_3; omega) (by have hb_ := z32 q13_4_3; omega)) (fun v_12 hj_13 => ?_)
      refine z_iinc (u := q13_5_3.toInt) (L2 := fun z_14 => [some (AR 81), some (AR 75), some (AI x1), some (AI x2), some (AI q13_4_3), some (AI z_14)]) E dX5_follow_51 rfl rfl (by decide) (fun _ => rfl) (by decide) (by omega) (by omega) (fun z_14 hz_14 => ?_)
      refine s_goto (tgt := 13) E dX5_follow_54 (by decide) ?_
      exact ih13 ⟨q13_4_3, z_14⟩ v_12 ⟨⟨by have hb_ := z32 z_14; omega, by have hb_ := z32 z_14; omega⟩, hj_13⟩ (by first | omega | decide | (dsimp only; omega) | (dsimp only; decide))
    ·
      refine s_aload_n E dX5_follow_31 rfl rfl ?_
      refine s_aload_n E dX5_follow_32 rfl rfl ?_
      refine s_iload E dX5_follow_33 rfl ?_
      refine s_iload E dX5_follow_35 rfl ?_
      refine s_vI (As := [AR 75, AI q13_5_3, AI q13_4_3]) (S := []) E (Z_X5_passed_81_r75 l D aC b v13 q13_5_3 q13_4_3 hj_4.1 ) cv_X5_62 rfl rfl rfl (jv_lt hj_4 (by decide)) (Nat.le_of_ble_eq_true rfl) (Nat.le_of_ble_eq_true rfl) ⟨(Nat.le_of_ble_eq_true rfl), (Nat.le_of_ble_eq_true rfl)⟩ (Nat.le_of_ble_eq_true rfl) dX5_follow_37 (fun z_17 u_15 hp_16 => ?_)
      obtain ⟨hz_17, hp_16⟩ := hp_16
      subst hp_16
      refine s_istore (L2 := [some (AR 81), some (AR 75), some (AI x1), some (AI x2), some (AI z_17), some (AI q13_5_3)]) E dX5_follow_40 (by decide) rfl ?_
      refine s_aload_n E dX5_follow_42 rfl rfl ?_
      refine s_gR (r := 84) E fg_X5_18 rfl rfl (jv_lt hj_4 (by decide)) (jv_r hj_4 (by decide +kernel)) dX5_follow_43 ?_
      refine s_iload E dX5_follow_46 rfl ?_
      refine s_iload E dX5_follow_48 rfl ?_
      refine s_iast E rfl (jv_lt hj_4 (by decide)) (z_in (u := q13_5_3.toInt) rfl (by omega) (by omega)) dX5_follow_50 ?_
      refine s_gen (P := Jv w) (jv_a_84 hj_4 (by have hb_ := z32 z_17; omega) (by have hb_ := z32 z_17; omega)) (fun v_19 hj_20 => ?_)
      refine z_iinc (u := q13_5_3.toInt) (L2 := fun z_21 => [some (AR 81), some (AR 75), some (AI x1), some (AI x2), some (AI z_17), some (AI z_21)]) E dX5_follow_51 rfl rfl (by decide) (fun _ => rfl) (by decide) (by omega) (by omega) (fun z_21 hz_21 => ?_)
      refine s_goto (tgt := 13) E dX5_follow_54 (by decide) ?_
      exact ih13 ⟨z_17, z_21⟩ v_19 ⟨⟨by have hb_ := z32 z_21; omega, by have hb_ := z32 z_21; omega⟩, hj_20⟩ (by first | omega | decide | (dsimp only; omega) | (dsimp only; decide))
set_option maxRecDepth 20000 in
set_option maxHeartbeats 2000000 in
theorem Z_X9_inTheEnd_0_r75 (l : Launch) (D : va_G) (aC : Nat → ClassId) (b : Nat) (w : XW) (x1 : Int32) (hI : Iv w)  : CnI l D aC b M_X9_inTheEnd 4 94 0 0 [AR 0, AR 75, AI x1] w (fun r u => ((-2147483648) ≤ r.toInt ∧ r.toInt ≤ 2147483647) ∧ Jv w u) := by
  refine cn_I (own := RX9) (nm := "inTheEnd") (L0 := [some (AR 0), some (AR 75), some (AI x1)]) (by decide +kernel) rfl rfl (Nat.le_of_ble_eq_true rfl) rfl ?_
  intro p e s m args below meth c E hin
  have hJ : Jv w w := jv_rfl hI
  have hb_x1 := z32 x1
  refine s_aload_n E dX9_inTheEnd_0 rfl rfl ?_
  refine s_gR (r := 81) E fg_X9_64 rfl rfl (jv_lt hJ (by decide)) (jv_r hJ (by decide +kernel)) dX9_inTheEnd_1 ?_
  refine s_aload_n E dX9_inTheEnd_4 rfl rfl ?_
  refine s_iload_n E dX9_inTheEnd_5 rfl rfl ?_
  refine s_iconst (v := 0) E dX9_inTheEnd_6 (by decide) ?_
  refine s_vV (As := [AR 75, AI x1, AI 0]) (S := []) E (Z_X5_follow_81_r75 l D aC b w x1 0 hJ.1 ) cv_X9_220 rfl rfl rfl (jv_lt hJ (by decide)) (Nat.le_of_ble_eq_true rfl) (Nat.le_of_ble_eq_true rfl) ⟨(Nat.le_of_ble_eq_true rfl), (Nat.le_of_ble_eq_true rfl)⟩ (Nat.le_of_ble_eq_true rfl) dX9_inTheEnd_7 (fun u_1 hp_2 => ?_)
  have hj_3 := jv_trans hJ hp_2
  refine s_aload_n E dX9_inTheEnd_10 rfl rfl ?_
  refine s_gR (r := 81) E fg_X9_64 rfl rfl (jv_lt hj_3 (by decide)) (jv_r hj_3 (by decide +kernel)) dX9_inTheEnd_11 ?_
  refine s_aload_n E dX9_inTheEnd_14 rfl rfl ?_
  refine s_gR (r := 2) E fg_X9_20 rfl rfl (jv_lt hj_3 (by decide)) (jv_r hj_3 (by decide +kernel)) dX9_inTheEnd_15 ?_
  refine s_gI E fg_X9_169 rfl rfl (jv_lt hj_3 (by decide)) dX9_inTheEnd_18 ?_
  refine z_nm (P := fun z => z.toInt = (u_1.2.2.1 2 2).toInt ∧ 0 ≤ z.toInt ∧ z.toInt ≤ 14) ⟨rfl, (rg_2_2 hj_3)⟩ (fun z_4 hz_4 => ?_)
  refine s_vI (As := [AI z_4]) (S := []) E (Z_X5_behind_81 l D aC b u_1 z_4 hj_3.1 ) cv_X9_224 rfl rfl rfl (jv_lt hj_3 (by decide)) (Nat.le_of_ble_eq_true rfl) (Nat.le_of_ble_eq_true rfl) ⟨(Nat.le_of_ble_eq_true rfl), (Nat.le_of_ble_eq_true rfl)⟩ (Nat.le_of_ble_eq_true rfl) dX9_inTheEnd_21 (fun z_7 u_5 hp_6 => ?_)
  obtain ⟨hz_7, hp_6⟩ := hp_6
  subst hp_6
  exact r_int E dX9_inTheEnd_24 ⟨⟨by have hb_ := z32 z_7; omega, by have hb_ := z32 z_7; omega⟩, hj_3⟩
set_option maxRecDepth 20000 in
set_option maxHeartbeats 2000000 in
theorem Z_X9_widen_0 (l : Launch) (D : va_G) (aC : Nat → ClassId) (b : Nat) (w : XW) (x1 : Int32) (x2 : Int32) (hI : Iv w)  : CnI l D aC b M_X9_widen 5 120 0 0 [AR 0, AI x1, AI x2] w (fun r u => ((-2) ≤ r.toInt ∧ r.toInt ≤ 64) ∧ Jv w u) := by
  refine cn_I (own := RX9) (nm := "widen") (L0 := [some (AR 0), some (AI x1), some (AI x2), none, none, none, none]) (by decide +kernel) rfl rfl (Nat.le_of_ble_eq_true rfl) rfl ?_
  intro p e s m args below meth c E hin
  have hJ : Jv w w := jv_rfl hI
  have hb_x1 := z32 x1
  have hb_x2 := z32 x2
  refine s_aload_n E dX9_widen_0 rfl rfl ?_
  refine s_gR (r := 2) E fg_X9_20 rfl rfl (jv_lt hJ (by decide)) (jv_r hJ (by decide +kernel)) dX9_widen_1 ?_
  refine s_iload_n E dX9_widen_4 rfl rfl ?_
  refine s_vI (As := [AI x1]) (S := []) E (Z_X0_hasLady_2 l D aC b w x1 hJ.1 ) cv_X9_139 rfl rfl rfl (jv_lt hJ (by decide)) (Nat.le_of_ble_eq_true rfl) (Nat.le_of_ble_eq_true rfl) ⟨(Nat.le_of_ble_eq_true rfl), (Nat.le_of_ble_eq_true rfl)⟩ (Nat.le_of_ble_eq_true rfl) dX9_widen_5 (fun z_3 u_1 hp_2 => ?_)
  obtain ⟨hz_3, hp_2⟩ := hp_2
  subst hp_2
  refine z_if_eq (tgt := 25) (u := z_3.toInt) E dX9_widen_8 (by decide) rfl (fun h_5 => ?_) (fun h_5 => ?_)
  ·
    refine s_bipush (v := (-2)) E dX9_widen_25 (by decide) ?_
    exact r_int E dX9_widen_27 ⟨(by decide), hJ⟩
  ·
    refine s_aload_n E dX9_widen_11 rfl rfl ?_
    refine s_gR (r := 2) E fg_X9_20 rfl rfl (jv_lt hJ (by decide)) (jv_r hJ (by decide +kernel)) dX9_widen_12 ?_
    refine s_gR (r := 3) E fg_X9_119 rfl rfl (jv_lt hJ (by decide)) (jv_r hJ (by decide +kernel)) dX9_widen_15 ?_
    refine s_iload_n E dX9_widen_18 rfl rfl ?_
    refine s_vI (As := [AI x2]) (S := []) E (Z_X8_has_3 l D aC b w x2 hJ.1 ) cv_X9_257 rfl rfl rfl (jv_lt hJ (by decide)) (Nat.le_of_ble_eq_true rfl) (Nat.le_of_ble_eq_true rfl) ⟨(Nat.le_of_ble_eq_true rfl), (Nat.le_of_ble_eq_true rfl)⟩ (Nat.le_of_ble_eq_true rfl) dX9_widen_19 (fun z_8 u_6 hp_7 => ?_)
    obtain ⟨hz_8, hp_7⟩ := hp_7
    subst hp_7
    refine z_if_ne (tgt := 28) (u := z_8.toInt) E dX9_widen_22 (by decide) rfl (fun h_10 => ?_) (fun h_10 => ?_)
    ·
      refine s_aload_n E dX9_widen_28 rfl rfl ?_
      refine s_vV (As := []) (S := []) E (Z_X9_passAsTold_0 l D aC b w  hJ.1 ) cv_X9_227 rfl rfl rfl (jv_lt hJ (by decide)) (Nat.le_of_ble_eq_true rfl) (Nat.le_of_ble_eq_true rfl) ⟨(Nat.le_of_ble_eq_true rfl), (Nat.le_of_ble_eq_true rfl)⟩ (Nat.le_of_ble_eq_true rfl) dX9_widen_29 (fun u_11 hp_12 => ?_)
      have hj_13 := jv_trans hJ hp_12
      refine s_iconst (v := 1) E dX9_widen_32 (by decide) ?_
      refine s_istore_n (L2 := [some (AR 0), some (AI x1), some (AI x2), some (AI 1), none, none, none]) E dX9_widen_33 rfl (by decide) rfl ?_
      refine s_iconst (v := 0) E dX9_widen_34 (by decide) ?_
      refine s_istore (L2 := [some (AR 0), some (AI x1), some (AI x2), some (AI 1), some (AI 0), none, none]) E dX9_widen_35 (by decide) rfl ?_
      refine s_iconst (v := 1) E dX9_widen_37 (by decide) ?_
      refine s_istore (L2 := [some (AR 0), some (AI x1), some (AI x2), some (AI 1), some (AI 0), some (AI 1), none]) E dX9_widen_38 (by decide) rfl ?_
      refine z_loop (St := Int32 × Int32 × Int32) (Pi := fun ⟨q40_3_13, q40_4_13, q40_5_13⟩ v40 => (1 ≤ q40_3_13.toInt ∧ q40_3_13.toInt ≤ 64) ∧ (0 ≤ q40_4_13.toInt ∧ q40_4_13.toInt ≤ 63) ∧ (1 ≤ q40_5_13.toInt ∧ q40_5_13.toInt ≤ 10) ∧ Jv w v40) (Lf := fun ⟨q40_3_13, q40_4_13, q40_5_13⟩ => [some (AR 0), some (AI x1), some (AI x2), some (AI q40_3_13), some (AI q40_4_13), some (AI q40_5_13), none]) (fun ⟨q40_3_13, q40_4_13, q40_5_13⟩ _ => (11 - q40_5_13.toInt).toNat) ⟨1, 0, 1⟩ ⟨⟨by decide, by decide⟩, ⟨by decide, by decide⟩, ⟨by decide, by decide⟩, hj_13⟩ ?_
      rintro ⟨q40_3_13, q40_4_13, q40_5_13⟩ v40 ⟨hq40_3, hq40_4, hq40_5, hj_14⟩ ih40
      refine s_loc (L2 := [some (AR 0), some (AI x1), some (AI x2), some (AI q40_3_13), some (AI q40_4_13), some (AI q40_5_13), none]) rfl ?_
      refine s_iload E dX9_widen_40 rfl ?_
      refine s_bipush (v := 9) E dX9_widen_42 (by decide) ?_
      refine z_icmp_gt (tgt := 95) (u := q40_5_13.toInt) (v := 9) E dX9_widen_44 (by decide) rfl (by decide) (fun h_15 => ?_) (fun h_15 => ?_)
      ·
        refine s_iload_n E dX9_widen_95 rfl rfl ?_
        exact r_int E dX9_widen_96 ⟨⟨by have hb_ := z32 q40_3_13; omega, by have hb_ := z32 q40_3_13; omega⟩, hj_14⟩
      ·
        refine s_aload_n E dX9_widen_47 rfl rfl ?_
        refine s_gR (r := 75) E fg_X9_58 rfl rfl (jv_lt hj_14 (by decide)) (jv_r hj_14 (by decide +kernel)) dX9_widen_48 ?_
        refine s_aload_n E dX9_widen_51 rfl rfl ?_
        refine s_gR (r := 2) E fg_X9_20 rfl rfl (jv_lt hj_14 (by decide)) (jv_r hj_14 (by decide +kernel)) dX9_widen_52 ?_
        refine s_iload_n E dX9_widen_55 rfl rfl ?_
        refine s_iload E dX9_widen_56 rfl ?_
        refine s_vV (As := [AR 2, AI x2, AI q40_5_13]) (S := []) E (Z_X2_settle_75_r2 l D aC b v40 x2 q40_5_13 hj_14.1 ) cv_X9_116 rfl rfl rfl (jv_lt hj_14 (by decide)) (Nat.le_of_ble_eq_true rfl) (Nat.le_of_ble_eq_true rfl) ⟨(Nat.le_of_ble_eq_true rfl), (Nat.le_of_ble_eq_true rfl)⟩ (Nat.le_of_ble_eq_true rfl) dX9_widen_58 (fun u_16 hp_17 => ?_)
        have hj_18 := jv_trans hj_14 hp_17
        refine s_aload_n E dX9_widen_61 rfl rfl ?_
        refine s_aload_n E dX9_widen_62 rfl rfl ?_
        refine s_gR (r := 75) E fg_X9_58 rfl rfl (jv_lt hj_18 (by decide)) (jv_r hj_18 (by decide +kernel)) dX9_widen_63 ?_
        refine s_iload_n E dX9_widen_66 rfl rfl ?_
        refine s_vI (As := [AR 75, AI x1]) (S := []) E (Z_X9_inTheEnd_0_r75 l D aC b u_16 x1 hj_18.1 ) cv_X9_230 rfl rfl rfl (jv_lt hj_18 (by decide)) (Nat.le_of_ble_eq_true rfl) (Nat.le_of_ble_eq_true rfl) ⟨(Nat.le_of_ble_eq_true rfl), (Nat.le_of_ble_eq_true rfl)⟩ (Nat.le_of_ble_eq_true rfl) dX9_widen_67 (fun z_21 u_19 hp_20 => ?_)
        obtain ⟨hz_21, hp_20⟩ := hp_20
        have hj_22 := jv_trans hj_18 hp_20
        refine s_sI (As := [AI z_21]) (S := []) E (Z_J6_bitCount_0f7a4 l D aC b u_19 z_21 hj_22.1 ) cs_X9_203 rfl rfl (Nat.le_of_ble_eq_true rfl) (Nat.le_of_ble_eq_true rfl) ⟨(Nat.le_of_ble_eq_true rfl), (Nat.le_of_ble_eq_true rfl)⟩ (Nat.le_of_ble_eq_true rfl) dX9_widen_70 (fun z_25 u_23 hp_24 => ?_)
        obtain ⟨hz_25, hp_24⟩ := hp_24
        subst hp_24
        refine s_istore (L2 := [some (AR 0), some (AI x1), some (AI x2), some (AI q40_3_13), some (AI q40_4_13), some (AI q40_5_13), some (AI z_25)]) E dX9_widen_73 (by decide) rfl ?_
        refine s_iload E dX9_widen_75 rfl ?_
        refine s_iload E dX9_widen_77 rfl ?_
        refine z_icmp_le (tgt := 89) (u := z_25.toInt) (v := q40_4_13.toInt) E dX9_widen_79 (by decide) rfl rfl (fun h_27 => ?_) (fun h_27 => ?_)
        ·
          refine z_iinc (u := q40_5_13.toInt) (L2 := fun z_28 => [some (AR 0), some (AI x1), some (AI x2), some (AI q40_3_13), some (AI q40_4_13), some (AI z_28), some (AI z_25)]) E dX9_widen_89 rfl rfl (by decide) (fun _ => rfl) (by decide) (by omega) (by omega) (fun z_28 hz_28 => ?_)
          refine s_goto (tgt := 40) E dX9_widen_92 (by decide) ?_
          refine s_drop (i := 6) (L2 := [some (AR 0), some (AI x1), some (AI x2), some (AI q40_3_13), some (AI q40_4_13), some (AI z_28), none]) rfl ?_
          exact ih40 ⟨q40_3_13, q40_4_13, z_28⟩ u_19 ⟨⟨by have hb_ := z32 q40_3_13; omega, by have hb_ := z32 q40_3_13; omega⟩, ⟨by have hb_ := z32 q40_4_13; omega, by have hb_ := z32 q40_4_13; omega⟩, ⟨by have hb_ := z32 z_28; omega, by have hb_ := z32 z_28; omega⟩, hj_22⟩ (by first | omega | decide | (dsimp only; omega) | (dsimp only; decide))
        ·
          refine s_iload E dX9_widen_82 rfl ?_
          refine s_istore (L2 := [some (AR 0), some (AI x1), some (AI x2), some (AI q40_3_13), some (AI z_25), some (AI q40_5_13), some (AI z_25)]) E dX9_widen_84 (by decide) rfl ?_
          refine s_iload E dX9_widen_86 rfl ?_
          refine s_istore_n (L2 := [some (AR 0), some (AI x1), some (AI x2), some (AI q40_5_13), some (AI z_25), some (AI q40_5_13), some (AI z_25)]) E dX9_widen_88 rfl (by decide) rfl ?_
          refine z_iinc (u := q40_5_13.toInt) (L2 := fun z_29 => [some (AR 0), some (AI x1), some (AI x2), some (AI q40_5_13), some (AI z_25), some (AI z_29), some (AI z_25)]) E dX9_widen_89 rfl rfl (by decide) (fun _ => rfl) (by decide) (by omega) (by omega) (fun z_29 hz_29 => ?_)
          refine s_goto (tgt := 40) E dX9_widen_92 (by decide) ?_
          refine s_drop (i := 6) (L2 := [some (AR 0), some (AI x1), some (AI x2), some (AI q40_5_13), some (AI z_25), some (AI z_29), none]) rfl ?_
          exact ih40 ⟨q40_5_13, z_25, z_29⟩ u_19 ⟨⟨by have hb_ := z32 q40_5_13; omega, by have hb_ := z32 q40_5_13; omega⟩, ⟨by have hb_ := z32 z_25; omega, by have hb_ := z32 z_25; omega⟩, ⟨by have hb_ := z32 z_29; omega, by have hb_ := z32 z_29; omega⟩, hj_22⟩ (by first | omega | decide | (dsimp only; omega) | (dsimp only; decide))
    ·
      refine s_bipush (v := (-2)) E dX9_widen_25 (by decide) ?_
      exact r_int E dX9_widen_27 ⟨(by decide), hJ⟩
set_option maxRecDepth 20000 in
set_option maxHeartbeats 2000000 in
theorem Z_X9_shut_0 (l : Launch) (D : va_G) (aC : Nat → ClassId) (b : Nat) (w : XW) (x1 : Int32) (x2 : Int32) (hI : Iv w)  : CnI l D aC b M_X9_shut 5 120 0 0 [AR 0, AI x1, AI x2] w (fun r u => ((-2147483648) ≤ r.toInt ∧ r.toInt ≤ 2147483647 ∧ (¬ r.toInt = 0 ∨ (0 ≤ x1.toInt ∧ x1.toInt ≤ 5)) ∧ (¬ r.toInt = 0 ∨ (0 ≤ x2.toInt ∧ x2.toInt ≤ 11)) ∧ (¬ r.toInt = 0 ∨ (1 ≤ (w.2.2.1 5 3).toInt ∧ (w.2.2.1 5 3).toInt ≤ 6)) ∧ (¬ r.toInt = 0 ∨ (1 ≤ (w.2.2.1 3 3).toInt ∧ (w.2.2.1 3 3).toInt ≤ 12))) ∧ Jv w u) := by
  refine cn_I (own := RX9) (nm := "shut") (L0 := [some (AR 0), some (AI x1), some (AI x2)]) (by decide +kernel) rfl rfl (Nat.le_of_ble_eq_true rfl) rfl ?_
  intro p e s m args below meth c E hin
  have hJ : Jv w w := jv_rfl hI
  have hb_x1 := z32 x1
  have hb_x2 := z32 x2
  refine s_aload_n E dX9_shut_0 rfl rfl ?_
  refine s_gR (r := 2) E fg_X9_20 rfl rfl (jv_lt hJ (by decide)) (jv_r hJ (by decide +kernel)) dX9_shut_1 ?_
  refine s_iload_n E dX9_shut_4 rfl rfl ?_
  refine s_vI (As := [AI x1]) (S := []) E (Z_X0_hasLady_2 l D aC b w x1 hJ.1 ) cv_X9_139 rfl rfl rfl (jv_lt hJ (by decide)) (Nat.le_of_ble_eq_true rfl) (Nat.le_of_ble_eq_true rfl) ⟨(Nat.le_of_ble_eq_true rfl), (Nat.le_of_ble_eq_true rfl)⟩ (Nat.le_of_ble_eq_true rfl) dX9_shut_5 (fun z_3 u_1 hp_2 => ?_)
  obtain ⟨hz_3, hp_2⟩ := hp_2
  subst hp_2
  refine z_if_eq (tgt := 25) (u := z_3.toInt) E dX9_shut_8 (by decide) rfl (fun h_5 => ?_) (fun h_5 => ?_)
  ·
    refine s_bipush (v := (-2)) E dX9_shut_25 (by decide) ?_
    exact r_int E dX9_shut_27 ⟨⟨by decide, by decide, by first | (left; decide) | (right; decide) | (right; have hb_ := z32 x1; omega), by first | (left; decide) | (right; decide) | (right; have hb_ := z32 x2; omega), by first | (left; decide) | (right; decide) | (right; have hb_ := z32 (w.2.2.1 5 3); omega), by first | (left; decide) | (right; decide) | (right; have hb_ := z32 (w.2.2.1 3 3); omega)⟩, hJ⟩
  ·
    refine s_aload_n E dX9_shut_11 rfl rfl ?_
    refine s_gR (r := 2) E fg_X9_20 rfl rfl (jv_lt hJ (by decide)) (jv_r hJ (by decide +kernel)) dX9_shut_12 ?_
    refine s_gR (r := 3) E fg_X9_119 rfl rfl (jv_lt hJ (by decide)) (jv_r hJ (by decide +kernel)) dX9_shut_15 ?_
    refine s_iload_n E dX9_shut_18 rfl rfl ?_
    refine s_vI (As := [AI x2]) (S := []) E (Z_X8_has_3 l D aC b w x2 hJ.1 ) cv_X9_257 rfl rfl rfl (jv_lt hJ (by decide)) (Nat.le_of_ble_eq_true rfl) (Nat.le_of_ble_eq_true rfl) ⟨(Nat.le_of_ble_eq_true rfl), (Nat.le_of_ble_eq_true rfl)⟩ (Nat.le_of_ble_eq_true rfl) dX9_shut_19 (fun z_8 u_6 hp_7 => ?_)
    obtain ⟨hz_8, hp_7⟩ := hp_7
    subst hp_7
    refine z_if_ne (tgt := 28) (u := z_8.toInt) E dX9_shut_22 (by decide) rfl (fun h_10 => ?_) (fun h_10 => ?_)
    ·
      refine s_aload_n E dX9_shut_28 rfl rfl ?_
      refine s_vV (As := []) (S := []) E (Z_X9_passAsTold_0 l D aC b w  hJ.1 ) cv_X9_227 rfl rfl rfl (jv_lt hJ (by decide)) (Nat.le_of_ble_eq_true rfl) (Nat.le_of_ble_eq_true rfl) ⟨(Nat.le_of_ble_eq_true rfl), (Nat.le_of_ble_eq_true rfl)⟩ (Nat.le_of_ble_eq_true rfl) dX9_shut_29 (fun u_11 hp_12 => ?_)
      have hj_13 := jv_trans hJ hp_12
      refine s_aload_n E dX9_shut_32 rfl rfl ?_
      refine s_gR (r := 75) E fg_X9_58 rfl rfl (jv_lt hj_13 (by decide)) (jv_r hj_13 (by decide +kernel)) dX9_shut_33 ?_
      refine s_aload_n E dX9_shut_36 rfl rfl ?_
      refine s_gR (r := 2) E fg_X9_20 rfl rfl (jv_lt hj_13 (by decide)) (jv_r hj_13 (by decide +kernel)) dX9_shut_37 ?_
      refine s_iload_n E dX9_shut_40 rfl rfl ?_
      refine s_iconst (v := 0) E dX9_shut_41 (by decide) ?_
      refine s_vV (As := [AR 2, AI x2, AI 0]) (S := []) E (Z_X2_settle_75_r2 l D aC b u_11 x2 0 hj_13.1 ) cv_X9_116 rfl rfl rfl (jv_lt hj_13 (by decide)) (Nat.le_of_ble_eq_true rfl) (Nat.le_of_ble_eq_true rfl) ⟨(Nat.le_of_ble_eq_true rfl), (Nat.le_of_ble_eq_true rfl)⟩ (Nat.le_of_ble_eq_true rfl) dX9_shut_42 (fun u_14 hp_15 => ?_)
      have hj_16 := jv_trans hj_13 hp_15
      refine s_aload_n E dX9_shut_45 rfl rfl ?_
      refine s_aload_n E dX9_shut_46 rfl rfl ?_
      refine s_gR (r := 75) E fg_X9_58 rfl rfl (jv_lt hj_16 (by decide)) (jv_r hj_16 (by decide +kernel)) dX9_shut_47 ?_
      refine s_iload_n E dX9_shut_50 rfl rfl ?_
      refine s_vI (As := [AR 75, AI x1]) (S := []) E (Z_X9_inTheEnd_0_r75 l D aC b u_14 x1 hj_16.1 ) cv_X9_230 rfl rfl rfl (jv_lt hj_16 (by decide)) (Nat.le_of_ble_eq_true rfl) (Nat.le_of_ble_eq_true rfl) ⟨(Nat.le_of_ble_eq_true rfl), (Nat.le_of_ble_eq_true rfl)⟩ (Nat.le_of_ble_eq_true rfl) dX9_shut_51 (fun z_19 u_17 hp_18 => ?_)
      obtain ⟨hz_19, hp_18⟩ := hp_18
      have hj_20 := jv_trans hj_16 hp_18
      exact r_int E dX9_shut_54 ⟨⟨by have hb_ := z32 z_19; omega, by have hb_ := z32 z_19; omega, by first | (right; decide) | (have hb_ := z32 z_19; omega) | (have hb_ := z32 z_19; have hc_ := z32 x1; omega), by first | (right; decide) | (have hb_ := z32 z_19; omega) | (have hb_ := z32 z_19; have hc_ := z32 x2; omega), by first | (right; decide) | (have hb_ := z32 z_19; omega) | (have hb_ := z32 z_19; have hc_ := z32 (w.2.2.1 5 3); omega), by first | (right; decide) | (have hb_ := z32 z_19; omega) | (have hb_ := z32 z_19; have hc_ := z32 (w.2.2.1 3 3); omega)⟩, hj_20⟩
    ·
      refine s_bipush (v := (-2)) E dX9_shut_25 (by decide) ?_
      exact r_int E dX9_shut_27 ⟨⟨by decide, by decide, by first | (left; decide) | (right; decide) | (right; have hb_ := z32 x1; omega), by first | (left; decide) | (right; decide) | (right; have hb_ := z32 x2; omega), by first | (left; decide) | (right; decide) | (right; have hb_ := z32 (w.2.2.1 5 3); omega), by first | (left; decide) | (right; decide) | (right; have hb_ := z32 (w.2.2.1 3 3); omega)⟩, hJ⟩
set_option maxRecDepth 20000 in
set_option maxHeartbeats 2000000 in
theorem Z_X2_distance_75 (l : Launch) (D : va_G) (aC : Nat → ClassId) (b : Nat) (w : XW) (x1 : Int32) (x2 : Int32) (x3 : Int32) (hI : Iv w)  : CnI l D aC b M_X2_distance 2 46 0 0 [AR 75, AI x1, AI x2, AI x3] w (fun r u => ((-1) ≤ r.toInt ∧ r.toInt ≤ 7 ∧ (¬ r.toInt = 0 ∨ (0 ≤ x3.toInt ∧ x3.toInt ≤ 31)) ∧ (¬ r.toInt = 0 ∨ (1 ≤ (w.2.2.1 75 6).toInt ∧ (w.2.2.1 75 6).toInt ≤ 8))) ∧ w = u) := by
  refine cn_I (own := RX2) (nm := "distance") (L0 := [some (AR 75), some (AI x1), some (AI x2), some (AI x3), none, none]) (by decide +kernel) rfl rfl (Nat.le_of_ble_eq_true rfl) rfl ?_
  intro p e s m args below meth c E hin
  have hJ : Jv w w := jv_rfl hI
  have hb_x1 := z32 x1
  have hb_x2 := z32 x2
  have hb_x3 := z32 x3
  refine s_iconst (v := 1) E dX2_distance_0 (by decide) ?_
  refine s_iload_n E dX2_distance_1 rfl rfl ?_
  refine s_ishl E dX2_distance_2 ?_
  refine z_nm (P := fun z => (-2147483648) ≤ z.toInt ∧ z.toInt ≤ 2147483647) (z32 _) (fun z_1 hz_1 => ?_)
  refine s_istore (L2 := [some (AR 75), some (AI x1), some (AI x2), some (AI x3), some (AI z_1), none]) E dX2_distance_3 (by decide) rfl ?_
  refine s_iconst (v := 0) E dX2_distance_5 (by decide) ?_
  refine s_istore (L2 := [some (AR 75), some (AI x1), some (AI x2), some (AI x3), some (AI z_1), some (AI 0)]) E dX2_distance_6 (by decide) rfl ?_
  refine z_loop (St := Int32 × Int32) (Pi := fun ⟨q8_4_1, q8_5_1⟩ v8 => (0 ≤ q8_5_1.toInt ∧ q8_5_1.toInt ≤ 8) ∧ w = v8) (Lf := fun ⟨q8_4_1, q8_5_1⟩ => [some (AR 75), some (AI x1), some (AI x2), some (AI x3), some (AI q8_4_1), some (AI q8_5_1)]) (fun ⟨q8_4_1, q8_5_1⟩ _ => (9 - q8_5_1.toInt).toNat) ⟨z_1, 0⟩ ⟨⟨by decide, by decide⟩, rfl⟩ ?_
  rintro ⟨q8_4_1, q8_5_1⟩ v8 ⟨hq8_5, hv_⟩ ih8
  subst hv_
  have hbq8_4 := z32 q8_4_1
  refine s_loc (L2 := [some (AR 75), some (AI x1), some (AI x2), some (AI x3), some (AI q8_4_1), some (AI q8_5_1)]) rfl ?_
  refine s_iload E dX2_distance_8 rfl ?_
  refine s_aload_n E dX2_distance_10 rfl rfl ?_
  refine s_gI E fg_X2_63 rfl rfl (jv_lt hJ (by decide)) dX2_distance_11 ?_
  refine z_nm (P := fun z => z.toInt = (w.2.2.1 75 6).toInt ∧ 0 ≤ z.toInt ∧ z.toInt ≤ 8) ⟨rfl, (rg_75_6 hJ)⟩ (fun z_3 hz_3 => ?_)
  refine z_icmp_ge (tgt := 44) (u := q8_5_1.toInt) (v := z_3.toInt) E dX2_distance_14 (by decide) rfl rfl (fun h_4 => ?_) (fun h_4 => ?_)
  ·
    refine s_iconst (v := (-1)) E dX2_distance_44 (by decide) ?_
    exact r_int E dX2_distance_45 ⟨⟨by decide, by decide, by first | (left; decide) | (right; decide) | (right; have hb_ := z32 x3; omega), by first | (left; decide) | (right; decide) | (right; have hb_ := z32 (w.2.2.1 75 6); omega)⟩, rfl⟩
  ·
    refine s_iload E dX2_distance_17 rfl ?_
    refine s_iload_n E dX2_distance_19 rfl rfl ?_
    refine s_sI (As := [AI q8_4_1, AI x3]) (S := []) E (Z_X9_hasBit l D aC b w q8_4_1 x3 hJ.1 ) cs_X2_123 rfl rfl (Nat.le_of_ble_eq_true rfl) (Nat.le_of_ble_eq_true rfl) ⟨(Nat.le_of_ble_eq_true rfl), (Nat.le_of_ble_eq_true rfl)⟩ (Nat.le_of_ble_eq_true rfl) dX2_distance_20 (fun z_7 u_5 hp_6 => ?_)
    obtain ⟨hz_7, hp_6⟩ := hp_6
    subst hp_6
    refine z_if_eq (tgt := 29) (u := z_7.toInt) E dX2_distance_23 (by decide) rfl (fun h_9 => ?_) (fun h_9 => ?_)
    ·
      refine s_aload_n E dX2_distance_29 rfl rfl ?_
      refine s_iload_n E dX2_distance_30 rfl rfl ?_
      refine s_iload E dX2_distance_31 rfl ?_
      refine s_vI (As := [AI x1, AI q8_4_1]) (S := []) E (Z_X2_spread_75 l D aC b w x1 q8_4_1 hJ.1 ) cv_X2_108 rfl rfl rfl (jv_lt hJ (by decide)) (Nat.le_of_ble_eq_true rfl) (Nat.le_of_ble_eq_true rfl) ⟨(Nat.le_of_ble_eq_true rfl), (Nat.le_of_ble_eq_true rfl)⟩ (Nat.le_of_ble_eq_true rfl) dX2_distance_33 (fun z_12 u_10 hp_11 => ?_)
      obtain ⟨hz_12, hp_11⟩ := hp_11
      subst hp_11
      refine s_istore (L2 := [some (AR 75), some (AI x1), some (AI x2), some (AI x3), some (AI z_12), some (AI q8_5_1)]) E dX2_distance_36 (by decide) rfl ?_
      refine z_iinc (u := q8_5_1.toInt) (L2 := fun z_14 => [some (AR 75), some (AI x1), some (AI x2), some (AI x3), some (AI z_12), some (AI z_14)]) E dX2_distance_38 rfl rfl (by decide) (fun _ => rfl) (by decide) (by omega) (by omega) (fun z_14 hz_14 => ?_)
      refine s_goto (tgt := 8) E dX2_distance_41 (by decide) ?_
      exact ih8 ⟨z_12, z_14⟩ w ⟨⟨by have hb_ := z32 z_14; omega, by have hb_ := z32 z_14; omega⟩, rfl⟩ (by first | omega | decide | (dsimp only; omega) | (dsimp only; decide))
    ·
      refine s_iload E dX2_distance_26 rfl ?_
      exact r_int E dX2_distance_28 ⟨⟨by have hb_ := z32 q8_5_1; omega, by have hb_ := z32 q8_5_1; omega, by first | (right; decide) | (have hb_ := z32 q8_5_1; omega) | (have hb_ := z32 q8_5_1; have hc_ := z32 x3; omega), by first | (right; decide) | (have hb_ := z32 q8_5_1; omega) | (have hb_ := z32 q8_5_1; have hc_ := z32 (w.2.2.1 75 6); omega)⟩, rfl⟩
set_option maxRecDepth 20000 in
set_option maxHeartbeats 2000000 in
theorem Z_X9_bars_0 (l : Launch) (D : va_G) (aC : Nat → ClassId) (b : Nat) (w : XW) (x1 : Int32) (x2 : Int32) (x3 : Int32) (hI : Iv w)  : CnI l D aC b M_X9_bars 4 95 0 0 [AR 0, AI x1, AI x2, AI x3] w (fun r u => ((-2) ≤ r.toInt ∧ r.toInt ≤ 9) ∧ Jv w u) := by
  refine cn_I (own := RX9) (nm := "bars") (L0 := [some (AR 0), some (AI x1), some (AI x2), some (AI x3), none]) (by decide +kernel) rfl rfl (Nat.le_of_ble_eq_true rfl) rfl ?_
  intro p e s m args below meth c E hin
  have hJ : Jv w w := jv_rfl hI
  have hb_x1 := z32 x1
  have hb_x2 := z32 x2
  have hb_x3 := z32 x3
  refine s_aload_n E dX9_bars_0 rfl rfl ?_
  refine s_gR (r := 2) E fg_X9_20 rfl rfl (jv_lt hJ (by decide)) (jv_r hJ (by decide +kernel)) dX9_bars_1 ?_
  refine s_iload_n E dX9_bars_4 rfl rfl ?_
  refine s_vI (As := [AI x1]) (S := []) E (Z_X0_hasLady_2 l D aC b w x1 hJ.1 ) cv_X9_139 rfl rfl rfl (jv_lt hJ (by decide)) (Nat.le_of_ble_eq_true rfl) (Nat.le_of_ble_eq_true rfl) ⟨(Nat.le_of_ble_eq_true rfl), (Nat.le_of_ble_eq_true rfl)⟩ (Nat.le_of_ble_eq_true rfl) dX9_bars_5 (fun z_3 u_1 hp_2 => ?_)
  obtain ⟨hz_3, hp_2⟩ := hp_2
  subst hp_2
  refine z_if_eq (tgt := 33) (u := z_3.toInt) E dX9_bars_8 (by decide) rfl (fun h_5 => ?_) (fun h_5 => ?_)
  ·
    refine s_bipush (v := (-2)) E dX9_bars_33 (by decide) ?_
    exact r_int E dX9_bars_35 ⟨(by decide), hJ⟩
  ·
    refine s_aload_n E dX9_bars_11 rfl rfl ?_
    refine s_gR (r := 2) E fg_X9_20 rfl rfl (jv_lt hJ (by decide)) (jv_r hJ (by decide +kernel)) dX9_bars_12 ?_
    refine s_iload_n E dX9_bars_15 rfl rfl ?_
    refine s_vI (As := [AI x2]) (S := []) E (Z_X0_hasRoom_2 l D aC b w x2 hJ.1 ) cv_X9_143 rfl rfl rfl (jv_lt hJ (by decide)) (Nat.le_of_ble_eq_true rfl) (Nat.le_of_ble_eq_true rfl) ⟨(Nat.le_of_ble_eq_true rfl), (Nat.le_of_ble_eq_true rfl)⟩ (Nat.le_of_ble_eq_true rfl) dX9_bars_16 (fun z_8 u_6 hp_7 => ?_)
    obtain ⟨hz_8, hp_7⟩ := hp_7
    subst hp_7
    refine z_if_eq (tgt := 33) (u := z_8.toInt) E dX9_bars_19 (by decide) rfl (fun h_10 => ?_) (fun h_10 => ?_)
    ·
      refine s_bipush (v := (-2)) E dX9_bars_33 (by decide) ?_
      exact r_int E dX9_bars_35 ⟨(by decide), hJ⟩
    ·
      refine s_aload_n E dX9_bars_22 rfl rfl ?_
      refine s_gR (r := 2) E fg_X9_20 rfl rfl (jv_lt hJ (by decide)) (jv_r hJ (by decide +kernel)) dX9_bars_23 ?_
      refine s_iload_n E dX9_bars_26 rfl rfl ?_
      refine s_vI (As := [AI x3]) (S := []) E (Z_X0_hasRoom_2 l D aC b w x3 hJ.1 ) cv_X9_143 rfl rfl rfl (jv_lt hJ (by decide)) (Nat.le_of_ble_eq_true rfl) (Nat.le_of_ble_eq_true rfl) ⟨(Nat.le_of_ble_eq_true rfl), (Nat.le_of_ble_eq_true rfl)⟩ (Nat.le_of_ble_eq_true rfl) dX9_bars_27 (fun z_13 u_11 hp_12 => ?_)
      obtain ⟨hz_13, hp_12⟩ := hp_12
      subst hp_12
      refine z_if_ne (tgt := 36) (u := z_13.toInt) E dX9_bars_30 (by decide) rfl (fun h_15 => ?_) (fun h_15 => ?_)
      ·
        refine s_iconst (v := 1) E dX9_bars_36 (by decide) ?_
        refine s_istore (L2 := [some (AR 0), some (AI x1), some (AI x2), some (AI x3), some (AI 1)]) E dX9_bars_37 (by decide) rfl ?_
        refine z_loop (St := Int32) (Pi := fun q39_4_15 v39 => (1 ≤ q39_4_15.toInt ∧ q39_4_15.toInt ≤ 10) ∧ Jv w v39) (Lf := fun q39_4_15 => [some (AR 0), some (AI x1), some (AI x2), some (AI x3), some (AI q39_4_15)]) (fun q39_4_15 _ => (11 - q39_4_15.toInt).toNat) 1 ⟨⟨by decide, by decide⟩, hJ⟩ ?_
        rintro q39_4_15 v39 ⟨hq39_4, hj_16⟩ ih39
        refine s_loc (L2 := [some (AR 0), some (AI x1), some (AI x2), some (AI x3), some (AI q39_4_15)]) rfl ?_
        refine s_iload E dX9_bars_39 rfl ?_
        refine s_bipush (v := 9) E dX9_bars_41 (by decide) ?_
        refine z_icmp_gt (tgt := 84) (u := q39_4_15.toInt) (v := 9) E dX9_bars_43 (by decide) rfl (by decide) (fun h_17 => ?_) (fun h_17 => ?_)
        ·
          refine s_iconst (v := (-1)) E dX9_bars_84 (by decide) ?_
          exact r_int E dX9_bars_85 ⟨(by decide), hj_16⟩
        ·
          refine s_aload_n E dX9_bars_46 rfl rfl ?_
          refine s_gR (r := 75) E fg_X9_58 rfl rfl (jv_lt hj_16 (by decide)) (jv_r hj_16 (by decide +kernel)) dX9_bars_47 ?_
          refine s_aload_n E dX9_bars_50 rfl rfl ?_
          refine s_gR (r := 2) E fg_X9_20 rfl rfl (jv_lt hj_16 (by decide)) (jv_r hj_16 (by decide +kernel)) dX9_bars_51 ?_
          refine s_bipush (v := (-2)) E dX9_bars_54 (by decide) ?_
          refine s_iload E dX9_bars_56 rfl ?_
          refine s_vV (As := [AR 2, AI (-2), AI q39_4_15]) (S := []) E (Z_X2_openDoors_75_r2 l D aC b v39 ((-2)) q39_4_15 hj_16.1 ) cv_X9_260 rfl rfl rfl (jv_lt hj_16 (by decide)) (Nat.le_of_ble_eq_true rfl) (Nat.le_of_ble_eq_true rfl) ⟨(Nat.le_of_ble_eq_true rfl), (Nat.le_of_ble_eq_true rfl)⟩ (Nat.le_of_ble_eq_true rfl) dX9_bars_58 (fun u_18 hp_19 => ?_)
          have hj_20 := jv_trans hj_16 hp_19
          refine s_aload_n E dX9_bars_61 rfl rfl ?_
          refine s_gR (r := 75) E fg_X9_58 rfl rfl (jv_lt hj_20 (by decide)) (jv_r hj_20 (by decide +kernel)) dX9_bars_62 ?_
          refine s_iload_n E dX9_bars_65 rfl rfl ?_
          refine s_iload_n E dX9_bars_66 rfl rfl ?_
          refine s_iload_n E dX9_bars_67 rfl rfl ?_
          refine s_vI (As := [AI x1, AI x2, AI x3]) (S := []) E (Z_X2_distance_75 l D aC b u_18 x1 x2 x3 hj_20.1 ) cv_X9_146 rfl rfl rfl (jv_lt hj_20 (by decide)) (Nat.le_of_ble_eq_true rfl) (Nat.le_of_ble_eq_true rfl) ⟨(Nat.le_of_ble_eq_true rfl), (Nat.le_of_ble_eq_true rfl)⟩ (Nat.le_of_ble_eq_true rfl) dX9_bars_68 (fun z_23 u_21 hp_22 => ?_)
          obtain ⟨hz_23, hp_22⟩ := hp_22
          subst hp_22
          refine s_iconst (v := (-1)) E dX9_bars_71 (by decide) ?_
          refine z_icmp_eq (tgt := 78) (u := z_23.toInt) (v := (-1)) E dX9_bars_72 (by decide) rfl (by decide) (fun h_25 => ?_) (fun h_25 => ?_)
          ·
            refine z_iinc (u := q39_4_15.toInt) (L2 := fun z_26 => [some (AR 0), some (AI x1), some (AI x2), some (AI x3), some (AI z_26)]) E dX9_bars_78 rfl rfl (by decide) (fun _ => rfl) (by decide) (by omega) (by omega) (fun z_26 hz_26 => ?_)
            refine s_goto (tgt := 39) E dX9_bars_81 (by decide) ?_
            exact ih39 z_26 u_18 ⟨⟨by have hb_ := z32 z_26; omega, by have hb_ := z32 z_26; omega⟩, hj_20⟩ (by first | omega | decide | (dsimp only; omega) | (dsimp only; decide))
          ·
            refine s_iload E dX9_bars_75 rfl ?_
            exact r_int E dX9_bars_77 ⟨⟨by have hb_ := z32 q39_4_15; omega, by have hb_ := z32 q39_4_15; omega⟩, hj_20⟩
      ·
        refine s_bipush (v := (-2)) E dX9_bars_33 (by decide) ?_
        exact r_int E dX9_bars_35 ⟨(by decide), hJ⟩
set_option maxRecDepth 20000 in
set_option maxHeartbeats 2000000 in
theorem Z_X9_isSlot (l : Launch) (D : va_G) (aC : Nat → ClassId) (b : Nat) (w : XW) (x1 : Int32) (hI : Iv w)  : CnI l D aC b M_X9_isSlot 0 0 0 0 [AI x1] w (fun r u => (0 ≤ r.toInt ∧ r.toInt ≤ 1 ∧ (r.toInt = 0 ∨ (0 ≤ x1.toInt ∧ x1.toInt ≤ 3))) ∧ ((r.toInt = 1 ∧ 0 ≤ x1.toInt ∧ x1.toInt ≤ 3) ∨ (r.toInt = 0 ∧ ¬ (0 ≤ x1.toInt ∧ x1.toInt ≤ 3))) ∧ w = u) := by
  refine cn_I (own := RX9) (nm := "isSlot") (L0 := [some (AI x1)]) (by decide +kernel) rfl rfl (Nat.le_of_ble_eq_true rfl) rfl ?_
  intro p e s m args below meth c E hin
  have hJ : Jv w w := jv_rfl hI
  have hb_x1 := z32 x1
  refine s_iload_n E dX9_isSlot_0 rfl rfl ?_
  refine z_if_lt (tgt := 13) (u := x1.toInt) E dX9_isSlot_1 (by decide) rfl (fun h_1 => ?_) (fun h_1 => ?_)
  ·
    refine s_iconst (v := 0) E dX9_isSlot_13 (by decide) ?_
    exact r_bool E dX9_isSlot_14 (Or.inl rfl) ⟨⟨by decide, by decide, by first | (left; decide) | (right; decide) | (right; have hb_ := z32 x1; omega)⟩, (by have hrc_ : (0 : Int32).toInt = 0 := (by decide); omega), rfl⟩
  ·
    refine s_iload_n E dX9_isSlot_4 rfl rfl ?_
    refine s_iconst (v := 4) E dX9_isSlot_5 (by decide) ?_
    refine z_icmp_ge (tgt := 13) (u := x1.toInt) (v := 4) E dX9_isSlot_6 (by decide) rfl (by decide) (fun h_2 => ?_) (fun h_2 => ?_)
    ·
      refine s_iconst (v := 0) E dX9_isSlot_13 (by decide) ?_
      exact r_bool E dX9_isSlot_14 (Or.inl rfl) ⟨⟨by decide, by decide, by first | (left; decide) | (right; decide) | (right; have hb_ := z32 x1; omega)⟩, (by have hrc_ : (0 : Int32).toInt = 0 := (by decide); omega), rfl⟩
    ·
      refine s_iconst (v := 1) E dX9_isSlot_9 (by decide) ?_
      refine s_goto (tgt := 14) E dX9_isSlot_10 (by decide) ?_
      exact r_bool E dX9_isSlot_14 (Or.inr rfl) ⟨⟨by decide, by decide, by first | (left; decide) | (right; decide) | (right; have hb_ := z32 x1; omega)⟩, (by have hrc_ : (1 : Int32).toInt = 1 := (by decide); omega), rfl⟩
set_option maxRecDepth 20000 in
set_option maxHeartbeats 2000000 in
theorem Z_X7_isBare_61 (l : Launch) (D : va_G) (aC : Nat → ClassId) (b : Nat) (w : XW)  (hI : Iv w)  : CnI l D aC b M_X7_isBare 0 0 0 0 [AR 61] w (fun r u => (0 ≤ r.toInt ∧ r.toInt ≤ 1 ∧ (¬ r.toInt = 0 ∨ (0 ≤ (w.2.2.1 61 2).toInt ∧ (w.2.2.1 61 2).toInt ≤ 60)) ∧ (r.toInt = 0 ∨ ((-1) ≤ (w.2.2.1 61 2).toInt ∧ (w.2.2.1 61 2).toInt ≤ (-1)))) ∧ ((r.toInt = 1 ∧ (w.2.2.1 61 2).toInt < 0) ∨ (r.toInt = 0 ∧ 0 ≤ (w.2.2.1 61 2).toInt)) ∧ w = u) := by
  refine cn_I (own := RX7) (nm := "isBare") (L0 := [some (AR 61)]) (by decide +kernel) rfl rfl (Nat.le_of_ble_eq_true rfl) rfl ?_
  intro p e s m args below meth c E hin
  have hJ : Jv w w := jv_rfl hI
  refine s_aload_n E dX7_isBare_0 rfl rfl ?_
  refine s_gI E fg_X7_15 rfl rfl (jv_lt hJ (by decide)) dX7_isBare_1 ?_
  refine z_nm (P := fun z => z.toInt = (w.2.2.1 61 2).toInt ∧ (-1) ≤ z.toInt ∧ z.toInt ≤ 60) ⟨rfl, (rg_61_2 hJ)⟩ (fun z_1 hz_1 => ?_)
  refine z_if_ge (tgt := 11) (u := z_1.toInt) E dX7_isBare_4 (by decide) rfl (fun h_2 => ?_) (fun h_2 => ?_)
  ·
    refine s_iconst (v := 0) E dX7_isBare_11 (by decide) ?_
    exact r_bool E dX7_isBare_12 (Or.inl rfl) ⟨⟨by decide, by decide, by first | (left; decide) | (right; decide) | (right; have hb_ := z32 (w.2.2.1 61 2); omega), by first | (left; decide) | (right; decide) | (right; have hb_ := z32 (w.2.2.1 61 2); omega)⟩, (by have hrc_ : (0 : Int32).toInt = 0 := (by decide); omega), rfl⟩
  ·
    refine s_iconst (v := 1) E dX7_isBare_7 (by decide) ?_
    refine s_goto (tgt := 12) E dX7_isBare_8 (by decide) ?_
    exact r_bool E dX7_isBare_12 (Or.inr rfl) ⟨⟨by decide, by decide, by first | (left; decide) | (right; decide) | (right; have hb_ := z32 (w.2.2.1 61 2); omega), by first | (left; decide) | (right; decide) | (right; have hb_ := z32 (w.2.2.1 61 2); omega)⟩, (by have hrc_ : (1 : Int32).toInt = 1 := (by decide); omega), rfl⟩
set_option maxRecDepth 20000 in
set_option maxHeartbeats 2000000 in
theorem Z_X7_cell_61 (l : Launch) (D : va_G) (aC : Nat → ClassId) (b : Nat) (w : XW) (x1 : Int32) (hI : Iv w)  : CnL l D aC b M_X7_cell 0 0 0 0 [AR 61, AI x1] w (fun r u => ((-9223372036854775808) ≤ r.toInt ∧ r.toInt ≤ 9223372036854775807) ∧ w = u) := by
  refine cn_L (own := RX7) (nm := "cell") (L0 := [some (AR 61), some (AI x1)]) (by decide +kernel) rfl rfl (Nat.le_of_ble_eq_true rfl) rfl ?_
  intro p e s m args below meth c E hin
  have hJ : Jv w w := jv_rfl hI
  have hb_x1 := z32 x1
  refine s_iload_n E dX7_cell_0 rfl rfl ?_
  refine z_if_lt (tgt := 21) (u := x1.toInt) E dX7_cell_1 (by decide) rfl (fun h_1 => ?_) (fun h_1 => ?_)
  ·
    refine s_ldc2 E k_938 rfl dX7_cell_21 ?_
    exact r_long E dX7_cell_24 ⟨(by decide), rfl⟩
  ·
    refine s_iload_n E dX7_cell_4 rfl rfl ?_
    refine s_aload_n E dX7_cell_5 rfl rfl ?_
    refine s_gI E fg_X7_15 rfl rfl (jv_lt hJ (by decide)) dX7_cell_6 ?_
    refine z_nm (P := fun z => z.toInt = (w.2.2.1 61 2).toInt ∧ (-1) ≤ z.toInt ∧ z.toInt ≤ 60) ⟨rfl, (rg_61_2 hJ)⟩ (fun z_2 hz_2 => ?_)
    refine z_icmp_ge (tgt := 21) (u := x1.toInt) (v := z_2.toInt) E dX7_cell_9 (by decide) rfl rfl (fun h_3 => ?_) (fun h_3 => ?_)
    ·
      refine s_ldc2 E k_938 rfl dX7_cell_21 ?_
      exact r_long E dX7_cell_24 ⟨(by decide), rfl⟩
    ·
      refine s_aload_n E dX7_cell_12 rfl rfl ?_
      refine s_gR (r := 62) E fg_X7_11 rfl rfl (jv_lt hJ (by decide)) (jv_r hJ (by decide +kernel)) dX7_cell_13 ?_
      refine s_iload_n E dX7_cell_16 rfl rfl ?_
      refine s_lald E rfl (jv_lt hJ (by decide)) (z_in (u := x1.toInt) rfl (by omega) (by omega)) dX7_cell_17 ?_
      refine z_anyL (fun z_4 => ?_)
      refine s_goto (tgt := 24) E dX7_cell_18 (by decide) ?_
      exact r_long E dX7_cell_24 ⟨⟨by have hb_ := z64 z_4; omega, by have hb_ := z64 z_4; omega⟩, rfl⟩
set_option maxRecDepth 20000 in
set_option maxHeartbeats 2000000 in
theorem Z_X9_isSighting_0 (l : Launch) (D : va_G) (aC : Nat → ClassId) (b : Nat) (w : XW) (x1 : Int64) (x2 : Int64) (x3 : Int64) (hI : Iv w)  : CnI l D aC b M_X9_isSighting 0 0 0 0 [AR 0, AL x1, AL x2, AL x3] w (fun r u => (0 ≤ r.toInt ∧ r.toInt ≤ 1 ∧ (r.toInt = 0 ∨ (0 ≤ x1.toInt ∧ x1.toInt ≤ 5)) ∧ (r.toInt = 0 ∨ (0 ≤ x2.toInt ∧ x2.toInt ≤ 14)) ∧ (r.toInt = 0 ∨ (0 ≤ x3.toInt ∧ x3.toInt ≤ 1)) ∧ (r.toInt = 0 ∨ (1 ≤ (w.2.2.1 5 3).toInt ∧ (w.2.2.1 5 3).toInt ≤ 6))) ∧ w = u) := by
  refine cn_I (own := RX9) (nm := "isSighting") (L0 := [some (AR 0), some (AL x1), none, some (AL x2), none, some (AL x3), none]) (by decide +kernel) rfl rfl (Nat.le_of_ble_eq_true rfl) rfl ?_
  intro p e s m args below meth c E hin
  have hJ : Jv w w := jv_rfl hI
  refine s_lload_n E dX9_isSighting_0 rfl rfl ?_
  refine s_lconst (v := 0) E dX9_isSighting_1 (by decide) ?_
  refine z_lcmp (u := x1.toInt) (v := 0) E dX9_isSighting_2 rfl (by decide) (fun z_1 hz_1 => ?_)
  refine z_if_lt (tgt := 59) (u := z_1.toInt) E dX9_isSighting_3 (by decide) rfl (fun h_2 => ?_) (fun h_2 => ?_)
  ·
    refine s_iconst (v := 0) E dX9_isSighting_59 (by decide) ?_
    exact r_bool E dX9_isSighting_60 (Or.inl rfl) ⟨⟨by decide, by decide, by first | (left; decide) | (right; decide) | (right; have hb_ := z64 x1; omega), by first | (left; decide) | (right; decide) | (right; have hb_ := z64 x2; omega), by first | (left; decide) | (right; decide) | (right; have hb_ := z64 x3; omega), by first | (left; decide) | (right; decide) | (right; have hb_ := z32 (w.2.2.1 5 3); omega)⟩, rfl⟩
  ·
    refine s_lload_n E dX9_isSighting_6 rfl rfl ?_
    refine s_aload_n E dX9_isSighting_7 rfl rfl ?_
    refine s_gR (r := 2) E fg_X9_20 rfl rfl (jv_lt hJ (by decide)) (jv_r hJ (by decide +kernel)) dX9_isSighting_8 ?_
    refine s_gR (r := 5) E fg_X9_133 rfl rfl (jv_lt hJ (by decide)) (jv_r hJ (by decide +kernel)) dX9_isSighting_11 ?_
    refine s_gI E fg_X9_200 rfl rfl (jv_lt hJ (by decide)) dX9_isSighting_14 ?_
    refine z_nm (P := fun z => z.toInt = (w.2.2.1 5 3).toInt ∧ 0 ≤ z.toInt ∧ z.toInt ≤ 6) ⟨rfl, (rg_5_3 hJ)⟩ (fun z_3 hz_3 => ?_)
    refine z_i2l (u := z_3.toInt) E dX9_isSighting_17 rfl (fun z_4 hz_4 => ?_)
    refine z_lcmp (u := x1.toInt) (v := z_4.toInt) E dX9_isSighting_18 rfl rfl (fun z_5 hz_5 => ?_)
    refine z_if_ge (tgt := 59) (u := z_5.toInt) E dX9_isSighting_19 (by decide) rfl (fun h_6 => ?_) (fun h_6 => ?_)
    ·
      refine s_iconst (v := 0) E dX9_isSighting_59 (by decide) ?_
      exact r_bool E dX9_isSighting_60 (Or.inl rfl) ⟨⟨by decide, by decide, by first | (left; decide) | (right; decide) | (right; have hb_ := z64 x1; omega), by first | (left; decide) | (right; decide) | (right; have hb_ := z64 x2; omega), by first | (left; decide) | (right; decide) | (right; have hb_ := z64 x3; omega), by first | (left; decide) | (right; decide) | (right; have hb_ := z32 (w.2.2.1 5 3); omega)⟩, rfl⟩
    ·
      refine s_lload_n E dX9_isSighting_22 rfl rfl ?_
      refine s_lconst (v := 0) E dX9_isSighting_23 (by decide) ?_
      refine z_lcmp (u := x2.toInt) (v := 0) E dX9_isSighting_24 rfl (by decide) (fun z_7 hz_7 => ?_)
      refine z_if_lt (tgt := 59) (u := z_7.toInt) E dX9_isSighting_25 (by decide) rfl (fun h_8 => ?_) (fun h_8 => ?_)
      ·
        refine s_iconst (v := 0) E dX9_isSighting_59 (by decide) ?_
        exact r_bool E dX9_isSighting_60 (Or.inl rfl) ⟨⟨by decide, by decide, by first | (left; decide) | (right; decide) | (right; have hb_ := z64 x1; omega), by first | (left; decide) | (right; decide) | (right; have hb_ := z64 x2; omega), by first | (left; decide) | (right; decide) | (right; have hb_ := z64 x3; omega), by first | (left; decide) | (right; decide) | (right; have hb_ := z32 (w.2.2.1 5 3); omega)⟩, rfl⟩
      ·
        refine s_lload_n E dX9_isSighting_28 rfl rfl ?_
        refine s_aload_n E dX9_isSighting_29 rfl rfl ?_
        refine s_gR (r := 2) E fg_X9_20 rfl rfl (jv_lt hJ (by decide)) (jv_r hJ (by decide +kernel)) dX9_isSighting_30 ?_
        refine s_gI E fg_X9_169 rfl rfl (jv_lt hJ (by decide)) dX9_isSighting_33 ?_
        refine z_nm (P := fun z => z.toInt = (w.2.2.1 2 2).toInt ∧ 0 ≤ z.toInt ∧ z.toInt ≤ 14) ⟨rfl, (rg_2_2 hJ)⟩ (fun z_9 hz_9 => ?_)
        refine z_i2l (u := z_9.toInt) E dX9_isSighting_36 rfl (fun z_10 hz_10 => ?_)
        refine z_lcmp (u := x2.toInt) (v := z_10.toInt) E dX9_isSighting_37 rfl rfl (fun z_11 hz_11 => ?_)
        refine z_if_gt (tgt := 59) (u := z_11.toInt) E dX9_isSighting_38 (by decide) rfl (fun h_12 => ?_) (fun h_12 => ?_)
        ·
          refine s_iconst (v := 0) E dX9_isSighting_59 (by decide) ?_
          exact r_bool E dX9_isSighting_60 (Or.inl rfl) ⟨⟨by decide, by decide, by first | (left; decide) | (right; decide) | (right; have hb_ := z64 x1; omega), by first | (left; decide) | (right; decide) | (right; have hb_ := z64 x2; omega), by first | (left; decide) | (right; decide) | (right; have hb_ := z64 x3; omega), by first | (left; decide) | (right; decide) | (right; have hb_ := z32 (w.2.2.1 5 3); omega)⟩, rfl⟩
        ·
          refine s_lload E dX9_isSighting_41 rfl ?_
          refine s_lconst (v := 0) E dX9_isSighting_43 (by decide) ?_
          refine z_lcmp (u := x3.toInt) (v := 0) E dX9_isSighting_44 rfl (by decide) (fun z_13 hz_13 => ?_)
          refine z_if_eq (tgt := 55) (u := z_13.toInt) E dX9_isSighting_45 (by decide) rfl (fun h_14 => ?_) (fun h_14 => ?_)
          ·
            refine s_iconst (v := 1) E dX9_isSighting_55 (by decide) ?_
            refine s_goto (tgt := 60) E dX9_isSighting_56 (by decide) ?_
            exact r_bool E dX9_isSighting_60 (Or.inr rfl) ⟨⟨by decide, by decide, by first | (left; decide) | (right; decide) | (right; have hb_ := z64 x1; omega), by first | (left; decide) | (right; decide) | (right; have hb_ := z64 x2; omega), by first | (left; decide) | (right; decide) | (right; have hb_ := z64 x3; omega), by first | (left; decide) | (right; decide) | (right; have hb_ := z32 (w.2.2.1 5 3); omega)⟩, rfl⟩
          ·
            refine s_lload E dX9_isSighting_48 rfl ?_
            refine s_lconst (v := 1) E dX9_isSighting_50 (by decide) ?_
            refine z_lcmp (u := x3.toInt) (v := 1) E dX9_isSighting_51 rfl (by decide) (fun z_15 hz_15 => ?_)
            refine z_if_ne (tgt := 59) (u := z_15.toInt) E dX9_isSighting_52 (by decide) rfl (fun h_16 => ?_) (fun h_16 => ?_)
            ·
              refine s_iconst (v := 0) E dX9_isSighting_59 (by decide) ?_
              exact r_bool E dX9_isSighting_60 (Or.inl rfl) ⟨⟨by decide, by decide, by first | (left; decide) | (right; decide) | (right; have hb_ := z64 x1; omega), by first | (left; decide) | (right; decide) | (right; have hb_ := z64 x2; omega), by first | (left; decide) | (right; decide) | (right; have hb_ := z64 x3; omega), by first | (left; decide) | (right; decide) | (right; have hb_ := z32 (w.2.2.1 5 3); omega)⟩, rfl⟩
            ·
              refine s_iconst (v := 1) E dX9_isSighting_55 (by decide) ?_
              refine s_goto (tgt := 60) E dX9_isSighting_56 (by decide) ?_
              exact r_bool E dX9_isSighting_60 (Or.inr rfl) ⟨⟨by decide, by decide, by first | (left; decide) | (right; decide) | (right; have hb_ := z64 x1; omega), by first | (left; decide) | (right; decide) | (right; have hb_ := z64 x2; omega), by first | (left; decide) | (right; decide) | (right; have hb_ := z64 x3; omega), by first | (left; decide) | (right; decide) | (right; have hb_ := z32 (w.2.2.1 5 3); omega)⟩, rfl⟩
set_option maxRecDepth 20000 in
set_option maxHeartbeats 2000000 in
theorem Z_X7_isBare_63 (l : Launch) (D : va_G) (aC : Nat → ClassId) (b : Nat) (w : XW)  (hI : Iv w)  : CnI l D aC b M_X7_isBare 0 0 0 0 [AR 63] w (fun r u => (0 ≤ r.toInt ∧ r.toInt ≤ 1 ∧ (¬ r.toInt = 0 ∨ (0 ≤ (w.2.2.1 63 2).toInt ∧ (w.2.2.1 63 2).toInt ≤ 60)) ∧ (r.toInt = 0 ∨ ((-1) ≤ (w.2.2.1 63 2).toInt ∧ (w.2.2.1 63 2).toInt ≤ (-1)))) ∧ ((r.toInt = 1 ∧ (w.2.2.1 63 2).toInt < 0) ∨ (r.toInt = 0 ∧ 0 ≤ (w.2.2.1 63 2).toInt)) ∧ w = u) := by
  refine cn_I (own := RX7) (nm := "isBare") (L0 := [some (AR 63)]) (by decide +kernel) rfl rfl (Nat.le_of_ble_eq_true rfl) rfl ?_
  intro p e s m args below meth c E hin
  have hJ : Jv w w := jv_rfl hI
  refine s_aload_n E dX7_isBare_0 rfl rfl ?_
  refine s_gI E fg_X7_15 rfl rfl (jv_lt hJ (by decide)) dX7_isBare_1 ?_
  refine z_nm (P := fun z => z.toInt = (w.2.2.1 63 2).toInt ∧ (-1) ≤ z.toInt ∧ z.toInt ≤ 60) ⟨rfl, (rg_63_2 hJ)⟩ (fun z_1 hz_1 => ?_)
  refine z_if_ge (tgt := 11) (u := z_1.toInt) E dX7_isBare_4 (by decide) rfl (fun h_2 => ?_) (fun h_2 => ?_)
  ·
    refine s_iconst (v := 0) E dX7_isBare_11 (by decide) ?_
    exact r_bool E dX7_isBare_12 (Or.inl rfl) ⟨⟨by decide, by decide, by first | (left; decide) | (right; decide) | (right; have hb_ := z32 (w.2.2.1 63 2); omega), by first | (left; decide) | (right; decide) | (right; have hb_ := z32 (w.2.2.1 63 2); omega)⟩, (by have hrc_ : (0 : Int32).toInt = 0 := (by decide); omega), rfl⟩
  ·
    refine s_iconst (v := 1) E dX7_isBare_7 (by decide) ?_
    refine s_goto (tgt := 12) E dX7_isBare_8 (by decide) ?_
    exact r_bool E dX7_isBare_12 (Or.inr rfl) ⟨⟨by decide, by decide, by first | (left; decide) | (right; decide) | (right; have hb_ := z32 (w.2.2.1 63 2); omega), by first | (left; decide) | (right; decide) | (right; have hb_ := z32 (w.2.2.1 63 2); omega)⟩, (by have hrc_ : (1 : Int32).toInt = 1 := (by decide); omega), rfl⟩
set_option maxRecDepth 20000 in
set_option maxHeartbeats 2000000 in
theorem Z_X7_cell_63 (l : Launch) (D : va_G) (aC : Nat → ClassId) (b : Nat) (w : XW) (x1 : Int32) (hI : Iv w)  : CnL l D aC b M_X7_cell 0 0 0 0 [AR 63, AI x1] w (fun r u => ((-9223372036854775808) ≤ r.toInt ∧ r.toInt ≤ 9223372036854775807) ∧ w = u) := by
  refine cn_L (own := RX7) (nm := "cell") (L0 := [some (AR 63), some (AI x1)]) (by decide +kernel) rfl rfl (Nat.le_of_ble_eq_true rfl) rfl ?_
  intro p e s m args below meth c E hin
  have hJ : Jv w w := jv_rfl hI
  have hb_x1 := z32 x1
  refine s_iload_n E dX7_cell_0 rfl rfl ?_
  refine z_if_lt (tgt := 21) (u := x1.toInt) E dX7_cell_1 (by decide) rfl (fun h_1 => ?_) (fun h_1 => ?_)
  ·
    refine s_ldc2 E k_938 rfl dX7_cell_21 ?_
    exact r_long E dX7_cell_24 ⟨(by decide), rfl⟩
  ·
    refine s_iload_n E dX7_cell_4 rfl rfl ?_
    refine s_aload_n E dX7_cell_5 rfl rfl ?_
    refine s_gI E fg_X7_15 rfl rfl (jv_lt hJ (by decide)) dX7_cell_6 ?_
    refine z_nm (P := fun z => z.toInt = (w.2.2.1 63 2).toInt ∧ (-1) ≤ z.toInt ∧ z.toInt ≤ 60) ⟨rfl, (rg_63_2 hJ)⟩ (fun z_2 hz_2 => ?_)
    refine z_icmp_ge (tgt := 21) (u := x1.toInt) (v := z_2.toInt) E dX7_cell_9 (by decide) rfl rfl (fun h_3 => ?_) (fun h_3 => ?_)
    ·
      refine s_ldc2 E k_938 rfl dX7_cell_21 ?_
      exact r_long E dX7_cell_24 ⟨(by decide), rfl⟩
    ·
      refine s_aload_n E dX7_cell_12 rfl rfl ?_
      refine s_gR (r := 64) E fg_X7_11 rfl rfl (jv_lt hJ (by decide)) (jv_r hJ (by decide +kernel)) dX7_cell_13 ?_
      refine s_iload_n E dX7_cell_16 rfl rfl ?_
      refine s_lald E rfl (jv_lt hJ (by decide)) (z_in (u := x1.toInt) rfl (by omega) (by omega)) dX7_cell_17 ?_
      refine z_anyL (fun z_4 => ?_)
      refine s_goto (tgt := 24) E dX7_cell_18 (by decide) ?_
      exact r_long E dX7_cell_24 ⟨⟨by have hb_ := z64 z_4; omega, by have hb_ := z64 z_4; omega⟩, rfl⟩
set_option maxRecDepth 20000 in
set_option maxHeartbeats 2000000 in
theorem Z_X7_isBare_65 (l : Launch) (D : va_G) (aC : Nat → ClassId) (b : Nat) (w : XW)  (hI : Iv w)  : CnI l D aC b M_X7_isBare 0 0 0 0 [AR 65] w (fun r u => (0 ≤ r.toInt ∧ r.toInt ≤ 1 ∧ (¬ r.toInt = 0 ∨ (0 ≤ (w.2.2.1 65 2).toInt ∧ (w.2.2.1 65 2).toInt ≤ 60)) ∧ (r.toInt = 0 ∨ ((-1) ≤ (w.2.2.1 65 2).toInt ∧ (w.2.2.1 65 2).toInt ≤ (-1)))) ∧ ((r.toInt = 1 ∧ (w.2.2.1 65 2).toInt < 0) ∨ (r.toInt = 0 ∧ 0 ≤ (w.2.2.1 65 2).toInt)) ∧ w = u) := by
  refine cn_I (own := RX7) (nm := "isBare") (L0 := [some (AR 65)]) (by decide +kernel) rfl rfl (Nat.le_of_ble_eq_true rfl) rfl ?_
  intro p e s m args below meth c E hin
  have hJ : Jv w w := jv_rfl hI
  refine s_aload_n E dX7_isBare_0 rfl rfl ?_
  refine s_gI E fg_X7_15 rfl rfl (jv_lt hJ (by decide)) dX7_isBare_1 ?_
  refine z_nm (P := fun z => z.toInt = (w.2.2.1 65 2).toInt ∧ (-1) ≤ z.toInt ∧ z.toInt ≤ 60) ⟨rfl, (rg_65_2 hJ)⟩ (fun z_1 hz_1 => ?_)
  refine z_if_ge (tgt := 11) (u := z_1.toInt) E dX7_isBare_4 (by decide) rfl (fun h_2 => ?_) (fun h_2 => ?_)
  ·
    refine s_iconst (v := 0) E dX7_isBare_11 (by decide) ?_
    exact r_bool E dX7_isBare_12 (Or.inl rfl) ⟨⟨by decide, by decide, by first | (left; decide) | (right; decide) | (right; have hb_ := z32 (w.2.2.1 65 2); omega), by first | (left; decide) | (right; decide) | (right; have hb_ := z32 (w.2.2.1 65 2); omega)⟩, (by have hrc_ : (0 : Int32).toInt = 0 := (by decide); omega), rfl⟩
  ·
    refine s_iconst (v := 1) E dX7_isBare_7 (by decide) ?_
    refine s_goto (tgt := 12) E dX7_isBare_8 (by decide) ?_
    exact r_bool E dX7_isBare_12 (Or.inr rfl) ⟨⟨by decide, by decide, by first | (left; decide) | (right; decide) | (right; have hb_ := z32 (w.2.2.1 65 2); omega), by first | (left; decide) | (right; decide) | (right; have hb_ := z32 (w.2.2.1 65 2); omega)⟩, (by have hrc_ : (1 : Int32).toInt = 1 := (by decide); omega), rfl⟩
set_option maxRecDepth 20000 in
set_option maxHeartbeats 2000000 in
theorem Z_X7_cell_65 (l : Launch) (D : va_G) (aC : Nat → ClassId) (b : Nat) (w : XW) (x1 : Int32) (hI : Iv w)  : CnL l D aC b M_X7_cell 0 0 0 0 [AR 65, AI x1] w (fun r u => ((-9223372036854775808) ≤ r.toInt ∧ r.toInt ≤ 9223372036854775807) ∧ w = u) := by
  refine cn_L (own := RX7) (nm := "cell") (L0 := [some (AR 65), some (AI x1)]) (by decide +kernel) rfl rfl (Nat.le_of_ble_eq_true rfl) rfl ?_
  intro p e s m args below meth c E hin
  have hJ : Jv w w := jv_rfl hI
  have hb_x1 := z32 x1
  refine s_iload_n E dX7_cell_0 rfl rfl ?_
  refine z_if_lt (tgt := 21) (u := x1.toInt) E dX7_cell_1 (by decide) rfl (fun h_1 => ?_) (fun h_1 => ?_)
  ·
    refine s_ldc2 E k_938 rfl dX7_cell_21 ?_
    exact r_long E dX7_cell_24 ⟨(by decide), rfl⟩
  ·
    refine s_iload_n E dX7_cell_4 rfl rfl ?_
    refine s_aload_n E dX7_cell_5 rfl rfl ?_
    refine s_gI E fg_X7_15 rfl rfl (jv_lt hJ (by decide)) dX7_cell_6 ?_
    refine z_nm (P := fun z => z.toInt = (w.2.2.1 65 2).toInt ∧ (-1) ≤ z.toInt ∧ z.toInt ≤ 60) ⟨rfl, (rg_65_2 hJ)⟩ (fun z_2 hz_2 => ?_)
    refine z_icmp_ge (tgt := 21) (u := x1.toInt) (v := z_2.toInt) E dX7_cell_9 (by decide) rfl rfl (fun h_3 => ?_) (fun h_3 => ?_)
    ·
      refine s_ldc2 E k_938 rfl dX7_cell_21 ?_
      exact r_long E dX7_cell_24 ⟨(by decide), rfl⟩
    ·
      refine s_aload_n E dX7_cell_12 rfl rfl ?_
      refine s_gR (r := 66) E fg_X7_11 rfl rfl (jv_lt hJ (by decide)) (jv_r hJ (by decide +kernel)) dX7_cell_13 ?_
      refine s_iload_n E dX7_cell_16 rfl rfl ?_
      refine s_lald E rfl (jv_lt hJ (by decide)) (z_in (u := x1.toInt) rfl (by omega) (by omega)) dX7_cell_17 ?_
      refine z_anyL (fun z_4 => ?_)
      refine s_goto (tgt := 24) E dX7_cell_18 (by decide) ?_
      exact r_long E dX7_cell_24 ⟨⟨by have hb_ := z64 z_4; omega, by have hb_ := z64 z_4; omega⟩, rfl⟩
set_option maxRecDepth 20000 in
set_option maxHeartbeats 2000000 in
theorem Z_X7_isBare_67 (l : Launch) (D : va_G) (aC : Nat → ClassId) (b : Nat) (w : XW)  (hI : Iv w)  : CnI l D aC b M_X7_isBare 0 0 0 0 [AR 67] w (fun r u => (0 ≤ r.toInt ∧ r.toInt ≤ 1 ∧ (¬ r.toInt = 0 ∨ (0 ≤ (w.2.2.1 67 2).toInt ∧ (w.2.2.1 67 2).toInt ≤ 60)) ∧ (r.toInt = 0 ∨ ((-1) ≤ (w.2.2.1 67 2).toInt ∧ (w.2.2.1 67 2).toInt ≤ (-1)))) ∧ ((r.toInt = 1 ∧ (w.2.2.1 67 2).toInt < 0) ∨ (r.toInt = 0 ∧ 0 ≤ (w.2.2.1 67 2).toInt)) ∧ w = u) := by
  refine cn_I (own := RX7) (nm := "isBare") (L0 := [some (AR 67)]) (by decide +kernel) rfl rfl (Nat.le_of_ble_eq_true rfl) rfl ?_
  intro p e s m args below meth c E hin
  have hJ : Jv w w := jv_rfl hI
  refine s_aload_n E dX7_isBare_0 rfl rfl ?_
  refine s_gI E fg_X7_15 rfl rfl (jv_lt hJ (by decide)) dX7_isBare_1 ?_
  refine z_nm (P := fun z => z.toInt = (w.2.2.1 67 2).toInt ∧ (-1) ≤ z.toInt ∧ z.toInt ≤ 60) ⟨rfl, (rg_67_2 hJ)⟩ (fun z_1 hz_1 => ?_)
  refine z_if_ge (tgt := 11) (u := z_1.toInt) E dX7_isBare_4 (by decide) rfl (fun h_2 => ?_) (fun h_2 => ?_)
  ·
    refine s_iconst (v := 0) E dX7_isBare_11 (by decide) ?_
    exact r_bool E dX7_isBare_12 (Or.inl rfl) ⟨⟨by decide, by decide, by first | (left; decide) | (right; decide) | (right; have hb_ := z32 (w.2.2.1 67 2); omega), by first | (left; decide) | (right; decide) | (right; have hb_ := z32 (w.2.2.1 67 2); omega)⟩, (by have hrc_ : (0 : Int32).toInt = 0 := (by decide); omega), rfl⟩
  ·
    refine s_iconst (v := 1) E dX7_isBare_7 (by decide) ?_
    refine s_goto (tgt := 12) E dX7_isBare_8 (by decide) ?_
    exact r_bool E dX7_isBare_12 (Or.inr rfl) ⟨⟨by decide, by decide, by first | (left; decide) | (right; decide) | (right; have hb_ := z32 (w.2.2.1 67 2); omega), by first | (left; decide) | (right; decide) | (right; have hb_ := z32 (w.2.2.1 67 2); omega)⟩, (by have hrc_ : (1 : Int32).toInt = 1 := (by decide); omega), rfl⟩
set_option maxRecDepth 20000 in
set_option maxHeartbeats 2000000 in
theorem Z_X7_cell_67 (l : Launch) (D : va_G) (aC : Nat → ClassId) (b : Nat) (w : XW) (x1 : Int32) (hI : Iv w)  : CnL l D aC b M_X7_cell 0 0 0 0 [AR 67, AI x1] w (fun r u => ((-9223372036854775808) ≤ r.toInt ∧ r.toInt ≤ 9223372036854775807) ∧ w = u) := by
  refine cn_L (own := RX7) (nm := "cell") (L0 := [some (AR 67), some (AI x1)]) (by decide +kernel) rfl rfl (Nat.le_of_ble_eq_true rfl) rfl ?_
  intro p e s m args below meth c E hin
  have hJ : Jv w w := jv_rfl hI
  have hb_x1 := z32 x1
  refine s_iload_n E dX7_cell_0 rfl rfl ?_
  refine z_if_lt (tgt := 21) (u := x1.toInt) E dX7_cell_1 (by decide) rfl (fun h_1 => ?_) (fun h_1 => ?_)
  ·
    refine s_ldc2 E k_938 rfl dX7_cell_21 ?_
    exact r_long E dX7_cell_24 ⟨(by decide), rfl⟩
  ·
    refine s_iload_n E dX7_cell_4 rfl rfl ?_
    refine s_aload_n E dX7_cell_5 rfl rfl ?_
    refine s_gI E fg_X7_15 rfl rfl (jv_lt hJ (by decide)) dX7_cell_6 ?_
    refine z_nm (P := fun z => z.toInt = (w.2.2.1 67 2).toInt ∧ (-1) ≤ z.toInt ∧ z.toInt ≤ 60) ⟨rfl, (rg_67_2 hJ)⟩ (fun z_2 hz_2 => ?_)
    refine z_icmp_ge (tgt := 21) (u := x1.toInt) (v := z_2.toInt) E dX7_cell_9 (by decide) rfl rfl (fun h_3 => ?_) (fun h_3 => ?_)
    ·
      refine s_ldc2 E k_938 rfl dX7_cell_21 ?_
      exact r_long E dX7_cell_24 ⟨(by decide), rfl⟩
    ·
      refine s_aload_n E dX7_cell_12 rfl rfl ?_
      refine s_gR (r := 68) E fg_X7_11 rfl rfl (jv_lt hJ (by decide)) (jv_r hJ (by decide +kernel)) dX7_cell_13 ?_
      refine s_iload_n E dX7_cell_16 rfl rfl ?_
      refine s_lald E rfl (jv_lt hJ (by decide)) (z_in (u := x1.toInt) rfl (by omega) (by omega)) dX7_cell_17 ?_
      refine z_anyL (fun z_4 => ?_)
      refine s_goto (tgt := 24) E dX7_cell_18 (by decide) ?_
      exact r_long E dX7_cell_24 ⟨⟨by have hb_ := z64 z_4; omega, by have hb_ := z64 z_4; omega⟩, rfl⟩
set_option maxRecDepth 20000 in
set_option maxHeartbeats 2000000 in
theorem Z_X9_seenFault_0 (l : Launch) (D : va_G) (aC : Nat → ClassId) (b : Nat) (w : XW) (x1 : Int32) (hI : Iv w)  : CnI l D aC b M_X9_seenFault 1 26 0 0 [AR 0, AI x1] w (fun r u => ((-6) ≤ r.toInt ∧ r.toInt ≤ 0 ∧ (¬ r.toInt = 0 ∨ (0 ≤ x1.toInt ∧ x1.toInt ≤ 3)) ∧ (¬ r.toInt = 0 ∨ (1 ≤ (w.2.2.1 2 0).toInt ∧ (w.2.2.1 2 0).toInt ≤ 2147483647))) ∧ w = u) := by
  refine cn_I (own := RX9) (nm := "seenFault") (L0 := [some (AR 0), some (AI x1), none, none]) (by decide +kernel) rfl rfl (Nat.le_of_ble_eq_true rfl) rfl ?_
  intro p e s m args below meth c E hin
  have hJ : Jv w w := jv_rfl hI
  have hb_x1 := z32 x1
  refine s_iload_n E dX9_seenFault_0 rfl rfl ?_
  refine s_sI (As := [AI x1]) (S := []) E (Z_X9_isSlot l D aC b w x1 hJ.1 ) cs_X9_276 rfl rfl (Nat.le_of_ble_eq_true rfl) (Nat.le_of_ble_eq_true rfl) ⟨(Nat.le_of_ble_eq_true rfl), (Nat.le_of_ble_eq_true rfl)⟩ (Nat.le_of_ble_eq_true rfl) dX9_seenFault_1 (fun z_3 u_1 hp_2 => ?_)
  obtain ⟨hz_3, hxz_3, hp_2⟩ := hp_2
  subst hp_2
  refine z_if_eq (tgt := 17) (u := z_3.toInt) E dX9_seenFault_4 (by decide) rfl (fun h_5 => ?_) (fun h_5 => ?_)
  ·
    refine s_bipush (v := (-2)) E dX9_seenFault_17 (by decide) ?_
    exact r_int E dX9_seenFault_19 ⟨⟨by decide, by decide, by first | (left; decide) | (right; decide) | (right; have hb_ := z32 x1; omega), by first | (left; decide) | (right; decide) | (right; have hb_ := z32 (w.2.2.1 2 0); omega)⟩, rfl⟩
  ·
    refine s_aload_n E dX9_seenFault_7 rfl rfl ?_
    refine s_gR (r := 2) E fg_X9_20 rfl rfl (jv_lt hJ (by decide)) (jv_r hJ (by decide +kernel)) dX9_seenFault_8 ?_
    refine s_vI (As := []) (S := []) E (Z_X0_isTold_2 l D aC b w  hJ.1 ) cv_X9_184 rfl rfl rfl (jv_lt hJ (by decide)) (Nat.le_of_ble_eq_true rfl) (Nat.le_of_ble_eq_true rfl) ⟨(Nat.le_of_ble_eq_true rfl), (Nat.le_of_ble_eq_true rfl)⟩ (Nat.le_of_ble_eq_true rfl) dX9_seenFault_11 (fun z_8 u_6 hp_7 => ?_)
    obtain ⟨hz_8, hp_7⟩ := hp_7
    subst hp_7
    refine z_if_ne (tgt := 20) (u := z_8.toInt) E dX9_seenFault_14 (by decide) rfl (fun h_10 => ?_) (fun h_10 => ?_)
    ·
      refine s_aload_n E dX9_seenFault_20 rfl rfl ?_
      refine s_gR (r := 60) E fg_X9_46 rfl rfl (jv_lt hJ (by decide)) (jv_r hJ (by decide +kernel)) dX9_seenFault_21 ?_
      refine s_iload_n E dX9_seenFault_24 rfl rfl ?_
      rcases (show x1 = 0 ∨ x1 = 1 ∨ x1 = 2 ∨ x1 = 3 from (z_cases4 (u := x1.toInt) rfl (by omega) (by omega))) with rfl | rfl | rfl | rfl
      ·
        refine s_aald105 (r := 61) E rfl (jv_lt hJ (by decide)) (vp_c (by decide)) (jv_r hJ (by decide +kernel)) dX9_seenFault_25 ?_
        refine s_astore_n (L2 := [some (AR 0), some (AI 0), some (AR 61), none]) E dX9_seenFault_26 rfl (by decide) rfl ?_
        refine s_aload_n E dX9_seenFault_27 rfl rfl ?_
        refine s_vI (As := []) (S := []) E (Z_X7_isBare_61 l D aC b w  hJ.1 ) cv_X9_279 rfl rfl rfl (jv_lt hJ (by decide)) (Nat.le_of_ble_eq_true rfl) (Nat.le_of_ble_eq_true rfl) ⟨(Nat.le_of_ble_eq_true rfl), (Nat.le_of_ble_eq_true rfl)⟩ (Nat.le_of_ble_eq_true rfl) dX9_seenFault_28 (fun z_13 u_11 hp_12 => ?_)
        obtain ⟨hz_13, hxz_13, hp_12⟩ := hp_12
        subst hp_12
        refine z_if_eq (tgt := 37) (u := z_13.toInt) E dX9_seenFault_31 (by decide) rfl (fun h_15 => ?_) (fun h_15 => ?_)
        ·
          refine s_aload_n E dX9_seenFault_37 rfl rfl ?_
          refine s_gI E fg_X9_282 rfl rfl (jv_lt hJ (by decide)) dX9_seenFault_38 ?_
          refine z_nm (P := fun z => z.toInt = (w.2.2.1 61 2).toInt ∧ (-1) ≤ z.toInt ∧ z.toInt ≤ 60) ⟨rfl, (rg_61_2 hJ)⟩ (fun z_16 hz_16 => ?_)
          refine s_iconst (v := 3) E dX9_seenFault_41 (by decide) ?_
          refine z_irem (u := z_16.toInt) (v := 3) E dX9_seenFault_42 rfl (by decide) (by omega) (by omega) (fun z_17 hz_17 => ?_)
          refine z_if_eq (tgt := 49) (u := z_17.toInt) E dX9_seenFault_43 (by decide) rfl (fun h_18 => ?_) (fun h_18 => ?_)
          ·
            refine s_iconst (v := 0) E dX9_seenFault_49 (by decide) ?_
            refine s_istore_n (L2 := [some (AR 0), some (AI 0), some (AR 61), some (AI 0)]) E dX9_seenFault_50 rfl (by decide) rfl ?_
            refine z_loop (St := Int32) (Pi := fun q51_3_18 v51 => (0 ≤ q51_3_18.toInt ∧ q51_3_18.toInt ≤ 60) ∧ w = v51) (Lf := fun q51_3_18 => [some (AR 0), some (AI 0), some (AR 61), some (AI q51_3_18)]) (fun q51_3_18 _ => (61 - q51_3_18.toInt).toNat) 0 ⟨⟨by decide, by decide⟩, rfl⟩ ?_
            rintro q51_3_18 v51 ⟨hq51_3, hv_⟩ ih51
            subst hv_
            refine s_loc (L2 := [some (AR 0), some (AI 0), some (AR 61), some (AI q51_3_18)]) rfl ?_
            refine s_iload_n E dX9_seenFault_51 rfl rfl ?_
            refine s_iconst (v := 2) E dX9_seenFault_52 (by decide) ?_
            refine z_iadd (u := q51_3_18.toInt) (v := 2) E dX9_seenFault_53 rfl (by decide) (by omega) (by omega) (fun z_20 hz_20 => ?_)
            refine s_aload_n E dX9_seenFault_54 rfl rfl ?_
            refine s_gI E fg_X9_282 rfl rfl (jv_lt hJ (by decide)) dX9_seenFault_55 ?_
            refine z_nm (P := fun z => z.toInt = (w.2.2.1 61 2).toInt ∧ (-1) ≤ z.toInt ∧ z.toInt ≤ 60) ⟨rfl, (rg_61_2 hJ)⟩ (fun z_21 hz_21 => ?_)
            refine z_icmp_ge (tgt := 96) (u := z_20.toInt) (v := z_21.toInt) E dX9_seenFault_58 (by decide) rfl rfl (fun h_22 => ?_) (fun h_22 => ?_)
            ·
              refine s_iconst (v := 0) E dX9_seenFault_96 (by decide) ?_
              exact r_int E dX9_seenFault_97 ⟨⟨by decide, by decide, by first | (left; decide) | (right; decide) | (right; have hb_ := z32 x1; omega), by first | (left; decide) | (right; decide) | (right; have hb_ := z32 (w.2.2.1 2 0); omega)⟩, rfl⟩
            ·
              refine s_aload_n E dX9_seenFault_61 rfl rfl ?_
              refine s_aload_n E dX9_seenFault_62 rfl rfl ?_
              refine s_iload_n E dX9_seenFault_63 rfl rfl ?_
              refine s_vL (As := [AI q51_3_18]) (S := [AR 0]) E (Z_X7_cell_61 l D aC b w q51_3_18 hJ.1 ) cv_X9_285 rfl rfl rfl (jv_lt hJ (by decide)) (Nat.le_of_ble_eq_true rfl) (Nat.le_of_ble_eq_true rfl) ⟨(Nat.le_of_ble_eq_true rfl), (Nat.le_of_ble_eq_true rfl)⟩ (Nat.le_of_ble_eq_true rfl) dX9_seenFault_64 (fun z_25 u_23 hp_24 => ?_)
              obtain ⟨hz_25, hp_24⟩ := hp_24
              subst hp_24
              refine s_aload_n E dX9_seenFault_67 rfl rfl ?_
              refine s_iload_n E dX9_seenFault_68 rfl rfl ?_
              refine s_iconst (v := 1) E dX9_seenFault_69 (by decide) ?_
              refine z_iadd (u := q51_3_18.toInt) (v := 1) E dX9_seenFault_70 rfl (by decide) (by omega) (by omega) (fun z_27 hz_27 => ?_)
              refine s_vL (As := [AI z_27]) (S := [AL z_25, AR 0]) E (Z_X7_cell_61 l D aC b w z_27 hJ.1 ) cv_X9_285 rfl rfl rfl (jv_lt hJ (by decide)) (Nat.le_of_ble_eq_true rfl) (Nat.le_of_ble_eq_true rfl) ⟨(Nat.le_of_ble_eq_true rfl), (Nat.le_of_ble_eq_true rfl)⟩ (Nat.le_of_ble_eq_true rfl) dX9_seenFault_71 (fun z_30 u_28 hp_29 => ?_)
              obtain ⟨hz_30, hp_29⟩ := hp_29
              subst hp_29
              refine s_aload_n E dX9_seenFault_74 rfl rfl ?_
              refine s_iload_n E dX9_seenFault_75 rfl rfl ?_
              refine s_iconst (v := 2) E dX9_seenFault_76 (by decide) ?_
              refine z_iadd (u := q51_3_18.toInt) (v := 2) E dX9_seenFault_77 rfl (by decide) (by omega) (by omega) (fun z_32 hz_32 => ?_)
              refine s_vL (As := [AI z_32]) (S := [AL z_30, AL z_25, AR 0]) E (Z_X7_cell_61 l D aC b w z_32 hJ.1 ) cv_X9_285 rfl rfl rfl (jv_lt hJ (by decide)) (Nat.le_of_ble_eq_true rfl) (Nat.le_of_ble_eq_true rfl) ⟨(Nat.le_of_ble_eq_true rfl), (Nat.le_of_ble_eq_true rfl)⟩ (Nat.le_of_ble_eq_true rfl) dX9_seenFault_78 (fun z_35 u_33 hp_34 => ?_)
              obtain ⟨hz_35, hp_34⟩ := hp_34
              subst hp_34
              refine s_vI (As := [AL z_25, AL z_30, AL z_35]) (S := []) E (Z_X9_isSighting_0 l D aC b w z_25 z_30 z_35 hJ.1 ) cv_X9_288 rfl rfl rfl (jv_lt hJ (by decide)) (Nat.le_of_ble_eq_true rfl) (Nat.le_of_ble_eq_true rfl) ⟨(Nat.le_of_ble_eq_true rfl), (Nat.le_of_ble_eq_true rfl)⟩ (Nat.le_of_ble_eq_true rfl) dX9_seenFault_81 (fun z_39 u_37 hp_38 => ?_)
              obtain ⟨hz_39, hp_38⟩ := hp_38
              subst hp_38
              refine z_if_ne (tgt := 90) (u := z_39.toInt) E dX9_seenFault_84 (by decide) rfl (fun h_41 => ?_) (fun h_41 => ?_)
              ·
                refine z_iinc (u := q51_3_18.toInt) (L2 := fun z_42 => [some (AR 0), some (AI 0), some (AR 61), some (AI z_42)]) E dX9_seenFault_90 rfl rfl (by decide) (fun _ => rfl) (by decide) (by omega) (by omega) (fun z_42 hz_42 => ?_)
                refine s_goto (tgt := 51) E dX9_seenFault_93 (by decide) ?_
                exact ih51 z_42 w ⟨⟨by have hb_ := z32 z_42; omega, by have hb_ := z32 z_42; omega⟩, rfl⟩ (by first | omega | decide | (dsimp only; omega) | (dsimp only; decide))
              ·
                refine s_bipush (v := (-2)) E dX9_seenFault_87 (by decide) ?_
                exact r_int E dX9_seenFault_89 ⟨⟨by decide, by decide, by first | (left; decide) | (right; decide) | (right; have hb_ := z32 x1; omega), by first | (left; decide) | (right; decide) | (right; have hb_ := z32 (w.2.2.1 2 0); omega)⟩, rfl⟩
          ·
            refine s_bipush (v := (-2)) E dX9_seenFault_46 (by decide) ?_
            exact r_int E dX9_seenFault_48 ⟨⟨by decide, by decide, by first | (left; decide) | (right; decide) | (right; have hb_ := z32 x1; omega), by first | (left; decide) | (right; decide) | (right; have hb_ := z32 (w.2.2.1 2 0); omega)⟩, rfl⟩
        ·
          refine s_bipush (v := (-6)) E dX9_seenFault_34 (by decide) ?_
          exact r_int E dX9_seenFault_36 ⟨⟨by decide, by decide, by first | (left; decide) | (right; decide) | (right; have hb_ := z32 x1; omega), by first | (left; decide) | (right; decide) | (right; have hb_ := z32 (w.2.2.1 2 0); omega)⟩, rfl⟩
      ·
        refine s_aald105 (r := 63) E rfl (jv_lt hJ (by decide)) (vp_c (by decide)) (jv_r hJ (by decide +kernel)) dX9_seenFault_25 ?_
        refine s_astore_n (L2 := [some (AR 0), some (AI 1), some (AR 63), none]) E dX9_seenFault_26 rfl (by decide) rfl ?_
        refine s_aload_n E dX9_seenFault_27 rfl rfl ?_
        refine s_vI (As := []) (S := []) E (Z_X7_isBare_63 l D aC b w  hJ.1 ) cv_X9_279 rfl rfl rfl (jv_lt hJ (by decide)) (Nat.le_of_ble_eq_true rfl) (Nat.le_of_ble_eq_true rfl) ⟨(Nat.le_of_ble_eq_true rfl), (Nat.le_of_ble_eq_true rfl)⟩ (Nat.le_of_ble_eq_true rfl) dX9_seenFault_28 (fun z_45 u_43 hp_44 => ?_)
        obtain ⟨hz_45, hxz_45, hp_44⟩ := hp_44
        subst hp_44
        refine z_if_eq (tgt := 37) (u := z_45.toInt) E dX9_seenFault_31 (by decide) rfl (fun h_47 => ?_) (fun h_47 => ?_)
        ·
          refine s_aload_n E dX9_seenFault_37 rfl rfl ?_
          refine s_gI E fg_X9_282 rfl rfl (jv_lt hJ (by decide)) dX9_seenFault_38 ?_
          refine z_nm (P := fun z => z.toInt = (w.2.2.1 63 2).toInt ∧ (-1) ≤ z.toInt ∧ z.toInt ≤ 60) ⟨rfl, (rg_63_2 hJ)⟩ (fun z_48 hz_48 => ?_)
          refine s_iconst (v := 3) E dX9_seenFault_41 (by decide) ?_
          refine z_irem (u := z_48.toInt) (v := 3) E dX9_seenFault_42 rfl (by decide) (by omega) (by omega) (fun z_49 hz_49 => ?_)
          refine z_if_eq (tgt := 49) (u := z_49.toInt) E dX9_seenFault_43 (by decide) rfl (fun h_50 => ?_) (fun h_50 => ?_)
          ·
            refine s_iconst (v := 0) E dX9_seenFault_49 (by decide) ?_
            refine s_istore_n (L2 := [some (AR 0), some (AI 1), some (AR 63), some (AI 0)]) E dX9_seenFault_50 rfl (by decide) rfl ?_
            refine z_loop (St := Int32) (Pi := fun q51_3_50 v51 => (0 ≤ q51_3_50.toInt ∧ q51_3_50.toInt ≤ 60) ∧ w = v51) (Lf := fun q51_3_50 => [some (AR 0), some (AI 1), some (AR 63), some (AI q51_3_50)]) (fun q51_3_50 _ => (61 - q51_3_50.toInt).toNat) 0 ⟨⟨by decide, by decide⟩, rfl⟩ ?_
            rintro q51_3_50 v51 ⟨hq51_3, hv_⟩ ih51
            subst hv_
            refine s_loc (L2 := [some (AR 0), some (AI 1), some (AR 63), some (AI q51_3_50)]) rfl ?_
            refine s_iload_n E dX9_seenFault_51 rfl rfl ?_
            refine s_iconst (v := 2) E dX9_seenFault_52 (by decide) ?_
            refine z_iadd (u := q51_3_50.toInt) (v := 2) E dX9_seenFault_53 rfl (by decide) (by omega) (by omega) (fun z_52 hz_52 => ?_)
            refine s_aload_n E dX9_seenFault_54 rfl rfl ?_
            refine s_gI E fg_X9_282 rfl rfl (jv_lt hJ (by decide)) dX9_seenFault_55 ?_
            refine z_nm (P := fun z => z.toInt = (w.2.2.1 63 2).toInt ∧ (-1) ≤ z.toInt ∧ z.toInt ≤ 60) ⟨rfl, (rg_63_2 hJ)⟩ (fun z_53 hz_53 => ?_)
            refine z_icmp_ge (tgt := 96) (u := z_52.toInt) (v := z_53.toInt) E dX9_seenFault_58 (by decide) rfl rfl (fun h_54 => ?_) (fun h_54 => ?_)
            ·
              refine s_iconst (v := 0) E dX9_seenFault_96 (by decide) ?_
              exact r_int E dX9_seenFault_97 ⟨⟨by decide, by decide, by first | (left; decide) | (right; decide) | (right; have hb_ := z32 x1; omega), by first | (left; decide) | (right; decide) | (right; have hb_ := z32 (w.2.2.1 2 0); omega)⟩, rfl⟩
            ·
              refine s_aload_n E dX9_seenFault_61 rfl rfl ?_
              refine s_aload_n E dX9_seenFault_62 rfl rfl ?_
              refine s_iload_n E dX9_seenFault_63 rfl rfl ?_
              refine s_vL (As := [AI q51_3_50]) (S := [AR 0]) E (Z_X7_cell_63 l D aC b w q51_3_50 hJ.1 ) cv_X9_285 rfl rfl rfl (jv_lt hJ (by decide)) (Nat.le_of_ble_eq_true rfl) (Nat.le_of_ble_eq_true rfl) ⟨(Nat.le_of_ble_eq_true rfl), (Nat.le_of_ble_eq_true rfl)⟩ (Nat.le_of_ble_eq_true rfl) dX9_seenFault_64 (fun z_57 u_55 hp_56 => ?_)
              obtain ⟨hz_57, hp_56⟩ := hp_56
              subst hp_56
              refine s_aload_n E dX9_seenFault_67 rfl rfl ?_
              refine s_iload_n E dX9_seenFault_68 rfl rfl ?_
              refine s_iconst (v := 1) E dX9_seenFault_69 (by decide) ?_
              refine z_iadd (u := q51_3_50.toInt) (v := 1) E dX9_seenFault_70 rfl (by decide) (by omega) (by omega) (fun z_59 hz_59 => ?_)
              refine s_vL (As := [AI z_59]) (S := [AL z_57, AR 0]) E (Z_X7_cell_63 l D aC b w z_59 hJ.1 ) cv_X9_285 rfl rfl rfl (jv_lt hJ (by decide)) (Nat.le_of_ble_eq_true rfl) (Nat.le_of_ble_eq_true rfl) ⟨(Nat.le_of_ble_eq_true rfl), (Nat.le_of_ble_eq_true rfl)⟩ (Nat.le_of_ble_eq_true rfl) dX9_seenFault_71 (fun z_62 u_60 hp_61 => ?_)
              obtain ⟨hz_62, hp_61⟩ := hp_61
              subst hp_61
              refine s_aload_n E dX9_seenFault_74 rfl rfl ?_
              refine s_iload_n E dX9_seenFault_75 rfl rfl ?_
              refine s_iconst (v := 2) E dX9_seenFault_76 (by decide) ?_
              refine z_iadd (u := q51_3_50.toInt) (v := 2) E dX9_seenFault_77 rfl (by decide) (by omega) (by omega) (fun z_64 hz_64 => ?_)
              refine s_vL (As := [AI z_64]) (S := [AL z_62, AL z_57, AR 0]) E (Z_X7_cell_63 l D aC b w z_64 hJ.1 ) cv_X9_285 rfl rfl rfl (jv_lt hJ (by decide)) (Nat.le_of_ble_eq_true rfl) (Nat.le_of_ble_eq_true rfl) ⟨(Nat.le_of_ble_eq_true rfl), (Nat.le_of_ble_eq_true rfl)⟩ (Nat.le_of_ble_eq_true rfl) dX9_seenFault_78 (fun z_67 u_65 hp_66 => ?_)
              obtain ⟨hz_67, hp_66⟩ := hp_66
              subst hp_66
              refine s_vI (As := [AL z_57, AL z_62, AL z_67]) (S := []) E (Z_X9_isSighting_0 l D aC b w z_57 z_62 z_67 hJ.1 ) cv_X9_288 rfl rfl rfl (jv_lt hJ (by decide)) (Nat.le_of_ble_eq_true rfl) (Nat.le_of_ble_eq_true rfl) ⟨(Nat.le_of_ble_eq_true rfl), (Nat.le_of_ble_eq_true rfl)⟩ (Nat.le_of_ble_eq_true rfl) dX9_seenFault_81 (fun z_71 u_69 hp_70 => ?_)
              obtain ⟨hz_71, hp_70⟩ := hp_70
              subst hp_70
              refine z_if_ne (tgt := 90) (u := z_71.toInt) E dX9_seenFault_84 (by decide) rfl (fun h_73 => ?_) (fun h_73 => ?_)
              ·
                refine z_iinc (u := q51_3_50.toInt) (L2 := fun z_74 => [some (AR 0), some (AI 1), some (AR 63), some (AI z_74)]) E dX9_seenFault_90 rfl rfl (by decide) (fun _ => rfl) (by decide) (by omega) (by omega) (fun z_74 hz_74 => ?_)
                refine s_goto (tgt := 51) E dX9_seenFault_93 (by decide) ?_
                exact ih51 z_74 w ⟨⟨by have hb_ := z32 z_74; omega, by have hb_ := z32 z_74; omega⟩, rfl⟩ (by first | omega | decide | (dsimp only; omega) | (dsimp only; decide))
              ·
                refine s_bipush (v := (-2)) E dX9_seenFault_87 (by decide) ?_
                exact r_int E dX9_seenFault_89 ⟨⟨by decide, by decide, by first | (left; decide) | (right; decide) | (right; have hb_ := z32 x1; omega), by first | (left; decide) | (right; decide) | (right; have hb_ := z32 (w.2.2.1 2 0); omega)⟩, rfl⟩
          ·
            refine s_bipush (v := (-2)) E dX9_seenFault_46 (by decide) ?_
            exact r_int E dX9_seenFault_48 ⟨⟨by decide, by decide, by first | (left; decide) | (right; decide) | (right; have hb_ := z32 x1; omega), by first | (left; decide) | (right; decide) | (right; have hb_ := z32 (w.2.2.1 2 0); omega)⟩, rfl⟩
        ·
          refine s_bipush (v := (-6)) E dX9_seenFault_34 (by decide) ?_
          exact r_int E dX9_seenFault_36 ⟨⟨by decide, by decide, by first | (left; decide) | (right; decide) | (right; have hb_ := z32 x1; omega), by first | (left; decide) | (right; decide) | (right; have hb_ := z32 (w.2.2.1 2 0); omega)⟩, rfl⟩
      ·
        refine s_aald105 (r := 65) E rfl (jv_lt hJ (by decide)) (vp_c (by decide)) (jv_r hJ (by decide +kernel)) dX9_seenFault_25 ?_
        refine s_astore_n (L2 := [some (AR 0), some (AI 2), some (AR 65), none]) E dX9_seenFault_26 rfl (by decide) rfl ?_
        refine s_aload_n E dX9_seenFault_27 rfl rfl ?_
        refine s_vI (As := []) (S := []) E (Z_X7_isBare_65 l D aC b w  hJ.1 ) cv_X9_279 rfl rfl rfl (jv_lt hJ (by decide)) (Nat.le_of_ble_eq_true rfl) (Nat.le_of_ble_eq_true rfl) ⟨(Nat.le_of_ble_eq_true rfl), (Nat.le_of_ble_eq_true rfl)⟩ (Nat.le_of_ble_eq_true rfl) dX9_seenFault_28 (fun z_77 u_75 hp_76 => ?_)
        obtain ⟨hz_77, hxz_77, hp_76⟩ := hp_76
        subst hp_76
        refine z_if_eq (tgt := 37) (u := z_77.toInt) E dX9_seenFault_31 (by decide) rfl (fun h_79 => ?_) (fun h_79 => ?_)
        ·
          refine s_aload_n E dX9_seenFault_37 rfl rfl ?_
          refine s_gI E fg_X9_282 rfl rfl (jv_lt hJ (by decide)) dX9_seenFault_38 ?_
          refine z_nm (P := fun z => z.toInt = (w.2.2.1 65 2).toInt ∧ (-1) ≤ z.toInt ∧ z.toInt ≤ 60) ⟨rfl, (rg_65_2 hJ)⟩ (fun z_80 hz_80 => ?_)
          refine s_iconst (v := 3) E dX9_seenFault_41 (by decide) ?_
          refine z_irem (u := z_80.toInt) (v := 3) E dX9_seenFault_42 rfl (by decide) (by omega) (by omega) (fun z_81 hz_81 => ?_)
          refine z_if_eq (tgt := 49) (u := z_81.toInt) E dX9_seenFault_43 (by decide) rfl (fun h_82 => ?_) (fun h_82 => ?_)
          ·
            refine s_iconst (v := 0) E dX9_seenFault_49 (by decide) ?_
            refine s_istore_n (L2 := [some (AR 0), some (AI 2), some (AR 65), some (AI 0)]) E dX9_seenFault_50 rfl (by decide) rfl ?_
            refine z_loop (St := Int32) (Pi := fun q51_3_82 v51 => (0 ≤ q51_3_82.toInt ∧ q51_3_82.toInt ≤ 60) ∧ w = v51) (Lf := fun q51_3_82 => [some (AR 0), some (AI 2), some (AR 65), some (AI q51_3_82)]) (fun q51_3_82 _ => (61 - q51_3_82.toInt).toNat) 0 ⟨⟨by decide, by decide⟩, rfl⟩ ?_
            rintro q51_3_82 v51 ⟨hq51_3, hv_⟩ ih51
            subst hv_
            refine s_loc (L2 := [some (AR 0), some (AI 2), some (AR 65), some (AI q51_3_82)]) rfl ?_
            refine s_iload_n E dX9_seenFault_51 rfl rfl ?_
            refine s_iconst (v := 2) E dX9_seenFault_52 (by decide) ?_
            refine z_iadd (u := q51_3_82.toInt) (v := 2) E dX9_seenFault_53 rfl (by decide) (by omega) (by omega) (fun z_84 hz_84 => ?_)
            refine s_aload_n E dX9_seenFault_54 rfl rfl ?_
            refine s_gI E fg_X9_282 rfl rfl (jv_lt hJ (by decide)) dX9_seenFault_55 ?_
            refine z_nm (P := fun z => z.toInt = (w.2.2.1 65 2).toInt ∧ (-1) ≤ z.toInt ∧ z.toInt ≤ 60) ⟨rfl, (rg_65_2 hJ)⟩ (fun z_85 hz_85 => ?_)
            refine z_icmp_ge (tgt := 96) (u := z_84.toInt) (v := z_85.toInt) E dX9_seenFault_58 (by decide) rfl rfl (fun h_86 => ?_) (fun h_86 => ?_)
            ·
              refine s_iconst (v := 0) E dX9_seenFault_96 (by decide) ?_
              exact r_int E dX9_seenFault_97 ⟨⟨by decide, by decide, by first | (left; decide) | (right; decide) | (right; have hb_ := z32 x1; omega), by first | (left; decide) | (right; decide) | (right; have hb_ := z32 (w.2.2.1 2 0); omega)⟩, rfl⟩
            ·
              refine s_aload_n E dX9_seenFault_61 rfl rfl ?_
              refine s_aload_n E dX9_seenFault_62 rfl rfl ?_
              refine s_iload_n E dX9_seenFault_63 rfl rfl ?_
              refine s_vL (As := [AI q51_3_82]) (S := [AR 0]) E (Z_X7_cell_65 l D aC b w q51_3_82 hJ.1 ) cv_X9_285 rfl rfl rfl (jv_lt hJ (by decide)) (Nat.le_of_ble_eq_true rfl) (Nat.le_of_ble_eq_true rfl) ⟨(Nat.le_of_ble_eq_true rfl), (Nat.le_of_ble_eq_true rfl)⟩ (Nat.le_of_ble_eq_true rfl) dX9_seenFault_64 (fun z_89 u_87 hp_88 => ?_)
              obtain ⟨hz_89, hp_88⟩ := hp_88
              subst hp_88
              refine s_aload_n E dX9_seenFault_67 rfl rfl ?_
              refine s_iload_n E dX9_seenFault_68 rfl rfl ?_
              refine s_iconst (v := 1) E dX9_seenFault_69 (by decide) ?_
              refine z_iadd (u := q51_3_82.toInt) (v := 1) E dX9_seenFault_70 rfl (by decide) (by omega) (by omega) (fun z_91 hz_91 => ?_)
              refine s_vL (As := [AI z_91]) (S := [AL z_89, AR 0]) E (Z_X7_cell_65 l D aC b w z_91 hJ.1 ) cv_X9_285 rfl rfl rfl (jv_lt hJ (by decide)) (Nat.le_of_ble_eq_true rfl) (Nat.le_of_ble_eq_true rfl) ⟨(Nat.le_of_ble_eq_true rfl), (Nat.le_of_ble_eq_true rfl)⟩ (Nat.le_of_ble_eq_true rfl) dX9_seenFault_71 (fun z_94 u_92 hp_93 => ?_)
              obtain ⟨hz_94, hp_93⟩ := hp_93
              subst hp_93
              refine s_aload_n E dX9_seenFault_74 rfl rfl ?_
              refine s_iload_n E dX9_seenFault_75 rfl rfl ?_
              refine s_iconst (v := 2) E dX9_seenFault_76 (by decide) ?_
              refine z_iadd (u := q51_3_82.toInt) (v := 2) E dX9_seenFault_77 rfl (by decide) (by omega) (by omega) (fun z_96 hz_96 => ?_)
              refine s_vL (As := [AI z_96]) (S := [AL z_94, AL z_89, AR 0]) E (Z_X7_cell_65 l D aC b w z_96 hJ.1 ) cv_X9_285 rfl rfl rfl (jv_lt hJ (by decide)) (Nat.le_of_ble_eq_true rfl) (Nat.le_of_ble_eq_true rfl) ⟨(Nat.le_of_ble_eq_true rfl), (Nat.le_of_ble_eq_true rfl)⟩ (Nat.le_of_ble_eq_true rfl) dX9_seenFault_78 (fun z_99 u_97 hp_98 => ?_)
              obtain ⟨hz_99, hp_98⟩ := hp_98
              subst hp_98
              refine s_vI (As := [AL z_89, AL z_94, AL z_99]) (S := []) E (Z_X9_isSighting_0 l D aC b w z_89 z_94 z_99 hJ.1 ) cv_X9_288 rfl rfl rfl (jv_lt hJ (by decide)) (Nat.le_of_ble_eq_true rfl) (Nat.le_of_ble_eq_true rfl) ⟨(Nat.le_of_ble_eq_true rfl), (Nat.le_of_ble_eq_true rfl)⟩ (Nat.le_of_ble_eq_true rfl) dX9_seenFault_81 (fun z_103 u_101 hp_102 => ?_)
              obtain ⟨hz_103, hp_102⟩ := hp_102
              subst hp_102
              refine z_if_ne (tgt := 90) (u := z_103.toInt) E dX9_seenFault_84 (by decide) rfl (fun h_105 => ?_) (fun h_105 => ?_)
              ·
                refine z_iinc (u := q51_3_82.toInt) (L2 := fun z_106 => [some (AR 0), some (AI 2), some (AR 65), some (AI z_106)]) E dX9_seenFault_90 rfl rfl (by decide) (fun _ => rfl) (by decide) (by omega) (by omega) (fun z_106 hz_106 => ?_)
                refine s_goto (tgt := 51) E dX9_seenFault_93 (by decide) ?_
                exact ih51 z_106 w ⟨⟨by have hb_ := z32 z_106; omega, by have hb_ := z32 z_106; omega⟩, rfl⟩ (by first | omega | decide | (dsimp only; omega) | (dsimp only; decide))
              ·
                refine s_bipush (v := (-2)) E dX9_seenFault_87 (by decide) ?_
                exact r_int E dX9_seenFault_89 ⟨⟨by decide, by decide, by first | (left; decide) | (right; decide) | (right; have hb_ := z32 x1; omega), by first | (left; decide) | (right; decide) | (right; have hb_ := z32 (w.2.2.1 2 0); omega)⟩, rfl⟩
          ·
            refine s_bipush (v := (-2)) E dX9_seenFault_46 (by decide) ?_
            exact r_int E dX9_seenFault_48 ⟨⟨by decide, by decide, by first | (left; decide) | (right; decide) | (right; have hb_ := z32 x1; omega), by first | (left; decide) | (right; decide) | (right; have hb_ := z32 (w.2.2.1 2 0); omega)⟩, rfl⟩
        ·
          refine s_bipush (v := (-6)) E dX9_seenFault_34 (by decide) ?_
          exact r_int E dX9_seenFault_36 ⟨⟨by decide, by decide, by first | (left; decide) | (right; decide) | (right; have hb_ := z32 x1; omega), by first | (left; decide) | (right; decide) | (right; have hb_ := z32 (w.2.2.1 2 0); omega)⟩, rfl⟩
      ·
        refine s_aald105 (r := 67) E rfl (jv_lt hJ (by decide)) (vp_c (by decide)) (jv_r hJ (by decide +kernel)) dX9_seenFault_25 ?_
        refine s_astore_n (L2 := [some (AR 0), some (AI 3), some (AR 67), none]) E dX9_seenFault_26 rfl (by decide) rfl ?_
        refine s_aload_n E dX9_seenFault_27 rfl rfl ?_
        refine s_vI (As := []) (S := []) E (Z_X7_isBare_67 l D aC b w  hJ.1 ) cv_X9_279 rfl rfl rfl (jv_lt hJ (by decide)) (Nat.le_of_ble_eq_true rfl) (Nat.le_of_ble_eq_true rfl) ⟨(Nat.le_of_ble_eq_true rfl), (Nat.le_of_ble_eq_true rfl)⟩ (Nat.le_of_ble_eq_true rfl) dX9_seenFault_28 (fun z_109 u_107 hp_108 => ?_)
        obtain ⟨hz_109, hxz_109, hp_108⟩ := hp_108
        subst hp_108
        refine z_if_eq (tgt := 37) (u := z_109.toInt) E dX9_seenFault_31 (by decide) rfl (fun h_111 => ?_) (fun h_111 => ?_)
        ·
          refine s_aload_n E dX9_seenFault_37 rfl rfl ?_
          refine s_gI E fg_X9_282 rfl rfl (jv_lt hJ (by decide)) dX9_seenFault_38 ?_
          refine z_nm (P := fun z => z.toInt = (w.2.2.1 67 2).toInt ∧ (-1) ≤ z.toInt ∧ z.toInt ≤ 60) ⟨rfl, (rg_67_2 hJ)⟩ (fun z_112 hz_112 => ?_)
          refine s_iconst (v := 3) E dX9_seenFault_41 (by decide) ?_
          refine z_irem (u := z_112.toInt) (v := 3) E dX9_seenFault_42 rfl (by decide) (by omega) (by omega) (fun z_113 hz_113 => ?_)
          refine z_if_eq (tgt := 49) (u := z_113.toInt) E dX9_seenFault_43 (by decide) rfl (fun h_114 => ?_) (fun h_114 => ?_)
          ·
            refine s_iconst (v := 0) E dX9_seenFault_49 (by decide) ?_
            refine s_istore_n (L2 := [some (AR 0), some (AI 3), some (AR 67), some (AI 0)]) E dX9_seenFault_50 rfl (by decide) rfl ?_
            refine z_loop (St := Int32) (Pi := fun q51_3_114 v51 => (0 ≤ q51_3_114.toInt ∧ q51_3_114.toInt ≤ 60) ∧ w = v51) (Lf := fun q51_3_114 => [some (AR 0), some (AI 3), some (AR 67), some (AI q51_3_114)]) (fun q51_3_114 _ => (61 - q51_3_114.toInt).toNat) 0 ⟨⟨by decide, by decide⟩, rfl⟩ ?_
            rintro q51_3_114 v51 ⟨hq51_3, hv_⟩ ih51
            subst hv_
            refine s_loc (L2 := [some (AR 0), some (AI 3), some (AR 67), some (AI q51_3_114)]) rfl ?_
            refine s_iload_n E dX9_seenFault_51 rfl rfl ?_
            refine s_iconst (v := 2) E dX9_seenFault_52 (by decide) ?_
            refine z_iadd (u := q51_3_114.toInt) (v := 2) E dX9_seenFault_53 rfl (by decide) (by omega) (by omega) (fun z_116 hz_116 => ?_)
            refine s_aload_n E dX9_seenFault_54 rfl rfl ?_
            refine s_gI E fg_X9_282 rfl rfl (jv_lt hJ (by decide)) dX9_seenFault_55 ?_
            refine z_nm (P := fun z => z.toInt = (w.2.2.1 67 2).toInt ∧ (-1) ≤ z.toInt ∧ z.toInt ≤ 60) ⟨rfl, (rg_67_2 hJ)⟩ (fun z_117 hz_117 => ?_)
            refine z_icmp_ge (tgt := 96) (u := z_116.toInt) (v := z_117.toInt) E dX9_seenFault_58 (by decide) rfl rfl (fun h_118 => ?_) (fun h_118 => ?_)
            ·
              refine s_iconst (v := 0) E dX9_seenFault_96 (by decide) ?_
              exact r_int E dX9_seenFault_97 ⟨⟨by decide, by decide, by first | (left; decide) | (right; decide) | (right; have hb_ := z32 x1; omega), by first | (left; decide) | (right; decide) | (right; have hb_ := z32 (w.2.2.1 2 0); omega)⟩, rfl⟩
            ·
              refine s_aload_n E dX9_seenFault_61 rfl rfl ?_
              refine s_aload_n E dX9_seenFault_62 rfl rfl ?_
              refine s_iload_n E dX9_seenFault_63 rfl rfl ?_
              refine s_vL (As := [AI q51_3_114]) (S := [AR 0]) E (Z_X7_cell_67 l D aC b w q51_3_114 hJ.1 ) cv_X9_285 rfl rfl rfl (jv_lt hJ (by decide)) (Nat.le_of_ble_eq_true rfl) (Nat.le_of_ble_eq_true rfl) ⟨(Nat.le_of_ble_eq_true rfl), (Nat.le_of_ble_eq_true rfl)⟩ (Nat.le_of_ble_eq_true rfl) dX9_seenFault_64 (fun z_121 u_119 hp_120 => ?_)
              obtain ⟨hz_121, hp_120⟩ := hp_120
              subst hp_120
              refine s_aload_n E dX9_seenFault_67 rfl rfl ?_
              refine s_iload_n E dX9_seenFault_68 rfl rfl ?_
              refine s_iconst (v := 1) E dX9_seenFault_69 (by decide) ?_
              refine z_iadd (u := q51_3_114.toInt) (v := 1) E dX9_seenFault_70 rfl (by decide) (by omega) (by omega) (fun z_123 hz_123 => ?_)
              refine s_vL (As := [AI z_123]) (S := [AL z_121, AR 0]) E (Z_X7_cell_67 l D aC b w z_123 hJ.1 ) cv_X9_285 rfl rfl rfl (jv_lt hJ (by decide)) (Nat.le_of_ble_eq_true rfl) (Nat.le_of_ble_eq_true rfl) ⟨(Nat.le_of_ble_eq_true rfl), (Nat.le_of_ble_eq_true rfl)⟩ (Nat.le_of_ble_eq_true rfl) dX9_seenFault_71 (fun z_126 u_124 hp_125 => ?_)
              obtain ⟨hz_126, hp_125⟩ := hp_125
              subst hp_125
              refine s_aload_n E dX9_seenFault_74 rfl rfl ?_
              refine s_iload_n E dX9_seenFault_75 rfl rfl ?_
              refine s_iconst (v := 2) E dX9_seenFault_76 (by decide) ?_
              refine z_iadd (u := q51_3_114.toInt) (v := 2) E dX9_seenFault_77 rfl (by decide) (by omega) (by omega) (fun z_128 hz_128 => ?_)
              refine s_vL (As := [AI z_128]) (S := [AL z_126, AL z_121, AR 0]) E (Z_X7_cell_67 l D aC b w z_128 hJ.1 ) cv_X9_285 rfl rfl rfl (jv_lt hJ (by decide)) (Nat.le_of_ble_eq_true rfl) (Nat.le_of_ble_eq_true rfl) ⟨(Nat.le_of_ble_eq_true rfl), (Nat.le_of_ble_eq_true rfl)⟩ (Nat.le_of_ble_eq_true rfl) dX9_seenFault_78 (fun z_131 u_129 hp_130 => ?_)
              obtain ⟨hz_131, hp_130⟩ := hp_130
              subst hp_130
              refine s_vI (As := [AL z_121, AL z_126, AL z_131]) (S := []) E (Z_X9_isSighting_0 l D aC b w z_121 z_126 z_131 hJ.1 ) cv_X9_288 rfl rfl rfl (jv_lt hJ (by decide)) (Nat.le_of_ble_eq_true rfl) (Nat.le_of_ble_eq_true rfl) ⟨(Nat.le_of_ble_eq_true rfl), (Nat.le_of_ble_eq_true rfl)⟩ (Nat.le_of_ble_eq_true rfl) dX9_seenFault_81 (fun z_135 u_133 hp_134 => ?_)
              obtain ⟨hz_135, hp_134⟩ := hp_134
              subst hp_134
              refine z_if_ne (tgt := 90) (u := z_135.toInt) E dX9_seenFault_84 (by decide) rfl (fun h_137 => ?_) (fun h_137 => ?_)
              ·
                refine z_iinc (u := q51_3_114.toInt) (L2 := fun z_138 => [some (AR 0), some (AI 3), some (AR 67), some (AI z_138)]) E dX9_seenFault_90 rfl rfl (by decide) (fun _ => rfl) (by decide) (by omega) (by omega) (fun z_138 hz_138 => ?_)
                refine s_goto (tgt := 51) E dX9_seenFault_93 (by decide) ?_
                exact ih51 z_138 w ⟨⟨by have hb_ := z32 z_138; omega, by have hb_ := z32 z_138; omega⟩, rfl⟩ (by first | omega | decide | (dsimp only; omega) | (dsimp only; decide))
              ·
                refine s_bipush (v := (-2)) E dX9_seenFault_87 (by decide) ?_
                exact r_int E dX9_seenFault_89 ⟨⟨by decide, by decide, by first | (left; decide) | (right; decide) | (right; have hb_ := z32 x1; omega), by first | (left; decide) | (right; decide) | (right; have hb_ := z32 (w.2.2.1 2 0); omega)⟩, rfl⟩
          ·
            refine s_bipush (v := (-2)) E dX9_seenFault_46 (by decide) ?_
            exact r_int E dX9_seenFault_48 ⟨⟨by decide, by decide, by first | (left; decide) | (right; decide) | (right; have hb_ := z32 x1; omega), by first | (left; decide) | (right; decide) | (right; have hb_ := z32 (w.2.2.1 2 0); omega)⟩, rfl⟩
        ·
          refine s_bipush (v := (-6)) E dX9_seenFault_34 (by decide) ?_
          exact r_int E dX9_seenFault_36 ⟨⟨by decide, by decide, by first | (left; decide) | (right; decide) | (right; have hb_ := z32 x1; omega), by first | (left; decide) | (right; decide) | (right; have hb_ := z32 (w.2.2.1 2 0); omega)⟩, rfl⟩
    ·
      refine s_bipush (v := (-2)) E dX9_seenFault_17 (by decide) ?_
      exact r_int E dX9_seenFault_19 ⟨⟨by decide, by decide, by first | (left; decide) | (right; decide) | (right; have hb_ := z32 x1; omega), by first | (left; decide) | (right; decide) | (right; have hb_ := z32 (w.2.2.1 2 0); omega)⟩, rfl⟩
set_option maxRecDepth 20000 in
set_option maxHeartbeats 2000000 in
theorem Z_X9_agrees_0_r61 (l : Launch) (D : va_G) (aC : Nat → ClassId) (b : Nat) (w : XW)  (hI : Iv w)  : CnI l D aC b M_X9_agrees 1 21 0 0 [AR 0, AR 61] w (fun r u => (0 ≤ r.toInt ∧ r.toInt ≤ 1 ∧ (¬ r.toInt = 0 ∨ (3 ≤ (w.2.2.1 61 2).toInt ∧ (w.2.2.1 61 2).toInt ≤ 60))) ∧ w = u) := by
  refine cn_I (own := RX9) (nm := "agrees") (L0 := [some (AR 0), some (AR 61), none, none]) (by decide +kernel) rfl rfl (Nat.le_of_ble_eq_true rfl) rfl ?_
  intro p e s m args below meth c E hin
  have hJ : Jv w w := jv_rfl hI
  refine s_iconst (v := 0) E dX9_agrees_0 (by decide) ?_
  refine s_istore_n (L2 := [some (AR 0), some (AR 61), some (AI 0), none]) E dX9_agrees_1 rfl (by decide) rfl ?_
  refine z_loop (St := Int32) (Pi := fun q2_2_0 v2 => (0 ≤ q2_2_0.toInt ∧ q2_2_0.toInt ≤ 60) ∧ w = v2) (Lf := fun q2_2_0 => [some (AR 0), some (AR 61), some (AI q2_2_0), none]) (fun q2_2_0 _ => (61 - q2_2_0.toInt).toNat) 0 ⟨⟨by decide, by decide⟩, rfl⟩ ?_
  rintro q2_2_0 v2 ⟨hq2_2, hv_⟩ ih2
  subst hv_
  refine s_loc (L2 := [some (AR 0), some (AR 61), some (AI q2_2_0), none]) rfl ?_
  refine s_iload_n E dX9_agrees_2 rfl rfl ?_
  refine s_iconst (v := 2) E dX9_agrees_3 (by decide) ?_
  refine z_iadd (u := q2_2_0.toInt) (v := 2) E dX9_agrees_4 rfl (by decide) (by omega) (by omega) (fun z_2 hz_2 => ?_)
  refine s_aload_n E dX9_agrees_5 rfl rfl ?_
  refine s_gI E fg_X9_282 rfl rfl (jv_lt hJ (by decide)) dX9_agrees_6 ?_
  refine z_nm (P := fun z => z.toInt = (w.2.2.1 61 2).toInt ∧ (-1) ≤ z.toInt ∧ z.toInt ≤ 60) ⟨rfl, (rg_61_2 hJ)⟩ (fun z_3 hz_3 => ?_)
  refine z_icmp_ge (tgt := 66) (u := z_2.toInt) (v := z_3.toInt) E dX9_agrees_9 (by decide) rfl rfl (fun h_4 => ?_) (fun h_4 => ?_)
  ·
    refine s_iconst (v := 1) E dX9_agrees_66 (by decide) ?_
    exact r_bool E dX9_agrees_67 (Or.inr rfl) ⟨⟨by decide, by decide, by first | (left; decide) | (right; decide) | (right; have hb_ := z32 (w.2.2.1 61 2); omega)⟩, rfl⟩
  ·
    refine s_aload_n E dX9_agrees_12 rfl rfl ?_
    refine s_gR (r := 81) E fg_X9_64 rfl rfl (jv_lt hJ (by decide)) (jv_r hJ (by decide +kernel)) dX9_agrees_13 ?_
    refine s_aload_n E dX9_agrees_16 rfl rfl ?_
    refine s_iload_n E dX9_agrees_17 rfl rfl ?_
    refine s_iconst (v := 1) E dX9_agrees_18 (by decide) ?_
    refine z_iadd (u := q2_2_0.toInt) (v := 1) E dX9_agrees_19 rfl (by decide) (by omega) (by omega) (fun z_5 hz_5 => ?_)
    refine s_vL (As := [AI z_5]) (S := [AR 81]) E (Z_X7_cell_61 l D aC b w z_5 hJ.1 ) cv_X9_285 rfl rfl rfl (jv_lt hJ (by decide)) (Nat.le_of_ble_eq_true rfl) (Nat.le_of_ble_eq_true rfl) ⟨(Nat.le_of_ble_eq_true rfl), (Nat.le_of_ble_eq_true rfl)⟩ (Nat.le_of_ble_eq_true rfl) dX9_agrees_20 (fun z_8 u_6 hp_7 => ?_)
    obtain ⟨hz_8, hp_7⟩ := hp_7
    subst hp_7
    refine s_l2i E dX9_agrees_23 ?_
    refine z_nm (P := fun z => (-2147483648) ≤ z.toInt ∧ z.toInt ≤ 2147483647) (z32 _) (fun z_10 hz_10 => ?_)
    refine s_vI (As := [AI z_10]) (S := []) E (Z_X5_behind_81 l D aC b w z_10 hJ.1 ) cv_X9_224 rfl rfl rfl (jv_lt hJ (by decide)) (Nat.le_of_ble_eq_true rfl) (Nat.le_of_ble_eq_true rfl) ⟨(Nat.le_of_ble_eq_true rfl), (Nat.le_of_ble_eq_true rfl)⟩ (Nat.le_of_ble_eq_true rfl) dX9_agrees_24 (fun z_13 u_11 hp_12 => ?_)
    obtain ⟨hz_13, hp_12⟩ := hp_12
    subst hp_12
    refine s_istore_n (L2 := [some (AR 0), some (AR 61), some (AI q2_2_0), some (AI z_13)]) E dX9_agrees_27 rfl (by decide) rfl ?_
    refine s_iload_n E dX9_agrees_28 rfl rfl ?_
    refine s_aload_n E dX9_agrees_29 rfl rfl ?_
    refine s_iload_n E dX9_agrees_30 rfl rfl ?_
    refine s_vL (As := [AI q2_2_0]) (S := [AI z_13]) E (Z_X7_cell_61 l D aC b w q2_2_0 hJ.1 ) cv_X9_285 rfl rfl rfl (jv_lt hJ (by decide)) (Nat.le_of_ble_eq_true rfl) (Nat.le_of_ble_eq_true rfl) ⟨(Nat.le_of_ble_eq_true rfl), (Nat.le_of_ble_eq_true rfl)⟩ (Nat.le_of_ble_eq_true rfl) dX9_agrees_31 (fun z_17 u_15 hp_16 => ?_)
    obtain ⟨hz_17, hp_16⟩ := hp_16
    subst hp_16
    refine s_l2i E dX9_agrees_34 ?_
    refine z_nm (P := fun z => (-2147483648) ≤ z.toInt ∧ z.toInt ≤ 2147483647) (z32 _) (fun z_19 hz_19 => ?_)
    refine s_sI (As := [AI z_13, AI z_19]) (S := []) E (Z_X9_hasBit l D aC b w z_13 z_19 hJ.1 ) cs_X9_175 rfl rfl (Nat.le_of_ble_eq_true rfl) (Nat.le_of_ble_eq_true rfl) ⟨(Nat.le_of_ble_eq_true rfl), (Nat.le_of_ble_eq_true rfl)⟩ (Nat.le_of_ble_eq_true rfl) dX9_agrees_35 (fun z_22 u_20 hp_21 => ?_)
    obtain ⟨hz_22, hp_21⟩ := hp_21
    subst hp_21
    refine s_aload_n E dX9_agrees_38 rfl rfl ?_
    refine s_iload_n E dX9_agrees_39 rfl rfl ?_
    refine s_iconst (v := 2) E dX9_agrees_40 (by decide) ?_
    refine z_iadd (u := q2_2_0.toInt) (v := 2) E dX9_agrees_41 rfl (by decide) (by omega) (by omega) (fun z_24 hz_24 => ?_)
    refine s_vL (As := [AI z_24]) (S := [AI z_22]) E (Z_X7_cell_61 l D aC b w z_24 hJ.1 ) cv_X9_285 rfl rfl rfl (jv_lt hJ (by decide)) (Nat.le_of_ble_eq_true rfl) (Nat.le_of_ble_eq_true rfl) ⟨(Nat.le_of_ble_eq_true rfl), (Nat.le_of_ble_eq_true rfl)⟩ (Nat.le_of_ble_eq_true rfl) dX9_agrees_42 (fun z_27 u_25 hp_26 => ?_)
    obtain ⟨hz_27, hp_26⟩ := hp_26
    subst hp_26
    refine s_lconst (v := 1) E dX9_agrees_45 (by decide) ?_
    refine z_lcmp (u := z_27.toInt) (v := 1) E dX9_agrees_46 rfl (by decide) (fun z_29 hz_29 => ?_)
    refine z_if_ne (tgt := 54) (u := z_29.toInt) E dX9_agrees_47 (by decide) rfl (fun h_30 => ?_) (fun h_30 => ?_)
    ·
      refine s_iconst (v := 0) E dX9_agrees_54 (by decide) ?_
      refine z_icmp_eq (tgt := 60) (u := z_22.toInt) (v := 0) E dX9_agrees_55 (by decide) rfl (by decide) (fun h_31 => ?_) (fun h_31 => ?_)
      ·
        refine z_iinc (u := q2_2_0.toInt) (L2 := fun z_32 => [some (AR 0), some (AR 61), some (AI z_32), some (AI z_13)]) E dX9_agrees_60 rfl rfl (by decide) (fun _ => rfl) (by decide) (by omega) (by omega) (fun z_32 hz_32 => ?_)
        refine s_goto (tgt := 2) E dX9_agrees_63 (by decide) ?_
        refine s_drop (i := 3) (L2 := [some (AR 0), some (AR 61), some (AI z_32), none]) rfl ?_
        exact ih2 z_32 w ⟨⟨by have hb_ := z32 z_32; omega, by have hb_ := z32 z_32; omega⟩, rfl⟩ (by first | omega | decide | (dsimp only; omega) | (dsimp only; decide))
      ·
        refine s_iconst (v := 0) E dX9_agrees_58 (by decide) ?_
        exact r_bool E dX9_agrees_59 (Or.inl rfl) ⟨⟨by decide, by decide, by first | (left; decide) | (right; decide) | (right; have hb_ := z32 (w.2.2.1 61 2); omega)⟩, rfl⟩
    ·
      refine s_iconst (v := 1) E dX9_agrees_50 (by decide) ?_
      refine s_goto (tgt := 55) E dX9_agrees_51 (by decide) ?_
      refine z_icmp_eq (tgt := 60) (u := z_22.toInt) (v := 1) E dX9_agrees_55 (by decide) rfl (by decide) (fun h_33 => ?_) (fun h_33 => ?_)
      ·
        refine z_iinc (u := q2_2_0.toInt) (L2 := fun z_34 => [some (AR 0), some (AR 61), some (AI z_34), some (AI z_13)]) E dX9_agrees_60 rfl rfl (by decide) (fun _ => rfl) (by decide) (by omega) (by omega) (fun z_34 hz_34 => ?_)
        refine s_goto (tgt := 2) E dX9_agrees_63 (by decide) ?_
        refine s_drop (i := 3) (L2 := [some (AR 0), some (AR 61), some (AI z_34), none]) rfl ?_
        exact ih2 z_34 w ⟨⟨by have hb_ := z32 z_34; omega, by have hb_ := z32 z_34; omega⟩, rfl⟩ (by first | omega | decide | (dsimp only; omega) | (dsimp only; decide))
      ·
        refine s_iconst (v := 0) E dX9_agrees_58 (by decide) ?_
        exact r_bool E dX9_agrees_59 (Or.inl rfl) ⟨⟨by decide, by decide, by first | (left; decide) | (right; decide) | (right; have hb_ := z32 (w.2.2.1 61 2); omega)⟩, rfl⟩
set_option maxRecDepth 20000 in
set_option maxHeartbeats 2000000 in
theorem Z_X9_possibleFirsts_0_r61 (l : Launch) (D : va_G) (aC : Nat → ClassId) (b : Nat) (w : XW)  (hI : Iv w)  : CnI l D aC b M_X9_possibleFirsts 5 113 0 0 [AR 0, AR 61] w (fun r u => ((-2147483648) ≤ r.toInt ∧ r.toInt ≤ 2147483647) ∧ Jv w u) := by
  refine cn_I (own := RX9) (nm := "possibleFirsts") (L0 := [some (AR 0), some (AR 61), none, none]) (by decide +kernel) rfl rfl (Nat.le_of_ble_eq_true rfl) rfl ?_
  intro p e s m args below meth c E hin
  have hJ : Jv w w := jv_rfl hI
  refine s_aload_n E dX9_possibleFirsts_0 rfl rfl ?_
  refine s_vV (As := []) (S := []) E (Z_X9_passAsTold_0 l D aC b w  hJ.1 ) cv_X9_227 rfl rfl rfl (jv_lt hJ (by decide)) (Nat.le_of_ble_eq_true rfl) (Nat.le_of_ble_eq_true rfl) ⟨(Nat.le_of_ble_eq_true rfl), (Nat.le_of_ble_eq_true rfl)⟩ (Nat.le_of_ble_eq_true rfl) dX9_possibleFirsts_1 (fun u_1 hp_2 => ?_)
  have hj_3 := jv_trans hJ hp_2
  refine s_iconst (v := 0) E dX9_possibleFirsts_4 (by decide) ?_
  refine s_istore_n (L2 := [some (AR 0), some (AR 61), some (AI 0), none]) E dX9_possibleFirsts_5 rfl (by decide) rfl ?_
  refine s_iconst (v := 0) E dX9_possibleFirsts_6 (by decide) ?_
  refine s_istore_n (L2 := [some (AR 0), some (AR 61), some (AI 0), some (AI 0)]) E dX9_possibleFirsts_7 rfl (by decide) rfl ?_
  refine z_loop (St := Int32 × Int32) (Pi := fun ⟨q8_2_3, q8_3_3⟩ v8 => (0 ≤ q8_3_3.toInt ∧ q8_3_3.toInt ≤ 6) ∧ Jv w v8) (Lf := fun ⟨q8_2_3, q8_3_3⟩ => [some (AR 0), some (AR 61), some (AI q8_2_3), some (AI q8_3_3)]) (fun ⟨q8_2_3, q8_3_3⟩ _ => (7 - q8_3_3.toInt).toNat) ⟨0, 0⟩ ⟨⟨by decide, by decide⟩, hj_3⟩ ?_
  rintro ⟨q8_2_3, q8_3_3⟩ v8 ⟨hq8_3, hj_4⟩ ih8
  have hbq8_2 := z32 q8_2_3
  refine s_loc (L2 := [some (AR 0), some (AR 61), some (AI q8_2_3), some (AI q8_3_3)]) rfl ?_
  refine s_iload_n E dX9_possibleFirsts_8 rfl rfl ?_
  refine s_aload_n E dX9_possibleFirsts_9 rfl rfl ?_
  refine s_gR (r := 2) E fg_X9_20 rfl rfl (jv_lt hj_4 (by decide)) (jv_r hj_4 (by decide +kernel)) dX9_possibleFirsts_10 ?_
  refine s_gR (r := 5) E fg_X9_133 rfl rfl (jv_lt hj_4 (by decide)) (jv_r hj_4 (by decide +kernel)) dX9_possibleFirsts_13 ?_
  refine s_gI E fg_X9_200 rfl rfl (jv_lt hj_4 (by decide)) dX9_possibleFirsts_16 ?_
  refine z_nm (P := fun z => z.toInt = (v8.2.2.1 5 3).toInt ∧ 0 ≤ z.toInt ∧ z.toInt ≤ 6) ⟨rfl, (rg_5_3 hj_4)⟩ (fun z_5 hz_5 => ?_)
  refine z_icmp_ge (tgt := 55) (u := q8_3_3.toInt) (v := z_5.toInt) E dX9_possibleFirsts_19 (by decide) rfl rfl (fun h_6 => ?_) (fun h_6 => ?_)
  ·
    refine s_iload_n E dX9_possibleFirsts_55 rfl rfl ?_
    exact r_int E dX9_possibleFirsts_56 ⟨⟨by have hb_ := z32 q8_2_3; omega, by have hb_ := z32 q8_2_3; omega⟩, hj_4⟩
  ·
    refine s_aload_n E dX9_possibleFirsts_22 rfl rfl ?_
    refine s_gR (r := 81) E fg_X9_64 rfl rfl (jv_lt hj_4 (by decide)) (jv_r hj_4 (by decide +kernel)) dX9_possibleFirsts_23 ?_
    refine s_aload_n E dX9_possibleFirsts_26 rfl rfl ?_
    refine s_gR (r := 69) E fg_X9_54 rfl rfl (jv_lt hj_4 (by decide)) (jv_r hj_4 (by decide +kernel)) dX9_possibleFirsts_27 ?_
    refine s_iload_n E dX9_possibleFirsts_30 rfl rfl ?_
    refine s_iconst (v := 0) E dX9_possibleFirsts_31 (by decide) ?_
    refine s_vV (As := [AR 69, AI q8_3_3, AI 0]) (S := []) E (Z_X5_follow_81_r69 l D aC b v8 q8_3_3 0 hj_4.1 ) cv_X9_220 rfl rfl rfl (jv_lt hj_4 (by decide)) (Nat.le_of_ble_eq_true rfl) (Nat.le_of_ble_eq_true rfl) ⟨(Nat.le_of_ble_eq_true rfl), (Nat.le_of_ble_eq_true rfl)⟩ (Nat.le_of_ble_eq_true rfl) dX9_possibleFirsts_32 (fun u_7 hp_8 => ?_)
    have hj_9 := jv_trans hj_4 hp_8
    refine s_aload_n E dX9_possibleFirsts_35 rfl rfl ?_
    refine s_aload_n E dX9_possibleFirsts_36 rfl rfl ?_
    refine s_vI (As := [AR 61]) (S := []) E (Z_X9_agrees_0_r61 l D aC b u_7  hj_9.1 ) cv_X9_292 rfl rfl rfl (jv_lt hj_9 (by decide)) (Nat.le_of_ble_eq_true rfl) (Nat.le_of_ble_eq_true rfl) ⟨(Nat.le_of_ble_eq_true rfl), (Nat.le_of_ble_eq_true rfl)⟩ (Nat.le_of_ble_eq_true rfl) dX9_possibleFirsts_37 (fun z_12 u_10 hp_11 => ?_)
    obtain ⟨hz_12, hp_11⟩ := hp_11
    subst hp_11
    refine z_if_eq (tgt := 49) (u := z_12.toInt) E dX9_possibleFirsts_40 (by decide) rfl (fun h_14 => ?_) (fun h_14 => ?_)
    ·
      refine z_iinc (u := q8_3_3.toInt) (L2 := fun z_15 => [some (AR 0), some (AR 61), some (AI q8_2_3), some (AI z_15)]) E dX9_possibleFirsts_49 rfl rfl (by decide) (fun _ => rfl) (by decide) (by omega) (by omega) (fun z_15 hz_15 => ?_)
      refine s_goto (tgt := 8) E dX9_possibleFirsts_52 (by decide) ?_
      exact ih8 ⟨q8_2_3, z_15⟩ u_7 ⟨⟨by have hb_ := z32 z_15; omega, by have hb_ := z32 z_15; omega⟩, hj_9⟩ (by first | omega | decide | (dsimp only; omega) | (dsimp only; decide))
    ·
      refine s_iload_n E dX9_possibleFirsts_43 rfl rfl ?_
      refine s_iconst (v := 1) E dX9_possibleFirsts_44 (by decide) ?_
      refine s_iload_n E dX9_possibleFirsts_45 rfl rfl ?_
      refine z_shl1 5 (u := q8_3_3.toInt) (B := 32) E dX9_possibleFirsts_46 rfl (by omega) (by omega) (by decide) (by decide) (fun z_16 hz_16 => ?_)
      refine s_ior E dX9_possibleFirsts_47 ?_
      refine z_nm (P := fun z => (-2147483648) ≤ z.toInt ∧ z.toInt ≤ 2147483647) (z32 _) (fun z_17 hz_17 => ?_)
      refine s_istore_n (L2 := [some (AR 0), some (AR 61), some (AI z_17), some (AI q8_3_3)]) E dX9_possibleFirsts_48 rfl (by decide) rfl ?_
      refine z_iinc (u := q8_3_3.toInt) (L2 := fun z_18 => [some (AR 0), some (AR 61), some (AI z_17), some (AI z_18)]) E dX9_possibleFirsts_49 rfl rfl (by decide) (fun _ => rfl) (by decide) (by omega) (by omega) (fun z_18 hz_18 => ?_)
      refine s_goto (tgt := 8) E dX9_possibleFirsts_52 (by decide) ?_
      exact ih8 ⟨z_17, z_18⟩ u_7 ⟨⟨by have hb_ := z32 z_18; omega, by have hb_ := z32 z_18; omega⟩, hj_9⟩ (by first | omega | decide | (dsimp only; omega) | (dsimp only; decide))
set_option maxRecDepth 20000 in
set_option maxHeartbeats 2000000 in
theorem Z_X9_agrees_0_r63 (l : Launch) (D : va_G) (aC : Nat → ClassId) (b : Nat) (w : XW)  (hI : Iv w)  : CnI l D aC b M_X9_agrees 1 21 0 0 [AR 0, AR 63] w (fun r u => (0 ≤ r.toInt ∧ r.toInt ≤ 1 ∧ (¬ r.toInt = 0 ∨ (3 ≤ (w.2.2.1 63 2).toInt ∧ (w.2.2.1 63 2).toInt ≤ 60))) ∧ w = u) := by
  refine cn_I (own := RX9) (nm := "agrees") (L0 := [some (AR 0), some (AR 63), none, none]) (by decide +kernel) rfl rfl (Nat.le_of_ble_eq_true rfl) rfl ?_
  intro p e s m args below meth c E hin
  have hJ : Jv w w := jv_rfl hI
  refine s_iconst (v := 0) E dX9_agrees_0 (by decide) ?_
  refine s_istore_n (L2 := [some (AR 0), some (AR 63), some (AI 0), none]) E dX9_agrees_1 rfl (by decide) rfl ?_
  refine z_loop (St := Int32) (Pi := fun q2_2_0 v2 => (0 ≤ q2_2_0.toInt ∧ q2_2_0.toInt ≤ 60) ∧ w = v2) (Lf := fun q2_2_0 => [some (AR 0), some (AR 63), some (AI q2_2_0), none]) (fun q2_2_0 _ => (61 - q2_2_0.toInt).toNat) 0 ⟨⟨by decide, by decide⟩, rfl⟩ ?_
  rintro q2_2_0 v2 ⟨hq2_2, hv_⟩ ih2
  subst hv_
  refine s_loc (L2 := [some (AR 0), some (AR 63), some (AI q2_2_0), none]) rfl ?_
  refine s_iload_n E dX9_agrees_2 rfl rfl ?_
  refine s_iconst (v := 2) E dX9_agrees_3 (by decide) ?_
  refine z_iadd (u := q2_2_0.toInt) (v := 2) E dX9_agrees_4 rfl (by decide) (by omega) (by omega) (fun z_2 hz_2 => ?_)
  refine s_aload_n E dX9_agrees_5 rfl rfl ?_
  refine s_gI E fg_X9_282 rfl rfl (jv_lt hJ (by decide)) dX9_agrees_6 ?_
  refine z_nm (P := fun z => z.toInt = (w.2.2.1 63 2).toInt ∧ (-1) ≤ z.toInt ∧ z.toInt ≤ 60) ⟨rfl, (rg_63_2 hJ)⟩ (fun z_3 hz_3 => ?_)
  refine z_icmp_ge (tgt := 66) (u := z_2.toInt) (v := z_3.toInt) E dX9_agrees_9 (by decide) rfl rfl (fun h_4 => ?_) (fun h_4 => ?_)
  ·
    refine s_iconst (v := 1) E dX9_agrees_66 (by decide) ?_
    exact r_bool E dX9_agrees_67 (Or.inr rfl) ⟨⟨by decide, by decide, by first | (left; decide) | (right; decide) | (right; have hb_ := z32 (w.2.2.1 63 2); omega)⟩, rfl⟩
  ·
    refine s_aload_n E dX9_agrees_12 rfl rfl ?_
    refine s_gR (r := 81) E fg_X9_64 rfl rfl (jv_lt hJ (by decide)) (jv_r hJ (by decide +kernel)) dX9_agrees_13 ?_
    refine s_aload_n E dX9_agrees_16 rfl rfl ?_
    refine s_iload_n E dX9_agrees_17 rfl rfl ?_
    refine s_iconst (v := 1) E dX9_agrees_18 (by decide) ?_
    refine z_iadd (u := q2_2_0.toInt) (v := 1) E dX9_agrees_19 rfl (by decide) (by omega) (by omega) (fun z_5 hz_5 => ?_)
    refine s_vL (As := [AI z_5]) (S := [AR 81]) E (Z_X7_cell_63 l D aC b w z_5 hJ.1 ) cv_X9_285 rfl rfl rfl (jv_lt hJ (by decide)) (Nat.le_of_ble_eq_true rfl) (Nat.le_of_ble_eq_true rfl) ⟨(Nat.le_of_ble_eq_true rfl), (Nat.le_of_ble_eq_true rfl)⟩ (Nat.le_of_ble_eq_true rfl) dX9_agrees_20 (fun z_8 u_6 hp_7 => ?_)
    obtain ⟨hz_8, hp_7⟩ := hp_7
    subst hp_7
    refine s_l2i E dX9_agrees_23 ?_
    refine z_nm (P := fun z => (-2147483648) ≤ z.toInt ∧ z.toInt ≤ 2147483647) (z32 _) (fun z_10 hz_10 => ?_)
    refine s_vI (As := [AI z_10]) (S := []) E (Z_X5_behind_81 l D aC b w z_10 hJ.1 ) cv_X9_224 rfl rfl rfl (jv_lt hJ (by decide)) (Nat.le_of_ble_eq_true rfl) (Nat.le_of_ble_eq_true rfl) ⟨(Nat.le_of_ble_eq_true rfl), (Nat.le_of_ble_eq_true rfl)⟩ (Nat.le_of_ble_eq_true rfl) dX9_agrees_24 (fun z_13 u_11 hp_12 => ?_)
    obtain ⟨hz_13, hp_12⟩ := hp_12
    subst hp_12
    refine s_istore_n (L2 := [some (AR 0), some (AR 63), some (AI q2_2_0), some (AI z_13)]) E dX9_agrees_27 rfl (by decide) rfl ?_
    refine s_iload_n E dX9_agrees_28 rfl rfl ?_
    refine s_aload_n E dX9_agrees_29 rfl rfl ?_
    refine s_iload_n E dX9_agrees_30 rfl rfl ?_
    refine s_vL (As := [AI q2_2_0]) (S := [AI z_13]) E (Z_X7_cell_63 l D aC b w q2_2_0 hJ.1 ) cv_X9_285 rfl rfl rfl (jv_lt hJ (by decide)) (Nat.le_of_ble_eq_true rfl) (Nat.le_of_ble_eq_true rfl) ⟨(Nat.le_of_ble_eq_true rfl), (Nat.le_of_ble_eq_true rfl)⟩ (Nat.le_of_ble_eq_true rfl) dX9_agrees_31 (fun z_17 u_15 hp_16 => ?_)
    obtain ⟨hz_17, hp_16⟩ := hp_16
    subst hp_16
    refine s_l2i E dX9_agrees_34 ?_
    refine z_nm (P := fun z => (-2147483648) ≤ z.toInt ∧ z.toInt ≤ 2147483647) (z32 _) (fun z_19 hz_19 => ?_)
    refine s_sI (As := [AI z_13, AI z_19]) (S := []) E (Z_X9_hasBit l D aC b w z_13 z_19 hJ.1 ) cs_X9_175 rfl rfl (Nat.le_of_ble_eq_true rfl) (Nat.le_of_ble_eq_true rfl) ⟨(Nat.le_of_ble_eq_true rfl), (Nat.le_of_ble_eq_true rfl)⟩ (Nat.le_of_ble_eq_true rfl) dX9_agrees_35 (fun z_22 u_20 hp_21 => ?_)
    obtain ⟨hz_22, hp_21⟩ := hp_21
    subst hp_21
    refine s_aload_n E dX9_agrees_38 rfl rfl ?_
    refine s_iload_n E dX9_agrees_39 rfl rfl ?_
    refine s_iconst (v := 2) E dX9_agrees_40 (by decide) ?_
    refine z_iadd (u := q2_2_0.toInt) (v := 2) E dX9_agrees_41 rfl (by decide) (by omega) (by omega) (fun z_24 hz_24 => ?_)
    refine s_vL (As := [AI z_24]) (S := [AI z_22]) E (Z_X7_cell_63 l D aC b w z_24 hJ.1 ) cv_X9_285 rfl rfl rfl (jv_lt hJ (by decide)) (Nat.le_of_ble_eq_true rfl) (Nat.le_of_ble_eq_true rfl) ⟨(Nat.le_of_ble_eq_true rfl), (Nat.le_of_ble_eq_true rfl)⟩ (Nat.le_of_ble_eq_true rfl) dX9_agrees_42 (fun z_27 u_25 hp_26 => ?_)
    obtain ⟨hz_27, hp_26⟩ := hp_26
    subst hp_26
    refine s_lconst (v := 1) E dX9_agrees_45 (by decide) ?_
    refine z_lcmp (u := z_27.toInt) (v := 1) E dX9_agrees_46 rfl (by decide) (fun z_29 hz_29 => ?_)
    refine z_if_ne (tgt := 54) (u := z_29.toInt) E dX9_agrees_47 (by decide) rfl (fun h_30 => ?_) (fun h_30 => ?_)
    ·
      refine s_iconst (v := 0) E dX9_agrees_54 (by decide) ?_
      refine z_icmp_eq (tgt := 60) (u := z_22.toInt) (v := 0) E dX9_agrees_55 (by decide) rfl (by decide) (fun h_31 => ?_) (fun h_31 => ?_)
      ·
        refine z_iinc (u := q2_2_0.toInt) (L2 := fun z_32 => [some (AR 0), some (AR 63), some (AI z_32), some (AI z_13)]) E dX9_agrees_60 rfl rfl (by decide) (fun _ => rfl) (by decide) (by omega) (by omega) (fun z_32 hz_32 => ?_)
        refine s_goto (tgt := 2) E dX9_agrees_63 (by decide) ?_
        refine s_drop (i := 3) (L2 := [some (AR 0), some (AR 63), some (AI z_32), none]) rfl ?_
        exact ih2 z_32 w ⟨⟨by have hb_ := z32 z_32; omega, by have hb_ := z32 z_32; omega⟩, rfl⟩ (by first | omega | decide | (dsimp only; omega) | (dsimp only; decide))
      ·
        refine s_iconst (v := 0) E dX9_agrees_58 (by decide) ?_
        exact r_bool E dX9_agrees_59 (Or.inl rfl) ⟨⟨by decide, by decide, by first | (left; decide) | (right; decide) | (right; have hb_ := z32 (w.2.2.1 63 2); omega)⟩, rfl⟩
    ·
      refine s_iconst (v := 1) E dX9_agrees_50 (by decide) ?_
      refine s_goto (tgt := 55) E dX9_agrees_51 (by decide) ?_
      refine z_icmp_eq (tgt := 60) (u := z_22.toInt) (v := 1) E dX9_agrees_55 (by decide) rfl (by decide) (fun h_33 => ?_) (fun h_33 => ?_)
      ·
        refine z_iinc (u := q2_2_0.toInt) (L2 := fun z_34 => [some (AR 0), some (AR 63), some (AI z_34), some (AI z_13)]) E dX9_agrees_60 rfl rfl (by decide) (fun _ => rfl) (by decide) (by omega) (by omega) (fun z_34 hz_34 => ?_)
        refine s_goto (tgt := 2) E dX9_agrees_63 (by decide) ?_
        refine s_drop (i := 3) (L2 := [some (AR 0), some (AR 63), some (AI z_34), none]) rfl ?_
        exact ih2 z_34 w ⟨⟨by have hb_ := z32 z_34; omega, by have hb_ := z32 z_34; omega⟩, rfl⟩ (by first | omega | decide | (dsimp only; omega) | (dsimp only; decide))
      ·
        refine s_iconst (v := 0) E dX9_agrees_58 (by decide) ?_
        exact r_bool E dX9_agrees_59 (Or.inl rfl) ⟨⟨by decide, by decide, by first | (left; decide) | (right; decide) | (right; have hb_ := z32 (w.2.2.1 63 2); omega)⟩, rfl⟩
set_option maxRecDepth 20000 in
set_option maxHeartbeats 2000000 in
theorem Z_X9_possibleFirsts_0_r63 (l : Launch) (D : va_G) (aC : Nat → ClassId) (b : Nat) (w : XW)  (hI : Iv w)  : CnI l D aC b M_X9_possibleFirsts 5 113 0 0 [AR 0, AR 63] w (fun r u => ((-2147483648) ≤ r.toInt ∧ r.toInt ≤ 2147483647) ∧ Jv w u) := by
  refine cn_I (own := RX9) (nm := "possibleFirsts") (L0 := [some (AR 0), some (AR 63), none, none]) (by decide +kernel) rfl rfl (Nat.le_of_ble_eq_true rfl) rfl ?_
  intro p e s m args below meth c E hin
  have hJ : Jv w w := jv_rfl hI
  refine s_aload_n E dX9_possibleFirsts_0 rfl rfl ?_
  refine s_vV (As := []) (S := []) E (Z_X9_passAsTold_0 l D aC b w  hJ.1 ) cv_X9_227 rfl rfl rfl (jv_lt hJ (by decide)) (Nat.le_of_ble_eq_true rfl) (Nat.le_of_ble_eq_true rfl) ⟨(Nat.le_of_ble_eq_true rfl), (Nat.le_of_ble_eq_true rfl)⟩ (Nat.le_of_ble_eq_true rfl) dX9_possibleFirsts_1 (fun u_1 hp_2 => ?_)
  have hj_3 := jv_trans hJ hp_2
  refine s_iconst (v := 0) E dX9_possibleFirsts_4 (by decide) ?_
  refine s_istore_n (L2 := [some (AR 0), some (AR 63), some (AI 0), none]) E dX9_possibleFirsts_5 rfl (by decide) rfl ?_
  refine s_iconst (v := 0) E dX9_possibleFirsts_6 (by decide) ?_
  refine s_istore_n (L2 := [some (AR 0), some (AR 63), some (AI 0), some (AI 0)]) E dX9_possibleFirsts_7 rfl (by decide) rfl ?_
  refine z_loop (St := Int32 × Int32) (Pi := fun ⟨q8_2_3, q8_3_3⟩ v8 => (0 ≤ q8_3_3.toInt ∧ q8_3_3.toInt ≤ 6) ∧ Jv w v8) (Lf := fun ⟨q8_2_3, q8_3_3⟩ => [some (AR 0), some (AR 63), some (AI q8_2_3), some (AI q8_3_3)]) (fun ⟨q8_2_3, q8_3_3⟩ _ => (7 - q8_3_3.toInt).toNat) ⟨0, 0⟩ ⟨⟨by decide, by decide⟩, hj_3⟩ ?_
  rintro ⟨q8_2_3, q8_3_3⟩ v8 ⟨hq8_3, hj_4⟩ ih8
  have hbq8_2 := z32 q8_2_3
  refine s_loc (L2 := [some (AR 0), some (AR 63), some (AI q8_2_3), some (AI q8_3_3)]) rfl ?_
  refine s_iload_n E dX9_possibleFirsts_8 rfl rfl ?_
  refine s_aload_n E dX9_possibleFirsts_9 rfl rfl ?_
  refine s_gR (r := 2) E fg_X9_20 rfl rfl (jv_lt hj_4 (by decide)) (jv_r hj_4 (by decide +kernel)) dX9_possibleFirsts_10 ?_
  refine s_gR (r := 5) E fg_X9_133 rfl rfl (jv_lt hj_4 (by decide)) (jv_r hj_4 (by decide +kernel)) dX9_possibleFirsts_13 ?_
  refine s_gI E fg_X9_200 rfl rfl (jv_lt hj_4 (by decide)) dX9_possibleFirsts_16 ?_
  refine z_nm (P := fun z => z.toInt = (v8.2.2.1 5 3).toInt ∧ 0 ≤ z.toInt ∧ z.toInt ≤ 6) ⟨rfl, (rg_5_3 hj_4)⟩ (fun z_5 hz_5 => ?_)
  refine z_icmp_ge (tgt := 55) (u := q8_3_3.toInt) (v := z_5.toInt) E dX9_possibleFirsts_19 (by decide) rfl rfl (fun h_6 => ?_) (fun h_6 => ?_)
  ·
    refine s_iload_n E dX9_possibleFirsts_55 rfl rfl ?_
    exact r_int E dX9_possibleFirsts_56 ⟨⟨by have hb_ := z32 q8_2_3; omega, by have hb_ := z32 q8_2_3; omega⟩, hj_4⟩
  ·
    refine s_aload_n E dX9_possibleFirsts_22 rfl rfl ?_
    refine s_gR (r := 81) E fg_X9_64 rfl rfl (jv_lt hj_4 (by decide)) (jv_r hj_4 (by decide +kernel)) dX9_possibleFirsts_23 ?_
    refine s_aload_n E dX9_possibleFirsts_26 rfl rfl ?_
    refine s_gR (r := 69) E fg_X9_54 rfl rfl (jv_lt hj_4 (by decide)) (jv_r hj_4 (by decide +kernel)) dX9_possibleFirsts_27 ?_
    refine s_iload_n E dX9_possibleFirsts_30 rfl rfl ?_
    refine s_iconst (v := 0) E dX9_possibleFirsts_31 (by decide) ?_
    refine s_vV (As := [AR 69, AI q8_3_3, AI 0]) (S := []) E (Z_X5_follow_81_r69 l D aC b v8 q8_3_3 0 hj_4.1 ) cv_X9_220 rfl rfl rfl (jv_lt hj_4 (by decide)) (Nat.le_of_ble_eq_true rfl) (Nat.le_of_ble_eq_true rfl) ⟨(Nat.le_of_ble_eq_true rfl), (Nat.le_of_ble_eq_true rfl)⟩ (Nat.le_of_ble_eq_true rfl) dX9_possibleFirsts_32 (fun u_7 hp_8 => ?_)
    have hj_9 := jv_trans hj_4 hp_8
    refine s_aload_n E dX9_possibleFirsts_35 rfl rfl ?_
    refine s_aload_n E dX9_possibleFirsts_36 rfl rfl ?_
    refine s_vI (As := [AR 63]) (S := []) E (Z_X9_agrees_0_r63 l D aC b u_7  hj_9.1 ) cv_X9_292 rfl rfl rfl (jv_lt hj_9 (by decide)) (Nat.le_of_ble_eq_true rfl) (Nat.le_of_ble_eq_true rfl) ⟨(Nat.le_of_ble_eq_true rfl), (Nat.le_of_ble_eq_true rfl)⟩ (Nat.le_of_ble_eq_true rfl) dX9_possibleFirsts_37 (fun z_12 u_10 hp_11 => ?_)
    obtain ⟨hz_12, hp_11⟩ := hp_11
    subst hp_11
    refine z_if_eq (tgt := 49) (u := z_12.toInt) E dX9_possibleFirsts_40 (by decide) rfl (fun h_14 => ?_) (fun h_14 => ?_)
    ·
      refine z_iinc (u := q8_3_3.toInt) (L2 := fun z_15 => [some (AR 0), some (AR 63), some (AI q8_2_3), some (AI z_15)]) E dX9_possibleFirsts_49 rfl rfl (by decide) (fun _ => rfl) (by decide) (by omega) (by omega) (fun z_15 hz_15 => ?_)
      refine s_goto (tgt := 8) E dX9_possibleFirsts_52 (by decide) ?_
      exact ih8 ⟨q8_2_3, z_15⟩ u_7 ⟨⟨by have hb_ := z32 z_15; omega, by have hb_ := z32 z_15; omega⟩, hj_9⟩ (by first | omega | decide | (dsimp only; omega) | (dsimp only; decide))
    ·
      refine s_iload_n E dX9_possibleFirsts_43 rfl rfl ?_
      refine s_iconst (v := 1) E dX9_possibleFirsts_44 (by decide) ?_
      refine s_iload_n E dX9_possibleFirsts_45 rfl rfl ?_
      refine z_shl1 5 (u := q8_3_3.toInt) (B := 32) E dX9_possibleFirsts_46 rfl (by omega) (by omega) (by decide) (by decide) (fun z_16 hz_16 => ?_)
      refine s_ior E dX9_possibleFirsts_47 ?_
      refine z_nm (P := fun z => (-2147483648) ≤ z.toInt ∧ z.toInt ≤ 2147483647) (z32 _) (fun z_17 hz_17 => ?_)
      refine s_istore_n (L2 := [some (AR 0), some (AR 63), some (AI z_17), some (AI q8_3_3)]) E dX9_possibleFirsts_48 rfl (by decide) rfl ?_
      refine z_iinc (u := q8_3_3.toInt) (L2 := fun z_18 => [some (AR 0), some (AR 63), some (AI z_17), some (AI z_18)]) E dX9_possibleFirsts_49 rfl rfl (by decide) (fun _ => rfl) (by decide) (by omega) (by omega) (fun z_18 hz_18 => ?_)
      refine s_goto (tgt := 8) E dX9_possibleFirsts_52 (by decide) ?_
      exact ih8 ⟨z_17, z_18⟩ u_7 ⟨⟨by have hb_ := z32 z_18; omega, by have hb_ := z32 z_18; omega⟩, hj_9⟩ (by first | omega | decide | (dsimp only; omega) | (dsimp only; decide))
set_option maxRecDepth 20000 in
set_option maxHeartbeats 2000000 in
theorem Z_X9_agrees_0_r65 (l : Launch) (D : va_G) (aC : Nat → ClassId) (b : Nat) (w : XW)  (hI : Iv w)  : CnI l D aC b M_X9_agrees 1 21 0 0 [AR 0, AR 65] w (fun r u => (0 ≤ r.toInt ∧ r.toInt ≤ 1 ∧ (¬ r.toInt = 0 ∨ (3 ≤ (w.2.2.1 65 2).toInt ∧ (w.2.2.1 65 2).toInt ≤ 60))) ∧ w = u) := by
  refine cn_I (own := RX9) (nm := "agrees") (L0 := [some (AR 0), some (AR 65), none, none]) (by decide +kernel) rfl rfl (Nat.le_of_ble_eq_true rfl) rfl ?_
  intro p e s m args below meth c E hin
  have hJ : Jv w w := jv_rfl hI
  refine s_iconst (v := 0) E dX9_agrees_0 (by decide) ?_
  refine s_istore_n (L2 := [some (AR 0), some (AR 65), some (AI 0), none]) E dX9_agrees_1 rfl (by decide) rfl ?_
  refine z_loop (St := Int32) (Pi := fun q2_2_0 v2 => (0 ≤ q2_2_0.toInt ∧ q2_2_0.toInt ≤ 60) ∧ w = v2) (Lf := fun q2_2_0 => [some (AR 0), some (AR 65), some (AI q2_2_0), none]) (fun q2_2_0 _ => (61 - q2_2_0.toInt).toNat) 0 ⟨⟨by decide, by decide⟩, rfl⟩ ?_
  rintro q2_2_0 v2 ⟨hq2_2, hv_⟩ ih2
  subst hv_
  refine s_loc (L2 := [some (AR 0), some (AR 65), some (AI q2_2_0), none]) rfl ?_
  refine s_iload_n E dX9_agrees_2 rfl rfl ?_
  refine s_iconst (v := 2) E dX9_agrees_3 (by decide) ?_
  refine z_iadd (u := q2_2_0.toInt) (v := 2) E dX9_agrees_4 rfl (by decide) (by omega) (by omega) (fun z_2 hz_2 => ?_)
  refine s_aload_n E dX9_agrees_5 rfl rfl ?_
  refine s_gI E fg_X9_282 rfl rfl (jv_lt hJ (by decide)) dX9_agrees_6 ?_
  refine z_nm (P := fun z => z.toInt = (w.2.2.1 65 2).toInt ∧ (-1) ≤ z.toInt ∧ z.toInt ≤ 60) ⟨rfl, (rg_65_2 hJ)⟩ (fun z_3 hz_3 => ?_)
  refine z_icmp_ge (tgt := 66) (u := z_2.toInt) (v := z_3.toInt) E dX9_agrees_9 (by decide) rfl rfl (fun h_4 => ?_) (fun h_4 => ?_)
  ·
    refine s_iconst (v := 1) E dX9_agrees_66 (by decide) ?_
    exact r_bool E dX9_agrees_67 (Or.inr rfl) ⟨⟨by decide, by decide, by first | (left; decide) | (right; decide) | (right; have hb_ := z32 (w.2.2.1 65 2); omega)⟩, rfl⟩
  ·
    refine s_aload_n E dX9_agrees_12 rfl rfl ?_
    refine s_gR (r := 81) E fg_X9_64 rfl rfl (jv_lt hJ (by decide)) (jv_r hJ (by decide +kernel)) dX9_agrees_13 ?_
    refine s_aload_n E dX9_agrees_16 rfl rfl ?_
    refine s_iload_n E dX9_agrees_17 rfl rfl ?_
    refine s_iconst (v := 1) E dX9_agrees_18 (by decide) ?_
    refine z_iadd (u := q2_2_0.toInt) (v := 1) E dX9_agrees_19 rfl (by decide) (by omega) (by omega) (fun z_5 hz_5 => ?_)
    refine s_vL (As := [AI z_5]) (S := [AR 81]) E (Z_X7_cell_65 l D aC b w z_5 hJ.1 ) cv_X9_285 rfl rfl rfl (jv_lt hJ (by decide)) (Nat.le_of_ble_eq_true rfl) (Nat.le_of_ble_eq_true rfl) ⟨(Nat.le_of_ble_eq_true rfl), (Nat.le_of_ble_eq_true rfl)⟩ (Nat.le_of_ble_eq_true rfl) dX9_agrees_20 (fun z_8 u_6 hp_7 => ?_)
    obtain ⟨hz_8, hp_7⟩ := hp_7
    subst hp_7
    refine s_l2i E dX9_agrees_23 ?_
    refine z_nm (P := fun z => (-2147483648) ≤ z.toInt ∧ z.toInt ≤ 2147483647) (z32 _) (fun z_10 hz_10 => ?_)
    refine s_vI (As := [AI z_10]) (S := []) E (Z_X5_behind_81 l D aC b w z_10 hJ.1 ) cv_X9_224 rfl rfl rfl (jv_lt hJ (by decide)) (Nat.le_of_ble_eq_true rfl) (Nat.le_of_ble_eq_true rfl) ⟨(Nat.le_of_ble_eq_true rfl), (Nat.le_of_ble_eq_true rfl)⟩ (Nat.le_of_ble_eq_true rfl) dX9_agrees_24 (fun z_13 u_11 hp_12 => ?_)
    obtain ⟨hz_13, hp_12⟩ := hp_12
    subst hp_12
    refine s_istore_n (L2 := [some (AR 0), some (AR 65), some (AI q2_2_0), some (AI z_13)]) E dX9_agrees_27 rfl (by decide) rfl ?_
    refine s_iload_n E dX9_agrees_28 rfl rfl ?_
    refine s_aload_n E dX9_agrees_29 rfl rfl ?_
    refine s_iload_n E dX9_agrees_30 rfl rfl ?_
    refine s_vL (As := [AI q2_2_0]) (S := [AI z_13]) E (Z_X7_cell_65 l D aC b w q2_2_0 hJ.1 ) cv_X9_285 rfl rfl rfl (jv_lt hJ (by decide)) (Nat.le_of_ble_eq_true rfl) (Nat.le_of_ble_eq_true rfl) ⟨(Nat.le_of_ble_eq_true rfl), (Nat.le_of_ble_eq_true rfl)⟩ (Nat.le_of_ble_eq_true rfl) dX9_agrees_31 (fun z_17 u_15 hp_16 => ?_)
    obtain ⟨hz_17, hp_16⟩ := hp_16
    subst hp_16
    refine s_l2i E dX9_agrees_34 ?_
    refine z_nm (P := fun z => (-2147483648) ≤ z.toInt ∧ z.toInt ≤ 2147483647) (z32 _) (fun z_19 hz_19 => ?_)
    refine s_sI (As := [AI z_13, AI z_19]) (S := []) E (Z_X9_hasBit l D aC b w z_13 z_19 hJ.1 ) cs_X9_175 rfl rfl (Nat.le_of_ble_eq_true rfl) (Nat.le_of_ble_eq_true rfl) ⟨(Nat.le_of_ble_eq_true rfl), (Nat.le_of_ble_eq_true rfl)⟩ (Nat.le_of_ble_eq_true rfl) dX9_agrees_35 (fun z_22 u_20 hp_21 => ?_)
    obtain ⟨hz_22, hp_21⟩ := hp_21
    subst hp_21
    refine s_aload_n E dX9_agrees_38 rfl rfl ?_
    refine s_iload_n E dX9_agrees_39 rfl rfl ?_
    refine s_iconst (v := 2) E dX9_agrees_40 (by decide) ?_
    refine z_iadd (u := q2_2_0.toInt) (v := 2) E dX9_agrees_41 rfl (by decide) (by omega) (by omega) (fun z_24 hz_24 => ?_)
    refine s_vL (As := [AI z_24]) (S := [AI z_22]) E (Z_X7_cell_65 l D aC b w z_24 hJ.1 ) cv_X9_285 rfl rfl rfl (jv_lt hJ (by decide)) (Nat.le_of_ble_eq_true rfl) (Nat.le_of_ble_eq_true rfl) ⟨(Nat.le_of_ble_eq_true rfl), (Nat.le_of_ble_eq_true rfl)⟩ (Nat.le_of_ble_eq_true rfl) dX9_agrees_42 (fun z_27 u_25 hp_26 => ?_)
    obtain ⟨hz_27, hp_26⟩ := hp_26
    subst hp_26
    refine s_lconst (v := 1) E dX9_agrees_45 (by decide) ?_
    refine z_lcmp (u := z_27.toInt) (v := 1) E dX9_agrees_46 rfl (by decide) (fun z_29 hz_29 => ?_)
    refine z_if_ne (tgt := 54) (u := z_29.toInt) E dX9_agrees_47 (by decide) rfl (fun h_30 => ?_) (fun h_30 => ?_)
    ·
      refine s_iconst (v := 0) E dX9_agrees_54 (by decide) ?_
      refine z_icmp_eq (tgt := 60) (u := z_22.toInt) (v := 0) E dX9_agrees_55 (by decide) rfl (by decide) (fun h_31 => ?_) (fun h_31 => ?_)
      ·
        refine z_iinc (u := q2_2_0.toInt) (L2 := fun z_32 => [some (AR 0), some (AR 65), some (AI z_32), some (AI z_13)]) E dX9_agrees_60 rfl rfl (by decide) (fun _ => rfl) (by decide) (by omega) (by omega) (fun z_32 hz_32 => ?_)
        refine s_goto (tgt := 2) E dX9_agrees_63 (by decide) ?_
        refine s_drop (i := 3) (L2 := [some (AR 0), some (AR 65), some (AI z_32), none]) rfl ?_
        exact ih2 z_32 w ⟨⟨by have hb_ := z32 z_32; omega, by have hb_ := z32 z_32; omega⟩, rfl⟩ (by first | omega | decide | (dsimp only; omega) | (dsimp only; decide))
      ·
        refine s_iconst (v := 0) E dX9_agrees_58 (by decide) ?_
        exact r_bool E dX9_agrees_59 (Or.inl rfl) ⟨⟨by decide, by decide, by first | (left; decide) | (right; decide) | (right; have hb_ := z32 (w.2.2.1 65 2); omega)⟩, rfl⟩
    ·
      refine s_iconst (v := 1) E dX9_agrees_50 (by decide) ?_
      refine s_goto (tgt := 55) E dX9_agrees_51 (by decide) ?_
      refine z_icmp_eq (tgt := 60) (u := z_22.toInt) (v := 1) E dX9_agrees_55 (by decide) rfl (by decide) (fun h_33 => ?_) (fun h_33 => ?_)
      ·
        refine z_iinc (u := q2_2_0.toInt) (L2 := fun z_34 => [some (AR 0), some (AR 65), some (AI z_34), some (AI z_13)]) E dX9_agrees_60 rfl rfl (by decide) (fun _ => rfl) (by decide) (by omega) (by omega) (fun z_34 hz_34 => ?_)
        refine s_goto (tgt := 2) E dX9_agrees_63 (by decide) ?_
        refine s_drop (i := 3) (L2 := [some (AR 0), some (AR 65), some (AI z_34), none]) rfl ?_
        exact ih2 z_34 w ⟨⟨by have hb_ := z32 z_34; omega, by have hb_ := z32 z_34; omega⟩, rfl⟩ (by first | omega | decide | (dsimp only; omega) | (dsimp only; decide))
      ·
        refine s_iconst (v := 0) E dX9_agrees_58 (by decide) ?_
        exact r_bool E dX9_agrees_59 (Or.inl rfl) ⟨⟨by decide, by decide, by first | (left; decide) | (right; decide) | (right; have hb_ := z32 (w.2.2.1 65 2); omega)⟩, rfl⟩
set_option maxRecDepth 20000 in
set_option maxHeartbeats 2000000 in
theorem Z_X9_possibleFirsts_0_r65 (l : Launch) (D : va_G) (aC : Nat → ClassId) (b : Nat) (w : XW)  (hI : Iv w)  : CnI l D aC b M_X9_possibleFirsts 5 113 0 0 [AR 0, AR 65] w (fun r u => ((-2147483648) ≤ r.toInt ∧ r.toInt ≤ 2147483647) ∧ Jv w u) := by
  refine cn_I (own := RX9) (nm := "possibleFirsts") (L0 := [some (AR 0), some (AR 65), none, none]) (by decide +kernel) rfl rfl (Nat.le_of_ble_eq_true rfl) rfl ?_
  intro p e s m args below meth c E hin
  have hJ : Jv w w := jv_rfl hI
  refine s_aload_n E dX9_possibleFirsts_0 rfl rfl ?_
  refine s_vV (As := []) (S := []) E (Z_X9_passAsTold_0 l D aC b w  hJ.1 ) cv_X9_227 rfl rfl rfl (jv_lt hJ (by decide)) (Nat.le_of_ble_eq_true rfl) (Nat.le_of_ble_eq_true rfl) ⟨(Nat.le_of_ble_eq_true rfl), (Nat.le_of_ble_eq_true rfl)⟩ (Nat.le_of_ble_eq_true rfl) dX9_possibleFirsts_1 (fun u_1 hp_2 => ?_)
  have hj_3 := jv_trans hJ hp_2
  refine s_iconst (v := 0) E dX9_possibleFirsts_4 (by decide) ?_
  refine s_istore_n (L2 := [some (AR 0), some (AR 65), some (AI 0), none]) E dX9_possibleFirsts_5 rfl (by decide) rfl ?_
  refine s_iconst (v := 0) E dX9_possibleFirsts_6 (by decide) ?_
  refine s_istore_n (L2 := [some (AR 0), some (AR 65), some (AI 0), some (AI 0)]) E dX9_possibleFirsts_7 rfl (by decide) rfl ?_
  refine z_loop (St := Int32 × Int32) (Pi := fun ⟨q8_2_3, q8_3_3⟩ v8 => (0 ≤ q8_3_3.toInt ∧ q8_3_3.toInt ≤ 6) ∧ Jv w v8) (Lf := fun ⟨q8_2_3, q8_3_3⟩ => [some (AR 0), some (AR 65), some (AI q8_2_3), some (AI q8_3_3)]) (fun ⟨q8_2_3, q8_3_3⟩ _ => (7 - q8_3_3.toInt).toNat) ⟨0, 0⟩ ⟨⟨by decide, by decide⟩, hj_3⟩ ?_
  rintro ⟨q8_2_3, q8_3_3⟩ v8 ⟨hq8_3, hj_4⟩ ih8
  have hbq8_2 := z32 q8_2_3
  refine s_loc (L2 := [some (AR 0), some (AR 65), some (AI q8_2_3), some (AI q8_3_3)]) rfl ?_
  refine s_iload_n E dX9_possibleFirsts_8 rfl rfl ?_
  refine s_aload_n E dX9_possibleFirsts_9 rfl rfl ?_
  refine s_gR (r := 2) E fg_X9_20 rfl rfl (jv_lt hj_4 (by decide)) (jv_r hj_4 (by decide +kernel)) dX9_possibleFirsts_10 ?_
  refine s_gR (r := 5) E fg_X9_133 rfl rfl (jv_lt hj_4 (by decide)) (jv_r hj_4 (by decide +kernel)) dX9_possibleFirsts_13 ?_
  refine s_gI E fg_X9_200 rfl rfl (jv_lt hj_4 (by decide)) dX9_possibleFirsts_16 ?_
  refine z_nm (P := fun z => z.toInt = (v8.2.2.1 5 3).toInt ∧ 0 ≤ z.toInt ∧ z.toInt ≤ 6) ⟨rfl, (rg_5_3 hj_4)⟩ (fun z_5 hz_5 => ?_)
  refine z_icmp_ge (tgt := 55) (u := q8_3_3.toInt) (v := z_5.toInt) E dX9_possibleFirsts_19 (by decide) rfl rfl (fun h_6 => ?_) (fun h_6 => ?_)
  ·
    refine s_iload_n E dX9_possibleFirsts_55 rfl rfl ?_
    exact r_int E dX9_possibleFirsts_56 ⟨⟨by have hb_ := z32 q8_2_3; omega, by have hb_ := z32 q8_2_3; omega⟩, hj_4⟩
  ·
    refine s_aload_n E dX9_possibleFirsts_22 rfl rfl ?_
    refine s_gR (r := 81) E fg_X9_64 rfl rfl (jv_lt hj_4 (by decide)) (jv_r hj_4 (by decide +kernel)) dX9_possibleFirsts_23 ?_
    refine s_aload_n E dX9_possibleFirsts_26 rfl rfl ?_
    refine s_gR (r := 69) E fg_X9_54 rfl rfl (jv_lt hj_4 (by decide)) (jv_r hj_4 (by decide +kernel)) dX9_possibleFirsts_27 ?_
    refine s_iload_n E dX9_possibleFirsts_30 rfl rfl ?_
    refine s_iconst (v := 0) E dX9_possibleFirsts_31 (by decide) ?_
    refine s_vV (As := [AR 69, AI q8_3_3, AI 0]) (S := []) E (Z_X5_follow_81_r69 l D aC b v8 q8_3_3 0 hj_4.1 ) cv_X9_220 rfl rfl rfl (jv_lt hj_4 (by decide)) (Nat.le_of_ble_eq_true rfl) (Nat.le_of_ble_eq_true rfl) ⟨(Nat.le_of_ble_eq_true rfl), (Nat.le_of_ble_eq_true rfl)⟩ (Nat.le_of_ble_eq_true rfl) dX9_possibleFirsts_32 (fun u_7 hp_8 => ?_)
    have hj_9 := jv_trans hj_4 hp_8
    refine s_aload_n E dX9_possibleFirsts_35 rfl rfl ?_
    refine s_aload_n E dX9_possibleFirsts_36 rfl rfl ?_
    refine s_vI (As := [AR 65]) (S := []) E (Z_X9_agrees_0_r65 l D aC b u_7  hj_9.1 ) cv_X9_292 rfl rfl rfl (jv_lt hj_9 (by decide)) (Nat.le_of_ble_eq_true rfl) (Nat.le_of_ble_eq_true rfl) ⟨(Nat.le_of_ble_eq_true rfl), (Nat.le_of_ble_eq_true rfl)⟩ (Nat.le_of_ble_eq_true rfl) dX9_possibleFirsts_37 (fun z_12 u_10 hp_11 => ?_)
    obtain ⟨hz_12, hp_11⟩ := hp_11
    subst hp_11
    refine z_if_eq (tgt := 49) (u := z_12.toInt) E dX9_possibleFirsts_40 (by decide) rfl (fun h_14 => ?_) (fun h_14 => ?_)
    ·
      refine z_iinc (u := q8_3_3.toInt) (L2 := fun z_15 => [some (AR 0), some (AR 65), some (AI q8_2_3), some (AI z_15)]) E dX9_possibleFirsts_49 rfl rfl (by decide) (fun _ => rfl) (by decide) (by omega) (by omega) (fun z_15 hz_15 => ?_)
      refine s_goto (tgt := 8) E dX9_possibleFirsts_52 (by decide) ?_
      exact ih8 ⟨q8_2_3, z_15⟩ u_7 ⟨⟨by have hb_ := z32 z_15; omega, by have hb_ := z32 z_15; omega⟩, hj_9⟩ (by first | omega | decide | (dsimp only; omega) | (dsimp only; decide))
    ·
      refine s_iload_n E dX9_possibleFirsts_43 rfl rfl ?_
      refine s_iconst (v := 1) E dX9_possibleFirsts_44 (by decide) ?_
      refine s_iload_n E dX9_possibleFirsts_45 rfl rfl ?_
      refine z_shl1 5 (u := q8_3_3.toInt) (B := 32) E dX9_possibleFirsts_46 rfl (by omega) (by omega) (by decide) (by decide) (fun z_16 hz_16 => ?_)
      refine s_ior E dX9_possibleFirsts_47 ?_
      refine z_nm (P := fun z => (-2147483648) ≤ z.toInt ∧ z.toInt ≤ 2147483647) (z32 _) (fun z_17 hz_17 => ?_)
      refine s_istore_n (L2 := [some (AR 0), some (AR 65), some (AI z_17), some (AI q8_3_3)]) E dX9_possibleFirsts_48 rfl (by decide) rfl ?_
      refine z_iinc (u := q8_3_3.toInt) (L2 := fun z_18 => [some (AR 0), some (AR 65), some (AI z_17), some (AI z_18)]) E dX9_possibleFirsts_49 rfl rfl (by decide) (fun _ => rfl) (by decide) (by omega) (by omega) (fun z_18 hz_18 => ?_)
      refine s_goto (tgt := 8) E dX9_possibleFirsts_52 (by decide) ?_
      exact ih8 ⟨z_17, z_18⟩ u_7 ⟨⟨by have hb_ := z32 z_18; omega, by have hb_ := z32 z_18; omega⟩, hj_9⟩ (by first | omega | decide | (dsimp only; omega) | (dsimp only; decide))
