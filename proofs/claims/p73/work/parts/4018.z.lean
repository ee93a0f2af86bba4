set_option maxRecDepth 20000 in
set_option maxHeartbeats 2000000 in
theorem Z_X10_goNote_95 (l : Launch) (D : va_G) (aC : Nat → ClassId) (b : Nat) (w : XW) (x1 : Int32) (x2 : Int32) (hI : Iv w) (hx1 : 0 ≤ x1.toInt ∧ x1.toInt ≤ 5) (hx2 : 0 ≤ x2.toInt ∧ x2.toInt ≤ 14) : CnI l D aC b M_X10_goNote 3 69 0 0 [AR 95, AI x1, AI x2] w (fun r u => ((-2147483648) ≤ r.toInt ∧ r.toInt ≤ 2147483647) ∧ (HN (u.2.2.1 107) (u.2.2.1 108) x1.toInt) ∧ ((u.2.2.1 95) = (w.2.2.1 95)) ∧ ((u.2.2.1 96) = (w.2.2.1 96)) ∧ ((u.2.2.2) = (w.2.2.2)) ∧ Jv w u) := by
  refine cn_I (own := RX10) (nm := "goNote") (L0 := [some (AR 95), some (AI x1), some (AI x2), none, none, none, none, none]) (by decide +kernel) rfl rfl (Nat.le_of_ble_eq_true rfl) rfl ?_
  intro p e s m args below meth c E hin
  have hJ : Jv w w := jv_rfl hI
  refine s_aload_n E dX10_goNote_0 rfl rfl ?_
  refine s_gI E fg_X10_264 rfl rfl (jv_lt hJ (by decide)) dX10_goNote_1 ?_
  refine z_nm (P := fun z => z.toInt = (w.2.2.1 95 21).toInt ∧ (-2147483648) ≤ z.toInt ∧ z.toInt ≤ 2147483647) ⟨rfl, z32 _⟩ (fun z_1 hz_1 => ?_)
  refine s_iload_n E dX10_goNote_4 rfl rfl ?_
  refine s_sI (As := [AI z_1, AI x1]) (S := []) E (Z_X10_bit l D aC b w z_1 x1 hJ.1 ) cs_X10_252 rfl rfl (Nat.le_of_ble_eq_true rfl) (Nat.le_of_ble_eq_true rfl) ⟨(Nat.le_of_ble_eq_true rfl), (Nat.le_of_ble_eq_true rfl)⟩ (Nat.le_of_ble_eq_true rfl) dX10_goNote_5 (fun z_4 u_2 hp_3 => ?_)
  obtain ⟨hz_4, hxz_4, hp_3⟩ := hp_3
  subst hp_3
  refine s_iconst (v := 1) E dX10_goNote_8 (by decide) ?_
  refine z_icmp_ne (tgt := 16) (u := z_4.toInt) (v := 1) E dX10_goNote_9 (by decide) rfl (by decide) (fun h_6 => ?_) (fun h_6 => ?_)
  ·
    refine s_iconst (v := 1) E dX10_goNote_16 (by decide) ?_
    refine s_iload_n E dX10_goNote_17 rfl rfl ?_
    refine s_ishl E dX10_goNote_18 ?_
    refine z_nm (P := fun z => z = 1 <<< (x1 &&& 31) ∧ 1 ≤ z.toInt ∧ z.toInt ≤ 32) ⟨rfl, y_shl1 5 (by omega) (by omega) (by decide) (by decide)⟩ (fun z_7 hz_7 => ?_)
    refine s_istore_n (L2 := [some (AR 95), some (AI x1), some (AI x2), some (AI z_7), none, none, none, none]) E dX10_goNote_19 rfl (by decide) rfl ?_
    refine s_iconst (v := 0) E dX10_goNote_20 (by decide) ?_
    refine s_istore (L2 := [some (AR 95), some (AI x1), some (AI x2), some (AI z_7), some (AI 0), none, none, none]) E dX10_goNote_21 (by decide) rfl ?_
    refine z_loop (St := Int32) (Pi := fun q23_4_7 v23 => (0 ≤ q23_4_7.toInt ∧ q23_4_7.toInt ≤ 6) ∧ (GN0 (v23.2.2.1 107) x1.toInt q23_4_7.toInt) ∧ ((v23.2.2.1 95) = (w.2.2.1 95)) ∧ ((v23.2.2.1 96) = (w.2.2.1 96)) ∧ ((v23.2.2.2) = (w.2.2.2)) ∧ Jv w v23) (Lf := fun q23_4_7 => [some (AR 95), some (AI x1), some (AI x2), some (AI z_7), some (AI q23_4_7), none, none, none]) (fun q23_4_7 _ => (7 - q23_4_7.toInt).toNat) 0 ⟨⟨by decide, by decide⟩, (fun o h1_ => by have h0_ : (0 : Int32).toInt = 0 := (by decide); omega), rfl, rfl, rfl, hJ⟩ ?_
    rintro q23_4_7 v23 ⟨hq23_4, hl23, hf23_95, hf23_96, hf23_L, hj_8⟩ ih23
    refine s_loc (L2 := [some (AR 95), some (AI x1), some (AI x2), some (AI z_7), some (AI q23_4_7), none, none, none]) rfl ?_
    refine s_iload E dX10_goNote_23 rfl ?_
    refine s_bipush (v := 6) E dX10_goNote_25 (by decide) ?_
    refine z_icmp_ge (tgt := 62) (u := q23_4_7.toInt) (v := 6) E dX10_goNote_27 (by decide) rfl (by decide) (fun h_9 => ?_) (fun h_9 => ?_)
    ·
      refine s_iconst (v := 0) E dX10_goNote_62 (by decide) ?_
      refine s_istore (L2 := [some (AR 95), some (AI x1), some (AI x2), some (AI z_7), some (AI 0), none, none, none]) E dX10_goNote_63 (by decide) rfl ?_
      refine z_loop (St := Int32 × Int32) (Pi := fun ⟨q65_3_9, q65_4_9⟩ v65 => (0 ≤ q65_4_9.toInt ∧ q65_4_9.toInt ≤ 15) ∧ (GN (v65.2.2.1 107) (v65.2.2.1 108) q65_3_9 x1.toInt q65_4_9.toInt) ∧ ((v65.2.2.1 95) = (w.2.2.1 95)) ∧ ((v65.2.2.1 96) = (w.2.2.1 96)) ∧ ((v65.2.2.2) = (w.2.2.2)) ∧ Jv w v65) (Lf := fun ⟨q65_3_9, q65_4_9⟩ => [some (AR 95), some (AI x1), some (AI x2), some (AI q65_3_9), some (AI q65_4_9), none, none, none]) (fun ⟨q65_3_9, q65_4_9⟩ _ => (16 - q65_4_9.toInt).toNat) ⟨z_7, 0⟩ ⟨⟨by decide, by decide⟩, (gn_start hl23 (by omega) (by first | exact fun o_ ho_ hh_ => absurd hh_ (by rw [b_0]; decide) | exact y_shlF (by omega) (by omega) (by assumption)) _), hf23_95, hf23_96, hf23_L, hj_8⟩ ?_
      rintro ⟨q65_3_9, q65_4_9⟩ v65 ⟨hq65_4, hl65, hf65_95, hf65_96, hf65_L, hj_10⟩ ih65
      have hbq65_3 := z32 q65_3_9
      refine s_loc (L2 := [some (AR 95), some (AI x1), some (AI x2), some (AI q65_3_9), some (AI q65_4_9), none, none, none]) rfl ?_
      refine s_iload E dX10_goNote_65 rfl ?_
      refine s_iload_n E dX10_goNote_67 rfl rfl ?_
      refine z_icmp_gt (tgt := 186) (u := q65_4_9.toInt) (v := x2.toInt) E dX10_goNote_68 (by decide) rfl rfl (fun h_11 => ?_) (fun h_11 => ?_)
      ·
        refine s_iload_n E dX10_goNote_186 rfl rfl ?_
        exact r_int E dX10_goNote_187 ⟨⟨by have hb_ := z32 q65_3_9; omega, by have hb_ := z32 q65_3_9; omega⟩, (gn_end hl65), hf65_95, hf65_96, hf65_L, hj_10⟩
      ·
        refine s_iload_n E dX10_goNote_71 rfl rfl ?_
        refine s_istore (L2 := [some (AR 95), some (AI x1), some (AI x2), some (AI q65_3_9), some (AI q65_4_9), some (AI q65_3_9), none, none]) E dX10_goNote_72 (by decide) rfl ?_
        refine s_iconst (v := 0) E dX10_goNote_74 (by decide) ?_
        refine s_istore (L2 := [some (AR 95), some (AI x1), some (AI x2), some (AI q65_3_9), some (AI q65_4_9), some (AI q65_3_9), some (AI 0), none]) E dX10_goNote_75 (by decide) rfl ?_
        refine z_loop (St := Int32 × Int32) (Pi := fun ⟨q77_5_11, q77_6_11⟩ v77 => (0 ≤ q77_6_11.toInt ∧ q77_6_11.toInt ≤ 6) ∧ (GI (v77.2.2.1 107) (v77.2.2.1 108) q65_3_9 q77_5_11 x1.toInt q65_4_9.toInt) ∧ ((v77.2.2.1 95) = (w.2.2.1 95)) ∧ ((v77.2.2.1 96) = (w.2.2.1 96)) ∧ ((v77.2.2.2) = (w.2.2.2)) ∧ Jv w v77) (Lf := fun ⟨q77_5_11, q77_6_11⟩ => [some (AR 95), some (AI x1), some (AI x2), some (AI q65_3_9), some (AI q65_4_9), some (AI q77_5_11), some (AI q77_6_11), none]) (fun ⟨q77_5_11, q77_6_11⟩ _ => (7 - q77_6_11.toInt).toNat) ⟨q65_3_9, 0⟩ ⟨⟨by decide, by decide⟩, (gi_start hl65), hf65_95, hf65_96, hf65_L, hj_10⟩ ?_
        rintro ⟨q77_5_11, q77_6_11⟩ v77 ⟨hq77_6, hl77, hf77_95, hf77_96, hf77_L, hj_12⟩ ih77
        have hbq77_5 := z32 q77_5_11
        refine s_loc (L2 := [some (AR 95), some (AI x1), some (AI x2), some (AI q65_3_9), some (AI q65_4_9), some (AI q77_5_11), some (AI q77_6_11), none]) rfl ?_
        refine s_iload E dX10_goNote_77 rfl ?_
        refine s_aload_n E dX10_goNote_79 rfl rfl ?_
        refine s_vI (As := []) (S := [AI q77_6_11]) E (Z_X10_ladies_95 l D aC b v77  hj_12.1 ) cv_X10_244 rfl rfl rfl (jv_lt hj_12 (by decide)) (Nat.le_of_ble_eq_true rfl) (Nat.le_of_ble_eq_true rfl) ⟨(Nat.le_of_ble_eq_true rfl), (Nat.le_of_ble_eq_true rfl)⟩ (Nat.le_of_ble_eq_true rfl) dX10_goNote_80 (fun z_15 u_13 hp_14 => ?_)
        obtain ⟨hz_15, hxz_15, hp_14⟩ := hp_14
        subst hp_14
        refine z_icmp_ge (tgt := 169) (u := q77_6_11.toInt) (v := z_15.toInt) E dX10_goNote_83 (by decide) rfl rfl (fun h_17 => ?_) (fun h_17 => ?_)
        ·
          refine s_iload E dX10_goNote_169 rfl ?_
          refine s_istore_n (L2 := [some (AR 95), some (AI x1), some (AI x2), some (AI q77_5_11), some (AI q65_4_9), some (AI q77_5_11), some (AI q77_6_11), none]) E dX10_goNote_171 rfl (by decide) rfl ?_
          refine s_aload_n E dX10_goNote_172 rfl rfl ?_
          refine s_gR (r := 106) E fg_X10_46 rfl rfl (jv_lt hj_12 (by decide)) (jv_r hj_12 (by decide +kernel)) dX10_goNote_173 ?_
          refine s_iload E dX10_goNote_176 rfl ?_
          refine s_iload_n E dX10_goNote_178 rfl rfl ?_
          refine s_iast E rfl (jv_lt hj_12 (by decide)) (z_in (u := q65_4_9.toInt) rfl (by omega) (by omega)) dX10_goNote_179 ?_
          have hj_19 : Jv w (upI v77 106 q65_4_9.toNatClampNeg q77_5_11) := (jv_a_106 hj_12 (by have hb_ := z32 q77_5_11; omega) (by have hb_ := z32 q77_5_11; omega))
          refine z_iinc (u := q65_4_9.toInt) (L2 := fun z_20 => [some (AR 95), some (AI x1), some (AI x2), some (AI q77_5_11), some (AI z_20), some (AI q77_5_11), some (AI q77_6_11), none]) E dX10_goNote_180 rfl rfl (by decide) (fun _ => rfl) (by decide) (by omega) (by omega) (fun z_20 hz_20 => ?_)
          refine s_goto (tgt := 65) E dX10_goNote_183 (by decide) ?_
          refine s_drop (i := 5) (L2 := [some (AR 95), some (AI x1), some (AI x2), some (AI q77_5_11), some (AI z_20), none, some (AI q77_6_11), none]) rfl ?_
          refine s_drop (i := 6) (L2 := [some (AR 95), some (AI x1), some (AI x2), some (AI q77_5_11), some (AI z_20), none, none, none]) rfl ?_
          exact ih65 ⟨q77_5_11, z_20⟩ (upI v77 106 q65_4_9.toNatClampNeg q77_5_11) ⟨⟨by have hb_ := z32 z_20; omega, by have hb_ := z32 z_20; omega⟩, (gn_nextW hl77 (by omega)), ((upI_ne (show 95 ≠ 106 by decide)).trans hf77_95), ((upI_ne (show 96 ≠ 106 by decide)).trans hf77_96), (show ((upI v77 106 q65_4_9.toNatClampNeg q77_5_11).2.2.2) = (w.2.2.2) from hf77_L), hj_19⟩ (by first | omega | decide | (dsimp only; omega) | (dsimp only; decide))
        ·
          refine s_aload_n E dX10_goNote_86 rfl rfl ?_
          refine s_gI E fg_X10_270 rfl rfl (jv_lt hj_12 (by decide)) dX10_goNote_87 ?_
          refine z_nm (P := fun z => z.toInt = (v77.2.2.1 95 24).toInt ∧ (-2147483648) ≤ z.toInt ∧ z.toInt ≤ 2147483647) ⟨rfl, z32 _⟩ (fun z_21 hz_21 => ?_)
          refine s_iload E dX10_goNote_90 rfl ?_
          refine s_sI (As := [AI z_21, AI q65_4_9]) (S := []) E (Z_X10_bit l D aC b v77 z_21 q65_4_9 hj_12.1 ) cs_X10_252 rfl rfl (Nat.le_of_ble_eq_true rfl) (Nat.le_of_ble_eq_true rfl) ⟨(Nat.le_of_ble_eq_true rfl), (Nat.le_of_ble_eq_true rfl)⟩ (Nat.le_of_ble_eq_true rfl) dX10_goNote_92 (fun z_24 u_22 hp_23 => ?_)
          obtain ⟨hz_24, hxz_24, hp_23⟩ := hp_23
          subst hp_23
          refine z_if_ne (tgt := 169) (u := z_24.toInt) E dX10_goNote_95 (by decide) rfl (fun h_26 => ?_) (fun h_26 => ?_)
          ·
            refine s_iload E dX10_goNote_169 rfl ?_
            refine s_istore_n (L2 := [some (AR 95), some (AI x1), some (AI x2), some (AI q77_5_11), some (AI q65_4_9), some (AI q77_5_11), some (AI q77_6_11), none]) E dX10_goNote_171 rfl (by decide) rfl ?_
            refine s_aload_n E dX10_goNote_172 rfl rfl ?_
            refine s_gR (r := 106) E fg_X10_46 rfl rfl (jv_lt hj_12 (by decide)) (jv_r hj_12 (by decide +kernel)) dX10_goNote_173 ?_
            refine s_iload E dX10_goNote_176 rfl ?_
            refine s_iload_n E dX10_goNote_178 rfl rfl ?_
            refine s_iast E rfl (jv_lt hj_12 (by decide)) (z_in (u := q65_4_9.toInt) rfl (by omega) (by omega)) dX10_goNote_179 ?_
            have hj_28 : Jv w (upI v77 106 q65_4_9.toNatClampNeg q77_5_11) := (jv_a_106 hj_12 (by have hb_ := z32 q77_5_11; omega) (by have hb_ := z32 q77_5_11; omega))
            refine z_iinc (u := q65_4_9.toInt) (L2 := fun z_29 => [some (AR 95), some (AI x1), some (AI x2), some (AI q77_5_11), some (AI z_29), some (AI q77_5_11), some (AI q77_6_11), none]) E dX10_goNote_180 rfl rfl (by decide) (fun _ => rfl) (by decide) (by omega) (by omega) (fun z_29 hz_29 => ?_)
            refine s_goto (tgt := 65) E dX10_goNote_183 (by decide) ?_
            refine s_drop (i := 5) (L2 := [some (AR 95), some (AI x1), some (AI x2), some (AI q77_5_11), some (AI z_29), none, some (AI q77_6_11), none]) rfl ?_
            refine s_drop (i := 6) (L2 := [some (AR 95), some (AI x1), some (AI x2), some (AI q77_5_11), some (AI z_29), none, none, none]) rfl ?_
            exact ih65 ⟨q77_5_11, z_29⟩ (upI v77 106 q65_4_9.toNatClampNeg q77_5_11) ⟨⟨by have hb_ := z32 z_29; omega, by have hb_ := z32 z_29; omega⟩, (gn_nextW hl77 (by omega)), ((upI_ne (show 95 ≠ 106 by decide)).trans hf77_95), ((upI_ne (show 96 ≠ 106 by decide)).trans hf77_96), (show ((upI v77 106 q65_4_9.toNatClampNeg q77_5_11).2.2.2) = (w.2.2.2) from hf77_L), hj_28⟩ (by first | omega | decide | (dsimp only; omega) | (dsimp only; decide))
          ·
            refine s_iload_n E dX10_goNote_98 rfl rfl ?_
            refine s_aload_n E dX10_goNote_99 rfl rfl ?_
            refine s_gI E fg_X10_264 rfl rfl (jv_lt hj_12 (by decide)) dX10_goNote_100 ?_
            refine z_nm (P := fun z => z.toInt = (v77.2.2.1 95 21).toInt ∧ (-2147483648) ≤ z.toInt ∧ z.toInt ≤ 2147483647) ⟨rfl, z32 _⟩ (fun z_30 hz_30 => ?_)
            refine s_ior E dX10_goNote_103 ?_
            refine z_nm (P := fun z => z = q65_3_9 ||| z_30 ∧ (-2147483648) ≤ z.toInt ∧ z.toInt ≤ 2147483647) ⟨rfl, z32 _⟩ (fun z_31 hz_31 => ?_)
            refine s_iload E dX10_goNote_104 rfl ?_
            refine s_sI (As := [AI z_31, AI q77_6_11]) (S := []) E (Z_X10_bit l D aC b v77 z_31 q77_6_11 hj_12.1 ) cs_X10_252 rfl rfl (Nat.le_of_ble_eq_true rfl) (Nat.le_of_ble_eq_true rfl) ⟨(Nat.le_of_ble_eq_true rfl), (Nat.le_of_ble_eq_true rfl)⟩ (Nat.le_of_ble_eq_true rfl) dX10_goNote_106 (fun z_34 u_32 hp_33 => ?_)
            obtain ⟨hz_34, hxz_34, hp_33⟩ := hp_33
            subst hp_33
            have hb106 := hxz_34 (by omega) (by omega)
            refine s_iconst (v := 1) E dX10_goNote_109 (by decide) ?_
            refine z_icmp_ne (tgt := 116) (u := z_34.toInt) (v := 1) E dX10_goNote_110 (by decide) rfl (by decide) (fun h_36 => ?_) (fun h_36 => ?_)
            ·
              replace hb106 : ¬ bt q65_3_9 q77_6_11.toInt.toNat = true := y_nb hb106 (by omega) (by assumption)
              refine s_aload_n E dX10_goNote_116 rfl rfl ?_
              refine s_iload E dX10_goNote_117 rfl ?_
              refine s_iload_n E dX10_goNote_119 rfl rfl ?_
              refine s_iload E dX10_goNote_120 rfl ?_
              refine s_vI (As := [AI q77_6_11, AI q65_3_9, AI q65_4_9]) (S := []) E (Z_X10_giverTo_95 l D aC b v77 q77_6_11 q65_3_9 q65_4_9 hj_12.1 ⟨by have hb_ := z32 q77_6_11; omega, by have hb_ := z32 q77_6_11; omega⟩ ⟨by have hb_ := z32 q65_4_9; omega, by have hb_ := z32 q65_4_9; omega⟩) cv_X10_332 rfl rfl rfl (jv_lt hj_12 (by decide)) (Nat.le_of_ble_eq_true rfl) (Nat.le_of_ble_eq_true rfl) ⟨(Nat.le_of_ble_eq_true rfl), (Nat.le_of_ble_eq_true rfl)⟩ (Nat.le_of_ble_eq_true rfl) dX10_goNote_122 (fun z_39 u_37 hp_38 => ?_)
              obtain ⟨hz_39, hxz_39, hp_38⟩ := hp_38
              subst hp_38
              have hx122 := hxz_39
              refine s_istore (L2 := [some (AR 95), some (AI x1), some (AI x2), some (AI q65_3_9), some (AI q65_4_9), some (AI q77_5_11), some (AI q77_6_11), some (AI z_39)]) E dX10_goNote_125 (by decide) rfl ?_
              refine s_iload E dX10_goNote_127 rfl ?_
              refine s_iconst (v := (-1)) E dX10_goNote_129 (by decide) ?_
              refine z_icmp_ne (tgt := 136) (u := z_39.toInt) (v := (-1)) E dX10_goNote_130 (by decide) rfl (by decide) (fun h_41 => ?_) (fun h_41 => ?_)
              ·
                have hg122 : 0 ≤ z_39.toInt ∧ z_39.toInt ≤ 5 ∧ bt q65_3_9 z_39.toInt.toNat = true := hx122.resolve_left (by omega)
                refine s_iload E dX10_goNote_136 rfl ?_
                refine s_iconst (v := 1) E dX10_goNote_138 (by decide) ?_
                refine s_iload E dX10_goNote_139 rfl ?_
                refine s_ishl E dX10_goNote_141 ?_
                refine z_nm (P := fun z => z = 1 <<< (q77_6_11 &&& 31) ∧ 1 ≤ z.toInt ∧ z.toInt ≤ 32) ⟨rfl, y_shl1 5 (by omega) (by omega) (by decide) (by decide)⟩ (fun z_42 hz_42 => ?_)
                refine s_ior E dX10_goNote_142 ?_
                refine z_nm (P := fun z => z = q77_5_11 ||| z_42 ∧ (-2147483648) ≤ z.toInt ∧ z.toInt ≤ 2147483647) ⟨rfl, z32 _⟩ (fun z_43 hz_43 => ?_)
                refine s_istore (L2 := [some (AR 95), some (AI x1), some (AI x2), some (AI q65_3_9), some (AI q65_4_9), some (AI z_43), some (AI q77_6_11), some (AI z_39)]) E dX10_goNote_143 (by decide) rfl ?_
                refine s_aload_n E dX10_goNote_145 rfl rfl ?_
                refine s_gR (r := 107) E fg_X10_49 rfl rfl (jv_lt hj_12 (by decide)) (jv_r hj_12 (by decide +kernel)) dX10_goNote_146 ?_
                refine s_iload E dX10_goNote_149 rfl ?_
                refine s_iload E dX10_goNote_151 rfl ?_
                refine s_iast E rfl (jv_lt hj_12 (by decide)) (z_in (u := q77_6_11.toInt) rfl (by omega) (by omega)) dX10_goNote_153 ?_
                have hj_45 : Jv w (upI v77 107 q77_6_11.toNatClampNeg q65_4_9) := (jv_a_107 hj_12 (by have hb_ := z32 q65_4_9; omega) (by have hb_ := z32 q65_4_9; omega))
                refine s_aload_n E dX10_goNote_154 rfl rfl ?_
                refine s_gR (r := 108) E fg_X10_52 rfl rfl (jv_lt hj_45 (by decide)) (jv_r hj_45 (by decide +kernel)) dX10_goNote_155 ?_
                refine s_iload E dX10_goNote_158 rfl ?_
                refine s_iload E dX10_goNote_160 rfl ?_
                refine s_iast E rfl (jv_lt hj_45 (by decide)) (z_in (u := q77_6_11.toInt) rfl (by omega) (by omega)) dX10_goNote_162 ?_
                have hj_47 : Jv w (upI (upI v77 107 q77_6_11.toNatClampNeg q65_4_9) 108 q77_6_11.toNatClampNeg z_39) := (jv_a_108 hj_45 (by have hb_ := z32 z_39; omega) (by have hb_ := z32 z_39; omega))
                refine z_iinc (u := q77_6_11.toInt) (L2 := fun z_48 => [some (AR 95), some (AI x1), some (AI x2), some (AI q65_3_9), some (AI q65_4_9), some (AI z_43), some (AI z_48), some (AI z_39)]) E dX10_goNote_163 rfl rfl (by decide) (fun _ => rfl) (by decide) (by omega) (by omega) (fun z_48 hz_48 => ?_)
                refine s_goto (tgt := 77) E dX10_goNote_166 (by decide) ?_
                refine s_drop (i := 7) (L2 := [some (AR 95), some (AI x1), some (AI x2), some (AI q65_3_9), some (AI q65_4_9), some (AI z_43), some (AI z_48), none]) rfl ?_
                exact ih77 ⟨z_43, z_48⟩ (upI (upI v77 107 q77_6_11.toNatClampNeg q65_4_9) 108 q77_6_11.toNatClampNeg z_39) ⟨⟨by have hb_ := z32 z_48; omega, by have hb_ := z32 z_48; omega⟩, (by first | exact hl77 | exact gi_upW hl77 (by omega) (by omega) (by omega) hb106 hg122 (by assumption) (by assumption)), ((upI_ne (show 95 ≠ 108 by decide)).trans ((upI_ne (show 95 ≠ 107 by decide)).trans hf77_95)), ((upI_ne (show 96 ≠ 108 by decide)).trans ((upI_ne (show 96 ≠ 107 by decide)).trans hf77_96)), (show ((upI (upI v77 107 q77_6_11.toNatClampNeg q65_4_9) 108 q77_6_11.toNatClampNeg z_39).2.2.2) = (w.2.2.2) from (show ((upI v77 107 q77_6_11.toNatClampNeg q65_4_9).2.2.2) = (w.2.2.2) from hf77_L)), hj_47⟩ (by first | omega | decide | (dsimp only; omega) | (dsimp only; decide))
              ·
                refine s_goto (tgt := 163) E dX10_goNote_133 (by decide) ?_
                refine z_iinc (u := q77_6_11.toInt) (L2 := fun z_49 => [some (AR 95), some (AI x1), some (AI x2), some (AI q65_3_9), some (AI q65_4_9), some (AI q77_5_11), some (AI z_49), some (AI z_39)]) E dX10_goNote_163 rfl rfl (by decide) (fun _ => rfl) (by decide) (by omega) (by omega) (fun z_49 hz_49 => ?_)
                refine s_goto (tgt := 77) E dX10_goNote_166 (by decide) ?_
                refine s_drop (i := 7) (L2 := [some (AR 95), some (AI x1), some (AI x2), some (AI q65_3_9), some (AI q65_4_9), some (AI q77_5_11), some (AI z_49), none]) rfl ?_
                exact ih77 ⟨q77_5_11, z_49⟩ v77 ⟨⟨by have hb_ := z32 z_49; omega, by have hb_ := z32 z_49; omega⟩, (by first | exact hl77 | exact gi_upW hl77 (by omega) (by omega) (by omega) hb106 hg122 (by assumption) (by assumption)), hf77_95, hf77_96, hf77_L, hj_12⟩ (by first | omega | decide | (dsimp only; omega) | (dsimp only; decide))
            ·
              refine s_goto (tgt := 163) E dX10_goNote_113 (by decide) ?_
              refine z_iinc (u := q77_6_11.toInt) (L2 := fun z_50 => [some (AR 95), some (AI x1), some (AI x2), some (AI q65_3_9), some (AI q65_4_9), some (AI q77_5_11), some (AI z_50), none]) E dX10_goNote_163 rfl rfl (by decide) (fun _ => rfl) (by decide) (by omega) (by omega) (fun z_50 hz_50 => ?_)
              refine s_goto (tgt := 77) E dX10_goNote_166 (by decide) ?_
              exact ih77 ⟨q77_5_11, z_50⟩ v77 ⟨⟨by have hb_ := z32 z_50; omega, by have hb_ := z32 z_50; omega⟩, (by first | exact hl77 | exact gi_upW hl77 (by omega) (by omega) (by omega) hb106 hg122 (by assumption) (by assumption)), hf77_95, hf77_96, hf77_L, hj_12⟩ (by first | omega | decide | (dsimp only; omega) | (dsimp only; decide))
    ·
      refine s_aload_n E dX10_goNote_30 rfl rfl ?_
      refine s_gR (r := 107) E fg_X10_49 rfl rfl (jv_lt hj_8 (by decide)) (jv_r hj_8 (by decide +kernel)) dX10_goNote_31 ?_
      refine s_iload E dX10_goNote_34 rfl ?_
      refine s_iload E dX10_goNote_36 rfl ?_
      refine s_iload_n E dX10_goNote_38 rfl rfl ?_
      refine z_icmp_ne (tgt := 46) (u := q23_4_7.toInt) (v := x1.toInt) E dX10_goNote_39 (by decide) rfl rfl (fun h_51 => ?_) (fun h_51 => ?_)
      ·
        refine s_iconst (v := (-1)) E dX10_goNote_46 (by decide) ?_
        refine s_iast E rfl (jv_lt hj_8 (by decide)) (z_in (u := q23_4_7.toInt) rfl (by omega) (by omega)) dX10_goNote_47 ?_
        have hj_53 : Jv w (upI v23 107 q23_4_7.toNatClampNeg (-1)) := (jv_a_107 hj_8 (by decide) (by decide))
        refine s_aload_n E dX10_goNote_48 rfl rfl ?_
        refine s_gR (r := 108) E fg_X10_52 rfl rfl (jv_lt hj_53 (by decide)) (jv_r hj_53 (by decide +kernel)) dX10_goNote_49 ?_
        refine s_iload E dX10_goNote_52 rfl ?_
        refine s_iconst (v := (-1)) E dX10_goNote_54 (by decide) ?_
        refine s_iast E rfl (jv_lt hj_53 (by decide)) (z_in (u := q23_4_7.toInt) rfl (by omega) (by omega)) dX10_goNote_55 ?_
        have hj_55 : Jv w (upI (upI v23 107 q23_4_7.toNatClampNeg (-1)) 108 q23_4_7.toNatClampNeg (-1)) := (jv_a_108 hj_53 (by decide) (by decide))
        refine z_iinc (u := q23_4_7.toInt) (L2 := fun z_56 => [some (AR 95), some (AI x1), some (AI x2), some (AI z_7), some (AI z_56), none, none, none]) E dX10_goNote_56 rfl rfl (by decide) (fun _ => rfl) (by decide) (by omega) (by omega) (fun z_56 hz_56 => ?_)
        refine s_goto (tgt := 23) E dX10_goNote_59 (by decide) ?_
        exact ih23 z_56 (upI (upI v23 107 q23_4_7.toNatClampNeg (-1)) 108 q23_4_7.toNatClampNeg (-1)) ⟨⟨by have hb_ := z32 z_56; omega, by have hb_ := z32 z_56; omega⟩, (gn0_W hl23 (by omega) (by first | exact Or.inl (by omega) | exact Or.inr (by decide)) (by omega)), ((upI_ne (show 95 ≠ 108 by decide)).trans ((upI_ne (show 95 ≠ 107 by decide)).trans hf23_95)), ((upI_ne (show 96 ≠ 108 by decide)).trans ((upI_ne (show 96 ≠ 107 by decide)).trans hf23_96)), (show ((upI (upI v23 107 q23_4_7.toNatClampNeg (-1)) 108 q23_4_7.toNatClampNeg (-1)).2.2.2) = (w.2.2.2) from (show ((upI v23 107 q23_4_7.toNatClampNeg (-1)).2.2.2) = (w.2.2.2) from hf23_L)), hj_55⟩ (by first | omega | decide | (dsimp only; omega) | (dsimp only; decide))
      ·
        refine s_iconst (v := 0) E dX10_goNote_42 (by decide) ?_
        refine s_goto (tgt := 47) E dX10_goNote_43 (by decide) ?_
        refine s_iast E rfl (jv_lt hj_8 (by decide)) (z_in (u := q23_4_7.toInt) rfl (by omega) (by omega)) dX10_goNote_47 ?_
        have hj_58 : Jv w (upI v23 107 q23_4_7.toNatClampNeg 0) := (jv_a_107 hj_8 (by decide) (by decide))
        refine s_aload_n E dX10_goNote_48 rfl rfl ?_
        refine s_gR (r := 108) E fg_X10_52 rfl rfl (jv_lt hj_58 (by decide)) (jv_r hj_58 (by decide +kernel)) dX10_goNote_49 ?_
        refine s_iload E dX10_goNote_52 rfl ?_
        refine s_iconst (v := (-1)) E dX10_goNote_54 (by decide) ?_
        refine s_iast E rfl (jv_lt hj_58 (by decide)) (z_in (u := q23_4_7.toInt) rfl (by omega) (by omega)) dX10_goNote_55 ?_
        have hj_60 : Jv w (upI (upI v23 107 q23_4_7.toNatClampNeg 0) 108 q23_4_7.toNatClampNeg (-1)) := (jv_a_108 hj_58 (by decide) (by decide))
        refine z_iinc (u := q23_4_7.toInt) (L2 := fun z_61 => [some (AR 95), some (AI x1), some (AI x2), some (AI z_7), some (AI z_61), none, none, none]) E dX10_goNote_56 rfl rfl (by decide) (fun _ => rfl) (by decide) (by omega) (by omega) (fun z_61 hz_61 => ?_)
        refine s_goto (tgt := 23) E dX10_goNote_59 (by decide) ?_
        exact ih23 z_61 (upI (upI v23 107 q23_4_7.toNatClampNeg 0) 108 q23_4_7.toNatClampNeg (-1)) ⟨⟨by have hb_ := z32 z_61; omega, by have hb_ := z32 z_61; omega⟩, (gn0_W hl23 (by omega) (by first | exact Or.inl (by omega) | exact Or.inr (by decide)) (by omega)), ((upI_ne (show 95 ≠ 108 by decide)).trans ((upI_ne (show 95 ≠ 107 by decide)).trans hf23_95)), ((upI_ne (show 96 ≠ 108 by decide)).trans ((upI_ne (show 96 ≠ 107 by decide)).trans hf23_96)), (show ((upI (upI v23 107 q23_4_7.toNatClampNeg 0) 108 q23_4_7.toNatClampNeg (-1)).2.2.2) = (w.2.2.2) from (show ((upI v23 107 q23_4_7.toNatClampNeg 0).2.2.2) = (w.2.2.2) from hf23_L)), hj_60⟩ (by first | omega | decide | (dsimp only; omega) | (dsimp only; decide))
  ·
    refine s_iconst (v := 0) E dX10_goNote_12 (by decide) ?_
    refine s_goto (tgt := 19) E dX10_goNote_13 (by decide) ?_
    refine s_istore_n (L2 := [some (AR 95), some (AI x1), some (AI x2), some (AI 0), none, none, none, none]) E dX10_goNote_19 rfl (by decide) rfl ?_
    refine s_iconst (v := 0) E dX10_goNote_20 (by decide) ?_
    refine s_istore (L2 := [some (AR 95), some (AI x1), some (AI x2), some (AI 0), some (AI 0), none, none, none]) E dX10_goNote_21 (by decide) rfl ?_
    refine z_loop (St := Int32) (Pi := fun q23_4_61 v23 => (0 ≤ q23_4_61.toInt ∧ q23_4_61.toInt ≤ 6) ∧ (GN0 (v23.2.2.1 107) x1.toInt q23_4_61.toInt) ∧ ((v23.2.2.1 95) = (w.2.2.1 95)) ∧ ((v23.2.2.1 96) = (w.2.2.1 96)) ∧ ((v23.2.2.2) = (w.2.2.2)) ∧ Jv w v23) (Lf := fun q23_4_61 => [some (AR 95), some (AI x1), some (AI x2), some (AI 0), some (AI q23_4_61), none, none, none]) (fun q23_4_61 _ => (7 - q23_4_61.toInt).toNat) 0 ⟨⟨by decide, by decide⟩, (fun o h1_ => by have h0_ : (0 : Int32).toInt = 0 := (by decide); omega), rfl, rfl, rfl, hJ⟩ ?_
    rintro q23_4_61 v23 ⟨hq23_4, hl23, hf23_95, hf23_96, hf23_L, hj_62⟩ ih23
    refine s_loc (L2 := [some (AR 95), some (AI x1), some (AI x2), some (AI 0), some (AI q23_4_61), none, none, none]) rfl ?_
    refine s_iload E dX10_goNote_23 rfl ?_
    refine s_bipush (v := 6) E dX10_goNote_25 (by decide) ?_
    refine z_icmp_ge (tgt := 62) (u := q23_4_61.toInt) (v := 6) E dX10_goNote_27 (by decide) rfl (by decide) (fun h_63 => ?_) (fun h_63 => ?_)
    ·
      refine s_iconst (v := 0) E dX10_goNote_62 (by decide) ?_
      refine s_istore (L2 := [some (AR 95), some (AI x1), some (AI x2), some (AI 0), some (AI 0), none, none, none]) E dX10_goNote_63 (by decide) rfl ?_
      refine z_loop (St := Int32 × Int32) (Pi := fun ⟨q65_3_63, q65_4_63⟩ v65 => (0 ≤ q65_4_63.toInt ∧ q65_4_63.toInt ≤ 15) ∧ (GN (v65.2.2.1 107) (v65.2.2.1 108) q65_3_63 x1.toInt q65_4_63.toInt) ∧ ((v65.2.2.1 95) = (w.2.2.1 95)) ∧ ((v65.2.2.1 96) = (w.2.2.1 96)) ∧ ((v65.2.2.2) = (w.2.2.2)) ∧ Jv w v65) (Lf := fun ⟨q65_3_63, q65_4_63⟩ => [some (AR 95), some (AI x1), some (AI x2), some (AI q65_3_63), some (AI q65_4_63), none, none, none]) (fun ⟨q65_3_63, q65_4_63⟩ _ => (16 - q65_4_63.toInt).toNat) ⟨0, 0⟩ ⟨⟨by decide, by decide⟩, (gn_start hl23 (by omega) (by first | exact fun o_ ho_ hh_ => absurd hh_ (by rw [b_0]; decide) | exact y_shlF (by omega) (by omega) (by assumption)) _), hf23_95, hf23_96, hf23_L, hj_62⟩ ?_
      rintro ⟨q65_3_63, q65_4_63⟩ v65 ⟨hq65_4, hl65, hf65_95, hf65_96, hf65_L, hj_64⟩ ih65
      have hbq65_3 := z32 q65_3_63
      refine s_loc (L2 := [some (AR 95), some (AI x1), some (AI x2), some (AI q65_3_63), some (AI q65_4_63), none, none, none]) rfl ?_
      refine s_iload E dX10_goNote_65 rfl ?_
      refine s_iload_n E dX10_goNote_67 rfl rfl ?_
      refine z_icmp_gt (tgt := 186) (u := q65_4_63.toInt) (v := x2.toInt) E dX10_goNote_68 (by decide) rfl rfl (fun h_65 => ?_) (fun h_65 => ?_)
      ·
        refine s_iload_n E dX10_goNote_186 rfl rfl ?_
        exact r_int E dX10_goNote_187 ⟨⟨by have hb_ := z32 q65_3_63; omega, by have hb_ := z32 q65_3_63; omega⟩, (gn_end hl65), hf65_95, hf65_96, hf65_L, hj_64⟩
      ·
        refine s_iload_n E dX10_goNote_71 rfl rfl ?_
        refine s_istore (L2 := [some (AR 95), some (AI x1), some (AI x2), some (AI q65_3_63), some (AI q65_4_63), some (AI q65_3_63), none, none]) E dX10_goNote_72 (by decide) rfl ?_
        refine s_iconst (v := 0) E dX10_goNote_74 (by decide) ?_
        refine s_istore (L2 := [some (AR 95), some (AI x1), some (AI x2), some (AI q65_3_63), some (AI q65_4_63), some (AI q65_3_63), some (AI 0), none]) E dX10_goNote_75 (by decide) rfl ?_
        refine z_loop (St := Int32 × Int32) (Pi := fun ⟨q77_5_65, q77_6_65⟩ v77 => (0 ≤ q77_6_65.toInt ∧ q77_6_65.toInt ≤ 6) ∧ (GI (v77.2.2.1 107) (v77.2.2.1 108) q65_3_63 q77_5_65 x1.toInt q65_4_63.toInt) ∧ ((v77.2.2.1 95) = (w.2.2.1 95)) ∧ ((v77.2.2.1 96) = (w.2.2.1 96)) ∧ ((v77.2.2.2) = (w.2.2.2)) ∧ Jv w v77) (Lf := fun ⟨q77_5_65, q77_6_65⟩ => [some (AR 95), some (AI x1), some (AI x2), some (AI q65_3_63), some (AI q65_4_63), some (AI q77_5_65), some (AI q77_6_65), none]) (fun ⟨q77_5_65, q77_6_65⟩ _ => (7 - q77_6_65.toInt).toNat) ⟨q65_3_63, 0⟩ ⟨⟨by decide, by decide⟩, (gi_start hl65), hf65_95, hf65_96, hf65_L, hj_64⟩ ?_
        rintro ⟨q77_5_65, q77_6_65⟩ v77 ⟨hq77_6, hl77, hf77_95, hf77_96, hf77_L, hj_66⟩ ih77
        have hbq77_5 := z32 q77_5_65
        refine s_loc (L2 := [some (AR 95), some (AI x1), some (AI x2), some (AI q65_3_63), some (AI q65_4_63), some (AI q77_5_65), some (AI q77_6_65), none]) rfl ?_
        refine s_iload E dX10_goNote_77 rfl ?_
        refine s_aload_n E dX10_goNote_79 rfl rfl ?_
        refine s_vI (As := []) (S := [AI q77_6_65]) E (Z_X10_ladies_95 l D aC b v77  hj_66.1 ) cv_X10_244 rfl rfl rfl (jv_lt hj_66 (by decide)) (Nat.le_of_ble_eq_true rfl) (Nat.le_of_ble_eq_true rfl) ⟨(Nat.le_of_ble_eq_true rfl), (Nat.le_of_ble_eq_true rfl)⟩ (Nat.le_of_ble_eq_true rfl) dX10_goNote_80 (fun z_69 u_67 hp_68 => ?_)
        obtain ⟨hz_69, hxz_69, hp_68⟩ := hp_68
        subst hp_68
        refine z_icmp_ge (tgt := 169) (u := q77_6_65.toInt) (v := z_69.toInt) E dX10_goNote_83 (by decide) rfl rfl (fun h_71 => ?_) (fun h_71 => ?_)
        ·
          refine s_iload E dX10_goNote_169 rfl ?_
          refine s_istore_n (L2 := [some (AR 95), some (AI x1), some (AI x2), some (AI q77_5_65), some (AI q65_4_63), some (AI q77_5_65), some (AI q77_6_65), none]) E dX10_goNote_171 rfl (by decide) rfl ?_
          refine s_aload_n E dX10_goNote_172 rfl rfl ?_
          refine s_gR (r := 106) E fg_X10_46 rfl rfl (jv_lt hj_66 (by decide)) (jv_r hj_66 (by decide +kernel)) dX10_goNote_173 ?_
          refine s_iload E dX10_goNote_176 rfl ?_
          refine s_iload_n E dX10_goNote_178 rfl rfl ?_
          refine s_iast E rfl (jv_lt hj_66 (by decide)) (z_in (u := q65_4_63.toInt) rfl (by omega) (by omega)) dX10_goNote_179 ?_
          have hj_73 : Jv w (upI v77 106 q65_4_63.toNatClampNeg q77_5_65) := (jv_a_106 hj_66 (by have hb_ := z32 q77_5_65; omega) (by have hb_ := z32 q77_5_65; omega))
          refine z_iinc (u := q65_4_63.toInt) (L2 := fun z_74 => [some (AR 95), some (AI x1), some (AI x2), some (AI q77_5_65), some (AI z_74), some (AI q77_5_65), some (AI q77_6_65), none]) E dX10_goNote_180 rfl rfl (by decide) (fun _ => rfl) (by decide) (by omega) (by omega) (fun z_74 hz_74 => ?_)
          refine s_goto (tgt := 65) E dX10_goNote_183 (by decide) ?_
          refine s_drop (i := 5) (L2 := [some (AR 95), some (AI x1), some (AI x2), some (AI q77_5_65), some (AI z_74), none, some (AI q77_6_65), none]) rfl ?_
          refine s_drop (i := 6) (L2 := [some (AR 95), some (AI x1), some (AI x2), some (AI q77_5_65), some (AI z_74), none, none, none]) rfl ?_
          exact ih65 ⟨q77_5_65, z_74⟩ (upI v77 106 q65_4_63.toNatClampNeg q77_5_65) ⟨⟨by have hb_ := z32 z_74; omega, by have hb_ := z32 z_74; omega⟩, (gn_nextW hl77 (by omega)), ((upI_ne (show 95 ≠ 106 by decide)).trans hf77_95), ((upI_ne (show 96 ≠ 106 by decide)).trans hf77_96), (show ((upI v77 106 q65_4_63.toNatClampNeg q77_5_65).2.2.2) = (w.2.2.2) from hf77_L), hj_73⟩ (by first | omega | decide | (dsimp only; omega) | (dsimp only; decide))
        ·
          refine s_aload_n E dX10_goNote_86 rfl rfl ?_
          refine s_gI E fg_X10_270 rfl rfl (jv_lt hj_66 (by decide)) dX10_goNote_87 ?_
          refine z_nm (P := fun z => z.toInt = (v77.2.2.1 95 24).toInt ∧ (-2147483648) ≤ z.toInt ∧ z.toInt ≤ 2147483647) ⟨rfl, z32 _⟩ (fun z_75 hz_75 => ?_)
          refine s_iload E dX10_goNote_90 rfl ?_
          refine s_sI (As := [AI z_75, AI q65_4_63]) (S := []) E (Z_X10_bit l D aC b v77 z_75 q65_4_63 hj_66.1 ) cs_X10_252 rfl rfl (Nat.le_of_ble_eq_true rfl) (Nat.le_of_ble_eq_true rfl) ⟨(Nat.le_of_ble_eq_true rfl), (Nat.le_of_ble_eq_true rfl)⟩ (Nat.le_of_ble_eq_true rfl) dX10_goNote_92 (fun z_78 u_76 hp_77 => ?_)
          obtain ⟨hz_78, hxz_78, hp_77⟩ := hp_77
          subst hp_77
          refine z_if_ne (tgt := 169) (u := z_78.toInt) E dX10_goNote_95 (by decide) rfl (fun h_80 => ?_) (fun h_80 => ?_)
          ·
            refine s_iload E dX10_goNote_169 rfl ?_
            refine s_istore_n (L2 := [some (AR 95), some (AI x1), some (AI x2), some (AI q77_5_65), some (AI q65_4_63), some (AI q77_5_65), some (AI q77_6_65), none]) E dX10_goNote_171 rfl (by decide) rfl ?_
            refine s_aload_n E dX10_goNote_172 rfl rfl ?_
            refine s_gR (r := 106) E fg_X10_46 rfl rfl (jv_lt hj_66 (by decide)) (jv_r hj_66 (by decide +kernel)) dX10_goNote_173 ?_
            refine s_iload E dX10_goNote_176 rfl ?_
            refine s_iload_n E dX10_goNote_178 rfl rfl ?_
            refine s_iast E rfl (jv_lt hj_66 (by decide)) (z_in (u := q65_4_63.toInt) rfl (by omega) (by omega)) dX10_goNote_179 ?_
            have hj_82 : Jv w (upI v77 106 q65_4_63.toNatClampNeg q77_5_65) := (jv_a_106 hj_66 (by have hb_ := z32 q77_5_65; omega) (by have hb_ := z32 q77_5_65; omega))
            refine z_iinc (u := q65_4_63.toInt) (L2 := fun z_83 => [some (AR 95), some (AI x1), some (AI x2), some (AI q77_5_65), some (AI z_83), some (AI q77_5_65), some (AI q77_6_65), none]) E dX10_goNote_180 rfl rfl (by decide) (fun _ => rfl) (by decide) (by omega) (by omega) (fun z_83 hz_83 => ?_)
            refine s_goto (tgt := 65) E dX10_goNote_183 (by decide) ?_
            refine s_drop (i := 5) (L2 := [some (AR 95), some (AI x1), some (AI x2), some (AI q77_5_65), some (AI z_83), none, some (AI q77_6_65), none]) rfl ?_
            refine s_drop (i := 6) (L2 := [some (AR 95), some (AI x1), some (AI x2), some (AI q77_5_65), some (AI z_83), none, none, none]) rfl ?_
            exact ih65 ⟨q77_5_65, z_83⟩ (upI v77 106 q65_4_63.toNatClampNeg q77_5_65) ⟨⟨by have hb_ := z32 z_83; omega, by have hb_ := z32 z_83; omega⟩, (gn_nextW hl77 (by omega)), ((upI_ne (show 95 ≠ 106 by decide)).trans hf77_95), ((upI_ne (show 96 ≠ 106 by decide)).trans hf77_96), (show ((upI v77 106 q65_4_63.toNatClampNeg q77_5_65).2.2.2) = (w.2.2.2) from hf77_L), hj_82⟩ (by first | omega | decide | (dsimp only; omega) | (dsimp only; decide))
          ·
            refine s_iload_n E dX10_goNote_98 rfl rfl ?_
            refine s_aload_n E dX10_goNote_99 rfl rfl ?_
            refine s_gI E fg_X10_264 rfl rfl (jv_lt hj_66 (by decide)) dX10_goNote_100 ?_
            refine z_nm (P := fun z => z.toInt = (v77.2.2.1 95 21).toInt ∧ (-2147483648) ≤ z.toInt ∧ z.toInt ≤ 2147483647) ⟨rfl, z32 _⟩ (fun z_84 hz_84 => ?_)
            refine s_ior E dX10_goNote_103 ?_
            refine z_nm (P := fun z => z = q65_3_63 ||| z_84 ∧ (-2147483648) ≤ z.toInt ∧ z.toInt ≤ 2147483647) ⟨rfl, z32 _⟩ (fun z_85 hz_85 => ?_)
            refine s_iload E dX10_goNote_104 rfl ?_
            refine s_sI (As := [AI z_85, AI q77_6_65]) (S := []) E (Z_X10_bit l D aC b v77 z_85 q77_6_65 hj_66.1 ) cs_X10_252 rfl rfl (Nat.le_of_ble_eq_true rfl) (Nat.le_of_ble_eq_true rfl) ⟨(Nat.le_of_ble_eq_true rfl), (Nat.le_of_ble_eq_true rfl)⟩ (Nat.le_of_ble_eq_true rfl) dX10_goNote_106 (fun z_88 u_86 hp_87 => ?_)
            obtain ⟨hz_88, hxz_88, hp_87⟩ := hp_87
            subst hp_87
            have hb106 := hxz_88 (by omega) (by omega)
            refine s_iconst (v := 1) E dX10_goNote_109 (by decide) ?_
            refine z_icmp_ne (tgt := 116) (u := z_88.toInt) (v := 1) E dX10_goNote_110 (by decide) rfl (by decide) (fun h_90 => ?_) (fun h_90 => ?_)
            ·
              replace hb106 : ¬ bt q65_3_63 q77_6_65.toInt.toNat = true := y_nb hb106 (by omega) (by assumption)
              refine s_aload_n E dX10_goNote_116 rfl rfl ?_
              refine s_iload E dX10_goNote_117 rfl ?_
              refine s_iload_n E dX10_goNote_119 rfl rfl ?_
              refine s_iload E dX10_goNote_120 rfl ?_
              refine s_vI (As := [AI q77_6_65, AI q65_3_63, AI q65_4_63]) (S := []) E (Z_X10_giverTo_95 l D aC b v77 q77_6_65 q65_3_63 q65_4_63 hj_66.1 ⟨by have hb_ := z32 q77_6_65; omega, by have hb_ := z32 q77_6_65; omega⟩ ⟨by have hb_ := z32 q65_4_63; omega, by have hb_ := z32 q65_4_63; omega⟩) cv_X10_332 rfl rfl rfl (jv_lt hj_66 (by decide)) (Nat.le_of_ble_eq_true rfl) (Nat.le_of_ble_eq_true rfl) ⟨(Nat.le_of_ble_eq_true rfl), (Nat.le_of_ble_eq_true rfl)⟩ (Nat.le_of_ble_eq_true rfl) dX10_goNote_122 (fun z_93 u_91 hp_92 => ?_)
              obtain ⟨hz_93, hxz_93, hp_92⟩ := hp_92
              subst hp_92
              have hx122 := hxz_93
              refine s_istore (L2 := [some (AR 95), some (AI x1), some (AI x2), some (AI q65_3_63), some (AI q65_4_63), some (AI q77_5_65), some (AI q77_6_65), some (AI z_93)]) E dX10_goNote_125 (by decide) rfl ?_
              refine s_iload E dX10_goNote_127 rfl ?_
              refine s_iconst (v := (-1)) E dX10_goNote_129 (by decide) ?_
              refine z_icmp_ne (tgt := 136) (u := z_93.toInt) (v := (-1)) E dX10_goNote_130 (by decide) rfl (by decide) (fun h_95 => ?_) (fun h_95 => ?_)
              ·
                have hg122 : 0 ≤ z_93.toInt ∧ z_93.toInt ≤ 5 ∧ bt q65_3_63 z_93.toInt.toNat = true := hx122.resolve_left (by omega)
                refine s_iload E dX10_goNote_136 rfl ?_
                refine s_iconst (v := 1) E dX10_goNote_138 (by decide) ?_
                refine s_iload E dX10_goNote_139 rfl ?_
                refine s_ishl E dX10_goNote_141 ?_
                refine z_nm (P := fun z => z = 1 <<< (q77_6_65 &&& 31) ∧ 1 ≤ z.toInt ∧ z.toInt ≤ 32) ⟨rfl, y_shl1 5 (by omega) (by omega) (by decide) (by decide)⟩ (fun z_96 hz_96 => ?_)
                refine s_ior E dX10_goNote_142 ?_
                refine z_nm (P := fun z => z = q77_5_65 ||| z_96 ∧ (-2147483648) ≤ z.toInt ∧ z.toInt ≤ 2147483647) ⟨rfl, z32 _⟩ (fun z_97 hz_97 => ?_)
                refine s_istore (L2 := [some (AR 95), some (AI x1), some (AI x2), some (AI q65_3_63), some (AI q65_4_63), some (AI z_97), some (AI q77_6_65), some (AI z_93)]) E dX10_goNote_143 (by decide) rfl ?_
                refine s_aload_n E dX10_goNote_145 rfl rfl ?_
                refine s_gR (r := 107) E fg_X10_49 rfl rfl (jv_lt hj_66 (by decide)) (jv_r hj_66 (by decide +kernel)) dX10_goNote_146 ?_
                refine s_iload E dX10_goNote_149 rfl ?_
                refine s_iload E dX10_goNote_151 rfl ?_
                refine s_iast E rfl (jv_lt hj_66 (by decide)) (z_in (u := q77_6_65.toInt) rfl (by omega) (by omega)) dX10_goNote_153 ?_
                have hj_99 : Jv w (upI v77 107 q77_6_65.toNatClampNeg q65_4_63) := (jv_a_107 hj_66 (by have hb_ := z32 q65_4_63; omega) (by have hb_ := z32 q65_4_63; omega))
                refine s_aload_n E dX10_goNote_154 rfl rfl ?_
                refine s_gR (r := 108) E fg_X10_52 rfl rfl (jv_lt hj_99 (by decide)) (jv_r hj_99 (by decide +kernel)) dX10_goNote_155 ?_
                refine s_iload E dX10_goNote_158 rfl ?_
                refine s_iload E dX10_goNote_160 rfl ?_
                refine s_iast E rfl (jv_lt hj_99 (by decide)) (z_in (u := q77_6_65.toInt) rfl (by omega) (by omega)) dX10_goNote_162 ?_
                have hj_101 : Jv w (upI (upI v77 107 q77_6_65.toNatClampNeg q65_4_63) 108 q77_6_65.toNatClampNeg z_93) := (jv_a_108 hj_99 (by have hb_ := z32 z_93; omega) (by have hb_ := z32 z_93; omega))
                refine z_iinc (u := q77_6_65.toInt) (L2 := fun z_102 => [some (AR 95), some (AI x1), some (AI x2), some (AI q65_3_63), some (AI q65_4_63), some (AI z_97), some (AI z_102), some (AI z_93)]) E dX10_goNote_163 rfl rfl (by decide) (fun _ => rfl) (by decide) (by omega) (by omega) (fun z_102 hz_102 => ?_)
                refine s_goto (tgt := 77) E dX10_goNote_166 (by decide) ?_
                refine s_drop (i := 7) (L2 := [some (AR 95), some (AI x1), some (AI x2), some (AI q65_3_63), some (AI q65_4_63), some (AI z_97), some (AI z_102), none]) rfl ?_
                exact ih77 ⟨z_97, z_102⟩ (upI (upI v77 107 q77_6_65.toNatClampNeg q65_4_63) 108 q77_6_65.toNatClampNeg z_93) ⟨⟨by have hb_ := z32 z_102; omega, by have hb_ := z32 z_102; omega⟩, (by first | exact hl77 | exact gi_upW hl77 (by omega) (by omega) (by omega) hb106 hg122 (by assumption) (by assumption)), ((upI_ne (show 95 ≠ 108 by decide)).trans ((upI_ne (show 95 ≠ 107 by decide)).trans hf77_95)), ((upI_ne (show 96 ≠ 108 by decide)).trans ((upI_ne (show 96 ≠ 107 by decide)).trans hf77_96)), (show ((upI (upI v77 107 q77_6_65.toNatClampNeg q65_4_63) 108 q77_6_65.toNatClampNeg z_93).2.2.2) = (w.2.2.2) from (show ((upI v77 107 q77_6_65.toNatClampNeg q65_4_63).2.2.2) = (w.2.2.2) from hf77_L)), hj_101⟩ (by first | omega | decide | (dsimp only; omega) | (dsimp only; decide))
              ·
                refine s_goto (tgt := 163) E dX10_goNote_133 (by decide) ?_
                refine z_iinc (u := q77_6_65.toInt) (L2 := fun z_103 => [some (AR 95), some (AI x1), some (AI x2), some (AI q65_3_63), some (AI q65_4_63), some (AI q77_5_65), some (AI z_103), some (AI z_93)]) E dX10_goNote_163 rfl rfl (by decide) (fun _ => rfl) (by decide) (by omega) (by omega) (fun z_103 hz_103 => ?_)
                refine s_goto (tgt := 77) E dX10_goNote_166 (by decide) ?_
                refine s_drop (i := 7) (L2 := [some (AR 95), some (AI x1), some (AI x2), some (AI q65_3_63), some (AI q65_4_63), some (AI q77_5_65), some (AI z_103), none]) rfl ?_
                exact ih77 ⟨q77_5_65, z_103⟩ v77 ⟨⟨by have hb_ := z32 z_103; omega, by have hb_ := z32 z_103; omega⟩, (by first | exact hl77 | exact gi_upW hl77 (by omega) (by omega) (by omega) hb106 hg122 (by assumption) (by assumption)), hf77_95, hf77_96, hf77_L, hj_66⟩ (by first | omega | decide | (dsimp only; omega) | (dsimp only; decide))
            ·
              refine s_goto (tgt := 163) E dX10_goNote_113 (by decide) ?_
              refine z_iinc (u := q77_6_65.toInt) (L2 := fun z_104 => [some (AR 95), some (AI x1), some (AI x2), some (AI q65_3_63), some (AI q65_4_63), some (AI q77_5_65), some (AI z_104), none]) E dX10_goNote_163 rfl rfl (by decide) (fun _ => rfl) (by decide) (by omega) (by omega) (fun z_104 hz_104 => ?_)
              refine s_goto (tgt := 77) E dX10_goNote_166 (by decide) ?_
              exact ih77 ⟨q77_5_65, z_104⟩ v77 ⟨⟨by have hb_ := z32 z_104; omega, by have hb_ := z32 z_104; omega⟩, (by first | exact hl77 | exact gi_upW hl77 (by omega) (by omega) (by omega) hb106 hg122 (by assumption) (by assumption)), hf77_95, hf77_96, hf77_L, hj_66⟩ (by first | omega | decide | (dsimp only; omega) | (dsimp only; decide))
    ·
      refine s_aload_n E dX10_goNote_30 rfl rfl ?_
      refine s_gR (r := 107) E fg_X10_49 rfl rfl (jv_lt hj_62 (by decide)) (jv_r hj_62 (by decide +kernel)) dX10_goNote_31 ?_
      refine s_iload E dX10_goNote_34 rfl ?_
      refine s_iload E dX10_goNote_36 rfl ?_
      refine s_iload_n E dX10_goNote_38 rfl rfl ?_
      refine z_icmp_ne (tgt := 46) (u := q23_4_61.toInt) (v := x1.toInt) E dX10_goNote_39 (by decide) rfl rfl (fun h_105 => ?_) (fun h_105 => ?_)
      ·
        refine s_iconst (v := (-1)) E dX10_goNote_46 (by decide) ?_
        refine s_iast E rfl (jv_lt hj_62 (by decide)) (z_in (u := q23_4_61.toInt) rfl (by omega) (by omega)) dX10_goNote_47 ?_
        have hj_107 : Jv w (upI v23 107 q23_4_61.toNatClampNeg (-1)) := (jv_a_107 hj_62 (by decide) (by decide))
        refine s_aload_n E dX10_goNote_48 rfl rfl ?_
        refine s_gR (r := 108) E fg_X10_52 rfl rfl (jv_lt hj_107 (by decide)) (jv_r hj_107 (by decide +kernel)) dX10_goNote_49 ?_
        refine s_iload E dX10_goNote_52 rfl ?_
        refine s_iconst (v := (-1)) E dX10_goNote_54 (by decide) ?_
        refine s_iast E rfl (jv_lt hj_107 (by decide)) (z_in (u := q23_4_61.toInt) rfl (by omega) (by omega)) dX10_goNote_55 ?_
        have hj_109 : Jv w (upI (upI v23 107 q23_4_61.toNatClampNeg (-1)) 108 q23_4_61.toNatClampNeg (-1)) := (jv_a_108 hj_107 (by decide) (by decide))
        refine z_iinc (u := q23_4_61.toInt) (L2 := fun z_110 => [some (AR 95), some (AI x1), some (AI x2), some (AI 0), some (AI z_110), none, none, none]) E dX10_goNote_56 rfl rfl (by decide) (fun _ => rfl) (by decide) (by omega) (by omega) (fun z_110 hz_110 => ?_)
        refine s_goto (tgt := 23) E dX10_goNote_59 (by decide) ?_
        exact ih23 z_110 (upI (upI v23 107 q23_4_61.toNatClampNeg (-1)) 108 q23_4_61.toNatClampNeg (-1)) ⟨⟨by have hb_ := z32 z_110; omega, by have hb_ := z32 z_110; omega⟩, (gn0_W hl23 (by omega) (by first | exact Or.inl (by omega) | exact Or.inr (by decide)) (by omega)), ((upI_ne (show 95 ≠ 108 by decide)).trans ((upI_ne (show 95 ≠ 107 by decide)).trans hf23_95)), ((upI_ne (show 96 ≠ 108 by decide)).trans ((upI_ne (show 96 ≠ 107 by decide)).trans hf23_96)), (show ((upI (upI v23 107 q23_4_61.toNatClampNeg (-1)) 108 q23_4_61.toNatClampNeg (-1)).2.2.2) = (w.2.2.2) from (show ((upI v23 107 q23_4_61.toNatClampNeg (-1)).2.2.2) = (w.2.2.2) from hf23_L)), hj_109⟩ (by first | omega | decide | (dsimp only; omega) | (dsimp only; decide))
      ·
        refine s_iconst (v := 0) E dX10_goNote_42 (by decide) ?_
        refine s_goto (tgt := 47) E dX10_goNote_43 (by decide) ?_
        refine s_iast E rfl (jv_lt hj_62 (by decide)) (z_in (u := q23_4_61.toInt) rfl (by omega) (by omega)) dX10_goNote_47 ?_
        have hj_112 : Jv w (upI v23 107 q23_4_61.toNatClampNeg 0) := (jv_a_107 hj_62 (by decide) (by decide))
        refine s_aload_n E dX10_goNote_48 rfl rfl ?_
        refine s_gR (r := 108) E fg_X10_52 rfl rfl (jv_lt hj_112 (by decide)) (jv_r hj_112 (by decide +kernel)) dX10_goNote_49 ?_
        refine s_iload E dX10_goNote_52 rfl ?_
        refine s_iconst (v := (-1)) E dX10_goNote_54 (by decide) ?_
        refine s_iast E rfl (jv_lt hj_112 (by decide)) (z_in (u := q23_4_61.toInt) rfl (by omega) (by omega)) dX10_goNote_55 ?_
        have hj_114 : Jv w (upI (upI v23 107 q23_4_61.toNatClampNeg 0) 108 q23_4_61.toNatClampNeg (-1)) := (jv_a_108 hj_112 (by decide) (by decide))
        refine z_iinc (u := q23_4_61.toInt) (L2 := fun z_115 => [some (AR 95), some (AI x1), some (AI x2), some (AI 0), some (AI z_115), none, none, none]) E dX10_goNote_56 rfl rfl (by decide) (fun _ => rfl) (by decide) (by omega) (by omega) (fun z_115 hz_115 => ?_)
        refine s_goto (tgt := 23) E dX10_goNote_59 (by decide) ?_
        exact ih23 z_115 (upI (upI v23 107 q23_4_61.toNatClampNeg 0) 108 q23_4_61.toNatClampNeg (-1)) ⟨⟨by have hb_ := z32 z_115; omega, by have hb_ := z32 z_115; omega⟩, (gn0_W hl23 (by omega) (by first | exact Or.inl (by omega) | exact Or.inr (by decide)) (by omega)), ((upI_ne (show 95 ≠ 108 by decide)).trans ((upI_ne (show 95 ≠ 107 by decide)).trans hf23_95)), ((upI_ne (show 96 ≠ 108 by decide)).trans ((upI_ne (show 96 ≠ 107 by decide)).trans hf23_96)), (show ((upI (upI v23 107 q23_4_61.toNatClampNeg 0) 108 q23_4_61.toNatClampNeg (-1)).2.2.2) = (w.2.2.2) from (show ((upI v23 107 q23_4_61.toNatClampNeg 0).2.2.2) = (w.2.2.2) from hf23_L)), hj_114⟩ (by first | omega | decide | (dsimp only; omega) | (dsimp only; decide))
