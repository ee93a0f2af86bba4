set_option maxRecDepth 20000 in
set_option maxHeartbeats 2000000 in
theorem Z_X10_paste_95 (l : Launch) (D : va_G) (aC : Nat → ClassId) (b : Nat) (w : XW) (x1 : Int32) (x2 : Int32) (x3 : Int32) (x4 : Int32) (x5 : Int32) (hI : Iv w)  : CnI l D aC b M_X10_paste 2 45 0 0 [AR 95, AI x1, AI x2, AI x3, AI x4, AI x5] w (fun r u => ((-8) ≤ r.toInt ∧ r.toInt ≤ 0 ∧ (¬ r.toInt = 0 ∨ (0 ≤ x1.toInt ∧ x1.toInt ≤ 3)) ∧ (¬ r.toInt = 0 ∨ (0 ≤ x2.toInt ∧ x2.toInt ≤ 60)) ∧ (¬ r.toInt = 0 ∨ (0 ≤ x3.toInt ∧ x3.toInt ≤ 3)) ∧ (¬ r.toInt = 0 ∨ (0 ≤ x4.toInt ∧ x4.toInt ≤ 60)) ∧ (¬ r.toInt = 0 ∨ (0 ≤ x5.toInt ∧ x5.toInt ≤ 60))) ∧ ((¬ ((0 ≤ x1.toInt ∧ x1.toInt ≤ 3) ∧ 0 ≤ x3.toInt ∧ x3.toInt ≤ 3) ∧ r.toInt = -2) ∨ (((0 ≤ x1.toInt ∧ x1.toInt ≤ 3) ∧ 0 ≤ x3.toInt ∧ x3.toInt ≤ 3) ∧ ((((w.2.2.1 112 x1.toNatClampNeg).toInt < 0 ∨ (w.2.2.1 112 x3.toNatClampNeg).toInt < 0) ∧ r.toInt = -6) ∨ (0 ≤ (w.2.2.1 112 x1.toNatClampNeg).toInt ∧ 0 ≤ (w.2.2.1 112 x3.toNatClampNeg).toInt ∧ ((¬ (w.2.2.1 113 x1.toNatClampNeg).toInt = (w.2.2.1 113 x3.toNatClampNeg).toInt ∧ r.toInt = -8) ∨ ((w.2.2.1 113 x1.toNatClampNeg).toInt = (w.2.2.1 113 x3.toNatClampNeg).toInt ∧ ((¬ (0 ≤ x2.toInt ∧ 0 ≤ x5.toInt ∧ x2.toInt + x5.toInt ≤ (w.2.2.1 112 x1.toNatClampNeg).toInt ∧ 0 ≤ x4.toInt ∧ x4.toInt + x5.toInt ≤ (w.2.2.1 112 x3.toNatClampNeg).toInt) ∧ r.toInt = -7) ∨ ((0 ≤ x2.toInt ∧ 0 ≤ x5.toInt ∧ x2.toInt + x5.toInt ≤ (w.2.2.1 112 x1.toNatClampNeg).toInt ∧ 0 ≤ x4.toInt ∧ x4.toInt + x5.toInt ≤ (w.2.2.1 112 x3.toNatClampNeg).toInt) ∧ r.toInt = 0)))))))) ∧ Jn w u) := by
  refine cn_I (own := RX10) (nm := "paste") (L0 := [some (AR 95), some (AI x1), some (AI x2), some (AI x3), some (AI x4), some (AI x5), none]) (by decide +kernel) rfl rfl (Nat.le_of_ble_eq_true rfl) rfl ?_
  intro p e s m args below meth c E hin
  have hJ : Jv w w := jv_rfl hI
  have hb_x1 := z32 x1
  have hb_x2 := z32 x2
  have hb_x3 := z32 x3
  have hb_x4 := z32 x4
  have hb_x5 := z32 x5
  refine s_iload_n E dX10_paste_0 rfl rfl ?_
  refine s_sI (As := [AI x1]) (S := []) E (Z_X10_isSlot l D aC b w x1 hJ.1 ) cs_X10_375 rfl rfl (Nat.le_of_ble_eq_true rfl) (Nat.le_of_ble_eq_true rfl) ⟨(Nat.le_of_ble_eq_true rfl), (Nat.le_of_ble_eq_true rfl)⟩ (Nat.le_of_ble_eq_true rfl) dX10_paste_1 (fun z_3 u_1 hp_2 => ?_)
  obtain ⟨hz_3, hxz_3, hp_2⟩ := hp_2
  subst hp_2
  refine z_if_eq (tgt := 14) (u := z_3.toInt) E dX10_paste_4 (by decide) rfl (fun h_5 => ?_) (fun h_5 => ?_)
  ·
    refine s_bipush (v := (-2)) E dX10_paste_14 (by decide) ?_
    exact r_int E dX10_paste_16 ⟨⟨by decide, by decide, by first | (left; decide) | (right; decide) | (right; have hb_ := z32 x1; omega), by first | (left; decide) | (right; decide) | (right; have hb_ := z32 x2; omega), by first | (left; decide) | (right; decide) | (right; have hb_ := z32 x3; omega), by first | (left; decide) | (right; decide) | (right; have hb_ := z32 x4; omega), by first | (left; decide) | (right; decide) | (right; have hb_ := z32 x5; omega)⟩, (by have hrc_ : ((-2) : Int32).toInt = (-2) := (by decide); omega), (jn_of hJ)⟩
  ·
    refine s_iload_n E dX10_paste_7 rfl rfl ?_
    refine s_sI (As := [AI x3]) (S := []) E (Z_X10_isSlot l D aC b w x3 hJ.1 ) cs_X10_375 rfl rfl (Nat.le_of_ble_eq_true rfl) (Nat.le_of_ble_eq_true rfl) ⟨(Nat.le_of_ble_eq_true rfl), (Nat.le_of_ble_eq_true rfl)⟩ (Nat.le_of_ble_eq_true rfl) dX10_paste_8 (fun z_8 u_6 hp_7 => ?_)
    obtain ⟨hz_8, hxz_8, hp_7⟩ := hp_7
    subst hp_7
    refine z_if_ne (tgt := 17) (u := z_8.toInt) E dX10_paste_11 (by decide) rfl (fun h_10 => ?_) (fun h_10 => ?_)
    ·
      refine s_aload_n E dX10_paste_17 rfl rfl ?_
      refine s_gR (r := 112) E fg_X10_64 rfl rfl (jv_lt hJ (by decide)) (jv_r hJ (by decide +kernel)) dX10_paste_18 ?_
      refine s_iload_n E dX10_paste_21 rfl rfl ?_
      refine s_iald E rfl (jv_lt hJ (by decide)) (z_in (u := x1.toInt) rfl (by omega) (by omega)) dX10_paste_22 ?_
      refine z_nm (P := fun z => z.toInt = (w.2.2.1 112 x1.toNatClampNeg).toInt ∧ (-1) ≤ z.toInt ∧ z.toInt ≤ 60) ⟨(jv_k hJ (by decide) _), (ra_112 hJ _)⟩ (fun z_11 hz_11 => ?_)
      refine s_iconst (v := (-1)) E dX10_paste_23 (by decide) ?_
      refine z_icmp_eq (tgt := 37) (u := z_11.toInt) (v := (-1)) E dX10_paste_24 (by decide) rfl (by decide) (fun h_12 => ?_) (fun h_12 => ?_)
      ·
        refine s_bipush (v := (-6)) E dX10_paste_37 (by decide) ?_
        exact r_int E dX10_paste_39 ⟨⟨by decide, by decide, by first | (left; decide) | (right; decide) | (right; have hb_ := z32 x1; omega), by first | (left; decide) | (right; decide) | (right; have hb_ := z32 x2; omega), by first | (left; decide) | (right; decide) | (right; have hb_ := z32 x3; omega), by first | (left; decide) | (right; decide) | (right; have hb_ := z32 x4; omega), by first | (left; decide) | (right; decide) | (right; have hb_ := z32 x5; omega)⟩, (by have hrc_ : ((-6) : Int32).toInt = (-6) := (by decide); omega), (jn_of hJ)⟩
      ·
        refine s_aload_n E dX10_paste_27 rfl rfl ?_
        refine s_gR (r := 112) E fg_X10_64 rfl rfl (jv_lt hJ (by decide)) (jv_r hJ (by decide +kernel)) dX10_paste_28 ?_
        refine s_iload_n E dX10_paste_31 rfl rfl ?_
        refine s_iald E rfl (jv_lt hJ (by decide)) (z_in (u := x3.toInt) rfl (by omega) (by omega)) dX10_paste_32 ?_
        refine z_nm (P := fun z => z.toInt = (w.2.2.1 112 x3.toNatClampNeg).toInt ∧ (-1) ≤ z.toInt ∧ z.toInt ≤ 60) ⟨(jv_k hJ (by decide) _), (ra_112 hJ _)⟩ (fun z_13 hz_13 => ?_)
        refine s_iconst (v := (-1)) E dX10_paste_33 (by decide) ?_
        refine z_icmp_ne (tgt := 40) (u := z_13.toInt) (v := (-1)) E dX10_paste_34 (by decide) rfl (by decide) (fun h_14 => ?_) (fun h_14 => ?_)
        ·
          refine s_aload_n E dX10_paste_40 rfl rfl ?_
          refine s_gR (r := 113) E fg_X10_67 rfl rfl (jv_lt hJ (by decide)) (jv_r hJ (by decide +kernel)) dX10_paste_41 ?_
          refine s_iload_n E dX10_paste_44 rfl rfl ?_
          refine s_iald E rfl (jv_lt hJ (by decide)) (z_in (u := x1.toInt) rfl (by omega) (by omega)) dX10_paste_45 ?_
          refine z_nm (P := fun z => z.toInt = (w.2.2.1 113 x1.toNatClampNeg).toInt ∧ 0 ≤ z.toInt ∧ z.toInt ≤ 3) ⟨(jv_k hJ (by decide) _), (ra_113 hJ _)⟩ (fun z_15 hz_15 => ?_)
          refine s_aload_n E dX10_paste_46 rfl rfl ?_
          refine s_gR (r := 113) E fg_X10_67 rfl rfl (jv_lt hJ (by decide)) (jv_r hJ (by decide +kernel)) dX10_paste_47 ?_
          refine s_iload_n E dX10_paste_50 rfl rfl ?_
          refine s_iald E rfl (jv_lt hJ (by decide)) (z_in (u := x3.toInt) rfl (by omega) (by omega)) dX10_paste_51 ?_
          refine z_nm (P := fun z => z.toInt = (w.2.2.1 113 x3.toNatClampNeg).toInt ∧ 0 ≤ z.toInt ∧ z.toInt ≤ 3) ⟨(jv_k hJ (by decide) _), (ra_113 hJ _)⟩ (fun z_16 hz_16 => ?_)
          refine z_icmp_eq (tgt := 58) (u := z_15.toInt) (v := z_16.toInt) E dX10_paste_52 (by decide) rfl rfl (fun h_17 => ?_) (fun h_17 => ?_)
          ·
            refine s_iload_n E dX10_paste_58 rfl rfl ?_
            refine z_if_lt (tgt := 107) (u := x2.toInt) E dX10_paste_59 (by decide) rfl (fun h_18 => ?_) (fun h_18 => ?_)
            ·
              refine s_bipush (v := (-7)) E dX10_paste_107 (by decide) ?_
              exact r_int E dX10_paste_109 ⟨⟨by decide, by decide, by first | (left; decide) | (right; decide) | (right; have hb_ := z32 x1; omega), by first | (left; decide) | (right; decide) | (right; have hb_ := z32 x2; omega), by first | (left; decide) | (right; decide) | (right; have hb_ := z32 x3; omega), by first | (left; decide) | (right; decide) | (right; have hb_ := z32 x4; omega), by first | (left; decide) | (right; decide) | (right; have hb_ := z32 x5; omega)⟩, (by have hrc_ : ((-7) : Int32).toInt = (-7) := (by decide); omega), (jn_of hJ)⟩
            ·
              refine s_iload E dX10_paste_62 rfl ?_
              refine z_if_lt (tgt := 107) (u := x4.toInt) E dX10_paste_64 (by decide) rfl (fun h_19 => ?_) (fun h_19 => ?_)
              ·
                refine s_bipush (v := (-7)) E dX10_paste_107 (by decide) ?_
                exact r_int E dX10_paste_109 ⟨⟨by decide, by decide, by first | (left; decide) | (right; decide) | (right; have hb_ := z32 x1; omega), by first | (left; decide) | (right; decide) | (right; have hb_ := z32 x2; omega), by first | (left; decide) | (right; decide) | (right; have hb_ := z32 x3; omega), by first | (left; decide) | (right; decide) | (right; have hb_ := z32 x4; omega), by first | (left; decide) | (right; decide) | (right; have hb_ := z32 x5; omega)⟩, (by have hrc_ : ((-7) : Int32).toInt = (-7) := (by decide); omega), (jn_of hJ)⟩
              ·
                refine s_iload E dX10_paste_67 rfl ?_
                refine z_if_lt (tgt := 107) (u := x5.toInt) E dX10_paste_69 (by decide) rfl (fun h_20 => ?_) (fun h_20 => ?_)
                ·
                  refine s_bipush (v := (-7)) E dX10_paste_107 (by decide) ?_
                  exact r_int E dX10_paste_109 ⟨⟨by decide, by decide, by first | (left; decide) | (right; decide) | (right; have hb_ := z32 x1; omega), by first | (left; decide) | (right; decide) | (right; have hb_ := z32 x2; omega), by first | (left; decide) | (right; decide) | (right; have hb_ := z32 x3; omega), by first | (left; decide) | (right; decide) | (right; have hb_ := z32 x4; omega), by first | (left; decide) | (right; decide) | (right; have hb_ := z32 x5; omega)⟩, (by have hrc_ : ((-7) : Int32).toInt = (-7) := (by decide); omega), (jn_of hJ)⟩
                ·
                  refine s_iload_n E dX10_paste_72 rfl rfl ?_
                  refine z_i2l (u := x2.toInt) E dX10_paste_73 rfl (fun z_21 hz_21 => ?_)
                  refine s_iload E dX10_paste_74 rfl ?_
                  refine z_i2l (u := x5.toInt) E dX10_paste_76 rfl (fun z_22 hz_22 => ?_)
                  refine z_ladd (u := z_21.toInt) (v := z_22.toInt) E dX10_paste_77 rfl rfl (by omega) (by omega) (fun z_23 hz_23 => ?_)
                  refine s_aload_n E dX10_paste_78 rfl rfl ?_
                  refine s_gR (r := 112) E fg_X10_64 rfl rfl (jv_lt hJ (by decide)) (jv_r hJ (by decide +kernel)) dX10_paste_79 ?_
                  refine s_iload_n E dX10_paste_82 rfl rfl ?_
                  refine s_iald E rfl (jv_lt hJ (by decide)) (z_in (u := x1.toInt) rfl (by omega) (by omega)) dX10_paste_83 ?_
                  refine z_nm (P := fun z => z.toInt = (w.2.2.1 112 x1.toNatClampNeg).toInt ∧ (-1) ≤ z.toInt ∧ z.toInt ≤ 60) ⟨(jv_k hJ (by decide) _), (ra_112 hJ _)⟩ (fun z_24 hz_24 => ?_)
                  refine z_i2l (u := z_24.toInt) E dX10_paste_84 rfl (fun z_25 hz_25 => ?_)
                  refine z_lcmp (u := z_23.toInt) (v := z_25.toInt) E dX10_paste_85 rfl rfl (fun z_26 hz_26 => ?_)
                  refine z_if_gt (tgt := 107) (u := z_26.toInt) E dX10_paste_86 (by decide) rfl (fun h_27 => ?_) (fun h_27 => ?_)
                  ·
                    refine s_bipush (v := (-7)) E dX10_paste_107 (by decide) ?_
                    exact r_int E dX10_paste_109 ⟨⟨by decide, by decide, by first | (left; decide) | (right; decide) | (right; have hb_ := z32 x1; omega), by first | (left; decide) | (right; decide) | (right; have hb_ := z32 x2; omega), by first | (left; decide) | (right; decide) | (right; have hb_ := z32 x3; omega), by first | (left; decide) | (right; decide) | (right; have hb_ := z32 x4; omega), by first | (left; decide) | (right; decide) | (right; have hb_ := z32 x5; omega)⟩, (by have hrc_ : ((-7) : Int32).toInt = (-7) := (by decide); omega), (jn_of hJ)⟩
                  ·
                    refine s_iload E dX10_paste_89 rfl ?_
                    refine z_i2l (u := x4.toInt) E dX10_paste_91 rfl (fun z_28 hz_28 => ?_)
                    refine s_iload E dX10_paste_92 rfl ?_
                    refine z_i2l (u := x5.toInt) E dX10_paste_94 rfl (fun z_29 hz_29 => ?_)
                    refine z_ladd (u := z_28.toInt) (v := z_29.toInt) E dX10_paste_95 rfl rfl (by omega) (by omega) (fun z_30 hz_30 => ?_)
                    refine s_aload_n E dX10_paste_96 rfl rfl ?_
                    refine s_gR (r := 112) E fg_X10_64 rfl rfl (jv_lt hJ (by decide)) (jv_r hJ (by decide +kernel)) dX10_paste_97 ?_
                    refine s_iload_n E dX10_paste_100 rfl rfl ?_
                    refine s_iald E rfl (jv_lt hJ (by decide)) (z_in (u := x3.toInt) rfl (by omega) (by omega)) dX10_paste_101 ?_
                    refine z_nm (P := fun z => z.toInt = (w.2.2.1 112 x3.toNatClampNeg).toInt ∧ (-1) ≤ z.toInt ∧ z.toInt ≤ 60) ⟨(jv_k hJ (by decide) _), (ra_112 hJ _)⟩ (fun z_31 hz_31 => ?_)
                    refine z_i2l (u := z_31.toInt) E dX10_paste_102 rfl (fun z_32 hz_32 => ?_)
                    refine z_lcmp (u := z_30.toInt) (v := z_32.toInt) E dX10_paste_103 rfl rfl (fun z_33 hz_33 => ?_)
                    refine z_if_le (tgt := 110) (u := z_33.toInt) E dX10_paste_104 (by decide) rfl (fun h_34 => ?_) (fun h_34 => ?_)
                    ·
                      refine s_iconst (v := 0) E dX10_paste_110 (by decide) ?_
                      refine s_istore (L2 := [some (AR 95), some (AI x1), some (AI x2), some (AI x3), some (AI x4), some (AI x5), some (AI 0)]) E dX10_paste_111 (by decide) rfl ?_
                      refine z_loop (St := Int32) (Pi := fun q113_6_34 v113 => (0 ≤ q113_6_34.toInt ∧ q113_6_34.toInt ≤ 60) ∧ Jv w v113) (Lf := fun q113_6_34 => [some (AR 95), some (AI x1), some (AI x2), some (AI x3), some (AI x4), some (AI x5), some (AI q113_6_34)]) (fun q113_6_34 _ => (61 - q113_6_34.toInt).toNat) 0 ⟨⟨by decide, by decide⟩, hJ⟩ ?_
                      rintro q113_6_34 v113 ⟨hq113_6, hj_35⟩ ih113
                      refine s_loc (L2 := [some (AR 95), some (AI x1), some (AI x2), some (AI x3), some (AI x4), some (AI x5), some (AI q113_6_34)]) rfl ?_
                      refine s_iload E dX10_paste_113 rfl ?_
                      refine s_iload E dX10_paste_115 rfl ?_
                      refine z_icmp_ge (tgt := 147) (u := q113_6_34.toInt) (v := x5.toInt) E dX10_paste_117 (by decide) rfl rfl (fun h_36 => ?_) (fun h_36 => ?_)
                      ·
                        refine s_iconst (v := 0) E dX10_paste_147 (by decide) ?_
                        refine s_istore (L2 := [some (AR 95), some (AI x1), some (AI x2), some (AI x3), some (AI x4), some (AI x5), some (AI 0)]) E dX10_paste_148 (by decide) rfl ?_
                        refine z_loop (St := Int32) (Pi := fun q150_6_36 v150 => (0 ≤ q150_6_36.toInt ∧ q150_6_36.toInt ≤ 60) ∧ Jn w v150) (Lf := fun q150_6_36 => [some (AR 95), some (AI x1), some (AI x2), some (AI x3), some (AI x4), some (AI x5), some (AI q150_6_36)]) (fun q150_6_36 _ => (61 - q150_6_36.toInt).toNat) 0 ⟨⟨by decide, by decide⟩, (jn_of hj_35)⟩ ?_
                        rintro q150_6_36 v150 ⟨hq150_6, hj_37⟩ ih150
                        refine s_loc (L2 := [some (AR 95), some (AI x1), some (AI x2), some (AI x3), some (AI x4), some (AI x5), some (AI q150_6_36)]) rfl ?_
                        refine s_iload E dX10_paste_150 rfl ?_
                        refine s_iload E dX10_paste_152 rfl ?_
                        refine z_icmp_ge (tgt := 185) (u := q150_6_36.toInt) (v := x5.toInt) E dX10_paste_154 (by decide) rfl rfl (fun h_38 => ?_) (fun h_38 => ?_)
                        ·
                          refine s_iconst (v := 0) E dX10_paste_185 (by decide) ?_
                          exact r_int E dX10_paste_186 ⟨⟨by decide, by decide, by first | (left; decide) | (right; decide) | (right; have hb_ := z32 x1; omega), by first | (left; decide) | (right; decide) | (right; have hb_ := z32 x2; omega), by first | (left; decide) | (right; decide) | (right; have hb_ := z32 x3; omega), by first | (left; decide) | (right; decide) | (right; have hb_ := z32 x4; omega), by first | (left; decide) | (right; decide) | (right; have hb_ := z32 x5; omega)⟩, (by have hrc_ : (0 : Int32).toInt = 0 := (by decide); omega), hj_37⟩
                        ·
                          refine s_aload_n E dX10_paste_157 rfl rfl ?_
                          refine s_gR (r := 114) E fg_X10_70 rfl rfl (jv_lt (jv_rfl hj_37.1) (by decide)) (jv_r (jv_rfl hj_37.1) (by decide +kernel)) dX10_paste_158 ?_
                          refine s_bipush (v := 60) E dX10_paste_161 (by decide) ?_
                          refine s_iload_n E dX10_paste_163 rfl rfl ?_
                          refine z_imul (u := 60) (v := x3.toInt) E dX10_paste_164 (by decide) rfl (by omega) (by omega) (fun z_39 hz_39 => ?_)
                          refine s_iload E dX10_paste_165 rfl ?_
                          refine z_iadd (u := z_39.toInt) (v := x4.toInt) E dX10_paste_167 rfl rfl (by omega) (by omega) (fun z_40 hz_40 => ?_)
                          refine s_iload E dX10_paste_168 rfl ?_
                          refine z_iadd (u := z_40.toInt) (v := q150_6_36.toInt) E dX10_paste_170 rfl rfl (by omega) (by omega) (fun z_41 hz_41 => ?_)
                          have hhz_41 : 0 ≤ z_41.toInt ∧ z_41.toInt ≤ 239 := by omega
                          refine s_aload_n E dX10_paste_171 rfl rfl ?_
                          refine s_gR (r := 115) E fg_X10_74 rfl rfl (jv_lt (jv_rfl hj_37.1) (by decide)) (jv_r (jv_rfl hj_37.1) (by decide +kernel)) dX10_paste_172 ?_
                          refine s_iload E dX10_paste_175 rfl ?_
                          refine s_lald E rfl (jv_lt (jv_rfl hj_37.1) (by decide)) (z_in (u := q150_6_36.toInt) rfl (by omega) (by omega)) dX10_paste_177 ?_
                          refine z_anyL (fun z_42 => ?_)
                          refine s_last E rfl (jv_lt (jv_rfl hj_37.1) (by decide)) (z_in (u := z_41.toInt) rfl (by omega) (by omega)) dX10_paste_178 ?_
                          refine s_gen (P := Jn w) (jn_L hj_37) (fun v_43 hn_44 => ?_)
                          refine z_iinc (u := q150_6_36.toInt) (L2 := fun z_45 => [some (AR 95), some (AI x1), some (AI x2), some (AI x3), some (AI x4), some (AI x5), some (AI z_45)]) E dX10_paste_179 rfl rfl (by decide) (fun _ => rfl) (by decide) (by omega) (by omega) (fun z_45 hz_45 => ?_)
                          refine s_goto (tgt := 150) E dX10_paste_182 (by decide) ?_
                          exact ih150 z_45 v_43 ⟨⟨by have hb_ := z32 z_45; omega, by have hb_ := z32 z_45; omega⟩, hn_44⟩ (by first | omega | decide | (dsimp only; omega) | (dsimp only; decide))
                      ·
                        refine s_aload_n E dX10_paste_120 rfl rfl ?_
                        refine s_gR (r := 115) E fg_X10_74 rfl rfl (jv_lt hj_35 (by decide)) (jv_r hj_35 (by decide +kernel)) dX10_paste_121 ?_
                        refine s_iload E dX10_paste_124 rfl ?_
                        refine s_aload_n E dX10_paste_126 rfl rfl ?_
                        refine s_gR (r := 114) E fg_X10_70 rfl rfl (jv_lt hj_35 (by decide)) (jv_r hj_35 (by decide +kernel)) dX10_paste_127 ?_
                        refine s_bipush (v := 60) E dX10_paste_130 (by decide) ?_
                        refine s_iload_n E dX10_paste_132 rfl rfl ?_
                        refine z_imul (u := 60) (v := x1.toInt) E dX10_paste_133 (by decide) rfl (by omega) (by omega) (fun z_46 hz_46 => ?_)
                        refine s_iload_n E dX10_paste_134 rfl rfl ?_
                        refine z_iadd (u := z_46.toInt) (v := x2.toInt) E dX10_paste_135 rfl rfl (by omega) (by omega) (fun z_47 hz_47 => ?_)
                        refine s_iload E dX10_paste_136 rfl ?_
                        refine z_iadd (u := z_47.toInt) (v := q113_6_34.toInt) E dX10_paste_138 rfl rfl (by omega) (by omega) (fun z_48 hz_48 => ?_)
                        have hhz_48 : 0 ≤ z_48.toInt ∧ z_48.toInt ≤ 239 := by omega
                        refine s_lald E rfl (jv_lt hj_35 (by decide)) (z_in (u := z_48.toInt) rfl (by omega) (by omega)) dX10_paste_139 ?_
                        refine z_anyL (fun z_49 => ?_)
                        refine s_last E rfl (jv_lt hj_35 (by decide)) (z_in (u := q113_6_34.toInt) rfl (by omega) (by omega)) dX10_paste_140 ?_
                        refine s_gen (P := Jv w) (jv_L hj_35 (by decide)) (fun v_50 hj_51 => ?_)
                        refine z_iinc (u := q113_6_34.toInt) (L2 := fun z_52 => [some (AR 95), some (AI x1), some (AI x2), some (AI x3), some (AI x4), some (AI x5), some (AI z_52)]) E dX10_paste_141 rfl rfl (by decide) (fun _ => rfl) (by decide) (by omega) (by omega) (fun z_52 hz_52 => ?_)
                        refine s_goto (tgt := 113) E dX10_paste_144 (by decide) ?_
                        exact ih113 z_52 v_50 ⟨⟨by have hb_ := z32 z_52; omega, by have hb_ := z32 z_52; omega⟩, hj_51⟩ (by first | omega | decide | (dsimp only; omega) | (dsimp only; decide))
                    ·
                      refine s_bipush (v := (-7)) E dX10_paste_107 (by decide) ?_
                      exact r_int E dX10_paste_109 ⟨⟨by decide, by decide, by first | (left; decide) | (right; decide) | (right; have hb_ := z32 x1; omega), by first | (left; decide) | (right; decide) | (right; have hb_ := z32 x2; omega), by first | (left; decide) | (right; decide) | (right; have hb_ := z32 x3; omega), by first | (left; decide) | (right; decide) | (right; have hb_ := z32 x4; omega), by first | (left; decide) | (right; decide) | (right; have hb_ := z32 x5; omega)⟩, (by have hrc_ : ((-7) : Int32).toInt = (-7) := (by decide); omega), (jn_of hJ)⟩
          ·
            refine s_bipush (v := (-8)) E dX10_paste_55 (by decide) ?_
            exact r_int E dX10_paste_57 ⟨⟨by decide, by decide, by first | (left; decide) | (right; decide) | (right; have hb_ := z32 x1; omega), by first | (left; decide) | (right; decide) | (right; have hb_ := z32 x2; omega), by first | (left; decide) | (right; decide) | (right; have hb_ := z32 x3; omega), by first | (left; decide) | (right; decide) | (right; have hb_ := z32 x4; omega), by first | (left; decide) | (right; decide) | (right; have hb_ := z32 x5; omega)⟩, (by have hrc_ : ((-8) : Int32).toInt = (-8) := (by decide); omega), (jn_of hJ)⟩
        ·
          refine s_bipush (v := (-6)) E dX10_paste_37 (by decide) ?_
          exact r_int E dX10_paste_39 ⟨⟨by decide, by decide, by first | (left; decide) | (right; decide) | (right; have hb_ := z32 x1; omega), by first | (left; decide) | (right; decide) | (right; have hb_ := z32 x2; omega), by first | (left; decide) | (right; decide) | (right; have hb_ := z32 x3; omega), by first | (left; decide) | (right; decide) | (right; have hb_ := z32 x4; omega), by first | (left; decide) | (right; decide) | (right; have hb_ := z32 x5; omega)⟩, (by have hrc_ : ((-6) : Int32).toInt = (-6) := (by decide); omega), (jn_of hJ)⟩
    ·
      refine s_bipush (v := (-2)) E dX10_paste_14 (by decide) ?_
      exact r_int E dX10_paste_16 ⟨⟨by decide, by decide, by first | (left; decide) | (right; decide) | (right; have hb_ := z32 x1; omega), by first | (left; decide) | (right; decide) | (right; have hb_ := z32 x2; omega), by first | (left; decide) | (right; decide) | (right; have hb_ := z32 x3; omega), by first | (left; decide) | (right; decide) | (right; have hb_ := z32 x4; omega), by first | (left; decide) | (right; decide) | (right; have hb_ := z32 x5; omega)⟩, (by have hrc_ : ((-2) : Int32).toInt = (-2) := (by decide); omega), (jn_of hJ)⟩
