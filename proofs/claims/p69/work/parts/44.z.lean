set_option maxRecDepth 20000 in
set_option maxHeartbeats 2000000 in
theorem Z_X10_layFirsts_95 (l : Launch) (D : va_G) (aC : Nat → ClassId) (b : Nat) (w : XW) (x1 : Int32) (hI : Iv w)  : CnI l D aC b M_X10_layFirsts 5 117 0 0 [AR 95, AI x1] w (fun r u => ((-2147483648) ≤ r.toInt ∧ r.toInt ≤ 2147483647 ∧ (¬ r.toInt = 0 ∨ (0 ≤ x1.toInt ∧ x1.toInt ≤ 3)) ∧ (¬ r.toInt = 0 ∨ (1 ≤ (w.2.2.1 96 9).toInt ∧ (w.2.2.1 96 9).toInt ≤ 2147483647))) ∧ Jv w u) := by
  refine cn_I (own := RX10) (nm := "layFirsts") (L0 := [some (AR 95), some (AI x1), none, none, none, none]) (by decide +kernel) rfl rfl (Nat.le_of_ble_eq_true rfl) rfl ?_
  intro p e s m args below meth c E hin
  have hJ : Jv w w := jv_rfl hI
  have hb_x1 := z32 x1
  refine s_iload_n E dX10_layFirsts_0 rfl rfl ?_
  refine s_sI (As := [AI x1]) (S := []) E (Z_X10_isSlot l D aC b w x1 hJ.1 ) cs_X10_375 rfl rfl (Nat.le_of_ble_eq_true rfl) (Nat.le_of_ble_eq_true rfl) ⟨(Nat.le_of_ble_eq_true rfl), (Nat.le_of_ble_eq_true rfl)⟩ (Nat.le_of_ble_eq_true rfl) dX10_layFirsts_1 (fun z_3 u_1 hp_2 => ?_)
  obtain ⟨hz_3, hp_2⟩ := hp_2
  subst hp_2
  refine z_if_eq (tgt := 14) (u := z_3.toInt) E dX10_layFirsts_4 (by decide) rfl (fun h_5 => ?_) (fun h_5 => ?_)
  ·
    refine s_bipush (v := (-2)) E dX10_layFirsts_14 (by decide) ?_
    exact r_int E dX10_layFirsts_16 ⟨⟨by decide, by decide, by first | (left; decide) | (right; decide) | (right; have hb_ := z32 x1; omega), by first | (left; decide) | (right; decide) | (right; have hb_ := z32 (w.2.2.1 96 9); omega)⟩, hJ⟩
  ·
    refine s_aload_n E dX10_layFirsts_7 rfl rfl ?_
    refine s_vI (As := []) (S := []) E (Z_X10_isBall_95 l D aC b w  hJ.1 ) cv_X10_86 rfl rfl rfl (jv_lt hJ (by decide)) (Nat.le_of_ble_eq_true rfl) (Nat.le_of_ble_eq_true rfl) ⟨(Nat.le_of_ble_eq_true rfl), (Nat.le_of_ble_eq_true rfl)⟩ (Nat.le_of_ble_eq_true rfl) dX10_layFirsts_8 (fun z_8 u_6 hp_7 => ?_)
    obtain ⟨hz_8, hp_7⟩ := hp_7
    subst hp_7
    refine z_if_ne (tgt := 17) (u := z_8.toInt) E dX10_layFirsts_11 (by decide) rfl (fun h_10 => ?_) (fun h_10 => ?_)
    ·
      refine s_aload_n E dX10_layFirsts_17 rfl rfl ?_
      refine s_gR (r := 112) E fg_X10_64 rfl rfl (jv_lt hJ (by decide)) (jv_r hJ (by decide +kernel)) dX10_layFirsts_18 ?_
      refine s_iload_n E dX10_layFirsts_21 rfl rfl ?_
      refine s_iald E rfl (jv_lt hJ (by decide)) (z_in (u := x1.toInt) rfl (by omega) (by omega)) dX10_layFirsts_22 ?_
      refine z_nm (P := fun z => z.toInt = (w.2.2.1 112 x1.toNatClampNeg).toInt ∧ (-1) ≤ z.toInt ∧ z.toInt ≤ 60) ⟨(jv_k hJ (by decide) _), (ra_112 hJ _)⟩ (fun z_11 hz_11 => ?_)
      refine s_iconst (v := (-1)) E dX10_layFirsts_23 (by decide) ?_
      refine z_icmp_ne (tgt := 30) (u := z_11.toInt) (v := (-1)) E dX10_layFirsts_24 (by decide) rfl (by decide) (fun h_12 => ?_) (fun h_12 => ?_)
      ·
        refine s_aload_n E dX10_layFirsts_30 rfl rfl ?_
        refine s_gR (r := 112) E fg_X10_64 rfl rfl (jv_lt hJ (by decide)) (jv_r hJ (by decide +kernel)) dX10_layFirsts_31 ?_
        refine s_iload_n E dX10_layFirsts_34 rfl rfl ?_
        refine s_iald E rfl (jv_lt hJ (by decide)) (z_in (u := x1.toInt) rfl (by omega) (by omega)) dX10_layFirsts_35 ?_
        refine z_nm (P := fun z => z.toInt = (w.2.2.1 112 x1.toNatClampNeg).toInt ∧ (-1) ≤ z.toInt ∧ z.toInt ≤ 60) ⟨(jv_k hJ (by decide) _), (ra_112 hJ _)⟩ (fun z_13 hz_13 => ?_)
        refine s_iconst (v := 3) E dX10_layFirsts_36 (by decide) ?_
        refine z_irem (u := z_13.toInt) (v := 3) E dX10_layFirsts_37 rfl (by decide) (by omega) (by omega) (fun z_14 hz_14 => ?_)
        refine z_if_eq (tgt := 44) (u := z_14.toInt) E dX10_layFirsts_38 (by decide) rfl (fun h_15 => ?_) (fun h_15 => ?_)
        ·
          refine s_iconst (v := 0) E dX10_layFirsts_44 (by decide) ?_
          refine s_istore_n (L2 := [some (AR 95), some (AI x1), some (AI 0), none, none, none]) E dX10_layFirsts_45 rfl (by decide) rfl ?_
          refine z_loop (St := Int32) (Pi := fun q46_2_15 v46 => (0 ≤ q46_2_15.toInt ∧ q46_2_15.toInt ≤ 60) ∧ (q46_2_15.toInt % 3 = 0 ∧ gdN (w.2.2.2 114) x1.toInt q46_2_15.toInt) ∧ w = v46) (Lf := fun q46_2_15 => [some (AR 95), some (AI x1), some (AI q46_2_15), none, none, none]) (fun q46_2_15 _ => (61 - q46_2_15.toInt).toNat) 0 ⟨⟨by decide, by decide⟩, (⟨by decide, by rw [show (0 : Int32).toInt = 0 by decide]; exact gdN_0⟩), rfl⟩ ?_
          rintro q46_2_15 v46 ⟨hq46_2, hl46, hv_⟩ ih46
          subst hv_
          refine s_loc (L2 := [some (AR 95), some (AI x1), some (AI q46_2_15), none, none, none]) rfl ?_
          refine s_iload_n E dX10_layFirsts_46 rfl rfl ?_
          refine s_aload_n E dX10_layFirsts_47 rfl rfl ?_
          refine s_gR (r := 112) E fg_X10_64 rfl rfl (jv_lt hJ (by decide)) (jv_r hJ (by decide +kernel)) dX10_layFirsts_48 ?_
          refine s_iload_n E dX10_layFirsts_51 rfl rfl ?_
          refine s_iald E rfl (jv_lt hJ (by decide)) (z_in (u := x1.toInt) rfl (by omega) (by omega)) dX10_layFirsts_52 ?_
          refine z_nm (P := fun z => z.toInt = (w.2.2.1 112 x1.toNatClampNeg).toInt ∧ (-1) ≤ z.toInt ∧ z.toInt ≤ 60) ⟨(jv_k hJ (by decide) _), (ra_112 hJ _)⟩ (fun z_17 hz_17 => ?_)
          refine z_icmp_ge (tgt := 74) (u := q46_2_15.toInt) (v := z_17.toInt) E dX10_layFirsts_53 (by decide) rfl rfl (fun h_18 => ?_) (fun h_18 => ?_)
          ·
            have hg_ : gdN (w.2.2.2 114) x1.toInt (w.2.2.1 112 x1.toNatClampNeg).toInt := gdN_le hl46.2 (by omega)
            refine s_aload_n E dX10_layFirsts_74 rfl rfl ?_
            refine s_vV (As := []) (S := []) E (Z_X10_asItIs_95 l D aC b w  hJ.1 ) cv_X10_279 rfl rfl rfl (jv_lt hJ (by decide)) (Nat.le_of_ble_eq_true rfl) (Nat.le_of_ble_eq_true rfl) ⟨(Nat.le_of_ble_eq_true rfl), (Nat.le_of_ble_eq_true rfl)⟩ (Nat.le_of_ble_eq_true rfl) dX10_layFirsts_75 (fun u_19 hp_20 => ?_)
            have hj_21 := jv_trans hJ hp_20
            refine s_iconst (v := 0) E dX10_layFirsts_78 (by decide) ?_
            refine s_istore_n (L2 := [some (AR 95), some (AI x1), some (AI 0), none, none, none]) E dX10_layFirsts_79 rfl (by decide) rfl ?_
            refine s_iconst (v := 0) E dX10_layFirsts_80 (by decide) ?_
            refine s_istore_n (L2 := [some (AR 95), some (AI x1), some (AI 0), some (AI 0), none, none]) E dX10_layFirsts_81 rfl (by decide) rfl ?_
            refine z_loop (St := Int32 × Int32) (Pi := fun ⟨q82_2_21, q82_3_21⟩ v82 => (0 ≤ q82_3_21.toInt ∧ q82_3_21.toInt ≤ 6) ∧ Jv w v82) (Lf := fun ⟨q82_2_21, q82_3_21⟩ => [some (AR 95), some (AI x1), some (AI q82_2_21), some (AI q82_3_21), none, none]) (fun ⟨q82_2_21, q82_3_21⟩ _ => (7 - q82_3_21.toInt).toNat) ⟨0, 0⟩ ⟨⟨by decide, by decide⟩, hj_21⟩ ?_
            rintro ⟨q82_2_21, q82_3_21⟩ v82 ⟨hq82_3, hj_22⟩ ih82
            have hbq82_2 := z32 q82_2_21
            refine s_loc (L2 := [some (AR 95), some (AI x1), some (AI q82_2_21), some (AI q82_3_21), none, none]) rfl ?_
            refine s_iload_n E dX10_layFirsts_82 rfl rfl ?_
            refine s_aload_n E dX10_layFirsts_83 rfl rfl ?_
            refine s_vI (As := []) (S := [AI q82_3_21]) E (Z_X10_ladies_95 l D aC b v82  hj_22.1 ) cv_X10_244 rfl rfl rfl (jv_lt hj_22 (by decide)) (Nat.le_of_ble_eq_true rfl) (Nat.le_of_ble_eq_true rfl) ⟨(Nat.le_of_ble_eq_true rfl), (Nat.le_of_ble_eq_true rfl)⟩ (Nat.le_of_ble_eq_true rfl) dX10_layFirsts_84 (fun z_25 u_23 hp_24 => ?_)
            obtain ⟨hz_25, hxz_25, hp_24⟩ := hp_24
            subst hp_24
            refine z_icmp_ge (tgt := 227) (u := q82_3_21.toInt) (v := z_25.toInt) E dX10_layFirsts_87 (by decide) rfl rfl (fun h_27 => ?_) (fun h_27 => ?_)
            ·
              refine s_iload_n E dX10_layFirsts_227 rfl rfl ?_
              exact r_int E dX10_layFirsts_228 ⟨⟨by have hb_ := z32 q82_2_21; omega, by have hb_ := z32 q82_2_21; omega, by first | (right; decide) | (have hb_ := z32 q82_2_21; omega) | (have hb_ := z32 q82_2_21; have hc_ := z32 x1; omega), by first | (right; decide) | (have hb_ := z32 q82_2_21; omega) | (have hb_ := z32 q82_2_21; have hc_ := z32 (w.2.2.1 96 9); omega)⟩, hj_22⟩
            ·
              refine s_aload_n E dX10_layFirsts_90 rfl rfl ?_
              refine s_iload_n E dX10_layFirsts_91 rfl rfl ?_
              refine s_vI (As := [AI q82_3_21]) (S := []) E (Z_X10_goNote__95 l D aC b v82 q82_3_21 hj_22.1 ⟨by have hb_ := z32 q82_3_21; omega, by have hb_ := z32 q82_3_21; omega⟩) cv_X10_338 rfl rfl rfl (jv_lt hj_22 (by decide)) (Nat.le_of_ble_eq_true rfl) (Nat.le_of_ble_eq_true rfl) ⟨(Nat.le_of_ble_eq_true rfl), (Nat.le_of_ble_eq_true rfl)⟩ (Nat.le_of_ble_eq_true rfl) dX10_layFirsts_92 (fun z_30 u_28 hp_29 => ?_)
              obtain ⟨hz_30, hxz_30, hp_29⟩ := hp_29
              have hj_31 := jv_trans hj_22 hp_29
              refine s_popI E dX10_layFirsts_95 ?_
              refine s_iconst (v := 1) E dX10_layFirsts_96 (by decide) ?_
              refine s_istore (L2 := [some (AR 95), some (AI x1), some (AI q82_2_21), some (AI q82_3_21), some (AI 1), none]) E dX10_layFirsts_97 (by decide) rfl ?_
              refine s_iconst (v := 0) E dX10_layFirsts_99 (by decide) ?_
              refine s_istore (L2 := [some (AR 95), some (AI x1), some (AI q82_2_21), some (AI q82_3_21), some (AI 1), some (AI 0)]) E dX10_layFirsts_100 (by decide) rfl ?_
              refine z_loop (St := Int32 × Int32) (Pi := fun ⟨q102_4_31, q102_5_31⟩ v102 => (0 ≤ q102_4_31.toInt ∧ q102_4_31.toInt ≤ 1) ∧ (0 ≤ q102_5_31.toInt ∧ q102_5_31.toInt ≤ 60) ∧ (q102_5_31.toInt % 3 = 0) ∧ u_28 = v102) (Lf := fun ⟨q102_4_31, q102_5_31⟩ => [some (AR 95), some (AI x1), some (AI q82_2_21), some (AI q82_3_21), some (AI q102_4_31), some (AI q102_5_31)]) (fun ⟨q102_4_31, q102_5_31⟩ _ => (61 - q102_5_31.toInt).toNat) ⟨1, 0⟩ ⟨⟨by decide, by decide⟩, ⟨by decide, by decide⟩, (by decide), rfl⟩ ?_
              rintro ⟨q102_4_31, q102_5_31⟩ v102 ⟨hq102_4, hq102_5, hl102, hv_⟩ ih102
              subst hv_
              refine s_loc (L2 := [some (AR 95), some (AI x1), some (AI q82_2_21), some (AI q82_3_21), some (AI q102_4_31), some (AI q102_5_31)]) rfl ?_
              refine s_iload E dX10_layFirsts_102 rfl ?_
              refine s_aload_n E dX10_layFirsts_104 rfl rfl ?_
              refine s_gR (r := 112) E fg_X10_64 rfl rfl (jv_lt hj_31 (by decide)) (jv_r hj_31 (by decide +kernel)) dX10_layFirsts_105 ?_
              refine s_iload_n E dX10_layFirsts_108 rfl rfl ?_
              refine s_iald E rfl (jv_lt hj_31 (by decide)) (z_in (u := x1.toInt) rfl (by omega) (by omega)) dX10_layFirsts_109 ?_
              refine z_nm (P := fun z => z.toInt = (w.2.2.1 112 x1.toNatClampNeg).toInt ∧ (-1) ≤ z.toInt ∧ z.toInt ≤ 60) ⟨(jv_k hj_31 (by decide) _), (ra_112 hj_31 _)⟩ (fun z_33 hz_33 => ?_)
              refine z_icmp_ge (tgt := 171) (u := q102_5_31.toInt) (v := z_33.toInt) E dX10_layFirsts_110 (by decide) rfl rfl (fun h_34 => ?_) (fun h_34 => ?_)
              ·
                refine s_iconst (v := 0) E dX10_layFirsts_171 (by decide) ?_
                refine s_istore (L2 := [some (AR 95), some (AI x1), some (AI q82_2_21), some (AI q82_3_21), some (AI q102_4_31), some (AI 0)]) E dX10_layFirsts_172 (by decide) rfl ?_
                refine z_loop (St := Int32) (Pi := fun q174_5_34 v174 => (0 ≤ q174_5_34.toInt ∧ q174_5_34.toInt ≤ 6) ∧ Jv w v174) (Lf := fun q174_5_34 => [some (AR 95), some (AI x1), some (AI q82_2_21), some (AI q82_3_21), some (AI q102_4_31), some (AI q174_5_34)]) (fun q174_5_34 _ => (7 - q174_5_34.toInt).toNat) 0 ⟨⟨by decide, by decide⟩, hj_31⟩ ?_
                rintro q174_5_34 v174 ⟨hq174_5, hj_35⟩ ih174
                refine s_loc (L2 := [some (AR 95), some (AI x1), some (AI q82_2_21), some (AI q82_3_21), some (AI q102_4_31), some (AI q174_5_34)]) rfl ?_
                refine s_iload E dX10_layFirsts_174 rfl ?_
                refine s_bipush (v := 6) E dX10_layFirsts_176 (by decide) ?_
                refine z_icmp_ge (tgt := 206) (u := q174_5_34.toInt) (v := 6) E dX10_layFirsts_178 (by decide) rfl (by decide) (fun h_36 => ?_) (fun h_36 => ?_)
                ·
                  refine s_iload_n E dX10_layFirsts_206 rfl rfl ?_
                  refine s_iload E dX10_layFirsts_207 rfl ?_
                  refine z_if_eq (tgt := 218) (u := q102_4_31.toInt) E dX10_layFirsts_209 (by decide) rfl (fun h_37 => ?_) (fun h_37 => ?_)
                  ·
                    refine s_iconst (v := 0) E dX10_layFirsts_218 (by decide) ?_
                    refine s_ior E dX10_layFirsts_219 ?_
                    refine z_nm (P := fun z => (-2147483648) ≤ z.toInt ∧ z.toInt ≤ 2147483647) (z32 _) (fun z_38 hz_38 => ?_)
                    refine s_istore_n (L2 := [some (AR 95), some (AI x1), some (AI z_38), some (AI q82_3_21), some (AI q102_4_31), some (AI q174_5_34)]) E dX10_layFirsts_220 rfl (by decide) rfl ?_
                    refine z_iinc (u := q82_3_21.toInt) (L2 := fun z_39 => [some (AR 95), some (AI x1), some (AI z_38), some (AI z_39), some (AI q102_4_31), some (AI q174_5_34)]) E dX10_layFirsts_221 rfl rfl (by decide) (fun _ => rfl) (by decide) (by omega) (by omega) (fun z_39 hz_39 => ?_)
                    refine s_goto (tgt := 82) E dX10_layFirsts_224 (by decide) ?_
                    refine s_drop (i := 4) (L2 := [some (AR 95), some (AI x1), some (AI z_38), some (AI z_39), none, some (AI q174_5_34)]) rfl ?_
                    refine s_drop (i := 5) (L2 := [some (AR 95), some (AI x1), some (AI z_38), some (AI z_39), none, none]) rfl ?_
                    exact ih82 ⟨z_38, z_39⟩ v174 ⟨⟨by have hb_ := z32 z_39; omega, by have hb_ := z32 z_39; omega⟩, hj_35⟩ (by first | omega | decide | (dsimp only; omega) | (dsimp only; decide))
                  ·
                    refine s_iconst (v := 1) E dX10_layFirsts_212 (by decide) ?_
                    refine s_iload_n E dX10_layFirsts_213 rfl rfl ?_
                    refine z_shl1 5 (u := q82_3_21.toInt) (B := 32) E dX10_layFirsts_214 rfl (by omega) (by omega) (by decide) (by decide) (fun z_40 hz_40 => ?_)
                    refine s_goto (tgt := 219) E dX10_layFirsts_215 (by decide) ?_
                    refine s_ior E dX10_layFirsts_219 ?_
                    refine z_nm (P := fun z => (-2147483648) ≤ z.toInt ∧ z.toInt ≤ 2147483647) (z32 _) (fun z_41 hz_41 => ?_)
                    refine s_istore_n (L2 := [some (AR 95), some (AI x1), some (AI z_41), some (AI q82_3_21), some (AI q102_4_31), some (AI q174_5_34)]) E dX10_layFirsts_220 rfl (by decide) rfl ?_
                    refine z_iinc (u := q82_3_21.toInt) (L2 := fun z_42 => [some (AR 95), some (AI x1), some (AI z_41), some (AI z_42), some (AI q102_4_31), some (AI q174_5_34)]) E dX10_layFirsts_221 rfl rfl (by decide) (fun _ => rfl) (by decide) (by omega) (by omega) (fun z_42 hz_42 => ?_)
                    refine s_goto (tgt := 82) E dX10_layFirsts_224 (by decide) ?_
                    refine s_drop (i := 4) (L2 := [some (AR 95), some (AI x1), some (AI z_41), some (AI z_42), none, some (AI q174_5_34)]) rfl ?_
                    refine s_drop (i := 5) (L2 := [some (AR 95), some (AI x1), some (AI z_41), some (AI z_42), none, none]) rfl ?_
                    exact ih82 ⟨z_41, z_42⟩ v174 ⟨⟨by have hb_ := z32 z_42; omega, by have hb_ := z32 z_42; omega⟩, hj_35⟩ (by first | omega | decide | (dsimp only; omega) | (dsimp only; decide))
                ·
                  refine s_aload_n E dX10_layFirsts_181 rfl rfl ?_
                  refine s_gR (r := 111) E fg_X10_61 rfl rfl (jv_lt hj_35 (by decide)) (jv_r hj_35 (by decide +kernel)) dX10_layFirsts_182 ?_
                  refine s_bipush (v := 6) E dX10_layFirsts_185 (by decide) ?_
                  refine s_iload_n E dX10_layFirsts_187 rfl rfl ?_
                  refine z_imul (u := 6) (v := q82_3_21.toInt) E dX10_layFirsts_188 (by decide) rfl (by omega) (by omega) (fun z_43 hz_43 => ?_)
                  refine s_iload E dX10_layFirsts_189 rfl ?_
                  refine z_iadd (u := z_43.toInt) (v := q174_5_34.toInt) E dX10_layFirsts_191 rfl rfl (by omega) (by omega) (fun z_44 hz_44 => ?_)
                  refine s_aload_n E dX10_layFirsts_192 rfl rfl ?_
                  refine s_gR (r := 107) E fg_X10_49 rfl rfl (jv_lt hj_35 (by decide)) (jv_r hj_35 (by decide +kernel)) dX10_layFirsts_193 ?_
                  refine s_iload E dX10_layFirsts_196 rfl ?_
                  refine s_iald E rfl (jv_lt hj_35 (by decide)) (z_in (u := q174_5_34.toInt) rfl (by omega) (by omega)) dX10_layFirsts_198 ?_
                  refine z_nm (P := fun z => z.toInt = (v174.2.2.1 107 q174_5_34.toNatClampNeg).toInt ∧ (-1) ≤ z.toInt ∧ z.toInt ≤ 14) ⟨rfl, (ra_107 hj_35 _)⟩ (fun z_45 hz_45 => ?_)
                  refine s_iast E rfl (jv_lt hj_35 (by decide)) (z_in (u := z_44.toInt) rfl (by omega) (by omega)) dX10_layFirsts_199 ?_
                  refine s_gen (P := Jv w) (jv_a_111 hj_35 (by have hb_ := z32 z_45; omega) (by have hb_ := z32 z_45; omega)) (fun v_46 hj_47 => ?_)
                  refine z_iinc (u := q174_5_34.toInt) (L2 := fun z_48 => [some (AR 95), some (AI x1), some (AI q82_2_21), some (AI q82_3_21), some (AI q102_4_31), some (AI z_48)]) E dX10_layFirsts_200 rfl rfl (by decide) (fun _ => rfl) (by decide) (by omega) (by omega) (fun z_48 hz_48 => ?_)
                  refine s_goto (tgt := 174) E dX10_layFirsts_203 (by decide) ?_
                  exact ih174 z_48 v_46 ⟨⟨by have hb_ := z32 z_48; omega, by have hb_ := z32 z_48; omega⟩, hj_47⟩ (by first | omega | decide | (dsimp only; omega) | (dsimp only; decide))
              ·
                have hh_113_5 : 0 ≤ q102_5_31.toInt ∧ q102_5_31.toInt ≤ 57 := by omega
                refine s_iload E dX10_layFirsts_113 rfl ?_
                refine z_if_eq (tgt := 162) (u := q102_4_31.toInt) E dX10_layFirsts_115 (by decide) rfl (fun h_49 => ?_) (fun h_49 => ?_)
                ·
                  refine s_iconst (v := 0) E dX10_layFirsts_162 (by decide) ?_
                  refine s_istore (L2 := [some (AR 95), some (AI x1), some (AI q82_2_21), some (AI q82_3_21), some (AI 0), some (AI q102_5_31)]) E dX10_layFirsts_163 (by decide) rfl ?_
                  refine z_iinc (u := q102_5_31.toInt) (L2 := fun z_50 => [some (AR 95), some (AI x1), some (AI q82_2_21), some (AI q82_3_21), some (AI 0), some (AI z_50)]) E dX10_layFirsts_165 rfl rfl (by decide) (fun _ => rfl) (by decide) (by omega) (by omega) (fun z_50 hz_50 => ?_)
                  refine s_goto (tgt := 102) E dX10_layFirsts_168 (by decide) ?_
                  exact ih102 ⟨0, z_50⟩ u_28 ⟨⟨by decide, by decide⟩, ⟨by have hb_ := z32 z_50; omega, by have hb_ := z32 z_50; omega⟩, (by omega), rfl⟩ (by first | omega | decide | (dsimp only; omega) | (dsimp only; decide))
                ·
                  refine s_aload_n E dX10_layFirsts_118 rfl rfl ?_
                  refine s_gR (r := 106) E fg_X10_46 rfl rfl (jv_lt hj_31 (by decide)) (jv_r hj_31 (by decide +kernel)) dX10_layFirsts_119 ?_
                  refine s_aload_n E dX10_layFirsts_122 rfl rfl ?_
                  refine s_iload_n E dX10_layFirsts_123 rfl rfl ?_
                  refine s_iload E dX10_layFirsts_124 rfl ?_
                  refine s_iconst (v := 1) E dX10_layFirsts_126 (by decide) ?_
                  refine z_iadd (u := q102_5_31.toInt) (v := 1) E dX10_layFirsts_127 rfl (by decide) (by omega) (by omega) (fun z_51 hz_51 => ?_)
                  refine s_vL (As := [AI x1, AI z_51]) (S := [AR 106]) E (Z_X10_numberAt_95 l D aC b u_28 x1 z_51 hj_31.1 ⟨by have hb_ := z32 x1; omega, by have hb_ := z32 x1; omega⟩ ⟨by have hb_ := z32 z_51; omega, by have hb_ := z32 z_51; omega⟩) cv_X10_371 rfl rfl rfl (jv_lt hj_31 (by decide)) (Nat.le_of_ble_eq_true rfl) (Nat.le_of_ble_eq_true rfl) ⟨(Nat.le_of_ble_eq_true rfl), (Nat.le_of_ble_eq_true rfl)⟩ (Nat.le_of_ble_eq_true rfl) dX10_layFirsts_128 (fun z_54 u_52 hp_53 => ?_)
                  obtain ⟨hz_54, hxz_54, hp_53⟩ := hp_53
                  subst hp_53
                  have hD_ := hg_ q102_5_31.toInt (by omega) (by omega) (by omega)
                  have hrz_54 : 0 ≤ z_54.toInt ∧ z_54.toInt ≤ 14 := by rw [hxz_54, hj_31.2.2, show 60 * x1.toInt + z_51.toInt = 60 * x1.toInt + q102_5_31.toInt + 1 by omega]; exact hD_
                  refine z_l2i (u := z_54.toInt) E dX10_layFirsts_131 rfl (by omega) (by omega) (fun z_56 hz_56 => ?_)
                  refine s_iald E rfl (jv_lt hj_31 (by decide)) (z_in (u := z_56.toInt) rfl (by omega) (by omega)) dX10_layFirsts_132 ?_
                  refine z_nm (P := fun z => (-2147483648) ≤ z.toInt ∧ z.toInt ≤ 2147483647) (z32 _) (fun z_57 hz_57 => ?_)
                  refine s_aload_n E dX10_layFirsts_133 rfl rfl ?_
                  refine s_iload_n E dX10_layFirsts_134 rfl rfl ?_
                  refine s_iload E dX10_layFirsts_135 rfl ?_
                  refine s_vL (As := [AI x1, AI q102_5_31]) (S := [AI z_57]) E (Z_X10_numberAt_95 l D aC b u_28 x1 q102_5_31 hj_31.1 ⟨by have hb_ := z32 x1; omega, by have hb_ := z32 x1; omega⟩ ⟨by have hb_ := z32 q102_5_31; omega, by have hb_ := z32 q102_5_31; omega⟩) cv_X10_371 rfl rfl rfl (jv_lt hj_31 (by decide)) (Nat.le_of_ble_eq_true rfl) (Nat.le_of_ble_eq_true rfl) ⟨(Nat.le_of_ble_eq_true rfl), (Nat.le_of_ble_eq_true rfl)⟩ (Nat.le_of_ble_eq_true rfl) dX10_layFirsts_137 (fun z_60 u_58 hp_59 => ?_)
                  obtain ⟨hz_60, hxz_60, hp_59⟩ := hp_59
                  subst hp_59
                  refine s_l2i E dX10_layFirsts_140 ?_
                  refine z_nm (P := fun z => (-2147483648) ≤ z.toInt ∧ z.toInt ≤ 2147483647) (z32 _) (fun z_62 hz_62 => ?_)
                  refine s_sI (As := [AI z_57, AI z_62]) (S := []) E (Z_X10_bit l D aC b u_28 z_57 z_62 hj_31.1 ) cs_X10_252 rfl rfl (Nat.le_of_ble_eq_true rfl) (Nat.le_of_ble_eq_true rfl) ⟨(Nat.le_of_ble_eq_true rfl), (Nat.le_of_ble_eq_true rfl)⟩ (Nat.le_of_ble_eq_true rfl) dX10_layFirsts_141 (fun z_65 u_63 hp_64 => ?_)
                  obtain ⟨hz_65, hxz_65, hp_64⟩ := hp_64
                  subst hp_64
                  refine z_i2l (u := z_65.toInt) E dX10_layFirsts_144 rfl (fun z_67 hz_67 => ?_)
                  refine s_aload_n E dX10_layFirsts_145 rfl rfl ?_
                  refine s_iload_n E dX10_layFirsts_146 rfl rfl ?_
                  refine s_iload E dX10_layFirsts_147 rfl ?_
                  refine s_iconst (v := 2) E dX10_layFirsts_149 (by decide) ?_
                  refine z_iadd (u := q102_5_31.toInt) (v := 2) E dX10_layFirsts_150 rfl (by decide) (by omega) (by omega) (fun z_68 hz_68 => ?_)
                  refine s_vL (As := [AI x1, AI z_68]) (S := [AL z_67]) E (Z_X10_numberAt_95 l D aC b u_28 x1 z_68 hj_31.1 ⟨by have hb_ := z32 x1; omega, by have hb_ := z32 x1; omega⟩ ⟨by have hb_ := z32 z_68; omega, by have hb_ := z32 z_68; omega⟩) cv_X10_371 rfl rfl rfl (jv_lt hj_31 (by decide)) (Nat.le_of_ble_eq_true rfl) (Nat.le_of_ble_eq_true rfl) ⟨(Nat.le_of_ble_eq_true rfl), (Nat.le_of_ble_eq_true rfl)⟩ (Nat.le_of_ble_eq_true rfl) dX10_layFirsts_151 (fun z_71 u_69 hp_70 => ?_)
                  obtain ⟨hz_71, hxz_71, hp_70⟩ := hp_70
                  subst hp_70
                  refine z_lcmp (u := z_67.toInt) (v := z_71.toInt) E dX10_layFirsts_154 rfl rfl (fun z_73 hz_73 => ?_)
                  refine z_if_ne (tgt := 162) (u := z_73.toInt) E dX10_layFirsts_155 (by decide) rfl (fun h_74 => ?_) (fun h_74 => ?_)
                  ·
                    refine s_iconst (v := 0) E dX10_layFirsts_162 (by decide) ?_
                    refine s_istore (L2 := [some (AR 95), some (AI x1), some (AI q82_2_21), some (AI q82_3_21), some (AI 0), some (AI q102_5_31)]) E dX10_layFirsts_163 (by decide) rfl ?_
                    refine z_iinc (u := q102_5_31.toInt) (L2 := fun z_75 => [some (AR 95), some (AI x1), some (AI q82_2_21), some (AI q82_3_21), some (AI 0), some (AI z_75)]) E dX10_layFirsts_165 rfl rfl (by decide) (fun _ => rfl) (by decide) (by omega) (by omega) (fun z_75 hz_75 => ?_)
                    refine s_goto (tgt := 102) E dX10_layFirsts_168 (by decide) ?_
                    exact ih102 ⟨0, z_75⟩ u_28 ⟨⟨by decide, by decide⟩, ⟨by have hb_ := z32 z_75; omega, by have hb_ := z32 z_75; omega⟩, (by omega), rfl⟩ (by first | omega | decide | (dsimp only; omega) | (dsimp only; decide))
                  ·
                    refine s_iconst (v := 1) E dX10_layFirsts_158 (by decide) ?_
                    refine s_goto (tgt := 163) E dX10_layFirsts_159 (by decide) ?_
                    refine s_istore (L2 := [some (AR 95), some (AI x1), some (AI q82_2_21), some (AI q82_3_21), some (AI 1), some (AI q102_5_31)]) E dX10_layFirsts_163 (by decide) rfl ?_
                    refine z_iinc (u := q102_5_31.toInt) (L2 := fun z_76 => [some (AR 95), some (AI x1), some (AI q82_2_21), some (AI q82_3_21), some (AI 1), some (AI z_76)]) E dX10_layFirsts_165 rfl rfl (by decide) (fun _ => rfl) (by decide) (by omega) (by omega) (fun z_76 hz_76 => ?_)
                    refine s_goto (tgt := 102) E dX10_layFirsts_168 (by decide) ?_
                    exact ih102 ⟨1, z_76⟩ u_28 ⟨⟨by decide, by decide⟩, ⟨by have hb_ := z32 z_76; omega, by have hb_ := z32 z_76; omega⟩, (by omega), rfl⟩ (by first | omega | decide | (dsimp only; omega) | (dsimp only; decide))
          ·
            have hh_56_2 : 0 ≤ q46_2_15.toInt ∧ q46_2_15.toInt ≤ 57 := by omega
            refine s_aload_n E dX10_layFirsts_56 rfl rfl ?_
            refine s_iload_n E dX10_layFirsts_57 rfl rfl ?_
            refine s_iload_n E dX10_layFirsts_58 rfl rfl ?_
            refine s_vI (As := [AI x1, AI q46_2_15]) (S := []) E (Z_X10_isThree_95 l D aC b w x1 q46_2_15 hJ.1 ⟨by have hb_ := z32 x1; omega, by have hb_ := z32 x1; omega⟩ ⟨by have hb_ := z32 q46_2_15; omega, by have hb_ := z32 q46_2_15; omega⟩) cv_X10_378 rfl rfl rfl (jv_lt hJ (by decide)) (Nat.le_of_ble_eq_true rfl) (Nat.le_of_ble_eq_true rfl) ⟨(Nat.le_of_ble_eq_true rfl), (Nat.le_of_ble_eq_true rfl)⟩ (Nat.le_of_ble_eq_true rfl) dX10_layFirsts_59 (fun z_79 u_77 hp_78 => ?_)
            obtain ⟨hz_79, hxz_79, hp_78⟩ := hp_78
            subst hp_78
            have h3_ := hxz_79
            refine z_if_ne (tgt := 68) (u := z_79.toInt) E dX10_layFirsts_62 (by decide) rfl (fun h_81 => ?_) (fun h_81 => ?_)
            ·
              replace h3_ := h3_.resolve_left (by omega)
              refine z_iinc (u := q46_2_15.toInt) (L2 := fun z_82 => [some (AR 95), some (AI x1), some (AI z_82), none, none, none]) E dX10_layFirsts_68 rfl rfl (by decide) (fun _ => rfl) (by decide) (by omega) (by omega) (fun z_82 hz_82 => ?_)
              refine s_goto (tgt := 46) E dX10_layFirsts_71 (by decide) ?_
              exact ih46 z_82 w ⟨⟨by have hb_ := z32 z_82; omega, by have hb_ := z32 z_82; omega⟩, (⟨by omega, gdN_s hl46.2 hl46.1 h3_ (by omega)⟩), rfl⟩ (by first | omega | decide | (dsimp only; omega) | (dsimp only; decide))
            ·
              refine s_bipush (v := (-2)) E dX10_layFirsts_65 (by decide) ?_
              exact r_int E dX10_layFirsts_67 ⟨⟨by decide, by decide, by first | (left; decide) | (right; decide) | (right; have hb_ := z32 x1; omega), by first | (left; decide) | (right; decide) | (right; have hb_ := z32 (w.2.2.1 96 9); omega)⟩, hJ⟩
        ·
          refine s_bipush (v := (-2)) E dX10_layFirsts_41 (by decide) ?_
          exact r_int E dX10_layFirsts_43 ⟨⟨by decide, by decide, by first | (left; decide) | (right; decide) | (right; have hb_ := z32 x1; omega), by first | (left; decide) | (right; decide) | (right; have hb_ := z32 (w.2.2.1 96 9); omega)⟩, hJ⟩
      ·
        refine s_bipush (v := (-6)) E dX10_layFirsts_27 (by decide) ?_
        exact r_int E dX10_layFirsts_29 ⟨⟨by decide, by decide, by first | (left; decide) | (right; decide) | (right; have hb_ := z32 x1; omega), by first | (left; decide) | (right; decide) | (right; have hb_ := z32 (w.2.2.1 96 9); omega)⟩, hJ⟩
    ·
      refine s_bipush (v := (-2)) E dX10_layFirsts_14 (by decide) ?_
      exact r_int E dX10_layFirsts_16 ⟨⟨by decide, by decide, by first | (left; decide) | (right; decide) | (right; have hb_ := z32 x1; omega), by first | (left; decide) | (right; decide) | (right; have hb_ := z32 (w.2.2.1 96 9); omega)⟩, hJ⟩
set_option maxRecDepth 20000 in
set_option maxHeartbeats 2000000 in
theorem Z_X10_firsts_95 (l : Launch) (D : va_G) (aC : Nat → ClassId) (b : Nat) (w : XW) (x1 : Int32) (hI : Iv w)  : CnI l D aC b M_X10_firsts 6 142 0 0 [AR 95, AI x1] w (fun r u => ((-2147483648) ≤ r.toInt ∧ r.toInt ≤ 2147483647 ∧ (¬ r.toInt = 0 ∨ (0 ≤ x1.toInt ∧ x1.toInt ≤ 3)) ∧ (¬ r.toInt = 0 ∨ (1 ≤ (w.2.2.1 96 9).toInt ∧ (w.2.2.1 96 9).toInt ≤ 2147483647))) ∧ Jv w u) := by
  refine cn_I (own := RX10) (nm := "firsts") (L0 := [some (AR 95), some (AI x1)]) (by decide +kernel) rfl rfl (Nat.le_of_ble_eq_true rfl) rfl ?_
  intro p e s m args below meth c E hin
  have hJ : Jv w w := jv_rfl hI
  have hb_x1 := z32 x1
  refine s_aload_n E dX10_firsts_0 rfl rfl ?_
  refine s_iload_n E dX10_firsts_1 rfl rfl ?_
  refine s_vI (As := [AI x1]) (S := []) E (Z_X10_layFirsts_95 l D aC b w x1 hJ.1 ) cv_X10_381 rfl rfl rfl (jv_lt hJ (by decide)) (Nat.le_of_ble_eq_true rfl) (Nat.le_of_ble_eq_true rfl) ⟨(Nat.le_of_ble_eq_true rfl), (Nat.le_of_ble_eq_true rfl)⟩ (Nat.le_of_ble_eq_true rfl) dX10_firsts_2 (fun z_3 u_1 hp_2 => ?_)
  obtain ⟨hz_3, hp_2⟩ := hp_2
  have hj_4 := jv_trans hJ hp_2
  exact r_int E dX10_firsts_5 ⟨⟨by have hb_ := z32 z_3; omega, by have hb_ := z32 z_3; omega, by first | (right; decide) | (have hb_ := z32 z_3; omega) | (have hb_ := z32 z_3; have hc_ := z32 x1; omega), by first | (right; decide) | (have hb_ := z32 z_3; omega) | (have hb_ := z32 z_3; have hc_ := z32 (w.2.2.1 96 9); omega)⟩, hj_4⟩
set_option maxRecDepth 20000 in
set_option maxHeartbeats 2000000 in
theorem Z_X10_askOf_95 (l : Launch) (D : va_G) (aC : Nat → ClassId) (b : Nat) (w : XW) (x1 : Int32) (hI : Iv w)  : CnI l D aC b M_X10_askOf 1 22 0 0 [AR 95, AI x1] w (fun r u => ((-1) ≤ r.toInt ∧ r.toInt ≤ 64) ∧ Jv w u) := by
  refine cn_I (own := RX10) (nm := "askOf") (L0 := [some (AR 95), some (AI x1), none, none, none, none, none, none]) (by decide +kernel) rfl rfl (Nat.le_of_ble_eq_true rfl) rfl ?_
  intro p e s m args below meth c E hin
  have hJ : Jv w w := jv_rfl hI
  have hb_x1 := z32 x1
  refine s_aload_n E dX10_askOf_0 rfl rfl ?_
  refine s_iload_n E dX10_askOf_1 rfl rfl ?_
  refine s_sI (As := [AI x1]) (S := [AR 95]) E (Z_X10_bits l D aC b w x1 hJ.1 ) cs_X10_319 rfl rfl (Nat.le_of_ble_eq_true rfl) (Nat.le_of_ble_eq_true rfl) ⟨(Nat.le_of_ble_eq_true rfl), (Nat.le_of_ble_eq_true rfl)⟩ (Nat.le_of_ble_eq_true rfl) dX10_askOf_2 (fun z_3 u_1 hp_2 => ?_)
  obtain ⟨hz_3, hp_2⟩ := hp_2
  subst hp_2
  refine s_pI E fp_X10_384 (Or.inl rfl) rfl (jv_lt hJ (by decide)) dX10_askOf_5 ?_
  refine s_gen (P := Jv w) (jv_f_95_32 hJ (by have hb_ := z32 z_3; omega) (by have hb_ := z32 z_3; omega)) (fun v_5 hj_6 => ?_)
  refine s_iconst (v := (-1)) E dX10_askOf_8 (by decide) ?_
  refine s_istore_n (L2 := [some (AR 95), some (AI x1), some (AI (-1)), none, none, none, none, none]) E dX10_askOf_9 rfl (by decide) rfl ?_
  refine s_iconst (v := 0) E dX10_askOf_10 (by decide) ?_
  refine s_istore_n (L2 := [some (AR 95), some (AI x1), some (AI (-1)), some (AI 0), none, none, none, none]) E dX10_askOf_11 rfl (by decide) rfl ?_
  refine z_loop (St := Int32 × Int32) (Pi := fun ⟨q12_2_6, q12_3_6⟩ v12 => ((-1) ≤ q12_2_6.toInt ∧ q12_2_6.toInt ≤ 64) ∧ (0 ≤ q12_3_6.toInt ∧ q12_3_6.toInt ≤ 6) ∧ Jv w v12) (Lf := fun ⟨q12_2_6, q12_3_6⟩ => [some (AR 95), some (AI x1), some (AI q12_2_6), some (AI q12_3_6), none, none, none, none]) (fun ⟨q12_2_6, q12_3_6⟩ _ => (7 - q12_3_6.toInt).toNat) ⟨(-1), 0⟩ ⟨⟨by decide, by decide⟩, ⟨by decide, by decide⟩, hj_6⟩ ?_
  rintro ⟨q12_2_6, q12_3_6⟩ v12 ⟨hq12_2, hq12_3, hj_7⟩ ih12
  refine s_loc (L2 := [some (AR 95), some (AI x1), some (AI q12_2_6), some (AI q12_3_6), none, none, none, none]) rfl ?_
  refine s_iload_n E dX10_askOf_12 rfl rfl ?_
  refine s_aload_n E dX10_askOf_13 rfl rfl ?_
  refine s_vI (As := []) (S := [AI q12_3_6]) E (Z_X10_ladies_95 l D aC b v12  hj_7.1 ) cv_X10_244 rfl rfl rfl (jv_lt hj_7 (by decide)) (Nat.le_of_ble_eq_true rfl) (Nat.le_of_ble_eq_true rfl) ⟨(Nat.le_of_ble_eq_true rfl), (Nat.le_of_ble_eq_true rfl)⟩ (Nat.le_of_ble_eq_true rfl) dX10_askOf_14 (fun z_10 u_8 hp_9 => ?_)
  obtain ⟨hz_10, hxz_10, hp_9⟩ := hp_9
  subst hp_9
  refine z_icmp_ge (tgt := 134) (u := q12_3_6.toInt) (v := z_10.toInt) E dX10_askOf_17 (by decide) rfl rfl (fun h_12 => ?_) (fun h_12 => ?_)
  ·
    refine s_iload_n E dX10_askOf_134 rfl rfl ?_
    exact r_int E dX10_askOf_135 ⟨⟨by have hb_ := z32 q12_2_6; omega, by have hb_ := z32 q12_2_6; omega⟩, hj_7⟩
  ·
    refine s_iconst (v := 0) E dX10_askOf_20 (by decide) ?_
    refine s_istore (L2 := [some (AR 95), some (AI x1), some (AI q12_2_6), some (AI q12_3_6), some (AI 0), none, none, none]) E dX10_askOf_21 (by decide) rfl ?_
    refine s_iconst (v := (-1)) E dX10_askOf_23 (by decide) ?_
    refine s_istore (L2 := [some (AR 95), some (AI x1), some (AI q12_2_6), some (AI q12_3_6), some (AI 0), some (AI (-1)), none, none]) E dX10_askOf_24 (by decide) rfl ?_
    refine z_loop (St := Int32 × Int32) (Pi := fun ⟨q26_4_12, q26_5_12⟩ v26 => (0 ≤ q26_4_12.toInt ∧ q26_4_12.toInt ≤ 2147483647) ∧ ((-1) ≤ q26_5_12.toInt ∧ q26_5_12.toInt ≤ 15) ∧ v12 = v26) (Lf := fun ⟨q26_4_12, q26_5_12⟩ => [some (AR 95), some (AI x1), some (AI q12_2_6), some (AI q12_3_6), some (AI q26_4_12), some (AI q26_5_12), none, none]) (fun ⟨q26_4_12, q26_5_12⟩ _ => (16 - q26_5_12.toInt).toNat) ⟨0, (-1)⟩ ⟨⟨by decide, by decide⟩, ⟨by decide, by decide⟩, rfl⟩ ?_
    rintro ⟨q26_4_12, q26_5_12⟩ v26 ⟨hq26_4, hq26_5, hv_⟩ ih26
    subst hv_
    refine s_loc (L2 := [some (AR 95), some (AI x1), some (AI q12_2_6), some (AI q12_3_6), some (AI q26_4_12), some (AI q26_5_12), none, none]) rfl ?_
    refine s_iload E dX10_askOf_26 rfl ?_
    refine s_aload_n E dX10_askOf_28 rfl rfl ?_
    refine s_vI (As := []) (S := [AI q26_5_12]) E (Z_X10_dances_95 l D aC b v12  hj_7.1 ) cv_X10_247 rfl rfl rfl (jv_lt hj_7 (by decide)) (Nat.le_of_ble_eq_true rfl) (Nat.le_of_ble_eq_true rfl) ⟨(Nat.le_of_ble_eq_true rfl), (Nat.le_of_ble_eq_true rfl)⟩ (Nat.le_of_ble_eq_true rfl) dX10_askOf_29 (fun z_16 u_14 hp_15 => ?_)
    obtain ⟨hz_16, hxz_16, hp_15⟩ := hp_15
    subst hp_15
    refine z_icmp_gt (tgt := 108) (u := q26_5_12.toInt) (v := z_16.toInt) E dX10_askOf_32 (by decide) rfl rfl (fun h_18 => ?_) (fun h_18 => ?_)
    ·
      refine s_iload E dX10_askOf_108 rfl ?_
      refine s_aload_n E dX10_askOf_110 rfl rfl ?_
      refine s_gI E fg_X10_384 rfl rfl (jv_lt hj_7 (by decide)) dX10_askOf_111 ?_
      refine z_nm (P := fun z => z.toInt = (v12.2.2.1 95 32).toInt ∧ (-2147483648) ≤ z.toInt ∧ z.toInt ≤ 2147483647) ⟨rfl, z32 _⟩ (fun z_19 hz_19 => ?_)
      refine z_icmp_lt (tgt := 120) (u := q26_4_12.toInt) (v := z_19.toInt) E dX10_askOf_114 (by decide) rfl rfl (fun h_20 => ?_) (fun h_20 => ?_)
      ·
        refine s_aload_n E dX10_askOf_120 rfl rfl ?_
        refine s_iload E dX10_askOf_121 rfl ?_
        refine s_pI E fp_X10_384 (Or.inl rfl) rfl (jv_lt hj_7 (by decide)) dX10_askOf_123 ?_
        refine s_gen (P := Jv w) (jv_f_95_32 hj_7 (by have hb_ := z32 q26_4_12; omega) (by have hb_ := z32 q26_4_12; omega)) (fun v_21 hj_22 => ?_)
        refine s_iload_n E dX10_askOf_126 rfl rfl ?_
        refine s_istore_n (L2 := [some (AR 95), some (AI x1), some (AI q12_3_6), some (AI q12_3_6), some (AI q26_4_12), some (AI q26_5_12), none, none]) E dX10_askOf_127 rfl (by decide) rfl ?_
        refine z_iinc (u := q12_3_6.toInt) (L2 := fun z_23 => [some (AR 95), some (AI x1), some (AI q12_3_6), some (AI z_23), some (AI q26_4_12), some (AI q26_5_12), none, none]) E dX10_askOf_128 rfl rfl (by decide) (fun _ => rfl) (by decide) (by omega) (by omega) (fun z_23 hz_23 => ?_)
        refine s_goto (tgt := 12) E dX10_askOf_131 (by decide) ?_
        refine s_drop (i := 4) (L2 := [some (AR 95), some (AI x1), some (AI q12_3_6), some (AI z_23), none, some (AI q26_5_12), none, none]) rfl ?_
        refine s_drop (i := 5) (L2 := [some (AR 95), some (AI x1), some (AI q12_3_6), some (AI z_23), none, none, none, none]) rfl ?_
        exact ih12 ⟨q12_3_6, z_23⟩ v_21 ⟨⟨by have hb_ := z32 q12_3_6; omega, by have hb_ := z32 q12_3_6; omega⟩, ⟨by have hb_ := z32 z_23; omega, by have hb_ := z32 z_23; omega⟩, hj_22⟩ (by first | omega | decide | (dsimp only; omega) | (dsimp only; decide))
      ·
        refine s_goto (tgt := 128) E dX10_askOf_117 (by decide) ?_
        refine z_iinc (u := q12_3_6.toInt) (L2 := fun z_24 => [some (AR 95), some (AI x1), some (AI q12_2_6), some (AI z_24), some (AI q26_4_12), some (AI q26_5_12), none, none]) E dX10_askOf_128 rfl rfl (by decide) (fun _ => rfl) (by decide) (by omega) (by omega) (fun z_24 hz_24 => ?_)
        refine s_goto (tgt := 12) E dX10_askOf_131 (by decide) ?_
        refine s_drop (i := 4) (L2 := [some (AR 95), some (AI x1), some (AI q12_2_6), some (AI z_24), none, some (AI q26_5_12), none, none]) rfl ?_
        refine s_drop (i := 5) (L2 := [some (AR 95), some (AI x1), some (AI q12_2_6), some (AI z_24), none, none, none, none]) rfl ?_
        exact ih12 ⟨q12_2_6, z_24⟩ v12 ⟨⟨by have hb_ := z32 q12_2_6; omega, by have hb_ := z32 q12_2_6; omega⟩, ⟨by have hb_ := z32 z_24; omega, by have hb_ := z32 z_24; omega⟩, hj_7⟩ (by first | omega | decide | (dsimp only; omega) | (dsimp only; decide))
    ·
      refine s_iconst (v := 0) E dX10_askOf_35 (by decide) ?_
      refine s_istore (L2 := [some (AR 95), some (AI x1), some (AI q12_2_6), some (AI q12_3_6), some (AI q26_4_12), some (AI q26_5_12), some (AI 0), none]) E dX10_askOf_36 (by decide) rfl ?_
      refine s_iconst (v := 0) E dX10_askOf_38 (by decide) ?_
      refine s_istore (L2 := [some (AR 95), some (AI x1), some (AI q12_2_6), some (AI q12_3_6), some (AI q26_4_12), some (AI q26_5_12), some (AI 0), some (AI 0)]) E dX10_askOf_39 (by decide) rfl ?_
      refine z_loop (St := Int32 × Int32) (Pi := fun ⟨q41_6_24, q41_7_24⟩ v41 => (0 ≤ q41_7_24.toInt ∧ q41_7_24.toInt ≤ 6) ∧ v12 = v41) (Lf := fun ⟨q41_6_24, q41_7_24⟩ => [some (AR 95), some (AI x1), some (AI q12_2_6), some (AI q12_3_6), some (AI q26_4_12), some (AI q26_5_12), some (AI q41_6_24), some (AI q41_7_24)]) (fun ⟨q41_6_24, q41_7_24⟩ _ => (7 - q41_7_24.toInt).toNat) ⟨0, 0⟩ ⟨⟨by decide, by decide⟩, rfl⟩ ?_
      rintro ⟨q41_6_24, q41_7_24⟩ v41 ⟨hq41_7, hv_⟩ ih41
      subst hv_
      have hbq41_6 := z32 q41_6_24
      refine s_loc (L2 := [some (AR 95), some (AI x1), some (AI q12_2_6), some (AI q12_3_6), some (AI q26_4_12), some (AI q26_5_12), some (AI q41_6_24), some (AI q41_7_24)]) rfl ?_
      refine s_iload E dX10_askOf_41 rfl ?_
      refine s_aload_n E dX10_askOf_43 rfl rfl ?_
      refine s_vI (As := []) (S := [AI q41_7_24]) E (Z_X10_ladies_95 l D aC b v12  hj_7.1 ) cv_X10_244 rfl rfl rfl (jv_lt hj_7 (by decide)) (Nat.le_of_ble_eq_true rfl) (Nat.le_of_ble_eq_true rfl) ⟨(Nat.le_of_ble_eq_true rfl), (Nat.le_of_ble_eq_true rfl)⟩ (Nat.le_of_ble_eq_true rfl) dX10_askOf_44 (fun z_28 u_26 hp_27 => ?_)
      obtain ⟨hz_28, hxz_28, hp_27⟩ := hp_27
      subst hp_27
      refine z_icmp_ge (tgt := 93) (u := q41_7_24.toInt) (v := z_28.toInt) E dX10_askOf_47 (by decide) rfl rfl (fun h_30 => ?_) (fun h_30 => ?_)
      ·
        refine s_iload E dX10_askOf_93 rfl ?_
        refine s_iload E dX10_askOf_95 rfl ?_
        refine z_max (u := q26_4_12.toInt) (v := q41_6_24.toInt) E ⟨k_1728, k_41, k_4, k_42⟩ (Nat.le_of_ble_eq_true rfl) (Nat.le_of_ble_eq_true rfl) (Nat.le_of_ble_eq_true rfl) (Nat.le_of_ble_eq_true rfl) dX10_askOf_97 rfl rfl (fun z_31 hz_31 => ?_)
        refine s_istore (L2 := [some (AR 95), some (AI x1), some (AI q12_2_6), some (AI q12_3_6), some (AI z_31), some (AI q26_5_12), some (AI q41_6_24), some (AI q41_7_24)]) E dX10_askOf_100 (by decide) rfl ?_
        refine z_iinc (u := q26_5_12.toInt) (L2 := fun z_32 => [some (AR 95), some (AI x1), some (AI q12_2_6), some (AI q12_3_6), some (AI z_31), some (AI z_32), some (AI q41_6_24), some (AI q41_7_24)]) E dX10_askOf_102 rfl rfl (by decide) (fun _ => rfl) (by decide) (by omega) (by omega) (fun z_32 hz_32 => ?_)
        refine s_goto (tgt := 26) E dX10_askOf_105 (by decide) ?_
        refine s_drop (i := 6) (L2 := [some (AR 95), some (AI x1), some (AI q12_2_6), some (AI q12_3_6), some (AI z_31), some (AI z_32), none, some (AI q41_7_24)]) rfl ?_
        refine s_drop (i := 7) (L2 := [some (AR 95), some (AI x1), some (AI q12_2_6), some (AI q12_3_6), some (AI z_31), some (AI z_32), none, none]) rfl ?_
        exact ih26 ⟨z_31, z_32⟩ v12 ⟨⟨by have hb_ := z32 z_31; omega, by have hb_ := z32 z_31; omega⟩, ⟨by have hb_ := z32 z_32; omega, by have hb_ := z32 z_32; omega⟩, rfl⟩ (by first | omega | decide | (dsimp only; omega) | (dsimp only; decide))
      ·
        refine s_iload E dX10_askOf_50 rfl ?_
        refine s_iload_n E dX10_askOf_52 rfl rfl ?_
        refine s_iload E dX10_askOf_53 rfl ?_
        refine s_sI (As := [AI x1, AI q41_7_24]) (S := [AI q41_6_24]) E (Z_X10_bit l D aC b v12 x1 q41_7_24 hj_7.1 ) cs_X10_252 rfl rfl (Nat.le_of_ble_eq_true rfl) (Nat.le_of_ble_eq_true rfl) ⟨(Nat.le_of_ble_eq_true rfl), (Nat.le_of_ble_eq_true rfl)⟩ (Nat.le_of_ble_eq_true rfl) dX10_askOf_55 (fun z_35 u_33 hp_34 => ?_)
        obtain ⟨hz_35, hxz_35, hp_34⟩ := hp_34
        subst hp_34
        refine s_iconst (v := 1) E dX10_askOf_58 (by decide) ?_
        refine z_icmp_ne (tgt := 83) (u := z_35.toInt) (v := 1) E dX10_askOf_59 (by decide) rfl (by decide) (fun h_37 => ?_) (fun h_37 => ?_)
        ·
          refine s_iconst (v := 0) E dX10_askOf_83 (by decide) ?_
          refine z_iadd (u := q41_6_24.toInt) (v := 0) E dX10_askOf_84 rfl (by decide) (by omega) (by omega) (fun z_38 hz_38 => ?_)
          refine s_istore (L2 := [some (AR 95), some (AI x1), some (AI q12_2_6), some (AI q12_3_6), some (AI q26_4_12), some (AI q26_5_12), some (AI z_38), some (AI q41_7_24)]) E dX10_askOf_85 (by decide) rfl ?_
          refine z_iinc (u := q41_7_24.toInt) (L2 := fun z_39 => [some (AR 95), some (AI x1), some (AI q12_2_6), some (AI q12_3_6), some (AI q26_4_12), some (AI q26_5_12), some (AI z_38), some (AI z_39)]) E dX10_askOf_87 rfl rfl (by decide) (fun _ => rfl) (by decide) (by omega) (by omega) (fun z_39 hz_39 => ?_)
          refine s_goto (tgt := 41) E dX10_askOf_90 (by decide) ?_
          exact ih41 ⟨z_38, z_39⟩ v12 ⟨⟨by have hb_ := z32 z_39; omega, by have hb_ := z32 z_39; omega⟩, rfl⟩ (by first | omega | decide | (dsimp only; omega) | (dsimp only; decide))
        ·
          refine s_aload_n E dX10_askOf_62 rfl rfl ?_
          refine s_gR (r := 111) E fg_X10_61 rfl rfl (jv_lt hj_7 (by decide)) (jv_r hj_7 (by decide +kernel)) dX10_askOf_63 ?_
          refine s_bipush (v := 6) E dX10_askOf_66 (by decide) ?_
          refine s_iload E dX10_askOf_68 rfl ?_
          refine z_imul (u := 6) (v := q41_7_24.toInt) E dX10_askOf_70 (by decide) rfl (by omega) (by omega) (fun z_40 hz_40 => ?_)
          refine s_iload_n E dX10_askOf_71 rfl rfl ?_
          refine z_iadd (u := z_40.toInt) (v := q12_3_6.toInt) E dX10_askOf_72 rfl rfl (by omega) (by omega) (fun z_41 hz_41 => ?_)
          refine s_iald E rfl (jv_lt hj_7 (by decide)) (z_in (u := z_41.toInt) rfl (by omega) (by omega)) dX10_askOf_73 ?_
          refine z_nm (P := fun z => z.toInt = (v12.2.2.1 111 z_41.toNatClampNeg).toInt ∧ (-1) ≤ z.toInt ∧ z.toInt ≤ 14) ⟨rfl, (ra_111 hj_7 _)⟩ (fun z_42 hz_42 => ?_)
          refine s_iload E dX10_askOf_74 rfl ?_
          refine z_icmp_ne (tgt := 83) (u := z_42.toInt) (v := q26_5_12.toInt) E dX10_askOf_76 (by decide) rfl rfl (fun h_43 => ?_) (fun h_43 => ?_)
          ·
            refine s_iconst (v := 0) E dX10_askOf_83 (by decide) ?_
            refine z_iadd (u := q41_6_24.toInt) (v := 0) E dX10_askOf_84 rfl (by decide) (by omega) (by omega) (fun z_44 hz_44 => ?_)
            refine s_istore (L2 := [some (AR 95), some (AI x1), some (AI q12_2_6), some (AI q12_3_6), some (AI q26_4_12), some (AI q26_5_12), some (AI z_44), some (AI q41_7_24)]) E dX10_askOf_85 (by decide) rfl ?_
            refine z_iinc (u := q41_7_24.toInt) (L2 := fun z_45 => [some (AR 95), some (AI x1), some (AI q12_2_6), some (AI q12_3_6), some (AI q26_4_12), some (AI q26_5_12), some (AI z_44), some (AI z_45)]) E dX10_askOf_87 rfl rfl (by decide) (fun _ => rfl) (by decide) (by omega) (by omega) (fun z_45 hz_45 => ?_)
            refine s_goto (tgt := 41) E dX10_askOf_90 (by decide) ?_
            exact ih41 ⟨z_44, z_45⟩ v12 ⟨⟨by have hb_ := z32 z_45; omega, by have hb_ := z32 z_45; omega⟩, rfl⟩ (by first | omega | decide | (dsimp only; omega) | (dsimp only; decide))
          ·
            refine s_iconst (v := 1) E dX10_askOf_79 (by decide) ?_
            refine s_goto (tgt := 84) E dX10_askOf_80 (by decide) ?_
            refine s_iadd E dX10_askOf_84 ?_
            refine z_nm (P := fun z => (-2147483648) ≤ z.toInt ∧ z.toInt ≤ 2147483647) (z32 _) (fun z_46 hz_46 => ?_)
            refine s_istore (L2 := [some (AR 95), some (AI x1), some (AI q12_2_6), some (AI q12_3_6), some (AI q26_4_12), some (AI q26_5_12), some (AI z_46), some (AI q41_7_24)]) E dX10_askOf_85 (by decide) rfl ?_
            refine z_iinc (u := q41_7_24.toInt) (L2 := fun z_47 => [some (AR 95), some (AI x1), some (AI q12_2_6), some (AI q12_3_6), some (AI q26_4_12), some (AI q26_5_12), some (AI z_46), some (AI z_47)]) E dX10_askOf_87 rfl rfl (by decide) (fun _ => rfl) (by decide) (by omega) (by omega) (fun z_47 hz_47 => ?_)
            refine s_goto (tgt := 41) E dX10_askOf_90 (by decide) ?_
            exact ih41 ⟨z_46, z_47⟩ v12 ⟨⟨by have hb_ := z32 z_47; omega, by have hb_ := z32 z_47; omega⟩, rfl⟩ (by first | omega | decide | (dsimp only; omega) | (dsimp only; decide))
set_option maxRecDepth 20000 in
set_option maxHeartbeats 2000000 in
theorem Z_X10_ask_95 (l : Launch) (D : va_G) (aC : Nat → ClassId) (b : Nat) (w : XW) (x1 : Int32) (hI : Iv w)  : CnI l D aC b M_X10_ask 6 142 0 0 [AR 95, AI x1] w (fun r u => ((-2147483648) ≤ r.toInt ∧ r.toInt ≤ 64) ∧ Jv w u) := by
  refine cn_I (own := RX10) (nm := "ask") (L0 := [some (AR 95), some (AI x1), none]) (by decide +kernel) rfl rfl (Nat.le_of_ble_eq_true rfl) rfl ?_
  intro p e s m args below meth c E hin
  have hJ : Jv w w := jv_rfl hI
  have hb_x1 := z32 x1
  refine s_aload_n E dX10_ask_0 rfl rfl ?_
  refine s_iload_n E dX10_ask_1 rfl rfl ?_
  refine s_vI (As := [AI x1]) (S := []) E (Z_X10_layFirsts_95 l D aC b w x1 hJ.1 ) cv_X10_381 rfl rfl rfl (jv_lt hJ (by decide)) (Nat.le_of_ble_eq_true rfl) (Nat.le_of_ble_eq_true rfl) ⟨(Nat.le_of_ble_eq_true rfl), (Nat.le_of_ble_eq_true rfl)⟩ (Nat.le_of_ble_eq_true rfl) dX10_ask_2 (fun z_3 u_1 hp_2 => ?_)
  obtain ⟨hz_3, hp_2⟩ := hp_2
  have hj_4 := jv_trans hJ hp_2
  refine s_istore_n (L2 := [some (AR 95), some (AI x1), some (AI z_3)]) E dX10_ask_5 rfl (by decide) rfl ?_
  refine s_iload_n E dX10_ask_6 rfl rfl ?_
  refine z_if_ge (tgt := 14) (u := z_3.toInt) E dX10_ask_7 (by decide) rfl (fun h_5 => ?_) (fun h_5 => ?_)
  ·
    refine s_aload_n E dX10_ask_14 rfl rfl ?_
    refine s_iload_n E dX10_ask_15 rfl rfl ?_
    refine s_vI (As := [AI z_3]) (S := []) E (Z_X10_askOf_95 l D aC b u_1 z_3 hj_4.1 ) cv_X10_387 rfl rfl rfl (jv_lt hj_4 (by decide)) (Nat.le_of_ble_eq_true rfl) (Nat.le_of_ble_eq_true rfl) ⟨(Nat.le_of_ble_eq_true rfl), (Nat.le_of_ble_eq_true rfl)⟩ (Nat.le_of_ble_eq_true rfl) dX10_ask_16 (fun z_8 u_6 hp_7 => ?_)
    obtain ⟨hz_8, hp_7⟩ := hp_7
    have hj_9 := jv_trans hj_4 hp_7
    exact r_int E dX10_ask_19 ⟨⟨by have hb_ := z32 z_8; omega, by have hb_ := z32 z_8; omega⟩, hj_9⟩
  ·
    refine s_iload_n E dX10_ask_10 rfl rfl ?_
    refine s_goto (tgt := 19) E dX10_ask_11 (by decide) ?_
    exact r_int E dX10_ask_19 ⟨⟨by have hb_ := z32 z_3; omega, by have hb_ := z32 z_3; omega⟩, hj_4⟩
set_option maxRecDepth 20000 in
set_option maxHeartbeats 2000000 in
theorem Z_X10_leaves_95 (l : Launch) (D : va_G) (aC : Nat → ClassId) (b : Nat) (w : XW) (x1 : Int32) (hI : Iv w)  : CnI l D aC b M_X10_leaves 6 142 0 0 [AR 95, AI x1] w (fun r u => ((-2147483648) ≤ r.toInt ∧ r.toInt ≤ 2147483647) ∧ Jv w u) := by
  refine cn_I (own := RX10) (nm := "leaves") (L0 := [some (AR 95), some (AI x1), none]) (by decide +kernel) rfl rfl (Nat.le_of_ble_eq_true rfl) rfl ?_
  intro p e s m args below meth c E hin
  have hJ : Jv w w := jv_rfl hI
  have hb_x1 := z32 x1
  refine s_aload_n E dX10_leaves_0 rfl rfl ?_
  refine s_iload_n E dX10_leaves_1 rfl rfl ?_
  refine s_vI (As := [AI x1]) (S := []) E (Z_X10_layFirsts_95 l D aC b w x1 hJ.1 ) cv_X10_381 rfl rfl rfl (jv_lt hJ (by decide)) (Nat.le_of_ble_eq_true rfl) (Nat.le_of_ble_eq_true rfl) ⟨(Nat.le_of_ble_eq_true rfl), (Nat.le_of_ble_eq_true rfl)⟩ (Nat.le_of_ble_eq_true rfl) dX10_leaves_2 (fun z_3 u_1 hp_2 => ?_)
  obtain ⟨hz_3, hp_2⟩ := hp_2
  have hj_4 := jv_trans hJ hp_2
  refine s_istore_n (L2 := [some (AR 95), some (AI x1), some (AI z_3)]) E dX10_leaves_5 rfl (by decide) rfl ?_
  refine s_iload_n E dX10_leaves_6 rfl rfl ?_
  refine z_if_ge (tgt := 12) (u := z_3.toInt) E dX10_leaves_7 (by decide) rfl (fun h_5 => ?_) (fun h_5 => ?_)
  ·
    refine s_aload_n E dX10_leaves_12 rfl rfl ?_
    refine s_iload_n E dX10_leaves_13 rfl rfl ?_
    refine s_vI (As := [AI z_3]) (S := []) E (Z_X10_askOf_95 l D aC b u_1 z_3 hj_4.1 ) cv_X10_387 rfl rfl rfl (jv_lt hj_4 (by decide)) (Nat.le_of_ble_eq_true rfl) (Nat.le_of_ble_eq_true rfl) ⟨(Nat.le_of_ble_eq_true rfl), (Nat.le_of_ble_eq_true rfl)⟩ (Nat.le_of_ble_eq_true rfl) dX10_leaves_14 (fun z_8 u_6 hp_7 => ?_)
    obtain ⟨hz_8, hp_7⟩ := hp_7
    have hj_9 := jv_trans hj_4 hp_7
    refine s_popI E dX10_leaves_17 ?_
    refine s_aload_n E dX10_leaves_18 rfl rfl ?_
    refine s_gI E fg_X10_384 rfl rfl (jv_lt hj_9 (by decide)) dX10_leaves_19 ?_
    refine z_nm (P := fun z => z.toInt = (u_6.2.2.1 95 32).toInt ∧ (-2147483648) ≤ z.toInt ∧ z.toInt ≤ 2147483647) ⟨rfl, z32 _⟩ (fun z_10 hz_10 => ?_)
    exact r_int E dX10_leaves_22 ⟨⟨by have hb_ := z32 z_10; omega, by have hb_ := z32 z_10; omega⟩, hj_9⟩
  ·
    refine s_iload_n E dX10_leaves_10 rfl rfl ?_
    exact r_int E dX10_leaves_11 ⟨⟨by have hb_ := z32 z_3; omega, by have hb_ := z32 z_3; omega⟩, hj_4⟩
set_option maxRecDepth 20000 in
set_option maxHeartbeats 2000000 in
theorem Z_X10_seats_95 (l : Launch) (D : va_G) (aC : Nat → ClassId) (b : Nat) (w : XW) (x1 : Int32) (hI : Iv w)  : CnI l D aC b M_X10_seats 5 113 0 0 [AR 95, AI x1] w (fun r u => ((-2147483648) ≤ r.toInt ∧ r.toInt ≤ 2147483647 ∧ (¬ r.toInt = 0 ∨ (0 ≤ x1.toInt ∧ x1.toInt ≤ 5))) ∧ Jv w u) := by
  refine cn_I (own := RX10) (nm := "seats") (L0 := [some (AR 95), some (AI x1)]) (by decide +kernel) rfl rfl (Nat.le_of_ble_eq_true rfl) rfl ?_
  intro p e s m args below meth c E hin
  have hJ : Jv w w := jv_rfl hI
  have hb_x1 := z32 x1
  refine s_aload_n E dX10_seats_0 rfl rfl ?_
  refine s_iload_n E dX10_seats_1 rfl rfl ?_
  refine s_vI (As := [AI x1]) (S := []) E (Z_X10_asksLady_95 l D aC b w x1 hJ.1 ) cv_X10_288 rfl rfl rfl (jv_lt hJ (by decide)) (Nat.le_of_ble_eq_true rfl) (Nat.le_of_ble_eq_true rfl) ⟨(Nat.le_of_ble_eq_true rfl), (Nat.le_of_ble_eq_true rfl)⟩ (Nat.le_of_ble_eq_true rfl) dX10_seats_2 (fun z_3 u_1 hp_2 => ?_)
  obtain ⟨hz_3, hp_2⟩ := hp_2
  have hj_4 := jv_trans hJ hp_2
  refine z_if_eq (tgt := 17) (u := z_3.toInt) E dX10_seats_5 (by decide) rfl (fun h_5 => ?_) (fun h_5 => ?_)
  ·
    refine s_bipush (v := (-2)) E dX10_seats_17 (by decide) ?_
    exact r_int E dX10_seats_19 ⟨⟨by decide, by decide, by first | (left; decide) | (right; decide) | (right; have hb_ := z32 x1; omega)⟩, hj_4⟩
  ·
    refine s_aload_n E dX10_seats_8 rfl rfl ?_
    refine s_gR (r := 105) E fg_X10_43 rfl rfl (jv_lt hj_4 (by decide)) (jv_r hj_4 (by decide +kernel)) dX10_seats_9 ?_
    refine s_iload_n E dX10_seats_12 rfl rfl ?_
    refine s_iald E rfl (jv_lt hj_4 (by decide)) (z_in (u := x1.toInt) rfl (by omega) (by omega)) dX10_seats_13 ?_
    refine z_nm (P := fun z => (-2147483648) ≤ z.toInt ∧ z.toInt ≤ 2147483647) (z32 _) (fun z_6 hz_6 => ?_)
    refine s_goto (tgt := 19) E dX10_seats_14 (by decide) ?_
    exact r_int E dX10_seats_19 ⟨⟨by have hb_ := z32 z_6; omega, by have hb_ := z32 z_6; omega, by first | (right; decide) | (have hb_ := z32 z_6; omega) | (have hb_ := z32 z_6; have hc_ := z32 x1; omega)⟩, hj_4⟩
set_option maxRecDepth 20000 in
set_option maxHeartbeats 2000000 in
theorem Z_X10_under_95 (l : Launch) (D : va_G) (aC : Nat → ClassId) (b : Nat) (w : XW) (x1 : Int32) (hI : Iv w)  : CnI l D aC b M_X10_under 5 113 0 0 [AR 95, AI x1] w (fun r u => ((-2147483648) ≤ r.toInt ∧ r.toInt ≤ 2147483647 ∧ (¬ r.toInt = 0 ∨ (0 ≤ x1.toInt ∧ x1.toInt ≤ 5))) ∧ Jv w u) := by
  refine cn_I (own := RX10) (nm := "under") (L0 := [some (AR 95), some (AI x1), none, none]) (by decide +kernel) rfl rfl (Nat.le_of_ble_eq_true rfl) rfl ?_
  intro p e s m args below meth c E hin
  have hJ : Jv w w := jv_rfl hI
  have hb_x1 := z32 x1
  refine s_aload_n E dX10_under_0 rfl rfl ?_
  refine s_iload_n E dX10_under_1 rfl rfl ?_
  refine s_vI (As := [AI x1]) (S := []) E (Z_X10_asksLady_95 l D aC b w x1 hJ.1 ) cv_X10_288 rfl rfl rfl (jv_lt hJ (by decide)) (Nat.le_of_ble_eq_true rfl) (Nat.le_of_ble_eq_true rfl) ⟨(Nat.le_of_ble_eq_true rfl), (Nat.le_of_ble_eq_true rfl)⟩ (Nat.le_of_ble_eq_true rfl) dX10_under_2 (fun z_3 u_1 hp_2 => ?_)
  obtain ⟨hz_3, hp_2⟩ := hp_2
  have hj_4 := jv_trans hJ hp_2
  refine z_if_ne (tgt := 11) (u := z_3.toInt) E dX10_under_5 (by decide) rfl (fun h_5 => ?_) (fun h_5 => ?_)
  ·
    refine s_iconst (v := 0) E dX10_under_11 (by decide) ?_
    refine s_istore_n (L2 := [some (AR 95), some (AI x1), some (AI 0), none]) E dX10_under_12 rfl (by decide) rfl ?_
    refine s_iconst (v := 0) E dX10_under_13 (by decide) ?_
    refine s_istore_n (L2 := [some (AR 95), some (AI x1), some (AI 0), some (AI 0)]) E dX10_under_14 rfl (by decide) rfl ?_
    refine z_loop (St := Int32 × Int32) (Pi := fun ⟨q15_2_5, q15_3_5⟩ v15 => (0 ≤ q15_3_5.toInt ∧ q15_3_5.toInt ≤ 8) ∧ u_1 = v15) (Lf := fun ⟨q15_2_5, q15_3_5⟩ => [some (AR 95), some (AI x1), some (AI q15_2_5), some (AI q15_3_5)]) (fun ⟨q15_2_5, q15_3_5⟩ _ => (9 - q15_3_5.toInt).toNat) ⟨0, 0⟩ ⟨⟨by decide, by decide⟩, rfl⟩ ?_
    rintro ⟨q15_2_5, q15_3_5⟩ v15 ⟨hq15_3, hv_⟩ ih15
    subst hv_
    have hbq15_2 := z32 q15_2_5
    refine s_loc (L2 := [some (AR 95), some (AI x1), some (AI q15_2_5), some (AI q15_3_5)]) rfl ?_
    refine s_iload_n E dX10_under_15 rfl rfl ?_
    refine s_aload_n E dX10_under_16 rfl rfl ?_
    refine s_gR (r := 96) E fg_X10_9 rfl rfl (jv_lt hj_4 (by decide)) (jv_r hj_4 (by decide +kernel)) dX10_under_17 ?_
    refine s_bipush (v := 6) E dX10_under_20 (by decide) ?_
    refine s_iald E rfl (jv_lt hj_4 (by decide)) (z_in (u := 6) (by decide) (by omega) (by omega)) dX10_under_22 ?_
    refine z_nm (P := fun z => z.toInt = (u_1.2.2.1 96 6).toInt ∧ 0 ≤ z.toInt ∧ z.toInt ≤ 8) ⟨rfl, (rw_96_6 hj_4)⟩ (fun z_7 hz_7 => ?_)
    refine z_icmp_ge (tgt := 52) (u := q15_3_5.toInt) (v := z_7.toInt) E dX10_under_23 (by decide) rfl rfl (fun h_8 => ?_) (fun h_8 => ?_)
    ·
      refine s_iload_n E dX10_under_52 rfl rfl ?_
      exact r_int E dX10_under_53 ⟨⟨by have hb_ := z32 q15_2_5; omega, by have hb_ := z32 q15_2_5; omega, by first | (right; decide) | (have hb_ := z32 q15_2_5; omega) | (have hb_ := z32 q15_2_5; have hc_ := z32 x1; omega)⟩, hj_4⟩
    ·
      refine s_iload_n E dX10_under_26 rfl rfl ?_
      refine s_aload_n E dX10_under_27 rfl rfl ?_
      refine s_gR (r := 104) E fg_X10_40 rfl rfl (jv_lt hj_4 (by decide)) (jv_r hj_4 (by decide +kernel)) dX10_under_28 ?_
      refine s_iload_n E dX10_under_31 rfl rfl ?_
      refine s_iald E rfl (jv_lt hj_4 (by decide)) (z_in (u := q15_3_5.toInt) rfl (by omega) (by omega)) dX10_under_32 ?_
      refine z_nm (P := fun z => z.toInt = (u_1.2.2.1 104 q15_3_5.toNatClampNeg).toInt ∧ 0 ≤ z.toInt ∧ z.toInt ≤ 5) ⟨rfl, (ra_104 hj_4 _)⟩ (fun z_9 hz_9 => ?_)
      refine s_iload_n E dX10_under_33 rfl rfl ?_
      refine z_icmp_ne (tgt := 43) (u := z_9.toInt) (v := x1.toInt) E dX10_under_34 (by decide) rfl rfl (fun h_10 => ?_) (fun h_10 => ?_)
      ·
        refine s_iconst (v := 0) E dX10_under_43 (by decide) ?_
        refine s_ior E dX10_under_44 ?_
        refine z_nm (P := fun z => (-2147483648) ≤ z.toInt ∧ z.toInt ≤ 2147483647) (z32 _) (fun z_11 hz_11 => ?_)
        refine s_istore_n (L2 := [some (AR 95), some (AI x1), some (AI z_11), some (AI q15_3_5)]) E dX10_under_45 rfl (by decide) rfl ?_
        refine z_iinc (u := q15_3_5.toInt) (L2 := fun z_12 => [some (AR 95), some (AI x1), some (AI z_11), some (AI z_12)]) E dX10_under_46 rfl rfl (by decide) (fun _ => rfl) (by decide) (by omega) (by omega) (fun z_12 hz_12 => ?_)
        refine s_goto (tgt := 15) E dX10_under_49 (by decide) ?_
        exact ih15 ⟨z_11, z_12⟩ u_1 ⟨⟨by have hb_ := z32 z_12; omega, by have hb_ := z32 z_12; omega⟩, rfl⟩ (by first | omega | decide | (dsimp only; omega) | (dsimp only; decide))
      ·
        refine s_iconst (v := 1) E dX10_under_37 (by decide) ?_
        refine s_iload_n E dX10_under_38 rfl rfl ?_
        refine z_shl1 7 (u := q15_3_5.toInt) (B := 128) E dX10_under_39 rfl (by omega) (by omega) (by decide) (by decide) (fun z_13 hz_13 => ?_)
        refine s_goto (tgt := 44) E dX10_under_40 (by decide) ?_
        refine s_ior E dX10_under_44 ?_
        refine z_nm (P := fun z => (-2147483648) ≤ z.toInt ∧ z.toInt ≤ 2147483647) (z32 _) (fun z_14 hz_14 => ?_)
        refine s_istore_n (L2 := [some (AR 95), some (AI x1), some (AI z_14), some (AI q15_3_5)]) E dX10_under_45 rfl (by decide) rfl ?_
        refine z_iinc (u := q15_3_5.toInt) (L2 := fun z_15 => [some (AR 95), some (AI x1), some (AI z_14), some (AI z_15)]) E dX10_under_46 rfl rfl (by decide) (fun _ => rfl) (by decide) (by omega) (by omega) (fun z_15 hz_15 => ?_)
        refine s_goto (tgt := 15) E dX10_under_49 (by decide) ?_
        exact ih15 ⟨z_14, z_15⟩ u_1 ⟨⟨by have hb_ := z32 z_15; omega, by have hb_ := z32 z_15; omega⟩, rfl⟩ (by first | omega | decide | (dsimp only; omega) | (dsimp only; decide))
  ·
    refine s_bipush (v := (-2)) E dX10_under_8 (by decide) ?_
    exact r_int E dX10_under_10 ⟨⟨by decide, by decide, by first | (left; decide) | (right; decide) | (right; have hb_ := z32 x1; omega)⟩, hj_4⟩
set_option maxRecDepth 20000 in
set_option maxHeartbeats 2000000 in
theorem Z_X10_holds_95 (l : Launch) (D : va_G) (aC : Nat → ClassId) (b : Nat) (w : XW) (x1 : Int32) (hI : Iv w)  : CnI l D aC b M_X10_holds 4 92 0 0 [AR 95, AI x1] w (fun r u => ((-2) ≤ r.toInt ∧ r.toInt ≤ 1 ∧ (¬ r.toInt = 0 ∨ (0 ≤ x1.toInt ∧ x1.toInt ≤ 63))) ∧ Jv w u) := by
  refine cn_I (own := RX10) (nm := "holds") (L0 := [some (AR 95), some (AI x1)]) (by decide +kernel) rfl rfl (Nat.le_of_ble_eq_true rfl) rfl ?_
  intro p e s m args below meth c E hin
  have hJ : Jv w w := jv_rfl hI
  have hb_x1 := z32 x1
  refine s_aload_n E dX10_holds_0 rfl rfl ?_
  refine s_vV (As := []) (S := []) E (Z_X10_asItIs_95 l D aC b w  hJ.1 ) cv_X10_279 rfl rfl rfl (jv_lt hJ (by decide)) (Nat.le_of_ble_eq_true rfl) (Nat.le_of_ble_eq_true rfl) ⟨(Nat.le_of_ble_eq_true rfl), (Nat.le_of_ble_eq_true rfl)⟩ (Nat.le_of_ble_eq_true rfl) dX10_holds_1 (fun u_1 hp_2 => ?_)
  have hj_3 := jv_trans hJ hp_2
  refine s_aload_n E dX10_holds_4 rfl rfl ?_
  refine s_iload_n E dX10_holds_5 rfl rfl ?_
  refine s_vI (As := [AI x1]) (S := []) E (Z_X10_isSet_95 l D aC b u_1 x1 hj_3.1 ) cv_X10_399 rfl rfl rfl (jv_lt hj_3 (by decide)) (Nat.le_of_ble_eq_true rfl) (Nat.le_of_ble_eq_true rfl) ⟨(Nat.le_of_ble_eq_true rfl), (Nat.le_of_ble_eq_true rfl)⟩ (Nat.le_of_ble_eq_true rfl) dX10_holds_6 (fun z_6 u_4 hp_5 => ?_)
  obtain ⟨hz_6, hp_5⟩ := hp_5
  subst hp_5
  refine z_if_eq (tgt := 28) (u := z_6.toInt) E dX10_holds_9 (by decide) rfl (fun h_8 => ?_) (fun h_8 => ?_)
  ·
    refine s_bipush (v := (-2)) E dX10_holds_28 (by decide) ?_
    exact r_int E dX10_holds_30 ⟨⟨by decide, by decide, by first | (left; decide) | (right; decide) | (right; have hb_ := z32 x1; omega)⟩, hj_3⟩
  ·
    refine s_aload_n E dX10_holds_12 rfl rfl ?_
    refine s_iload_n E dX10_holds_13 rfl rfl ?_
    refine s_vI (As := [AI x1]) (S := []) E (Z_X10_doesHold_95 l D aC b u_1 x1 hj_3.1 ) cv_X10_396 rfl rfl rfl (jv_lt hj_3 (by decide)) (Nat.le_of_ble_eq_true rfl) (Nat.le_of_ble_eq_true rfl) ⟨(Nat.le_of_ble_eq_true rfl), (Nat.le_of_ble_eq_true rfl)⟩ (Nat.le_of_ble_eq_true rfl) dX10_holds_14 (fun z_11 u_9 hp_10 => ?_)
    obtain ⟨hz_11, hp_10⟩ := hp_10
    subst hp_10
    refine z_if_eq (tgt := 24) (u := z_11.toInt) E dX10_holds_17 (by decide) rfl (fun h_13 => ?_) (fun h_13 => ?_)
    ·
      refine s_iconst (v := 0) E dX10_holds_24 (by decide) ?_
      refine s_goto (tgt := 30) E dX10_holds_25 (by decide) ?_
      exact r_int E dX10_holds_30 ⟨⟨by decide, by decide, by first | (left; decide) | (right; decide) | (right; have hb_ := z32 x1; omega)⟩, hj_3⟩
    ·
      refine s_iconst (v := 1) E dX10_holds_20 (by decide) ?_
      refine s_goto (tgt := 30) E dX10_holds_21 (by decide) ?_
      exact r_int E dX10_holds_30 ⟨⟨by decide, by decide, by first | (left; decide) | (right; decide) | (right; have hb_ := z32 x1; omega)⟩, hj_3⟩
set_option maxRecDepth 20000 in
set_option maxHeartbeats 2000000 in
theorem Z_X10_power_95 (l : Launch) (D : va_G) (aC : Nat → ClassId) (b : Nat) (w : XW) (x1 : Int32) (hI : Iv w)  : CnI l D aC b M_X10_power 5 113 0 0 [AR 95, AI x1] w (fun r u => ((-2147483648) ≤ r.toInt ∧ r.toInt ≤ 2147483647 ∧ (¬ r.toInt = 0 ∨ (0 ≤ x1.toInt ∧ x1.toInt ≤ 5))) ∧ Jv w u) := by
  refine cn_I (own := RX10) (nm := "power") (L0 := [some (AR 95), some (AI x1)]) (by decide +kernel) rfl rfl (Nat.le_of_ble_eq_true rfl) rfl ?_
  intro p e s m args below meth c E hin
  have hJ : Jv w w := jv_rfl hI
  have hb_x1 := z32 x1
  refine s_aload_n E dX10_power_0 rfl rfl ?_
  refine s_iload_n E dX10_power_1 rfl rfl ?_
  refine s_vI (As := [AI x1]) (S := []) E (Z_X10_asksLady_95 l D aC b w x1 hJ.1 ) cv_X10_288 rfl rfl rfl (jv_lt hJ (by decide)) (Nat.le_of_ble_eq_true rfl) (Nat.le_of_ble_eq_true rfl) ⟨(Nat.le_of_ble_eq_true rfl), (Nat.le_of_ble_eq_true rfl)⟩ (Nat.le_of_ble_eq_true rfl) dX10_power_2 (fun z_3 u_1 hp_2 => ?_)
  obtain ⟨hz_3, hp_2⟩ := hp_2
  have hj_4 := jv_trans hJ hp_2
  refine z_if_eq (tgt := 16) (u := z_3.toInt) E dX10_power_5 (by decide) rfl (fun h_5 => ?_) (fun h_5 => ?_)
  ·
    refine s_bipush (v := (-2)) E dX10_power_16 (by decide) ?_
    exact r_int E dX10_power_18 ⟨⟨by decide, by decide, by first | (left; decide) | (right; decide) | (right; have hb_ := z32 x1; omega)⟩, hj_4⟩
  ·
    refine s_aload_n E dX10_power_8 rfl rfl ?_
    refine s_iload_n E dX10_power_9 rfl rfl ?_
    refine s_vI (As := [AI x1]) (S := []) E (Z_X10_powerOf_95 l D aC b u_1 x1 hj_4.1 ⟨by have hb_ := z32 x1; omega, by have hb_ := z32 x1; omega⟩) cv_X10_402 rfl rfl rfl (jv_lt hj_4 (by decide)) (Nat.le_of_ble_eq_true rfl) (Nat.le_of_ble_eq_true rfl) ⟨(Nat.le_of_ble_eq_true rfl), (Nat.le_of_ble_eq_true rfl)⟩ (Nat.le_of_ble_eq_true rfl) dX10_power_10 (fun z_8 u_6 hp_7 => ?_)
    obtain ⟨hz_8, hp_7⟩ := hp_7
    subst hp_7
    refine s_goto (tgt := 18) E dX10_power_13 (by decide) ?_
    exact r_int E dX10_power_18 ⟨⟨by have hb_ := z32 z_8; omega, by have hb_ := z32 z_8; omega, by first | (right; decide) | (have hb_ := z32 z_8; omega) | (have hb_ := z32 z_8; have hc_ := z32 x1; omega)⟩, hj_4⟩
set_option maxRecDepth 20000 in
set_option maxHeartbeats 2000000 in
theorem Z_X10_divisor (l : Launch) (D : va_G) (aC : Nat → ClassId) (b : Nat) (w : XW) (x1 : Int64) (x2 : Int64) (hI : Iv w) (hy_ : ¬ x2.toInt = 0) : CnL l D aC b M_X10_divisor 0 0 0 0 [AL x1, AL x2] w (fun r u => ((-9223372036854775808) ≤ r.toInt ∧ r.toInt ≤ 9223372036854775807) ∧ (¬ r.toInt = 0) ∧ w = u) := by
  refine cn_L (own := RX10) (nm := "divisor") (L0 := [some (AL x1), none, some (AL x2), none, none, none, none, none, none, none]) (by decide +kernel) rfl rfl (Nat.le_of_ble_eq_true rfl) rfl ?_
  intro p e s m args below meth c E hin
  have hJ : Jv w w := jv_rfl hI
  refine s_lload_n E dX10_divisor_0 rfl rfl ?_
  refine s_lstore (L2 := [some (AL x1), none, some (AL x2), none, some (AL x1), none, none, none, none, none]) E dX10_divisor_1 (by decide) rfl ?_
  refine s_lload_n E dX10_divisor_3 rfl rfl ?_
  refine s_lstore (L2 := [some (AL x1), none, some (AL x2), none, some (AL x1), none, some (AL x2), none, none, none]) E dX10_divisor_4 (by decide) rfl ?_
  refine z_loop (St := Int64 × Int64) (Pi := fun ⟨q6_4_0, q6_6_0⟩ v6 => (¬ (q6_4_0.toInt = 0 ∧ q6_6_0.toInt = 0)) ∧ w = v6) (Lf := fun ⟨q6_4_0, q6_6_0⟩ => [some (AL x1), none, some (AL x2), none, some (AL q6_4_0), none, some (AL q6_6_0), none, none, none]) (fun ⟨q6_4_0, q6_6_0⟩ _ => q6_6_0.toInt.natAbs) ⟨x1, x2⟩ ⟨(by omega), rfl⟩ ?_
  rintro ⟨q6_4_0, q6_6_0⟩ v6 ⟨hl6, hv_⟩ ih6
  subst hv_
  have hbq6_4 := z64 q6_4_0
  have hbq6_6 := z64 q6_6_0
  refine s_loc (L2 := [some (AL x1), none, some (AL x2), none, some (AL q6_4_0), none, some (AL q6_6_0), none, none, none]) rfl ?_
  refine s_lload E dX10_divisor_6 rfl ?_
  refine s_lconst (v := 0) E dX10_divisor_8 (by decide) ?_
  refine z_lcmp (u := q6_6_0.toInt) (v := 0) E dX10_divisor_9 rfl (by decide) (fun z_2 hz_2 => ?_)
  refine z_if_eq (tgt := 31) (u := z_2.toInt) E dX10_divisor_10 (by decide) rfl (fun h_3 => ?_) (fun h_3 => ?_)
  ·
    refine s_lload E dX10_divisor_31 rfl ?_
    exact r_long E dX10_divisor_33 ⟨⟨by have hb_ := z64 q6_4_0; omega, by have hb_ := z64 q6_4_0; omega⟩, (by omega), rfl⟩
  ·
    refine s_lload E dX10_divisor_13 rfl ?_
    refine s_lload E dX10_divisor_15 rfl ?_
    refine s_lrem E dX10_divisor_17 (z_neL (u := q6_6_0.toInt) rfl (by omega)) ?_
    refine z_nmL (P := fun z => z.toInt.natAbs < q6_6_0.toInt.natAbs) (y_lrem (by omega)) (fun z_4 hz_4 => ?_)
    refine s_lstore (L2 := [some (AL x1), none, some (AL x2), none, some (AL q6_4_0), none, some (AL q6_6_0), none, some (AL z_4), none]) E dX10_divisor_18 (by decide) rfl ?_
    refine s_lload E dX10_divisor_20 rfl ?_
    refine s_lstore (L2 := [some (AL x1), none, some (AL x2), none, some (AL q6_6_0), none, some (AL q6_6_0), none, some (AL z_4), none]) E dX10_divisor_22 (by decide) rfl ?_
    refine s_lload E dX10_divisor_24 rfl ?_
    refine s_lstore (L2 := [some (AL x1), none, some (AL x2), none, some (AL q6_6_0), none, some (AL z_4), none, some (AL z_4), none]) E dX10_divisor_26 (by decide) rfl ?_
    refine s_goto (tgt := 6) E dX10_divisor_28 (by decide) ?_
    refine s_drop (i := 8) (L2 := [some (AL x1), none, some (AL x2), none, some (AL q6_6_0), none, some (AL z_4), none, none, none]) rfl ?_
    exact ih6 ⟨q6_6_0, z_4⟩ w ⟨(by omega), rfl⟩ (by first | omega | decide | (dsimp only; omega) | (dsimp only; decide))
set_option maxRecDepth 20000 in
set_option maxHeartbeats 2000000 in
theorem Z_X10_lowest (l : Launch) (D : va_G) (aC : Nat → ClassId) (b : Nat) (w : XW) (x1 : Int64) (x2 : Int64) (x3 : Int32) (hI : Iv w) (hy_ : ¬ x2.toInt = 0) : CnL l D aC b M_X10_lowest 1 29 0 0 [AL x1, AL x2, AI x3] w (fun r u => ((-9223372036854775808) ≤ r.toInt ∧ r.toInt ≤ 9223372036854775807) ∧ w = u) := by
  refine cn_L (own := RX10) (nm := "lowest") (L0 := [some (AL x1), none, some (AL x2), none, some (AI x3)]) (by decide +kernel) rfl rfl (Nat.le_of_ble_eq_true rfl) rfl ?_
  intro p e s m args below meth c E hin
  have hJ : Jv w w := jv_rfl hI
  have hb_x3 := z32 x3
  refine s_iload E dX10_lowest_0 rfl ?_
  refine z_if_ne (tgt := 9) (u := x3.toInt) E dX10_lowest_2 (by decide) rfl (fun h_1 => ?_) (fun h_1 => ?_)
  ·
    refine s_lload_n E dX10_lowest_9 rfl rfl ?_
    refine s_lload_n E dX10_lowest_10 rfl rfl ?_
    refine s_lload_n E dX10_lowest_11 rfl rfl ?_
    refine s_sL (As := [AL x1, AL x2]) (S := [AL x2]) E (Z_X10_divisor l D aC b w x1 x2 hJ.1  (by omega)) cs_X10_405 rfl rfl (Nat.le_of_ble_eq_true rfl) (Nat.le_of_ble_eq_true rfl) ⟨(Nat.le_of_ble_eq_true rfl), (Nat.le_of_ble_eq_true rfl)⟩ (Nat.le_of_ble_eq_true rfl) dX10_lowest_12 (fun z_4 u_2 hp_3 => ?_)
    obtain ⟨hz_4, hxz_4, hp_3⟩ := hp_3
    subst hp_3
    refine s_ldiv E dX10_lowest_15 (z_neL (u := z_4.toInt) rfl (by omega)) ?_
    refine z_anyL (fun z_6 => ?_)
    exact r_long E dX10_lowest_16 ⟨⟨by have hb_ := z64 z_6; omega, by have hb_ := z64 z_6; omega⟩, rfl⟩
  ·
    refine s_lload_n E dX10_lowest_5 rfl rfl ?_
    refine s_goto (tgt := 10) E dX10_lowest_6 (by decide) ?_
    refine s_lload_n E dX10_lowest_10 rfl rfl ?_
    refine s_lload_n E dX10_lowest_11 rfl rfl ?_
    refine s_sL (As := [AL x1, AL x2]) (S := [AL x1]) E (Z_X10_divisor l D aC b w x1 x2 hJ.1  (by omega)) cs_X10_405 rfl rfl (Nat.le_of_ble_eq_true rfl) (Nat.le_of_ble_eq_true rfl) ⟨(Nat.le_of_ble_eq_true rfl), (Nat.le_of_ble_eq_true rfl)⟩ (Nat.le_of_ble_eq_true rfl) dX10_lowest_12 (fun z_9 u_7 hp_8 => ?_)
    obtain ⟨hz_9, hxz_9, hp_8⟩ := hp_8
    subst hp_8
    refine s_ldiv E dX10_lowest_15 (z_neL (u := z_9.toInt) rfl (by omega)) ?_
    refine z_anyL (fun z_11 => ?_)
    exact r_long E dX10_lowest_16 ⟨⟨by have hb_ := z64 z_11; omega, by have hb_ := z64 z_11; omega⟩, rfl⟩
set_option maxRecDepth 20000 in
set_option maxHeartbeats 2000000 in
theorem Z_X10_part_95 (l : Launch) (D : va_G) (aC : Nat → ClassId) (b : Nat) (w : XW) (x1 : Int32) (x2 : Int32) (hI : Iv w)  : CnI l D aC b M_X10_part 5 113 0 0 [AR 95, AI x1, AI x2] w (fun r u => ((-2147483648) ≤ r.toInt ∧ r.toInt ≤ 2147483647 ∧ (¬ r.toInt = 0 ∨ (0 ≤ x1.toInt ∧ x1.toInt ≤ 5)) ∧ (¬ r.toInt = 0 ∨ (0 ≤ x2.toInt ∧ x2.toInt ≤ 1))) ∧ Jv w u) := by
  refine cn_I (own := RX10) (nm := "part") (L0 := [some (AR 95), some (AI x1), some (AI x2), none]) (by decide +kernel) rfl rfl (Nat.le_of_ble_eq_true rfl) rfl ?_
  intro p e s m args below meth c E hin
  have hJ : Jv w w := jv_rfl hI
  have hb_x1 := z32 x1
  have hb_x2 := z32 x2
  refine s_aload_n E dX10_part_0 rfl rfl ?_
  refine s_iload_n E dX10_part_1 rfl rfl ?_
  refine s_vI (As := [AI x1]) (S := []) E (Z_X10_asksLady_95 l D aC b w x1 hJ.1 ) cv_X10_288 rfl rfl rfl (jv_lt hJ (by decide)) (Nat.le_of_ble_eq_true rfl) (Nat.le_of_ble_eq_true rfl) ⟨(Nat.le_of_ble_eq_true rfl), (Nat.le_of_ble_eq_true rfl)⟩ (Nat.le_of_ble_eq_true rfl) dX10_part_2 (fun z_3 u_1 hp_2 => ?_)
  obtain ⟨hz_3, hp_2⟩ := hp_2
  have hj_4 := jv_trans hJ hp_2
  refine z_if_eq (tgt := 18) (u := z_3.toInt) E dX10_part_5 (by decide) rfl (fun h_5 => ?_) (fun h_5 => ?_)
  ·
    refine s_bipush (v := (-2)) E dX10_part_18 (by decide) ?_
    exact r_int E dX10_part_20 ⟨⟨by decide, by decide, by first | (left; decide) | (right; decide) | (right; have hb_ := z32 x1; omega), by first | (left; decide) | (right; decide) | (right; have hb_ := z32 x2; omega)⟩, hj_4⟩
  ·
    refine s_iload_n E dX10_part_8 rfl rfl ?_
    refine z_i2l (u := x2.toInt) E dX10_part_9 rfl (fun z_6 hz_6 => ?_)
    refine s_lconst (v := 0) E dX10_part_10 (by decide) ?_
    refine s_lconst (v := 1) E dX10_part_11 (by decide) ?_
    refine s_sI (As := [AL z_6, AL 0, AL 1]) (S := []) E (Z_X10_in l D aC b u_1 z_6 0 1) cs_X10_82 rfl rfl (Nat.le_of_ble_eq_true rfl) (Nat.le_of_ble_eq_true rfl) ⟨(Nat.le_of_ble_eq_true rfl), (Nat.le_of_ble_eq_true rfl)⟩ (Nat.le_of_ble_eq_true rfl) dX10_part_12 (fun z_7 u_8 hp_9 => ?_)
    obtain ⟨hz_7, hp_9⟩ := hp_9
    subst hp_9
    refine z_if_ne (tgt := 21) (u := z_7.toInt) E dX10_part_15 (by decide) rfl (fun h_10 => ?_) (fun h_10 => ?_)
    ·
      refine s_aload_n E dX10_part_21 rfl rfl ?_
      refine s_aload_n E dX10_part_22 rfl rfl ?_
      refine s_vI (As := []) (S := [AR 95]) E (Z_X10_allLadies_95 l D aC b u_1  hj_4.1 ) cv_X10_393 rfl rfl rfl (jv_lt hj_4 (by decide)) (Nat.le_of_ble_eq_true rfl) (Nat.le_of_ble_eq_true rfl) ⟨(Nat.le_of_ble_eq_true rfl), (Nat.le_of_ble_eq_true rfl)⟩ (Nat.le_of_ble_eq_true rfl) dX10_part_23 (fun z_13 u_11 hp_12 => ?_)
      obtain ⟨hz_13, hp_12⟩ := hp_12
      subst hp_12
      refine s_vI (As := [AI z_13]) (S := []) E (Z_X10_seatsIn_95 l D aC b u_1 z_13 hj_4.1 ) cv_X10_390 rfl rfl rfl (jv_lt hj_4 (by decide)) (Nat.le_of_ble_eq_true rfl) (Nat.le_of_ble_eq_true rfl) ⟨(Nat.le_of_ble_eq_true rfl), (Nat.le_of_ble_eq_true rfl)⟩ (Nat.le_of_ble_eq_true rfl) dX10_part_26 (fun z_17 u_15 hp_16 => ?_)
      obtain ⟨hz_17, hp_16⟩ := hp_16
      subst hp_16
      refine s_istore_n (L2 := [some (AR 95), some (AI x1), some (AI x2), some (AI z_17)]) E dX10_part_29 rfl (by decide) rfl ?_
      refine s_iload_n E dX10_part_30 rfl rfl ?_
      refine z_if_ne (tgt := 38) (u := z_17.toInt) E dX10_part_31 (by decide) rfl (fun h_19 => ?_) (fun h_19 => ?_)
      ·
        refine s_aload_n E dX10_part_38 rfl rfl ?_
        refine s_gR (r := 105) E fg_X10_43 rfl rfl (jv_lt hj_4 (by decide)) (jv_r hj_4 (by decide +kernel)) dX10_part_39 ?_
        refine s_iload_n E dX10_part_42 rfl rfl ?_
        refine s_iald E rfl (jv_lt hj_4 (by decide)) (z_in (u := x1.toInt) rfl (by omega) (by omega)) dX10_part_43 ?_
        refine z_nm (P := fun z => (-2147483648) ≤ z.toInt ∧ z.toInt ≤ 2147483647) (z32 _) (fun z_20 hz_20 => ?_)
        refine z_i2l (u := z_20.toInt) E dX10_part_44 rfl (fun z_21 hz_21 => ?_)
        refine s_iload_n E dX10_part_45 rfl rfl ?_
        refine z_i2l (u := z_17.toInt) E dX10_part_46 rfl (fun z_22 hz_22 => ?_)
        refine s_iload_n E dX10_part_47 rfl rfl ?_
        refine s_sL (As := [AL z_21, AL z_22, AI x2]) (S := []) E (Z_X10_lowest l D aC b u_1 z_21 z_22 x2 hj_4.1  (by omega)) cs_X10_409 rfl rfl (Nat.le_of_ble_eq_true rfl) (Nat.le_of_ble_eq_true rfl) ⟨(Nat.le_of_ble_eq_true rfl), (Nat.le_of_ble_eq_true rfl)⟩ (Nat.le_of_ble_eq_true rfl) dX10_part_48 (fun z_25 u_23 hp_24 => ?_)
        obtain ⟨hz_25, hp_24⟩ := hp_24
        subst hp_24
        refine s_l2i E dX10_part_51 ?_
        refine z_nm (P := fun z => (-2147483648) ≤ z.toInt ∧ z.toInt ≤ 2147483647) (z32 _) (fun z_27 hz_27 => ?_)
        exact r_int E dX10_part_52 ⟨⟨by have hb_ := z32 z_27; omega, by have hb_ := z32 z_27; omega, by first | (right; decide) | (have hb_ := z32 z_27; omega) | (have hb_ := z32 z_27; have hc_ := z32 x1; omega), by first | (right; decide) | (have hb_ := z32 z_27; omega) | (have hb_ := z32 z_27; have hc_ := z32 x2; omega)⟩, hj_4⟩
      ·
        refine s_iconst (v := (-1)) E dX10_part_34 (by decide) ?_
        refine s_goto (tgt := 52) E dX10_part_35 (by decide) ?_
        exact r_int E dX10_part_52 ⟨⟨by decide, by decide, by first | (left; decide) | (right; decide) | (right; have hb_ := z32 x1; omega), by first | (left; decide) | (right; decide) | (right; have hb_ := z32 x2; omega)⟩, hj_4⟩
    ·
      refine s_bipush (v := (-2)) E dX10_part_18 (by decide) ?_
      exact r_int E dX10_part_20 ⟨⟨by decide, by decide, by first | (left; decide) | (right; decide) | (right; have hb_ := z32 x1; omega), by first | (left; decide) | (right; decide) | (right; have hb_ := z32 x2; omega)⟩, hj_4⟩
set_option maxRecDepth 20000 in
set_option maxHeartbeats 2000000 in
theorem Z_X10_cabinet_95 (l : Launch) (D : va_G) (aC : Nat → ClassId) (b : Nat) (w : XW)  (hI : Iv w)  : CnI l D aC b M_X10_cabinet 5 112 0 0 [AR 95] w (fun r u => ((-2) ≤ r.toInt ∧ r.toInt ≤ 64) ∧ Jv w u) := by
  refine cn_I (own := RX10) (nm := "cabinet") (L0 := [some (AR 95), none, none]) (by decide +kernel) rfl rfl (Nat.le_of_ble_eq_true rfl) rfl ?_
  intro p e s m args below meth c E hin
  have hJ : Jv w w := jv_rfl hI
  refine s_aload_n E dX10_cabinet_0 rfl rfl ?_
  refine s_vI (As := []) (S := []) E (Z_X10_asksBall_95 l D aC b w  hJ.1 ) cv_X10_322 rfl rfl rfl (jv_lt hJ (by decide)) (Nat.le_of_ble_eq_true rfl) (Nat.le_of_ble_eq_true rfl) ⟨(Nat.le_of_ble_eq_true rfl), (Nat.le_of_ble_eq_true rfl)⟩ (Nat.le_of_ble_eq_true rfl) dX10_cabinet_1 (fun z_3 u_1 hp_2 => ?_)
  obtain ⟨hz_3, hp_2⟩ := hp_2
  have hj_4 := jv_trans hJ hp_2
  refine z_if_ne (tgt := 10) (u := z_3.toInt) E dX10_cabinet_4 (by decide) rfl (fun h_5 => ?_) (fun h_5 => ?_)
  ·
    refine s_iconst (v := (-1)) E dX10_cabinet_10 (by decide) ?_
    refine s_istore_n (L2 := [some (AR 95), some (AI (-1)), none]) E dX10_cabinet_11 rfl (by decide) rfl ?_
    refine s_iconst (v := 0) E dX10_cabinet_12 (by decide) ?_
    refine s_istore_n (L2 := [some (AR 95), some (AI (-1)), some (AI 0)]) E dX10_cabinet_13 rfl (by decide) rfl ?_
    refine z_loop (St := Int32 × Int32) (Pi := fun ⟨q14_1_5, q14_2_5⟩ v14 => ((-1) ≤ q14_1_5.toInt ∧ q14_1_5.toInt ≤ 64) ∧ (0 ≤ q14_2_5.toInt ∧ q14_2_5.toInt ≤ 64) ∧ u_1 = v14) (Lf := fun ⟨q14_1_5, q14_2_5⟩ => [some (AR 95), some (AI q14_1_5), some (AI q14_2_5)]) (fun ⟨q14_1_5, q14_2_5⟩ _ => (65 - q14_2_5.toInt).toNat) ⟨(-1), 0⟩ ⟨⟨by decide, by decide⟩, ⟨by decide, by decide⟩, rfl⟩ ?_
    rintro ⟨q14_1_5, q14_2_5⟩ v14 ⟨hq14_1, hq14_2, hv_⟩ ih14
    subst hv_
    refine s_loc (L2 := [some (AR 95), some (AI q14_1_5), some (AI q14_2_5)]) rfl ?_
    refine s_iload_n E dX10_cabinet_14 rfl rfl ?_
    refine s_aload_n E dX10_cabinet_15 rfl rfl ?_
    refine s_vI (As := []) (S := [AI q14_2_5]) E (Z_X10_allLadies_95 l D aC b u_1  hj_4.1 ) cv_X10_393 rfl rfl rfl (jv_lt hj_4 (by decide)) (Nat.le_of_ble_eq_true rfl) (Nat.le_of_ble_eq_true rfl) ⟨(Nat.le_of_ble_eq_true rfl), (Nat.le_of_ble_eq_true rfl)⟩ (Nat.le_of_ble_eq_true rfl) dX10_cabinet_16 (fun z_9 u_7 hp_8 => ?_)
    obtain ⟨hz_9, hp_8⟩ := hp_8
    subst hp_8
    refine z_icmp_gt (tgt := 54) (u := q14_2_5.toInt) (v := z_9.toInt) E dX10_cabinet_19 (by decide) rfl rfl (fun h_11 => ?_) (fun h_11 => ?_)
    ·
      refine s_iload_n E dX10_cabinet_54 rfl rfl ?_
      exact r_int E dX10_cabinet_55 ⟨⟨by have hb_ := z32 q14_1_5; omega, by have hb_ := z32 q14_1_5; omega⟩, hj_4⟩
    ·
      refine s_aload_n E dX10_cabinet_22 rfl rfl ?_
      refine s_iload_n E dX10_cabinet_23 rfl rfl ?_
      refine s_vI (As := [AI q14_2_5]) (S := []) E (Z_X10_doesHold_95 l D aC b u_1 q14_2_5 hj_4.1 ) cv_X10_396 rfl rfl rfl (jv_lt hj_4 (by decide)) (Nat.le_of_ble_eq_true rfl) (Nat.le_of_ble_eq_true rfl) ⟨(Nat.le_of_ble_eq_true rfl), (Nat.le_of_ble_eq_true rfl)⟩ (Nat.le_of_ble_eq_true rfl) dX10_cabinet_24 (fun z_14 u_12 hp_13 => ?_)
      obtain ⟨hz_14, hp_13⟩ := hp_13
      subst hp_13
      refine z_if_eq (tgt := 48) (u := z_14.toInt) E dX10_cabinet_27 (by decide) rfl (fun h_16 => ?_) (fun h_16 => ?_)
      ·
        refine z_iinc (u := q14_2_5.toInt) (L2 := fun z_17 => [some (AR 95), some (AI q14_1_5), some (AI z_17)]) E dX10_cabinet_48 rfl rfl (by decide) (fun _ => rfl) (by decide) (by omega) (by omega) (fun z_17 hz_17 => ?_)
        refine s_goto (tgt := 14) E dX10_cabinet_51 (by decide) ?_
        exact ih14 ⟨q14_1_5, z_17⟩ u_1 ⟨⟨by have hb_ := z32 q14_1_5; omega, by have hb_ := z32 q14_1_5; omega⟩, ⟨by have hb_ := z32 z_17; omega, by have hb_ := z32 z_17; omega⟩, rfl⟩ (by first | omega | decide | (dsimp only; omega) | (dsimp only; decide))
      ·
        refine s_iload_n E dX10_cabinet_30 rfl rfl ?_
        refine s_iconst (v := (-1)) E dX10_cabinet_31 (by decide) ?_
        refine z_icmp_eq (tgt := 46) (u := q14_1_5.toInt) (v := (-1)) E dX10_cabinet_32 (by decide) rfl (by decide) (fun h_18 => ?_) (fun h_18 => ?_)
        ·
          refine s_iload_n E dX10_cabinet_46 rfl rfl ?_
          refine s_istore_n (L2 := [some (AR 95), some (AI q14_2_5), some (AI q14_2_5)]) E dX10_cabinet_47 rfl (by decide) rfl ?_
          refine z_iinc (u := q14_2_5.toInt) (L2 := fun z_19 => [some (AR 95), some (AI q14_2_5), some (AI z_19)]) E dX10_cabinet_48 rfl rfl (by decide) (fun _ => rfl) (by decide) (by omega) (by omega) (fun z_19 hz_19 => ?_)
          refine s_goto (tgt := 14) E dX10_cabinet_51 (by decide) ?_
          exact ih14 ⟨q14_2_5, z_19⟩ u_1 ⟨⟨by have hb_ := z32 q14_2_5; omega, by have hb_ := z32 q14_2_5; omega⟩, ⟨by have hb_ := z32 z_19; omega, by have hb_ := z32 z_19; omega⟩, rfl⟩ (by first | omega | decide | (dsimp only; omega) | (dsimp only; decide))
        ·
          refine s_iload_n E dX10_cabinet_35 rfl rfl ?_
          refine s_sI (As := [AI q14_2_5]) (S := []) E (Z_X10_bits l D aC b u_1 q14_2_5 hj_4.1 ) cs_X10_319 rfl rfl (Nat.le_of_ble_eq_true rfl) (Nat.le_of_ble_eq_true rfl) ⟨(Nat.le_of_ble_eq_true rfl), (Nat.le_of_ble_eq_true rfl)⟩ (Nat.le_of_ble_eq_true rfl) dX10_cabinet_36 (fun z_22 u_20 hp_21 => ?_)
          obtain ⟨hz_22, hp_21⟩ := hp_21
          subst hp_21
          refine s_iload_n E dX10_cabinet_39 rfl rfl ?_
          refine s_sI (As := [AI q14_1_5]) (S := [AI z_22]) E (Z_X10_bits l D aC b u_1 q14_1_5 hj_4.1 ) cs_X10_319 rfl rfl (Nat.le_of_ble_eq_true rfl) (Nat.le_of_ble_eq_true rfl) ⟨(Nat.le_of_ble_eq_true rfl), (Nat.le_of_ble_eq_true rfl)⟩ (Nat.le_of_ble_eq_true rfl) dX10_cabinet_40 (fun z_26 u_24 hp_25 => ?_)
          obtain ⟨hz_26, hp_25⟩ := hp_25
          subst hp_25
          refine z_icmp_ge (tgt := 48) (u := z_22.toInt) (v := z_26.toInt) E dX10_cabinet_43 (by decide) rfl rfl (fun h_28 => ?_) (fun h_28 => ?_)
          ·
            refine z_iinc (u := q14_2_5.toInt) (L2 := fun z_29 => [some (AR 95), some (AI q14_1_5), some (AI z_29)]) E dX10_cabinet_48 rfl rfl (by decide) (fun _ => rfl) (by decide) (by omega) (by omega) (fun z_29 hz_29 => ?_)
            refine s_goto (tgt := 14) E dX10_cabinet_51 (by decide) ?_
            exact ih14 ⟨q14_1_5, z_29⟩ u_1 ⟨⟨by have hb_ := z32 q14_1_5; omega, by have hb_ := z32 q14_1_5; omega⟩, ⟨by have hb_ := z32 z_29; omega, by have hb_ := z32 z_29; omega⟩, rfl⟩ (by first | omega | decide | (dsimp only; omega) | (dsimp only; decide))
          ·
            refine s_iload_n E dX10_cabinet_46 rfl rfl ?_
            refine s_istore_n (L2 := [some (AR 95), some (AI q14_2_5), some (AI q14_2_5)]) E dX10_cabinet_47 rfl (by decide) rfl ?_
            refine z_iinc (u := q14_2_5.toInt) (L2 := fun z_30 => [some (AR 95), some (AI q14_2_5), some (AI z_30)]) E dX10_cabinet_48 rfl rfl (by decide) (fun _ => rfl) (by decide) (by omega) (by omega) (fun z_30 hz_30 => ?_)
            refine s_goto (tgt := 14) E dX10_cabinet_51 (by decide) ?_
            exact ih14 ⟨q14_2_5, z_30⟩ u_1 ⟨⟨by have hb_ := z32 q14_2_5; omega, by have hb_ := z32 q14_2_5; omega⟩, ⟨by have hb_ := z32 z_30; omega, by have hb_ := z32 z_30; omega⟩, rfl⟩ (by first | omega | decide | (dsimp only; omega) | (dsimp only; decide))
  ·
    refine s_bipush (v := (-2)) E dX10_cabinet_7 (by decide) ?_
    exact r_int E dX10_cabinet_9 ⟨(by decide), hj_4⟩
set_option maxRecDepth 20000 in
set_option maxHeartbeats 2000000 in
theorem Z_X10_isLeast_95 (l : Launch) (D : va_G) (aC : Nat → ClassId) (b : Nat) (w : XW) (x1 : Int32) (hI : Iv w)  : CnI l D aC b M_X10_isLeast 3 65 0 0 [AR 95, AI x1] w (fun r u => (0 ≤ r.toInt ∧ r.toInt ≤ 1) ∧ w = u) := by
  refine cn_I (own := RX10) (nm := "isLeast") (L0 := [some (AR 95), some (AI x1), none]) (by decide +kernel) rfl rfl (Nat.le_of_ble_eq_true rfl) rfl ?_
  intro p e s m args below meth c E hin
  have hJ : Jv w w := jv_rfl hI
  have hb_x1 := z32 x1
  refine s_aload_n E dX10_isLeast_0 rfl rfl ?_
  refine s_iload_n E dX10_isLeast_1 rfl rfl ?_
  refine s_vI (As := [AI x1]) (S := []) E (Z_X10_doesHold_95 l D aC b w x1 hJ.1 ) cv_X10_396 rfl rfl rfl (jv_lt hJ (by decide)) (Nat.le_of_ble_eq_true rfl) (Nat.le_of_ble_eq_true rfl) ⟨(Nat.le_of_ble_eq_true rfl), (Nat.le_of_ble_eq_true rfl)⟩ (Nat.le_of_ble_eq_true rfl) dX10_isLeast_2 (fun z_3 u_1 hp_2 => ?_)
  obtain ⟨hz_3, hp_2⟩ := hp_2
  subst hp_2
  refine z_if_ne (tgt := 10) (u := z_3.toInt) E dX10_isLeast_5 (by decide) rfl (fun h_5 => ?_) (fun h_5 => ?_)
  ·
    refine s_iconst (v := 0) E dX10_isLeast_10 (by decide) ?_
    refine s_istore_n (L2 := [some (AR 95), some (AI x1), some (AI 0)]) E dX10_isLeast_11 rfl (by decide) rfl ?_
    refine z_loop (St := Int32) (Pi := fun q12_2_5 v12 => (0 ≤ q12_2_5.toInt ∧ q12_2_5.toInt ≤ 6) ∧ w = v12) (Lf := fun q12_2_5 => [some (AR 95), some (AI x1), some (AI q12_2_5)]) (fun q12_2_5 _ => (7 - q12_2_5.toInt).toNat) 0 ⟨⟨by decide, by decide⟩, rfl⟩ ?_
    rintro q12_2_5 v12 ⟨hq12_2, hv_⟩ ih12
    subst hv_
    refine s_loc (L2 := [some (AR 95), some (AI x1), some (AI q12_2_5)]) rfl ?_
    refine s_iload_n E dX10_isLeast_12 rfl rfl ?_
    refine s_aload_n E dX10_isLeast_13 rfl rfl ?_
    refine s_vI (As := []) (S := [AI q12_2_5]) E (Z_X10_ladies_95 l D aC b w  hJ.1 ) cv_X10_244 rfl rfl rfl (jv_lt hJ (by decide)) (Nat.le_of_ble_eq_true rfl) (Nat.le_of_ble_eq_true rfl) ⟨(Nat.le_of_ble_eq_true rfl), (Nat.le_of_ble_eq_true rfl)⟩ (Nat.le_of_ble_eq_true rfl) dX10_isLeast_14 (fun z_9 u_7 hp_8 => ?_)
    obtain ⟨hz_9, hxz_9, hp_8⟩ := hp_8
    subst hp_8
    refine z_icmp_ge (tgt := 51) (u := q12_2_5.toInt) (v := z_9.toInt) E dX10_isLeast_17 (by decide) rfl rfl (fun h_11 => ?_) (fun h_11 => ?_)
    ·
      refine s_iconst (v := 1) E dX10_isLeast_51 (by decide) ?_
      exact r_bool E dX10_isLeast_52 (Or.inr rfl) ⟨(by decide), rfl⟩
    ·
      refine s_iload_n E dX10_isLeast_20 rfl rfl ?_
      refine s_iload_n E dX10_isLeast_21 rfl rfl ?_
      refine s_sI (As := [AI x1, AI q12_2_5]) (S := []) E (Z_X10_bit l D aC b w x1 q12_2_5 hJ.1 ) cs_X10_252 rfl rfl (Nat.le_of_ble_eq_true rfl) (Nat.le_of_ble_eq_true rfl) ⟨(Nat.le_of_ble_eq_true rfl), (Nat.le_of_ble_eq_true rfl)⟩ (Nat.le_of_ble_eq_true rfl) dX10_isLeast_22 (fun z_14 u_12 hp_13 => ?_)
      obtain ⟨hz_14, hxz_14, hp_13⟩ := hp_13
      subst hp_13
      refine s_iconst (v := 1) E dX10_isLeast_25 (by decide) ?_
      refine z_icmp_ne (tgt := 45) (u := z_14.toInt) (v := 1) E dX10_isLeast_26 (by decide) rfl (by decide) (fun h_16 => ?_) (fun h_16 => ?_)
      ·
        refine z_iinc (u := q12_2_5.toInt) (L2 := fun z_17 => [some (AR 95), some (AI x1), some (AI z_17)]) E dX10_isLeast_45 rfl rfl (by decide) (fun _ => rfl) (by decide) (by omega) (by omega) (fun z_17 hz_17 => ?_)
        refine s_goto (tgt := 12) E dX10_isLeast_48 (by decide) ?_
        exact ih12 z_17 w ⟨⟨by have hb_ := z32 z_17; omega, by have hb_ := z32 z_17; omega⟩, rfl⟩ (by first | omega | decide | (dsimp only; omega) | (dsimp only; decide))
      ·
        refine s_aload_n E dX10_isLeast_29 rfl rfl ?_
        refine s_iload_n E dX10_isLeast_30 rfl rfl ?_
        refine s_iconst (v := 1) E dX10_isLeast_31 (by decide) ?_
        refine s_iload_n E dX10_isLeast_32 rfl rfl ?_
        refine z_shl1 5 (u := q12_2_5.toInt) (B := 32) E dX10_isLeast_33 rfl (by omega) (by omega) (by decide) (by decide) (fun z_18 hz_18 => ?_)
        refine s_iconst (v := (-1)) E dX10_isLeast_34 (by decide) ?_
        refine s_ixor E dX10_isLeast_35 ?_
        refine z_nm (P := fun z => (-2147483648) ≤ z.toInt ∧ z.toInt ≤ 2147483647) (z32 _) (fun z_19 hz_19 => ?_)
        refine s_iand E dX10_isLeast_36 ?_
        refine z_nm (P := fun z => (-2147483648) ≤ z.toInt ∧ z.toInt ≤ 2147483647) (z32 _) (fun z_20 hz_20 => ?_)
        refine s_vI (As := [AI z_20]) (S := []) E (Z_X10_doesHold_95 l D aC b w z_20 hJ.1 ) cv_X10_396 rfl rfl rfl (jv_lt hJ (by decide)) (Nat.le_of_ble_eq_true rfl) (Nat.le_of_ble_eq_true rfl) ⟨(Nat.le_of_ble_eq_true rfl), (Nat.le_of_ble_eq_true rfl)⟩ (Nat.le_of_ble_eq_true rfl) dX10_isLeast_37 (fun z_23 u_21 hp_22 => ?_)
        obtain ⟨hz_23, hp_22⟩ := hp_22
        subst hp_22
        refine z_if_eq (tgt := 45) (u := z_23.toInt) E dX10_isLeast_40 (by decide) rfl (fun h_25 => ?_) (fun h_25 => ?_)
        ·
          refine z_iinc (u := q12_2_5.toInt) (L2 := fun z_26 => [some (AR 95), some (AI x1), some (AI z_26)]) E dX10_isLeast_45 rfl rfl (by decide) (fun _ => rfl) (by decide) (by omega) (by omega) (fun z_26 hz_26 => ?_)
          refine s_goto (tgt := 12) E dX10_isLeast_48 (by decide) ?_
          exact ih12 z_26 w ⟨⟨by have hb_ := z32 z_26; omega, by have hb_ := z32 z_26; omega⟩, rfl⟩ (by first | omega | decide | (dsimp only; omega) | (dsimp only; decide))
        ·
          refine s_iconst (v := 0) E dX10_isLeast_43 (by decide) ?_
          exact r_bool E dX10_isLeast_44 (Or.inl rfl) ⟨(by decide), rfl⟩
  ·
    refine s_iconst (v := 0) E dX10_isLeast_8 (by decide) ?_
    exact r_bool E dX10_isLeast_9 (Or.inl rfl) ⟨(by decide), rfl⟩
set_option maxRecDepth 20000 in
set_option maxHeartbeats 2000000 in
theorem Z_X10_cabinets_95 (l : Launch) (D : va_G) (aC : Nat → ClassId) (b : Nat) (w : XW)  (hI : Iv w)  : CnI l D aC b M_X10_cabinets 5 112 0 0 [AR 95] w (fun r u => ((-2147483648) ≤ r.toInt ∧ r.toInt ≤ 2147483647) ∧ Jv w u) := by
  refine cn_I (own := RX10) (nm := "cabinets") (L0 := [some (AR 95), none, none]) (by decide +kernel) rfl rfl (Nat.le_of_ble_eq_true rfl) rfl ?_
  intro p e s m args below meth c E hin
  have hJ : Jv w w := jv_rfl hI
  refine s_aload_n E dX10_cabinets_0 rfl rfl ?_
  refine s_vI (As := []) (S := []) E (Z_X10_asksBall_95 l D aC b w  hJ.1 ) cv_X10_322 rfl rfl rfl (jv_lt hJ (by decide)) (Nat.le_of_ble_eq_true rfl) (Nat.le_of_ble_eq_true rfl) ⟨(Nat.le_of_ble_eq_true rfl), (Nat.le_of_ble_eq_true rfl)⟩ (Nat.le_of_ble_eq_true rfl) dX10_cabinets_1 (fun z_3 u_1 hp_2 => ?_)
  obtain ⟨hz_3, hp_2⟩ := hp_2
  have hj_4 := jv_trans hJ hp_2
  refine z_if_ne (tgt := 10) (u := z_3.toInt) E dX10_cabinets_4 (by decide) rfl (fun h_5 => ?_) (fun h_5 => ?_)
  ·
    refine s_iconst (v := 0) E dX10_cabinets_10 (by decide) ?_
    refine s_istore_n (L2 := [some (AR 95), some (AI 0), none]) E dX10_cabinets_11 rfl (by decide) rfl ?_
    refine s_iconst (v := 0) E dX10_cabinets_12 (by decide) ?_
    refine s_istore_n (L2 := [some (AR 95), some (AI 0), some (AI 0)]) E dX10_cabinets_13 rfl (by decide) rfl ?_
    refine z_loop (St := Int32 × Int32) (Pi := fun ⟨q14_1_5, q14_2_5⟩ v14 => (0 ≤ q14_2_5.toInt ∧ q14_2_5.toInt ≤ 64) ∧ u_1 = v14) (Lf := fun ⟨q14_1_5, q14_2_5⟩ => [some (AR 95), some (AI q14_1_5), some (AI q14_2_5)]) (fun ⟨q14_1_5, q14_2_5⟩ _ => (65 - q14_2_5.toInt).toNat) ⟨0, 0⟩ ⟨⟨by decide, by decide⟩, rfl⟩ ?_
    rintro ⟨q14_1_5, q14_2_5⟩ v14 ⟨hq14_2, hv_⟩ ih14
    subst hv_
    have hbq14_1 := z32 q14_1_5
    refine s_loc (L2 := [some (AR 95), some (AI q14_1_5), some (AI q14_2_5)]) rfl ?_
    refine s_iload_n E dX10_cabinets_14 rfl rfl ?_
    refine s_aload_n E dX10_cabinets_15 rfl rfl ?_
    refine s_vI (As := []) (S := [AI q14_2_5]) E (Z_X10_allLadies_95 l D aC b u_1  hj_4.1 ) cv_X10_393 rfl rfl rfl (jv_lt hj_4 (by decide)) (Nat.le_of_ble_eq_true rfl) (Nat.le_of_ble_eq_true rfl) ⟨(Nat.le_of_ble_eq_true rfl), (Nat.le_of_ble_eq_true rfl)⟩ (Nat.le_of_ble_eq_true rfl) dX10_cabinets_16 (fun z_9 u_7 hp_8 => ?_)
    obtain ⟨hz_9, hp_8⟩ := hp_8
    subst hp_8
    refine z_icmp_gt (tgt := 44) (u := q14_2_5.toInt) (v := z_9.toInt) E dX10_cabinets_19 (by decide) rfl rfl (fun h_11 => ?_) (fun h_11 => ?_)
    ·
      refine s_iload_n E dX10_cabinets_44 rfl rfl ?_
      exact r_int E dX10_cabinets_45 ⟨⟨by have hb_ := z32 q14_1_5; omega, by have hb_ := z32 q14_1_5; omega⟩, hj_4⟩
    ·
      refine s_iload_n E dX10_cabinets_22 rfl rfl ?_
      refine s_aload_n E dX10_cabinets_23 rfl rfl ?_
      refine s_iload_n E dX10_cabinets_24 rfl rfl ?_
      refine s_vI (As := [AI q14_2_5]) (S := [AI q14_1_5]) E (Z_X10_isLeast_95 l D aC b u_1 q14_2_5 hj_4.1 ) cv_X10_413 rfl rfl rfl (jv_lt hj_4 (by decide)) (Nat.le_of_ble_eq_true rfl) (Nat.le_of_ble_eq_true rfl) ⟨(Nat.le_of_ble_eq_true rfl), (Nat.le_of_ble_eq_true rfl)⟩ (Nat.le_of_ble_eq_true rfl) dX10_cabinets_25 (fun z_14 u_12 hp_13 => ?_)
      obtain ⟨hz_14, hp_13⟩ := hp_13
      subst hp_13
      refine z_if_eq (tgt := 35) (u := z_14.toInt) E dX10_cabinets_28 (by decide) rfl (fun h_16 => ?_) (fun h_16 => ?_)
      ·
        refine s_iconst (v := 0) E dX10_cabinets_35 (by decide) ?_
        refine z_iadd (u := q14_1_5.toInt) (v := 0) E dX10_cabinets_36 rfl (by decide) (by omega) (by omega) (fun z_17 hz_17 => ?_)
        refine s_istore_n (L2 := [some (AR 95), some (AI z_17), some (AI q14_2_5)]) E dX10_cabinets_37 rfl (by decide) rfl ?_
        refine z_iinc (u := q14_2_5.toInt) (L2 := fun z_18 => [some (AR 95), some (AI z_17), some (AI z_18)]) E dX10_cabinets_38 rfl rfl (by decide) (fun _ => rfl) (by decide) (by omega) (by omega) (fun z_18 hz_18 => ?_)
        refine s_goto (tgt := 14) E dX10_cabinets_41 (by decide) ?_
        exact ih14 ⟨z_17, z_18⟩ u_1 ⟨⟨by have hb_ := z32 z_18; omega, by have hb_ := z32 z_18; omega⟩, rfl⟩ (by first | omega | decide | (dsimp only; omega) | (dsimp only; decide))
      ·
        refine s_iconst (v := 1) E dX10_cabinets_31 (by decide) ?_
        refine s_goto (tgt := 36) E dX10_cabinets_32 (by decide) ?_
        refine s_iadd E dX10_cabinets_36 ?_
        refine z_nm (P := fun z => (-2147483648) ≤ z.toInt ∧ z.toInt ≤ 2147483647) (z32 _) (fun z_19 hz_19 => ?_)
        refine s_istore_n (L2 := [some (AR 95), some (AI z_19), some (AI q14_2_5)]) E dX10_cabinets_37 rfl (by decide) rfl ?_
        refine z_iinc (u := q14_2_5.toInt) (L2 := fun z_20 => [some (AR 95), some (AI z_19), some (AI z_20)]) E dX10_cabinets_38 rfl rfl (by decide) (fun _ => rfl) (by decide) (by omega) (by omega) (fun z_20 hz_20 => ?_)
        refine s_goto (tgt := 14) E dX10_cabinets_41 (by decide) ?_
        exact ih14 ⟨z_19, z_20⟩ u_1 ⟨⟨by have hb_ := z32 z_20; omega, by have hb_ := z32 z_20; omega⟩, rfl⟩ (by first | omega | decide | (dsimp only; omega) | (dsimp only; decide))
  ·
    refine s_bipush (v := (-2)) E dX10_cabinets_7 (by decide) ?_
    exact r_int E dX10_cabinets_9 ⟨(by decide), hj_4⟩
set_option maxRecDepth 20000 in
set_option maxHeartbeats 2000000 in
theorem Z_X10_kingmaker_95 (l : Launch) (D : va_G) (aC : Nat → ClassId) (b : Nat) (w : XW)  (hI : Iv w)  : CnI l D aC b M_X10_kingmaker 5 112 0 0 [AR 95] w (fun r u => ((-2) ≤ r.toInt ∧ r.toInt ≤ 7) ∧ Jv w u) := by
  refine cn_I (own := RX10) (nm := "kingmaker") (L0 := [some (AR 95), none, none]) (by decide +kernel) rfl rfl (Nat.le_of_ble_eq_true rfl) rfl ?_
  intro p e s m args below meth c E hin
  have hJ : Jv w w := jv_rfl hI
  refine s_aload_n E dX10_kingmaker_0 rfl rfl ?_
  refine s_vI (As := []) (S := []) E (Z_X10_asksBall_95 l D aC b w  hJ.1 ) cv_X10_322 rfl rfl rfl (jv_lt hJ (by decide)) (Nat.le_of_ble_eq_true rfl) (Nat.le_of_ble_eq_true rfl) ⟨(Nat.le_of_ble_eq_true rfl), (Nat.le_of_ble_eq_true rfl)⟩ (Nat.le_of_ble_eq_true rfl) dX10_kingmaker_1 (fun z_3 u_1 hp_2 => ?_)
  obtain ⟨hz_3, hp_2⟩ := hp_2
  have hj_4 := jv_trans hJ hp_2
  refine z_if_ne (tgt := 10) (u := z_3.toInt) E dX10_kingmaker_4 (by decide) rfl (fun h_5 => ?_) (fun h_5 => ?_)
  ·
    refine s_iconst (v := 0) E dX10_kingmaker_10 (by decide) ?_
    refine s_istore_n (L2 := [some (AR 95), some (AI 0), none]) E dX10_kingmaker_11 rfl (by decide) rfl ?_
    refine z_loop (St := Int32) (Pi := fun q12_1_5 v12 => (0 ≤ q12_1_5.toInt ∧ q12_1_5.toInt ≤ 8) ∧ u_1 = v12) (Lf := fun q12_1_5 => [some (AR 95), some (AI q12_1_5), none]) (fun q12_1_5 _ => (9 - q12_1_5.toInt).toNat) 0 ⟨⟨by decide, by decide⟩, rfl⟩ ?_
    rintro q12_1_5 v12 ⟨hq12_1, hv_⟩ ih12
    subst hv_
    refine s_loc (L2 := [some (AR 95), some (AI q12_1_5), none]) rfl ?_
    refine s_iload_n E dX10_kingmaker_12 rfl rfl ?_
    refine s_aload_n E dX10_kingmaker_13 rfl rfl ?_
    refine s_gR (r := 96) E fg_X10_9 rfl rfl (jv_lt hj_4 (by decide)) (jv_r hj_4 (by decide +kernel)) dX10_kingmaker_14 ?_
    refine s_bipush (v := 6) E dX10_kingmaker_17 (by decide) ?_
    refine s_iald E rfl (jv_lt hj_4 (by decide)) (z_in (u := 6) (by decide) (by omega) (by omega)) dX10_kingmaker_19 ?_
    refine z_nm (P := fun z => z.toInt = (u_1.2.2.1 96 6).toInt ∧ 0 ≤ z.toInt ∧ z.toInt ≤ 8) ⟨rfl, (rw_96_6 hj_4)⟩ (fun z_7 hz_7 => ?_)
    refine z_icmp_ge (tgt := 90) (u := q12_1_5.toInt) (v := z_7.toInt) E dX10_kingmaker_20 (by decide) rfl rfl (fun h_8 => ?_) (fun h_8 => ?_)
    ·
      refine s_iconst (v := (-1)) E dX10_kingmaker_90 (by decide) ?_
      exact r_int E dX10_kingmaker_91 ⟨(by decide), hj_4⟩
    ·
      refine s_iconst (v := 0) E dX10_kingmaker_23 (by decide) ?_
      refine s_istore_n (L2 := [some (AR 95), some (AI q12_1_5), some (AI 0)]) E dX10_kingmaker_24 rfl (by decide) rfl ?_
      refine z_loop (St := Int32) (Pi := fun q25_2_8 v25 => (0 ≤ q25_2_8.toInt ∧ q25_2_8.toInt ≤ 6) ∧ u_1 = v25) (Lf := fun q25_2_8 => [some (AR 95), some (AI q12_1_5), some (AI q25_2_8)]) (fun q25_2_8 _ => (7 - q25_2_8.toInt).toNat) 0 ⟨⟨by decide, by decide⟩, rfl⟩ ?_
      rintro q25_2_8 v25 ⟨hq25_2, hv_⟩ ih25
      subst hv_
      refine s_loc (L2 := [some (AR 95), some (AI q12_1_5), some (AI q25_2_8)]) rfl ?_
      refine s_iload_n E dX10_kingmaker_25 rfl rfl ?_
      refine s_aload_n E dX10_kingmaker_26 rfl rfl ?_
      refine s_vI (As := []) (S := [AI q25_2_8]) E (Z_X10_ladies_95 l D aC b u_1  hj_4.1 ) cv_X10_244 rfl rfl rfl (jv_lt hj_4 (by decide)) (Nat.le_of_ble_eq_true rfl) (Nat.le_of_ble_eq_true rfl) ⟨(Nat.le_of_ble_eq_true rfl), (Nat.le_of_ble_eq_true rfl)⟩ (Nat.le_of_ble_eq_true rfl) dX10_kingmaker_27 (fun z_12 u_10 hp_11 => ?_)
      obtain ⟨hz_12, hxz_12, hp_11⟩ := hp_11
      subst hp_11
      refine z_icmp_ge (tgt := 84) (u := q25_2_8.toInt) (v := z_12.toInt) E dX10_kingmaker_30 (by decide) rfl rfl (fun h_14 => ?_) (fun h_14 => ?_)
      ·
        refine z_iinc (u := q12_1_5.toInt) (L2 := fun z_15 => [some (AR 95), some (AI z_15), some (AI q25_2_8)]) E dX10_kingmaker_84 rfl rfl (by decide) (fun _ => rfl) (by decide) (by omega) (by omega) (fun z_15 hz_15 => ?_)
        refine s_goto (tgt := 12) E dX10_kingmaker_87 (by decide) ?_
        refine s_drop (i := 2) (L2 := [some (AR 95), some (AI z_15), none]) rfl ?_
        exact ih12 z_15 u_1 ⟨⟨by have hb_ := z32 z_15; omega, by have hb_ := z32 z_15; omega⟩, rfl⟩ (by first | omega | decide | (dsimp only; omega) | (dsimp only; decide))
      ·
        refine s_aload_n E dX10_kingmaker_33 rfl rfl ?_
        refine s_gR (r := 104) E fg_X10_40 rfl rfl (jv_lt hj_4 (by decide)) (jv_r hj_4 (by decide +kernel)) dX10_kingmaker_34 ?_
        refine s_iload_n E dX10_kingmaker_37 rfl rfl ?_
        refine s_iald E rfl (jv_lt hj_4 (by decide)) (z_in (u := q12_1_5.toInt) rfl (by omega) (by omega)) dX10_kingmaker_38 ?_
        refine z_nm (P := fun z => z.toInt = (u_1.2.2.1 104 q12_1_5.toNatClampNeg).toInt ∧ 0 ≤ z.toInt ∧ z.toInt ≤ 5) ⟨rfl, (ra_104 hj_4 _)⟩ (fun z_16 hz_16 => ?_)
        refine s_iload_n E dX10_kingmaker_39 rfl rfl ?_
        refine z_icmp_eq (tgt := 78) (u := z_16.toInt) (v := q25_2_8.toInt) E dX10_kingmaker_40 (by decide) rfl rfl (fun h_17 => ?_) (fun h_17 => ?_)
        ·
          refine z_iinc (u := q25_2_8.toInt) (L2 := fun z_18 => [some (AR 95), some (AI q12_1_5), some (AI z_18)]) E dX10_kingmaker_78 rfl rfl (by decide) (fun _ => rfl) (by decide) (by omega) (by omega) (fun z_18 hz_18 => ?_)
          refine s_goto (tgt := 25) E dX10_kingmaker_81 (by decide) ?_
          exact ih25 z_18 u_1 ⟨⟨by have hb_ := z32 z_18; omega, by have hb_ := z32 z_18; omega⟩, rfl⟩ (by first | omega | decide | (dsimp only; omega) | (dsimp only; decide))
        ·
          refine s_iconst (v := 2) E dX10_kingmaker_43 (by decide) ?_
          refine s_aload_n E dX10_kingmaker_44 rfl rfl ?_
          refine s_gR (r := 105) E fg_X10_43 rfl rfl (jv_lt hj_4 (by decide)) (jv_r hj_4 (by decide +kernel)) dX10_kingmaker_45 ?_
          refine s_iload_n E dX10_kingmaker_48 rfl rfl ?_
          refine s_iald E rfl (jv_lt hj_4 (by decide)) (z_in (u := q25_2_8.toInt) rfl (by omega) (by omega)) dX10_kingmaker_49 ?_
          refine z_nm (P := fun z => (-2147483648) ≤ z.toInt ∧ z.toInt ≤ 2147483647) (z32 _) (fun z_19 hz_19 => ?_)
          refine s_aload_n E dX10_kingmaker_50 rfl rfl ?_
          refine s_gR (r := 96) E fg_X10_9 rfl rfl (jv_lt hj_4 (by decide)) (jv_r hj_4 (by decide +kernel)) dX10_kingmaker_51 ?_
          refine s_bipush (v := 58) E dX10_kingmaker_54 (by decide) ?_
          refine s_iconst (v := 2) E dX10_kingmaker_56 (by decide) ?_
          refine s_iload_n E dX10_kingmaker_57 rfl rfl ?_
          refine z_imul (u := 2) (v := q12_1_5.toInt) E dX10_kingmaker_58 (by decide) rfl (by omega) (by omega) (fun z_20 hz_20 => ?_)
          refine z_iadd (u := 58) (v := z_20.toInt) E dX10_kingmaker_59 (by decide) rfl (by omega) (by omega) (fun z_21 hz_21 => ?_)
          refine s_iconst (v := 1) E dX10_kingmaker_60 (by decide) ?_
          refine z_iadd (u := z_21.toInt) (v := 1) E dX10_kingmaker_61 rfl (by decide) (by omega) (by omega) (fun z_22 hz_22 => ?_)
          refine s_iald E rfl (jv_lt hj_4 (by decide)) (z_in (u := z_22.toInt) rfl (by omega) (by omega)) dX10_kingmaker_62 ?_
          refine z_nm (P := fun z => z.toInt = (u_1.2.2.1 96 z_22.toNatClampNeg).toInt ∧ 0 ≤ z.toInt ∧ z.toInt ≤ 20 ∧ (104 ≤ z_22.toInt → z_22.toInt < 134 → okA z.toInt)) ⟨rfl, (rs_w hj_4 (by decide) 0 20 59 73 2 z_22 z_22.toInt (by decide +kernel) rfl (by omega) (by omega) (by omega))⟩ (fun z_23 hz_23 => ?_)
          refine s_iadd E dX10_kingmaker_63 ?_
          refine z_nm (P := fun z => (-2147483648) ≤ z.toInt ∧ z.toInt ≤ 2147483647) (z32 _) (fun z_24 hz_24 => ?_)
          refine s_imul E dX10_kingmaker_64 ?_
          refine z_nm (P := fun z => (-2147483648) ≤ z.toInt ∧ z.toInt ≤ 2147483647) (z32 _) (fun z_25 hz_25 => ?_)
          refine s_aload_n E dX10_kingmaker_65 rfl rfl ?_
          refine s_aload_n E dX10_kingmaker_66 rfl rfl ?_
          refine s_vI (As := []) (S := [AR 95, AI z_25]) E (Z_X10_allLadies_95 l D aC b u_1  hj_4.1 ) cv_X10_393 rfl rfl rfl (jv_lt hj_4 (by decide)) (Nat.le_of_ble_eq_true rfl) (Nat.le_of_ble_eq_true rfl) ⟨(Nat.le_of_ble_eq_true rfl), (Nat.le_of_ble_eq_true rfl)⟩ (Nat.le_of_ble_eq_true rfl) dX10_kingmaker_67 (fun z_28 u_26 hp_27 => ?_)
          obtain ⟨hz_28, hp_27⟩ := hp_27
          subst hp_27
          refine s_vI (As := [AI z_28]) (S := [AI z_25]) E (Z_X10_seatsIn_95 l D aC b u_1 z_28 hj_4.1 ) cv_X10_390 rfl rfl rfl (jv_lt hj_4 (by decide)) (Nat.le_of_ble_eq_true rfl) (Nat.le_of_ble_eq_true rfl) ⟨(Nat.le_of_ble_eq_true rfl), (Nat.le_of_ble_eq_true rfl)⟩ (Nat.le_of_ble_eq_true rfl) dX10_kingmaker_70 (fun z_32 u_30 hp_31 => ?_)
          obtain ⟨hz_32, hp_31⟩ := hp_31
          subst hp_31
          refine z_icmp_le (tgt := 78) (u := z_25.toInt) (v := z_32.toInt) E dX10_kingmaker_73 (by decide) rfl rfl (fun h_34 => ?_) (fun h_34 => ?_)
          ·
            refine z_iinc (u := q25_2_8.toInt) (L2 := fun z_35 => [some (AR 95), some (AI q12_1_5), some (AI z_35)]) E dX10_kingmaker_78 rfl rfl (by decide) (fun _ => rfl) (by decide) (by omega) (by omega) (fun z_35 hz_35 => ?_)
            refine s_goto (tgt := 25) E dX10_kingmaker_81 (by decide) ?_
            exact ih25 z_35 u_1 ⟨⟨by have hb_ := z32 z_35; omega, by have hb_ := z32 z_35; omega⟩, rfl⟩ (by first | omega | decide | (dsimp only; omega) | (dsimp only; decide))
          ·
            refine s_iload_n E dX10_kingmaker_76 rfl rfl ?_
            exact r_int E dX10_kingmaker_77 ⟨⟨by have hb_ := z32 q12_1_5; omega, by have hb_ := z32 q12_1_5; omega⟩, hj_4⟩
  ·
    refine s_bipush (v := (-2)) E dX10_kingmaker_7 (by decide) ?_
    exact r_int E dX10_kingmaker_9 ⟨(by decide), hj_4⟩
set_option maxRecDepth 20000 in
set_option maxHeartbeats 2000000 in
theorem Z_X10_areTwo_95 (l : Launch) (D : va_G) (aC : Nat → ClassId) (b : Nat) (w : XW) (x1 : Int32) (x2 : Int32) (hI : Iv w)  : CnI l D aC b M_X10_areTwo 5 113 0 0 [AR 95, AI x1, AI x2] w (fun r u => (0 ≤ r.toInt ∧ r.toInt ≤ 1 ∧ (r.toInt = 0 ∨ (0 ≤ x1.toInt ∧ x1.toInt ≤ 5)) ∧ (r.toInt = 0 ∨ (0 ≤ x2.toInt ∧ x2.toInt ≤ 5))) ∧ Jv w u) := by
  refine cn_I (own := RX10) (nm := "areTwo") (L0 := [some (AR 95), some (AI x1), some (AI x2)]) (by decide +kernel) rfl rfl (Nat.le_of_ble_eq_true rfl) rfl ?_
  intro p e s m args below meth c E hin
  have hJ : Jv w w := jv_rfl hI
  have hb_x1 := z32 x1
  have hb_x2 := z32 x2
  refine s_aload_n E dX10_areTwo_0 rfl rfl ?_
  refine s_iload_n E dX10_areTwo_1 rfl rfl ?_
  refine s_vI (As := [AI x1]) (S := []) E (Z_X10_asksLady_95 l D aC b w x1 hJ.1 ) cv_X10_288 rfl rfl rfl (jv_lt hJ (by decide)) (Nat.le_of_ble_eq_true rfl) (Nat.le_of_ble_eq_true rfl) ⟨(Nat.le_of_ble_eq_true rfl), (Nat.le_of_ble_eq_true rfl)⟩ (Nat.le_of_ble_eq_true rfl) dX10_areTwo_2 (fun z_3 u_1 hp_2 => ?_)
  obtain ⟨hz_3, hp_2⟩ := hp_2
  have hj_4 := jv_trans hJ hp_2
  refine z_if_eq (tgt := 26) (u := z_3.toInt) E dX10_areTwo_5 (by decide) rfl (fun h_5 => ?_) (fun h_5 => ?_)
  ·
    refine s_iconst (v := 0) E dX10_areTwo_26 (by decide) ?_
    exact r_bool E dX10_areTwo_27 (Or.inl rfl) ⟨⟨by decide, by decide, by first | (left; decide) | (right; decide) | (right; have hb_ := z32 x1; omega), by first | (left; decide) | (right; decide) | (right; have hb_ := z32 x2; omega)⟩, hj_4⟩
  ·
    refine s_aload_n E dX10_areTwo_8 rfl rfl ?_
    refine s_iload_n E dX10_areTwo_9 rfl rfl ?_
    refine z_i2l (u := x2.toInt) E dX10_areTwo_10 rfl (fun z_6 hz_6 => ?_)
    refine s_vI (As := [AL z_6]) (S := []) E (Z_X10_isLady_95 l D aC b u_1 z_6 hj_4.1 ) cv_X10_222 rfl rfl rfl (jv_lt hj_4 (by decide)) (Nat.le_of_ble_eq_true rfl) (Nat.le_of_ble_eq_true rfl) ⟨(Nat.le_of_ble_eq_true rfl), (Nat.le_of_ble_eq_true rfl)⟩ (Nat.le_of_ble_eq_true rfl) dX10_areTwo_11 (fun z_9 u_7 hp_8 => ?_)
    obtain ⟨hz_9, hp_8⟩ := hp_8
    subst hp_8
    refine z_if_eq (tgt := 26) (u := z_9.toInt) E dX10_areTwo_14 (by decide) rfl (fun h_11 => ?_) (fun h_11 => ?_)
    ·
      refine s_iconst (v := 0) E dX10_areTwo_26 (by decide) ?_
      exact r_bool E dX10_areTwo_27 (Or.inl rfl) ⟨⟨by decide, by decide, by first | (left; decide) | (right; decide) | (right; have hb_ := z32 x1; omega), by first | (left; decide) | (right; decide) | (right; have hb_ := z32 x2; omega)⟩, hj_4⟩
    ·
      refine s_iload_n E dX10_areTwo_17 rfl rfl ?_
      refine s_iload_n E dX10_areTwo_18 rfl rfl ?_
      refine z_icmp_eq (tgt := 26) (u := x1.toInt) (v := x2.toInt) E dX10_areTwo_19 (by decide) rfl rfl (fun h_12 => ?_) (fun h_12 => ?_)
      ·
        refine s_iconst (v := 0) E dX10_areTwo_26 (by decide) ?_
        exact r_bool E dX10_areTwo_27 (Or.inl rfl) ⟨⟨by decide, by decide, by first | (left; decide) | (right; decide) | (right; have hb_ := z32 x1; omega), by first | (left; decide) | (right; decide) | (right; have hb_ := z32 x2; omega)⟩, hj_4⟩
      ·
        refine s_iconst (v := 1) E dX10_areTwo_22 (by decide) ?_
        refine s_goto (tgt := 27) E dX10_areTwo_23 (by decide) ?_
        exact r_bool E dX10_areTwo_27 (Or.inr rfl) ⟨⟨by decide, by decide, by first | (left; decide) | (right; decide) | (right; have hb_ := z32 x1; omega), by first | (left; decide) | (right; decide) | (right; have hb_ := z32 x2; omega)⟩, hj_4⟩
set_option maxRecDepth 20000 in
set_option maxHeartbeats 2000000 in
theorem Z_X10_gainsBy_95 (l : Launch) (D : va_G) (aC : Nat → ClassId) (b : Nat) (w : XW) (x1 : Int32) (x2 : Int32) (x3 : Int32) (x4 : Int32) (x5 : Int32) (hI : Iv w) (hx1 : 0 ≤ x1.toInt ∧ x1.toInt ≤ 5) (hx2 : 0 ≤ x2.toInt ∧ x2.toInt ≤ 5) (hx5 : 0 ≤ x5.toInt ∧ x5.toInt ≤ 1) : CnI l D aC b M_X10_gainsBy 4 91 0 0 [AR 95, AI x1, AI x2, AI x3, AI x4, AI x5] w (fun r u => ((-2147483648) ≤ r.toInt ∧ r.toInt ≤ 2147483647) ∧ Jv w u) := by
  refine cn_I (own := RX10) (nm := "gainsBy") (L0 := [some (AR 95), some (AI x1), some (AI x2), some (AI x3), some (AI x4), some (AI x5), none, none]) (by decide +kernel) rfl rfl (Nat.le_of_ble_eq_true rfl) rfl ?_
  intro p e s m args below meth c E hin
  have hJ : Jv w w := jv_rfl hI
  have hb_x3 := z32 x3
  have hb_x4 := z32 x4
  refine s_aload_n E dX10_gainsBy_0 rfl rfl ?_
  refine s_iload_n E dX10_gainsBy_1 rfl rfl ?_
  refine s_iload_n E dX10_gainsBy_2 rfl rfl ?_
  refine s_ishl E dX10_gainsBy_3 ?_
  refine z_nm (P := fun z => (-2147483648) ≤ z.toInt ∧ z.toInt ≤ 2147483647) (z32 _) (fun z_1 hz_1 => ?_)
  refine s_iload E dX10_gainsBy_4 rfl ?_
  refine s_iload_n E dX10_gainsBy_6 rfl rfl ?_
  refine s_ishl E dX10_gainsBy_7 ?_
  refine z_nm (P := fun z => (-2147483648) ≤ z.toInt ∧ z.toInt ≤ 2147483647) (z32 _) (fun z_2 hz_2 => ?_)
  refine s_ior E dX10_gainsBy_8 ?_
  refine z_nm (P := fun z => (-2147483648) ≤ z.toInt ∧ z.toInt ≤ 2147483647) (z32 _) (fun z_3 hz_3 => ?_)
  refine s_pI E fp_X10_249 (Or.inl rfl) rfl (jv_lt hJ (by decide)) dX10_gainsBy_9 ?_
  refine s_gen (P := Jv w) (jv_f_95_22 hJ (by have hb_ := z32 z_3; omega) (by have hb_ := z32 z_3; omega)) (fun v_4 hj_5 => ?_)
  refine s_aload_n E dX10_gainsBy_12 rfl rfl ?_
  refine s_vV (As := []) (S := []) E (Z_X10_layPlaces_95 l D aC b v_4  hj_5.1 ) cv_X10_276 rfl rfl rfl (jv_lt hj_5 (by decide)) (Nat.le_of_ble_eq_true rfl) (Nat.le_of_ble_eq_true rfl) ⟨(Nat.le_of_ble_eq_true rfl), (Nat.le_of_ble_eq_true rfl)⟩ (Nat.le_of_ble_eq_true rfl) dX10_gainsBy_13 (fun u_6 hp_7 => ?_)
  have hj_8 := jv_trans hj_5 hp_7
  refine s_iload E dX10_gainsBy_16 rfl ?_
  refine z_if_ne (tgt := 25) (u := x5.toInt) E dX10_gainsBy_18 (by decide) rfl (fun h_9 => ?_) (fun h_9 => ?_)
  ·
    refine s_iload_n E dX10_gainsBy_25 rfl rfl ?_
    refine s_istore (L2 := [some (AR 95), some (AI x1), some (AI x2), some (AI x3), some (AI x4), some (AI x5), some (AI x2), none]) E dX10_gainsBy_26 (by decide) rfl ?_
    refine s_iconst (v := 2) E dX10_gainsBy_28 (by decide) ?_
    refine s_aload_n E dX10_gainsBy_29 rfl rfl ?_
    refine s_iload E dX10_gainsBy_30 rfl ?_
    refine s_vI (As := [AI x2]) (S := [AI 2]) E (Z_X10_friendsOf_95 l D aC b u_6 x2 hj_8.1 ⟨by have hb_ := z32 x2; omega, by have hb_ := z32 x2; omega⟩) cv_X10_313 rfl rfl rfl (jv_lt hj_8 (by decide)) (Nat.le_of_ble_eq_true rfl) (Nat.le_of_ble_eq_true rfl) ⟨(Nat.le_of_ble_eq_true rfl), (Nat.le_of_ble_eq_true rfl)⟩ (Nat.le_of_ble_eq_true rfl) dX10_gainsBy_32 (fun z_12 u_10 hp_11 => ?_)
    obtain ⟨hz_12, hp_11⟩ := hp_11
    subst hp_11
    refine s_sI (As := [AI z_12]) (S := [AI 2]) E (Z_X10_bits l D aC b u_6 z_12 hj_8.1 ) cs_X10_319 rfl rfl (Nat.le_of_ble_eq_true rfl) (Nat.le_of_ble_eq_true rfl) ⟨(Nat.le_of_ble_eq_true rfl), (Nat.le_of_ble_eq_true rfl)⟩ (Nat.le_of_ble_eq_true rfl) dX10_gainsBy_35 (fun z_16 u_14 hp_15 => ?_)
    obtain ⟨hz_16, hp_15⟩ := hp_15
    subst hp_15
    refine s_imul E dX10_gainsBy_38 ?_
    refine z_nm (P := fun z => (-2147483648) ≤ z.toInt ∧ z.toInt ≤ 2147483647) (z32 _) (fun z_18 hz_18 => ?_)
    refine s_aload_n E dX10_gainsBy_39 rfl rfl ?_
    refine s_iload E dX10_gainsBy_40 rfl ?_
    refine s_vI (As := [AI x2]) (S := [AI z_18]) E (Z_X10_stepsOf_95 l D aC b u_6 x2 hj_8.1 ⟨by have hb_ := z32 x2; omega, by have hb_ := z32 x2; omega⟩) cv_X10_300 rfl rfl rfl (jv_lt hj_8 (by decide)) (Nat.le_of_ble_eq_true rfl) (Nat.le_of_ble_eq_true rfl) ⟨(Nat.le_of_ble_eq_true rfl), (Nat.le_of_ble_eq_true rfl)⟩ (Nat.le_of_ble_eq_true rfl) dX10_gainsBy_42 (fun z_21 u_19 hp_20 => ?_)
    obtain ⟨hz_21, hp_20⟩ := hp_20
    subst hp_20
    refine s_isub E dX10_gainsBy_45 ?_
    refine z_nm (P := fun z => (-2147483648) ≤ z.toInt ∧ z.toInt ≤ 2147483647) (z32 _) (fun z_23 hz_23 => ?_)
    refine s_istore (L2 := [some (AR 95), some (AI x1), some (AI x2), some (AI x3), some (AI x4), some (AI x5), some (AI x2), some (AI z_23)]) E dX10_gainsBy_46 (by decide) rfl ?_
    refine s_aload_n E dX10_gainsBy_48 rfl rfl ?_
    refine s_iconst (v := 0) E dX10_gainsBy_49 (by decide) ?_
    refine s_pI E fp_X10_249 (Or.inl rfl) rfl (jv_lt hj_8 (by decide)) dX10_gainsBy_50 ?_
    refine s_gen (P := Jv w) (jv_f_95_22 hj_8 (by decide) (by decide)) (fun v_24 hj_25 => ?_)
    refine s_iload E dX10_gainsBy_53 rfl ?_
    exact r_int E dX10_gainsBy_55 ⟨⟨by have hb_ := z32 z_23; omega, by have hb_ := z32 z_23; omega⟩, hj_25⟩
  ·
    refine s_iload_n E dX10_gainsBy_21 rfl rfl ?_
    refine s_goto (tgt := 26) E dX10_gainsBy_22 (by decide) ?_
    refine s_istore (L2 := [some (AR 95), some (AI x1), some (AI x2), some (AI x3), some (AI x4), some (AI x5), some (AI x1), none]) E dX10_gainsBy_26 (by decide) rfl ?_
    refine s_iconst (v := 2) E dX10_gainsBy_28 (by decide) ?_
    refine s_aload_n E dX10_gainsBy_29 rfl rfl ?_
    refine s_iload E dX10_gainsBy_30 rfl ?_
    refine s_vI (As := [AI x1]) (S := [AI 2]) E (Z_X10_friendsOf_95 l D aC b u_6 x1 hj_8.1 ⟨by have hb_ := z32 x1; omega, by have hb_ := z32 x1; omega⟩) cv_X10_313 rfl rfl rfl (jv_lt hj_8 (by decide)) (Nat.le_of_ble_eq_true rfl) (Nat.le_of_ble_eq_true rfl) ⟨(Nat.le_of_ble_eq_true rfl), (Nat.le_of_ble_eq_true rfl)⟩ (Nat.le_of_ble_eq_true rfl) dX10_gainsBy_32 (fun z_28 u_26 hp_27 => ?_)
    obtain ⟨hz_28, hp_27⟩ := hp_27
    subst hp_27
    refine s_sI (As := [AI z_28]) (S := [AI 2]) E (Z_X10_bits l D aC b u_6 z_28 hj_8.1 ) cs_X10_319 rfl rfl (Nat.le_of_ble_eq_true rfl) (Nat.le_of_ble_eq_true rfl) ⟨(Nat.le_of_ble_eq_true rfl), (Nat.le_of_ble_eq_true rfl)⟩ (Nat.le_of_ble_eq_true rfl) dX10_gainsBy_35 (fun z_32 u_30 hp_31 => ?_)
    obtain ⟨hz_32, hp_31⟩ := hp_31
    subst hp_31
    refine s_imul E dX10_gainsBy_38 ?_
    refine z_nm (P := fun z => (-2147483648) ≤ z.toInt ∧ z.toInt ≤ 2147483647) (z32 _) (fun z_34 hz_34 => ?_)
    refine s_aload_n E dX10_gainsBy_39 rfl rfl ?_
    refine s_iload E dX10_gainsBy_40 rfl ?_
    refine s_vI (As := [AI x1]) (S := [AI z_34]) E (Z_X10_stepsOf_95 l D aC b u_6 x1 hj_8.1 ⟨by have hb_ := z32 x1; omega, by have hb_ := z32 x1; omega⟩) cv_X10_300 rfl rfl rfl (jv_lt hj_8 (by decide)) (Nat.le_of_ble_eq_true rfl) (Nat.le_of_ble_eq_true rfl) ⟨(Nat.le_of_ble_eq_true rfl), (Nat.le_of_ble_eq_true rfl)⟩ (Nat.le_of_ble_eq_true rfl) dX10_gainsBy_42 (fun z_37 u_35 hp_36 => ?_)
    obtain ⟨hz_37, hp_36⟩ := hp_36
    subst hp_36
    refine s_isub E dX10_gainsBy_45 ?_
    refine z_nm (P := fun z => (-2147483648) ≤ z.toInt ∧ z.toInt ≤ 2147483647) (z32 _) (fun z_39 hz_39 => ?_)
    refine s_istore (L2 := [some (AR 95), some (AI x1), some (AI x2), some (AI x3), some (AI x4), some (AI x5), some (AI x1), some (AI z_39)]) E dX10_gainsBy_46 (by decide) rfl ?_
    refine s_aload_n E dX10_gainsBy_48 rfl rfl ?_
    refine s_iconst (v := 0) E dX10_gainsBy_49 (by decide) ?_
    refine s_pI E fp_X10_249 (Or.inl rfl) rfl (jv_lt hj_8 (by decide)) dX10_gainsBy_50 ?_
    refine s_gen (P := Jv w) (jv_f_95_22 hj_8 (by decide) (by decide)) (fun v_40 hj_41 => ?_)
    refine s_iload E dX10_gainsBy_53 rfl ?_
    exact r_int E dX10_gainsBy_55 ⟨⟨by have hb_ := z32 z_39; omega, by have hb_ := z32 z_39; omega⟩, hj_41⟩
set_option maxRecDepth 20000 in
set_option maxHeartbeats 2000000 in
theorem Z_X10_rests_95 (l : Launch) (D : va_G) (aC : Nat → ClassId) (b : Nat) (w : XW) (x1 : Int32) (x2 : Int32) (hI : Iv w)  : CnI l D aC b M_X10_rests 6 135 0 0 [AR 95, AI x1, AI x2] w (fun r u => ((-2147483648) ≤ r.toInt ∧ r.toInt ≤ 2147483647 ∧ (¬ r.toInt = 0 ∨ (0 ≤ x1.toInt ∧ x1.toInt ≤ 5)) ∧ (¬ r.toInt = 0 ∨ (0 ≤ x2.toInt ∧ x2.toInt ≤ 5))) ∧ Jv w u) := by
  refine cn_I (own := RX10) (nm := "rests") (L0 := [some (AR 95), some (AI x1), some (AI x2), none, none, none, none, none]) (by decide +kernel) rfl rfl (Nat.le_of_ble_eq_true rfl) rfl ?_
  intro p e s m args below meth c E hin
  have hJ : Jv w w := jv_rfl hI
  have hb_x1 := z32 x1
  have hb_x2 := z32 x2
  refine s_aload_n E dX10_rests_0 rfl rfl ?_
  refine s_iload_n E dX10_rests_1 rfl rfl ?_
  refine s_iload_n E dX10_rests_2 rfl rfl ?_
  refine s_vI (As := [AI x1, AI x2]) (S := []) E (Z_X10_areTwo_95 l D aC b w x1 x2 hJ.1 ) cv_X10_416 rfl rfl rfl (jv_lt hJ (by decide)) (Nat.le_of_ble_eq_true rfl) (Nat.le_of_ble_eq_true rfl) ⟨(Nat.le_of_ble_eq_true rfl), (Nat.le_of_ble_eq_true rfl)⟩ (Nat.le_of_ble_eq_true rfl) dX10_rests_3 (fun z_3 u_1 hp_2 => ?_)
  obtain ⟨hz_3, hp_2⟩ := hp_2
  have hj_4 := jv_trans hJ hp_2
  refine z_if_ne (tgt := 12) (u := z_3.toInt) E dX10_rests_6 (by decide) rfl (fun h_5 => ?_) (fun h_5 => ?_)
  ·
    refine s_iconst (v := 0) E dX10_rests_12 (by decide) ?_
    refine s_istore_n (L2 := [some (AR 95), some (AI x1), some (AI x2), some (AI 0), none, none, none, none]) E dX10_rests_13 rfl (by decide) rfl ?_
    refine s_iconst (v := 0) E dX10_rests_14 (by decide) ?_
    refine s_istore (L2 := [some (AR 95), some (AI x1), some (AI x2), some (AI 0), some (AI 0), none, none, none]) E dX10_rests_15 (by decide) rfl ?_
    refine z_loop (St := Int32 × Int32) (Pi := fun ⟨q17_3_5, q17_4_5⟩ v17 => (0 ≤ q17_4_5.toInt ∧ q17_4_5.toInt ≤ 4) ∧ Jv w v17) (Lf := fun ⟨q17_3_5, q17_4_5⟩ => [some (AR 95), some (AI x1), some (AI x2), some (AI q17_3_5), some (AI q17_4_5), none, none, none]) (fun ⟨q17_3_5, q17_4_5⟩ _ => (5 - q17_4_5.toInt).toNat) ⟨0, 0⟩ ⟨⟨by decide, by decide⟩, hj_4⟩ ?_
    rintro ⟨q17_3_5, q17_4_5⟩ v17 ⟨hq17_4, hj_6⟩ ih17
    have hbq17_3 := z32 q17_3_5
    refine s_loc (L2 := [some (AR 95), some (AI x1), some (AI x2), some (AI q17_3_5), some (AI q17_4_5), none, none, none]) rfl ?_
    refine s_iload E dX10_rests_17 rfl ?_
    refine s_iconst (v := 4) E dX10_rests_19 (by decide) ?_
    refine z_icmp_ge (tgt := 118) (u := q17_4_5.toInt) (v := 4) E dX10_rests_20 (by decide) rfl (by decide) (fun h_7 => ?_) (fun h_7 => ?_)
    ·
      refine s_iload_n E dX10_rests_118 rfl rfl ?_
      exact r_int E dX10_rests_119 ⟨⟨by have hb_ := z32 q17_3_5; omega, by have hb_ := z32 q17_3_5; omega, by first | (right; decide) | (have hb_ := z32 q17_3_5; omega) | (have hb_ := z32 q17_3_5; have hc_ := z32 x1; omega), by first | (right; decide) | (have hb_ := z32 q17_3_5; omega) | (have hb_ := z32 q17_3_5; have hc_ := z32 x2; omega)⟩, hj_6⟩
    ·
      refine s_iload E dX10_rests_23 rfl ?_
      refine s_iconst (v := 1) E dX10_rests_25 (by decide) ?_
      refine z_mask (v := 1) E dX10_rests_26 (by decide) (by decide) (fun z_8 hz_8 => ?_)
      refine s_istore (L2 := [some (AR 95), some (AI x1), some (AI x2), some (AI q17_3_5), some (AI q17_4_5), some (AI z_8), none, none]) E dX10_rests_27 (by decide) rfl ?_
      refine s_iload E dX10_rests_29 rfl ?_
      refine s_iconst (v := 1) E dX10_rests_31 (by decide) ?_
      refine s_ishr E dX10_rests_32 ?_
      refine z_nm (P := fun z => (-2147483648) ≤ z.toInt ∧ z.toInt ≤ 2147483647) (z32 _) (fun z_9 hz_9 => ?_)
      refine s_istore (L2 := [some (AR 95), some (AI x1), some (AI x2), some (AI q17_3_5), some (AI q17_4_5), some (AI z_8), some (AI z_9), none]) E dX10_rests_33 (by decide) rfl ?_
      refine s_aload_n E dX10_rests_35 rfl rfl ?_
      refine s_iload_n E dX10_rests_36 rfl rfl ?_
      refine s_iload_n E dX10_rests_37 rfl rfl ?_
      refine s_iload E dX10_rests_38 rfl ?_
      refine s_iload E dX10_rests_40 rfl ?_
      refine s_iconst (v := 0) E dX10_rests_42 (by decide) ?_
      refine s_vI (As := [AI x1, AI x2, AI z_8, AI z_9, AI 0]) (S := []) E (Z_X10_gainsBy_95 l D aC b v17 x1 x2 z_8 z_9 0 hj_6.1 ⟨by have hb_ := z32 x1; omega, by have hb_ := z32 x1; omega⟩ ⟨by have hb_ := z32 x2; omega, by have hb_ := z32 x2; omega⟩ (by decide)) cv_X10_419 rfl rfl rfl (jv_lt hj_6 (by decide)) (Nat.le_of_ble_eq_true rfl) (Nat.le_of_ble_eq_true rfl) ⟨(Nat.le_of_ble_eq_true rfl), (Nat.le_of_ble_eq_true rfl)⟩ (Nat.le_of_ble_eq_true rfl) dX10_rests_43 (fun z_12 u_10 hp_11 => ?_)
      obtain ⟨hz_12, hp_11⟩ := hp_11
      have hj_13 := jv_trans hj_6 hp_11
      refine s_aload_n E dX10_rests_46 rfl rfl ?_
      refine s_iload_n E dX10_rests_47 rfl rfl ?_
      refine s_iload_n E dX10_rests_48 rfl rfl ?_
      refine s_iconst (v := 1) E dX10_rests_49 (by decide) ?_
      refine s_iload E dX10_rests_50 rfl ?_
      refine z_isub (u := 1) (v := z_8.toInt) E dX10_rests_52 (by decide) rfl (by omega) (by omega) (fun z_14 hz_14 => ?_)
      refine s_iload E dX10_rests_53 rfl ?_
      refine s_iconst (v := 0) E dX10_rests_55 (by decide) ?_
      refine s_vI (As := [AI x1, AI x2, AI z_14, AI z_9, AI 0]) (S := [AI z_12]) E (Z_X10_gainsBy_95 l D aC b u_10 x1 x2 z_14 z_9 0 hj_13.1 ⟨by have hb_ := z32 x1; omega, by have hb_ := z32 x1; omega⟩ ⟨by have hb_ := z32 x2; omega, by have hb_ := z32 x2; omega⟩ (by decide)) cv_X10_419 rfl rfl rfl (jv_lt hj_13 (by decide)) (Nat.le_of_ble_eq_true rfl) (Nat.le_of_ble_eq_true rfl) ⟨(Nat.le_of_ble_eq_true rfl), (Nat.le_of_ble_eq_true rfl)⟩ (Nat.le_of_ble_eq_true rfl) dX10_rests_56 (fun z_17 u_15 hp_16 => ?_)
      obtain ⟨hz_17, hp_16⟩ := hp_16
      have hj_18 := jv_trans hj_13 hp_16
      refine z_icmp_lt (tgt := 93) (u := z_12.toInt) (v := z_17.toInt) E dX10_rests_59 (by decide) rfl rfl (fun h_19 => ?_) (fun h_19 => ?_)
      ·
        refine s_iconst (v := 0) E dX10_rests_93 (by decide) ?_
        refine s_istore (L2 := [some (AR 95), some (AI x1), some (AI x2), some (AI q17_3_5), some (AI q17_4_5), some (AI z_8), some (AI z_9), some (AI 0)]) E dX10_rests_94 (by decide) rfl ?_
        refine s_iload_n E dX10_rests_96 rfl rfl ?_
        refine s_iload E dX10_rests_97 rfl ?_
        refine z_if_eq (tgt := 109) (u := 0) E dX10_rests_99 (by decide) (by decide) (fun h_20 => ?_) (fun h_20 => absurd h_20 (by omega))
        refine s_iconst (v := 0) E dX10_rests_109 (by decide) ?_
        refine s_ior E dX10_rests_110 ?_
        refine z_nm (P := fun z => (-2147483648) ≤ z.toInt ∧ z.toInt ≤ 2147483647) (z32 _) (fun z_21 hz_21 => ?_)
        refine s_istore_n (L2 := [some (AR 95), some (AI x1), some (AI x2), some (AI z_21), some (AI q17_4_5), some (AI z_8), some (AI z_9), some (AI 0)]) E dX10_rests_111 rfl (by decide) rfl ?_
        refine z_iinc (u := q17_4_5.toInt) (L2 := fun z_22 => [some (AR 95), some (AI x1), some (AI x2), some (AI z_21), some (AI z_22), some (AI z_8), some (AI z_9), some (AI 0)]) E dX10_rests_112 rfl rfl (by decide) (fun _ => rfl) (by decide) (by omega) (by omega) (fun z_22 hz_22 => ?_)
        refine s_goto (tgt := 17) E dX10_rests_115 (by decide) ?_
        refine s_drop (i := 5) (L2 := [some (AR 95), some (AI x1), some (AI x2), some (AI z_21), some (AI z_22), none, some (AI z_9), some (AI 0)]) rfl ?_
        refine s_drop (i := 6) (L2 := [some (AR 95), some (AI x1), some (AI x2), some (AI z_21), some (AI z_22), none, none, some (AI 0)]) rfl ?_
        refine s_drop (i := 7) (L2 := [some (AR 95), some (AI x1), some (AI x2), some (AI z_21), some (AI z_22), none, none, none]) rfl ?_
        exact ih17 ⟨z_21, z_22⟩ u_15 ⟨⟨by have hb_ := z32 z_22; omega, by have hb_ := z32 z_22; omega⟩, hj_18⟩ (by first | omega | decide | (dsimp only; omega) | (dsimp only; decide))
      ·
        refine s_aload_n E dX10_rests_62 rfl rfl ?_
        refine s_iload_n E dX10_rests_63 rfl rfl ?_
        refine s_iload_n E dX10_rests_64 rfl rfl ?_
        refine s_iload E dX10_rests_65 rfl ?_
        refine s_iload E dX10_rests_67 rfl ?_
        refine s_iconst (v := 1) E dX10_rests_69 (by decide) ?_
        refine s_vI (As := [AI x1, AI x2, AI z_8, AI z_9, AI 1]) (S := []) E (Z_X10_gainsBy_95 l D aC b u_15 x1 x2 z_8 z_9 1 hj_18.1 ⟨by have hb_ := z32 x1; omega, by have hb_ := z32 x1; omega⟩ ⟨by have hb_ := z32 x2; omega, by have hb_ := z32 x2; omega⟩ (by decide)) cv_X10_419 rfl rfl rfl (jv_lt hj_18 (by decide)) (Nat.le_of_ble_eq_true rfl) (Nat.le_of_ble_eq_true rfl) ⟨(Nat.le_of_ble_eq_true rfl), (Nat.le_of_ble_eq_true rfl)⟩ (Nat.le_of_ble_eq_true rfl) dX10_rests_70 (fun z_25 u_23 hp_24 => ?_)
        obtain ⟨hz_25, hp_24⟩ := hp_24
        have hj_26 := jv_trans hj_18 hp_24
        refine s_aload_n E dX10_rests_73 rfl rfl ?_
        refine s_iload_n E dX10_rests_74 rfl rfl ?_
        refine s_iload_n E dX10_rests_75 rfl rfl ?_
        refine s_iload E dX10_rests_76 rfl ?_
        refine s_iconst (v := 1) E dX10_rests_78 (by decide) ?_
        refine s_iload E dX10_rests_79 rfl ?_
        refine s_isub E dX10_rests_81 ?_
        refine z_nm (P := fun z => (-2147483648) ≤ z.toInt ∧ z.toInt ≤ 2147483647) (z32 _) (fun z_27 hz_27 => ?_)
        refine s_iconst (v := 1) E dX10_rests_82 (by decide) ?_
        refine s_vI (As := [AI x1, AI x2, AI z_8, AI z_27, AI 1]) (S := [AI z_25]) E (Z_X10_gainsBy_95 l D aC b u_23 x1 x2 z_8 z_27 1 hj_26.1 ⟨by have hb_ := z32 x1; omega, by have hb_ := z32 x1; omega⟩ ⟨by have hb_ := z32 x2; omega, by have hb_ := z32 x2; omega⟩ (by decide)) cv_X10_419 rfl rfl rfl (jv_lt hj_26 (by decide)) (Nat.le_of_ble_eq_true rfl) (Nat.le_of_ble_eq_true rfl) ⟨(Nat.le_of_ble_eq_true rfl), (Nat.le_of_ble_eq_true rfl)⟩ (Nat.le_of_ble_eq_true rfl) dX10_rests_83 (fun z_30 u_28 hp_29 => ?_)
        obtain ⟨hz_30, hp_29⟩ := hp_29
        have hj_31 := jv_trans hj_26 hp_29
        refine z_icmp_lt (tgt := 93) (u := z_25.toInt) (v := z_30.toInt) E dX10_rests_86 (by decide) rfl rfl (fun h_32 => ?_) (fun h_32 => ?_)
        ·
          refine s_iconst (v := 0) E dX10_rests_93 (by decide) ?_
          refine s_istore (L2 := [some (AR 95), some (AI x1), some (AI x2), some (AI q17_3_5), some (AI q17_4_5), some (AI z_8), some (AI z_9), some (AI 0)]) E dX10_rests_94 (by decide) rfl ?_
          refine s_iload_n E dX10_rests_96 rfl rfl ?_
          refine s_iload E dX10_rests_97 rfl ?_
          refine z_if_eq (tgt := 109) (u := 0) E dX10_rests_99 (by decide) (by decide) (fun h_33 => ?_) (fun h_33 => absurd h_33 (by omega))
          refine s_iconst (v := 0) E dX10_rests_109 (by decide) ?_
          refine s_ior E dX10_rests_110 ?_
          refine z_nm (P := fun z => (-2147483648) ≤ z.toInt ∧ z.toInt ≤ 2147483647) (z32 _) (fun z_34 hz_34 => ?_)
          refine s_istore_n (L2 := [some (AR 95), some (AI x1), some (AI x2), some (AI z_34), some (AI q17_4_5), some (AI z_8), some (AI z_9), some (AI 0)]) E dX10_rests_111 rfl (by decide) rfl ?_
          refine z_iinc (u := q17_4_5.toInt) (L2 := fun z_35 => [some (AR 95), some (AI x1), some (AI x2), some (AI z_34), some (AI z_35), some (AI z_8), some (AI z_9), some (AI 0)]) E dX10_rests_112 rfl rfl (by decide) (fun _ => rfl) (by decide) (by omega) (by omega) (fun z_35 hz_35 => ?_)
          refine s_goto (tgt := 17) E dX10_rests_115 (by decide) ?_
          refine s_drop (i := 5) (L2 := [some (AR 95), some (AI x1), some (AI x2), some (AI z_34), some (AI z_35), none, some (AI z_9), some (AI 0)]) rfl ?_
          refine s_drop (i := 6) (L2 := [some (AR 95), some (AI x1), some (AI x2), some (AI z_34), some (AI z_35), none, none, some (AI 0)]) rfl ?_
          refine s_drop (i := 7) (L2 := [some (AR 95), some (AI x1), some (AI x2), some (AI z_34), some (AI z_35), none, none, none]) rfl ?_
          exact ih17 ⟨z_34, z_35⟩ u_28 ⟨⟨by have hb_ := z32 z_35; omega, by have hb_ := z32 z_35; omega⟩, hj_31⟩ (by first | omega | decide | (dsimp only; omega) | (dsimp only; decide))
        ·
          refine s_iconst (v := 1) E dX10_rests_89 (by decide) ?_
          refine s_goto (tgt := 94) E dX10_rests_90 (by decide) ?_
          refine s_istore (L2 := [some (AR 95), some (AI x1), some (AI x2), some (AI q17_3_5), some (AI q17_4_5), some (AI z_8), some (AI z_9), some (AI 1)]) E dX10_rests_94 (by decide) rfl ?_
          refine s_iload_n E dX10_rests_96 rfl rfl ?_
          refine s_iload E dX10_rests_97 rfl ?_
          refine z_if_eq (tgt := 109) (u := 1) E dX10_rests_99 (by decide) (by decide) (fun h_36 => absurd h_36 (by omega)) (fun h_36 => ?_)
          refine s_iconst (v := 1) E dX10_rests_102 (by decide) ?_
          refine s_iload E dX10_rests_103 rfl ?_
          refine z_shl1 3 (u := q17_4_5.toInt) (B := 8) E dX10_rests_105 rfl (by omega) (by omega) (by decide) (by decide) (fun z_37 hz_37 => ?_)
          refine s_goto (tgt := 110) E dX10_rests_106 (by decide) ?_
          refine s_ior E dX10_rests_110 ?_
          refine z_nm (P := fun z => (-2147483648) ≤ z.toInt ∧ z.toInt ≤ 2147483647) (z32 _) (fun z_38 hz_38 => ?_)
          refine s_istore_n (L2 := [some (AR 95), some (AI x1), some (AI x2), some (AI z_38), some (AI q17_4_5), some (AI z_8), some (AI z_9), some (AI 1)]) E dX10_rests_111 rfl (by decide) rfl ?_
          refine z_iinc (u := q17_4_5.toInt) (L2 := fun z_39 => [some (AR 95), some (AI x1), some (AI x2), some (AI z_38), some (AI z_39), some (AI z_8), some (AI z_9), some (AI 1)]) E dX10_rests_112 rfl rfl (by decide) (fun _ => rfl) (by decide) (by omega) (by omega) (fun z_39 hz_39 => ?_)
          refine s_goto (tgt := 17) E dX10_rests_115 (by decide) ?_
          refine s_drop (i := 5) (L2 := [some (AR 95), some (AI x1), some (AI x2), some (AI z_38), some (AI z_39), none, some (AI z_9), some (AI 1)]) rfl ?_
          refine s_drop (i := 6) (L2 := [some (AR 95), some (AI x1), some (AI x2), some (AI z_38), some (AI z_39), none, none, some (AI 1)]) rfl ?_
          refine s_drop (i := 7) (L2 := [some (AR 95), some (AI x1), some (AI x2), some (AI z_38), some (AI z_39), none, none, none]) rfl ?_
          exact ih17 ⟨z_38, z_39⟩ u_28 ⟨⟨by have hb_ := z32 z_39; omega, by have hb_ := z32 z_39; omega⟩, hj_31⟩ (by first | omega | decide | (dsimp only; omega) | (dsimp only; decide))
  ·
    refine s_bipush (v := (-2)) E dX10_rests_9 (by decide) ?_
    exact r_int E dX10_rests_11 ⟨⟨by decide, by decide, by first | (left; decide) | (right; decide) | (right; have hb_ := z32 x1; omega), by first | (left; decide) | (right; decide) | (right; have hb_ := z32 x2; omega)⟩, hj_4⟩
set_option maxRecDepth 20000 in
set_option maxHeartbeats 2000000 in
theorem Z_X10_gains_95 (l : Launch) (D : va_G) (aC : Nat → ClassId) (b : Nat) (w : XW) (x1 : Int32) (x2 : Int32) (x3 : Int32) (x4 : Int32) (hI : Iv w)  : CnI l D aC b M_X10_gains 6 135 0 0 [AR 95, AI x1, AI x2, AI x3, AI x4] w (fun r u => ((-2147483648) ≤ r.toInt ∧ r.toInt ≤ 2147483647 ∧ (¬ r.toInt = 0 ∨ (0 ≤ x1.toInt ∧ x1.toInt ≤ 5)) ∧ (¬ r.toInt = 0 ∨ (0 ≤ x2.toInt ∧ x2.toInt ≤ 5)) ∧ (¬ r.toInt = 0 ∨ (0 ≤ x3.toInt ∧ x3.toInt ≤ 1)) ∧ (¬ r.toInt = 0 ∨ (0 ≤ x4.toInt ∧ x4.toInt ≤ 1))) ∧ Jv w u) := by
  refine cn_I (own := RX10) (nm := "gains") (L0 := [some (AR 95), some (AI x1), some (AI x2), some (AI x3), some (AI x4)]) (by decide +kernel) rfl rfl (Nat.le_of_ble_eq_true rfl) rfl ?_
  intro p e s m args below meth c E hin
  have hJ : Jv w w := jv_rfl hI
  have hb_x1 := z32 x1
  have hb_x2 := z32 x2
  have hb_x3 := z32 x3
  have hb_x4 := z32 x4
  refine s_aload_n E dX10_gains_0 rfl rfl ?_
  refine s_iload_n E dX10_gains_1 rfl rfl ?_
  refine s_iload_n E dX10_gains_2 rfl rfl ?_
  refine s_vI (As := [AI x1, AI x2]) (S := []) E (Z_X10_areTwo_95 l D aC b w x1 x2 hJ.1 ) cv_X10_416 rfl rfl rfl (jv_lt hJ (by decide)) (Nat.le_of_ble_eq_true rfl) (Nat.le_of_ble_eq_true rfl) ⟨(Nat.le_of_ble_eq_true rfl), (Nat.le_of_ble_eq_true rfl)⟩ (Nat.le_of_ble_eq_true rfl) dX10_gains_3 (fun z_3 u_1 hp_2 => ?_)
  obtain ⟨hz_3, hp_2⟩ := hp_2
  have hj_4 := jv_trans hJ hp_2
  refine z_if_eq (tgt := 43) (u := z_3.toInt) E dX10_gains_6 (by decide) rfl (fun h_5 => ?_) (fun h_5 => ?_)
  ·
    refine s_sipush (v := (-1000)) E dX10_gains_43 (by decide) ?_
    exact r_int E dX10_gains_46 ⟨⟨by decide, by decide, by first | (left; decide) | (right; decide) | (right; have hb_ := z32 x1; omega), by first | (left; decide) | (right; decide) | (right; have hb_ := z32 x2; omega), by first | (left; decide) | (right; decide) | (right; have hb_ := z32 x3; omega), by first | (left; decide) | (right; decide) | (right; have hb_ := z32 x4; omega)⟩, hj_4⟩
  ·
    refine s_iload_n E dX10_gains_9 rfl rfl ?_
    refine z_i2l (u := x3.toInt) E dX10_gains_10 rfl (fun z_6 hz_6 => ?_)
    refine s_lconst (v := 0) E dX10_gains_11 (by decide) ?_
    refine s_lconst (v := 1) E dX10_gains_12 (by decide) ?_
    refine s_sI (As := [AL z_6, AL 0, AL 1]) (S := []) E (Z_X10_in l D aC b u_1 z_6 0 1) cs_X10_82 rfl rfl (Nat.le_of_ble_eq_true rfl) (Nat.le_of_ble_eq_true rfl) ⟨(Nat.le_of_ble_eq_true rfl), (Nat.le_of_ble_eq_true rfl)⟩ (Nat.le_of_ble_eq_true rfl) dX10_gains_13 (fun z_7 u_8 hp_9 => ?_)
    obtain ⟨hz_7, hp_9⟩ := hp_9
    subst hp_9
    refine z_if_eq (tgt := 43) (u := z_7.toInt) E dX10_gains_16 (by decide) rfl (fun h_10 => ?_) (fun h_10 => ?_)
    ·
      refine s_sipush (v := (-1000)) E dX10_gains_43 (by decide) ?_
      exact r_int E dX10_gains_46 ⟨⟨by decide, by decide, by first | (left; decide) | (right; decide) | (right; have hb_ := z32 x1; omega), by first | (left; decide) | (right; decide) | (right; have hb_ := z32 x2; omega), by first | (left; decide) | (right; decide) | (right; have hb_ := z32 x3; omega), by first | (left; decide) | (right; decide) | (right; have hb_ := z32 x4; omega)⟩, hj_4⟩
    ·
      refine s_iload E dX10_gains_19 rfl ?_
      refine z_i2l (u := x4.toInt) E dX10_gains_21 rfl (fun z_11 hz_11 => ?_)
      refine s_lconst (v := 0) E dX10_gains_22 (by decide) ?_
      refine s_lconst (v := 1) E dX10_gains_23 (by decide) ?_
      refine s_sI (As := [AL z_11, AL 0, AL 1]) (S := []) E (Z_X10_in l D aC b u_1 z_11 0 1) cs_X10_82 rfl rfl (Nat.le_of_ble_eq_true rfl) (Nat.le_of_ble_eq_true rfl) ⟨(Nat.le_of_ble_eq_true rfl), (Nat.le_of_ble_eq_true rfl)⟩ (Nat.le_of_ble_eq_true rfl) dX10_gains_24 (fun z_12 u_13 hp_14 => ?_)
      obtain ⟨hz_12, hp_14⟩ := hp_14
      subst hp_14
      refine z_if_eq (tgt := 43) (u := z_12.toInt) E dX10_gains_27 (by decide) rfl (fun h_15 => ?_) (fun h_15 => ?_)
      ·
        refine s_sipush (v := (-1000)) E dX10_gains_43 (by decide) ?_
        exact r_int E dX10_gains_46 ⟨⟨by decide, by decide, by first | (left; decide) | (right; decide) | (right; have hb_ := z32 x1; omega), by first | (left; decide) | (right; decide) | (right; have hb_ := z32 x2; omega), by first | (left; decide) | (right; decide) | (right; have hb_ := z32 x3; omega), by first | (left; decide) | (right; decide) | (right; have hb_ := z32 x4; omega)⟩, hj_4⟩
      ·
        refine s_aload_n E dX10_gains_30 rfl rfl ?_
        refine s_iload_n E dX10_gains_31 rfl rfl ?_
        refine s_iload_n E dX10_gains_32 rfl rfl ?_
        refine s_iload_n E dX10_gains_33 rfl rfl ?_
        refine s_iload E dX10_gains_34 rfl ?_
        refine s_iconst (v := 0) E dX10_gains_36 (by decide) ?_
        refine s_vI (As := [AI x1, AI x2, AI x3, AI x4, AI 0]) (S := []) E (Z_X10_gainsBy_95 l D aC b u_1 x1 x2 x3 x4 0 hj_4.1 ⟨by have hb_ := z32 x1; omega, by have hb_ := z32 x1; omega⟩ ⟨by have hb_ := z32 x2; omega, by have hb_ := z32 x2; omega⟩ (by decide)) cv_X10_419 rfl rfl rfl (jv_lt hj_4 (by decide)) (Nat.le_of_ble_eq_true rfl) (Nat.le_of_ble_eq_true rfl) ⟨(Nat.le_of_ble_eq_true rfl), (Nat.le_of_ble_eq_true rfl)⟩ (Nat.le_of_ble_eq_true rfl) dX10_gains_37 (fun z_18 u_16 hp_17 => ?_)
        obtain ⟨hz_18, hp_17⟩ := hp_17
        have hj_19 := jv_trans hj_4 hp_17
        refine s_goto (tgt := 46) E dX10_gains_40 (by decide) ?_
        exact r_int E dX10_gains_46 ⟨⟨by have hb_ := z32 z_18; omega, by have hb_ := z32 z_18; omega, by first | (right; decide) | (have hb_ := z32 z_18; omega) | (have hb_ := z32 z_18; have hc_ := z32 x1; omega), by first | (right; decide) | (have hb_ := z32 z_18; omega) | (have hb_ := z32 z_18; have hc_ := z32 x2; omega), by first | (right; decide) | (have hb_ := z32 z_18; omega) | (have hb_ := z32 z_18; have hc_ := z32 x3; omega), by first | (right; decide) | (have hb_ := z32 z_18; omega) | (have hb_ := z32 z_18; have hc_ := z32 x4; omega)⟩, hj_19⟩
set_option maxRecDepth 20000 in
set_option maxHeartbeats 2000000 in
theorem Z_X10_asksMusic_95 (l : Launch) (D : va_G) (aC : Nat → ClassId) (b : Nat) (w : XW) (x1 : Int32) (x2 : Int32) (x3 : Int32) (hI : Iv w)  : CnI l D aC b M_X10_asksMusic 5 113 0 0 [AR 95, AI x1, AI x2, AI x3] w (fun r u => (0 ≤ r.toInt ∧ r.toInt ≤ 1 ∧ (r.toInt = 0 ∨ (0 ≤ x1.toInt ∧ x1.toInt ≤ 5)) ∧ (r.toInt = 0 ∨ (0 ≤ x2.toInt ∧ x2.toInt ≤ 8)) ∧ (r.toInt = 0 ∨ (0 ≤ x3.toInt ∧ x3.toInt ≤ 1))) ∧ Jv w u) := by
  refine cn_I (own := RX10) (nm := "asksMusic") (L0 := [some (AR 95), some (AI x1), some (AI x2), some (AI x3)]) (by decide +kernel) rfl rfl (Nat.le_of_ble_eq_true rfl) rfl ?_
  intro p e s m args below meth c E hin
  have hJ : Jv w w := jv_rfl hI
  have hb_x1 := z32 x1
  have hb_x2 := z32 x2
  have hb_x3 := z32 x3
  refine s_aload_n E dX10_asksMusic_0 rfl rfl ?_
  refine s_iload_n E dX10_asksMusic_1 rfl rfl ?_
  refine s_vI (As := [AI x1]) (S := []) E (Z_X10_asksLady_95 l D aC b w x1 hJ.1 ) cv_X10_288 rfl rfl rfl (jv_lt hJ (by decide)) (Nat.le_of_ble_eq_true rfl) (Nat.le_of_ble_eq_true rfl) ⟨(Nat.le_of_ble_eq_true rfl), (Nat.le_of_ble_eq_true rfl)⟩ (Nat.le_of_ble_eq_true rfl) dX10_asksMusic_2 (fun z_3 u_1 hp_2 => ?_)
  obtain ⟨hz_3, hp_2⟩ := hp_2
  have hj_4 := jv_trans hJ hp_2
  refine z_if_eq (tgt := 43) (u := z_3.toInt) E dX10_asksMusic_5 (by decide) rfl (fun h_5 => ?_) (fun h_5 => ?_)
  ·
    refine s_iconst (v := 0) E dX10_asksMusic_43 (by decide) ?_
    exact r_bool E dX10_asksMusic_44 (Or.inl rfl) ⟨⟨by decide, by decide, by first | (left; decide) | (right; decide) | (right; have hb_ := z32 x1; omega), by first | (left; decide) | (right; decide) | (right; have hb_ := z32 x2; omega), by first | (left; decide) | (right; decide) | (right; have hb_ := z32 x3; omega)⟩, hj_4⟩
  ·
    refine s_aload_n E dX10_asksMusic_8 rfl rfl ?_
    refine s_iload_n E dX10_asksMusic_9 rfl rfl ?_
    refine z_i2l (u := x2.toInt) E dX10_asksMusic_10 rfl (fun z_6 hz_6 => ?_)
    refine s_vI (As := [AL z_6]) (S := []) E (Z_X10_isDance_95 l D aC b u_1 z_6 hj_4.1 ) cv_X10_282 rfl rfl rfl (jv_lt hj_4 (by decide)) (Nat.le_of_ble_eq_true rfl) (Nat.le_of_ble_eq_true rfl) ⟨(Nat.le_of_ble_eq_true rfl), (Nat.le_of_ble_eq_true rfl)⟩ (Nat.le_of_ble_eq_true rfl) dX10_asksMusic_11 (fun z_9 u_7 hp_8 => ?_)
    obtain ⟨hz_9, hp_8⟩ := hp_8
    subst hp_8
    refine z_if_eq (tgt := 43) (u := z_9.toInt) E dX10_asksMusic_14 (by decide) rfl (fun h_11 => ?_) (fun h_11 => ?_)
    ·
      refine s_iconst (v := 0) E dX10_asksMusic_43 (by decide) ?_
      exact r_bool E dX10_asksMusic_44 (Or.inl rfl) ⟨⟨by decide, by decide, by first | (left; decide) | (right; decide) | (right; have hb_ := z32 x1; omega), by first | (left; decide) | (right; decide) | (right; have hb_ := z32 x2; omega), by first | (left; decide) | (right; decide) | (right; have hb_ := z32 x3; omega)⟩, hj_4⟩
    ·
      refine s_iload_n E dX10_asksMusic_17 rfl rfl ?_
      refine z_i2l (u := x2.toInt) E dX10_asksMusic_18 rfl (fun z_12 hz_12 => ?_)
      refine s_lconst (v := 0) E dX10_asksMusic_19 (by decide) ?_
      refine s_ldc2 E k_1918 rfl dX10_asksMusic_20 ?_
      refine s_sI (As := [AL z_12, AL 0, AL 8]) (S := []) E (Z_X10_in l D aC b u_1 z_12 0 8) cs_X10_82 rfl rfl (Nat.le_of_ble_eq_true rfl) (Nat.le_of_ble_eq_true rfl) ⟨(Nat.le_of_ble_eq_true rfl), (Nat.le_of_ble_eq_true rfl)⟩ (Nat.le_of_ble_eq_true rfl) dX10_asksMusic_23 (fun z_13 u_14 hp_15 => ?_)
      obtain ⟨hz_13, hp_15⟩ := hp_15
      subst hp_15
      refine z_if_eq (tgt := 43) (u := z_13.toInt) E dX10_asksMusic_26 (by decide) rfl (fun h_16 => ?_) (fun h_16 => ?_)
      ·
        refine s_iconst (v := 0) E dX10_asksMusic_43 (by decide) ?_
        exact r_bool E dX10_asksMusic_44 (Or.inl rfl) ⟨⟨by decide, by decide, by first | (left; decide) | (right; decide) | (right; have hb_ := z32 x1; omega), by first | (left; decide) | (right; decide) | (right; have hb_ := z32 x2; omega), by first | (left; decide) | (right; decide) | (right; have hb_ := z32 x3; omega)⟩, hj_4⟩
      ·
        refine s_iload_n E dX10_asksMusic_29 rfl rfl ?_
        refine z_i2l (u := x3.toInt) E dX10_asksMusic_30 rfl (fun z_17 hz_17 => ?_)
        refine s_lconst (v := 0) E dX10_asksMusic_31 (by decide) ?_
        refine s_lconst (v := 1) E dX10_asksMusic_32 (by decide) ?_
        refine s_sI (As := [AL z_17, AL 0, AL 1]) (S := []) E (Z_X10_in l D aC b u_1 z_17 0 1) cs_X10_82 rfl rfl (Nat.le_of_ble_eq_true rfl) (Nat.le_of_ble_eq_true rfl) ⟨(Nat.le_of_ble_eq_true rfl), (Nat.le_of_ble_eq_true rfl)⟩ (Nat.le_of_ble_eq_true rfl) dX10_asksMusic_33 (fun z_18 u_19 hp_20 => ?_)
        obtain ⟨hz_18, hp_20⟩ := hp_20
        subst hp_20
        refine z_if_eq (tgt := 43) (u := z_18.toInt) E dX10_asksMusic_36 (by decide) rfl (fun h_21 => ?_) (fun h_21 => ?_)
        ·
          refine s_iconst (v := 0) E dX10_asksMusic_43 (by decide) ?_
          exact r_bool E dX10_asksMusic_44 (Or.inl rfl) ⟨⟨by decide, by decide, by first | (left; decide) | (right; decide) | (right; have hb_ := z32 x1; omega), by first | (left; decide) | (right; decide) | (right; have hb_ := z32 x2; omega), by first | (left; decide) | (right; decide) | (right; have hb_ := z32 x3; omega)⟩, hj_4⟩
        ·
          refine s_iconst (v := 1) E dX10_asksMusic_39 (by decide) ?_
          refine s_goto (tgt := 44) E dX10_asksMusic_40 (by decide) ?_
          exact r_bool E dX10_asksMusic_44 (Or.inr rfl) ⟨⟨by decide, by decide, by first | (left; decide) | (right; decide) | (right; have hb_ := z32 x1; omega), by first | (left; decide) | (right; decide) | (right; have hb_ := z32 x2; omega), by first | (left; decide) | (right; decide) | (right; have hb_ := z32 x3; omega)⟩, hj_4⟩
set_option maxRecDepth 20000 in
set_option maxHeartbeats 2000000 in
theorem Z_X10_layMusic_95 (l : Launch) (D : va_G) (aC : Nat → ClassId) (b : Nat) (w : XW) (x1 : Int32) (x2 : Int32) (x3 : Int32) (hI : Iv w) (hx1 : 0 ≤ x1.toInt ∧ x1.toInt ≤ 5) (hx3 : 0 ≤ x3.toInt ∧ x3.toInt ≤ 8) : CnV l D aC b M_X10_layMusic 4 96 0 0 [AR 95, AI x1, AI x2, AI x3] w (fun u => (¬ (u.2.2.2 95 33).toInt = 0) ∧ Jv w u) := by
  refine cn_V (own := RX10) (nm := "layMusic") (L0 := [some (AR 95), some (AI x1), some (AI x2), some (AI x3), none, none, none]) (by decide +kernel) rfl rfl (Nat.le_of_ble_eq_true rfl) rfl ?_
  intro p e s m args below meth c E hin
  have hJ : Jv w w := jv_rfl hI
  have hb_x2 := z32 x2
  obtain ⟨T_, hT0_, hT1_, hT2_, hT3_⟩ := y_T x3 (by omega) (by omega)
  refine s_aload_n E dX10_layMusic_0 rfl rfl ?_
  refine s_lconst (v := 0) E dX10_layMusic_1 (by decide) ?_
  refine s_pL E fp_X10_423 rfl rfl (jv_lt hJ (by decide)) dX10_layMusic_2 ?_
  refine s_gen (P := fun v => Jv w v ∧ (v.2.2.2 95 33).toInt = 0 ∧ (v.2.2.1 95 24).toInt = (w.2.2.1 95 24).toInt ∧ (v.2.2.1 96 3).toInt = (w.2.2.1 96 3).toInt) ⟨(jv_L hJ (by decide)), rfl, rfl, rfl⟩ (fun v_1 hj_2 => ?_)
  obtain ⟨hj_2, hk_3k0, hk_3k1, hk_3k2⟩ := hj_2
  refine s_aload_n E dX10_layMusic_5 rfl rfl ?_
  refine s_lconst (v := 0) E dX10_layMusic_6 (by decide) ?_
  refine s_pL E fp_X10_427 rfl rfl (jv_lt hj_2 (by decide)) dX10_layMusic_7 ?_
  refine s_gen (P := fun v => Jv w v ∧ (v.2.2.2 95 33).toInt = (v_1.2.2.2 95 33).toInt ∧ (v.2.2.1 95 24).toInt = (v_1.2.2.1 95 24).toInt ∧ (v.2.2.1 96 3).toInt = (v_1.2.2.1 96 3).toInt) ⟨(jv_L hj_2 (by decide)), rfl, rfl, rfl⟩ (fun v_4 hj_5 => ?_)
  obtain ⟨hj_5, hk_6k0, hk_6k1, hk_6k2⟩ := hj_5
  refine s_aload_n E dX10_layMusic_10 rfl rfl ?_
  refine s_lconst (v := 0) E dX10_layMusic_11 (by decide) ?_
  refine s_pL E fp_X10_430 rfl rfl (jv_lt hj_5 (by decide)) dX10_layMusic_12 ?_
  refine s_gen (P := fun v => Jv w v ∧ (v.2.2.2 95 33).toInt = (v_4.2.2.2 95 33).toInt ∧ (v.2.2.1 95 24).toInt = (v_4.2.2.1 95 24).toInt ∧ (v.2.2.1 96 3).toInt = (v_4.2.2.1 96 3).toInt) ⟨(jv_L hj_5 (by decide)), rfl, rfl, rfl⟩ (fun v_7 hj_8 => ?_)
  obtain ⟨hj_8, hk_9k0, hk_9k1, hk_9k2⟩ := hj_8
  refine s_aload_n E dX10_layMusic_15 rfl rfl ?_
  refine s_iconst (v := 0) E dX10_layMusic_16 (by decide) ?_
  refine s_pI E fp_X10_270 (Or.inl rfl) rfl (jv_lt hj_8 (by decide)) dX10_layMusic_17 ?_
  refine s_gen (P := fun v => Jv w v ∧ (v.2.2.2 95 33).toInt = (v_7.2.2.2 95 33).toInt ∧ (v.2.2.1 95 24).toInt = 0 ∧ (v.2.2.1 96 3).toInt = (v_7.2.2.1 96 3).toInt) ⟨(jv_f_95_24 hj_8 (by decide) (by decide)), rfl, rfl, rfl⟩ (fun v_10 hj_11 => ?_)
  obtain ⟨hj_11, hk_12k0, hk_12k1, hk_12k2⟩ := hj_11
  refine z_loop (St := Unit) (Pi := fun () v20 => (0 ≤ (v20.2.2.1 95 24).toInt ∧ (v20.2.2.1 95 24).toInt ≤ T_ ∧ 0 ≤ (v20.2.2.2 95 33).toInt ∧ (v20.2.2.2 95 33).toInt ≤ (v20.2.2.1 95 24).toInt * 1000000000 ∧ ((v20.2.2.1 96 3).toInt ≤ 9 → 1 ≤ (v20.2.2.1 95 24).toInt → 1 ≤ (v20.2.2.2 95 33).toInt) ∧ ((v20.2.2.1 96 3).toInt = 10 → (v20.2.2.1 95 24).toInt = T_ → 1 ≤ (v20.2.2.2 95 33).toInt)) ∧ Jv w v20) (Lf := fun () => [some (AR 95), some (AI x1), some (AI x2), some (AI x3), none, none, none]) (fun () v20 => (T_ - (v20.2.2.1 95 24).toInt).toNat) () ⟨(by omega), hj_11⟩ ?_
  rintro () v20 ⟨hl20, hj_13⟩ ih20
  refine s_loc (L2 := [some (AR 95), some (AI x1), some (AI x2), some (AI x3), none, none, none]) rfl ?_
  refine s_aload_n E dX10_layMusic_20 rfl rfl ?_
  refine s_gI E fg_X10_270 rfl rfl (jv_lt hj_13 (by decide)) dX10_layMusic_21 ?_
  refine z_nm (P := fun z => z.toInt = (v20.2.2.1 95 24).toInt ∧ (-2147483648) ≤ z.toInt ∧ z.toInt ≤ 2147483647) ⟨rfl, z32 _⟩ (fun z_14 hz_14 => ?_)
  refine s_iconst (v := 2) E dX10_layMusic_24 (by decide) ?_
  refine s_iload_n E dX10_layMusic_25 rfl rfl ?_
  refine s_ishl E dX10_layMusic_26 ?_
  refine z_nm (P := fun z => z = 2 <<< (x3 &&& 31) ∧ (-2147483648) ≤ z.toInt ∧ z.toInt ≤ 2147483647) ⟨rfl, z32 _⟩ (fun z_15 hz_15 => ?_)
  have hT_ : z_15.toInt = T_ := by rw [hz_15.1]; exact hT0_
  refine z_icmp_ge (tgt := 165) (u := z_14.toInt) (v := z_15.toInt) E dX10_layMusic_27 (by decide) rfl rfl (fun h_16 => ?_) (fun h_16 => ?_)
  ·
    have ho_ := rw_96_3 hj_13
    exact r_void E dX10_layMusic_165 ⟨(by omega), hj_13⟩
  ·
    refine s_lconst (v := 1) E dX10_layMusic_30 (by decide) ?_
    refine s_lstore (L2 := [some (AR 95), some (AI x1), some (AI x2), some (AI x3), some (AL 1), none, none]) E dX10_layMusic_31 (by decide) rfl ?_
    refine s_iconst (v := 0) E dX10_layMusic_33 (by decide) ?_
    refine s_istore (L2 := [some (AR 95), some (AI x1), some (AI x2), some (AI x3), some (AL 1), none, some (AI 0)]) E dX10_layMusic_34 (by decide) rfl ?_
    refine z_loop (St := Int64 × Int32) (Pi := fun ⟨q36_4_16, q36_6_16⟩ v36 => (0 ≤ q36_6_16.toInt ∧ q36_6_16.toInt ≤ 9) ∧ (0 ≤ q36_4_16.toInt ∧ q36_4_16.toInt ≤ y_p q36_6_16.toInt.toNat ∧ ((v20.2.2.1 95 24).toInt = 0 → (v20.2.2.1 96 3).toInt ≤ 9 → 1 ≤ q36_4_16.toInt) ∧ ((v20.2.2.1 96 3).toInt = 10 → (v20.2.2.1 95 24).toInt = T_ - 1 → 1 ≤ q36_4_16.toInt)) ∧ v20 = v36) (Lf := fun ⟨q36_4_16, q36_6_16⟩ => [some (AR 95), some (AI x1), some (AI x2), some (AI x3), some (AL q36_4_16), none, some (AI q36_6_16)]) (fun ⟨q36_4_16, q36_6_16⟩ _ => (10 - q36_6_16.toInt).toNat) ⟨1, 0⟩ ⟨⟨by decide, by decide⟩, (⟨by decide, by decide, fun _ _ => by decide, fun _ _ => by decide⟩), rfl⟩ ?_
    rintro ⟨q36_4_16, q36_6_16⟩ v36 ⟨hq36_6, hl36, hv_⟩ ih36
    subst hv_
    have hbq36_4 := z64 q36_4_16
    refine s_loc (L2 := [some (AR 95), some (AI x1), some (AI x2), some (AI x3), some (AL q36_4_16), none, some (AI q36_6_16)]) rfl ?_
    refine s_iload E dX10_layMusic_36 rfl ?_
    refine s_iload_n E dX10_layMusic_38 rfl rfl ?_
    refine z_icmp_gt (tgt := 86) (u := q36_6_16.toInt) (v := x3.toInt) E dX10_layMusic_39 (by decide) rfl rfl (fun h_18 => ?_) (fun h_18 => ?_)
    ·
      have m5_ := y_p_le q36_6_16.toInt.toNat (by omega)
      refine s_lload E dX10_layMusic_86 rfl ?_
      have hh_88_4 : 0 ≤ q36_4_16.toInt ∧ q36_4_16.toInt ≤ 1000000000 := by omega
      refine s_lconst (v := 0) E dX10_layMusic_88 (by decide) ?_
      refine z_lcmp (u := q36_4_16.toInt) (v := 0) E dX10_layMusic_89 rfl (by decide) (fun z_19 hz_19 => ?_)
      refine z_if_ne (tgt := 96) (u := z_19.toInt) E dX10_layMusic_90 (by decide) rfl (fun h_20 => ?_) (fun h_20 => ?_)
      ·
        refine s_aload_n E dX10_layMusic_96 rfl rfl ?_
        refine s_iload_n E dX10_layMusic_97 rfl rfl ?_
        refine s_iload_n E dX10_layMusic_98 rfl rfl ?_
        refine s_vI (As := [AI x1, AI x3]) (S := []) E (Z_X10_goNote_95 l D aC b v20 x1 x3 hj_13.1 ⟨by have hb_ := z32 x1; omega, by have hb_ := z32 x1; omega⟩ ⟨by have hb_ := z32 x3; omega, by have hb_ := z32 x3; omega⟩) cv_X10_335 rfl rfl rfl (jv_lt hj_13 (by decide)) (Nat.le_of_ble_eq_true rfl) (Nat.le_of_ble_eq_true rfl) ⟨(Nat.le_of_ble_eq_true rfl), (Nat.le_of_ble_eq_true rfl)⟩ (Nat.le_of_ble_eq_true rfl) dX10_layMusic_99 (fun z_23 u_21 hp_22 => ?_)
        obtain ⟨hz_23, hxz_23, hf_u_21_95, hf_u_21_96, hf_u_21_L, hp_22⟩ := hp_22
        have hj_24 := jv_trans hj_13 hp_22
        have hfa_95_24 := congrArg Int32.toInt (congrFun hf_u_21_95 24)
        have hfa_96_3 := congrArg Int32.toInt (congrFun hf_u_21_96 3)
        have hfL_95_33 := congrArg Int64.toInt (congrFun (congrFun hf_u_21_L 95) 33)
        refine s_istore (L2 := [some (AR 95), some (AI x1), some (AI x2), some (AI x3), some (AL q36_4_16), none, some (AI z_23)]) E dX10_layMusic_102 (by decide) rfl ?_
        refine s_aload_n E dX10_layMusic_104 rfl rfl ?_
        refine s_dupR E dX10_layMusic_105 ?_
        refine s_gL E fg_X10_423 rfl rfl (jv_lt hj_24 (by decide)) dX10_layMusic_106 ?_
        refine z_nmL (P := fun z => z.toInt = (u_21.2.2.2 95 33).toInt) rfl (fun z_25 hz_25 => ?_)
        have hgz_25 : 0 ≤ z_25.toInt ∧ z_25.toInt ≤ 512000000000 := by omega
        refine s_lload E dX10_layMusic_109 rfl ?_
        refine z_ladd (u := z_25.toInt) (v := q36_4_16.toInt) E dX10_layMusic_111 rfl rfl (by omega) (by omega) (fun z_26 hz_26 => ?_)
        refine s_pL E fp_X10_423 rfl rfl (jv_lt hj_24 (by decide)) dX10_layMusic_112 ?_
        refine s_gen (P := fun v => Jv w v ∧ (v.2.2.2 95 33).toInt = z_26.toInt ∧ (v.2.2.1 95 24).toInt = (u_21.2.2.1 95 24).toInt ∧ (v.2.2.1 96 3).toInt = (u_21.2.2.1 96 3).toInt) ⟨(jv_L hj_24 (by decide)), rfl, rfl, rfl⟩ (fun v_27 hj_28 => ?_)
        obtain ⟨hj_28, hk_29k0, hk_29k1, hk_29k2⟩ := hj_28
        refine s_aload_n E dX10_layMusic_115 rfl rfl ?_
        refine s_dupR E dX10_layMusic_116 ?_
        refine s_gL E fg_X10_427 rfl rfl (jv_lt hj_28 (by decide)) dX10_layMusic_117 ?_
        refine z_anyL (fun z_30 => ?_)
        refine s_lload E dX10_layMusic_120 rfl ?_
        refine s_iload E dX10_layMusic_122 rfl ?_
        refine s_iload_n E dX10_layMusic_124 rfl rfl ?_
        refine s_sI (As := [AI z_23, AI x2]) (S := [AL q36_4_16, AL z_30, AR 95]) E (Z_X10_bit l D aC b v_27 z_23 x2 hj_28.1 ) cs_X10_252 rfl rfl (Nat.le_of_ble_eq_true rfl) (Nat.le_of_ble_eq_true rfl) ⟨(Nat.le_of_ble_eq_true rfl), (Nat.le_of_ble_eq_true rfl)⟩ (Nat.le_of_ble_eq_true rfl) dX10_layMusic_125 (fun z_33 u_31 hp_32 => ?_)
        obtain ⟨hz_33, hxz_33, hp_32⟩ := hp_32
        subst hp_32
        refine z_i2l (u := z_33.toInt) E dX10_layMusic_128 rfl (fun z_35 hz_35 => ?_)
        refine s_lmul E dX10_layMusic_129 ?_
        refine z_anyL (fun z_36 => ?_)
        refine s_ladd E dX10_layMusic_130 ?_
        refine z_anyL (fun z_37 => ?_)
        refine s_pL E fp_X10_427 rfl rfl (jv_lt hj_28 (by decide)) dX10_layMusic_131 ?_
        refine s_gen (P := fun v => Jv w v ∧ (v.2.2.2 95 33).toInt = (v_27.2.2.2 95 33).toInt ∧ (v.2.2.1 95 24).toInt = (v_27.2.2.1 95 24).toInt ∧ (v.2.2.1 96 3).toInt = (v_27.2.2.1 96 3).toInt) ⟨(jv_L hj_28 (by decide)), rfl, rfl, rfl⟩ (fun v_38 hj_39 => ?_)
        obtain ⟨hj_39, hk_40k0, hk_40k1, hk_40k2⟩ := hj_39
        refine s_aload_n E dX10_layMusic_134 rfl rfl ?_
        refine s_dupR E dX10_layMusic_135 ?_
        refine s_gL E fg_X10_430 rfl rfl (jv_lt hj_39 (by decide)) dX10_layMusic_136 ?_
        refine z_anyL (fun z_41 => ?_)
        refine s_lload E dX10_layMusic_139 rfl ?_
        refine s_iload E dX10_layMusic_141 rfl ?_
        refine s_sI (As := [AI z_23]) (S := [AL q36_4_16, AL z_41, AR 95]) E (Z_X10_bits l D aC b v_38 z_23 hj_39.1 ) cs_X10_319 rfl rfl (Nat.le_of_ble_eq_true rfl) (Nat.le_of_ble_eq_true rfl) ⟨(Nat.le_of_ble_eq_true rfl), (Nat.le_of_ble_eq_true rfl)⟩ (Nat.le_of_ble_eq_true rfl) dX10_layMusic_143 (fun z_44 u_42 hp_43 => ?_)
        obtain ⟨hz_44, hp_43⟩ := hp_43
        subst hp_43
        refine z_i2l (u := z_44.toInt) E dX10_layMusic_146 rfl (fun z_46 hz_46 => ?_)
        refine s_lmul E dX10_layMusic_147 ?_
        refine z_anyL (fun z_47 => ?_)
        refine s_ladd E dX10_layMusic_148 ?_
        refine z_anyL (fun z_48 => ?_)
        refine s_pL E fp_X10_430 rfl rfl (jv_lt hj_39 (by decide)) dX10_layMusic_149 ?_
        refine s_gen (P := fun v => Jv w v ∧ (v.2.2.2 95 33).toInt = (v_38.2.2.2 95 33).toInt ∧ (v.2.2.1 95 24).toInt = (v_38.2.2.1 95 24).toInt ∧ (v.2.2.1 96 3).toInt = (v_38.2.2.1 96 3).toInt) ⟨(jv_L hj_39 (by decide)), rfl, rfl, rfl⟩ (fun v_49 hj_50 => ?_)
        obtain ⟨hj_50, hk_51k0, hk_51k1, hk_51k2⟩ := hj_50
        refine s_aload_n E dX10_layMusic_152 rfl rfl ?_
        refine s_dupR E dX10_layMusic_153 ?_
        refine s_gI E fg_X10_270 rfl rfl (jv_lt hj_50 (by decide)) dX10_layMusic_154 ?_
        refine z_nm (P := fun z => z.toInt = (v_49.2.2.1 95 24).toInt ∧ (-2147483648) ≤ z.toInt ∧ z.toInt ≤ 2147483647) ⟨rfl, z32 _⟩ (fun z_52 hz_52 => ?_)
        have hgz_52 : 0 ≤ z_52.toInt ∧ z_52.toInt ≤ 511 := by omega
        refine s_iconst (v := 1) E dX10_layMusic_157 (by decide) ?_
        refine z_iadd (u := z_52.toInt) (v := 1) E dX10_layMusic_158 rfl (by decide) (by omega) (by omega) (fun z_53 hz_53 => ?_)
        refine s_pI E fp_X10_270 (Or.inl rfl) rfl (jv_lt hj_50 (by decide)) dX10_layMusic_159 ?_
        refine s_gen (P := fun v => Jv w v ∧ (v.2.2.2 95 33).toInt = (v_49.2.2.2 95 33).toInt ∧ (v.2.2.1 95 24).toInt = z_53.toInt ∧ (v.2.2.1 96 3).toInt = (v_49.2.2.1 96 3).toInt) ⟨(jv_f_95_24 hj_50 (by have hb_ := z32 z_53; omega) (by have hb_ := z32 z_53; omega)), rfl, rfl, rfl⟩ (fun v_54 hj_55 => ?_)
        obtain ⟨hj_55, hk_56k0, hk_56k1, hk_56k2⟩ := hj_55
        refine s_goto (tgt := 20) E dX10_layMusic_162 (by decide) ?_
        refine s_drop (i := 4) (L2 := [some (AR 95), some (AI x1), some (AI x2), some (AI x3), none, none, some (AI z_23)]) rfl ?_
        refine s_drop (i := 6) (L2 := [some (AR 95), some (AI x1), some (AI x2), some (AI x3), none, none, none]) rfl ?_
        exact ih20 () v_54 ⟨(by omega), hj_55⟩ (by first | omega | decide | (dsimp only; omega) | (dsimp only; decide))
      ·
        refine s_goto (tgt := 152) E dX10_layMusic_93 (by decide) ?_
        refine s_aload_n E dX10_layMusic_152 rfl rfl ?_
        refine s_dupR E dX10_layMusic_153 ?_
        refine s_gI E fg_X10_270 rfl rfl (jv_lt hj_13 (by decide)) dX10_layMusic_154 ?_
        refine z_nm (P := fun z => z.toInt = (v20.2.2.1 95 24).toInt ∧ (-2147483648) ≤ z.toInt ∧ z.toInt ≤ 2147483647) ⟨rfl, z32 _⟩ (fun z_57 hz_57 => ?_)
        have hgz_57 : 0 ≤ z_57.toInt ∧ z_57.toInt ≤ 511 := by omega
        refine s_iconst (v := 1) E dX10_layMusic_157 (by decide) ?_
        refine z_iadd (u := z_57.toInt) (v := 1) E dX10_layMusic_158 rfl (by decide) (by omega) (by omega) (fun z_58 hz_58 => ?_)
        refine s_pI E fp_X10_270 (Or.inl rfl) rfl (jv_lt hj_13 (by decide)) dX10_layMusic_159 ?_
        refine s_gen (P := fun v => Jv w v ∧ (v.2.2.2 95 33).toInt = (v20.2.2.2 95 33).toInt ∧ (v.2.2.1 95 24).toInt = z_58.toInt ∧ (v.2.2.1 96 3).toInt = (v20.2.2.1 96 3).toInt) ⟨(jv_f_95_24 hj_13 (by have hb_ := z32 z_58; omega) (by have hb_ := z32 z_58; omega)), rfl, rfl, rfl⟩ (fun v_59 hj_60 => ?_)
        obtain ⟨hj_60, hk_61k0, hk_61k1, hk_61k2⟩ := hj_60
        refine s_goto (tgt := 20) E dX10_layMusic_162 (by decide) ?_
        refine s_drop (i := 4) (L2 := [some (AR 95), some (AI x1), some (AI x2), some (AI x3), none, none, some (AI q36_6_16)]) rfl ?_
        refine s_drop (i := 6) (L2 := [some (AR 95), some (AI x1), some (AI x2), some (AI x3), none, none, none]) rfl ?_
        exact ih20 () v_59 ⟨(by omega), hj_60⟩ (by first | omega | decide | (dsimp only; omega) | (dsimp only; decide))
    ·
      refine s_lload E dX10_layMusic_42 rfl ?_
      refine s_aload_n E dX10_layMusic_44 rfl rfl ?_
      refine s_gI E fg_X10_270 rfl rfl (jv_lt hj_13 (by decide)) dX10_layMusic_45 ?_
      refine z_nm (P := fun z => z.toInt = (v20.2.2.1 95 24).toInt ∧ (-2147483648) ≤ z.toInt ∧ z.toInt ≤ 2147483647) ⟨rfl, z32 _⟩ (fun z_62 hz_62 => ?_)
      refine s_iload E dX10_layMusic_48 rfl ?_
      refine s_sI (As := [AI z_62, AI q36_6_16]) (S := [AL q36_4_16]) E (Z_X10_bit l D aC b v20 z_62 q36_6_16 hj_13.1 ) cs_X10_252 rfl rfl (Nat.le_of_ble_eq_true rfl) (Nat.le_of_ble_eq_true rfl) ⟨(Nat.le_of_ble_eq_true rfl), (Nat.le_of_ble_eq_true rfl)⟩ (Nat.le_of_ble_eq_true rfl) dX10_layMusic_50 (fun z_65 u_63 hp_64 => ?_)
      obtain ⟨hz_65, hxz_65, hp_64⟩ := hp_64
      subst hp_64
      have hb50 := hxz_65 (by omega) (by omega)
      refine s_iconst (v := 1) E dX10_layMusic_53 (by decide) ?_
      refine z_icmp_ne (tgt := 67) (u := z_65.toInt) (v := 1) E dX10_layMusic_54 (by decide) rfl (by decide) (fun h_67 => ?_) (fun h_67 => ?_)
      ·
        refine s_bipush (v := 10) E dX10_layMusic_67 (by decide) ?_
        refine s_aload_n E dX10_layMusic_69 rfl rfl ?_
        refine s_gR (r := 96) E fg_X10_9 rfl rfl (jv_lt hj_13 (by decide)) (jv_r hj_13 (by decide +kernel)) dX10_layMusic_70 ?_
        refine s_iconst (v := 3) E dX10_layMusic_73 (by decide) ?_
        refine s_iald E rfl (jv_lt hj_13 (by decide)) (z_in (u := 3) (by decide) (by omega) (by omega)) dX10_layMusic_74 ?_
        refine z_nm (P := fun z => z.toInt = (v20.2.2.1 96 3).toInt ∧ 0 ≤ z.toInt ∧ z.toInt ≤ 10) ⟨rfl, (rw_96_3 hj_13)⟩ (fun z_68 hz_68 => ?_)
        refine z_isub (u := 10) (v := z_68.toInt) E dX10_layMusic_75 (by decide) rfl (by omega) (by omega) (fun z_69 hz_69 => ?_)
        refine z_i2l (u := z_69.toInt) E dX10_layMusic_76 rfl (fun z_70 hz_70 => ?_)
        obtain ⟨m1_, m2_, m3_⟩ := y_mul (a := q36_4_16.toInt) (f := z_70.toInt) (n := q36_6_16.toInt.toNat) hl36.1 hl36.2.1 (by omega) (by omega)
        have m4_ := y_p_le (q36_6_16.toInt.toNat + 1) (by omega)
        have n1_ : (v20.2.2.1 95 24).toInt = 0 → (v20.2.2.1 96 3).toInt ≤ 9 → 1 ≤ z_70.toInt := by first | (intro _ _; omega) | (intro h_ _; exfalso; exact y_b0 (by omega) (hb50.mp (by omega)))
        have n2_ : (v20.2.2.1 96 3).toInt = 10 → (v20.2.2.1 95 24).toInt = T_ - 1 → 1 ≤ z_70.toInt := by first | (intro _ _; omega) | (intro _ h_; exfalso; exact absurd (hb50.mpr (hT3_ _ (by omega) _ (by omega))) (by omega))
        refine z_lmul (u := q36_4_16.toInt) (v := z_70.toInt) E dX10_layMusic_77 rfl rfl (by omega) (by omega) (fun z_71 hz_71 => ?_)
        refine s_lstore (L2 := [some (AR 95), some (AI x1), some (AI x2), some (AI x3), some (AL z_71), none, some (AI q36_6_16)]) E dX10_layMusic_78 (by decide) rfl ?_
        refine z_iinc (u := q36_6_16.toInt) (L2 := fun z_72 => [some (AR 95), some (AI x1), some (AI x2), some (AI x3), some (AL z_71), none, some (AI z_72)]) E dX10_layMusic_80 rfl rfl (by decide) (fun _ => rfl) (by decide) (by omega) (by omega) (fun z_72 hz_72 => ?_)
        refine s_goto (tgt := 36) E dX10_layMusic_83 (by decide) ?_
        exact ih36 ⟨z_71, z_72⟩ v20 ⟨⟨by have hb_ := z32 z_72; omega, by have hb_ := z32 z_72; omega⟩, (⟨by omega, y_pC m2_ (by omega) (by omega), fun h1_ h2_ => by have := n1_ h1_ h2_; have := hl36.2.2.1 h1_ h2_; omega, fun h1_ h2_ => by have := n2_ h1_ h2_; have := hl36.2.2.2 h1_ h2_; omega⟩), rfl⟩ (by first | omega | decide | (dsimp only; omega) | (dsimp only; decide))
      ·
        refine s_aload_n E dX10_layMusic_57 rfl rfl ?_
        refine s_gR (r := 96) E fg_X10_9 rfl rfl (jv_lt hj_13 (by decide)) (jv_r hj_13 (by decide +kernel)) dX10_layMusic_58 ?_
        refine s_iconst (v := 3) E dX10_layMusic_61 (by decide) ?_
        refine s_iald E rfl (jv_lt hj_13 (by decide)) (z_in (u := 3) (by decide) (by omega) (by omega)) dX10_layMusic_62 ?_
        refine z_nm (P := fun z => z.toInt = (v20.2.2.1 96 3).toInt ∧ 0 ≤ z.toInt ∧ z.toInt ≤ 10) ⟨rfl, (rw_96_3 hj_13)⟩ (fun z_73 hz_73 => ?_)
        refine z_i2l (u := z_73.toInt) E dX10_layMusic_63 rfl (fun z_74 hz_74 => ?_)
        refine s_goto (tgt := 77) E dX10_layMusic_64 (by decide) ?_
        obtain ⟨m1_, m2_, m3_⟩ := y_mul (a := q36_4_16.toInt) (f := z_74.toInt) (n := q36_6_16.toInt.toNat) hl36.1 hl36.2.1 (by omega) (by omega)
        have m4_ := y_p_le (q36_6_16.toInt.toNat + 1) (by omega)
        have n1_ : (v20.2.2.1 95 24).toInt = 0 → (v20.2.2.1 96 3).toInt ≤ 9 → 1 ≤ z_74.toInt := by first | (intro _ _; omega) | (intro h_ _; exfalso; exact y_b0 (by omega) (hb50.mp (by omega)))
        have n2_ : (v20.2.2.1 96 3).toInt = 10 → (v20.2.2.1 95 24).toInt = T_ - 1 → 1 ≤ z_74.toInt := by first | (intro _ _; omega) | (intro _ h_; exfalso; exact absurd (hb50.mpr (hT3_ _ (by omega) _ (by omega))) (by omega))
        refine z_lmul (u := q36_4_16.toInt) (v := z_74.toInt) E dX10_layMusic_77 rfl rfl (by omega) (by omega) (fun z_75 hz_75 => ?_)
        refine s_lstore (L2 := [some (AR 95), some (AI x1), some (AI x2), some (AI x3), some (AL z_75), none, some (AI q36_6_16)]) E dX10_layMusic_78 (by decide) rfl ?_
        refine z_iinc (u := q36_6_16.toInt) (L2 := fun z_76 => [some (AR 95), some (AI x1), some (AI x2), some (AI x3), some (AL z_75), none, some (AI z_76)]) E dX10_layMusic_80 rfl rfl (by decide) (fun _ => rfl) (by decide) (by omega) (by omega) (fun z_76 hz_76 => ?_)
        refine s_goto (tgt := 36) E dX10_layMusic_83 (by decide) ?_
        exact ih36 ⟨z_75, z_76⟩ v20 ⟨⟨by have hb_ := z32 z_76; omega, by have hb_ := z32 z_76; omega⟩, (⟨by omega, y_pC m2_ (by omega) (by omega), fun h1_ h2_ => by have := n1_ h1_ h2_; have := hl36.2.2.1 h1_ h2_; omega, fun h1_ h2_ => by have := n2_ h1_ h2_; have := hl36.2.2.2 h1_ h2_; omega⟩), rfl⟩ (by first | omega | decide | (dsimp only; omega) | (dsimp only; decide))
set_option maxRecDepth 20000 in
set_option maxHeartbeats 2000000 in
theorem Z_X10_chance_95 (l : Launch) (D : va_G) (aC : Nat → ClassId) (b : Nat) (w : XW) (x1 : Int32) (x2 : Int32) (x3 : Int32) (x4 : Int32) (hI : Iv w)  : CnL l D aC b M_X10_chance 6 136 0 0 [AR 95, AI x1, AI x2, AI x3, AI x4] w (fun r u => ((-9223372036854775808) ≤ r.toInt ∧ r.toInt ≤ 9223372036854775807) ∧ Jv w u) := by
  refine cn_L (own := RX10) (nm := "chance") (L0 := [some (AR 95), some (AI x1), some (AI x2), some (AI x3), some (AI x4)]) (by decide +kernel) rfl rfl (Nat.le_of_ble_eq_true rfl) rfl ?_
  intro p e s m args below meth c E hin
  have hJ : Jv w w := jv_rfl hI
  have hb_x1 := z32 x1
  have hb_x2 := z32 x2
  have hb_x3 := z32 x3
  have hb_x4 := z32 x4
  refine s_aload_n E dX10_chance_0 rfl rfl ?_
  refine s_iload_n E dX10_chance_1 rfl rfl ?_
  refine s_iload_n E dX10_chance_2 rfl rfl ?_
  refine s_iload E dX10_chance_3 rfl ?_
  refine s_vI (As := [AI x1, AI x3, AI x4]) (S := []) E (Z_X10_asksMusic_95 l D aC b w x1 x3 x4 hJ.1 ) cv_X10_435 rfl rfl rfl (jv_lt hJ (by decide)) (Nat.le_of_ble_eq_true rfl) (Nat.le_of_ble_eq_true rfl) ⟨(Nat.le_of_ble_eq_true rfl), (Nat.le_of_ble_eq_true rfl)⟩ (Nat.le_of_ble_eq_true rfl) dX10_chance_5 (fun z_3 u_1 hp_2 => ?_)
  obtain ⟨hz_3, hp_2⟩ := hp_2
  have hj_4 := jv_trans hJ hp_2
  refine z_if_eq (tgt := 20) (u := z_3.toInt) E dX10_chance_8 (by decide) rfl (fun h_5 => ?_) (fun h_5 => ?_)
  ·
    refine s_ldc2 E k_1919 rfl dX10_chance_20 ?_
    exact r_long E dX10_chance_23 ⟨(by decide), hj_4⟩
  ·
    refine s_aload_n E dX10_chance_11 rfl rfl ?_
    refine s_iload_n E dX10_chance_12 rfl rfl ?_
    refine z_i2l (u := x2.toInt) E dX10_chance_13 rfl (fun z_6 hz_6 => ?_)
    refine s_vI (As := [AL z_6]) (S := []) E (Z_X10_isLady_95 l D aC b u_1 z_6 hj_4.1 ) cv_X10_222 rfl rfl rfl (jv_lt hj_4 (by decide)) (Nat.le_of_ble_eq_true rfl) (Nat.le_of_ble_eq_true rfl) ⟨(Nat.le_of_ble_eq_true rfl), (Nat.le_of_ble_eq_true rfl)⟩ (Nat.le_of_ble_eq_true rfl) dX10_chance_14 (fun z_9 u_7 hp_8 => ?_)
    obtain ⟨hz_9, hp_8⟩ := hp_8
    subst hp_8
    refine z_if_ne (tgt := 24) (u := z_9.toInt) E dX10_chance_17 (by decide) rfl (fun h_11 => ?_) (fun h_11 => ?_)
    ·
      refine s_aload_n E dX10_chance_24 rfl rfl ?_
      refine s_iload_n E dX10_chance_25 rfl rfl ?_
      refine s_iload_n E dX10_chance_26 rfl rfl ?_
      refine s_iload_n E dX10_chance_27 rfl rfl ?_
      refine s_vV (As := [AI x1, AI x2, AI x3]) (S := []) E (Z_X10_layMusic_95 l D aC b u_1 x1 x2 x3 hj_4.1 ⟨by have hb_ := z32 x1; omega, by have hb_ := z32 x1; omega⟩ ⟨by have hb_ := z32 x3; omega, by have hb_ := z32 x3; omega⟩) cv_X10_440 rfl rfl rfl (jv_lt hj_4 (by decide)) (Nat.le_of_ble_eq_true rfl) (Nat.le_of_ble_eq_true rfl) ⟨(Nat.le_of_ble_eq_true rfl), (Nat.le_of_ble_eq_true rfl)⟩ (Nat.le_of_ble_eq_true rfl) dX10_chance_28 (fun u_12 hp_13 => ?_)
      obtain ⟨hx_hp_13, hp_13⟩ := hp_13
      have hj_14 := jv_trans hj_4 hp_13
      refine s_aload_n E dX10_chance_31 rfl rfl ?_
      refine s_gL E fg_X10_427 rfl rfl (jv_lt hj_14 (by decide)) dX10_chance_32 ?_
      refine z_anyL (fun z_15 => ?_)
      refine s_aload_n E dX10_chance_35 rfl rfl ?_
      refine s_gL E fg_X10_423 rfl rfl (jv_lt hj_14 (by decide)) dX10_chance_36 ?_
      refine z_nmL (P := fun z => z.toInt = (u_12.2.2.2 95 33).toInt) rfl (fun z_16 hz_16 => ?_)
      refine s_iload E dX10_chance_39 rfl ?_
      refine s_sL (As := [AL z_15, AL z_16, AI x4]) (S := []) E (Z_X10_lowest l D aC b u_12 z_15 z_16 x4 hj_14.1  (by omega)) cs_X10_409 rfl rfl (Nat.le_of_ble_eq_true rfl) (Nat.le_of_ble_eq_true rfl) ⟨(Nat.le_of_ble_eq_true rfl), (Nat.le_of_ble_eq_true rfl)⟩ (Nat.le_of_ble_eq_true rfl) dX10_chance_41 (fun z_19 u_17 hp_18 => ?_)
      obtain ⟨hz_19, hp_18⟩ := hp_18
      subst hp_18
      exact r_long E dX10_chance_44 ⟨⟨by have hb_ := z64 z_19; omega, by have hb_ := z64 z_19; omega⟩, hj_14⟩
    ·
      refine s_ldc2 E k_1919 rfl dX10_chance_20 ?_
      exact r_long E dX10_chance_23 ⟨(by decide), hj_4⟩
set_option maxRecDepth 20000 in
set_option maxHeartbeats 2000000 in
theorem Z_X10_mean_95 (l : Launch) (D : va_G) (aC : Nat → ClassId) (b : Nat) (w : XW) (x1 : Int32) (x2 : Int32) (x3 : Int32) (hI : Iv w)  : CnL l D aC b M_X10_mean 6 136 0 0 [AR 95, AI x1, AI x2, AI x3] w (fun r u => ((-9223372036854775808) ≤ r.toInt ∧ r.toInt ≤ 9223372036854775807) ∧ Jv w u) := by
  refine cn_L (own := RX10) (nm := "mean") (L0 := [some (AR 95), some (AI x1), some (AI x2), some (AI x3)]) (by decide +kernel) rfl rfl (Nat.le_of_ble_eq_true rfl) rfl ?_
  intro p e s m args below meth c E hin
  have hJ : Jv w w := jv_rfl hI
  have hb_x1 := z32 x1
  have hb_x2 := z32 x2
  have hb_x3 := z32 x3
  refine s_aload_n E dX10_mean_0 rfl rfl ?_
  refine s_iload_n E dX10_mean_1 rfl rfl ?_
  refine s_iload_n E dX10_mean_2 rfl rfl ?_
  refine s_iload_n E dX10_mean_3 rfl rfl ?_
  refine s_vI (As := [AI x1, AI x2, AI x3]) (S := []) E (Z_X10_asksMusic_95 l D aC b w x1 x2 x3 hJ.1 ) cv_X10_435 rfl rfl rfl (jv_lt hJ (by decide)) (Nat.le_of_ble_eq_true rfl) (Nat.le_of_ble_eq_true rfl) ⟨(Nat.le_of_ble_eq_true rfl), (Nat.le_of_ble_eq_true rfl)⟩ (Nat.le_of_ble_eq_true rfl) dX10_mean_4 (fun z_3 u_1 hp_2 => ?_)
  obtain ⟨hz_3, hp_2⟩ := hp_2
  have hj_4 := jv_trans hJ hp_2
  refine z_if_ne (tgt := 14) (u := z_3.toInt) E dX10_mean_7 (by decide) rfl (fun h_5 => ?_) (fun h_5 => ?_)
  ·
    refine s_aload_n E dX10_mean_14 rfl rfl ?_
    refine s_iload_n E dX10_mean_15 rfl rfl ?_
    refine s_iload_n E dX10_mean_16 rfl rfl ?_
    refine s_iload_n E dX10_mean_17 rfl rfl ?_
    refine s_vV (As := [AI x1, AI x1, AI x2]) (S := []) E (Z_X10_layMusic_95 l D aC b u_1 x1 x1 x2 hj_4.1 ⟨by have hb_ := z32 x1; omega, by have hb_ := z32 x1; omega⟩ ⟨by have hb_ := z32 x2; omega, by have hb_ := z32 x2; omega⟩) cv_X10_440 rfl rfl rfl (jv_lt hj_4 (by decide)) (Nat.le_of_ble_eq_true rfl) (Nat.le_of_ble_eq_true rfl) ⟨(Nat.le_of_ble_eq_true rfl), (Nat.le_of_ble_eq_true rfl)⟩ (Nat.le_of_ble_eq_true rfl) dX10_mean_18 (fun u_6 hp_7 => ?_)
    obtain ⟨hx_hp_7, hp_7⟩ := hp_7
    have hj_8 := jv_trans hj_4 hp_7
    refine s_aload_n E dX10_mean_21 rfl rfl ?_
    refine s_gL E fg_X10_430 rfl rfl (jv_lt hj_8 (by decide)) dX10_mean_22 ?_
    refine z_anyL (fun z_9 => ?_)
    refine s_aload_n E dX10_mean_25 rfl rfl ?_
    refine s_gL E fg_X10_423 rfl rfl (jv_lt hj_8 (by decide)) dX10_mean_26 ?_
    refine z_nmL (P := fun z => z.toInt = (u_6.2.2.2 95 33).toInt) rfl (fun z_10 hz_10 => ?_)
    refine s_iload_n E dX10_mean_29 rfl rfl ?_
    refine s_sL (As := [AL z_9, AL z_10, AI x3]) (S := []) E (Z_X10_lowest l D aC b u_6 z_9 z_10 x3 hj_8.1  (by omega)) cs_X10_409 rfl rfl (Nat.le_of_ble_eq_true rfl) (Nat.le_of_ble_eq_true rfl) ⟨(Nat.le_of_ble_eq_true rfl), (Nat.le_of_ble_eq_true rfl)⟩ (Nat.le_of_ble_eq_true rfl) dX10_mean_30 (fun z_13 u_11 hp_12 => ?_)
    obtain ⟨hz_13, hp_12⟩ := hp_12
    subst hp_12
    exact r_long E dX10_mean_33 ⟨⟨by have hb_ := z64 z_13; omega, by have hb_ := z64 z_13; omega⟩, hj_8⟩
  ·
    refine s_ldc2 E k_1919 rfl dX10_mean_10 ?_
    exact r_long E dX10_mean_13 ⟨(by decide), hj_4⟩
set_option maxRecDepth 20000 in
set_option maxHeartbeats 2000000 in
theorem Z_X10_keepAct_95 (l : Launch) (D : va_G) (aC : Nat → ClassId) (b : Nat) (w : XW) (x1 : Int32) (hI : Iv w) (hx1 : 0 ≤ x1.toInt ∧ x1.toInt ≤ 100075) : CnI l D aC b M_X10_keepAct 0 0 0 0 [AR 95, AI x1] w (fun r u => ((-5) ≤ r.toInt ∧ r.toInt ≤ 0 ∧ (¬ r.toInt = 0 ∨ (0 ≤ (w.2.2.1 96 8).toInt ∧ (w.2.2.1 96 8).toInt ≤ 29)) ∧ (r.toInt = 0 ∨ (30 ≤ (w.2.2.1 96 8).toInt ∧ (w.2.2.1 96 8).toInt ≤ 30))) ∧ Jv w u) := by
  refine cn_I (own := RX10) (nm := "keepAct") (L0 := [some (AR 95), some (AI x1)]) (by decide +kernel) rfl rfl (Nat.le_of_ble_eq_true rfl) rfl ?_
  intro p e s m args below meth c E hin
  have hJ : Jv w w := jv_rfl hI
  refine s_aload_n E dX10_keepAct_0 rfl rfl ?_
  refine s_gR (r := 96) E fg_X10_9 rfl rfl (jv_lt hJ (by decide)) (jv_r hJ (by decide +kernel)) dX10_keepAct_1 ?_
  refine s_bipush (v := 8) E dX10_keepAct_4 (by decide) ?_
  refine s_iald E rfl (jv_lt hJ (by decide)) (z_in (u := 8) (by decide) (by omega) (by omega)) dX10_keepAct_6 ?_
  refine z_nm (P := fun z => z.toInt = (w.2.2.1 96 8).toInt ∧ 0 ≤ z.toInt ∧ z.toInt ≤ 30) ⟨rfl, (rw_96_8 hJ)⟩ (fun z_1 hz_1 => ?_)
  refine s_bipush (v := 30) E dX10_keepAct_7 (by decide) ?_
  refine z_icmp_ne (tgt := 15) (u := z_1.toInt) (v := 30) E dX10_keepAct_9 (by decide) rfl (by decide) (fun h_2 => ?_) (fun h_2 => ?_)
  ·
    refine s_aload_n E dX10_keepAct_15 rfl rfl ?_
    refine s_gR (r := 96) E fg_X10_9 rfl rfl (jv_lt hJ (by decide)) (jv_r hJ (by decide +kernel)) dX10_keepAct_16 ?_
    refine s_bipush (v := 104) E dX10_keepAct_19 (by decide) ?_
    refine s_aload_n E dX10_keepAct_21 rfl rfl ?_
    refine s_gR (r := 96) E fg_X10_9 rfl rfl (jv_lt hJ (by decide)) (jv_r hJ (by decide +kernel)) dX10_keepAct_22 ?_
    refine s_bipush (v := 8) E dX10_keepAct_25 (by decide) ?_
    refine s_iald E rfl (jv_lt hJ (by decide)) (z_in (u := 8) (by decide) (by omega) (by omega)) dX10_keepAct_27 ?_
    refine z_nm (P := fun z => z.toInt = (w.2.2.1 96 8).toInt ∧ 0 ≤ z.toInt ∧ z.toInt ≤ 30) ⟨rfl, (rw_96_8 hJ)⟩ (fun z_3 hz_3 => ?_)
    refine z_iadd (u := 104) (v := z_3.toInt) E dX10_keepAct_28 (by decide) rfl (by omega) (by omega) (fun z_4 hz_4 => ?_)
    refine s_iload_n E dX10_keepAct_29 rfl rfl ?_
    refine s_iast E rfl (jv_lt hJ (by decide)) (z_in (u := z_4.toInt) rfl (by omega) (by omega)) dX10_keepAct_30 ?_
    refine s_gen (P := fun v => Jv w v ∧ (v.2.2.1 96 8).toInt = (w.2.2.1 96 8).toInt) ⟨(jv_a_96 (i := z_4) (x := x1) hJ 0 100075 104 133 1 z_4.toInt (by decide +kernel) (by decide) rfl (by omega) (by omega) (by omega) (by have hb_ := z32 x1; omega) (by have hb_ := z32 x1; omega) (fun h0_ => by unfold okA; omega)), (keep_ne (u := z_4.toInt) rfl (by omega) (by omega))⟩ (fun v_5 hj_6 => ?_)
    obtain ⟨hj_6, hk_7k0⟩ := hj_6
    refine s_aload_n E dX10_keepAct_31 rfl rfl ?_
    refine s_gR (r := 96) E fg_X10_9 rfl rfl (jv_lt hj_6 (by decide)) (jv_r hj_6 (by decide +kernel)) dX10_keepAct_32 ?_
    refine s_bipush (v := 8) E dX10_keepAct_35 (by decide) ?_
    refine s_dup2 E dX10_keepAct_37 ?_
    refine s_iald E rfl (jv_lt hj_6 (by decide)) (z_in (u := 8) (by decide) (by omega) (by omega)) dX10_keepAct_38 ?_
    refine z_nm (P := fun z => z.toInt = (v_5.2.2.1 96 8).toInt ∧ 0 ≤ z.toInt ∧ z.toInt ≤ 30) ⟨rfl, (rw_96_8 hj_6)⟩ (fun z_8 hz_8 => ?_)
    refine s_iconst (v := 1) E dX10_keepAct_39 (by decide) ?_
    refine z_iadd (u := z_8.toInt) (v := 1) E dX10_keepAct_40 rfl (by decide) (by omega) (by omega) (fun z_9 hz_9 => ?_)
    refine s_iast E rfl (jv_lt hj_6 (by decide)) (z_in (u := 8) (by decide) (by omega) (by omega)) dX10_keepAct_41 ?_
    refine s_gen (P := Jv w) (jv_a_96 (i := 8) (x := z_9) hj_6 0 30 8 8 1 8 (by decide +kernel) (by decide) (by decide) (by omega) (by omega) (by omega) (by have hb_ := z32 z_9; omega) (by have hb_ := z32 z_9; omega) (fun h0_ => by unfold okA; omega)) (fun v_10 hj_11 => ?_)
    refine s_iconst (v := 0) E dX10_keepAct_42 (by decide) ?_
    exact r_int E dX10_keepAct_43 ⟨⟨by decide, by decide, by first | (left; decide) | (right; decide) | (right; have hb_ := z32 (w.2.2.1 96 8); omega), by first | (left; decide) | (right; decide) | (right; have hb_ := z32 (w.2.2.1 96 8); omega)⟩, hj_11⟩
  ·
    refine s_bipush (v := (-5)) E dX10_keepAct_12 (by decide) ?_
    exact r_int E dX10_keepAct_14 ⟨⟨by decide, by decide, by first | (left; decide) | (right; decide) | (right; have hb_ := z32 (w.2.2.1 96 8); omega), by first | (left; decide) | (right; decide) | (right; have hb_ := z32 (w.2.2.1 96 8); omega)⟩, hJ⟩
