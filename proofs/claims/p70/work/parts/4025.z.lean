set_option maxRecDepth 20000 in
set_option maxHeartbeats 2000000 in
theorem Z_X10_layFirsts_95 (l : Launch) (D : va_G) (aC : Nat → ClassId) (b : Nat) (w : XW) (x1 : Int32) (hI : Iv w)  : CnI l D aC b M_X10_layFirsts 5 117 0 0 [AR 95, AI x1] w (fun r u => ((-2147483648) ≤ r.toInt ∧ r.toInt ≤ 2147483647 ∧ (¬ r.toInt = 0 ∨ (0 ≤ x1.toInt ∧ x1.toInt ≤ 3)) ∧ (¬ r.toInt = 0 ∨ (1 ≤ (w.2.2.1 96 9).toInt ∧ (w.2.2.1 96 9).toInt ≤ 2147483647))) ∧ Jv w u) := by
  refine cn_I (own := RX10) (nm := "layFirsts") (L0 := [some (AR 95), some (AI x1), none, none, none, none]) (by decide +kernel) rfl rfl (Nat.le_of_ble_eq_true rfl) rfl ?_
  intro p e s m args below meth c E hin
  have hJ : Jv w w := jv_rfl hI
  have hb_x1 := z32 x1
  refine s_iload_n E dX10_layFirsts_0 rfl rfl ?_
  refine s_sI (As := [AI x1]) (S := []) E (Z_X10_isSlot l D aC b w x1 hJ.1 ) cs_X10_375 rfl rfl (Nat.le_of_ble_eq_true rfl) (Nat.le_of_ble_eq_true rfl) ⟨(Nat.le_of_ble_eq_true rfl), (Nat.le_of_ble_eq_true rfl)⟩ (Nat.le_of_ble_eq_true rfl) dX10_layFirsts_1 (fun z_3 u_1 hp_2 => ?_)
  obtain ⟨hz_3, hxz_3, hp_2⟩ := hp_2
  subst hp_2
  refine z_if_eq (tgt := 14) (u := z_3.toInt) E dX10_layFirsts_4 (by decide) rfl (fun h_5 => ?_) (fun h_5 => ?_)
  ·
    refine s_bipush (v := (-2)) E dX10_layFirsts_14 (by decide) ?_
    exact r_int E dX10_layFirsts_16 ⟨⟨by decide, by decide, by first | (left; decide) | (right; decide) | (right; have hb_ := z32 x1; omega), by first | (left; decide) | (right; decide) | (right; have hb_ := z32 (w.2.2.1 96 9); omega)⟩, hJ⟩
  ·
    refine s_aload_n E dX10_layFirsts_7 rfl rfl ?_
    refine s_vI (As := []) (S := []) E (Z_X10_isBall_95 l D aC b w  hJ.1 ) cv_X10_86 rfl rfl rfl (jv_lt hJ (by decide)) (Nat.le_of_ble_eq_true rfl) (Nat.le_of_ble_eq_true rfl) ⟨(Nat.le_of_ble_eq_true rfl), (Nat.le_of_ble_eq_true rfl)⟩ (Nat.le_of_ble_eq_true rfl) dX10_layFirsts_8 (fun z_8 u_6 hp_7 => ?_)
    obtain ⟨hz_8, hp_7⟩ := hp_7
    subst hp_7
    refine z_if_ne (tgt := 17) (u := z_8.toInt) E dX10_layFirsts_11 (by decide) rfl (fun h_10 => ?_) (fun h_10 => ?_)
    ·
      refine s_aload_n E dX10_layFirsts_17 rfl rfl ?_
      refine s_gR (r := 112) E fg_X10_64 rfl rfl (jv_lt hJ (by decide)) (jv_r hJ (by decide +kernel)) dX10_layFirsts_18 ?_
      refine s_iload_n E dX10_layFirsts_21 rfl rfl ?_
      refine s_iald E rfl (jv_lt hJ (by decide)) (z_in (u := x1.toInt) rfl (by omega) (by omega)) dX10_layFirsts_22 ?_
      refine z_nm (P := fun z => z.toInt = (w.2.2.1 112 x1.toNatClampNeg).toInt ∧ (-1) ≤ z.toInt ∧ z.toInt ≤ 60) ⟨(jv_k hJ (by decide) _), (ra_112 hJ _)⟩ (fun z_11 hz_11 => ?_)
      refine s_iconst (v := (-1)) E dX10_layFirsts_23 (by decide) ?_
      refine z_icmp_ne (tgt := 30) (u := z_11.toInt) (v := (-1)) E dX10_layFirsts_24 (by decide) rfl (by decide) (fun h_12 => ?_) (fun h_12 => ?_)
      ·
        refine s_aload_n E dX10_layFirsts_30 rfl rfl ?_
        refine s_gR (r := 112) E fg_X10_64 rfl rfl (jv_lt hJ (by decide)) (jv_r hJ (by decide +kernel)) dX10_layFirsts_31 ?_
        refine s_iload_n E dX10_layFirsts_34 rfl rfl ?_
        refine s_iald E rfl (jv_lt hJ (by decide)) (z_in (u := x1.toInt) rfl (by omega) (by omega)) dX10_layFirsts_35 ?_
        refine z_nm (P := fun z => z.toInt = (w.2.2.1 112 x1.toNatClampNeg).toInt ∧ (-1) ≤ z.toInt ∧ z.toInt ≤ 60) ⟨(jv_k hJ (by decide) _), (ra_112 hJ _)⟩ (fun z_13 hz_13 => ?_)
        refine s_iconst (v := 3) E dX10_layFirsts_36 (by decide) ?_
        refine z_irem (u := z_13.toInt) (v := 3) E dX10_layFirsts_37 rfl (by decide) (by omega) (by omega) (fun z_14 hz_14 => ?_)
        refine z_if_eq (tgt := 44) (u := z_14.toInt) E dX10_layFirsts_38 (by decide) rfl (fun h_15 => ?_) (fun h_15 => ?_)
        ·
          refine s_iconst (v := 0) E dX10_layFirsts_44 (by decide) ?_
          refine s_istore_n (L2 := [some (AR 95), some (AI x1), some (AI 0), none, none, none]) E dX10_layFirsts_45 rfl (by decide) rfl ?_
          refine z_loop (St := Int32) (Pi := fun q46_2_15 v46 => (0 ≤ q46_2_15.toInt ∧ q46_2_15.toInt ≤ 60) ∧ (q46_2_15.toInt % 3 = 0 ∧ gdN (w.2.2.2 114) x1.toInt q46_2_15.toInt) ∧ w = v46) (Lf := fun q46_2_15 => [some (AR 95), some (AI x1), some (AI q46_2_15), none, none, none]) (fun q46_2_15 _ => (61 - q46_2_15.toInt).toNat) 0 ⟨⟨by decide, by decide⟩, (⟨by decide, by rw [show (0 : Int32).toInt = 0 by decide]; exact gdN_0⟩), rfl⟩ ?_
          rintro q46_2_15 v46 ⟨hq46_2, hl46, hv_⟩ ih46
          subst hv_
          refine s_loc (L2 := [some (AR 95), some (AI x1), some (AI q46_2_15), none, none, none]) rfl ?_
          refine s_iload_n E dX10_layFirsts_46 rfl rfl ?_
          refine s_aload_n E dX10_layFirsts_47 rfl rfl ?_
          refine s_gR (r := 112) E fg_X10_64 rfl rfl (jv_lt hJ (by decide)) (jv_r hJ (by decide +kernel)) dX10_layFirsts_48 ?_
          refine s_iload_n E dX10_layFirsts_51 rfl rfl ?_
          refine s_iald E rfl (jv_lt hJ (by decide)) (z_in (u := x1.toInt) rfl (by omega) (by omega)) dX10_layFirsts_52 ?_
          refine z_nm (P := fun z => z.toInt = (w.2.2.1 112 x1.toNatClampNeg).toInt ∧ (-1) ≤ z.toInt ∧ z.toInt ≤ 60) ⟨(jv_k hJ (by decide) _), (ra_112 hJ _)⟩ (fun z_17 hz_17 => ?_)
          refine z_icmp_ge (tgt := 74) (u := q46_2_15.toInt) (v := z_17.toInt) E dX10_layFirsts_53 (by decide) rfl rfl (fun h_18 => ?_) (fun h_18 => ?_)
          ·
            have hg_ : gdN (w.2.2.2 114) x1.toInt (w.2.2.1 112 x1.toNatClampNeg).toInt := gdN_le hl46.2 (by omega)
            refine s_aload_n E dX10_layFirsts_74 rfl rfl ?_
            refine s_vV (As := []) (S := []) E (Z_X10_asItIs_95 l D aC b w  hJ.1 ) cv_X10_279 rfl rfl rfl (jv_lt hJ (by decide)) (Nat.le_of_ble_eq_true rfl) (Nat.le_of_ble_eq_true rfl) ⟨(Nat.le_of_ble_eq_true rfl), (Nat.le_of_ble_eq_true rfl)⟩ (Nat.le_of_ble_eq_true rfl) dX10_layFirsts_75 (fun u_19 hp_20 => ?_)
            have hj_21 := jv_trans hJ hp_20
            refine s_iconst (v := 0) E dX10_layFirsts_78 (by decide) ?_
            refine s_istore_n (L2 := [some (AR 95), some (AI x1), some (AI 0), none, none, none]) E dX10_layFirsts_79 rfl (by decide) rfl ?_
            refine s_iconst (v := 0) E dX10_layFirsts_80 (by decide) ?_
            refine s_istore_n (L2 := [some (AR 95), some (AI x1), some (AI 0), some (AI 0), none, none]) E dX10_layFirsts_81 rfl (by decide) rfl ?_
            refine z_loop (St := Int32 × Int32) (Pi := fun ⟨q82_2_21, q82_3_21⟩ v82 => (0 ≤ q82_3_21.toInt ∧ q82_3_21.toInt ≤ 6) ∧ Jv w v82) (Lf := fun ⟨q82_2_21, q82_3_21⟩ => [some (AR 95), some (AI x1), some (AI q82_2_21), some (AI q82_3_21), none, none]) (fun ⟨q82_2_21, q82_3_21⟩ _ => (7 - q82_3_21.toInt).toNat) ⟨0, 0⟩ ⟨⟨by decide, by decide⟩, hj_21⟩ ?_
            rintro ⟨q82_2_21, q82_3_21⟩ v82 ⟨hq82_3, hj_22⟩ ih82
            have hbq82_2 := z32 q82_2_21
            refine s_loc (L2 := [some (AR 95), some (AI x1), some (AI q82_2_21), some (AI q82_3_21), none, none]) rfl ?_
            refine s_iload_n E dX10_layFirsts_82 rfl rfl ?_
            refine s_aload_n E dX10_layFirsts_83 rfl rfl ?_
            refine s_vI (As := []) (S := [AI q82_3_21]) E (Z_X10_ladies_95 l D aC b v82  hj_22.1 ) cv_X10_244 rfl rfl rfl (jv_lt hj_22 (by decide)) (Nat.le_of_ble_eq_true rfl) (Nat.le_of_ble_eq_true rfl) ⟨(Nat.le_of_ble_eq_true rfl), (Nat.le_of_ble_eq_true rfl)⟩ (Nat.le_of_ble_eq_true rfl) dX10_layFirsts_84 (fun z_25 u_23 hp_24 => ?_)
            obtain ⟨hz_25, hxz_25, hp_24⟩ := hp_24
            subst hp_24
            refine z_icmp_ge (tgt := 227) (u := q82_3_21.toInt) (v := z_25.toInt) E dX10_layFirsts_87 (by decide) rfl rfl (fun h_27 => ?_) (fun h_27 => ?_)
            ·
              refine s_iload_n E dX10_layFirsts_227 rfl rfl ?_
              exact r_int E dX10_layFirsts_228 ⟨⟨by have hb_ := z32 q82_2_21; omega, by have hb_ := z32 q82_2_21; omega, by first | (right; decide) | (have hb_ := z32 q82_2_21; omega) | (have hb_ := z32 q82_2_21; have hc_ := z32 x1; omega), by first | (right; decide) | (have hb_ := z32 q82_2_21; omega) | (have hb_ := z32 q82_2_21; have hc_ := z32 (w.2.2.1 96 9); omega)⟩, hj_22⟩
            ·
              refine s_aload_n E dX10_layFirsts_90 rfl rfl ?_
              refine s_iload_n E dX10_layFirsts_91 rfl rfl ?_
              refine s_vI (As := [AI q82_3_21]) (S := []) E (Z_X10_goNote__95 l D aC b v82 q82_3_21 hj_22.1 ⟨by have hb_ := z32 q82_3_21; omega, by have hb_ := z32 q82_3_21; omega⟩) cv_X10_338 rfl rfl rfl (jv_lt hj_22 (by decide)) (Nat.le_of_ble_eq_true rfl) (Nat.le_of_ble_eq_true rfl) ⟨(Nat.le_of_ble_eq_true rfl), (Nat.le_of_ble_eq_true rfl)⟩ (Nat.le_of_ble_eq_true rfl) dX10_layFirsts_92 (fun z_30 u_28 hp_29 => ?_)
              obtain ⟨hz_30, hxz_30, hf_u_28_96, hp_29⟩ := hp_29
              have hj_31 := jv_trans hj_22 hp_29
              refine s_popI E dX10_layFirsts_95 ?_
              refine s_iconst (v := 1) E dX10_layFirsts_96 (by decide) ?_
              refine s_istore (L2 := [some (AR 95), some (AI x1), some (AI q82_2_21), some (AI q82_3_21), some (AI 1), none]) E dX10_layFirsts_97 (by decide) rfl ?_
              refine s_iconst (v := 0) E dX10_layFirsts_99 (by decide) ?_
              refine s_istore (L2 := [some (AR 95), some (AI x1), some (AI q82_2_21), some (AI q82_3_21), some (AI 1), some (AI 0)]) E dX10_layFirsts_100 (by decide) rfl ?_
              refine z_loop (St := Int32 × Int32) (Pi := fun ⟨q102_4_31, q102_5_31⟩ v102 => (0 ≤ q102_4_31.toInt ∧ q102_4_31.toInt ≤ 1) ∧ (0 ≤ q102_5_31.toInt ∧ q102_5_31.toInt ≤ 60) ∧ (q102_5_31.toInt % 3 = 0) ∧ u_28 = v102) (Lf := fun ⟨q102_4_31, q102_5_31⟩ => [some (AR 95), some (AI x1), some (AI q82_2_21), some (AI q82_3_21), some (AI q102_4_31), some (AI q102_5_31)]) (fun ⟨q102_4_31, q102_5_31⟩ _ => (61 - q102_5_31.toInt).toNat) ⟨1, 0⟩ ⟨⟨by decide, by decide⟩, ⟨by decide, by decide⟩, (by decide), rfl⟩ ?_
              rintro ⟨q102_4_31, q102_5_31⟩ v102 ⟨hq102_4, hq102_5, hl102, hv_⟩ ih102
              subst hv_
              refine s_loc (L2 := [some (AR 95), some (AI x1), some (AI q82_2_21), some (AI q82_3_21), some (AI q102_4_31), some (AI q102_5_31)]) rfl ?_
              refine s_iload E dX10_layFirsts_102 rfl ?_
              refine s_aload_n E dX10_layFirsts_104 rfl rfl ?_
              refine s_gR (r := 112) E fg_X10_64 rfl rfl (jv_lt hj_31 (by decide)) (jv_r hj_31 (by decide +kernel)) dX10_layFirsts_105 ?_
              refine s_iload_n E dX10_layFirsts_108 rfl rfl ?_
              refine s_iald E rfl (jv_lt hj_31 (by decide)) (z_in (u := x1.toInt) rfl (by omega) (by omega)) dX10_layFirsts_109 ?_
              refine z_nm (P := fun z => z.toInt = (w.2.2.1 112 x1.toNatClampNeg).toInt ∧ (-1) ≤ z.toInt ∧ z.toInt ≤ 60) ⟨(jv_k hj_31 (by decide) _), (ra_112 hj_31 _)⟩ (fun z_33 hz_33 => ?_)
              refine z_icmp_ge (tgt := 171) (u := q102_5_31.toInt) (v := z_33.toInt) E dX10_layFirsts_110 (by decide) rfl rfl (fun h_34 => ?_) (fun h_34 => ?_)
              ·
                refine s_iconst (v := 0) E dX10_layFirsts_171 (by decide) ?_
                refine s_istore (L2 := [some (AR 95), some (AI x1), some (AI q82_2_21), some (AI q82_3_21), some (AI q102_4_31), some (AI 0)]) E dX10_layFirsts_172 (by decide) rfl ?_
                refine z_loop (St := Int32) (Pi := fun q174_5_34 v174 => (0 ≤ q174_5_34.toInt ∧ q174_5_34.toInt ≤ 6) ∧ Jv w v174) (Lf := fun q174_5_34 => [some (AR 95), some (AI x1), some (AI q82_2_21), some (AI q82_3_21), some (AI q102_4_31), some (AI q174_5_34)]) (fun q174_5_34 _ => (7 - q174_5_34.toInt).toNat) 0 ⟨⟨by decide, by decide⟩, hj_31⟩ ?_
                rintro q174_5_34 v174 ⟨hq174_5, hj_35⟩ ih174
                refine s_loc (L2 := [some (AR 95), some (AI x1), some (AI q82_2_21), some (AI q82_3_21), some (AI q102_4_31), some (AI q174_5_34)]) rfl ?_
                refine s_iload E dX10_layFirsts_174 rfl ?_
                refine s_bipush (v := 6) E dX10_layFirsts_176 (by decide) ?_
                refine z_icmp_ge (tgt := 206) (u := q174_5_34.toInt) (v := 6) E dX10_layFirsts_178 (by decide) rfl (by decide) (fun h_36 => ?_) (fun h_36 => ?_)
                ·
                  refine s_iload_n E dX10_layFirsts_206 rfl rfl ?_
                  refine s_iload E dX10_layFirsts_207 rfl ?_
                  refine z_if_eq (tgt := 218) (u := q102_4_31.toInt) E dX10_layFirsts_209 (by decide) rfl (fun h_37 => ?_) (fun h_37 => ?_)
                  ·
                    refine s_iconst (v := 0) E dX10_layFirsts_218 (by decide) ?_
                    refine s_ior E dX10_layFirsts_219 ?_
                    refine z_nm (P := fun z => (-2147483648) ≤ z.toInt ∧ z.toInt ≤ 2147483647) (z32 _) (fun z_38 hz_38 => ?_)
                    refine s_istore_n (L2 := [some (AR 95), some (AI x1), some (AI z_38), some (AI q82_3_21), some (AI q102_4_31), some (AI q174_5_34)]) E dX10_layFirsts_220 rfl (by decide) rfl ?_
                    refine z_iinc (u := q82_3_21.toInt) (L2 := fun z_39 => [some (AR 95), some (AI x1), some (AI z_38), some (AI z_39), some (AI q102_4_31), some (AI q174_5_34)]) E dX10_layFirsts_221 rfl rfl (by decide) (fun _ => rfl) (by decide) (by omega) (by omega) (fun z_39 hz_39 => ?_)
                    refine s_goto (tgt := 82) E dX10_layFirsts_224 (by decide) ?_
                    refine s_drop (i := 4) (L2 := [some (AR 95), some (AI x1), some (AI z_38), some (AI z_39), none, some (AI q174_5_34)]) rfl ?_
                    refine s_drop (i := 5) (L2 := [some (AR 95), some (AI x1), some (AI z_38), some (AI z_39), none, none]) rfl ?_
                    exact ih82 ⟨z_38, z_39⟩ v174 ⟨⟨by have hb_ := z32 z_39; omega, by have hb_ := z32 z_39; omega⟩, hj_35⟩ (by first | omega | decide | (dsimp only; omega) | (dsimp only; decide))
                  ·
                    refine s_iconst (v := 1) E dX10_layFirsts_212 (by decide) ?_
                    refine s_iload_n E dX10_layFirsts_213 rfl rfl ?_
                    refine z_shl1 5 (u := q82_3_21.toInt) (B := 32) E dX10_layFirsts_214 rfl (by omega) (by omega) (by decide) (by decide) (fun z_40 hz_40 => ?_)
                    refine s_goto (tgt := 219) E dX10_layFirsts_215 (by decide) ?_
                    refine s_ior E dX10_layFirsts_219 ?_
                    refine z_nm (P := fun z => (-2147483648) ≤ z.toInt ∧ z.toInt ≤ 2147483647) (z32 _) (fun z_41 hz_41 => ?_)
                    refine s_istore_n (L2 := [some (AR 95), some (AI x1), some (AI z_41), some (AI q82_3_21), some (AI q102_4_31), some (AI q174_5_34)]) E dX10_layFirsts_220 rfl (by decide) rfl ?_
                    refine z_iinc (u := q82_3_21.toInt) (L2 := fun z_42 => [some (AR 95), some (AI x1), some (AI z_41), some (AI z_42), some (AI q102_4_31), some (AI q174_5_34)]) E dX10_layFirsts_221 rfl rfl (by decide) (fun _ => rfl) (by decide) (by omega) (by omega) (fun z_42 hz_42 => ?_)
                    refine s_goto (tgt := 82) E dX10_layFirsts_224 (by decide) ?_
                    refine s_drop (i := 4) (L2 := [some (AR 95), some (AI x1), some (AI z_41), some (AI z_42), none, some (AI q174_5_34)]) rfl ?_
                    refine s_drop (i := 5) (L2 := [some (AR 95), some (AI x1), some (AI z_41), some (AI z_42), none, none]) rfl ?_
                    exact ih82 ⟨z_41, z_42⟩ v174 ⟨⟨by have hb_ := z32 z_42; omega, by have hb_ := z32 z_42; omega⟩, hj_35⟩ (by first | omega | decide | (dsimp only; omega) | (dsimp only; decide))
                ·
                  refine s_aload_n E dX10_layFirsts_181 rfl rfl ?_
                  refine s_gR (r := 111) E fg_X10_61 rfl rfl (jv_lt hj_35 (by decide)) (jv_r hj_35 (by decide +kernel)) dX10_layFirsts_182 ?_
                  refine s_bipush (v := 6) E dX10_layFirsts_185 (by decide) ?_
                  refine s_iload_n E dX10_layFirsts_187 rfl rfl ?_
                  refine z_imul (u := 6) (v := q82_3_21.toInt) E dX10_layFirsts_188 (by decide) rfl (by omega) (by omega) (fun z_43 hz_43 => ?_)
                  refine s_iload E dX10_layFirsts_189 rfl ?_
                  refine z_iadd (u := z_43.toInt) (v := q174_5_34.toInt) E dX10_layFirsts_191 rfl rfl (by omega) (by omega) (fun z_44 hz_44 => ?_)
                  refine s_aload_n E dX10_layFirsts_192 rfl rfl ?_
                  refine s_gR (r := 107) E fg_X10_49 rfl rfl (jv_lt hj_35 (by decide)) (jv_r hj_35 (by decide +kernel)) dX10_layFirsts_193 ?_
                  refine s_iload E dX10_layFirsts_196 rfl ?_
                  refine s_iald E rfl (jv_lt hj_35 (by decide)) (z_in (u := q174_5_34.toInt) rfl (by omega) (by omega)) dX10_layFirsts_198 ?_
                  refine z_nm (P := fun z => z.toInt = (v174.2.2.1 107 q174_5_34.toNatClampNeg).toInt ∧ (-1) ≤ z.toInt ∧ z.toInt ≤ 14) ⟨rfl, (ra_107 hj_35 _)⟩ (fun z_45 hz_45 => ?_)
                  refine s_iast E rfl (jv_lt hj_35 (by decide)) (z_in (u := z_44.toInt) rfl (by omega) (by omega)) dX10_layFirsts_199 ?_
                  refine s_gen (P := Jv w) (jv_a_111 hj_35 (by have hb_ := z32 z_45; omega) (by have hb_ := z32 z_45; omega)) (fun v_46 hj_47 => ?_)
                  refine z_iinc (u := q174_5_34.toInt) (L2 := fun z_48 => [some (AR 95), some (AI x1), some (AI q82_2_21), some (AI q82_3_21), some (AI q102_4_31), some (AI z_48)]) E dX10_layFirsts_200 rfl rfl (by decide) (fun _ => rfl) (by decide) (by omega) (by omega) (fun z_48 hz_48 => ?_)
                  refine s_goto (tgt := 174) E dX10_layFirsts_203 (by decide) ?_
                  exact ih174 z_48 v_46 ⟨⟨by have hb_ := z32 z_48; omega, by have hb_ := z32 z_48; omega⟩, hj_47⟩ (by first | omega | decide | (dsimp only; omega) | (dsimp only; decide))
              ·
                have hh_113_5 : 0 ≤ q102_5_31.toInt ∧ q102_5_31.toInt ≤ 57 := by omega
                refine s_iload E dX10_layFirsts_113 rfl ?_
                refine z_if_eq (tgt := 162) (u := q102_4_31.toInt) E dX10_layFirsts_115 (by decide) rfl (fun h_49 => ?_) (fun h_49 => ?_)
                ·
                  refine s_iconst (v := 0) E dX10_layFirsts_162 (by decide) ?_
                  refine s_istore (L2 := [some (AR 95), some (AI x1), some (AI q82_2_21), some (AI q82_3_21), some (AI 0), some (AI q102_5_31)]) E dX10_layFirsts_163 (by decide) rfl ?_
                  refine z_iinc (u := q102_5_31.toInt) (L2 := fun z_50 => [some (AR 95), some (AI x1), some (AI q82_2_21), some (AI q82_3_21), some (AI 0), some (AI z_50)]) E dX10_layFirsts_165 rfl rfl (by decide) (fun _ => rfl) (by decide) (by omega) (by omega) (fun z_50 hz_50 => ?_)
                  refine s_goto (tgt := 102) E dX10_layFirsts_168 (by decide) ?_
                  exact ih102 ⟨0, z_50⟩ u_28 ⟨⟨by decide, by decide⟩, ⟨by have hb_ := z32 z_50; omega, by have hb_ := z32 z_50; omega⟩, (by omega), rfl⟩ (by first | omega | decide | (dsimp only; omega) | (dsimp only; decide))
                ·
                  refine s_aload_n E dX10_layFirsts_118 rfl rfl ?_
                  refine s_gR (r := 106) E fg_X10_46 rfl rfl (jv_lt hj_31 (by decide)) (jv_r hj_31 (by decide +kernel)) dX10_layFirsts_119 ?_
                  refine s_aload_n E dX10_layFirsts_122 rfl rfl ?_
                  refine s_iload_n E dX10_layFirsts_123 rfl rfl ?_
                  refine s_iload E dX10_layFirsts_124 rfl ?_
                  refine s_iconst (v := 1) E dX10_layFirsts_126 (by decide) ?_
                  refine z_iadd (u := q102_5_31.toInt) (v := 1) E dX10_layFirsts_127 rfl (by decide) (by omega) (by omega) (fun z_51 hz_51 => ?_)
                  refine s_vL (As := [AI x1, AI z_51]) (S := [AR 106]) E (Z_X10_numberAt_95 l D aC b u_28 x1 z_51 hj_31.1 ⟨by have hb_ := z32 x1; omega, by have hb_ := z32 x1; omega⟩ ⟨by have hb_ := z32 z_51; omega, by have hb_ := z32 z_51; omega⟩) cv_X10_371 rfl rfl rfl (jv_lt hj_31 (by decide)) (Nat.le_of_ble_eq_true rfl) (Nat.le_of_ble_eq_true rfl) ⟨(Nat.le_of_ble_eq_true rfl), (Nat.le_of_ble_eq_true rfl)⟩ (Nat.le_of_ble_eq_true rfl) dX10_layFirsts_128 (fun z_54 u_52 hp_53 => ?_)
                  obtain ⟨hz_54, hxz_54, hp_53⟩ := hp_53
                  subst hp_53
                  have hD_ := hg_ q102_5_31.toInt (by omega) (by omega) (by omega)
                  have hrz_54 : 0 ≤ z_54.toInt ∧ z_54.toInt ≤ 14 := by rw [hxz_54, hj_31.2.2, show 60 * x1.toInt + z_51.toInt = 60 * x1.toInt + q102_5_31.toInt + 1 by omega]; exact hD_
                  refine z_l2i (u := z_54.toInt) E dX10_layFirsts_131 rfl (by omega) (by omega) (fun z_56 hz_56 => ?_)
                  refine s_iald E rfl (jv_lt hj_31 (by decide)) (z_in (u := z_56.toInt) rfl (by omega) (by omega)) dX10_layFirsts_132 ?_
                  refine z_nm (P := fun z => (-2147483648) ≤ z.toInt ∧ z.toInt ≤ 2147483647) (z32 _) (fun z_57 hz_57 => ?_)
                  refine s_aload_n E dX10_layFirsts_133 rfl rfl ?_
                  refine s_iload_n E dX10_layFirsts_134 rfl rfl ?_
                  refine s_iload E dX10_layFirsts_135 rfl ?_
                  refine s_vL (As := [AI x1, AI q102_5_31]) (S := [AI z_57]) E (Z_X10_numberAt_95 l D aC b u_28 x1 q102_5_31 hj_31.1 ⟨by have hb_ := z32 x1; omega, by have hb_ := z32 x1; omega⟩ ⟨by have hb_ := z32 q102_5_31; omega, by have hb_ := z32 q102_5_31; omega⟩) cv_X10_371 rfl rfl rfl (jv_lt hj_31 (by decide)) (Nat.le_of_ble_eq_true rfl) (Nat.le_of_ble_eq_true rfl) ⟨(Nat.le_of_ble_eq_true rfl), (Nat.le_of_ble_eq_true rfl)⟩ (Nat.le_of_ble_eq_true rfl) dX10_layFirsts_137 (fun z_60 u_58 hp_59 => ?_)
                  obtain ⟨hz_60, hxz_60, hp_59⟩ := hp_59
                  subst hp_59
                  refine s_l2i E dX10_layFirsts_140 ?_
                  refine z_nm (P := fun z => (-2147483648) ≤ z.toInt ∧ z.toInt ≤ 2147483647) (z32 _) (fun z_62 hz_62 => ?_)
                  refine s_sI (As := [AI z_57, AI z_62]) (S := []) E (Z_X10_bit l D aC b u_28 z_57 z_62 hj_31.1 ) cs_X10_252 rfl rfl (Nat.le_of_ble_eq_true rfl) (Nat.le_of_ble_eq_true rfl) ⟨(Nat.le_of_ble_eq_true rfl), (Nat.le_of_ble_eq_true rfl)⟩ (Nat.le_of_ble_eq_true rfl) dX10_layFirsts_141 (fun z_65 u_63 hp_64 => ?_)
                  obtain ⟨hz_65, hxz_65, hp_64⟩ := hp_64
                  subst hp_64
                  refine z_i2l (u := z_65.toInt) E dX10_layFirsts_144 rfl (fun z_67 hz_67 => ?_)
                  refine s_aload_n E dX10_layFirsts_145 rfl rfl ?_
                  refine s_iload_n E dX10_layFirsts_146 rfl rfl ?_
                  refine s_iload E dX10_layFirsts_147 rfl ?_
                  refine s_iconst (v := 2) E dX10_layFirsts_149 (by decide) ?_
                  refine z_iadd (u := q102_5_31.toInt) (v := 2) E dX10_layFirsts_150 rfl (by decide) (by omega) (by omega) (fun z_68 hz_68 => ?_)
                  refine s_vL (As := [AI x1, AI z_68]) (S := [AL z_67]) E (Z_X10_numberAt_95 l D aC b u_28 x1 z_68 hj_31.1 ⟨by have hb_ := z32 x1; omega, by have hb_ := z32 x1; omega⟩ ⟨by have hb_ := z32 z_68; omega, by have hb_ := z32 z_68; omega⟩) cv_X10_371 rfl rfl rfl (jv_lt hj_31 (by decide)) (Nat.le_of_ble_eq_true rfl) (Nat.le_of_ble_eq_true rfl) ⟨(Nat.le_of_ble_eq_true rfl), (Nat.le_of_ble_eq_true rfl)⟩ (Nat.le_of_ble_eq_true rfl) dX10_layFirsts_151 (fun z_71 u_69 hp_70 => ?_)
                  obtain ⟨hz_71, hxz_71, hp_70⟩ := hp_70
                  subst hp_70
                  refine z_lcmp (u := z_67.toInt) (v := z_71.toInt) E dX10_layFirsts_154 rfl rfl (fun z_73 hz_73 => ?_)
                  refine z_if_ne (tgt := 162) (u := z_73.toInt) E dX10_layFirsts_155 (by decide) rfl (fun h_74 => ?_) (fun h_74 => ?_)
                  ·
                    refine s_iconst (v := 0) E dX10_layFirsts_162 (by decide) ?_
                    refine s_istore (L2 := [some (AR 95), some (AI x1), some (AI q82_2_21), some (AI q82_3_21), some (AI 0), some (AI q102_5_31)]) E dX10_layFirsts_163 (by decide) rfl ?_
                    refine z_iinc (u := q102_5_31.toInt) (L2 := fun z_75 => [some (AR 95), some (AI x1), some (AI q82_2_21), some (AI q82_3_21), some (AI 0), some (AI z_75)]) E dX10_layFirsts_165 rfl rfl (by decide) (fun _ => rfl) (by decide) (by omega) (by omega) (fun z_75 hz_75 => ?_)
                    refine s_goto (tgt := 102) E dX10_layFirsts_168 (by decide) ?_
                    exact ih102 ⟨0, z_75⟩ u_28 ⟨⟨by decide, by decide⟩, ⟨by have hb_ := z32 z_75; omega, by have hb_ := z32 z_75; omega⟩, (by omega), rfl⟩ (by first | omega | decide | (dsimp only; omega) | (dsimp only; decide))
                  ·
                    refine s_iconst (v := 1) E dX10_layFirsts_158 (by decide) ?_
                    refine s_goto (tgt := 163) E dX10_layFirsts_159 (by decide) ?_
                    refine s_istore (L2 := [some (AR 95), some (AI x1), some (AI q82_2_21), some (AI q82_3_21), some (AI 1), some (AI q102_5_31)]) E dX10_layFirsts_163 (by decide) rfl ?_
                    refine z_iinc (u := q102_5_31.toInt) (L2 := fun z_76 => [some (AR 95), some (AI x1), some (AI q82_2_21), some (AI q82_3_21), some (AI 1), some (AI z_76)]) E dX10_layFirsts_165 rfl rfl (by decide) (fun _ => rfl) (by decide) (by omega) (by omega) (fun z_76 hz_76 => ?_)
                    refine s_goto (tgt := 102) E dX10_layFirsts_168 (by decide) ?_
                    exact ih102 ⟨1, z_76⟩ u_28 ⟨⟨by decide, by decide⟩, ⟨by have hb_ := z32 z_76; omega, by have hb_ := z32 z_76; omega⟩, (by omega), rfl⟩ (by first | omega | decide | (dsimp only; omega) | (dsimp only; decide))
          ·
            have hh_56_2 : 0 ≤ q46_2_15.toInt ∧ q46_2_15.toInt ≤ 57 := by omega
            refine s_aload_n E dX10_layFirsts_56 rfl rfl ?_
            refine s_iload_n E dX10_layFirsts_57 rfl rfl ?_
            refine s_iload_n E dX10_layFirsts_58 rfl rfl ?_
            refine s_vI (As := [AI x1, AI q46_2_15]) (S := []) E (Z_X10_isThree_95 l D aC b w x1 q46_2_15 hJ.1 ⟨by have hb_ := z32 x1; omega, by have hb_ := z32 x1; omega⟩ ⟨by have hb_ := z32 q46_2_15; omega, by have hb_ := z32 q46_2_15; omega⟩) cv_X10_378 rfl rfl rfl (jv_lt hJ (by decide)) (Nat.le_of_ble_eq_true rfl) (Nat.le_of_ble_eq_true rfl) ⟨(Nat.le_of_ble_eq_true rfl), (Nat.le_of_ble_eq_true rfl)⟩ (Nat.le_of_ble_eq_true rfl) dX10_layFirsts_59 (fun z_79 u_77 hp_78 => ?_)
            obtain ⟨hz_79, hxz_79, hp_78⟩ := hp_78
            subst hp_78
            have h3_ := hxz_79
            refine z_if_ne (tgt := 68) (u := z_79.toInt) E dX10_layFirsts_62 (by decide) rfl (fun h_81 => ?_) (fun h_81 => ?_)
            ·
              replace h3_ := h3_.resolve_left (by omega)
              refine z_iinc (u := q46_2_15.toInt) (L2 := fun z_82 => [some (AR 95), some (AI x1), some (AI z_82), none, none, none]) E dX10_layFirsts_68 rfl rfl (by decide) (fun _ => rfl) (by decide) (by omega) (by omega) (fun z_82 hz_82 => ?_)
              refine s_goto (tgt := 46) E dX10_layFirsts_71 (by decide) ?_
              exact ih46 z_82 w ⟨⟨by have hb_ := z32 z_82; omega, by have hb_ := z32 z_82; omega⟩, (⟨by omega, gdN_s hl46.2 hl46.1 h3_ (by omega)⟩), rfl⟩ (by first | omega | decide | (dsimp only; omega) | (dsimp only; decide))
            ·
              refine s_bipush (v := (-2)) E dX10_layFirsts_65 (by decide) ?_
              exact r_int E dX10_layFirsts_67 ⟨⟨by decide, by decide, by first | (left; decide) | (right; decide) | (right; have hb_ := z32 x1; omega), by first | (left; decide) | (right; decide) | (right; have hb_ := z32 (w.2.2.1 96 9); omega)⟩, hJ⟩
        ·
          refine s_bipush (v := (-2)) E dX10_layFirsts_41 (by decide) ?_
          exact r_int E dX10_layFirsts_43 ⟨⟨by decide, by decide, by first | (left; decide) | (right; decide) | (right; have hb_ := z32 x1; omega), by first | (left; decide) | (right; decide) | (right; have hb_ := z32 (w.2.2.1 96 9); omega)⟩, hJ⟩
      ·
        refine s_bipush (v := (-6)) E dX10_layFirsts_27 (by decide) ?_
        exact r_int E dX10_layFirsts_29 ⟨⟨by decide, by decide, by first | (left; decide) | (right; decide) | (right; have hb_ := z32 x1; omega), by first | (left; decide) | (right; decide) | (right; have hb_ := z32 (w.2.2.1 96 9); omega)⟩, hJ⟩
    ·
      refine s_bipush (v := (-2)) E dX10_layFirsts_14 (by decide) ?_
      exact r_int E dX10_layFirsts_16 ⟨⟨by decide, by decide, by first | (left; decide) | (right; decide) | (right; have hb_ := z32 x1; omega), by first | (left; decide) | (right; decide) | (right; have hb_ := z32 (w.2.2.1 96 9); omega)⟩, hJ⟩
set_option maxRecDepth 20000 in
set_option maxHeartbeats 2000000 in
theorem Z_X10_firsts_95 (l : Launch) (D : va_G) (aC : Nat → ClassId) (b : Nat) (w : XW) (x1 : Int32) (hI : Iv w)  : CnI l D aC b M_X10_firsts 6 142 0 0 [AR 95, AI x1] w (fun r u => ((-2147483648) ≤ r.toInt ∧ r.toInt ≤ 2147483647 ∧ (¬ r.toInt = 0 ∨ (0 ≤ x1.toInt ∧ x1.toInt ≤ 3)) ∧ (¬ r.toInt = 0 ∨ (1 ≤ (w.2.2.1 96 9).toInt ∧ (w.2.2.1 96 9).toInt ≤ 2147483647))) ∧ Jv w u) := by
  refine cn_I (own := RX10) (nm := "firsts") (L0 := [some (AR 95), some (AI x1)]) (by decide +kernel) rfl rfl (Nat.le_of_ble_eq_true rfl) rfl ?_
  intro p e s m args below meth c E hin
  have hJ : Jv w w := jv_rfl hI
  have hb_x1 := z32 x1
  refine s_aload_n E dX10_firsts_0 rfl rfl ?_
  refine s_iload_n E dX10_firsts_1 rfl rfl ?_
  refine s_vI (As := [AI x1]) (S := []) E (Z_X10_layFirsts_95 l D aC b w x1 hJ.1 ) cv_X10_381 rfl rfl rfl (jv_lt hJ (by decide)) (Nat.le_of_ble_eq_true rfl) (Nat.le_of_ble_eq_true rfl) ⟨(Nat.le_of_ble_eq_true rfl), (Nat.le_of_ble_eq_true rfl)⟩ (Nat.le_of_ble_eq_true rfl) dX10_firsts_2 (fun z_3 u_1 hp_2 => ?_)
  obtain ⟨hz_3, hp_2⟩ := hp_2
  have hj_4 := jv_trans hJ hp_2
  exact r_int E dX10_firsts_5 ⟨⟨by have hb_ := z32 z_3; omega, by have hb_ := z32 z_3; omega, by first | (right; decide) | (have hb_ := z32 z_3; omega) | (have hb_ := z32 z_3; have hc_ := z32 x1; omega), by first | (right; decide) | (have hb_ := z32 z_3; omega) | (have hb_ := z32 z_3; have hc_ := z32 (w.2.2.1 96 9); omega)⟩, hj_4⟩
