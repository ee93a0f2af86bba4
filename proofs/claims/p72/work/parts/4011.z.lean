set_option maxRecDepth 20000 in
set_option maxHeartbeats 2000000 in
theorem Z_X10_layWays_95 (l : Launch) (D : va_G) (aC : Nat → ClassId) (b : Nat) (w : XW)  (hI : Iv w)  : CnV l D aC b M_X10_layWays 1 23 0 0 [AR 95] w (fun u => (y_Ls (u.2.2.1 102) 10) ∧ Jv w u) := by
  refine cn_V (own := RX10) (nm := "layWays") (L0 := [some (AR 95), none, none, none, none, none, none, none]) (by decide +kernel) rfl rfl (Nat.le_of_ble_eq_true rfl) rfl ?_
  intro p e s m args below meth c E hin
  have hJ : Jv w w := jv_rfl hI
  refine s_aload_n E dX10_layWays_0 rfl rfl ?_
  refine s_gR (r := 96) E fg_X10_9 rfl rfl (jv_lt hJ (by decide)) (jv_r hJ (by decide +kernel)) dX10_layWays_1 ?_
  refine s_iconst (v := 0) E dX10_layWays_4 (by decide) ?_
  refine s_iald E rfl (jv_lt hJ (by decide)) (z_in (u := 0) (by decide) (by omega) (by omega)) dX10_layWays_5 ?_
  refine z_nm (P := fun z => z.toInt = (w.2.2.1 96 0).toInt ∧ 0 ≤ z.toInt ∧ z.toInt ≤ 8) ⟨rfl, (rw_96_0 hJ)⟩ (fun z_1 hz_1 => ?_)
  refine s_istore_n (L2 := [some (AR 95), some (AI z_1), none, none, none, none, none, none]) E dX10_layWays_6 rfl (by decide) rfl ?_
  refine s_iconst (v := 1) E dX10_layWays_7 (by decide) ?_
  refine s_istore_n (L2 := [some (AR 95), some (AI z_1), some (AI 1), none, none, none, none, none]) E dX10_layWays_8 rfl (by decide) rfl ?_
  refine z_loop (St := Int32) (Pi := fun q9_2_1 v9 => (1 ≤ q9_2_1.toInt ∧ q9_2_1.toInt ≤ 10) ∧ (y_Ls (v9.2.2.1 102) q9_2_1.toInt) ∧ Jv w v9) (Lf := fun q9_2_1 => [some (AR 95), some (AI z_1), some (AI q9_2_1), none, none, none, none, none]) (fun q9_2_1 _ => (11 - q9_2_1.toInt).toNat) 1 ⟨⟨by decide, by decide⟩, (fun wd h1_ h2_ => by have h0_ : (1 : Int32).toInt = 1 := (by decide); omega), hJ⟩ ?_
  rintro q9_2_1 v9 ⟨hq9_2, hl9, hj_2⟩ ih9
  refine s_loc (L2 := [some (AR 95), some (AI z_1), some (AI q9_2_1), none, none, none, none, none]) rfl ?_
  refine s_iload_n E dX10_layWays_9 rfl rfl ?_
  refine s_bipush (v := 9) E dX10_layWays_10 (by decide) ?_
  refine z_icmp_gt (tgt := 286) (u := q9_2_1.toInt) (v := 9) E dX10_layWays_12 (by decide) rfl (by decide) (fun h_3 => ?_) (fun h_3 => ?_)
  ·
    exact r_void E dX10_layWays_286 ⟨(y_LsC hl9 (by omega)), hj_2⟩
  ·
    refine s_iload_n E dX10_layWays_15 rfl rfl ?_
    refine s_bipush (v := 8) E dX10_layWays_16 (by decide) ?_
    refine z_imul (u := q9_2_1.toInt) (v := 8) E dX10_layWays_18 rfl (by decide) (by omega) (by omega) (fun z_4 hz_4 => ?_)
    refine s_bipush (v := 8) E dX10_layWays_19 (by decide) ?_
    refine z_imul (u := z_4.toInt) (v := 8) E dX10_layWays_21 rfl (by decide) (by omega) (by omega) (fun z_5 hz_5 => ?_)
    refine s_istore_n (L2 := [some (AR 95), some (AI z_1), some (AI q9_2_1), some (AI z_5), none, none, none, none]) E dX10_layWays_22 rfl (by decide) rfl ?_
    refine s_iconst (v := 0) E dX10_layWays_23 (by decide) ?_
    refine s_istore (L2 := [some (AR 95), some (AI z_1), some (AI q9_2_1), some (AI z_5), some (AI 0), none, none, none]) E dX10_layWays_24 (by decide) rfl ?_
    refine z_loop (St := Int32) (Pi := fun q26_4_5 v26 => (0 ≤ q26_4_5.toInt ∧ q26_4_5.toInt ≤ 64) ∧ (y_Ls (v26.2.2.1 102) q9_2_1.toInt ∧ y_In (v26.2.2.1 102) q9_2_1.toInt.toNat q26_4_5.toInt.toNat) ∧ Jv w v26) (Lf := fun q26_4_5 => [some (AR 95), some (AI z_1), some (AI q9_2_1), some (AI z_5), some (AI q26_4_5), none, none, none]) (fun q26_4_5 _ => (65 - q26_4_5.toInt).toNat) 0 ⟨⟨by decide, by decide⟩, (⟨hl9, fun a b ha hb h_ => absurd h_ (by have h0_ : (0 : Int32).toInt = 0 := (by decide); omega)⟩), hj_2⟩ ?_
    rintro q26_4_5 v26 ⟨hq26_4, hl26, hj_6⟩ ih26
    refine s_loc (L2 := [some (AR 95), some (AI z_1), some (AI q9_2_1), some (AI z_5), some (AI q26_4_5), none, none, none]) rfl ?_
    refine s_iload E dX10_layWays_26 rfl ?_
    refine s_bipush (v := 64) E dX10_layWays_28 (by decide) ?_
    refine z_icmp_ge (tgt := 67) (u := q26_4_5.toInt) (v := 64) E dX10_layWays_30 (by decide) rfl (by decide) (fun h_7 => ?_) (fun h_7 => ?_)
    ·
      have hd_ : y_Dr (gw (v26.2.2.1 102) q9_2_1.toInt.toNat) := y_In_Dr (by have e_ : q26_4_5.toInt.toNat = 64 := (by omega); rw [← e_]; exact hl26.2)
      refine s_iconst (v := 0) E dX10_layWays_67 (by decide) ?_
      refine s_istore (L2 := [some (AR 95), some (AI z_1), some (AI q9_2_1), some (AI z_5), some (AI 0), none, none, none]) E dX10_layWays_68 (by decide) rfl ?_
      refine z_loop (St := Int32) (Pi := fun q70_4_7 v70 => (0 ≤ q70_4_7.toInt ∧ q70_4_7.toInt ≤ 12) ∧ (y_Ls (v70.2.2.1 102) q9_2_1.toInt ∧ y_Dr (gw (v70.2.2.1 102) q9_2_1.toInt.toNat)) ∧ Jv w v70) (Lf := fun q70_4_7 => [some (AR 95), some (AI z_1), some (AI q9_2_1), some (AI z_5), some (AI q70_4_7), none, none, none]) (fun q70_4_7 _ => (13 - q70_4_7.toInt).toNat) 0 ⟨⟨by decide, by decide⟩, (⟨hl26.1, hd_⟩), hj_6⟩ ?_
      rintro q70_4_7 v70 ⟨hq70_4, hl70, hj_8⟩ ih70
      refine s_loc (L2 := [some (AR 95), some (AI z_1), some (AI q9_2_1), some (AI z_5), some (AI q70_4_7), none, none, none]) rfl ?_
      refine s_iload E dX10_layWays_70 rfl ?_
      refine s_aload_n E dX10_layWays_72 rfl rfl ?_
      refine s_gR (r := 96) E fg_X10_9 rfl rfl (jv_lt hj_8 (by decide)) (jv_r hj_8 (by decide +kernel)) dX10_layWays_73 ?_
      refine s_iconst (v := 4) E dX10_layWays_76 (by decide) ?_
      refine s_iald E rfl (jv_lt hj_8 (by decide)) (z_in (u := 4) (by decide) (by omega) (by omega)) dX10_layWays_77 ?_
      refine z_nm (P := fun z => z.toInt = (v70.2.2.1 96 4).toInt ∧ 0 ≤ z.toInt ∧ z.toInt ≤ 12) ⟨rfl, (rw_96_4 hj_8)⟩ (fun z_9 hz_9 => ?_)
      refine z_icmp_ge (tgt := 190) (u := q70_4_7.toInt) (v := z_9.toInt) E dX10_layWays_78 (by decide) rfl rfl (fun h_10 => ?_) (fun h_10 => ?_)
      ·
        have hs_ : y_St z_1.toInt.toNat 0 (gw (v70.2.2.1 102) q9_2_1.toInt.toNat) := y_first (by omega) hl70.2
        refine s_iconst (v := 0) E dX10_layWays_190 (by decide) ?_
        refine s_istore (L2 := [some (AR 95), some (AI z_1), some (AI q9_2_1), some (AI z_5), some (AI 0), none, none, none]) E dX10_layWays_191 (by decide) rfl ?_
        refine z_loop (St := Int32) (Pi := fun q193_4_10 v193 => (0 ≤ q193_4_10.toInt ∧ q193_4_10.toInt ≤ 8) ∧ (y_Ls (v193.2.2.1 102) q9_2_1.toInt ∧ y_St z_1.toInt.toNat q193_4_10.toInt.toNat (gw (v193.2.2.1 102) q9_2_1.toInt.toNat) ∧ q193_4_10.toInt ≤ z_1.toInt) ∧ Jv w v193) (Lf := fun q193_4_10 => [some (AR 95), some (AI z_1), some (AI q9_2_1), some (AI z_5), some (AI q193_4_10), none, none, none]) (fun q193_4_10 _ => (9 - q193_4_10.toInt).toNat) 0 ⟨⟨by decide, by decide⟩, (⟨hl70.1, y_StC hs_ (by decide), by have h0_ : (0 : Int32).toInt = 0 := (by decide); omega⟩), hj_8⟩ ?_
        rintro q193_4_10 v193 ⟨hq193_4, hl193, hj_11⟩ ih193
        refine s_loc (L2 := [some (AR 95), some (AI z_1), some (AI q9_2_1), some (AI z_5), some (AI q193_4_10), none, none, none]) rfl ?_
        refine s_iload E dX10_layWays_193 rfl ?_
        refine s_iload_n E dX10_layWays_195 rfl rfl ?_
        refine z_icmp_ge (tgt := 280) (u := q193_4_10.toInt) (v := z_1.toInt) E dX10_layWays_196 (by decide) rfl rfl (fun h_12 => ?_) (fun h_12 => ?_)
        ·
          have hf_ : WPg (gw (v193.2.2.1 102) q9_2_1.toInt.toNat) := y_last (by omega) (y_StC hl193.2.1 (by omega))
          refine z_iinc (u := q9_2_1.toInt) (L2 := fun z_13 => [some (AR 95), some (AI z_1), some (AI z_13), some (AI z_5), some (AI q193_4_10), none, none, none]) E dX10_layWays_280 rfl rfl (by decide) (fun _ => rfl) (by decide) (by omega) (by omega) (fun z_13 hz_13 => ?_)
          refine s_goto (tgt := 9) E dX10_layWays_283 (by decide) ?_
          refine s_drop (i := 3) (L2 := [some (AR 95), some (AI z_1), some (AI z_13), none, some (AI q193_4_10), none, none, none]) rfl ?_
          refine s_drop (i := 4) (L2 := [some (AR 95), some (AI z_1), some (AI z_13), none, none, none, none, none]) rfl ?_
          exact ih9 z_13 v193 ⟨⟨by have hb_ := z32 z_13; omega, by have hb_ := z32 z_13; omega⟩, (y_Ls_next hl193.1 hf_ (by omega) (by omega)), hj_11⟩ (by first | omega | decide | (dsimp only; omega) | (dsimp only; decide))
        ·
          refine s_iconst (v := 0) E dX10_layWays_199 (by decide) ?_
          refine s_istore (L2 := [some (AR 95), some (AI z_1), some (AI q9_2_1), some (AI z_5), some (AI q193_4_10), some (AI 0), none, none]) E dX10_layWays_200 (by decide) rfl ?_
          refine z_loop (St := Int32) (Pi := fun q202_5_13 v202 => (0 ≤ q202_5_13.toInt ∧ q202_5_13.toInt ≤ 64) ∧ (y_Ls (v202.2.2.1 102) q9_2_1.toInt ∧ y_Go (v202.2.2.1 102) q9_2_1.toInt.toNat z_1.toInt.toNat q193_4_10.toInt.toNat q202_5_13.toInt.toNat ∧ q202_5_13.toInt ≤ z_1.toInt * z_1.toInt) ∧ Jv w v202) (Lf := fun q202_5_13 => [some (AR 95), some (AI z_1), some (AI q9_2_1), some (AI z_5), some (AI q193_4_10), some (AI q202_5_13), none, none]) (fun q202_5_13 _ => (65 - q202_5_13.toInt).toNat) 0 ⟨⟨by decide, by decide⟩, (⟨hl193.1, y_Go_0 hl193.2.1, by have h0_ : (0 : Int32).toInt = 0 := (by decide); have := Int.mul_nonneg (show 0 ≤ z_1.toInt by omega) (show 0 ≤ z_1.toInt by omega); omega⟩), hj_11⟩ ?_
          rintro q202_5_13 v202 ⟨hq202_5, hl202, hj_14⟩ ih202
          refine s_loc (L2 := [some (AR 95), some (AI z_1), some (AI q9_2_1), some (AI z_5), some (AI q193_4_10), some (AI q202_5_13), none, none]) rfl ?_
          refine s_iload E dX10_layWays_202 rfl ?_
          refine s_iload_n E dX10_layWays_204 rfl rfl ?_
          refine s_iload_n E dX10_layWays_205 rfl rfl ?_
          have nn_ : 0 ≤ z_1.toInt * z_1.toInt ∧ z_1.toInt * z_1.toInt ≤ 64 := ⟨Int.mul_nonneg (by omega) (by omega), Int.le_trans (Int.mul_le_mul (show z_1.toInt ≤ 8 by omega) (show z_1.toInt ≤ 8 by omega) (by omega) (by omega)) (by decide)⟩
          refine z_imul (u := z_1.toInt) (v := z_1.toInt) E dX10_layWays_206 rfl rfl (by omega) (by omega) (fun z_15 hz_15 => ?_)
          refine z_icmp_ge (tgt := 274) (u := q202_5_13.toInt) (v := z_15.toInt) E dX10_layWays_207 (by decide) rfl rfl (fun h_16 => ?_) (fun h_16 => ?_)
          ·
            have he_ : y_St z_1.toInt.toNat (q193_4_10.toInt.toNat + 1) (gw (v202.2.2.1 102) q9_2_1.toInt.toNat) := y_Go_end (by omega) (by omega) (by rw [← y_sq (i := q202_5_13) (by omega) (by omega)]; exact hl202.2.1)
            refine z_iinc (u := q193_4_10.toInt) (L2 := fun z_17 => [some (AR 95), some (AI z_1), some (AI q9_2_1), some (AI z_5), some (AI z_17), some (AI q202_5_13), none, none]) E dX10_layWays_274 rfl rfl (by decide) (fun _ => rfl) (by decide) (by omega) (by omega) (fun z_17 hz_17 => ?_)
            refine s_goto (tgt := 193) E dX10_layWays_277 (by decide) ?_
            refine s_drop (i := 5) (L2 := [some (AR 95), some (AI z_1), some (AI q9_2_1), some (AI z_5), some (AI z_17), none, none, none]) rfl ?_
            exact ih193 z_17 v202 ⟨⟨by have hb_ := z32 z_17; omega, by have hb_ := z32 z_17; omega⟩, (⟨hl202.1, y_StC he_ (by omega), by omega⟩), hj_14⟩ (by first | omega | decide | (dsimp only; omega) | (dsimp only; decide))
          ·
            obtain ⟨dv1_, dv2_, dv3_, dv4_, dv5_⟩ := y_divI (i := q202_5_13.toInt) (n := z_1.toInt) (by omega) (by omega) (by omega) (by omega)
            refine s_aload_n E dX10_layWays_210 rfl rfl ?_
            refine s_gR (r := 102) E fg_X10_34 rfl rfl (jv_lt hj_14 (by decide)) (jv_r hj_14 (by decide +kernel)) dX10_layWays_211 ?_
            refine s_iload_n E dX10_layWays_214 rfl rfl ?_
            refine s_bipush (v := 8) E dX10_layWays_215 (by decide) ?_
            refine s_iload E dX10_layWays_217 rfl ?_
            refine s_iload_n E dX10_layWays_219 rfl rfl ?_
            refine z_idiv (u := q202_5_13.toInt) (v := z_1.toInt) E dX10_layWays_220 rfl rfl (by omega) (by omega) (fun z_18 hz_18 => ?_)
            have hhz_18 : 0 ≤ z_18.toInt ∧ z_18.toInt ≤ 7 := by omega
            refine z_imul (u := 8) (v := z_18.toInt) E dX10_layWays_221 (by decide) rfl (by omega) (by omega) (fun z_19 hz_19 => ?_)
            refine z_iadd (u := z_5.toInt) (v := z_19.toInt) E dX10_layWays_222 rfl rfl (by omega) (by omega) (fun z_20 hz_20 => ?_)
            refine s_iload E dX10_layWays_223 rfl ?_
            refine s_iload_n E dX10_layWays_225 rfl rfl ?_
            refine z_irem (u := q202_5_13.toInt) (v := z_1.toInt) E dX10_layWays_226 rfl rfl (by omega) (by omega) (fun z_21 hz_21 => ?_)
            have hhz_21 : 0 ≤ z_21.toInt ∧ z_21.toInt ≤ 7 := by omega
            refine z_iadd (u := z_20.toInt) (v := z_21.toInt) E dX10_layWays_227 rfl rfl (by omega) (by omega) (fun z_22 hz_22 => ?_)
            refine s_aload_n E dX10_layWays_228 rfl rfl ?_
            refine s_iload_n E dX10_layWays_229 rfl rfl ?_
            refine s_iload E dX10_layWays_230 rfl ?_
            refine s_iload_n E dX10_layWays_232 rfl rfl ?_
            refine z_idiv (u := q202_5_13.toInt) (v := z_1.toInt) E dX10_layWays_233 rfl rfl (by omega) (by omega) (fun z_23 hz_23 => ?_)
            have hhz_23 : 0 ≤ z_23.toInt ∧ z_23.toInt ≤ 7 := by omega
            refine s_iload E dX10_layWays_234 rfl ?_
            refine s_iload_n E dX10_layWays_236 rfl rfl ?_
            refine z_irem (u := q202_5_13.toInt) (v := z_1.toInt) E dX10_layWays_237 rfl rfl (by omega) (by omega) (fun z_24 hz_24 => ?_)
            have hhz_24 : 0 ≤ z_24.toInt ∧ z_24.toInt ≤ 7 := by omega
            refine s_vI (As := [AI q9_2_1, AI z_23, AI z_24]) (S := [AI z_22, AR 102]) E (Z_X10_wayOf_95 l D aC b v202 q9_2_1 z_23 z_24 hj_14.1 ⟨by have hb_ := z32 q9_2_1; omega, by have hb_ := z32 q9_2_1; omega⟩ ⟨by have hb_ := z32 z_23; omega, by have hb_ := z32 z_23; omega⟩ ⟨by have hb_ := z32 z_24; omega, by have hb_ := z32 z_24; omega⟩) cv_X10_233 rfl rfl rfl (jv_lt hj_14 (by decide)) (Nat.le_of_ble_eq_true rfl) (Nat.le_of_ble_eq_true rfl) ⟨(Nat.le_of_ble_eq_true rfl), (Nat.le_of_ble_eq_true rfl)⟩ (Nat.le_of_ble_eq_true rfl) dX10_layWays_238 (fun z_27 u_25 hp_26 => ?_)
            obtain ⟨hz_27, hxz_27, hp_26⟩ := hp_26
            subst hp_26
            have gA_ := y_gwc hxz_27 (a2 := (q202_5_13.toInt / z_1.toInt).toNat) (b2 := (q202_5_13.toInt % z_1.toInt).toNat) (by omega) (by omega)
            refine s_aload_n E dX10_layWays_241 rfl rfl ?_
            refine s_iload_n E dX10_layWays_242 rfl rfl ?_
            refine s_iload E dX10_layWays_243 rfl ?_
            refine s_iload_n E dX10_layWays_245 rfl rfl ?_
            refine z_idiv (u := q202_5_13.toInt) (v := z_1.toInt) E dX10_layWays_246 rfl rfl (by omega) (by omega) (fun z_29 hz_29 => ?_)
            have hhz_29 : 0 ≤ z_29.toInt ∧ z_29.toInt ≤ 7 := by omega
            refine s_iload E dX10_layWays_247 rfl ?_
            refine s_vI (As := [AI q9_2_1, AI z_29, AI q193_4_10]) (S := [AI z_27, AI z_22, AR 102]) E (Z_X10_wayOf_95 l D aC b v202 q9_2_1 z_29 q193_4_10 hj_14.1 ⟨by have hb_ := z32 q9_2_1; omega, by have hb_ := z32 q9_2_1; omega⟩ ⟨by have hb_ := z32 z_29; omega, by have hb_ := z32 z_29; omega⟩ ⟨by have hb_ := z32 q193_4_10; omega, by have hb_ := z32 q193_4_10; omega⟩) cv_X10_233 rfl rfl rfl (jv_lt hj_14 (by decide)) (Nat.le_of_ble_eq_true rfl) (Nat.le_of_ble_eq_true rfl) ⟨(Nat.le_of_ble_eq_true rfl), (Nat.le_of_ble_eq_true rfl)⟩ (Nat.le_of_ble_eq_true rfl) dX10_layWays_249 (fun z_32 u_30 hp_31 => ?_)
            obtain ⟨hz_32, hxz_32, hp_31⟩ := hp_31
            subst hp_31
            have gB_ := y_gwc hxz_32 (a2 := (q202_5_13.toInt / z_1.toInt).toNat) (b2 := q193_4_10.toInt.toNat) (by omega) (by omega)
            refine s_aload_n E dX10_layWays_252 rfl rfl ?_
            refine s_iload_n E dX10_layWays_253 rfl rfl ?_
            refine s_iload E dX10_layWays_254 rfl ?_
            refine s_iload E dX10_layWays_256 rfl ?_
            refine s_iload_n E dX10_layWays_258 rfl rfl ?_
            refine z_irem (u := q202_5_13.toInt) (v := z_1.toInt) E dX10_layWays_259 rfl rfl (by omega) (by omega) (fun z_34 hz_34 => ?_)
            have hhz_34 : 0 ≤ z_34.toInt ∧ z_34.toInt ≤ 7 := by omega
            refine s_vI (As := [AI q9_2_1, AI q193_4_10, AI z_34]) (S := [AI z_32, AI z_27, AI z_22, AR 102]) E (Z_X10_wayOf_95 l D aC b v202 q9_2_1 q193_4_10 z_34 hj_14.1 ⟨by have hb_ := z32 q9_2_1; omega, by have hb_ := z32 q9_2_1; omega⟩ ⟨by have hb_ := z32 q193_4_10; omega, by have hb_ := z32 q193_4_10; omega⟩ ⟨by have hb_ := z32 z_34; omega, by have hb_ := z32 z_34; omega⟩) cv_X10_233 rfl rfl rfl (jv_lt hj_14 (by decide)) (Nat.le_of_ble_eq_true rfl) (Nat.le_of_ble_eq_true rfl) ⟨(Nat.le_of_ble_eq_true rfl), (Nat.le_of_ble_eq_true rfl)⟩ (Nat.le_of_ble_eq_true rfl) dX10_layWays_260 (fun z_37 u_35 hp_36 => ?_)
            obtain ⟨hz_37, hxz_37, hp_36⟩ := hp_36
            subst hp_36
            have gC_ := y_gwc hxz_37 (a2 := q193_4_10.toInt.toNat) (b2 := (q202_5_13.toInt % z_1.toInt).toNat) (by omega) (by omega)
            refine z_iadd (u := z_32.toInt) (v := z_37.toInt) E dX10_layWays_263 rfl rfl (by omega) (by omega) (fun z_39 hz_39 => ?_)
            refine z_min (u := z_27.toInt) (v := z_39.toInt) E ⟨k_1402, k_369, k_4, k_370⟩ (Nat.le_of_ble_eq_true rfl) (Nat.le_of_ble_eq_true rfl) (Nat.le_of_ble_eq_true rfl) (Nat.le_of_ble_eq_true rfl) dX10_layWays_264 rfl rfl (fun z_40 hz_40 => ?_)
            refine s_iast E rfl (jv_lt hj_14 (by decide)) (z_in (u := z_22.toInt) rfl (by omega) (by omega)) dX10_layWays_267 ?_
            have hj_42 : Jv w (upI v202 102 z_22.toNatClampNeg z_40) := (jv_a_102 hj_14 (by have hb_ := z32 z_40; omega) (by have hb_ := z32 z_40; omega))
            refine z_iinc (u := q202_5_13.toInt) (L2 := fun z_43 => [some (AR 95), some (AI z_1), some (AI q9_2_1), some (AI z_5), some (AI q193_4_10), some (AI z_43), none, none]) E dX10_layWays_268 rfl rfl (by decide) (fun _ => rfl) (by decide) (by omega) (by omega) (fun z_43 hz_43 => ?_)
            refine s_goto (tgt := 202) E dX10_layWays_271 (by decide) ?_
            exact ih202 z_43 (upI v202 102 z_22.toNatClampNeg z_40) ⟨⟨by have hb_ := z32 z_43; omega, by have hb_ := z32 z_43; omega⟩, (lw202 (a := q202_5_13.toInt / z_1.toInt) (b := q202_5_13.toInt % z_1.toInt) hl202 (by omega) (by omega) (by omega) (by omega) (by omega) (by omega) (by omega) (by omega) (by omega) (by omega) (by omega) (by omega) (by omega) (by omega) ⟨by omega, by omega, by omega⟩), hj_42⟩ (by first | omega | decide | (dsimp only; omega) | (dsimp only; decide))
      ·
        refine s_aload_n E dX10_layWays_81 rfl rfl ?_
        refine s_gR (r := 96) E fg_X10_9 rfl rfl (jv_lt hj_8 (by decide)) (jv_r hj_8 (by decide +kernel)) dX10_layWays_82 ?_
        refine s_bipush (v := 10) E dX10_layWays_85 (by decide) ?_
        refine s_iconst (v := 3) E dX10_layWays_87 (by decide) ?_
        refine s_iload E dX10_layWays_88 rfl ?_
        refine z_imul (u := 3) (v := q70_4_7.toInt) E dX10_layWays_90 (by decide) rfl (by omega) (by omega) (fun z_44 hz_44 => ?_)
        refine z_iadd (u := 10) (v := z_44.toInt) E dX10_layWays_91 (by decide) rfl (by omega) (by omega) (fun z_45 hz_45 => ?_)
        have hA_ : z_45.toNatClampNeg = 10 + 3 * q70_4_7.toInt.toNat := by have e_ : z_45.toNatClampNeg = z_45.toInt.toNat := rfl; omega
        refine s_iald E rfl (jv_lt hj_8 (by decide)) (z_in (u := z_45.toInt) rfl (by omega) (by omega)) dX10_layWays_92 ?_
        refine z_nm (P := fun z => z.toInt = (v70.2.2.1 96 z_45.toNatClampNeg).toInt ∧ 0 ≤ z.toInt ∧ z.toInt ≤ 7) ⟨rfl, (rs_v hj_8 (by decide) 0 7 10 43 3 z_45 z_45.toInt (by decide +kernel) rfl (by omega) (by omega) (by omega))⟩ (fun z_46 hz_46 => ?_)
        refine s_istore (L2 := [some (AR 95), some (AI z_1), some (AI q9_2_1), some (AI z_5), some (AI q70_4_7), some (AI z_46), none, none]) E dX10_layWays_93 (by decide) rfl ?_
        refine s_aload_n E dX10_layWays_95 rfl rfl ?_
        refine s_gR (r := 96) E fg_X10_9 rfl rfl (jv_lt hj_8 (by decide)) (jv_r hj_8 (by decide +kernel)) dX10_layWays_96 ?_
        refine s_bipush (v := 10) E dX10_layWays_99 (by decide) ?_
        refine s_iconst (v := 3) E dX10_layWays_101 (by decide) ?_
        refine s_iload E dX10_layWays_102 rfl ?_
        refine z_imul (u := 3) (v := q70_4_7.toInt) E dX10_layWays_104 (by decide) rfl (by omega) (by omega) (fun z_47 hz_47 => ?_)
        refine z_iadd (u := 10) (v := z_47.toInt) E dX10_layWays_105 (by decide) rfl (by omega) (by omega) (fun z_48 hz_48 => ?_)
        refine s_iconst (v := 1) E dX10_layWays_106 (by decide) ?_
        refine z_iadd (u := z_48.toInt) (v := 1) E dX10_layWays_107 rfl (by decide) (by omega) (by omega) (fun z_49 hz_49 => ?_)
        have hB_ : z_49.toNatClampNeg = 11 + 3 * q70_4_7.toInt.toNat := by have e_ : z_49.toNatClampNeg = z_49.toInt.toNat := rfl; omega
        refine s_iald E rfl (jv_lt hj_8 (by decide)) (z_in (u := z_49.toInt) rfl (by omega) (by omega)) dX10_layWays_108 ?_
        refine z_nm (P := fun z => z.toInt = (v70.2.2.1 96 z_49.toNatClampNeg).toInt ∧ 0 ≤ z.toInt ∧ z.toInt ≤ 7) ⟨rfl, (rs_v hj_8 (by decide) 0 7 11 44 3 z_49 z_49.toInt (by decide +kernel) rfl (by omega) (by omega) (by omega))⟩ (fun z_50 hz_50 => ?_)
        refine s_istore (L2 := [some (AR 95), some (AI z_1), some (AI q9_2_1), some (AI z_5), some (AI q70_4_7), some (AI z_46), some (AI z_50), none]) E dX10_layWays_109 (by decide) rfl ?_
        refine s_iload E dX10_layWays_111 rfl ?_
        refine s_aload_n E dX10_layWays_113 rfl rfl ?_
        refine s_gI E fg_X10_227 rfl rfl (jv_lt hj_8 (by decide)) dX10_layWays_114 ?_
        refine z_nm (P := fun z => z.toInt = (v70.2.2.1 95 16).toInt ∧ (-2147483648) ≤ z.toInt ∧ z.toInt ≤ 2147483647) ⟨rfl, z32 _⟩ (fun z_51 hz_51 => ?_)
        refine z_icmp_ne (tgt := 127) (u := q70_4_7.toInt) (v := z_51.toInt) E dX10_layWays_117 (by decide) rfl rfl (fun h_52 => ?_) (fun h_52 => ?_)
        ·
          refine s_aload_n E dX10_layWays_127 rfl rfl ?_
          refine s_gR (r := 96) E fg_X10_9 rfl rfl (jv_lt hj_8 (by decide)) (jv_r hj_8 (by decide +kernel)) dX10_layWays_128 ?_
          refine s_bipush (v := 10) E dX10_layWays_131 (by decide) ?_
          refine s_iconst (v := 3) E dX10_layWays_133 (by decide) ?_
          refine s_iload E dX10_layWays_134 rfl ?_
          refine z_imul (u := 3) (v := q70_4_7.toInt) E dX10_layWays_136 (by decide) rfl (by omega) (by omega) (fun z_53 hz_53 => ?_)
          refine z_iadd (u := 10) (v := z_53.toInt) E dX10_layWays_137 (by decide) rfl (by omega) (by omega) (fun z_54 hz_54 => ?_)
          refine s_iconst (v := 2) E dX10_layWays_138 (by decide) ?_
          refine z_iadd (u := z_54.toInt) (v := 2) E dX10_layWays_139 rfl (by decide) (by omega) (by omega) (fun z_55 hz_55 => ?_)
          refine s_iald E rfl (jv_lt hj_8 (by decide)) (z_in (u := z_55.toInt) rfl (by omega) (by omega)) dX10_layWays_140 ?_
          refine z_nm (P := fun z => z.toInt = (v70.2.2.1 96 z_55.toNatClampNeg).toInt ∧ 0 ≤ z.toInt ∧ z.toInt ≤ 9) ⟨rfl, (rs_v hj_8 (by decide) 0 9 12 45 3 z_55 z_55.toInt (by decide +kernel) rfl (by omega) (by omega) (by omega))⟩ (fun z_56 hz_56 => ?_)
          refine s_istore (L2 := [some (AR 95), some (AI z_1), some (AI q9_2_1), some (AI z_5), some (AI q70_4_7), some (AI z_46), some (AI z_50), some (AI z_56)]) E dX10_layWays_141 (by decide) rfl ?_
          refine s_iload E dX10_layWays_143 rfl ?_
          refine s_iload_n E dX10_layWays_145 rfl rfl ?_
          refine z_icmp_ge (tgt := 152) (u := z_56.toInt) (v := q9_2_1.toInt) E dX10_layWays_146 (by decide) rfl rfl (fun h_57 => ?_) (fun h_57 => ?_)
          ·
            have hab_ : ¬ z_46.toInt = z_50.toInt := by have q_ := jv_door hj_8 q70_4_7.toInt.toNat (by omega) (by omega); rw [← hA_, ← hB_] at q_; omega
            refine s_aload_n E dX10_layWays_152 rfl rfl ?_
            refine s_gR (r := 102) E fg_X10_34 rfl rfl (jv_lt hj_8 (by decide)) (jv_r hj_8 (by decide +kernel)) dX10_layWays_153 ?_
            refine s_iload_n E dX10_layWays_156 rfl rfl ?_
            refine s_bipush (v := 8) E dX10_layWays_157 (by decide) ?_
            refine s_iload E dX10_layWays_159 rfl ?_
            refine z_imul (u := 8) (v := z_46.toInt) E dX10_layWays_161 (by decide) rfl (by omega) (by omega) (fun z_58 hz_58 => ?_)
            refine z_iadd (u := z_5.toInt) (v := z_58.toInt) E dX10_layWays_162 rfl rfl (by omega) (by omega) (fun z_59 hz_59 => ?_)
            refine s_iload E dX10_layWays_163 rfl ?_
            refine z_iadd (u := z_59.toInt) (v := z_50.toInt) E dX10_layWays_165 rfl rfl (by omega) (by omega) (fun z_60 hz_60 => ?_)
            refine s_iconst (v := 1) E dX10_layWays_166 (by decide) ?_
            refine s_iast E rfl (jv_lt hj_8 (by decide)) (z_in (u := z_60.toInt) rfl (by omega) (by omega)) dX10_layWays_167 ?_
            have hj_62 : Jv w (upI v70 102 z_60.toNatClampNeg 1) := (jv_a_102 hj_8 (by decide) (by decide))
            refine s_aload_n E dX10_layWays_168 rfl rfl ?_
            refine s_gR (r := 102) E fg_X10_34 rfl rfl (jv_lt hj_62 (by decide)) (jv_r hj_62 (by decide +kernel)) dX10_layWays_169 ?_
            refine s_iload_n E dX10_layWays_172 rfl rfl ?_
            refine s_bipush (v := 8) E dX10_layWays_173 (by decide) ?_
            refine s_iload E dX10_layWays_175 rfl ?_
            refine z_imul (u := 8) (v := z_50.toInt) E dX10_layWays_177 (by decide) rfl (by omega) (by omega) (fun z_63 hz_63 => ?_)
            refine z_iadd (u := z_5.toInt) (v := z_63.toInt) E dX10_layWays_178 rfl rfl (by omega) (by omega) (fun z_64 hz_64 => ?_)
            refine s_iload E dX10_layWays_179 rfl ?_
            refine z_iadd (u := z_64.toInt) (v := z_46.toInt) E dX10_layWays_181 rfl rfl (by omega) (by omega) (fun z_65 hz_65 => ?_)
            refine s_iconst (v := 1) E dX10_layWays_182 (by decide) ?_
            refine s_iast E rfl (jv_lt hj_62 (by decide)) (z_in (u := z_65.toInt) rfl (by omega) (by omega)) dX10_layWays_183 ?_
            have hj_67 : Jv w (upI (upI v70 102 z_60.toNatClampNeg 1) 102 z_65.toNatClampNeg 1) := (jv_a_102 hj_62 (by decide) (by decide))
            refine z_iinc (u := q70_4_7.toInt) (L2 := fun z_68 => [some (AR 95), some (AI z_1), some (AI q9_2_1), some (AI z_5), some (AI z_68), some (AI z_46), some (AI z_50), some (AI z_56)]) E dX10_layWays_184 rfl rfl (by decide) (fun _ => rfl) (by decide) (by omega) (by omega) (fun z_68 hz_68 => ?_)
            refine s_goto (tgt := 70) E dX10_layWays_187 (by decide) ?_
            refine s_drop (i := 5) (L2 := [some (AR 95), some (AI z_1), some (AI q9_2_1), some (AI z_5), some (AI z_68), none, some (AI z_50), some (AI z_56)]) rfl ?_
            refine s_drop (i := 6) (L2 := [some (AR 95), some (AI z_1), some (AI q9_2_1), some (AI z_5), some (AI z_68), none, none, some (AI z_56)]) rfl ?_
            refine s_drop (i := 7) (L2 := [some (AR 95), some (AI z_1), some (AI q9_2_1), some (AI z_5), some (AI z_68), none, none, none]) rfl ?_
            exact ih70 z_68 (upI (upI v70 102 z_60.toNatClampNeg 1) 102 z_65.toNatClampNeg 1) ⟨⟨by have hb_ := z32 z_68; omega, by have hb_ := z32 z_68; omega⟩, (by first | exact hl70 | exact lw70 (a := z_46) (b := z_50) hl70 (by omega) (by omega) (by omega) (by omega) (by omega) hab_ (by omega) (by omega)), hj_67⟩ (by first | omega | decide | (dsimp only; omega) | (dsimp only; decide))
          ·
            refine s_goto (tgt := 184) E dX10_layWays_149 (by decide) ?_
            refine z_iinc (u := q70_4_7.toInt) (L2 := fun z_69 => [some (AR 95), some (AI z_1), some (AI q9_2_1), some (AI z_5), some (AI z_69), some (AI z_46), some (AI z_50), some (AI z_56)]) E dX10_layWays_184 rfl rfl (by decide) (fun _ => rfl) (by decide) (by omega) (by omega) (fun z_69 hz_69 => ?_)
            refine s_goto (tgt := 70) E dX10_layWays_187 (by decide) ?_
            refine s_drop (i := 5) (L2 := [some (AR 95), some (AI z_1), some (AI q9_2_1), some (AI z_5), some (AI z_69), none, some (AI z_50), some (AI z_56)]) rfl ?_
            refine s_drop (i := 6) (L2 := [some (AR 95), some (AI z_1), some (AI q9_2_1), some (AI z_5), some (AI z_69), none, none, some (AI z_56)]) rfl ?_
            refine s_drop (i := 7) (L2 := [some (AR 95), some (AI z_1), some (AI q9_2_1), some (AI z_5), some (AI z_69), none, none, none]) rfl ?_
            exact ih70 z_69 v70 ⟨⟨by have hb_ := z32 z_69; omega, by have hb_ := z32 z_69; omega⟩, (by first | exact hl70 | exact lw70 (a := z_46) (b := z_50) hl70 (by omega) (by omega) (by omega) (by omega) (by omega) hab_ (by omega) (by omega)), hj_8⟩ (by first | omega | decide | (dsimp only; omega) | (dsimp only; decide))
        ·
          refine s_aload_n E dX10_layWays_120 rfl rfl ?_
          refine s_gI E fg_X10_230 rfl rfl (jv_lt hj_8 (by decide)) dX10_layWays_121 ?_
          refine z_nm (P := fun z => z.toInt = (v70.2.2.1 95 17).toInt ∧ (-2147483648) ≤ z.toInt ∧ z.toInt ≤ 2147483647) ⟨rfl, z32 _⟩ (fun z_70 hz_70 => ?_)
          refine s_goto (tgt := 141) E dX10_layWays_124 (by decide) ?_
          refine s_istore (L2 := [some (AR 95), some (AI z_1), some (AI q9_2_1), some (AI z_5), some (AI q70_4_7), some (AI z_46), some (AI z_50), some (AI z_70)]) E dX10_layWays_141 (by decide) rfl ?_
          refine s_iload E dX10_layWays_143 rfl ?_
          refine s_iload_n E dX10_layWays_145 rfl rfl ?_
          refine z_icmp_ge (tgt := 152) (u := z_70.toInt) (v := q9_2_1.toInt) E dX10_layWays_146 (by decide) rfl rfl (fun h_71 => ?_) (fun h_71 => ?_)
          ·
            have hab_ : ¬ z_46.toInt = z_50.toInt := by have q_ := jv_door hj_8 q70_4_7.toInt.toNat (by omega) (by omega); rw [← hA_, ← hB_] at q_; omega
            refine s_aload_n E dX10_layWays_152 rfl rfl ?_
            refine s_gR (r := 102) E fg_X10_34 rfl rfl (jv_lt hj_8 (by decide)) (jv_r hj_8 (by decide +kernel)) dX10_layWays_153 ?_
            refine s_iload_n E dX10_layWays_156 rfl rfl ?_
            refine s_bipush (v := 8) E dX10_layWays_157 (by decide) ?_
            refine s_iload E dX10_layWays_159 rfl ?_
            refine z_imul (u := 8) (v := z_46.toInt) E dX10_layWays_161 (by decide) rfl (by omega) (by omega) (fun z_72 hz_72 => ?_)
            refine z_iadd (u := z_5.toInt) (v := z_72.toInt) E dX10_layWays_162 rfl rfl (by omega) (by omega) (fun z_73 hz_73 => ?_)
            refine s_iload E dX10_layWays_163 rfl ?_
            refine z_iadd (u := z_73.toInt) (v := z_50.toInt) E dX10_layWays_165 rfl rfl (by omega) (by omega) (fun z_74 hz_74 => ?_)
            refine s_iconst (v := 1) E dX10_layWays_166 (by decide) ?_
            refine s_iast E rfl (jv_lt hj_8 (by decide)) (z_in (u := z_74.toInt) rfl (by omega) (by omega)) dX10_layWays_167 ?_
            have hj_76 : Jv w (upI v70 102 z_74.toNatClampNeg 1) := (jv_a_102 hj_8 (by decide) (by decide))
            refine s_aload_n E dX10_layWays_168 rfl rfl ?_
            refine s_gR (r := 102) E fg_X10_34 rfl rfl (jv_lt hj_76 (by decide)) (jv_r hj_76 (by decide +kernel)) dX10_layWays_169 ?_
            refine s_iload_n E dX10_layWays_172 rfl rfl ?_
            refine s_bipush (v := 8) E dX10_layWays_173 (by decide) ?_
            refine s_iload E dX10_layWays_175 rfl ?_
            refine z_imul (u := 8) (v := z_50.toInt) E dX10_layWays_177 (by decide) rfl (by omega) (by omega) (fun z_77 hz_77 => ?_)
            refine z_iadd (u := z_5.toInt) (v := z_77.toInt) E dX10_layWays_178 rfl rfl (by omega) (by omega) (fun z_78 hz_78 => ?_)
            refine s_iload E dX10_layWays_179 rfl ?_
            refine z_iadd (u := z_78.toInt) (v := z_46.toInt) E dX10_layWays_181 rfl rfl (by omega) (by omega) (fun z_79 hz_79 => ?_)
            refine s_iconst (v := 1) E dX10_layWays_182 (by decide) ?_
            refine s_iast E rfl (jv_lt hj_76 (by decide)) (z_in (u := z_79.toInt) rfl (by omega) (by omega)) dX10_layWays_183 ?_
            have hj_81 : Jv w (upI (upI v70 102 z_74.toNatClampNeg 1) 102 z_79.toNatClampNeg 1) := (jv_a_102 hj_76 (by decide) (by decide))
            refine z_iinc (u := q70_4_7.toInt) (L2 := fun z_82 => [some (AR 95), some (AI z_1), some (AI q9_2_1), some (AI z_5), some (AI z_82), some (AI z_46), some (AI z_50), some (AI z_70)]) E dX10_layWays_184 rfl rfl (by decide) (fun _ => rfl) (by decide) (by omega) (by omega) (fun z_82 hz_82 => ?_)
            refine s_goto (tgt := 70) E dX10_layWays_187 (by decide) ?_
            refine s_drop (i := 5) (L2 := [some (AR 95), some (AI z_1), some (AI q9_2_1), some (AI z_5), some (AI z_82), none, some (AI z_50), some (AI z_70)]) rfl ?_
            refine s_drop (i := 6) (L2 := [some (AR 95), some (AI z_1), some (AI q9_2_1), some (AI z_5), some (AI z_82), none, none, some (AI z_70)]) rfl ?_
            refine s_drop (i := 7) (L2 := [some (AR 95), some (AI z_1), some (AI q9_2_1), some (AI z_5), some (AI z_82), none, none, none]) rfl ?_
            exact ih70 z_82 (upI (upI v70 102 z_74.toNatClampNeg 1) 102 z_79.toNatClampNeg 1) ⟨⟨by have hb_ := z32 z_82; omega, by have hb_ := z32 z_82; omega⟩, (by first | exact hl70 | exact lw70 (a := z_46) (b := z_50) hl70 (by omega) (by omega) (by omega) (by omega) (by omega) hab_ (by omega) (by omega)), hj_81⟩ (by first | omega | decide | (dsimp only; omega) | (dsimp only; decide))
          ·
            refine s_goto (tgt := 184) E dX10_layWays_149 (by decide) ?_
            refine z_iinc (u := q70_4_7.toInt) (L2 := fun z_83 => [some (AR 95), some (AI z_1), some (AI q9_2_1), some (AI z_5), some (AI z_83), some (AI z_46), some (AI z_50), some (AI z_70)]) E dX10_layWays_184 rfl rfl (by decide) (fun _ => rfl) (by decide) (by omega) (by omega) (fun z_83 hz_83 => ?_)
            refine s_goto (tgt := 70) E dX10_layWays_187 (by decide) ?_
            refine s_drop (i := 5) (L2 := [some (AR 95), some (AI z_1), some (AI q9_2_1), some (AI z_5), some (AI z_83), none, some (AI z_50), some (AI z_70)]) rfl ?_
            refine s_drop (i := 6) (L2 := [some (AR 95), some (AI z_1), some (AI q9_2_1), some (AI z_5), some (AI z_83), none, none, some (AI z_70)]) rfl ?_
            refine s_drop (i := 7) (L2 := [some (AR 95), some (AI z_1), some (AI q9_2_1), some (AI z_5), some (AI z_83), none, none, none]) rfl ?_
            exact ih70 z_83 v70 ⟨⟨by have hb_ := z32 z_83; omega, by have hb_ := z32 z_83; omega⟩, (by first | exact hl70 | exact lw70 (a := z_46) (b := z_50) hl70 (by omega) (by omega) (by omega) (by omega) (by omega) hab_ (by omega) (by omega)), hj_8⟩ (by first | omega | decide | (dsimp only; omega) | (dsimp only; decide))
    ·
      refine s_aload_n E dX10_layWays_33 rfl rfl ?_
      refine s_gR (r := 102) E fg_X10_34 rfl rfl (jv_lt hj_6 (by decide)) (jv_r hj_6 (by decide +kernel)) dX10_layWays_34 ?_
      refine s_iload_n E dX10_layWays_37 rfl rfl ?_
      refine s_iload E dX10_layWays_38 rfl ?_
      refine z_iadd (u := z_5.toInt) (v := q26_4_5.toInt) E dX10_layWays_40 rfl rfl (by omega) (by omega) (fun z_84 hz_84 => ?_)
      refine s_iload E dX10_layWays_41 rfl ?_
      refine s_bipush (v := 8) E dX10_layWays_43 (by decide) ?_
      refine z_idiv (u := q26_4_5.toInt) (v := 8) E dX10_layWays_45 rfl (by decide) (by omega) (by omega) (fun z_85 hz_85 => ?_)
      refine s_iload E dX10_layWays_46 rfl ?_
      refine s_bipush (v := 8) E dX10_layWays_48 (by decide) ?_
      refine z_irem (u := q26_4_5.toInt) (v := 8) E dX10_layWays_50 rfl (by decide) (by omega) (by omega) (fun z_86 hz_86 => ?_)
      refine z_icmp_ne (tgt := 58) (u := z_85.toInt) (v := z_86.toInt) E dX10_layWays_51 (by decide) rfl rfl (fun h_87 => ?_) (fun h_87 => ?_)
      ·
        refine s_ldc E k_1513 rfl dX10_layWays_58 ?_
        refine s_iast E rfl (jv_lt hj_6 (by decide)) (z_in (u := z_84.toInt) rfl (by omega) (by omega)) dX10_layWays_60 ?_
        have hj_89 : Jv w (upI v26 102 z_84.toNatClampNeg 1000000000) := (jv_a_102 hj_6 (by decide) (by decide))
        refine z_iinc (u := q26_4_5.toInt) (L2 := fun z_90 => [some (AR 95), some (AI z_1), some (AI q9_2_1), some (AI z_5), some (AI z_90), none, none, none]) E dX10_layWays_61 rfl rfl (by decide) (fun _ => rfl) (by decide) (by omega) (by omega) (fun z_90 hz_90 => ?_)
        refine s_goto (tgt := 26) E dX10_layWays_64 (by decide) ?_
        exact ih26 z_90 (upI v26 102 z_84.toNatClampNeg 1000000000) ⟨⟨by have hb_ := z32 z_90; omega, by have hb_ := z32 z_90; omega⟩, (lw26 hl26 (by omega) (by omega) (by omega) (by omega) (by omega) (by first | exact Or.inl ⟨by omega, by decide⟩ | exact Or.inr ⟨by omega, by decide⟩)), hj_89⟩ (by first | omega | decide | (dsimp only; omega) | (dsimp only; decide))
      ·
        refine s_iconst (v := 0) E dX10_layWays_54 (by decide) ?_
        refine s_goto (tgt := 60) E dX10_layWays_55 (by decide) ?_
        refine s_iast E rfl (jv_lt hj_6 (by decide)) (z_in (u := z_84.toInt) rfl (by omega) (by omega)) dX10_layWays_60 ?_
        have hj_92 : Jv w (upI v26 102 z_84.toNatClampNeg 0) := (jv_a_102 hj_6 (by decide) (by decide))
        refine z_iinc (u := q26_4_5.toInt) (L2 := fun z_93 => [some (AR 95), some (AI z_1), some (AI q9_2_1), some (AI z_5), some (AI z_93), none, none, none]) E dX10_layWays_61 rfl rfl (by decide) (fun _ => rfl) (by decide) (by omega) (by omega) (fun z_93 hz_93 => ?_)
        refine s_goto (tgt := 26) E dX10_layWays_64 (by decide) ?_
        exact ih26 z_93 (upI v26 102 z_84.toNatClampNeg 0) ⟨⟨by have hb_ := z32 z_93; omega, by have hb_ := z32 z_93; omega⟩, (lw26 hl26 (by omega) (by omega) (by omega) (by omega) (by omega) (by first | exact Or.inl ⟨by omega, by decide⟩ | exact Or.inr ⟨by omega, by decide⟩)), hj_92⟩ (by first | omega | decide | (dsimp only; omega) | (dsimp only; decide))
set_option maxRecDepth 20000 in
set_option maxHeartbeats 2000000 in
theorem Z_X10_ladies_95 (l : Launch) (D : va_G) (aC : Nat → ClassId) (b : Nat) (w : XW)  (hI : Iv w)  : CnI l D aC b M_X10_ladies 0 0 0 0 [AR 95] w (fun r u => (0 ≤ r.toInt ∧ r.toInt ≤ 6 ∧ (¬ r.toInt = 0 ∨ (0 ≤ (w.2.2.1 96 5).toInt ∧ (w.2.2.1 96 5).toInt ≤ 6)) ∧ (r.toInt = 0 ∨ (0 ≤ (w.2.2.1 96 5).toInt ∧ (w.2.2.1 96 5).toInt ≤ 6))) ∧ (r.toInt = (w.2.2.1 96 5).toInt) ∧ w = u) := by
  refine cn_I (own := RX10) (nm := "ladies") (L0 := [some (AR 95)]) (by decide +kernel) rfl rfl (Nat.le_of_ble_eq_true rfl) rfl ?_
  intro p e s m args below meth c E hin
  have hJ : Jv w w := jv_rfl hI
  refine s_aload_n E dX10_ladies_0 rfl rfl ?_
  refine s_gR (r := 96) E fg_X10_9 rfl rfl (jv_lt hJ (by decide)) (jv_r hJ (by decide +kernel)) dX10_ladies_1 ?_
  refine s_iconst (v := 5) E dX10_ladies_4 (by decide) ?_
  refine s_iald E rfl (jv_lt hJ (by decide)) (z_in (u := 5) (by decide) (by omega) (by omega)) dX10_ladies_5 ?_
  refine z_nm (P := fun z => z.toInt = (w.2.2.1 96 5).toInt ∧ 0 ≤ z.toInt ∧ z.toInt ≤ 6) ⟨rfl, (rw_96_5 hJ)⟩ (fun z_1 hz_1 => ?_)
  exact r_int E dX10_ladies_6 ⟨⟨by have hb_ := z32 z_1; omega, by have hb_ := z32 z_1; omega, by first | (right; decide) | (have hb_ := z32 z_1; omega) | (have hb_ := z32 z_1; have hc_ := z32 (w.2.2.1 96 5); omega), by first | (right; decide) | (have hb_ := z32 z_1; omega) | (have hb_ := z32 z_1; have hc_ := z32 (w.2.2.1 96 5); omega)⟩, (by omega), rfl⟩
set_option maxRecDepth 20000 in
set_option maxHeartbeats 2000000 in
theorem Z_X10_dances_95 (l : Launch) (D : va_G) (aC : Nat → ClassId) (b : Nat) (w : XW)  (hI : Iv w)  : CnI l D aC b M_X10_dances 0 0 0 0 [AR 95] w (fun r u => (0 ≤ r.toInt ∧ r.toInt ≤ 14 ∧ (¬ r.toInt = 0 ∨ (0 ≤ (w.2.2.1 96 1).toInt ∧ (w.2.2.1 96 1).toInt ≤ 14)) ∧ (r.toInt = 0 ∨ (0 ≤ (w.2.2.1 96 1).toInt ∧ (w.2.2.1 96 1).toInt ≤ 14))) ∧ (r.toInt = (w.2.2.1 96 1).toInt) ∧ w = u) := by
  refine cn_I (own := RX10) (nm := "dances") (L0 := [some (AR 95)]) (by decide +kernel) rfl rfl (Nat.le_of_ble_eq_true rfl) rfl ?_
  intro p e s m args below meth c E hin
  have hJ : Jv w w := jv_rfl hI
  refine s_aload_n E dX10_dances_0 rfl rfl ?_
  refine s_gR (r := 96) E fg_X10_9 rfl rfl (jv_lt hJ (by decide)) (jv_r hJ (by decide +kernel)) dX10_dances_1 ?_
  refine s_iconst (v := 1) E dX10_dances_4 (by decide) ?_
  refine s_iald E rfl (jv_lt hJ (by decide)) (z_in (u := 1) (by decide) (by omega) (by omega)) dX10_dances_5 ?_
  refine z_nm (P := fun z => z.toInt = (w.2.2.1 96 1).toInt ∧ 0 ≤ z.toInt ∧ z.toInt ≤ 14) ⟨rfl, (rw_96_1 hJ)⟩ (fun z_1 hz_1 => ?_)
  exact r_int E dX10_dances_6 ⟨⟨by have hb_ := z32 z_1; omega, by have hb_ := z32 z_1; omega, by first | (right; decide) | (have hb_ := z32 z_1; omega) | (have hb_ := z32 z_1; have hc_ := z32 (w.2.2.1 96 1); omega), by first | (right; decide) | (have hb_ := z32 z_1; omega) | (have hb_ := z32 z_1; have hc_ := z32 (w.2.2.1 96 1); omega)⟩, (by omega), rfl⟩
set_option maxRecDepth 20000 in
set_option maxHeartbeats 2000000 in
theorem Z_X10_atOf_95 (l : Launch) (D : va_G) (aC : Nat → ClassId) (b : Nat) (w : XW) (x1 : Int32) (x2 : Int32) (hI : Iv w) (hx1 : 0 ≤ x1.toInt ∧ x1.toInt ≤ 5) (hx2 : 0 ≤ x2.toInt ∧ x2.toInt ≤ 14) : CnI l D aC b M_X10_atOf 0 0 0 0 [AR 95, AI x1, AI x2] w (fun r u => (0 ≤ r.toInt ∧ r.toInt ≤ 7) ∧ (r.toInt = (w.2.2.1 103 (6 * x2.toInt.toNat + x1.toInt.toNat)).toInt) ∧ w = u) := by
  refine cn_I (own := RX10) (nm := "atOf") (L0 := [some (AR 95), some (AI x1), some (AI x2)]) (by decide +kernel) rfl rfl (Nat.le_of_ble_eq_true rfl) rfl ?_
  intro p e s m args below meth c E hin
  have hJ : Jv w w := jv_rfl hI
  refine s_aload_n E dX10_atOf_0 rfl rfl ?_
  refine s_gR (r := 103) E fg_X10_37 rfl rfl (jv_lt hJ (by decide)) (jv_r hJ (by decide +kernel)) dX10_atOf_1 ?_
  refine s_bipush (v := 6) E dX10_atOf_4 (by decide) ?_
  refine s_iload_n E dX10_atOf_6 rfl rfl ?_
  refine z_imul (u := 6) (v := x2.toInt) E dX10_atOf_7 (by decide) rfl (by omega) (by omega) (fun z_1 hz_1 => ?_)
  refine s_iload_n E dX10_atOf_8 rfl rfl ?_
  refine z_iadd (u := z_1.toInt) (v := x1.toInt) E dX10_atOf_9 rfl rfl (by omega) (by omega) (fun z_2 hz_2 => ?_)
  have hi_ : z_2.toNatClampNeg = 6 * x2.toInt.toNat + x1.toInt.toNat := by have e_ : z_2.toNatClampNeg = z_2.toInt.toNat := rfl; omega
  refine s_iald E rfl (jv_lt hJ (by decide)) (z_in (u := z_2.toInt) rfl (by omega) (by omega)) dX10_atOf_10 ?_
  refine z_nm (P := fun z => z.toInt = (w.2.2.1 103 z_2.toNatClampNeg).toInt ∧ 0 ≤ z.toInt ∧ z.toInt ≤ 7) ⟨rfl, (ra_103 hJ _)⟩ (fun z_3 hz_3 => ?_)
  exact r_int E dX10_atOf_11 ⟨⟨by have hb_ := z32 z_3; omega, by have hb_ := z32 z_3; omega⟩, (by rw [← hi_]; omega), rfl⟩
