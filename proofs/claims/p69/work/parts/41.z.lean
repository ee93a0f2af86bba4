set_option maxRecDepth 20000 in
set_option maxHeartbeats 2000000 in
theorem Z_X10_wayOf_95 (l : Launch) (D : va_G) (aC : Nat → ClassId) (b : Nat) (w : XW) (x1 : Int32) (x2 : Int32) (x3 : Int32) (hI : Iv w) (hx1 : 0 ≤ x1.toInt ∧ x1.toInt ≤ 9) (hx2 : 0 ≤ x2.toInt ∧ x2.toInt ≤ 7) (hx3 : 0 ≤ x3.toInt ∧ x3.toInt ≤ 7) : CnI l D aC b M_X10_wayOf 0 0 0 0 [AR 95, AI x1, AI x2, AI x3] w (fun r u => (0 ≤ r.toInt ∧ r.toInt ≤ 1000000000) ∧ (r.toInt = gw (w.2.2.1 102) x1.toInt.toNat x2.toInt.toNat x3.toInt.toNat) ∧ w = u) := by
  refine cn_I (own := RX10) (nm := "wayOf") (L0 := [some (AR 95), some (AI x1), some (AI x2), some (AI x3)]) (by decide +kernel) rfl rfl (Nat.le_of_ble_eq_true rfl) rfl ?_
  intro p e s m args below meth c E hin
  have hJ : Jv w w := jv_rfl hI
  refine s_aload_n E dX10_wayOf_0 rfl rfl ?_
  refine s_gR (r := 102) E fg_X10_34 rfl rfl (jv_lt hJ (by decide)) (jv_r hJ (by decide +kernel)) dX10_wayOf_1 ?_
  refine s_iload_n E dX10_wayOf_4 rfl rfl ?_
  refine s_bipush (v := 8) E dX10_wayOf_5 (by decide) ?_
  refine z_imul (u := x1.toInt) (v := 8) E dX10_wayOf_7 rfl (by decide) (by omega) (by omega) (fun z_1 hz_1 => ?_)
  refine s_iload_n E dX10_wayOf_8 rfl rfl ?_
  refine z_iadd (u := z_1.toInt) (v := x2.toInt) E dX10_wayOf_9 rfl rfl (by omega) (by omega) (fun z_2 hz_2 => ?_)
  refine s_bipush (v := 8) E dX10_wayOf_10 (by decide) ?_
  refine z_imul (u := z_2.toInt) (v := 8) E dX10_wayOf_12 rfl (by decide) (by omega) (by omega) (fun z_3 hz_3 => ?_)
  refine s_iload_n E dX10_wayOf_13 rfl rfl ?_
  refine z_iadd (u := z_3.toInt) (v := x3.toInt) E dX10_wayOf_14 rfl rfl (by omega) (by omega) (fun z_4 hz_4 => ?_)
  have hi_ : z_4.toNatClampNeg = 64 * x1.toInt.toNat + 8 * x2.toInt.toNat + x3.toInt.toNat := by have e_ : z_4.toNatClampNeg = z_4.toInt.toNat := rfl; omega
  refine s_iald E rfl (jv_lt hJ (by decide)) (z_in (u := z_4.toInt) rfl (by omega) (by omega)) dX10_wayOf_15 ?_
  refine z_nm (P := fun z => z.toInt = (w.2.2.1 102 z_4.toNatClampNeg).toInt ∧ 0 ≤ z.toInt ∧ z.toInt ≤ 1000000000) ⟨rfl, (ra_102 hJ _)⟩ (fun z_5 hz_5 => ?_)
  exact r_int E dX10_wayOf_16 ⟨⟨by have hb_ := z32 z_5; omega, by have hb_ := z32 z_5; omega⟩, (by unfold gw; rw [← hi_]; omega), rfl⟩
set_option maxRecDepth 20000 in
set_option maxHeartbeats 2000000 in
theorem Z_X10_layWays_95 (l : Launch) (D : va_G) (aC : Nat → ClassId) (b : Nat) (w : XW)  (hI : Iv w)  : CnV l D aC b M_X10_layWays 1 23 0 0 [AR 95] w (fun u => (y_Ls (u.2.2.1 102) 10) ∧ Jv w u) := by
  refine cn_V (own := RX10) (nm := "layWays") (L0 := [some (AR 95), none, none, none, none, none, none, none]) (by decide +kernel) rfl rfl (Nat.le_of_ble_eq_true rfl) rfl ?_
  intro p e s m args below meth c E hin
  have hJ : Jv w w := jv_rfl hI
  refine s_aload_n E dX10_layWays_0 rfl rfl ?_
  refine s_gR (r := 96) E fg_X10_9 rfl rfl (jv_lt hJ (by decide)) (jv_r hJ (by decide +kernel)) dX10_layWays_1 ?_
  refine s_iconst (v := 0) E dX10_layWays_4 (by decide) ?_
  refine s_iald E rfl (jv_lt hJ (by decide)) (z_in (u := 0) (by decide) (by omega) (by omega)) dX10_layWays_5 ?_
  refine z_nm (P := fun z => z.toInt = (w.2.2.1 96 0).toInt ∧ 0 ≤ z.toInt ∧ z.toInt ≤ 8) ⟨rfl, (rw_96_0 hJ)⟩ (fun z_1 hz_1 => ?_)
  refine s_istore_n (L2 := [some (AR 95), some (AI z_1), none, none, none, none, none, none]) E dX10_layWays_6 rfl (by decide) rfl ?_
  refine s_iconst (v := 1) E dX10_layWays_7 (by decide) ?_
  refine s_istore_n (L2 := [some (AR 95), some (AI z_1), some (AI 1), none, none, none, none, none]) E dX10_layWays_8 rfl (by decide) rfl ?_
  refine z_loop (St := Int32) (Pi := fun q9_2_1 v9 => (1 ≤ q9_2_1.toInt ∧ q9_2_1.toInt ≤ 10) ∧ (y_Ls (v9.2.2.1 102) q9_2_1.toInt) ∧ Jv w v9) (Lf := fun q9_2_1 => [some (AR 95), some (AI z_1), some (AI q9_2_1), none, none, none, none, none]) (fun q9_2_1 _ => (11 - q9_2_1.toInt).toNat) 1 ⟨⟨by decide, by decide⟩, (fun wd h1_ h2_ => by have h0_ : (1 : Int32).toInt = 1 := (by decide); omega), hJ⟩ ?_
  rintro q9_2_1 v9 ⟨hq9_2, hl9, hj_2⟩ ih9
  refine s_loc (L2 := [some (AR 95), some (AI z_1), some (AI q9_2_1), none, none, none, none, none]) rfl ?_
  refine s_iload_n E dX10_layWays_9 rfl rfl ?_
  refine s_bipush (v := 9) E dX10_layWays_10 (by decide) ?_
  refine z_icmp_gt (tgt := 286) (u := q9_2_1.toInt) (v := 9) E dX10_layWays_12 (by decide) rfl (by decide) (fun h_3 => ?_) (fun h_3 => ?_)
  ·
    exact r_void E dX10_layWays_286 ⟨(y_LsC hl9 (by omega)), hj_2⟩
  ·
    refine s_iload_n E dX10_layWays_15 rfl rfl ?_
    refine s_bipush (v := 8) E dX10_layWays_16 (by decide) ?_
    refine z_imul (u := q9_2_1.toInt) (v := 8) E dX10_layWays_18 rfl (by decide) (by omega) (by omega) (fun z_4 hz_4 => ?_)
    refine s_bipush (v := 8) E dX10_layWays_19 (by decide) ?_
    refine z_imul (u := z_4.toInt) (v := 8) E dX10_layWays_21 rfl (by decide) (by omega) (by omega) (fun z_5 hz_5 => ?_)
    refine s_istore_n (L2 := [some (AR 95), some (AI z_1), some (AI q9_2_1), some (AI z_5), none, none, none, none]) E dX10_layWays_22 rfl (by decide) rfl ?_
    refine s_iconst (v := 0) E dX10_layWays_23 (by decide) ?_
    refine s_istore (L2 := [some (AR 95), some (AI z_1), some (AI q9_2_1), some (AI z_5), some (AI 0), none, none, none]) E dX10_layWays_24 (by decide) rfl ?_
    refine z_loop (St := Int32) (Pi := fun q26_4_5 v26 => (0 ≤ q26_4_5.toInt ∧ q26_4_5.toInt ≤ 64) ∧ (y_Ls (v26.2.2.1 102) q9_2_1.toInt ∧ y_In (v26.2.2.1 102) q9_2_1.toInt.toNat q26_4_5.toInt.toNat) ∧ Jv w v26) (Lf := fun q26_4_5 => [some (AR 95), some (AI z_1), some (AI q9_2_1), some (AI z_5), some (AI q26_4_5), none, none, none]) (fun q26_4_5 _ => (65 - q26_4_5.toInt).toNat) 0 ⟨⟨by decide, by decide⟩, (⟨hl9, fun a b ha hb h_ => absurd h_ (by have h0_ : (0 : Int32).toInt = 0 := (by decide); omega)⟩), hj_2⟩ ?_
    rintro q26_4_5 v26 ⟨hq26_4, hl26, hj_6⟩ ih26
    refine s_loc (L2 := [some (AR 95), some (AI z_1), some (AI q9_2_1), some (AI z_5), some (AI q26_4_5), none, none, none]) rfl ?_
    refine s_iload E dX10_layWays_26 rfl ?_
    refine s_bipush (v := 64) E dX10_layWays_28 (by decide) ?_
    refine z_icmp_ge (tgt := 67) (u := q26_4_5.toInt) (v := 64) E dX10_layWays_30 (by decide) rfl (by decide) (fun h_7 => ?_) (fun h_7 => ?_)
    ·
      have hd_ : y_Dr (gw (v26.2.2.1 102) q9_2_1.toInt.toNat) := y_In_Dr (by have e_ : q26_4_5.toInt.toNat = 64 := by omega; rw [← e_]; exact hl26.2)
      refine s_iconst (v := 0) E dX10_layWays_67 (by decide) ?_
      refine s_istore (L2 := [some (AR 95), some (AI z_1), some (AI q9_2_1), some (AI z_5), some (AI 0), none, none, none]) E dX10_layWays_68 (by decide) rfl ?_
      refine z_loop (St := Int32) (Pi := fun q70_4_7 v70 => (0 ≤ q70_4_7.toInt ∧ q70_4_7.toInt ≤ 12) ∧ (y_Ls (v70.2.2.1 102) q9_2_1.toInt ∧ y_Dr (gw (v70.2.2.1 102) q9_2_1.toInt.toNat)) ∧ Jv w v70) (Lf := fun q70_4_7 => [some (AR 95), some (AI z_1), some (AI q9_2_1), some (AI z_5), some (AI q70_4_7), none, none, none]) (fun q70_4_7 _ => (13 - q70_4_7.toInt).toNat) 0 ⟨⟨by decide, by decide⟩, (⟨hl26.1, hd_⟩), hj_6⟩ ?_
      rintro q70_4_7 v70 ⟨hq70_4, hl70, hj_8⟩ ih70
      refine s_loc (L2 := [some (AR 95), some (AI z_1), some (AI q9_2_1), some (AI z_5), some (AI q70_4_7), none, none, none]) rfl ?_
      refine s_iload E dX10_layWays_70 rfl ?_
      refine s_aload_n E dX10_layWays_72 rfl rfl ?_
      refine s_gR (r := 96) E fg_X10_9 rfl rfl (jv_lt hj_8 (by decide)) (jv_r hj_8 (by decide +kernel)) dX10_layWays_73 ?_
      refine s_iconst (v := 4) E dX10_layWays_76 (by decide) ?_
      refine s_iald E rfl (jv_lt hj_8 (by decide)) (z_in (u := 4) (by decide) (by omega) (by omega)) dX10_layWays_77 ?_
      refine z_nm (P := fun z => z.toInt = (v70.2.2.1 96 4).toInt ∧ 0 ≤ z.toInt ∧ z.toInt ≤ 12) ⟨rfl, (rw_96_4 hj_8)⟩ (fun z_9 hz_9 => ?_)
      refine z_icmp_ge (tgt := 190) (u := q70_4_7.toInt) (v := z_9.toInt) E dX10_layWays_78 (by decide) rfl rfl (fun h_10 => ?_) (fun h_10 => ?_)
      ·
        have hs_ : y_St z_1.toInt.toNat 0 (gw (v70.2.2.1 102) q9_2_1.toInt.toNat) := y_first (by omega) hl70.2
        refine s_iconst (v := 0) E dX10_layWays_190 (by decide) ?_
        refine s_istore (L2 := [some (AR 95), some (AI z_1), some (AI q9_2_1), some (AI z_5), some (AI 0), none, none, none]) E dX10_layWays_191 (by decide) rfl ?_
        refine z_loop (St := Int32) (Pi := fun q193_4_10 v193 => (0 ≤ q193_4_10.toInt ∧ q193_4_10.toInt ≤ 8) ∧ (y_Ls (v193.2.2.1 102) q9_2_1.toInt ∧ y_St z_1.toInt.toNat q193_4_10.toInt.toNat (gw (v193.2.2.1 102) q9_2_1.toInt.toNat) ∧ q193_4_10.toInt ≤ z_1.toInt) ∧ Jv w v193) (Lf := fun q193_4_10 => [some (AR 95), some (AI z_1), some (AI q9_2_1), some (AI z_5), some (AI q193_4_10), none, none, none]) (fun q193_4_10 _ => (9 - q193_4_10.toInt).toNat) 0 ⟨⟨by decide, by decide⟩, (⟨hl70.1, y_StC hs_ (by decide), by have h0_ : (0 : Int32).toInt = 0 := (by decide); omega⟩), hj_8⟩ ?_
        rintro q193_4_10 v193 ⟨hq193_4, hl193, hj_11⟩ ih193
        refine s_loc (L2 := [some (AR 95), some (AI z_1), some (AI q9_2_1), some (AI z_5), some (AI q193_4_10), none, none, none]) rfl ?_
        refine s_iload E dX10_layWays_193 rfl ?_
        refine s_iload_n E dX10_layWays_195 rfl rfl ?_
        refine z_icmp_ge (tgt := 280) (u := q193_4_10.toInt) (v := z_1.toInt) E dX10_layWays_196 (by decide) rfl rfl (fun h_12 => ?_) (fun h_12 => ?_)
        ·
          have hf_ : WPg (gw (v193.2.2.1 102) q9_2_1.toInt.toNat) := y_last (by omega) (y_StC hl193.2.1 (by omega))
          refine z_iinc (u := q9_2_1.toInt) (L2 := fun z_13 => [some (AR 95), some (AI z_1), some (AI z_13), some (AI z_5), some (AI q193_4_10), none, none, none]) E dX10_layWays_280 rfl rfl (by decide) (fun _ => rfl) (by decide) (by omega) (by omega) (fun z_13 hz_13 => ?_)
          refine s_goto (tgt := 9) E dX10_layWays_283 (by decide) ?_
          refine s_drop (i := 3) (L2 := [some (AR 95), some (AI z_1), some (AI z_13), none, some (AI q193_4_10), none, none, none]) rfl ?_
          refine s_drop (i := 4) (L2 := [some (AR 95), some (AI z_1), some (AI z_13), none, none, none, none, none]) rfl ?_
          exact ih9 z_13 v193 ⟨⟨by have hb_ := z32 z_13; omega, by have hb_ := z32 z_13; omega⟩, (y_Ls_next hl193.1 hf_ (by omega) (by omega)), hj_11⟩ (by first | omega | decide | (dsimp only; omega) | (dsimp only; decide))
        ·
          refine s_iconst (v := 0) E dX10_layWays_199 (by decide) ?_
          refine s_istore (L2 := [some (AR 95), some (AI z_1), some (AI q9_2_1), some (AI z_5), some (AI q193_4_10), some (AI 0), none, none]) E dX10_layWays_200 (by decide) rfl ?_
          refine z_loop (St := Int32) (Pi := fun q202_5_13 v202 => (0 ≤ q202_5_13.toInt ∧ q202_5_13.toInt ≤ 64) ∧ (y_Ls (v202.2.2.1 102) q9_2_1.toInt ∧ y_Go (v202.2.2.1 102) q9_2_1.toInt.toNat z_1.toInt.toNat q193_4_10.toInt.toNat q202_5_13.toInt.toNat ∧ q202_5_13.toInt ≤ z_1.toInt * z_1.toInt) ∧ Jv w v202) (Lf := fun q202_5_13 => [some (AR 95), some (AI z_1), some (AI q9_2_1), some (AI z_5), some (AI q193_4_10), some (AI q202_5_13), none, none]) (fun q202_5_13 _ => (65 - q202_5_13.toInt).toNat) 0 ⟨⟨by decide, by decide⟩, (⟨hl193.1, y_Go_0 hl193.2.1, by have h0_ : (0 : Int32).toInt = 0 := (by decide); have := Int.mul_nonneg (show 0 ≤ z_1.toInt by omega) (show 0 ≤ z_1.toInt by omega); omega⟩), hj_11⟩ ?_
          rintro q202_5_13 v202 ⟨hq202_5, hl202, hj_14⟩ ih202
          refine s_loc (L2 := [some (AR 95), some (AI z_1), some (AI q9_2_1), some (AI z_5), some (AI q193_4_10), some (AI q202_5_13), none, none]) rfl ?_
          refine s_iload E dX10_layWays_202 rfl ?_
          refine s_iload_n E dX10_layWays_204 rfl rfl ?_
          refine s_iload_n E dX10_layWays_205 rfl rfl ?_
          refine z_imul (u := z_1.toInt) (v := z_1.toInt) E dX10_layWays_206 rfl rfl (by omega) (by omega) (fun z_15 hz_15 => ?_)
          refine z_icmp_ge (tgt := 274) (u := q202_5_13.toInt) (v := z_15.toInt) E dX10_layWays_207 (by decide) rfl rfl (fun h_16 => ?_) (fun h_16 => ?_)
          ·
            have he_ : y_St z_1.toInt.toNat (q193_4_10.toInt.toNat + 1) (gw (v202.2.2.1 102) q9_2_1.toInt.toNat) := y_Go_end (by omega) (by omega) (by rw [← y_sq (i := q202_5_13) (by omega) (by omega)]; exact hl202.2.1)
            refine z_iinc (u := q193_4_10.toInt) (L2 := fun z_17 => [some (AR 95), some (AI z_1), some (AI q9_2_1), some (AI z_5), some (AI z_17), some (AI q202_5_13), none, none]) E dX10_layWays_274 rfl rfl (by decide) (fun _ => rfl) (by decide) (by omega) (by omega) (fun z_17 hz_17 => ?_)
            refine s_goto (tgt := 193) E dX10_layWays_277 (by decide) ?_
            refine s_drop (i := 5) (L2 := [some (AR 95), some (AI z_1), some (AI q9_2_1), some (AI z_5), some (AI z_17), none, none, none]) rfl ?_
            exact ih193 z_17 v202 ⟨⟨by have hb_ := z32 z_17; omega, by have hb_ := z32 z_17; omega⟩, (⟨hl202.1, y_StC he_ (by omega), by omega⟩), hj_14⟩ (by first | omega | decide | (dsimp only; omega) | (dsimp only; decide))
          ·
            obtain ⟨dv1_, dv2_, dv3_, dv4_, dv5_⟩ := y_divI (i := q202_5_13.toInt) (n := z_1.toInt) (by omega) (by omega) (by omega) (by omega)
            refine s_aload_n E dX10_layWays_210 rfl rfl ?_
            refine s_gR (r := 102) E fg_X10_34 rfl rfl (jv_lt hj_14 (by decide)) (jv_r hj_14 (by decide +kernel)) dX10_layWays_211 ?_
            refine s_iload_n E dX10_layWays_214 rfl rfl ?_
            refine s_bipush (v := 8) E dX10_layWays_215 (by decide) ?_
            refine s_iload E dX10_layWays_217 rfl ?_
            refine s_iload_n E dX10_layWays_219 rfl rfl ?_
            refine z_idiv (u := q202_5_13.toInt) (v := z_1.toInt) E dX10_layWays_220 rfl rfl (by omega) (by omega) (fun z_18 hz_18 => ?_)
            have hhz_18 : 0 ≤ z_18.toInt ∧ z_18.toInt ≤ 7 := by omega
            refine z_imul (u := 8) (v := z_18.toInt) E dX10_layWays_221 (by decide) rfl (by omega) (by omega) (fun z_19 hz_19 => ?_)
            refine z_iadd (u := z_5.toInt) (v := z_19.toInt) E dX10_layWays_222 rfl rfl (by omega) (by omega) (fun z_20 hz_20 => ?_)
            refine s_iload E dX10_layWays_223 rfl ?_
            refine s_iload_n E dX10_layWays_225 rfl rfl ?_
            refine z_irem (u := q202_5_13.toInt) (v := z_1.toInt) E dX10_layWays_226 rfl rfl (by omega) (by omega) (fun z_21 hz_21 => ?_)
            have hhz_21 : 0 ≤ z_21.toInt ∧ z_21.toInt ≤ 7 := by omega
            refine z_iadd (u := z_20.toInt) (v := z_21.toInt) E dX10_layWays_227 rfl rfl (by omega) (by omega) (fun z_22 hz_22 => ?_)
            refine s_aload_n E dX10_layWays_228 rfl rfl ?_
            refine s_iload_n E dX10_layWays_229 rfl rfl ?_
            refine s_iload E dX10_layWays_230 rfl ?_
            refine s_iload_n E dX10_layWays_232 rfl rfl ?_
            refine z_idiv (u := q202_5_13.toInt) (v := z_1.toInt) E dX10_layWays_233 rfl rfl (by omega) (by omega) (fun z_23 hz_23 => ?_)
            have hhz_23 : 0 ≤ z_23.toInt ∧ z_23.toInt ≤ 7 := by omega
            refine s_iload E dX10_layWays_234 rfl ?_
            refine s_iload_n E dX10_layWays_236 rfl rfl ?_
            refine z_irem (u := q202_5_13.toInt) (v := z_1.toInt) E dX10_layWays_237 rfl rfl (by omega) (by omega) (fun z_24 hz_24 => ?_)
            have hhz_24 : 0 ≤ z_24.toInt ∧ z_24.toInt ≤ 7 := by omega
            refine s_vI (As := [AI q9_2_1, AI z_23, AI z_24]) (S := [AI z_22, AR 102]) E (Z_X10_wayOf_95 l D aC b v202 q9_2_1 z_23 z_24 hj_14.1 ⟨by have hb_ := z32 q9_2_1; omega, by have hb_ := z32 q9_2_1; omega⟩ ⟨by have hb_ := z32 z_23; omega, by have hb_ := z32 z_23; omega⟩ ⟨by have hb_ := z32 z_24; omega, by have hb_ := z32 z_24; omega⟩) cv_X10_233 rfl rfl rfl (jv_lt hj_14 (by decide)) (Nat.le_of_ble_eq_true rfl) (Nat.le_of_ble_eq_true rfl) ⟨(Nat.le_of_ble_eq_true rfl), (Nat.le_of_ble_eq_true rfl)⟩ (Nat.le_of_ble_eq_true rfl) dX10_layWays_238 (fun z_27 u_25 hp_26 => ?_)
            obtain ⟨hz_27, hxz_27, hp_26⟩ := hp_26
            subst hp_26
            have gA_ := y_gwc hxz_27 (a2 := (q202_5_13.toInt / z_1.toInt).toNat) (b2 := (q202_5_13.toInt % z_1.toInt).toNat) (by omega) (by omega)
            refine s_aload_n E dX10_layWays_241 rfl rfl ?_
            refine s_iload_n E dX10_layWays_242 rfl rfl ?_
            refine s_iload E dX10_layWays_243 rfl ?_
            refine s_iload_n E dX10_layWays_245 rfl rfl ?_
            refine z_idiv (u := q202_5_13.toInt) (v := z_1.toInt) E dX10_layWays_246 rfl rfl (by omega) (by omega) (fun z_29 hz_29 => ?_)
            have hhz_29 : 0 ≤ z_29.toInt ∧ z_29.toInt ≤ 7 := by omega
            refine s_iload E dX10_layWays_247 rfl ?_
            refine s_vI (As := [AI q9_2_1, AI z_29, AI q193_4_10]) (S := [AI z_27, AI z_22, AR 102]) E (Z_X10_wayOf_95 l D aC b v202 q9_2_1 z_29 q193_4_10 hj_14.1 ⟨by have hb_ := z32 q9_2_1; omega, by have hb_ := z32 q9_2_1; omega⟩ ⟨by have hb_ := z32 z_29; omega, by have hb_ := z32 z_29; omega⟩ ⟨by have hb_ := z32 q193_4_10; omega, by have hb_ := z32 q193_4_10; omega⟩) cv_X10_233 rfl rfl rfl (jv_lt hj_14 (by decide)) (Nat.le_of_ble_eq_true rfl) (Nat.le_of_ble_eq_true rfl) ⟨(Nat.le_of_ble_eq_true rfl), (Nat.le_of_ble_eq_true rfl)⟩ (Nat.le_of_ble_eq_true rfl) dX10_layWays_249 (fun z_32 u_30 hp_31 => ?_)
            obtain ⟨hz_32, hxz_32, hp_31⟩ := hp_31
            subst hp_31
            have gB_ := y_gwc hxz_32 (a2 := (q202_5_13.toInt / z_1.toInt).toNat) (b2 := q193_4_10.toInt.toNat) (by omega) (by omega)
            refine s_aload_n E dX10_layWays_252 rfl rfl ?_
            refine s_iload_n E dX10_layWays_253 rfl rfl ?_
            refine s_iload E dX10_layWays_254 rfl ?_
            refine s_iload E dX10_layWays_256 rfl ?_
            refine s_iload_n E dX10_layWays_258 rfl rfl ?_
            refine z_irem (u := q202_5_13.toInt) (v := z_1.toInt) E dX10_layWays_259 rfl rfl (by omega) (by omega) (fun z_34 hz_34 => ?_)
            have hhz_34 : 0 ≤ z_34.toInt ∧ z_34.toInt ≤ 7 := by omega
            refine s_vI (As := [AI q9_2_1, AI q193_4_10, AI z_34]) (S := [AI z_32, AI z_27, AI z_22, AR 102]) E (Z_X10_wayOf_95 l D aC b v202 q9_2_1 q193_4_10 z_34 hj_14.1 ⟨by have hb_ := z32 q9_2_1; omega, by have hb_ := z32 q9_2_1; omega⟩ ⟨by have hb_ := z32 q193_4_10; omega, by have hb_ := z32 q193_4_10; omega⟩ ⟨by have hb_ := z32 z_34; omega, by have hb_ := z32 z_34; omega⟩) cv_X10_233 rfl rfl rfl (jv_lt hj_14 (by decide)) (Nat.le_of_ble_eq_true rfl) (Nat.le_of_ble_eq_true rfl) ⟨(Nat.le_of_ble_eq_true rfl), (Nat.le_of_ble_eq_true rfl)⟩ (Nat.le_of_ble_eq_true rfl) dX10_layWays_260 (fun z_37 u_35 hp_36 => ?_)
            obtain ⟨hz_37, hxz_37, hp_36⟩ := hp_36
            subst hp_36
            have gC_ := y_gwc hxz_37 (a2 := q193_4_10.toInt.toNat) (b2 := (q202_5_13.toInt % z_1.toInt).toNat) (by omega) (by omega)
            refine z_iadd (u := z_32.toInt) (v := z_37.toInt) E dX10_layWays_263 rfl rfl (by omega) (by omega) (fun z_39 hz_39 => ?_)
            refine z_min (u := z_27.toInt) (v := z_39.toInt) E ⟨k_1402, k_369, k_4, k_370⟩ (Nat.le_of_ble_eq_true rfl) (Nat.le_of_ble_eq_true rfl) (Nat.le_of_ble_eq_true rfl) (Nat.le_of_ble_eq_true rfl) dX10_layWays_264 rfl rfl (fun z_40 hz_40 => ?_)
            refine s_iast E rfl (jv_lt hj_14 (by decide)) (z_in (u := z_22.toInt) rfl (by omega) (by omega)) dX10_layWays_267 ?_
            have hj_42 : Jv w (upI v202 102 z_22.toNatClampNeg z_40) := (jv_a_102 hj_14 (by have hb_ := z32 z_40; omega) (by have hb_ := z32 z_40; omega))
            refine z_iinc (u := q202_5_13.toInt) (L2 := fun z_43 => [some (AR 95), some (AI z_1), some (AI q9_2_1), some (AI z_5), some (AI q193_4_10), some (AI z_43), none, none]) E dX10_layWays_268 rfl rfl (by decide) (fun _ => rfl) (by decide) (by omega) (by omega) (fun z_43 hz_43 => ?_)
            refine s_goto (tgt := 202) E dX10_layWays_271 (by decide) ?_
            exact ih202 z_43 (upI v202 102 z_22.toNatClampNeg z_40) ⟨⟨by have hb_ := z32 z_43; omega, by have hb_ := z32 z_43; omega⟩, (lw202 (a := q202_5_13.toInt / z_1.toInt) (b := q202_5_13.toInt % z_1.toInt) hl202 (by omega) (by omega) (by omega) (by omega) (by omega) (by omega) (by omega) (by omega) (by omega) (by omega) (by omega) (by omega) (by omega) (by omega) ⟨by omega, by omega, by omega⟩), hj_42⟩ (by first | omega | decide | (dsimp only; omega) | (dsimp only; decide))
      ·
        refine s_aload_n E dX10_layWays_81 rfl rfl ?_
        refine s_gR (r := 96) E fg_X10_9 rfl rfl (jv_lt hj_8 (by decide)) (jv_r hj_8 (by decide +kernel)) dX10_layWays_82 ?_
        refine s_bipush (v := 10) E dX10_layWays_85 (by decide) ?_
        refine s_iconst (v := 3) E dX10_layWays_87 (by decide) ?_
        refine s_iload E dX10_layWays_88 rfl ?_
        refine z_imul (u := 3) (v := q70_4_7.toInt) E dX10_layWays_90 (by decide) rfl (by omega) (by omega) (fun z_44 hz_44 => ?_)
        refine z_iadd (u := 10) (v := z_44.toInt) E dX10_layWays_91 (by decide) rfl (by omega) (by omega) (fun z_45 hz_45 => ?_)
        have hA_ : z_45.toNatClampNeg = 10 + 3 * q70_4_7.toInt.toNat := by have e_ : z_45.toNatClampNeg = z_45.toInt.toNat := rfl; omega
        refine s_iald E rfl (jv_lt hj_8 (by decide)) (z_in (u := z_45.toInt) rfl (by omega) (by omega)) dX10_layWays_92 ?_
        refine z_nm (P := fun z => z.toInt = (v70.2.2.1 96 z_45.toNatClampNeg).toInt ∧ 0 ≤ z.toInt ∧ z.toInt ≤ 7 ∧ (104 ≤ z_45.toInt → z_45.toInt < 134 → okA z.toInt)) ⟨rfl, (rs_w hj_8 (by decide) 0 7 10 43 3 z_45 z_45.toInt (by decide +kernel) rfl (by omega) (by omega) (by omega))⟩ (fun z_46 hz_46 => ?_)
        refine s_istore (L2 := [some (AR 95), some (AI z_1), some (AI q9_2_1), some (AI z_5), some (AI q70_4_7), some (AI z_46), none, none]) E dX10_layWays_93 (by decide) rfl ?_
        refine s_aload_n E dX10_layWays_95 rfl rfl ?_
        refine s_gR (r := 96) E fg_X10_9 rfl rfl (jv_lt hj_8 (by decide)) (jv_r hj_8 (by decide +kernel)) dX10_layWays_96 ?_
        refine s_bipush (v := 10) E dX10_layWays_99 (by decide) ?_
        refine s_iconst (v := 3) E dX10_layWays_101 (by decide) ?_
        refine s_iload E dX10_layWays_102 rfl ?_
        refine z_imul (u := 3) (v := q70_4_7.toInt) E dX10_layWays_104 (by decide) rfl (by omega) (by omega) (fun z_47 hz_47 => ?_)
        refine z_iadd (u := 10) (v := z_47.toInt) E dX10_layWays_105 (by decide) rfl (by omega) (by omega) (fun z_48 hz_48 => ?_)
        refine s_iconst (v := 1) E dX10_layWays_106 (by decide) ?_
        refine z_iadd (u := z_48.toInt) (v := 1) E dX10_layWays_107 rfl (by decide) (by omega) (by omega) (fun z_49 hz_49 => ?_)
        have hB_ : z_49.toNatClampNeg = 11 + 3 * q70_4_7.toInt.toNat := by have e_ : z_49.toNatClampNeg = z_49.toInt.toNat := rfl; omega
        refine s_iald E rfl (jv_lt hj_8 (by decide)) (z_in (u := z_49.toInt) rfl (by omega) (by omega)) dX10_layWays_108 ?_
        refine z_nm (P := fun z => z.toInt = (v70.2.2.1 96 z_49.toNatClampNeg).toInt ∧ 0 ≤ z.toInt ∧ z.toInt ≤ 7 ∧ (104 ≤ z_49.toInt → z_49.toInt < 134 → okA z.toInt)) ⟨rfl, (rs_w hj_8 (by decide) 0 7 11 44 3 z_49 z_49.toInt (by decide +kernel) rfl (by omega) (by omega) (by omega))⟩ (fun z_50 hz_50 => ?_)
        refine s_istore (L2 := [some (AR 95), some (AI z_1), some (AI q9_2_1), some (AI z_5), some (AI q70_4_7), some (AI z_46), some (AI z_50), none]) E dX10_layWays_109 (by decide) rfl ?_
        refine s_iload E dX10_layWays_111 rfl ?_
        refine s_aload_n E dX10_layWays_113 rfl rfl ?_
        refine s_gI E fg_X10_227 rfl rfl (jv_lt hj_8 (by decide)) dX10_layWays_114 ?_
        refine z_nm (P := fun z => z.toInt = (v70.2.2.1 95 16).toInt ∧ (-2147483648) ≤ z.toInt ∧ z.toInt ≤ 2147483647) ⟨rfl, z32 _⟩ (fun z_51 hz_51 => ?_)
        refine z_icmp_ne (tgt := 127) (u := q70_4_7.toInt) (v := z_51.toInt) E dX10_layWays_117 (by decide) rfl rfl (fun h_52 => ?_) (fun h_52 => ?_)
        ·
          refine s_aload_n E dX10_layWays_127 rfl rfl ?_
          refine s_gR (r := 96) E fg_X10_9 rfl rfl (jv_lt hj_8 (by decide)) (jv_r hj_8 (by decide +kernel)) dX10_layWays_128 ?_
          refine s_bipush (v := 10) E dX10_layWays_131 (by decide) ?_
          refine s_iconst (v := 3) E dX10_layWays_133 (by decide) ?_
          refine s_iload E dX10_layWays_134 rfl ?_
          refine z_imul (u := 3) (v := q70_4_7.toInt) E dX10_layWays_136 (by decide) rfl (by omega) (by omega) (fun z_53 hz_53 => ?_)
          refine z_iadd (u := 10) (v := z_53.toInt) E dX10_layWays_137 (by decide) rfl (by omega) (by omega) (fun z_54 hz_54 => ?_)
          refine s_iconst (v := 2) E dX10_layWays_138 (by decide) ?_
          refine z_iadd (u := z_54.toInt) (v := 2) E dX10_layWays_139 rfl (by decide) (by omega) (by omega) (fun z_55 hz_55 => ?_)
          refine s_iald E rfl (jv_lt hj_8 (by decide)) (z_in (u := z_55.toInt) rfl (by omega) (by omega)) dX10_layWays_140 ?_
          refine z_nm (P := fun z => z.toInt = (v70.2.2.1 96 z_55.toNatClampNeg).toInt ∧ 0 ≤ z.toInt ∧ z.toInt ≤ 9 ∧ (104 ≤ z_55.toInt → z_55.toInt < 134 → okA z.toInt)) ⟨rfl, (rs_w hj_8 (by decide) 0 9 12 45 3 z_55 z_55.toInt (by decide +kernel) rfl (by omega) (by omega) (by omega))⟩ (fun z_56 hz_56 => ?_)
          refine s_istore (L2 := [some (AR 95), some (AI z_1), some (AI q9_2_1), some (AI z_5), some (AI q70_4_7), some (AI z_46), some (AI z_50), some (AI z_56)]) E dX10_layWays_141 (by decide) rfl ?_
          refine s_iload E dX10_layWays_143 rfl ?_
          refine s_iload_n E dX10_layWays_145 rfl rfl ?_
          refine z_icmp_ge (tgt := 152) (u := z_56.toInt) (v := q9_2_1.toInt) E dX10_layWays_146 (by decide) rfl rfl (fun h_57 => ?_) (fun h_57 => ?_)
          ·
            have hab_ : ¬ z_46.toInt = z_50.toInt := by have q_ := jv_door hj_8 q70_4_7.toInt.toNat (by omega) (by omega); rw [← hA_, ← hB_] at q_; omega
            refine s_aload_n E dX10_layWays_152 rfl rfl ?_
            refine s_gR (r := 102) E fg_X10_34 rfl rfl (jv_lt hj_8 (by decide)) (jv_r hj_8 (by decide +kernel)) dX10_layWays_153 ?_
            refine s_iload_n E dX10_layWays_156 rfl rfl ?_
            refine s_bipush (v := 8) E dX10_layWays_157 (by decide) ?_
            refine s_iload E dX10_layWays_159 rfl ?_
            refine z_imul (u := 8) (v := z_46.toInt) E dX10_layWays_161 (by decide) rfl (by omega) (by omega) (fun z_58 hz_58 => ?_)
            refine z_iadd (u := z_5.toInt) (v := z_58.toInt) E dX10_layWays_162 rfl rfl (by omega) (by omega) (fun z_59 hz_59 => ?_)
            refine s_iload E dX10_layWays_163 rfl ?_
            refine z_iadd (u := z_59.toInt) (v := z_50.toInt) E dX10_layWays_165 rfl rfl (by omega) (by omega) (fun z_60 hz_60 => ?_)
            refine s_iconst (v := 1) E dX10_layWays_166 (by decide) ?_
            refine s_iast E rfl (jv_lt hj_8 (by decide)) (z_in (u := z_60.toInt) rfl (by omega) (by omega)) dX10_layWays_167 ?_
            have hj_62 : Jv w (upI v70 102 z_60.toNatClampNeg 1) := (jv_a_102 hj_8 (by decide) (by decide))
            refine s_aload_n E dX10_layWays_168 rfl rfl ?_
            refine s_gR (r := 102) E fg_X10_34 rfl rfl (jv_lt hj_62 (by decide)) (jv_r hj_62 (by decide +kernel)) dX10_layWays_169 ?_
            refine s_iload_n E dX10_layWays_172 rfl rfl ?_
            refine s_bipush (v := 8) E dX10_layWays_173 (by decide) ?_
            refine s_iload E dX10_layWays_175 rfl ?_
            refine z_imul (u := 8) (v := z_50.toInt) E dX10_layWays_177 (by decide) rfl (by omega) (by omega) (fun z_63 hz_63 => ?_)
            refine z_iadd (u := z_5.toInt) (v := z_63.toInt) E dX10_layWays_178 rfl rfl (by omega) (by omega) (fun z_64 hz_64 => ?_)
            refine s_iload E dX10_layWays_179 rfl ?_
            refine z_iadd (u := z_64.toInt) (v := z_46.toInt) E dX10_layWays_181 rfl rfl (by omega) (by omega) (fun z_65 hz_65 => ?_)
            refine s_iconst (v := 1) E dX10_layWays_182 (by decide) ?_
            refine s_iast E rfl (jv_lt hj_62 (by decide)) (z_in (u := z_65.toInt) rfl (by omega) (by omega)) dX10_layWays_183 ?_
            have hj_67 : Jv w (upI (upI v70 102 z_60.toNatClampNeg 1) 102 z_65.toNatClampNeg 1) := (jv_a_102 hj_62 (by decide) (by decide))
            refine z_iinc (u := q70_4_7.toInt) (L2 := fun z_68 => [some (AR 95), some (AI z_1), some (AI q9_2_1), some (AI z_5), some (AI z_68), some (AI z_46), some (AI z_50), some (AI z_56)]) E dX10_layWays_184 rfl rfl (by decide) (fun _ => rfl) (by decide) (by omega) (by omega) (fun z_68 hz_68 => ?_)
            refine s_goto (tgt := 70) E dX10_layWays_187 (by decide) ?_
            refine s_drop (i := 5) (L2 := [some (AR 95), some (AI z_1), some (AI q9_2_1), some (AI z_5), some (AI z_68), none, some (AI z_50), some (AI z_56)]) rfl ?_
            refine s_drop (i := 6) (L2 := [some (AR 95), some (AI z_1), some (AI q9_2_1), some (AI z_5), some (AI z_68), none, none, some (AI z_56)]) rfl ?_
            refine s_drop (i := 7) (L2 := [some (AR 95), some (AI z_1), some (AI q9_2_1), some (AI z_5), some (AI z_68), none, none, none]) rfl ?_
            exact ih70 z_68 (upI (upI v70 102 z_60.toNatClampNeg 1) 102 z_65.toNatClampNeg 1) ⟨⟨by have hb_ := z32 z_68; omega, by have hb_ := z32 z_68; omega⟩, (by first | exact hl70 | exact lw70 (a := z_46) (b := z_50) hl70 (by omega) (by omega) (by omega) (by omega) (by omega) hab_ (by omega) (by omega)), hj_67⟩ (by first | omega | decide | (dsimp only; omega) | (dsimp only; decide))
          ·
            refine s_goto (tgt := 184) E dX10_layWays_149 (by decide) ?_
            refine z_iinc (u := q70_4_7.toInt) (L2 := fun z_69 => [some (AR 95), some (AI z_1), some (AI q9_2_1), some (AI z_5), some (AI z_69), some (AI z_46), some (AI z_50), some (AI z_56)]) E dX10_layWays_184 rfl rfl (by decide) (fun _ => rfl) (by decide) (by omega) (by omega) (fun z_69 hz_69 => ?_)
            refine s_goto (tgt := 70) E dX10_layWays_187 (by decide) ?_
            refine s_drop (i := 5) (L2 := [some (AR 95), some (AI z_1), some (AI q9_2_1), some (AI z_5), some (AI z_69), none, some (AI z_50), some (AI z_56)]) rfl ?_
            refine s_drop (i := 6) (L2 := [some (AR 95), some (AI z_1), some (AI q9_2_1), some (AI z_5), some (AI z_69), none, none, some (AI z_56)]) rfl ?_
            refine s_drop (i := 7) (L2 := [some (AR 95), some (AI z_1), some (AI q9_2_1), some (AI z_5), some (AI z_69), none, none, none]) rfl ?_
            exact ih70 z_69 v70 ⟨⟨by have hb_ := z32 z_69; omega, by have hb_ := z32 z_69; omega⟩, (by first | exact hl70 | exact lw70 (a := z_46) (b := z_50) hl70 (by omega) (by omega) (by omega) (by omega) (by omega) hab_ (by omega) (by omega)), hj_8⟩ (by first | omega | decide | (dsimp only; omega) | (dsimp only; decide))
        ·
          refine s_aload_n E dX10_layWays_120 rfl rfl ?_
          refine s_gI E fg_X10_230 rfl rfl (jv_lt hj_8 (by decide)) dX10_layWays_121 ?_
          refine z_nm (P := fun z => z.toInt = (v70.2.2.1 95 17).toInt ∧ (-2147483648) ≤ z.toInt ∧ z.toInt ≤ 2147483647) ⟨rfl, z32 _⟩ (fun z_70 hz_70 => ?_)
          refine s_goto (tgt := 141) E dX10_layWays_124 (by decide) ?_
          refine s_istore (L2 := [some (AR 95), some (AI z_1), some (AI q9_2_1), some (AI z_5), some (AI q70_4_7), some (AI z_46), some (AI z_50), some (AI z_70)]) E dX10_layWays_141 (by decide) rfl ?_
          refine s_iload E dX10_layWays_143 rfl ?_
          refine s_iload_n E dX10_layWays_145 rfl rfl ?_
          refine z_icmp_ge (tgt := 152) (u := z_70.toInt) (v := q9_2_1.toInt) E dX10_layWays_146 (by decide) rfl rfl (fun h_71 => ?_) (fun h_71 => ?_)
          ·
            have hab_ : ¬ z_46.toInt = z_50.toInt := by have q_ := jv_door hj_8 q70_4_7.toInt.toNat (by omega) (by omega); rw [← hA_, ← hB_] at q_; omega
            refine s_aload_n E dX10_layWays_152 rfl rfl ?_
            refine s_gR (r := 102) E fg_X10_34 rfl rfl (jv_lt hj_8 (by decide)) (jv_r hj_8 (by decide +kernel)) dX10_layWays_153 ?_
            refine s_iload_n E dX10_layWays_156 rfl rfl ?_
            refine s_bipush (v := 8) E dX10_layWays_157 (by decide) ?_
            refine s_iload E dX10_layWays_159 rfl ?_
            refine z_imul (u := 8) (v := z_46.toInt) E dX10_layWays_161 (by decide) rfl (by omega) (by omega) (fun z_72 hz_72 => ?_)
            refine z_iadd (u := z_5.toInt) (v := z_72.toInt) E dX10_layWays_162 rfl rfl (by omega) (by omega) (fun z_73 hz_73 => ?_)
            refine s_iload E dX10_layWays_163 rfl ?_
            refine z_iadd (u := z_73.toInt) (v := z_50.toInt) E dX10_layWays_165 rfl rfl (by omega) (by omega) (fun z_74 hz_74 => ?_)
            refine s_iconst (v := 1) E dX10_layWays_166 (by decide) ?_
            refine s_iast E rfl (jv_lt hj_8 (by decide)) (z_in (u := z_74.toInt) rfl (by omega) (by omega)) dX10_layWays_167 ?_
            have hj_76 : Jv w (upI v70 102 z_74.toNatClampNeg 1) := (jv_a_102 hj_8 (by decide) (by decide))
            refine s_aload_n E dX10_layWays_168 rfl rfl ?_
            refine s_gR (r := 102) E fg_X10_34 rfl rfl (jv_lt hj_76 (by decide)) (jv_r hj_76 (by decide +kernel)) dX10_layWays_169 ?_
            refine s_iload_n E dX10_layWays_172 rfl rfl ?_
            refine s_bipush (v := 8) E dX10_layWays_173 (by decide) ?_
            refine s_iload E dX10_layWays_175 rfl ?_
            refine z_imul (u := 8) (v := z_50.toInt) E dX10_layWays_177 (by decide) rfl (by omega) (by omega) (fun z_77 hz_77 => ?_)
            refine z_iadd (u := z_5.toInt) (v := z_77.toInt) E dX10_layWays_178 rfl rfl (by omega) (by omega) (fun z_78 hz_78 => ?_)
            refine s_iload E dX10_layWays_179 rfl ?_
            refine z_iadd (u := z_78.toInt) (v := z_46.toInt) E dX10_layWays_181 rfl rfl (by omega) (by omega) (fun z_79 hz_79 => ?_)
            refine s_iconst (v := 1) E dX10_layWays_182 (by decide) ?_
            refine s_iast E rfl (jv_lt hj_76 (by decide)) (z_in (u := z_79.toInt) rfl (by omega) (by omega)) dX10_layWays_183 ?_
            have hj_81 : Jv w (upI (upI v70 102 z_74.toNatClampNeg 1) 102 z_79.toNatClampNeg 1) := (jv_a_102 hj_76 (by decide) (by decide))
            refine z_iinc (u := q70_4_7.toInt) (L2 := fun z_82 => [some (AR 95), some (AI z_1), some (AI q9_2_1), some (AI z_5), some (AI z_82), some (AI z_46), some (AI z_50), some (AI z_70)]) E dX10_layWays_184 rfl rfl (by decide) (fun _ => rfl) (by decide) (by omega) (by omega) (fun z_82 hz_82 => ?_)
            refine s_goto (tgt := 70) E dX10_layWays_187 (by decide) ?_
            refine s_drop (i := 5) (L2 := [some (AR 95), some (AI z_1), some (AI q9_2_1), some (AI z_5), some (AI z_82), none, some (AI z_50), some (AI z_70)]) rfl ?_
            refine s_drop (i := 6) (L2 := [some (AR 95), some (AI z_1), some (AI q9_2_1), some (AI z_5), some (AI z_82), none, none, some (AI z_70)]) rfl ?_
            refine s_drop (i := 7) (L2 := [some (AR 95), some (AI z_1), some (AI q9_2_1), some (AI z_5), some (AI z_82), none, none, none]) rfl ?_
            exact ih70 z_82 (upI (upI v70 102 z_74.toNatClampNeg 1) 102 z_79.toNatClampNeg 1) ⟨⟨by have hb_ := z32 z_82; omega, by have hb_ := z32 z_82; omega⟩, (by first | exact hl70 | exact lw70 (a := z_46) (b := z_50) hl70 (by omega) (by omega) (by omega) (by omega) (by omega) hab_ (by omega) (by omega)), hj_81⟩ (by first | omega | decide | (dsimp only; omega) | (dsimp only; decide))
          ·
            refine s_goto (tgt := 184) E dX10_layWays_149 (by decide) ?_
            refine z_iinc (u := q70_4_7.toInt) (L2 := fun z_83 => [some (AR 95), some (AI z_1), some (AI q9_2_1), some (AI z_5), some (AI z_83), some (AI z_46), some (AI z_50), some (AI z_70)]) E dX10_layWays_184 rfl rfl (by decide) (fun _ => rfl) (by decide) (by omega) (by omega) (fun z_83 hz_83 => ?_)
            refine s_goto (tgt := 70) E dX10_layWays_187 (by decide) ?_
            refine s_drop (i := 5) (L2 := [some (AR 95), some (AI z_1), some (AI q9_2_1), some (AI z_5), some (AI z_83), none, some (AI z_50), some (AI z_70)]) rfl ?_
            refine s_drop (i := 6) (L2 := [some (AR 95), some (AI z_1), some (AI q9_2_1), some (AI z_5), some (AI z_83), none, none, some (AI z_70)]) rfl ?_
            refine s_drop (i := 7) (L2 := [some (AR 95), some (AI z_1), some (AI q9_2_1), some (AI z_5), some (AI z_83), none, none, none]) rfl ?_
            exact ih70 z_83 v70 ⟨⟨by have hb_ := z32 z_83; omega, by have hb_ := z32 z_83; omega⟩, (by first | exact hl70 | exact lw70 (a := z_46) (b := z_50) hl70 (by omega) (by omega) (by omega) (by omega) (by omega) hab_ (by omega) (by omega)), hj_8⟩ (by first | omega | decide | (dsimp only; omega) | (dsimp only; decide))
    ·
      refine s_aload_n E dX10_layWays_33 rfl rfl ?_
      refine s_gR (r := 102) E fg_X10_34 rfl rfl (jv_lt hj_6 (by decide)) (jv_r hj_6 (by decide +kernel)) dX10_layWays_34 ?_
      refine s_iload_n E dX10_layWays_37 rfl rfl ?_
      refine s_iload E dX10_layWays_38 rfl ?_
      refine z_iadd (u := z_5.toInt) (v := q26_4_5.toInt) E dX10_layWays_40 rfl rfl (by omega) (by omega) (fun z_84 hz_84 => ?_)
      refine s_iload E dX10_layWays_41 rfl ?_
      refine s_bipush (v := 8) E dX10_layWays_43 (by decide) ?_
      refine z_idiv (u := q26_4_5.toInt) (v := 8) E dX10_layWays_45 rfl (by decide) (by omega) (by omega) (fun z_85 hz_85 => ?_)
      refine s_iload E dX10_layWays_46 rfl ?_
      refine s_bipush (v := 8) E dX10_layWays_48 (by decide) ?_
      refine z_irem (u := q26_4_5.toInt) (v := 8) E dX10_layWays_50 rfl (by decide) (by omega) (by omega) (fun z_86 hz_86 => ?_)
      refine z_icmp_ne (tgt := 58) (u := z_85.toInt) (v := z_86.toInt) E dX10_layWays_51 (by decide) rfl rfl (fun h_87 => ?_) (fun h_87 => ?_)
      ·
        refine s_ldc E k_1513 rfl dX10_layWays_58 ?_
        refine s_iast E rfl (jv_lt hj_6 (by decide)) (z_in (u := z_84.toInt) rfl (by omega) (by omega)) dX10_layWays_60 ?_
        have hj_89 : Jv w (upI v26 102 z_84.toNatClampNeg 1000000000) := (jv_a_102 hj_6 (by decide) (by decide))
        refine z_iinc (u := q26_4_5.toInt) (L2 := fun z_90 => [some (AR 95), some (AI z_1), some (AI q9_2_1), some (AI z_5), some (AI z_90), none, none, none]) E dX10_layWays_61 rfl rfl (by decide) (fun _ => rfl) (by decide) (by omega) (by omega) (fun z_90 hz_90 => ?_)
        refine s_goto (tgt := 26) E dX10_layWays_64 (by decide) ?_
        exact ih26 z_90 (upI v26 102 z_84.toNatClampNeg 1000000000) ⟨⟨by have hb_ := z32 z_90; omega, by have hb_ := z32 z_90; omega⟩, (lw26 hl26 (by omega) (by omega) (by omega) (by omega) (by omega) (by first | exact Or.inl ⟨by omega, by decide⟩ | exact Or.inr ⟨by omega, by decide⟩)), hj_89⟩ (by first | omega | decide | (dsimp only; omega) | (dsimp only; decide))
      ·
        refine s_iconst (v := 0) E dX10_layWays_54 (by decide) ?_
        refine s_goto (tgt := 60) E dX10_layWays_55 (by decide) ?_
        refine s_iast E rfl (jv_lt hj_6 (by decide)) (z_in (u := z_84.toInt) rfl (by omega) (by omega)) dX10_layWays_60 ?_
        have hj_92 : Jv w (upI v26 102 z_84.toNatClampNeg 0) := (jv_a_102 hj_6 (by decide) (by decide))
        refine z_iinc (u := q26_4_5.toInt) (L2 := fun z_93 => [some (AR 95), some (AI z_1), some (AI q9_2_1), some (AI z_5), some (AI z_93), none, none, none]) E dX10_layWays_61 rfl rfl (by decide) (fun _ => rfl) (by decide) (by omega) (by omega) (fun z_93 hz_93 => ?_)
        refine s_goto (tgt := 26) E dX10_layWays_64 (by decide) ?_
        exact ih26 z_93 (upI v26 102 z_84.toNatClampNeg 0) ⟨⟨by have hb_ := z32 z_93; omega, by have hb_ := z32 z_93; omega⟩, (lw26 hl26 (by omega) (by omega) (by omega) (by omega) (by omega) (by first | exact Or.inl ⟨by omega, by decide⟩ | exact Or.inr ⟨by omega, by decide⟩)), hj_92⟩ (by first | omega | decide | (dsimp only; omega) | (dsimp only; decide))
set_option maxRecDepth 20000 in
set_option maxHeartbeats 2000000 in
theorem Z_X10_ladies_95 (l : Launch) (D : va_G) (aC : Nat → ClassId) (b : Nat) (w : XW)  (hI : Iv w)  : CnI l D aC b M_X10_ladies 0 0 0 0 [AR 95] w (fun r u => (0 ≤ r.toInt ∧ r.toInt ≤ 6 ∧ (¬ r.toInt = 0 ∨ (0 ≤ (w.2.2.1 96 5).toInt ∧ (w.2.2.1 96 5).toInt ≤ 6)) ∧ (r.toInt = 0 ∨ (0 ≤ (w.2.2.1 96 5).toInt ∧ (w.2.2.1 96 5).toInt ≤ 6))) ∧ (r.toInt = (w.2.2.1 96 5).toInt) ∧ w = u) := by
  refine cn_I (own := RX10) (nm := "ladies") (L0 := [some (AR 95)]) (by decide +kernel) rfl rfl (Nat.le_of_ble_eq_true rfl) rfl ?_
  intro p e s m args below meth c E hin
  have hJ : Jv w w := jv_rfl hI
  refine s_aload_n E dX10_ladies_0 rfl rfl ?_
  refine s_gR (r := 96) E fg_X10_9 rfl rfl (jv_lt hJ (by decide)) (jv_r hJ (by decide +kernel)) dX10_ladies_1 ?_
  refine s_iconst (v := 5) E dX10_ladies_4 (by decide) ?_
  refine s_iald E rfl (jv_lt hJ (by decide)) (z_in (u := 5) (by decide) (by omega) (by omega)) dX10_ladies_5 ?_
  refine z_nm (P := fun z => z.toInt = (w.2.2.1 96 5).toInt ∧ 0 ≤ z.toInt ∧ z.toInt ≤ 6) ⟨rfl, (rw_96_5 hJ)⟩ (fun z_1 hz_1 => ?_)
  exact r_int E dX10_ladies_6 ⟨⟨by have hb_ := z32 z_1; omega, by have hb_ := z32 z_1; omega, by first | (right; decide) | (have hb_ := z32 z_1; omega) | (have hb_ := z32 z_1; have hc_ := z32 (w.2.2.1 96 5); omega), by first | (right; decide) | (have hb_ := z32 z_1; omega) | (have hb_ := z32 z_1; have hc_ := z32 (w.2.2.1 96 5); omega)⟩, (by omega), rfl⟩
set_option maxRecDepth 20000 in
set_option maxHeartbeats 2000000 in
theorem Z_X10_dances_95 (l : Launch) (D : va_G) (aC : Nat → ClassId) (b : Nat) (w : XW)  (hI : Iv w)  : CnI l D aC b M_X10_dances 0 0 0 0 [AR 95] w (fun r u => (0 ≤ r.toInt ∧ r.toInt ≤ 14 ∧ (¬ r.toInt = 0 ∨ (0 ≤ (w.2.2.1 96 1).toInt ∧ (w.2.2.1 96 1).toInt ≤ 14)) ∧ (r.toInt = 0 ∨ (0 ≤ (w.2.2.1 96 1).toInt ∧ (w.2.2.1 96 1).toInt ≤ 14))) ∧ (r.toInt = (w.2.2.1 96 1).toInt) ∧ w = u) := by
  refine cn_I (own := RX10) (nm := "dances") (L0 := [some (AR 95)]) (by decide +kernel) rfl rfl (Nat.le_of_ble_eq_true rfl) rfl ?_
  intro p e s m args below meth c E hin
  have hJ : Jv w w := jv_rfl hI
  refine s_aload_n E dX10_dances_0 rfl rfl ?_
  refine s_gR (r := 96) E fg_X10_9 rfl rfl (jv_lt hJ (by decide)) (jv_r hJ (by decide +kernel)) dX10_dances_1 ?_
  refine s_iconst (v := 1) E dX10_dances_4 (by decide) ?_
  refine s_iald E rfl (jv_lt hJ (by decide)) (z_in (u := 1) (by decide) (by omega) (by omega)) dX10_dances_5 ?_
  refine z_nm (P := fun z => z.toInt = (w.2.2.1 96 1).toInt ∧ 0 ≤ z.toInt ∧ z.toInt ≤ 14) ⟨rfl, (rw_96_1 hJ)⟩ (fun z_1 hz_1 => ?_)
  exact r_int E dX10_dances_6 ⟨⟨by have hb_ := z32 z_1; omega, by have hb_ := z32 z_1; omega, by first | (right; decide) | (have hb_ := z32 z_1; omega) | (have hb_ := z32 z_1; have hc_ := z32 (w.2.2.1 96 1); omega), by first | (right; decide) | (have hb_ := z32 z_1; omega) | (have hb_ := z32 z_1; have hc_ := z32 (w.2.2.1 96 1); omega)⟩, (by omega), rfl⟩
set_option maxRecDepth 20000 in
set_option maxHeartbeats 2000000 in
theorem Z_X10_atOf_95 (l : Launch) (D : va_G) (aC : Nat → ClassId) (b : Nat) (w : XW) (x1 : Int32) (x2 : Int32) (hI : Iv w) (hx1 : 0 ≤ x1.toInt ∧ x1.toInt ≤ 5) (hx2 : 0 ≤ x2.toInt ∧ x2.toInt ≤ 14) : CnI l D aC b M_X10_atOf 0 0 0 0 [AR 95, AI x1, AI x2] w (fun r u => (0 ≤ r.toInt ∧ r.toInt ≤ 7) ∧ w = u) := by
  refine cn_I (own := RX10) (nm := "atOf") (L0 := [some (AR 95), some (AI x1), some (AI x2)]) (by decide +kernel) rfl rfl (Nat.le_of_ble_eq_true rfl) rfl ?_
  intro p e s m args below meth c E hin
  have hJ : Jv w w := jv_rfl hI
  refine s_aload_n E dX10_atOf_0 rfl rfl ?_
  refine s_gR (r := 103) E fg_X10_37 rfl rfl (jv_lt hJ (by decide)) (jv_r hJ (by decide +kernel)) dX10_atOf_1 ?_
  refine s_bipush (v := 6) E dX10_atOf_4 (by decide) ?_
  refine s_iload_n E dX10_atOf_6 rfl rfl ?_
  refine z_imul (u := 6) (v := x2.toInt) E dX10_atOf_7 (by decide) rfl (by omega) (by omega) (fun z_1 hz_1 => ?_)
  refine s_iload_n E dX10_atOf_8 rfl rfl ?_
  refine z_iadd (u := z_1.toInt) (v := x1.toInt) E dX10_atOf_9 rfl rfl (by omega) (by omega) (fun z_2 hz_2 => ?_)
  refine s_iald E rfl (jv_lt hJ (by decide)) (z_in (u := z_2.toInt) rfl (by omega) (by omega)) dX10_atOf_10 ?_
  refine z_nm (P := fun z => z.toInt = (w.2.2.1 103 z_2.toNatClampNeg).toInt ∧ 0 ≤ z.toInt ∧ z.toInt ≤ 7) ⟨rfl, (ra_103 hJ _)⟩ (fun z_3 hz_3 => ?_)
  exact r_int E dX10_atOf_11 ⟨⟨by have hb_ := z32 z_3; omega, by have hb_ := z32 z_3; omega⟩, rfl⟩
set_option maxRecDepth 20000 in
set_option maxHeartbeats 2000000 in
theorem Z_X10_biddenOf_95 (l : Launch) (D : va_G) (aC : Nat → ClassId) (b : Nat) (w : XW) (x1 : Int32) (x2 : Int32) (hI : Iv w) (hx1 : 0 ≤ x1.toInt ∧ x1.toInt ≤ 5) (hx2 : 0 ≤ x2.toInt ∧ x2.toInt ≤ 14) : CnI l D aC b M_X10_biddenOf 0 0 0 0 [AR 95, AI x1, AI x2] w (fun r u => ((-1) ≤ r.toInt ∧ r.toInt ≤ 7 ∧ (¬ r.toInt = 0 ∨ (0 ≤ (w.2.2.1 96 7).toInt ∧ (w.2.2.1 96 7).toInt ≤ 10)) ∧ (¬ r.toInt = 0 ∨ (0 ≤ (w.2.2.1 96 8).toInt ∧ (w.2.2.1 96 8).toInt ≤ 30)) ∧ (r.toInt = 0 ∨ (0 ≤ (w.2.2.1 96 7).toInt ∧ (w.2.2.1 96 7).toInt ≤ 10)) ∧ (r.toInt = 0 ∨ (0 ≤ (w.2.2.1 96 8).toInt ∧ (w.2.2.1 96 8).toInt ≤ 30))) ∧ w = u) := by
  refine cn_I (own := RX10) (nm := "biddenOf") (L0 := [some (AR 95), some (AI x1), some (AI x2), none, none, none, none, none, none, none, none]) (by decide +kernel) rfl rfl (Nat.le_of_ble_eq_true rfl) rfl ?_
  intro p e s m args below meth c E hin
  have hJ : Jv w w := jv_rfl hI
  refine s_iconst (v := (-1)) E dX10_biddenOf_0 (by decide) ?_
  refine s_istore_n (L2 := [some (AR 95), some (AI x1), some (AI x2), some (AI (-1)), none, none, none, none, none, none, none]) E dX10_biddenOf_1 rfl (by decide) rfl ?_
  refine s_iconst (v := (-1)) E dX10_biddenOf_2 (by decide) ?_
  refine s_istore (L2 := [some (AR 95), some (AI x1), some (AI x2), some (AI (-1)), some (AI (-1)), none, none, none, none, none, none]) E dX10_biddenOf_3 (by decide) rfl ?_
  refine s_iconst (v := 0) E dX10_biddenOf_5 (by decide) ?_
  refine s_istore (L2 := [some (AR 95), some (AI x1), some (AI x2), some (AI (-1)), some (AI (-1)), some (AI 0), none, none, none, none, none]) E dX10_biddenOf_6 (by decide) rfl ?_
  refine z_loop (St := Int32 × Int32 × Int32) (Pi := fun ⟨q8_3_0, q8_4_0, q8_5_0⟩ v8 => ((-1) ≤ q8_3_0.toInt ∧ q8_3_0.toInt ≤ 7) ∧ ((-1) ≤ q8_4_0.toInt ∧ q8_4_0.toInt ≤ 14) ∧ (0 ≤ q8_5_0.toInt ∧ q8_5_0.toInt ≤ 40) ∧ w = v8) (Lf := fun ⟨q8_3_0, q8_4_0, q8_5_0⟩ => [some (AR 95), some (AI x1), some (AI x2), some (AI q8_3_0), some (AI q8_4_0), some (AI q8_5_0), none, none, none, none, none]) (fun ⟨q8_3_0, q8_4_0, q8_5_0⟩ _ => (41 - q8_5_0.toInt).toNat) ⟨(-1), (-1), 0⟩ ⟨⟨by decide, by decide⟩, ⟨by decide, by decide⟩, ⟨by decide, by decide⟩, rfl⟩ ?_
  rintro ⟨q8_3_0, q8_4_0, q8_5_0⟩ v8 ⟨hq8_3, hq8_4, hq8_5, hv_⟩ ih8
  subst hv_
  refine s_loc (L2 := [some (AR 95), some (AI x1), some (AI x2), some (AI q8_3_0), some (AI q8_4_0), some (AI q8_5_0), none, none, none, none, none]) rfl ?_
  refine s_iload E dX10_biddenOf_8 rfl ?_
  refine s_aload_n E dX10_biddenOf_10 rfl rfl ?_
  refine s_gR (r := 96) E fg_X10_9 rfl rfl (jv_lt hJ (by decide)) (jv_r hJ (by decide +kernel)) dX10_biddenOf_11 ?_
  refine s_bipush (v := 7) E dX10_biddenOf_14 (by decide) ?_
  refine s_iald E rfl (jv_lt hJ (by decide)) (z_in (u := 7) (by decide) (by omega) (by omega)) dX10_biddenOf_16 ?_
  refine z_nm (P := fun z => z.toInt = (w.2.2.1 96 7).toInt ∧ 0 ≤ z.toInt ∧ z.toInt ≤ 10) ⟨rfl, (rw_96_7 hJ)⟩ (fun z_2 hz_2 => ?_)
  refine s_aload_n E dX10_biddenOf_17 rfl rfl ?_
  refine s_gR (r := 96) E fg_X10_9 rfl rfl (jv_lt hJ (by decide)) (jv_r hJ (by decide +kernel)) dX10_biddenOf_18 ?_
  refine s_bipush (v := 8) E dX10_biddenOf_21 (by decide) ?_
  refine s_iald E rfl (jv_lt hJ (by decide)) (z_in (u := 8) (by decide) (by omega) (by omega)) dX10_biddenOf_23 ?_
  refine z_nm (P := fun z => z.toInt = (w.2.2.1 96 8).toInt ∧ 0 ≤ z.toInt ∧ z.toInt ≤ 30) ⟨rfl, (rw_96_8 hJ)⟩ (fun z_3 hz_3 => ?_)
  refine z_iadd (u := z_2.toInt) (v := z_3.toInt) E dX10_biddenOf_24 rfl rfl (by omega) (by omega) (fun z_4 hz_4 => ?_)
  refine z_icmp_ge (tgt := 210) (u := q8_5_0.toInt) (v := z_4.toInt) E dX10_biddenOf_25 (by decide) rfl rfl (fun h_5 => ?_) (fun h_5 => ?_)
  ·
    refine s_iload_n E dX10_biddenOf_210 rfl rfl ?_
    exact r_int E dX10_biddenOf_211 ⟨⟨by have hb_ := z32 q8_3_0; omega, by have hb_ := z32 q8_3_0; omega, by first | (right; decide) | (have hb_ := z32 q8_3_0; omega) | (have hb_ := z32 q8_3_0; have hc_ := z32 (w.2.2.1 96 7); omega), by first | (right; decide) | (have hb_ := z32 q8_3_0; omega) | (have hb_ := z32 q8_3_0; have hc_ := z32 (w.2.2.1 96 8); omega), by first | (right; decide) | (have hb_ := z32 q8_3_0; omega) | (have hb_ := z32 q8_3_0; have hc_ := z32 (w.2.2.1 96 7); omega), by first | (right; decide) | (have hb_ := z32 q8_3_0; omega) | (have hb_ := z32 q8_3_0; have hc_ := z32 (w.2.2.1 96 8); omega)⟩, rfl⟩
  ·
    refine s_iload E dX10_biddenOf_28 rfl ?_
    refine s_aload_n E dX10_biddenOf_30 rfl rfl ?_
    refine s_gR (r := 96) E fg_X10_9 rfl rfl (jv_lt hJ (by decide)) (jv_r hJ (by decide +kernel)) dX10_biddenOf_31 ?_
    refine s_bipush (v := 7) E dX10_biddenOf_34 (by decide) ?_
    refine s_iald E rfl (jv_lt hJ (by decide)) (z_in (u := 7) (by decide) (by omega) (by omega)) dX10_biddenOf_36 ?_
    refine z_nm (P := fun z => z.toInt = (w.2.2.1 96 7).toInt ∧ 0 ≤ z.toInt ∧ z.toInt ≤ 10) ⟨rfl, (rw_96_7 hJ)⟩ (fun z_6 hz_6 => ?_)
    refine z_icmp_ge (tgt := 44) (u := q8_5_0.toInt) (v := z_6.toInt) E dX10_biddenOf_37 (by decide) rfl rfl (fun h_7 => ?_) (fun h_7 => ?_)
    ·
      refine s_iconst (v := 0) E dX10_biddenOf_44 (by decide) ?_
      refine s_istore (L2 := [some (AR 95), some (AI x1), some (AI x2), some (AI q8_3_0), some (AI q8_4_0), some (AI q8_5_0), some (AI 0), none, none, none, none]) E dX10_biddenOf_45 (by decide) rfl ?_
      refine s_iload E dX10_biddenOf_47 rfl ?_
      refine z_if_eq (tgt := 56) (u := 0) E dX10_biddenOf_49 (by decide) (by decide) (fun h_8 => ?_) (fun h_8 => absurd h_8 (by omega))
      refine s_aload_n E dX10_biddenOf_56 rfl rfl ?_
      refine s_gR (r := 96) E fg_X10_9 rfl rfl (jv_lt hJ (by decide)) (jv_r hJ (by decide +kernel)) dX10_biddenOf_57 ?_
      refine s_bipush (v := 104) E dX10_biddenOf_60 (by decide) ?_
      refine s_iload E dX10_biddenOf_62 rfl ?_
      refine z_iadd (u := 104) (v := q8_5_0.toInt) E dX10_biddenOf_64 (by decide) rfl (by omega) (by omega) (fun z_9 hz_9 => ?_)
      refine s_aload_n E dX10_biddenOf_65 rfl rfl ?_
      refine s_gR (r := 96) E fg_X10_9 rfl rfl (jv_lt hJ (by decide)) (jv_r hJ (by decide +kernel)) dX10_biddenOf_66 ?_
      refine s_bipush (v := 7) E dX10_biddenOf_69 (by decide) ?_
      refine s_iald E rfl (jv_lt hJ (by decide)) (z_in (u := 7) (by decide) (by omega) (by omega)) dX10_biddenOf_71 ?_
      refine z_nm (P := fun z => z.toInt = (w.2.2.1 96 7).toInt ∧ 0 ≤ z.toInt ∧ z.toInt ≤ 10) ⟨rfl, (rw_96_7 hJ)⟩ (fun z_10 hz_10 => ?_)
      refine z_isub (u := z_9.toInt) (v := z_10.toInt) E dX10_biddenOf_72 rfl rfl (by omega) (by omega) (fun z_11 hz_11 => ?_)
      have hhz_11 : 104 ≤ z_11.toInt ∧ z_11.toInt ≤ 133 := by omega
      refine s_iald E rfl (jv_lt hJ (by decide)) (z_in (u := z_11.toInt) rfl (by omega) (by omega)) dX10_biddenOf_73 ?_
      refine z_nm (P := fun z => z.toInt = (w.2.2.1 96 z_11.toNatClampNeg).toInt ∧ 0 ≤ z.toInt ∧ z.toInt ≤ 100075 ∧ (104 ≤ z_11.toInt → z_11.toInt < 134 → okA z.toInt)) ⟨rfl, (rs_w hJ (by decide) 0 100075 104 133 1 z_11 z_11.toInt (by decide +kernel) rfl (by omega) (by omega) (by omega))⟩ (fun z_12 hz_12 => ?_)
      have hkz_12 := hz_12.2.2.2 (by omega) (by omega)
      unfold okA at hkz_12
      refine s_istore (L2 := [some (AR 95), some (AI x1), some (AI x2), some (AI q8_3_0), some (AI q8_4_0), some (AI q8_5_0), some (AI 0), some (AI z_12), none, none, none]) E dX10_biddenOf_74 (by decide) rfl ?_
      refine s_iload E dX10_biddenOf_76 rfl ?_
      refine s_ldc E k_1504 rfl dX10_biddenOf_78 ?_
      refine z_icmp_lt (tgt := 86) (u := z_12.toInt) (v := 100000) E dX10_biddenOf_80 (by decide) rfl (by decide) (fun h_13 => ?_) (fun h_13 => ?_)
      ·
        refine s_iload E dX10_biddenOf_86 rfl ?_
        refine z_if_eq (tgt := 106) (u := 0) E dX10_biddenOf_88 (by decide) (by decide) (fun h_14 => ?_) (fun h_14 => absurd h_14 (by omega))
        refine s_iload E dX10_biddenOf_106 rfl ?_
        refine s_sipush (v := 1000) E dX10_biddenOf_108 (by decide) ?_
        refine z_idiv (u := z_12.toInt) (v := 1000) E dX10_biddenOf_111 rfl (by decide) (by omega) (by omega) (fun z_15 hz_15 => ?_)
        refine s_istore (L2 := [some (AR 95), some (AI x1), some (AI x2), some (AI q8_3_0), some (AI q8_4_0), some (AI q8_5_0), some (AI 0), some (AI z_12), some (AI z_15), none, none]) E dX10_biddenOf_112 (by decide) rfl ?_
        refine s_iload E dX10_biddenOf_114 rfl ?_
        refine z_if_eq (tgt := 136) (u := 0) E dX10_biddenOf_116 (by decide) (by decide) (fun h_16 => ?_) (fun h_16 => absurd h_16 (by omega))
        refine s_iload E dX10_biddenOf_136 rfl ?_
        refine s_bipush (v := 100) E dX10_biddenOf_138 (by decide) ?_
        refine z_idiv (u := z_12.toInt) (v := 100) E dX10_biddenOf_140 rfl (by decide) (by omega) (by omega) (fun z_17 hz_17 => ?_)
        refine s_bipush (v := 10) E dX10_biddenOf_141 (by decide) ?_
        refine z_irem (u := z_17.toInt) (v := 10) E dX10_biddenOf_143 rfl (by decide) (by omega) (by omega) (fun z_18 hz_18 => ?_)
        have hhz_18 : 0 ≤ z_18.toInt ∧ z_18.toInt ≤ 7 := by omega
        refine s_istore (L2 := [some (AR 95), some (AI x1), some (AI x2), some (AI q8_3_0), some (AI q8_4_0), some (AI q8_5_0), some (AI 0), some (AI z_12), some (AI z_15), some (AI z_18), none]) E dX10_biddenOf_144 (by decide) rfl ?_
        refine s_iload E dX10_biddenOf_146 rfl ?_
        refine z_if_eq (tgt := 168) (u := 0) E dX10_biddenOf_148 (by decide) (by decide) (fun h_19 => ?_) (fun h_19 => absurd h_19 (by omega))
        refine s_iload E dX10_biddenOf_168 rfl ?_
        refine s_bipush (v := 100) E dX10_biddenOf_170 (by decide) ?_
        refine z_irem (u := z_12.toInt) (v := 100) E dX10_biddenOf_172 rfl (by decide) (by omega) (by omega) (fun z_20 hz_20 => ?_)
        refine s_istore (L2 := [some (AR 95), some (AI x1), some (AI x2), some (AI q8_3_0), some (AI q8_4_0), some (AI q8_5_0), some (AI 0), some (AI z_12), some (AI z_15), some (AI z_18), some (AI z_20)]) E dX10_biddenOf_173 (by decide) rfl ?_
        refine s_iload E dX10_biddenOf_175 rfl ?_
        refine s_iload_n E dX10_biddenOf_177 rfl rfl ?_
        refine z_icmp_ne (tgt := 204) (u := z_15.toInt) (v := x1.toInt) E dX10_biddenOf_178 (by decide) rfl rfl (fun h_21 => ?_) (fun h_21 => ?_)
        ·
          refine z_iinc (u := q8_5_0.toInt) (L2 := fun z_22 => [some (AR 95), some (AI x1), some (AI x2), some (AI q8_3_0), some (AI q8_4_0), some (AI z_22), some (AI 0), some (AI z_12), some (AI z_15), some (AI z_18), some (AI z_20)]) E dX10_biddenOf_204 rfl rfl (by decide) (fun _ => rfl) (by decide) (by omega) (by omega) (fun z_22 hz_22 => ?_)
          refine s_goto (tgt := 8) E dX10_biddenOf_207 (by decide) ?_
          refine s_drop (i := 6) (L2 := [some (AR 95), some (AI x1), some (AI x2), some (AI q8_3_0), some (AI q8_4_0), some (AI z_22), none, some (AI z_12), some (AI z_15), some (AI z_18), some (AI z_20)]) rfl ?_
          refine s_drop (i := 7) (L2 := [some (AR 95), some (AI x1), some (AI x2), some (AI q8_3_0), some (AI q8_4_0), some (AI z_22), none, none, some (AI z_15), some (AI z_18), some (AI z_20)]) rfl ?_
          refine s_drop (i := 8) (L2 := [some (AR 95), some (AI x1), some (AI x2), some (AI q8_3_0), some (AI q8_4_0), some (AI z_22), none, none, none, some (AI z_18), some (AI z_20)]) rfl ?_
          refine s_drop (i := 9) (L2 := [some (AR 95), some (AI x1), some (AI x2), some (AI q8_3_0), some (AI q8_4_0), some (AI z_22), none, none, none, none, some (AI z_20)]) rfl ?_
          refine s_drop (i := 10) (L2 := [some (AR 95), some (AI x1), some (AI x2), some (AI q8_3_0), some (AI q8_4_0), some (AI z_22), none, none, none, none, none]) rfl ?_
          exact ih8 ⟨q8_3_0, q8_4_0, z_22⟩ w ⟨⟨by have hb_ := z32 q8_3_0; omega, by have hb_ := z32 q8_3_0; omega⟩, ⟨by have hb_ := z32 q8_4_0; omega, by have hb_ := z32 q8_4_0; omega⟩, ⟨by have hb_ := z32 z_22; omega, by have hb_ := z32 z_22; omega⟩, rfl⟩ (by first | omega | decide | (dsimp only; omega) | (dsimp only; decide))
        ·
          refine s_iload E dX10_biddenOf_181 rfl ?_
          refine s_iload_n E dX10_biddenOf_183 rfl rfl ?_
          refine z_icmp_gt (tgt := 204) (u := z_20.toInt) (v := x2.toInt) E dX10_biddenOf_184 (by decide) rfl rfl (fun h_23 => ?_) (fun h_23 => ?_)
          ·
            refine z_iinc (u := q8_5_0.toInt) (L2 := fun z_24 => [some (AR 95), some (AI x1), some (AI x2), some (AI q8_3_0), some (AI q8_4_0), some (AI z_24), some (AI 0), some (AI z_12), some (AI z_15), some (AI z_18), some (AI z_20)]) E dX10_biddenOf_204 rfl rfl (by decide) (fun _ => rfl) (by decide) (by omega) (by omega) (fun z_24 hz_24 => ?_)
            refine s_goto (tgt := 8) E dX10_biddenOf_207 (by decide) ?_
            refine s_drop (i := 6) (L2 := [some (AR 95), some (AI x1), some (AI x2), some (AI q8_3_0), some (AI q8_4_0), some (AI z_24), none, some (AI z_12), some (AI z_15), some (AI z_18), some (AI z_20)]) rfl ?_
            refine s_drop (i := 7) (L2 := [some (AR 95), some (AI x1), some (AI x2), some (AI q8_3_0), some (AI q8_4_0), some (AI z_24), none, none, some (AI z_15), some (AI z_18), some (AI z_20)]) rfl ?_
            refine s_drop (i := 8) (L2 := [some (AR 95), some (AI x1), some (AI x2), some (AI q8_3_0), some (AI q8_4_0), some (AI z_24), none, none, none, some (AI z_18), some (AI z_20)]) rfl ?_
            refine s_drop (i := 9) (L2 := [some (AR 95), some (AI x1), some (AI x2), some (AI q8_3_0), some (AI q8_4_0), some (AI z_24), none, none, none, none, some (AI z_20)]) rfl ?_
            refine s_drop (i := 10) (L2 := [some (AR 95), some (AI x1), some (AI x2), some (AI q8_3_0), some (AI q8_4_0), some (AI z_24), none, none, none, none, none]) rfl ?_
            exact ih8 ⟨q8_3_0, q8_4_0, z_24⟩ w ⟨⟨by have hb_ := z32 q8_3_0; omega, by have hb_ := z32 q8_3_0; omega⟩, ⟨by have hb_ := z32 q8_4_0; omega, by have hb_ := z32 q8_4_0; omega⟩, ⟨by have hb_ := z32 z_24; omega, by have hb_ := z32 z_24; omega⟩, rfl⟩ (by first | omega | decide | (dsimp only; omega) | (dsimp only; decide))
          ·
            refine s_iload E dX10_biddenOf_187 rfl ?_
            refine s_iload E dX10_biddenOf_189 rfl ?_
            refine z_icmp_ge (tgt := 197) (u := z_20.toInt) (v := q8_4_0.toInt) E dX10_biddenOf_191 (by decide) rfl rfl (fun h_25 => ?_) (fun h_25 => ?_)
            ·
              refine s_iload E dX10_biddenOf_197 rfl ?_
              refine s_istore (L2 := [some (AR 95), some (AI x1), some (AI x2), some (AI q8_3_0), some (AI z_20), some (AI q8_5_0), some (AI 0), some (AI z_12), some (AI z_15), some (AI z_18), some (AI z_20)]) E dX10_biddenOf_199 (by decide) rfl ?_
              refine s_iload E dX10_biddenOf_201 rfl ?_
              refine s_istore_n (L2 := [some (AR 95), some (AI x1), some (AI x2), some (AI z_18), some (AI z_20), some (AI q8_5_0), some (AI 0), some (AI z_12), some (AI z_15), some (AI z_18), some (AI z_20)]) E dX10_biddenOf_203 rfl (by decide) rfl ?_
              refine z_iinc (u := q8_5_0.toInt) (L2 := fun z_26 => [some (AR 95), some (AI x1), some (AI x2), some (AI z_18), some (AI z_20), some (AI z_26), some (AI 0), some (AI z_12), some (AI z_15), some (AI z_18), some (AI z_20)]) E dX10_biddenOf_204 rfl rfl (by decide) (fun _ => rfl) (by decide) (by omega) (by omega) (fun z_26 hz_26 => ?_)
              refine s_goto (tgt := 8) E dX10_biddenOf_207 (by decide) ?_
              refine s_drop (i := 6) (L2 := [some (AR 95), some (AI x1), some (AI x2), some (AI z_18), some (AI z_20), some (AI z_26), none, some (AI z_12), some (AI z_15), some (AI z_18), some (AI z_20)]) rfl ?_
              refine s_drop (i := 7) (L2 := [some (AR 95), some (AI x1), some (AI x2), some (AI z_18), some (AI z_20), some (AI z_26), none, none, some (AI z_15), some (AI z_18), some (AI z_20)]) rfl ?_
              refine s_drop (i := 8) (L2 := [some (AR 95), some (AI x1), some (AI x2), some (AI z_18), some (AI z_20), some (AI z_26), none, none, none, some (AI z_18), some (AI z_20)]) rfl ?_
              refine s_drop (i := 9) (L2 := [some (AR 95), some (AI x1), some (AI x2), some (AI z_18), some (AI z_20), some (AI z_26), none, none, none, none, some (AI z_20)]) rfl ?_
              refine s_drop (i := 10) (L2 := [some (AR 95), some (AI x1), some (AI x2), some (AI z_18), some (AI z_20), some (AI z_26), none, none, none, none, none]) rfl ?_
              exact ih8 ⟨z_18, z_20, z_26⟩ w ⟨⟨by have hb_ := z32 z_18; omega, by have hb_ := z32 z_18; omega⟩, ⟨by have hb_ := z32 z_20; omega, by have hb_ := z32 z_20; omega⟩, ⟨by have hb_ := z32 z_26; omega, by have hb_ := z32 z_26; omega⟩, rfl⟩ (by first | omega | decide | (dsimp only; omega) | (dsimp only; decide))
            ·
              refine s_goto (tgt := 204) E dX10_biddenOf_194 (by decide) ?_
              refine z_iinc (u := q8_5_0.toInt) (L2 := fun z_27 => [some (AR 95), some (AI x1), some (AI x2), some (AI q8_3_0), some (AI q8_4_0), some (AI z_27), some (AI 0), some (AI z_12), some (AI z_15), some (AI z_18), some (AI z_20)]) E dX10_biddenOf_204 rfl rfl (by decide) (fun _ => rfl) (by decide) (by omega) (by omega) (fun z_27 hz_27 => ?_)
              refine s_goto (tgt := 8) E dX10_biddenOf_207 (by decide) ?_
              refine s_drop (i := 6) (L2 := [some (AR 95), some (AI x1), some (AI x2), some (AI q8_3_0), some (AI q8_4_0), some (AI z_27), none, some (AI z_12), some (AI z_15), some (AI z_18), some (AI z_20)]) rfl ?_
              refine s_drop (i := 7) (L2 := [some (AR 95), some (AI x1), some (AI x2), some (AI q8_3_0), some (AI q8_4_0), some (AI z_27), none, none, some (AI z_15), some (AI z_18), some (AI z_20)]) rfl ?_
              refine s_drop (i := 8) (L2 := [some (AR 95), some (AI x1), some (AI x2), some (AI q8_3_0), some (AI q8_4_0), some (AI z_27), none, none, none, some (AI z_18), some (AI z_20)]) rfl ?_
              refine s_drop (i := 9) (L2 := [some (AR 95), some (AI x1), some (AI x2), some (AI q8_3_0), some (AI q8_4_0), some (AI z_27), none, none, none, none, some (AI z_20)]) rfl ?_
              refine s_drop (i := 10) (L2 := [some (AR 95), some (AI x1), some (AI x2), some (AI q8_3_0), some (AI q8_4_0), some (AI z_27), none, none, none, none, none]) rfl ?_
              exact ih8 ⟨q8_3_0, q8_4_0, z_27⟩ w ⟨⟨by have hb_ := z32 q8_3_0; omega, by have hb_ := z32 q8_3_0; omega⟩, ⟨by have hb_ := z32 q8_4_0; omega, by have hb_ := z32 q8_4_0; omega⟩, ⟨by have hb_ := z32 z_27; omega, by have hb_ := z32 z_27; omega⟩, rfl⟩ (by first | omega | decide | (dsimp only; omega) | (dsimp only; decide))
      ·
        refine s_goto (tgt := 204) E dX10_biddenOf_83 (by decide) ?_
        refine z_iinc (u := q8_5_0.toInt) (L2 := fun z_28 => [some (AR 95), some (AI x1), some (AI x2), some (AI q8_3_0), some (AI q8_4_0), some (AI z_28), some (AI 0), some (AI z_12), none, none, none]) E dX10_biddenOf_204 rfl rfl (by decide) (fun _ => rfl) (by decide) (by omega) (by omega) (fun z_28 hz_28 => ?_)
        refine s_goto (tgt := 8) E dX10_biddenOf_207 (by decide) ?_
        refine s_drop (i := 6) (L2 := [some (AR 95), some (AI x1), some (AI x2), some (AI q8_3_0), some (AI q8_4_0), some (AI z_28), none, some (AI z_12), none, none, none]) rfl ?_
        refine s_drop (i := 7) (L2 := [some (AR 95), some (AI x1), some (AI x2), some (AI q8_3_0), some (AI q8_4_0), some (AI z_28), none, none, none, none, none]) rfl ?_
        exact ih8 ⟨q8_3_0, q8_4_0, z_28⟩ w ⟨⟨by have hb_ := z32 q8_3_0; omega, by have hb_ := z32 q8_3_0; omega⟩, ⟨by have hb_ := z32 q8_4_0; omega, by have hb_ := z32 q8_4_0; omega⟩, ⟨by have hb_ := z32 z_28; omega, by have hb_ := z32 z_28; omega⟩, rfl⟩ (by first | omega | decide | (dsimp only; omega) | (dsimp only; decide))
    ·
      refine s_iconst (v := 1) E dX10_biddenOf_40 (by decide) ?_
      refine s_goto (tgt := 45) E dX10_biddenOf_41 (by decide) ?_
      refine s_istore (L2 := [some (AR 95), some (AI x1), some (AI x2), some (AI q8_3_0), some (AI q8_4_0), some (AI q8_5_0), some (AI 1), none, none, none, none]) E dX10_biddenOf_45 (by decide) rfl ?_
      refine s_iload E dX10_biddenOf_47 rfl ?_
      refine z_if_eq (tgt := 56) (u := 1) E dX10_biddenOf_49 (by decide) (by decide) (fun h_29 => absurd h_29 (by omega)) (fun h_29 => ?_)
      refine s_iconst (v := 0) E dX10_biddenOf_52 (by decide) ?_
      refine s_goto (tgt := 74) E dX10_biddenOf_53 (by decide) ?_
      refine s_istore (L2 := [some (AR 95), some (AI x1), some (AI x2), some (AI q8_3_0), some (AI q8_4_0), some (AI q8_5_0), some (AI 1), some (AI 0), none, none, none]) E dX10_biddenOf_74 (by decide) rfl ?_
      refine s_iload E dX10_biddenOf_76 rfl ?_
      refine s_ldc E k_1504 rfl dX10_biddenOf_78 ?_
      refine z_icmp_lt (tgt := 86) (u := 0) (v := 100000) E dX10_biddenOf_80 (by decide) (by decide) (by decide) (fun h_30 => ?_) (fun h_30 => absurd h_30 (by omega))
      refine s_iload E dX10_biddenOf_86 rfl ?_
      refine z_if_eq (tgt := 106) (u := 1) E dX10_biddenOf_88 (by decide) (by decide) (fun h_31 => absurd h_31 (by omega)) (fun h_31 => ?_)
      refine s_aload_n E dX10_biddenOf_91 rfl rfl ?_
      refine s_gR (r := 96) E fg_X10_9 rfl rfl (jv_lt hJ (by decide)) (jv_r hJ (by decide +kernel)) dX10_biddenOf_92 ?_
      refine s_bipush (v := 74) E dX10_biddenOf_95 (by decide) ?_
      refine s_iconst (v := 3) E dX10_biddenOf_97 (by decide) ?_
      refine s_iload E dX10_biddenOf_98 rfl ?_
      refine z_imul (u := 3) (v := q8_5_0.toInt) E dX10_biddenOf_100 (by decide) rfl (by omega) (by omega) (fun z_32 hz_32 => ?_)
      refine z_iadd (u := 74) (v := z_32.toInt) E dX10_biddenOf_101 (by decide) rfl (by omega) (by omega) (fun z_33 hz_33 => ?_)
      refine s_iald E rfl (jv_lt hJ (by decide)) (z_in (u := z_33.toInt) rfl (by omega) (by omega)) dX10_biddenOf_102 ?_
      refine z_nm (P := fun z => z.toInt = (w.2.2.1 96 z_33.toNatClampNeg).toInt ∧ 0 ≤ z.toInt ∧ z.toInt ≤ 5 ∧ (104 ≤ z_33.toInt → z_33.toInt < 134 → okA z.toInt)) ⟨rfl, (rs_w hJ (by decide) 0 5 74 101 3 z_33 z_33.toInt (by decide +kernel) rfl (by omega) (by omega) (by omega))⟩ (fun z_34 hz_34 => ?_)
      refine s_goto (tgt := 112) E dX10_biddenOf_103 (by decide) ?_
      refine s_istore (L2 := [some (AR 95), some (AI x1), some (AI x2), some (AI q8_3_0), some (AI q8_4_0), some (AI q8_5_0), some (AI 1), some (AI 0), some (AI z_34), none, none]) E dX10_biddenOf_112 (by decide) rfl ?_
      refine s_iload E dX10_biddenOf_114 rfl ?_
      refine z_if_eq (tgt := 136) (u := 1) E dX10_biddenOf_116 (by decide) (by decide) (fun h_35 => absurd h_35 (by omega)) (fun h_35 => ?_)
      refine s_aload_n E dX10_biddenOf_119 rfl rfl ?_
      refine s_gR (r := 96) E fg_X10_9 rfl rfl (jv_lt hJ (by decide)) (jv_r hJ (by decide +kernel)) dX10_biddenOf_120 ?_
      refine s_bipush (v := 74) E dX10_biddenOf_123 (by decide) ?_
      refine s_iconst (v := 3) E dX10_biddenOf_125 (by decide) ?_
      refine s_iload E dX10_biddenOf_126 rfl ?_
      refine z_imul (u := 3) (v := q8_5_0.toInt) E dX10_biddenOf_128 (by decide) rfl (by omega) (by omega) (fun z_36 hz_36 => ?_)
      refine z_iadd (u := 74) (v := z_36.toInt) E dX10_biddenOf_129 (by decide) rfl (by omega) (by omega) (fun z_37 hz_37 => ?_)
      refine s_iconst (v := 1) E dX10_biddenOf_130 (by decide) ?_
      refine z_iadd (u := z_37.toInt) (v := 1) E dX10_biddenOf_131 rfl (by decide) (by omega) (by omega) (fun z_38 hz_38 => ?_)
      refine s_iald E rfl (jv_lt hJ (by decide)) (z_in (u := z_38.toInt) rfl (by omega) (by omega)) dX10_biddenOf_132 ?_
      refine z_nm (P := fun z => z.toInt = (w.2.2.1 96 z_38.toNatClampNeg).toInt ∧ 0 ≤ z.toInt ∧ z.toInt ≤ 7 ∧ (104 ≤ z_38.toInt → z_38.toInt < 134 → okA z.toInt)) ⟨rfl, (rs_w hJ (by decide) 0 7 75 102 3 z_38 z_38.toInt (by decide +kernel) rfl (by omega) (by omega) (by omega))⟩ (fun z_39 hz_39 => ?_)
      refine s_goto (tgt := 144) E dX10_biddenOf_133 (by decide) ?_
      refine s_istore (L2 := [some (AR 95), some (AI x1), some (AI x2), some (AI q8_3_0), some (AI q8_4_0), some (AI q8_5_0), some (AI 1), some (AI 0), some (AI z_34), some (AI z_39), none]) E dX10_biddenOf_144 (by decide) rfl ?_
      refine s_iload E dX10_biddenOf_146 rfl ?_
      refine z_if_eq (tgt := 168) (u := 1) E dX10_biddenOf_148 (by decide) (by decide) (fun h_40 => absurd h_40 (by omega)) (fun h_40 => ?_)
      refine s_aload_n E dX10_biddenOf_151 rfl rfl ?_
      refine s_gR (r := 96) E fg_X10_9 rfl rfl (jv_lt hJ (by decide)) (jv_r hJ (by decide +kernel)) dX10_biddenOf_152 ?_
      refine s_bipush (v := 74) E dX10_biddenOf_155 (by decide) ?_
      refine s_iconst (v := 3) E dX10_biddenOf_157 (by decide) ?_
      refine s_iload E dX10_biddenOf_158 rfl ?_
      refine z_imul (u := 3) (v := q8_5_0.toInt) E dX10_biddenOf_160 (by decide) rfl (by omega) (by omega) (fun z_41 hz_41 => ?_)
      refine z_iadd (u := 74) (v := z_41.toInt) E dX10_biddenOf_161 (by decide) rfl (by omega) (by omega) (fun z_42 hz_42 => ?_)
      refine s_iconst (v := 2) E dX10_biddenOf_162 (by decide) ?_
      refine z_iadd (u := z_42.toInt) (v := 2) E dX10_biddenOf_163 rfl (by decide) (by omega) (by omega) (fun z_43 hz_43 => ?_)
      refine s_iald E rfl (jv_lt hJ (by decide)) (z_in (u := z_43.toInt) rfl (by omega) (by omega)) dX10_biddenOf_164 ?_
      refine z_nm (P := fun z => z.toInt = (w.2.2.1 96 z_43.toNatClampNeg).toInt ∧ 0 ≤ z.toInt ∧ z.toInt ≤ 13 ∧ (104 ≤ z_43.toInt → z_43.toInt < 134 → okA z.toInt)) ⟨rfl, (rs_w hJ (by decide) 0 13 76 103 3 z_43 z_43.toInt (by decide +kernel) rfl (by omega) (by omega) (by omega))⟩ (fun z_44 hz_44 => ?_)
      refine s_goto (tgt := 173) E dX10_biddenOf_165 (by decide) ?_
      refine s_istore (L2 := [some (AR 95), some (AI x1), some (AI x2), some (AI q8_3_0), some (AI q8_4_0), some (AI q8_5_0), some (AI 1), some (AI 0), some (AI z_34), some (AI z_39), some (AI z_44)]) E dX10_biddenOf_173 (by decide) rfl ?_
      refine s_iload E dX10_biddenOf_175 rfl ?_
      refine s_iload_n E dX10_biddenOf_177 rfl rfl ?_
      refine z_icmp_ne (tgt := 204) (u := z_34.toInt) (v := x1.toInt) E dX10_biddenOf_178 (by decide) rfl rfl (fun h_45 => ?_) (fun h_45 => ?_)
      ·
        refine z_iinc (u := q8_5_0.toInt) (L2 := fun z_46 => [some (AR 95), some (AI x1), some (AI x2), some (AI q8_3_0), some (AI q8_4_0), some (AI z_46), some (AI 1), some (AI 0), some (AI z_34), some (AI z_39), some (AI z_44)]) E dX10_biddenOf_204 rfl rfl (by decide) (fun _ => rfl) (by decide) (by omega) (by omega) (fun z_46 hz_46 => ?_)
        refine s_goto (tgt := 8) E dX10_biddenOf_207 (by decide) ?_
        refine s_drop (i := 6) (L2 := [some (AR 95), some (AI x1), some (AI x2), some (AI q8_3_0), some (AI q8_4_0), some (AI z_46), none, some (AI 0), some (AI z_34), some (AI z_39), some (AI z_44)]) rfl ?_
        refine s_drop (i := 7) (L2 := [some (AR 95), some (AI x1), some (AI x2), some (AI q8_3_0), some (AI q8_4_0), some (AI z_46), none, none, some (AI z_34), some (AI z_39), some (AI z_44)]) rfl ?_
        refine s_drop (i := 8) (L2 := [some (AR 95), some (AI x1), some (AI x2), some (AI q8_3_0), some (AI q8_4_0), some (AI z_46), none, none, none, some (AI z_39), some (AI z_44)]) rfl ?_
        refine s_drop (i := 9) (L2 := [some (AR 95), some (AI x1), some (AI x2), some (AI q8_3_0), some (AI q8_4_0), some (AI z_46), none, none, none, none, some (AI z_44)]) rfl ?_
        refine s_drop (i := 10) (L2 := [some (AR 95), some (AI x1), some (AI x2), some (AI q8_3_0), some (AI q8_4_0), some (AI z_46), none, none, none, none, none]) rfl ?_
        exact ih8 ⟨q8_3_0, q8_4_0, z_46⟩ w ⟨⟨by have hb_ := z32 q8_3_0; omega, by have hb_ := z32 q8_3_0; omega⟩, ⟨by have hb_ := z32 q8_4_0; omega, by have hb_ := z32 q8_4_0; omega⟩, ⟨by have hb_ := z32 z_46; omega, by have hb_ := z32 z_46; omega⟩, rfl⟩ (by first | omega | decide | (dsimp only; omega) | (dsimp only; decide))
      ·
        refine s_iload E dX10_biddenOf_181 rfl ?_
        refine s_iload_n E dX10_biddenOf_183 rfl rfl ?_
        refine z_icmp_gt (tgt := 204) (u := z_44.toInt) (v := x2.toInt) E dX10_biddenOf_184 (by decide) rfl rfl (fun h_47 => ?_) (fun h_47 => ?_)
        ·
          refine z_iinc (u := q8_5_0.toInt) (L2 := fun z_48 => [some (AR 95), some (AI x1), some (AI x2), some (AI q8_3_0), some (AI q8_4_0), some (AI z_48), some (AI 1), some (AI 0), some (AI z_34), some (AI z_39), some (AI z_44)]) E dX10_biddenOf_204 rfl rfl (by decide) (fun _ => rfl) (by decide) (by omega) (by omega) (fun z_48 hz_48 => ?_)
          refine s_goto (tgt := 8) E dX10_biddenOf_207 (by decide) ?_
          refine s_drop (i := 6) (L2 := [some (AR 95), some (AI x1), some (AI x2), some (AI q8_3_0), some (AI q8_4_0), some (AI z_48), none, some (AI 0), some (AI z_34), some (AI z_39), some (AI z_44)]) rfl ?_
          refine s_drop (i := 7) (L2 := [some (AR 95), some (AI x1), some (AI x2), some (AI q8_3_0), some (AI q8_4_0), some (AI z_48), none, none, some (AI z_34), some (AI z_39), some (AI z_44)]) rfl ?_
          refine s_drop (i := 8) (L2 := [some (AR 95), some (AI x1), some (AI x2), some (AI q8_3_0), some (AI q8_4_0), some (AI z_48), none, none, none, some (AI z_39), some (AI z_44)]) rfl ?_
          refine s_drop (i := 9) (L2 := [some (AR 95), some (AI x1), some (AI x2), some (AI q8_3_0), some (AI q8_4_0), some (AI z_48), none, none, none, none, some (AI z_44)]) rfl ?_
          refine s_drop (i := 10) (L2 := [some (AR 95), some (AI x1), some (AI x2), some (AI q8_3_0), some (AI q8_4_0), some (AI z_48), none, none, none, none, none]) rfl ?_
          exact ih8 ⟨q8_3_0, q8_4_0, z_48⟩ w ⟨⟨by have hb_ := z32 q8_3_0; omega, by have hb_ := z32 q8_3_0; omega⟩, ⟨by have hb_ := z32 q8_4_0; omega, by have hb_ := z32 q8_4_0; omega⟩, ⟨by have hb_ := z32 z_48; omega, by have hb_ := z32 z_48; omega⟩, rfl⟩ (by first | omega | decide | (dsimp only; omega) | (dsimp only; decide))
        ·
          refine s_iload E dX10_biddenOf_187 rfl ?_
          refine s_iload E dX10_biddenOf_189 rfl ?_
          refine z_icmp_ge (tgt := 197) (u := z_44.toInt) (v := q8_4_0.toInt) E dX10_biddenOf_191 (by decide) rfl rfl (fun h_49 => ?_) (fun h_49 => ?_)
          ·
            refine s_iload E dX10_biddenOf_197 rfl ?_
            refine s_istore (L2 := [some (AR 95), some (AI x1), some (AI x2), some (AI q8_3_0), some (AI z_44), some (AI q8_5_0), some (AI 1), some (AI 0), some (AI z_34), some (AI z_39), some (AI z_44)]) E dX10_biddenOf_199 (by decide) rfl ?_
            refine s_iload E dX10_biddenOf_201 rfl ?_
            refine s_istore_n (L2 := [some (AR 95), some (AI x1), some (AI x2), some (AI z_39), some (AI z_44), some (AI q8_5_0), some (AI 1), some (AI 0), some (AI z_34), some (AI z_39), some (AI z_44)]) E dX10_biddenOf_203 rfl (by decide) rfl ?_
            refine z_iinc (u := q8_5_0.toInt) (L2 := fun z_50 => [some (AR 95), some (AI x1), some (AI x2), some (AI z_39), some (AI z_44), some (AI z_50), some (AI 1), some (AI 0), some (AI z_34), some (AI z_39), some (AI z_44)]) E dX10_biddenOf_204 rfl rfl (by decide) (fun _ => rfl) (by decide) (by omega) (by omega) (fun z_50 hz_50 => ?_)
            refine s_goto (tgt := 8) E dX10_biddenOf_207 (by decide) ?_
            refine s_drop (i := 6) (L2 := [some (AR 95), some (AI x1), some (AI x2), some (AI z_39), some (AI z_44), some (AI z_50), none, some (AI 0), some (AI z_34), some (AI z_39), some (AI z_44)]) rfl ?_
            refine s_drop (i := 7) (L2 := [some (AR 95), some (AI x1), some (AI x2), some (AI z_39), some (AI z_44), some (AI z_50), none, none, some (AI z_34), some (AI z_39), some (AI z_44)]) rfl ?_
            refine s_drop (i := 8) (L2 := [some (AR 95), some (AI x1), some (AI x2), some (AI z_39), some (AI z_44), some (AI z_50), none, none, none, some (AI z_39), some (AI z_44)]) rfl ?_
            refine s_drop (i := 9) (L2 := [some (AR 95), some (AI x1), some (AI x2), some (AI z_39), some (AI z_44), some (AI z_50), none, none, none, none, some (AI z_44)]) rfl ?_
            refine s_drop (i := 10) (L2 := [some (AR 95), some (AI x1), some (AI x2), some (AI z_39), some (AI z_44), some (AI z_50), none, none, none, none, none]) rfl ?_
            exact ih8 ⟨z_39, z_44, z_50⟩ w ⟨⟨by have hb_ := z32 z_39; omega, by have hb_ := z32 z_39; omega⟩, ⟨by have hb_ := z32 z_44; omega, by have hb_ := z32 z_44; omega⟩, ⟨by have hb_ := z32 z_50; omega, by have hb_ := z32 z_50; omega⟩, rfl⟩ (by first | omega | decide | (dsimp only; omega) | (dsimp only; decide))
          ·
            refine s_goto (tgt := 204) E dX10_biddenOf_194 (by decide) ?_
            refine z_iinc (u := q8_5_0.toInt) (L2 := fun z_51 => [some (AR 95), some (AI x1), some (AI x2), some (AI q8_3_0), some (AI q8_4_0), some (AI z_51), some (AI 1), some (AI 0), some (AI z_34), some (AI z_39), some (AI z_44)]) E dX10_biddenOf_204 rfl rfl (by decide) (fun _ => rfl) (by decide) (by omega) (by omega) (fun z_51 hz_51 => ?_)
            refine s_goto (tgt := 8) E dX10_biddenOf_207 (by decide) ?_
            refine s_drop (i := 6) (L2 := [some (AR 95), some (AI x1), some (AI x2), some (AI q8_3_0), some (AI q8_4_0), some (AI z_51), none, some (AI 0), some (AI z_34), some (AI z_39), some (AI z_44)]) rfl ?_
            refine s_drop (i := 7) (L2 := [some (AR 95), some (AI x1), some (AI x2), some (AI q8_3_0), some (AI q8_4_0), some (AI z_51), none, none, some (AI z_34), some (AI z_39), some (AI z_44)]) rfl ?_
            refine s_drop (i := 8) (L2 := [some (AR 95), some (AI x1), some (AI x2), some (AI q8_3_0), some (AI q8_4_0), some (AI z_51), none, none, none, some (AI z_39), some (AI z_44)]) rfl ?_
            refine s_drop (i := 9) (L2 := [some (AR 95), some (AI x1), some (AI x2), some (AI q8_3_0), some (AI q8_4_0), some (AI z_51), none, none, none, none, some (AI z_44)]) rfl ?_
            refine s_drop (i := 10) (L2 := [some (AR 95), some (AI x1), some (AI x2), some (AI q8_3_0), some (AI q8_4_0), some (AI z_51), none, none, none, none, none]) rfl ?_
            exact ih8 ⟨q8_3_0, q8_4_0, z_51⟩ w ⟨⟨by have hb_ := z32 q8_3_0; omega, by have hb_ := z32 q8_3_0; omega⟩, ⟨by have hb_ := z32 q8_4_0; omega, by have hb_ := z32 q8_4_0; omega⟩, ⟨by have hb_ := z32 z_51; omega, by have hb_ := z32 z_51; omega⟩, rfl⟩ (by first | omega | decide | (dsimp only; omega) | (dsimp only; decide))
set_option maxRecDepth 20000 in
set_option maxHeartbeats 2000000 in
theorem Z_X10_wideOf_95 (l : Launch) (D : va_G) (aC : Nat → ClassId) (b : Nat) (w : XW) (x1 : Int32) (hI : Iv w) (hx1 : 0 ≤ x1.toInt ∧ x1.toInt ≤ 5) : CnI l D aC b M_X10_wideOf 0 0 0 0 [AR 95, AI x1] w (fun r u => (0 ≤ r.toInt ∧ r.toInt ≤ 9) ∧ (r.toInt = (w.2.2.1 96 (47 + 2 * x1.toInt.toNat)).toInt) ∧ w = u) := by
  refine cn_I (own := RX10) (nm := "wideOf") (L0 := [some (AR 95), some (AI x1)]) (by decide +kernel) rfl rfl (Nat.le_of_ble_eq_true rfl) rfl ?_
  intro p e s m args below meth c E hin
  have hJ : Jv w w := jv_rfl hI
  refine s_aload_n E dX10_wideOf_0 rfl rfl ?_
  refine s_gR (r := 96) E fg_X10_9 rfl rfl (jv_lt hJ (by decide)) (jv_r hJ (by decide +kernel)) dX10_wideOf_1 ?_
  refine s_bipush (v := 46) E dX10_wideOf_4 (by decide) ?_
  refine s_iconst (v := 2) E dX10_wideOf_6 (by decide) ?_
  refine s_iload_n E dX10_wideOf_7 rfl rfl ?_
  refine z_imul (u := 2) (v := x1.toInt) E dX10_wideOf_8 (by decide) rfl (by omega) (by omega) (fun z_1 hz_1 => ?_)
  refine z_iadd (u := 46) (v := z_1.toInt) E dX10_wideOf_9 (by decide) rfl (by omega) (by omega) (fun z_2 hz_2 => ?_)
  refine s_iconst (v := 1) E dX10_wideOf_10 (by decide) ?_
  refine z_iadd (u := z_2.toInt) (v := 1) E dX10_wideOf_11 rfl (by decide) (by omega) (by omega) (fun z_3 hz_3 => ?_)
  have hi_ : z_3.toNatClampNeg = 47 + 2 * x1.toInt.toNat := by have e_ : z_3.toNatClampNeg = z_3.toInt.toNat := rfl; omega
  refine s_iald E rfl (jv_lt hJ (by decide)) (z_in (u := z_3.toInt) rfl (by omega) (by omega)) dX10_wideOf_12 ?_
  refine z_nm (P := fun z => z.toInt = (w.2.2.1 96 z_3.toNatClampNeg).toInt ∧ 0 ≤ z.toInt ∧ z.toInt ≤ 9 ∧ (104 ≤ z_3.toInt → z_3.toInt < 134 → okA z.toInt)) ⟨rfl, (rs_w hJ (by decide) 0 9 47 57 2 z_3 z_3.toInt (by decide +kernel) rfl (by omega) (by omega) (by omega))⟩ (fun z_4 hz_4 => ?_)
  exact r_int E dX10_wideOf_13 ⟨⟨by have hb_ := z32 z_4; omega, by have hb_ := z32 z_4; omega⟩, (by rw [← hi_]; omega), rfl⟩
set_option maxRecDepth 20000 in
set_option maxHeartbeats 2000000 in
theorem Z_X10_nextRoom_95 (l : Launch) (D : va_G) (aC : Nat → ClassId) (b : Nat) (w : XW) (x1 : Int32) (x2 : Int32) (x3 : Int32) (hI : Iv w) (hx1 : 0 ≤ x1.toInt ∧ x1.toInt ≤ 5) (hx2 : 0 ≤ x2.toInt ∧ x2.toInt ≤ 7) (hx3 : (-1) ≤ x3.toInt ∧ x3.toInt ≤ 7) (hy1 : x1.toInt < (w.2.2.1 96 5).toInt) (hy2 : y_Ls (w.2.2.1 102) 10) : CnI l D aC b M_X10_nextRoom 1 23 0 0 [AR 95, AI x1, AI x2, AI x3] w (fun r u => (0 ≤ r.toInt ∧ r.toInt ≤ 7) ∧ w = u) := by
  refine cn_I (own := RX10) (nm := "nextRoom") (L0 := [some (AR 95), some (AI x1), some (AI x2), some (AI x3), none, none]) (by decide +kernel) rfl rfl (Nat.le_of_ble_eq_true rfl) rfl ?_
  intro p e s m args below meth c E hin
  have hJ : Jv w w := jv_rfl hI
  refine s_aload_n E dX10_nextRoom_0 rfl rfl ?_
  refine s_iload_n E dX10_nextRoom_1 rfl rfl ?_
  refine s_vI (As := [AI x1]) (S := []) E (Z_X10_wideOf_95 l D aC b w x1 hJ.1 ⟨by have hb_ := z32 x1; omega, by have hb_ := z32 x1; omega⟩) cv_X10_238 rfl rfl rfl (jv_lt hJ (by decide)) (Nat.le_of_ble_eq_true rfl) (Nat.le_of_ble_eq_true rfl) ⟨(Nat.le_of_ble_eq_true rfl), (Nat.le_of_ble_eq_true rfl)⟩ (Nat.le_of_ble_eq_true rfl) dX10_nextRoom_2 (fun z_3 u_1 hp_2 => ?_)
  obtain ⟨hz_3, hxz_3, hp_2⟩ := hp_2
  subst hp_2
  have hw_ := jv_wide hJ x1.toInt.toNat (by omega) (by omega)
  have hrz_3 : 1 ≤ z_3.toInt ∧ z_3.toInt ≤ 9 := by omega
  refine s_istore (L2 := [some (AR 95), some (AI x1), some (AI x2), some (AI x3), some (AI z_3), none]) E dX10_nextRoom_5 (by decide) rfl ?_
  refine s_iload_n E dX10_nextRoom_7 rfl rfl ?_
  refine s_iconst (v := (-1)) E dX10_nextRoom_8 (by decide) ?_
  refine z_icmp_eq (tgt := 30) (u := x3.toInt) (v := (-1)) E dX10_nextRoom_9 (by decide) rfl (by decide) (fun h_5 => ?_) (fun h_5 => ?_)
  ·
    refine s_iload_n E dX10_nextRoom_30 rfl rfl ?_
    exact r_int E dX10_nextRoom_31 ⟨⟨by have hb_ := z32 x2; omega, by have hb_ := z32 x2; omega⟩, rfl⟩
  ·
    refine s_iload_n E dX10_nextRoom_12 rfl rfl ?_
    refine s_iload_n E dX10_nextRoom_13 rfl rfl ?_
    refine z_icmp_eq (tgt := 30) (u := x2.toInt) (v := x3.toInt) E dX10_nextRoom_14 (by decide) rfl rfl (fun h_6 => ?_) (fun h_6 => ?_)
    ·
      refine s_iload_n E dX10_nextRoom_30 rfl rfl ?_
      exact r_int E dX10_nextRoom_31 ⟨⟨by have hb_ := z32 x2; omega, by have hb_ := z32 x2; omega⟩, rfl⟩
    ·
      refine s_aload_n E dX10_nextRoom_17 rfl rfl ?_
      refine s_iload E dX10_nextRoom_18 rfl ?_
      refine s_iload_n E dX10_nextRoom_20 rfl rfl ?_
      refine s_iload_n E dX10_nextRoom_21 rfl rfl ?_
      refine s_vI (As := [AI z_3, AI x2, AI x3]) (S := []) E (Z_X10_wayOf_95 l D aC b w z_3 x2 x3 hJ.1 ⟨by have hb_ := z32 z_3; omega, by have hb_ := z32 z_3; omega⟩ ⟨by have hb_ := z32 x2; omega, by have hb_ := z32 x2; omega⟩ ⟨by have hb_ := z32 x3; omega, by have hb_ := z32 x3; omega⟩) cv_X10_233 rfl rfl rfl (jv_lt hJ (by decide)) (Nat.le_of_ble_eq_true rfl) (Nat.le_of_ble_eq_true rfl) ⟨(Nat.le_of_ble_eq_true rfl), (Nat.le_of_ble_eq_true rfl)⟩ (Nat.le_of_ble_eq_true rfl) dX10_nextRoom_22 (fun z_9 u_7 hp_8 => ?_)
      obtain ⟨hz_9, hxz_9, hp_8⟩ := hp_8
      subst hp_8
      refine s_ldc E k_1513 rfl dX10_nextRoom_25 ?_
      refine z_icmp_lt (tgt := 32) (u := z_9.toInt) (v := 1000000000) E dX10_nextRoom_27 (by decide) rfl (by decide) (fun h_11 => ?_) (fun h_11 => ?_)
      ·
        obtain ⟨cw, cw0, cw1, cw2⟩ := hy2 z_3.toInt.toNat (by omega) (by omega) x2.toInt.toNat x3.toInt.toNat (by omega) (by omega) (by omega) (by omega)
        refine s_iconst (v := 0) E dX10_nextRoom_32 (by decide) ?_
        refine s_istore (L2 := [some (AR 95), some (AI x1), some (AI x2), some (AI x3), some (AI z_3), some (AI 0)]) E dX10_nextRoom_33 (by decide) rfl ?_
        refine z_loop (St := Int32) (Pi := fun q35_5_11 v35 => (0 ≤ q35_5_11.toInt ∧ q35_5_11.toInt ≤ 7) ∧ (q35_5_11.toInt ≤ (cw : Int)) ∧ w = v35) (Lf := fun q35_5_11 => [some (AR 95), some (AI x1), some (AI x2), some (AI x3), some (AI z_3), some (AI q35_5_11)]) (fun q35_5_11 _ => ((cw : Int) + 1 - q35_5_11.toInt).toNat) 0 ⟨⟨by decide, by decide⟩, (by have h0_ : (0 : Int32).toInt = 0 := (by decide); omega), rfl⟩ ?_
        rintro q35_5_11 v35 ⟨hq35_5, hl35, hv_⟩ ih35
        subst hv_
        refine s_loc (L2 := [some (AR 95), some (AI x1), some (AI x2), some (AI x3), some (AI z_3), some (AI q35_5_11)]) rfl ?_
        refine s_aload_n E dX10_nextRoom_35 rfl rfl ?_
        refine s_iload E dX10_nextRoom_36 rfl ?_
        refine s_iload_n E dX10_nextRoom_38 rfl rfl ?_
        refine s_iload E dX10_nextRoom_39 rfl ?_
        refine s_vI (As := [AI z_3, AI x2, AI q35_5_11]) (S := []) E (Z_X10_wayOf_95 l D aC b w z_3 x2 q35_5_11 hJ.1 ⟨by have hb_ := z32 z_3; omega, by have hb_ := z32 z_3; omega⟩ ⟨by have hb_ := z32 x2; omega, by have hb_ := z32 x2; omega⟩ ⟨by have hb_ := z32 q35_5_11; omega, by have hb_ := z32 q35_5_11; omega⟩) cv_X10_233 rfl rfl rfl (jv_lt hJ (by decide)) (Nat.le_of_ble_eq_true rfl) (Nat.le_of_ble_eq_true rfl) ⟨(Nat.le_of_ble_eq_true rfl), (Nat.le_of_ble_eq_true rfl)⟩ (Nat.le_of_ble_eq_true rfl) dX10_nextRoom_41 (fun z_15 u_13 hp_14 => ?_)
        obtain ⟨hz_15, hxz_15, hp_14⟩ := hp_14
        subst hp_14
        refine s_iconst (v := 1) E dX10_nextRoom_44 (by decide) ?_
        refine z_icmp_ne (tgt := 70) (u := z_15.toInt) (v := 1) E dX10_nextRoom_45 (by decide) rfl (by decide) (fun h_17 => ?_) (fun h_17 => ?_)
        ·
          have hne_ : ¬ q35_5_11.toInt.toNat = cw := fun e_ => by subst e_; omega
          refine z_iinc (u := q35_5_11.toInt) (L2 := fun z_18 => [some (AR 95), some (AI x1), some (AI x2), some (AI x3), some (AI z_3), some (AI z_18)]) E dX10_nextRoom_70 rfl rfl (by decide) (fun _ => rfl) (by decide) (by omega) (by omega) (fun z_18 hz_18 => ?_)
          refine s_goto (tgt := 35) E dX10_nextRoom_73 (by decide) ?_
          exact ih35 z_18 w ⟨⟨by have hb_ := z32 z_18; omega, by have hb_ := z32 z_18; omega⟩, (by omega), rfl⟩ (by first | omega | decide | (dsimp only; omega) | (dsimp only; decide))
        ·
          refine s_aload_n E dX10_nextRoom_48 rfl rfl ?_
          refine s_iload E dX10_nextRoom_49 rfl ?_
          refine s_iload E dX10_nextRoom_51 rfl ?_
          refine s_iload_n E dX10_nextRoom_53 rfl rfl ?_
          refine s_vI (As := [AI z_3, AI q35_5_11, AI x3]) (S := []) E (Z_X10_wayOf_95 l D aC b w z_3 q35_5_11 x3 hJ.1 ⟨by have hb_ := z32 z_3; omega, by have hb_ := z32 z_3; omega⟩ ⟨by have hb_ := z32 q35_5_11; omega, by have hb_ := z32 q35_5_11; omega⟩ ⟨by have hb_ := z32 x3; omega, by have hb_ := z32 x3; omega⟩) cv_X10_233 rfl rfl rfl (jv_lt hJ (by decide)) (Nat.le_of_ble_eq_true rfl) (Nat.le_of_ble_eq_true rfl) ⟨(Nat.le_of_ble_eq_true rfl), (Nat.le_of_ble_eq_true rfl)⟩ (Nat.le_of_ble_eq_true rfl) dX10_nextRoom_54 (fun z_21 u_19 hp_20 => ?_)
          obtain ⟨hz_21, hxz_21, hp_20⟩ := hp_20
          subst hp_20
          refine s_aload_n E dX10_nextRoom_57 rfl rfl ?_
          refine s_iload E dX10_nextRoom_58 rfl ?_
          refine s_iload_n E dX10_nextRoom_60 rfl rfl ?_
          refine s_iload_n E dX10_nextRoom_61 rfl rfl ?_
          refine s_vI (As := [AI z_3, AI x2, AI x3]) (S := [AI z_21]) E (Z_X10_wayOf_95 l D aC b w z_3 x2 x3 hJ.1 ⟨by have hb_ := z32 z_3; omega, by have hb_ := z32 z_3; omega⟩ ⟨by have hb_ := z32 x2; omega, by have hb_ := z32 x2; omega⟩ ⟨by have hb_ := z32 x3; omega, by have hb_ := z32 x3; omega⟩) cv_X10_233 rfl rfl rfl (jv_lt hJ (by decide)) (Nat.le_of_ble_eq_true rfl) (Nat.le_of_ble_eq_true rfl) ⟨(Nat.le_of_ble_eq_true rfl), (Nat.le_of_ble_eq_true rfl)⟩ (Nat.le_of_ble_eq_true rfl) dX10_nextRoom_62 (fun z_25 u_23 hp_24 => ?_)
          obtain ⟨hz_25, hxz_25, hp_24⟩ := hp_24
          subst hp_24
          refine s_iconst (v := 1) E dX10_nextRoom_65 (by decide) ?_
          refine z_isub (u := z_25.toInt) (v := 1) E dX10_nextRoom_66 rfl (by decide) (by omega) (by omega) (fun z_27 hz_27 => ?_)
          refine z_icmp_eq (tgt := 76) (u := z_21.toInt) (v := z_27.toInt) E dX10_nextRoom_67 (by decide) rfl rfl (fun h_28 => ?_) (fun h_28 => ?_)
          ·
            refine s_iload E dX10_nextRoom_76 rfl ?_
            exact r_int E dX10_nextRoom_78 ⟨⟨by have hb_ := z32 q35_5_11; omega, by have hb_ := z32 q35_5_11; omega⟩, rfl⟩
          ·
            have hne_ : ¬ q35_5_11.toInt.toNat = cw := fun e_ => by subst e_; omega
            refine z_iinc (u := q35_5_11.toInt) (L2 := fun z_29 => [some (AR 95), some (AI x1), some (AI x2), some (AI x3), some (AI z_3), some (AI z_29)]) E dX10_nextRoom_70 rfl rfl (by decide) (fun _ => rfl) (by decide) (by omega) (by omega) (fun z_29 hz_29 => ?_)
            refine s_goto (tgt := 35) E dX10_nextRoom_73 (by decide) ?_
            exact ih35 z_29 w ⟨⟨by have hb_ := z32 z_29; omega, by have hb_ := z32 z_29; omega⟩, (by omega), rfl⟩ (by first | omega | decide | (dsimp only; omega) | (dsimp only; decide))
      ·
        refine s_iload_n E dX10_nextRoom_30 rfl rfl ?_
        exact r_int E dX10_nextRoom_31 ⟨⟨by have hb_ := z32 x2; omega, by have hb_ := z32 x2; omega⟩, rfl⟩
set_option maxRecDepth 20000 in
set_option maxHeartbeats 2000000 in
theorem Z_X10_layPlaces_95 (l : Launch) (D : va_G) (aC : Nat → ClassId) (b : Nat) (w : XW)  (hI : Iv w)  : CnV l D aC b M_X10_layPlaces 2 50 0 0 [AR 95] w (fun u => Jv w u) := by
  refine cn_V (own := RX10) (nm := "layPlaces") (L0 := [some (AR 95), none, none]) (by decide +kernel) rfl rfl (Nat.le_of_ble_eq_true rfl) rfl ?_
  intro p e s m args below meth c E hin
  have hJ : Jv w w := jv_rfl hI
  refine s_aload_n E dX10_layPlaces_0 rfl rfl ?_
  refine s_vV (As := []) (S := []) E (Z_X10_layWays_95 l D aC b w  hJ.1 ) cv_X10_241 rfl rfl rfl (jv_lt hJ (by decide)) (Nat.le_of_ble_eq_true rfl) (Nat.le_of_ble_eq_true rfl) ⟨(Nat.le_of_ble_eq_true rfl), (Nat.le_of_ble_eq_true rfl)⟩ (Nat.le_of_ble_eq_true rfl) dX10_layPlaces_1 (fun u_1 hp_2 => ?_)
  obtain ⟨hx_hp_2, hp_2⟩ := hp_2
  have hj_3 := jv_trans hJ hp_2
  have hY_ := hx_hp_2
  refine s_iconst (v := 0) E dX10_layPlaces_4 (by decide) ?_
  refine s_istore_n (L2 := [some (AR 95), some (AI 0), none]) E dX10_layPlaces_5 rfl (by decide) rfl ?_
  refine z_loop (St := Int32) (Pi := fun q6_1_3 v6 => (0 ≤ q6_1_3.toInt ∧ q6_1_3.toInt ≤ 6) ∧ (y_Ls (v6.2.2.1 102) 10) ∧ Jv w v6) (Lf := fun q6_1_3 => [some (AR 95), some (AI q6_1_3), none]) (fun q6_1_3 _ => (7 - q6_1_3.toInt).toNat) 0 ⟨⟨by decide, by decide⟩, (hY_), hj_3⟩ ?_
  rintro q6_1_3 v6 ⟨hq6_1, hl6, hj_4⟩ ih6
  refine s_loc (L2 := [some (AR 95), some (AI q6_1_3), none]) rfl ?_
  refine s_iload_n E dX10_layPlaces_6 rfl rfl ?_
  refine s_aload_n E dX10_layPlaces_7 rfl rfl ?_
  refine s_vI (As := []) (S := [AI q6_1_3]) E (Z_X10_ladies_95 l D aC b v6  hj_4.1 ) cv_X10_244 rfl rfl rfl (jv_lt hj_4 (by decide)) (Nat.le_of_ble_eq_true rfl) (Nat.le_of_ble_eq_true rfl) ⟨(Nat.le_of_ble_eq_true rfl), (Nat.le_of_ble_eq_true rfl)⟩ (Nat.le_of_ble_eq_true rfl) dX10_layPlaces_8 (fun z_7 u_5 hp_6 => ?_)
  obtain ⟨hz_7, hxz_7, hp_6⟩ := hp_6
  subst hp_6
  refine z_icmp_ge (tgt := 104) (u := q6_1_3.toInt) (v := z_7.toInt) E dX10_layPlaces_11 (by decide) rfl rfl (fun h_9 => ?_) (fun h_9 => ?_)
  ·
    exact r_void E dX10_layPlaces_104 hj_4
  ·
    refine s_aload_n E dX10_layPlaces_14 rfl rfl ?_
    refine s_gR (r := 103) E fg_X10_37 rfl rfl (jv_lt hj_4 (by decide)) (jv_r hj_4 (by decide +kernel)) dX10_layPlaces_15 ?_
    refine s_iload_n E dX10_layPlaces_18 rfl rfl ?_
    refine s_aload_n E dX10_layPlaces_19 rfl rfl ?_
    refine s_gR (r := 96) E fg_X10_9 rfl rfl (jv_lt hj_4 (by decide)) (jv_r hj_4 (by decide +kernel)) dX10_layPlaces_20 ?_
    refine s_bipush (v := 46) E dX10_layPlaces_23 (by decide) ?_
    refine s_iconst (v := 2) E dX10_layPlaces_25 (by decide) ?_
    refine s_iload_n E dX10_layPlaces_26 rfl rfl ?_
    refine z_imul (u := 2) (v := q6_1_3.toInt) E dX10_layPlaces_27 (by decide) rfl (by omega) (by omega) (fun z_10 hz_10 => ?_)
    refine z_iadd (u := 46) (v := z_10.toInt) E dX10_layPlaces_28 (by decide) rfl (by omega) (by omega) (fun z_11 hz_11 => ?_)
    refine s_iald E rfl (jv_lt hj_4 (by decide)) (z_in (u := z_11.toInt) rfl (by omega) (by omega)) dX10_layPlaces_29 ?_
    refine z_nm (P := fun z => z.toInt = (v6.2.2.1 96 z_11.toNatClampNeg).toInt ∧ 0 ≤ z.toInt ∧ z.toInt ≤ 7 ∧ (104 ≤ z_11.toInt → z_11.toInt < 134 → okA z.toInt)) ⟨rfl, (rs_w hj_4 (by decide) 0 7 46 56 2 z_11 z_11.toInt (by decide +kernel) rfl (by omega) (by omega) (by omega))⟩ (fun z_12 hz_12 => ?_)
    refine s_iast E rfl (jv_lt hj_4 (by decide)) (z_in (u := q6_1_3.toInt) rfl (by omega) (by omega)) dX10_layPlaces_30 ?_
    have hj_14 : Jv w (upI v6 103 q6_1_3.toNatClampNeg z_12) := (jv_a_103 hj_4 (by have hb_ := z32 z_12; omega) (by have hb_ := z32 z_12; omega))
    refine s_iconst (v := 0) E dX10_layPlaces_31 (by decide) ?_
    refine s_istore_n (L2 := [some (AR 95), some (AI q6_1_3), some (AI 0)]) E dX10_layPlaces_32 rfl (by decide) rfl ?_
    refine z_loop (St := Int32) (Pi := fun q33_2_14 v33 => (0 ≤ q33_2_14.toInt ∧ q33_2_14.toInt ≤ 14) ∧ (y_Ls (v33.2.2.1 102) 10 ∧ q6_1_3.toInt < (v33.2.2.1 96 5).toInt) ∧ Jv w v33) (Lf := fun q33_2_14 => [some (AR 95), some (AI q6_1_3), some (AI q33_2_14)]) (fun q33_2_14 _ => (15 - q33_2_14.toInt).toNat) 0 ⟨⟨by decide, by decide⟩, (⟨y_keep hl6 (by decide), y_keep5 (by omega) (by decide)⟩), hj_14⟩ ?_
    rintro q33_2_14 v33 ⟨hq33_2, hl33, hj_15⟩ ih33
    refine s_loc (L2 := [some (AR 95), some (AI q6_1_3), some (AI q33_2_14)]) rfl ?_
    refine s_iload_n E dX10_layPlaces_33 rfl rfl ?_
    refine s_aload_n E dX10_layPlaces_34 rfl rfl ?_
    refine s_vI (As := []) (S := [AI q33_2_14]) E (Z_X10_dances_95 l D aC b v33  hj_15.1 ) cv_X10_247 rfl rfl rfl (jv_lt hj_15 (by decide)) (Nat.le_of_ble_eq_true rfl) (Nat.le_of_ble_eq_true rfl) ⟨(Nat.le_of_ble_eq_true rfl), (Nat.le_of_ble_eq_true rfl)⟩ (Nat.le_of_ble_eq_true rfl) dX10_layPlaces_35 (fun z_18 u_16 hp_17 => ?_)
    obtain ⟨hz_18, hxz_18, hp_17⟩ := hp_17
    subst hp_17
    refine z_icmp_ge (tgt := 98) (u := q33_2_14.toInt) (v := z_18.toInt) E dX10_layPlaces_38 (by decide) rfl rfl (fun h_20 => ?_) (fun h_20 => ?_)
    ·
      refine z_iinc (u := q6_1_3.toInt) (L2 := fun z_21 => [some (AR 95), some (AI z_21), some (AI q33_2_14)]) E dX10_layPlaces_98 rfl rfl (by decide) (fun _ => rfl) (by decide) (by omega) (by omega) (fun z_21 hz_21 => ?_)
      refine s_goto (tgt := 6) E dX10_layPlaces_101 (by decide) ?_
      refine s_drop (i := 2) (L2 := [some (AR 95), some (AI z_21), none]) rfl ?_
      exact ih6 z_21 v33 ⟨⟨by have hb_ := z32 z_21; omega, by have hb_ := z32 z_21; omega⟩, (hl33.1), hj_15⟩ (by first | omega | decide | (dsimp only; omega) | (dsimp only; decide))
    ·
      refine s_aload_n E dX10_layPlaces_41 rfl rfl ?_
      refine s_gR (r := 103) E fg_X10_37 rfl rfl (jv_lt hj_15 (by decide)) (jv_r hj_15 (by decide +kernel)) dX10_layPlaces_42 ?_
      refine s_bipush (v := 6) E dX10_layPlaces_45 (by decide) ?_
      refine s_iload_n E dX10_layPlaces_47 rfl rfl ?_
      refine s_iconst (v := 1) E dX10_layPlaces_48 (by decide) ?_
      refine z_iadd (u := q33_2_14.toInt) (v := 1) E dX10_layPlaces_49 rfl (by decide) (by omega) (by omega) (fun z_22 hz_22 => ?_)
      refine z_imul (u := 6) (v := z_22.toInt) E dX10_layPlaces_50 (by decide) rfl (by omega) (by omega) (fun z_23 hz_23 => ?_)
      refine s_iload_n E dX10_layPlaces_51 rfl rfl ?_
      refine z_iadd (u := z_23.toInt) (v := q6_1_3.toInt) E dX10_layPlaces_52 rfl rfl (by omega) (by omega) (fun z_24 hz_24 => ?_)
      refine s_aload_n E dX10_layPlaces_53 rfl rfl ?_
      refine s_gI E fg_X10_249 rfl rfl (jv_lt hj_15 (by decide)) dX10_layPlaces_54 ?_
      refine z_nm (P := fun z => z.toInt = (v33.2.2.1 95 22).toInt ∧ (-2147483648) ≤ z.toInt ∧ z.toInt ≤ 2147483647) ⟨rfl, z32 _⟩ (fun z_25 hz_25 => ?_)
      refine s_iload_n E dX10_layPlaces_57 rfl rfl ?_
      refine s_sI (As := [AI z_25, AI q6_1_3]) (S := [AI z_24, AR 103]) E (Z_X10_bit l D aC b v33 z_25 q6_1_3 hj_15.1 ) cs_X10_252 rfl rfl (Nat.le_of_ble_eq_true rfl) (Nat.le_of_ble_eq_true rfl) ⟨(Nat.le_of_ble_eq_true rfl), (Nat.le_of_ble_eq_true rfl)⟩ (Nat.le_of_ble_eq_true rfl) dX10_layPlaces_58 (fun z_28 u_26 hp_27 => ?_)
      obtain ⟨hz_28, hxz_28, hp_27⟩ := hp_27
      subst hp_27
      refine s_iconst (v := 1) E dX10_layPlaces_61 (by decide) ?_
      refine z_icmp_ne (tgt := 74) (u := z_28.toInt) (v := 1) E dX10_layPlaces_62 (by decide) rfl (by decide) (fun h_30 => ?_) (fun h_30 => ?_)
      ·
        refine s_aload_n E dX10_layPlaces_74 rfl rfl ?_
        refine s_iload_n E dX10_layPlaces_75 rfl rfl ?_
        refine s_aload_n E dX10_layPlaces_76 rfl rfl ?_
        refine s_iload_n E dX10_layPlaces_77 rfl rfl ?_
        refine s_iload_n E dX10_layPlaces_78 rfl rfl ?_
        refine s_vI (As := [AI q6_1_3, AI q33_2_14]) (S := [AI q6_1_3, AR 95, AI z_24, AR 103]) E (Z_X10_atOf_95 l D aC b v33 q6_1_3 q33_2_14 hj_15.1 ⟨by have hb_ := z32 q6_1_3; omega, by have hb_ := z32 q6_1_3; omega⟩ ⟨by have hb_ := z32 q33_2_14; omega, by have hb_ := z32 q33_2_14; omega⟩) cv_X10_255 rfl rfl rfl (jv_lt hj_15 (by decide)) (Nat.le_of_ble_eq_true rfl) (Nat.le_of_ble_eq_true rfl) ⟨(Nat.le_of_ble_eq_true rfl), (Nat.le_of_ble_eq_true rfl)⟩ (Nat.le_of_ble_eq_true rfl) dX10_layPlaces_79 (fun z_33 u_31 hp_32 => ?_)
        obtain ⟨hz_33, hp_32⟩ := hp_32
        subst hp_32
        refine s_aload_n E dX10_layPlaces_82 rfl rfl ?_
        refine s_iload_n E dX10_layPlaces_83 rfl rfl ?_
        refine s_iload_n E dX10_layPlaces_84 rfl rfl ?_
        refine s_vI (As := [AI q6_1_3, AI q33_2_14]) (S := [AI z_33, AI q6_1_3, AR 95, AI z_24, AR 103]) E (Z_X10_biddenOf_95 l D aC b v33 q6_1_3 q33_2_14 hj_15.1 ⟨by have hb_ := z32 q6_1_3; omega, by have hb_ := z32 q6_1_3; omega⟩ ⟨by have hb_ := z32 q33_2_14; omega, by have hb_ := z32 q33_2_14; omega⟩) cv_X10_258 rfl rfl rfl (jv_lt hj_15 (by decide)) (Nat.le_of_ble_eq_true rfl) (Nat.le_of_ble_eq_true rfl) ⟨(Nat.le_of_ble_eq_true rfl), (Nat.le_of_ble_eq_true rfl)⟩ (Nat.le_of_ble_eq_true rfl) dX10_layPlaces_85 (fun z_37 u_35 hp_36 => ?_)
        obtain ⟨hz_37, hp_36⟩ := hp_36
        subst hp_36
        refine s_vI (As := [AI q6_1_3, AI z_33, AI z_37]) (S := [AI z_24, AR 103]) E (Z_X10_nextRoom_95 l D aC b v33 q6_1_3 z_33 z_37 hj_15.1 ⟨by have hb_ := z32 q6_1_3; omega, by have hb_ := z32 q6_1_3; omega⟩ ⟨by have hb_ := z32 z_33; omega, by have hb_ := z32 z_33; omega⟩ ⟨by have hb_ := z32 z_37; omega, by have hb_ := z32 z_37; omega⟩ (by omega) hl33.1) cv_X10_261 rfl rfl rfl (jv_lt hj_15 (by decide)) (Nat.le_of_ble_eq_true rfl) (Nat.le_of_ble_eq_true rfl) ⟨(Nat.le_of_ble_eq_true rfl), (Nat.le_of_ble_eq_true rfl)⟩ (Nat.le_of_ble_eq_true rfl) dX10_layPlaces_88 (fun z_41 u_39 hp_40 => ?_)
        obtain ⟨hz_41, hp_40⟩ := hp_40
        subst hp_40
        refine s_iast E rfl (jv_lt hj_15 (by decide)) (z_in (u := z_24.toInt) rfl (by omega) (by omega)) dX10_layPlaces_91 ?_
        have hj_44 : Jv w (upI v33 103 z_24.toNatClampNeg z_41) := (jv_a_103 hj_15 (by have hb_ := z32 z_41; omega) (by have hb_ := z32 z_41; omega))
        refine z_iinc (u := q33_2_14.toInt) (L2 := fun z_45 => [some (AR 95), some (AI q6_1_3), some (AI z_45)]) E dX10_layPlaces_92 rfl rfl (by decide) (fun _ => rfl) (by decide) (by omega) (by omega) (fun z_45 hz_45 => ?_)
        refine s_goto (tgt := 33) E dX10_layPlaces_95 (by decide) ?_
        exact ih33 z_45 (upI v33 103 z_24.toNatClampNeg z_41) ⟨⟨by have hb_ := z32 z_45; omega, by have hb_ := z32 z_45; omega⟩, (⟨y_keep hl33.1 (by decide), y_keep5 hl33.2 (by decide)⟩), hj_44⟩ (by first | omega | decide | (dsimp only; omega) | (dsimp only; decide))
      ·
        refine s_aload_n E dX10_layPlaces_65 rfl rfl ?_
        refine s_gR (r := 103) E fg_X10_37 rfl rfl (jv_lt hj_15 (by decide)) (jv_r hj_15 (by decide +kernel)) dX10_layPlaces_66 ?_
        refine s_iload_n E dX10_layPlaces_69 rfl rfl ?_
        refine s_iald E rfl (jv_lt hj_15 (by decide)) (z_in (u := q6_1_3.toInt) rfl (by omega) (by omega)) dX10_layPlaces_70 ?_
        refine z_nm (P := fun z => z.toInt = (v33.2.2.1 103 q6_1_3.toNatClampNeg).toInt ∧ 0 ≤ z.toInt ∧ z.toInt ≤ 7) ⟨rfl, (ra_103 hj_15 _)⟩ (fun z_46 hz_46 => ?_)
        refine s_goto (tgt := 91) E dX10_layPlaces_71 (by decide) ?_
        refine s_iast E rfl (jv_lt hj_15 (by decide)) (z_in (u := z_24.toInt) rfl (by omega) (by omega)) dX10_layPlaces_91 ?_
        have hj_48 : Jv w (upI v33 103 z_24.toNatClampNeg z_46) := (jv_a_103 hj_15 (by have hb_ := z32 z_46; omega) (by have hb_ := z32 z_46; omega))
        refine z_iinc (u := q33_2_14.toInt) (L2 := fun z_49 => [some (AR 95), some (AI q6_1_3), some (AI z_49)]) E dX10_layPlaces_92 rfl rfl (by decide) (fun _ => rfl) (by decide) (by omega) (by omega) (fun z_49 hz_49 => ?_)
        refine s_goto (tgt := 33) E dX10_layPlaces_95 (by decide) ?_
        exact ih33 z_49 (upI v33 103 z_24.toNatClampNeg z_46) ⟨⟨by have hb_ := z32 z_49; omega, by have hb_ := z32 z_49; omega⟩, (⟨y_keep hl33.1 (by decide), y_keep5 hl33.2 (by decide)⟩), hj_48⟩ (by first | omega | decide | (dsimp only; omega) | (dsimp only; decide))
set_option maxRecDepth 20000 in
set_option maxHeartbeats 2000000 in
theorem Z_X10_asItIs_95 (l : Launch) (D : va_G) (aC : Nat → ClassId) (b : Nat) (w : XW)  (hI : Iv w)  : CnV l D aC b M_X10_asItIs 3 72 0 0 [AR 95] w (fun u => Jv w u) := by
  refine cn_V (own := RX10) (nm := "asItIs") (L0 := [some (AR 95)]) (by decide +kernel) rfl rfl (Nat.le_of_ble_eq_true rfl) rfl ?_
  intro p e s m args below meth c E hin
  have hJ : Jv w w := jv_rfl hI
  refine s_aload_n E dX10_asItIs_0 rfl rfl ?_
  refine s_iconst (v := (-1)) E dX10_asItIs_1 (by decide) ?_
  refine s_pI E fp_X10_227 (Or.inl rfl) rfl (jv_lt hJ (by decide)) dX10_asItIs_2 ?_
  refine s_gen (P := Jv w) (jv_f_95_16 hJ (by decide) (by decide)) (fun v_1 hj_2 => ?_)
  refine s_aload_n E dX10_asItIs_5 rfl rfl ?_
  refine s_iconst (v := 0) E dX10_asItIs_6 (by decide) ?_
  refine s_pI E fp_X10_230 (Or.inl rfl) rfl (jv_lt hj_2 (by decide)) dX10_asItIs_7 ?_
  refine s_gen (P := Jv w) (jv_f_95_17 hj_2 (by decide) (by decide)) (fun v_3 hj_4 => ?_)
  refine s_aload_n E dX10_asItIs_10 rfl rfl ?_
  refine s_iconst (v := 0) E dX10_asItIs_11 (by decide) ?_
  refine s_pI E fp_X10_264 (Or.inl rfl) rfl (jv_lt hj_4 (by decide)) dX10_asItIs_12 ?_
  refine s_gen (P := Jv w) (jv_f_95_21 hj_4 (by decide) (by decide)) (fun v_5 hj_6 => ?_)
  refine s_aload_n E dX10_asItIs_15 rfl rfl ?_
  refine s_iconst (v := 0) E dX10_asItIs_16 (by decide) ?_
  refine s_pI E fp_X10_249 (Or.inl rfl) rfl (jv_lt hj_6 (by decide)) dX10_asItIs_17 ?_
  refine s_gen (P := Jv w) (jv_f_95_22 hj_6 (by decide) (by decide)) (fun v_7 hj_8 => ?_)
  refine s_aload_n E dX10_asItIs_20 rfl rfl ?_
  refine s_aload_n E dX10_asItIs_21 rfl rfl ?_
  refine s_gR (r := 96) E fg_X10_9 rfl rfl (jv_lt hj_8 (by decide)) (jv_r hj_8 (by decide +kernel)) dX10_asItIs_22 ?_
  refine s_iconst (v := 2) E dX10_asItIs_25 (by decide) ?_
  refine s_iald E rfl (jv_lt hj_8 (by decide)) (z_in (u := 2) (by decide) (by omega) (by omega)) dX10_asItIs_26 ?_
  refine z_nm (P := fun z => z.toInt = (v_7.2.2.1 96 2).toInt ∧ 0 ≤ z.toInt ∧ z.toInt ≤ 3) ⟨rfl, (rw_96_2 hj_8)⟩ (fun z_9 hz_9 => ?_)
  refine s_pI E fp_X10_267 (Or.inl rfl) rfl (jv_lt hj_8 (by decide)) dX10_asItIs_27 ?_
  refine s_gen (P := Jv w) (jv_f_95_23 hj_8 (by have hb_ := z32 z_9; omega) (by have hb_ := z32 z_9; omega)) (fun v_10 hj_11 => ?_)
  refine s_aload_n E dX10_asItIs_30 rfl rfl ?_
  refine s_iconst (v := 0) E dX10_asItIs_31 (by decide) ?_
  refine s_pI E fp_X10_270 (Or.inl rfl) rfl (jv_lt hj_11 (by decide)) dX10_asItIs_32 ?_
  refine s_gen (P := Jv w) (jv_f_95_24 hj_11 (by decide) (by decide)) (fun v_12 hj_13 => ?_)
  refine s_aload_n E dX10_asItIs_35 rfl rfl ?_
  refine s_vV (As := []) (S := []) E (Z_X10_layMinisters_95 l D aC b v_12  hj_13.1 ) cv_X10_273 rfl rfl rfl (jv_lt hj_13 (by decide)) (Nat.le_of_ble_eq_true rfl) (Nat.le_of_ble_eq_true rfl) ⟨(Nat.le_of_ble_eq_true rfl), (Nat.le_of_ble_eq_true rfl)⟩ (Nat.le_of_ble_eq_true rfl) dX10_asItIs_36 (fun u_14 hp_15 => ?_)
  have hj_16 := jv_trans hj_13 hp_15
  refine s_aload_n E dX10_asItIs_39 rfl rfl ?_
  refine s_vV (As := []) (S := []) E (Z_X10_layPlaces_95 l D aC b u_14  hj_16.1 ) cv_X10_276 rfl rfl rfl (jv_lt hj_16 (by decide)) (Nat.le_of_ble_eq_true rfl) (Nat.le_of_ble_eq_true rfl) ⟨(Nat.le_of_ble_eq_true rfl), (Nat.le_of_ble_eq_true rfl)⟩ (Nat.le_of_ble_eq_true rfl) dX10_asItIs_40 (fun u_17 hp_18 => ?_)
  have hj_19 := jv_trans hj_16 hp_18
  exact r_void E dX10_asItIs_43 hj_19
set_option maxRecDepth 20000 in
set_option maxHeartbeats 2000000 in
theorem Z_X10_isMinister_95 (l : Launch) (D : va_G) (aC : Nat → ClassId) (b : Nat) (w : XW) (x1 : Int32) (hI : Iv w)  : CnI l D aC b M_X10_isMinister 1 25 0 0 [AR 95, AI x1] w (fun r u => (0 ≤ r.toInt ∧ r.toInt ≤ 1 ∧ (¬ r.toInt = 0 ∨ (0 ≤ (w.2.2.1 96 6).toInt ∧ (w.2.2.1 96 6).toInt ≤ 8)) ∧ (r.toInt = 0 ∨ (0 ≤ x1.toInt ∧ x1.toInt ≤ 7)) ∧ (r.toInt = 0 ∨ (0 ≤ (w.2.2.1 96 6).toInt ∧ (w.2.2.1 96 6).toInt ≤ 8))) ∧ w = u) := by
  refine cn_I (own := RX10) (nm := "isMinister") (L0 := [some (AR 95), some (AI x1)]) (by decide +kernel) rfl rfl (Nat.le_of_ble_eq_true rfl) rfl ?_
  intro p e s m args below meth c E hin
  have hJ : Jv w w := jv_rfl hI
  have hb_x1 := z32 x1
  refine s_iload_n E dX10_isMinister_0 rfl rfl ?_
  refine z_i2l (u := x1.toInt) E dX10_isMinister_1 rfl (fun z_1 hz_1 => ?_)
  refine s_lconst (v := 0) E dX10_isMinister_2 (by decide) ?_
  refine s_aload_n E dX10_isMinister_3 rfl rfl ?_
  refine s_gR (r := 96) E fg_X10_9 rfl rfl (jv_lt hJ (by decide)) (jv_r hJ (by decide +kernel)) dX10_isMinister_4 ?_
  refine s_bipush (v := 6) E dX10_isMinister_7 (by decide) ?_
  refine s_iald E rfl (jv_lt hJ (by decide)) (z_in (u := 6) (by decide) (by omega) (by omega)) dX10_isMinister_9 ?_
  refine z_nm (P := fun z => z.toInt = (w.2.2.1 96 6).toInt ∧ 0 ≤ z.toInt ∧ z.toInt ≤ 8) ⟨rfl, (rw_96_6 hJ)⟩ (fun z_2 hz_2 => ?_)
  refine s_iconst (v := 1) E dX10_isMinister_10 (by decide) ?_
  refine z_isub (u := z_2.toInt) (v := 1) E dX10_isMinister_11 rfl (by decide) (by omega) (by omega) (fun z_3 hz_3 => ?_)
  refine z_i2l (u := z_3.toInt) E dX10_isMinister_12 rfl (fun z_4 hz_4 => ?_)
  refine s_sI (As := [AL z_1, AL 0, AL z_4]) (S := []) E (Z_X10_in l D aC b w z_1 0 z_4) cs_X10_82 rfl rfl (Nat.le_of_ble_eq_true rfl) (Nat.le_of_ble_eq_true rfl) ⟨(Nat.le_of_ble_eq_true rfl), (Nat.le_of_ble_eq_true rfl)⟩ (Nat.le_of_ble_eq_true rfl) dX10_isMinister_13 (fun z_5 u_6 hp_7 => ?_)
  obtain ⟨hz_5, hp_7⟩ := hp_7
  subst hp_7
  exact r_bool E dX10_isMinister_16 (z_bool (by omega) (by omega)) ⟨⟨by have hb_ := z32 z_5; omega, by have hb_ := z32 z_5; omega, by first | (right; decide) | (have hb_ := z32 z_5; omega) | (have hb_ := z32 z_5; have hc_ := z32 (w.2.2.1 96 6); omega), by first | (right; decide) | (have hb_ := z32 z_5; omega) | (have hb_ := z32 z_5; have hc_ := z32 x1; omega), by first | (right; decide) | (have hb_ := z32 z_5; omega) | (have hb_ := z32 z_5; have hc_ := z32 (w.2.2.1 96 6); omega)⟩, rfl⟩
set_option maxRecDepth 20000 in
set_option maxHeartbeats 2000000 in
theorem Z_X10_minister_95 (l : Launch) (D : va_G) (aC : Nat → ClassId) (b : Nat) (w : XW) (x1 : Int32) (x2 : Int32) (hI : Iv w)  : CnI l D aC b M_X10_minister 4 92 0 0 [AR 95, AI x1, AI x2] w (fun r u => ((-2) ≤ r.toInt ∧ r.toInt ≤ 20 ∧ (¬ r.toInt = 0 ∨ (0 ≤ x1.toInt ∧ x1.toInt ≤ 7)) ∧ (¬ r.toInt = 0 ∨ (0 ≤ x2.toInt ∧ x2.toInt ≤ 1))) ∧ Jv w u) := by
  refine cn_I (own := RX10) (nm := "minister") (L0 := [some (AR 95), some (AI x1), some (AI x2)]) (by decide +kernel) rfl rfl (Nat.le_of_ble_eq_true rfl) rfl ?_
  intro p e s m args below meth c E hin
  have hJ : Jv w w := jv_rfl hI
  have hb_x1 := z32 x1
  have hb_x2 := z32 x2
  refine s_aload_n E dX10_minister_0 rfl rfl ?_
  refine s_vV (As := []) (S := []) E (Z_X10_asItIs_95 l D aC b w  hJ.1 ) cv_X10_279 rfl rfl rfl (jv_lt hJ (by decide)) (Nat.le_of_ble_eq_true rfl) (Nat.le_of_ble_eq_true rfl) ⟨(Nat.le_of_ble_eq_true rfl), (Nat.le_of_ble_eq_true rfl)⟩ (Nat.le_of_ble_eq_true rfl) dX10_minister_1 (fun u_1 hp_2 => ?_)
  have hj_3 := jv_trans hJ hp_2
  refine s_aload_n E dX10_minister_4 rfl rfl ?_
  refine s_iload_n E dX10_minister_5 rfl rfl ?_
  refine s_vI (As := [AI x1]) (S := []) E (Z_X10_isMinister_95 l D aC b u_1 x1 hj_3.1 ) cv_X10_285 rfl rfl rfl (jv_lt hj_3 (by decide)) (Nat.le_of_ble_eq_true rfl) (Nat.le_of_ble_eq_true rfl) ⟨(Nat.le_of_ble_eq_true rfl), (Nat.le_of_ble_eq_true rfl)⟩ (Nat.le_of_ble_eq_true rfl) dX10_minister_6 (fun z_6 u_4 hp_5 => ?_)
  obtain ⟨hz_6, hp_5⟩ := hp_5
  subst hp_5
  refine z_if_eq (tgt := 22) (u := z_6.toInt) E dX10_minister_9 (by decide) rfl (fun h_8 => ?_) (fun h_8 => ?_)
  ·
    refine s_bipush (v := (-2)) E dX10_minister_22 (by decide) ?_
    exact r_int E dX10_minister_24 ⟨⟨by decide, by decide, by first | (left; decide) | (right; decide) | (right; have hb_ := z32 x1; omega), by first | (left; decide) | (right; decide) | (right; have hb_ := z32 x2; omega)⟩, hj_3⟩
  ·
    refine s_iload_n E dX10_minister_12 rfl rfl ?_
    refine z_i2l (u := x2.toInt) E dX10_minister_13 rfl (fun z_9 hz_9 => ?_)
    refine s_lconst (v := 0) E dX10_minister_14 (by decide) ?_
    refine s_lconst (v := 1) E dX10_minister_15 (by decide) ?_
    refine s_sI (As := [AL z_9, AL 0, AL 1]) (S := []) E (Z_X10_in l D aC b u_1 z_9 0 1) cs_X10_82 rfl rfl (Nat.le_of_ble_eq_true rfl) (Nat.le_of_ble_eq_true rfl) ⟨(Nat.le_of_ble_eq_true rfl), (Nat.le_of_ble_eq_true rfl)⟩ (Nat.le_of_ble_eq_true rfl) dX10_minister_16 (fun z_10 u_11 hp_12 => ?_)
    obtain ⟨hz_10, hp_12⟩ := hp_12
    subst hp_12
    refine z_if_ne (tgt := 25) (u := z_10.toInt) E dX10_minister_19 (by decide) rfl (fun h_13 => ?_) (fun h_13 => ?_)
    ·
      refine s_iload_n E dX10_minister_25 rfl rfl ?_
      refine z_if_ne (tgt := 38) (u := x2.toInt) E dX10_minister_26 (by decide) rfl (fun h_14 => ?_) (fun h_14 => ?_)
      ·
        refine s_aload_n E dX10_minister_38 rfl rfl ?_
        refine s_gR (r := 96) E fg_X10_9 rfl rfl (jv_lt hj_3 (by decide)) (jv_r hj_3 (by decide +kernel)) dX10_minister_39 ?_
        refine s_bipush (v := 58) E dX10_minister_42 (by decide) ?_
        refine s_iconst (v := 2) E dX10_minister_44 (by decide) ?_
        refine s_iload_n E dX10_minister_45 rfl rfl ?_
        refine z_imul (u := 2) (v := x1.toInt) E dX10_minister_46 (by decide) rfl (by omega) (by omega) (fun z_15 hz_15 => ?_)
        refine z_iadd (u := 58) (v := z_15.toInt) E dX10_minister_47 (by decide) rfl (by omega) (by omega) (fun z_16 hz_16 => ?_)
        refine s_iconst (v := 1) E dX10_minister_48 (by decide) ?_
        refine z_iadd (u := z_16.toInt) (v := 1) E dX10_minister_49 rfl (by decide) (by omega) (by omega) (fun z_17 hz_17 => ?_)
        refine s_iald E rfl (jv_lt hj_3 (by decide)) (z_in (u := z_17.toInt) rfl (by omega) (by omega)) dX10_minister_50 ?_
        refine z_nm (P := fun z => z.toInt = (u_1.2.2.1 96 z_17.toNatClampNeg).toInt ∧ 0 ≤ z.toInt ∧ z.toInt ≤ 20 ∧ (104 ≤ z_17.toInt → z_17.toInt < 134 → okA z.toInt)) ⟨rfl, (rs_w hj_3 (by decide) 0 20 59 73 2 z_17 z_17.toInt (by decide +kernel) rfl (by omega) (by omega) (by omega))⟩ (fun z_18 hz_18 => ?_)
        exact r_int E dX10_minister_51 ⟨⟨by have hb_ := z32 z_18; omega, by have hb_ := z32 z_18; omega, by first | (right; decide) | (have hb_ := z32 z_18; omega) | (have hb_ := z32 z_18; have hc_ := z32 x1; omega), by first | (right; decide) | (have hb_ := z32 z_18; omega) | (have hb_ := z32 z_18; have hc_ := z32 x2; omega)⟩, hj_3⟩
      ·
        refine s_aload_n E dX10_minister_29 rfl rfl ?_
        refine s_gR (r := 104) E fg_X10_40 rfl rfl (jv_lt hj_3 (by decide)) (jv_r hj_3 (by decide +kernel)) dX10_minister_30 ?_
        refine s_iload_n E dX10_minister_33 rfl rfl ?_
        refine s_iald E rfl (jv_lt hj_3 (by decide)) (z_in (u := x1.toInt) rfl (by omega) (by omega)) dX10_minister_34 ?_
        refine z_nm (P := fun z => z.toInt = (u_1.2.2.1 104 x1.toNatClampNeg).toInt ∧ 0 ≤ z.toInt ∧ z.toInt ≤ 5) ⟨rfl, (ra_104 hj_3 _)⟩ (fun z_19 hz_19 => ?_)
        refine s_goto (tgt := 51) E dX10_minister_35 (by decide) ?_
        exact r_int E dX10_minister_51 ⟨⟨by have hb_ := z32 z_19; omega, by have hb_ := z32 z_19; omega, by first | (right; decide) | (have hb_ := z32 z_19; omega) | (have hb_ := z32 z_19; have hc_ := z32 x1; omega), by first | (right; decide) | (have hb_ := z32 z_19; omega) | (have hb_ := z32 z_19; have hc_ := z32 x2; omega)⟩, hj_3⟩
    ·
      refine s_bipush (v := (-2)) E dX10_minister_22 (by decide) ?_
      exact r_int E dX10_minister_24 ⟨⟨by decide, by decide, by first | (left; decide) | (right; decide) | (right; have hb_ := z32 x1; omega), by first | (left; decide) | (right; decide) | (right; have hb_ := z32 x2; omega)⟩, hj_3⟩
set_option maxRecDepth 20000 in
set_option maxHeartbeats 2000000 in
theorem Z_X10_asksLady_95 (l : Launch) (D : va_G) (aC : Nat → ClassId) (b : Nat) (w : XW) (x1 : Int32) (hI : Iv w)  : CnI l D aC b M_X10_asksLady 4 92 0 0 [AR 95, AI x1] w (fun r u => (0 ≤ r.toInt ∧ r.toInt ≤ 1 ∧ (r.toInt = 0 ∨ (0 ≤ x1.toInt ∧ x1.toInt ≤ 5))) ∧ Jv w u) := by
  refine cn_I (own := RX10) (nm := "asksLady") (L0 := [some (AR 95), some (AI x1)]) (by decide +kernel) rfl rfl (Nat.le_of_ble_eq_true rfl) rfl ?_
  intro p e s m args below meth c E hin
  have hJ : Jv w w := jv_rfl hI
  have hb_x1 := z32 x1
  refine s_aload_n E dX10_asksLady_0 rfl rfl ?_
  refine s_vV (As := []) (S := []) E (Z_X10_asItIs_95 l D aC b w  hJ.1 ) cv_X10_279 rfl rfl rfl (jv_lt hJ (by decide)) (Nat.le_of_ble_eq_true rfl) (Nat.le_of_ble_eq_true rfl) ⟨(Nat.le_of_ble_eq_true rfl), (Nat.le_of_ble_eq_true rfl)⟩ (Nat.le_of_ble_eq_true rfl) dX10_asksLady_1 (fun u_1 hp_2 => ?_)
  have hj_3 := jv_trans hJ hp_2
  refine s_aload_n E dX10_asksLady_4 rfl rfl ?_
  refine s_iload_n E dX10_asksLady_5 rfl rfl ?_
  refine z_i2l (u := x1.toInt) E dX10_asksLady_6 rfl (fun z_4 hz_4 => ?_)
  refine s_vI (As := [AL z_4]) (S := []) E (Z_X10_isLady_95 l D aC b u_1 z_4 hj_3.1 ) cv_X10_222 rfl rfl rfl (jv_lt hj_3 (by decide)) (Nat.le_of_ble_eq_true rfl) (Nat.le_of_ble_eq_true rfl) ⟨(Nat.le_of_ble_eq_true rfl), (Nat.le_of_ble_eq_true rfl)⟩ (Nat.le_of_ble_eq_true rfl) dX10_asksLady_7 (fun z_7 u_5 hp_6 => ?_)
  obtain ⟨hz_7, hp_6⟩ := hp_6
  subst hp_6
  exact r_bool E dX10_asksLady_10 (z_bool (by omega) (by omega)) ⟨⟨by have hb_ := z32 z_7; omega, by have hb_ := z32 z_7; omega, by first | (right; decide) | (have hb_ := z32 z_7; omega) | (have hb_ := z32 z_7; have hc_ := z32 x1; omega)⟩, hj_3⟩
set_option maxRecDepth 20000 in
set_option maxHeartbeats 2000000 in
theorem Z_X10_isRoom_95 (l : Launch) (D : va_G) (aC : Nat → ClassId) (b : Nat) (w : XW) (x1 : Int32) (hI : Iv w)  : CnI l D aC b M_X10_isRoom 1 25 0 0 [AR 95, AI x1] w (fun r u => (0 ≤ r.toInt ∧ r.toInt ≤ 1 ∧ (¬ r.toInt = 0 ∨ (0 ≤ (w.2.2.1 96 0).toInt ∧ (w.2.2.1 96 0).toInt ≤ 8)) ∧ (r.toInt = 0 ∨ (0 ≤ x1.toInt ∧ x1.toInt ≤ 7)) ∧ (r.toInt = 0 ∨ (0 ≤ (w.2.2.1 96 0).toInt ∧ (w.2.2.1 96 0).toInt ≤ 8))) ∧ w = u) := by
  refine cn_I (own := RX10) (nm := "isRoom") (L0 := [some (AR 95), some (AI x1)]) (by decide +kernel) rfl rfl (Nat.le_of_ble_eq_true rfl) rfl ?_
  intro p e s m args below meth c E hin
  have hJ : Jv w w := jv_rfl hI
  have hb_x1 := z32 x1
  refine s_iload_n E dX10_isRoom_0 rfl rfl ?_
  refine z_i2l (u := x1.toInt) E dX10_isRoom_1 rfl (fun z_1 hz_1 => ?_)
  refine s_lconst (v := 0) E dX10_isRoom_2 (by decide) ?_
  refine s_aload_n E dX10_isRoom_3 rfl rfl ?_
  refine s_gR (r := 96) E fg_X10_9 rfl rfl (jv_lt hJ (by decide)) (jv_r hJ (by decide +kernel)) dX10_isRoom_4 ?_
  refine s_iconst (v := 0) E dX10_isRoom_7 (by decide) ?_
  refine s_iald E rfl (jv_lt hJ (by decide)) (z_in (u := 0) (by decide) (by omega) (by omega)) dX10_isRoom_8 ?_
  refine z_nm (P := fun z => z.toInt = (w.2.2.1 96 0).toInt ∧ 0 ≤ z.toInt ∧ z.toInt ≤ 8) ⟨rfl, (rw_96_0 hJ)⟩ (fun z_2 hz_2 => ?_)
  refine s_iconst (v := 1) E dX10_isRoom_9 (by decide) ?_
  refine z_isub (u := z_2.toInt) (v := 1) E dX10_isRoom_10 rfl (by decide) (by omega) (by omega) (fun z_3 hz_3 => ?_)
  refine z_i2l (u := z_3.toInt) E dX10_isRoom_11 rfl (fun z_4 hz_4 => ?_)
  refine s_sI (As := [AL z_1, AL 0, AL z_4]) (S := []) E (Z_X10_in l D aC b w z_1 0 z_4) cs_X10_82 rfl rfl (Nat.le_of_ble_eq_true rfl) (Nat.le_of_ble_eq_true rfl) ⟨(Nat.le_of_ble_eq_true rfl), (Nat.le_of_ble_eq_true rfl)⟩ (Nat.le_of_ble_eq_true rfl) dX10_isRoom_12 (fun z_5 u_6 hp_7 => ?_)
  obtain ⟨hz_5, hp_7⟩ := hp_7
  subst hp_7
  exact r_bool E dX10_isRoom_15 (z_bool (by omega) (by omega)) ⟨⟨by have hb_ := z32 z_5; omega, by have hb_ := z32 z_5; omega, by first | (right; decide) | (have hb_ := z32 z_5; omega) | (have hb_ := z32 z_5; have hc_ := z32 (w.2.2.1 96 0); omega), by first | (right; decide) | (have hb_ := z32 z_5; omega) | (have hb_ := z32 z_5; have hc_ := z32 x1; omega), by first | (right; decide) | (have hb_ := z32 z_5; omega) | (have hb_ := z32 z_5; have hc_ := z32 (w.2.2.1 96 0); omega)⟩, rfl⟩
set_option maxRecDepth 20000 in
set_option maxHeartbeats 2000000 in
theorem Z_X10_way_95 (l : Launch) (D : va_G) (aC : Nat → ClassId) (b : Nat) (w : XW) (x1 : Int32) (x2 : Int32) (x3 : Int32) (hI : Iv w)  : CnI l D aC b M_X10_way 5 113 0 0 [AR 95, AI x1, AI x2, AI x3] w (fun r u => ((-2) ≤ r.toInt ∧ r.toInt ≤ 999999999 ∧ (¬ r.toInt = 0 ∨ (0 ≤ x1.toInt ∧ x1.toInt ≤ 5)) ∧ (¬ r.toInt = 0 ∨ (0 ≤ x2.toInt ∧ x2.toInt ≤ 7)) ∧ (¬ r.toInt = 0 ∨ (0 ≤ x3.toInt ∧ x3.toInt ≤ 7))) ∧ Jv w u) := by
  refine cn_I (own := RX10) (nm := "way") (L0 := [some (AR 95), some (AI x1), some (AI x2), some (AI x3), none]) (by decide +kernel) rfl rfl (Nat.le_of_ble_eq_true rfl) rfl ?_
  intro p e s m args below meth c E hin
  have hJ : Jv w w := jv_rfl hI
  have hb_x1 := z32 x1
  have hb_x2 := z32 x2
  have hb_x3 := z32 x3
  refine s_aload_n E dX10_way_0 rfl rfl ?_
  refine s_iload_n E dX10_way_1 rfl rfl ?_
  refine s_vI (As := [AI x1]) (S := []) E (Z_X10_asksLady_95 l D aC b w x1 hJ.1 ) cv_X10_288 rfl rfl rfl (jv_lt hJ (by decide)) (Nat.le_of_ble_eq_true rfl) (Nat.le_of_ble_eq_true rfl) ⟨(Nat.le_of_ble_eq_true rfl), (Nat.le_of_ble_eq_true rfl)⟩ (Nat.le_of_ble_eq_true rfl) dX10_way_2 (fun z_3 u_1 hp_2 => ?_)
  obtain ⟨hz_3, hp_2⟩ := hp_2
  have hj_4 := jv_trans hJ hp_2
  refine z_if_eq (tgt := 24) (u := z_3.toInt) E dX10_way_5 (by decide) rfl (fun h_5 => ?_) (fun h_5 => ?_)
  ·
    refine s_bipush (v := (-2)) E dX10_way_24 (by decide) ?_
    exact r_int E dX10_way_26 ⟨⟨by decide, by decide, by first | (left; decide) | (right; decide) | (right; have hb_ := z32 x1; omega), by first | (left; decide) | (right; decide) | (right; have hb_ := z32 x2; omega), by first | (left; decide) | (right; decide) | (right; have hb_ := z32 x3; omega)⟩, hj_4⟩
  ·
    refine s_aload_n E dX10_way_8 rfl rfl ?_
    refine s_iload_n E dX10_way_9 rfl rfl ?_
    refine s_vI (As := [AI x2]) (S := []) E (Z_X10_isRoom_95 l D aC b u_1 x2 hj_4.1 ) cv_X10_291 rfl rfl rfl (jv_lt hj_4 (by decide)) (Nat.le_of_ble_eq_true rfl) (Nat.le_of_ble_eq_true rfl) ⟨(Nat.le_of_ble_eq_true rfl), (Nat.le_of_ble_eq_true rfl)⟩ (Nat.le_of_ble_eq_true rfl) dX10_way_10 (fun z_8 u_6 hp_7 => ?_)
    obtain ⟨hz_8, hp_7⟩ := hp_7
    subst hp_7
    refine z_if_eq (tgt := 24) (u := z_8.toInt) E dX10_way_13 (by decide) rfl (fun h_10 => ?_) (fun h_10 => ?_)
    ·
      refine s_bipush (v := (-2)) E dX10_way_24 (by decide) ?_
      exact r_int E dX10_way_26 ⟨⟨by decide, by decide, by first | (left; decide) | (right; decide) | (right; have hb_ := z32 x1; omega), by first | (left; decide) | (right; decide) | (right; have hb_ := z32 x2; omega), by first | (left; decide) | (right; decide) | (right; have hb_ := z32 x3; omega)⟩, hj_4⟩
    ·
      refine s_aload_n E dX10_way_16 rfl rfl ?_
      refine s_iload_n E dX10_way_17 rfl rfl ?_
      refine s_vI (As := [AI x3]) (S := []) E (Z_X10_isRoom_95 l D aC b u_1 x3 hj_4.1 ) cv_X10_291 rfl rfl rfl (jv_lt hj_4 (by decide)) (Nat.le_of_ble_eq_true rfl) (Nat.le_of_ble_eq_true rfl) ⟨(Nat.le_of_ble_eq_true rfl), (Nat.le_of_ble_eq_true rfl)⟩ (Nat.le_of_ble_eq_true rfl) dX10_way_18 (fun z_13 u_11 hp_12 => ?_)
      obtain ⟨hz_13, hp_12⟩ := hp_12
      subst hp_12
      refine z_if_ne (tgt := 27) (u := z_13.toInt) E dX10_way_21 (by decide) rfl (fun h_15 => ?_) (fun h_15 => ?_)
      ·
        refine s_aload_n E dX10_way_27 rfl rfl ?_
        refine s_aload_n E dX10_way_28 rfl rfl ?_
        refine s_iload_n E dX10_way_29 rfl rfl ?_
        refine s_vI (As := [AI x1]) (S := [AR 95]) E (Z_X10_wideOf_95 l D aC b u_1 x1 hj_4.1 ⟨by have hb_ := z32 x1; omega, by have hb_ := z32 x1; omega⟩) cv_X10_238 rfl rfl rfl (jv_lt hj_4 (by decide)) (Nat.le_of_ble_eq_true rfl) (Nat.le_of_ble_eq_true rfl) ⟨(Nat.le_of_ble_eq_true rfl), (Nat.le_of_ble_eq_true rfl)⟩ (Nat.le_of_ble_eq_true rfl) dX10_way_30 (fun z_18 u_16 hp_17 => ?_)
        obtain ⟨hz_18, hxz_18, hp_17⟩ := hp_17
        subst hp_17
        refine s_iload_n E dX10_way_33 rfl rfl ?_
        refine s_iload_n E dX10_way_34 rfl rfl ?_
        refine s_vI (As := [AI z_18, AI x2, AI x3]) (S := []) E (Z_X10_wayOf_95 l D aC b u_1 z_18 x2 x3 hj_4.1 ⟨by have hb_ := z32 z_18; omega, by have hb_ := z32 z_18; omega⟩ ⟨by have hb_ := z32 x2; omega, by have hb_ := z32 x2; omega⟩ ⟨by have hb_ := z32 x3; omega, by have hb_ := z32 x3; omega⟩) cv_X10_233 rfl rfl rfl (jv_lt hj_4 (by decide)) (Nat.le_of_ble_eq_true rfl) (Nat.le_of_ble_eq_true rfl) ⟨(Nat.le_of_ble_eq_true rfl), (Nat.le_of_ble_eq_true rfl)⟩ (Nat.le_of_ble_eq_true rfl) dX10_way_35 (fun z_22 u_20 hp_21 => ?_)
        obtain ⟨hz_22, hxz_22, hp_21⟩ := hp_21
        subst hp_21
        refine s_istore (L2 := [some (AR 95), some (AI x1), some (AI x2), some (AI x3), some (AI z_22)]) E dX10_way_38 (by decide) rfl ?_
        refine s_iload E dX10_way_40 rfl ?_
        refine s_ldc E k_1513 rfl dX10_way_42 ?_
        refine z_icmp_lt (tgt := 51) (u := z_22.toInt) (v := 1000000000) E dX10_way_44 (by decide) rfl (by decide) (fun h_24 => ?_) (fun h_24 => ?_)
        ·
          refine s_iload E dX10_way_51 rfl ?_
          exact r_int E dX10_way_53 ⟨⟨by have hb_ := z32 z_22; omega, by have hb_ := z32 z_22; omega, by first | (right; decide) | (have hb_ := z32 z_22; omega) | (have hb_ := z32 z_22; have hc_ := z32 x1; omega), by first | (right; decide) | (have hb_ := z32 z_22; omega) | (have hb_ := z32 z_22; have hc_ := z32 x2; omega), by first | (right; decide) | (have hb_ := z32 z_22; omega) | (have hb_ := z32 z_22; have hc_ := z32 x3; omega)⟩, hj_4⟩
        ·
          refine s_iconst (v := (-1)) E dX10_way_47 (by decide) ?_
          refine s_goto (tgt := 53) E dX10_way_48 (by decide) ?_
          exact r_int E dX10_way_53 ⟨⟨by decide, by decide, by first | (left; decide) | (right; decide) | (right; have hb_ := z32 x1; omega), by first | (left; decide) | (right; decide) | (right; have hb_ := z32 x2; omega), by first | (left; decide) | (right; decide) | (right; have hb_ := z32 x3; omega)⟩, hj_4⟩
      ·
        refine s_bipush (v := (-2)) E dX10_way_24 (by decide) ?_
        exact r_int E dX10_way_26 ⟨⟨by decide, by decide, by first | (left; decide) | (right; decide) | (right; have hb_ := z32 x1; omega), by first | (left; decide) | (right; decide) | (right; have hb_ := z32 x2; omega), by first | (left; decide) | (right; decide) | (right; have hb_ := z32 x3; omega)⟩, hj_4⟩
set_option maxRecDepth 20000 in
set_option maxHeartbeats 2000000 in
theorem Z_X10_reach_95 (l : Launch) (D : va_G) (aC : Nat → ClassId) (b : Nat) (w : XW) (x1 : Int32) (x2 : Int32) (hI : Iv w)  : CnI l D aC b M_X10_reach 5 113 0 0 [AR 95, AI x1, AI x2] w (fun r u => ((-2147483648) ≤ r.toInt ∧ r.toInt ≤ 2147483647 ∧ (¬ r.toInt = 0 ∨ (0 ≤ x1.toInt ∧ x1.toInt ≤ 5)) ∧ (¬ r.toInt = 0 ∨ (0 ≤ x2.toInt ∧ x2.toInt ≤ 7))) ∧ Jv w u) := by
  refine cn_I (own := RX10) (nm := "reach") (L0 := [some (AR 95), some (AI x1), some (AI x2), none, none]) (by decide +kernel) rfl rfl (Nat.le_of_ble_eq_true rfl) rfl ?_
  intro p e s m args below meth c E hin
  have hJ : Jv w w := jv_rfl hI
  have hb_x1 := z32 x1
  have hb_x2 := z32 x2
  refine s_aload_n E dX10_reach_0 rfl rfl ?_
  refine s_iload_n E dX10_reach_1 rfl rfl ?_
  refine s_vI (As := [AI x1]) (S := []) E (Z_X10_asksLady_95 l D aC b w x1 hJ.1 ) cv_X10_288 rfl rfl rfl (jv_lt hJ (by decide)) (Nat.le_of_ble_eq_true rfl) (Nat.le_of_ble_eq_true rfl) ⟨(Nat.le_of_ble_eq_true rfl), (Nat.le_of_ble_eq_true rfl)⟩ (Nat.le_of_ble_eq_true rfl) dX10_reach_2 (fun z_3 u_1 hp_2 => ?_)
  obtain ⟨hz_3, hp_2⟩ := hp_2
  have hj_4 := jv_trans hJ hp_2
  refine z_if_eq (tgt := 16) (u := z_3.toInt) E dX10_reach_5 (by decide) rfl (fun h_5 => ?_) (fun h_5 => ?_)
  ·
    refine s_bipush (v := (-2)) E dX10_reach_16 (by decide) ?_
    exact r_int E dX10_reach_18 ⟨⟨by decide, by decide, by first | (left; decide) | (right; decide) | (right; have hb_ := z32 x1; omega), by first | (left; decide) | (right; decide) | (right; have hb_ := z32 x2; omega)⟩, hj_4⟩
  ·
    refine s_aload_n E dX10_reach_8 rfl rfl ?_
    refine s_iload_n E dX10_reach_9 rfl rfl ?_
    refine s_vI (As := [AI x2]) (S := []) E (Z_X10_isRoom_95 l D aC b u_1 x2 hj_4.1 ) cv_X10_291 rfl rfl rfl (jv_lt hj_4 (by decide)) (Nat.le_of_ble_eq_true rfl) (Nat.le_of_ble_eq_true rfl) ⟨(Nat.le_of_ble_eq_true rfl), (Nat.le_of_ble_eq_true rfl)⟩ (Nat.le_of_ble_eq_true rfl) dX10_reach_10 (fun z_8 u_6 hp_7 => ?_)
    obtain ⟨hz_8, hp_7⟩ := hp_7
    subst hp_7
    refine z_if_ne (tgt := 19) (u := z_8.toInt) E dX10_reach_13 (by decide) rfl (fun h_10 => ?_) (fun h_10 => ?_)
    ·
      refine s_iconst (v := 0) E dX10_reach_19 (by decide) ?_
      refine s_istore_n (L2 := [some (AR 95), some (AI x1), some (AI x2), some (AI 0), none]) E dX10_reach_20 rfl (by decide) rfl ?_
      refine s_iconst (v := 0) E dX10_reach_21 (by decide) ?_
      refine s_istore (L2 := [some (AR 95), some (AI x1), some (AI x2), some (AI 0), some (AI 0)]) E dX10_reach_22 (by decide) rfl ?_
      refine z_loop (St := Int32 × Int32) (Pi := fun ⟨q24_3_10, q24_4_10⟩ v24 => (0 ≤ q24_4_10.toInt ∧ q24_4_10.toInt ≤ 8) ∧ u_1 = v24) (Lf := fun ⟨q24_3_10, q24_4_10⟩ => [some (AR 95), some (AI x1), some (AI x2), some (AI q24_3_10), some (AI q24_4_10)]) (fun ⟨q24_3_10, q24_4_10⟩ _ => (9 - q24_4_10.toInt).toNat) ⟨0, 0⟩ ⟨⟨by decide, by decide⟩, rfl⟩ ?_
      rintro ⟨q24_3_10, q24_4_10⟩ v24 ⟨hq24_4, hv_⟩ ih24
      subst hv_
      have hbq24_3 := z32 q24_3_10
      refine s_loc (L2 := [some (AR 95), some (AI x1), some (AI x2), some (AI q24_3_10), some (AI q24_4_10)]) rfl ?_
      refine s_iload E dX10_reach_24 rfl ?_
      refine s_aload_n E dX10_reach_26 rfl rfl ?_
      refine s_gR (r := 96) E fg_X10_9 rfl rfl (jv_lt hj_4 (by decide)) (jv_r hj_4 (by decide +kernel)) dX10_reach_27 ?_
      refine s_iconst (v := 0) E dX10_reach_30 (by decide) ?_
      refine s_iald E rfl (jv_lt hj_4 (by decide)) (z_in (u := 0) (by decide) (by omega) (by omega)) dX10_reach_31 ?_
      refine z_nm (P := fun z => z.toInt = (u_1.2.2.1 96 0).toInt ∧ 0 ≤ z.toInt ∧ z.toInt ≤ 8) ⟨rfl, (rw_96_0 hj_4)⟩ (fun z_12 hz_12 => ?_)
      refine z_icmp_ge (tgt := 69) (u := q24_4_10.toInt) (v := z_12.toInt) E dX10_reach_32 (by decide) rfl rfl (fun h_13 => ?_) (fun h_13 => ?_)
      ·
        refine s_iload_n E dX10_reach_69 rfl rfl ?_
        exact r_int E dX10_reach_70 ⟨⟨by have hb_ := z32 q24_3_10; omega, by have hb_ := z32 q24_3_10; omega, by first | (right; decide) | (have hb_ := z32 q24_3_10; omega) | (have hb_ := z32 q24_3_10; have hc_ := z32 x1; omega), by first | (right; decide) | (have hb_ := z32 q24_3_10; omega) | (have hb_ := z32 q24_3_10; have hc_ := z32 x2; omega)⟩, hj_4⟩
      ·
        refine s_iload_n E dX10_reach_35 rfl rfl ?_
        refine s_aload_n E dX10_reach_36 rfl rfl ?_
        refine s_aload_n E dX10_reach_37 rfl rfl ?_
        refine s_iload_n E dX10_reach_38 rfl rfl ?_
        refine s_vI (As := [AI x1]) (S := [AR 95, AI q24_3_10]) E (Z_X10_wideOf_95 l D aC b u_1 x1 hj_4.1 ⟨by have hb_ := z32 x1; omega, by have hb_ := z32 x1; omega⟩) cv_X10_238 rfl rfl rfl (jv_lt hj_4 (by decide)) (Nat.le_of_ble_eq_true rfl) (Nat.le_of_ble_eq_true rfl) ⟨(Nat.le_of_ble_eq_true rfl), (Nat.le_of_ble_eq_true rfl)⟩ (Nat.le_of_ble_eq_true rfl) dX10_reach_39 (fun z_16 u_14 hp_15 => ?_)
        obtain ⟨hz_16, hxz_16, hp_15⟩ := hp_15
        subst hp_15
        refine s_iload_n E dX10_reach_42 rfl rfl ?_
        refine s_iload E dX10_reach_43 rfl ?_
        refine s_vI (As := [AI z_16, AI x2, AI q24_4_10]) (S := [AI q24_3_10]) E (Z_X10_wayOf_95 l D aC b u_1 z_16 x2 q24_4_10 hj_4.1 ⟨by have hb_ := z32 z_16; omega, by have hb_ := z32 z_16; omega⟩ ⟨by have hb_ := z32 x2; omega, by have hb_ := z32 x2; omega⟩ ⟨by have hb_ := z32 q24_4_10; omega, by have hb_ := z32 q24_4_10; omega⟩) cv_X10_233 rfl rfl rfl (jv_lt hj_4 (by decide)) (Nat.le_of_ble_eq_true rfl) (Nat.le_of_ble_eq_true rfl) ⟨(Nat.le_of_ble_eq_true rfl), (Nat.le_of_ble_eq_true rfl)⟩ (Nat.le_of_ble_eq_true rfl) dX10_reach_45 (fun z_20 u_18 hp_19 => ?_)
        obtain ⟨hz_20, hxz_20, hp_19⟩ := hp_19
        subst hp_19
        refine s_ldc E k_1513 rfl dX10_reach_48 ?_
        refine z_icmp_ge (tgt := 60) (u := z_20.toInt) (v := 1000000000) E dX10_reach_50 (by decide) rfl (by decide) (fun h_22 => ?_) (fun h_22 => ?_)
        ·
          refine s_iconst (v := 0) E dX10_reach_60 (by decide) ?_
          refine s_ior E dX10_reach_61 ?_
          refine z_nm (P := fun z => (-2147483648) ≤ z.toInt ∧ z.toInt ≤ 2147483647) (z32 _) (fun z_23 hz_23 => ?_)
          refine s_istore_n (L2 := [some (AR 95), some (AI x1), some (AI x2), some (AI z_23), some (AI q24_4_10)]) E dX10_reach_62 rfl (by decide) rfl ?_
          refine z_iinc (u := q24_4_10.toInt) (L2 := fun z_24 => [some (AR 95), some (AI x1), some (AI x2), some (AI z_23), some (AI z_24)]) E dX10_reach_63 rfl rfl (by decide) (fun _ => rfl) (by decide) (by omega) (by omega) (fun z_24 hz_24 => ?_)
          refine s_goto (tgt := 24) E dX10_reach_66 (by decide) ?_
          exact ih24 ⟨z_23, z_24⟩ u_1 ⟨⟨by have hb_ := z32 z_24; omega, by have hb_ := z32 z_24; omega⟩, rfl⟩ (by first | omega | decide | (dsimp only; omega) | (dsimp only; decide))
        ·
          refine s_iconst (v := 1) E dX10_reach_53 (by decide) ?_
          refine s_iload E dX10_reach_54 rfl ?_
          refine z_shl1 7 (u := q24_4_10.toInt) (B := 128) E dX10_reach_56 rfl (by omega) (by omega) (by decide) (by decide) (fun z_25 hz_25 => ?_)
          refine s_goto (tgt := 61) E dX10_reach_57 (by decide) ?_
          refine s_ior E dX10_reach_61 ?_
          refine z_nm (P := fun z => (-2147483648) ≤ z.toInt ∧ z.toInt ≤ 2147483647) (z32 _) (fun z_26 hz_26 => ?_)
          refine s_istore_n (L2 := [some (AR 95), some (AI x1), some (AI x2), some (AI z_26), some (AI q24_4_10)]) E dX10_reach_62 rfl (by decide) rfl ?_
          refine z_iinc (u := q24_4_10.toInt) (L2 := fun z_27 => [some (AR 95), some (AI x1), some (AI x2), some (AI z_26), some (AI z_27)]) E dX10_reach_63 rfl rfl (by decide) (fun _ => rfl) (by decide) (by omega) (by omega) (fun z_27 hz_27 => ?_)
          refine s_goto (tgt := 24) E dX10_reach_66 (by decide) ?_
          exact ih24 ⟨z_26, z_27⟩ u_1 ⟨⟨by have hb_ := z32 z_27; omega, by have hb_ := z32 z_27; omega⟩, rfl⟩ (by first | omega | decide | (dsimp only; omega) | (dsimp only; decide))
    ·
      refine s_bipush (v := (-2)) E dX10_reach_16 (by decide) ?_
      exact r_int E dX10_reach_18 ⟨⟨by decide, by decide, by first | (left; decide) | (right; decide) | (right; have hb_ := z32 x1; omega), by first | (left; decide) | (right; decide) | (right; have hb_ := z32 x2; omega)⟩, hj_4⟩
set_option maxRecDepth 20000 in
set_option maxHeartbeats 2000000 in
theorem Z_X10_isBall_95 (l : Launch) (D : va_G) (aC : Nat → ClassId) (b : Nat) (w : XW)  (hI : Iv w)  : CnI l D aC b M_X10_isBall 0 0 0 0 [AR 95] w (fun r u => (0 ≤ r.toInt ∧ r.toInt ≤ 1 ∧ (¬ r.toInt = 0 ∨ (0 ≤ (w.2.2.1 96 9).toInt ∧ (w.2.2.1 96 9).toInt ≤ 0)) ∧ (r.toInt = 0 ∨ (1 ≤ (w.2.2.1 96 9).toInt ∧ (w.2.2.1 96 9).toInt ≤ 2147483647))) ∧ w = u) := by
  refine cn_I (own := RX10) (nm := "isBall") (L0 := [some (AR 95)]) (by decide +kernel) rfl rfl (Nat.le_of_ble_eq_true rfl) rfl ?_
  intro p e s m args below meth c E hin
  have hJ : Jv w w := jv_rfl hI
  refine s_aload_n E dX10_isBall_0 rfl rfl ?_
  refine s_gR (r := 96) E fg_X10_9 rfl rfl (jv_lt hJ (by decide)) (jv_r hJ (by decide +kernel)) dX10_isBall_1 ?_
  refine s_bipush (v := 9) E dX10_isBall_4 (by decide) ?_
  refine s_iald E rfl (jv_lt hJ (by decide)) (z_in (u := 9) (by decide) (by omega) (by omega)) dX10_isBall_6 ?_
  refine z_nm (P := fun z => z.toInt = (w.2.2.1 96 9).toInt ∧ 0 ≤ z.toInt ∧ z.toInt ≤ 2147483647) ⟨rfl, (rw_96_9 hJ)⟩ (fun z_1 hz_1 => ?_)
  refine z_if_le (tgt := 14) (u := z_1.toInt) E dX10_isBall_7 (by decide) rfl (fun h_2 => ?_) (fun h_2 => ?_)
  ·
    refine s_iconst (v := 0) E dX10_isBall_14 (by decide) ?_
    exact r_bool E dX10_isBall_15 (Or.inl rfl) ⟨⟨by decide, by decide, by first | (left; decide) | (right; decide) | (right; have hb_ := z32 (w.2.2.1 96 9); omega), by first | (left; decide) | (right; decide) | (right; have hb_ := z32 (w.2.2.1 96 9); omega)⟩, rfl⟩
  ·
    refine s_iconst (v := 1) E dX10_isBall_10 (by decide) ?_
    refine s_goto (tgt := 15) E dX10_isBall_11 (by decide) ?_
    exact r_bool E dX10_isBall_15 (Or.inr rfl) ⟨⟨by decide, by decide, by first | (left; decide) | (right; decide) | (right; have hb_ := z32 (w.2.2.1 96 9); omega), by first | (left; decide) | (right; decide) | (right; have hb_ := z32 (w.2.2.1 96 9); omega)⟩, rfl⟩
set_option maxRecDepth 20000 in
set_option maxHeartbeats 2000000 in
theorem Z_X10_isDance_95 (l : Launch) (D : va_G) (aC : Nat → ClassId) (b : Nat) (w : XW) (x1 : Int64) (hI : Iv w)  : CnI l D aC b M_X10_isDance 1 25 0 0 [AR 95, AL x1] w (fun r u => (0 ≤ r.toInt ∧ r.toInt ≤ 1 ∧ (¬ r.toInt = 0 ∨ (0 ≤ (w.2.2.1 96 9).toInt ∧ (w.2.2.1 96 9).toInt ≤ 2147483647)) ∧ (r.toInt = 0 ∨ (0 ≤ x1.toInt ∧ x1.toInt ≤ 14)) ∧ (r.toInt = 0 ∨ (1 ≤ (w.2.2.1 96 9).toInt ∧ (w.2.2.1 96 9).toInt ≤ 2147483647)) ∧ (r.toInt = 0 ∨ (0 ≤ (w.2.2.1 96 1).toInt ∧ (w.2.2.1 96 1).toInt ≤ 14))) ∧ w = u) := by
  refine cn_I (own := RX10) (nm := "isDance") (L0 := [some (AR 95), some (AL x1), none]) (by decide +kernel) rfl rfl (Nat.le_of_ble_eq_true rfl) rfl ?_
  intro p e s m args below meth c E hin
  have hJ : Jv w w := jv_rfl hI
  refine s_aload_n E dX10_isDance_0 rfl rfl ?_
  refine s_vI (As := []) (S := []) E (Z_X10_isBall_95 l D aC b w  hJ.1 ) cv_X10_86 rfl rfl rfl (jv_lt hJ (by decide)) (Nat.le_of_ble_eq_true rfl) (Nat.le_of_ble_eq_true rfl) ⟨(Nat.le_of_ble_eq_true rfl), (Nat.le_of_ble_eq_true rfl)⟩ (Nat.le_of_ble_eq_true rfl) dX10_isDance_1 (fun z_3 u_1 hp_2 => ?_)
  obtain ⟨hz_3, hp_2⟩ := hp_2
  subst hp_2
  refine z_if_eq (tgt := 26) (u := z_3.toInt) E dX10_isDance_4 (by decide) rfl (fun h_5 => ?_) (fun h_5 => ?_)
  ·
    refine s_iconst (v := 0) E dX10_isDance_26 (by decide) ?_
    exact r_bool E dX10_isDance_27 (Or.inl rfl) ⟨⟨by decide, by decide, by first | (left; decide) | (right; decide) | (right; have hb_ := z32 (w.2.2.1 96 9); omega), by first | (left; decide) | (right; decide) | (right; have hb_ := z64 x1; omega), by first | (left; decide) | (right; decide) | (right; have hb_ := z32 (w.2.2.1 96 9); omega), by first | (left; decide) | (right; decide) | (right; have hb_ := z32 (w.2.2.1 96 1); omega)⟩, rfl⟩
  ·
    refine s_lload_n E dX10_isDance_7 rfl rfl ?_
    refine s_lconst (v := 0) E dX10_isDance_8 (by decide) ?_
    refine s_aload_n E dX10_isDance_9 rfl rfl ?_
    refine s_gR (r := 96) E fg_X10_9 rfl rfl (jv_lt hJ (by decide)) (jv_r hJ (by decide +kernel)) dX10_isDance_10 ?_
    refine s_iconst (v := 1) E dX10_isDance_13 (by decide) ?_
    refine s_iald E rfl (jv_lt hJ (by decide)) (z_in (u := 1) (by decide) (by omega) (by omega)) dX10_isDance_14 ?_
    refine z_nm (P := fun z => z.toInt = (w.2.2.1 96 1).toInt ∧ 0 ≤ z.toInt ∧ z.toInt ≤ 14) ⟨rfl, (rw_96_1 hJ)⟩ (fun z_6 hz_6 => ?_)
    refine z_i2l (u := z_6.toInt) E dX10_isDance_15 rfl (fun z_7 hz_7 => ?_)
    refine s_sI (As := [AL x1, AL 0, AL z_7]) (S := []) E (Z_X10_in l D aC b w x1 0 z_7) cs_X10_82 rfl rfl (Nat.le_of_ble_eq_true rfl) (Nat.le_of_ble_eq_true rfl) ⟨(Nat.le_of_ble_eq_true rfl), (Nat.le_of_ble_eq_true rfl)⟩ (Nat.le_of_ble_eq_true rfl) dX10_isDance_16 (fun z_8 u_9 hp_10 => ?_)
    obtain ⟨hz_8, hp_10⟩ := hp_10
    subst hp_10
    refine z_if_eq (tgt := 26) (u := z_8.toInt) E dX10_isDance_19 (by decide) rfl (fun h_11 => ?_) (fun h_11 => ?_)
    ·
      refine s_iconst (v := 0) E dX10_isDance_26 (by decide) ?_
      exact r_bool E dX10_isDance_27 (Or.inl rfl) ⟨⟨by decide, by decide, by first | (left; decide) | (right; decide) | (right; have hb_ := z32 (w.2.2.1 96 9); omega), by first | (left; decide) | (right; decide) | (right; have hb_ := z64 x1; omega), by first | (left; decide) | (right; decide) | (right; have hb_ := z32 (w.2.2.1 96 9); omega), by first | (left; decide) | (right; decide) | (right; have hb_ := z32 (w.2.2.1 96 1); omega)⟩, rfl⟩
    ·
      refine s_iconst (v := 1) E dX10_isDance_22 (by decide) ?_
      refine s_goto (tgt := 27) E dX10_isDance_23 (by decide) ?_
      exact r_bool E dX10_isDance_27 (Or.inr rfl) ⟨⟨by decide, by decide, by first | (left; decide) | (right; decide) | (right; have hb_ := z32 (w.2.2.1 96 9); omega), by first | (left; decide) | (right; decide) | (right; have hb_ := z64 x1; omega), by first | (left; decide) | (right; decide) | (right; have hb_ := z32 (w.2.2.1 96 9); omega), by first | (left; decide) | (right; decide) | (right; have hb_ := z32 (w.2.2.1 96 1); omega)⟩, rfl⟩
set_option maxRecDepth 20000 in
set_option maxHeartbeats 2000000 in
theorem Z_X10_bidden_95 (l : Launch) (D : va_G) (aC : Nat → ClassId) (b : Nat) (w : XW) (x1 : Int32) (x2 : Int32) (hI : Iv w)  : CnI l D aC b M_X10_bidden 2 47 0 0 [AR 95, AI x1, AI x2] w (fun r u => ((-2) ≤ r.toInt ∧ r.toInt ≤ 7 ∧ (¬ r.toInt = 0 ∨ (0 ≤ x1.toInt ∧ x1.toInt ≤ 5)) ∧ (¬ r.toInt = 0 ∨ (0 ≤ x2.toInt ∧ x2.toInt ≤ 14)) ∧ (¬ r.toInt = 0 ∨ (0 ≤ (w.2.2.1 96 5).toInt ∧ (w.2.2.1 96 5).toInt ≤ 6)) ∧ (¬ r.toInt = 0 ∨ (1 ≤ (w.2.2.1 96 9).toInt ∧ (w.2.2.1 96 9).toInt ≤ 2147483647)) ∧ (¬ r.toInt = 0 ∨ (0 ≤ (w.2.2.1 96 1).toInt ∧ (w.2.2.1 96 1).toInt ≤ 14)) ∧ (¬ r.toInt = 0 ∨ (0 ≤ (w.2.2.1 96 7).toInt ∧ (w.2.2.1 96 7).toInt ≤ 10)) ∧ (¬ r.toInt = 0 ∨ (0 ≤ (w.2.2.1 96 8).toInt ∧ (w.2.2.1 96 8).toInt ≤ 30)) ∧ (r.toInt = 0 ∨ (0 ≤ (w.2.2.1 96 5).toInt ∧ (w.2.2.1 96 5).toInt ≤ 6))) ∧ w = u) := by
  refine cn_I (own := RX10) (nm := "bidden") (L0 := [some (AR 95), some (AI x1), some (AI x2)]) (by decide +kernel) rfl rfl (Nat.le_of_ble_eq_true rfl) rfl ?_
  intro p e s m args below meth c E hin
  have hJ : Jv w w := jv_rfl hI
  have hb_x1 := z32 x1
  have hb_x2 := z32 x2
  refine s_aload_n E dX10_bidden_0 rfl rfl ?_
  refine s_iload_n E dX10_bidden_1 rfl rfl ?_
  refine z_i2l (u := x1.toInt) E dX10_bidden_2 rfl (fun z_1 hz_1 => ?_)
  refine s_vI (As := [AL z_1]) (S := []) E (Z_X10_isLady_95 l D aC b w z_1 hJ.1 ) cv_X10_222 rfl rfl rfl (jv_lt hJ (by decide)) (Nat.le_of_ble_eq_true rfl) (Nat.le_of_ble_eq_true rfl) ⟨(Nat.le_of_ble_eq_true rfl), (Nat.le_of_ble_eq_true rfl)⟩ (Nat.le_of_ble_eq_true rfl) dX10_bidden_3 (fun z_4 u_2 hp_3 => ?_)
  obtain ⟨hz_4, hp_3⟩ := hp_3
  subst hp_3
  refine z_if_eq (tgt := 27) (u := z_4.toInt) E dX10_bidden_6 (by decide) rfl (fun h_6 => ?_) (fun h_6 => ?_)
  ·
    refine s_bipush (v := (-2)) E dX10_bidden_27 (by decide) ?_
    exact r_int E dX10_bidden_29 ⟨⟨by decide, by decide, by first | (left; decide) | (right; decide) | (right; have hb_ := z32 x1; omega), by first | (left; decide) | (right; decide) | (right; have hb_ := z32 x2; omega), by first | (left; decide) | (right; decide) | (right; have hb_ := z32 (w.2.2.1 96 5); omega), by first | (left; decide) | (right; decide) | (right; have hb_ := z32 (w.2.2.1 96 9); omega), by first | (left; decide) | (right; decide) | (right; have hb_ := z32 (w.2.2.1 96 1); omega), by first | (left; decide) | (right; decide) | (right; have hb_ := z32 (w.2.2.1 96 7); omega), by first | (left; decide) | (right; decide) | (right; have hb_ := z32 (w.2.2.1 96 8); omega), by first | (left; decide) | (right; decide) | (right; have hb_ := z32 (w.2.2.1 96 5); omega)⟩, rfl⟩
  ·
    refine s_aload_n E dX10_bidden_9 rfl rfl ?_
    refine s_iload_n E dX10_bidden_10 rfl rfl ?_
    refine z_i2l (u := x2.toInt) E dX10_bidden_11 rfl (fun z_7 hz_7 => ?_)
    refine s_vI (As := [AL z_7]) (S := []) E (Z_X10_isDance_95 l D aC b w z_7 hJ.1 ) cv_X10_282 rfl rfl rfl (jv_lt hJ (by decide)) (Nat.le_of_ble_eq_true rfl) (Nat.le_of_ble_eq_true rfl) ⟨(Nat.le_of_ble_eq_true rfl), (Nat.le_of_ble_eq_true rfl)⟩ (Nat.le_of_ble_eq_true rfl) dX10_bidden_12 (fun z_10 u_8 hp_9 => ?_)
    obtain ⟨hz_10, hp_9⟩ := hp_9
    subst hp_9
    refine z_if_eq (tgt := 27) (u := z_10.toInt) E dX10_bidden_15 (by decide) rfl (fun h_12 => ?_) (fun h_12 => ?_)
    ·
      refine s_bipush (v := (-2)) E dX10_bidden_27 (by decide) ?_
      exact r_int E dX10_bidden_29 ⟨⟨by decide, by decide, by first | (left; decide) | (right; decide) | (right; have hb_ := z32 x1; omega), by first | (left; decide) | (right; decide) | (right; have hb_ := z32 x2; omega), by first | (left; decide) | (right; decide) | (right; have hb_ := z32 (w.2.2.1 96 5); omega), by first | (left; decide) | (right; decide) | (right; have hb_ := z32 (w.2.2.1 96 9); omega), by first | (left; decide) | (right; decide) | (right; have hb_ := z32 (w.2.2.1 96 1); omega), by first | (left; decide) | (right; decide) | (right; have hb_ := z32 (w.2.2.1 96 7); omega), by first | (left; decide) | (right; decide) | (right; have hb_ := z32 (w.2.2.1 96 8); omega), by first | (left; decide) | (right; decide) | (right; have hb_ := z32 (w.2.2.1 96 5); omega)⟩, rfl⟩
    ·
      refine s_aload_n E dX10_bidden_18 rfl rfl ?_
      refine s_iload_n E dX10_bidden_19 rfl rfl ?_
      refine s_iload_n E dX10_bidden_20 rfl rfl ?_
      refine s_vI (As := [AI x1, AI x2]) (S := []) E (Z_X10_biddenOf_95 l D aC b w x1 x2 hJ.1 ⟨by have hb_ := z32 x1; omega, by have hb_ := z32 x1; omega⟩ ⟨by have hb_ := z32 x2; omega, by have hb_ := z32 x2; omega⟩) cv_X10_258 rfl rfl rfl (jv_lt hJ (by decide)) (Nat.le_of_ble_eq_true rfl) (Nat.le_of_ble_eq_true rfl) ⟨(Nat.le_of_ble_eq_true rfl), (Nat.le_of_ble_eq_true rfl)⟩ (Nat.le_of_ble_eq_true rfl) dX10_bidden_21 (fun z_15 u_13 hp_14 => ?_)
      obtain ⟨hz_15, hp_14⟩ := hp_14
      subst hp_14
      refine s_goto (tgt := 29) E dX10_bidden_24 (by decide) ?_
      exact r_int E dX10_bidden_29 ⟨⟨by have hb_ := z32 z_15; omega, by have hb_ := z32 z_15; omega, by first | (right; decide) | (have hb_ := z32 z_15; omega) | (have hb_ := z32 z_15; have hc_ := z32 x1; omega), by first | (right; decide) | (have hb_ := z32 z_15; omega) | (have hb_ := z32 z_15; have hc_ := z32 x2; omega), by first | (right; decide) | (have hb_ := z32 z_15; omega) | (have hb_ := z32 z_15; have hc_ := z32 (w.2.2.1 96 5); omega), by first | (right; decide) | (have hb_ := z32 z_15; omega) | (have hb_ := z32 z_15; have hc_ := z32 (w.2.2.1 96 9); omega), by first | (right; decide) | (have hb_ := z32 z_15; omega) | (have hb_ := z32 z_15; have hc_ := z32 (w.2.2.1 96 1); omega), by first | (right; decide) | (have hb_ := z32 z_15; omega) | (have hb_ := z32 z_15; have hc_ := z32 (w.2.2.1 96 7); omega), by first | (right; decide) | (have hb_ := z32 z_15; omega) | (have hb_ := z32 z_15; have hc_ := z32 (w.2.2.1 96 8); omega), by first | (right; decide) | (have hb_ := z32 z_15; omega) | (have hb_ := z32 z_15; have hc_ := z32 (w.2.2.1 96 5); omega)⟩, rfl⟩
set_option maxRecDepth 20000 in
set_option maxHeartbeats 2000000 in
theorem Z_X10_asksDance_95 (l : Launch) (D : va_G) (aC : Nat → ClassId) (b : Nat) (w : XW) (x1 : Int32) (hI : Iv w)  : CnI l D aC b M_X10_asksDance 4 92 0 0 [AR 95, AI x1] w (fun r u => (0 ≤ r.toInt ∧ r.toInt ≤ 1 ∧ (r.toInt = 0 ∨ (0 ≤ x1.toInt ∧ x1.toInt ≤ 14))) ∧ Jv w u) := by
  refine cn_I (own := RX10) (nm := "asksDance") (L0 := [some (AR 95), some (AI x1)]) (by decide +kernel) rfl rfl (Nat.le_of_ble_eq_true rfl) rfl ?_
  intro p e s m args below meth c E hin
  have hJ : Jv w w := jv_rfl hI
  have hb_x1 := z32 x1
  refine s_aload_n E dX10_asksDance_0 rfl rfl ?_
  refine s_vV (As := []) (S := []) E (Z_X10_asItIs_95 l D aC b w  hJ.1 ) cv_X10_279 rfl rfl rfl (jv_lt hJ (by decide)) (Nat.le_of_ble_eq_true rfl) (Nat.le_of_ble_eq_true rfl) ⟨(Nat.le_of_ble_eq_true rfl), (Nat.le_of_ble_eq_true rfl)⟩ (Nat.le_of_ble_eq_true rfl) dX10_asksDance_1 (fun u_1 hp_2 => ?_)
  have hj_3 := jv_trans hJ hp_2
  refine s_aload_n E dX10_asksDance_4 rfl rfl ?_
  refine s_iload_n E dX10_asksDance_5 rfl rfl ?_
  refine z_i2l (u := x1.toInt) E dX10_asksDance_6 rfl (fun z_4 hz_4 => ?_)
  refine s_vI (As := [AL z_4]) (S := []) E (Z_X10_isDance_95 l D aC b u_1 z_4 hj_3.1 ) cv_X10_282 rfl rfl rfl (jv_lt hj_3 (by decide)) (Nat.le_of_ble_eq_true rfl) (Nat.le_of_ble_eq_true rfl) ⟨(Nat.le_of_ble_eq_true rfl), (Nat.le_of_ble_eq_true rfl)⟩ (Nat.le_of_ble_eq_true rfl) dX10_asksDance_7 (fun z_7 u_5 hp_6 => ?_)
  obtain ⟨hz_7, hp_6⟩ := hp_6
  subst hp_6
  exact r_bool E dX10_asksDance_10 (z_bool (by omega) (by omega)) ⟨⟨by have hb_ := z32 z_7; omega, by have hb_ := z32 z_7; omega, by first | (right; decide) | (have hb_ := z32 z_7; omega) | (have hb_ := z32 z_7; have hc_ := z32 x1; omega)⟩, hj_3⟩
set_option maxRecDepth 20000 in
set_option maxHeartbeats 2000000 in
theorem Z_X10_at_95 (l : Launch) (D : va_G) (aC : Nat → ClassId) (b : Nat) (w : XW) (x1 : Int32) (x2 : Int32) (hI : Iv w)  : CnI l D aC b M_X10_at 5 113 0 0 [AR 95, AI x1, AI x2] w (fun r u => ((-2) ≤ r.toInt ∧ r.toInt ≤ 7 ∧ (¬ r.toInt = 0 ∨ (0 ≤ x1.toInt ∧ x1.toInt ≤ 5)) ∧ (¬ r.toInt = 0 ∨ (0 ≤ x2.toInt ∧ x2.toInt ≤ 14))) ∧ Jv w u) := by
  refine cn_I (own := RX10) (nm := "at") (L0 := [some (AR 95), some (AI x1), some (AI x2)]) (by decide +kernel) rfl rfl (Nat.le_of_ble_eq_true rfl) rfl ?_
  intro p e s m args below meth c E hin
  have hJ : Jv w w := jv_rfl hI
  have hb_x1 := z32 x1
  have hb_x2 := z32 x2
  refine s_aload_n E dX10_at_0 rfl rfl ?_
  refine s_iload_n E dX10_at_1 rfl rfl ?_
  refine s_vI (As := [AI x2]) (S := []) E (Z_X10_asksDance_95 l D aC b w x2 hJ.1 ) cv_X10_294 rfl rfl rfl (jv_lt hJ (by decide)) (Nat.le_of_ble_eq_true rfl) (Nat.le_of_ble_eq_true rfl) ⟨(Nat.le_of_ble_eq_true rfl), (Nat.le_of_ble_eq_true rfl)⟩ (Nat.le_of_ble_eq_true rfl) dX10_at_2 (fun z_3 u_1 hp_2 => ?_)
  obtain ⟨hz_3, hp_2⟩ := hp_2
  have hj_4 := jv_trans hJ hp_2
  refine z_if_eq (tgt := 26) (u := z_3.toInt) E dX10_at_5 (by decide) rfl (fun h_5 => ?_) (fun h_5 => ?_)
  ·
    refine s_bipush (v := (-2)) E dX10_at_26 (by decide) ?_
    exact r_int E dX10_at_28 ⟨⟨by decide, by decide, by first | (left; decide) | (right; decide) | (right; have hb_ := z32 x1; omega), by first | (left; decide) | (right; decide) | (right; have hb_ := z32 x2; omega)⟩, hj_4⟩
  ·
    refine s_aload_n E dX10_at_8 rfl rfl ?_
    refine s_iload_n E dX10_at_9 rfl rfl ?_
    refine z_i2l (u := x1.toInt) E dX10_at_10 rfl (fun z_6 hz_6 => ?_)
    refine s_vI (As := [AL z_6]) (S := []) E (Z_X10_isLady_95 l D aC b u_1 z_6 hj_4.1 ) cv_X10_222 rfl rfl rfl (jv_lt hj_4 (by decide)) (Nat.le_of_ble_eq_true rfl) (Nat.le_of_ble_eq_true rfl) ⟨(Nat.le_of_ble_eq_true rfl), (Nat.le_of_ble_eq_true rfl)⟩ (Nat.le_of_ble_eq_true rfl) dX10_at_11 (fun z_9 u_7 hp_8 => ?_)
    obtain ⟨hz_9, hp_8⟩ := hp_8
    subst hp_8
    refine z_if_eq (tgt := 26) (u := z_9.toInt) E dX10_at_14 (by decide) rfl (fun h_11 => ?_) (fun h_11 => ?_)
    ·
      refine s_bipush (v := (-2)) E dX10_at_26 (by decide) ?_
      exact r_int E dX10_at_28 ⟨⟨by decide, by decide, by first | (left; decide) | (right; decide) | (right; have hb_ := z32 x1; omega), by first | (left; decide) | (right; decide) | (right; have hb_ := z32 x2; omega)⟩, hj_4⟩
    ·
      refine s_aload_n E dX10_at_17 rfl rfl ?_
      refine s_iload_n E dX10_at_18 rfl rfl ?_
      refine s_iload_n E dX10_at_19 rfl rfl ?_
      refine s_vI (As := [AI x1, AI x2]) (S := []) E (Z_X10_atOf_95 l D aC b u_1 x1 x2 hj_4.1 ⟨by have hb_ := z32 x1; omega, by have hb_ := z32 x1; omega⟩ ⟨by have hb_ := z32 x2; omega, by have hb_ := z32 x2; omega⟩) cv_X10_255 rfl rfl rfl (jv_lt hj_4 (by decide)) (Nat.le_of_ble_eq_true rfl) (Nat.le_of_ble_eq_true rfl) ⟨(Nat.le_of_ble_eq_true rfl), (Nat.le_of_ble_eq_true rfl)⟩ (Nat.le_of_ble_eq_true rfl) dX10_at_20 (fun z_14 u_12 hp_13 => ?_)
      obtain ⟨hz_14, hp_13⟩ := hp_13
      subst hp_13
      refine s_goto (tgt := 28) E dX10_at_23 (by decide) ?_
      exact r_int E dX10_at_28 ⟨⟨by have hb_ := z32 z_14; omega, by have hb_ := z32 z_14; omega, by first | (right; decide) | (have hb_ := z32 z_14; omega) | (have hb_ := z32 z_14; have hc_ := z32 x1; omega), by first | (right; decide) | (have hb_ := z32 z_14; omega) | (have hb_ := z32 z_14; have hc_ := z32 x2; omega)⟩, hj_4⟩
set_option maxRecDepth 20000 in
set_option maxHeartbeats 2000000 in
theorem Z_X10_withinOf_95 (l : Launch) (D : va_G) (aC : Nat → ClassId) (b : Nat) (w : XW) (x1 : Int32) (x2 : Int32) (hI : Iv w) (hx2 : 0 ≤ x2.toInt ∧ x2.toInt ≤ 14) : CnI l D aC b M_X10_withinOf 1 22 0 0 [AR 95, AI x1, AI x2] w (fun r u => ((-2147483648) ≤ r.toInt ∧ r.toInt ≤ 2147483647) ∧ w = u) := by
  refine cn_I (own := RX10) (nm := "withinOf") (L0 := [some (AR 95), some (AI x1), some (AI x2), none, none]) (by decide +kernel) rfl rfl (Nat.le_of_ble_eq_true rfl) rfl ?_
  intro p e s m args below meth c E hin
  have hJ : Jv w w := jv_rfl hI
  have hb_x1 := z32 x1
  refine s_iconst (v := 0) E dX10_withinOf_0 (by decide) ?_
  refine s_istore_n (L2 := [some (AR 95), some (AI x1), some (AI x2), some (AI 0), none]) E dX10_withinOf_1 rfl (by decide) rfl ?_
  refine s_iconst (v := 0) E dX10_withinOf_2 (by decide) ?_
  refine s_istore (L2 := [some (AR 95), some (AI x1), some (AI x2), some (AI 0), some (AI 0)]) E dX10_withinOf_3 (by decide) rfl ?_
  refine z_loop (St := Int32 × Int32) (Pi := fun ⟨q5_3_0, q5_4_0⟩ v5 => (0 ≤ q5_4_0.toInt ∧ q5_4_0.toInt ≤ 6) ∧ w = v5) (Lf := fun ⟨q5_3_0, q5_4_0⟩ => [some (AR 95), some (AI x1), some (AI x2), some (AI q5_3_0), some (AI q5_4_0)]) (fun ⟨q5_3_0, q5_4_0⟩ _ => (7 - q5_4_0.toInt).toNat) ⟨0, 0⟩ ⟨⟨by decide, by decide⟩, rfl⟩ ?_
  rintro ⟨q5_3_0, q5_4_0⟩ v5 ⟨hq5_4, hv_⟩ ih5
  subst hv_
  have hbq5_3 := z32 q5_3_0
  refine s_loc (L2 := [some (AR 95), some (AI x1), some (AI x2), some (AI q5_3_0), some (AI q5_4_0)]) rfl ?_
  refine s_iload E dX10_withinOf_5 rfl ?_
  refine s_aload_n E dX10_withinOf_7 rfl rfl ?_
  refine s_vI (As := []) (S := [AI q5_4_0]) E (Z_X10_ladies_95 l D aC b w  hJ.1 ) cv_X10_244 rfl rfl rfl (jv_lt hJ (by decide)) (Nat.le_of_ble_eq_true rfl) (Nat.le_of_ble_eq_true rfl) ⟨(Nat.le_of_ble_eq_true rfl), (Nat.le_of_ble_eq_true rfl)⟩ (Nat.le_of_ble_eq_true rfl) dX10_withinOf_8 (fun z_4 u_2 hp_3 => ?_)
  obtain ⟨hz_4, hxz_4, hp_3⟩ := hp_3
  subst hp_3
  refine z_icmp_ge (tgt := 42) (u := q5_4_0.toInt) (v := z_4.toInt) E dX10_withinOf_11 (by decide) rfl rfl (fun h_6 => ?_) (fun h_6 => ?_)
  ·
    refine s_iload_n E dX10_withinOf_42 rfl rfl ?_
    exact r_int E dX10_withinOf_43 ⟨⟨by have hb_ := z32 q5_3_0; omega, by have hb_ := z32 q5_3_0; omega⟩, rfl⟩
  ·
    refine s_iload_n E dX10_withinOf_14 rfl rfl ?_
    refine s_aload_n E dX10_withinOf_15 rfl rfl ?_
    refine s_iload E dX10_withinOf_16 rfl ?_
    refine s_iload_n E dX10_withinOf_18 rfl rfl ?_
    refine s_vI (As := [AI q5_4_0, AI x2]) (S := [AI q5_3_0]) E (Z_X10_atOf_95 l D aC b w q5_4_0 x2 hJ.1 ⟨by have hb_ := z32 q5_4_0; omega, by have hb_ := z32 q5_4_0; omega⟩ ⟨by have hb_ := z32 x2; omega, by have hb_ := z32 x2; omega⟩) cv_X10_255 rfl rfl rfl (jv_lt hJ (by decide)) (Nat.le_of_ble_eq_true rfl) (Nat.le_of_ble_eq_true rfl) ⟨(Nat.le_of_ble_eq_true rfl), (Nat.le_of_ble_eq_true rfl)⟩ (Nat.le_of_ble_eq_true rfl) dX10_withinOf_19 (fun z_9 u_7 hp_8 => ?_)
    obtain ⟨hz_9, hp_8⟩ := hp_8
    subst hp_8
    refine s_iload_n E dX10_withinOf_22 rfl rfl ?_
    refine z_icmp_ne (tgt := 33) (u := z_9.toInt) (v := x1.toInt) E dX10_withinOf_23 (by decide) rfl rfl (fun h_11 => ?_) (fun h_11 => ?_)
    ·
      refine s_iconst (v := 0) E dX10_withinOf_33 (by decide) ?_
      refine s_ior E dX10_withinOf_34 ?_
      refine z_nm (P := fun z => (-2147483648) ≤ z.toInt ∧ z.toInt ≤ 2147483647) (z32 _) (fun z_12 hz_12 => ?_)
      refine s_istore_n (L2 := [some (AR 95), some (AI x1), some (AI x2), some (AI z_12), some (AI q5_4_0)]) E dX10_withinOf_35 rfl (by decide) rfl ?_
      refine z_iinc (u := q5_4_0.toInt) (L2 := fun z_13 => [some (AR 95), some (AI x1), some (AI x2), some (AI z_12), some (AI z_13)]) E dX10_withinOf_36 rfl rfl (by decide) (fun _ => rfl) (by decide) (by omega) (by omega) (fun z_13 hz_13 => ?_)
      refine s_goto (tgt := 5) E dX10_withinOf_39 (by decide) ?_
      exact ih5 ⟨z_12, z_13⟩ w ⟨⟨by have hb_ := z32 z_13; omega, by have hb_ := z32 z_13; omega⟩, rfl⟩ (by first | omega | decide | (dsimp only; omega) | (dsimp only; decide))
    ·
      refine s_iconst (v := 1) E dX10_withinOf_26 (by decide) ?_
      refine s_iload E dX10_withinOf_27 rfl ?_
      refine z_shl1 5 (u := q5_4_0.toInt) (B := 32) E dX10_withinOf_29 rfl (by omega) (by omega) (by decide) (by decide) (fun z_14 hz_14 => ?_)
      refine s_goto (tgt := 34) E dX10_withinOf_30 (by decide) ?_
      refine s_ior E dX10_withinOf_34 ?_
      refine z_nm (P := fun z => (-2147483648) ≤ z.toInt ∧ z.toInt ≤ 2147483647) (z32 _) (fun z_15 hz_15 => ?_)
      refine s_istore_n (L2 := [some (AR 95), some (AI x1), some (AI x2), some (AI z_15), some (AI q5_4_0)]) E dX10_withinOf_35 rfl (by decide) rfl ?_
      refine z_iinc (u := q5_4_0.toInt) (L2 := fun z_16 => [some (AR 95), some (AI x1), some (AI x2), some (AI z_15), some (AI z_16)]) E dX10_withinOf_36 rfl rfl (by decide) (fun _ => rfl) (by decide) (by omega) (by omega) (fun z_16 hz_16 => ?_)
      refine s_goto (tgt := 5) E dX10_withinOf_39 (by decide) ?_
      exact ih5 ⟨z_15, z_16⟩ w ⟨⟨by have hb_ := z32 z_16; omega, by have hb_ := z32 z_16; omega⟩, rfl⟩ (by first | omega | decide | (dsimp only; omega) | (dsimp only; decide))
set_option maxRecDepth 20000 in
set_option maxHeartbeats 2000000 in
theorem Z_X10_within_95 (l : Launch) (D : va_G) (aC : Nat → ClassId) (b : Nat) (w : XW) (x1 : Int32) (x2 : Int32) (hI : Iv w)  : CnI l D aC b M_X10_within 5 113 0 0 [AR 95, AI x1, AI x2] w (fun r u => ((-2147483648) ≤ r.toInt ∧ r.toInt ≤ 2147483647 ∧ (¬ r.toInt = 0 ∨ (0 ≤ x1.toInt ∧ x1.toInt ≤ 7)) ∧ (¬ r.toInt = 0 ∨ (0 ≤ x2.toInt ∧ x2.toInt ≤ 14))) ∧ Jv w u) := by
  refine cn_I (own := RX10) (nm := "within") (L0 := [some (AR 95), some (AI x1), some (AI x2)]) (by decide +kernel) rfl rfl (Nat.le_of_ble_eq_true rfl) rfl ?_
  intro p e s m args below meth c E hin
  have hJ : Jv w w := jv_rfl hI
  have hb_x1 := z32 x1
  have hb_x2 := z32 x2
  refine s_aload_n E dX10_within_0 rfl rfl ?_
  refine s_iload_n E dX10_within_1 rfl rfl ?_
  refine s_vI (As := [AI x2]) (S := []) E (Z_X10_asksDance_95 l D aC b w x2 hJ.1 ) cv_X10_294 rfl rfl rfl (jv_lt hJ (by decide)) (Nat.le_of_ble_eq_true rfl) (Nat.le_of_ble_eq_true rfl) ⟨(Nat.le_of_ble_eq_true rfl), (Nat.le_of_ble_eq_true rfl)⟩ (Nat.le_of_ble_eq_true rfl) dX10_within_2 (fun z_3 u_1 hp_2 => ?_)
  obtain ⟨hz_3, hp_2⟩ := hp_2
  have hj_4 := jv_trans hJ hp_2
  refine z_if_eq (tgt := 25) (u := z_3.toInt) E dX10_within_5 (by decide) rfl (fun h_5 => ?_) (fun h_5 => ?_)
  ·
    refine s_bipush (v := (-2)) E dX10_within_25 (by decide) ?_
    exact r_int E dX10_within_27 ⟨⟨by decide, by decide, by first | (left; decide) | (right; decide) | (right; have hb_ := z32 x1; omega), by first | (left; decide) | (right; decide) | (right; have hb_ := z32 x2; omega)⟩, hj_4⟩
  ·
    refine s_aload_n E dX10_within_8 rfl rfl ?_
    refine s_iload_n E dX10_within_9 rfl rfl ?_
    refine s_vI (As := [AI x1]) (S := []) E (Z_X10_isRoom_95 l D aC b u_1 x1 hj_4.1 ) cv_X10_291 rfl rfl rfl (jv_lt hj_4 (by decide)) (Nat.le_of_ble_eq_true rfl) (Nat.le_of_ble_eq_true rfl) ⟨(Nat.le_of_ble_eq_true rfl), (Nat.le_of_ble_eq_true rfl)⟩ (Nat.le_of_ble_eq_true rfl) dX10_within_10 (fun z_8 u_6 hp_7 => ?_)
    obtain ⟨hz_8, hp_7⟩ := hp_7
    subst hp_7
    refine z_if_eq (tgt := 25) (u := z_8.toInt) E dX10_within_13 (by decide) rfl (fun h_10 => ?_) (fun h_10 => ?_)
    ·
      refine s_bipush (v := (-2)) E dX10_within_25 (by decide) ?_
      exact r_int E dX10_within_27 ⟨⟨by decide, by decide, by first | (left; decide) | (right; decide) | (right; have hb_ := z32 x1; omega), by first | (left; decide) | (right; decide) | (right; have hb_ := z32 x2; omega)⟩, hj_4⟩
    ·
      refine s_aload_n E dX10_within_16 rfl rfl ?_
      refine s_iload_n E dX10_within_17 rfl rfl ?_
      refine s_iload_n E dX10_within_18 rfl rfl ?_
      refine s_vI (As := [AI x1, AI x2]) (S := []) E (Z_X10_withinOf_95 l D aC b u_1 x1 x2 hj_4.1 ⟨by have hb_ := z32 x2; omega, by have hb_ := z32 x2; omega⟩) cv_X10_297 rfl rfl rfl (jv_lt hj_4 (by decide)) (Nat.le_of_ble_eq_true rfl) (Nat.le_of_ble_eq_true rfl) ⟨(Nat.le_of_ble_eq_true rfl), (Nat.le_of_ble_eq_true rfl)⟩ (Nat.le_of_ble_eq_true rfl) dX10_within_19 (fun z_13 u_11 hp_12 => ?_)
      obtain ⟨hz_13, hp_12⟩ := hp_12
      subst hp_12
      refine s_goto (tgt := 27) E dX10_within_22 (by decide) ?_
      exact r_int E dX10_within_27 ⟨⟨by have hb_ := z32 z_13; omega, by have hb_ := z32 z_13; omega, by first | (right; decide) | (have hb_ := z32 z_13; omega) | (have hb_ := z32 z_13; have hc_ := z32 x1; omega), by first | (right; decide) | (have hb_ := z32 z_13; omega) | (have hb_ := z32 z_13; have hc_ := z32 x2; omega)⟩, hj_4⟩
set_option maxRecDepth 20000 in
set_option maxHeartbeats 2000000 in
theorem Z_X10_stepsOf_95 (l : Launch) (D : va_G) (aC : Nat → ClassId) (b : Nat) (w : XW) (x1 : Int32) (hI : Iv w) (hx1 : 0 ≤ x1.toInt ∧ x1.toInt ≤ 5) : CnI l D aC b M_X10_stepsOf 1 22 0 0 [AR 95, AI x1] w (fun r u => ((-2147483648) ≤ r.toInt ∧ r.toInt ≤ 2147483647) ∧ w = u) := by
  refine cn_I (own := RX10) (nm := "stepsOf") (L0 := [some (AR 95), some (AI x1), none, none]) (by decide +kernel) rfl rfl (Nat.le_of_ble_eq_true rfl) rfl ?_
  intro p e s m args below meth c E hin
  have hJ : Jv w w := jv_rfl hI
  refine s_iconst (v := 0) E dX10_stepsOf_0 (by decide) ?_
  refine s_istore_n (L2 := [some (AR 95), some (AI x1), some (AI 0), none]) E dX10_stepsOf_1 rfl (by decide) rfl ?_
  refine s_iconst (v := 0) E dX10_stepsOf_2 (by decide) ?_
  refine s_istore_n (L2 := [some (AR 95), some (AI x1), some (AI 0), some (AI 0)]) E dX10_stepsOf_3 rfl (by decide) rfl ?_
  refine z_loop (St := Int32 × Int32) (Pi := fun ⟨q4_2_0, q4_3_0⟩ v4 => (0 ≤ q4_3_0.toInt ∧ q4_3_0.toInt ≤ 14) ∧ w = v4) (Lf := fun ⟨q4_2_0, q4_3_0⟩ => [some (AR 95), some (AI x1), some (AI q4_2_0), some (AI q4_3_0)]) (fun ⟨q4_2_0, q4_3_0⟩ _ => (15 - q4_3_0.toInt).toNat) ⟨0, 0⟩ ⟨⟨by decide, by decide⟩, rfl⟩ ?_
  rintro ⟨q4_2_0, q4_3_0⟩ v4 ⟨hq4_3, hv_⟩ ih4
  subst hv_
  have hbq4_2 := z32 q4_2_0
  refine s_loc (L2 := [some (AR 95), some (AI x1), some (AI q4_2_0), some (AI q4_3_0)]) rfl ?_
  refine s_iload_n E dX10_stepsOf_4 rfl rfl ?_
  refine s_aload_n E dX10_stepsOf_5 rfl rfl ?_
  refine s_vI (As := []) (S := [AI q4_3_0]) E (Z_X10_dances_95 l D aC b w  hJ.1 ) cv_X10_247 rfl rfl rfl (jv_lt hJ (by decide)) (Nat.le_of_ble_eq_true rfl) (Nat.le_of_ble_eq_true rfl) ⟨(Nat.le_of_ble_eq_true rfl), (Nat.le_of_ble_eq_true rfl)⟩ (Nat.le_of_ble_eq_true rfl) dX10_stepsOf_6 (fun z_4 u_2 hp_3 => ?_)
  obtain ⟨hz_4, hxz_4, hp_3⟩ := hp_3
  subst hp_3
  refine z_icmp_ge (tgt := 43) (u := q4_3_0.toInt) (v := z_4.toInt) E dX10_stepsOf_9 (by decide) rfl rfl (fun h_6 => ?_) (fun h_6 => ?_)
  ·
    refine s_iload_n E dX10_stepsOf_43 rfl rfl ?_
    exact r_int E dX10_stepsOf_44 ⟨⟨by have hb_ := z32 q4_2_0; omega, by have hb_ := z32 q4_2_0; omega⟩, rfl⟩
  ·
    refine s_iload_n E dX10_stepsOf_12 rfl rfl ?_
    refine s_aload_n E dX10_stepsOf_13 rfl rfl ?_
    refine s_iload_n E dX10_stepsOf_14 rfl rfl ?_
    refine s_iload_n E dX10_stepsOf_15 rfl rfl ?_
    refine s_vI (As := [AI x1, AI q4_3_0]) (S := [AI q4_2_0]) E (Z_X10_atOf_95 l D aC b w x1 q4_3_0 hJ.1 ⟨by have hb_ := z32 x1; omega, by have hb_ := z32 x1; omega⟩ ⟨by have hb_ := z32 q4_3_0; omega, by have hb_ := z32 q4_3_0; omega⟩) cv_X10_255 rfl rfl rfl (jv_lt hJ (by decide)) (Nat.le_of_ble_eq_true rfl) (Nat.le_of_ble_eq_true rfl) ⟨(Nat.le_of_ble_eq_true rfl), (Nat.le_of_ble_eq_true rfl)⟩ (Nat.le_of_ble_eq_true rfl) dX10_stepsOf_16 (fun z_9 u_7 hp_8 => ?_)
    obtain ⟨hz_9, hp_8⟩ := hp_8
    subst hp_8
    refine s_aload_n E dX10_stepsOf_19 rfl rfl ?_
    refine s_iload_n E dX10_stepsOf_20 rfl rfl ?_
    refine s_iload_n E dX10_stepsOf_21 rfl rfl ?_
    refine s_iconst (v := 1) E dX10_stepsOf_22 (by decide) ?_
    refine z_iadd (u := q4_3_0.toInt) (v := 1) E dX10_stepsOf_23 rfl (by decide) (by omega) (by omega) (fun z_11 hz_11 => ?_)
    refine s_vI (As := [AI x1, AI z_11]) (S := [AI z_9, AI q4_2_0]) E (Z_X10_atOf_95 l D aC b w x1 z_11 hJ.1 ⟨by have hb_ := z32 x1; omega, by have hb_ := z32 x1; omega⟩ ⟨by have hb_ := z32 z_11; omega, by have hb_ := z32 z_11; omega⟩) cv_X10_255 rfl rfl rfl (jv_lt hJ (by decide)) (Nat.le_of_ble_eq_true rfl) (Nat.le_of_ble_eq_true rfl) ⟨(Nat.le_of_ble_eq_true rfl), (Nat.le_of_ble_eq_true rfl)⟩ (Nat.le_of_ble_eq_true rfl) dX10_stepsOf_24 (fun z_14 u_12 hp_13 => ?_)
    obtain ⟨hz_14, hp_13⟩ := hp_13
    subst hp_13
    refine z_icmp_ne (tgt := 34) (u := z_9.toInt) (v := z_14.toInt) E dX10_stepsOf_27 (by decide) rfl rfl (fun h_16 => ?_) (fun h_16 => ?_)
    ·
      refine s_iconst (v := 1) E dX10_stepsOf_34 (by decide) ?_
      refine s_iadd E dX10_stepsOf_35 ?_
      refine z_nm (P := fun z => (-2147483648) ≤ z.toInt ∧ z.toInt ≤ 2147483647) (z32 _) (fun z_17 hz_17 => ?_)
      refine s_istore_n (L2 := [some (AR 95), some (AI x1), some (AI z_17), some (AI q4_3_0)]) E dX10_stepsOf_36 rfl (by decide) rfl ?_
      refine z_iinc (u := q4_3_0.toInt) (L2 := fun z_18 => [some (AR 95), some (AI x1), some (AI z_17), some (AI z_18)]) E dX10_stepsOf_37 rfl rfl (by decide) (fun _ => rfl) (by decide) (by omega) (by omega) (fun z_18 hz_18 => ?_)
      refine s_goto (tgt := 4) E dX10_stepsOf_40 (by decide) ?_
      exact ih4 ⟨z_17, z_18⟩ w ⟨⟨by have hb_ := z32 z_18; omega, by have hb_ := z32 z_18; omega⟩, rfl⟩ (by first | omega | decide | (dsimp only; omega) | (dsimp only; decide))
    ·
      refine s_iconst (v := 0) E dX10_stepsOf_30 (by decide) ?_
      refine s_goto (tgt := 35) E dX10_stepsOf_31 (by decide) ?_
      refine z_iadd (u := q4_2_0.toInt) (v := 0) E dX10_stepsOf_35 rfl (by decide) (by omega) (by omega) (fun z_19 hz_19 => ?_)
      refine s_istore_n (L2 := [some (AR 95), some (AI x1), some (AI z_19), some (AI q4_3_0)]) E dX10_stepsOf_36 rfl (by decide) rfl ?_
      refine z_iinc (u := q4_3_0.toInt) (L2 := fun z_20 => [some (AR 95), some (AI x1), some (AI z_19), some (AI z_20)]) E dX10_stepsOf_37 rfl rfl (by decide) (fun _ => rfl) (by decide) (by omega) (by omega) (fun z_20 hz_20 => ?_)
      refine s_goto (tgt := 4) E dX10_stepsOf_40 (by decide) ?_
      exact ih4 ⟨z_19, z_20⟩ w ⟨⟨by have hb_ := z32 z_20; omega, by have hb_ := z32 z_20; omega⟩, rfl⟩ (by first | omega | decide | (dsimp only; omega) | (dsimp only; decide))
set_option maxRecDepth 20000 in
set_option maxHeartbeats 2000000 in
theorem Z_X10_steps_95 (l : Launch) (D : va_G) (aC : Nat → ClassId) (b : Nat) (w : XW) (x1 : Int32) (hI : Iv w)  : CnI l D aC b M_X10_steps 5 113 0 0 [AR 95, AI x1] w (fun r u => ((-2147483648) ≤ r.toInt ∧ r.toInt ≤ 2147483647 ∧ (¬ r.toInt = 0 ∨ (0 ≤ x1.toInt ∧ x1.toInt ≤ 5))) ∧ Jv w u) := by
  refine cn_I (own := RX10) (nm := "steps") (L0 := [some (AR 95), some (AI x1)]) (by decide +kernel) rfl rfl (Nat.le_of_ble_eq_true rfl) rfl ?_
  intro p e s m args below meth c E hin
  have hJ : Jv w w := jv_rfl hI
  have hb_x1 := z32 x1
  refine s_aload_n E dX10_steps_0 rfl rfl ?_
  refine s_iload_n E dX10_steps_1 rfl rfl ?_
  refine s_vI (As := [AI x1]) (S := []) E (Z_X10_asksLady_95 l D aC b w x1 hJ.1 ) cv_X10_288 rfl rfl rfl (jv_lt hJ (by decide)) (Nat.le_of_ble_eq_true rfl) (Nat.le_of_ble_eq_true rfl) ⟨(Nat.le_of_ble_eq_true rfl), (Nat.le_of_ble_eq_true rfl)⟩ (Nat.le_of_ble_eq_true rfl) dX10_steps_2 (fun z_3 u_1 hp_2 => ?_)
  obtain ⟨hz_3, hp_2⟩ := hp_2
  have hj_4 := jv_trans hJ hp_2
  refine z_if_eq (tgt := 16) (u := z_3.toInt) E dX10_steps_5 (by decide) rfl (fun h_5 => ?_) (fun h_5 => ?_)
  ·
    refine s_bipush (v := (-2)) E dX10_steps_16 (by decide) ?_
    exact r_int E dX10_steps_18 ⟨⟨by decide, by decide, by first | (left; decide) | (right; decide) | (right; have hb_ := z32 x1; omega)⟩, hj_4⟩
  ·
    refine s_aload_n E dX10_steps_8 rfl rfl ?_
    refine s_iload_n E dX10_steps_9 rfl rfl ?_
    refine s_vI (As := [AI x1]) (S := []) E (Z_X10_stepsOf_95 l D aC b u_1 x1 hj_4.1 ⟨by have hb_ := z32 x1; omega, by have hb_ := z32 x1; omega⟩) cv_X10_300 rfl rfl rfl (jv_lt hj_4 (by decide)) (Nat.le_of_ble_eq_true rfl) (Nat.le_of_ble_eq_true rfl) ⟨(Nat.le_of_ble_eq_true rfl), (Nat.le_of_ble_eq_true rfl)⟩ (Nat.le_of_ble_eq_true rfl) dX10_steps_10 (fun z_8 u_6 hp_7 => ?_)
    obtain ⟨hz_8, hp_7⟩ := hp_7
    subst hp_7
    refine s_goto (tgt := 18) E dX10_steps_13 (by decide) ?_
    exact r_int E dX10_steps_18 ⟨⟨by have hb_ := z32 z_8; omega, by have hb_ := z32 z_8; omega, by first | (right; decide) | (have hb_ := z32 z_8; omega) | (have hb_ := z32 z_8; have hc_ := z32 x1; omega)⟩, hj_4⟩
