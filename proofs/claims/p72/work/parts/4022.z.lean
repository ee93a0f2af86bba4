set_option maxRecDepth 20000 in
set_option maxHeartbeats 2000000 in
theorem Z_X10_layCarry_95 (l : Launch) (D : va_G) (aC : Nat → ClassId) (b : Nat) (w : XW) (x1 : Int32) (x2 : Int32) (x3 : Int32) (x4 : Int32) (hI : Iv w) (hx1 : 0 ≤ x1.toInt ∧ x1.toInt ≤ 5) (hx2 : 0 ≤ x2.toInt ∧ x2.toInt ≤ 5) (hx3 : 0 ≤ x3.toInt ∧ x3.toInt ≤ 5) (hx4 : 0 ≤ x4.toInt ∧ x4.toInt ≤ 14) : CnV l D aC b M_X10_layCarry 3 71 0 0 [AR 95, AI x1, AI x2, AI x3, AI x4] w (fun u => (CG w (u.2.2.1 109) x1 x2 x4.toInt 0) ∧ ((u.2.2.1 95) = (w.2.2.1 95)) ∧ ((u.2.2.1 96) = (w.2.2.1 96)) ∧ ((u.2.2.1 102) = (w.2.2.1 102)) ∧ ((u.2.2.1 103) = (w.2.2.1 103)) ∧ ((u.2.2.1 106) = (w.2.2.1 106)) ∧ Jv w u) := by
  refine cn_V (own := RX10) (nm := "layCarry") (L0 := [some (AR 95), some (AI x1), some (AI x2), some (AI x3), some (AI x4), none, none, none, none, none, none, none]) (by decide +kernel) rfl rfl (Nat.le_of_ble_eq_true rfl) rfl ?_
  intro p e s m args below meth c E hin
  have hJ : Jv w w := jv_rfl hI
  refine s_iload E dX10_layCarry_0 rfl ?_
  refine s_istore (L2 := [some (AR 95), some (AI x1), some (AI x2), some (AI x3), some (AI x4), some (AI x4), none, none, none, none, none, none]) E dX10_layCarry_2 (by decide) rfl ?_
  refine z_loop (St := Int32) (Pi := fun q4_5_0 v4 => ((-1) ≤ q4_5_0.toInt ∧ q4_5_0.toInt ≤ 14) ∧ (CG w (v4.2.2.1 109) x1 x2 x4.toInt (q4_5_0.toInt + 1)) ∧ ((v4.2.2.1 95) = (w.2.2.1 95)) ∧ ((v4.2.2.1 96) = (w.2.2.1 96)) ∧ ((v4.2.2.1 102) = (w.2.2.1 102)) ∧ ((v4.2.2.1 103) = (w.2.2.1 103)) ∧ ((v4.2.2.1 106) = (w.2.2.1 106)) ∧ Jv w v4) (Lf := fun q4_5_0 => [some (AR 95), some (AI x1), some (AI x2), some (AI x3), some (AI x4), some (AI q4_5_0), none, none, none, none, none, none]) (fun q4_5_0 _ => (q4_5_0.toInt - (-1)).toNat) x4 ⟨⟨by have hb_ := z32 x4; omega, by have hb_ := z32 x4; omega⟩, (cg_start (by omega)), rfl, rfl, rfl, rfl, rfl, hJ⟩ ?_
  rintro q4_5_0 v4 ⟨hq4_5, hl4, hf4_95, hf4_96, hf4_102, hf4_103, hf4_106, hj_1⟩ ih4
  refine s_loc (L2 := [some (AR 95), some (AI x1), some (AI x2), some (AI x3), some (AI x4), some (AI q4_5_0), none, none, none, none, none, none]) rfl ?_
  refine s_iload E dX10_layCarry_4 rfl ?_
  refine z_if_lt (tgt := 193) (u := q4_5_0.toInt) E dX10_layCarry_6 (by decide) rfl (fun h_2 => ?_) (fun h_2 => ?_)
  ·
    exact r_void E dX10_layCarry_193 ⟨(cg_le hl4 (by omega)), hf4_95, hf4_96, hf4_102, hf4_103, hf4_106, hj_1⟩
  ·
    refine s_iconst (v := 0) E dX10_layCarry_9 (by decide) ?_
    refine s_istore (L2 := [some (AR 95), some (AI x1), some (AI x2), some (AI x3), some (AI x4), some (AI q4_5_0), some (AI 0), none, none, none, none, none]) E dX10_layCarry_10 (by decide) rfl ?_
    refine z_loop (St := Int32) (Pi := fun q12_6_2 v12 => (0 ≤ q12_6_2.toInt ∧ q12_6_2.toInt ≤ 16) ∧ (CK w (v12.2.2.1 109) x1 x2 x4.toInt q4_5_0.toInt q12_6_2.toInt) ∧ ((v12.2.2.1 95) = (w.2.2.1 95)) ∧ ((v12.2.2.1 96) = (w.2.2.1 96)) ∧ ((v12.2.2.1 102) = (w.2.2.1 102)) ∧ ((v12.2.2.1 103) = (w.2.2.1 103)) ∧ ((v12.2.2.1 106) = (w.2.2.1 106)) ∧ Jv w v12) (Lf := fun q12_6_2 => [some (AR 95), some (AI x1), some (AI x2), some (AI x3), some (AI x4), some (AI q4_5_0), some (AI q12_6_2), none, none, none, none, none]) (fun q12_6_2 _ => (17 - q12_6_2.toInt).toNat) 0 ⟨⟨by decide, by decide⟩, (ck_start hl4 (by decide)), hf4_95, hf4_96, hf4_102, hf4_103, hf4_106, hj_1⟩ ?_
    rintro q12_6_2 v12 ⟨hq12_6, hl12, hf12_95, hf12_96, hf12_102, hf12_103, hf12_106, hj_3⟩ ih12
    refine s_loc (L2 := [some (AR 95), some (AI x1), some (AI x2), some (AI x3), some (AI x4), some (AI q4_5_0), some (AI q12_6_2), none, none, none, none, none]) rfl ?_
    refine s_iload E dX10_layCarry_12 rfl ?_
    refine s_iconst (v := 2) E dX10_layCarry_14 (by decide) ?_
    refine s_aload_n E dX10_layCarry_15 rfl rfl ?_
    refine s_gR (r := 96) E fg_X10_9 rfl rfl (jv_lt hj_3 (by decide)) (jv_r hj_3 (by decide +kernel)) dX10_layCarry_16 ?_
    refine s_iconst (v := 0) E dX10_layCarry_19 (by decide) ?_
    refine s_iald E rfl (jv_lt hj_3 (by decide)) (z_in (u := 0) (by decide) (by omega) (by omega)) dX10_layCarry_20 ?_
    refine z_nm (P := fun z => z.toInt = (v12.2.2.1 96 0).toInt ∧ 0 ≤ z.toInt ∧ z.toInt ≤ 8) ⟨rfl, (rw_96_0 hj_3)⟩ (fun z_4 hz_4 => ?_)
    refine z_imul (u := 2) (v := z_4.toInt) E dX10_layCarry_21 (by decide) rfl (by omega) (by omega) (fun z_5 hz_5 => ?_)
    refine z_icmp_ge (tgt := 187) (u := q12_6_2.toInt) (v := z_5.toInt) E dX10_layCarry_22 (by decide) rfl rfl (fun h_6 => ?_) (fun h_6 => ?_)
    ·
      refine z_iinc (u := q4_5_0.toInt) (L2 := fun z_7 => [some (AR 95), some (AI x1), some (AI x2), some (AI x3), some (AI x4), some (AI z_7), some (AI q12_6_2), none, none, none, none, none]) E dX10_layCarry_187 rfl rfl (by decide) (fun _ => rfl) (by decide) (by omega) (by omega) (fun z_7 hz_7 => ?_)
      refine s_goto (tgt := 4) E dX10_layCarry_190 (by decide) ?_
      refine s_drop (i := 6) (L2 := [some (AR 95), some (AI x1), some (AI x2), some (AI x3), some (AI x4), some (AI z_7), none, none, none, none, none, none]) rfl ?_
      exact ih4 z_7 v12 ⟨⟨by have hb_ := z32 z_7; omega, by have hb_ := z32 z_7; omega⟩, (ck_end hl12 (by omega) (by have e_ : (v12.2.2.1 96 0).toInt = (w.2.2.1 96 0).toInt := (by rw [hf12_96]); omega) (by omega)), hf12_95, hf12_96, hf12_102, hf12_103, hf12_106, hj_3⟩ (by first | omega | decide | (dsimp only; omega) | (dsimp only; decide))
    ·
      have hN0_ := rw_96_0 hj_3
      have hf96_ : (v12.2.2.1 96) = (w.2.2.1 96) := hf12_96
      have hN1_ : (v12.2.2.1 96 0).toInt = (w.2.2.1 96 0).toInt := by rw [hf96_]
      have hN_ : (w.2.2.1 96 0).toInt ≤ 8 := by omega
      refine s_iload E dX10_layCarry_25 rfl ?_
      refine s_iconst (v := 2) E dX10_layCarry_27 (by decide) ?_
      refine z_idiv (u := q12_6_2.toInt) (v := 2) E dX10_layCarry_28 rfl (by decide) (by omega) (by omega) (fun z_8 hz_8 => ?_)
      refine s_istore (L2 := [some (AR 95), some (AI x1), some (AI x2), some (AI x3), some (AI x4), some (AI q4_5_0), some (AI q12_6_2), some (AI z_8), none, none, none, none]) E dX10_layCarry_29 (by decide) rfl ?_
      refine s_iload E dX10_layCarry_31 rfl ?_
      refine s_iconst (v := 2) E dX10_layCarry_33 (by decide) ?_
      refine z_irem (u := q12_6_2.toInt) (v := 2) E dX10_layCarry_34 rfl (by decide) (by omega) (by omega) (fun z_9 hz_9 => ?_)
      refine s_istore (L2 := [some (AR 95), some (AI x1), some (AI x2), some (AI x3), some (AI x4), some (AI q4_5_0), some (AI q12_6_2), some (AI z_8), some (AI z_9), none, none, none]) E dX10_layCarry_35 (by decide) rfl ?_
      refine s_iload E dX10_layCarry_37 rfl ?_
      refine s_iload E dX10_layCarry_39 rfl ?_
      refine z_icmp_ne (tgt := 66) (u := q4_5_0.toInt) (v := x4.toInt) E dX10_layCarry_41 (by decide) rfl rfl (fun h_10 => ?_) (fun h_10 => ?_)
      ·
        refine s_iconst (v := 0) E dX10_layCarry_66 (by decide) ?_
        refine s_istore (L2 := [some (AR 95), some (AI x1), some (AI x2), some (AI x3), some (AI x4), some (AI q4_5_0), some (AI q12_6_2), some (AI z_8), some (AI z_9), some (AI 0), none, none]) E dX10_layCarry_67 (by decide) rfl ?_
        refine s_iload E dX10_layCarry_69 rfl ?_
        refine s_iconst (v := 1) E dX10_layCarry_71 (by decide) ?_
        refine z_icmp_eq (tgt := 88) (u := z_9.toInt) (v := 1) E dX10_layCarry_72 (by decide) rfl (by decide) (fun h_11 => ?_) (fun h_11 => ?_)
        ·
          refine s_iconst (v := 1) E dX10_layCarry_88 (by decide) ?_
          refine s_goto (tgt := 93) E dX10_layCarry_89 (by decide) ?_
          refine s_istore (L2 := [some (AR 95), some (AI x1), some (AI x2), some (AI x3), some (AI x4), some (AI q4_5_0), some (AI q12_6_2), some (AI z_8), some (AI z_9), some (AI 0), some (AI 1), none]) E dX10_layCarry_93 (by decide) rfl ?_
          have hth_ : (1 : Int32).toInt = 1 ↔ ((z_9 : Int32).toInt = 1 ∨ TKs w x1 x2 z_8.toInt q4_5_0.toInt.toNat) := by first | exact ⟨fun _ => Or.inl (by omega), fun _ => by decide⟩ | exact ⟨fun _ => Or.inr (hk_.mp (by omega)), fun _ => by decide⟩ | exact ⟨fun h_ => absurd h_ (by decide), fun h_ => h_.elim (fun g_ => by omega) (fun g_ => absurd (hk_.mpr g_) (by omega))⟩
          have hc0_ : (0 : Int32).toInt = 0 := (by decide)
          have hc1_ : (1 : Int32).toInt = 1 := (by decide)
          refine s_iconst (v := 0) E dX10_layCarry_95 (by decide) ?_
          refine s_istore (L2 := [some (AR 95), some (AI x1), some (AI x2), some (AI x3), some (AI x4), some (AI q4_5_0), some (AI q12_6_2), some (AI z_8), some (AI z_9), some (AI 0), some (AI 1), some (AI 0)]) E dX10_layCarry_96 (by decide) rfl ?_
          refine z_loop (St := Int32 × Int32) (Pi := fun ⟨q98_9_11, q98_11_11⟩ v98 => (0 ≤ q98_9_11.toInt ∧ q98_9_11.toInt ≤ 1) ∧ (0 ≤ q98_11_11.toInt ∧ q98_11_11.toInt ≤ 8) ∧ ((q98_9_11.toInt = 1 → q4_5_0.toInt < x4.toInt → ∃ r_ : Nat, (r_ : Int) < q98_11_11.toInt ∧ bsd w x2.toInt.toNat z_8.toInt.toNat r_ ∧ ¬ ((v12.2.2.1 109) (16 * (q4_5_0.toInt.toNat + 1) + 2 * r_ + (1 : Int32).toInt.toNat)).toInt = 0) ∧ q98_11_11.toInt ≤ (v12.2.2.1 96 0).toInt) ∧ v12 = v98) (Lf := fun ⟨q98_9_11, q98_11_11⟩ => [some (AR 95), some (AI x1), some (AI x2), some (AI x3), some (AI x4), some (AI q4_5_0), some (AI q12_6_2), some (AI z_8), some (AI z_9), some (AI q98_9_11), some (AI 1), some (AI q98_11_11)]) (fun ⟨q98_9_11, q98_11_11⟩ _ => (9 - q98_11_11.toInt).toNat) ⟨0, 0⟩ ⟨⟨by decide, by decide⟩, ⟨by decide, by decide⟩, (⟨fun h_ g_ => by first | (exfalso; omega) | exact absurd h_ (by decide), by omega⟩), rfl⟩ ?_
          rintro ⟨q98_9_11, q98_11_11⟩ v98 ⟨hq98_9, hq98_11, hl98, hv_⟩ ih98
          subst hv_
          refine s_loc (L2 := [some (AR 95), some (AI x1), some (AI x2), some (AI x3), some (AI x4), some (AI q4_5_0), some (AI q12_6_2), some (AI z_8), some (AI z_9), some (AI q98_9_11), some (AI 1), some (AI q98_11_11)]) rfl ?_
          refine s_iload E dX10_layCarry_98 rfl ?_
          refine s_aload_n E dX10_layCarry_100 rfl rfl ?_
          refine s_gR (r := 96) E fg_X10_9 rfl rfl (jv_lt hj_3 (by decide)) (jv_r hj_3 (by decide +kernel)) dX10_layCarry_101 ?_
          refine s_iconst (v := 0) E dX10_layCarry_104 (by decide) ?_
          refine s_iald E rfl (jv_lt hj_3 (by decide)) (z_in (u := 0) (by decide) (by omega) (by omega)) dX10_layCarry_105 ?_
          refine z_nm (P := fun z => z.toInt = (v12.2.2.1 96 0).toInt ∧ 0 ≤ z.toInt ∧ z.toInt ≤ 8) ⟨rfl, (rw_96_0 hj_3)⟩ (fun z_13 hz_13 => ?_)
          refine z_icmp_ge (tgt := 165) (u := q98_11_11.toInt) (v := z_13.toInt) E dX10_layCarry_106 (by decide) rfl rfl (fun h_14 => ?_) (fun h_14 => ?_)
          ·
            have hfin_ : q4_5_0.toInt < x4.toInt → ¬ (vp_nar .boolean q98_9_11).toInt = 0 → ∃ r_ th_ : Nat, (r_ : Int) < (w.2.2.1 96 0).toInt ∧ th_ ≤ 1 ∧ (th_ = 1 ↔ (z_9.toInt.toNat = 1 ∨ TKs w x1 x2 (z_8.toInt.toNat : Int) q4_5_0.toInt.toNat)) ∧ bsd w x2.toInt.toNat z_8.toInt.toNat r_ ∧ ¬ ((v12.2.2.1 109) (16 * (q4_5_0.toInt.toNat + 1) + 2 * r_ + th_)).toInt = 0 := fun g1_ g2_ => cr_fin (hl98.1 (nb_ne (z_bool (by omega) (by omega)) g2_) g1_) hth_ (by omega) (by omega) (by omega) (by omega) (by omega)
            refine s_aload_n E dX10_layCarry_165 rfl rfl ?_
            refine s_gR (r := 109) E fg_X10_55 rfl rfl (jv_lt hj_3 (by decide)) (jv_r hj_3 (by decide +kernel)) dX10_layCarry_166 ?_
            refine s_iload E dX10_layCarry_169 rfl ?_
            refine s_iload E dX10_layCarry_171 rfl ?_
            refine s_iload E dX10_layCarry_173 rfl ?_
            refine s_sI (As := [AI q4_5_0, AI z_8, AI z_9]) (S := [AR 109]) E (Z_X10_carryState l D aC b v12 q4_5_0 z_8 z_9 hj_3.1 ⟨by have hb_ := z32 q4_5_0; omega, by have hb_ := z32 q4_5_0; omega⟩ ⟨by have hb_ := z32 z_8; omega, by have hb_ := z32 z_8; omega⟩ ⟨by have hb_ := z32 z_9; omega, by have hb_ := z32 z_9; omega⟩) cs_X10_355 rfl rfl (Nat.le_of_ble_eq_true rfl) (Nat.le_of_ble_eq_true rfl) ⟨(Nat.le_of_ble_eq_true rfl), (Nat.le_of_ble_eq_true rfl)⟩ (Nat.le_of_ble_eq_true rfl) dX10_layCarry_175 (fun z_17 u_15 hp_16 => ?_)
            obtain ⟨hz_17, hxz_17, hp_16⟩ := hp_16
            subst hp_16
            refine s_iload E dX10_layCarry_178 rfl ?_
            refine s_zast E rfl (jv_lt hj_3 (by decide)) (z_in (u := z_17.toInt) rfl (by omega) (by omega)) dX10_layCarry_180 ?_
            have hj_20 : Jv w (upI v12 109 z_17.toNatClampNeg (vp_nar .boolean q98_9_11)) := (jv_b_109 hj_3 (z_bool (by omega) (by omega)))
            refine z_iinc (u := q12_6_2.toInt) (L2 := fun z_21 => [some (AR 95), some (AI x1), some (AI x2), some (AI x3), some (AI x4), some (AI q4_5_0), some (AI z_21), some (AI z_8), some (AI z_9), some (AI q98_9_11), some (AI 1), some (AI q98_11_11)]) E dX10_layCarry_181 rfl rfl (by decide) (fun _ => rfl) (by decide) (by omega) (by omega) (fun z_21 hz_21 => ?_)
            refine s_goto (tgt := 12) E dX10_layCarry_184 (by decide) ?_
            refine s_drop (i := 7) (L2 := [some (AR 95), some (AI x1), some (AI x2), some (AI x3), some (AI x4), some (AI q4_5_0), some (AI z_21), none, some (AI z_9), some (AI q98_9_11), some (AI 1), some (AI q98_11_11)]) rfl ?_
            refine s_drop (i := 8) (L2 := [some (AR 95), some (AI x1), some (AI x2), some (AI x3), some (AI x4), some (AI q4_5_0), some (AI z_21), none, none, some (AI q98_9_11), some (AI 1), some (AI q98_11_11)]) rfl ?_
            refine s_drop (i := 9) (L2 := [some (AR 95), some (AI x1), some (AI x2), some (AI x3), some (AI x4), some (AI q4_5_0), some (AI z_21), none, none, none, some (AI 1), some (AI q98_11_11)]) rfl ?_
            refine s_drop (i := 10) (L2 := [some (AR 95), some (AI x1), some (AI x2), some (AI x3), some (AI x4), some (AI q4_5_0), some (AI z_21), none, none, none, none, some (AI q98_11_11)]) rfl ?_
            refine s_drop (i := 11) (L2 := [some (AR 95), some (AI x1), some (AI x2), some (AI x3), some (AI x4), some (AI q4_5_0), some (AI z_21), none, none, none, none, none]) rfl ?_
            exact ih12 z_21 (upI v12 109 z_17.toNatClampNeg (vp_nar .boolean q98_9_11)) ⟨⟨by have hb_ := z32 z_21; omega, by have hb_ := z32 z_21; omega⟩, (ck_upW hN_ (by omega) hl12 (rm := z_8.toInt.toNat) (hs := z_9.toInt.toNat) (by omega) (by omega) (by omega) (by omega) (by omega) hfin_), ((upI_ne (show 95 ≠ 109 by decide)).trans hf12_95), ((upI_ne (show 96 ≠ 109 by decide)).trans hf12_96), ((upI_ne (show 102 ≠ 109 by decide)).trans hf12_102), ((upI_ne (show 103 ≠ 109 by decide)).trans hf12_103), ((upI_ne (show 106 ≠ 109 by decide)).trans hf12_106), hj_20⟩ (by first | omega | decide | (dsimp only; omega) | (dsimp only; decide))
          ·
            refine s_iload E dX10_layCarry_109 rfl ?_
            refine s_iload E dX10_layCarry_111 rfl ?_
            refine z_icmp_ge (tgt := 165) (u := q4_5_0.toInt) (v := x4.toInt) E dX10_layCarry_113 (by decide) rfl rfl (fun h_22 => ?_) (fun h_22 => ?_)
            ·
              have hfin_ : q4_5_0.toInt < x4.toInt → ¬ (vp_nar .boolean q98_9_11).toInt = 0 → ∃ r_ th_ : Nat, (r_ : Int) < (w.2.2.1 96 0).toInt ∧ th_ ≤ 1 ∧ (th_ = 1 ↔ (z_9.toInt.toNat = 1 ∨ TKs w x1 x2 (z_8.toInt.toNat : Int) q4_5_0.toInt.toNat)) ∧ bsd w x2.toInt.toNat z_8.toInt.toNat r_ ∧ ¬ ((v12.2.2.1 109) (16 * (q4_5_0.toInt.toNat + 1) + 2 * r_ + th_)).toInt = 0 := fun g1_ g2_ => cr_fin (hl98.1 (nb_ne (z_bool (by omega) (by omega)) g2_) g1_) hth_ (by omega) (by omega) (by omega) (by omega) (by omega)
              refine s_aload_n E dX10_layCarry_165 rfl rfl ?_
              refine s_gR (r := 109) E fg_X10_55 rfl rfl (jv_lt hj_3 (by decide)) (jv_r hj_3 (by decide +kernel)) dX10_layCarry_166 ?_
              refine s_iload E dX10_layCarry_169 rfl ?_
              refine s_iload E dX10_layCarry_171 rfl ?_
              refine s_iload E dX10_layCarry_173 rfl ?_
              refine s_sI (As := [AI q4_5_0, AI z_8, AI z_9]) (S := [AR 109]) E (Z_X10_carryState l D aC b v12 q4_5_0 z_8 z_9 hj_3.1 ⟨by have hb_ := z32 q4_5_0; omega, by have hb_ := z32 q4_5_0; omega⟩ ⟨by have hb_ := z32 z_8; omega, by have hb_ := z32 z_8; omega⟩ ⟨by have hb_ := z32 z_9; omega, by have hb_ := z32 z_9; omega⟩) cs_X10_355 rfl rfl (Nat.le_of_ble_eq_true rfl) (Nat.le_of_ble_eq_true rfl) ⟨(Nat.le_of_ble_eq_true rfl), (Nat.le_of_ble_eq_true rfl)⟩ (Nat.le_of_ble_eq_true rfl) dX10_layCarry_175 (fun z_25 u_23 hp_24 => ?_)
              obtain ⟨hz_25, hxz_25, hp_24⟩ := hp_24
              subst hp_24
              refine s_iload E dX10_layCarry_178 rfl ?_
              refine s_zast E rfl (jv_lt hj_3 (by decide)) (z_in (u := z_25.toInt) rfl (by omega) (by omega)) dX10_layCarry_180 ?_
              have hj_28 : Jv w (upI v12 109 z_25.toNatClampNeg (vp_nar .boolean q98_9_11)) := (jv_b_109 hj_3 (z_bool (by omega) (by omega)))
              refine z_iinc (u := q12_6_2.toInt) (L2 := fun z_29 => [some (AR 95), some (AI x1), some (AI x2), some (AI x3), some (AI x4), some (AI q4_5_0), some (AI z_29), some (AI z_8), some (AI z_9), some (AI q98_9_11), some (AI 1), some (AI q98_11_11)]) E dX10_layCarry_181 rfl rfl (by decide) (fun _ => rfl) (by decide) (by omega) (by omega) (fun z_29 hz_29 => ?_)
              refine s_goto (tgt := 12) E dX10_layCarry_184 (by decide) ?_
              refine s_drop (i := 7) (L2 := [some (AR 95), some (AI x1), some (AI x2), some (AI x3), some (AI x4), some (AI q4_5_0), some (AI z_29), none, some (AI z_9), some (AI q98_9_11), some (AI 1), some (AI q98_11_11)]) rfl ?_
              refine s_drop (i := 8) (L2 := [some (AR 95), some (AI x1), some (AI x2), some (AI x3), some (AI x4), some (AI q4_5_0), some (AI z_29), none, none, some (AI q98_9_11), some (AI 1), some (AI q98_11_11)]) rfl ?_
              refine s_drop (i := 9) (L2 := [some (AR 95), some (AI x1), some (AI x2), some (AI x3), some (AI x4), some (AI q4_5_0), some (AI z_29), none, none, none, some (AI 1), some (AI q98_11_11)]) rfl ?_
              refine s_drop (i := 10) (L2 := [some (AR 95), some (AI x1), some (AI x2), some (AI x3), some (AI x4), some (AI q4_5_0), some (AI z_29), none, none, none, none, some (AI q98_11_11)]) rfl ?_
              refine s_drop (i := 11) (L2 := [some (AR 95), some (AI x1), some (AI x2), some (AI x3), some (AI x4), some (AI q4_5_0), some (AI z_29), none, none, none, none, none]) rfl ?_
              exact ih12 z_29 (upI v12 109 z_25.toNatClampNeg (vp_nar .boolean q98_9_11)) ⟨⟨by have hb_ := z32 z_29; omega, by have hb_ := z32 z_29; omega⟩, (ck_upW hN_ (by omega) hl12 (rm := z_8.toInt.toNat) (hs := z_9.toInt.toNat) (by omega) (by omega) (by omega) (by omega) (by omega) hfin_), ((upI_ne (show 95 ≠ 109 by decide)).trans hf12_95), ((upI_ne (show 96 ≠ 109 by decide)).trans hf12_96), ((upI_ne (show 102 ≠ 109 by decide)).trans hf12_102), ((upI_ne (show 103 ≠ 109 by decide)).trans hf12_103), ((upI_ne (show 106 ≠ 109 by decide)).trans hf12_106), hj_28⟩ (by first | omega | decide | (dsimp only; omega) | (dsimp only; decide))
            ·
              refine s_iload E dX10_layCarry_116 rfl ?_
              refine z_if_ne (tgt := 152) (u := q98_9_11.toInt) E dX10_layCarry_118 (by decide) rfl (fun h_30 => ?_) (fun h_30 => ?_)
              ·
                refine s_iconst (v := 1) E dX10_layCarry_152 (by decide) ?_
                refine s_goto (tgt := 157) E dX10_layCarry_153 (by decide) ?_
                refine s_istore (L2 := [some (AR 95), some (AI x1), some (AI x2), some (AI x3), some (AI x4), some (AI q4_5_0), some (AI q12_6_2), some (AI z_8), some (AI z_9), some (AI 1), some (AI 1), some (AI q98_11_11)]) E dX10_layCarry_157 (by decide) rfl ?_
                refine z_iinc (u := q98_11_11.toInt) (L2 := fun z_31 => [some (AR 95), some (AI x1), some (AI x2), some (AI x3), some (AI x4), some (AI q4_5_0), some (AI q12_6_2), some (AI z_8), some (AI z_9), some (AI 1), some (AI 1), some (AI z_31)]) E dX10_layCarry_159 rfl rfl (by decide) (fun _ => rfl) (by decide) (by omega) (by omega) (fun z_31 hz_31 => ?_)
                refine s_goto (tgt := 98) E dX10_layCarry_162 (by decide) ?_
                exact ih98 ⟨1, z_31⟩ v12 ⟨⟨by decide, by decide⟩, ⟨by have hb_ := z32 z_31; omega, by have hb_ := z32 z_31; omega⟩, (⟨by first | exact fun h_ g_ => cr_old (hl98.1 (by omega) g_) (by omega) | exact fun h_ g_ => ⟨q98_11_11.toInt.toNat, by omega, hbs_.mp (by omega), by rw [← hi_]; omega⟩ | exact fun h_ => absurd h_ (by decide), by omega⟩), rfl⟩ (by first | omega | decide | (dsimp only; omega) | (dsimp only; decide))
              ·
                refine s_aload_n E dX10_layCarry_121 rfl rfl ?_
                refine s_iload_n E dX10_layCarry_122 rfl rfl ?_
                refine s_iload E dX10_layCarry_123 rfl ?_
                refine s_iload E dX10_layCarry_125 rfl ?_
                refine s_vI (As := [AI x2, AI z_8, AI q98_11_11]) (S := []) E (Z_X10_isBeside_95 l D aC b v12 x2 z_8 q98_11_11 hj_3.1 ⟨by have hb_ := z32 x2; omega, by have hb_ := z32 x2; omega⟩ ⟨by have hb_ := z32 z_8; omega, by have hb_ := z32 z_8; omega⟩ ⟨by have hb_ := z32 q98_11_11; omega, by have hb_ := z32 q98_11_11; omega⟩) cv_X10_352 rfl rfl rfl (jv_lt hj_3 (by decide)) (Nat.le_of_ble_eq_true rfl) (Nat.le_of_ble_eq_true rfl) ⟨(Nat.le_of_ble_eq_true rfl), (Nat.le_of_ble_eq_true rfl)⟩ (Nat.le_of_ble_eq_true rfl) dX10_layCarry_127 (fun z_34 u_32 hp_33 => ?_)
                obtain ⟨hz_34, hxz_34, hp_33⟩ := hp_33
                subst hp_33
                have hbs_ : z_34.toInt = 1 ↔ bsd w x2.toInt.toNat z_8.toInt.toNat q98_11_11.toInt.toNat := by rw [hxz_34, bsd_cong hf12_96 hf12_102]
                refine z_if_eq (tgt := 156) (u := z_34.toInt) E dX10_layCarry_130 (by decide) rfl (fun h_36 => ?_) (fun h_36 => ?_)
                ·
                  refine s_iconst (v := 0) E dX10_layCarry_156 (by decide) ?_
                  refine s_istore (L2 := [some (AR 95), some (AI x1), some (AI x2), some (AI x3), some (AI x4), some (AI q4_5_0), some (AI q12_6_2), some (AI z_8), some (AI z_9), some (AI 0), some (AI 1), some (AI q98_11_11)]) E dX10_layCarry_157 (by decide) rfl ?_
                  refine z_iinc (u := q98_11_11.toInt) (L2 := fun z_37 => [some (AR 95), some (AI x1), some (AI x2), some (AI x3), some (AI x4), some (AI q4_5_0), some (AI q12_6_2), some (AI z_8), some (AI z_9), some (AI 0), some (AI 1), some (AI z_37)]) E dX10_layCarry_159 rfl rfl (by decide) (fun _ => rfl) (by decide) (by omega) (by omega) (fun z_37 hz_37 => ?_)
                  refine s_goto (tgt := 98) E dX10_layCarry_162 (by decide) ?_
                  exact ih98 ⟨0, z_37⟩ v12 ⟨⟨by decide, by decide⟩, ⟨by have hb_ := z32 z_37; omega, by have hb_ := z32 z_37; omega⟩, (⟨by first | exact fun h_ g_ => cr_old (hl98.1 (by omega) g_) (by omega) | exact fun h_ g_ => ⟨q98_11_11.toInt.toNat, by omega, hbs_.mp (by omega), by rw [← hi_]; omega⟩ | exact fun h_ => absurd h_ (by decide), by omega⟩), rfl⟩ (by first | omega | decide | (dsimp only; omega) | (dsimp only; decide))
                ·
                  refine s_aload_n E dX10_layCarry_133 rfl rfl ?_
                  refine s_gR (r := 109) E fg_X10_55 rfl rfl (jv_lt hj_3 (by decide)) (jv_r hj_3 (by decide +kernel)) dX10_layCarry_134 ?_
                  refine s_iload E dX10_layCarry_137 rfl ?_
                  refine s_iconst (v := 1) E dX10_layCarry_139 (by decide) ?_
                  refine z_iadd (u := q4_5_0.toInt) (v := 1) E dX10_layCarry_140 rfl (by decide) (by omega) (by omega) (fun z_38 hz_38 => ?_)
                  refine s_iload E dX10_layCarry_141 rfl ?_
                  refine s_iload E dX10_layCarry_143 rfl ?_
                  refine s_sI (As := [AI z_38, AI q98_11_11, AI 1]) (S := [AR 109]) E (Z_X10_carryState l D aC b v12 z_38 q98_11_11 1 hj_3.1 ⟨by have hb_ := z32 z_38; omega, by have hb_ := z32 z_38; omega⟩ ⟨by have hb_ := z32 q98_11_11; omega, by have hb_ := z32 q98_11_11; omega⟩ (by decide)) cs_X10_355 rfl rfl (Nat.le_of_ble_eq_true rfl) (Nat.le_of_ble_eq_true rfl) ⟨(Nat.le_of_ble_eq_true rfl), (Nat.le_of_ble_eq_true rfl)⟩ (Nat.le_of_ble_eq_true rfl) dX10_layCarry_145 (fun z_41 u_39 hp_40 => ?_)
                  obtain ⟨hz_41, hxz_41, hp_40⟩ := hp_40
                  have hc_ : (1 : Int32).toInt = 1 := by decide
                  subst hp_40
                  have hi_ : z_41.toNatClampNeg = 16 * (q4_5_0.toInt.toNat + 1) + 2 * q98_11_11.toInt.toNat + (1 : Int32).toInt.toNat := by have e_ : z_41.toNatClampNeg = z_41.toInt.toNat := rfl; omega
                  refine s_zald E rfl (jv_lt hj_3 (by decide)) (z_in (u := z_41.toInt) rfl (by omega) (by omega)) dX10_layCarry_148 ?_
                  refine z_nm (P := fun z => z.toInt = (v12.2.2.1 109 z_41.toNatClampNeg).toInt ∧ 0 ≤ z.toInt ∧ z.toInt ≤ 1) ⟨rfl, (ra_109 hj_3 _)⟩ (fun z_43 hz_43 => ?_)
                  refine z_if_eq (tgt := 156) (u := z_43.toInt) E dX10_layCarry_149 (by decide) rfl (fun h_44 => ?_) (fun h_44 => ?_)
                  ·
                    refine s_iconst (v := 0) E dX10_layCarry_156 (by decide) ?_
                    refine s_istore (L2 := [some (AR 95), some (AI x1), some (AI x2), some (AI x3), some (AI x4), some (AI q4_5_0), some (AI q12_6_2), some (AI z_8), some (AI z_9), some (AI 0), some (AI 1), some (AI q98_11_11)]) E dX10_layCarry_157 (by decide) rfl ?_
                    refine z_iinc (u := q98_11_11.toInt) (L2 := fun z_45 => [some (AR 95), some (AI x1), some (AI x2), some (AI x3), some (AI x4), some (AI q4_5_0), some (AI q12_6_2), some (AI z_8), some (AI z_9), some (AI 0), some (AI 1), some (AI z_45)]) E dX10_layCarry_159 rfl rfl (by decide) (fun _ => rfl) (by decide) (by omega) (by omega) (fun z_45 hz_45 => ?_)
                    refine s_goto (tgt := 98) E dX10_layCarry_162 (by decide) ?_
                    exact ih98 ⟨0, z_45⟩ v12 ⟨⟨by decide, by decide⟩, ⟨by have hb_ := z32 z_45; omega, by have hb_ := z32 z_45; omega⟩, (⟨by first | exact fun h_ g_ => cr_old (hl98.1 (by omega) g_) (by omega) | exact fun h_ g_ => ⟨q98_11_11.toInt.toNat, by omega, hbs_.mp (by omega), by rw [← hi_]; omega⟩ | exact fun h_ => absurd h_ (by decide), by omega⟩), rfl⟩ (by first | omega | decide | (dsimp only; omega) | (dsimp only; decide))
                  ·
                    refine s_iconst (v := 1) E dX10_layCarry_152 (by decide) ?_
                    refine s_goto (tgt := 157) E dX10_layCarry_153 (by decide) ?_
                    refine s_istore (L2 := [some (AR 95), some (AI x1), some (AI x2), some (AI x3), some (AI x4), some (AI q4_5_0), some (AI q12_6_2), some (AI z_8), some (AI z_9), some (AI 1), some (AI 1), some (AI q98_11_11)]) E dX10_layCarry_157 (by decide) rfl ?_
                    refine z_iinc (u := q98_11_11.toInt) (L2 := fun z_46 => [some (AR 95), some (AI x1), some (AI x2), some (AI x3), some (AI x4), some (AI q4_5_0), some (AI q12_6_2), some (AI z_8), some (AI z_9), some (AI 1), some (AI 1), some (AI z_46)]) E dX10_layCarry_159 rfl rfl (by decide) (fun _ => rfl) (by decide) (by omega) (by omega) (fun z_46 hz_46 => ?_)
                    refine s_goto (tgt := 98) E dX10_layCarry_162 (by decide) ?_
                    exact ih98 ⟨1, z_46⟩ v12 ⟨⟨by decide, by decide⟩, ⟨by have hb_ := z32 z_46; omega, by have hb_ := z32 z_46; omega⟩, (⟨by first | exact fun h_ g_ => cr_old (hl98.1 (by omega) g_) (by omega) | exact fun h_ g_ => ⟨q98_11_11.toInt.toNat, by omega, hbs_.mp (by omega), by rw [← hi_]; omega⟩ | exact fun h_ => absurd h_ (by decide), by omega⟩), rfl⟩ (by first | omega | decide | (dsimp only; omega) | (dsimp only; decide))
        ·
          refine s_aload_n E dX10_layCarry_75 rfl rfl ?_
          refine s_iload_n E dX10_layCarry_76 rfl rfl ?_
          refine s_iload_n E dX10_layCarry_77 rfl rfl ?_
          refine s_iload E dX10_layCarry_78 rfl ?_
          refine s_iload E dX10_layCarry_80 rfl ?_
          refine s_vI (As := [AI x1, AI x2, AI z_8, AI q4_5_0]) (S := []) E (Z_X10_takesIn_95 l D aC b v12 x1 x2 z_8 q4_5_0 hj_3.1 ⟨by have hb_ := z32 x1; omega, by have hb_ := z32 x1; omega⟩ ⟨by have hb_ := z32 x2; omega, by have hb_ := z32 x2; omega⟩ ⟨by have hb_ := z32 z_8; omega, by have hb_ := z32 z_8; omega⟩ ⟨by have hb_ := z32 q4_5_0; omega, by have hb_ := z32 q4_5_0; omega⟩) cv_X10_348 rfl rfl rfl (jv_lt hj_3 (by decide)) (Nat.le_of_ble_eq_true rfl) (Nat.le_of_ble_eq_true rfl) ⟨(Nat.le_of_ble_eq_true rfl), (Nat.le_of_ble_eq_true rfl)⟩ (Nat.le_of_ble_eq_true rfl) dX10_layCarry_82 (fun z_49 u_47 hp_48 => ?_)
          obtain ⟨hz_49, hxz_49, hp_48⟩ := hp_48
          subst hp_48
          have hk_ : z_49.toInt = 1 ↔ TKs w x1 x2 z_8.toInt q4_5_0.toInt.toNat := by rw [hxz_49, TKs_cong hf12_95 hf12_96 hf12_103 hf12_106]
          refine z_if_eq (tgt := 92) (u := z_49.toInt) E dX10_layCarry_85 (by decide) rfl (fun h_51 => ?_) (fun h_51 => ?_)
          ·
            refine s_iconst (v := 0) E dX10_layCarry_92 (by decide) ?_
            refine s_istore (L2 := [some (AR 95), some (AI x1), some (AI x2), some (AI x3), some (AI x4), some (AI q4_5_0), some (AI q12_6_2), some (AI z_8), some (AI z_9), some (AI 0), some (AI 0), none]) E dX10_layCarry_93 (by decide) rfl ?_
            have hth_ : (0 : Int32).toInt = 1 ↔ ((z_9 : Int32).toInt = 1 ∨ TKs w x1 x2 z_8.toInt q4_5_0.toInt.toNat) := by first | exact ⟨fun _ => Or.inl (by omega), fun _ => by decide⟩ | exact ⟨fun _ => Or.inr (hk_.mp (by omega)), fun _ => by decide⟩ | exact ⟨fun h_ => absurd h_ (by decide), fun h_ => h_.elim (fun g_ => by omega) (fun g_ => absurd (hk_.mpr g_) (by omega))⟩
            have hc0_ : (0 : Int32).toInt = 0 := (by decide)
            have hc1_ : (1 : Int32).toInt = 1 := (by decide)
            refine s_iconst (v := 0) E dX10_layCarry_95 (by decide) ?_
            refine s_istore (L2 := [some (AR 95), some (AI x1), some (AI x2), some (AI x3), some (AI x4), some (AI q4_5_0), some (AI q12_6_2), some (AI z_8), some (AI z_9), some (AI 0), some (AI 0), some (AI 0)]) E dX10_layCarry_96 (by decide) rfl ?_
            refine z_loop (St := Int32 × Int32) (Pi := fun ⟨q98_9_51, q98_11_51⟩ v98 => (0 ≤ q98_9_51.toInt ∧ q98_9_51.toInt ≤ 1) ∧ (0 ≤ q98_11_51.toInt ∧ q98_11_51.toInt ≤ 8) ∧ ((q98_9_51.toInt = 1 → q4_5_0.toInt < x4.toInt → ∃ r_ : Nat, (r_ : Int) < q98_11_51.toInt ∧ bsd w x2.toInt.toNat z_8.toInt.toNat r_ ∧ ¬ ((v12.2.2.1 109) (16 * (q4_5_0.toInt.toNat + 1) + 2 * r_ + (0 : Int32).toInt.toNat)).toInt = 0) ∧ q98_11_51.toInt ≤ (v12.2.2.1 96 0).toInt) ∧ v12 = v98) (Lf := fun ⟨q98_9_51, q98_11_51⟩ => [some (AR 95), some (AI x1), some (AI x2), some (AI x3), some (AI x4), some (AI q4_5_0), some (AI q12_6_2), some (AI z_8), some (AI z_9), some (AI q98_9_51), some (AI 0), some (AI q98_11_51)]) (fun ⟨q98_9_51, q98_11_51⟩ _ => (9 - q98_11_51.toInt).toNat) ⟨0, 0⟩ ⟨⟨by decide, by decide⟩, ⟨by decide, by decide⟩, (⟨fun h_ g_ => by first | (exfalso; omega) | exact absurd h_ (by decide), by omega⟩), rfl⟩ ?_
            rintro ⟨q98_9_51, q98_11_51⟩ v98 ⟨hq98_9, hq98_11, hl98, hv_⟩ ih98
            subst hv_
            refine s_loc (L2 := [some (AR 95), some (AI x1), some (AI x2), some (AI x3), some (AI x4), some (AI q4_5_0), some (AI q12_6_2), some (AI z_8), some (AI z_9), some (AI q98_9_51), some (AI 0), some (AI q98_11_51)]) rfl ?_
            refine s_iload E dX10_layCarry_98 rfl ?_
            refine s_aload_n E dX10_layCarry_100 rfl rfl ?_
            refine s_gR (r := 96) E fg_X10_9 rfl rfl (jv_lt hj_3 (by decide)) (jv_r hj_3 (by decide +kernel)) dX10_layCarry_101 ?_
            refine s_iconst (v := 0) E dX10_layCarry_104 (by decide) ?_
            refine s_iald E rfl (jv_lt hj_3 (by decide)) (z_in (u := 0) (by decide) (by omega) (by omega)) dX10_layCarry_105 ?_
            refine z_nm (P := fun z => z.toInt = (v12.2.2.1 96 0).toInt ∧ 0 ≤ z.toInt ∧ z.toInt ≤ 8) ⟨rfl, (rw_96_0 hj_3)⟩ (fun z_53 hz_53 => ?_)
            refine z_icmp_ge (tgt := 165) (u := q98_11_51.toInt) (v := z_53.toInt) E dX10_layCarry_106 (by decide) rfl rfl (fun h_54 => ?_) (fun h_54 => ?_)
            ·
              have hfin_ : q4_5_0.toInt < x4.toInt → ¬ (vp_nar .boolean q98_9_51).toInt = 0 → ∃ r_ th_ : Nat, (r_ : Int) < (w.2.2.1 96 0).toInt ∧ th_ ≤ 1 ∧ (th_ = 1 ↔ (z_9.toInt.toNat = 1 ∨ TKs w x1 x2 (z_8.toInt.toNat : Int) q4_5_0.toInt.toNat)) ∧ bsd w x2.toInt.toNat z_8.toInt.toNat r_ ∧ ¬ ((v12.2.2.1 109) (16 * (q4_5_0.toInt.toNat + 1) + 2 * r_ + th_)).toInt = 0 := fun g1_ g2_ => cr_fin (hl98.1 (nb_ne (z_bool (by omega) (by omega)) g2_) g1_) hth_ (by omega) (by omega) (by omega) (by omega) (by omega)
              refine s_aload_n E dX10_layCarry_165 rfl rfl ?_
              refine s_gR (r := 109) E fg_X10_55 rfl rfl (jv_lt hj_3 (by decide)) (jv_r hj_3 (by decide +kernel)) dX10_layCarry_166 ?_
              refine s_iload E dX10_layCarry_169 rfl ?_
              refine s_iload E dX10_layCarry_171 rfl ?_
              refine s_iload E dX10_layCarry_173 rfl ?_
              refine s_sI (As := [AI q4_5_0, AI z_8, AI z_9]) (S := [AR 109]) E (Z_X10_carryState l D aC b v12 q4_5_0 z_8 z_9 hj_3.1 ⟨by have hb_ := z32 q4_5_0; omega, by have hb_ := z32 q4_5_0; omega⟩ ⟨by have hb_ := z32 z_8; omega, by have hb_ := z32 z_8; omega⟩ ⟨by have hb_ := z32 z_9; omega, by have hb_ := z32 z_9; omega⟩) cs_X10_355 rfl rfl (Nat.le_of_ble_eq_true rfl) (Nat.le_of_ble_eq_true rfl) ⟨(Nat.le_of_ble_eq_true rfl), (Nat.le_of_ble_eq_true rfl)⟩ (Nat.le_of_ble_eq_true rfl) dX10_layCarry_175 (fun z_57 u_55 hp_56 => ?_)
              obtain ⟨hz_57, hxz_57, hp_56⟩ := hp_56
              subst hp_56
              refine s_iload E dX10_layCarry_178 rfl ?_
              refine s_zast E rfl (jv_lt hj_3 (by decide)) (z_in (u := z_57.toInt) rfl (by omega) (by omega)) dX10_layCarry_180 ?_
              have hj_60 : Jv w (upI v12 109 z_57.toNatClampNeg (vp_nar .boolean q98_9_51)) := (jv_b_109 hj_3 (z_bool (by omega) (by omega)))
              refine z_iinc (u := q12_6_2.toInt) (L2 := fun z_61 => [some (AR 95), some (AI x1), some (AI x2), some (AI x3), some (AI x4), some (AI q4_5_0), some (AI z_61), some (AI z_8), some (AI z_9), some (AI q98_9_51), some (AI 0), some (AI q98_11_51)]) E dX10_layCarry_181 rfl rfl (by decide) (fun _ => rfl) (by decide) (by omega) (by omega) (fun z_61 hz_61 => ?_)
              refine s_goto (tgt := 12) E dX10_layCarry_184 (by decide) ?_
              refine s_drop (i := 7) (L2 := [some (AR 95), some (AI x1), some (AI x2), some (AI x3), some (AI x4), some (AI q4_5_0), some (AI z_61), none, some (AI z_9), some (AI q98_9_51), some (AI 0), some (AI q98_11_51)]) rfl ?_
              refine s_drop (i := 8) (L2 := [some (AR 95), some (AI x1), some (AI x2), some (AI x3), some (AI x4), some (AI q4_5_0), some (AI z_61), none, none, some (AI q98_9_51), some (AI 0), some (AI q98_11_51)]) rfl ?_
              refine s_drop (i := 9) (L2 := [some (AR 95), some (AI x1), some (AI x2), some (AI x3), some (AI x4), some (AI q4_5_0), some (AI z_61), none, none, none, some (AI 0), some (AI q98_11_51)]) rfl ?_
              refine s_drop (i := 10) (L2 := [some (AR 95), some (AI x1), some (AI x2), some (AI x3), some (AI x4), some (AI q4_5_0), some (AI z_61), none, none, none, none, some (AI q98_11_51)]) rfl ?_
              refine s_drop (i := 11) (L2 := [some (AR 95), some (AI x1), some (AI x2), some (AI x3), some (AI x4), some (AI q4_5_0), some (AI z_61), none, none, none, none, none]) rfl ?_
              exact ih12 z_61 (upI v12 109 z_57.toNatClampNeg (vp_nar .boolean q98_9_51)) ⟨⟨by have hb_ := z32 z_61; omega, by have hb_ := z32 z_61; omega⟩, (ck_upW hN_ (by omega) hl12 (rm := z_8.toInt.toNat) (hs := z_9.toInt.toNat) (by omega) (by omega) (by omega) (by omega) (by omega) hfin_), ((upI_ne (show 95 ≠ 109 by decide)).trans hf12_95), ((upI_ne (show 96 ≠ 109 by decide)).trans hf12_96), ((upI_ne (show 102 ≠ 109 by decide)).trans hf12_102), ((upI_ne (show 103 ≠ 109 by decide)).trans hf12_103), ((upI_ne (show 106 ≠ 109 by decide)).trans hf12_106), hj_60⟩ (by first | omega | decide | (dsimp only; omega) | (dsimp only; decide))
            ·
              refine s_iload E dX10_layCarry_109 rfl ?_
              refine s_iload E dX10_layCarry_111 rfl ?_
              refine z_icmp_ge (tgt := 165) (u := q4_5_0.toInt) (v := x4.toInt) E dX10_layCarry_113 (by decide) rfl rfl (fun h_62 => ?_) (fun h_62 => ?_)
              ·
                have hfin_ : q4_5_0.toInt < x4.toInt → ¬ (vp_nar .boolean q98_9_51).toInt = 0 → ∃ r_ th_ : Nat, (r_ : Int) < (w.2.2.1 96 0).toInt ∧ th_ ≤ 1 ∧ (th_ = 1 ↔ (z_9.toInt.toNat = 1 ∨ TKs w x1 x2 (z_8.toInt.toNat : Int) q4_5_0.toInt.toNat)) ∧ bsd w x2.toInt.toNat z_8.toInt.toNat r_ ∧ ¬ ((v12.2.2.1 109) (16 * (q4_5_0.toInt.toNat + 1) + 2 * r_ + th_)).toInt = 0 := fun g1_ g2_ => cr_fin (hl98.1 (nb_ne (z_bool (by omega) (by omega)) g2_) g1_) hth_ (by omega) (by omega) (by omega) (by omega) (by omega)
                refine s_aload_n E dX10_layCarry_165 rfl rfl ?_
                refine s_gR (r := 109) E fg_X10_55 rfl rfl (jv_lt hj_3 (by decide)) (jv_r hj_3 (by decide +kernel)) dX10_layCarry_166 ?_
                refine s_iload E dX10_layCarry_169 rfl ?_
                refine s_iload E dX10_layCarry_171 rfl ?_
                refine s_iload E dX10_layCarry_173 rfl ?_
                refine s_sI (As := [AI q4_5_0, AI z_8, AI z_9]) (S := [AR 109]) E (Z_X10_carryState l D aC b v12 q4_5_0 z_8 z_9 hj_3.1 ⟨by have hb_ := z32 q4_5_0; omega, by have hb_ := z32 q4_5_0; omega⟩ ⟨by have hb_ := z32 z_8; omega, by have hb_ := z32 z_8; omega⟩ ⟨by have hb_ := z32 z_9; omega, by have hb_ := z32 z_9; omega⟩) cs_X10_355 rfl rfl (Nat.le_of_ble_eq_true rfl) (Nat.le_of_ble_eq_true rfl) ⟨(Nat.le_of_ble_eq_true rfl), (Nat.le_of_ble_eq_true rfl)⟩ (Nat.le_of_ble_eq_true rfl) dX10_layCarry_175 (fun z_65 u_63 hp_64 => ?_)
                obtain ⟨hz_65, hxz_65, hp_64⟩ := hp_64
                subst hp_64
                refine s_iload E dX10_layCarry_178 rfl ?_
                refine s_zast E rfl (jv_lt hj_3 (by decide)) (z_in (u := z_65.toInt) rfl (by omega) (by omega)) dX10_layCarry_180 ?_
                have hj_68 : Jv w (upI v12 109 z_65.toNatClampNeg (vp_nar .boolean q98_9_51)) := (jv_b_109 hj_3 (z_bool (by omega) (by omega)))
                refine z_iinc (u := q12_6_2.toInt) (L2 := fun z_69 => [some (AR 95), some (AI x1), some (AI x2), some (AI x3), some (AI x4), some (AI q4_5_0), some (AI z_69), some (AI z_8), some (AI z_9), some (AI q98_9_51), some (AI 0), some (AI q98_11_51)]) E dX10_layCarry_181 rfl rfl (by decide) (fun _ => rfl) (by decide) (by omega) (by omega) (fun z_69 hz_69 => ?_)
                refine s_goto (tgt := 12) E dX10_layCarry_184 (by decide) ?_
                refine s_drop (i := 7) (L2 := [some (AR 95), some (AI x1), some (AI x2), some (AI x3), some (AI x4), some (AI q4_5_0), some (AI z_69), none, some (AI z_9), some (AI q98_9_51), some (AI 0), some (AI q98_11_51)]) rfl ?_
                refine s_drop (i := 8) (L2 := [some (AR 95), some (AI x1), some (AI x2), some (AI x3), some (AI x4), some (AI q4_5_0), some (AI z_69), none, none, some (AI q98_9_51), some (AI 0), some (AI q98_11_51)]) rfl ?_
                refine s_drop (i := 9) (L2 := [some (AR 95), some (AI x1), some (AI x2), some (AI x3), some (AI x4), some (AI q4_5_0), some (AI z_69), none, none, none, some (AI 0), some (AI q98_11_51)]) rfl ?_
                refine s_drop (i := 10) (L2 := [some (AR 95), some (AI x1), some (AI x2), some (AI x3), some (AI x4), some (AI q4_5_0), some (AI z_69), none, none, none, none, some (AI q98_11_51)]) rfl ?_
                refine s_drop (i := 11) (L2 := [some (AR 95), some (AI x1), some (AI x2), some (AI x3), some (AI x4), some (AI q4_5_0), some (AI z_69), none, none, none, none, none]) rfl ?_
                exact ih12 z_69 (upI v12 109 z_65.toNatClampNeg (vp_nar .boolean q98_9_51)) ⟨⟨by have hb_ := z32 z_69; omega, by have hb_ := z32 z_69; omega⟩, (ck_upW hN_ (by omega) hl12 (rm := z_8.toInt.toNat) (hs := z_9.toInt.toNat) (by omega) (by omega) (by omega) (by omega) (by omega) hfin_), ((upI_ne (show 95 ≠ 109 by decide)).trans hf12_95), ((upI_ne (show 96 ≠ 109 by decide)).trans hf12_96), ((upI_ne (show 102 ≠ 109 by decide)).trans hf12_102), ((upI_ne (show 103 ≠ 109 by decide)).trans hf12_103), ((upI_ne (show 106 ≠ 109 by decide)).trans hf12_106), hj_68⟩ (by first | omega | decide | (dsimp only; omega) | (dsimp only; decide))
              ·
                refine s_iload E dX10_layCarry_116 rfl ?_
                refine z_if_ne (tgt := 152) (u := q98_9_51.toInt) E dX10_layCarry_118 (by decide) rfl (fun h_70 => ?_) (fun h_70 => ?_)
                ·
                  refine s_iconst (v := 1) E dX10_layCarry_152 (by decide) ?_
                  refine s_goto (tgt := 157) E dX10_layCarry_153 (by decide) ?_
                  refine s_istore (L2 := [some (AR 95), some (AI x1), some (AI x2), some (AI x3), some (AI x4), some (AI q4_5_0), some (AI q12_6_2), some (AI z_8), some (AI z_9), some (AI 1), some (AI 0), some (AI q98_11_51)]) E dX10_layCarry_157 (by decide) rfl ?_
                  refine z_iinc (u := q98_11_51.toInt) (L2 := fun z_71 => [some (AR 95), some (AI x1), some (AI x2), some (AI x3), some (AI x4), some (AI q4_5_0), some (AI q12_6_2), some (AI z_8), some (AI z_9), some (AI 1), some (AI 0), some (AI z_71)]) E dX10_layCarry_159 rfl rfl (by decide) (fun _ => rfl) (by decide) (by omega) (by omega) (fun z_71 hz_71 => ?_)
                  refine s_goto (tgt := 98) E dX10_layCarry_162 (by decide) ?_
                  exact ih98 ⟨1, z_71⟩ v12 ⟨⟨by decide, by decide⟩, ⟨by have hb_ := z32 z_71; omega, by have hb_ := z32 z_71; omega⟩, (⟨by first | exact fun h_ g_ => cr_old (hl98.1 (by omega) g_) (by omega) | exact fun h_ g_ => ⟨q98_11_51.toInt.toNat, by omega, hbs_.mp (by omega), by rw [← hi_]; omega⟩ | exact fun h_ => absurd h_ (by decide), by omega⟩), rfl⟩ (by first | omega | decide | (dsimp only; omega) | (dsimp only; decide))
                ·
                  refine s_aload_n E dX10_layCarry_121 rfl rfl ?_
                  refine s_iload_n E dX10_layCarry_122 rfl rfl ?_
                  refine s_iload E dX10_layCarry_123 rfl ?_
                  refine s_iload E dX10_layCarry_125 rfl ?_
                  refine s_vI (As := [AI x2, AI z_8, AI q98_11_51]) (S := []) E (Z_X10_isBeside_95 l D aC b v12 x2 z_8 q98_11_51 hj_3.1 ⟨by have hb_ := z32 x2; omega, by have hb_ := z32 x2; omega⟩ ⟨by have hb_ := z32 z_8; omega, by have hb_ := z32 z_8; omega⟩ ⟨by have hb_ := z32 q98_11_51; omega, by have hb_ := z32 q98_11_51; omega⟩) cv_X10_352 rfl rfl rfl (jv_lt hj_3 (by decide)) (Nat.le_of_ble_eq_true rfl) (Nat.le_of_ble_eq_true rfl) ⟨(Nat.le_of_ble_eq_true rfl), (Nat.le_of_ble_eq_true rfl)⟩ (Nat.le_of_ble_eq_true rfl) dX10_layCarry_127 (fun z_74 u_72 hp_73 => ?_)
                  obtain ⟨hz_74, hxz_74, hp_73⟩ := hp_73
                  subst hp_73
                  have hbs_ : z_74.toInt = 1 ↔ bsd w x2.toInt.toNat z_8.toInt.toNat q98_11_51.toInt.toNat := by rw [hxz_74, bsd_cong hf12_96 hf12_102]
                  refine z_if_eq (tgt := 156) (u := z_74.toInt) E dX10_layCarry_130 (by decide) rfl (fun h_76 => ?_) (fun h_76 => ?_)
                  ·
                    refine s_iconst (v := 0) E dX10_layCarry_156 (by decide) ?_
                    refine s_istore (L2 := [some (AR 95), some (AI x1), some (AI x2), some (AI x3), some (AI x4), some (AI q4_5_0), some (AI q12_6_2), some (AI z_8), some (AI z_9), some (AI 0), some (AI 0), some (AI q98_11_51)]) E dX10_layCarry_157 (by decide) rfl ?_
                    refine z_iinc (u := q98_11_51.toInt) (L2 := fun z_77 => [some (AR 95), some (AI x1), some (AI x2), some (AI x3), some (AI x4), some (AI q4_5_0), some (AI q12_6_2), some (AI z_8), some (AI z_9), some (AI 0), some (AI 0), some (AI z_77)]) E dX10_layCarry_159 rfl rfl (by decide) (fun _ => rfl) (by decide) (by omega) (by omega) (fun z_77 hz_77 => ?_)
                    refine s_goto (tgt := 98) E dX10_layCarry_162 (by decide) ?_
                    exact ih98 ⟨0, z_77⟩ v12 ⟨⟨by decide, by decide⟩, ⟨by have hb_ := z32 z_77; omega, by have hb_ := z32 z_77; omega⟩, (⟨by first | exact fun h_ g_ => cr_old (hl98.1 (by omega) g_) (by omega) | exact fun h_ g_ => ⟨q98_11_51.toInt.toNat, by omega, hbs_.mp (by omega), by rw [← hi_]; omega⟩ | exact fun h_ => absurd h_ (by decide), by omega⟩), rfl⟩ (by first | omega | decide | (dsimp only; omega) | (dsimp only; decide))
                  ·
                    refine s_aload_n E dX10_layCarry_133 rfl rfl ?_
                    refine s_gR (r := 109) E fg_X10_55 rfl rfl (jv_lt hj_3 (by decide)) (jv_r hj_3 (by decide +kernel)) dX10_layCarry_134 ?_
                    refine s_iload E dX10_layCarry_137 rfl ?_
                    refine s_iconst (v := 1) E dX10_layCarry_139 (by decide) ?_
                    refine z_iadd (u := q4_5_0.toInt) (v := 1) E dX10_layCarry_140 rfl (by decide) (by omega) (by omega) (fun z_78 hz_78 => ?_)
                    refine s_iload E dX10_layCarry_141 rfl ?_
                    refine s_iload E dX10_layCarry_143 rfl ?_
                    refine s_sI (As := [AI z_78, AI q98_11_51, AI 0]) (S := [AR 109]) E (Z_X10_carryState l D aC b v12 z_78 q98_11_51 0 hj_3.1 ⟨by have hb_ := z32 z_78; omega, by have hb_ := z32 z_78; omega⟩ ⟨by have hb_ := z32 q98_11_51; omega, by have hb_ := z32 q98_11_51; omega⟩ (by decide)) cs_X10_355 rfl rfl (Nat.le_of_ble_eq_true rfl) (Nat.le_of_ble_eq_true rfl) ⟨(Nat.le_of_ble_eq_true rfl), (Nat.le_of_ble_eq_true rfl)⟩ (Nat.le_of_ble_eq_true rfl) dX10_layCarry_145 (fun z_81 u_79 hp_80 => ?_)
                    obtain ⟨hz_81, hxz_81, hp_80⟩ := hp_80
                    have hc_ : (0 : Int32).toInt = 0 := by decide
                    subst hp_80
                    have hi_ : z_81.toNatClampNeg = 16 * (q4_5_0.toInt.toNat + 1) + 2 * q98_11_51.toInt.toNat + (0 : Int32).toInt.toNat := by have e_ : z_81.toNatClampNeg = z_81.toInt.toNat := rfl; omega
                    refine s_zald E rfl (jv_lt hj_3 (by decide)) (z_in (u := z_81.toInt) rfl (by omega) (by omega)) dX10_layCarry_148 ?_
                    refine z_nm (P := fun z => z.toInt = (v12.2.2.1 109 z_81.toNatClampNeg).toInt ∧ 0 ≤ z.toInt ∧ z.toInt ≤ 1) ⟨rfl, (ra_109 hj_3 _)⟩ (fun z_83 hz_83 => ?_)
                    refine z_if_eq (tgt := 156) (u := z_83.toInt) E dX10_layCarry_149 (by decide) rfl (fun h_84 => ?_) (fun h_84 => ?_)
                    ·
                      refine s_iconst (v := 0) E dX10_layCarry_156 (by decide) ?_
                      refine s_istore (L2 := [some (AR 95), some (AI x1), some (AI x2), some (AI x3), some (AI x4), some (AI q4_5_0), some (AI q12_6_2), some (AI z_8), some (AI z_9), some (AI 0), some (AI 0), some (AI q98_11_51)]) E dX10_layCarry_157 (by decide) rfl ?_
                      refine z_iinc (u := q98_11_51.toInt) (L2 := fun z_85 => [some (AR 95), some (AI x1), some (AI x2), some (AI x3), some (AI x4), some (AI q4_5_0), some (AI q12_6_2), some (AI z_8), some (AI z_9), some (AI 0), some (AI 0), some (AI z_85)]) E dX10_layCarry_159 rfl rfl (by decide) (fun _ => rfl) (by decide) (by omega) (by omega) (fun z_85 hz_85 => ?_)
                      refine s_goto (tgt := 98) E dX10_layCarry_162 (by decide) ?_
                      exact ih98 ⟨0, z_85⟩ v12 ⟨⟨by decide, by decide⟩, ⟨by have hb_ := z32 z_85; omega, by have hb_ := z32 z_85; omega⟩, (⟨by first | exact fun h_ g_ => cr_old (hl98.1 (by omega) g_) (by omega) | exact fun h_ g_ => ⟨q98_11_51.toInt.toNat, by omega, hbs_.mp (by omega), by rw [← hi_]; omega⟩ | exact fun h_ => absurd h_ (by decide), by omega⟩), rfl⟩ (by first | omega | decide | (dsimp only; omega) | (dsimp only; decide))
                    ·
                      refine s_iconst (v := 1) E dX10_layCarry_152 (by decide) ?_
                      refine s_goto (tgt := 157) E dX10_layCarry_153 (by decide) ?_
                      refine s_istore (L2 := [some (AR 95), some (AI x1), some (AI x2), some (AI x3), some (AI x4), some (AI q4_5_0), some (AI q12_6_2), some (AI z_8), some (AI z_9), some (AI 1), some (AI 0), some (AI q98_11_51)]) E dX10_layCarry_157 (by decide) rfl ?_
                      refine z_iinc (u := q98_11_51.toInt) (L2 := fun z_86 => [some (AR 95), some (AI x1), some (AI x2), some (AI x3), some (AI x4), some (AI q4_5_0), some (AI q12_6_2), some (AI z_8), some (AI z_9), some (AI 1), some (AI 0), some (AI z_86)]) E dX10_layCarry_159 rfl rfl (by decide) (fun _ => rfl) (by decide) (by omega) (by omega) (fun z_86 hz_86 => ?_)
                      refine s_goto (tgt := 98) E dX10_layCarry_162 (by decide) ?_
                      exact ih98 ⟨1, z_86⟩ v12 ⟨⟨by decide, by decide⟩, ⟨by have hb_ := z32 z_86; omega, by have hb_ := z32 z_86; omega⟩, (⟨by first | exact fun h_ g_ => cr_old (hl98.1 (by omega) g_) (by omega) | exact fun h_ g_ => ⟨q98_11_51.toInt.toNat, by omega, hbs_.mp (by omega), by rw [← hi_]; omega⟩ | exact fun h_ => absurd h_ (by decide), by omega⟩), rfl⟩ (by first | omega | decide | (dsimp only; omega) | (dsimp only; decide))
          ·
            refine s_iconst (v := 1) E dX10_layCarry_88 (by decide) ?_
            refine s_goto (tgt := 93) E dX10_layCarry_89 (by decide) ?_
            refine s_istore (L2 := [some (AR 95), some (AI x1), some (AI x2), some (AI x3), some (AI x4), some (AI q4_5_0), some (AI q12_6_2), some (AI z_8), some (AI z_9), some (AI 0), some (AI 1), none]) E dX10_layCarry_93 (by decide) rfl ?_
            have hth_ : (1 : Int32).toInt = 1 ↔ ((z_9 : Int32).toInt = 1 ∨ TKs w x1 x2 z_8.toInt q4_5_0.toInt.toNat) := by first | exact ⟨fun _ => Or.inl (by omega), fun _ => by decide⟩ | exact ⟨fun _ => Or.inr (hk_.mp (by omega)), fun _ => by decide⟩ | exact ⟨fun h_ => absurd h_ (by decide), fun h_ => h_.elim (fun g_ => by omega) (fun g_ => absurd (hk_.mpr g_) (by omega))⟩
            have hc0_ : (0 : Int32).toInt = 0 := (by decide)
            have hc1_ : (1 : Int32).toInt = 1 := (by decide)
            refine s_iconst (v := 0) E dX10_layCarry_95 (by decide) ?_
            refine s_istore (L2 := [some (AR 95), some (AI x1), some (AI x2), some (AI x3), some (AI x4), some (AI q4_5_0), some (AI q12_6_2), some (AI z_8), some (AI z_9), some (AI 0), some (AI 1), some (AI 0)]) E dX10_layCarry_96 (by decide) rfl ?_
            refine z_loop (St := Int32 × Int32) (Pi := fun ⟨q98_9_86, q98_11_86⟩ v98 => (0 ≤ q98_9_86.toInt ∧ q98_9_86.toInt ≤ 1) ∧ (0 ≤ q98_11_86.toInt ∧ q98_11_86.toInt ≤ 8) ∧ ((q98_9_86.toInt = 1 → q4_5_0.toInt < x4.toInt → ∃ r_ : Nat, (r_ : Int) < q98_11_86.toInt ∧ bsd w x2.toInt.toNat z_8.toInt.toNat r_ ∧ ¬ ((v12.2.2.1 109) (16 * (q4_5_0.toInt.toNat + 1) + 2 * r_ + (1 : Int32).toInt.toNat)).toInt = 0) ∧ q98_11_86.toInt ≤ (v12.2.2.1 96 0).toInt) ∧ v12 = v98) (Lf := fun ⟨q98_9_86, q98_11_86⟩ => [some (AR 95), some (AI x1), some (AI x2), some (AI x3), some (AI x4), some (AI q4_5_0), some (AI q12_6_2), some (AI z_8), some (AI z_9), some (AI q98_9_86), some (AI 1), some (AI q98_11_86)]) (fun ⟨q98_9_86, q98_11_86⟩ _ => (9 - q98_11_86.toInt).toNat) ⟨0, 0⟩ ⟨⟨by decide, by decide⟩, ⟨by decide, by decide⟩, (⟨fun h_ g_ => by first | (exfalso; omega) | exact absurd h_ (by decide), by omega⟩), rfl⟩ ?_
            rintro ⟨q98_9_86, q98_11_86⟩ v98 ⟨hq98_9, hq98_11, hl98, hv_⟩ ih98
            subst hv_
            refine s_loc (L2 := [some (AR 95), some (AI x1), some (AI x2), some (AI x3), some (AI x4), some (AI q4_5_0), some (AI q12_6_2), some (AI z_8), some (AI z_9), some (AI q98_9_86), some (AI 1), some (AI q98_11_86)]) rfl ?_
            refine s_iload E dX10_layCarry_98 rfl ?_
            refine s_aload_n E dX10_layCarry_100 rfl rfl ?_
            refine s_gR (r := 96) E fg_X10_9 rfl rfl (jv_lt hj_3 (by decide)) (jv_r hj_3 (by decide +kernel)) dX10_layCarry_101 ?_
            refine s_iconst (v := 0) E dX10_layCarry_104 (by decide) ?_
            refine s_iald E rfl (jv_lt hj_3 (by decide)) (z_in (u := 0) (by decide) (by omega) (by omega)) dX10_layCarry_105 ?_
            refine z_nm (P := fun z => z.toInt = (v12.2.2.1 96 0).toInt ∧ 0 ≤ z.toInt ∧ z.toInt ≤ 8) ⟨rfl, (rw_96_0 hj_3)⟩ (fun z_88 hz_88 => ?_)
            refine z_icmp_ge (tgt := 165) (u := q98_11_86.toInt) (v := z_88.toInt) E dX10_layCarry_106 (by decide) rfl rfl (fun h_89 => ?_) (fun h_89 => ?_)
            ·
              have hfin_ : q4_5_0.toInt < x4.toInt → ¬ (vp_nar .boolean q98_9_86).toInt = 0 → ∃ r_ th_ : Nat, (r_ : Int) < (w.2.2.1 96 0).toInt ∧ th_ ≤ 1 ∧ (th_ = 1 ↔ (z_9.toInt.toNat = 1 ∨ TKs w x1 x2 (z_8.toInt.toNat : Int) q4_5_0.toInt.toNat)) ∧ bsd w x2.toInt.toNat z_8.toInt.toNat r_ ∧ ¬ ((v12.2.2.1 109) (16 * (q4_5_0.toInt.toNat + 1) + 2 * r_ + th_)).toInt = 0 := fun g1_ g2_ => cr_fin (hl98.1 (nb_ne (z_bool (by omega) (by omega)) g2_) g1_) hth_ (by omega) (by omega) (by omega) (by omega) (by omega)
              refine s_aload_n E dX10_layCarry_165 rfl rfl ?_
              refine s_gR (r := 109) E fg_X10_55 rfl rfl (jv_lt hj_3 (by decide)) (jv_r hj_3 (by decide +kernel)) dX10_layCarry_166 ?_
              refine s_iload E dX10_layCarry_169 rfl ?_
              refine s_iload E dX10_layCarry_171 rfl ?_
              refine s_iload E dX10_layCarry_173 rfl ?_
              refine s_sI (As := [AI q4_5_0, AI z_8, AI z_9]) (S := [AR 109]) E (Z_X10_carryState l D aC b v12 q4_5_0 z_8 z_9 hj_3.1 ⟨by have hb_ := z32 q4_5_0; omega, by have hb_ := z32 q4_5_0; omega⟩ ⟨by have hb_ := z32 z_8; omega, by have hb_ := z32 z_8; omega⟩ ⟨by have hb_ := z32 z_9; omega, by have hb_ := z32 z_9; omega⟩) cs_X10_355 rfl rfl (Nat.le_of_ble_eq_true rfl) (Nat.le_of_ble_eq_true rfl) ⟨(Nat.le_of_ble_eq_true rfl), (Nat.le_of_ble_eq_true rfl)⟩ (Nat.le_of_ble_eq_true rfl) dX10_layCarry_175 (fun z_92 u_90 hp_91 => ?_)
              obtain ⟨hz_92, hxz_92, hp_91⟩ := hp_91
              subst hp_91
              refine s_iload E dX10_layCarry_178 rfl ?_
              refine s_zast E rfl (jv_lt hj_3 (by decide)) (z_in (u := z_92.toInt) rfl (by omega) (by omega)) dX10_layCarry_180 ?_
              have hj_95 : Jv w (upI v12 109 z_92.toNatClampNeg (vp_nar .boolean q98_9_86)) := (jv_b_109 hj_3 (z_bool (by omega) (by omega)))
              refine z_iinc (u := q12_6_2.toInt) (L2 := fun z_96 => [some (AR 95), some (AI x1), some (AI x2), some (AI x3), some (AI x4), some (AI q4_5_0), some (AI z_96), some (AI z_8), some (AI z_9), some (AI q98_9_86), some (AI 1), some (AI q98_11_86)]) E dX10_layCarry_181 rfl rfl (by decide) (fun _ => rfl) (by decide) (by omega) (by omega) (fun z_96 hz_96 => ?_)
              refine s_goto (tgt := 12) E dX10_layCarry_184 (by decide) ?_
              refine s_drop (i := 7) (L2 := [some (AR 95), some (AI x1), some (AI x2), some (AI x3), some (AI x4), some (AI q4_5_0), some (AI z_96), none, some (AI z_9), some (AI q98_9_86), some (AI 1), some (AI q98_11_86)]) rfl ?_
              refine s_drop (i := 8) (L2 := [some (AR 95), some (AI x1), some (AI x2), some (AI x3), some (AI x4), some (AI q4_5_0), some (AI z_96), none, none, some (AI q98_9_86), some (AI 1), some (AI q98_11_86)]) rfl ?_
              refine s_drop (i := 9) (L2 := [some (AR 95), some (AI x1), some (AI x2), some (AI x3), some (AI x4), some (AI q4_5_0), some (AI z_96), none, none, none, some (AI 1), some (AI q98_11_86)]) rfl ?_
              refine s_drop (i := 10) (L2 := [some (AR 95), some (AI x1), some (AI x2), some (AI x3), some (AI x4), some (AI q4_5_0), some (AI z_96), none, none, none, none, some (AI q98_11_86)]) rfl ?_
              refine s_drop (i := 11) (L2 := [some (AR 95), some (AI x1), some (AI x2), some (AI x3), some (AI x4), some (AI q4_5_0), some (AI z_96), none, none, none, none, none]) rfl ?_
              exact ih12 z_96 (upI v12 109 z_92.toNatClampNeg (vp_nar .boolean q98_9_86)) ⟨⟨by have hb_ := z32 z_96; omega, by have hb_ := z32 z_96; omega⟩, (ck_upW hN_ (by omega) hl12 (rm := z_8.toInt.toNat) (hs := z_9.toInt.toNat) (by omega) (by omega) (by omega) (by omega) (by omega) hfin_), ((upI_ne (show 95 ≠ 109 by decide)).trans hf12_95), ((upI_ne (show 96 ≠ 109 by decide)).trans hf12_96), ((upI_ne (show 102 ≠ 109 by decide)).trans hf12_102), ((upI_ne (show 103 ≠ 109 by decide)).trans hf12_103), ((upI_ne (show 106 ≠ 109 by decide)).trans hf12_106), hj_95⟩ (by first | omega | decide | (dsimp only; omega) | (dsimp only; decide))
            ·
              refine s_iload E dX10_layCarry_109 rfl ?_
              refine s_iload E dX10_layCarry_111 rfl ?_
              refine z_icmp_ge (tgt := 165) (u := q4_5_0.toInt) (v := x4.toInt) E dX10_layCarry_113 (by decide) rfl rfl (fun h_97 => ?_) (fun h_97 => ?_)
              ·
                have hfin_ : q4_5_0.toInt < x4.toInt → ¬ (vp_nar .boolean q98_9_86).toInt = 0 → ∃ r_ th_ : Nat, (r_ : Int) < (w.2.2.1 96 0).toInt ∧ th_ ≤ 1 ∧ (th_ = 1 ↔ (z_9.toInt.toNat = 1 ∨ TKs w x1 x2 (z_8.toInt.toNat : Int) q4_5_0.toInt.toNat)) ∧ bsd w x2.toInt.toNat z_8.toInt.toNat r_ ∧ ¬ ((v12.2.2.1 109) (16 * (q4_5_0.toInt.toNat + 1) + 2 * r_ + th_)).toInt = 0 := fun g1_ g2_ => cr_fin (hl98.1 (nb_ne (z_bool (by omega) (by omega)) g2_) g1_) hth_ (by omega) (by omega) (by omega) (by omega) (by omega)
                refine s_aload_n E dX10_layCarry_165 rfl rfl ?_
                refine s_gR (r := 109) E fg_X10_55 rfl rfl (jv_lt hj_3 (by decide)) (jv_r hj_3 (by decide +kernel)) dX10_layCarry_166 ?_
                refine s_iload E dX10_layCarry_169 rfl ?_
                refine s_iload E dX10_layCarry_171 rfl ?_
                refine s_iload E dX10_layCarry_173 rfl ?_
                refine s_sI (As := [AI q4_5_0, AI z_8, AI z_9]) (S := [AR 109]) E (Z_X10_carryState l D aC b v12 q4_5_0 z_8 z_9 hj_3.1 ⟨by have hb_ := z32 q4_5_0; omega, by have hb_ := z32 q4_5_0; omega⟩ ⟨by have hb_ := z32 z_8; omega, by have hb_ := z32 z_8; omega⟩ ⟨by have hb_ := z32 z_9; omega, by have hb_ := z32 z_9; omega⟩) cs_X10_355 rfl rfl (Nat.le_of_ble_eq_true rfl) (Nat.le_of_ble_eq_true rfl) ⟨(Nat.le_of_ble_eq_true rfl), (Nat.le_of_ble_eq_true rfl)⟩ (Nat.le_of_ble_eq_true rfl) dX10_layCarry_175 (fun z_100 u_98 hp_99 => ?_)
                obtain ⟨hz_100, hxz_100, hp_99⟩ := hp_99
                subst hp_99
                refine s_iload E dX10_layCarry_178 rfl ?_
                refine s_zast E rfl (jv_lt hj_3 (by decide)) (z_in (u := z_100.toInt) rfl (by omega) (by omega)) dX10_layCarry_180 ?_
                have hj_103 : Jv w (upI v12 109 z_100.toNatClampNeg (vp_nar .boolean q98_9_86)) := (jv_b_109 hj_3 (z_bool (by omega) (by omega)))
                refine z_iinc (u := q12_6_2.toInt) (L2 := fun z_104 => [some (AR 95), some (AI x1), some (AI x2), some (AI x3), some (AI x4), some (AI q4_5_0), some (AI z_104), some (AI z_8), some (AI z_9), some (AI q98_9_86), some (AI 1), some (AI q98_11_86)]) E dX10_layCarry_181 rfl rfl (by decide) (fun _ => rfl) (by decide) (by omega) (by omega) (fun z_104 hz_104 => ?_)
                refine s_goto (tgt := 12) E dX10_layCarry_184 (by decide) ?_
                refine s_drop (i := 7) (L2 := [some (AR 95), some (AI x1), some (AI x2), some (AI x3), some (AI x4), some (AI q4_5_0), some (AI z_104), none, some (AI z_9), some (AI q98_9_86), some (AI 1), some (AI q98_11_86)]) rfl ?_
                refine s_drop (i := 8) (L2 := [some (AR 95), some (AI x1), some (AI x2), some (AI x3), some (AI x4), some (AI q4_5_0), some (AI z_104), none, none, some (AI q98_9_86), some (AI 1), some (AI q98_11_86)]) rfl ?_
                refine s_drop (i := 9) (L2 := [some (AR 95), some (AI x1), some (AI x2), some (AI x3), some (AI x4), some (AI q4_5_0), some (AI z_104), none, none, none, some (AI 1), some (AI q98_11_86)]) rfl ?_
                refine s_drop (i := 10) (L2 := [some (AR 95), some (AI x1), some (AI x2), some (AI x3), some (AI x4), some (AI q4_5_0), some (AI z_104), none, none, none, none, some (AI q98_11_86)]) rfl ?_
                refine s_drop (i := 11) (L2 := [some (AR 95), some (AI x1), some (AI x2), some (AI x3), some (AI x4), some (AI q4_5_0), some (AI z_104), none, none, none, none, none]) rfl ?_
                exact ih12 z_104 (upI v12 109 z_100.toNatClampNeg (vp_nar .boolean q98_9_86)) ⟨⟨by have hb_ := z32 z_104; omega, by have hb_ := z32 z_104; omega⟩, (ck_upW hN_ (by omega) hl12 (rm := z_8.toInt.toNat) (hs := z_9.toInt.toNat) (by omega) (by omega) (by omega) (by omega) (by omega) hfin_), ((upI_ne (show 95 ≠ 109 by decide)).trans hf12_95), ((upI_ne (show 96 ≠ 109 by decide)).trans hf12_96), ((upI_ne (show 102 ≠ 109 by decide)).trans hf12_102), ((upI_ne (show 103 ≠ 109 by decide)).trans hf12_103), ((upI_ne (show 106 ≠ 109 by decide)).trans hf12_106), hj_103⟩ (by first | omega | decide | (dsimp only; omega) | (dsimp only; decide))
              ·
                refine s_iload E dX10_layCarry_116 rfl ?_
                refine z_if_ne (tgt := 152) (u := q98_9_86.toInt) E dX10_layCarry_118 (by decide) rfl (fun h_105 => ?_) (fun h_105 => ?_)
                ·
                  refine s_iconst (v := 1) E dX10_layCarry_152 (by decide) ?_
                  refine s_goto (tgt := 157) E dX10_layCarry_153 (by decide) ?_
                  refine s_istore (L2 := [some (AR 95), some (AI x1), some (AI x2), some (AI x3), some (AI x4), some (AI q4_5_0), some (AI q12_6_2), some (AI z_8), some (AI z_9), some (AI 1), some (AI 1), some (AI q98_11_86)]) E dX10_layCarry_157 (by decide) rfl ?_
                  refine z_iinc (u := q98_11_86.toInt) (L2 := fun z_106 => [some (AR 95), some (AI x1), some (AI x2), some (AI x3), some (AI x4), some (AI q4_5_0), some (AI q12_6_2), some (AI z_8), some (AI z_9), some (AI 1), some (AI 1), some (AI z_106)]) E dX10_layCarry_159 rfl rfl (by decide) (fun _ => rfl) (by decide) (by omega) (by omega) (fun z_106 hz_106 => ?_)
                  refine s_goto (tgt := 98) E dX10_layCarry_162 (by decide) ?_
                  exact ih98 ⟨1, z_106⟩ v12 ⟨⟨by decide, by decide⟩, ⟨by have hb_ := z32 z_106; omega, by have hb_ := z32 z_106; omega⟩, (⟨by first | exact fun h_ g_ => cr_old (hl98.1 (by omega) g_) (by omega) | exact fun h_ g_ => ⟨q98_11_86.toInt.toNat, by omega, hbs_.mp (by omega), by rw [← hi_]; omega⟩ | exact fun h_ => absurd h_ (by decide), by omega⟩), rfl⟩ (by first | omega | decide | (dsimp only; omega) | (dsimp only; decide))
                ·
                  refine s_aload_n E dX10_layCarry_121 rfl rfl ?_
                  refine s_iload_n E dX10_layCarry_122 rfl rfl ?_
                  refine s_iload E dX10_layCarry_123 rfl ?_
                  refine s_iload E dX10_layCarry_125 rfl ?_
                  refine s_vI (As := [AI x2, AI z_8, AI q98_11_86]) (S := []) E (Z_X10_isBeside_95 l D aC b v12 x2 z_8 q98_11_86 hj_3.1 ⟨by have hb_ := z32 x2; omega, by have hb_ := z32 x2; omega⟩ ⟨by have hb_ := z32 z_8; omega, by have hb_ := z32 z_8; omega⟩ ⟨by have hb_ := z32 q98_11_86; omega, by have hb_ := z32 q98_11_86; omega⟩) cv_X10_352 rfl rfl rfl (jv_lt hj_3 (by decide)) (Nat.le_of_ble_eq_true rfl) (Nat.le_of_ble_eq_true rfl) ⟨(Nat.le_of_ble_eq_true rfl), (Nat.le_of_ble_eq_true rfl)⟩ (Nat.le_of_ble_eq_true rfl) dX10_layCarry_127 (fun z_109 u_107 hp_108 => ?_)
                  obtain ⟨hz_109, hxz_109, hp_108⟩ := hp_108
                  subst hp_108
                  have hbs_ : z_109.toInt = 1 ↔ bsd w x2.toInt.toNat z_8.toInt.toNat q98_11_86.toInt.toNat := by rw [hxz_109, bsd_cong hf12_96 hf12_102]
                  refine z_if_eq (tgt := 156) (u := z_109.toInt) E dX10_layCarry_130 (by decide) rfl (fun h_111 => ?_) (fun h_111 => ?_)
                  ·
                    refine s_iconst (v := 0) E dX10_layCarry_156 (by decide) ?_
                    refine s_istore (L2 := [some (AR 95), some (AI x1), some (AI x2), some (AI x3), some (AI x4), some (AI q4_5_0), some (AI q12_6_2), some (AI z_8), some (AI z_9), some (AI 0), some (AI 1), some (AI q98_11_86)]) E dX10_layCarry_157 (by decide) rfl ?_
                    refine z_iinc (u := q98_11_86.toInt) (L2 := fun z_112 => [some (AR 95), some (AI x1), some (AI x2), some (AI x3), some (AI x4), some (AI q4_5_0), some (AI q12_6_2), some (AI z_8), some (AI z_9), some (AI 0), some (AI 1), some (AI z_112)]) E dX10_layCarry_159 rfl rfl (by decide) (fun _ => rfl) (by decide) (by omega) (by omega) (fun z_112 hz_112 => ?_)
                    refine s_goto (tgt := 98) E dX10_layCarry_162 (by decide) ?_
                    exact ih98 ⟨0, z_112⟩ v12 ⟨⟨by decide, by decide⟩, ⟨by have hb_ := z32 z_112; omega, by have hb_ := z32 z_112; omega⟩, (⟨by first | exact fun h_ g_ => cr_old (hl98.1 (by omega) g_) (by omega) | exact fun h_ g_ => ⟨q98_11_86.toInt.toNat, by omega, hbs_.mp (by omega), by rw [← hi_]; omega⟩ | exact fun h_ => absurd h_ (by decide), by omega⟩), rfl⟩ (by first | omega | decide | (dsimp only; omega) | (dsimp only; decide))
                  ·
                    refine s_aload_n E dX10_layCarry_133 rfl rfl ?_
                    refine s_gR (r := 109) E fg_X10_55 rfl rfl (jv_lt hj_3 (by decide)) (jv_r hj_3 (by decide +kernel)) dX10_layCarry_134 ?_
                    refine s_iload E dX10_layCarry_137 rfl ?_
                    refine s_iconst (v := 1) E dX10_layCarry_139 (by decide) ?_
                    refine z_iadd (u := q4_5_0.toInt) (v := 1) E dX10_layCarry_140 rfl (by decide) (by omega) (by omega) (fun z_113 hz_113 => ?_)
                    refine s_iload E dX10_layCarry_141 rfl ?_
                    refine s_iload E dX10_layCarry_143 rfl ?_
                    refine s_sI (As := [AI z_113, AI q98_11_86, AI 1]) (S := [AR 109]) E (Z_X10_carryState l D aC b v12 z_113 q98_11_86 1 hj_3.1 ⟨by have hb_ := z32 z_113; omega, by have hb_ := z32 z_113; omega⟩ ⟨by have hb_ := z32 q98_11_86; omega, by have hb_ := z32 q98_11_86; omega⟩ (by decide)) cs_X10_355 rfl rfl (Nat.le_of_ble_eq_true rfl) (Nat.le_of_ble_eq_true rfl) ⟨(Nat.le_of_ble_eq_true rfl), (Nat.le_of_ble_eq_true rfl)⟩ (Nat.le_of_ble_eq_true rfl) dX10_layCarry_145 (fun z_116 u_114 hp_115 => ?_)
                    obtain ⟨hz_116, hxz_116, hp_115⟩ := hp_115
                    have hc_ : (1 : Int32).toInt = 1 := by decide
                    subst hp_115
                    have hi_ : z_116.toNatClampNeg = 16 * (q4_5_0.toInt.toNat + 1) + 2 * q98_11_86.toInt.toNat + (1 : Int32).toInt.toNat := by have e_ : z_116.toNatClampNeg = z_116.toInt.toNat := rfl; omega
                    refine s_zald E rfl (jv_lt hj_3 (by decide)) (z_in (u := z_116.toInt) rfl (by omega) (by omega)) dX10_layCarry_148 ?_
                    refine z_nm (P := fun z => z.toInt = (v12.2.2.1 109 z_116.toNatClampNeg).toInt ∧ 0 ≤ z.toInt ∧ z.toInt ≤ 1) ⟨rfl, (ra_109 hj_3 _)⟩ (fun z_118 hz_118 => ?_)
                    refine z_if_eq (tgt := 156) (u := z_118.toInt) E dX10_layCarry_149 (by decide) rfl (fun h_119 => ?_) (fun h_119 => ?_)
                    ·
                      refine s_iconst (v := 0) E dX10_layCarry_156 (by decide) ?_
                      refine s_istore (L2 := [some (AR 95), some (AI x1), some (AI x2), some (AI x3), some (AI x4), some (AI q4_5_0), some (AI q12_6_2), some (AI z_8), some (AI z_9), some (AI 0), some (AI 1), some (AI q98_11_86)]) E dX10_layCarry_157 (by decide) rfl ?_
                      refine z_iinc (u := q98_11_86.toInt) (L2 := fun z_120 => [some (AR 95), some (AI x1), some (AI x2), some (AI x3), some (AI x4), some (AI q4_5_0), some (AI q12_6_2), some (AI z_8), some (AI z_9), some (AI 0), some (AI 1), some (AI z_120)]) E dX10_layCarry_159 rfl rfl (by decide) (fun _ => rfl) (by decide) (by omega) (by omega) (fun z_120 hz_120 => ?_)
                      refine s_goto (tgt := 98) E dX10_layCarry_162 (by decide) ?_
                      exact ih98 ⟨0, z_120⟩ v12 ⟨⟨by decide, by decide⟩, ⟨by have hb_ := z32 z_120; omega, by have hb_ := z32 z_120; omega⟩, (⟨by first | exact fun h_ g_ => cr_old (hl98.1 (by omega) g_) (by omega) | exact fun h_ g_ => ⟨q98_11_86.toInt.toNat, by omega, hbs_.mp (by omega), by rw [← hi_]; omega⟩ | exact fun h_ => absurd h_ (by decide), by omega⟩), rfl⟩ (by first | omega | decide | (dsimp only; omega) | (dsimp only; decide))
                    ·
                      refine s_iconst (v := 1) E dX10_layCarry_152 (by decide) ?_
                      refine s_goto (tgt := 157) E dX10_layCarry_153 (by decide) ?_
                      refine s_istore (L2 := [some (AR 95), some (AI x1), some (AI x2), some (AI x3), some (AI x4), some (AI q4_5_0), some (AI q12_6_2), some (AI z_8), some (AI z_9), some (AI 1), some (AI 1), some (AI q98_11_86)]) E dX10_layCarry_157 (by decide) rfl ?_
                      refine z_iinc (u := q98_11_86.toInt) (L2 := fun z_121 => [some (AR 95), some (AI x1), some (AI x2), some (AI x3), some (AI x4), some (AI q4_5_0), some (AI q12_6_2), some (AI z_8), some (AI z_9), some (AI 1), some (AI 1), some (AI z_121)]) E dX10_layCarry_159 rfl rfl (by decide) (fun _ => rfl) (by decide) (by omega) (by omega) (fun z_121 hz_121 => ?_)
                      refine s_goto (tgt := 98) E dX10_layCarry_162 (by decide) ?_
                      exact ih98 ⟨1, z_121⟩ v12 ⟨⟨by decide, by decide⟩, ⟨by have hb_ := z32 z_121; omega, by have hb_ := z32 z_121; omega⟩, (⟨by first | exact fun h_ g_ => cr_old (hl98.1 (by omega) g_) (by omega) | exact fun h_ g_ => ⟨q98_11_86.toInt.toNat, by omega, hbs_.mp (by omega), by rw [← hi_]; omega⟩ | exact fun h_ => absurd h_ (by decide), by omega⟩), rfl⟩ (by first | omega | decide | (dsimp only; omega) | (dsimp only; decide))
      ·
        refine s_iload E dX10_layCarry_44 rfl ?_
        refine s_iconst (v := 1) E dX10_layCarry_46 (by decide) ?_
        refine z_icmp_ne (tgt := 66) (u := z_9.toInt) (v := 1) E dX10_layCarry_47 (by decide) rfl (by decide) (fun h_122 => ?_) (fun h_122 => ?_)
        ·
          refine s_iconst (v := 0) E dX10_layCarry_66 (by decide) ?_
          refine s_istore (L2 := [some (AR 95), some (AI x1), some (AI x2), some (AI x3), some (AI x4), some (AI q4_5_0), some (AI q12_6_2), some (AI z_8), some (AI z_9), some (AI 0), none, none]) E dX10_layCarry_67 (by decide) rfl ?_
          refine s_iload E dX10_layCarry_69 rfl ?_
          refine s_iconst (v := 1) E dX10_layCarry_71 (by decide) ?_
          refine z_icmp_eq (tgt := 88) (u := z_9.toInt) (v := 1) E dX10_layCarry_72 (by decide) rfl (by decide) (fun h_123 => absurd h_123 (by omega)) (fun h_123 => ?_)
          refine s_aload_n E dX10_layCarry_75 rfl rfl ?_
          refine s_iload_n E dX10_layCarry_76 rfl rfl ?_
          refine s_iload_n E dX10_layCarry_77 rfl rfl ?_
          refine s_iload E dX10_layCarry_78 rfl ?_
          refine s_iload E dX10_layCarry_80 rfl ?_
          refine s_vI (As := [AI x1, AI x2, AI z_8, AI q4_5_0]) (S := []) E (Z_X10_takesIn_95 l D aC b v12 x1 x2 z_8 q4_5_0 hj_3.1 ⟨by have hb_ := z32 x1; omega, by have hb_ := z32 x1; omega⟩ ⟨by have hb_ := z32 x2; omega, by have hb_ := z32 x2; omega⟩ ⟨by have hb_ := z32 z_8; omega, by have hb_ := z32 z_8; omega⟩ ⟨by have hb_ := z32 q4_5_0; omega, by have hb_ := z32 q4_5_0; omega⟩) cv_X10_348 rfl rfl rfl (jv_lt hj_3 (by decide)) (Nat.le_of_ble_eq_true rfl) (Nat.le_of_ble_eq_true rfl) ⟨(Nat.le_of_ble_eq_true rfl), (Nat.le_of_ble_eq_true rfl)⟩ (Nat.le_of_ble_eq_true rfl) dX10_layCarry_82 (fun z_126 u_124 hp_125 => ?_)
          obtain ⟨hz_126, hxz_126, hp_125⟩ := hp_125
          subst hp_125
          have hk_ : z_126.toInt = 1 ↔ TKs w x1 x2 z_8.toInt q4_5_0.toInt.toNat := by rw [hxz_126, TKs_cong hf12_95 hf12_96 hf12_103 hf12_106]
          refine z_if_eq (tgt := 92) (u := z_126.toInt) E dX10_layCarry_85 (by decide) rfl (fun h_128 => ?_) (fun h_128 => ?_)
          ·
            refine s_iconst (v := 0) E dX10_layCarry_92 (by decide) ?_
            refine s_istore (L2 := [some (AR 95), some (AI x1), some (AI x2), some (AI x3), some (AI x4), some (AI q4_5_0), some (AI q12_6_2), some (AI z_8), some (AI z_9), some (AI 0), some (AI 0), none]) E dX10_layCarry_93 (by decide) rfl ?_
            have hth_ : (0 : Int32).toInt = 1 ↔ ((z_9 : Int32).toInt = 1 ∨ TKs w x1 x2 z_8.toInt q4_5_0.toInt.toNat) := by first | exact ⟨fun _ => Or.inl (by omega), fun _ => by decide⟩ | exact ⟨fun _ => Or.inr (hk_.mp (by omega)), fun _ => by decide⟩ | exact ⟨fun h_ => absurd h_ (by decide), fun h_ => h_.elim (fun g_ => by omega) (fun g_ => absurd (hk_.mpr g_) (by omega))⟩
            have hc0_ : (0 : Int32).toInt = 0 := (by decide)
            have hc1_ : (1 : Int32).toInt = 1 := (by decide)
            refine s_iconst (v := 0) E dX10_layCarry_95 (by decide) ?_
            refine s_istore (L2 := [some (AR 95), some (AI x1), some (AI x2), some (AI x3), some (AI x4), some (AI q4_5_0), some (AI q12_6_2), some (AI z_8), some (AI z_9), some (AI 0), some (AI 0), some (AI 0)]) E dX10_layCarry_96 (by decide) rfl ?_
            refine z_loop (St := Int32 × Int32) (Pi := fun ⟨q98_9_128, q98_11_128⟩ v98 => (0 ≤ q98_9_128.toInt ∧ q98_9_128.toInt ≤ 1) ∧ (0 ≤ q98_11_128.toInt ∧ q98_11_128.toInt ≤ 8) ∧ ((q98_9_128.toInt = 1 → q4_5_0.toInt < x4.toInt → ∃ r_ : Nat, (r_ : Int) < q98_11_128.toInt ∧ bsd w x2.toInt.toNat z_8.toInt.toNat r_ ∧ ¬ ((v12.2.2.1 109) (16 * (q4_5_0.toInt.toNat + 1) + 2 * r_ + (0 : Int32).toInt.toNat)).toInt = 0) ∧ q98_11_128.toInt ≤ (v12.2.2.1 96 0).toInt) ∧ v12 = v98) (Lf := fun ⟨q98_9_128, q98_11_128⟩ => [some (AR 95), some (AI x1), some (AI x2), some (AI x3), some (AI x4), some (AI q4_5_0), some (AI q12_6_2), some (AI z_8), some (AI z_9), some (AI q98_9_128), some (AI 0), some (AI q98_11_128)]) (fun ⟨q98_9_128, q98_11_128⟩ _ => (9 - q98_11_128.toInt).toNat) ⟨0, 0⟩ ⟨⟨by decide, by decide⟩, ⟨by decide, by decide⟩, (⟨fun h_ g_ => by first | (exfalso; omega) | exact absurd h_ (by decide), by omega⟩), rfl⟩ ?_
            rintro ⟨q98_9_128, q98_11_128⟩ v98 ⟨hq98_9, hq98_11, hl98, hv_⟩ ih98
            subst hv_
            refine s_loc (L2 := [some (AR 95), some (AI x1), some (AI x2), some (AI x3), some (AI x4), some (AI q4_5_0), some (AI q12_6_2), some (AI z_8), some (AI z_9), some (AI q98_9_128), some (AI 0), some (AI q98_11_128)]) rfl ?_
            refine s_iload E dX10_layCarry_98 rfl ?_
            refine s_aload_n E dX10_layCarry_100 rfl rfl ?_
            refine s_gR (r := 96) E fg_X10_9 rfl rfl (jv_lt hj_3 (by decide)) (jv_r hj_3 (by decide +kernel)) dX10_layCarry_101 ?_
            refine s_iconst (v := 0) E dX10_layCarry_104 (by decide) ?_
            refine s_iald E rfl (jv_lt hj_3 (by decide)) (z_in (u := 0) (by decide) (by omega) (by omega)) dX10_layCarry_105 ?_
            refine z_nm (P := fun z => z.toInt = (v12.2.2.1 96 0).toInt ∧ 0 ≤ z.toInt ∧ z.toInt ≤ 8) ⟨rfl, (rw_96_0 hj_3)⟩ (fun z_130 hz_130 => ?_)
            refine z_icmp_ge (tgt := 165) (u := q98_11_128.toInt) (v := z_130.toInt) E dX10_layCarry_106 (by decide) rfl rfl (fun h_131 => ?_) (fun h_131 => ?_)
            ·
              have hfin_ : q4_5_0.toInt < x4.toInt → ¬ (vp_nar .boolean q98_9_128).toInt = 0 → ∃ r_ th_ : Nat, (r_ : Int) < (w.2.2.1 96 0).toInt ∧ th_ ≤ 1 ∧ (th_ = 1 ↔ (z_9.toInt.toNat = 1 ∨ TKs w x1 x2 (z_8.toInt.toNat : Int) q4_5_0.toInt.toNat)) ∧ bsd w x2.toInt.toNat z_8.toInt.toNat r_ ∧ ¬ ((v12.2.2.1 109) (16 * (q4_5_0.toInt.toNat + 1) + 2 * r_ + th_)).toInt = 0 := fun g1_ g2_ => cr_fin (hl98.1 (nb_ne (z_bool (by omega) (by omega)) g2_) g1_) hth_ (by omega) (by omega) (by omega) (by omega) (by omega)
              refine s_aload_n E dX10_layCarry_165 rfl rfl ?_
              refine s_gR (r := 109) E fg_X10_55 rfl rfl (jv_lt hj_3 (by decide)) (jv_r hj_3 (by decide +kernel)) dX10_layCarry_166 ?_
              refine s_iload E dX10_layCarry_169 rfl ?_
              refine s_iload E dX10_layCarry_171 rfl ?_
              refine s_iload E dX10_layCarry_173 rfl ?_
              refine s_sI (As := [AI q4_5_0, AI z_8, AI z_9]) (S := [AR 109]) E (Z_X10_carryState l D aC b v12 q4_5_0 z_8 z_9 hj_3.1 ⟨by have hb_ := z32 q4_5_0; omega, by have hb_ := z32 q4_5_0; omega⟩ ⟨by have hb_ := z32 z_8; omega, by have hb_ := z32 z_8; omega⟩ ⟨by have hb_ := z32 z_9; omega, by have hb_ := z32 z_9; omega⟩) cs_X10_355 rfl rfl (Nat.le_of_ble_eq_true rfl) (Nat.le_of_ble_eq_true rfl) ⟨(Nat.le_of_ble_eq_true rfl), (Nat.le_of_ble_eq_true rfl)⟩ (Nat.le_of_ble_eq_true rfl) dX10_layCarry_175 (fun z_134 u_132 hp_133 => ?_)
              obtain ⟨hz_134, hxz_134, hp_133⟩ := hp_133
              subst hp_133
              refine s_iload E dX10_layCarry_178 rfl ?_
              refine s_zast E rfl (jv_lt hj_3 (by decide)) (z_in (u := z_134.toInt) rfl (by omega) (by omega)) dX10_layCarry_180 ?_
              have hj_137 : Jv w (upI v12 109 z_134.toNatClampNeg (vp_nar .boolean q98_9_128)) := (jv_b_109 hj_3 (z_bool (by omega) (by omega)))
              refine z_iinc (u := q12_6_2.toInt) (L2 := fun z_138 => [some (AR 95), some (AI x1), some (AI x2), some (AI x3), some (AI x4), some (AI q4_5_0), some (AI z_138), some (AI z_8), some (AI z_9), some (AI q98_9_128), some (AI 0), some (AI q98_11_128)]) E dX10_layCarry_181 rfl rfl (by decide) (fun _ => rfl) (by decide) (by omega) (by omega) (fun z_138 hz_138 => ?_)
              refine s_goto (tgt := 12) E dX10_layCarry_184 (by decide) ?_
              refine s_drop (i := 7) (L2 := [some (AR 95), some (AI x1), some (AI x2), some (AI x3), some (AI x4), some (AI q4_5_0), some (AI z_138), none, some (AI z_9), some (AI q98_9_128), some (AI 0), some (AI q98_11_128)]) rfl ?_
              refine s_drop (i := 8) (L2 := [some (AR 95), some (AI x1), some (AI x2), some (AI x3), some (AI x4), some (AI q4_5_0), some (AI z_138), none, none, some (AI q98_9_128), some (AI 0), some (AI q98_11_128)]) rfl ?_
              refine s_drop (i := 9) (L2 := [some (AR 95), some (AI x1), some (AI x2), some (AI x3), some (AI x4), some (AI q4_5_0), some (AI z_138), none, none, none, some (AI 0), some (AI q98_11_128)]) rfl ?_
              refine s_drop (i := 10) (L2 := [some (AR 95), some (AI x1), some (AI x2), some (AI x3), some (AI x4), some (AI q4_5_0), some (AI z_138), none, none, none, none, some (AI q98_11_128)]) rfl ?_
              refine s_drop (i := 11) (L2 := [some (AR 95), some (AI x1), some (AI x2), some (AI x3), some (AI x4), some (AI q4_5_0), some (AI z_138), none, none, none, none, none]) rfl ?_
              exact ih12 z_138 (upI v12 109 z_134.toNatClampNeg (vp_nar .boolean q98_9_128)) ⟨⟨by have hb_ := z32 z_138; omega, by have hb_ := z32 z_138; omega⟩, (ck_upW hN_ (by omega) hl12 (rm := z_8.toInt.toNat) (hs := z_9.toInt.toNat) (by omega) (by omega) (by omega) (by omega) (by omega) hfin_), ((upI_ne (show 95 ≠ 109 by decide)).trans hf12_95), ((upI_ne (show 96 ≠ 109 by decide)).trans hf12_96), ((upI_ne (show 102 ≠ 109 by decide)).trans hf12_102), ((upI_ne (show 103 ≠ 109 by decide)).trans hf12_103), ((upI_ne (show 106 ≠ 109 by decide)).trans hf12_106), hj_137⟩ (by first | omega | decide | (dsimp only; omega) | (dsimp only; decide))
            ·
              refine s_iload E dX10_layCarry_109 rfl ?_
              refine s_iload E dX10_layCarry_111 rfl ?_
              refine z_icmp_ge (tgt := 165) (u := q4_5_0.toInt) (v := x4.toInt) E dX10_layCarry_113 (by decide) rfl rfl (fun h_139 => ?_) (fun h_139 => ?_)
              ·
                have hfin_ : q4_5_0.toInt < x4.toInt → ¬ (vp_nar .boolean q98_9_128).toInt = 0 → ∃ r_ th_ : Nat, (r_ : Int) < (w.2.2.1 96 0).toInt ∧ th_ ≤ 1 ∧ (th_ = 1 ↔ (z_9.toInt.toNat = 1 ∨ TKs w x1 x2 (z_8.toInt.toNat : Int) q4_5_0.toInt.toNat)) ∧ bsd w x2.toInt.toNat z_8.toInt.toNat r_ ∧ ¬ ((v12.2.2.1 109) (16 * (q4_5_0.toInt.toNat + 1) + 2 * r_ + th_)).toInt = 0 := fun g1_ g2_ => cr_fin (hl98.1 (nb_ne (z_bool (by omega) (by omega)) g2_) g1_) hth_ (by omega) (by omega) (by omega) (by omega) (by omega)
                refine s_aload_n E dX10_layCarry_165 rfl rfl ?_
                refine s_gR (r := 109) E fg_X10_55 rfl rfl (jv_lt hj_3 (by decide)) (jv_r hj_3 (by decide +kernel)) dX10_layCarry_166 ?_
                refine s_iload E dX10_layCarry_169 rfl ?_
                refine s_iload E dX10_layCarry_171 rfl ?_
                refine s_iload E dX10_layCarry_173 rfl ?_
                refine s_sI (As := [AI q4_5_0, AI z_8, AI z_9]) (S := [AR 109]) E (Z_X10_carryState l D aC b v12 q4_5_0 z_8 z_9 hj_3.1 ⟨by have hb_ := z32 q4_5_0; omega, by have hb_ := z32 q4_5_0; omega⟩ ⟨by have hb_ := z32 z_8; omega, by have hb_ := z32 z_8; omega⟩ ⟨by have hb_ := z32 z_9; omega, by have hb_ := z32 z_9; omega⟩) cs_X10_355 rfl rfl (Nat.le_of_ble_eq_true rfl) (Nat.le_of_ble_eq_true rfl) ⟨(Nat.le_of_ble_eq_true rfl), (Nat.le_of_ble_eq_true rfl)⟩ (Nat.le_of_ble_eq_true rfl) dX10_layCarry_175 (fun z_142 u_140 hp_141 => ?_)
                obtain ⟨hz_142, hxz_142, hp_141⟩ := hp_141
                subst hp_141
                refine s_iload E dX10_layCarry_178 rfl ?_
                refine s_zast E rfl (jv_lt hj_3 (by decide)) (z_in (u := z_142.toInt) rfl (by omega) (by omega)) dX10_layCarry_180 ?_
                have hj_145 : Jv w (upI v12 109 z_142.toNatClampNeg (vp_nar .boolean q98_9_128)) := (jv_b_109 hj_3 (z_bool (by omega) (by omega)))
                refine z_iinc (u := q12_6_2.toInt) (L2 := fun z_146 => [some (AR 95), some (AI x1), some (AI x2), some (AI x3), some (AI x4), some (AI q4_5_0), some (AI z_146), some (AI z_8), some (AI z_9), some (AI q98_9_128), some (AI 0), some (AI q98_11_128)]) E dX10_layCarry_181 rfl rfl (by decide) (fun _ => rfl) (by decide) (by omega) (by omega) (fun z_146 hz_146 => ?_)
                refine s_goto (tgt := 12) E dX10_layCarry_184 (by decide) ?_
                refine s_drop (i := 7) (L2 := [some (AR 95), some (AI x1), some (AI x2), some (AI x3), some (AI x4), some (AI q4_5_0), some (AI z_146), none, some (AI z_9), some (AI q98_9_128), some (AI 0), some (AI q98_11_128)]) rfl ?_
                refine s_drop (i := 8) (L2 := [some (AR 95), some (AI x1), some (AI x2), some (AI x3), some (AI x4), some (AI q4_5_0), some (AI z_146), none, none, some (AI q98_9_128), some (AI 0), some (AI q98_11_128)]) rfl ?_
                refine s_drop (i := 9) (L2 := [some (AR 95), some (AI x1), some (AI x2), some (AI x3), some (AI x4), some (AI q4_5_0), some (AI z_146), none, none, none, some (AI 0), some (AI q98_11_128)]) rfl ?_
                refine s_drop (i := 10) (L2 := [some (AR 95), some (AI x1), some (AI x2), some (AI x3), some (AI x4), some (AI q4_5_0), some (AI z_146), none, none, none, none, some (AI q98_11_128)]) rfl ?_
                refine s_drop (i := 11) (L2 := [some (AR 95), some (AI x1), some (AI x2), some (AI x3), some (AI x4), some (AI q4_5_0), some (AI z_146), none, none, none, none, none]) rfl ?_
                exact ih12 z_146 (upI v12 109 z_142.toNatClampNeg (vp_nar .boolean q98_9_128)) ⟨⟨by have hb_ := z32 z_146; omega, by have hb_ := z32 z_146; omega⟩, (ck_upW hN_ (by omega) hl12 (rm := z_8.toInt.toNat) (hs := z_9.toInt.toNat) (by omega) (by omega) (by omega) (by omega) (by omega) hfin_), ((upI_ne (show 95 ≠ 109 by decide)).trans hf12_95), ((upI_ne (show 96 ≠ 109 by decide)).trans hf12_96), ((upI_ne (show 102 ≠ 109 by decide)).trans hf12_102), ((upI_ne (show 103 ≠ 109 by decide)).trans hf12_103), ((upI_ne (show 106 ≠ 109 by decide)).trans hf12_106), hj_145⟩ (by first | omega | decide | (dsimp only; omega) | (dsimp only; decide))
              ·
                refine s_iload E dX10_layCarry_116 rfl ?_
                refine z_if_ne (tgt := 152) (u := q98_9_128.toInt) E dX10_layCarry_118 (by decide) rfl (fun h_147 => ?_) (fun h_147 => ?_)
                ·
                  refine s_iconst (v := 1) E dX10_layCarry_152 (by decide) ?_
                  refine s_goto (tgt := 157) E dX10_layCarry_153 (by decide) ?_
                  refine s_istore (L2 := [some (AR 95), some (AI x1), some (AI x2), some (AI x3), some (AI x4), some (AI q4_5_0), some (AI q12_6_2), some (AI z_8), some (AI z_9), some (AI 1), some (AI 0), some (AI q98_11_128)]) E dX10_layCarry_157 (by decide) rfl ?_
                  refine z_iinc (u := q98_11_128.toInt) (L2 := fun z_148 => [some (AR 95), some (AI x1), some (AI x2), some (AI x3), some (AI x4), some (AI q4_5_0), some (AI q12_6_2), some (AI z_8), some (AI z_9), some (AI 1), some (AI 0), some (AI z_148)]) E dX10_layCarry_159 rfl rfl (by decide) (fun _ => rfl) (by decide) (by omega) (by omega) (fun z_148 hz_148 => ?_)
                  refine s_goto (tgt := 98) E dX10_layCarry_162 (by decide) ?_
                  exact ih98 ⟨1, z_148⟩ v12 ⟨⟨by decide, by decide⟩, ⟨by have hb_ := z32 z_148; omega, by have hb_ := z32 z_148; omega⟩, (⟨by first | exact fun h_ g_ => cr_old (hl98.1 (by omega) g_) (by omega) | exact fun h_ g_ => ⟨q98_11_128.toInt.toNat, by omega, hbs_.mp (by omega), by rw [← hi_]; omega⟩ | exact fun h_ => absurd h_ (by decide), by omega⟩), rfl⟩ (by first | omega | decide | (dsimp only; omega) | (dsimp only; decide))
                ·
                  refine s_aload_n E dX10_layCarry_121 rfl rfl ?_
                  refine s_iload_n E dX10_layCarry_122 rfl rfl ?_
                  refine s_iload E dX10_layCarry_123 rfl ?_
                  refine s_iload E dX10_layCarry_125 rfl ?_
                  refine s_vI (As := [AI x2, AI z_8, AI q98_11_128]) (S := []) E (Z_X10_isBeside_95 l D aC b v12 x2 z_8 q98_11_128 hj_3.1 ⟨by have hb_ := z32 x2; omega, by have hb_ := z32 x2; omega⟩ ⟨by have hb_ := z32 z_8; omega, by have hb_ := z32 z_8; omega⟩ ⟨by have hb_ := z32 q98_11_128; omega, by have hb_ := z32 q98_11_128; omega⟩) cv_X10_352 rfl rfl rfl (jv_lt hj_3 (by decide)) (Nat.le_of_ble_eq_true rfl) (Nat.le_of_ble_eq_true rfl) ⟨(Nat.le_of_ble_eq_true rfl), (Nat.le_of_ble_eq_true rfl)⟩ (Nat.le_of_ble_eq_true rfl) dX10_layCarry_127 (fun z_151 u_149 hp_150 => ?_)
                  obtain ⟨hz_151, hxz_151, hp_150⟩ := hp_150
                  subst hp_150
                  have hbs_ : z_151.toInt = 1 ↔ bsd w x2.toInt.toNat z_8.toInt.toNat q98_11_128.toInt.toNat := by rw [hxz_151, bsd_cong hf12_96 hf12_102]
                  refine z_if_eq (tgt := 156) (u := z_151.toInt) E dX10_layCarry_130 (by decide) rfl (fun h_153 => ?_) (fun h_153 => ?_)
                  ·
                    refine s_iconst (v := 0) E dX10_layCarry_156 (by decide) ?_
                    refine s_istore (L2 := [some (AR 95), some (AI x1), some (AI x2), some (AI x3), some (AI x4), some (AI q4_5_0), some (AI q12_6_2), some (AI z_8), some (AI z_9), some (AI 0), some (AI 0), some (AI q98_11_128)]) E dX10_layCarry_157 (by decide) rfl ?_
                    refine z_iinc (u := q98_11_128.toInt) (L2 := fun z_154 => [some (AR 95), some (AI x1), some (AI x2), some (AI x3), some (AI x4), some (AI q4_5_0), some (AI q12_6_2), some (AI z_8), some (AI z_9), some (AI 0), some (AI 0), some (AI z_154)]) E dX10_layCarry_159 rfl rfl (by decide) (fun _ => rfl) (by decide) (by omega) (by omega) (fun z_154 hz_154 => ?_)
                    refine s_goto (tgt := 98) E dX10_layCarry_162 (by decide) ?_
                    exact ih98 ⟨0, z_154⟩ v12 ⟨⟨by decide, by decide⟩, ⟨by have hb_ := z32 z_154; omega, by have hb_ := z32 z_154; omega⟩, (⟨by first | exact fun h_ g_ => cr_old (hl98.1 (by omega) g_) (by omega) | exact fun h_ g_ => ⟨q98_11_128.toInt.toNat, by omega, hbs_.mp (by omega), by rw [← hi_]; omega⟩ | exact fun h_ => absurd h_ (by decide), by omega⟩), rfl⟩ (by first | omega | decide | (dsimp only; omega) | (dsimp only; decide))
                  ·
                    refine s_aload_n E dX10_layCarry_133 rfl rfl ?_
                    refine s_gR (r := 109) E fg_X10_55 rfl rfl (jv_lt hj_3 (by decide)) (jv_r hj_3 (by decide +kernel)) dX10_layCarry_134 ?_
                    refine s_iload E dX10_layCarry_137 rfl ?_
                    refine s_iconst (v := 1) E dX10_layCarry_139 (by decide) ?_
                    refine z_iadd (u := q4_5_0.toInt) (v := 1) E dX10_layCarry_140 rfl (by decide) (by omega) (by omega) (fun z_155 hz_155 => ?_)
                    refine s_iload E dX10_layCarry_141 rfl ?_
                    refine s_iload E dX10_layCarry_143 rfl ?_
                    refine s_sI (As := [AI z_155, AI q98_11_128, AI 0]) (S := [AR 109]) E (Z_X10_carryState l D aC b v12 z_155 q98_11_128 0 hj_3.1 ⟨by have hb_ := z32 z_155; omega, by have hb_ := z32 z_155; omega⟩ ⟨by have hb_ := z32 q98_11_128; omega, by have hb_ := z32 q98_11_128; omega⟩ (by decide)) cs_X10_355 rfl rfl (Nat.le_of_ble_eq_true rfl) (Nat.le_of_ble_eq_true rfl) ⟨(Nat.le_of_ble_eq_true rfl), (Nat.le_of_ble_eq_true rfl)⟩ (Nat.le_of_ble_eq_true rfl) dX10_layCarry_145 (fun z_158 u_156 hp_157 => ?_)
                    obtain ⟨hz_158, hxz_158, hp_157⟩ := hp_157
                    have hc_ : (0 : Int32).toInt = 0 := by decide
                    subst hp_157
                    have hi_ : z_158.toNatClampNeg = 16 * (q4_5_0.toInt.toNat + 1) + 2 * q98_11_128.toInt.toNat + (0 : Int32).toInt.toNat := by have e_ : z_158.toNatClampNeg = z_158.toInt.toNat := rfl; omega
                    refine s_zald E rfl (jv_lt hj_3 (by decide)) (z_in (u := z_158.toInt) rfl (by omega) (by omega)) dX10_layCarry_148 ?_
                    refine z_nm (P := fun z => z.toInt = (v12.2.2.1 109 z_158.toNatClampNeg).toInt ∧ 0 ≤ z.toInt ∧ z.toInt ≤ 1) ⟨rfl, (ra_109 hj_3 _)⟩ (fun z_160 hz_160 => ?_)
                    refine z_if_eq (tgt := 156) (u := z_160.toInt) E dX10_layCarry_149 (by decide) rfl (fun h_161 => ?_) (fun h_161 => ?_)
                    ·
                      refine s_iconst (v := 0) E dX10_layCarry_156 (by decide) ?_
                      refine s_istore (L2 := [some (AR 95), some (AI x1), some (AI x2), some (AI x3), some (AI x4), some (AI q4_5_0), some (AI q12_6_2), some (AI z_8), some (AI z_9), some (AI 0), some (AI 0), some (AI q98_11_128)]) E dX10_layCarry_157 (by decide) rfl ?_
                      refine z_iinc (u := q98_11_128.toInt) (L2 := fun z_162 => [some (AR 95), some (AI x1), some (AI x2), some (AI x3), some (AI x4), some (AI q4_5_0), some (AI q12_6_2), some (AI z_8), some (AI z_9), some (AI 0), some (AI 0), some (AI z_162)]) E dX10_layCarry_159 rfl rfl (by decide) (fun _ => rfl) (by decide) (by omega) (by omega) (fun z_162 hz_162 => ?_)
                      refine s_goto (tgt := 98) E dX10_layCarry_162 (by decide) ?_
                      exact ih98 ⟨0, z_162⟩ v12 ⟨⟨by decide, by decide⟩, ⟨by have hb_ := z32 z_162; omega, by have hb_ := z32 z_162; omega⟩, (⟨by first | exact fun h_ g_ => cr_old (hl98.1 (by omega) g_) (by omega) | exact fun h_ g_ => ⟨q98_11_128.toInt.toNat, by omega, hbs_.mp (by omega), by rw [← hi_]; omega⟩ | exact fun h_ => absurd h_ (by decide), by omega⟩), rfl⟩ (by first | omega | decide | (dsimp only; omega) | (dsimp only; decide))
                    ·
                      refine s_iconst (v := 1) E dX10_layCarry_152 (by decide) ?_
                      refine s_goto (tgt := 157) E dX10_layCarry_153 (by decide) ?_
                      refine s_istore (L2 := [some (AR 95), some (AI x1), some (AI x2), some (AI x3), some (AI x4), some (AI q4_5_0), some (AI q12_6_2), some (AI z_8), some (AI z_9), some (AI 1), some (AI 0), some (AI q98_11_128)]) E dX10_layCarry_157 (by decide) rfl ?_
                      refine z_iinc (u := q98_11_128.toInt) (L2 := fun z_163 => [some (AR 95), some (AI x1), some (AI x2), some (AI x3), some (AI x4), some (AI q4_5_0), some (AI q12_6_2), some (AI z_8), some (AI z_9), some (AI 1), some (AI 0), some (AI z_163)]) E dX10_layCarry_159 rfl rfl (by decide) (fun _ => rfl) (by decide) (by omega) (by omega) (fun z_163 hz_163 => ?_)
                      refine s_goto (tgt := 98) E dX10_layCarry_162 (by decide) ?_
                      exact ih98 ⟨1, z_163⟩ v12 ⟨⟨by decide, by decide⟩, ⟨by have hb_ := z32 z_163; omega, by have hb_ := z32 z_163; omega⟩, (⟨by first | exact fun h_ g_ => cr_old (hl98.1 (by omega) g_) (by omega) | exact fun h_ g_ => ⟨q98_11_128.toInt.toNat, by omega, hbs_.mp (by omega), by rw [← hi_]; omega⟩ | exact fun h_ => absurd h_ (by decide), by omega⟩), rfl⟩ (by first | omega | decide | (dsimp only; omega) | (dsimp only; decide))
          ·
            refine s_iconst (v := 1) E dX10_layCarry_88 (by decide) ?_
            refine s_goto (tgt := 93) E dX10_layCarry_89 (by decide) ?_
            refine s_istore (L2 := [some (AR 95), some (AI x1), some (AI x2), some (AI x3), some (AI x4), some (AI q4_5_0), some (AI q12_6_2), some (AI z_8), some (AI z_9), some (AI 0), some (AI 1), none]) E dX10_layCarry_93 (by decide) rfl ?_
            have hth_ : (1 : Int32).toInt = 1 ↔ ((z_9 : Int32).toInt = 1 ∨ TKs w x1 x2 z_8.toInt q4_5_0.toInt.toNat) := by first | exact ⟨fun _ => Or.inl (by omega), fun _ => by decide⟩ | exact ⟨fun _ => Or.inr (hk_.mp (by omega)), fun _ => by decide⟩ | exact ⟨fun h_ => absurd h_ (by decide), fun h_ => h_.elim (fun g_ => by omega) (fun g_ => absurd (hk_.mpr g_) (by omega))⟩
            have hc0_ : (0 : Int32).toInt = 0 := (by decide)
            have hc1_ : (1 : Int32).toInt = 1 := (by decide)
            refine s_iconst (v := 0) E dX10_layCarry_95 (by decide) ?_
            refine s_istore (L2 := [some (AR 95), some (AI x1), some (AI x2), some (AI x3), some (AI x4), some (AI q4_5_0), some (AI q12_6_2), some (AI z_8), some (AI z_9), some (AI 0), some (AI 1), some (AI 0)]) E dX10_layCarry_96 (by decide) rfl ?_
            refine z_loop (St := Int32 × Int32) (Pi := fun ⟨q98_9_163, q98_11_163⟩ v98 => (0 ≤ q98_9_163.toInt ∧ q98_9_163.toInt ≤ 1) ∧ (0 ≤ q98_11_163.toInt ∧ q98_11_163.toInt ≤ 8) ∧ ((q98_9_163.toInt = 1 → q4_5_0.toInt < x4.toInt → ∃ r_ : Nat, (r_ : Int) < q98_11_163.toInt ∧ bsd w x2.toInt.toNat z_8.toInt.toNat r_ ∧ ¬ ((v12.2.2.1 109) (16 * (q4_5_0.toInt.toNat + 1) + 2 * r_ + (1 : Int32).toInt.toNat)).toInt = 0) ∧ q98_11_163.toInt ≤ (v12.2.2.1 96 0).toInt) ∧ v12 = v98) (Lf := fun ⟨q98_9_163, q98_11_163⟩ => [some (AR 95), some (AI x1), some (AI x2), some (AI x3), some (AI x4), some (AI q4_5_0), some (AI q12_6_2), some (AI z_8), some (AI z_9), some (AI q98_9_163), some (AI 1), some (AI q98_11_163)]) (fun ⟨q98_9_163, q98_11_163⟩ _ => (9 - q98_11_163.toInt).toNat) ⟨0, 0⟩ ⟨⟨by decide, by decide⟩, ⟨by decide, by decide⟩, (⟨fun h_ g_ => by first | (exfalso; omega) | exact absurd h_ (by decide), by omega⟩), rfl⟩ ?_
            rintro ⟨q98_9_163, q98_11_163⟩ v98 ⟨hq98_9, hq98_11, hl98, hv_⟩ ih98
            subst hv_
            refine s_loc (L2 := [some (AR 95), some (AI x1), some (AI x2), some (AI x3), some (AI x4), some (AI q4_5_0), some (AI q12_6_2), some (AI z_8), some (AI z_9), some (AI q98_9_163), some (AI 1), some (AI q98_11_163)]) rfl ?_
            refine s_iload E dX10_layCarry_98 rfl ?_
            refine s_aload_n E dX10_layCarry_100 rfl rfl ?_
            refine s_gR (r := 96) E fg_X10_9 rfl rfl (jv_lt hj_3 (by decide)) (jv_r hj_3 (by decide +kernel)) dX10_layCarry_101 ?_
            refine s_iconst (v := 0) E dX10_layCarry_104 (by decide) ?_
            refine s_iald E rfl (jv_lt hj_3 (by decide)) (z_in (u := 0) (by decide) (by omega) (by omega)) dX10_layCarry_105 ?_
            refine z_nm (P := fun z => z.toInt = (v12.2.2.1 96 0).toInt ∧ 0 ≤ z.toInt ∧ z.toInt ≤ 8) ⟨rfl, (rw_96_0 hj_3)⟩ (fun z_165 hz_165 => ?_)
            refine z_icmp_ge (tgt := 165) (u := q98_11_163.toInt) (v := z_165.toInt) E dX10_layCarry_106 (by decide) rfl rfl (fun h_166 => ?_) (fun h_166 => ?_)
            ·
              have hfin_ : q4_5_0.toInt < x4.toInt → ¬ (vp_nar .boolean q98_9_163).toInt = 0 → ∃ r_ th_ : Nat, (r_ : Int) < (w.2.2.1 96 0).toInt ∧ th_ ≤ 1 ∧ (th_ = 1 ↔ (z_9.toInt.toNat = 1 ∨ TKs w x1 x2 (z_8.toInt.toNat : Int) q4_5_0.toInt.toNat)) ∧ bsd w x2.toInt.toNat z_8.toInt.toNat r_ ∧ ¬ ((v12.2.2.1 109) (16 * (q4_5_0.toInt.toNat + 1) + 2 * r_ + th_)).toInt = 0 := fun g1_ g2_ => cr_fin (hl98.1 (nb_ne (z_bool (by omega) (by omega)) g2_) g1_) hth_ (by omega) (by omega) (by omega) (by omega) (by omega)
              refine s_aload_n E dX10_layCarry_165 rfl rfl ?_
              refine s_gR (r := 109) E fg_X10_55 rfl rfl (jv_lt hj_3 (by decide)) (jv_r hj_3 (by decide +kernel)) dX10_layCarry_166 ?_
              refine s_iload E dX10_layCarry_169 rfl ?_
              refine s_iload E dX10_layCarry_171 rfl ?_
              refine s_iload E dX10_layCarry_173 rfl ?_
              refine s_sI (As := [AI q4_5_0, AI z_8, AI z_9]) (S := [AR 109]) E (Z_X10_carryState l D aC b v12 q4_5_0 z_8 z_9 hj_3.1 ⟨by have hb_ := z32 q4_5_0; omega, by have hb_ := z32 q4_5_0; omega⟩ ⟨by have hb_ := z32 z_8; omega, by have hb_ := z32 z_8; omega⟩ ⟨by have hb_ := z32 z_9; omega, by have hb_ := z32 z_9; omega⟩) cs_X10_355 rfl rfl (Nat.le_of_ble_eq_true rfl) (Nat.le_of_ble_eq_true rfl) ⟨(Nat.le_of_ble_eq_true rfl), (Nat.le_of_ble_eq_true rfl)⟩ (Nat.le_of_ble_eq_true rfl) dX10_layCarry_175 (fun z_169 u_167 hp_168 => ?_)
              obtain ⟨hz_169, hxz_169, hp_168⟩ := hp_168
              subst hp_168
              refine s_iload E dX10_layCarry_178 rfl ?_
              refine s_zast E rfl (jv_lt hj_3 (by decide)) (z_in (u := z_169.toInt) rfl (by omega) (by omega)) dX10_layCarry_180 ?_
              have hj_172 : Jv w (upI v12 109 z_169.toNatClampNeg (vp_nar .boolean q98_9_163)) := (jv_b_109 hj_3 (z_bool (by omega) (by omega)))
              refine z_iinc (u := q12_6_2.toInt) (L2 := fun z_173 => [some (AR 95), some (AI x1), some (AI x2), some (AI x3), some (AI x4), some (AI q4_5_0), some (AI z_173), some (AI z_8), some (AI z_9), some (AI q98_9_163), some (AI 1), some (AI q98_11_163)]) E dX10_layCarry_181 rfl rfl (by decide) (fun _ => rfl) (by decide) (by omega) (by omega) (fun z_173 hz_173 => ?_)
              refine s_goto (tgt := 12) E dX10_layCarry_184 (by decide) ?_
              refine s_drop (i := 7) (L2 := [some (AR 95), some (AI x1), some (AI x2), some (AI x3), some (AI x4), some (AI q4_5_0), some (AI z_173), none, some (AI z_9), some (AI q98_9_163), some (AI 1), some (AI q98_11_163)]) rfl ?_
              refine s_drop (i := 8) (L2 := [some (AR 95), some (AI x1), some (AI x2), some (AI x3), some (AI x4), some (AI q4_5_0), some (AI z_173), none, none, some (AI q98_9_163), some (AI 1), some (AI q98_11_163)]) rfl ?_
              refine s_drop (i := 9) (L2 := [some (AR 95), some (AI x1), some (AI x2), some (AI x3), some (AI x4), some (AI q4_5_0), some (AI z_173), none, none, none, some (AI 1), some (AI q98_11_163)]) rfl ?_
              refine s_drop (i := 10) (L2 := [some (AR 95), some (AI x1), some (AI x2), some (AI x3), some (AI x4), some (AI q4_5_0), some (AI z_173), none, none, none, none, some (AI q98_11_163)]) rfl ?_
              refine s_drop (i := 11) (L2 := [some (AR 95), some (AI x1), some (AI x2), some (AI x3), some (AI x4), some (AI q4_5_0), some (AI z_173), none, none, none, none, none]) rfl ?_
              exact ih12 z_173 (upI v12 109 z_169.toNatClampNeg (vp_nar .boolean q98_9_163)) ⟨⟨by have hb_ := z32 z_173; omega, by have hb_ := z32 z_173; omega⟩, (ck_upW hN_ (by omega) hl12 (rm := z_8.toInt.toNat) (hs := z_9.toInt.toNat) (by omega) (by omega) (by omega) (by omega) (by omega) hfin_), ((upI_ne (show 95 ≠ 109 by decide)).trans hf12_95), ((upI_ne (show 96 ≠ 109 by decide)).trans hf12_96), ((upI_ne (show 102 ≠ 109 by decide)).trans hf12_102), ((upI_ne (show 103 ≠ 109 by decide)).trans hf12_103), ((upI_ne (show 106 ≠ 109 by decide)).trans hf12_106), hj_172⟩ (by first | omega | decide | (dsimp only; omega) | (dsimp only; decide))
            ·
              refine s_iload E dX10_layCarry_109 rfl ?_
              refine s_iload E dX10_layCarry_111 rfl ?_
              refine z_icmp_ge (tgt := 165) (u := q4_5_0.toInt) (v := x4.toInt) E dX10_layCarry_113 (by decide) rfl rfl (fun h_174 => ?_) (fun h_174 => ?_)
              ·
                have hfin_ : q4_5_0.toInt < x4.toInt → ¬ (vp_nar .boolean q98_9_163).toInt = 0 → ∃ r_ th_ : Nat, (r_ : Int) < (w.2.2.1 96 0).toInt ∧ th_ ≤ 1 ∧ (th_ = 1 ↔ (z_9.toInt.toNat = 1 ∨ TKs w x1 x2 (z_8.toInt.toNat : Int) q4_5_0.toInt.toNat)) ∧ bsd w x2.toInt.toNat z_8.toInt.toNat r_ ∧ ¬ ((v12.2.2.1 109) (16 * (q4_5_0.toInt.toNat + 1) + 2 * r_ + th_)).toInt = 0 := fun g1_ g2_ => cr_fin (hl98.1 (nb_ne (z_bool (by omega) (by omega)) g2_) g1_) hth_ (by omega) (by omega) (by omega) (by omega) (by omega)
                refine s_aload_n E dX10_layCarry_165 rfl rfl ?_
                refine s_gR (r := 109) E fg_X10_55 rfl rfl (jv_lt hj_3 (by decide)) (jv_r hj_3 (by decide +kernel)) dX10_layCarry_166 ?_
                refine s_iload E dX10_layCarry_169 rfl ?_
                refine s_iload E dX10_layCarry_171 rfl ?_
                refine s_iload E dX10_layCarry_173 rfl ?_
                refine s_sI (As := [AI q4_5_0, AI z_8, AI z_9]) (S := [AR 109]) E (Z_X10_carryState l D aC b v12 q4_5_0 z_8 z_9 hj_3.1 ⟨by have hb_ := z32 q4_5_0; omega, by have hb_ := z32 q4_5_0; omega⟩ ⟨by have hb_ := z32 z_8; omega, by have hb_ := z32 z_8; omega⟩ ⟨by have hb_ := z32 z_9; omega, by have hb_ := z32 z_9; omega⟩) cs_X10_355 rfl rfl (Nat.le_of_ble_eq_true rfl) (Nat.le_of_ble_eq_true rfl) ⟨(Nat.le_of_ble_eq_true rfl), (Nat.le_of_ble_eq_true rfl)⟩ (Nat.le_of_ble_eq_true rfl) dX10_layCarry_175 (fun z_177 u_175 hp_176 => ?_)
                obtain ⟨hz_177, hxz_177, hp_176⟩ := hp_176
                subst hp_176
                refine s_iload E dX10_layCarry_178 rfl ?_
                refine s_zast E rfl (jv_lt hj_3 (by decide)) (z_in (u := z_177.toInt) rfl (by omega) (by omega)) dX10_layCarry_180 ?_
                have hj_180 : Jv w (upI v12 109 z_177.toNatClampNeg (vp_nar .boolean q98_9_163)) := (jv_b_109 hj_3 (z_bool (by omega) (by omega)))
                refine z_iinc (u := q12_6_2.toInt) (L2 := fun z_181 => [some (AR 95), some (AI x1), some (AI x2), some (AI x3), some (AI x4), some (AI q4_5_0), some (AI z_181), some (AI z_8), some (AI z_9), some (AI q98_9_163), some (AI 1), some (AI q98_11_163)]) E dX10_layCarry_181 rfl rfl (by decide) (fun _ => rfl) (by decide) (by omega) (by omega) (fun z_181 hz_181 => ?_)
                refine s_goto (tgt := 12) E dX10_layCarry_184 (by decide) ?_
                refine s_drop (i := 7) (L2 := [some (AR 95), some (AI x1), some (AI x2), some (AI x3), some (AI x4), some (AI q4_5_0), some (AI z_181), none, some (AI z_9), some (AI q98_9_163), some (AI 1), some (AI q98_11_163)]) rfl ?_
                refine s_drop (i := 8) (L2 := [some (AR 95), some (AI x1), some (AI x2), some (AI x3), some (AI x4), some (AI q4_5_0), some (AI z_181), none, none, some (AI q98_9_163), some (AI 1), some (AI q98_11_163)]) rfl ?_
                refine s_drop (i := 9) (L2 := [some (AR 95), some (AI x1), some (AI x2), some (AI x3), some (AI x4), some (AI q4_5_0), some (AI z_181), none, none, none, some (AI 1), some (AI q98_11_163)]) rfl ?_
                refine s_drop (i := 10) (L2 := [some (AR 95), some (AI x1), some (AI x2), some (AI x3), some (AI x4), some (AI q4_5_0), some (AI z_181), none, none, none, none, some (AI q98_11_163)]) rfl ?_
                refine s_drop (i := 11) (L2 := [some (AR 95), some (AI x1), some (AI x2), some (AI x3), some (AI x4), some (AI q4_5_0), some (AI z_181), none, none, none, none, none]) rfl ?_
                exact ih12 z_181 (upI v12 109 z_177.toNatClampNeg (vp_nar .boolean q98_9_163)) ⟨⟨by have hb_ := z32 z_181; omega, by have hb_ := z32 z_181; omega⟩, (ck_upW hN_ (by omega) hl12 (rm := z_8.toInt.toNat) (hs := z_9.toInt.toNat) (by omega) (by omega) (by omega) (by omega) (by omega) hfin_), ((upI_ne (show 95 ≠ 109 by decide)).trans hf12_95), ((upI_ne (show 96 ≠ 109 by decide)).trans hf12_96), ((upI_ne (show 102 ≠ 109 by decide)).trans hf12_102), ((upI_ne (show 103 ≠ 109 by decide)).trans hf12_103), ((upI_ne (show 106 ≠ 109 by decide)).trans hf12_106), hj_180⟩ (by first | omega | decide | (dsimp only; omega) | (dsimp only; decide))
              ·
                refine s_iload E dX10_layCarry_116 rfl ?_
                refine z_if_ne (tgt := 152) (u := q98_9_163.toInt) E dX10_layCarry_118 (by decide) rfl (fun h_182 => ?_) (fun h_182 => ?_)
                ·
                  refine s_iconst (v := 1) E dX10_layCarry_152 (by decide) ?_
                  refine s_goto (tgt := 157) E dX10_layCarry_153 (by decide) ?_
                  refine s_istore (L2 := [some (AR 95), some (AI x1), some (AI x2), some (AI x3), some (AI x4), some (AI q4_5_0), some (AI q12_6_2), some (AI z_8), some (AI z_9), some (AI 1), some (AI 1), some (AI q98_11_163)]) E dX10_layCarry_157 (by decide) rfl ?_
                  refine z_iinc (u := q98_11_163.toInt) (L2 := fun z_183 => [some (AR 95), some (AI x1), some (AI x2), some (AI x3), some (AI x4), some (AI q4_5_0), some (AI q12_6_2), some (AI z_8), some (AI z_9), some (AI 1), some (AI 1), some (AI z_183)]) E dX10_layCarry_159 rfl rfl (by decide) (fun _ => rfl) (by decide) (by omega) (by omega) (fun z_183 hz_183 => ?_)
                  refine s_goto (tgt := 98) E dX10_layCarry_162 (by decide) ?_
                  exact ih98 ⟨1, z_183⟩ v12 ⟨⟨by decide, by decide⟩, ⟨by have hb_ := z32 z_183; omega, by have hb_ := z32 z_183; omega⟩, (⟨by first | exact fun h_ g_ => cr_old (hl98.1 (by omega) g_) (by omega) | exact fun h_ g_ => ⟨q98_11_163.toInt.toNat, by omega, hbs_.mp (by omega), by rw [← hi_]; omega⟩ | exact fun h_ => absurd h_ (by decide), by omega⟩), rfl⟩ (by first | omega | decide | (dsimp only; omega) | (dsimp only; decide))
                ·
                  refine s_aload_n E dX10_layCarry_121 rfl rfl ?_
                  refine s_iload_n E dX10_layCarry_122 rfl rfl ?_
                  refine s_iload E dX10_layCarry_123 rfl ?_
                  refine s_iload E dX10_layCarry_125 rfl ?_
                  refine s_vI (As := [AI x2, AI z_8, AI q98_11_163]) (S := []) E (Z_X10_isBeside_95 l D aC b v12 x2 z_8 q98_11_163 hj_3.1 ⟨by have hb_ := z32 x2; omega, by have hb_ := z32 x2; omega⟩ ⟨by have hb_ := z32 z_8; omega, by have hb_ := z32 z_8; omega⟩ ⟨by have hb_ := z32 q98_11_163; omega, by have hb_ := z32 q98_11_163; omega⟩) cv_X10_352 rfl rfl rfl (jv_lt hj_3 (by decide)) (Nat.le_of_ble_eq_true rfl) (Nat.le_of_ble_eq_true rfl) ⟨(Nat.le_of_ble_eq_true rfl), (Nat.le_of_ble_eq_true rfl)⟩ (Nat.le_of_ble_eq_true rfl) dX10_layCarry_127 (fun z_186 u_184 hp_185 => ?_)
                  obtain ⟨hz_186, hxz_186, hp_185⟩ := hp_185
                  subst hp_185
                  have hbs_ : z_186.toInt = 1 ↔ bsd w x2.toInt.toNat z_8.toInt.toNat q98_11_163.toInt.toNat := by rw [hxz_186, bsd_cong hf12_96 hf12_102]
                  refine z_if_eq (tgt := 156) (u := z_186.toInt) E dX10_layCarry_130 (by decide) rfl (fun h_188 => ?_) (fun h_188 => ?_)
                  ·
                    refine s_iconst (v := 0) E dX10_layCarry_156 (by decide) ?_
                    refine s_istore (L2 := [some (AR 95), some (AI x1), some (AI x2), some (AI x3), some (AI x4), some (AI q4_5_0), some (AI q12_6_2), some (AI z_8), some (AI z_9), some (AI 0), some (AI 1), some (AI q98_11_163)]) E dX10_layCarry_157 (by decide) rfl ?_
                    refine z_iinc (u := q98_11_163.toInt) (L2 := fun z_189 => [some (AR 95), some (AI x1), some (AI x2), some (AI x3), some (AI x4), some (AI q4_5_0), some (AI q12_6_2), some (AI z_8), some (AI z_9), some (AI 0), some (AI 1), some (AI z_189)]) E dX10_layCarry_159 rfl rfl (by decide) (fun _ => rfl) (by decide) (by omega) (by omega) (fun z_189 hz_189 => ?_)
                    refine s_goto (tgt := 98) E dX10_layCarry_162 (by decide) ?_
                    exact ih98 ⟨0, z_189⟩ v12 ⟨⟨by decide, by decide⟩, ⟨by have hb_ := z32 z_189; omega, by have hb_ := z32 z_189; omega⟩, (⟨by first | exact fun h_ g_ => cr_old (hl98.1 (by omega) g_) (by omega) | exact fun h_ g_ => ⟨q98_11_163.toInt.toNat, by omega, hbs_.mp (by omega), by rw [← hi_]; omega⟩ | exact fun h_ => absurd h_ (by decide), by omega⟩), rfl⟩ (by first | omega | decide | (dsimp only; omega) | (dsimp only; decide))
                  ·
                    refine s_aload_n E dX10_layCarry_133 rfl rfl ?_
                    refine s_gR (r := 109) E fg_X10_55 rfl rfl (jv_lt hj_3 (by decide)) (jv_r hj_3 (by decide +kernel)) dX10_layCarry_134 ?_
                    refine s_iload E dX10_layCarry_137 rfl ?_
                    refine s_iconst (v := 1) E dX10_layCarry_139 (by decide) ?_
                    refine z_iadd (u := q4_5_0.toInt) (v := 1) E dX10_layCarry_140 rfl (by decide) (by omega) (by omega) (fun z_190 hz_190 => ?_)
                    refine s_iload E dX10_layCarry_141 rfl ?_
                    refine s_iload E dX10_layCarry_143 rfl ?_
                    refine s_sI (As := [AI z_190, AI q98_11_163, AI 1]) (S := [AR 109]) E (Z_X10_carryState l D aC b v12 z_190 q98_11_163 1 hj_3.1 ⟨by have hb_ := z32 z_190; omega, by have hb_ := z32 z_190; omega⟩ ⟨by have hb_ := z32 q98_11_163; omega, by have hb_ := z32 q98_11_163; omega⟩ (by decide)) cs_X10_355 rfl rfl (Nat.le_of_ble_eq_true rfl) (Nat.le_of_ble_eq_true rfl) ⟨(Nat.le_of_ble_eq_true rfl), (Nat.le_of_ble_eq_true rfl)⟩ (Nat.le_of_ble_eq_true rfl) dX10_layCarry_145 (fun z_193 u_191 hp_192 => ?_)
                    obtain ⟨hz_193, hxz_193, hp_192⟩ := hp_192
                    have hc_ : (1 : Int32).toInt = 1 := by decide
                    subst hp_192
                    have hi_ : z_193.toNatClampNeg = 16 * (q4_5_0.toInt.toNat + 1) + 2 * q98_11_163.toInt.toNat + (1 : Int32).toInt.toNat := by have e_ : z_193.toNatClampNeg = z_193.toInt.toNat := rfl; omega
                    refine s_zald E rfl (jv_lt hj_3 (by decide)) (z_in (u := z_193.toInt) rfl (by omega) (by omega)) dX10_layCarry_148 ?_
                    refine z_nm (P := fun z => z.toInt = (v12.2.2.1 109 z_193.toNatClampNeg).toInt ∧ 0 ≤ z.toInt ∧ z.toInt ≤ 1) ⟨rfl, (ra_109 hj_3 _)⟩ (fun z_195 hz_195 => ?_)
                    refine z_if_eq (tgt := 156) (u := z_195.toInt) E dX10_layCarry_149 (by decide) rfl (fun h_196 => ?_) (fun h_196 => ?_)
                    ·
                      refine s_iconst (v := 0) E dX10_layCarry_156 (by decide) ?_
                      refine s_istore (L2 := [some (AR 95), some (AI x1), some (AI x2), some (AI x3), some (AI x4), some (AI q4_5_0), some (AI q12_6_2), some (AI z_8), some (AI z_9), some (AI 0), some (AI 1), some (AI q98_11_163)]) E dX10_layCarry_157 (by decide) rfl ?_
                      refine z_iinc (u := q98_11_163.toInt) (L2 := fun z_197 => [some (AR 95), some (AI x1), some (AI x2), some (AI x3), some (AI x4), some (AI q4_5_0), some (AI q12_6_2), some (AI z_8), some (AI z_9), some (AI 0), some (AI 1), some (AI z_197)]) E dX10_layCarry_159 rfl rfl (by decide) (fun _ => rfl) (by decide) (by omega) (by omega) (fun z_197 hz_197 => ?_)
                      refine s_goto (tgt := 98) E dX10_layCarry_162 (by decide) ?_
                      exact ih98 ⟨0, z_197⟩ v12 ⟨⟨by decide, by decide⟩, ⟨by have hb_ := z32 z_197; omega, by have hb_ := z32 z_197; omega⟩, (⟨by first | exact fun h_ g_ => cr_old (hl98.1 (by omega) g_) (by omega) | exact fun h_ g_ => ⟨q98_11_163.toInt.toNat, by omega, hbs_.mp (by omega), by rw [← hi_]; omega⟩ | exact fun h_ => absurd h_ (by decide), by omega⟩), rfl⟩ (by first | omega | decide | (dsimp only; omega) | (dsimp only; decide))
                    ·
                      refine s_iconst (v := 1) E dX10_layCarry_152 (by decide) ?_
                      refine s_goto (tgt := 157) E dX10_layCarry_153 (by decide) ?_
                      refine s_istore (L2 := [some (AR 95), some (AI x1), some (AI x2), some (AI x3), some (AI x4), some (AI q4_5_0), some (AI q12_6_2), some (AI z_8), some (AI z_9), some (AI 1), some (AI 1), some (AI q98_11_163)]) E dX10_layCarry_157 (by decide) rfl ?_
                      refine z_iinc (u := q98_11_163.toInt) (L2 := fun z_198 => [some (AR 95), some (AI x1), some (AI x2), some (AI x3), some (AI x4), some (AI q4_5_0), some (AI q12_6_2), some (AI z_8), some (AI z_9), some (AI 1), some (AI 1), some (AI z_198)]) E dX10_layCarry_159 rfl rfl (by decide) (fun _ => rfl) (by decide) (by omega) (by omega) (fun z_198 hz_198 => ?_)
                      refine s_goto (tgt := 98) E dX10_layCarry_162 (by decide) ?_
                      exact ih98 ⟨1, z_198⟩ v12 ⟨⟨by decide, by decide⟩, ⟨by have hb_ := z32 z_198; omega, by have hb_ := z32 z_198; omega⟩, (⟨by first | exact fun h_ g_ => cr_old (hl98.1 (by omega) g_) (by omega) | exact fun h_ g_ => ⟨q98_11_163.toInt.toNat, by omega, hbs_.mp (by omega), by rw [← hi_]; omega⟩ | exact fun h_ => absurd h_ (by decide), by omega⟩), rfl⟩ (by first | omega | decide | (dsimp only; omega) | (dsimp only; decide))
        ·
          refine s_aload_n E dX10_layCarry_50 rfl rfl ?_
          refine s_iload_n E dX10_layCarry_51 rfl rfl ?_
          refine s_iload E dX10_layCarry_52 rfl ?_
          refine s_vI (As := [AI x3, AI q4_5_0]) (S := []) E (Z_X10_atOf_95 l D aC b v12 x3 q4_5_0 hj_3.1 ⟨by have hb_ := z32 x3; omega, by have hb_ := z32 x3; omega⟩ ⟨by have hb_ := z32 q4_5_0; omega, by have hb_ := z32 q4_5_0; omega⟩) cv_X10_255 rfl rfl rfl (jv_lt hj_3 (by decide)) (Nat.le_of_ble_eq_true rfl) (Nat.le_of_ble_eq_true rfl) ⟨(Nat.le_of_ble_eq_true rfl), (Nat.le_of_ble_eq_true rfl)⟩ (Nat.le_of_ble_eq_true rfl) dX10_layCarry_54 (fun z_201 u_199 hp_200 => ?_)
          obtain ⟨hz_201, hxz_201, hp_200⟩ := hp_200
          subst hp_200
          refine s_iload E dX10_layCarry_57 rfl ?_
          refine z_icmp_ne (tgt := 66) (u := z_201.toInt) (v := z_8.toInt) E dX10_layCarry_59 (by decide) rfl rfl (fun h_203 => ?_) (fun h_203 => ?_)
          ·
            refine s_iconst (v := 0) E dX10_layCarry_66 (by decide) ?_
            refine s_istore (L2 := [some (AR 95), some (AI x1), some (AI x2), some (AI x3), some (AI x4), some (AI q4_5_0), some (AI q12_6_2), some (AI z_8), some (AI z_9), some (AI 0), none, none]) E dX10_layCarry_67 (by decide) rfl ?_
            refine s_iload E dX10_layCarry_69 rfl ?_
            refine s_iconst (v := 1) E dX10_layCarry_71 (by decide) ?_
            refine z_icmp_eq (tgt := 88) (u := z_9.toInt) (v := 1) E dX10_layCarry_72 (by decide) rfl (by decide) (fun h_204 => ?_) (fun h_204 => absurd h_204 (by omega))
            refine s_iconst (v := 1) E dX10_layCarry_88 (by decide) ?_
            refine s_goto (tgt := 93) E dX10_layCarry_89 (by decide) ?_
            refine s_istore (L2 := [some (AR 95), some (AI x1), some (AI x2), some (AI x3), some (AI x4), some (AI q4_5_0), some (AI q12_6_2), some (AI z_8), some (AI z_9), some (AI 0), some (AI 1), none]) E dX10_layCarry_93 (by decide) rfl ?_
            have hth_ : (1 : Int32).toInt = 1 ↔ ((z_9 : Int32).toInt = 1 ∨ TKs w x1 x2 z_8.toInt q4_5_0.toInt.toNat) := by first | exact ⟨fun _ => Or.inl (by omega), fun _ => by decide⟩ | exact ⟨fun _ => Or.inr (hk_.mp (by omega)), fun _ => by decide⟩ | exact ⟨fun h_ => absurd h_ (by decide), fun h_ => h_.elim (fun g_ => by omega) (fun g_ => absurd (hk_.mpr g_) (by omega))⟩
            have hc0_ : (0 : Int32).toInt = 0 := (by decide)
            have hc1_ : (1 : Int32).toInt = 1 := (by decide)
            refine s_iconst (v := 0) E dX10_layCarry_95 (by decide) ?_
            refine s_istore (L2 := [some (AR 95), some (AI x1), some (AI x2), some (AI x3), some (AI x4), some (AI q4_5_0), some (AI q12_6_2), some (AI z_8), some (AI z_9), some (AI 0), some (AI 1), some (AI 0)]) E dX10_layCarry_96 (by decide) rfl ?_
            refine z_loop (St := Int32 × Int32) (Pi := fun ⟨q98_9_204, q98_11_204⟩ v98 => (0 ≤ q98_9_204.toInt ∧ q98_9_204.toInt ≤ 1) ∧ (0 ≤ q98_11_204.toInt ∧ q98_11_204.toInt ≤ 8) ∧ ((q98_9_204.toInt = 1 → q4_5_0.toInt < x4.toInt → ∃ r_ : Nat, (r_ : Int) < q98_11_204.toInt ∧ bsd w x2.toInt.toNat z_8.toInt.toNat r_ ∧ ¬ ((v12.2.2.1 109) (16 * (q4_5_0.toInt.toNat + 1) + 2 * r_ + (1 : Int32).toInt.toNat)).toInt = 0) ∧ q98_11_204.toInt ≤ (v12.2.2.1 96 0).toInt) ∧ v12 = v98) (Lf := fun ⟨q98_9_204, q98_11_204⟩ => [some (AR 95), some (AI x1), some (AI x2), some (AI x3), some (AI x4), some (AI q4_5_0), some (AI q12_6_2), some (AI z_8), some (AI z_9), some (AI q98_9_204), some (AI 1), some (AI q98_11_204)]) (fun ⟨q98_9_204, q98_11_204⟩ _ => (9 - q98_11_204.toInt).toNat) ⟨0, 0⟩ ⟨⟨by decide, by decide⟩, ⟨by decide, by decide⟩, (⟨fun h_ g_ => by first | (exfalso; omega) | exact absurd h_ (by decide), by omega⟩), rfl⟩ ?_
            rintro ⟨q98_9_204, q98_11_204⟩ v98 ⟨hq98_9, hq98_11, hl98, hv_⟩ ih98
            subst hv_
            refine s_loc (L2 := [some (AR 95), some (AI x1), some (AI x2), some (AI x3), some (AI x4), some (AI q4_5_0), some (AI q12_6_2), some (AI z_8), some (AI z_9), some (AI q98_9_204), some (AI 1), some (AI q98_11_204)]) rfl ?_
            refine s_iload E dX10_layCarry_98 rfl ?_
            refine s_aload_n E dX10_layCarry_100 rfl rfl ?_
            refine s_gR (r := 96) E fg_X10_9 rfl rfl (jv_lt hj_3 (by decide)) (jv_r hj_3 (by decide +kernel)) dX10_layCarry_101 ?_
            refine s_iconst (v := 0) E dX10_layCarry_104 (by decide) ?_
            refine s_iald E rfl (jv_lt hj_3 (by decide)) (z_in (u := 0) (by decide) (by omega) (by omega)) dX10_layCarry_105 ?_
            refine z_nm (P := fun z => z.toInt = (v12.2.2.1 96 0).toInt ∧ 0 ≤ z.toInt ∧ z.toInt ≤ 8) ⟨rfl, (rw_96_0 hj_3)⟩ (fun z_206 hz_206 => ?_)
            refine z_icmp_ge (tgt := 165) (u := q98_11_204.toInt) (v := z_206.toInt) E dX10_layCarry_106 (by decide) rfl rfl (fun h_207 => ?_) (fun h_207 => ?_)
            ·
              have hfin_ : q4_5_0.toInt < x4.toInt → ¬ (vp_nar .boolean q98_9_204).toInt = 0 → ∃ r_ th_ : Nat, (r_ : Int) < (w.2.2.1 96 0).toInt ∧ th_ ≤ 1 ∧ (th_ = 1 ↔ (z_9.toInt.toNat = 1 ∨ TKs w x1 x2 (z_8.toInt.toNat : Int) q4_5_0.toInt.toNat)) ∧ bsd w x2.toInt.toNat z_8.toInt.toNat r_ ∧ ¬ ((v12.2.2.1 109) (16 * (q4_5_0.toInt.toNat + 1) + 2 * r_ + th_)).toInt = 0 := fun g1_ g2_ => cr_fin (hl98.1 (nb_ne (z_bool (by omega) (by omega)) g2_) g1_) hth_ (by omega) (by omega) (by omega) (by omega) (by omega)
              refine s_aload_n E dX10_layCarry_165 rfl rfl ?_
              refine s_gR (r := 109) E fg_X10_55 rfl rfl (jv_lt hj_3 (by decide)) (jv_r hj_3 (by decide +kernel)) dX10_layCarry_166 ?_
              refine s_iload E dX10_layCarry_169 rfl ?_
              refine s_iload E dX10_layCarry_171 rfl ?_
              refine s_iload E dX10_layCarry_173 rfl ?_
              refine s_sI (As := [AI q4_5_0, AI z_8, AI z_9]) (S := [AR 109]) E (Z_X10_carryState l D aC b v12 q4_5_0 z_8 z_9 hj_3.1 ⟨by have hb_ := z32 q4_5_0; omega, by have hb_ := z32 q4_5_0; omega⟩ ⟨by have hb_ := z32 z_8; omega, by have hb_ := z32 z_8; omega⟩ ⟨by have hb_ := z32 z_9; omega, by have hb_ := z32 z_9; omega⟩) cs_X10_355 rfl rfl (Nat.le_of_ble_eq_true rfl) (Nat.le_of_ble_eq_true rfl) ⟨(Nat.le_of_ble_eq_true rfl), (Nat.le_of_ble_eq_true rfl)⟩ (Nat.le_of_ble_eq_true rfl) dX10_layCarry_175 (fun z_210 u_208 hp_209 => ?_)
              obtain ⟨hz_210, hxz_210, hp_209⟩ := hp_209
              subst hp_209
              refine s_iload E dX10_layCarry_178 rfl ?_
              refine s_zast E rfl (jv_lt hj_3 (by decide)) (z_in (u := z_210.toInt) rfl (by omega) (by omega)) dX10_layCarry_180 ?_
              have hj_213 : Jv w (upI v12 109 z_210.toNatClampNeg (vp_nar .boolean q98_9_204)) := (jv_b_109 hj_3 (z_bool (by omega) (by omega)))
              refine z_iinc (u := q12_6_2.toInt) (L2 := fun z_214 => [some (AR 95), some (AI x1), some (AI x2), some (AI x3), some (AI x4), some (AI q4_5_0), some (AI z_214), some (AI z_8), some (AI z_9), some (AI q98_9_204), some (AI 1), some (AI q98_11_204)]) E dX10_layCarry_181 rfl rfl (by decide) (fun _ => rfl) (by decide) (by omega) (by omega) (fun z_214 hz_214 => ?_)
              refine s_goto (tgt := 12) E dX10_layCarry_184 (by decide) ?_
              refine s_drop (i := 7) (L2 := [some (AR 95), some (AI x1), some (AI x2), some (AI x3), some (AI x4), some (AI q4_5_0), some (AI z_214), none, some (AI z_9), some (AI q98_9_204), some (AI 1), some (AI q98_11_204)]) rfl ?_
              refine s_drop (i := 8) (L2 := [some (AR 95), some (AI x1), some (AI x2), some (AI x3), some (AI x4), some (AI q4_5_0), some (AI z_214), none, none, some (AI q98_9_204), some (AI 1), some (AI q98_11_204)]) rfl ?_
              refine s_drop (i := 9) (L2 := [some (AR 95), some (AI x1), some (AI x2), some (AI x3), some (AI x4), some (AI q4_5_0), some (AI z_214), none, none, none, some (AI 1), some (AI q98_11_204)]) rfl ?_
              refine s_drop (i := 10) (L2 := [some (AR 95), some (AI x1), some (AI x2), some (AI x3), some (AI x4), some (AI q4_5_0), some (AI z_214), none, none, none, none, some (AI q98_11_204)]) rfl ?_
              refine s_drop (i := 11) (L2 := [some (AR 95), some (AI x1), some (AI x2), some (AI x3), some (AI x4), some (AI q4_5_0), some (AI z_214), none, none, none, none, none]) rfl ?_
              exact ih12 z_214 (upI v12 109 z_210.toNatClampNeg (vp_nar .boolean q98_9_204)) ⟨⟨by have hb_ := z32 z_214; omega, by have hb_ := z32 z_214; omega⟩, (ck_upW hN_ (by omega) hl12 (rm := z_8.toInt.toNat) (hs := z_9.toInt.toNat) (by omega) (by omega) (by omega) (by omega) (by omega) hfin_), ((upI_ne (show 95 ≠ 109 by decide)).trans hf12_95), ((upI_ne (show 96 ≠ 109 by decide)).trans hf12_96), ((upI_ne (show 102 ≠ 109 by decide)).trans hf12_102), ((upI_ne (show 103 ≠ 109 by decide)).trans hf12_103), ((upI_ne (show 106 ≠ 109 by decide)).trans hf12_106), hj_213⟩ (by first | omega | decide | (dsimp only; omega) | (dsimp only; decide))
            ·
              refine s_iload E dX10_layCarry_109 rfl ?_
              refine s_iload E dX10_layCarry_111 rfl ?_
              refine z_icmp_ge (tgt := 165) (u := q4_5_0.toInt) (v := x4.toInt) E dX10_layCarry_113 (by decide) rfl rfl (fun h_215 => ?_) (fun h_215 => ?_)
              ·
                have hfin_ : q4_5_0.toInt < x4.toInt → ¬ (vp_nar .boolean q98_9_204).toInt = 0 → ∃ r_ th_ : Nat, (r_ : Int) < (w.2.2.1 96 0).toInt ∧ th_ ≤ 1 ∧ (th_ = 1 ↔ (z_9.toInt.toNat = 1 ∨ TKs w x1 x2 (z_8.toInt.toNat : Int) q4_5_0.toInt.toNat)) ∧ bsd w x2.toInt.toNat z_8.toInt.toNat r_ ∧ ¬ ((v12.2.2.1 109) (16 * (q4_5_0.toInt.toNat + 1) + 2 * r_ + th_)).toInt = 0 := fun g1_ g2_ => cr_fin (hl98.1 (nb_ne (z_bool (by omega) (by omega)) g2_) g1_) hth_ (by omega) (by omega) (by omega) (by omega) (by omega)
                refine s_aload_n E dX10_layCarry_165 rfl rfl ?_
                refine s_gR (r := 109) E fg_X10_55 rfl rfl (jv_lt hj_3 (by decide)) (jv_r hj_3 (by decide +kernel)) dX10_layCarry_166 ?_
                refine s_iload E dX10_layCarry_169 rfl ?_
                refine s_iload E dX10_layCarry_171 rfl ?_
                refine s_iload E dX10_layCarry_173 rfl ?_
                refine s_sI (As := [AI q4_5_0, AI z_8, AI z_9]) (S := [AR 109]) E (Z_X10_carryState l D aC b v12 q4_5_0 z_8 z_9 hj_3.1 ⟨by have hb_ := z32 q4_5_0; omega, by have hb_ := z32 q4_5_0; omega⟩ ⟨by have hb_ := z32 z_8; omega, by have hb_ := z32 z_8; omega⟩ ⟨by have hb_ := z32 z_9; omega, by have hb_ := z32 z_9; omega⟩) cs_X10_355 rfl rfl (Nat.le_of_ble_eq_true rfl) (Nat.le_of_ble_eq_true rfl) ⟨(Nat.le_of_ble_eq_true rfl), (Nat.le_of_ble_eq_true rfl)⟩ (Nat.le_of_ble_eq_true rfl) dX10_layCarry_175 (fun z_218 u_216 hp_217 => ?_)
                obtain ⟨hz_218, hxz_218, hp_217⟩ := hp_217
                subst hp_217
                refine s_iload E dX10_layCarry_178 rfl ?_
                refine s_zast E rfl (jv_lt hj_3 (by decide)) (z_in (u := z_218.toInt) rfl (by omega) (by omega)) dX10_layCarry_180 ?_
                have hj_221 : Jv w (upI v12 109 z_218.toNatClampNeg (vp_nar .boolean q98_9_204)) := (jv_b_109 hj_3 (z_bool (by omega) (by omega)))
                refine z_iinc (u := q12_6_2.toInt) (L2 := fun z_222 => [some (AR 95), some (AI x1), some (AI x2), some (AI x3), some (AI x4), some (AI q4_5_0), some (AI z_222), some (AI z_8), some (AI z_9), some (AI q98_9_204), some (AI 1), some (AI q98_11_204)]) E dX10_layCarry_181 rfl rfl (by decide) (fun _ => rfl) (by decide) (by omega) (by omega) (fun z_222 hz_222 => ?_)
                refine s_goto (tgt := 12) E dX10_layCarry_184 (by decide) ?_
                refine s_drop (i := 7) (L2 := [some (AR 95), some (AI x1), some (AI x2), some (AI x3), some (AI x4), some (AI q4_5_0), some (AI z_222), none, some (AI z_9), some (AI q98_9_204), some (AI 1), some (AI q98_11_204)]) rfl ?_
                refine s_drop (i := 8) (L2 := [some (AR 95), some (AI x1), some (AI x2), some (AI x3), some (AI x4), some (AI q4_5_0), some (AI z_222), none, none, some (AI q98_9_204), some (AI 1), some (AI q98_11_204)]) rfl ?_
                refine s_drop (i := 9) (L2 := [some (AR 95), some (AI x1), some (AI x2), some (AI x3), some (AI x4), some (AI q4_5_0), some (AI z_222), none, none, none, some (AI 1), some (AI q98_11_204)]) rfl ?_
                refine s_drop (i := 10) (L2 := [some (AR 95), some (AI x1), some (AI x2), some (AI x3), some (AI x4), some (AI q4_5_0), some (AI z_222), none, none, none, none, some (AI q98_11_204)]) rfl ?_
                refine s_drop (i := 11) (L2 := [some (AR 95), some (AI x1), some (AI x2), some (AI x3), some (AI x4), some (AI q4_5_0), some (AI z_222), none, none, none, none, none]) rfl ?_
                exact ih12 z_222 (upI v12 109 z_218.toNatClampNeg (vp_nar .boolean q98_9_204)) ⟨⟨by have hb_ := z32 z_222; omega, by have hb_ := z32 z_222; omega⟩, (ck_upW hN_ (by omega) hl12 (rm := z_8.toInt.toNat) (hs := z_9.toInt.toNat) (by omega) (by omega) (by omega) (by omega) (by omega) hfin_), ((upI_ne (show 95 ≠ 109 by decide)).trans hf12_95), ((upI_ne (show 96 ≠ 109 by decide)).trans hf12_96), ((upI_ne (show 102 ≠ 109 by decide)).trans hf12_102), ((upI_ne (show 103 ≠ 109 by decide)).trans hf12_103), ((upI_ne (show 106 ≠ 109 by decide)).trans hf12_106), hj_221⟩ (by first | omega | decide | (dsimp only; omega) | (dsimp only; decide))
              ·
                refine s_iload E dX10_layCarry_116 rfl ?_
                refine z_if_ne (tgt := 152) (u := q98_9_204.toInt) E dX10_layCarry_118 (by decide) rfl (fun h_223 => ?_) (fun h_223 => ?_)
                ·
                  refine s_iconst (v := 1) E dX10_layCarry_152 (by decide) ?_
                  refine s_goto (tgt := 157) E dX10_layCarry_153 (by decide) ?_
                  refine s_istore (L2 := [some (AR 95), some (AI x1), some (AI x2), some (AI x3), some (AI x4), some (AI q4_5_0), some (AI q12_6_2), some (AI z_8), some (AI z_9), some (AI 1), some (AI 1), some (AI q98_11_204)]) E dX10_layCarry_157 (by decide) rfl ?_
                  refine z_iinc (u := q98_11_204.toInt) (L2 := fun z_224 => [some (AR 95), some (AI x1), some (AI x2), some (AI x3), some (AI x4), some (AI q4_5_0), some (AI q12_6_2), some (AI z_8), some (AI z_9), some (AI 1), some (AI 1), some (AI z_224)]) E dX10_layCarry_159 rfl rfl (by decide) (fun _ => rfl) (by decide) (by omega) (by omega) (fun z_224 hz_224 => ?_)
                  refine s_goto (tgt := 98) E dX10_layCarry_162 (by decide) ?_
                  exact ih98 ⟨1, z_224⟩ v12 ⟨⟨by decide, by decide⟩, ⟨by have hb_ := z32 z_224; omega, by have hb_ := z32 z_224; omega⟩, (⟨by first | exact fun h_ g_ => cr_old (hl98.1 (by omega) g_) (by omega) | exact fun h_ g_ => ⟨q98_11_204.toInt.toNat, by omega, hbs_.mp (by omega), by rw [← hi_]; omega⟩ | exact fun h_ => absurd h_ (by decide), by omega⟩), rfl⟩ (by first | omega | decide | (dsimp only; omega) | (dsimp only; decide))
                ·
                  refine s_aload_n E dX10_layCarry_121 rfl rfl ?_
                  refine s_iload_n E dX10_layCarry_122 rfl rfl ?_
                  refine s_iload E dX10_layCarry_123 rfl ?_
                  refine s_iload E dX10_layCarry_125 rfl ?_
                  refine s_vI (As := [AI x2, AI z_8, AI q98_11_204]) (S := []) E (Z_X10_isBeside_95 l D aC b v12 x2 z_8 q98_11_204 hj_3.1 ⟨by have hb_ := z32 x2; omega, by have hb_ := z32 x2; omega⟩ ⟨by have hb_ := z32 z_8; omega, by have hb_ := z32 z_8; omega⟩ ⟨by have hb_ := z32 q98_11_204; omega, by have hb_ := z32 q98_11_204; omega⟩) cv_X10_352 rfl rfl rfl (jv_lt hj_3 (by decide)) (Nat.le_of_ble_eq_true rfl) (Nat.le_of_ble_eq_true rfl) ⟨(Nat.le_of_ble_eq_true rfl), (Nat.le_of_ble_eq_true rfl)⟩ (Nat.le_of_ble_eq_true rfl) dX10_layCarry_127 (fun z_227 u_225 hp_226 => ?_)
                  obtain ⟨hz_227, hxz_227, hp_226⟩ := hp_226
                  subst hp_226
                  have hbs_ : z_227.toInt = 1 ↔ bsd w x2.toInt.toNat z_8.toInt.toNat q98_11_204.toInt.toNat := by rw [hxz_227, bsd_cong hf12_96 hf12_102]
                  refine z_if_eq (tgt := 156) (u := z_227.toInt) E dX10_layCarry_130 (by decide) rfl (fun h_229 => ?_) (fun h_229 => ?_)
                  ·
                    refine s_iconst (v := 0) E dX10_layCarry_156 (by decide) ?_
                    refine s_istore (L2 := [some (AR 95), some (AI x1), some (AI x2), some (AI x3), some (AI x4), some (AI q4_5_0), some (AI q12_6_2), some (AI z_8), some (AI z_9), some (AI 0), some (AI 1), some (AI q98_11_204)]) E dX10_layCarry_157 (by decide) rfl ?_
                    refine z_iinc (u := q98_11_204.toInt) (L2 := fun z_230 => [some (AR 95), some (AI x1), some (AI x2), some (AI x3), some (AI x4), some (AI q4_5_0), some (AI q12_6_2), some (AI z_8), some (AI z_9), some (AI 0), some (AI 1), some (AI z_230)]) E dX10_layCarry_159 rfl rfl (by decide) (fun _ => rfl) (by decide) (by omega) (by omega) (fun z_230 hz_230 => ?_)
                    refine s_goto (tgt := 98) E dX10_layCarry_162 (by decide) ?_
                    exact ih98 ⟨0, z_230⟩ v12 ⟨⟨by decide, by decide⟩, ⟨by have hb_ := z32 z_230; omega, by have hb_ := z32 z_230; omega⟩, (⟨by first | exact fun h_ g_ => cr_old (hl98.1 (by omega) g_) (by omega) | exact fun h_ g_ => ⟨q98_11_204.toInt.toNat, by omega, hbs_.mp (by omega), by rw [← hi_]; omega⟩ | exact fun h_ => absurd h_ (by decide), by omega⟩), rfl⟩ (by first | omega | decide | (dsimp only; omega) | (dsimp only; decide))
                  ·
                    refine s_aload_n E dX10_layCarry_133 rfl rfl ?_
                    refine s_gR (r := 109) E fg_X10_55 rfl rfl (jv_lt hj_3 (by decide)) (jv_r hj_3 (by decide +kernel)) dX10_layCarry_134 ?_
                    refine s_iload E dX10_layCarry_137 rfl ?_
                    refine s_iconst (v := 1) E dX10_layCarry_139 (by decide) ?_
                    refine z_iadd (u := q4_5_0.toInt) (v := 1) E dX10_layCarry_140 rfl (by decide) (by omega) (by omega) (fun z_231 hz_231 => ?_)
                    refine s_iload E dX10_layCarry_141 rfl ?_
                    refine s_iload E dX10_layCarry_143 rfl ?_
                    refine s_sI (As := [AI z_231, AI q98_11_204, AI 1]) (S := [AR 109]) E (Z_X10_carryState l D aC b v12 z_231 q98_11_204 1 hj_3.1 ⟨by have hb_ := z32 z_231; omega, by have hb_ := z32 z_231; omega⟩ ⟨by have hb_ := z32 q98_11_204; omega, by have hb_ := z32 q98_11_204; omega⟩ (by decide)) cs_X10_355 rfl rfl (Nat.le_of_ble_eq_true rfl) (Nat.le_of_ble_eq_true rfl) ⟨(Nat.le_of_ble_eq_true rfl), (Nat.le_of_ble_eq_true rfl)⟩ (Nat.le_of_ble_eq_true rfl) dX10_layCarry_145 (fun z_234 u_232 hp_233 => ?_)
                    obtain ⟨hz_234, hxz_234, hp_233⟩ := hp_233
                    have hc_ : (1 : Int32).toInt = 1 := by decide
                    subst hp_233
                    have hi_ : z_234.toNatClampNeg = 16 * (q4_5_0.toInt.toNat + 1) + 2 * q98_11_204.toInt.toNat + (1 : Int32).toInt.toNat := by have e_ : z_234.toNatClampNeg = z_234.toInt.toNat := rfl; omega
                    refine s_zald E rfl (jv_lt hj_3 (by decide)) (z_in (u := z_234.toInt) rfl (by omega) (by omega)) dX10_layCarry_148 ?_
                    refine z_nm (P := fun z => z.toInt = (v12.2.2.1 109 z_234.toNatClampNeg).toInt ∧ 0 ≤ z.toInt ∧ z.toInt ≤ 1) ⟨rfl, (ra_109 hj_3 _)⟩ (fun z_236 hz_236 => ?_)
                    refine z_if_eq (tgt := 156) (u := z_236.toInt) E dX10_layCarry_149 (by decide) rfl (fun h_237 => ?_) (fun h_237 => ?_)
                    ·
                      refine s_iconst (v := 0) E dX10_layCarry_156 (by decide) ?_
                      refine s_istore (L2 := [some (AR 95), some (AI x1), some (AI x2), some (AI x3), some (AI x4), some (AI q4_5_0), some (AI q12_6_2), some (AI z_8), some (AI z_9), some (AI 0), some (AI 1), some (AI q98_11_204)]) E dX10_layCarry_157 (by decide) rfl ?_
                      refine z_iinc (u := q98_11_204.toInt) (L2 := fun z_238 => [some (AR 95), some (AI x1), some (AI x2), some (AI x3), some (AI x4), some (AI q4_5_0), some (AI q12_6_2), some (AI z_8), some (AI z_9), some (AI 0), some (AI 1), some (AI z_238)]) E dX10_layCarry_159 rfl rfl (by decide) (fun _ => rfl) (by decide) (by omega) (by omega) (fun z_238 hz_238 => ?_)
                      refine s_goto (tgt := 98) E dX10_layCarry_162 (by decide) ?_
                      exact ih98 ⟨0, z_238⟩ v12 ⟨⟨by decide, by decide⟩, ⟨by have hb_ := z32 z_238; omega, by have hb_ := z32 z_238; omega⟩, (⟨by first | exact fun h_ g_ => cr_old (hl98.1 (by omega) g_) (by omega) | exact fun h_ g_ => ⟨q98_11_204.toInt.toNat, by omega, hbs_.mp (by omega), by rw [← hi_]; omega⟩ | exact fun h_ => absurd h_ (by decide), by omega⟩), rfl⟩ (by first | omega | decide | (dsimp only; omega) | (dsimp only; decide))
                    ·
                      refine s_iconst (v := 1) E dX10_layCarry_152 (by decide) ?_
                      refine s_goto (tgt := 157) E dX10_layCarry_153 (by decide) ?_
                      refine s_istore (L2 := [some (AR 95), some (AI x1), some (AI x2), some (AI x3), some (AI x4), some (AI q4_5_0), some (AI q12_6_2), some (AI z_8), some (AI z_9), some (AI 1), some (AI 1), some (AI q98_11_204)]) E dX10_layCarry_157 (by decide) rfl ?_
                      refine z_iinc (u := q98_11_204.toInt) (L2 := fun z_239 => [some (AR 95), some (AI x1), some (AI x2), some (AI x3), some (AI x4), some (AI q4_5_0), some (AI q12_6_2), some (AI z_8), some (AI z_9), some (AI 1), some (AI 1), some (AI z_239)]) E dX10_layCarry_159 rfl rfl (by decide) (fun _ => rfl) (by decide) (by omega) (by omega) (fun z_239 hz_239 => ?_)
                      refine s_goto (tgt := 98) E dX10_layCarry_162 (by decide) ?_
                      exact ih98 ⟨1, z_239⟩ v12 ⟨⟨by decide, by decide⟩, ⟨by have hb_ := z32 z_239; omega, by have hb_ := z32 z_239; omega⟩, (⟨by first | exact fun h_ g_ => cr_old (hl98.1 (by omega) g_) (by omega) | exact fun h_ g_ => ⟨q98_11_204.toInt.toNat, by omega, hbs_.mp (by omega), by rw [← hi_]; omega⟩ | exact fun h_ => absurd h_ (by decide), by omega⟩), rfl⟩ (by first | omega | decide | (dsimp only; omega) | (dsimp only; decide))
          ·
            refine s_iconst (v := 1) E dX10_layCarry_62 (by decide) ?_
            refine s_goto (tgt := 67) E dX10_layCarry_63 (by decide) ?_
            refine s_istore (L2 := [some (AR 95), some (AI x1), some (AI x2), some (AI x3), some (AI x4), some (AI q4_5_0), some (AI q12_6_2), some (AI z_8), some (AI z_9), some (AI 1), none, none]) E dX10_layCarry_67 (by decide) rfl ?_
            refine s_iload E dX10_layCarry_69 rfl ?_
            refine s_iconst (v := 1) E dX10_layCarry_71 (by decide) ?_
            refine z_icmp_eq (tgt := 88) (u := z_9.toInt) (v := 1) E dX10_layCarry_72 (by decide) rfl (by decide) (fun h_240 => ?_) (fun h_240 => absurd h_240 (by omega))
            refine s_iconst (v := 1) E dX10_layCarry_88 (by decide) ?_
            refine s_goto (tgt := 93) E dX10_layCarry_89 (by decide) ?_
            refine s_istore (L2 := [some (AR 95), some (AI x1), some (AI x2), some (AI x3), some (AI x4), some (AI q4_5_0), some (AI q12_6_2), some (AI z_8), some (AI z_9), some (AI 1), some (AI 1), none]) E dX10_layCarry_93 (by decide) rfl ?_
            have hth_ : (1 : Int32).toInt = 1 ↔ ((z_9 : Int32).toInt = 1 ∨ TKs w x1 x2 z_8.toInt q4_5_0.toInt.toNat) := by first | exact ⟨fun _ => Or.inl (by omega), fun _ => by decide⟩ | exact ⟨fun _ => Or.inr (hk_.mp (by omega)), fun _ => by decide⟩ | exact ⟨fun h_ => absurd h_ (by decide), fun h_ => h_.elim (fun g_ => by omega) (fun g_ => absurd (hk_.mpr g_) (by omega))⟩
            have hc0_ : (0 : Int32).toInt = 0 := (by decide)
            have hc1_ : (1 : Int32).toInt = 1 := (by decide)
            refine s_iconst (v := 0) E dX10_layCarry_95 (by decide) ?_
            refine s_istore (L2 := [some (AR 95), some (AI x1), some (AI x2), some (AI x3), some (AI x4), some (AI q4_5_0), some (AI q12_6_2), some (AI z_8), some (AI z_9), some (AI 1), some (AI 1), some (AI 0)]) E dX10_layCarry_96 (by decide) rfl ?_
            refine z_loop (St := Int32 × Int32) (Pi := fun ⟨q98_9_240, q98_11_240⟩ v98 => (1 ≤ q98_9_240.toInt ∧ q98_9_240.toInt ≤ 1) ∧ (0 ≤ q98_11_240.toInt ∧ q98_11_240.toInt ≤ 8) ∧ ((q98_9_240.toInt = 1 → q4_5_0.toInt < x4.toInt → ∃ r_ : Nat, (r_ : Int) < q98_11_240.toInt ∧ bsd w x2.toInt.toNat z_8.toInt.toNat r_ ∧ ¬ ((v12.2.2.1 109) (16 * (q4_5_0.toInt.toNat + 1) + 2 * r_ + (1 : Int32).toInt.toNat)).toInt = 0) ∧ q98_11_240.toInt ≤ (v12.2.2.1 96 0).toInt) ∧ v12 = v98) (Lf := fun ⟨q98_9_240, q98_11_240⟩ => [some (AR 95), some (AI x1), some (AI x2), some (AI x3), some (AI x4), some (AI q4_5_0), some (AI q12_6_2), some (AI z_8), some (AI z_9), some (AI q98_9_240), some (AI 1), some (AI q98_11_240)]) (fun ⟨q98_9_240, q98_11_240⟩ _ => (9 - q98_11_240.toInt).toNat) ⟨1, 0⟩ ⟨⟨by decide, by decide⟩, ⟨by decide, by decide⟩, (⟨fun h_ g_ => by first | (exfalso; omega) | exact absurd h_ (by decide), by omega⟩), rfl⟩ ?_
            rintro ⟨q98_9_240, q98_11_240⟩ v98 ⟨hq98_9, hq98_11, hl98, hv_⟩ ih98
            subst hv_
            refine s_loc (L2 := [some (AR 95), some (AI x1), some (AI x2), some (AI x3), some (AI x4), some (AI q4_5_0), some (AI q12_6_2), some (AI z_8), some (AI z_9), some (AI q98_9_240), some (AI 1), some (AI q98_11_240)]) rfl ?_
            refine s_iload E dX10_layCarry_98 rfl ?_
            refine s_aload_n E dX10_layCarry_100 rfl rfl ?_
            refine s_gR (r := 96) E fg_X10_9 rfl rfl (jv_lt hj_3 (by decide)) (jv_r hj_3 (by decide +kernel)) dX10_layCarry_101 ?_
            refine s_iconst (v := 0) E dX10_layCarry_104 (by decide) ?_
            refine s_iald E rfl (jv_lt hj_3 (by decide)) (z_in (u := 0) (by decide) (by omega) (by omega)) dX10_layCarry_105 ?_
            refine z_nm (P := fun z => z.toInt = (v12.2.2.1 96 0).toInt ∧ 0 ≤ z.toInt ∧ z.toInt ≤ 8) ⟨rfl, (rw_96_0 hj_3)⟩ (fun z_242 hz_242 => ?_)
            refine z_icmp_ge (tgt := 165) (u := q98_11_240.toInt) (v := z_242.toInt) E dX10_layCarry_106 (by decide) rfl rfl (fun h_243 => ?_) (fun h_243 => ?_)
            ·
              have hfin_ : q4_5_0.toInt < x4.toInt → ¬ (vp_nar .boolean q98_9_240).toInt = 0 → ∃ r_ th_ : Nat, (r_ : Int) < (w.2.2.1 96 0).toInt ∧ th_ ≤ 1 ∧ (th_ = 1 ↔ (z_9.toInt.toNat = 1 ∨ TKs w x1 x2 (z_8.toInt.toNat : Int) q4_5_0.toInt.toNat)) ∧ bsd w x2.toInt.toNat z_8.toInt.toNat r_ ∧ ¬ ((v12.2.2.1 109) (16 * (q4_5_0.toInt.toNat + 1) + 2 * r_ + th_)).toInt = 0 := fun g1_ g2_ => cr_fin (hl98.1 (nb_ne (z_bool (by omega) (by omega)) g2_) g1_) hth_ (by omega) (by omega) (by omega) (by omega) (by omega)
              refine s_aload_n E dX10_layCarry_165 rfl rfl ?_
              refine s_gR (r := 109) E fg_X10_55 rfl rfl (jv_lt hj_3 (by decide)) (jv_r hj_3 (by decide +kernel)) dX10_layCarry_166 ?_
              refine s_iload E dX10_layCarry_169 rfl ?_
              refine s_iload E dX10_layCarry_171 rfl ?_
              refine s_iload E dX10_layCarry_173 rfl ?_
              refine s_sI (As := [AI q4_5_0, AI z_8, AI z_9]) (S := [AR 109]) E (Z_X10_carryState l D aC b v12 q4_5_0 z_8 z_9 hj_3.1 ⟨by have hb_ := z32 q4_5_0; omega, by have hb_ := z32 q4_5_0; omega⟩ ⟨by have hb_ := z32 z_8; omega, by have hb_ := z32 z_8; omega⟩ ⟨by have hb_ := z32 z_9; omega, by have hb_ := z32 z_9; omega⟩) cs_X10_355 rfl rfl (Nat.le_of_ble_eq_true rfl) (Nat.le_of_ble_eq_true rfl) ⟨(Nat.le_of_ble_eq_true rfl), (Nat.le_of_ble_eq_true rfl)⟩ (Nat.le_of_ble_eq_true rfl) dX10_layCarry_175 (fun z_246 u_244 hp_245 => ?_)
              obtain ⟨hz_246, hxz_246, hp_245⟩ := hp_245
              subst hp_245
              refine s_iload E dX10_layCarry_178 rfl ?_
              refine s_zast E rfl (jv_lt hj_3 (by decide)) (z_in (u := z_246.toInt) rfl (by omega) (by omega)) dX10_layCarry_180 ?_
              have hj_249 : Jv w (upI v12 109 z_246.toNatClampNeg (vp_nar .boolean q98_9_240)) := (jv_b_109 hj_3 (z_bool (by omega) (by omega)))
              refine z_iinc (u := q12_6_2.toInt) (L2 := fun z_250 => [some (AR 95), some (AI x1), some (AI x2), some (AI x3), some (AI x4), some (AI q4_5_0), some (AI z_250), some (AI z_8), some (AI z_9), some (AI q98_9_240), some (AI 1), some (AI q98_11_240)]) E dX10_layCarry_181 rfl rfl (by decide) (fun _ => rfl) (by decide) (by omega) (by omega) (fun z_250 hz_250 => ?_)
              refine s_goto (tgt := 12) E dX10_layCarry_184 (by decide) ?_
              refine s_drop (i := 7) (L2 := [some (AR 95), some (AI x1), some (AI x2), some (AI x3), some (AI x4), some (AI q4_5_0), some (AI z_250), none, some (AI z_9), some (AI q98_9_240), some (AI 1), some (AI q98_11_240)]) rfl ?_
              refine s_drop (i := 8) (L2 := [some (AR 95), some (AI x1), some (AI x2), some (AI x3), some (AI x4), some (AI q4_5_0), some (AI z_250), none, none, some (AI q98_9_240), some (AI 1), some (AI q98_11_240)]) rfl ?_
              refine s_drop (i := 9) (L2 := [some (AR 95), some (AI x1), some (AI x2), some (AI x3), some (AI x4), some (AI q4_5_0), some (AI z_250), none, none, none, some (AI 1), some (AI q98_11_240)]) rfl ?_
              refine s_drop (i := 10) (L2 := [some (AR 95), some (AI x1), some (AI x2), some (AI x3), some (AI x4), some (AI q4_5_0), some (AI z_250), none, none, none, none, some (AI q98_11_240)]) rfl ?_
              refine s_drop (i := 11) (L2 := [some (AR 95), some (AI x1), some (AI x2), some (AI x3), some (AI x4), some (AI q4_5_0), some (AI z_250), none, none, none, none, none]) rfl ?_
              exact ih12 z_250 (upI v12 109 z_246.toNatClampNeg (vp_nar .boolean q98_9_240)) ⟨⟨by have hb_ := z32 z_250; omega, by have hb_ := z32 z_250; omega⟩, (ck_upW hN_ (by omega) hl12 (rm := z_8.toInt.toNat) (hs := z_9.toInt.toNat) (by omega) (by omega) (by omega) (by omega) (by omega) hfin_), ((upI_ne (show 95 ≠ 109 by decide)).trans hf12_95), ((upI_ne (show 96 ≠ 109 by decide)).trans hf12_96), ((upI_ne (show 102 ≠ 109 by decide)).trans hf12_102), ((upI_ne (show 103 ≠ 109 by decide)).trans hf12_103), ((upI_ne (show 106 ≠ 109 by decide)).trans hf12_106), hj_249⟩ (by first | omega | decide | (dsimp only; omega) | (dsimp only; decide))
            ·
              refine s_iload E dX10_layCarry_109 rfl ?_
              refine s_iload E dX10_layCarry_111 rfl ?_
              refine z_icmp_ge (tgt := 165) (u := q4_5_0.toInt) (v := x4.toInt) E dX10_layCarry_113 (by decide) rfl rfl (fun h_251 => ?_) (fun h_251 => ?_)
              ·
                have hfin_ : q4_5_0.toInt < x4.toInt → ¬ (vp_nar .boolean q98_9_240).toInt = 0 → ∃ r_ th_ : Nat, (r_ : Int) < (w.2.2.1 96 0).toInt ∧ th_ ≤ 1 ∧ (th_ = 1 ↔ (z_9.toInt.toNat = 1 ∨ TKs w x1 x2 (z_8.toInt.toNat : Int) q4_5_0.toInt.toNat)) ∧ bsd w x2.toInt.toNat z_8.toInt.toNat r_ ∧ ¬ ((v12.2.2.1 109) (16 * (q4_5_0.toInt.toNat + 1) + 2 * r_ + th_)).toInt = 0 := fun g1_ g2_ => cr_fin (hl98.1 (nb_ne (z_bool (by omega) (by omega)) g2_) g1_) hth_ (by omega) (by omega) (by omega) (by omega) (by omega)
                refine s_aload_n E dX10_layCarry_165 rfl rfl ?_
                refine s_gR (r := 109) E fg_X10_55 rfl rfl (jv_lt hj_3 (by decide)) (jv_r hj_3 (by decide +kernel)) dX10_layCarry_166 ?_
                refine s_iload E dX10_layCarry_169 rfl ?_
                refine s_iload E dX10_layCarry_171 rfl ?_
                refine s_iload E dX10_layCarry_173 rfl ?_
                refine s_sI (As := [AI q4_5_0, AI z_8, AI z_9]) (S := [AR 109]) E (Z_X10_carryState l D aC b v12 q4_5_0 z_8 z_9 hj_3.1 ⟨by have hb_ := z32 q4_5_0; omega, by have hb_ := z32 q4_5_0; omega⟩ ⟨by have hb_ := z32 z_8; omega, by have hb_ := z32 z_8; omega⟩ ⟨by have hb_ := z32 z_9; omega, by have hb_ := z32 z_9; omega⟩) cs_X10_355 rfl rfl (Nat.le_of_ble_eq_true rfl) (Nat.le_of_ble_eq_true rfl) ⟨(Nat.le_of_ble_eq_true rfl), (Nat.le_of_ble_eq_true rfl)⟩ (Nat.le_of_ble_eq_true rfl) dX10_layCarry_175 (fun z_254 u_252 hp_253 => ?_)
                obtain ⟨hz_254, hxz_254, hp_253⟩ := hp_253
                subst hp_253
                refine s_iload E dX10_layCarry_178 rfl ?_
                refine s_zast E rfl (jv_lt hj_3 (by decide)) (z_in (u := z_254.toInt) rfl (by omega) (by omega)) dX10_layCarry_180 ?_
                have hj_257 : Jv w (upI v12 109 z_254.toNatClampNeg (vp_nar .boolean q98_9_240)) := (jv_b_109 hj_3 (z_bool (by omega) (by omega)))
                refine z_iinc (u := q12_6_2.toInt) (L2 := fun z_258 => [some (AR 95), some (AI x1), some (AI x2), some (AI x3), some (AI x4), some (AI q4_5_0), some (AI z_258), some (AI z_8), some (AI z_9), some (AI q98_9_240), some (AI 1), some (AI q98_11_240)]) E dX10_layCarry_181 rfl rfl (by decide) (fun _ => rfl) (by decide) (by omega) (by omega) (fun z_258 hz_258 => ?_)
                refine s_goto (tgt := 12) E dX10_layCarry_184 (by decide) ?_
                refine s_drop (i := 7) (L2 := [some (AR 95), some (AI x1), some (AI x2), some (AI x3), some (AI x4), some (AI q4_5_0), some (AI z_258), none, some (AI z_9), some (AI q98_9_240), some (AI 1), some (AI q98_11_240)]) rfl ?_
                refine s_drop (i := 8) (L2 := [some (AR 95), some (AI x1), some (AI x2), some (AI x3), some (AI x4), some (AI q4_5_0), some (AI z_258), none, none, some (AI q98_9_240), some (AI 1), some (AI q98_11_240)]) rfl ?_
                refine s_drop (i := 9) (L2 := [some (AR 95), some (AI x1), some (AI x2), some (AI x3), some (AI x4), some (AI q4_5_0), some (AI z_258), none, none, none, some (AI 1), some (AI q98_11_240)]) rfl ?_
                refine s_drop (i := 10) (L2 := [some (AR 95), some (AI x1), some (AI x2), some (AI x3), some (AI x4), some (AI q4_5_0), some (AI z_258), none, none, none, none, some (AI q98_11_240)]) rfl ?_
                refine s_drop (i := 11) (L2 := [some (AR 95), some (AI x1), some (AI x2), some (AI x3), some (AI x4), some (AI q4_5_0), some (AI z_258), none, none, none, none, none]) rfl ?_
                exact ih12 z_258 (upI v12 109 z_254.toNatClampNeg (vp_nar .boolean q98_9_240)) ⟨⟨by have hb_ := z32 z_258; omega, by have hb_ := z32 z_258; omega⟩, (ck_upW hN_ (by omega) hl12 (rm := z_8.toInt.toNat) (hs := z_9.toInt.toNat) (by omega) (by omega) (by omega) (by omega) (by omega) hfin_), ((upI_ne (show 95 ≠ 109 by decide)).trans hf12_95), ((upI_ne (show 96 ≠ 109 by decide)).trans hf12_96), ((upI_ne (show 102 ≠ 109 by decide)).trans hf12_102), ((upI_ne (show 103 ≠ 109 by decide)).trans hf12_103), ((upI_ne (show 106 ≠ 109 by decide)).trans hf12_106), hj_257⟩ (by first | omega | decide | (dsimp only; omega) | (dsimp only; decide))
              ·
                refine s_iload E dX10_layCarry_116 rfl ?_
                refine z_if_ne (tgt := 152) (u := q98_9_240.toInt) E dX10_layCarry_118 (by decide) rfl (fun h_259 => ?_) (fun h_259 => absurd h_259 (by omega))
                refine s_iconst (v := 1) E dX10_layCarry_152 (by decide) ?_
                refine s_goto (tgt := 157) E dX10_layCarry_153 (by decide) ?_
                refine s_istore (L2 := [some (AR 95), some (AI x1), some (AI x2), some (AI x3), some (AI x4), some (AI q4_5_0), some (AI q12_6_2), some (AI z_8), some (AI z_9), some (AI 1), some (AI 1), some (AI q98_11_240)]) E dX10_layCarry_157 (by decide) rfl ?_
                refine z_iinc (u := q98_11_240.toInt) (L2 := fun z_260 => [some (AR 95), some (AI x1), some (AI x2), some (AI x3), some (AI x4), some (AI q4_5_0), some (AI q12_6_2), some (AI z_8), some (AI z_9), some (AI 1), some (AI 1), some (AI z_260)]) E dX10_layCarry_159 rfl rfl (by decide) (fun _ => rfl) (by decide) (by omega) (by omega) (fun z_260 hz_260 => ?_)
                refine s_goto (tgt := 98) E dX10_layCarry_162 (by decide) ?_
                exact ih98 ⟨1, z_260⟩ v12 ⟨⟨by decide, by decide⟩, ⟨by have hb_ := z32 z_260; omega, by have hb_ := z32 z_260; omega⟩, (⟨by first | exact fun h_ g_ => cr_old (hl98.1 (by omega) g_) (by omega) | exact fun h_ g_ => ⟨q98_11_240.toInt.toNat, by omega, hbs_.mp (by omega), by rw [← hi_]; omega⟩ | exact fun h_ => absurd h_ (by decide), by omega⟩), rfl⟩ (by first | omega | decide | (dsimp only; omega) | (dsimp only; decide))
