set_option maxRecDepth 20000 in
set_option maxHeartbeats 2000000 in
theorem Z_X10_layWalk_95 (l : Launch) (D : va_G) (aC : Nat → ClassId) (b : Nat) (w : XW) (x1 : Int32) (x2 : Int32) (x3 : Int32) (hI : Iv w) (hx1 : 0 ≤ x1.toInt ∧ x1.toInt ≤ 5) (hx2 : 0 ≤ x2.toInt ∧ x2.toInt ≤ 5) (hx3 : 0 ≤ x3.toInt ∧ x3.toInt ≤ 5) (hy_ : x2.toInt < (w.2.2.1 96 5).toInt) : CnI l D aC b M_X10_layWalk 5 117 0 0 [AR 95, AI x1, AI x2, AI x3] w (fun r u => ((-1) ≤ r.toInt ∧ r.toInt ≤ 14) ∧ Jv w u) := by
  refine cn_I (own := RX10) (nm := "layWalk") (L0 := [some (AR 95), some (AI x1), some (AI x2), some (AI x3), none, none, none, none, none]) (by decide +kernel) rfl rfl (Nat.le_of_ble_eq_true rfl) rfl ?_
  intro p e s m args below meth c E hin
  have hJ : Jv w w := jv_rfl hI
  refine s_aload_n E dX10_layWalk_0 rfl rfl ?_
  refine s_iconst (v := 1) E dX10_layWalk_1 (by decide) ?_
  refine s_iload_n E dX10_layWalk_2 rfl rfl ?_
  refine z_shl1 5 (u := x2.toInt) (B := 32) E dX10_layWalk_3 rfl (by omega) (by omega) (by decide) (by decide) (fun z_1 hz_1 => ?_)
  refine s_pI E fp_X10_264 (Or.inl rfl) rfl (jv_lt hJ (by decide)) dX10_layWalk_4 ?_
  refine s_gen (P := fun v => Jv w v ∧ (v.2.2.1 96 5).toInt = (w.2.2.1 96 5).toInt ∧ (v.2.2.1 96 0).toInt = (w.2.2.1 96 0).toInt) ⟨(jv_f_95_21 hJ (by have hb_ := z32 z_1; omega) (by have hb_ := z32 z_1; omega)), rfl, rfl⟩ (fun v_2 hj_3 => ?_)
  obtain ⟨hj_3, hk_4k0, hk_4k1⟩ := hj_3
  refine s_aload_n E dX10_layWalk_7 rfl rfl ?_
  refine s_iload_n E dX10_layWalk_8 rfl rfl ?_
  refine s_vI (As := [AI x1]) (S := []) E (Z_X10_goNote__95 l D aC b v_2 x1 hj_3.1 ⟨by have hb_ := z32 x1; omega, by have hb_ := z32 x1; omega⟩) cv_X10_338 rfl rfl rfl (jv_lt hj_3 (by decide)) (Nat.le_of_ble_eq_true rfl) (Nat.le_of_ble_eq_true rfl) ⟨(Nat.le_of_ble_eq_true rfl), (Nat.le_of_ble_eq_true rfl)⟩ (Nat.le_of_ble_eq_true rfl) dX10_layWalk_9 (fun z_7 u_5 hp_6 => ?_)
  obtain ⟨hz_7, hxz_7, hf_u_5_96, hp_6⟩ := hp_6
  have hj_8 := jv_trans hj_3 hp_6
  have hfa_96_5 := congrArg Int32.toInt (congrFun hf_u_5_96 5)
  have hfa_96_0 := congrArg Int32.toInt (congrFun hf_u_5_96 0)
  refine s_popI E dX10_layWalk_12 ?_
  refine s_iload_n E dX10_layWalk_13 rfl rfl ?_
  refine s_iload_n E dX10_layWalk_14 rfl rfl ?_
  refine z_icmp_ne (tgt := 22) (u := x1.toInt) (v := x2.toInt) E dX10_layWalk_15 (by decide) rfl rfl (fun h_9 => ?_) (fun h_9 => ?_)
  ·
    refine s_iconst (v := 0) E dX10_layWalk_22 (by decide) ?_
    refine s_istore (L2 := [some (AR 95), some (AI x1), some (AI x2), some (AI x3), some (AI 0), none, none, none, none]) E dX10_layWalk_23 (by decide) rfl ?_
    refine s_aload_n E dX10_layWalk_25 rfl rfl ?_
    refine s_gR (r := 96) E fg_X10_9 rfl rfl (jv_lt hj_8 (by decide)) (jv_r hj_8 (by decide +kernel)) dX10_layWalk_26 ?_
    refine s_bipush (v := 46) E dX10_layWalk_29 (by decide) ?_
    refine s_iconst (v := 2) E dX10_layWalk_31 (by decide) ?_
    refine s_iload_n E dX10_layWalk_32 rfl rfl ?_
    refine z_imul (u := 2) (v := x2.toInt) E dX10_layWalk_33 (by decide) rfl (by omega) (by omega) (fun z_10 hz_10 => ?_)
    refine z_iadd (u := 46) (v := z_10.toInt) E dX10_layWalk_34 (by decide) rfl (by omega) (by omega) (fun z_11 hz_11 => ?_)
    have hi_ : z_11.toNatClampNeg = 46 + 2 * x2.toInt.toNat := by have e_ : z_11.toNatClampNeg = z_11.toInt.toNat := rfl; omega
    refine s_iald E rfl (jv_lt hj_8 (by decide)) (z_in (u := z_11.toInt) rfl (by omega) (by omega)) dX10_layWalk_35 ?_
    refine z_nm (P := fun z => z.toInt = (u_5.2.2.1 96 z_11.toNatClampNeg).toInt ∧ 0 ≤ z.toInt ∧ z.toInt ≤ 7) ⟨rfl, (rs_v hj_8 (by decide) 0 7 46 56 2 z_11 z_11.toInt (by decide +kernel) rfl (by omega) (by omega) (by omega))⟩ (fun z_12 hz_12 => ?_)
    refine s_istore (L2 := [some (AR 95), some (AI x1), some (AI x2), some (AI x3), some (AI 0), some (AI z_12), none, none, none]) E dX10_layWalk_36 (by decide) rfl ?_
    have hN_ := rw_96_0 hj_8
    have hrm_ : z_12.toInt < (u_5.2.2.1 96 0).toInt := by have q_ := jv_room hj_8 x2.toInt.toNat (by omega) (by omega); rw [← hi_] at q_; omega
    refine s_iconst (v := 0) E dX10_layWalk_38 (by decide) ?_
    refine s_istore (L2 := [some (AR 95), some (AI x1), some (AI x2), some (AI x3), some (AI 0), some (AI z_12), some (AI 0), none, none]) E dX10_layWalk_39 (by decide) rfl ?_
    refine s_aload_n E dX10_layWalk_41 rfl rfl ?_
    refine s_iload_n E dX10_layWalk_42 rfl rfl ?_
    refine s_iload_n E dX10_layWalk_43 rfl rfl ?_
    refine s_iload_n E dX10_layWalk_44 rfl rfl ?_
    refine s_iload E dX10_layWalk_45 rfl ?_
    refine s_vV (As := [AI x1, AI x2, AI x3, AI 0]) (S := []) E (Z_X10_layCarry_95 l D aC b u_5 x1 x2 x3 0 hj_8.1 ⟨by have hb_ := z32 x1; omega, by have hb_ := z32 x1; omega⟩ ⟨by have hb_ := z32 x2; omega, by have hb_ := z32 x2; omega⟩ ⟨by have hb_ := z32 x3; omega, by have hb_ := z32 x3; omega⟩ (by decide)) cv_X10_358 rfl rfl rfl (jv_lt hj_8 (by decide)) (Nat.le_of_ble_eq_true rfl) (Nat.le_of_ble_eq_true rfl) ⟨(Nat.le_of_ble_eq_true rfl), (Nat.le_of_ble_eq_true rfl)⟩ (Nat.le_of_ble_eq_true rfl) dX10_layWalk_47 (fun u_13 hp_14 => ?_)
    have hc_ : (0 : Int32).toInt = 0 := by decide
    obtain ⟨hx_hp_14, hf_u_13_95, hf_u_13_96, hf_u_13_102, hf_u_13_103, hf_u_13_106, hp_14⟩ := hp_14
    have hj_15 := jv_trans hj_8 hp_14
    have hfa_96_5 := congrArg Int32.toInt (congrFun hf_u_13_96 5)
    have hfa_96_0 := congrArg Int32.toInt (congrFun hf_u_13_96 0)
    have hF47_ : Frm u_13 u_5 := ⟨hf_u_13_95, hf_u_13_96, hf_u_13_102, hf_u_13_103, hf_u_13_106⟩
    have hC47_ := hx_hp_14
    refine z_loop (St := Int32) (Pi := fun q50_6_15 v50 => (0 ≤ q50_6_15.toInt ∧ q50_6_15.toInt ≤ 14) ∧ (Frm v50 u_5 ∧ CG u_5 (v50.2.2.1 109) x1 x2 q50_6_15.toInt 0) ∧ Jv w v50) (Lf := fun q50_6_15 => [some (AR 95), some (AI x1), some (AI x2), some (AI x3), some (AI 0), some (AI z_12), some (AI q50_6_15), none, none]) (fun q50_6_15 _ => (15 - q50_6_15.toInt).toNat) 0 ⟨⟨by decide, by decide⟩, (⟨hF47_, hC47_⟩), hj_15⟩ ?_
    rintro q50_6_15 v50 ⟨hq50_6, hl50, hj_16⟩ ih50
    refine s_loc (L2 := [some (AR 95), some (AI x1), some (AI x2), some (AI x3), some (AI 0), some (AI z_12), some (AI q50_6_15), none, none]) rfl ?_
    refine s_iload E dX10_layWalk_50 rfl ?_
    refine s_aload_n E dX10_layWalk_52 rfl rfl ?_
    refine s_vI (As := []) (S := [AI q50_6_15]) E (Z_X10_dances_95 l D aC b v50  hj_16.1 ) cv_X10_247 rfl rfl rfl (jv_lt hj_16 (by decide)) (Nat.le_of_ble_eq_true rfl) (Nat.le_of_ble_eq_true rfl) ⟨(Nat.le_of_ble_eq_true rfl), (Nat.le_of_ble_eq_true rfl)⟩ (Nat.le_of_ble_eq_true rfl) dX10_layWalk_53 (fun z_19 u_17 hp_18 => ?_)
    obtain ⟨hz_19, hxz_19, hp_18⟩ := hp_18
    subst hp_18
    refine z_icmp_ge (tgt := 90) (u := q50_6_15.toInt) (v := z_19.toInt) E dX10_layWalk_56 (by decide) rfl rfl (fun h_21 => ?_) (fun h_21 => ?_)
    ·
      refine s_aload_n E dX10_layWalk_90 rfl rfl ?_
      refine s_gR (r := 109) E fg_X10_55 rfl rfl (jv_lt hj_16 (by decide)) (jv_r hj_16 (by decide +kernel)) dX10_layWalk_91 ?_
      refine s_iconst (v := 0) E dX10_layWalk_94 (by decide) ?_
      refine s_iload E dX10_layWalk_95 rfl ?_
      refine s_iload E dX10_layWalk_97 rfl ?_
      refine s_sI (As := [AI 0, AI z_12, AI 0]) (S := [AR 109]) E (Z_X10_carryState l D aC b v50 0 z_12 0 hj_16.1 (by decide) ⟨by have hb_ := z32 z_12; omega, by have hb_ := z32 z_12; omega⟩ (by decide)) cs_X10_355 rfl rfl (Nat.le_of_ble_eq_true rfl) (Nat.le_of_ble_eq_true rfl) ⟨(Nat.le_of_ble_eq_true rfl), (Nat.le_of_ble_eq_true rfl)⟩ (Nat.le_of_ble_eq_true rfl) dX10_layWalk_99 (fun z_24 u_22 hp_23 => ?_)
      obtain ⟨hz_24, hxz_24, hp_23⟩ := hp_23
      have hc_ : (0 : Int32).toInt = 0 := by decide
      have hc_ : (0 : Int32).toInt = 0 := by decide
      subst hp_23
      have hi2_ : z_24.toInt = 16 * ((0 : Nat) : Int) + 2 * z_12.toInt + (0 : Int32).toInt := by omega
      have hc0_ : (0 : Int32).toInt = 0 := (by decide)
      have hc1_ : (1 : Int32).toInt = 1 := (by decide)
      refine s_zald E rfl (jv_lt hj_16 (by decide)) (z_in (u := z_24.toInt) rfl (by omega) (by omega)) dX10_layWalk_102 ?_
      refine z_nm (P := fun z => z.toInt = (v50.2.2.1 109 z_24.toNatClampNeg).toInt ∧ 0 ≤ z.toInt ∧ z.toInt ≤ 1) ⟨rfl, (ra_109 hj_16 _)⟩ (fun z_26 hz_26 => ?_)
      have hs_ := ly_at (f := v50.2.2.1 109) (a := z_26) hi2_ (by omega) (by omega) (by omega)
      refine z_if_ne (tgt := 108) (u := z_26.toInt) E dX10_layWalk_103 (by decide) rfl (fun h_27 => ?_) (fun h_27 => ?_)
      ·
        have hcg_ := hl50.2
        have hfm_ := hl50.1
        have hz0_ : (0 : Int32).toInt = 0 := (by decide)
        refine s_iconst (v := 0) E dX10_layWalk_108 (by decide) ?_
        refine s_istore (L2 := [some (AR 95), some (AI x1), some (AI x2), some (AI x3), some (AI 0), some (AI z_12), some (AI q50_6_15), some (AI 0), none]) E dX10_layWalk_109 (by decide) rfl ?_
        refine z_loop (St := Int32 × Int32 × Int32) (Pi := fun ⟨q111_4_27, q111_5_27, q111_7_27⟩ v111 => (0 ≤ q111_4_27.toInt ∧ q111_4_27.toInt ≤ 1) ∧ (0 ≤ q111_5_27.toInt ∧ q111_5_27.toInt ≤ 7) ∧ (0 ≤ q111_7_27.toInt ∧ q111_7_27.toInt ≤ 64) ∧ ((v111.2.2.1 109) = (v50.2.2.1 109) ∧ Frm v111 u_5 ∧ q111_5_27.toInt < (u_5.2.2.1 96 0).toInt ∧ (q111_7_27.toInt ≤ q50_6_15.toInt → ¬ (v50.2.2.1 109 (16 * q111_7_27.toInt.toNat + 2 * q111_5_27.toInt.toNat + q111_4_27.toInt.toNat)).toInt = 0)) ∧ Jv w v111) (Lf := fun ⟨q111_4_27, q111_5_27, q111_7_27⟩ => [some (AR 95), some (AI x1), some (AI x2), some (AI x3), some (AI q111_4_27), some (AI q111_5_27), some (AI q50_6_15), some (AI q111_7_27), none]) (fun ⟨q111_4_27, q111_5_27, q111_7_27⟩ _ => (65 - q111_7_27.toInt).toNat) ⟨0, z_12, 0⟩ ⟨⟨by decide, by decide⟩, ⟨by have hb_ := z32 z_12; omega, by have hb_ := z32 z_12; omega⟩, ⟨by decide, by decide⟩, (⟨rfl, hfm_, by omega, fun _ h_ => by rw [show 16 * (0 : Int32).toInt.toNat = 16 * 0 by decide] at h_; omega⟩), hj_16⟩ ?_
        rintro ⟨q111_4_27, q111_5_27, q111_7_27⟩ v111 ⟨hq111_4, hq111_5, hq111_7, hl111, hj_28⟩ ih111
        refine s_loc (L2 := [some (AR 95), some (AI x1), some (AI x2), some (AI x3), some (AI q111_4_27), some (AI q111_5_27), some (AI q50_6_15), some (AI q111_7_27), none]) rfl ?_
        refine s_iload E dX10_layWalk_111 rfl ?_
        refine s_aload_n E dX10_layWalk_113 rfl rfl ?_
        refine s_vI (As := []) (S := [AI q111_7_27]) E (Z_X10_dances_95 l D aC b v111  hj_28.1 ) cv_X10_247 rfl rfl rfl (jv_lt hj_28 (by decide)) (Nat.le_of_ble_eq_true rfl) (Nat.le_of_ble_eq_true rfl) ⟨(Nat.le_of_ble_eq_true rfl), (Nat.le_of_ble_eq_true rfl)⟩ (Nat.le_of_ble_eq_true rfl) dX10_layWalk_114 (fun z_31 u_29 hp_30 => ?_)
        obtain ⟨hz_31, hxz_31, hp_30⟩ := hp_30
        subst hp_30
        refine z_icmp_gt (tgt := 215) (u := q111_7_27.toInt) (v := z_31.toInt) E dX10_layWalk_117 (by decide) rfl rfl (fun h_33 => ?_) (fun h_33 => ?_)
        ·
          refine s_iload E dX10_layWalk_215 rfl ?_
          exact r_int E dX10_layWalk_217 ⟨⟨by have hb_ := z32 q50_6_15; omega, by have hb_ := z32 q50_6_15; omega⟩, hj_28⟩
        ·
          refine s_aload_n E dX10_layWalk_120 rfl rfl ?_
          refine s_gR (r := 110) E fg_X10_58 rfl rfl (jv_lt hj_28 (by decide)) (jv_r hj_28 (by decide +kernel)) dX10_layWalk_121 ?_
          refine s_iload E dX10_layWalk_124 rfl ?_
          refine s_iload E dX10_layWalk_126 rfl ?_
          refine s_iast E rfl (jv_lt hj_28 (by decide)) (z_in (u := q111_7_27.toInt) rfl (by omega) (by omega)) dX10_layWalk_128 ?_
          have hj_35 : Jv w (upI v111 110 q111_7_27.toNatClampNeg q111_5_27) := (jv_a_110 hj_28 (by have hb_ := z32 q111_5_27; omega) (by have hb_ := z32 q111_5_27; omega))
          have hke_ : ((upI v111 110 q111_7_27.toNatClampNeg q111_5_27).2.2.1 96 5).toInt = (v111.2.2.1 96 5).toInt := rfl
          have hke_ : ((upI v111 110 q111_7_27.toNatClampNeg q111_5_27).2.2.1 96 0).toInt = (v111.2.2.1 96 0).toInt := rfl
          refine s_iload E dX10_layWalk_129 rfl ?_
          refine s_iload E dX10_layWalk_131 rfl ?_
          refine z_icmp_lt (tgt := 139) (u := q111_7_27.toInt) (v := q50_6_15.toInt) E dX10_layWalk_133 (by decide) rfl rfl (fun h_36 => ?_) (fun h_36 => ?_)
          ·
            refine s_iload E dX10_layWalk_139 rfl ?_
            refine s_iconst (v := 1) E dX10_layWalk_141 (by decide) ?_
            refine z_icmp_eq (tgt := 158) (u := q111_4_27.toInt) (v := 1) E dX10_layWalk_142 (by decide) rfl (by decide) (fun h_37 => ?_) (fun h_37 => ?_)
            ·
              refine s_iconst (v := 1) E dX10_layWalk_158 (by decide) ?_
              refine s_goto (tgt := 163) E dX10_layWalk_159 (by decide) ?_
              refine s_istore (L2 := [some (AR 95), some (AI x1), some (AI x2), some (AI x3), some (AI 1), some (AI q111_5_27), some (AI q50_6_15), some (AI q111_7_27), none]) E dX10_layWalk_163 (by decide) rfl ?_
              have hth_ : (1 : Int32).toInt = 1 ↔ ((q111_4_27 : Int32).toInt = 1 ∨ TKs u_5 x1 x2 q111_5_27.toInt q111_7_27.toInt.toNat) := by first | exact ⟨fun _ => Or.inl (by omega), fun _ => by decide⟩ | exact ⟨fun _ => Or.inr (hk_.mp (by omega)), fun _ => by decide⟩ | exact ⟨fun h_ => absurd h_ (by decide), fun h_ => h_.elim (fun g_ => by omega) (fun g_ => absurd (hk_.mpr g_) (by omega))⟩
              obtain ⟨cw, tw, cw1, cw2, cw3, cw4, cw5⟩ := hcg_ q111_7_27.toInt.toNat q111_5_27.toInt.toNat q111_4_27.toInt.toNat (by omega) (by omega) (by omega) (by omega) (hl111.2.2.2 (by omega))
              have hN2_ : (u_5.2.2.1 96 0).toInt ≤ 8 := by omega
              have tw_ : tw = (1 : Int32).toInt.toNat := tw_eq cw2 cw3 hth_ (by omega) ⟨by omega, by omega⟩ (by first | omega | decide) (by first | omega | decide)
              refine s_iconst (v := 0) E dX10_layWalk_165 (by decide) ?_
              refine s_istore (L2 := [some (AR 95), some (AI x1), some (AI x2), some (AI x3), some (AI 1), some (AI q111_5_27), some (AI q50_6_15), some (AI q111_7_27), some (AI 0)]) E dX10_layWalk_166 (by decide) rfl ?_
              refine z_loop (St := Int32) (Pi := fun q168_8_37 v168 => (0 ≤ q168_8_37.toInt ∧ q168_8_37.toInt ≤ 7) ∧ (q168_8_37.toInt ≤ (cw : Int)) ∧ (upI v111 110 q111_7_27.toNatClampNeg q111_5_27) = v168) (Lf := fun q168_8_37 => [some (AR 95), some (AI x1), some (AI x2), some (AI x3), some (AI 1), some (AI q111_5_27), some (AI q50_6_15), some (AI q111_7_27), some (AI q168_8_37)]) (fun q168_8_37 _ => ((cw : Int) + 1 - q168_8_37.toInt).toNat) 0 ⟨⟨by decide, by decide⟩, (by have h0_ : (0 : Int32).toInt = 0 := (by decide); omega), rfl⟩ ?_
              rintro q168_8_37 v168 ⟨hq168_8, hl168, hv_⟩ ih168
              subst hv_
              refine s_loc (L2 := [some (AR 95), some (AI x1), some (AI x2), some (AI x3), some (AI 1), some (AI q111_5_27), some (AI q50_6_15), some (AI q111_7_27), some (AI q168_8_37)]) rfl ?_
              refine s_aload_n E dX10_layWalk_168 rfl rfl ?_
              refine s_iload_n E dX10_layWalk_169 rfl rfl ?_
              refine s_iload E dX10_layWalk_170 rfl ?_
              refine s_iload E dX10_layWalk_172 rfl ?_
              refine s_vI (As := [AI x2, AI q111_5_27, AI q168_8_37]) (S := []) E (Z_X10_isBeside_95 l D aC b (upI v111 110 q111_7_27.toNatClampNeg q111_5_27) x2 q111_5_27 q168_8_37 hj_35.1 ⟨by have hb_ := z32 x2; omega, by have hb_ := z32 x2; omega⟩ ⟨by have hb_ := z32 q111_5_27; omega, by have hb_ := z32 q111_5_27; omega⟩ ⟨by have hb_ := z32 q168_8_37; omega, by have hb_ := z32 q168_8_37; omega⟩) cv_X10_352 rfl rfl rfl (jv_lt hj_35 (by decide)) (Nat.le_of_ble_eq_true rfl) (Nat.le_of_ble_eq_true rfl) ⟨(Nat.le_of_ble_eq_true rfl), (Nat.le_of_ble_eq_true rfl)⟩ (Nat.le_of_ble_eq_true rfl) dX10_layWalk_174 (fun z_41 u_39 hp_40 => ?_)
              obtain ⟨hz_41, hxz_41, hp_40⟩ := hp_40
              subst hp_40
              have hbs_ := frm_bs (frm_up hl111.2.1) hxz_41
              refine z_if_eq (tgt := 199) (u := z_41.toInt) E dX10_layWalk_177 (by decide) rfl (fun h_43 => ?_) (fun h_43 => ?_)
              ·
                have hne_ : ¬ q168_8_37.toInt.toNat = cw := by first | (intro e_; subst e_; have := hbs_.mpr cw4; omega) | (intro e_; subst e_; subst tw_; omega)
                have hne2_ : ¬ q168_8_37.toInt = (cw : Int) := by omega
                refine z_iinc (u := q168_8_37.toInt) (L2 := fun z_44 => [some (AR 95), some (AI x1), some (AI x2), some (AI x3), some (AI 1), some (AI q111_5_27), some (AI q50_6_15), some (AI q111_7_27), some (AI z_44)]) E dX10_layWalk_199 rfl rfl (by decide) (fun _ => rfl) (by decide) (by omega) (by omega) (fun z_44 hz_44 => ?_)
                refine s_goto (tgt := 168) E dX10_layWalk_202 (by decide) ?_
                exact ih168 z_44 (upI v111 110 q111_7_27.toNatClampNeg q111_5_27) ⟨⟨by have hb_ := z32 z_44; omega, by have hb_ := z32 z_44; omega⟩, (by omega), rfl⟩ (by first | omega | decide | (dsimp only; omega) | (dsimp only; decide))
              ·
                refine s_aload_n E dX10_layWalk_180 rfl rfl ?_
                refine s_gR (r := 109) E fg_X10_55 rfl rfl (jv_lt hj_35 (by decide)) (jv_r hj_35 (by decide +kernel)) dX10_layWalk_181 ?_
                refine s_iload E dX10_layWalk_184 rfl ?_
                refine s_iconst (v := 1) E dX10_layWalk_186 (by decide) ?_
                refine z_iadd (u := q111_7_27.toInt) (v := 1) E dX10_layWalk_187 rfl (by decide) (by omega) (by omega) (fun z_45 hz_45 => ?_)
                refine s_iload E dX10_layWalk_188 rfl ?_
                refine s_iload E dX10_layWalk_190 rfl ?_
                refine s_sI (As := [AI z_45, AI q168_8_37, AI 1]) (S := [AR 109]) E (Z_X10_carryState l D aC b (upI v111 110 q111_7_27.toNatClampNeg q111_5_27) z_45 q168_8_37 1 hj_35.1 ⟨by have hb_ := z32 z_45; omega, by have hb_ := z32 z_45; omega⟩ ⟨by have hb_ := z32 q168_8_37; omega, by have hb_ := z32 q168_8_37; omega⟩ (by decide)) cs_X10_355 rfl rfl (Nat.le_of_ble_eq_true rfl) (Nat.le_of_ble_eq_true rfl) ⟨(Nat.le_of_ble_eq_true rfl), (Nat.le_of_ble_eq_true rfl)⟩ (Nat.le_of_ble_eq_true rfl) dX10_layWalk_192 (fun z_48 u_46 hp_47 => ?_)
                obtain ⟨hz_48, hxz_48, hp_47⟩ := hp_47
                have hc_ : (1 : Int32).toInt = 1 := by decide
                subst hp_47
                have hi3_ : z_48.toInt = 16 * ((q111_7_27.toInt.toNat + 1 : Nat) : Int) + 2 * q168_8_37.toInt + (1 : Int32).toInt := by omega
                refine s_zald E rfl (jv_lt hj_35 (by decide)) (z_in (u := z_48.toInt) rfl (by omega) (by omega)) dX10_layWalk_195 ?_
                refine z_nm (P := fun z => z.toInt = ((upI v111 110 q111_7_27.toNatClampNeg q111_5_27).2.2.1 109 z_48.toNatClampNeg).toInt ∧ 0 ≤ z.toInt ∧ z.toInt ≤ 1) ⟨rfl, (ra_109 hj_35 _)⟩ (fun z_50 hz_50 => ?_)
                have hv_ := (ly_at (f := (upI v111 110 q111_7_27.toNatClampNeg q111_5_27).2.2.1 109) (a := z_50) hi3_ (by omega) (by first | omega | decide) (by omega)).trans (congrArg (fun f_ : Nat → Int32 => (f_ (16 * (q111_7_27.toInt.toNat + 1) + 2 * q168_8_37.toInt.toNat + (1 : Int32).toInt.toNat)).toInt) ((upI_ne (by decide)).trans hl111.1))
                refine z_if_ne (tgt := 205) (u := z_50.toInt) E dX10_layWalk_196 (by decide) rfl (fun h_51 => ?_) (fun h_51 => ?_)
                ·
                  have hnx_ : ¬ (v50.2.2.1 109 (16 * (q111_7_27.toInt.toNat + 1) + 2 * q168_8_37.toInt.toNat + (1 : Int32).toInt.toNat)).toInt = 0 := by omega
                  refine s_iload E dX10_layWalk_205 rfl ?_
                  refine s_istore (L2 := [some (AR 95), some (AI x1), some (AI x2), some (AI x3), some (AI 1), some (AI q168_8_37), some (AI q50_6_15), some (AI q111_7_27), some (AI q168_8_37)]) E dX10_layWalk_207 (by decide) rfl ?_
                  refine z_iinc (u := q111_7_27.toInt) (L2 := fun z_52 => [some (AR 95), some (AI x1), some (AI x2), some (AI x3), some (AI 1), some (AI q168_8_37), some (AI q50_6_15), some (AI z_52), some (AI q168_8_37)]) E dX10_layWalk_209 rfl rfl (by decide) (fun _ => rfl) (by decide) (by omega) (by omega) (fun z_52 hz_52 => ?_)
                  refine s_goto (tgt := 111) E dX10_layWalk_212 (by decide) ?_
                  refine s_drop (i := 8) (L2 := [some (AR 95), some (AI x1), some (AI x2), some (AI x3), some (AI 1), some (AI q168_8_37), some (AI q50_6_15), some (AI z_52), none]) rfl ?_
                  exact ih111 ⟨1, q168_8_37, z_52⟩ (upI v111 110 q111_7_27.toNatClampNeg q111_5_27) ⟨⟨by decide, by decide⟩, ⟨by have hb_ := z32 q168_8_37; omega, by have hb_ := z32 q168_8_37; omega⟩, ⟨by have hb_ := z32 z_52; omega, by have hb_ := z32 z_52; omega⟩, (⟨(upI_ne (by decide)).trans hl111.1, frm_up hl111.2.1, by omega, by first | (intro h_; exfalso; omega) | exact fun _ => (by have e7_ : z_52.toInt.toNat = q111_7_27.toInt.toNat + 1 := (by omega); rw [e7_]; exact hnx_)⟩), hj_35⟩ (by first | omega | decide | (dsimp only; omega) | (dsimp only; decide))
                ·
                  have hne_ : ¬ q168_8_37.toInt.toNat = cw := by first | (intro e_; subst e_; have := hbs_.mpr cw4; omega) | (intro e_; subst e_; subst tw_; omega)
                  have hne2_ : ¬ q168_8_37.toInt = (cw : Int) := by omega
                  refine z_iinc (u := q168_8_37.toInt) (L2 := fun z_53 => [some (AR 95), some (AI x1), some (AI x2), some (AI x3), some (AI 1), some (AI q111_5_27), some (AI q50_6_15), some (AI q111_7_27), some (AI z_53)]) E dX10_layWalk_199 rfl rfl (by decide) (fun _ => rfl) (by decide) (by omega) (by omega) (fun z_53 hz_53 => ?_)
                  refine s_goto (tgt := 168) E dX10_layWalk_202 (by decide) ?_
                  exact ih168 z_53 (upI v111 110 q111_7_27.toNatClampNeg q111_5_27) ⟨⟨by have hb_ := z32 z_53; omega, by have hb_ := z32 z_53; omega⟩, (by omega), rfl⟩ (by first | omega | decide | (dsimp only; omega) | (dsimp only; decide))
            ·
              refine s_aload_n E dX10_layWalk_145 rfl rfl ?_
              refine s_iload_n E dX10_layWalk_146 rfl rfl ?_
              refine s_iload_n E dX10_layWalk_147 rfl rfl ?_
              refine s_iload E dX10_layWalk_148 rfl ?_
              refine s_iload E dX10_layWalk_150 rfl ?_
              refine s_vI (As := [AI x1, AI x2, AI q111_5_27, AI q111_7_27]) (S := []) E (Z_X10_takesIn_95 l D aC b (upI v111 110 q111_7_27.toNatClampNeg q111_5_27) x1 x2 q111_5_27 q111_7_27 hj_35.1 ⟨by have hb_ := z32 x1; omega, by have hb_ := z32 x1; omega⟩ ⟨by have hb_ := z32 x2; omega, by have hb_ := z32 x2; omega⟩ ⟨by have hb_ := z32 q111_5_27; omega, by have hb_ := z32 q111_5_27; omega⟩ ⟨by have hb_ := z32 q111_7_27; omega, by have hb_ := z32 q111_7_27; omega⟩) cv_X10_348 rfl rfl rfl (jv_lt hj_35 (by decide)) (Nat.le_of_ble_eq_true rfl) (Nat.le_of_ble_eq_true rfl) ⟨(Nat.le_of_ble_eq_true rfl), (Nat.le_of_ble_eq_true rfl)⟩ (Nat.le_of_ble_eq_true rfl) dX10_layWalk_152 (fun z_56 u_54 hp_55 => ?_)
              obtain ⟨hz_56, hxz_56, hp_55⟩ := hp_55
              subst hp_55
              have hk_ := frm_tk (frm_up hl111.2.1) hxz_56
              refine z_if_eq (tgt := 162) (u := z_56.toInt) E dX10_layWalk_155 (by decide) rfl (fun h_58 => ?_) (fun h_58 => ?_)
              ·
                refine s_iconst (v := 0) E dX10_layWalk_162 (by decide) ?_
                refine s_istore (L2 := [some (AR 95), some (AI x1), some (AI x2), some (AI x3), some (AI 0), some (AI q111_5_27), some (AI q50_6_15), some (AI q111_7_27), none]) E dX10_layWalk_163 (by decide) rfl ?_
                have hth_ : (0 : Int32).toInt = 1 ↔ ((q111_4_27 : Int32).toInt = 1 ∨ TKs u_5 x1 x2 q111_5_27.toInt q111_7_27.toInt.toNat) := by first | exact ⟨fun _ => Or.inl (by omega), fun _ => by decide⟩ | exact ⟨fun _ => Or.inr (hk_.mp (by omega)), fun _ => by decide⟩ | exact ⟨fun h_ => absurd h_ (by decide), fun h_ => h_.elim (fun g_ => by omega) (fun g_ => absurd (hk_.mpr g_) (by omega))⟩
                obtain ⟨cw, tw, cw1, cw2, cw3, cw4, cw5⟩ := hcg_ q111_7_27.toInt.toNat q111_5_27.toInt.toNat q111_4_27.toInt.toNat (by omega) (by omega) (by omega) (by omega) (hl111.2.2.2 (by omega))
                have hN2_ : (u_5.2.2.1 96 0).toInt ≤ 8 := by omega
                have tw_ : tw = (0 : Int32).toInt.toNat := tw_eq cw2 cw3 hth_ (by omega) ⟨by omega, by omega⟩ (by first | omega | decide) (by first | omega | decide)
                refine s_iconst (v := 0) E dX10_layWalk_165 (by decide) ?_
                refine s_istore (L2 := [some (AR 95), some (AI x1), some (AI x2), some (AI x3), some (AI 0), some (AI q111_5_27), some (AI q50_6_15), some (AI q111_7_27), some (AI 0)]) E dX10_layWalk_166 (by decide) rfl ?_
                refine z_loop (St := Int32) (Pi := fun q168_8_58 v168 => (0 ≤ q168_8_58.toInt ∧ q168_8_58.toInt ≤ 7) ∧ (q168_8_58.toInt ≤ (cw : Int)) ∧ (upI v111 110 q111_7_27.toNatClampNeg q111_5_27) = v168) (Lf := fun q168_8_58 => [some (AR 95), some (AI x1), some (AI x2), some (AI x3), some (AI 0), some (AI q111_5_27), some (AI q50_6_15), some (AI q111_7_27), some (AI q168_8_58)]) (fun q168_8_58 _ => ((cw : Int) + 1 - q168_8_58.toInt).toNat) 0 ⟨⟨by decide, by decide⟩, (by have h0_ : (0 : Int32).toInt = 0 := (by decide); omega), rfl⟩ ?_
                rintro q168_8_58 v168 ⟨hq168_8, hl168, hv_⟩ ih168
                subst hv_
                refine s_loc (L2 := [some (AR 95), some (AI x1), some (AI x2), some (AI x3), some (AI 0), some (AI q111_5_27), some (AI q50_6_15), some (AI q111_7_27), some (AI q168_8_58)]) rfl ?_
                refine s_aload_n E dX10_layWalk_168 rfl rfl ?_
                refine s_iload_n E dX10_layWalk_169 rfl rfl ?_
                refine s_iload E dX10_layWalk_170 rfl ?_
                refine s_iload E dX10_layWalk_172 rfl ?_
                refine s_vI (As := [AI x2, AI q111_5_27, AI q168_8_58]) (S := []) E (Z_X10_isBeside_95 l D aC b (upI v111 110 q111_7_27.toNatClampNeg q111_5_27) x2 q111_5_27 q168_8_58 hj_35.1 ⟨by have hb_ := z32 x2; omega, by have hb_ := z32 x2; omega⟩ ⟨by have hb_ := z32 q111_5_27; omega, by have hb_ := z32 q111_5_27; omega⟩ ⟨by have hb_ := z32 q168_8_58; omega, by have hb_ := z32 q168_8_58; omega⟩) cv_X10_352 rfl rfl rfl (jv_lt hj_35 (by decide)) (Nat.le_of_ble_eq_true rfl) (Nat.le_of_ble_eq_true rfl) ⟨(Nat.le_of_ble_eq_true rfl), (Nat.le_of_ble_eq_true rfl)⟩ (Nat.le_of_ble_eq_true rfl) dX10_layWalk_174 (fun z_62 u_60 hp_61 => ?_)
                obtain ⟨hz_62, hxz_62, hp_61⟩ := hp_61
                subst hp_61
                have hbs_ := frm_bs (frm_up hl111.2.1) hxz_62
                refine z_if_eq (tgt := 199) (u := z_62.toInt) E dX10_layWalk_177 (by decide) rfl (fun h_64 => ?_) (fun h_64 => ?_)
                ·
                  have hne_ : ¬ q168_8_58.toInt.toNat = cw := by first | (intro e_; subst e_; have := hbs_.mpr cw4; omega) | (intro e_; subst e_; subst tw_; omega)
                  have hne2_ : ¬ q168_8_58.toInt = (cw : Int) := by omega
                  refine z_iinc (u := q168_8_58.toInt) (L2 := fun z_65 => [some (AR 95), some (AI x1), some (AI x2), some (AI x3), some (AI 0), some (AI q111_5_27), some (AI q50_6_15), some (AI q111_7_27), some (AI z_65)]) E dX10_layWalk_199 rfl rfl (by decide) (fun _ => rfl) (by decide) (by omega) (by omega) (fun z_65 hz_65 => ?_)
                  refine s_goto (tgt := 168) E dX10_layWalk_202 (by decide) ?_
                  exact ih168 z_65 (upI v111 110 q111_7_27.toNatClampNeg q111_5_27) ⟨⟨by have hb_ := z32 z_65; omega, by have hb_ := z32 z_65; omega⟩, (by omega), rfl⟩ (by first | omega | decide | (dsimp only; omega) | (dsimp only; decide))
                ·
                  refine s_aload_n E dX10_layWalk_180 rfl rfl ?_
                  refine s_gR (r := 109) E fg_X10_55 rfl rfl (jv_lt hj_35 (by decide)) (jv_r hj_35 (by decide +kernel)) dX10_layWalk_181 ?_
                  refine s_iload E dX10_layWalk_184 rfl ?_
                  refine s_iconst (v := 1) E dX10_layWalk_186 (by decide) ?_
                  refine z_iadd (u := q111_7_27.toInt) (v := 1) E dX10_layWalk_187 rfl (by decide) (by omega) (by omega) (fun z_66 hz_66 => ?_)
                  refine s_iload E dX10_layWalk_188 rfl ?_
                  refine s_iload E dX10_layWalk_190 rfl ?_
                  refine s_sI (As := [AI z_66, AI q168_8_58, AI 0]) (S := [AR 109]) E (Z_X10_carryState l D aC b (upI v111 110 q111_7_27.toNatClampNeg q111_5_27) z_66 q168_8_58 0 hj_35.1 ⟨by have hb_ := z32 z_66; omega, by have hb_ := z32 z_66; omega⟩ ⟨by have hb_ := z32 q168_8_58; omega, by have hb_ := z32 q168_8_58; omega⟩ (by decide)) cs_X10_355 rfl rfl (Nat.le_of_ble_eq_true rfl) (Nat.le_of_ble_eq_true rfl) ⟨(Nat.le_of_ble_eq_true rfl), (Nat.le_of_ble_eq_true rfl)⟩ (Nat.le_of_ble_eq_true rfl) dX10_layWalk_192 (fun z_69 u_67 hp_68 => ?_)
                  obtain ⟨hz_69, hxz_69, hp_68⟩ := hp_68
                  have hc_ : (0 : Int32).toInt = 0 := by decide
                  subst hp_68
                  have hi3_ : z_69.toInt = 16 * ((q111_7_27.toInt.toNat + 1 : Nat) : Int) + 2 * q168_8_58.toInt + (0 : Int32).toInt := by omega
                  refine s_zald E rfl (jv_lt hj_35 (by decide)) (z_in (u := z_69.toInt) rfl (by omega) (by omega)) dX10_layWalk_195 ?_
                  refine z_nm (P := fun z => z.toInt = ((upI v111 110 q111_7_27.toNatClampNeg q111_5_27).2.2.1 109 z_69.toNatClampNeg).toInt ∧ 0 ≤ z.toInt ∧ z.toInt ≤ 1) ⟨rfl, (ra_109 hj_35 _)⟩ (fun z_71 hz_71 => ?_)
                  have hv_ := (ly_at (f := (upI v111 110 q111_7_27.toNatClampNeg q111_5_27).2.2.1 109) (a := z_71) hi3_ (by omega) (by first | omega | decide) (by omega)).trans (congrArg (fun f_ : Nat → Int32 => (f_ (16 * (q111_7_27.toInt.toNat + 1) + 2 * q168_8_58.toInt.toNat + (0 : Int32).toInt.toNat)).toInt) ((upI_ne (by decide)).trans hl111.1))
                  refine z_if_ne (tgt := 205) (u := z_71.toInt) E dX10_layWalk_196 (by decide) rfl (fun h_72 => ?_) (fun h_72 => ?_)
                  ·
                    have hnx_ : ¬ (v50.2.2.1 109 (16 * (q111_7_27.toInt.toNat + 1) + 2 * q168_8_58.toInt.toNat + (0 : Int32).toInt.toNat)).toInt = 0 := by omega
                    refine s_iload E dX10_layWalk_205 rfl ?_
                    refine s_istore (L2 := [some (AR 95), some (AI x1), some (AI x2), some (AI x3), some (AI 0), some (AI q168_8_58), some (AI q50_6_15), some (AI q111_7_27), some (AI q168_8_58)]) E dX10_layWalk_207 (by decide) rfl ?_
                    refine z_iinc (u := q111_7_27.toInt) (L2 := fun z_73 => [some (AR 95), some (AI x1), some (AI x2), some (AI x3), some (AI 0), some (AI q168_8_58), some (AI q50_6_15), some (AI z_73), some (AI q168_8_58)]) E dX10_layWalk_209 rfl rfl (by decide) (fun _ => rfl) (by decide) (by omega) (by omega) (fun z_73 hz_73 => ?_)
                    refine s_goto (tgt := 111) E dX10_layWalk_212 (by decide) ?_
                    refine s_drop (i := 8) (L2 := [some (AR 95), some (AI x1), some (AI x2), some (AI x3), some (AI 0), some (AI q168_8_58), some (AI q50_6_15), some (AI z_73), none]) rfl ?_
                    exact ih111 ⟨0, q168_8_58, z_73⟩ (upI v111 110 q111_7_27.toNatClampNeg q111_5_27) ⟨⟨by decide, by decide⟩, ⟨by have hb_ := z32 q168_8_58; omega, by have hb_ := z32 q168_8_58; omega⟩, ⟨by have hb_ := z32 z_73; omega, by have hb_ := z32 z_73; omega⟩, (⟨(upI_ne (by decide)).trans hl111.1, frm_up hl111.2.1, by omega, by first | (intro h_; exfalso; omega) | exact fun _ => (by have e7_ : z_73.toInt.toNat = q111_7_27.toInt.toNat + 1 := (by omega); rw [e7_]; exact hnx_)⟩), hj_35⟩ (by first | omega | decide | (dsimp only; omega) | (dsimp only; decide))
                  ·
                    have hne_ : ¬ q168_8_58.toInt.toNat = cw := by first | (intro e_; subst e_; have := hbs_.mpr cw4; omega) | (intro e_; subst e_; subst tw_; omega)
                    have hne2_ : ¬ q168_8_58.toInt = (cw : Int) := by omega
                    refine z_iinc (u := q168_8_58.toInt) (L2 := fun z_74 => [some (AR 95), some (AI x1), some (AI x2), some (AI x3), some (AI 0), some (AI q111_5_27), some (AI q50_6_15), some (AI q111_7_27), some (AI z_74)]) E dX10_layWalk_199 rfl rfl (by decide) (fun _ => rfl) (by decide) (by omega) (by omega) (fun z_74 hz_74 => ?_)
                    refine s_goto (tgt := 168) E dX10_layWalk_202 (by decide) ?_
                    exact ih168 z_74 (upI v111 110 q111_7_27.toNatClampNeg q111_5_27) ⟨⟨by have hb_ := z32 z_74; omega, by have hb_ := z32 z_74; omega⟩, (by omega), rfl⟩ (by first | omega | decide | (dsimp only; omega) | (dsimp only; decide))
              ·
                refine s_iconst (v := 1) E dX10_layWalk_158 (by decide) ?_
                refine s_goto (tgt := 163) E dX10_layWalk_159 (by decide) ?_
                refine s_istore (L2 := [some (AR 95), some (AI x1), some (AI x2), some (AI x3), some (AI 1), some (AI q111_5_27), some (AI q50_6_15), some (AI q111_7_27), none]) E dX10_layWalk_163 (by decide) rfl ?_
                have hth_ : (1 : Int32).toInt = 1 ↔ ((q111_4_27 : Int32).toInt = 1 ∨ TKs u_5 x1 x2 q111_5_27.toInt q111_7_27.toInt.toNat) := by first | exact ⟨fun _ => Or.inl (by omega), fun _ => by decide⟩ | exact ⟨fun _ => Or.inr (hk_.mp (by omega)), fun _ => by decide⟩ | exact ⟨fun h_ => absurd h_ (by decide), fun h_ => h_.elim (fun g_ => by omega) (fun g_ => absurd (hk_.mpr g_) (by omega))⟩
                obtain ⟨cw, tw, cw1, cw2, cw3, cw4, cw5⟩ := hcg_ q111_7_27.toInt.toNat q111_5_27.toInt.toNat q111_4_27.toInt.toNat (by omega) (by omega) (by omega) (by omega) (hl111.2.2.2 (by omega))
                have hN2_ : (u_5.2.2.1 96 0).toInt ≤ 8 := by omega
                have tw_ : tw = (1 : Int32).toInt.toNat := tw_eq cw2 cw3 hth_ (by omega) ⟨by omega, by omega⟩ (by first | omega | decide) (by first | omega | decide)
                refine s_iconst (v := 0) E dX10_layWalk_165 (by decide) ?_
                refine s_istore (L2 := [some (AR 95), some (AI x1), some (AI x2), some (AI x3), some (AI 1), some (AI q111_5_27), some (AI q50_6_15), some (AI q111_7_27), some (AI 0)]) E dX10_layWalk_166 (by decide) rfl ?_
                refine z_loop (St := Int32) (Pi := fun q168_8_74 v168 => (0 ≤ q168_8_74.toInt ∧ q168_8_74.toInt ≤ 7) ∧ (q168_8_74.toInt ≤ (cw : Int)) ∧ (upI v111 110 q111_7_27.toNatClampNeg q111_5_27) = v168) (Lf := fun q168_8_74 => [some (AR 95), some (AI x1), some (AI x2), some (AI x3), some (AI 1), some (AI q111_5_27), some (AI q50_6_15), some (AI q111_7_27), some (AI q168_8_74)]) (fun q168_8_74 _ => ((cw : Int) + 1 - q168_8_74.toInt).toNat) 0 ⟨⟨by decide, by decide⟩, (by have h0_ : (0 : Int32).toInt = 0 := (by decide); omega), rfl⟩ ?_
                rintro q168_8_74 v168 ⟨hq168_8, hl168, hv_⟩ ih168
                subst hv_
                refine s_loc (L2 := [some (AR 95), some (AI x1), some (AI x2), some (AI x3), some (AI 1), some (AI q111_5_27), some (AI q50_6_15), some (AI q111_7_27), some (AI q168_8_74)]) rfl ?_
                refine s_aload_n E dX10_layWalk_168 rfl rfl ?_
                refine s_iload_n E dX10_layWalk_169 rfl rfl ?_
                refine s_iload E dX10_layWalk_170 rfl ?_
                refine s_iload E dX10_layWalk_172 rfl ?_
                refine s_vI (As := [AI x2, AI q111_5_27, AI q168_8_74]) (S := []) E (Z_X10_isBeside_95 l D aC b (upI v111 110 q111_7_27.toNatClampNeg q111_5_27) x2 q111_5_27 q168_8_74 hj_35.1 ⟨by have hb_ := z32 x2; omega, by have hb_ := z32 x2; omega⟩ ⟨by have hb_ := z32 q111_5_27; omega, by have hb_ := z32 q111_5_27; omega⟩ ⟨by have hb_ := z32 q168_8_74; omega, by have hb_ := z32 q168_8_74; omega⟩) cv_X10_352 rfl rfl rfl (jv_lt hj_35 (by decide)) (Nat.le_of_ble_eq_true rfl) (Nat.le_of_ble_eq_true rfl) ⟨(Nat.le_of_ble_eq_true rfl), (Nat.le_of_ble_eq_true rfl)⟩ (Nat.le_of_ble_eq_true rfl) dX10_layWalk_174 (fun z_78 u_76 hp_77 => ?_)
                obtain ⟨hz_78, hxz_78, hp_77⟩ := hp_77
                subst hp_77
                have hbs_ := frm_bs (frm_up hl111.2.1) hxz_78
                refine z_if_eq (tgt := 199) (u := z_78.toInt) E dX10_layWalk_177 (by decide) rfl (fun h_80 => ?_) (fun h_80 => ?_)
                ·
                  have hne_ : ¬ q168_8_74.toInt.toNat = cw := by first | (intro e_; subst e_; have := hbs_.mpr cw4; omega) | (intro e_; subst e_; subst tw_; omega)
                  have hne2_ : ¬ q168_8_74.toInt = (cw : Int) := by omega
                  refine z_iinc (u := q168_8_74.toInt) (L2 := fun z_81 => [some (AR 95), some (AI x1), some (AI x2), some (AI x3), some (AI 1), some (AI q111_5_27), some (AI q50_6_15), some (AI q111_7_27), some (AI z_81)]) E dX10_layWalk_199 rfl rfl (by decide) (fun _ => rfl) (by decide) (by omega) (by omega) (fun z_81 hz_81 => ?_)
                  refine s_goto (tgt := 168) E dX10_layWalk_202 (by decide) ?_
                  exact ih168 z_81 (upI v111 110 q111_7_27.toNatClampNeg q111_5_27) ⟨⟨by have hb_ := z32 z_81; omega, by have hb_ := z32 z_81; omega⟩, (by omega), rfl⟩ (by first | omega | decide | (dsimp only; omega) | (dsimp only; decide))
                ·
                  refine s_aload_n E dX10_layWalk_180 rfl rfl ?_
                  refine s_gR (r := 109) E fg_X10_55 rfl rfl (jv_lt hj_35 (by decide)) (jv_r hj_35 (by decide +kernel)) dX10_layWalk_181 ?_
                  refine s_iload E dX10_layWalk_184 rfl ?_
                  refine s_iconst (v := 1) E dX10_layWalk_186 (by decide) ?_
                  refine z_iadd (u := q111_7_27.toInt) (v := 1) E dX10_layWalk_187 rfl (by decide) (by omega) (by omega) (fun z_82 hz_82 => ?_)
                  refine s_iload E dX10_layWalk_188 rfl ?_
                  refine s_iload E dX10_layWalk_190 rfl ?_
                  refine s_sI (As := [AI z_82, AI q168_8_74, AI 1]) (S := [AR 109]) E (Z_X10_carryState l D aC b (upI v111 110 q111_7_27.toNatClampNeg q111_5_27) z_82 q168_8_74 1 hj_35.1 ⟨by have hb_ := z32 z_82; omega, by have hb_ := z32 z_82; omega⟩ ⟨by have hb_ := z32 q168_8_74; omega, by have hb_ := z32 q168_8_74; omega⟩ (by decide)) cs_X10_355 rfl rfl (Nat.le_of_ble_eq_true rfl) (Nat.le_of_ble_eq_true rfl) ⟨(Nat.le_of_ble_eq_true rfl), (Nat.le_of_ble_eq_true rfl)⟩ (Nat.le_of_ble_eq_true rfl) dX10_layWalk_192 (fun z_85 u_83 hp_84 => ?_)
                  obtain ⟨hz_85, hxz_85, hp_84⟩ := hp_84
                  have hc_ : (1 : Int32).toInt = 1 := by decide
                  subst hp_84
                  have hi3_ : z_85.toInt = 16 * ((q111_7_27.toInt.toNat + 1 : Nat) : Int) + 2 * q168_8_74.toInt + (1 : Int32).toInt := by omega
                  refine s_zald E rfl (jv_lt hj_35 (by decide)) (z_in (u := z_85.toInt) rfl (by omega) (by omega)) dX10_layWalk_195 ?_
                  refine z_nm (P := fun z => z.toInt = ((upI v111 110 q111_7_27.toNatClampNeg q111_5_27).2.2.1 109 z_85.toNatClampNeg).toInt ∧ 0 ≤ z.toInt ∧ z.toInt ≤ 1) ⟨rfl, (ra_109 hj_35 _)⟩ (fun z_87 hz_87 => ?_)
                  have hv_ := (ly_at (f := (upI v111 110 q111_7_27.toNatClampNeg q111_5_27).2.2.1 109) (a := z_87) hi3_ (by omega) (by first | omega | decide) (by omega)).trans (congrArg (fun f_ : Nat → Int32 => (f_ (16 * (q111_7_27.toInt.toNat + 1) + 2 * q168_8_74.toInt.toNat + (1 : Int32).toInt.toNat)).toInt) ((upI_ne (by decide)).trans hl111.1))
                  refine z_if_ne (tgt := 205) (u := z_87.toInt) E dX10_layWalk_196 (by decide) rfl (fun h_88 => ?_) (fun h_88 => ?_)
                  ·
                    have hnx_ : ¬ (v50.2.2.1 109 (16 * (q111_7_27.toInt.toNat + 1) + 2 * q168_8_74.toInt.toNat + (1 : Int32).toInt.toNat)).toInt = 0 := by omega
                    refine s_iload E dX10_layWalk_205 rfl ?_
                    refine s_istore (L2 := [some (AR 95), some (AI x1), some (AI x2), some (AI x3), some (AI 1), some (AI q168_8_74), some (AI q50_6_15), some (AI q111_7_27), some (AI q168_8_74)]) E dX10_layWalk_207 (by decide) rfl ?_
                    refine z_iinc (u := q111_7_27.toInt) (L2 := fun z_89 => [some (AR 95), some (AI x1), some (AI x2), some (AI x3), some (AI 1), some (AI q168_8_74), some (AI q50_6_15), some (AI z_89), some (AI q168_8_74)]) E dX10_layWalk_209 rfl rfl (by decide) (fun _ => rfl) (by decide) (by omega) (by omega) (fun z_89 hz_89 => ?_)
                    refine s_goto (tgt := 111) E dX10_layWalk_212 (by decide) ?_
                    refine s_drop (i := 8) (L2 := [some (AR 95), some (AI x1), some (AI x2), some (AI x3), some (AI 1), some (AI q168_8_74), some (AI q50_6_15), some (AI z_89), none]) rfl ?_
                    exact ih111 ⟨1, q168_8_74, z_89⟩ (upI v111 110 q111_7_27.toNatClampNeg q111_5_27) ⟨⟨by decide, by decide⟩, ⟨by have hb_ := z32 q168_8_74; omega, by have hb_ := z32 q168_8_74; omega⟩, ⟨by have hb_ := z32 z_89; omega, by have hb_ := z32 z_89; omega⟩, (⟨(upI_ne (by decide)).trans hl111.1, frm_up hl111.2.1, by omega, by first | (intro h_; exfalso; omega) | exact fun _ => (by have e7_ : z_89.toInt.toNat = q111_7_27.toInt.toNat + 1 := (by omega); rw [e7_]; exact hnx_)⟩), hj_35⟩ (by first | omega | decide | (dsimp only; omega) | (dsimp only; decide))
                  ·
                    have hne_ : ¬ q168_8_74.toInt.toNat = cw := by first | (intro e_; subst e_; have := hbs_.mpr cw4; omega) | (intro e_; subst e_; subst tw_; omega)
                    have hne2_ : ¬ q168_8_74.toInt = (cw : Int) := by omega
                    refine z_iinc (u := q168_8_74.toInt) (L2 := fun z_90 => [some (AR 95), some (AI x1), some (AI x2), some (AI x3), some (AI 1), some (AI q111_5_27), some (AI q50_6_15), some (AI q111_7_27), some (AI z_90)]) E dX10_layWalk_199 rfl rfl (by decide) (fun _ => rfl) (by decide) (by omega) (by omega) (fun z_90 hz_90 => ?_)
                    refine s_goto (tgt := 168) E dX10_layWalk_202 (by decide) ?_
                    exact ih168 z_90 (upI v111 110 q111_7_27.toNatClampNeg q111_5_27) ⟨⟨by have hb_ := z32 z_90; omega, by have hb_ := z32 z_90; omega⟩, (by omega), rfl⟩ (by first | omega | decide | (dsimp only; omega) | (dsimp only; decide))
          ·
            refine s_goto (tgt := 209) E dX10_layWalk_136 (by decide) ?_
            refine z_iinc (u := q111_7_27.toInt) (L2 := fun z_91 => [some (AR 95), some (AI x1), some (AI x2), some (AI x3), some (AI q111_4_27), some (AI q111_5_27), some (AI q50_6_15), some (AI z_91), none]) E dX10_layWalk_209 rfl rfl (by decide) (fun _ => rfl) (by decide) (by omega) (by omega) (fun z_91 hz_91 => ?_)
            refine s_goto (tgt := 111) E dX10_layWalk_212 (by decide) ?_
            exact ih111 ⟨q111_4_27, q111_5_27, z_91⟩ (upI v111 110 q111_7_27.toNatClampNeg q111_5_27) ⟨⟨by have hb_ := z32 q111_4_27; omega, by have hb_ := z32 q111_4_27; omega⟩, ⟨by have hb_ := z32 q111_5_27; omega, by have hb_ := z32 q111_5_27; omega⟩, ⟨by have hb_ := z32 z_91; omega, by have hb_ := z32 z_91; omega⟩, (⟨(upI_ne (by decide)).trans hl111.1, frm_up hl111.2.1, by omega, by first | (intro h_; exfalso; omega) | exact fun _ => (by have e7_ : z_91.toInt.toNat = q111_7_27.toInt.toNat + 1 := (by omega); rw [e7_]; exact hnx_)⟩), hj_35⟩ (by first | omega | decide | (dsimp only; omega) | (dsimp only; decide))
      ·
        refine s_iconst (v := (-1)) E dX10_layWalk_106 (by decide) ?_
        exact r_int E dX10_layWalk_107 ⟨(by decide), hj_16⟩
    ·
      refine s_aload_n E dX10_layWalk_59 rfl rfl ?_
      refine s_gR (r := 109) E fg_X10_55 rfl rfl (jv_lt hj_16 (by decide)) (jv_r hj_16 (by decide +kernel)) dX10_layWalk_60 ?_
      refine s_iconst (v := 0) E dX10_layWalk_63 (by decide) ?_
      refine s_iload E dX10_layWalk_64 rfl ?_
      refine s_iload E dX10_layWalk_66 rfl ?_
      refine s_sI (As := [AI 0, AI z_12, AI 0]) (S := [AR 109]) E (Z_X10_carryState l D aC b v50 0 z_12 0 hj_16.1 (by decide) ⟨by have hb_ := z32 z_12; omega, by have hb_ := z32 z_12; omega⟩ (by decide)) cs_X10_355 rfl rfl (Nat.le_of_ble_eq_true rfl) (Nat.le_of_ble_eq_true rfl) ⟨(Nat.le_of_ble_eq_true rfl), (Nat.le_of_ble_eq_true rfl)⟩ (Nat.le_of_ble_eq_true rfl) dX10_layWalk_68 (fun z_94 u_92 hp_93 => ?_)
      obtain ⟨hz_94, hxz_94, hp_93⟩ := hp_93
      have hc_ : (0 : Int32).toInt = 0 := by decide
      have hc_ : (0 : Int32).toInt = 0 := by decide
      subst hp_93
      refine s_zald E rfl (jv_lt hj_16 (by decide)) (z_in (u := z_94.toInt) rfl (by omega) (by omega)) dX10_layWalk_71 ?_
      refine z_nm (P := fun z => z.toInt = (v50.2.2.1 109 z_94.toNatClampNeg).toInt ∧ 0 ≤ z.toInt ∧ z.toInt ≤ 1) ⟨rfl, (ra_109 hj_16 _)⟩ (fun z_96 hz_96 => ?_)
      refine z_if_ne (tgt := 90) (u := z_96.toInt) E dX10_layWalk_72 (by decide) rfl (fun h_97 => ?_) (fun h_97 => ?_)
      ·
        refine s_aload_n E dX10_layWalk_90 rfl rfl ?_
        refine s_gR (r := 109) E fg_X10_55 rfl rfl (jv_lt hj_16 (by decide)) (jv_r hj_16 (by decide +kernel)) dX10_layWalk_91 ?_
        refine s_iconst (v := 0) E dX10_layWalk_94 (by decide) ?_
        refine s_iload E dX10_layWalk_95 rfl ?_
        refine s_iload E dX10_layWalk_97 rfl ?_
        refine s_sI (As := [AI 0, AI z_12, AI 0]) (S := [AR 109]) E (Z_X10_carryState l D aC b v50 0 z_12 0 hj_16.1 (by decide) ⟨by have hb_ := z32 z_12; omega, by have hb_ := z32 z_12; omega⟩ (by decide)) cs_X10_355 rfl rfl (Nat.le_of_ble_eq_true rfl) (Nat.le_of_ble_eq_true rfl) ⟨(Nat.le_of_ble_eq_true rfl), (Nat.le_of_ble_eq_true rfl)⟩ (Nat.le_of_ble_eq_true rfl) dX10_layWalk_99 (fun z_100 u_98 hp_99 => ?_)
        obtain ⟨hz_100, hxz_100, hp_99⟩ := hp_99
        have hc_ : (0 : Int32).toInt = 0 := by decide
        have hc_ : (0 : Int32).toInt = 0 := by decide
        subst hp_99
        have hi2_ : z_100.toInt = 16 * ((0 : Nat) : Int) + 2 * z_12.toInt + (0 : Int32).toInt := by omega
        have hc0_ : (0 : Int32).toInt = 0 := (by decide)
        have hc1_ : (1 : Int32).toInt = 1 := (by decide)
        refine s_zald E rfl (jv_lt hj_16 (by decide)) (z_in (u := z_100.toInt) rfl (by omega) (by omega)) dX10_layWalk_102 ?_
        refine z_nm (P := fun z => z.toInt = (v50.2.2.1 109 z_100.toNatClampNeg).toInt ∧ 0 ≤ z.toInt ∧ z.toInt ≤ 1) ⟨rfl, (ra_109 hj_16 _)⟩ (fun z_102 hz_102 => ?_)
        have hs_ := ly_at (f := v50.2.2.1 109) (a := z_102) hi2_ (by omega) (by omega) (by omega)
        refine z_if_ne (tgt := 108) (u := z_102.toInt) E dX10_layWalk_103 (by decide) rfl (fun h_103 => ?_) (fun h_103 => ?_)
        ·
          have hcg_ := hl50.2
          have hfm_ := hl50.1
          have hz0_ : (0 : Int32).toInt = 0 := (by decide)
          refine s_iconst (v := 0) E dX10_layWalk_108 (by decide) ?_
          refine s_istore (L2 := [some (AR 95), some (AI x1), some (AI x2), some (AI x3), some (AI 0), some (AI z_12), some (AI q50_6_15), some (AI 0), none]) E dX10_layWalk_109 (by decide) rfl ?_
          refine z_loop (St := Int32 × Int32 × Int32) (Pi := fun ⟨q111_4_103, q111_5_103, q111_7_103⟩ v111 => (0 ≤ q111_4_103.toInt ∧ q111_4_103.toInt ≤ 1) ∧ (0 ≤ q111_5_103.toInt ∧ q111_5_103.toInt ≤ 7) ∧ (0 ≤ q111_7_103.toInt ∧ q111_7_103.toInt ≤ 64) ∧ ((v111.2.2.1 109) = (v50.2.2.1 109) ∧ Frm v111 u_5 ∧ q111_5_103.toInt < (u_5.2.2.1 96 0).toInt ∧ (q111_7_103.toInt ≤ q50_6_15.toInt → ¬ (v50.2.2.1 109 (16 * q111_7_103.toInt.toNat + 2 * q111_5_103.toInt.toNat + q111_4_103.toInt.toNat)).toInt = 0)) ∧ Jv w v111) (Lf := fun ⟨q111_4_103, q111_5_103, q111_7_103⟩ => [some (AR 95), some (AI x1), some (AI x2), some (AI x3), some (AI q111_4_103), some (AI q111_5_103), some (AI q50_6_15), some (AI q111_7_103), none]) (fun ⟨q111_4_103, q111_5_103, q111_7_103⟩ _ => (65 - q111_7_103.toInt).toNat) ⟨0, z_12, 0⟩ ⟨⟨by decide, by decide⟩, ⟨by have hb_ := z32 z_12; omega, by have hb_ := z32 z_12; omega⟩, ⟨by decide, by decide⟩, (⟨rfl, hfm_, by omega, fun _ h_ => by rw [show 16 * (0 : Int32).toInt.toNat = 16 * 0 by decide] at h_; omega⟩), hj_16⟩ ?_
          rintro ⟨q111_4_103, q111_5_103, q111_7_103⟩ v111 ⟨hq111_4, hq111_5, hq111_7, hl111, hj_104⟩ ih111
          refine s_loc (L2 := [some (AR 95), some (AI x1), some (AI x2), some (AI x3), some (AI q111_4_103), some (AI q111_5_103), some (AI q50_6_15), some (AI q111_7_103), none]) rfl ?_
          refine s_iload E dX10_layWalk_111 rfl ?_
          refine s_aload_n E dX10_layWalk_113 rfl rfl ?_
          refine s_vI (As := []) (S := [AI q111_7_103]) E (Z_X10_dances_95 l D aC b v111  hj_104.1 ) cv_X10_247 rfl rfl rfl (jv_lt hj_104 (by decide)) (Nat.le_of_ble_eq_true rfl) (Nat.le_of_ble_eq_true rfl) ⟨(Nat.le_of_ble_eq_true rfl), (Nat.le_of_ble_eq_true rfl)⟩ (Nat.le_of_ble_eq_true rfl) dX10_layWalk_114 (fun z_107 u_105 hp_106 => ?_)
          obtain ⟨hz_107, hxz_107, hp_106⟩ := hp_106
          subst hp_106
          refine z_icmp_gt (tgt := 215) (u := q111_7_103.toInt) (v := z_107.toInt) E dX10_layWalk_117 (by decide) rfl rfl (fun h_109 => ?_) (fun h_109 => ?_)
          ·
            refine s_iload E dX10_layWalk_215 rfl ?_
            exact r_int E dX10_layWalk_217 ⟨⟨by have hb_ := z32 q50_6_15; omega, by have hb_ := z32 q50_6_15; omega⟩, hj_104⟩
          ·
            refine s_aload_n E dX10_layWalk_120 rfl rfl ?_
            refine s_gR (r := 110) E fg_X10_58 rfl rfl (jv_lt hj_104 (by decide)) (jv_r hj_104 (by decide +kernel)) dX10_layWalk_121 ?_
            refine s_iload E dX10_layWalk_124 rfl ?_
            refine s_iload E dX10_layWalk_126 rfl ?_
            refine s_iast E rfl (jv_lt hj_104 (by decide)) (z_in (u := q111_7_103.toInt) rfl (by omega) (by omega)) dX10_layWalk_128 ?_
            have hj_111 : Jv w (upI v111 110 q111_7_103.toNatClampNeg q111_5_103) := (jv_a_110 hj_104 (by have hb_ := z32 q111_5_103; omega) (by have hb_ := z32 q111_5_103; omega))
            have hke_ : ((upI v111 110 q111_7_103.toNatClampNeg q111_5_103).2.2.1 96 5).toInt = (v111.2.2.1 96 5).toInt := rfl
            have hke_ : ((upI v111 110 q111_7_103.toNatClampNeg q111_5_103).2.2.1 96 0).toInt = (v111.2.2.1 96 0).toInt := rfl
            refine s_iload E dX10_layWalk_129 rfl ?_
            refine s_iload E dX10_layWalk_131 rfl ?_
            refine z_icmp_lt (tgt := 139) (u := q111_7_103.toInt) (v := q50_6_15.toInt) E dX10_layWalk_133 (by decide) rfl rfl (fun h_112 => ?_) (fun h_112 => ?_)
            ·
              refine s_iload E dX10_layWalk_139 rfl ?_
              refine s_iconst (v := 1) E dX10_layWalk_141 (by decide) ?_
              refine z_icmp_eq (tgt := 158) (u := q111_4_103.toInt) (v := 1) E dX10_layWalk_142 (by decide) rfl (by decide) (fun h_113 => ?_) (fun h_113 => ?_)
              ·
                refine s_iconst (v := 1) E dX10_layWalk_158 (by decide) ?_
                refine s_goto (tgt := 163) E dX10_layWalk_159 (by decide) ?_
                refine s_istore (L2 := [some (AR 95), some (AI x1), some (AI x2), some (AI x3), some (AI 1), some (AI q111_5_103), some (AI q50_6_15), some (AI q111_7_103), none]) E dX10_layWalk_163 (by decide) rfl ?_
                have hth_ : (1 : Int32).toInt = 1 ↔ ((q111_4_103 : Int32).toInt = 1 ∨ TKs u_5 x1 x2 q111_5_103.toInt q111_7_103.toInt.toNat) := by first | exact ⟨fun _ => Or.inl (by omega), fun _ => by decide⟩ | exact ⟨fun _ => Or.inr (hk_.mp (by omega)), fun _ => by decide⟩ | exact ⟨fun h_ => absurd h_ (by decide), fun h_ => h_.elim (fun g_ => by omega) (fun g_ => absurd (hk_.mpr g_) (by omega))⟩
                obtain ⟨cw, tw, cw1, cw2, cw3, cw4, cw5⟩ := hcg_ q111_7_103.toInt.toNat q111_5_103.toInt.toNat q111_4_103.toInt.toNat (by omega) (by omega) (by omega) (by omega) (hl111.2.2.2 (by omega))
                have hN2_ : (u_5.2.2.1 96 0).toInt ≤ 8 := by omega
                have tw_ : tw = (1 : Int32).toInt.toNat := tw_eq cw2 cw3 hth_ (by omega) ⟨by omega, by omega⟩ (by first | omega | decide) (by first | omega | decide)
                refine s_iconst (v := 0) E dX10_layWalk_165 (by decide) ?_
                refine s_istore (L2 := [some (AR 95), some (AI x1), some (AI x2), some (AI x3), some (AI 1), some (AI q111_5_103), some (AI q50_6_15), some (AI q111_7_103), some (AI 0)]) E dX10_layWalk_166 (by decide) rfl ?_
                refine z_loop (St := Int32) (Pi := fun q168_8_113 v168 => (0 ≤ q168_8_113.toInt ∧ q168_8_113.toInt ≤ 7) ∧ (q168_8_113.toInt ≤ (cw : Int)) ∧ (upI v111 110 q111_7_103.toNatClampNeg q111_5_103) = v168) (Lf := fun q168_8_113 => [some (AR 95), some (AI x1), some (AI x2), some (AI x3), some (AI 1), some (AI q111_5_103), some (AI q50_6_15), some (AI q111_7_103), some (AI q168_8_113)]) (fun q168_8_113 _ => ((cw : Int) + 1 - q168_8_113.toInt).toNat) 0 ⟨⟨by decide, by decide⟩, (by have h0_ : (0 : Int32).toInt = 0 := (by decide); omega), rfl⟩ ?_
                rintro q168_8_113 v168 ⟨hq168_8, hl168, hv_⟩ ih168
                subst hv_
                refine s_loc (L2 := [some (AR 95), some (AI x1), some (AI x2), some (AI x3), some (AI 1), some (AI q111_5_103), some (AI q50_6_15), some (AI q111_7_103), some (AI q168_8_113)]) rfl ?_
                refine s_aload_n E dX10_layWalk_168 rfl rfl ?_
                refine s_iload_n E dX10_layWalk_169 rfl rfl ?_
                refine s_iload E dX10_layWalk_170 rfl ?_
                refine s_iload E dX10_layWalk_172 rfl ?_
                refine s_vI (As := [AI x2, AI q111_5_103, AI q168_8_113]) (S := []) E (Z_X10_isBeside_95 l D aC b (upI v111 110 q111_7_103.toNatClampNeg q111_5_103) x2 q111_5_103 q168_8_113 hj_111.1 ⟨by have hb_ := z32 x2; omega, by have hb_ := z32 x2; omega⟩ ⟨by have hb_ := z32 q111_5_103; omega, by have hb_ := z32 q111_5_103; omega⟩ ⟨by have hb_ := z32 q168_8_113; omega, by have hb_ := z32 q168_8_113; omega⟩) cv_X10_352 rfl rfl rfl (jv_lt hj_111 (by decide)) (Nat.le_of_ble_eq_true rfl) (Nat.le_of_ble_eq_true rfl) ⟨(Nat.le_of_ble_eq_true rfl), (Nat.le_of_ble_eq_true rfl)⟩ (Nat.le_of_ble_eq_true rfl) dX10_layWalk_174 (fun z_117 u_115 hp_116 => ?_)
                obtain ⟨hz_117, hxz_117, hp_116⟩ := hp_116
                subst hp_116
                have hbs_ := frm_bs (frm_up hl111.2.1) hxz_117
                refine z_if_eq (tgt := 199) (u := z_117.toInt) E dX10_layWalk_177 (by decide) rfl (fun h_119 => ?_) (fun h_119 => ?_)
                ·
                  have hne_ : ¬ q168_8_113.toInt.toNat = cw := by first | (intro e_; subst e_; have := hbs_.mpr cw4; omega) | (intro e_; subst e_; subst tw_; omega)
                  have hne2_ : ¬ q168_8_113.toInt = (cw : Int) := by omega
                  refine z_iinc (u := q168_8_113.toInt) (L2 := fun z_120 => [some (AR 95), some (AI x1), some (AI x2), some (AI x3), some (AI 1), some (AI q111_5_103), some (AI q50_6_15), some (AI q111_7_103), some (AI z_120)]) E dX10_layWalk_199 rfl rfl (by decide) (fun _ => rfl) (by decide) (by omega) (by omega) (fun z_120 hz_120 => ?_)
                  refine s_goto (tgt := 168) E dX10_layWalk_202 (by decide) ?_
                  exact ih168 z_120 (upI v111 110 q111_7_103.toNatClampNeg q111_5_103) ⟨⟨by have hb_ := z32 z_120; omega, by have hb_ := z32 z_120; omega⟩, (by omega), rfl⟩ (by first | omega | decide | (dsimp only; omega) | (dsimp only; decide))
                ·
                  refine s_aload_n E dX10_layWalk_180 rfl rfl ?_
                  refine s_gR (r := 109) E fg_X10_55 rfl rfl (jv_lt hj_111 (by decide)) (jv_r hj_111 (by decide +kernel)) dX10_layWalk_181 ?_
                  refine s_iload E dX10_layWalk_184 rfl ?_
                  refine s_iconst (v := 1) E dX10_layWalk_186 (by decide) ?_
                  refine z_iadd (u := q111_7_103.toInt) (v := 1) E dX10_layWalk_187 rfl (by decide) (by omega) (by omega) (fun z_121 hz_121 => ?_)
                  refine s_iload E dX10_layWalk_188 rfl ?_
                  refine s_iload E dX10_layWalk_190 rfl ?_
                  refine s_sI (As := [AI z_121, AI q168_8_113, AI 1]) (S := [AR 109]) E (Z_X10_carryState l D aC b (upI v111 110 q111_7_103.toNatClampNeg q111_5_103) z_121 q168_8_113 1 hj_111.1 ⟨by have hb_ := z32 z_121; omega, by have hb_ := z32 z_121; omega⟩ ⟨by have hb_ := z32 q168_8_113; omega, by have hb_ := z32 q168_8_113; omega⟩ (by decide)) cs_X10_355 rfl rfl (Nat.le_of_ble_eq_true rfl) (Nat.le_of_ble_eq_true rfl) ⟨(Nat.le_of_ble_eq_true rfl), (Nat.le_of_ble_eq_true rfl)⟩ (Nat.le_of_ble_eq_true rfl) dX10_layWalk_192 (fun z_124 u_122 hp_123 => ?_)
                  obtain ⟨hz_124, hxz_124, hp_123⟩ := hp_123
                  have hc_ : (1 : Int32).toInt = 1 := by decide
                  subst hp_123
                  have hi3_ : z_124.toInt = 16 * ((q111_7_103.toInt.toNat + 1 : Nat) : Int) + 2 * q168_8_113.toInt + (1 : Int32).toInt := by omega
                  refine s_zald E rfl (jv_lt hj_111 (by decide)) (z_in (u := z_124.toInt) rfl (by omega) (by omega)) dX10_layWalk_195 ?_
                  refine z_nm (P := fun z => z.toInt = ((upI v111 110 q111_7_103.toNatClampNeg q111_5_103).2.2.1 109 z_124.toNatClampNeg).toInt ∧ 0 ≤ z.toInt ∧ z.toInt ≤ 1) ⟨rfl, (ra_109 hj_111 _)⟩ (fun z_126 hz_126 => ?_)
                  have hv_ := (ly_at (f := (upI v111 110 q111_7_103.toNatClampNeg q111_5_103).2.2.1 109) (a := z_126) hi3_ (by omega) (by first | omega | decide) (by omega)).trans (congrArg (fun f_ : Nat → Int32 => (f_ (16 * (q111_7_103.toInt.toNat + 1) + 2 * q168_8_113.toInt.toNat + (1 : Int32).toInt.toNat)).toInt) ((upI_ne (by decide)).trans hl111.1))
                  refine z_if_ne (tgt := 205) (u := z_126.toInt) E dX10_layWalk_196 (by decide) rfl (fun h_127 => ?_) (fun h_127 => ?_)
                  ·
                    have hnx_ : ¬ (v50.2.2.1 109 (16 * (q111_7_103.toInt.toNat + 1) + 2 * q168_8_113.toInt.toNat + (1 : Int32).toInt.toNat)).toInt = 0 := by omega
                    refine s_iload E dX10_layWalk_205 rfl ?_
                    refine s_istore (L2 := [some (AR 95), some (AI x1), some (AI x2), some (AI x3), some (AI 1), some (AI q168_8_113), some (AI q50_6_15), some (AI q111_7_103), some (AI q168_8_113)]) E dX10_layWalk_207 (by decide) rfl ?_
                    refine z_iinc (u := q111_7_103.toInt) (L2 := fun z_128 => [some (AR 95), some (AI x1), some (AI x2), some (AI x3), some (AI 1), some (AI q168_8_113), some (AI q50_6_15), some (AI z_128), some (AI q168_8_113)]) E dX10_layWalk_209 rfl rfl (by decide) (fun _ => rfl) (by decide) (by omega) (by omega) (fun z_128 hz_128 => ?_)
                    refine s_goto (tgt := 111) E dX10_layWalk_212 (by decide) ?_
                    refine s_drop (i := 8) (L2 := [some (AR 95), some (AI x1), some (AI x2), some (AI x3), some (AI 1), some (AI q168_8_113), some (AI q50_6_15), some (AI z_128), none]) rfl ?_
                    exact ih111 ⟨1, q168_8_113, z_128⟩ (upI v111 110 q111_7_103.toNatClampNeg q111_5_103) ⟨⟨by decide, by decide⟩, ⟨by have hb_ := z32 q168_8_113; omega, by have hb_ := z32 q168_8_113; omega⟩, ⟨by have hb_ := z32 z_128; omega, by have hb_ := z32 z_128; omega⟩, (⟨(upI_ne (by decide)).trans hl111.1, frm_up hl111.2.1, by omega, by first | (intro h_; exfalso; omega) | exact fun _ => (by have e7_ : z_128.toInt.toNat = q111_7_103.toInt.toNat + 1 := (by omega); rw [e7_]; exact hnx_)⟩), hj_111⟩ (by first | omega | decide | (dsimp only; omega) | (dsimp only; decide))
                  ·
                    have hne_ : ¬ q168_8_113.toInt.toNat = cw := by first | (intro e_; subst e_; have := hbs_.mpr cw4; omega) | (intro e_; subst e_; subst tw_; omega)
                    have hne2_ : ¬ q168_8_113.toInt = (cw : Int) := by omega
                    refine z_iinc (u := q168_8_113.toInt) (L2 := fun z_129 => [some (AR 95), some (AI x1), some (AI x2), some (AI x3), some (AI 1), some (AI q111_5_103), some (AI q50_6_15), some (AI q111_7_103), some (AI z_129)]) E dX10_layWalk_199 rfl rfl (by decide) (fun _ => rfl) (by decide) (by omega) (by omega) (fun z_129 hz_129 => ?_)
                    refine s_goto (tgt := 168) E dX10_layWalk_202 (by decide) ?_
                    exact ih168 z_129 (upI v111 110 q111_7_103.toNatClampNeg q111_5_103) ⟨⟨by have hb_ := z32 z_129; omega, by have hb_ := z32 z_129; omega⟩, (by omega), rfl⟩ (by first | omega | decide | (dsimp only; omega) | (dsimp only; decide))
              ·
                refine s_aload_n E dX10_layWalk_145 rfl rfl ?_
                refine s_iload_n E dX10_layWalk_146 rfl rfl ?_
                refine s_iload_n E dX10_layWalk_147 rfl rfl ?_
                refine s_iload E dX10_layWalk_148 rfl ?_
                refine s_iload E dX10_layWalk_150 rfl ?_
                refine s_vI (As := [AI x1, AI x2, AI q111_5_103, AI q111_7_103]) (S := []) E (Z_X10_takesIn_95 l D aC b (upI v111 110 q111_7_103.toNatClampNeg q111_5_103) x1 x2 q111_5_103 q111_7_103 hj_111.1 ⟨by have hb_ := z32 x1; omega, by have hb_ := z32 x1; omega⟩ ⟨by have hb_ := z32 x2; omega, by have hb_ := z32 x2; omega⟩ ⟨by have hb_ := z32 q111_5_103; omega, by have hb_ := z32 q111_5_103; omega⟩ ⟨by have hb_ := z32 q111_7_103; omega, by have hb_ := z32 q111_7_103; omega⟩) cv_X10_348 rfl rfl rfl (jv_lt hj_111 (by decide)) (Nat.le_of_ble_eq_true rfl) (Nat.le_of_ble_eq_true rfl) ⟨(Nat.le_of_ble_eq_true rfl), (Nat.le_of_ble_eq_true rfl)⟩ (Nat.le_of_ble_eq_true rfl) dX10_layWalk_152 (fun z_132 u_130 hp_131 => ?_)
                obtain ⟨hz_132, hxz_132, hp_131⟩ := hp_131
                subst hp_131
                have hk_ := frm_tk (frm_up hl111.2.1) hxz_132
                refine z_if_eq (tgt := 162) (u := z_132.toInt) E dX10_layWalk_155 (by decide) rfl (fun h_134 => ?_) (fun h_134 => ?_)
                ·
                  refine s_iconst (v := 0) E dX10_layWalk_162 (by decide) ?_
                  refine s_istore (L2 := [some (AR 95), some (AI x1), some (AI x2), some (AI x3), some (AI 0), some (AI q111_5_103), some (AI q50_6_15), some (AI q111_7_103), none]) E dX10_layWalk_163 (by decide) rfl ?_
                  have hth_ : (0 : Int32).toInt = 1 ↔ ((q111_4_103 : Int32).toInt = 1 ∨ TKs u_5 x1 x2 q111_5_103.toInt q111_7_103.toInt.toNat) := by first | exact ⟨fun _ => Or.inl (by omega), fun _ => by decide⟩ | exact ⟨fun _ => Or.inr (hk_.mp (by omega)), fun _ => by decide⟩ | exact ⟨fun h_ => absurd h_ (by decide), fun h_ => h_.elim (fun g_ => by omega) (fun g_ => absurd (hk_.mpr g_) (by omega))⟩
                  obtain ⟨cw, tw, cw1, cw2, cw3, cw4, cw5⟩ := hcg_ q111_7_103.toInt.toNat q111_5_103.toInt.toNat q111_4_103.toInt.toNat (by omega) (by omega) (by omega) (by omega) (hl111.2.2.2 (by omega))
                  have hN2_ : (u_5.2.2.1 96 0).toInt ≤ 8 := by omega
                  have tw_ : tw = (0 : Int32).toInt.toNat := tw_eq cw2 cw3 hth_ (by omega) ⟨by omega, by omega⟩ (by first | omega | decide) (by first | omega | decide)
                  refine s_iconst (v := 0) E dX10_layWalk_165 (by decide) ?_
                  refine s_istore (L2 := [some (AR 95), some (AI x1), some (AI x2), some (AI x3), some (AI 0), some (AI q111_5_103), some (AI q50_6_15), some (AI q111_7_103), some (AI 0)]) E dX10_layWalk_166 (by decide) rfl ?_
                  refine z_loop (St := Int32) (Pi := fun q168_8_134 v168 => (0 ≤ q168_8_134.toInt ∧ q168_8_134.toInt ≤ 7) ∧ (q168_8_134.toInt ≤ (cw : Int)) ∧ (upI v111 110 q111_7_103.toNatClampNeg q111_5_103) = v168) (Lf := fun q168_8_134 => [some (AR 95), some (AI x1), some (AI x2), some (AI x3), some (AI 0), some (AI q111_5_103), some (AI q50_6_15), some (AI q111_7_103), some (AI q168_8_134)]) (fun q168_8_134 _ => ((cw : Int) + 1 - q168_8_134.toInt).toNat) 0 ⟨⟨by decide, by decide⟩, (by have h0_ : (0 : Int32).toInt = 0 := (by decide); omega), rfl⟩ ?_
                  rintro q168_8_134 v168 ⟨hq168_8, hl168, hv_⟩ ih168
                  subst hv_
                  refine s_loc (L2 := [some (AR 95), some (AI x1), some (AI x2), some (AI x3), some (AI 0), some (AI q111_5_103), some (AI q50_6_15), some (AI q111_7_103), some (AI q168_8_134)]) rfl ?_
                  refine s_aload_n E dX10_layWalk_168 rfl rfl ?_
                  refine s_iload_n E dX10_layWalk_169 rfl rfl ?_
                  refine s_iload E dX10_layWalk_170 rfl ?_
                  refine s_iload E dX10_layWalk_172 rfl ?_
                  refine s_vI (As := [AI x2, AI q111_5_103, AI q168_8_134]) (S := []) E (Z_X10_isBeside_95 l D aC b (upI v111 110 q111_7_103.toNatClampNeg q111_5_103) x2 q111_5_103 q168_8_134 hj_111.1 ⟨by have hb_ := z32 x2; omega, by have hb_ := z32 x2; omega⟩ ⟨by have hb_ := z32 q111_5_103; omega, by have hb_ := z32 q111_5_103; omega⟩ ⟨by have hb_ := z32 q168_8_134; omega, by have hb_ := z32 q168_8_134; omega⟩) cv_X10_352 rfl rfl rfl (jv_lt hj_111 (by decide)) (Nat.le_of_ble_eq_true rfl) (Nat.le_of_ble_eq_true rfl) ⟨(Nat.le_of_ble_eq_true rfl), (Nat.le_of_ble_eq_true rfl)⟩ (Nat.le_of_ble_eq_true rfl) dX10_layWalk_174 (fun z_138 u_136 hp_137 => ?_)
                  obtain ⟨hz_138, hxz_138, hp_137⟩ := hp_137
                  subst hp_137
                  have hbs_ := frm_bs (frm_up hl111.2.1) hxz_138
                  refine z_if_eq (tgt := 199) (u := z_138.toInt) E dX10_layWalk_177 (by decide) rfl (fun h_140 => ?_) (fun h_140 => ?_)
                  ·
                    have hne_ : ¬ q168_8_134.toInt.toNat = cw := by first | (intro e_; subst e_; have := hbs_.mpr cw4; omega) | (intro e_; subst e_; subst tw_; omega)
                    have hne2_ : ¬ q168_8_134.toInt = (cw : Int) := by omega
                    refine z_iinc (u := q168_8_134.toInt) (L2 := fun z_141 => [some (AR 95), some (AI x1), some (AI x2), some (AI x3), some (AI 0), some (AI q111_5_103), some (AI q50_6_15), some (AI q111_7_103), some (AI z_141)]) E dX10_layWalk_199 rfl rfl (by decide) (fun _ => rfl) (by decide) (by omega) (by omega) (fun z_141 hz_141 => ?_)
                    refine s_goto (tgt := 168) E dX10_layWalk_202 (by decide) ?_
                    exact ih168 z_141 (upI v111 110 q111_7_103.toNatClampNeg q111_5_103) ⟨⟨by have hb_ := z32 z_141; omega, by have hb_ := z32 z_141; omega⟩, (by omega), rfl⟩ (by first | omega | decide | (dsimp only; omega) | (dsimp only; decide))
                  ·
                    refine s_aload_n E dX10_layWalk_180 rfl rfl ?_
                    refine s_gR (r := 109) E fg_X10_55 rfl rfl (jv_lt hj_111 (by decide)) (jv_r hj_111 (by decide +kernel)) dX10_layWalk_181 ?_
                    refine s_iload E dX10_layWalk_184 rfl ?_
                    refine s_iconst (v := 1) E dX10_layWalk_186 (by decide) ?_
                    refine z_iadd (u := q111_7_103.toInt) (v := 1) E dX10_layWalk_187 rfl (by decide) (by omega) (by omega) (fun z_142 hz_142 => ?_)
                    refine s_iload E dX10_layWalk_188 rfl ?_
                    refine s_iload E dX10_layWalk_190 rfl ?_
                    refine s_sI (As := [AI z_142, AI q168_8_134, AI 0]) (S := [AR 109]) E (Z_X10_carryState l D aC b (upI v111 110 q111_7_103.toNatClampNeg q111_5_103) z_142 q168_8_134 0 hj_111.1 ⟨by have hb_ := z32 z_142; omega, by have hb_ := z32 z_142; omega⟩ ⟨by have hb_ := z32 q168_8_134; omega, by have hb_ := z32 q168_8_134; omega⟩ (by decide)) cs_X10_355 rfl rfl (Nat.le_of_ble_eq_true rfl) (Nat.le_of_ble_eq_true rfl) ⟨(Nat.le_of_ble_eq_true rfl), (Nat.le_of_ble_eq_true rfl)⟩ (Nat.le_of_ble_eq_true rfl) dX10_layWalk_192 (fun z_145 u_143 hp_144 => ?_)
                    obtain ⟨hz_145, hxz_145, hp_144⟩ := hp_144
                    have hc_ : (0 : Int32).toInt = 0 := by decide
                    subst hp_144
                    have hi3_ : z_145.toInt = 16 * ((q111_7_103.toInt.toNat + 1 : Nat) : Int) + 2 * q168_8_134.toInt + (0 : Int32).toInt := by omega
                    refine s_zald E rfl (jv_lt hj_111 (by decide)) (z_in (u := z_145.toInt) rfl (by omega) (by omega)) dX10_layWalk_195 ?_
                    refine z_nm (P := fun z => z.toInt = ((upI v111 110 q111_7_103.toNatClampNeg q111_5_103).2.2.1 109 z_145.toNatClampNeg).toInt ∧ 0 ≤ z.toInt ∧ z.toInt ≤ 1) ⟨rfl, (ra_109 hj_111 _)⟩ (fun z_147 hz_147 => ?_)
                    have hv_ := (ly_at (f := (upI v111 110 q111_7_103.toNatClampNeg q111_5_103).2.2.1 109) (a := z_147) hi3_ (by omega) (by first | omega | decide) (by omega)).trans (congrArg (fun f_ : Nat → Int32 => (f_ (16 * (q111_7_103.toInt.toNat + 1) + 2 * q168_8_134.toInt.toNat + (0 : Int32).toInt.toNat)).toInt) ((upI_ne (by decide)).trans hl111.1))
                    refine z_if_ne (tgt := 205) (u := z_147.toInt) E dX10_layWalk_196 (by decide) rfl (fun h_148 => ?_) (fun h_148 => ?_)
                    ·
                      have hnx_ : ¬ (v50.2.2.1 109 (16 * (q111_7_103.toInt.toNat + 1) + 2 * q168_8_134.toInt.toNat + (0 : Int32).toInt.toNat)).toInt = 0 := by omega
                      refine s_iload E dX10_layWalk_205 rfl ?_
                      refine s_istore (L2 := [some (AR 95), some (AI x1), some (AI x2), some (AI x3), some (AI 0), some (AI q168_8_134), some (AI q50_6_15), some (AI q111_7_103), some (AI q168_8_134)]) E dX10_layWalk_207 (by decide) rfl ?_
                      refine z_iinc (u := q111_7_103.toInt) (L2 := fun z_149 => [some (AR 95), some (AI x1), some (AI x2), some (AI x3), some (AI 0), some (AI q168_8_134), some (AI q50_6_15), some (AI z_149), some (AI q168_8_134)]) E dX10_layWalk_209 rfl rfl (by decide) (fun _ => rfl) (by decide) (by omega) (by omega) (fun z_149 hz_149 => ?_)
                      refine s_goto (tgt := 111) E dX10_layWalk_212 (by decide) ?_
                      refine s_drop (i := 8) (L2 := [some (AR 95), some (AI x1), some (AI x2), some (AI x3), some (AI 0), some (AI q168_8_134), some (AI q50_6_15), some (AI z_149), none]) rfl ?_
                      exact ih111 ⟨0, q168_8_134, z_149⟩ (upI v111 110 q111_7_103.toNatClampNeg q111_5_103) ⟨⟨by decide, by decide⟩, ⟨by have hb_ := z32 q168_8_134; omega, by have hb_ := z32 q168_8_134; omega⟩, ⟨by have hb_ := z32 z_149; omega, by have hb_ := z32 z_149; omega⟩, (⟨(upI_ne (by decide)).trans hl111.1, frm_up hl111.2.1, by omega, by first | (intro h_; exfalso; omega) | exact fun _ => (by have e7_ : z_149.toInt.toNat = q111_7_103.toInt.toNat + 1 := (by omega); rw [e7_]; exact hnx_)⟩), hj_111⟩ (by first | omega | decide | (dsimp only; omega) | (dsimp only; decide))
                    ·
                      have hne_ : ¬ q168_8_134.toInt.toNat = cw := by first | (intro e_; subst e_; have := hbs_.mpr cw4; omega) | (intro e_; subst e_; subst tw_; omega)
                      have hne2_ : ¬ q168_8_134.toInt = (cw : Int) := by omega
                      refine z_iinc (u := q168_8_134.toInt) (L2 := fun z_150 => [some (AR 95), some (AI x1), some (AI x2), some (AI x3), some (AI 0), some (AI q111_5_103), some (AI q50_6_15), some (AI q111_7_103), some (AI z_150)]) E dX10_layWalk_199 rfl rfl (by decide) (fun _ => rfl) (by decide) (by omega) (by omega) (fun z_150 hz_150 => ?_)
                      refine s_goto (tgt := 168) E dX10_layWalk_202 (by decide) ?_
                      exact ih168 z_150 (upI v111 110 q111_7_103.toNatClampNeg q111_5_103) ⟨⟨by have hb_ := z32 z_150; omega, by have hb_ := z32 z_150; omega⟩, (by omega), rfl⟩ (by first | omega | decide | (dsimp only; omega) | (dsimp only; decide))
                ·
                  refine s_iconst (v := 1) E dX10_layWalk_158 (by decide) ?_
                  refine s_goto (tgt := 163) E dX10_layWalk_159 (by decide) ?_
                  refine s_istore (L2 := [some (AR 95), some (AI x1), some (AI x2), some (AI x3), some (AI 1), some (AI q111_5_103), some (AI q50_6_15), some (AI q111_7_103), none]) E dX10_layWalk_163 (by decide) rfl ?_
                  have hth_ : (1 : Int32).toInt = 1 ↔ ((q111_4_103 : Int32).toInt = 1 ∨ TKs u_5 x1 x2 q111_5_103.toInt q111_7_103.toInt.toNat) := by first | exact ⟨fun _ => Or.inl (by omega), fun _ => by decide⟩ | exact ⟨fun _ => Or.inr (hk_.mp (by omega)), fun _ => by decide⟩ | exact ⟨fun h_ => absurd h_ (by decide), fun h_ => h_.elim (fun g_ => by omega) (fun g_ => absurd (hk_.mpr g_) (by omega))⟩
                  obtain ⟨cw, tw, cw1, cw2, cw3, cw4, cw5⟩ := hcg_ q111_7_103.toInt.toNat q111_5_103.toInt.toNat q111_4_103.toInt.toNat (by omega) (by omega) (by omega) (by omega) (hl111.2.2.2 (by omega))
                  have hN2_ : (u_5.2.2.1 96 0).toInt ≤ 8 := by omega
                  have tw_ : tw = (1 : Int32).toInt.toNat := tw_eq cw2 cw3 hth_ (by omega) ⟨by omega, by omega⟩ (by first | omega | decide) (by first | omega | decide)
                  refine s_iconst (v := 0) E dX10_layWalk_165 (by decide) ?_
                  refine s_istore (L2 := [some (AR 95), some (AI x1), some (AI x2), some (AI x3), some (AI 1), some (AI q111_5_103), some (AI q50_6_15), some (AI q111_7_103), some (AI 0)]) E dX10_layWalk_166 (by decide) rfl ?_
                  refine z_loop (St := Int32) (Pi := fun q168_8_150 v168 => (0 ≤ q168_8_150.toInt ∧ q168_8_150.toInt ≤ 7) ∧ (q168_8_150.toInt ≤ (cw : Int)) ∧ (upI v111 110 q111_7_103.toNatClampNeg q111_5_103) = v168) (Lf := fun q168_8_150 => [some (AR 95), some (AI x1), some (AI x2), some (AI x3), some (AI 1), some (AI q111_5_103), some (AI q50_6_15), some (AI q111_7_103), some (AI q168_8_150)]) (fun q168_8_150 _ => ((cw : Int) + 1 - q168_8_150.toInt).toNat) 0 ⟨⟨by decide, by decide⟩, (by have h0_ : (0 : Int32).toInt = 0 := (by decide); omega), rfl⟩ ?_
                  rintro q168_8_150 v168 ⟨hq168_8, hl168, hv_⟩ ih168
                  subst hv_
                  refine s_loc (L2 := [some (AR 95), some (AI x1), some (AI x2), some (AI x3), some (AI 1), some (AI q111_5_103), some (AI q50_6_15), some (AI q111_7_103), some (AI q168_8_150)]) rfl ?_
                  refine s_aload_n E dX10_layWalk_168 rfl rfl ?_
                  refine s_iload_n E dX10_layWalk_169 rfl rfl ?_
                  refine s_iload E dX10_layWalk_170 rfl ?_
                  refine s_iload E dX10_layWalk_172 rfl ?_
                  refine s_vI (As := [AI x2, AI q111_5_103, AI q168_8_150]) (S := []) E (Z_X10_isBeside_95 l D aC b (upI v111 110 q111_7_103.toNatClampNeg q111_5_103) x2 q111_5_103 q168_8_150 hj_111.1 ⟨by have hb_ := z32 x2; omega, by have hb_ := z32 x2; omega⟩ ⟨by have hb_ := z32 q111_5_103; omega, by have hb_ := z32 q111_5_103; omega⟩ ⟨by have hb_ := z32 q168_8_150; omega, by have hb_ := z32 q168_8_150; omega⟩) cv_X10_352 rfl rfl rfl (jv_lt hj_111 (by decide)) (Nat.le_of_ble_eq_true rfl) (Nat.le_of_ble_eq_true rfl) ⟨(Nat.le_of_ble_eq_true rfl), (Nat.le_of_ble_eq_true rfl)⟩ (Nat.le_of_ble_eq_true rfl) dX10_layWalk_174 (fun z_154 u_152 hp_153 => ?_)
                  obtain ⟨hz_154, hxz_154, hp_153⟩ := hp_153
                  subst hp_153
                  have hbs_ := frm_bs (frm_up hl111.2.1) hxz_154
                  refine z_if_eq (tgt := 199) (u := z_154.toInt) E dX10_layWalk_177 (by decide) rfl (fun h_156 => ?_) (fun h_156 => ?_)
                  ·
                    have hne_ : ¬ q168_8_150.toInt.toNat = cw := by first | (intro e_; subst e_; have := hbs_.mpr cw4; omega) | (intro e_; subst e_; subst tw_; omega)
                    have hne2_ : ¬ q168_8_150.toInt = (cw : Int) := by omega
                    refine z_iinc (u := q168_8_150.toInt) (L2 := fun z_157 => [some (AR 95), some (AI x1), some (AI x2), some (AI x3), some (AI 1), some (AI q111_5_103), some (AI q50_6_15), some (AI q111_7_103), some (AI z_157)]) E dX10_layWalk_199 rfl rfl (by decide) (fun _ => rfl) (by decide) (by omega) (by omega) (fun z_157 hz_157 => ?_)
                    refine s_goto (tgt := 168) E dX10_layWalk_202 (by decide) ?_
                    exact ih168 z_157 (upI v111 110 q111_7_103.toNatClampNeg q111_5_103) ⟨⟨by have hb_ := z32 z_157; omega, by have hb_ := z32 z_157; omega⟩, (by omega), rfl⟩ (by first | omega | decide | (dsimp only; omega) | (dsimp only; decide))
                  ·
                    refine s_aload_n E dX10_layWalk_180 rfl rfl ?_
                    refine s_gR (r := 109) E fg_X10_55 rfl rfl (jv_lt hj_111 (by decide)) (jv_r hj_111 (by decide +kernel)) dX10_layWalk_181 ?_
                    refine s_iload E dX10_layWalk_184 rfl ?_
                    refine s_iconst (v := 1) E dX10_layWalk_186 (by decide) ?_
                    refine z_iadd (u := q111_7_103.toInt) (v := 1) E dX10_layWalk_187 rfl (by decide) (by omega) (by omega) (fun z_158 hz_158 => ?_)
                    refine s_iload E dX10_layWalk_188 rfl ?_
                    refine s_iload E dX10_layWalk_190 rfl ?_
                    refine s_sI (As := [AI z_158, AI q168_8_150, AI 1]) (S := [AR 109]) E (Z_X10_carryState l D aC b (upI v111 110 q111_7_103.toNatClampNeg q111_5_103) z_158 q168_8_150 1 hj_111.1 ⟨by have hb_ := z32 z_158; omega, by have hb_ := z32 z_158; omega⟩ ⟨by have hb_ := z32 q168_8_150; omega, by have hb_ := z32 q168_8_150; omega⟩ (by decide)) cs_X10_355 rfl rfl (Nat.le_of_ble_eq_true rfl) (Nat.le_of_ble_eq_true rfl) ⟨(Nat.le_of_ble_eq_true rfl), (Nat.le_of_ble_eq_true rfl)⟩ (Nat.le_of_ble_eq_true rfl) dX10_layWalk_192 (fun z_161 u_159 hp_160 => ?_)
                    obtain ⟨hz_161, hxz_161, hp_160⟩ := hp_160
                    have hc_ : (1 : Int32).toInt = 1 := by decide
                    subst hp_160
                    have hi3_ : z_161.toInt = 16 * ((q111_7_103.toInt.toNat + 1 : Nat) : Int) + 2 * q168_8_150.toInt + (1 : Int32).toInt := by omega
                    refine s_zald E rfl (jv_lt hj_111 (by decide)) (z_in (u := z_161.toInt) rfl (by omega) (by omega)) dX10_layWalk_195 ?_
                    refine z_nm (P := fun z => z.toInt = ((upI v111 110 q111_7_103.toNatClampNeg q111_5_103).2.2.1 109 z_161.toNatClampNeg).toInt ∧ 0 ≤ z.toInt ∧ z.toInt ≤ 1) ⟨rfl, (ra_109 hj_111 _)⟩ (fun z_163 hz_163 => ?_)
                    have hv_ := (ly_at (f := (upI v111 110 q111_7_103.toNatClampNeg q111_5_103).2.2.1 109) (a := z_163) hi3_ (by omega) (by first | omega | decide) (by omega)).trans (congrArg (fun f_ : Nat → Int32 => (f_ (16 * (q111_7_103.toInt.toNat + 1) + 2 * q168_8_150.toInt.toNat + (1 : Int32).toInt.toNat)).toInt) ((upI_ne (by decide)).trans hl111.1))
                    refine z_if_ne (tgt := 205) (u := z_163.toInt) E dX10_layWalk_196 (by decide) rfl (fun h_164 => ?_) (fun h_164 => ?_)
                    ·
                      have hnx_ : ¬ (v50.2.2.1 109 (16 * (q111_7_103.toInt.toNat + 1) + 2 * q168_8_150.toInt.toNat + (1 : Int32).toInt.toNat)).toInt = 0 := by omega
                      refine s_iload E dX10_layWalk_205 rfl ?_
                      refine s_istore (L2 := [some (AR 95), some (AI x1), some (AI x2), some (AI x3), some (AI 1), some (AI q168_8_150), some (AI q50_6_15), some (AI q111_7_103), some (AI q168_8_150)]) E dX10_layWalk_207 (by decide) rfl ?_
                      refine z_iinc (u := q111_7_103.toInt) (L2 := fun z_165 => [some (AR 95), some (AI x1), some (AI x2), some (AI x3), some (AI 1), some (AI q168_8_150), some (AI q50_6_15), some (AI z_165), some (AI q168_8_150)]) E dX10_layWalk_209 rfl rfl (by decide) (fun _ => rfl) (by decide) (by omega) (by omega) (fun z_165 hz_165 => ?_)
                      refine s_goto (tgt := 111) E dX10_layWalk_212 (by decide) ?_
                      refine s_drop (i := 8) (L2 := [some (AR 95), some (AI x1), some (AI x2), some (AI x3), some (AI 1), some (AI q168_8_150), some (AI q50_6_15), some (AI z_165), none]) rfl ?_
                      exact ih111 ⟨1, q168_8_150, z_165⟩ (upI v111 110 q111_7_103.toNatClampNeg q111_5_103) ⟨⟨by decide, by decide⟩, ⟨by have hb_ := z32 q168_8_150; omega, by have hb_ := z32 q168_8_150; omega⟩, ⟨by have hb_ := z32 z_165; omega, by have hb_ := z32 z_165; omega⟩, (⟨(upI_ne (by decide)).trans hl111.1, frm_up hl111.2.1, by omega, by first | (intro h_; exfalso; omega) | exact fun _ => (by have e7_ : z_165.toInt.toNat = q111_7_103.toInt.toNat + 1 := (by omega); rw [e7_]; exact hnx_)⟩), hj_111⟩ (by first | omega | decide | (dsimp only; omega) | (dsimp only; decide))
                    ·
                      have hne_ : ¬ q168_8_150.toInt.toNat = cw := by first | (intro e_; subst e_; have := hbs_.mpr cw4; omega) | (intro e_; subst e_; subst tw_; omega)
                      have hne2_ : ¬ q168_8_150.toInt = (cw : Int) := by omega
                      refine z_iinc (u := q168_8_150.toInt) (L2 := fun z_166 => [some (AR 95), some (AI x1), some (AI x2), some (AI x3), some (AI 1), some (AI q111_5_103), some (AI q50_6_15), some (AI q111_7_103), some (AI z_166)]) E dX10_layWalk_199 rfl rfl (by decide) (fun _ => rfl) (by decide) (by omega) (by omega) (fun z_166 hz_166 => ?_)
                      refine s_goto (tgt := 168) E dX10_layWalk_202 (by decide) ?_
                      exact ih168 z_166 (upI v111 110 q111_7_103.toNatClampNeg q111_5_103) ⟨⟨by have hb_ := z32 z_166; omega, by have hb_ := z32 z_166; omega⟩, (by omega), rfl⟩ (by first | omega | decide | (dsimp only; omega) | (dsimp only; decide))
            ·
              refine s_goto (tgt := 209) E dX10_layWalk_136 (by decide) ?_
              refine z_iinc (u := q111_7_103.toInt) (L2 := fun z_167 => [some (AR 95), some (AI x1), some (AI x2), some (AI x3), some (AI q111_4_103), some (AI q111_5_103), some (AI q50_6_15), some (AI z_167), none]) E dX10_layWalk_209 rfl rfl (by decide) (fun _ => rfl) (by decide) (by omega) (by omega) (fun z_167 hz_167 => ?_)
              refine s_goto (tgt := 111) E dX10_layWalk_212 (by decide) ?_
              exact ih111 ⟨q111_4_103, q111_5_103, z_167⟩ (upI v111 110 q111_7_103.toNatClampNeg q111_5_103) ⟨⟨by have hb_ := z32 q111_4_103; omega, by have hb_ := z32 q111_4_103; omega⟩, ⟨by have hb_ := z32 q111_5_103; omega, by have hb_ := z32 q111_5_103; omega⟩, ⟨by have hb_ := z32 z_167; omega, by have hb_ := z32 z_167; omega⟩, (⟨(upI_ne (by decide)).trans hl111.1, frm_up hl111.2.1, by omega, by first | (intro h_; exfalso; omega) | exact fun _ => (by have e7_ : z_167.toInt.toNat = q111_7_103.toInt.toNat + 1 := (by omega); rw [e7_]; exact hnx_)⟩), hj_111⟩ (by first | omega | decide | (dsimp only; omega) | (dsimp only; decide))
        ·
          refine s_iconst (v := (-1)) E dX10_layWalk_106 (by decide) ?_
          exact r_int E dX10_layWalk_107 ⟨(by decide), hj_16⟩
      ·
        refine z_iinc (u := q50_6_15.toInt) (L2 := fun z_168 => [some (AR 95), some (AI x1), some (AI x2), some (AI x3), some (AI 0), some (AI z_12), some (AI z_168), none, none]) E dX10_layWalk_75 rfl rfl (by decide) (fun _ => rfl) (by decide) (by omega) (by omega) (fun z_168 hz_168 => ?_)
        refine s_aload_n E dX10_layWalk_78 rfl rfl ?_
        refine s_iload_n E dX10_layWalk_79 rfl rfl ?_
        refine s_iload_n E dX10_layWalk_80 rfl rfl ?_
        refine s_iload_n E dX10_layWalk_81 rfl rfl ?_
        refine s_iload E dX10_layWalk_82 rfl ?_
        refine s_vV (As := [AI x1, AI x2, AI x3, AI z_168]) (S := []) E (Z_X10_layCarry_95 l D aC b v50 x1 x2 x3 z_168 hj_16.1 ⟨by have hb_ := z32 x1; omega, by have hb_ := z32 x1; omega⟩ ⟨by have hb_ := z32 x2; omega, by have hb_ := z32 x2; omega⟩ ⟨by have hb_ := z32 x3; omega, by have hb_ := z32 x3; omega⟩ ⟨by have hb_ := z32 z_168; omega, by have hb_ := z32 z_168; omega⟩) cv_X10_358 rfl rfl rfl (jv_lt hj_16 (by decide)) (Nat.le_of_ble_eq_true rfl) (Nat.le_of_ble_eq_true rfl) ⟨(Nat.le_of_ble_eq_true rfl), (Nat.le_of_ble_eq_true rfl)⟩ (Nat.le_of_ble_eq_true rfl) dX10_layWalk_84 (fun u_169 hp_170 => ?_)
        obtain ⟨hx_hp_170, hf_u_169_95, hf_u_169_96, hf_u_169_102, hf_u_169_103, hf_u_169_106, hp_170⟩ := hp_170
        have hj_171 := jv_trans hj_16 hp_170
        have hfa_96_5 := congrArg Int32.toInt (congrFun hf_u_169_96 5)
        have hfa_96_0 := congrArg Int32.toInt (congrFun hf_u_169_96 0)
        have hF84_ : Frm u_169 v50 := ⟨hf_u_169_95, hf_u_169_96, hf_u_169_102, hf_u_169_103, hf_u_169_106⟩
        have hC84_ := hx_hp_170
        refine s_goto (tgt := 50) E dX10_layWalk_87 (by decide) ?_
        exact ih50 z_168 u_169 ⟨⟨by have hb_ := z32 z_168; omega, by have hb_ := z32 z_168; omega⟩, (⟨frm_tr hF84_ hl50.1, frm_cg hl50.1 hC84_⟩), hj_171⟩ (by first | omega | decide | (dsimp only; omega) | (dsimp only; decide))
  ·
    refine s_iconst (v := 1) E dX10_layWalk_18 (by decide) ?_
    refine s_goto (tgt := 23) E dX10_layWalk_19 (by decide) ?_
    refine s_istore (L2 := [some (AR 95), some (AI x1), some (AI x2), some (AI x3), some (AI 1), none, none, none, none]) E dX10_layWalk_23 (by decide) rfl ?_
    refine s_aload_n E dX10_layWalk_25 rfl rfl ?_
    refine s_gR (r := 96) E fg_X10_9 rfl rfl (jv_lt hj_8 (by decide)) (jv_r hj_8 (by decide +kernel)) dX10_layWalk_26 ?_
    refine s_bipush (v := 46) E dX10_layWalk_29 (by decide) ?_
    refine s_iconst (v := 2) E dX10_layWalk_31 (by decide) ?_
    refine s_iload_n E dX10_layWalk_32 rfl rfl ?_
    refine z_imul (u := 2) (v := x2.toInt) E dX10_layWalk_33 (by decide) rfl (by omega) (by omega) (fun z_172 hz_172 => ?_)
    refine z_iadd (u := 46) (v := z_172.toInt) E dX10_layWalk_34 (by decide) rfl (by omega) (by omega) (fun z_173 hz_173 => ?_)
    have hi_ : z_173.toNatClampNeg = 46 + 2 * x2.toInt.toNat := by have e_ : z_173.toNatClampNeg = z_173.toInt.toNat := rfl; omega
    refine s_iald E rfl (jv_lt hj_8 (by decide)) (z_in (u := z_173.toInt) rfl (by omega) (by omega)) dX10_layWalk_35 ?_
    refine z_nm (P := fun z => z.toInt = (u_5.2.2.1 96 z_173.toNatClampNeg).toInt ∧ 0 ≤ z.toInt ∧ z.toInt ≤ 7) ⟨rfl, (rs_v hj_8 (by decide) 0 7 46 56 2 z_173 z_173.toInt (by decide +kernel) rfl (by omega) (by omega) (by omega))⟩ (fun z_174 hz_174 => ?_)
    refine s_istore (L2 := [some (AR 95), some (AI x1), some (AI x2), some (AI x3), some (AI 1), some (AI z_174), none, none, none]) E dX10_layWalk_36 (by decide) rfl ?_
    have hN_ := rw_96_0 hj_8
    have hrm_ : z_174.toInt < (u_5.2.2.1 96 0).toInt := by have q_ := jv_room hj_8 x2.toInt.toNat (by omega) (by omega); rw [← hi_] at q_; omega
    refine s_iconst (v := 0) E dX10_layWalk_38 (by decide) ?_
    refine s_istore (L2 := [some (AR 95), some (AI x1), some (AI x2), some (AI x3), some (AI 1), some (AI z_174), some (AI 0), none, none]) E dX10_layWalk_39 (by decide) rfl ?_
    refine s_aload_n E dX10_layWalk_41 rfl rfl ?_
    refine s_iload_n E dX10_layWalk_42 rfl rfl ?_
    refine s_iload_n E dX10_layWalk_43 rfl rfl ?_
    refine s_iload_n E dX10_layWalk_44 rfl rfl ?_
    refine s_iload E dX10_layWalk_45 rfl ?_
    refine s_vV (As := [AI x1, AI x2, AI x3, AI 0]) (S := []) E (Z_X10_layCarry_95 l D aC b u_5 x1 x2 x3 0 hj_8.1 ⟨by have hb_ := z32 x1; omega, by have hb_ := z32 x1; omega⟩ ⟨by have hb_ := z32 x2; omega, by have hb_ := z32 x2; omega⟩ ⟨by have hb_ := z32 x3; omega, by have hb_ := z32 x3; omega⟩ (by decide)) cv_X10_358 rfl rfl rfl (jv_lt hj_8 (by decide)) (Nat.le_of_ble_eq_true rfl) (Nat.le_of_ble_eq_true rfl) ⟨(Nat.le_of_ble_eq_true rfl), (Nat.le_of_ble_eq_true rfl)⟩ (Nat.le_of_ble_eq_true rfl) dX10_layWalk_47 (fun u_175 hp_176 => ?_)
    have hc_ : (0 : Int32).toInt = 0 := by decide
    obtain ⟨hx_hp_176, hf_u_175_95, hf_u_175_96, hf_u_175_102, hf_u_175_103, hf_u_175_106, hp_176⟩ := hp_176
    have hj_177 := jv_trans hj_8 hp_176
    have hfa_96_5 := congrArg Int32.toInt (congrFun hf_u_175_96 5)
    have hfa_96_0 := congrArg Int32.toInt (congrFun hf_u_175_96 0)
    have hF47_ : Frm u_175 u_5 := ⟨hf_u_175_95, hf_u_175_96, hf_u_175_102, hf_u_175_103, hf_u_175_106⟩
    have hC47_ := hx_hp_176
    refine z_loop (St := Int32) (Pi := fun q50_6_177 v50 => (0 ≤ q50_6_177.toInt ∧ q50_6_177.toInt ≤ 14) ∧ (Frm v50 u_5 ∧ CG u_5 (v50.2.2.1 109) x1 x2 q50_6_177.toInt 0) ∧ Jv w v50) (Lf := fun q50_6_177 => [some (AR 95), some (AI x1), some (AI x2), some (AI x3), some (AI 1), some (AI z_174), some (AI q50_6_177), none, none]) (fun q50_6_177 _ => (15 - q50_6_177.toInt).toNat) 0 ⟨⟨by decide, by decide⟩, (⟨hF47_, hC47_⟩), hj_177⟩ ?_
    rintro q50_6_177 v50 ⟨hq50_6, hl50, hj_178⟩ ih50
    refine s_loc (L2 := [some (AR 95), some (AI x1), some (AI x2), some (AI x3), some (AI 1), some (AI z_174), some (AI q50_6_177), none, none]) rfl ?_
    refine s_iload E dX10_layWalk_50 rfl ?_
    refine s_aload_n E dX10_layWalk_52 rfl rfl ?_
    refine s_vI (As := []) (S := [AI q50_6_177]) E (Z_X10_dances_95 l D aC b v50  hj_178.1 ) cv_X10_247 rfl rfl rfl (jv_lt hj_178 (by decide)) (Nat.le_of_ble_eq_true rfl) (Nat.le_of_ble_eq_true rfl) ⟨(Nat.le_of_ble_eq_true rfl), (Nat.le_of_ble_eq_true rfl)⟩ (Nat.le_of_ble_eq_true rfl) dX10_layWalk_53 (fun z_181 u_179 hp_180 => ?_)
    obtain ⟨hz_181, hxz_181, hp_180⟩ := hp_180
    subst hp_180
    refine z_icmp_ge (tgt := 90) (u := q50_6_177.toInt) (v := z_181.toInt) E dX10_layWalk_56 (by decide) rfl rfl (fun h_183 => ?_) (fun h_183 => ?_)
    ·
      refine s_aload_n E dX10_layWalk_90 rfl rfl ?_
      refine s_gR (r := 109) E fg_X10_55 rfl rfl (jv_lt hj_178 (by decide)) (jv_r hj_178 (by decide +kernel)) dX10_layWalk_91 ?_
      refine s_iconst (v := 0) E dX10_layWalk_94 (by decide) ?_
      refine s_iload E dX10_layWalk_95 rfl ?_
      refine s_iload E dX10_layWalk_97 rfl ?_
      refine s_sI (As := [AI 0, AI z_174, AI 1]) (S := [AR 109]) E (Z_X10_carryState l D aC b v50 0 z_174 1 hj_178.1 (by decide) ⟨by have hb_ := z32 z_174; omega, by have hb_ := z32 z_174; omega⟩ (by decide)) cs_X10_355 rfl rfl (Nat.le_of_ble_eq_true rfl) (Nat.le_of_ble_eq_true rfl) ⟨(Nat.le_of_ble_eq_true rfl), (Nat.le_of_ble_eq_true rfl)⟩ (Nat.le_of_ble_eq_true rfl) dX10_layWalk_99 (fun z_186 u_184 hp_185 => ?_)
      obtain ⟨hz_186, hxz_186, hp_185⟩ := hp_185
      have hc_ : (0 : Int32).toInt = 0 := by decide
      have hc_ : (1 : Int32).toInt = 1 := by decide
      subst hp_185
      have hi2_ : z_186.toInt = 16 * ((0 : Nat) : Int) + 2 * z_174.toInt + (1 : Int32).toInt := by omega
      have hc0_ : (0 : Int32).toInt = 0 := (by decide)
      have hc1_ : (1 : Int32).toInt = 1 := (by decide)
      refine s_zald E rfl (jv_lt hj_178 (by decide)) (z_in (u := z_186.toInt) rfl (by omega) (by omega)) dX10_layWalk_102 ?_
      refine z_nm (P := fun z => z.toInt = (v50.2.2.1 109 z_186.toNatClampNeg).toInt ∧ 0 ≤ z.toInt ∧ z.toInt ≤ 1) ⟨rfl, (ra_109 hj_178 _)⟩ (fun z_188 hz_188 => ?_)
      have hs_ := ly_at (f := v50.2.2.1 109) (a := z_188) hi2_ (by omega) (by omega) (by omega)
      refine z_if_ne (tgt := 108) (u := z_188.toInt) E dX10_layWalk_103 (by decide) rfl (fun h_189 => ?_) (fun h_189 => ?_)
      ·
        have hcg_ := hl50.2
        have hfm_ := hl50.1
        have hz0_ : (0 : Int32).toInt = 0 := (by decide)
        refine s_iconst (v := 0) E dX10_layWalk_108 (by decide) ?_
        refine s_istore (L2 := [some (AR 95), some (AI x1), some (AI x2), some (AI x3), some (AI 1), some (AI z_174), some (AI q50_6_177), some (AI 0), none]) E dX10_layWalk_109 (by decide) rfl ?_
        refine z_loop (St := Int32 × Int32 × Int32) (Pi := fun ⟨q111_4_189, q111_5_189, q111_7_189⟩ v111 => (0 ≤ q111_4_189.toInt ∧ q111_4_189.toInt ≤ 1) ∧ (0 ≤ q111_5_189.toInt ∧ q111_5_189.toInt ≤ 7) ∧ (0 ≤ q111_7_189.toInt ∧ q111_7_189.toInt ≤ 64) ∧ ((v111.2.2.1 109) = (v50.2.2.1 109) ∧ Frm v111 u_5 ∧ q111_5_189.toInt < (u_5.2.2.1 96 0).toInt ∧ (q111_7_189.toInt ≤ q50_6_177.toInt → ¬ (v50.2.2.1 109 (16 * q111_7_189.toInt.toNat + 2 * q111_5_189.toInt.toNat + q111_4_189.toInt.toNat)).toInt = 0)) ∧ Jv w v111) (Lf := fun ⟨q111_4_189, q111_5_189, q111_7_189⟩ => [some (AR 95), some (AI x1), some (AI x2), some (AI x3), some (AI q111_4_189), some (AI q111_5_189), some (AI q50_6_177), some (AI q111_7_189), none]) (fun ⟨q111_4_189, q111_5_189, q111_7_189⟩ _ => (65 - q111_7_189.toInt).toNat) ⟨1, z_174, 0⟩ ⟨⟨by decide, by decide⟩, ⟨by have hb_ := z32 z_174; omega, by have hb_ := z32 z_174; omega⟩, ⟨by decide, by decide⟩, (⟨rfl, hfm_, by omega, fun _ h_ => by rw [show 16 * (0 : Int32).toInt.toNat = 16 * 0 by decide] at h_; omega⟩), hj_178⟩ ?_
        rintro ⟨q111_4_189, q111_5_189, q111_7_189⟩ v111 ⟨hq111_4, hq111_5, hq111_7, hl111, hj_190⟩ ih111
        refine s_loc (L2 := [some (AR 95), some (AI x1), some (AI x2), some (AI x3), some (AI q111_4_189), some (AI q111_5_189), some (AI q50_6_177), some (AI q111_7_189), none]) rfl ?_
        refine s_iload E dX10_layWalk_111 rfl ?_
        refine s_aload_n E dX10_layWalk_113 rfl rfl ?_
        refine s_vI (As := []) (S := [AI q111_7_189]) E (Z_X10_dances_95 l D aC b v111  hj_190.1 ) cv_X10_247 rfl rfl rfl (jv_lt hj_190 (by decide)) (Nat.le_of_ble_eq_true rfl) (Nat.le_of_ble_eq_true rfl) ⟨(Nat.le_of_ble_eq_true rfl), (Nat.le_of_ble_eq_true rfl)⟩ (Nat.le_of_ble_eq_true rfl) dX10_layWalk_114 (fun z_193 u_191 hp_192 => ?_)
        obtain ⟨hz_193, hxz_193, hp_192⟩ := hp_192
        subst hp_192
        refine z_icmp_gt (tgt := 215) (u := q111_7_189.toInt) (v := z_193.toInt) E dX10_layWalk_117 (by decide) rfl rfl (fun h_195 => ?_) (fun h_195 => ?_)
        ·
          refine s_iload E dX10_layWalk_215 rfl ?_
          exact r_int E dX10_layWalk_217 ⟨⟨by have hb_ := z32 q50_6_177; omega, by have hb_ := z32 q50_6_177; omega⟩, hj_190⟩
        ·
          refine s_aload_n E dX10_layWalk_120 rfl rfl ?_
          refine s_gR (r := 110) E fg_X10_58 rfl rfl (jv_lt hj_190 (by decide)) (jv_r hj_190 (by decide +kernel)) dX10_layWalk_121 ?_
          refine s_iload E dX10_layWalk_124 rfl ?_
          refine s_iload E dX10_layWalk_126 rfl ?_
          refine s_iast E rfl (jv_lt hj_190 (by decide)) (z_in (u := q111_7_189.toInt) rfl (by omega) (by omega)) dX10_layWalk_128 ?_
          have hj_197 : Jv w (upI v111 110 q111_7_189.toNatClampNeg q111_5_189) := (jv_a_110 hj_190 (by have hb_ := z32 q111_5_189; omega) (by have hb_ := z32 q111_5_189; omega))
          have hke_ : ((upI v111 110 q111_7_189.toNatClampNeg q111_5_189).2.2.1 96 5).toInt = (v111.2.2.1 96 5).toInt := rfl
          have hke_ : ((upI v111 110 q111_7_189.toNatClampNeg q111_5_189).2.2.1 96 0).toInt = (v111.2.2.1 96 0).toInt := rfl
          refine s_iload E dX10_layWalk_129 rfl ?_
          refine s_iload E dX10_layWalk_131 rfl ?_
          refine z_icmp_lt (tgt := 139) (u := q111_7_189.toInt) (v := q50_6_177.toInt) E dX10_layWalk_133 (by decide) rfl rfl (fun h_198 => ?_) (fun h_198 => ?_)
          ·
            refine s_iload E dX10_layWalk_139 rfl ?_
            refine s_iconst (v := 1) E dX10_layWalk_141 (by decide) ?_
            refine z_icmp_eq (tgt := 158) (u := q111_4_189.toInt) (v := 1) E dX10_layWalk_142 (by decide) rfl (by decide) (fun h_199 => ?_) (fun h_199 => ?_)
            ·
              refine s_iconst (v := 1) E dX10_layWalk_158 (by decide) ?_
              refine s_goto (tgt := 163) E dX10_layWalk_159 (by decide) ?_
              refine s_istore (L2 := [some (AR 95), some (AI x1), some (AI x2), some (AI x3), some (AI 1), some (AI q111_5_189), some (AI q50_6_177), some (AI q111_7_189), none]) E dX10_layWalk_163 (by decide) rfl ?_
              have hth_ : (1 : Int32).toInt = 1 ↔ ((q111_4_189 : Int32).toInt = 1 ∨ TKs u_5 x1 x2 q111_5_189.toInt q111_7_189.toInt.toNat) := by first | exact ⟨fun _ => Or.inl (by omega), fun _ => by decide⟩ | exact ⟨fun _ => Or.inr (hk_.mp (by omega)), fun _ => by decide⟩ | exact ⟨fun h_ => absurd h_ (by decide), fun h_ => h_.elim (fun g_ => by omega) (fun g_ => absurd (hk_.mpr g_) (by omega))⟩
              obtain ⟨cw, tw, cw1, cw2, cw3, cw4, cw5⟩ := hcg_ q111_7_189.toInt.toNat q111_5_189.toInt.toNat q111_4_189.toInt.toNat (by omega) (by omega) (by omega) (by omega) (hl111.2.2.2 (by omega))
              have hN2_ : (u_5.2.2.1 96 0).toInt ≤ 8 := by omega
              have tw_ : tw = (1 : Int32).toInt.toNat := tw_eq cw2 cw3 hth_ (by omega) ⟨by omega, by omega⟩ (by first | omega | decide) (by first | omega | decide)
              refine s_iconst (v := 0) E dX10_layWalk_165 (by decide) ?_
              refine s_istore (L2 := [some (AR 95), some (AI x1), some (AI x2), some (AI x3), some (AI 1), some (AI q111_5_189), some (AI q50_6_177), some (AI q111_7_189), some (AI 0)]) E dX10_layWalk_166 (by decide) rfl ?_
              refine z_loop (St := Int32) (Pi := fun q168_8_199 v168 => (0 ≤ q168_8_199.toInt ∧ q168_8_199.toInt ≤ 7) ∧ (q168_8_199.toInt ≤ (cw : Int)) ∧ (upI v111 110 q111_7_189.toNatClampNeg q111_5_189) = v168) (Lf := fun q168_8_199 => [some (AR 95), some (AI x1), some (AI x2), some (AI x3), some (AI 1), some (AI q111_5_189), some (AI q50_6_177), some (AI q111_7_189), some (AI q168_8_199)]) (fun q168_8_199 _ => ((cw : Int) + 1 - q168_8_199.toInt).toNat) 0 ⟨⟨by decide, by decide⟩, (by have h0_ : (0 : Int32).toInt = 0 := (by decide); omega), rfl⟩ ?_
              rintro q168_8_199 v168 ⟨hq168_8, hl168, hv_⟩ ih168
              subst hv_
              refine s_loc (L2 := [some (AR 95), some (AI x1), some (AI x2), some (AI x3), some (AI 1), some (AI q111_5_189), some (AI q50_6_177), some (AI q111_7_189), some (AI q168_8_199)]) rfl ?_
              refine s_aload_n E dX10_layWalk_168 rfl rfl ?_
              refine s_iload_n E dX10_layWalk_169 rfl rfl ?_
              refine s_iload E dX10_layWalk_170 rfl ?_
              refine s_iload E dX10_layWalk_172 rfl ?_
              refine s_vI (As := [AI x2, AI q111_5_189, AI q168_8_199]) (S := []) E (Z_X10_isBeside_95 l D aC b (upI v111 110 q111_7_189.toNatClampNeg q111_5_189) x2 q111_5_189 q168_8_199 hj_197.1 ⟨by have hb_ := z32 x2; omega, by have hb_ := z32 x2; omega⟩ ⟨by have hb_ := z32 q111_5_189; omega, by have hb_ := z32 q111_5_189; omega⟩ ⟨by have hb_ := z32 q168_8_199; omega, by have hb_ := z32 q168_8_199; omega⟩) cv_X10_352 rfl rfl rfl (jv_lt hj_197 (by decide)) (Nat.le_of_ble_eq_true rfl) (Nat.le_of_ble_eq_true rfl) ⟨(Nat.le_of_ble_eq_true rfl), (Nat.le_of_ble_eq_true rfl)⟩ (Nat.le_of_ble_eq_true rfl) dX10_layWalk_174 (fun z_203 u_201 hp_202 => ?_)
              obtain ⟨hz_203, hxz_203, hp_202⟩ := hp_202
              subst hp_202
              have hbs_ := frm_bs (frm_up hl111.2.1) hxz_203
              refine z_if_eq (tgt := 199) (u := z_203.toInt) E dX10_layWalk_177 (by decide) rfl (fun h_205 => ?_) (fun h_205 => ?_)
              ·
                have hne_ : ¬ q168_8_199.toInt.toNat = cw := by first | (intro e_; subst e_; have := hbs_.mpr cw4; omega) | (intro e_; subst e_; subst tw_; omega)
                have hne2_ : ¬ q168_8_199.toInt = (cw : Int) := by omega
                refine z_iinc (u := q168_8_199.toInt) (L2 := fun z_206 => [some (AR 95), some (AI x1), some (AI x2), some (AI x3), some (AI 1), some (AI q111_5_189), some (AI q50_6_177), some (AI q111_7_189), some (AI z_206)]) E dX10_layWalk_199 rfl rfl (by decide) (fun _ => rfl) (by decide) (by omega) (by omega) (fun z_206 hz_206 => ?_)
                refine s_goto (tgt := 168) E dX10_layWalk_202 (by decide) ?_
                exact ih168 z_206 (upI v111 110 q111_7_189.toNatClampNeg q111_5_189) ⟨⟨by have hb_ := z32 z_206; omega, by have hb_ := z32 z_206; omega⟩, (by omega), rfl⟩ (by first | omega | decide | (dsimp only; omega) | (dsimp only; decide))
              ·
                refine s_aload_n E dX10_layWalk_180 rfl rfl ?_
                refine s_gR (r := 109) E fg_X10_55 rfl rfl (jv_lt hj_197 (by decide)) (jv_r hj_197 (by decide +kernel)) dX10_layWalk_181 ?_
                refine s_iload E dX10_layWalk_184 rfl ?_
                refine s_iconst (v := 1) E dX10_layWalk_186 (by decide) ?_
                refine z_iadd (u := q111_7_189.toInt) (v := 1) E dX10_layWalk_187 rfl (by decide) (by omega) (by omega) (fun z_207 hz_207 => ?_)
                refine s_iload E dX10_layWalk_188 rfl ?_
                refine s_iload E dX10_layWalk_190 rfl ?_
                refine s_sI (As := [AI z_207, AI q168_8_199, AI 1]) (S := [AR 109]) E (Z_X10_carryState l D aC b (upI v111 110 q111_7_189.toNatClampNeg q111_5_189) z_207 q168_8_199 1 hj_197.1 ⟨by have hb_ := z32 z_207; omega, by have hb_ := z32 z_207; omega⟩ ⟨by have hb_ := z32 q168_8_199; omega, by have hb_ := z32 q168_8_199; omega⟩ (by decide)) cs_X10_355 rfl rfl (Nat.le_of_ble_eq_true rfl) (Nat.le_of_ble_eq_true rfl) ⟨(Nat.le_of_ble_eq_true rfl), (Nat.le_of_ble_eq_true rfl)⟩ (Nat.le_of_ble_eq_true rfl) dX10_layWalk_192 (fun z_210 u_208 hp_209 => ?_)
                obtain ⟨hz_210, hxz_210, hp_209⟩ := hp_209
                have hc_ : (1 : Int32).toInt = 1 := by decide
                subst hp_209
                have hi3_ : z_210.toInt = 16 * ((q111_7_189.toInt.toNat + 1 : Nat) : Int) + 2 * q168_8_199.toInt + (1 : Int32).toInt := by omega
                refine s_zald E rfl (jv_lt hj_197 (by decide)) (z_in (u := z_210.toInt) rfl (by omega) (by omega)) dX10_layWalk_195 ?_
                refine z_nm (P := fun z => z.toInt = ((upI v111 110 q111_7_189.toNatClampNeg q111_5_189).2.2.1 109 z_210.toNatClampNeg).toInt ∧ 0 ≤ z.toInt ∧ z.toInt ≤ 1) ⟨rfl, (ra_109 hj_197 _)⟩ (fun z_212 hz_212 => ?_)
                have hv_ := (ly_at (f := (upI v111 110 q111_7_189.toNatClampNeg q111_5_189).2.2.1 109) (a := z_212) hi3_ (by omega) (by first | omega | decide) (by omega)).trans (congrArg (fun f_ : Nat → Int32 => (f_ (16 * (q111_7_189.toInt.toNat + 1) + 2 * q168_8_199.toInt.toNat + (1 : Int32).toInt.toNat)).toInt) ((upI_ne (by decide)).trans hl111.1))
                refine z_if_ne (tgt := 205) (u := z_212.toInt) E dX10_layWalk_196 (by decide) rfl (fun h_213 => ?_) (fun h_213 => ?_)
                ·
                  have hnx_ : ¬ (v50.2.2.1 109 (16 * (q111_7_189.toInt.toNat + 1) + 2 * q168_8_199.toInt.toNat + (1 : Int32).toInt.toNat)).toInt = 0 := by omega
                  refine s_iload E dX10_layWalk_205 rfl ?_
                  refine s_istore (L2 := [some (AR 95), some (AI x1), some (AI x2), some (AI x3), some (AI 1), some (AI q168_8_199), some (AI q50_6_177), some (AI q111_7_189), some (AI q168_8_199)]) E dX10_layWalk_207 (by decide) rfl ?_
                  refine z_iinc (u := q111_7_189.toInt) (L2 := fun z_214 => [some (AR 95), some (AI x1), some (AI x2), some (AI x3), some (AI 1), some (AI q168_8_199), some (AI q50_6_177), some (AI z_214), some (AI q168_8_199)]) E dX10_layWalk_209 rfl rfl (by decide) (fun _ => rfl) (by decide) (by omega) (by omega) (fun z_214 hz_214 => ?_)
                  refine s_goto (tgt := 111) E dX10_layWalk_212 (by decide) ?_
                  refine s_drop (i := 8) (L2 := [some (AR 95), some (AI x1), some (AI x2), some (AI x3), some (AI 1), some (AI q168_8_199), some (AI q50_6_177), some (AI z_214), none]) rfl ?_
                  exact ih111 ⟨1, q168_8_199, z_214⟩ (upI v111 110 q111_7_189.toNatClampNeg q111_5_189) ⟨⟨by decide, by decide⟩, ⟨by have hb_ := z32 q168_8_199; omega, by have hb_ := z32 q168_8_199; omega⟩, ⟨by have hb_ := z32 z_214; omega, by have hb_ := z32 z_214; omega⟩, (⟨(upI_ne (by decide)).trans hl111.1, frm_up hl111.2.1, by omega, by first | (intro h_; exfalso; omega) | exact fun _ => (by have e7_ : z_214.toInt.toNat = q111_7_189.toInt.toNat + 1 := (by omega); rw [e7_]; exact hnx_)⟩), hj_197⟩ (by first | omega | decide | (dsimp only; omega) | (dsimp only; decide))
                ·
                  have hne_ : ¬ q168_8_199.toInt.toNat = cw := by first | (intro e_; subst e_; have := hbs_.mpr cw4; omega) | (intro e_; subst e_; subst tw_; omega)
                  have hne2_ : ¬ q168_8_199.toInt = (cw : Int) := by omega
                  refine z_iinc (u := q168_8_199.toInt) (L2 := fun z_215 => [some (AR 95), some (AI x1), some (AI x2), some (AI x3), some (AI 1), some (AI q111_5_189), some (AI q50_6_177), some (AI q111_7_189), some (AI z_215)]) E dX10_layWalk_199 rfl rfl (by decide) (fun _ => rfl) (by decide) (by omega) (by omega) (fun z_215 hz_215 => ?_)
                  refine s_goto (tgt := 168) E dX10_layWalk_202 (by decide) ?_
                  exact ih168 z_215 (upI v111 110 q111_7_189.toNatClampNeg q111_5_189) ⟨⟨by have hb_ := z32 z_215; omega, by have hb_ := z32 z_215; omega⟩, (by omega), rfl⟩ (by first | omega | decide | (dsimp only; omega) | (dsimp only; decide))
            ·
              refine s_aload_n E dX10_layWalk_145 rfl rfl ?_
              refine s_iload_n E dX10_layWalk_146 rfl rfl ?_
              refine s_iload_n E dX10_layWalk_147 rfl rfl ?_
              refine s_iload E dX10_layWalk_148 rfl ?_
              refine s_iload E dX10_layWalk_150 rfl ?_
              refine s_vI (As := [AI x1, AI x2, AI q111_5_189, AI q111_7_189]) (S := []) E (Z_X10_takesIn_95 l D aC b (upI v111 110 q111_7_189.toNatClampNeg q111_5_189) x1 x2 q111_5_189 q111_7_189 hj_197.1 ⟨by have hb_ := z32 x1; omega, by have hb_ := z32 x1; omega⟩ ⟨by have hb_ := z32 x2; omega, by have hb_ := z32 x2; omega⟩ ⟨by have hb_ := z32 q111_5_189; omega, by have hb_ := z32 q111_5_189; omega⟩ ⟨by have hb_ := z32 q111_7_189; omega, by have hb_ := z32 q111_7_189; omega⟩) cv_X10_348 rfl rfl rfl (jv_lt hj_197 (by decide)) (Nat.le_of_ble_eq_true rfl) (Nat.le_of_ble_eq_true rfl) ⟨(Nat.le_of_ble_eq_true rfl), (Nat.le_of_ble_eq_true rfl)⟩ (Nat.le_of_ble_eq_true rfl) dX10_layWalk_152 (fun z_218 u_216 hp_217 => ?_)
              obtain ⟨hz_218, hxz_218, hp_217⟩ := hp_217
              subst hp_217
              have hk_ := frm_tk (frm_up hl111.2.1) hxz_218
              refine z_if_eq (tgt := 162) (u := z_218.toInt) E dX10_layWalk_155 (by decide) rfl (fun h_220 => ?_) (fun h_220 => ?_)
              ·
                refine s_iconst (v := 0) E dX10_layWalk_162 (by decide) ?_
                refine s_istore (L2 := [some (AR 95), some (AI x1), some (AI x2), some (AI x3), some (AI 0), some (AI q111_5_189), some (AI q50_6_177), some (AI q111_7_189), none]) E dX10_layWalk_163 (by decide) rfl ?_
                have hth_ : (0 : Int32).toInt = 1 ↔ ((q111_4_189 : Int32).toInt = 1 ∨ TKs u_5 x1 x2 q111_5_189.toInt q111_7_189.toInt.toNat) := by first | exact ⟨fun _ => Or.inl (by omega), fun _ => by decide⟩ | exact ⟨fun _ => Or.inr (hk_.mp (by omega)), fun _ => by decide⟩ | exact ⟨fun h_ => absurd h_ (by decide), fun h_ => h_.elim (fun g_ => by omega) (fun g_ => absurd (hk_.mpr g_) (by omega))⟩
                obtain ⟨cw, tw, cw1, cw2, cw3, cw4, cw5⟩ := hcg_ q111_7_189.toInt.toNat q111_5_189.toInt.toNat q111_4_189.toInt.toNat (by omega) (by omega) (by omega) (by omega) (hl111.2.2.2 (by omega))
                have hN2_ : (u_5.2.2.1 96 0).toInt ≤ 8 := by omega
                have tw_ : tw = (0 : Int32).toInt.toNat := tw_eq cw2 cw3 hth_ (by omega) ⟨by omega, by omega⟩ (by first | omega | decide) (by first | omega | decide)
                refine s_iconst (v := 0) E dX10_layWalk_165 (by decide) ?_
                refine s_istore (L2 := [some (AR 95), some (AI x1), some (AI x2), some (AI x3), some (AI 0), some (AI q111_5_189), some (AI q50_6_177), some (AI q111_7_189), some (AI 0)]) E dX10_layWalk_166 (by decide) rfl ?_
                refine z_loop (St := Int32) (Pi := fun q168_8_220 v168 => (0 ≤ q168_8_220.toInt ∧ q168_8_220.toInt ≤ 7) ∧ (q168_8_220.toInt ≤ (cw : Int)) ∧ (upI v111 110 q111_7_189.toNatClampNeg q111_5_189) = v168) (Lf := fun q168_8_220 => [some (AR 95), some (AI x1), some (AI x2), some (AI x3), some (AI 0), some (AI q111_5_189), some (AI q50_6_177), some (AI q111_7_189), some (AI q168_8_220)]) (fun q168_8_220 _ => ((cw : Int) + 1 - q168_8_220.toInt).toNat) 0 ⟨⟨by decide, by decide⟩, (by have h0_ : (0 : Int32).toInt = 0 := (by decide); omega), rfl⟩ ?_
                rintro q168_8_220 v168 ⟨hq168_8, hl168, hv_⟩ ih168
                subst hv_
                refine s_loc (L2 := [some (AR 95), some (AI x1), some (AI x2), some (AI x3), some (AI 0), some (AI q111_5_189), some (AI q50_6_177), some (AI q111_7_189), some (AI q168_8_220)]) rfl ?_
                refine s_aload_n E dX10_layWalk_168 rfl rfl ?_
                refine s_iload_n E dX10_layWalk_169 rfl rfl ?_
                refine s_iload E dX10_layWalk_170 rfl ?_
                refine s_iload E dX10_layWalk_172 rfl ?_
                refine s_vI (As := [AI x2, AI q111_5_189, AI q168_8_220]) (S := []) E (Z_X10_isBeside_95 l D aC b (upI v111 110 q111_7_189.toNatClampNeg q111_5_189) x2 q111_5_189 q168_8_220 hj_197.1 ⟨by have hb_ := z32 x2; omega, by have hb_ := z32 x2; omega⟩ ⟨by have hb_ := z32 q111_5_189; omega, by have hb_ := z32 q111_5_189; omega⟩ ⟨by have hb_ := z32 q168_8_220; omega, by have hb_ := z32 q168_8_220; omega⟩) cv_X10_352 rfl rfl rfl (jv_lt hj_197 (by decide)) (Nat.le_of_ble_eq_true rfl) (Nat.le_of_ble_eq_true rfl) ⟨(Nat.le_of_ble_eq_true rfl), (Nat.le_of_ble_eq_true rfl)⟩ (Nat.le_of_ble_eq_true rfl) dX10_layWalk_174 (fun z_224 u_222 hp_223 => ?_)
                obtain ⟨hz_224, hxz_224, hp_223⟩ := hp_223
                subst hp_223
                have hbs_ := frm_bs (frm_up hl111.2.1) hxz_224
                refine z_if_eq (tgt := 199) (u := z_224.toInt) E dX10_layWalk_177 (by decide) rfl (fun h_226 => ?_) (fun h_226 => ?_)
                ·
                  have hne_ : ¬ q168_8_220.toInt.toNat = cw := by first | (intro e_; subst e_; have := hbs_.mpr cw4; omega) | (intro e_; subst e_; subst tw_; omega)
                  have hne2_ : ¬ q168_8_220.toInt = (cw : Int) := by omega
                  refine z_iinc (u := q168_8_220.toInt) (L2 := fun z_227 => [some (AR 95), some (AI x1), some (AI x2), some (AI x3), some (AI 0), some (AI q111_5_189), some (AI q50_6_177), some (AI q111_7_189), some (AI z_227)]) E dX10_layWalk_199 rfl rfl (by decide) (fun _ => rfl) (by decide) (by omega) (by omega) (fun z_227 hz_227 => ?_)
                  refine s_goto (tgt := 168) E dX10_layWalk_202 (by decide) ?_
                  exact ih168 z_227 (upI v111 110 q111_7_189.toNatClampNeg q111_5_189) ⟨⟨by have hb_ := z32 z_227; omega, by have hb_ := z32 z_227; omega⟩, (by omega), rfl⟩ (by first | omega | decide | (dsimp only; omega) | (dsimp only; decide))
                ·
                  refine s_aload_n E dX10_layWalk_180 rfl rfl ?_
                  refine s_gR (r := 109) E fg_X10_55 rfl rfl (jv_lt hj_197 (by decide)) (jv_r hj_197 (by decide +kernel)) dX10_layWalk_181 ?_
                  refine s_iload E dX10_layWalk_184 rfl ?_
                  refine s_iconst (v := 1) E dX10_layWalk_186 (by decide) ?_
                  refine z_iadd (u := q111_7_189.toInt) (v := 1) E dX10_layWalk_187 rfl (by decide) (by omega) (by omega) (fun z_228 hz_228 => ?_)
                  refine s_iload E dX10_layWalk_188 rfl ?_
                  refine s_iload E dX10_layWalk_190 rfl ?_
                  refine s_sI (As := [AI z_228, AI q168_8_220, AI 0]) (S := [AR 109]) E (Z_X10_carryState l D aC b (upI v111 110 q111_7_189.toNatClampNeg q111_5_189) z_228 q168_8_220 0 hj_197.1 ⟨by have hb_ := z32 z_228; omega, by have hb_ := z32 z_228; omega⟩ ⟨by have hb_ := z32 q168_8_220; omega, by have hb_ := z32 q168_8_220; omega⟩ (by decide)) cs_X10_355 rfl rfl (Nat.le_of_ble_eq_true rfl) (Nat.le_of_ble_eq_true rfl) ⟨(Nat.le_of_ble_eq_true rfl), (Nat.le_of_ble_eq_true rfl)⟩ (Nat.le_of_ble_eq_true rfl) dX10_layWalk_192 (fun z_231 u_229 hp_230 => ?_)
                  obtain ⟨hz_231, hxz_231, hp_230⟩ := hp_230
                  have hc_ : (0 : Int32).toInt = 0 := by decide
                  subst hp_230
                  have hi3_ : z_231.toInt = 16 * ((q111_7_189.toInt.toNat + 1 : Nat) : Int) + 2 * q168_8_220.toInt + (0 : Int32).toInt := by omega
                  refine s_zald E rfl (jv_lt hj_197 (by decide)) (z_in (u := z_231.toInt) rfl (by omega) (by omega)) dX10_layWalk_195 ?_
                  refine z_nm (P := fun z => z.toInt = ((upI v111 110 q111_7_189.toNatClampNeg q111_5_189).2.2.1 109 z_231.toNatClampNeg).toInt ∧ 0 ≤ z.toInt ∧ z.toInt ≤ 1) ⟨rfl, (ra_109 hj_197 _)⟩ (fun z_233 hz_233 => ?_)
                  have hv_ := (ly_at (f := (upI v111 110 q111_7_189.toNatClampNeg q111_5_189).2.2.1 109) (a := z_233) hi3_ (by omega) (by first | omega | decide) (by omega)).trans (congrArg (fun f_ : Nat → Int32 => (f_ (16 * (q111_7_189.toInt.toNat + 1) + 2 * q168_8_220.toInt.toNat + (0 : Int32).toInt.toNat)).toInt) ((upI_ne (by decide)).trans hl111.1))
                  refine z_if_ne (tgt := 205) (u := z_233.toInt) E dX10_layWalk_196 (by decide) rfl (fun h_234 => ?_) (fun h_234 => ?_)
                  ·
                    have hnx_ : ¬ (v50.2.2.1 109 (16 * (q111_7_189.toInt.toNat + 1) + 2 * q168_8_220.toInt.toNat + (0 : Int32).toInt.toNat)).toInt = 0 := by omega
                    refine s_iload E dX10_layWalk_205 rfl ?_
                    refine s_istore (L2 := [some (AR 95), some (AI x1), some (AI x2), some (AI x3), some (AI 0), some (AI q168_8_220), some (AI q50_6_177), some (AI q111_7_189), some (AI q168_8_220)]) E dX10_layWalk_207 (by decide) rfl ?_
                    refine z_iinc (u := q111_7_189.toInt) (L2 := fun z_235 => [some (AR 95), some (AI x1), some (AI x2), some (AI x3), some (AI 0), some (AI q168_8_220), some (AI q50_6_177), some (AI z_235), some (AI q168_8_220)]) E dX10_layWalk_209 rfl rfl (by decide) (fun _ => rfl) (by decide) (by omega) (by omega) (fun z_235 hz_235 => ?_)
                    refine s_goto (tgt := 111) E dX10_layWalk_212 (by decide) ?_
                    refine s_drop (i := 8) (L2 := [some (AR 95), some (AI x1), some (AI x2), some (AI x3), some (AI 0), some (AI q168_8_220), some (AI q50_6_177), some (AI z_235), none]) rfl ?_
                    exact ih111 ⟨0, q168_8_220, z_235⟩ (upI v111 110 q111_7_189.toNatClampNeg q111_5_189) ⟨⟨by decide, by decide⟩, ⟨by have hb_ := z32 q168_8_220; omega, by have hb_ := z32 q168_8_220; omega⟩, ⟨by have hb_ := z32 z_235; omega, by have hb_ := z32 z_235; omega⟩, (⟨(upI_ne (by decide)).trans hl111.1, frm_up hl111.2.1, by omega, by first | (intro h_; exfalso; omega) | exact fun _ => (by have e7_ : z_235.toInt.toNat = q111_7_189.toInt.toNat + 1 := (by omega); rw [e7_]; exact hnx_)⟩), hj_197⟩ (by first | omega | decide | (dsimp only; omega) | (dsimp only; decide))
                  ·
                    have hne_ : ¬ q168_8_220.toInt.toNat = cw := by first | (intro e_; subst e_; have := hbs_.mpr cw4; omega) | (intro e_; subst e_; subst tw_; omega)
                    have hne2_ : ¬ q168_8_220.toInt = (cw : Int) := by omega
                    refine z_iinc (u := q168_8_220.toInt) (L2 := fun z_236 => [some (AR 95), some (AI x1), some (AI x2), some (AI x3), some (AI 0), some (AI q111_5_189), some (AI q50_6_177), some (AI q111_7_189), some (AI z_236)]) E dX10_layWalk_199 rfl rfl (by decide) (fun _ => rfl) (by decide) (by omega) (by omega) (fun z_236 hz_236 => ?_)
                    refine s_goto (tgt := 168) E dX10_layWalk_202 (by decide) ?_
                    exact ih168 z_236 (upI v111 110 q111_7_189.toNatClampNeg q111_5_189) ⟨⟨by have hb_ := z32 z_236; omega, by have hb_ := z32 z_236; omega⟩, (by omega), rfl⟩ (by first | omega | decide | (dsimp only; omega) | (dsimp only; decide))
              ·
                refine s_iconst (v := 1) E dX10_layWalk_158 (by decide) ?_
                refine s_goto (tgt := 163) E dX10_layWalk_159 (by decide) ?_
                refine s_istore (L2 := [some (AR 95), some (AI x1), some (AI x2), some (AI x3), some (AI 1), some (AI q111_5_189), some (AI q50_6_177), some (AI q111_7_189), none]) E dX10_layWalk_163 (by decide) rfl ?_
                have hth_ : (1 : Int32).toInt = 1 ↔ ((q111_4_189 : Int32).toInt = 1 ∨ TKs u_5 x1 x2 q111_5_189.toInt q111_7_189.toInt.toNat) := by first | exact ⟨fun _ => Or.inl (by omega), fun _ => by decide⟩ | exact ⟨fun _ => Or.inr (hk_.mp (by omega)), fun _ => by decide⟩ | exact ⟨fun h_ => absurd h_ (by decide), fun h_ => h_.elim (fun g_ => by omega) (fun g_ => absurd (hk_.mpr g_) (by omega))⟩
                obtain ⟨cw, tw, cw1, cw2, cw3, cw4, cw5⟩ := hcg_ q111_7_189.toInt.toNat q111_5_189.toInt.toNat q111_4_189.toInt.toNat (by omega) (by omega) (by omega) (by omega) (hl111.2.2.2 (by omega))
                have hN2_ : (u_5.2.2.1 96 0).toInt ≤ 8 := by omega
                have tw_ : tw = (1 : Int32).toInt.toNat := tw_eq cw2 cw3 hth_ (by omega) ⟨by omega, by omega⟩ (by first | omega | decide) (by first | omega | decide)
                refine s_iconst (v := 0) E dX10_layWalk_165 (by decide) ?_
                refine s_istore (L2 := [some (AR 95), some (AI x1), some (AI x2), some (AI x3), some (AI 1), some (AI q111_5_189), some (AI q50_6_177), some (AI q111_7_189), some (AI 0)]) E dX10_layWalk_166 (by decide) rfl ?_
                refine z_loop (St := Int32) (Pi := fun q168_8_236 v168 => (0 ≤ q168_8_236.toInt ∧ q168_8_236.toInt ≤ 7) ∧ (q168_8_236.toInt ≤ (cw : Int)) ∧ (upI v111 110 q111_7_189.toNatClampNeg q111_5_189) = v168) (Lf := fun q168_8_236 => [some (AR 95), some (AI x1), some (AI x2), some (AI x3), some (AI 1), some (AI q111_5_189), some (AI q50_6_177), some (AI q111_7_189), some (AI q168_8_236)]) (fun q168_8_236 _ => ((cw : Int) + 1 - q168_8_236.toInt).toNat) 0 ⟨⟨by decide, by decide⟩, (by have h0_ : (0 : Int32).toInt = 0 := (by decide); omega), rfl⟩ ?_
                rintro q168_8_236 v168 ⟨hq168_8, hl168, hv_⟩ ih168
                subst hv_
                refine s_loc (L2 := [some (AR 95), some (AI x1), some (AI x2), some (AI x3), some (AI 1), some (AI q111_5_189), some (AI q50_6_177), some (AI q111_7_189), some (AI q168_8_236)]) rfl ?_
                refine s_aload_n E dX10_layWalk_168 rfl rfl ?_
                refine s_iload_n E dX10_layWalk_169 rfl rfl ?_
                refine s_iload E dX10_layWalk_170 rfl ?_
                refine s_iload E dX10_layWalk_172 rfl ?_
                refine s_vI (As := [AI x2, AI q111_5_189, AI q168_8_236]) (S := []) E (Z_X10_isBeside_95 l D aC b (upI v111 110 q111_7_189.toNatClampNeg q111_5_189) x2 q111_5_189 q168_8_236 hj_197.1 ⟨by have hb_ := z32 x2; omega, by have hb_ := z32 x2; omega⟩ ⟨by have hb_ := z32 q111_5_189; omega, by have hb_ := z32 q111_5_189; omega⟩ ⟨by have hb_ := z32 q168_8_236; omega, by have hb_ := z32 q168_8_236; omega⟩) cv_X10_352 rfl rfl rfl (jv_lt hj_197 (by decide)) (Nat.le_of_ble_eq_true rfl) (Nat.le_of_ble_eq_true rfl) ⟨(Nat.le_of_ble_eq_true rfl), (Nat.le_of_ble_eq_true rfl)⟩ (Nat.le_of_ble_eq_true rfl) dX10_layWalk_174 (fun z_240 u_238 hp_239 => ?_)
                obtain ⟨hz_240, hxz_240, hp_239⟩ := hp_239
                subst hp_239
                have hbs_ := frm_bs (frm_up hl111.2.1) hxz_240
                refine z_if_eq (tgt := 199) (u := z_240.toInt) E dX10_layWalk_177 (by decide) rfl (fun h_242 => ?_) (fun h_242 => ?_)
                ·
                  have hne_ : ¬ q168_8_236.toInt.toNat = cw := by first | (intro e_; subst e_; have := hbs_.mpr cw4; omega) | (intro e_; subst e_; subst tw_; omega)
                  have hne2_ : ¬ q168_8_236.toInt = (cw : Int) := by omega
                  refine z_iinc (u := q168_8_236.toInt) (L2 := fun z_243 => [some (AR 95), some (AI x1), some (AI x2), some (AI x3), some (AI 1), some (AI q111_5_189), some (AI q50_6_177), some (AI q111_7_189), some (AI z_243)]) E dX10_layWalk_199 rfl rfl (by decide) (fun _ => rfl) (by decide) (by omega) (by omega) (fun z_243 hz_243 => ?_)
                  refine s_goto (tgt := 168) E dX10_layWalk_202 (by decide) ?_
                  exact ih168 z_243 (upI v111 110 q111_7_189.toNatClampNeg q111_5_189) ⟨⟨by have hb_ := z32 z_243; omega, by have hb_ := z32 z_243; omega⟩, (by omega), rfl⟩ (by first | omega | decide | (dsimp only; omega) | (dsimp only; decide))
                ·
                  refine s_aload_n E dX10_layWalk_180 rfl rfl ?_
                  refine s_gR (r := 109) E fg_X10_55 rfl rfl (jv_lt hj_197 (by decide)) (jv_r hj_197 (by decide +kernel)) dX10_layWalk_181 ?_
                  refine s_iload E dX10_layWalk_184 rfl ?_
                  refine s_iconst (v := 1) E dX10_layWalk_186 (by decide) ?_
                  refine z_iadd (u := q111_7_189.toInt) (v := 1) E dX10_layWalk_187 rfl (by decide) (by omega) (by omega) (fun z_244 hz_244 => ?_)
                  refine s_iload E dX10_layWalk_188 rfl ?_
                  refine s_iload E dX10_layWalk_190 rfl ?_
                  refine s_sI (As := [AI z_244, AI q168_8_236, AI 1]) (S := [AR 109]) E (Z_X10_carryState l D aC b (upI v111 110 q111_7_189.toNatClampNeg q111_5_189) z_244 q168_8_236 1 hj_197.1 ⟨by have hb_ := z32 z_244; omega, by have hb_ := z32 z_244; omega⟩ ⟨by have hb_ := z32 q168_8_236; omega, by have hb_ := z32 q168_8_236; omega⟩ (by decide)) cs_X10_355 rfl rfl (Nat.le_of_ble_eq_true rfl) (Nat.le_of_ble_eq_true rfl) ⟨(Nat.le_of_ble_eq_true rfl), (Nat.le_of_ble_eq_true rfl)⟩ (Nat.le_of_ble_eq_true rfl) dX10_layWalk_192 (fun z_247 u_245 hp_246 => ?_)
                  obtain ⟨hz_247, hxz_247, hp_246⟩ := hp_246
                  have hc_ : (1 : Int32).toInt = 1 := by decide
                  subst hp_246
                  have hi3_ : z_247.toInt = 16 * ((q111_7_189.toInt.toNat + 1 : Nat) : Int) + 2 * q168_8_236.toInt + (1 : Int32).toInt := by omega
                  refine s_zald E rfl (jv_lt hj_197 (by decide)) (z_in (u := z_247.toInt) rfl (by omega) (by omega)) dX10_layWalk_195 ?_
                  refine z_nm (P := fun z => z.toInt = ((upI v111 110 q111_7_189.toNatClampNeg q111_5_189).2.2.1 109 z_247.toNatClampNeg).toInt ∧ 0 ≤ z.toInt ∧ z.toInt ≤ 1) ⟨rfl, (ra_109 hj_197 _)⟩ (fun z_249 hz_249 => ?_)
                  have hv_ := (ly_at (f := (upI v111 110 q111_7_189.toNatClampNeg q111_5_189).2.2.1 109) (a := z_249) hi3_ (by omega) (by first | omega | decide) (by omega)).trans (congrArg (fun f_ : Nat → Int32 => (f_ (16 * (q111_7_189.toInt.toNat + 1) + 2 * q168_8_236.toInt.toNat + (1 : Int32).toInt.toNat)).toInt) ((upI_ne (by decide)).trans hl111.1))
                  refine z_if_ne (tgt := 205) (u := z_249.toInt) E dX10_layWalk_196 (by decide) rfl (fun h_250 => ?_) (fun h_250 => ?_)
                  ·
                    have hnx_ : ¬ (v50.2.2.1 109 (16 * (q111_7_189.toInt.toNat + 1) + 2 * q168_8_236.toInt.toNat + (1 : Int32).toInt.toNat)).toInt = 0 := by omega
                    refine s_iload E dX10_layWalk_205 rfl ?_
                    refine s_istore (L2 := [some (AR 95), some (AI x1), some (AI x2), some (AI x3), some (AI 1), some (AI q168_8_236), some (AI q50_6_177), some (AI q111_7_189), some (AI q168_8_236)]) E dX10_layWalk_207 (by decide) rfl ?_
                    refine z_iinc (u := q111_7_189.toInt) (L2 := fun z_251 => [some (AR 95), some (AI x1), some (AI x2), some (AI x3), some (AI 1), some (AI q168_8_236), some (AI q50_6_177), some (AI z_251), some (AI q168_8_236)]) E dX10_layWalk_209 rfl rfl (by decide) (fun _ => rfl) (by decide) (by omega) (by omega) (fun z_251 hz_251 => ?_)
                    refine s_goto (tgt := 111) E dX10_layWalk_212 (by decide) ?_
                    refine s_drop (i := 8) (L2 := [some (AR 95), some (AI x1), some (AI x2), some (AI x3), some (AI 1), some (AI q168_8_236), some (AI q50_6_177), some (AI z_251), none]) rfl ?_
                    exact ih111 ⟨1, q168_8_236, z_251⟩ (upI v111 110 q111_7_189.toNatClampNeg q111_5_189) ⟨⟨by decide, by decide⟩, ⟨by have hb_ := z32 q168_8_236; omega, by have hb_ := z32 q168_8_236; omega⟩, ⟨by have hb_ := z32 z_251; omega, by have hb_ := z32 z_251; omega⟩, (⟨(upI_ne (by decide)).trans hl111.1, frm_up hl111.2.1, by omega, by first | (intro h_; exfalso; omega) | exact fun _ => (by have e7_ : z_251.toInt.toNat = q111_7_189.toInt.toNat + 1 := (by omega); rw [e7_]; exact hnx_)⟩), hj_197⟩ (by first | omega | decide | (dsimp only; omega) | (dsimp only; decide))
                  ·
                    have hne_ : ¬ q168_8_236.toInt.toNat = cw := by first | (intro e_; subst e_; have := hbs_.mpr cw4; omega) | (intro e_; subst e_; subst tw_; omega)
                    have hne2_ : ¬ q168_8_236.toInt = (cw : Int) := by omega
                    refine z_iinc (u := q168_8_236.toInt) (L2 := fun z_252 => [some (AR 95), some (AI x1), some (AI x2), some (AI x3), some (AI 1), some (AI q111_5_189), some (AI q50_6_177), some (AI q111_7_189), some (AI z_252)]) E dX10_layWalk_199 rfl rfl (by decide) (fun _ => rfl) (by decide) (by omega) (by omega) (fun z_252 hz_252 => ?_)
                    refine s_goto (tgt := 168) E dX10_layWalk_202 (by decide) ?_
                    exact ih168 z_252 (upI v111 110 q111_7_189.toNatClampNeg q111_5_189) ⟨⟨by have hb_ := z32 z_252; omega, by have hb_ := z32 z_252; omega⟩, (by omega), rfl⟩ (by first | omega | decide | (dsimp only; omega) | (dsimp only; decide))
          ·
            refine s_goto (tgt := 209) E dX10_layWalk_136 (by decide) ?_
            refine z_iinc (u := q111_7_189.toInt) (L2 := fun z_253 => [some (AR 95), some (AI x1), some (AI x2), some (AI x3), some (AI q111_4_189), some (AI q111_5_189), some (AI q50_6_177), some (AI z_253), none]) E dX10_layWalk_209 rfl rfl (by decide) (fun _ => rfl) (by decide) (by omega) (by omega) (fun z_253 hz_253 => ?_)
            refine s_goto (tgt := 111) E dX10_layWalk_212 (by decide) ?_
            exact ih111 ⟨q111_4_189, q111_5_189, z_253⟩ (upI v111 110 q111_7_189.toNatClampNeg q111_5_189) ⟨⟨by have hb_ := z32 q111_4_189; omega, by have hb_ := z32 q111_4_189; omega⟩, ⟨by have hb_ := z32 q111_5_189; omega, by have hb_ := z32 q111_5_189; omega⟩, ⟨by have hb_ := z32 z_253; omega, by have hb_ := z32 z_253; omega⟩, (⟨(upI_ne (by decide)).trans hl111.1, frm_up hl111.2.1, by omega, by first | (intro h_; exfalso; omega) | exact fun _ => (by have e7_ : z_253.toInt.toNat = q111_7_189.toInt.toNat + 1 := (by omega); rw [e7_]; exact hnx_)⟩), hj_197⟩ (by first | omega | decide | (dsimp only; omega) | (dsimp only; decide))
      ·
        refine s_iconst (v := (-1)) E dX10_layWalk_106 (by decide) ?_
        exact r_int E dX10_layWalk_107 ⟨(by decide), hj_178⟩
    ·
      refine s_aload_n E dX10_layWalk_59 rfl rfl ?_
      refine s_gR (r := 109) E fg_X10_55 rfl rfl (jv_lt hj_178 (by decide)) (jv_r hj_178 (by decide +kernel)) dX10_layWalk_60 ?_
      refine s_iconst (v := 0) E dX10_layWalk_63 (by decide) ?_
      refine s_iload E dX10_layWalk_64 rfl ?_
      refine s_iload E dX10_layWalk_66 rfl ?_
      refine s_sI (As := [AI 0, AI z_174, AI 1]) (S := [AR 109]) E (Z_X10_carryState l D aC b v50 0 z_174 1 hj_178.1 (by decide) ⟨by have hb_ := z32 z_174; omega, by have hb_ := z32 z_174; omega⟩ (by decide)) cs_X10_355 rfl rfl (Nat.le_of_ble_eq_true rfl) (Nat.le_of_ble_eq_true rfl) ⟨(Nat.le_of_ble_eq_true rfl), (Nat.le_of_ble_eq_true rfl)⟩ (Nat.le_of_ble_eq_true rfl) dX10_layWalk_68 (fun z_256 u_254 hp_255 => ?_)
      obtain ⟨hz_256, hxz_256, hp_255⟩ := hp_255
      have hc_ : (0 : Int32).toInt = 0 := by decide
      have hc_ : (1 : Int32).toInt = 1 := by decide
      subst hp_255
      refine s_zald E rfl (jv_lt hj_178 (by decide)) (z_in (u := z_256.toInt) rfl (by omega) (by omega)) dX10_layWalk_71 ?_
      refine z_nm (P := fun z => z.toInt = (v50.2.2.1 109 z_256.toNatClampNeg).toInt ∧ 0 ≤ z.toInt ∧ z.toInt ≤ 1) ⟨rfl, (ra_109 hj_178 _)⟩ (fun z_258 hz_258 => ?_)
      refine z_if_ne (tgt := 90) (u := z_258.toInt) E dX10_layWalk_72 (by decide) rfl (fun h_259 => ?_) (fun h_259 => ?_)
      ·
        refine s_aload_n E dX10_layWalk_90 rfl rfl ?_
        refine s_gR (r := 109) E fg_X10_55 rfl rfl (jv_lt hj_178 (by decide)) (jv_r hj_178 (by decide +kernel)) dX10_layWalk_91 ?_
        refine s_iconst (v := 0) E dX10_layWalk_94 (by decide) ?_
        refine s_iload E dX10_layWalk_95 rfl ?_
        refine s_iload E dX10_layWalk_97 rfl ?_
        refine s_sI (As := [AI 0, AI z_174, AI 1]) (S := [AR 109]) E (Z_X10_carryState l D aC b v50 0 z_174 1 hj_178.1 (by decide) ⟨by have hb_ := z32 z_174; omega, by have hb_ := z32 z_174; omega⟩ (by decide)) cs_X10_355 rfl rfl (Nat.le_of_ble_eq_true rfl) (Nat.le_of_ble_eq_true rfl) ⟨(Nat.le_of_ble_eq_true rfl), (Nat.le_of_ble_eq_true rfl)⟩ (Nat.le_of_ble_eq_true rfl) dX10_layWalk_99 (fun z_262 u_260 hp_261 => ?_)
        obtain ⟨hz_262, hxz_262, hp_261⟩ := hp_261
        have hc_ : (0 : Int32).toInt = 0 := by decide
        have hc_ : (1 : Int32).toInt = 1 := by decide
        subst hp_261
        have hi2_ : z_262.toInt = 16 * ((0 : Nat) : Int) + 2 * z_174.toInt + (1 : Int32).toInt := by omega
        have hc0_ : (0 : Int32).toInt = 0 := (by decide)
        have hc1_ : (1 : Int32).toInt = 1 := (by decide)
        refine s_zald E rfl (jv_lt hj_178 (by decide)) (z_in (u := z_262.toInt) rfl (by omega) (by omega)) dX10_layWalk_102 ?_
        refine z_nm (P := fun z => z.toInt = (v50.2.2.1 109 z_262.toNatClampNeg).toInt ∧ 0 ≤ z.toInt ∧ z.toInt ≤ 1) ⟨rfl, (ra_109 hj_178 _)⟩ (fun z_264 hz_264 => ?_)
        have hs_ := ly_at (f := v50.2.2.1 109) (a := z_264) hi2_ (by omega) (by omega) (by omega)
        refine z_if_ne (tgt := 108) (u := z_264.toInt) E dX10_layWalk_103 (by decide) rfl (fun h_265 => ?_) (fun h_265 => ?_)
        ·
          have hcg_ := hl50.2
          have hfm_ := hl50.1
          have hz0_ : (0 : Int32).toInt = 0 := (by decide)
          refine s_iconst (v := 0) E dX10_layWalk_108 (by decide) ?_
          refine s_istore (L2 := [some (AR 95), some (AI x1), some (AI x2), some (AI x3), some (AI 1), some (AI z_174), some (AI q50_6_177), some (AI 0), none]) E dX10_layWalk_109 (by decide) rfl ?_
          refine z_loop (St := Int32 × Int32 × Int32) (Pi := fun ⟨q111_4_265, q111_5_265, q111_7_265⟩ v111 => (0 ≤ q111_4_265.toInt ∧ q111_4_265.toInt ≤ 1) ∧ (0 ≤ q111_5_265.toInt ∧ q111_5_265.toInt ≤ 7) ∧ (0 ≤ q111_7_265.toInt ∧ q111_7_265.toInt ≤ 64) ∧ ((v111.2.2.1 109) = (v50.2.2.1 109) ∧ Frm v111 u_5 ∧ q111_5_265.toInt < (u_5.2.2.1 96 0).toInt ∧ (q111_7_265.toInt ≤ q50_6_177.toInt → ¬ (v50.2.2.1 109 (16 * q111_7_265.toInt.toNat + 2 * q111_5_265.toInt.toNat + q111_4_265.toInt.toNat)).toInt = 0)) ∧ Jv w v111) (Lf := fun ⟨q111_4_265, q111_5_265, q111_7_265⟩ => [some (AR 95), some (AI x1), some (AI x2), some (AI x3), some (AI q111_4_265), some (AI q111_5_265), some (AI q50_6_177), some (AI q111_7_265), none]) (fun ⟨q111_4_265, q111_5_265, q111_7_265⟩ _ => (65 - q111_7_265.toInt).toNat) ⟨1, z_174, 0⟩ ⟨⟨by decide, by decide⟩, ⟨by have hb_ := z32 z_174; omega, by have hb_ := z32 z_174; omega⟩, ⟨by decide, by decide⟩, (⟨rfl, hfm_, by omega, fun _ h_ => by rw [show 16 * (0 : Int32).toInt.toNat = 16 * 0 by decide] at h_; omega⟩), hj_178⟩ ?_
          rintro ⟨q111_4_265, q111_5_265, q111_7_265⟩ v111 ⟨hq111_4, hq111_5, hq111_7, hl111, hj_266⟩ ih111
          refine s_loc (L2 := [some (AR 95), some (AI x1), some (AI x2), some (AI x3), some (AI q111_4_265), some (AI q111_5_265), some (AI q50_6_177), some (AI q111_7_265), none]) rfl ?_
          refine s_iload E dX10_layWalk_111 rfl ?_
          refine s_aload_n E dX10_layWalk_113 rfl rfl ?_
          refine s_vI (As := []) (S := [AI q111_7_265]) E (Z_X10_dances_95 l D aC b v111  hj_266.1 ) cv_X10_247 rfl rfl rfl (jv_lt hj_266 (by decide)) (Nat.le_of_ble_eq_true rfl) (Nat.le_of_ble_eq_true rfl) ⟨(Nat.le_of_ble_eq_true rfl), (Nat.le_of_ble_eq_true rfl)⟩ (Nat.le_of_ble_eq_true rfl) dX10_layWalk_114 (fun z_269 u_267 hp_268 => ?_)
          obtain ⟨hz_269, hxz_269, hp_268⟩ := hp_268
          subst hp_268
          refine z_icmp_gt (tgt := 215) (u := q111_7_265.toInt) (v := z_269.toInt) E dX10_layWalk_117 (by decide) rfl rfl (fun h_271 => ?_) (fun h_271 => ?_)
          ·
            refine s_iload E dX10_layWalk_215 rfl ?_
            exact r_int E dX10_layWalk_217 ⟨⟨by have hb_ := z32 q50_6_177; omega, by have hb_ := z32 q50_6_177; omega⟩, hj_266⟩
          ·
            refine s_aload_n E dX10_layWalk_120 rfl rfl ?_
            refine s_gR (r := 110) E fg_X10_58 rfl rfl (jv_lt hj_266 (by decide)) (jv_r hj_266 (by decide +kernel)) dX10_layWalk_121 ?_
            refine s_iload E dX10_layWalk_124 rfl ?_
            refine s_iload E dX10_layWalk_126 rfl ?_
            refine s_iast E rfl (jv_lt hj_266 (by decide)) (z_in (u := q111_7_265.toInt) rfl (by omega) (by omega)) dX10_layWalk_128 ?_
            have hj_273 : Jv w (upI v111 110 q111_7_265.toNatClampNeg q111_5_265) := (jv_a_110 hj_266 (by have hb_ := z32 q111_5_265; omega) (by have hb_ := z32 q111_5_265; omega))
            have hke_ : ((upI v111 110 q111_7_265.toNatClampNeg q111_5_265).2.2.1 96 5).toInt = (v111.2.2.1 96 5).toInt := rfl
            have hke_ : ((upI v111 110 q111_7_265.toNatClampNeg q111_5_265).2.2.1 96 0).toInt = (v111.2.2.1 96 0).toInt := rfl
            refine s_iload E dX10_layWalk_129 rfl ?_
            refine s_iload E dX10_layWalk_131 rfl ?_
            refine z_icmp_lt (tgt := 139) (u := q111_7_265.toInt) (v := q50_6_177.toInt) E dX10_layWalk_133 (by decide) rfl rfl (fun h_274 => ?_) (fun h_274 => ?_)
            ·
              refine s_iload E dX10_layWalk_139 rfl ?_
              refine s_iconst (v := 1) E dX10_layWalk_141 (by decide) ?_
              refine z_icmp_eq (tgt := 158) (u := q111_4_265.toInt) (v := 1) E dX10_layWalk_142 (by decide) rfl (by decide) (fun h_275 => ?_) (fun h_275 => ?_)
              ·
                refine s_iconst (v := 1) E dX10_layWalk_158 (by decide) ?_
                refine s_goto (tgt := 163) E dX10_layWalk_159 (by decide) ?_
                refine s_istore (L2 := [some (AR 95), some (AI x1), some (AI x2), some (AI x3), some (AI 1), some (AI q111_5_265), some (AI q50_6_177), some (AI q111_7_265), none]) E dX10_layWalk_163 (by decide) rfl ?_
                have hth_ : (1 : Int32).toInt = 1 ↔ ((q111_4_265 : Int32).toInt = 1 ∨ TKs u_5 x1 x2 q111_5_265.toInt q111_7_265.toInt.toNat) := by first | exact ⟨fun _ => Or.inl (by omega), fun _ => by decide⟩ | exact ⟨fun _ => Or.inr (hk_.mp (by omega)), fun _ => by decide⟩ | exact ⟨fun h_ => absurd h_ (by decide), fun h_ => h_.elim (fun g_ => by omega) (fun g_ => absurd (hk_.mpr g_) (by omega))⟩
                obtain ⟨cw, tw, cw1, cw2, cw3, cw4, cw5⟩ := hcg_ q111_7_265.toInt.toNat q111_5_265.toInt.toNat q111_4_265.toInt.toNat (by omega) (by omega) (by omega) (by omega) (hl111.2.2.2 (by omega))
                have hN2_ : (u_5.2.2.1 96 0).toInt ≤ 8 := by omega
                have tw_ : tw = (1 : Int32).toInt.toNat := tw_eq cw2 cw3 hth_ (by omega) ⟨by omega, by omega⟩ (by first | omega | decide) (by first | omega | decide)
                refine s_iconst (v := 0) E dX10_layWalk_165 (by decide) ?_
                refine s_istore (L2 := [some (AR 95), some (AI x1), some (AI x2), some (AI x3), some (AI 1), some (AI q111_5_265), some (AI q50_6_177), some (AI q111_7_265), some (AI 0)]) E dX10_layWalk_166 (by decide) rfl ?_
                refine z_loop (St := Int32) (Pi := fun q168_8_275 v168 => (0 ≤ q168_8_275.toInt ∧ q168_8_275.toInt ≤ 7) ∧ (q168_8_275.toInt ≤ (cw : Int)) ∧ (upI v111 110 q111_7_265.toNatClampNeg q111_5_265) = v168) (Lf := fun q168_8_275 => [some (AR 95), some (AI x1), some (AI x2), some (AI x3), some (AI 1), some (AI q111_5_265), some (AI q50_6_177), some (AI q111_7_265), some (AI q168_8_275)]) (fun q168_8_275 _ => ((cw : Int) + 1 - q168_8_275.toInt).toNat) 0 ⟨⟨by decide, by decide⟩, (by have h0_ : (0 : Int32).toInt = 0 := (by decide); omega), rfl⟩ ?_
                rintro q168_8_275 v168 ⟨hq168_8, hl168, hv_⟩ ih168
                subst hv_
                refine s_loc (L2 := [some (AR 95), some (AI x1), some (AI x2), some (AI x3), some (AI 1), some (AI q111_5_265), some (AI q50_6_177), some (AI q111_7_265), some (AI q168_8_275)]) rfl ?_
                refine s_aload_n E dX10_layWalk_168 rfl rfl ?_
                refine s_iload_n E dX10_layWalk_169 rfl rfl ?_
                refine s_iload E dX10_layWalk_170 rfl ?_
                refine s_iload E dX10_layWalk_172 rfl ?_
                refine s_vI (As := [AI x2, AI q111_5_265, AI q168_8_275]) (S := []) E (Z_X10_isBeside_95 l D aC b (upI v111 110 q111_7_265.toNatClampNeg q111_5_265) x2 q111_5_265 q168_8_275 hj_273.1 ⟨by have hb_ := z32 x2; omega, by have hb_ := z32 x2; omega⟩ ⟨by have hb_ := z32 q111_5_265; omega, by have hb_ := z32 q111_5_265; omega⟩ ⟨by have hb_ := z32 q168_8_275; omega, by have hb_ := z32 q168_8_275; omega⟩) cv_X10_352 rfl rfl rfl (jv_lt hj_273 (by decide)) (Nat.le_of_ble_eq_true rfl) (Nat.le_of_ble_eq_true rfl) ⟨(Nat.le_of_ble_eq_true rfl), (Nat.le_of_ble_eq_true rfl)⟩ (Nat.le_of_ble_eq_true rfl) dX10_layWalk_174 (fun z_279 u_277 hp_278 => ?_)
                obtain ⟨hz_279, hxz_279, hp_278⟩ := hp_278
                subst hp_278
                have hbs_ := frm_bs (frm_up hl111.2.1) hxz_279
                refine z_if_eq (tgt := 199) (u := z_279.toInt) E dX10_layWalk_177 (by decide) rfl (fun h_281 => ?_) (fun h_281 => ?_)
                ·
                  have hne_ : ¬ q168_8_275.toInt.toNat = cw := by first | (intro e_; subst e_; have := hbs_.mpr cw4; omega) | (intro e_; subst e_; subst tw_; omega)
                  have hne2_ : ¬ q168_8_275.toInt = (cw : Int) := by omega
                  refine z_iinc (u := q168_8_275.toInt) (L2 := fun z_282 => [some (AR 95), some (AI x1), some (AI x2), some (AI x3), some (AI 1), some (AI q111_5_265), some (AI q50_6_177), some (AI q111_7_265), some (AI z_282)]) E dX10_layWalk_199 rfl rfl (by decide) (fun _ => rfl) (by decide) (by omega) (by omega) (fun z_282 hz_282 => ?_)
                  refine s_goto (tgt := 168) E dX10_layWalk_202 (by decide) ?_
                  exact ih168 z_282 (upI v111 110 q111_7_265.toNatClampNeg q111_5_265) ⟨⟨by have hb_ := z32 z_282; omega, by have hb_ := z32 z_282; omega⟩, (by omega), rfl⟩ (by first | omega | decide | (dsimp only; omega) | (dsimp only; decide))
                ·
                  refine s_aload_n E dX10_layWalk_180 rfl rfl ?_
                  refine s_gR (r := 109) E fg_X10_55 rfl rfl (jv_lt hj_273 (by decide)) (jv_r hj_273 (by decide +kernel)) dX10_layWalk_181 ?_
                  refine s_iload E dX10_layWalk_184 rfl ?_
                  refine s_iconst (v := 1) E dX10_layWalk_186 (by decide) ?_
                  refine z_iadd (u := q111_7_265.toInt) (v := 1) E dX10_layWalk_187 rfl (by decide) (by omega) (by omega) (fun z_283 hz_283 => ?_)
                  refine s_iload E dX10_layWalk_188 rfl ?_
                  refine s_iload E dX10_layWalk_190 rfl ?_
                  refine s_sI (As := [AI z_283, AI q168_8_275, AI 1]) (S := [AR 109]) E (Z_X10_carryState l D aC b (upI v111 110 q111_7_265.toNatClampNeg q111_5_265) z_283 q168_8_275 1 hj_273.1 ⟨by have hb_ := z32 z_283; omega, by have hb_ := z32 z_283; omega⟩ ⟨by have hb_ := z32 q168_8_275; omega, by have hb_ := z32 q168_8_275; omega⟩ (by decide)) cs_X10_355 rfl rfl (Nat.le_of_ble_eq_true rfl) (Nat.le_of_ble_eq_true rfl) ⟨(Nat.le_of_ble_eq_true rfl), (Nat.le_of_ble_eq_true rfl)⟩ (Nat.le_of_ble_eq_true rfl) dX10_layWalk_192 (fun z_286 u_284 hp_285 => ?_)
                  obtain ⟨hz_286, hxz_286, hp_285⟩ := hp_285
                  have hc_ : (1 : Int32).toInt = 1 := by decide
                  subst hp_285
                  have hi3_ : z_286.toInt = 16 * ((q111_7_265.toInt.toNat + 1 : Nat) : Int) + 2 * q168_8_275.toInt + (1 : Int32).toInt := by omega
                  refine s_zald E rfl (jv_lt hj_273 (by decide)) (z_in (u := z_286.toInt) rfl (by omega) (by omega)) dX10_layWalk_195 ?_
                  refine z_nm (P := fun z => z.toInt = ((upI v111 110 q111_7_265.toNatClampNeg q111_5_265).2.2.1 109 z_286.toNatClampNeg).toInt ∧ 0 ≤ z.toInt ∧ z.toInt ≤ 1) ⟨rfl, (ra_109 hj_273 _)⟩ (fun z_288 hz_288 => ?_)
                  have hv_ := (ly_at (f := (upI v111 110 q111_7_265.toNatClampNeg q111_5_265).2.2.1 109) (a := z_288) hi3_ (by omega) (by first | omega | decide) (by omega)).trans (congrArg (fun f_ : Nat → Int32 => (f_ (16 * (q111_7_265.toInt.toNat + 1) + 2 * q168_8_275.toInt.toNat + (1 : Int32).toInt.toNat)).toInt) ((upI_ne (by decide)).trans hl111.1))
                  refine z_if_ne (tgt := 205) (u := z_288.toInt) E dX10_layWalk_196 (by decide) rfl (fun h_289 => ?_) (fun h_289 => ?_)
                  ·
                    have hnx_ : ¬ (v50.2.2.1 109 (16 * (q111_7_265.toInt.toNat + 1) + 2 * q168_8_275.toInt.toNat + (1 : Int32).toInt.toNat)).toInt = 0 := by omega
                    refine s_iload E dX10_layWalk_205 rfl ?_
                    refine s_istore (L2 := [some (AR 95), some (AI x1), some (AI x2), some (AI x3), some (AI 1), some (AI q168_8_275), some (AI q50_6_177), some (AI q111_7_265), some (AI q168_8_275)]) E dX10_layWalk_207 (by decide) rfl ?_
                    refine z_iinc (u := q111_7_265.toInt) (L2 := fun z_290 => [some (AR 95), some (AI x1), some (AI x2), some (AI x3), some (AI 1), some (AI q168_8_275), some (AI q50_6_177), some (AI z_290), some (AI q168_8_275)]) E dX10_layWalk_209 rfl rfl (by decide) (fun _ => rfl) (by decide) (by omega) (by omega) (fun z_290 hz_290 => ?_)
                    refine s_goto (tgt := 111) E dX10_layWalk_212 (by decide) ?_
                    refine s_drop (i := 8) (L2 := [some (AR 95), some (AI x1), some (AI x2), some (AI x3), some (AI 1), some (AI q168_8_275), some (AI q50_6_177), some (AI z_290), none]) rfl ?_
                    exact ih111 ⟨1, q168_8_275, z_290⟩ (upI v111 110 q111_7_265.toNatClampNeg q111_5_265) ⟨⟨by decide, by decide⟩, ⟨by have hb_ := z32 q168_8_275; omega, by have hb_ := z32 q168_8_275; omega⟩, ⟨by have hb_ := z32 z_290; omega, by have hb_ := z32 z_290; omega⟩, (⟨(upI_ne (by decide)).trans hl111.1, frm_up hl111.2.1, by omega, by first | (intro h_; exfalso; omega) | exact fun _ => (by have e7_ : z_290.toInt.toNat = q111_7_265.toInt.toNat + 1 := (by omega); rw [e7_]; exact hnx_)⟩), hj_273⟩ (by first | omega | decide | (dsimp only; omega) | (dsimp only; decide))
                  ·
                    have hne_ : ¬ q168_8_275.toInt.toNat = cw := by first | (intro e_; subst e_; have := hbs_.mpr cw4; omega) | (intro e_; subst e_; subst tw_; omega)
                    have hne2_ : ¬ q168_8_275.toInt = (cw : Int) := by omega
                    refine z_iinc (u := q168_8_275.toInt) (L2 := fun z_291 => [some (AR 95), some (AI x1), some (AI x2), some (AI x3), some (AI 1), some (AI q111_5_265), some (AI q50_6_177), some (AI q111_7_265), some (AI z_291)]) E dX10_layWalk_199 rfl rfl (by decide) (fun _ => rfl) (by decide) (by omega) (by omega) (fun z_291 hz_291 => ?_)
                    refine s_goto (tgt := 168) E dX10_layWalk_202 (by decide) ?_
                    exact ih168 z_291 (upI v111 110 q111_7_265.toNatClampNeg q111_5_265) ⟨⟨by have hb_ := z32 z_291; omega, by have hb_ := z32 z_291; omega⟩, (by omega), rfl⟩ (by first | omega | decide | (dsimp only; omega) | (dsimp only; decide))
              ·
                refine s_aload_n E dX10_layWalk_145 rfl rfl ?_
                refine s_iload_n E dX10_layWalk_146 rfl rfl ?_
                refine s_iload_n E dX10_layWalk_147 rfl rfl ?_
                refine s_iload E dX10_layWalk_148 rfl ?_
                refine s_iload E dX10_layWalk_150 rfl ?_
                refine s_vI (As := [AI x1, AI x2, AI q111_5_265, AI q111_7_265]) (S := []) E (Z_X10_takesIn_95 l D aC b (upI v111 110 q111_7_265.toNatClampNeg q111_5_265) x1 x2 q111_5_265 q111_7_265 hj_273.1 ⟨by have hb_ := z32 x1; omega, by have hb_ := z32 x1; omega⟩ ⟨by have hb_ := z32 x2; omega, by have hb_ := z32 x2; omega⟩ ⟨by have hb_ := z32 q111_5_265; omega, by have hb_ := z32 q111_5_265; omega⟩ ⟨by have hb_ := z32 q111_7_265; omega, by have hb_ := z32 q111_7_265; omega⟩) cv_X10_348 rfl rfl rfl (jv_lt hj_273 (by decide)) (Nat.le_of_ble_eq_true rfl) (Nat.le_of_ble_eq_true rfl) ⟨(Nat.le_of_ble_eq_true rfl), (Nat.le_of_ble_eq_true rfl)⟩ (Nat.le_of_ble_eq_true rfl) dX10_layWalk_152 (fun z_294 u_292 hp_293 => ?_)
                obtain ⟨hz_294, hxz_294, hp_293⟩ := hp_293
                subst hp_293
                have hk_ := frm_tk (frm_up hl111.2.1) hxz_294
                refine z_if_eq (tgt := 162) (u := z_294.toInt) E dX10_layWalk_155 (by decide) rfl (fun h_296 => ?_) (fun h_296 => ?_)
                ·
                  refine s_iconst (v := 0) E dX10_layWalk_162 (by decide) ?_
                  refine s_istore (L2 := [some (AR 95), some (AI x1), some (AI x2), some (AI x3), some (AI 0), some (AI q111_5_265), some (AI q50_6_177), some (AI q111_7_265), none]) E dX10_layWalk_163 (by decide) rfl ?_
                  have hth_ : (0 : Int32).toInt = 1 ↔ ((q111_4_265 : Int32).toInt = 1 ∨ TKs u_5 x1 x2 q111_5_265.toInt q111_7_265.toInt.toNat) := by first | exact ⟨fun _ => Or.inl (by omega), fun _ => by decide⟩ | exact ⟨fun _ => Or.inr (hk_.mp (by omega)), fun _ => by decide⟩ | exact ⟨fun h_ => absurd h_ (by decide), fun h_ => h_.elim (fun g_ => by omega) (fun g_ => absurd (hk_.mpr g_) (by omega))⟩
                  obtain ⟨cw, tw, cw1, cw2, cw3, cw4, cw5⟩ := hcg_ q111_7_265.toInt.toNat q111_5_265.toInt.toNat q111_4_265.toInt.toNat (by omega) (by omega) (by omega) (by omega) (hl111.2.2.2 (by omega))
                  have hN2_ : (u_5.2.2.1 96 0).toInt ≤ 8 := by omega
                  have tw_ : tw = (0 : Int32).toInt.toNat := tw_eq cw2 cw3 hth_ (by omega) ⟨by omega, by omega⟩ (by first | omega | decide) (by first | omega | decide)
                  refine s_iconst (v := 0) E dX10_layWalk_165 (by decide) ?_
                  refine s_istore (L2 := [some (AR 95), some (AI x1), some (AI x2), some (AI x3), some (AI 0), some (AI q111_5_265), some (AI q50_6_177), some (AI q111_7_265), some (AI 0)]) E dX10_layWalk_166 (by decide) rfl ?_
                  refine z_loop (St := Int32) (Pi := fun q168_8_296 v168 => (0 ≤ q168_8_296.toInt ∧ q168_8_296.toInt ≤ 7) ∧ (q168_8_296.toInt ≤ (cw : Int)) ∧ (upI v111 110 q111_7_265.toNatClampNeg q111_5_265) = v168) (Lf := fun q168_8_296 => [some (AR 95), some (AI x1), some (AI x2), some (AI x3), some (AI 0), some (AI q111_5_265), some (AI q50_6_177), some (AI q111_7_265), some (AI q168_8_296)]) (fun q168_8_296 _ => ((cw : Int) + 1 - q168_8_296.toInt).toNat) 0 ⟨⟨by decide, by decide⟩, (by have h0_ : (0 : Int32).toInt = 0 := (by decide); omega), rfl⟩ ?_
                  rintro q168_8_296 v168 ⟨hq168_8, hl168, hv_⟩ ih168
                  subst hv_
                  refine s_loc (L2 := [some (AR 95), some (AI x1), some (AI x2), some (AI x3), some (AI 0), some (AI q111_5_265), some (AI q50_6_177), some (AI q111_7_265), some (AI q168_8_296)]) rfl ?_
                  refine s_aload_n E dX10_layWalk_168 rfl rfl ?_
                  refine s_iload_n E dX10_layWalk_169 rfl rfl ?_
                  refine s_iload E dX10_layWalk_170 rfl ?_
                  refine s_iload E dX10_layWalk_172 rfl ?_
                  refine s_vI (As := [AI x2, AI q111_5_265, AI q168_8_296]) (S := []) E (Z_X10_isBeside_95 l D aC b (upI v111 110 q111_7_265.toNatClampNeg q111_5_265) x2 q111_5_265 q168_8_296 hj_273.1 ⟨by have hb_ := z32 x2; omega, by have hb_ := z32 x2; omega⟩ ⟨by have hb_ := z32 q111_5_265; omega, by have hb_ := z32 q111_5_265; omega⟩ ⟨by have hb_ := z32 q168_8_296; omega, by have hb_ := z32 q168_8_296; omega⟩) cv_X10_352 rfl rfl rfl (jv_lt hj_273 (by decide)) (Nat.le_of_ble_eq_true rfl) (Nat.le_of_ble_eq_true rfl) ⟨(Nat.le_of_ble_eq_true rfl), (Nat.le_of_ble_eq_true rfl)⟩ (Nat.le_of_ble_eq_true rfl) dX10_layWalk_174 (fun z_300 u_298 hp_299 => ?_)
                  obtain ⟨hz_300, hxz_300, hp_299⟩ := hp_299
                  subst hp_299
                  have hbs_ := frm_bs (frm_up hl111.2.1) hxz_300
                  refine z_if_eq (tgt := 199) (u := z_300.toInt) E dX10_layWalk_177 (by decide) rfl (fun h_302 => ?_) (fun h_302 => ?_)
                  ·
                    have hne_ : ¬ q168_8_296.toInt.toNat = cw := by first | (intro e_; subst e_; have := hbs_.mpr cw4; omega) | (intro e_; subst e_; subst tw_; omega)
                    have hne2_ : ¬ q168_8_296.toInt = (cw : Int) := by omega
                    refine z_iinc (u := q168_8_296.toInt) (L2 := fun z_303 => [some (AR 95), some (AI x1), some (AI x2), some (AI x3), some (AI 0), some (AI q111_5_265), some (AI q50_6_177), some (AI q111_7_265), some (AI z_303)]) E dX10_layWalk_199 rfl rfl (by decide) (fun _ => rfl) (by decide) (by omega) (by omega) (fun z_303 hz_303 => ?_)
                    refine s_goto (tgt := 168) E dX10_layWalk_202 (by decide) ?_
                    exact ih168 z_303 (upI v111 110 q111_7_265.toNatClampNeg q111_5_265) ⟨⟨by have hb_ := z32 z_303; omega, by have hb_ := z32 z_303; omega⟩, (by omega), rfl⟩ (by first | omega | decide | (dsimp only; omega) | (dsimp only; decide))
                  ·
                    refine s_aload_n E dX10_layWalk_180 rfl rfl ?_
                    refine s_gR (r := 109) E fg_X10_55 rfl rfl (jv_lt hj_273 (by decide)) (jv_r hj_273 (by decide +kernel)) dX10_layWalk_181 ?_
                    refine s_iload E dX10_layWalk_184 rfl ?_
                    refine s_iconst (v := 1) E dX10_layWalk_186 (by decide) ?_
                    refine z_iadd (u := q111_7_265.toInt) (v := 1) E dX10_layWalk_187 rfl (by decide) (by omega) (by omega) (fun z_304 hz_304 => ?_)
                    refine s_iload E dX10_layWalk_188 rfl ?_
                    refine s_iload E dX10_layWalk_190 rfl ?_
                    refine s_sI (As := [AI z_304, AI q168_8_296, AI 0]) (S := [AR 109]) E (Z_X10_carryState l D aC b (upI v111 110 q111_7_265.toNatClampNeg q111_5_265) z_304 q168_8_296 0 hj_273.1 ⟨by have hb_ := z32 z_304; omega, by have hb_ := z32 z_304; omega⟩ ⟨by have hb_ := z32 q168_8_296; omega, by have hb_ := z32 q168_8_296; omega⟩ (by decide)) cs_X10_355 rfl rfl (Nat.le_of_ble_eq_true rfl) (Nat.le_of_ble_eq_true rfl) ⟨(Nat.le_of_ble_eq_true rfl), (Nat.le_of_ble_eq_true rfl)⟩ (Nat.le_of_ble_eq_true rfl) dX10_layWalk_192 (fun z_307 u_305 hp_306 => ?_)
                    obtain ⟨hz_307, hxz_307, hp_306⟩ := hp_306
                    have hc_ : (0 : Int32).toInt = 0 := by decide
                    subst hp_306
                    have hi3_ : z_307.toInt = 16 * ((q111_7_265.toInt.toNat + 1 : Nat) : Int) + 2 * q168_8_296.toInt + (0 : Int32).toInt := by omega
                    refine s_zald E rfl (jv_lt hj_273 (by decide)) (z_in (u := z_307.toInt) rfl (by omega) (by omega)) dX10_layWalk_195 ?_
                    refine z_nm (P := fun z => z.toInt = ((upI v111 110 q111_7_265.toNatClampNeg q111_5_265).2.2.1 109 z_307.toNatClampNeg).toInt ∧ 0 ≤ z.toInt ∧ z.toInt ≤ 1) ⟨rfl, (ra_109 hj_273 _)⟩ (fun z_309 hz_309 => ?_)
                    have hv_ := (ly_at (f := (upI v111 110 q111_7_265.toNatClampNeg q111_5_265).2.2.1 109) (a := z_309) hi3_ (by omega) (by first | omega | decide) (by omega)).trans (congrArg (fun f_ : Nat → Int32 => (f_ (16 * (q111_7_265.toInt.toNat + 1) + 2 * q168_8_296.toInt.toNat + (0 : Int32).toInt.toNat)).toInt) ((upI_ne (by decide)).trans hl111.1))
                    refine z_if_ne (tgt := 205) (u := z_309.toInt) E dX10_layWalk_196 (by decide) rfl (fun h_310 => ?_) (fun h_310 => ?_)
                    ·
                      have hnx_ : ¬ (v50.2.2.1 109 (16 * (q111_7_265.toInt.toNat + 1) + 2 * q168_8_296.toInt.toNat + (0 : Int32).toInt.toNat)).toInt = 0 := by omega
                      refine s_iload E dX10_layWalk_205 rfl ?_
                      refine s_istore (L2 := [some (AR 95), some (AI x1), some (AI x2), some (AI x3), some (AI 0), some (AI q168_8_296), some (AI q50_6_177), some (AI q111_7_265), some (AI q168_8_296)]) E dX10_layWalk_207 (by decide) rfl ?_
                      refine z_iinc (u := q111_7_265.toInt) (L2 := fun z_311 => [some (AR 95), some (AI x1), some (AI x2), some (AI x3), some (AI 0), some (AI q168_8_296), some (AI q50_6_177), some (AI z_311), some (AI q168_8_296)]) E dX10_layWalk_209 rfl rfl (by decide) (fun _ => rfl) (by decide) (by omega) (by omega) (fun z_311 hz_311 => ?_)
                      refine s_goto (tgt := 111) E dX10_layWalk_212 (by decide) ?_
                      refine s_drop (i := 8) (L2 := [some (AR 95), some (AI x1), some (AI x2), some (AI x3), some (AI 0), some (AI q168_8_296), some (AI q50_6_177), some (AI z_311), none]) rfl ?_
                      exact ih111 ⟨0, q168_8_296, z_311⟩ (upI v111 110 q111_7_265.toNatClampNeg q111_5_265) ⟨⟨by decide, by decide⟩, ⟨by have hb_ := z32 q168_8_296; omega, by have hb_ := z32 q168_8_296; omega⟩, ⟨by have hb_ := z32 z_311; omega, by have hb_ := z32 z_311; omega⟩, (⟨(upI_ne (by decide)).trans hl111.1, frm_up hl111.2.1, by omega, by first | (intro h_; exfalso; omega) | exact fun _ => (by have e7_ : z_311.toInt.toNat = q111_7_265.toInt.toNat + 1 := (by omega); rw [e7_]; exact hnx_)⟩), hj_273⟩ (by first | omega | decide | (dsimp only; omega) | (dsimp only; decide))
                    ·
                      have hne_ : ¬ q168_8_296.toInt.toNat = cw := by first | (intro e_; subst e_; have := hbs_.mpr cw4; omega) | (intro e_; subst e_; subst tw_; omega)
                      have hne2_ : ¬ q168_8_296.toInt = (cw : Int) := by omega
                      refine z_iinc (u := q168_8_296.toInt) (L2 := fun z_312 => [some (AR 95), some (AI x1), some (AI x2), some (AI x3), some (AI 0), some (AI q111_5_265), some (AI q50_6_177), some (AI q111_7_265), some (AI z_312)]) E dX10_layWalk_199 rfl rfl (by decide) (fun _ => rfl) (by decide) (by omega) (by omega) (fun z_312 hz_312 => ?_)
                      refine s_goto (tgt := 168) E dX10_layWalk_202 (by decide) ?_
                      exact ih168 z_312 (upI v111 110 q111_7_265.toNatClampNeg q111_5_265) ⟨⟨by have hb_ := z32 z_312; omega, by have hb_ := z32 z_312; omega⟩, (by omega), rfl⟩ (by first | omega | decide | (dsimp only; omega) | (dsimp only; decide))
                ·
                  refine s_iconst (v := 1) E dX10_layWalk_158 (by decide) ?_
                  refine s_goto (tgt := 163) E dX10_layWalk_159 (by decide) ?_
                  refine s_istore (L2 := [some (AR 95), some (AI x1), some (AI x2), some (AI x3), some (AI 1), some (AI q111_5_265), some (AI q50_6_177), some (AI q111_7_265), none]) E dX10_layWalk_163 (by decide) rfl ?_
                  have hth_ : (1 : Int32).toInt = 1 ↔ ((q111_4_265 : Int32).toInt = 1 ∨ TKs u_5 x1 x2 q111_5_265.toInt q111_7_265.toInt.toNat) := by first | exact ⟨fun _ => Or.inl (by omega), fun _ => by decide⟩ | exact ⟨fun _ => Or.inr (hk_.mp (by omega)), fun _ => by decide⟩ | exact ⟨fun h_ => absurd h_ (by decide), fun h_ => h_.elim (fun g_ => by omega) (fun g_ => absurd (hk_.mpr g_) (by omega))⟩
                  obtain ⟨cw, tw, cw1, cw2, cw3, cw4, cw5⟩ := hcg_ q111_7_265.toInt.toNat q111_5_265.toInt.toNat q111_4_265.toInt.toNat (by omega) (by omega) (by omega) (by omega) (hl111.2.2.2 (by omega))
                  have hN2_ : (u_5.2.2.1 96 0).toInt ≤ 8 := by omega
                  have tw_ : tw = (1 : Int32).toInt.toNat := tw_eq cw2 cw3 hth_ (by omega) ⟨by omega, by omega⟩ (by first | omega | decide) (by first | omega | decide)
                  refine s_iconst (v := 0) E dX10_layWalk_165 (by decide) ?_
                  refine s_istore (L2 := [some (AR 95), some (AI x1), some (AI x2), some (AI x3), some (AI 1), some (AI q111_5_265), some (AI q50_6_177), some (AI q111_7_265), some (AI 0)]) E dX10_layWalk_166 (by decide) rfl ?_
                  refine z_loop (St := Int32) (Pi := fun q168_8_312 v168 => (0 ≤ q168_8_312.toInt ∧ q168_8_312.toInt ≤ 7) ∧ (q168_8_312.toInt ≤ (cw : Int)) ∧ (upI v111 110 q111_7_265.toNatClampNeg q111_5_265) = v168) (Lf := fun q168_8_312 => [some (AR 95), some (AI x1), some (AI x2), some (AI x3), some (AI 1), some (AI q111_5_265), some (AI q50_6_177), some (AI q111_7_265), some (AI q168_8_312)]) (fun q168_8_312 _ => ((cw : Int) + 1 - q168_8_312.toInt).toNat) 0 ⟨⟨by decide, by decide⟩, (by have h0_ : (0 : Int32).toInt = 0 := (by decide); omega), rfl⟩ ?_
                  rintro q168_8_312 v168 ⟨hq168_8, hl168, hv_⟩ ih168
                  subst hv_
                  refine s_loc (L2 := [some (AR 95), some (AI x1), some (AI x2), some (AI x3), some (AI 1), some (AI q111_5_265), some (AI q50_6_177), some (AI q111_7_265), some (AI q168_8_312)]) rfl ?_
                  refine s_aload_n E dX10_layWalk_168 rfl rfl ?_
                  refine s_iload_n E dX10_layWalk_169 rfl rfl ?_
                  refine s_iload E dX10_layWalk_170 rfl ?_
                  refine s_iload E dX10_layWalk_172 rfl ?_
                  refine s_vI (As := [AI x2, AI q111_5_265, AI q168_8_312]) (S := []) E (Z_X10_isBeside_95 l D aC b (upI v111 110 q111_7_265.toNatClampNeg q111_5_265) x2 q111_5_265 q168_8_312 hj_273.1 ⟨by have hb_ := z32 x2; omega, by have hb_ := z32 x2; omega⟩ ⟨by have hb_ := z32 q111_5_265; omega, by have hb_ := z32 q111_5_265; omega⟩ ⟨by have hb_ := z32 q168_8_312; omega, by have hb_ := z32 q168_8_312; omega⟩) cv_X10_352 rfl rfl rfl (jv_lt hj_273 (by decide)) (Nat.le_of_ble_eq_true rfl) (Nat.le_of_ble_eq_true rfl) ⟨(Nat.le_of_ble_eq_true rfl), (Nat.le_of_ble_eq_true rfl)⟩ (Nat.le_of_ble_eq_true rfl) dX10_layWalk_174 (fun z_316 u_314 hp_315 => ?_)
                  obtain ⟨hz_316, hxz_316, hp_315⟩ := hp_315
                  subst hp_315
                  have hbs_ := frm_bs (frm_up hl111.2.1) hxz_316
                  refine z_if_eq (tgt := 199) (u := z_316.toInt) E dX10_layWalk_177 (by decide) rfl (fun h_318 => ?_) (fun h_318 => ?_)
                  ·
                    have hne_ : ¬ q168_8_312.toInt.toNat = cw := by first | (intro e_; subst e_; have := hbs_.mpr cw4; omega) | (intro e_; subst e_; subst tw_; omega)
                    have hne2_ : ¬ q168_8_312.toInt = (cw : Int) := by omega
                    refine z_iinc (u := q168_8_312.toInt) (L2 := fun z_319 => [some (AR 95), some (AI x1), some (AI x2), some (AI x3), some (AI 1), some (AI q111_5_265), some (AI q50_6_177), some (AI q111_7_265), some (AI z_319)]) E dX10_layWalk_199 rfl rfl (by decide) (fun _ => rfl) (by decide) (by omega) (by omega) (fun z_319 hz_319 => ?_)
                    refine s_goto (tgt := 168) E dX10_layWalk_202 (by decide) ?_
                    exact ih168 z_319 (upI v111 110 q111_7_265.toNatClampNeg q111_5_265) ⟨⟨by have hb_ := z32 z_319; omega, by have hb_ := z32 z_319; omega⟩, (by omega), rfl⟩ (by first | omega | decide | (dsimp only; omega) | (dsimp only; decide))
                  ·
                    refine s_aload_n E dX10_layWalk_180 rfl rfl ?_
                    refine s_gR (r := 109) E fg_X10_55 rfl rfl (jv_lt hj_273 (by decide)) (jv_r hj_273 (by decide +kernel)) dX10_layWalk_181 ?_
                    refine s_iload E dX10_layWalk_184 rfl ?_
                    refine s_iconst (v := 1) E dX10_layWalk_186 (by decide) ?_
                    refine z_iadd (u := q111_7_265.toInt) (v := 1) E dX10_layWalk_187 rfl (by decide) (by omega) (by omega) (fun z_320 hz_320 => ?_)
                    refine s_iload E dX10_layWalk_188 rfl ?_
                    refine s_iload E dX10_layWalk_190 rfl ?_
                    refine s_sI (As := [AI z_320, AI q168_8_312, AI 1]) (S := [AR 109]) E (Z_X10_carryState l D aC b (upI v111 110 q111_7_265.toNatClampNeg q111_5_265) z_320 q168_8_312 1 hj_273.1 ⟨by have hb_ := z32 z_320; omega, by have hb_ := z32 z_320; omega⟩ ⟨by have hb_ := z32 q168_8_312; omega, by have hb_ := z32 q168_8_312; omega⟩ (by decide)) cs_X10_355 rfl rfl (Nat.le_of_ble_eq_true rfl) (Nat.le_of_ble_eq_true rfl) ⟨(Nat.le_of_ble_eq_true rfl), (Nat.le_of_ble_eq_true rfl)⟩ (Nat.le_of_ble_eq_true rfl) dX10_layWalk_192 (fun z_323 u_321 hp_322 => ?_)
                    obtain ⟨hz_323, hxz_323, hp_322⟩ := hp_322
                    have hc_ : (1 : Int32).toInt = 1 := by decide
                    subst hp_322
                    have hi3_ : z_323.toInt = 16 * ((q111_7_265.toInt.toNat + 1 : Nat) : Int) + 2 * q168_8_312.toInt + (1 : Int32).toInt := by omega
                    refine s_zald E rfl (jv_lt hj_273 (by decide)) (z_in (u := z_323.toInt) rfl (by omega) (by omega)) dX10_layWalk_195 ?_
                    refine z_nm (P := fun z => z.toInt = ((upI v111 110 q111_7_265.toNatClampNeg q111_5_265).2.2.1 109 z_323.toNatClampNeg).toInt ∧ 0 ≤ z.toInt ∧ z.toInt ≤ 1) ⟨rfl, (ra_109 hj_273 _)⟩ (fun z_325 hz_325 => ?_)
                    have hv_ := (ly_at (f := (upI v111 110 q111_7_265.toNatClampNeg q111_5_265).2.2.1 109) (a := z_325) hi3_ (by omega) (by first | omega | decide) (by omega)).trans (congrArg (fun f_ : Nat → Int32 => (f_ (16 * (q111_7_265.toInt.toNat + 1) + 2 * q168_8_312.toInt.toNat + (1 : Int32).toInt.toNat)).toInt) ((upI_ne (by decide)).trans hl111.1))
                    refine z_if_ne (tgt := 205) (u := z_325.toInt) E dX10_layWalk_196 (by decide) rfl (fun h_326 => ?_) (fun h_326 => ?_)
                    ·
                      have hnx_ : ¬ (v50.2.2.1 109 (16 * (q111_7_265.toInt.toNat + 1) + 2 * q168_8_312.toInt.toNat + (1 : Int32).toInt.toNat)).toInt = 0 := by omega
                      refine s_iload E dX10_layWalk_205 rfl ?_
                      refine s_istore (L2 := [some (AR 95), some (AI x1), some (AI x2), some (AI x3), some (AI 1), some (AI q168_8_312), some (AI q50_6_177), some (AI q111_7_265), some (AI q168_8_312)]) E dX10_layWalk_207 (by decide) rfl ?_
                      refine z_iinc (u := q111_7_265.toInt) (L2 := fun z_327 => [some (AR 95), some (AI x1), some (AI x2), some (AI x3), some (AI 1), some (AI q168_8_312), some (AI q50_6_177), some (AI z_327), some (AI q168_8_312)]) E dX10_layWalk_209 rfl rfl (by decide) (fun _ => rfl) (by decide) (by omega) (by omega) (fun z_327 hz_327 => ?_)
                      refine s_goto (tgt := 111) E dX10_layWalk_212 (by decide) ?_
                      refine s_drop (i := 8) (L2 := [some (AR 95), some (AI x1), some (AI x2), some (AI x3), some (AI 1), some (AI q168_8_312), some (AI q50_6_177), some (AI z_327), none]) rfl ?_
                      exact ih111 ⟨1, q168_8_312, z_327⟩ (upI v111 110 q111_7_265.toNatClampNeg q111_5_265) ⟨⟨by decide, by decide⟩, ⟨by have hb_ := z32 q168_8_312; omega, by have hb_ := z32 q168_8_312; omega⟩, ⟨by have hb_ := z32 z_327; omega, by have hb_ := z32 z_327; omega⟩, (⟨(upI_ne (by decide)).trans hl111.1, frm_up hl111.2.1, by omega, by first | (intro h_; exfalso; omega) | exact fun _ => (by have e7_ : z_327.toInt.toNat = q111_7_265.toInt.toNat + 1 := (by omega); rw [e7_]; exact hnx_)⟩), hj_273⟩ (by first | omega | decide | (dsimp only; omega) | (dsimp only; decide))
                    ·
                      have hne_ : ¬ q168_8_312.toInt.toNat = cw := by first | (intro e_; subst e_; have := hbs_.mpr cw4; omega) | (intro e_; subst e_; subst tw_; omega)
                      have hne2_ : ¬ q168_8_312.toInt = (cw : Int) := by omega
                      refine z_iinc (u := q168_8_312.toInt) (L2 := fun z_328 => [some (AR 95), some (AI x1), some (AI x2), some (AI x3), some (AI 1), some (AI q111_5_265), some (AI q50_6_177), some (AI q111_7_265), some (AI z_328)]) E dX10_layWalk_199 rfl rfl (by decide) (fun _ => rfl) (by decide) (by omega) (by omega) (fun z_328 hz_328 => ?_)
                      refine s_goto (tgt := 168) E dX10_layWalk_202 (by decide) ?_
                      exact ih168 z_328 (upI v111 110 q111_7_265.toNatClampNeg q111_5_265) ⟨⟨by have hb_ := z32 z_328; omega, by have hb_ := z32 z_328; omega⟩, (by omega), rfl⟩ (by first | omega | decide | (dsimp only; omega) | (dsimp only; decide))
            ·
              refine s_goto (tgt := 209) E dX10_layWalk_136 (by decide) ?_
              refine z_iinc (u := q111_7_265.toInt) (L2 := fun z_329 => [some (AR 95), some (AI x1), some (AI x2), some (AI x3), some (AI q111_4_265), some (AI q111_5_265), some (AI q50_6_177), some (AI z_329), none]) E dX10_layWalk_209 rfl rfl (by decide) (fun _ => rfl) (by decide) (by omega) (by omega) (fun z_329 hz_329 => ?_)
              refine s_goto (tgt := 111) E dX10_layWalk_212 (by decide) ?_
              exact ih111 ⟨q111_4_265, q111_5_265, z_329⟩ (upI v111 110 q111_7_265.toNatClampNeg q111_5_265) ⟨⟨by have hb_ := z32 q111_4_265; omega, by have hb_ := z32 q111_4_265; omega⟩, ⟨by have hb_ := z32 q111_5_265; omega, by have hb_ := z32 q111_5_265; omega⟩, ⟨by have hb_ := z32 z_329; omega, by have hb_ := z32 z_329; omega⟩, (⟨(upI_ne (by decide)).trans hl111.1, frm_up hl111.2.1, by omega, by first | (intro h_; exfalso; omega) | exact fun _ => (by have e7_ : z_329.toInt.toNat = q111_7_265.toInt.toNat + 1 := (by omega); rw [e7_]; exact hnx_)⟩), hj_273⟩ (by first | omega | decide | (dsimp only; omega) | (dsimp only; decide))
        ·
          refine s_iconst (v := (-1)) E dX10_layWalk_106 (by decide) ?_
          exact r_int E dX10_layWalk_107 ⟨(by decide), hj_178⟩
      ·
        refine z_iinc (u := q50_6_177.toInt) (L2 := fun z_330 => [some (AR 95), some (AI x1), some (AI x2), some (AI x3), some (AI 1), some (AI z_174), some (AI z_330), none, none]) E dX10_layWalk_75 rfl rfl (by decide) (fun _ => rfl) (by decide) (by omega) (by omega) (fun z_330 hz_330 => ?_)
        refine s_aload_n E dX10_layWalk_78 rfl rfl ?_
        refine s_iload_n E dX10_layWalk_79 rfl rfl ?_
        refine s_iload_n E dX10_layWalk_80 rfl rfl ?_
        refine s_iload_n E dX10_layWalk_81 rfl rfl ?_
        refine s_iload E dX10_layWalk_82 rfl ?_
        refine s_vV (As := [AI x1, AI x2, AI x3, AI z_330]) (S := []) E (Z_X10_layCarry_95 l D aC b v50 x1 x2 x3 z_330 hj_178.1 ⟨by have hb_ := z32 x1; omega, by have hb_ := z32 x1; omega⟩ ⟨by have hb_ := z32 x2; omega, by have hb_ := z32 x2; omega⟩ ⟨by have hb_ := z32 x3; omega, by have hb_ := z32 x3; omega⟩ ⟨by have hb_ := z32 z_330; omega, by have hb_ := z32 z_330; omega⟩) cv_X10_358 rfl rfl rfl (jv_lt hj_178 (by decide)) (Nat.le_of_ble_eq_true rfl) (Nat.le_of_ble_eq_true rfl) ⟨(Nat.le_of_ble_eq_true rfl), (Nat.le_of_ble_eq_true rfl)⟩ (Nat.le_of_ble_eq_true rfl) dX10_layWalk_84 (fun u_331 hp_332 => ?_)
        obtain ⟨hx_hp_332, hf_u_331_95, hf_u_331_96, hf_u_331_102, hf_u_331_103, hf_u_331_106, hp_332⟩ := hp_332
        have hj_333 := jv_trans hj_178 hp_332
        have hfa_96_5 := congrArg Int32.toInt (congrFun hf_u_331_96 5)
        have hfa_96_0 := congrArg Int32.toInt (congrFun hf_u_331_96 0)
        have hF84_ : Frm u_331 v50 := ⟨hf_u_331_95, hf_u_331_96, hf_u_331_102, hf_u_331_103, hf_u_331_106⟩
        have hC84_ := hx_hp_332
        refine s_goto (tgt := 50) E dX10_layWalk_87 (by decide) ?_
        exact ih50 z_330 u_331 ⟨⟨by have hb_ := z32 z_330; omega, by have hb_ := z32 z_330; omega⟩, (⟨frm_tr hF84_ hl50.1, frm_cg hl50.1 hC84_⟩), hj_333⟩ (by first | omega | decide | (dsimp only; omega) | (dsimp only; decide))
