set_option maxRecDepth 20000 in
set_option maxHeartbeats 2000000 in
theorem Z_X10_layMusic_95 (l : Launch) (D : va_G) (aC : Nat → ClassId) (b : Nat) (w : XW) (x1 : Int32) (x2 : Int32) (x3 : Int32) (hI : Iv w) (hx1 : 0 ≤ x1.toInt ∧ x1.toInt ≤ 5) (hx3 : 0 ≤ x3.toInt ∧ x3.toInt ≤ 8) : CnV l D aC b M_X10_layMusic 4 96 0 0 [AR 95, AI x1, AI x2, AI x3] w (fun u => (¬ (u.2.2.2 95 33).toInt = 0) ∧ Jv w u) := by
  refine cn_V (own := RX10) (nm := "layMusic") (L0 := [some (AR 95), some (AI x1), some (AI x2), some (AI x3), none, none, none]) (by decide +kernel) rfl rfl (Nat.le_of_ble_eq_true rfl) rfl ?_
  intro p e s m args below meth c E hin
  have hJ : Jv w w := jv_rfl hI
  have hb_x2 := z32 x2
  obtain ⟨T_, hT0_, hT1_, hT2_, hT3_⟩ := y_T x3 (by omega) (by omega)
  refine s_aload_n E dX10_layMusic_0 rfl rfl ?_
  refine s_lconst (v := 0) E dX10_layMusic_1 (by decide) ?_
  refine s_pL E fp_X10_423 rfl rfl (jv_lt hJ (by decide)) dX10_layMusic_2 ?_
  refine s_gen (P := fun v => Jv w v ∧ (v.2.2.2 95 33).toInt = 0 ∧ (v.2.2.1 95 24).toInt = (w.2.2.1 95 24).toInt ∧ (v.2.2.1 96 3).toInt = (w.2.2.1 96 3).toInt) ⟨(jv_L hJ (by decide)), rfl, rfl, rfl⟩ (fun v_1 hj_2 => ?_)
  obtain ⟨hj_2, hk_3k0, hk_3k1, hk_3k2⟩ := hj_2
  refine s_aload_n E dX10_layMusic_5 rfl rfl ?_
  refine s_lconst (v := 0) E dX10_layMusic_6 (by decide) ?_
  refine s_pL E fp_X10_427 rfl rfl (jv_lt hj_2 (by decide)) dX10_layMusic_7 ?_
  refine s_gen (P := fun v => Jv w v ∧ (v.2.2.2 95 33).toInt = (v_1.2.2.2 95 33).toInt ∧ (v.2.2.1 95 24).toInt = (v_1.2.2.1 95 24).toInt ∧ (v.2.2.1 96 3).toInt = (v_1.2.2.1 96 3).toInt) ⟨(jv_L hj_2 (by decide)), rfl, rfl, rfl⟩ (fun v_4 hj_5 => ?_)
  obtain ⟨hj_5, hk_6k0, hk_6k1, hk_6k2⟩ := hj_5
  refine s_aload_n E dX10_layMusic_10 rfl rfl ?_
  refine s_lconst (v := 0) E dX10_layMusic_11 (by decide) ?_
  refine s_pL E fp_X10_430 rfl rfl (jv_lt hj_5 (by decide)) dX10_layMusic_12 ?_
  refine s_gen (P := fun v => Jv w v ∧ (v.2.2.2 95 33).toInt = (v_4.2.2.2 95 33).toInt ∧ (v.2.2.1 95 24).toInt = (v_4.2.2.1 95 24).toInt ∧ (v.2.2.1 96 3).toInt = (v_4.2.2.1 96 3).toInt) ⟨(jv_L hj_5 (by decide)), rfl, rfl, rfl⟩ (fun v_7 hj_8 => ?_)
  obtain ⟨hj_8, hk_9k0, hk_9k1, hk_9k2⟩ := hj_8
  refine s_aload_n E dX10_layMusic_15 rfl rfl ?_
  refine s_iconst (v := 0) E dX10_layMusic_16 (by decide) ?_
  refine s_pI E fp_X10_270 (Or.inl rfl) rfl (jv_lt hj_8 (by decide)) dX10_layMusic_17 ?_
  refine s_gen (P := fun v => Jv w v ∧ (v.2.2.2 95 33).toInt = (v_7.2.2.2 95 33).toInt ∧ (v.2.2.1 95 24).toInt = 0 ∧ (v.2.2.1 96 3).toInt = (v_7.2.2.1 96 3).toInt) ⟨(jv_f_95_24 hj_8 (by decide) (by decide)), rfl, rfl, rfl⟩ (fun v_10 hj_11 => ?_)
  obtain ⟨hj_11, hk_12k0, hk_12k1, hk_12k2⟩ := hj_11
  refine z_loop (St := Unit) (Pi := fun () v20 => (0 ≤ (v20.2.2.1 95 24).toInt ∧ (v20.2.2.1 95 24).toInt ≤ T_ ∧ 0 ≤ (v20.2.2.2 95 33).toInt ∧ (v20.2.2.2 95 33).toInt ≤ (v20.2.2.1 95 24).toInt * 1000000000 ∧ ((v20.2.2.1 96 3).toInt ≤ 9 → 1 ≤ (v20.2.2.1 95 24).toInt → 1 ≤ (v20.2.2.2 95 33).toInt) ∧ ((v20.2.2.1 96 3).toInt = 10 → (v20.2.2.1 95 24).toInt = T_ → 1 ≤ (v20.2.2.2 95 33).toInt)) ∧ Jv w v20) (Lf := fun () => [some (AR 95), some (AI x1), some (AI x2), some (AI x3), none, none, none]) (fun () v20 => (T_ - (v20.2.2.1 95 24).toInt).toNat) () ⟨(by omega), hj_11⟩ ?_
  rintro _ v20 ⟨hl20, hj_13⟩ ih20
  refine s_loc (L2 := [some (AR 95), some (AI x1), some (AI x2), some (AI x3), none, none, none]) rfl ?_
  refine s_aload_n E dX10_layMusic_20 rfl rfl ?_
  refine s_gI E fg_X10_270 rfl rfl (jv_lt hj_13 (by decide)) dX10_layMusic_21 ?_
  refine z_nm (P := fun z => z.toInt = (v20.2.2.1 95 24).toInt ∧ (-2147483648) ≤ z.toInt ∧ z.toInt ≤ 2147483647) ⟨rfl, z32 _⟩ (fun z_14 hz_14 => ?_)
  refine s_iconst (v := 2) E dX10_layMusic_24 (by decide) ?_
  refine s_iload_n E dX10_layMusic_25 rfl rfl ?_
  refine s_ishl E dX10_layMusic_26 ?_
  refine z_nm (P := fun z => z = 2 <<< (x3 &&& 31) ∧ (-2147483648) ≤ z.toInt ∧ z.toInt ≤ 2147483647) ⟨rfl, z32 _⟩ (fun z_15 hz_15 => ?_)
  have hT_ : z_15.toInt = T_ := by rw [hz_15.1]; exact hT0_
  refine z_icmp_ge (tgt := 165) (u := z_14.toInt) (v := z_15.toInt) E dX10_layMusic_27 (by decide) rfl rfl (fun h_16 => ?_) (fun h_16 => ?_)
  ·
    have ho_ := rw_96_3 hj_13
    exact r_void E dX10_layMusic_165 ⟨(by omega), hj_13⟩
  ·
    refine s_lconst (v := 1) E dX10_layMusic_30 (by decide) ?_
    refine s_lstore (L2 := [some (AR 95), some (AI x1), some (AI x2), some (AI x3), some (AL 1), none, none]) E dX10_layMusic_31 (by decide) rfl ?_
    refine s_iconst (v := 0) E dX10_layMusic_33 (by decide) ?_
    refine s_istore (L2 := [some (AR 95), some (AI x1), some (AI x2), some (AI x3), some (AL 1), none, some (AI 0)]) E dX10_layMusic_34 (by decide) rfl ?_
    refine z_loop (St := Int64 × Int32) (Pi := fun ⟨q36_4_16, q36_6_16⟩ v36 => (0 ≤ q36_6_16.toInt ∧ q36_6_16.toInt ≤ 9) ∧ (0 ≤ q36_4_16.toInt ∧ q36_4_16.toInt ≤ y_p q36_6_16.toInt.toNat ∧ ((v20.2.2.1 95 24).toInt = 0 → (v20.2.2.1 96 3).toInt ≤ 9 → 1 ≤ q36_4_16.toInt) ∧ ((v20.2.2.1 96 3).toInt = 10 → (v20.2.2.1 95 24).toInt = T_ - 1 → 1 ≤ q36_4_16.toInt)) ∧ v20 = v36) (Lf := fun ⟨q36_4_16, q36_6_16⟩ => [some (AR 95), some (AI x1), some (AI x2), some (AI x3), some (AL q36_4_16), none, some (AI q36_6_16)]) (fun ⟨q36_4_16, q36_6_16⟩ _ => (10 - q36_6_16.toInt).toNat) ⟨1, 0⟩ ⟨⟨by decide, by decide⟩, (⟨by decide, by decide, fun _ _ => by decide, fun _ _ => by decide⟩), rfl⟩ ?_
    rintro ⟨q36_4_16, q36_6_16⟩ v36 ⟨hq36_6, hl36, hv_⟩ ih36
    subst hv_
    have hbq36_4 := z64 q36_4_16
    refine s_loc (L2 := [some (AR 95), some (AI x1), some (AI x2), some (AI x3), some (AL q36_4_16), none, some (AI q36_6_16)]) rfl ?_
    refine s_iload E dX10_layMusic_36 rfl ?_
    refine s_iload_n E dX10_layMusic_38 rfl rfl ?_
    refine z_icmp_gt (tgt := 86) (u := q36_6_16.toInt) (v := x3.toInt) E dX10_layMusic_39 (by decide) rfl rfl (fun h_18 => ?_) (fun h_18 => ?_)
    ·
      have m5_ := y_p_le q36_6_16.toInt.toNat (by omega)
      refine s_lload E dX10_layMusic_86 rfl ?_
      have hh_88_4 : 0 ≤ q36_4_16.toInt ∧ q36_4_16.toInt ≤ 1000000000 := by omega
      refine s_lconst (v := 0) E dX10_layMusic_88 (by decide) ?_
      refine z_lcmp (u := q36_4_16.toInt) (v := 0) E dX10_layMusic_89 rfl (by decide) (fun z_19 hz_19 => ?_)
      refine z_if_ne (tgt := 96) (u := z_19.toInt) E dX10_layMusic_90 (by decide) rfl (fun h_20 => ?_) (fun h_20 => ?_)
      ·
        refine s_aload_n E dX10_layMusic_96 rfl rfl ?_
        refine s_iload_n E dX10_layMusic_97 rfl rfl ?_
        refine s_iload_n E dX10_layMusic_98 rfl rfl ?_
        refine s_vI (As := [AI x1, AI x3]) (S := []) E (Z_X10_goNote_95 l D aC b v20 x1 x3 hj_13.1 ⟨by have hb_ := z32 x1; omega, by have hb_ := z32 x1; omega⟩ ⟨by have hb_ := z32 x3; omega, by have hb_ := z32 x3; omega⟩) cv_X10_335 rfl rfl rfl (jv_lt hj_13 (by decide)) (Nat.le_of_ble_eq_true rfl) (Nat.le_of_ble_eq_true rfl) ⟨(Nat.le_of_ble_eq_true rfl), (Nat.le_of_ble_eq_true rfl)⟩ (Nat.le_of_ble_eq_true rfl) dX10_layMusic_99 (fun z_23 u_21 hp_22 => ?_)
        obtain ⟨hz_23, hxz_23, hf_u_21_95, hf_u_21_96, hf_u_21_L, hp_22⟩ := hp_22
        have hj_24 := jv_trans hj_13 hp_22
        have hfa_95_24 := congrArg Int32.toInt (congrFun hf_u_21_95 24)
        have hfa_96_3 := congrArg Int32.toInt (congrFun hf_u_21_96 3)
        have hfL_95_33 := congrArg Int64.toInt (congrFun (congrFun hf_u_21_L 95) 33)
        refine s_istore (L2 := [some (AR 95), some (AI x1), some (AI x2), some (AI x3), some (AL q36_4_16), none, some (AI z_23)]) E dX10_layMusic_102 (by decide) rfl ?_
        refine s_aload_n E dX10_layMusic_104 rfl rfl ?_
        refine s_dupR E dX10_layMusic_105 ?_
        refine s_gL E fg_X10_423 rfl rfl (jv_lt hj_24 (by decide)) dX10_layMusic_106 ?_
        refine z_nmL (P := fun z => z.toInt = (u_21.2.2.2 95 33).toInt) rfl (fun z_25 hz_25 => ?_)
        have hgz_25 : 0 ≤ z_25.toInt ∧ z_25.toInt ≤ 512000000000 := by omega
        refine s_lload E dX10_layMusic_109 rfl ?_
        refine z_ladd (u := z_25.toInt) (v := q36_4_16.toInt) E dX10_layMusic_111 rfl rfl (by omega) (by omega) (fun z_26 hz_26 => ?_)
        refine s_pL E fp_X10_423 rfl rfl (jv_lt hj_24 (by decide)) dX10_layMusic_112 ?_
        refine s_gen (P := fun v => Jv w v ∧ (v.2.2.2 95 33).toInt = z_26.toInt ∧ (v.2.2.1 95 24).toInt = (u_21.2.2.1 95 24).toInt ∧ (v.2.2.1 96 3).toInt = (u_21.2.2.1 96 3).toInt) ⟨(jv_L hj_24 (by decide)), rfl, rfl, rfl⟩ (fun v_27 hj_28 => ?_)
        obtain ⟨hj_28, hk_29k0, hk_29k1, hk_29k2⟩ := hj_28
        refine s_aload_n E dX10_layMusic_115 rfl rfl ?_
        refine s_dupR E dX10_layMusic_116 ?_
        refine s_gL E fg_X10_427 rfl rfl (jv_lt hj_28 (by decide)) dX10_layMusic_117 ?_
        refine z_anyL (fun z_30 => ?_)
        refine s_lload E dX10_layMusic_120 rfl ?_
        refine s_iload E dX10_layMusic_122 rfl ?_
        refine s_iload_n E dX10_layMusic_124 rfl rfl ?_
        refine s_sI (As := [AI z_23, AI x2]) (S := [AL q36_4_16, AL z_30, AR 95]) E (Z_X10_bit l D aC b v_27 z_23 x2 hj_28.1 ) cs_X10_252 rfl rfl (Nat.le_of_ble_eq_true rfl) (Nat.le_of_ble_eq_true rfl) ⟨(Nat.le_of_ble_eq_true rfl), (Nat.le_of_ble_eq_true rfl)⟩ (Nat.le_of_ble_eq_true rfl) dX10_layMusic_125 (fun z_33 u_31 hp_32 => ?_)
        obtain ⟨hz_33, hxz_33, hp_32⟩ := hp_32
        subst hp_32
        refine z_i2l (u := z_33.toInt) E dX10_layMusic_128 rfl (fun z_35 hz_35 => ?_)
        refine s_lmul E dX10_layMusic_129 ?_
        refine z_anyL (fun z_36 => ?_)
        refine s_ladd E dX10_layMusic_130 ?_
        refine z_anyL (fun z_37 => ?_)
        refine s_pL E fp_X10_427 rfl rfl (jv_lt hj_28 (by decide)) dX10_layMusic_131 ?_
        refine s_gen (P := fun v => Jv w v ∧ (v.2.2.2 95 33).toInt = (v_27.2.2.2 95 33).toInt ∧ (v.2.2.1 95 24).toInt = (v_27.2.2.1 95 24).toInt ∧ (v.2.2.1 96 3).toInt = (v_27.2.2.1 96 3).toInt) ⟨(jv_L hj_28 (by decide)), rfl, rfl, rfl⟩ (fun v_38 hj_39 => ?_)
        obtain ⟨hj_39, hk_40k0, hk_40k1, hk_40k2⟩ := hj_39
        refine s_aload_n E dX10_layMusic_134 rfl rfl ?_
        refine s_dupR E dX10_layMusic_135 ?_
        refine s_gL E fg_X10_430 rfl rfl (jv_lt hj_39 (by decide)) dX10_layMusic_136 ?_
        refine z_anyL (fun z_41 => ?_)
        refine s_lload E dX10_layMusic_139 rfl ?_
        refine s_iload E dX10_layMusic_141 rfl ?_
        refine s_sI (As := [AI z_23]) (S := [AL q36_4_16, AL z_41, AR 95]) E (Z_X10_bits l D aC b v_38 z_23 hj_39.1 ) cs_X10_319 rfl rfl (Nat.le_of_ble_eq_true rfl) (Nat.le_of_ble_eq_true rfl) ⟨(Nat.le_of_ble_eq_true rfl), (Nat.le_of_ble_eq_true rfl)⟩ (Nat.le_of_ble_eq_true rfl) dX10_layMusic_143 (fun z_44 u_42 hp_43 => ?_)
        obtain ⟨hz_44, hp_43⟩ := hp_43
        subst hp_43
        refine z_i2l (u := z_44.toInt) E dX10_layMusic_146 rfl (fun z_46 hz_46 => ?_)
        refine s_lmul E dX10_layMusic_147 ?_
        refine z_anyL (fun z_47 => ?_)
        refine s_ladd E dX10_layMusic_148 ?_
        refine z_anyL (fun z_48 => ?_)
        refine s_pL E fp_X10_430 rfl rfl (jv_lt hj_39 (by decide)) dX10_layMusic_149 ?_
        refine s_gen (P := fun v => Jv w v ∧ (v.2.2.2 95 33).toInt = (v_38.2.2.2 95 33).toInt ∧ (v.2.2.1 95 24).toInt = (v_38.2.2.1 95 24).toInt ∧ (v.2.2.1 96 3).toInt = (v_38.2.2.1 96 3).toInt) ⟨(jv_L hj_39 (by decide)), rfl, rfl, rfl⟩ (fun v_49 hj_50 => ?_)
        obtain ⟨hj_50, hk_51k0, hk_51k1, hk_51k2⟩ := hj_50
        refine s_aload_n E dX10_layMusic_152 rfl rfl ?_
        refine s_dupR E dX10_layMusic_153 ?_
        refine s_gI E fg_X10_270 rfl rfl (jv_lt hj_50 (by decide)) dX10_layMusic_154 ?_
        refine z_nm (P := fun z => z.toInt = (v_49.2.2.1 95 24).toInt ∧ (-2147483648) ≤ z.toInt ∧ z.toInt ≤ 2147483647) ⟨rfl, z32 _⟩ (fun z_52 hz_52 => ?_)
        have hgz_52 : 0 ≤ z_52.toInt ∧ z_52.toInt ≤ 511 := by omega
        refine s_iconst (v := 1) E dX10_layMusic_157 (by decide) ?_
        refine z_iadd (u := z_52.toInt) (v := 1) E dX10_layMusic_158 rfl (by decide) (by omega) (by omega) (fun z_53 hz_53 => ?_)
        refine s_pI E fp_X10_270 (Or.inl rfl) rfl (jv_lt hj_50 (by decide)) dX10_layMusic_159 ?_
        refine s_gen (P := fun v => Jv w v ∧ (v.2.2.2 95 33).toInt = (v_49.2.2.2 95 33).toInt ∧ (v.2.2.1 95 24).toInt = z_53.toInt ∧ (v.2.2.1 96 3).toInt = (v_49.2.2.1 96 3).toInt) ⟨(jv_f_95_24 hj_50 (by have hb_ := z32 z_53; omega) (by have hb_ := z32 z_53; omega)), rfl, rfl, rfl⟩ (fun v_54 hj_55 => ?_)
        obtain ⟨hj_55, hk_56k0, hk_56k1, hk_56k2⟩ := hj_55
        refine s_goto (tgt := 20) E dX10_layMusic_162 (by decide) ?_
        refine s_drop (i := 4) (L2 := [some (AR 95), some (AI x1), some (AI x2), some (AI x3), none, none, some (AI z_23)]) rfl ?_
        refine s_drop (i := 6) (L2 := [some (AR 95), some (AI x1), some (AI x2), some (AI x3), none, none, none]) rfl ?_
        exact ih20 () v_54 ⟨(by omega), hj_55⟩ (by first | omega | decide | (dsimp only; omega) | (dsimp only; decide))
      ·
        refine s_goto (tgt := 152) E dX10_layMusic_93 (by decide) ?_
        refine s_aload_n E dX10_layMusic_152 rfl rfl ?_
        refine s_dupR E dX10_layMusic_153 ?_
        refine s_gI E fg_X10_270 rfl rfl (jv_lt hj_13 (by decide)) dX10_layMusic_154 ?_
        refine z_nm (P := fun z => z.toInt = (v20.2.2.1 95 24).toInt ∧ (-2147483648) ≤ z.toInt ∧ z.toInt ≤ 2147483647) ⟨rfl, z32 _⟩ (fun z_57 hz_57 => ?_)
        have hgz_57 : 0 ≤ z_57.toInt ∧ z_57.toInt ≤ 511 := by omega
        refine s_iconst (v := 1) E dX10_layMusic_157 (by decide) ?_
        refine z_iadd (u := z_57.toInt) (v := 1) E dX10_layMusic_158 rfl (by decide) (by omega) (by omega) (fun z_58 hz_58 => ?_)
        refine s_pI E fp_X10_270 (Or.inl rfl) rfl (jv_lt hj_13 (by decide)) dX10_layMusic_159 ?_
        refine s_gen (P := fun v => Jv w v ∧ (v.2.2.2 95 33).toInt = (v20.2.2.2 95 33).toInt ∧ (v.2.2.1 95 24).toInt = z_58.toInt ∧ (v.2.2.1 96 3).toInt = (v20.2.2.1 96 3).toInt) ⟨(jv_f_95_24 hj_13 (by have hb_ := z32 z_58; omega) (by have hb_ := z32 z_58; omega)), rfl, rfl, rfl⟩ (fun v_59 hj_60 => ?_)
        obtain ⟨hj_60, hk_61k0, hk_61k1, hk_61k2⟩ := hj_60
        refine s_goto (tgt := 20) E dX10_layMusic_162 (by decide) ?_
        refine s_drop (i := 4) (L2 := [some (AR 95), some (AI x1), some (AI x2), some (AI x3), none, none, some (AI q36_6_16)]) rfl ?_
        refine s_drop (i := 6) (L2 := [some (AR 95), some (AI x1), some (AI x2), some (AI x3), none, none, none]) rfl ?_
        exact ih20 () v_59 ⟨(by omega), hj_60⟩ (by first | omega | decide | (dsimp only; omega) | (dsimp only; decide))
    ·
      refine s_lload E dX10_layMusic_42 rfl ?_
      refine s_aload_n E dX10_layMusic_44 rfl rfl ?_
      refine s_gI E fg_X10_270 rfl rfl (jv_lt hj_13 (by decide)) dX10_layMusic_45 ?_
      refine z_nm (P := fun z => z.toInt = (v20.2.2.1 95 24).toInt ∧ (-2147483648) ≤ z.toInt ∧ z.toInt ≤ 2147483647) ⟨rfl, z32 _⟩ (fun z_62 hz_62 => ?_)
      refine s_iload E dX10_layMusic_48 rfl ?_
      refine s_sI (As := [AI z_62, AI q36_6_16]) (S := [AL q36_4_16]) E (Z_X10_bit l D aC b v20 z_62 q36_6_16 hj_13.1 ) cs_X10_252 rfl rfl (Nat.le_of_ble_eq_true rfl) (Nat.le_of_ble_eq_true rfl) ⟨(Nat.le_of_ble_eq_true rfl), (Nat.le_of_ble_eq_true rfl)⟩ (Nat.le_of_ble_eq_true rfl) dX10_layMusic_50 (fun z_65 u_63 hp_64 => ?_)
      obtain ⟨hz_65, hxz_65, hp_64⟩ := hp_64
      subst hp_64
      have hb50 := hxz_65 (by omega) (by omega)
      refine s_iconst (v := 1) E dX10_layMusic_53 (by decide) ?_
      refine z_icmp_ne (tgt := 67) (u := z_65.toInt) (v := 1) E dX10_layMusic_54 (by decide) rfl (by decide) (fun h_67 => ?_) (fun h_67 => ?_)
      ·
        refine s_bipush (v := 10) E dX10_layMusic_67 (by decide) ?_
        refine s_aload_n E dX10_layMusic_69 rfl rfl ?_
        refine s_gR (r := 96) E fg_X10_9 rfl rfl (jv_lt hj_13 (by decide)) (jv_r hj_13 (by decide +kernel)) dX10_layMusic_70 ?_
        refine s_iconst (v := 3) E dX10_layMusic_73 (by decide) ?_
        refine s_iald E rfl (jv_lt hj_13 (by decide)) (z_in (u := 3) (by decide) (by omega) (by omega)) dX10_layMusic_74 ?_
        refine z_nm (P := fun z => z.toInt = (v20.2.2.1 96 3).toInt ∧ 0 ≤ z.toInt ∧ z.toInt ≤ 10) ⟨rfl, (rw_96_3 hj_13)⟩ (fun z_68 hz_68 => ?_)
        refine z_isub (u := 10) (v := z_68.toInt) E dX10_layMusic_75 (by decide) rfl (by omega) (by omega) (fun z_69 hz_69 => ?_)
        refine z_i2l (u := z_69.toInt) E dX10_layMusic_76 rfl (fun z_70 hz_70 => ?_)
        obtain ⟨m1_, m2_, m3_⟩ := y_mul (a := q36_4_16.toInt) (f := z_70.toInt) (n := q36_6_16.toInt.toNat) hl36.1 hl36.2.1 (by omega) (by omega)
        have m4_ := y_p_le (q36_6_16.toInt.toNat + 1) (by omega)
        have n1_ : (v20.2.2.1 95 24).toInt = 0 → (v20.2.2.1 96 3).toInt ≤ 9 → 1 ≤ z_70.toInt := by first | (intro _ _; omega) | (intro h_ _; exfalso; exact y_b0 (by omega) (hb50.mp (by omega)))
        have n2_ : (v20.2.2.1 96 3).toInt = 10 → (v20.2.2.1 95 24).toInt = T_ - 1 → 1 ≤ z_70.toInt := by first | (intro _ _; omega) | (intro _ h_; exfalso; exact absurd (hb50.mpr (hT3_ _ (by omega) _ (by omega))) (by omega))
        refine z_lmul (u := q36_4_16.toInt) (v := z_70.toInt) E dX10_layMusic_77 rfl rfl (by omega) (by omega) (fun z_71 hz_71 => ?_)
        refine s_lstore (L2 := [some (AR 95), some (AI x1), some (AI x2), some (AI x3), some (AL z_71), none, some (AI q36_6_16)]) E dX10_layMusic_78 (by decide) rfl ?_
        refine z_iinc (u := q36_6_16.toInt) (L2 := fun z_72 => [some (AR 95), some (AI x1), some (AI x2), some (AI x3), some (AL z_71), none, some (AI z_72)]) E dX10_layMusic_80 rfl rfl (by decide) (fun _ => rfl) (by decide) (by omega) (by omega) (fun z_72 hz_72 => ?_)
        refine s_goto (tgt := 36) E dX10_layMusic_83 (by decide) ?_
        exact ih36 ⟨z_71, z_72⟩ v20 ⟨⟨by have hb_ := z32 z_72; omega, by have hb_ := z32 z_72; omega⟩, (⟨by omega, y_pC m2_ (by omega) (by omega), fun h1_ h2_ => by have := n1_ h1_ h2_; have := hl36.2.2.1 h1_ h2_; omega, fun h1_ h2_ => by have := n2_ h1_ h2_; have := hl36.2.2.2 h1_ h2_; omega⟩), rfl⟩ (by first | omega | decide | (dsimp only; omega) | (dsimp only; decide))
      ·
        refine s_aload_n E dX10_layMusic_57 rfl rfl ?_
        refine s_gR (r := 96) E fg_X10_9 rfl rfl (jv_lt hj_13 (by decide)) (jv_r hj_13 (by decide +kernel)) dX10_layMusic_58 ?_
        refine s_iconst (v := 3) E dX10_layMusic_61 (by decide) ?_
        refine s_iald E rfl (jv_lt hj_13 (by decide)) (z_in (u := 3) (by decide) (by omega) (by omega)) dX10_layMusic_62 ?_
        refine z_nm (P := fun z => z.toInt = (v20.2.2.1 96 3).toInt ∧ 0 ≤ z.toInt ∧ z.toInt ≤ 10) ⟨rfl, (rw_96_3 hj_13)⟩ (fun z_73 hz_73 => ?_)
        refine z_i2l (u := z_73.toInt) E dX10_layMusic_63 rfl (fun z_74 hz_74 => ?_)
        refine s_goto (tgt := 77) E dX10_layMusic_64 (by decide) ?_
        obtain ⟨m1_, m2_, m3_⟩ := y_mul (a := q36_4_16.toInt) (f := z_74.toInt) (n := q36_6_16.toInt.toNat) hl36.1 hl36.2.1 (by omega) (by omega)
        have m4_ := y_p_le (q36_6_16.toInt.toNat + 1) (by omega)
        have n1_ : (v20.2.2.1 95 24).toInt = 0 → (v20.2.2.1 96 3).toInt ≤ 9 → 1 ≤ z_74.toInt := by first | (intro _ _; omega) | (intro h_ _; exfalso; exact y_b0 (by omega) (hb50.mp (by omega)))
        have n2_ : (v20.2.2.1 96 3).toInt = 10 → (v20.2.2.1 95 24).toInt = T_ - 1 → 1 ≤ z_74.toInt := by first | (intro _ _; omega) | (intro _ h_; exfalso; exact absurd (hb50.mpr (hT3_ _ (by omega) _ (by omega))) (by omega))
        refine z_lmul (u := q36_4_16.toInt) (v := z_74.toInt) E dX10_layMusic_77 rfl rfl (by omega) (by omega) (fun z_75 hz_75 => ?_)
        refine s_lstore (L2 := [some (AR 95), some (AI x1), some (AI x2), some (AI x3), some (AL z_75), none, some (AI q36_6_16)]) E dX10_layMusic_78 (by decide) rfl ?_
        refine z_iinc (u := q36_6_16.toInt) (L2 := fun z_76 => [some (AR 95), some (AI x1), some (AI x2), some (AI x3), some (AL z_75), none, some (AI z_76)]) E dX10_layMusic_80 rfl rfl (by decide) (fun _ => rfl) (by decide) (by omega) (by omega) (fun z_76 hz_76 => ?_)
        refine s_goto (tgt := 36) E dX10_layMusic_83 (by decide) ?_
        exact ih36 ⟨z_75, z_76⟩ v20 ⟨⟨by have hb_ := z32 z_76; omega, by have hb_ := z32 z_76; omega⟩, (⟨by omega, y_pC m2_ (by omega) (by omega), fun h1_ h2_ => by have := n1_ h1_ h2_; have := hl36.2.2.1 h1_ h2_; omega, fun h1_ h2_ => by have := n2_ h1_ h2_; have := hl36.2.2.2 h1_ h2_; omega⟩), rfl⟩ (by first | omega | decide | (dsimp only; omega) | (dsimp only; decide))
set_option maxRecDepth 20000 in
set_option maxHeartbeats 2000000 in
theorem Z_X10_chance_95 (l : Launch) (D : va_G) (aC : Nat → ClassId) (b : Nat) (w : XW) (x1 : Int32) (x2 : Int32) (x3 : Int32) (x4 : Int32) (hI : Iv w)  : CnL l D aC b M_X10_chance 6 136 0 0 [AR 95, AI x1, AI x2, AI x3, AI x4] w (fun r u => ((-9223372036854775808) ≤ r.toInt ∧ r.toInt ≤ 9223372036854775807) ∧ Jv w u) := by
  refine cn_L (own := RX10) (nm := "chance") (L0 := [some (AR 95), some (AI x1), some (AI x2), some (AI x3), some (AI x4)]) (by decide +kernel) rfl rfl (Nat.le_of_ble_eq_true rfl) rfl ?_
  intro p e s m args below meth c E hin
  have hJ : Jv w w := jv_rfl hI
  have hb_x1 := z32 x1
  have hb_x2 := z32 x2
  have hb_x3 := z32 x3
  have hb_x4 := z32 x4
  refine s_aload_n E dX10_chance_0 rfl rfl ?_
  refine s_iload_n E dX10_chance_1 rfl rfl ?_
  refine s_iload_n E dX10_chance_2 rfl rfl ?_
  refine s_iload E dX10_chance_3 rfl ?_
  refine s_vI (As := [AI x1, AI x3, AI x4]) (S := []) E (Z_X10_asksMusic_95 l D aC b w x1 x3 x4 hJ.1 ) cv_X10_435 rfl rfl rfl (jv_lt hJ (by decide)) (Nat.le_of_ble_eq_true rfl) (Nat.le_of_ble_eq_true rfl) ⟨(Nat.le_of_ble_eq_true rfl), (Nat.le_of_ble_eq_true rfl)⟩ (Nat.le_of_ble_eq_true rfl) dX10_chance_5 (fun z_3 u_1 hp_2 => ?_)
  obtain ⟨hz_3, hp_2⟩ := hp_2
  have hj_4 := jv_trans hJ hp_2
  refine z_if_eq (tgt := 20) (u := z_3.toInt) E dX10_chance_8 (by decide) rfl (fun h_5 => ?_) (fun h_5 => ?_)
  ·
    refine s_ldc2 E k_1919 rfl dX10_chance_20 ?_
    exact r_long E dX10_chance_23 ⟨(by decide), hj_4⟩
  ·
    refine s_aload_n E dX10_chance_11 rfl rfl ?_
    refine s_iload_n E dX10_chance_12 rfl rfl ?_
    refine z_i2l (u := x2.toInt) E dX10_chance_13 rfl (fun z_6 hz_6 => ?_)
    refine s_vI (As := [AL z_6]) (S := []) E (Z_X10_isLady_95 l D aC b u_1 z_6 hj_4.1 ) cv_X10_222 rfl rfl rfl (jv_lt hj_4 (by decide)) (Nat.le_of_ble_eq_true rfl) (Nat.le_of_ble_eq_true rfl) ⟨(Nat.le_of_ble_eq_true rfl), (Nat.le_of_ble_eq_true rfl)⟩ (Nat.le_of_ble_eq_true rfl) dX10_chance_14 (fun z_9 u_7 hp_8 => ?_)
    obtain ⟨hz_9, hxz_9, hp_8⟩ := hp_8
    subst hp_8
    refine z_if_ne (tgt := 24) (u := z_9.toInt) E dX10_chance_17 (by decide) rfl (fun h_11 => ?_) (fun h_11 => ?_)
    ·
      refine s_aload_n E dX10_chance_24 rfl rfl ?_
      refine s_iload_n E dX10_chance_25 rfl rfl ?_
      refine s_iload_n E dX10_chance_26 rfl rfl ?_
      refine s_iload_n E dX10_chance_27 rfl rfl ?_
      refine s_vV (As := [AI x1, AI x2, AI x3]) (S := []) E (Z_X10_layMusic_95 l D aC b u_1 x1 x2 x3 hj_4.1 ⟨by have hb_ := z32 x1; omega, by have hb_ := z32 x1; omega⟩ ⟨by have hb_ := z32 x3; omega, by have hb_ := z32 x3; omega⟩) cv_X10_440 rfl rfl rfl (jv_lt hj_4 (by decide)) (Nat.le_of_ble_eq_true rfl) (Nat.le_of_ble_eq_true rfl) ⟨(Nat.le_of_ble_eq_true rfl), (Nat.le_of_ble_eq_true rfl)⟩ (Nat.le_of_ble_eq_true rfl) dX10_chance_28 (fun u_12 hp_13 => ?_)
      obtain ⟨hx_hp_13, hp_13⟩ := hp_13
      have hj_14 := jv_trans hj_4 hp_13
      refine s_aload_n E dX10_chance_31 rfl rfl ?_
      refine s_gL E fg_X10_427 rfl rfl (jv_lt hj_14 (by decide)) dX10_chance_32 ?_
      refine z_anyL (fun z_15 => ?_)
      refine s_aload_n E dX10_chance_35 rfl rfl ?_
      refine s_gL E fg_X10_423 rfl rfl (jv_lt hj_14 (by decide)) dX10_chance_36 ?_
      refine z_nmL (P := fun z => z.toInt = (u_12.2.2.2 95 33).toInt) rfl (fun z_16 hz_16 => ?_)
      refine s_iload E dX10_chance_39 rfl ?_
      refine s_sL (As := [AL z_15, AL z_16, AI x4]) (S := []) E (Z_X10_lowest l D aC b u_12 z_15 z_16 x4 hj_14.1  (by omega)) cs_X10_409 rfl rfl (Nat.le_of_ble_eq_true rfl) (Nat.le_of_ble_eq_true rfl) ⟨(Nat.le_of_ble_eq_true rfl), (Nat.le_of_ble_eq_true rfl)⟩ (Nat.le_of_ble_eq_true rfl) dX10_chance_41 (fun z_19 u_17 hp_18 => ?_)
      obtain ⟨hz_19, hp_18⟩ := hp_18
      subst hp_18
      exact r_long E dX10_chance_44 ⟨⟨by have hb_ := z64 z_19; omega, by have hb_ := z64 z_19; omega⟩, hj_14⟩
    ·
      refine s_ldc2 E k_1919 rfl dX10_chance_20 ?_
      exact r_long E dX10_chance_23 ⟨(by decide), hj_4⟩
set_option maxRecDepth 20000 in
set_option maxHeartbeats 2000000 in
theorem Z_X10_mean_95 (l : Launch) (D : va_G) (aC : Nat → ClassId) (b : Nat) (w : XW) (x1 : Int32) (x2 : Int32) (x3 : Int32) (hI : Iv w)  : CnL l D aC b M_X10_mean 6 136 0 0 [AR 95, AI x1, AI x2, AI x3] w (fun r u => ((-9223372036854775808) ≤ r.toInt ∧ r.toInt ≤ 9223372036854775807) ∧ Jv w u) := by
  refine cn_L (own := RX10) (nm := "mean") (L0 := [some (AR 95), some (AI x1), some (AI x2), some (AI x3)]) (by decide +kernel) rfl rfl (Nat.le_of_ble_eq_true rfl) rfl ?_
  intro p e s m args below meth c E hin
  have hJ : Jv w w := jv_rfl hI
  have hb_x1 := z32 x1
  have hb_x2 := z32 x2
  have hb_x3 := z32 x3
  refine s_aload_n E dX10_mean_0 rfl rfl ?_
  refine s_iload_n E dX10_mean_1 rfl rfl ?_
  refine s_iload_n E dX10_mean_2 rfl rfl ?_
  refine s_iload_n E dX10_mean_3 rfl rfl ?_
  refine s_vI (As := [AI x1, AI x2, AI x3]) (S := []) E (Z_X10_asksMusic_95 l D aC b w x1 x2 x3 hJ.1 ) cv_X10_435 rfl rfl rfl (jv_lt hJ (by decide)) (Nat.le_of_ble_eq_true rfl) (Nat.le_of_ble_eq_true rfl) ⟨(Nat.le_of_ble_eq_true rfl), (Nat.le_of_ble_eq_true rfl)⟩ (Nat.le_of_ble_eq_true rfl) dX10_mean_4 (fun z_3 u_1 hp_2 => ?_)
  obtain ⟨hz_3, hp_2⟩ := hp_2
  have hj_4 := jv_trans hJ hp_2
  refine z_if_ne (tgt := 14) (u := z_3.toInt) E dX10_mean_7 (by decide) rfl (fun h_5 => ?_) (fun h_5 => ?_)
  ·
    refine s_aload_n E dX10_mean_14 rfl rfl ?_
    refine s_iload_n E dX10_mean_15 rfl rfl ?_
    refine s_iload_n E dX10_mean_16 rfl rfl ?_
    refine s_iload_n E dX10_mean_17 rfl rfl ?_
    refine s_vV (As := [AI x1, AI x1, AI x2]) (S := []) E (Z_X10_layMusic_95 l D aC b u_1 x1 x1 x2 hj_4.1 ⟨by have hb_ := z32 x1; omega, by have hb_ := z32 x1; omega⟩ ⟨by have hb_ := z32 x2; omega, by have hb_ := z32 x2; omega⟩) cv_X10_440 rfl rfl rfl (jv_lt hj_4 (by decide)) (Nat.le_of_ble_eq_true rfl) (Nat.le_of_ble_eq_true rfl) ⟨(Nat.le_of_ble_eq_true rfl), (Nat.le_of_ble_eq_true rfl)⟩ (Nat.le_of_ble_eq_true rfl) dX10_mean_18 (fun u_6 hp_7 => ?_)
    obtain ⟨hx_hp_7, hp_7⟩ := hp_7
    have hj_8 := jv_trans hj_4 hp_7
    refine s_aload_n E dX10_mean_21 rfl rfl ?_
    refine s_gL E fg_X10_430 rfl rfl (jv_lt hj_8 (by decide)) dX10_mean_22 ?_
    refine z_anyL (fun z_9 => ?_)
    refine s_aload_n E dX10_mean_25 rfl rfl ?_
    refine s_gL E fg_X10_423 rfl rfl (jv_lt hj_8 (by decide)) dX10_mean_26 ?_
    refine z_nmL (P := fun z => z.toInt = (u_6.2.2.2 95 33).toInt) rfl (fun z_10 hz_10 => ?_)
    refine s_iload_n E dX10_mean_29 rfl rfl ?_
    refine s_sL (As := [AL z_9, AL z_10, AI x3]) (S := []) E (Z_X10_lowest l D aC b u_6 z_9 z_10 x3 hj_8.1  (by omega)) cs_X10_409 rfl rfl (Nat.le_of_ble_eq_true rfl) (Nat.le_of_ble_eq_true rfl) ⟨(Nat.le_of_ble_eq_true rfl), (Nat.le_of_ble_eq_true rfl)⟩ (Nat.le_of_ble_eq_true rfl) dX10_mean_30 (fun z_13 u_11 hp_12 => ?_)
    obtain ⟨hz_13, hp_12⟩ := hp_12
    subst hp_12
    exact r_long E dX10_mean_33 ⟨⟨by have hb_ := z64 z_13; omega, by have hb_ := z64 z_13; omega⟩, hj_8⟩
  ·
    refine s_ldc2 E k_1919 rfl dX10_mean_10 ?_
    exact r_long E dX10_mean_13 ⟨(by decide), hj_4⟩
set_option maxRecDepth 20000 in
set_option maxHeartbeats 2000000 in
theorem Z_X10_keepAct_95 (l : Launch) (D : va_G) (aC : Nat → ClassId) (b : Nat) (w : XW) (x1 : Int32) (hI : Iv w) (hx1 : 0 ≤ x1.toInt ∧ x1.toInt ≤ 100075) (hya : okA x1.toInt) : CnI l D aC b M_X10_keepAct 0 0 0 0 [AR 95, AI x1] w (fun r u => ((-5) ≤ r.toInt ∧ r.toInt ≤ 0 ∧ (¬ r.toInt = 0 ∨ (0 ≤ (w.2.2.1 96 8).toInt ∧ (w.2.2.1 96 8).toInt ≤ 29)) ∧ (r.toInt = 0 ∨ (30 ≤ (w.2.2.1 96 8).toInt ∧ (w.2.2.1 96 8).toInt ≤ 30))) ∧ Jv w u) := by
  refine cn_I (own := RX10) (nm := "keepAct") (L0 := [some (AR 95), some (AI x1)]) (by decide +kernel) rfl rfl (Nat.le_of_ble_eq_true rfl) rfl ?_
  intro p e s m args below meth c E hin
  have hJ : Jv w w := jv_rfl hI
  unfold okA at hya
  refine s_aload_n E dX10_keepAct_0 rfl rfl ?_
  refine s_gR (r := 96) E fg_X10_9 rfl rfl (jv_lt hJ (by decide)) (jv_r hJ (by decide +kernel)) dX10_keepAct_1 ?_
  refine s_bipush (v := 8) E dX10_keepAct_4 (by decide) ?_
  refine s_iald E rfl (jv_lt hJ (by decide)) (z_in (u := 8) (by decide) (by omega) (by omega)) dX10_keepAct_6 ?_
  refine z_nm (P := fun z => z.toInt = (w.2.2.1 96 8).toInt ∧ 0 ≤ z.toInt ∧ z.toInt ≤ 30) ⟨rfl, (rw_96_8 hJ)⟩ (fun z_1 hz_1 => ?_)
  refine s_bipush (v := 30) E dX10_keepAct_7 (by decide) ?_
  refine z_icmp_ne (tgt := 15) (u := z_1.toInt) (v := 30) E dX10_keepAct_9 (by decide) rfl (by decide) (fun h_2 => ?_) (fun h_2 => ?_)
  ·
    refine s_aload_n E dX10_keepAct_15 rfl rfl ?_
    refine s_gR (r := 96) E fg_X10_9 rfl rfl (jv_lt hJ (by decide)) (jv_r hJ (by decide +kernel)) dX10_keepAct_16 ?_
    refine s_bipush (v := 104) E dX10_keepAct_19 (by decide) ?_
    refine s_aload_n E dX10_keepAct_21 rfl rfl ?_
    refine s_gR (r := 96) E fg_X10_9 rfl rfl (jv_lt hJ (by decide)) (jv_r hJ (by decide +kernel)) dX10_keepAct_22 ?_
    refine s_bipush (v := 8) E dX10_keepAct_25 (by decide) ?_
    refine s_iald E rfl (jv_lt hJ (by decide)) (z_in (u := 8) (by decide) (by omega) (by omega)) dX10_keepAct_27 ?_
    refine z_nm (P := fun z => z.toInt = (w.2.2.1 96 8).toInt ∧ 0 ≤ z.toInt ∧ z.toInt ≤ 30) ⟨rfl, (rw_96_8 hJ)⟩ (fun z_3 hz_3 => ?_)
    refine z_iadd (u := 104) (v := z_3.toInt) E dX10_keepAct_28 (by decide) rfl (by omega) (by omega) (fun z_4 hz_4 => ?_)
    refine s_iload_n E dX10_keepAct_29 rfl rfl ?_
    refine s_iast E rfl (jv_lt hJ (by decide)) (z_in (u := z_4.toInt) rfl (by omega) (by omega)) dX10_keepAct_30 ?_
    refine s_gen (P := fun v => Jv w v ∧ (v.2.2.1 96 8).toInt = (w.2.2.1 96 8).toInt) ⟨(jv_a_96 (i := z_4) (x := x1) hJ 0 100075 104 133 1 z_4.toInt (by decide +kernel) (by decide) rfl (by omega) (by omega) (by omega) (by have hb_ := z32 x1; omega) (by have hb_ := z32 x1; omega) (fun h0_ => by unfold okA; omega)), (keep_ne (u := z_4.toInt) rfl (by omega) (by omega))⟩ (fun v_5 hj_6 => ?_)
    obtain ⟨hj_6, hk_7k0⟩ := hj_6
    refine s_aload_n E dX10_keepAct_31 rfl rfl ?_
    refine s_gR (r := 96) E fg_X10_9 rfl rfl (jv_lt hj_6 (by decide)) (jv_r hj_6 (by decide +kernel)) dX10_keepAct_32 ?_
    refine s_bipush (v := 8) E dX10_keepAct_35 (by decide) ?_
    refine s_dup2 E dX10_keepAct_37 ?_
    refine s_iald E rfl (jv_lt hj_6 (by decide)) (z_in (u := 8) (by decide) (by omega) (by omega)) dX10_keepAct_38 ?_
    refine z_nm (P := fun z => z.toInt = (v_5.2.2.1 96 8).toInt ∧ 0 ≤ z.toInt ∧ z.toInt ≤ 30) ⟨rfl, (rw_96_8 hj_6)⟩ (fun z_8 hz_8 => ?_)
    refine s_iconst (v := 1) E dX10_keepAct_39 (by decide) ?_
    refine z_iadd (u := z_8.toInt) (v := 1) E dX10_keepAct_40 rfl (by decide) (by omega) (by omega) (fun z_9 hz_9 => ?_)
    refine s_iast E rfl (jv_lt hj_6 (by decide)) (z_in (u := 8) (by decide) (by omega) (by omega)) dX10_keepAct_41 ?_
    refine s_gen (P := Jv w) (jv_a_96 (i := 8) (x := z_9) hj_6 0 30 8 8 1 8 (by decide +kernel) (by decide) (by decide) (by omega) (by omega) (by omega) (by have hb_ := z32 z_9; omega) (by have hb_ := z32 z_9; omega) (fun h0_ => by unfold okA; omega)) (fun v_10 hj_11 => ?_)
    refine s_iconst (v := 0) E dX10_keepAct_42 (by decide) ?_
    exact r_int E dX10_keepAct_43 ⟨⟨by decide, by decide, by first | (left; decide) | (right; decide) | (right; have hb_ := z32 (w.2.2.1 96 8); omega), by first | (left; decide) | (right; decide) | (right; have hb_ := z32 (w.2.2.1 96 8); omega)⟩, hj_11⟩
  ·
    refine s_bipush (v := (-5)) E dX10_keepAct_12 (by decide) ?_
    exact r_int E dX10_keepAct_14 ⟨⟨by decide, by decide, by first | (left; decide) | (right; decide) | (right; have hb_ := z32 (w.2.2.1 96 8); omega), by first | (left; decide) | (right; decide) | (right; have hb_ := z32 (w.2.2.1 96 8); omega)⟩, hJ⟩
set_option maxRecDepth 20000 in
set_option maxHeartbeats 2000000 in
theorem Z_X10_bid_95 (l : Launch) (D : va_G) (aC : Nat → ClassId) (b : Nat) (w : XW) (x1 : Int32) (x2 : Int32) (x3 : Int32) (hI : Iv w)  : CnI l D aC b M_X10_bid 4 92 0 0 [AR 95, AI x1, AI x2, AI x3] w (fun r u => ((-5) ≤ r.toInt ∧ r.toInt ≤ 7 ∧ (¬ r.toInt = 0 ∨ (0 ≤ x1.toInt ∧ x1.toInt ≤ 5)) ∧ (¬ r.toInt = 0 ∨ (0 ≤ x2.toInt ∧ x2.toInt ≤ 7)) ∧ (¬ r.toInt = 0 ∨ (0 ≤ x3.toInt ∧ x3.toInt ≤ 13)) ∧ (¬ r.toInt = 0 ∨ (0 ≤ (w.2.2.1 96 5).toInt ∧ (w.2.2.1 96 5).toInt ≤ 6)) ∧ (¬ r.toInt = 0 ∨ (0 ≤ (w.2.2.1 96 0).toInt ∧ (w.2.2.1 96 0).toInt ≤ 8)) ∧ (r.toInt = 0 ∨ (0 ≤ (w.2.2.1 96 5).toInt ∧ (w.2.2.1 96 5).toInt ≤ 6))) ∧ Jv w u) := by
  refine cn_I (own := RX10) (nm := "bid") (L0 := [some (AR 95), some (AI x1), some (AI x2), some (AI x3)]) (by decide +kernel) rfl rfl (Nat.le_of_ble_eq_true rfl) rfl ?_
  intro p e s m args below meth c E hin
  have hJ : Jv w w := jv_rfl hI
  have hb_x1 := z32 x1
  have hb_x2 := z32 x2
  have hb_x3 := z32 x3
  refine s_aload_n E dX10_bid_0 rfl rfl ?_
  refine s_iload_n E dX10_bid_1 rfl rfl ?_
  refine z_i2l (u := x1.toInt) E dX10_bid_2 rfl (fun z_1 hz_1 => ?_)
  refine s_vI (As := [AL z_1]) (S := []) E (Z_X10_isLady_95 l D aC b w z_1 hJ.1 ) cv_X10_222 rfl rfl rfl (jv_lt hJ (by decide)) (Nat.le_of_ble_eq_true rfl) (Nat.le_of_ble_eq_true rfl) ⟨(Nat.le_of_ble_eq_true rfl), (Nat.le_of_ble_eq_true rfl)⟩ (Nat.le_of_ble_eq_true rfl) dX10_bid_3 (fun z_4 u_2 hp_3 => ?_)
  obtain ⟨hz_4, hxz_4, hp_3⟩ := hp_3
  subst hp_3
  refine z_if_eq (tgt := 29) (u := z_4.toInt) E dX10_bid_6 (by decide) rfl (fun h_6 => ?_) (fun h_6 => ?_)
  ·
    refine s_bipush (v := (-2)) E dX10_bid_29 (by decide) ?_
    exact r_int E dX10_bid_31 ⟨⟨by decide, by decide, by first | (left; decide) | (right; decide) | (right; have hb_ := z32 x1; omega), by first | (left; decide) | (right; decide) | (right; have hb_ := z32 x2; omega), by first | (left; decide) | (right; decide) | (right; have hb_ := z32 x3; omega), by first | (left; decide) | (right; decide) | (right; have hb_ := z32 (w.2.2.1 96 5); omega), by first | (left; decide) | (right; decide) | (right; have hb_ := z32 (w.2.2.1 96 0); omega), by first | (left; decide) | (right; decide) | (right; have hb_ := z32 (w.2.2.1 96 5); omega)⟩, hJ⟩
  ·
    refine s_aload_n E dX10_bid_9 rfl rfl ?_
    refine s_iload_n E dX10_bid_10 rfl rfl ?_
    refine s_vI (As := [AI x2]) (S := []) E (Z_X10_isRoom_95 l D aC b w x2 hJ.1 ) cv_X10_291 rfl rfl rfl (jv_lt hJ (by decide)) (Nat.le_of_ble_eq_true rfl) (Nat.le_of_ble_eq_true rfl) ⟨(Nat.le_of_ble_eq_true rfl), (Nat.le_of_ble_eq_true rfl)⟩ (Nat.le_of_ble_eq_true rfl) dX10_bid_11 (fun z_9 u_7 hp_8 => ?_)
    obtain ⟨hz_9, hp_8⟩ := hp_8
    subst hp_8
    refine z_if_eq (tgt := 29) (u := z_9.toInt) E dX10_bid_14 (by decide) rfl (fun h_11 => ?_) (fun h_11 => ?_)
    ·
      refine s_bipush (v := (-2)) E dX10_bid_29 (by decide) ?_
      exact r_int E dX10_bid_31 ⟨⟨by decide, by decide, by first | (left; decide) | (right; decide) | (right; have hb_ := z32 x1; omega), by first | (left; decide) | (right; decide) | (right; have hb_ := z32 x2; omega), by first | (left; decide) | (right; decide) | (right; have hb_ := z32 x3; omega), by first | (left; decide) | (right; decide) | (right; have hb_ := z32 (w.2.2.1 96 5); omega), by first | (left; decide) | (right; decide) | (right; have hb_ := z32 (w.2.2.1 96 0); omega), by first | (left; decide) | (right; decide) | (right; have hb_ := z32 (w.2.2.1 96 5); omega)⟩, hJ⟩
    ·
      refine s_iload_n E dX10_bid_17 rfl rfl ?_
      refine z_i2l (u := x3.toInt) E dX10_bid_18 rfl (fun z_12 hz_12 => ?_)
      refine s_lconst (v := 0) E dX10_bid_19 (by decide) ?_
      refine s_ldc2 E k_1932 rfl dX10_bid_20 ?_
      refine s_sI (As := [AL z_12, AL 0, AL 13]) (S := []) E (Z_X10_in l D aC b w z_12 0 13) cs_X10_82 rfl rfl (Nat.le_of_ble_eq_true rfl) (Nat.le_of_ble_eq_true rfl) ⟨(Nat.le_of_ble_eq_true rfl), (Nat.le_of_ble_eq_true rfl)⟩ (Nat.le_of_ble_eq_true rfl) dX10_bid_23 (fun z_13 u_14 hp_15 => ?_)
      obtain ⟨hz_13, hp_15⟩ := hp_15
      subst hp_15
      have hcL_ : (0 : Int64).toInt = 0 := (by decide)
      have hcL_ : (13 : Int64).toInt = 13 := (by decide)
      refine z_if_ne (tgt := 32) (u := z_13.toInt) E dX10_bid_26 (by decide) rfl (fun h_16 => ?_) (fun h_16 => ?_)
      ·
        refine s_aload_n E dX10_bid_32 rfl rfl ?_
        refine s_sipush (v := 1000) E dX10_bid_33 (by decide) ?_
        refine s_iload_n E dX10_bid_36 rfl rfl ?_
        refine z_imul (u := 1000) (v := x1.toInt) E dX10_bid_37 (by decide) rfl (by omega) (by omega) (fun z_17 hz_17 => ?_)
        refine s_bipush (v := 100) E dX10_bid_38 (by decide) ?_
        refine s_iload_n E dX10_bid_40 rfl rfl ?_
        refine z_imul (u := 100) (v := x2.toInt) E dX10_bid_41 (by decide) rfl (by omega) (by omega) (fun z_18 hz_18 => ?_)
        refine z_iadd (u := z_17.toInt) (v := z_18.toInt) E dX10_bid_42 rfl rfl (by omega) (by omega) (fun z_19 hz_19 => ?_)
        refine s_iload_n E dX10_bid_43 rfl rfl ?_
        refine z_iadd (u := z_19.toInt) (v := x3.toInt) E dX10_bid_44 rfl rfl (by omega) (by omega) (fun z_20 hz_20 => ?_)
        refine s_vI (As := [AI z_20]) (S := []) E (Z_X10_keepAct_95 l D aC b w z_20 hJ.1 ⟨by have hb_ := z32 z_20; omega, by have hb_ := z32 z_20; omega⟩ (by unfold okA; omega)) cv_X10_446 rfl rfl rfl (jv_lt hJ (by decide)) (Nat.le_of_ble_eq_true rfl) (Nat.le_of_ble_eq_true rfl) ⟨(Nat.le_of_ble_eq_true rfl), (Nat.le_of_ble_eq_true rfl)⟩ (Nat.le_of_ble_eq_true rfl) dX10_bid_45 (fun z_23 u_21 hp_22 => ?_)
        obtain ⟨hz_23, hp_22⟩ := hp_22
        have hj_24 := jv_trans hJ hp_22
        refine z_if_ge (tgt := 54) (u := z_23.toInt) E dX10_bid_48 (by decide) rfl (fun h_25 => ?_) (fun h_25 => ?_)
        ·
          refine s_aload_n E dX10_bid_54 rfl rfl ?_
          refine s_vV (As := []) (S := []) E (Z_X10_asItIs_95 l D aC b u_21  hj_24.1 ) cv_X10_279 rfl rfl rfl (jv_lt hj_24 (by decide)) (Nat.le_of_ble_eq_true rfl) (Nat.le_of_ble_eq_true rfl) ⟨(Nat.le_of_ble_eq_true rfl), (Nat.le_of_ble_eq_true rfl)⟩ (Nat.le_of_ble_eq_true rfl) dX10_bid_55 (fun u_26 hp_27 => ?_)
          have hj_28 := jv_trans hj_24 hp_27
          refine s_aload_n E dX10_bid_58 rfl rfl ?_
          refine s_iload_n E dX10_bid_59 rfl rfl ?_
          refine s_aload_n E dX10_bid_60 rfl rfl ?_
          refine s_vI (As := []) (S := [AI x1, AR 95]) E (Z_X10_dances_95 l D aC b u_26  hj_28.1 ) cv_X10_247 rfl rfl rfl (jv_lt hj_28 (by decide)) (Nat.le_of_ble_eq_true rfl) (Nat.le_of_ble_eq_true rfl) ⟨(Nat.le_of_ble_eq_true rfl), (Nat.le_of_ble_eq_true rfl)⟩ (Nat.le_of_ble_eq_true rfl) dX10_bid_61 (fun z_31 u_29 hp_30 => ?_)
          obtain ⟨hz_31, hxz_31, hp_30⟩ := hp_30
          subst hp_30
          refine s_vI (As := [AI x1, AI z_31]) (S := []) E (Z_X10_atOf_95 l D aC b u_26 x1 z_31 hj_28.1 ⟨by have hb_ := z32 x1; omega, by have hb_ := z32 x1; omega⟩ ⟨by have hb_ := z32 z_31; omega, by have hb_ := z32 z_31; omega⟩) cv_X10_255 rfl rfl rfl (jv_lt hj_28 (by decide)) (Nat.le_of_ble_eq_true rfl) (Nat.le_of_ble_eq_true rfl) ⟨(Nat.le_of_ble_eq_true rfl), (Nat.le_of_ble_eq_true rfl)⟩ (Nat.le_of_ble_eq_true rfl) dX10_bid_64 (fun z_35 u_33 hp_34 => ?_)
          obtain ⟨hz_35, hxz_35, hp_34⟩ := hp_34
          subst hp_34
          exact r_int E dX10_bid_67 ⟨⟨by have hb_ := z32 z_35; omega, by have hb_ := z32 z_35; omega, by first | (right; decide) | (have hb_ := z32 z_35; omega) | (have hb_ := z32 z_35; have hc_ := z32 x1; omega), by first | (right; decide) | (have hb_ := z32 z_35; omega) | (have hb_ := z32 z_35; have hc_ := z32 x2; omega), by first | (right; decide) | (have hb_ := z32 z_35; omega) | (have hb_ := z32 z_35; have hc_ := z32 x3; omega), by first | (right; decide) | (have hb_ := z32 z_35; omega) | (have hb_ := z32 z_35; have hc_ := z32 (w.2.2.1 96 5); omega), by first | (right; decide) | (have hb_ := z32 z_35; omega) | (have hb_ := z32 z_35; have hc_ := z32 (w.2.2.1 96 0); omega), by first | (right; decide) | (have hb_ := z32 z_35; omega) | (have hb_ := z32 z_35; have hc_ := z32 (w.2.2.1 96 5); omega)⟩, hj_28⟩
        ·
          refine s_bipush (v := (-5)) E dX10_bid_51 (by decide) ?_
          exact r_int E dX10_bid_53 ⟨⟨by decide, by decide, by first | (left; decide) | (right; decide) | (right; have hb_ := z32 x1; omega), by first | (left; decide) | (right; decide) | (right; have hb_ := z32 x2; omega), by first | (left; decide) | (right; decide) | (right; have hb_ := z32 x3; omega), by first | (left; decide) | (right; decide) | (right; have hb_ := z32 (w.2.2.1 96 5); omega), by first | (left; decide) | (right; decide) | (right; have hb_ := z32 (w.2.2.1 96 0); omega), by first | (left; decide) | (right; decide) | (right; have hb_ := z32 (w.2.2.1 96 5); omega)⟩, hj_24⟩
      ·
        refine s_bipush (v := (-2)) E dX10_bid_29 (by decide) ?_
        exact r_int E dX10_bid_31 ⟨⟨by decide, by decide, by first | (left; decide) | (right; decide) | (right; have hb_ := z32 x1; omega), by first | (left; decide) | (right; decide) | (right; have hb_ := z32 x2; omega), by first | (left; decide) | (right; decide) | (right; have hb_ := z32 x3; omega), by first | (left; decide) | (right; decide) | (right; have hb_ := z32 (w.2.2.1 96 5); omega), by first | (left; decide) | (right; decide) | (right; have hb_ := z32 (w.2.2.1 96 0); omega), by first | (left; decide) | (right; decide) | (right; have hb_ := z32 (w.2.2.1 96 5); omega)⟩, hJ⟩
